section
-- ===== PART A: goes FIRST, ahead of the names: the tables' words, and 'selects' of the private methods out of them =====
/-- a private method of a class that the tables say can be made, by its rows of tables_1 -/
def lw_okq (q : MethodName × Nat) : Prop := (q.1.cls ≠ "java/lang/invoke/MethodHandle" ∧ q.1.cls ≠ "java/lang/invoke/VarHandle") ∧ Cond.instantiable q.1.cls q.2 ∈ tables_1 ∧ Cond.privateMethod q.1 ∈ tables_1 ∧ Cond.instanceMethod q.1 ∈ tables_1
theorem lw_p0 : lw_okq (⟨"LanternWalk", "tellOfAll", "(I)I"⟩, 3) := ⟨⟨by decide +kernel, by decide +kernel⟩, List.mem_of_getElem? (i := 15) (by decide +kernel), List.mem_of_getElem? (i := 185) (by decide +kernel), List.mem_of_getElem? (i := 186) (by decide +kernel)⟩
theorem lw_p1 : lw_okq (⟨"LanternWalk", "tellOfStretch", "(II)I"⟩, 3) := ⟨⟨by decide +kernel, by decide +kernel⟩, List.mem_of_getElem? (i := 15) (by decide +kernel), List.mem_of_getElem? (i := 202) (by decide +kernel), List.mem_of_getElem? (i := 203) (by decide +kernel)⟩
theorem lw_p2 : lw_okq (⟨"LanternWalk", "digestOfWalker", "(JI)J"⟩, 3) := ⟨⟨by decide +kernel, by decide +kernel⟩, List.mem_of_getElem? (i := 15) (by decide +kernel), List.mem_of_getElem? (i := 214) (by decide +kernel), List.mem_of_getElem? (i := 215) (by decide +kernel)⟩
theorem lw_p3 : lw_okq (⟨"LanternWalk", "tellOfWalker", "(II)I"⟩, 3) := ⟨⟨by decide +kernel, by decide +kernel⟩, List.mem_of_getElem? (i := 15) (by decide +kernel), List.mem_of_getElem? (i := 218) (by decide +kernel), List.mem_of_getElem? (i := 219) (by decide +kernel)⟩
theorem lw_p4 : lw_okq (⟨"LanternWalk$Parade", "areNeighbours", "(II)Z"⟩, 17) := ⟨⟨by decide +kernel, by decide +kernel⟩, List.mem_of_getElem? (i := 85) (by decide +kernel), List.mem_of_getElem? (i := 226) (by decide +kernel), List.mem_of_getElem? (i := 227) (by decide +kernel)⟩
theorem lw_p5 : lw_okq (⟨"java/lang/Throwable", "fillInStackTrace", "(I)Ljava/lang/Throwable;"⟩, 6) := ⟨⟨by decide +kernel, by decide +kernel⟩, List.mem_of_getElem? (i := 280) (by decide +kernel), List.mem_of_getElem? (i := 278) (by decide +kernel), List.mem_of_getElem? (i := 279) (by decide +kernel)⟩
theorem lw_p6 : lw_okq (⟨"LanternWalk$Parade", "knowersOfVersion", "(II)I"⟩, 17) := ⟨⟨by decide +kernel, by decide +kernel⟩, List.mem_of_getElem? (i := 85) (by decide +kernel), List.mem_of_getElem? (i := 463) (by decide +kernel), List.mem_of_getElem? (i := 464) (by decide +kernel)⟩
theorem lw_p7 : lw_okq (⟨"LanternWalk$Parade", "burnDown", "(I)V"⟩, 17) := ⟨⟨by decide +kernel, by decide +kernel⟩, List.mem_of_getElem? (i := 85) (by decide +kernel), List.mem_of_getElem? (i := 491) (by decide +kernel), List.mem_of_getElem? (i := 492) (by decide +kernel)⟩
theorem lw_p8 : lw_okq (⟨"LanternWalk$Parade", "blowOut", "(I)V"⟩, 17) := ⟨⟨by decide +kernel, by decide +kernel⟩, List.mem_of_getElem? (i := 85) (by decide +kernel), List.mem_of_getElem? (i := 498) (by decide +kernel), List.mem_of_getElem? (i := 499) (by decide +kernel)⟩
theorem lw_p9 : lw_okq (⟨"LanternWalk$Parade", "lightEachOther", "()V"⟩, 17) := ⟨⟨by decide +kernel, by decide +kernel⟩, List.mem_of_getElem? (i := 85) (by decide +kernel), List.mem_of_getElem? (i := 503) (by decide +kernel), List.mem_of_getElem? (i := 504) (by decide +kernel)⟩
theorem lw_p10 : lw_okq (⟨"LanternWalk$Parade", "isBesideBurning", "(I)Z"⟩, 17) := ⟨⟨by decide +kernel, by decide +kernel⟩, List.mem_of_getElem? (i := 85) (by decide +kernel), List.mem_of_getElem? (i := 510) (by decide +kernel), List.mem_of_getElem? (i := 511) (by decide +kernel)⟩
theorem lw_p11 : lw_okq (⟨"LanternWalk$Parade", "singToEachOther", "()V"⟩, 17) := ⟨⟨by decide +kernel, by decide +kernel⟩, List.mem_of_getElem? (i := 85) (by decide +kernel), List.mem_of_getElem? (i := 514) (by decide +kernel), List.mem_of_getElem? (i := 515) (by decide +kernel)⟩
theorem lw_p12 : lw_okq (⟨"LanternWalk$Parade", "listenAround", "(I)V"⟩, 17) := ⟨⟨by decide +kernel, by decide +kernel⟩, List.mem_of_getElem? (i := 85) (by decide +kernel), List.mem_of_getElem? (i := 525) (by decide +kernel), List.mem_of_getElem? (i := 526) (by decide +kernel)⟩
theorem lw_p13 : lw_okq (⟨"LanternWalk$Parade", "listenTo", "(II)V"⟩, 17) := ⟨⟨by decide +kernel, by decide +kernel⟩, List.mem_of_getElem? (i := 85) (by decide +kernel), List.mem_of_getElem? (i := 529) (by decide +kernel), List.mem_of_getElem? (i := 530) (by decide +kernel)⟩
theorem lw_p14 : lw_okq (⟨"LanternWalk$Parade", "goOn", "()V"⟩, 17) := ⟨⟨by decide +kernel, by decide +kernel⟩, List.mem_of_getElem? (i := 85) (by decide +kernel), List.mem_of_getElem? (i := 533) (by decide +kernel), List.mem_of_getElem? (i := 534) (by decide +kernel)⟩
theorem lw_p15 : lw_okq (⟨"LanternWalk$Parade", "foremostToGo", "()I"⟩, 17) := ⟨⟨by decide +kernel, by decide +kernel⟩, List.mem_of_getElem? (i := 85) (by decide +kernel), List.mem_of_getElem? (i := 538) (by decide +kernel), List.mem_of_getElem? (i := 539) (by decide +kernel)⟩
def lw_privs_1 : List (MethodName × Nat) := [(⟨"LanternWalk", "tellOfAll", "(I)I"⟩, 3), (⟨"LanternWalk", "tellOfStretch", "(II)I"⟩, 3), (⟨"LanternWalk", "digestOfWalker", "(JI)J"⟩, 3), (⟨"LanternWalk", "tellOfWalker", "(II)I"⟩, 3), (⟨"LanternWalk$Parade", "areNeighbours", "(II)Z"⟩, 17), (⟨"java/lang/Throwable", "fillInStackTrace", "(I)Ljava/lang/Throwable;"⟩, 6), (⟨"LanternWalk$Parade", "knowersOfVersion", "(II)I"⟩, 17), (⟨"LanternWalk$Parade", "burnDown", "(I)V"⟩, 17), (⟨"LanternWalk$Parade", "blowOut", "(I)V"⟩, 17), (⟨"LanternWalk$Parade", "lightEachOther", "()V"⟩, 17), (⟨"LanternWalk$Parade", "isBesideBurning", "(I)Z"⟩, 17), (⟨"LanternWalk$Parade", "singToEachOther", "()V"⟩, 17), (⟨"LanternWalk$Parade", "listenAround", "(I)V"⟩, 17), (⟨"LanternWalk$Parade", "listenTo", "(II)V"⟩, 17), (⟨"LanternWalk$Parade", "goOn", "()V"⟩, 17), (⟨"LanternWalk$Parade", "foremostToGo", "()I"⟩, 17)]
theorem lw_r1 : ∀ q ∈ lw_privs_1, lw_okq q := List.forall_mem_cons.mpr ⟨lw_p0, List.forall_mem_cons.mpr ⟨lw_p1, List.forall_mem_cons.mpr ⟨lw_p2, List.forall_mem_cons.mpr ⟨lw_p3, List.forall_mem_cons.mpr ⟨lw_p4, List.forall_mem_cons.mpr ⟨lw_p5, List.forall_mem_cons.mpr ⟨lw_p6, List.forall_mem_cons.mpr ⟨lw_p7, List.forall_mem_cons.mpr ⟨lw_p8, List.forall_mem_cons.mpr ⟨lw_p9, List.forall_mem_cons.mpr ⟨lw_p10, List.forall_mem_cons.mpr ⟨lw_p11, List.forall_mem_cons.mpr ⟨lw_p12, List.forall_mem_cons.mpr ⟨lw_p13, List.forall_mem_cons.mpr ⟨lw_p14, List.forall_mem_cons.mpr ⟨lw_p15, fun _ h => absurd h List.not_mem_nil⟩⟩⟩⟩⟩⟩⟩⟩⟩⟩⟩⟩⟩⟩⟩⟩
theorem lw_p16 : lw_okq (⟨"LanternWalk$Parade", "walkOn", "(I)V"⟩, 17) := ⟨⟨by decide +kernel, by decide +kernel⟩, List.mem_of_getElem? (i := 85) (by decide +kernel), List.mem_of_getElem? (i := 542) (by decide +kernel), List.mem_of_getElem? (i := 543) (by decide +kernel)⟩
theorem lw_p17 : lw_okq (⟨"LanternWalk$Parade", "goOnePlace", "(I)Z"⟩, 17) := ⟨⟨by decide +kernel, by decide +kernel⟩, List.mem_of_getElem? (i := 85) (by decide +kernel), List.mem_of_getElem? (i := 546) (by decide +kernel), List.mem_of_getElem? (i := 547) (by decide +kernel)⟩
theorem lw_p18 : lw_okq (⟨"LanternWalk$Parade", "walkersAt", "(I)I"⟩, 17) := ⟨⟨by decide +kernel, by decide +kernel⟩, List.mem_of_getElem? (i := 85) (by decide +kernel), List.mem_of_getElem? (i := 550) (by decide +kernel), List.mem_of_getElem? (i := 551) (by decide +kernel)⟩
theorem lw_p19 : lw_okq (⟨"LanternWalk$Parade", "passCorner", "(I)Z"⟩, 17) := ⟨⟨by decide +kernel, by decide +kernel⟩, List.mem_of_getElem? (i := 85) (by decide +kernel), List.mem_of_getElem? (i := 558) (by decide +kernel), List.mem_of_getElem? (i := 559) (by decide +kernel)⟩
theorem lw_p20 : lw_okq (⟨"LanternWalk$Parade", "comeHome", "(I)V"⟩, 17) := ⟨⟨by decide +kernel, by decide +kernel⟩, List.mem_of_getElem? (i := 85) (by decide +kernel), List.mem_of_getElem? (i := 562) (by decide +kernel), List.mem_of_getElem? (i := 563) (by decide +kernel)⟩
theorem lw_p21 : lw_okq (⟨"LanternWalk$Parade", "start", "()V"⟩, 17) := ⟨⟨by decide +kernel, by decide +kernel⟩, List.mem_of_getElem? (i := 85) (by decide +kernel), List.mem_of_getElem? (i := 566) (by decide +kernel), List.mem_of_getElem? (i := 567) (by decide +kernel)⟩
theorem lw_p22 : lw_okq (⟨"LanternWalkModel", "fail", "(I)I"⟩, 16) := ⟨⟨by decide +kernel, by decide +kernel⟩, List.mem_of_getElem? (i := 620) (by decide +kernel), List.mem_of_getElem? (i := 686) (by decide +kernel), List.mem_of_getElem? (i := 687) (by decide +kernel)⟩
theorem lw_p23 : lw_okq (⟨"LanternWalkModel", "places", "()I"⟩, 16) := ⟨⟨by decide +kernel, by decide +kernel⟩, List.mem_of_getElem? (i := 620) (by decide +kernel), List.mem_of_getElem? (i := 690) (by decide +kernel), List.mem_of_getElem? (i := 691) (by decide +kernel)⟩
theorem lw_p24 : lw_okq (⟨"LanternWalkModel", "ro", "(II)I"⟩, 16) := ⟨⟨by decide +kernel, by decide +kernel⟩, List.mem_of_getElem? (i := 620) (by decide +kernel), List.mem_of_getElem? (i := 694) (by decide +kernel), List.mem_of_getElem? (i := 695) (by decide +kernel)⟩
theorem lw_p25 : lw_okq (⟨"LanternWalkModel", "isStretch", "(I)Z"⟩, 16) := ⟨⟨by decide +kernel, by decide +kernel⟩, List.mem_of_getElem? (i := 620) (by decide +kernel), List.mem_of_getElem? (i := 703) (by decide +kernel), List.mem_of_getElem? (i := 704) (by decide +kernel)⟩
theorem lw_p26 : lw_okq (⟨"LanternWalkModel", "isWalker", "(I)Z"⟩, 16) := ⟨⟨by decide +kernel, by decide +kernel⟩, List.mem_of_getElem? (i := 620) (by decide +kernel), List.mem_of_getElem? (i := 719) (by decide +kernel), List.mem_of_getElem? (i := 720) (by decide +kernel)⟩
theorem lw_p27 : lw_okq (⟨"LanternWalkModel", "pe", "(II)I"⟩, 16) := ⟨⟨by decide +kernel, by decide +kernel⟩, List.mem_of_getElem? (i := 620) (by decide +kernel), List.mem_of_getElem? (i := 723) (by decide +kernel), List.mem_of_getElem? (i := 724) (by decide +kernel)⟩
theorem lw_p28 : lw_okq (⟨"LanternWalkModel", "set", "(III)V"⟩, 16) := ⟨⟨by decide +kernel, by decide +kernel⟩, List.mem_of_getElem? (i := 620) (by decide +kernel), List.mem_of_getElem? (i := 728) (by decide +kernel), List.mem_of_getElem? (i := 729) (by decide +kernel)⟩
theorem lw_p29 : lw_okq (⟨"LanternWalkModel", "isSong", "(I)Z"⟩, 16) := ⟨⟨by decide +kernel, by decide +kernel⟩, List.mem_of_getElem? (i := 620) (by decide +kernel), List.mem_of_getElem? (i := 740) (by decide +kernel), List.mem_of_getElem? (i := 741) (by decide +kernel)⟩
theorem lw_p30 : lw_okq (⟨"LanternWalkModel", "stretchTold", "(II)I"⟩, 16) := ⟨⟨by decide +kernel, by decide +kernel⟩, List.mem_of_getElem? (i := 620) (by decide +kernel), List.mem_of_getElem? (i := 748) (by decide +kernel), List.mem_of_getElem? (i := 749) (by decide +kernel)⟩
theorem lw_p31 : lw_okq (⟨"LanternWalkModel", "lets", "(I)I"⟩, 16) := ⟨⟨by decide +kernel, by decide +kernel⟩, List.mem_of_getElem? (i := 620) (by decide +kernel), List.mem_of_getElem? (i := 752) (by decide +kernel), List.mem_of_getElem? (i := 753) (by decide +kernel)⟩
def lw_privs_2 : List (MethodName × Nat) := [(⟨"LanternWalk$Parade", "walkOn", "(I)V"⟩, 17), (⟨"LanternWalk$Parade", "goOnePlace", "(I)Z"⟩, 17), (⟨"LanternWalk$Parade", "walkersAt", "(I)I"⟩, 17), (⟨"LanternWalk$Parade", "passCorner", "(I)Z"⟩, 17), (⟨"LanternWalk$Parade", "comeHome", "(I)V"⟩, 17), (⟨"LanternWalk$Parade", "start", "()V"⟩, 17), (⟨"LanternWalkModel", "fail", "(I)I"⟩, 16), (⟨"LanternWalkModel", "places", "()I"⟩, 16), (⟨"LanternWalkModel", "ro", "(II)I"⟩, 16), (⟨"LanternWalkModel", "isStretch", "(I)Z"⟩, 16), (⟨"LanternWalkModel", "isWalker", "(I)Z"⟩, 16), (⟨"LanternWalkModel", "pe", "(II)I"⟩, 16), (⟨"LanternWalkModel", "set", "(III)V"⟩, 16), (⟨"LanternWalkModel", "isSong", "(I)Z"⟩, 16), (⟨"LanternWalkModel", "stretchTold", "(II)I"⟩, 16), (⟨"LanternWalkModel", "lets", "(I)I"⟩, 16)]
theorem lw_r2 : ∀ q ∈ lw_privs_2, lw_okq q := List.forall_mem_cons.mpr ⟨lw_p16, List.forall_mem_cons.mpr ⟨lw_p17, List.forall_mem_cons.mpr ⟨lw_p18, List.forall_mem_cons.mpr ⟨lw_p19, List.forall_mem_cons.mpr ⟨lw_p20, List.forall_mem_cons.mpr ⟨lw_p21, List.forall_mem_cons.mpr ⟨lw_p22, List.forall_mem_cons.mpr ⟨lw_p23, List.forall_mem_cons.mpr ⟨lw_p24, List.forall_mem_cons.mpr ⟨lw_p25, List.forall_mem_cons.mpr ⟨lw_p26, List.forall_mem_cons.mpr ⟨lw_p27, List.forall_mem_cons.mpr ⟨lw_p28, List.forall_mem_cons.mpr ⟨lw_p29, List.forall_mem_cons.mpr ⟨lw_p30, List.forall_mem_cons.mpr ⟨lw_p31, fun _ h => absurd h List.not_mem_nil⟩⟩⟩⟩⟩⟩⟩⟩⟩⟩⟩⟩⟩⟩⟩⟩
theorem lw_p32 : lw_okq (⟨"LanternWalkModel", "walks", "(I)Z"⟩, 16) := ⟨⟨by decide +kernel, by decide +kernel⟩, List.mem_of_getElem? (i := 620) (by decide +kernel), List.mem_of_getElem? (i := 756) (by decide +kernel), List.mem_of_getElem? (i := 757) (by decide +kernel)⟩
theorem lw_p33 : lw_okq (⟨"LanternWalkModel", "stretchOf", "(I)I"⟩, 16) := ⟨⟨by decide +kernel, by decide +kernel⟩, List.mem_of_getElem? (i := 620) (by decide +kernel), List.mem_of_getElem? (i := 760) (by decide +kernel), List.mem_of_getElem? (i := 761) (by decide +kernel)⟩
theorem lw_p34 : lw_okq (⟨"LanternWalkModel", "walkerTold", "(II)I"⟩, 16) := ⟨⟨by decide +kernel, by decide +kernel⟩, List.mem_of_getElem? (i := 620) (by decide +kernel), List.mem_of_getElem? (i := 768) (by decide +kernel), List.mem_of_getElem? (i := 769) (by decide +kernel)⟩
theorem lw_p35 : lw_okq (⟨"LanternWalkModel", "neighbours", "(I)I"⟩, 16) := ⟨⟨by decide +kernel, by decide +kernel⟩, List.mem_of_getElem? (i := 620) (by decide +kernel), List.mem_of_getElem? (i := 772) (by decide +kernel), List.mem_of_getElem? (i := 773) (by decide +kernel)⟩
theorem lw_p36 : lw_okq (⟨"LanternWalkModel", "isNeighbour", "(II)Z"⟩, 16) := ⟨⟨by decide +kernel, by decide +kernel⟩, List.mem_of_getElem? (i := 620) (by decide +kernel), List.mem_of_getElem? (i := 776) (by decide +kernel), List.mem_of_getElem? (i := 777) (by decide +kernel)⟩
theorem lw_p37 : lw_okq (⟨"LanternWalkModel", "songTold", "(II)I"⟩, 16) := ⟨⟨by decide +kernel, by decide +kernel⟩, List.mem_of_getElem? (i := 620) (by decide +kernel), List.mem_of_getElem? (i := 791) (by decide +kernel), List.mem_of_getElem? (i := 792) (by decide +kernel)⟩
theorem lw_p38 : lw_okq (⟨"LanternWalkModel", "with", "(II)I"⟩, 16) := ⟨⟨by decide +kernel, by decide +kernel⟩, List.mem_of_getElem? (i := 620) (by decide +kernel), List.mem_of_getElem? (i := 795) (by decide +kernel), List.mem_of_getElem? (i := 796) (by decide +kernel)⟩
theorem lw_p39 : lw_okq (⟨"LanternWalkModel", "stepOn", "()I"⟩, 16) := ⟨⟨by decide +kernel, by decide +kernel⟩, List.mem_of_getElem? (i := 620) (by decide +kernel), List.mem_of_getElem? (i := 803) (by decide +kernel), List.mem_of_getElem? (i := 804) (by decide +kernel)⟩
theorem lw_p40 : lw_okq (⟨"LanternWalkModel", "inState", "(I)I"⟩, 16) := ⟨⟨by decide +kernel, by decide +kernel⟩, List.mem_of_getElem? (i := 620) (by decide +kernel), List.mem_of_getElem? (i := 807) (by decide +kernel), List.mem_of_getElem? (i := 808) (by decide +kernel)⟩
theorem lw_p41 : lw_okq (⟨"LanternWalkModel", "burn", "(I)V"⟩, 16) := ⟨⟨by decide +kernel, by decide +kernel⟩, List.mem_of_getElem? (i := 620) (by decide +kernel), List.mem_of_getElem? (i := 811) (by decide +kernel), List.mem_of_getElem? (i := 812) (by decide +kernel)⟩
theorem lw_p42 : lw_okq (⟨"LanternWalkModel", "sing", "()V"⟩, 16) := ⟨⟨by decide +kernel, by decide +kernel⟩, List.mem_of_getElem? (i := 620) (by decide +kernel), List.mem_of_getElem? (i := 816) (by decide +kernel), List.mem_of_getElem? (i := 817) (by decide +kernel)⟩
theorem lw_p43 : lw_okq (⟨"LanternWalkModel", "learnt", "(II)I"⟩, 16) := ⟨⟨by decide +kernel, by decide +kernel⟩, List.mem_of_getElem? (i := 620) (by decide +kernel), List.mem_of_getElem? (i := 820) (by decide +kernel), List.mem_of_getElem? (i := 821) (by decide +kernel)⟩
theorem lw_p44 : lw_okq (⟨"LanternWalkModel", "go", "(I)V"⟩, 16) := ⟨⟨by decide +kernel, by decide +kernel⟩, List.mem_of_getElem? (i := 620) (by decide +kernel), List.mem_of_getElem? (i := 824) (by decide +kernel), List.mem_of_getElem? (i := 825) (by decide +kernel)⟩
theorem lw_p45 : lw_okq (⟨"LanternWalkModel", "at", "(I)I"⟩, 16) := ⟨⟨by decide +kernel, by decide +kernel⟩, List.mem_of_getElem? (i := 620) (by decide +kernel), List.mem_of_getElem? (i := 828) (by decide +kernel), List.mem_of_getElem? (i := 829) (by decide +kernel)⟩
theorem lw_p46 : lw_okq (⟨"LanternWalkModel", "counted", "(I)I"⟩, 16) := ⟨⟨by decide +kernel, by decide +kernel⟩, List.mem_of_getElem? (i := 620) (by decide +kernel), List.mem_of_getElem? (i := 836) (by decide +kernel), List.mem_of_getElem? (i := 837) (by decide +kernel)⟩
theorem lw_p47 : lw_okq (⟨"LanternWalkModel", "burning", "()I"⟩, 16) := ⟨⟨by decide +kernel, by decide +kernel⟩, List.mem_of_getElem? (i := 620) (by decide +kernel), List.mem_of_getElem? (i := 840) (by decide +kernel), List.mem_of_getElem? (i := 841) (by decide +kernel)⟩
def lw_privs_3 : List (MethodName × Nat) := [(⟨"LanternWalkModel", "walks", "(I)Z"⟩, 16), (⟨"LanternWalkModel", "stretchOf", "(I)I"⟩, 16), (⟨"LanternWalkModel", "walkerTold", "(II)I"⟩, 16), (⟨"LanternWalkModel", "neighbours", "(I)I"⟩, 16), (⟨"LanternWalkModel", "isNeighbour", "(II)Z"⟩, 16), (⟨"LanternWalkModel", "songTold", "(II)I"⟩, 16), (⟨"LanternWalkModel", "with", "(II)I"⟩, 16), (⟨"LanternWalkModel", "stepOn", "()I"⟩, 16), (⟨"LanternWalkModel", "inState", "(I)I"⟩, 16), (⟨"LanternWalkModel", "burn", "(I)V"⟩, 16), (⟨"LanternWalkModel", "sing", "()V"⟩, 16), (⟨"LanternWalkModel", "learnt", "(II)I"⟩, 16), (⟨"LanternWalkModel", "go", "(I)V"⟩, 16), (⟨"LanternWalkModel", "at", "(I)I"⟩, 16), (⟨"LanternWalkModel", "counted", "(I)I"⟩, 16), (⟨"LanternWalkModel", "burning", "()I"⟩, 16)]
theorem lw_r3 : ∀ q ∈ lw_privs_3, lw_okq q := List.forall_mem_cons.mpr ⟨lw_p32, List.forall_mem_cons.mpr ⟨lw_p33, List.forall_mem_cons.mpr ⟨lw_p34, List.forall_mem_cons.mpr ⟨lw_p35, List.forall_mem_cons.mpr ⟨lw_p36, List.forall_mem_cons.mpr ⟨lw_p37, List.forall_mem_cons.mpr ⟨lw_p38, List.forall_mem_cons.mpr ⟨lw_p39, List.forall_mem_cons.mpr ⟨lw_p40, List.forall_mem_cons.mpr ⟨lw_p41, List.forall_mem_cons.mpr ⟨lw_p42, List.forall_mem_cons.mpr ⟨lw_p43, List.forall_mem_cons.mpr ⟨lw_p44, List.forall_mem_cons.mpr ⟨lw_p45, List.forall_mem_cons.mpr ⟨lw_p46, List.forall_mem_cons.mpr ⟨lw_p47, fun _ h => absurd h List.not_mem_nil⟩⟩⟩⟩⟩⟩⟩⟩⟩⟩⟩⟩⟩⟩⟩⟩
theorem lw_p48 : lw_okq (⟨"LanternWalkModel", "end", "(Z)I"⟩, 16) := ⟨⟨by decide +kernel, by decide +kernel⟩, List.mem_of_getElem? (i := 620) (by decide +kernel), List.mem_of_getElem? (i := 844) (by decide +kernel), List.mem_of_getElem? (i := 845) (by decide +kernel)⟩
theorem lw_p49 : lw_okq (⟨"LanternWalkModel", "kept", "()[[I"⟩, 16) := ⟨⟨by decide +kernel, by decide +kernel⟩, List.mem_of_getElem? (i := 620) (by decide +kernel), List.mem_of_getElem? (i := 852) (by decide +kernel), List.mem_of_getElem? (i := 853) (by decide +kernel)⟩
theorem lw_p50 : lw_okq (⟨"LanternWalkModel", "pairs", "()I"⟩, 16) := ⟨⟨by decide +kernel, by decide +kernel⟩, List.mem_of_getElem? (i := 620) (by decide +kernel), List.mem_of_getElem? (i := 864) (by decide +kernel), List.mem_of_getElem? (i := 865) (by decide +kernel)⟩
theorem lw_p51 : lw_okq (⟨"LanternWalkModel", "bringBack", "([[I)V"⟩, 16) := ⟨⟨by decide +kernel, by decide +kernel⟩, List.mem_of_getElem? (i := 620) (by decide +kernel), List.mem_of_getElem? (i := 868) (by decide +kernel), List.mem_of_getElem? (i := 869) (by decide +kernel)⟩
def lw_privs_4 : List (MethodName × Nat) := [(⟨"LanternWalkModel", "end", "(Z)I"⟩, 16), (⟨"LanternWalkModel", "kept", "()[[I"⟩, 16), (⟨"LanternWalkModel", "pairs", "()I"⟩, 16), (⟨"LanternWalkModel", "bringBack", "([[I)V"⟩, 16)]
theorem lw_r4 : ∀ q ∈ lw_privs_4, lw_okq q := List.forall_mem_cons.mpr ⟨lw_p48, List.forall_mem_cons.mpr ⟨lw_p49, List.forall_mem_cons.mpr ⟨lw_p50, List.forall_mem_cons.mpr ⟨lw_p51, fun _ h => absurd h List.not_mem_nil⟩⟩⟩⟩
def lw_privs : List (MethodName × Nat) := lw_privs_1 ++ (lw_privs_2 ++ (lw_privs_3 ++ (lw_privs_4)))
def lw_tbl : List Cond := k2_sels lw_privs ++ tables_1
theorem lw_privs_ok : ∀ q ∈ lw_privs, lw_okq q := by
  show ∀ q ∈ lw_privs_1 ++ (lw_privs_2 ++ (lw_privs_3 ++ (lw_privs_4))), lw_okq q
  exact List.forall_mem_append.mpr ⟨lw_r1, List.forall_mem_append.mpr ⟨lw_r2, List.forall_mem_append.mpr ⟨lw_r3, lw_r4⟩⟩⟩
/-- the streams that the claim lets the run draw from -/
abbrev lw_cs : List Choice := [Jvm.Choice.named "NaN.bits"]
theorem lw_bits : nanBits ∈ lw_cs := by first | decide | exact List.mem_cons_self | simp [lw_cs, nanBits]
-- ===== end of PART A; then your names; then what follows =====
end
section
/-! ===== BEGIN words of one list among another's, by their places ===== -/
theorem goodIn_r {big : List Cond} (ws : List Cond) (ps : List Nat) (hp : ws = ps.filterMap (fun i => big[i]?)) (h : ws.all goodWord = true) : GoodIn big ws := by
  intro w hw
  have h1 := List.all_eq_true.mp h w hw
  rw [hp] at hw
  obtain ⟨i, -, hi⟩ := List.mem_filterMap.mp hw
  have hm : w ∈ big := by first | exact List.mem_of_getElem? hi | exact List.getElem?_mem hi
  exact ⟨hm, good_of_word h1⟩
theorem goodIn_app {big a b : List Cond} (ha : GoodIn big a) (hb : GoodIn big b) : GoodIn big (a ++ b) := fun w h => (List.mem_append.mp h).elim (ha w) (hb w)
theorem goodIn_ca {big a b : List Cond} {c : Cond} (ha : GoodIn big (c :: a)) (hb : GoodIn big b) : GoodIn big (c :: (a ++ b)) := fun w h => (List.mem_cons.mp h).elim (fun e => ha w (List.mem_cons.mpr (Or.inl e))) (fun h => (List.mem_append.mp h).elim (fun h => ha w (List.mem_cons.mpr (Or.inr h))) (hb w))
theorem goodIn_sub {big ws : List Cond} (hm : ∀ w ∈ ws, w ∈ big) (h : ws.all goodWord = true) : GoodIn big ws := fun w hw => ⟨hm w hw, good_of_word (List.all_eq_true.mp h w hw)⟩
/-! ===== END ===== -/

/-! ===== BEGIN exceptions that leave a method, and their catching by the caller (launches without stack traces) ===== -/
section VXA
/-! The laws vx_back, vx_callV, vx_callS, vx_callSW, vx_throw0, vx_throwS follow proofs of the library, with one case more: JvmDerived/Free/Laws.lean (Back.of_free), Shelf42/LK1.lean (callV, callS), Shelf/KitTraced.lean (throwNew0V, throwNewS). -/
/-- where a method has thrown q: the class by its name, the cell, what was written, the world -/
def vx_T (XC : String → State → State → Prop) (st : State) (q : Addr) (t : State) (mc ms : Nat) (free : Addr → Prop) : Prop :=
  ∃ (E : String) (ce : Cell) (L : List Loc), XC E st t ∧ t.heap[q]? = some ce ∧ ce.vm = .none ∧ st.vm.findClass E = some ce.cls ∧ st.WarmedH t.vm ∧ st.sameButNew ({ t with vm := st.vm } : State) L mc ms ∧ ∀ z ∈ L, free z.base
def vx_Q (Qc : Array Value → State → Outcome → State → Prop) (XC : String → State → State → Prop) (mc ms : Nat) (free : Addr → Prop) : Array Value → State → Outcome → State → Prop := fun a st o t =>
  (Qc a st o t ∧ ∃ L, FrameEnd st o t L mc ms ∧ ∀ q ∈ L, free q.base) ∨ ∃ q, o = .threw q ∧ vx_T XC st q t mc ms free
/-- a callee that returns or throws -/
def vx_Met (l : Launch) (y : MethodName) (ws : List Cond) (rm : Room) (Pc : Array Value → State → Prop) (Qc : Array Value → State → Outcome → State → Prop) (XC : String → State → State → Prop) (mc ms : Nat) (free : Addr → Prop) : Prop :=
  MetFree l y (headSpec ws rm) Pc (fun _ _ _ _ _ => True) (vx_Q Qc XC mc ms free)
def vx_Post (XC : String → State → State → Prop) (mc ms : Nat) (free : Addr → Prop) : Pt → Array Value → Addr → Pt → Prop := fun A a q B =>
  ∃ (g : JFrame) (mk : MethodId) (t : State) (L : List Loc) (E : String) (ce : Cell), B.U.heap = t.heap ∧ B.U.vm = t.vm ∧ XC E (A.U.calling g mk a) t ∧ t.heap[q]? = some ce ∧ ce.vm = .none ∧ A.U.vm.findClass E = some ce.cls ∧ B.locs = A.locs ++ L ∧ (∀ z ∈ L, free z.base) ∧ B.cells = A.cells + mc ∧ B.slots = A.slots + ms
def vx_Back (l : Launch) (R : Room) (p : Program) (e : Env) (below : List Frame) (s : State) (sargs : Array Value) (y : MethodName) (len W9 : Nat)
    (Pre : Pt → Array Value → Prop) (Post : Pt → Array Value → Option Value → Pt → Prop) (PostX : Pt → Array Value → Addr → Pt → Prop) : Prop :=
  ∀ (m : MethodId) (meth : Method) (c : Code) (A : Pt) (g : JFrame) (ig : Instr) (mk : MethodId) (a : Array Value),
    Stand p l e R s m sargs below meth c A.U A.locs A.cells A.slots → g.method = m → g.locals.size = c.maxLocals → decode c.code g.pc = .ok (ig, len) →
    2 * g.monitorRoom + (g.stack.map fun v => v.category).sum ≤ W9 → A.U.methodNamed? y = some mk → Pre A a →
    (∃ (v : Option Value) (B : Pt), Stand p l e R s m sargs below meth c B.U B.locs B.cells B.slots ∧ Post A a v B ∧
      Steps p.tables e below (doInvoke e (A.U.setTop g) [] mk a).1 (B.U.setTop { g with pc := g.pc + len, stack := v.toList ++ g.stack })) ∨
    (∃ (q : Addr) (B : Pt), Stand p l e R s m sargs below meth c B.U B.locs B.cells B.slots ∧ PostX A a q B ∧
      Steps p.tables e below (doInvoke e (A.U.setTop g) [] mk a).1 ((B.U.setTop g).pushFrame (.throwing q)))
section Payer
variable {l : Launch} {R : Room} {p : Program} {e : Env} {below : List Frame} {s : State} {sargs : Array Value} {y : MethodName} {len W9 : Nat}
theorem vx_back {ws : List Cond} {rm : Room} {Pc : Array Value → State → Prop} {Qc : Array Value → State → Outcome → State → Prop} {XC : String → State → State → Prop} {mc ms : Nat} {free : Addr → Prop} {bytes : ByteArray} {maxL : Nat} {ret : Option FieldType}
    (hM : vx_Met l y ws rm Pc Qc XC mc ms free) (hblind : FrameBlind Pc) (hrc : rm.cells = mc) (hrs : rm.slots = ms)
    (hframes : rm.frames + 1 ≤ R.frames) (hlocals : W9 + (maxL + 11) + rm.locals ≤ R.locals)
    (hws : ∀ w ∈ ws, ∀ a' U, s.WarmedH U.vm → w.before a' U = true) (hcode : Cond.code y bytes maxL ret ∈ ws) (hinit : ∀ a' U, s.WarmedH U.vm → (Cond.initialized y.cls).before a' U = true) :
    vx_Back l R p e below s sargs y len W9 (PreOf R mc ms Pc) (PostOf Qc mc ms free) (vx_Post XC mc ms free) := by
  intro m meth c A g ig mk a X hg hsize hdg hW hn hp
  have h1 : (headSpec ws rm).pre.before a A.U = true := atoms_intro fun w hw => hws w hw _ _ X.warmed
  have h2 : (Cond.code y bytes maxL ret).before a A.U = true := hws _ hcode _ _ X.warmed
  have h3 : (Cond.initialized y.cls).before a A.U = true := hinit _ _ X.warmed
  have h4 : A.cells + (headSpec ws rm).room.cells ≤ R.cells := by rw [show (headSpec ws rm).room.cells = mc from hrc]; exact hp.1
  have h5 : A.slots + (headSpec ws rm).room.slots ≤ R.slots := by rw [show (headSpec ws rm).room.slots = ms from hrs]; exact hp.2.1
  have hPc : Pc a (A.U.calling g mk a) := hblind _ _ _ _ hp.2.2
  obtain ⟨U, Ls, c0, s0⟩ := A
  dsimp only [Pt.U, Pt.locs, Pt.cells, Pt.slots] at h1 h2 h3 h4 h5 X hn hPc ⊢
  obtain ⟨methY, cY, hmY, hcY, -, hlY, -, -, -, -⟩ := Cond.code_spec hn h2
  obtain ⟨kY, hkY, -⟩ := className_of_methodNamed hn
  have hinitY : kY.init = .initialized := Cond.initialized_spec (findClass_of_methodNamed hn) hkY h3
  have h : At U g.method c below := by rw [hg]; exact X.here
  have hlocals9 : W9 + (maxL + 11) + (headSpec ws rm).room.locals ≤ R.locals := hlocals
  have happ : (headSpec ws rm).appliesLoose y e.platform (U.calling g mk a) = true :=
    Spec.appliesLoose_calling (g := g) h hdg hn hkY hinitY
      (X.room_calling (g := g) (R' := (headSpec ws rm).room) hsize hmY hcY hframes (by rw [hlY]; omega) h4 h5) h1
  obtain ⟨mid, hmid⟩ := h.above
  have hfr : (U.setTop g).frames = (.java g :: mid) ++ below := by rw [State.frames_setTop' g h.top, hmid]; rfl
  obtain ⟨o, s₂, hsteps, -, hend, hq⟩ := Steps.callFree hM p X.admits X.cas X.clock (acts := []) hfr happ hPc trivial
  have hq' : vx_Q Qc XC mc ms free a (U.calling g mk a) o s₂ := hq
  rw [State.frames_setTop' g h.top] at hend
  obtain ⟨g₀, hg0⟩ := Option.isSome_iff_exists.mp h.top
  obtain ⟨r, hr⟩ := State.topJava?_eq_some.mp hg0
  have hr' : (({ U with heap := s₂.heap, slotsUsed := s₂.slotsUsed } : State).setVm s₂.vm).frames = .java g₀ :: r := hr
  rcases hq' with ⟨hqc, L, hfe, hL⟩ | ⟨q, rfl, E, ce, L, hx, hce, hcv, hcl, hW₂, hsm, hL⟩
  · obtain ⟨⟨v, rfl⟩, hW₂, e2, q2, q3, q4, q5, q6⟩ := id hfe
    have e3 : s₂ = ({ (U.calling g mk a).setFrames s₂.frames with heap := s₂.heap, slotsUsed := s₂.slotsUsed } : State).setVm s₂.vm := by
      have : s₂ = ({ s₂ with vm := (U.calling g mk a).vm } : State).setVm s₂.vm := rfl
      rw [e2] at this
      exact this
    obtain ⟨c₂, i₂, len₂, hc₂, hd₂, hf₂⟩ := hend
    have hW' : U.WarmedH s₂.vm := hW₂
    have hcc : c₂ = c := by
      have h1 : s₂.code? g.method = U.code? g.method := by
        rw [State.code?_eq, State.code?_eq, hW'.alike.method?]
      exact Option.some.inj (hc₂.symm.trans (h1.trans h.code))
    subst hcc
    have hlen : len₂ = len := by rw [hdg] at hd₂; cases hd₂; rfl
    subst hlen
    have hs₂ : s₂ = (({ U with heap := s₂.heap, slotsUsed := s₂.slotsUsed } : State).setVm s₂.vm).setTop { g with pc := g.pc + len₂, stack := v.toList ++ g.stack } := by
      refine e3.trans ?_
      rw [hf₂, State.calling_eq h.top, State.setFrames_setFrames, State.setTop_of_frames _ hr', hr]
      rfl
    have hsame : U.sameButNew ({ U with heap := s₂.heap, slotsUsed := s₂.slotsUsed } : State) L mc ms := by
      refine ⟨?_, q2, q3, q4, q5, q6⟩
      obtain ⟨t, ht, -⟩ := State.frames_cons hr
      show ({ U with heap := s₂.heap, slotsUsed := s₂.slotsUsed } : State) = { U.setFrames U.frames with heap := s₂.heap, slotsUsed := s₂.slotsUsed }
      rw [State.setFrames_self ht]
    subst hg
    refine Or.inl ⟨v, ⟨(({ U with heap := s₂.heap, slotsUsed := s₂.slotsUsed } : State).setVm s₂.vm), Ls ++ L, c0 + mc, s0 + ms⟩,
      ⟨X.admits, X.cas, X.clock, X.frames, X.room, X.hears, X.method, X.code, (X.here.setHeapUsed s₂.heap s₂.slotsUsed).setVm hW'.alike, X.tail, State.WarmedH.trans X.warmed hW', X.limits, X.bytes, X.same.trans (hsame.setVm s.vm)⟩,
      ⟨g, mk, s₂, L, rfl, rfl, hqc, rfl, hL, rfl, rfl⟩, ?_⟩
    show Steps p.tables e below _ ((({ U with heap := s₂.heap, slotsUsed := s₂.slotsUsed } : State).setVm s₂.vm).setTop { g with pc := g.pc + len₂, stack := v.toList ++ g.stack })
    rw [← hs₂]
    exact hsteps
  · obtain ⟨e2, q2, q3, q4, q5, q6⟩ := id hsm
    have e3 : s₂ = ({ (U.calling g mk a).setFrames s₂.frames with heap := s₂.heap, slotsUsed := s₂.slotsUsed } : State).setVm s₂.vm := by
      have : s₂ = ({ s₂ with vm := (U.calling g mk a).vm } : State).setVm s₂.vm := rfl
      rw [e2] at this
      exact this
    have hf₂ : s₂.frames = .throwing q :: .java g :: U.frames.tail := hend
    have hW' : U.WarmedH s₂.vm := hW₂
    have hs₂ : s₂ = ((({ U with heap := s₂.heap, slotsUsed := s₂.slotsUsed } : State).setVm s₂.vm).setTop g).pushFrame (.throwing q) := by
      refine e3.trans ?_
      rw [hf₂, State.calling_eq h.top, State.setFrames_setFrames, State.pushFrame, State.frames_setTop _ hr', State.setTop_of_frames _ hr', State.setFrames_setFrames, hr]
      rfl
    have hsame : U.sameButNew ({ U with heap := s₂.heap, slotsUsed := s₂.slotsUsed } : State) L mc ms := by
      refine ⟨?_, q2, q3, q4, q5, q6⟩
      obtain ⟨t, ht, -⟩ := State.frames_cons hr
      show ({ U with heap := s₂.heap, slotsUsed := s₂.slotsUsed } : State) = { U.setFrames U.frames with heap := s₂.heap, slotsUsed := s₂.slotsUsed }
      rw [State.setFrames_self ht]
    subst hg
    refine Or.inr ⟨q, ⟨(({ U with heap := s₂.heap, slotsUsed := s₂.slotsUsed } : State).setVm s₂.vm), Ls ++ L, c0 + mc, s0 + ms⟩,
      ⟨X.admits, X.cas, X.clock, X.frames, X.room, X.hears, X.method, X.code, (X.here.setHeapUsed s₂.heap s₂.slotsUsed).setVm hW'.alike, X.tail, State.WarmedH.trans X.warmed hW', X.limits, X.bytes, X.same.trans (hsame.setVm s.vm)⟩,
      ⟨g, mk, s₂, L, E, ce, rfl, rfl, hx, hce, hcv, hcl, rfl, hL, rfl, rfl⟩, ?_⟩
    show Steps p.tables e below _ (((({ U with heap := s₂.heap, slotsUsed := s₂.slotsUsed } : State).setVm s₂.vm).setTop g).pushFrame (.throwing q))
    rw [← hs₂]
    exact hsteps
end Payer
section Calls
variable {p : Program} {l : Launch} {e : Env} {R : Room} {s : State} {m : MethodId} {args : Array Value} {below : List Frame} {meth : Method} {c : Code} {T : State} {locs : List Loc} {cells slots : Nat}
theorem vx_callV (X : Stand p l e R s m args below meth c T locs cells slots) (hexec : p.tables.exec = Jvm.exec) {own C : String} {index : Nat} {y : MethodName} {bytes : ByteArray} {maxL : Nat} {ret : Option FieldType}
    (hown : s.vm.findClass own = some m.cls) (hlink : (Cond.methodLink own index y).before args s = true) (hinst : (Cond.instanceMethod y).before args s = true) (hsel : (Cond.selects C y y).before args s = true)
    (hcode : (Cond.code y bytes maxL ret).before args s = true) (hy : y.cls ≠ "java/lang/invoke/MethodHandle" ∧ y.cls ≠ "java/lang/invoke/VarHandle")
    {W9 : Nat} {Pre : Pt → Array Value → Prop} {Post : Pt → Array Value → Option Value → Pt → Prop} {PostX : Pt → Array Value → Addr → Pt → Prop} (hK : vx_Back l R p e below s args y 3 W9 Pre Post PostX)
    {b : Addr} {cellB : Cell} (hcell : T.heap[b]? = some cellB) (hobj : cellB.vm.isStatics = false) (hcls : s.vm.findClass C = some cellB.cls)
    {g : JFrame} (hg : g.method = m) (hsize : g.locals.size = c.maxLocals) {argsL rest : List Value} (hlen : ∀ sig, parseMethodDescriptor y.desc = some sig → argsL.length = sig.parameters.length)
    (hstack : g.stack = argsL.reverse ++ .ref b :: rest) (hW : 2 * g.monitorRoom + (rest.map fun v => v.category).sum ≤ W9) (hdg : decode c.code g.pc = .ok (.invokevirtual index, 3))
    (hpre : ∀ vm₁, s.WarmedH vm₁ → Pre ⟨T.setVm vm₁, locs, cells, slots⟩ (Value.ref b :: argsL).toArray) :
    (∃ (v : Option Value) (vm₁ : Vm) (B : Pt), s.WarmedH vm₁ ∧ Stand p l e R s m args below meth c B.U B.locs B.cells B.slots ∧ Post ⟨T.setVm vm₁, locs, cells, slots⟩ (Value.ref b :: argsL).toArray v B ∧
      ∀ target, Steps p.tables e below (B.U.setTop { g with pc := g.pc + 3, stack := v.toList ++ rest }) target → Steps p.tables e below (T.setTop g) target) ∨
    (∃ (q : Addr) (vm₁ : Vm) (B : Pt), s.WarmedH vm₁ ∧ Stand p l e R s m args below meth c B.U B.locs B.cells B.slots ∧ PostX ⟨T.setVm vm₁, locs, cells, slots⟩ (Value.ref b :: argsL).toArray q B ∧
      Steps p.tables e below (T.setTop g) ((B.U.setTop { g with stack := rest }).pushFrame (.throwing q))) := by
  obtain ⟨mk, methM, hnamed, hmethM, hstM, habM⟩ := Cond.instanceMethod_spec hinst
  obtain ⟨methM', cM, hmethM', -, -, -, -, -, -, hsigM⟩ := Cond.code_spec hnamed hcode
  cases hmethM.symm.trans hmethM'
  obtain ⟨c2, r2, m2, q1, q2, q3, q4, kP, hkP, hkPi⟩ := Cond.selects_spec hsel
  cases hcls.symm.trans q1
  cases (State.methodFound?_of_named hnamed hy).symm.trans q2
  cases hnamed.symm.trans q3
  have hselP : selectMethod e.platform s.vm cellB.cls mk = .method mk := by rw [Launch.admits_selectMethod X.admits]; exact q4
  obtain ⟨vm₁, X₁, hstep₁⟩ := X.invokevirtual hexec hown hlink hnamed hmethM hstM hkP hkPi hy (a := b) (cell := cellB) hcell
    (fun z h => by rw [h] at hobj; cases hobj) hselP hmethM habM hkP hkPi (g := g) hg (argsL := argsL) (rest := rest) (hlen _ hsigM) hstack hdg
  rcases hK m meth c ⟨T.setVm vm₁, locs, cells, slots⟩ { g with stack := rest } (.invokevirtual index) mk (Value.ref b :: argsL).toArray X₁ hg hsize hdg hW (X₁.named hnamed) (hpre vm₁ X₁.warmed) with ⟨v, B, X', hpost, hsteps⟩ | ⟨q, B, X', hpost, hsteps⟩
  · exact Or.inl ⟨v, vm₁, B, X₁.warmed, X', hpost, fun target h => hstep₁ _ fun acts => by rw [doInvoke_state]; exact hsteps.trans h⟩
  · exact Or.inr ⟨q, vm₁, B, X₁.warmed, X', hpost, hstep₁ _ fun acts => by rw [doInvoke_state]; exact hsteps⟩
theorem vx_callS (X : Stand p l e R s m args below meth c T locs cells slots) (hexec : p.tables.exec = Jvm.exec) {own : String} {index : Nat} {y : MethodName} {bytes : ByteArray} {maxL : Nat} {ret : Option FieldType}
    (hown : s.vm.findClass own = some m.cls) (hlink : (Cond.methodLink own index y).before args s = true) (hstat : (Cond.static y).before args s = true) (hinit : (Cond.initialized y.cls).before args s = true)
    (hcode : (Cond.code y bytes maxL ret).before args s = true) (hy : y.cls ≠ "java/lang/invoke/MethodHandle" ∧ y.cls ≠ "java/lang/invoke/VarHandle")
    {W9 : Nat} {Pre : Pt → Array Value → Prop} {Post : Pt → Array Value → Option Value → Pt → Prop} {PostX : Pt → Array Value → Addr → Pt → Prop} (hK : vx_Back l R p e below s args y 3 W9 Pre Post PostX)
    {g : JFrame} (hg : g.method = m) (hsize : g.locals.size = c.maxLocals) {argsL rest : List Value} (hlen : ∀ sig, parseMethodDescriptor y.desc = some sig → argsL.length = sig.parameters.length)
    (hstack : g.stack = argsL.reverse ++ rest) (hW : 2 * g.monitorRoom + (rest.map fun v => v.category).sum ≤ W9) (hdg : decode c.code g.pc = .ok (.invokestatic index, 3))
    (hpre : ∀ vm₁, s.WarmedH vm₁ → Pre ⟨T.setVm vm₁, locs, cells, slots⟩ argsL.toArray) :
    (∃ (v : Option Value) (vm₁ : Vm) (B : Pt), s.WarmedH vm₁ ∧ Stand p l e R s m args below meth c B.U B.locs B.cells B.slots ∧ Post ⟨T.setVm vm₁, locs, cells, slots⟩ argsL.toArray v B ∧
      ∀ target, Steps p.tables e below (B.U.setTop { g with pc := g.pc + 3, stack := v.toList ++ rest }) target → Steps p.tables e below (T.setTop g) target) ∨
    (∃ (q : Addr) (vm₁ : Vm) (B : Pt), s.WarmedH vm₁ ∧ Stand p l e R s m args below meth c B.U B.locs B.cells B.slots ∧ PostX ⟨T.setVm vm₁, locs, cells, slots⟩ argsL.toArray q B ∧
      Steps p.tables e below (T.setTop g) ((B.U.setTop { g with stack := rest }).pushFrame (.throwing q))) := by
  obtain ⟨mk, hnamed⟩ := Cond.code_named hcode
  obtain ⟨methM, cM, hmethM, -, -, -, -, -, -, hsigM⟩ := Cond.code_spec hnamed hcode
  have hstatic : methM.isStatic = true := Cond.static_spec hnamed hmethM hstat
  obtain ⟨kP, hkP, -⟩ := className_of_methodNamed hnamed
  have hinitP : kP.init = .initialized := Cond.initialized_spec (findClass_of_methodNamed hnamed) hkP hinit
  obtain ⟨vm₁, X₁, hstep₁⟩ := X.invokestatic hexec hown hlink hnamed hmethM hstatic hkP hinitP hy (g := g) hg (argsL := argsL) (rest := rest) (hlen _ hsigM) hstack hdg
  rcases hK m meth c ⟨T.setVm vm₁, locs, cells, slots⟩ { g with stack := rest } (.invokestatic index) mk argsL.toArray X₁ hg hsize hdg hW (X₁.named hnamed) (hpre vm₁ X₁.warmed) with ⟨v, B, X', hpost, hsteps⟩ | ⟨q, B, X', hpost, hsteps⟩
  · exact Or.inl ⟨v, vm₁, B, X₁.warmed, X', hpost, fun target h => hstep₁ _ fun acts => by rw [doInvoke_state]; exact hsteps.trans h⟩
  · exact Or.inr ⟨q, vm₁, B, X₁.warmed, X', hpost, hstep₁ _ fun acts => by rw [doInvoke_state]; exact hsteps⟩
end Calls
theorem vx_cls {s : State} {T : State} {vm₁ : Vm} {E : String} {k : ClassId} (hW : s.WarmedH vm₁) (h : (T.setVm vm₁).vm.findClass E = some k) : s.vm.findClass E = some k := by
  have h1 : vm₁.findClass E = some k := h
  rw [hW.alike.findClass] at h1
  exact h1
/-- the method's frame g, with q thrown over it -/
def vx_W (p : Program) (l : Launch) (e : Env) (R : Room) (s : State) (m : MethodId) (args : Array Value) (below : List Frame) (meth : Method) (c : Code) (H : Heap) (locs : List Loc) (cells slots : Nat) (Q : State → Prop) (g : JFrame) (q : Addr) : Prop :=
  ∀ T : State, T.heap = H → Stand p l e R s m args below meth c T locs cells slots → ∃ t, Steps p.tables e below ((T.setTop g).pushFrame (.throwing q)) t ∧ Q t
def vx_Run (p : Program) (l : Launch) (e : Env) (R : Room) (s : State) (m : MethodId) (args : Array Value) (below : List Frame) (meth : Method) (c : Code) (H : Heap) (locs : List Loc) (cells slots mc ms : Nat) (g : JFrame) (rest : List Value) (Qa : State → Outcome → State → Prop) (XC : String → State → State → Prop) (free : Addr → Prop) : Prop :=
  ∀ T : State, T.heap = H → Stand p l e R s m args below meth c T locs cells slots →
    (∃ (v : Option Value) (st₀ t T' : State) (L : List Loc), st₀.heap = H ∧ Stand p l e R s m args below meth c T' (locs ++ L) (cells + mc) (slots + ms) ∧ (∀ q ∈ L, free q.base) ∧ T'.heap = t.heap ∧ T'.vm = t.vm ∧ Qa st₀ (.returned v) t ∧
      Goes p e below T g T' { g with pc := g.pc + 3, stack := v.toList ++ rest }) ∨
    (∃ (q : Addr) (st₀ t T' : State) (L : List Loc) (E : String) (ce : Cell), st₀.heap = H ∧ Stand p l e R s m args below meth c T' (locs ++ L) (cells + mc) (slots + ms) ∧ (∀ z ∈ L, free z.base) ∧ T'.heap = t.heap ∧ T'.vm = t.vm ∧ XC E st₀ t ∧ t.heap[q]? = some ce ∧ ce.vm = .none ∧ s.vm.findClass E = some ce.cls ∧
      Steps p.tables e below (T.setTop g) ((T'.setTop { g with stack := rest }).pushFrame (.throwing q)))
def vx_X {S : Type} (px : S → Prop) (B : String → S → State → Prop) (A : Nat → Prop) : String → State → State → Prop := fun E st t => ∃ u : S, px u ∧ B E u t ∧ va_F A st t
section Runs
variable {p : Program} {l : Launch} {e : Env} {R : Room} {s : State} {m : MethodId} {args : Array Value} {below : List Frame} {meth : Method} {c : Code} {H : Heap} {locs : List Loc} {cells slots : Nat}
variable {y : MethodName} {bytes cc : ByteArray} {maxL nL mc ms n index : Nat} {ret : Option FieldType} {ws : List Cond} {rm : Room} {Pc : Array Value → State → Prop} {Qc : Array Value → State → Outcome → State → Prop} {XC : String → State → State → Prop} {free : Addr → Prop} {Ts : List Cond} {own C : String} {b : Addr} {As rest : List Value} {g : JFrame}
theorem vx_callBack (cb : CallB R s args own index y bytes maxL ret ws rm mc ms n) (hM : vx_Met l y ws rm Pc Qc XC mc ms free) (hbl : FrameBlind Pc) : vx_Back l R p e below s args y 3 8 (PreOf R mc ms Pc) (PostOf Qc mc ms free) (vx_Post XC mc ms free) := by
  obtain ⟨hrc, hrs, hfr, hlo, hws, hcw, -, hini, -⟩ := cb
  exact vx_back (bytes := bytes) (maxL := maxL) (ret := ret) hM hbl hrc hrs hfr hlo hws hcw (fun a' U hW => word_at hW (Or.inl (by first | rfl | simp [Cond.onTables, Cond.keeps, Cond.steady])) hini)
theorem vx_runV (S : CallFix p m c cc nL s args Ts own) (hM : vx_Met l y ws rm Pc Qc XC mc ms free) (cw : CallW R s args own C index y bytes maxL ret ws rm mc ms n) (hp : PreV s H C b Pc As)
    (hg : g.method = m) (hn : As.length = n) (hsize : g.locals.size = nL) (hstack : g.stack = As.reverse ++ .ref b :: rest) (hW : 2 * g.monitorRoom + (rest.map fun v => v.category).sum ≤ 8) (hdg : decode cc g.pc = .ok (.invokevirtual index, 3)) (hf : cells + mc ≤ R.cells ∧ slots + ms ≤ R.slots) :
    vx_Run p l e R s m args below meth c H locs cells slots mc ms g rest (Qc (Value.ref b :: As).toArray) XC free := by
  have hK : vx_Back l R p e below s args y 3 8 (PreOf R mc ms Pc) (PostOf Qc mc ms free) (vx_Post XC mc ms free) := vx_callBack cw.1 hM hp.1
  obtain ⟨⟨-, -, -, -, -, -, hcode, -, hy, hlen, hl⟩, hin, hse⟩ := cw
  obtain ⟨hx, hb, hml, ho, -⟩ := S
  obtain ⟨-, ⟨cellB, hcB, hoB, hclB⟩, hPc⟩ := hp
  intro T hT X
  rcases vx_callV X hx (C := C) (bytes := bytes) (maxL := maxL) (ret := ret) ho hl hin hse hcode hy hK (by rw [hT]; exact hcB) hoB hclB hg (hsize.trans hml.symm) (argsL := As) (rest := rest) (fun sig h => hn.trans (hlen sig h)) hstack hW (by rw [hb]; exact hdg)
    (fun vm₁ hW₁ => ⟨hf.1, hf.2, hPc (T.setVm vm₁) hT hW₁⟩) with ⟨v, vm₁, ⟨U', l2, c2, s2⟩, hW₁, X', ⟨g', mk, t, L, e1, e2, hq, h1, hL, h2, h3⟩, st⟩ | ⟨q, vm₁, ⟨U', l2, c2, s2⟩, hW₁, X', ⟨g', mk, t, L, E, ce, e1, e2, hq, hce, hcv, hcl, h1, hL, h2, h3⟩, st⟩
  · dsimp only [Pt.U, Pt.locs, Pt.cells, Pt.slots] at X' e1 e2 h1 h2 h3 st
    subst h1; subst h2; subst h3
    exact Or.inl ⟨v, (T.setVm vm₁).calling g' mk (Value.ref b :: As).toArray, t, U', L, hT, X', hL, e1, e2, hq, st⟩
  · dsimp only [Pt.U, Pt.locs, Pt.cells, Pt.slots] at X' e1 e2 h1 h2 h3 st hcl
    subst h1; subst h2; subst h3
    exact Or.inr ⟨q, (T.setVm vm₁).calling g' mk (Value.ref b :: As).toArray, t, U', L, E, ce, hT, X', hL, e1, e2, hq, hce, hcv, vx_cls hW₁ hcl, st⟩
theorem vx_runS (S : CallFix p m c cc nL s args Ts own) (hM : vx_Met l y ws rm Pc Qc XC mc ms free) (cw : CallB R s args own index y bytes maxL ret ws rm mc ms n ∧ (Cond.static y).before args s = true) (hp : PreS s H Pc As)
    (hg : g.method = m) (hn : As.length = n) (hsize : g.locals.size = nL) (hstack : g.stack = As.reverse ++ rest) (hW : 2 * g.monitorRoom + (rest.map fun v => v.category).sum ≤ 8) (hdg : decode cc g.pc = .ok (.invokestatic index, 3)) (hf : cells + mc ≤ R.cells ∧ slots + ms ≤ R.slots) :
    vx_Run p l e R s m args below meth c H locs cells slots mc ms g rest (Qc As.toArray) XC free := by
  have hK : vx_Back l R p e below s args y 3 8 (PreOf R mc ms Pc) (PostOf Qc mc ms free) (vx_Post XC mc ms free) := vx_callBack cw.1 hM hp.1
  obtain ⟨⟨-, -, -, -, -, -, hcode, hini, hy, hlen, hl⟩, hstt⟩ := cw
  obtain ⟨hx, hb, hml, ho, -⟩ := S
  intro T hT X
  rcases vx_callS X hx (bytes := bytes) (maxL := maxL) (ret := ret) ho hl hstt hini hcode hy hK hg (hsize.trans hml.symm) (argsL := As) (rest := rest) (fun sig h => hn.trans (hlen sig h)) hstack hW (by rw [hb]; exact hdg)
    (fun vm₁ hW₁ => ⟨hf.1, hf.2, hp.2 (T.setVm vm₁) hT hW₁⟩) with ⟨v, vm₁, ⟨U', l2, c2, s2⟩, hW₁, X', ⟨g', mk, t, L, e1, e2, hq, h1, hL, h2, h3⟩, st⟩ | ⟨q, vm₁, ⟨U', l2, c2, s2⟩, hW₁, X', ⟨g', mk, t, L, E, ce, e1, e2, hq, hce, hcv, hcl, h1, hL, h2, h3⟩, st⟩
  · dsimp only [Pt.U, Pt.locs, Pt.cells, Pt.slots] at X' e1 e2 h1 h2 h3 st
    subst h1; subst h2; subst h3
    exact Or.inl ⟨v, (T.setVm vm₁).calling g' mk As.toArray, t, U', L, hT, X', hL, e1, e2, hq, st⟩
  · dsimp only [Pt.U, Pt.locs, Pt.cells, Pt.slots] at X' e1 e2 h1 h2 h3 st hcl
    subst h1; subst h2; subst h3
    exact Or.inr ⟨q, (T.setVm vm₁).calling g' mk As.toArray, t, U', L, E, ce, hT, X', hL, e1, e2, hq, hce, hcv, vx_cls hW₁ hcl, st⟩
end Runs
section Rows
variable {p : Program} {l : Launch} {e : Env} {R : Room} {s : State} {m : MethodId} {args : Array Value} {below : List Frame} {meth : Method} {c : Code} {H : Heap} {locs : List Loc} {cells slots : Nat} {Q : State → Prop}
variable {mc ms : Nat} {free : Addr → Prop} {A0 A1 : Nat → Prop} {H0 : Heap} {a : Array Value} {pc : Nat} {ls : Array Slot} {st0 rest : List Value}
theorem vx_keep {st₀ t T' : State} {L : List Loc} (h0 : st₀.heap = H) (e1 : T'.heap = t.heap) (hS : va_S A0 H0 H locs) (hA : ∀ q, q < H.size → A1 q → A0 q) (hf : ∀ q, free q → A0 q) (hL : ∀ q ∈ L, free q.base) (hF : va_F A1 st₀ t) :
    H.size ≤ T'.heap.size ∧ (∀ q : Nat, q < H.size → ¬ A1 q → T'.heap[q]? = H[q]?) ∧ va_S A0 H0 T'.heap (locs ++ L) := by
  obtain ⟨hz, hk⟩ := hF
  rw [h0] at hz hk
  exact ⟨by rw [e1]; exact hz, fun q h1 h2 => by rw [e1]; exact hk q h1 h2,
    ⟨Nat.le_trans hS.1 (by rw [e1]; exact hz), fun q h1 h2 => by rw [e1, hk q (Nat.lt_of_lt_of_le h1 hS.1) (fun z => h2 (hA q (Nat.lt_of_lt_of_le h1 hS.1) z))]; exact hS.2.1 q h1 h2, fun q hq => by
      rcases List.mem_append.mp hq with h | h
      · exact hS.2.2 q h
      · exact hf _ (hL q h)⟩⟩
theorem vx_calli {S SX : Type} {post : Int32 → S → Prop} {px : SX → Prop} {B : S → State → Prop} {BX : String → SX → State → Prop} {AX : Nat → Prop} (hr : vx_Run p l e R s m args below meth c H locs cells slots mc ms (F0 m pc ls st0) rest (va_Qi post B A1 a) (vx_X px BX AX) free) (hS : va_S A0 H0 H locs) (hA : ∀ q, q < H.size → A1 q → A0 q) (hf : ∀ q, free q → A0 q) (hAX : ∀ q, q < H.size → AX q → A0 q)
    (kx : ∀ (E : String) (ce : Cell) (q9 : Addr) (u : SX) (t : State) (H1 : Heap) (locs1 : List Loc), t.heap = H1 → s.vm.Alike t.vm → px u → BX E u t → H.size ≤ H1.size → (∀ q : Nat, q < H.size → ¬ AX q → H1[q]? = H[q]?) → va_S A0 H0 H1 locs1 → H1[q9]? = some ce → ce.vm = .none → s.vm.findClass E = some ce.cls → vx_W p l e R s m args below meth c H1 locs1 (cells + mc) (slots + ms) Q (F0 m pc ls rest) q9)
    (kk : ∀ (r : Int32) (u : S) (t : State) (H1 : Heap) (locs1 : List Loc), t.heap = H1 → s.vm.Alike t.vm → post r u → B u t → H.size ≤ H1.size → (∀ q : Nat, q < H.size → ¬ A1 q → H1[q]? = H[q]?) → va_S A0 H0 H1 locs1 → W p l e R s m args below meth c H1 locs1 (cells + mc) (slots + ms) Q (F0 m (pc + 3) ls (.int r :: rest))) : W p l e R s m args below meth c H locs cells slots Q (F0 m pc ls st0) := by
  intro T hT X
  rcases hr T hT X with ⟨v, st₀, t, T', L, h0, X', hL, e1, e2, ⟨⟨r, u, hv, hp, hb⟩, hF⟩, st⟩ | ⟨q, st₀, t, T', L, E, ce, h0, X', hL, e1, e2, ⟨u, hp, hb, hF⟩, hce, hcv, hcl, st⟩
  · cases hv
    obtain ⟨k1, k2, k3⟩ := vx_keep h0 e1 hS hA hf hL hF
    obtain ⟨t2, a1, b1⟩ := kk r u t T'.heap (locs ++ L) e1.symm (by rw [← e2]; exact X'.warmed.alike) hp hb k1 k2 k3 T' rfl X'
    exact ⟨t2, st t2 a1, b1⟩
  · obtain ⟨k1, k2, k3⟩ := vx_keep h0 e1 hS hAX hf hL hF
    obtain ⟨t2, a1, b1⟩ := kx E ce q u t T'.heap (locs ++ L) e1.symm (by rw [← e2]; exact X'.warmed.alike) hp hb k1 k2 k3 (by rw [e1]; exact hce) hcv hcl T' rfl X'
    exact ⟨t2, st.trans a1, b1⟩
theorem vx_calll {S SX : Type} {post : Int64 → S → Prop} {px : SX → Prop} {B : S → State → Prop} {BX : String → SX → State → Prop} {AX : Nat → Prop} (hr : vx_Run p l e R s m args below meth c H locs cells slots mc ms (F0 m pc ls st0) rest (va_Ql post B A1 a) (vx_X px BX AX) free) (hS : va_S A0 H0 H locs) (hA : ∀ q, q < H.size → A1 q → A0 q) (hf : ∀ q, free q → A0 q) (hAX : ∀ q, q < H.size → AX q → A0 q)
    (kx : ∀ (E : String) (ce : Cell) (q9 : Addr) (u : SX) (t : State) (H1 : Heap) (locs1 : List Loc), t.heap = H1 → s.vm.Alike t.vm → px u → BX E u t → H.size ≤ H1.size → (∀ q : Nat, q < H.size → ¬ AX q → H1[q]? = H[q]?) → va_S A0 H0 H1 locs1 → H1[q9]? = some ce → ce.vm = .none → s.vm.findClass E = some ce.cls → vx_W p l e R s m args below meth c H1 locs1 (cells + mc) (slots + ms) Q (F0 m pc ls rest) q9)
    (kk : ∀ (r : Int64) (u : S) (t : State) (H1 : Heap) (locs1 : List Loc), t.heap = H1 → s.vm.Alike t.vm → post r u → B u t → H.size ≤ H1.size → (∀ q : Nat, q < H.size → ¬ A1 q → H1[q]? = H[q]?) → va_S A0 H0 H1 locs1 → W p l e R s m args below meth c H1 locs1 (cells + mc) (slots + ms) Q (F0 m (pc + 3) ls (.long r :: rest))) : W p l e R s m args below meth c H locs cells slots Q (F0 m pc ls st0) := by
  intro T hT X
  rcases hr T hT X with ⟨v, st₀, t, T', L, h0, X', hL, e1, e2, ⟨⟨r, u, hv, hp, hb⟩, hF⟩, st⟩ | ⟨q, st₀, t, T', L, E, ce, h0, X', hL, e1, e2, ⟨u, hp, hb, hF⟩, hce, hcv, hcl, st⟩
  · cases hv
    obtain ⟨k1, k2, k3⟩ := vx_keep h0 e1 hS hA hf hL hF
    obtain ⟨t2, a1, b1⟩ := kk r u t T'.heap (locs ++ L) e1.symm (by rw [← e2]; exact X'.warmed.alike) hp hb k1 k2 k3 T' rfl X'
    exact ⟨t2, st t2 a1, b1⟩
  · obtain ⟨k1, k2, k3⟩ := vx_keep h0 e1 hS hAX hf hL hF
    obtain ⟨t2, a1, b1⟩ := kx E ce q u t T'.heap (locs ++ L) e1.symm (by rw [← e2]; exact X'.warmed.alike) hp hb k1 k2 k3 (by rw [e1]; exact hce) hcv hcl T' rfl X'
    exact ⟨t2, st.trans a1, b1⟩
theorem vx_callf {S SX : Type} {post : UInt32 → S → Prop} {px : SX → Prop} {B : S → State → Prop} {BX : String → SX → State → Prop} {AX : Nat → Prop} (hr : vx_Run p l e R s m args below meth c H locs cells slots mc ms (F0 m pc ls st0) rest (va_Qf post B A1 a) (vx_X px BX AX) free) (hS : va_S A0 H0 H locs) (hA : ∀ q, q < H.size → A1 q → A0 q) (hf : ∀ q, free q → A0 q) (hAX : ∀ q, q < H.size → AX q → A0 q)
    (kx : ∀ (E : String) (ce : Cell) (q9 : Addr) (u : SX) (t : State) (H1 : Heap) (locs1 : List Loc), t.heap = H1 → s.vm.Alike t.vm → px u → BX E u t → H.size ≤ H1.size → (∀ q : Nat, q < H.size → ¬ AX q → H1[q]? = H[q]?) → va_S A0 H0 H1 locs1 → H1[q9]? = some ce → ce.vm = .none → s.vm.findClass E = some ce.cls → vx_W p l e R s m args below meth c H1 locs1 (cells + mc) (slots + ms) Q (F0 m pc ls rest) q9)
    (kk : ∀ (r : UInt32) (u : S) (t : State) (H1 : Heap) (locs1 : List Loc), t.heap = H1 → s.vm.Alike t.vm → post r u → B u t → H.size ≤ H1.size → (∀ q : Nat, q < H.size → ¬ A1 q → H1[q]? = H[q]?) → va_S A0 H0 H1 locs1 → W p l e R s m args below meth c H1 locs1 (cells + mc) (slots + ms) Q (F0 m (pc + 3) ls (.float r :: rest))) : W p l e R s m args below meth c H locs cells slots Q (F0 m pc ls st0) := by
  intro T hT X
  rcases hr T hT X with ⟨v, st₀, t, T', L, h0, X', hL, e1, e2, ⟨⟨r, u, hv, hp, hb⟩, hF⟩, st⟩ | ⟨q, st₀, t, T', L, E, ce, h0, X', hL, e1, e2, ⟨u, hp, hb, hF⟩, hce, hcv, hcl, st⟩
  · cases hv
    obtain ⟨k1, k2, k3⟩ := vx_keep h0 e1 hS hA hf hL hF
    obtain ⟨t2, a1, b1⟩ := kk r u t T'.heap (locs ++ L) e1.symm (by rw [← e2]; exact X'.warmed.alike) hp hb k1 k2 k3 T' rfl X'
    exact ⟨t2, st t2 a1, b1⟩
  · obtain ⟨k1, k2, k3⟩ := vx_keep h0 e1 hS hAX hf hL hF
    obtain ⟨t2, a1, b1⟩ := kx E ce q u t T'.heap (locs ++ L) e1.symm (by rw [← e2]; exact X'.warmed.alike) hp hb k1 k2 k3 (by rw [e1]; exact hce) hcv hcl T' rfl X'
    exact ⟨t2, st.trans a1, b1⟩
theorem vx_calld {S SX : Type} {post : UInt64 → S → Prop} {px : SX → Prop} {B : S → State → Prop} {BX : String → SX → State → Prop} {AX : Nat → Prop} (hr : vx_Run p l e R s m args below meth c H locs cells slots mc ms (F0 m pc ls st0) rest (va_Qd post B A1 a) (vx_X px BX AX) free) (hS : va_S A0 H0 H locs) (hA : ∀ q, q < H.size → A1 q → A0 q) (hf : ∀ q, free q → A0 q) (hAX : ∀ q, q < H.size → AX q → A0 q)
    (kx : ∀ (E : String) (ce : Cell) (q9 : Addr) (u : SX) (t : State) (H1 : Heap) (locs1 : List Loc), t.heap = H1 → s.vm.Alike t.vm → px u → BX E u t → H.size ≤ H1.size → (∀ q : Nat, q < H.size → ¬ AX q → H1[q]? = H[q]?) → va_S A0 H0 H1 locs1 → H1[q9]? = some ce → ce.vm = .none → s.vm.findClass E = some ce.cls → vx_W p l e R s m args below meth c H1 locs1 (cells + mc) (slots + ms) Q (F0 m pc ls rest) q9)
    (kk : ∀ (r : UInt64) (u : S) (t : State) (H1 : Heap) (locs1 : List Loc), t.heap = H1 → s.vm.Alike t.vm → post r u → B u t → H.size ≤ H1.size → (∀ q : Nat, q < H.size → ¬ A1 q → H1[q]? = H[q]?) → va_S A0 H0 H1 locs1 → W p l e R s m args below meth c H1 locs1 (cells + mc) (slots + ms) Q (F0 m (pc + 3) ls (.double r :: rest))) : W p l e R s m args below meth c H locs cells slots Q (F0 m pc ls st0) := by
  intro T hT X
  rcases hr T hT X with ⟨v, st₀, t, T', L, h0, X', hL, e1, e2, ⟨⟨r, u, hv, hp, hb⟩, hF⟩, st⟩ | ⟨q, st₀, t, T', L, E, ce, h0, X', hL, e1, e2, ⟨u, hp, hb, hF⟩, hce, hcv, hcl, st⟩
  · cases hv
    obtain ⟨k1, k2, k3⟩ := vx_keep h0 e1 hS hA hf hL hF
    obtain ⟨t2, a1, b1⟩ := kk r u t T'.heap (locs ++ L) e1.symm (by rw [← e2]; exact X'.warmed.alike) hp hb k1 k2 k3 T' rfl X'
    exact ⟨t2, st t2 a1, b1⟩
  · obtain ⟨k1, k2, k3⟩ := vx_keep h0 e1 hS hAX hf hL hF
    obtain ⟨t2, a1, b1⟩ := kx E ce q u t T'.heap (locs ++ L) e1.symm (by rw [← e2]; exact X'.warmed.alike) hp hb k1 k2 k3 (by rw [e1]; exact hce) hcv hcl T' rfl X'
    exact ⟨t2, st.trans a1, b1⟩
theorem vx_callv {S SX : Type} {post : S → Prop} {px : SX → Prop} {B : S → State → Prop} {BX : String → SX → State → Prop} {AX : Nat → Prop} (hr : vx_Run p l e R s m args below meth c H locs cells slots mc ms (F0 m pc ls st0) rest (va_Qv post B A1 a) (vx_X px BX AX) free) (hS : va_S A0 H0 H locs) (hA : ∀ q, q < H.size → A1 q → A0 q) (hf : ∀ q, free q → A0 q) (hAX : ∀ q, q < H.size → AX q → A0 q)
    (kx : ∀ (E : String) (ce : Cell) (q9 : Addr) (u : SX) (t : State) (H1 : Heap) (locs1 : List Loc), t.heap = H1 → s.vm.Alike t.vm → px u → BX E u t → H.size ≤ H1.size → (∀ q : Nat, q < H.size → ¬ AX q → H1[q]? = H[q]?) → va_S A0 H0 H1 locs1 → H1[q9]? = some ce → ce.vm = .none → s.vm.findClass E = some ce.cls → vx_W p l e R s m args below meth c H1 locs1 (cells + mc) (slots + ms) Q (F0 m pc ls rest) q9)
    (kk : ∀ (u : S) (t : State) (H1 : Heap) (locs1 : List Loc), t.heap = H1 → s.vm.Alike t.vm → post u → B u t → H.size ≤ H1.size → (∀ q : Nat, q < H.size → ¬ A1 q → H1[q]? = H[q]?) → va_S A0 H0 H1 locs1 → W p l e R s m args below meth c H1 locs1 (cells + mc) (slots + ms) Q (F0 m (pc + 3) ls (rest))) : W p l e R s m args below meth c H locs cells slots Q (F0 m pc ls st0) := by
  intro T hT X
  rcases hr T hT X with ⟨v, st₀, t, T', L, h0, X', hL, e1, e2, ⟨⟨u, hv, hp, hb⟩, hF⟩, st⟩ | ⟨q, st₀, t, T', L, E, ce, h0, X', hL, e1, e2, ⟨u, hp, hb, hF⟩, hce, hcv, hcl, st⟩
  · cases hv
    obtain ⟨k1, k2, k3⟩ := vx_keep h0 e1 hS hA hf hL hF
    obtain ⟨t2, a1, b1⟩ := kk u t T'.heap (locs ++ L) e1.symm (by rw [← e2]; exact X'.warmed.alike) hp hb k1 k2 k3 T' rfl X'
    exact ⟨t2, st t2 a1, b1⟩
  · obtain ⟨k1, k2, k3⟩ := vx_keep h0 e1 hS hAX hf hL hF
    obtain ⟨t2, a1, b1⟩ := kx E ce q u t T'.heap (locs ++ L) e1.symm (by rw [← e2]; exact X'.warmed.alike) hp hb k1 k2 k3 (by rw [e1]; exact hce) hcv hcl T' rfl X'
    exact ⟨t2, st.trans a1, b1⟩
/-- caught by the row x of this method's table; the rows ahead don't take it -/
theorem vx_catch {own name : String} {E : String} {ce : Cell} {q : Addr} (hown : s.vm.findClass own = some m.cls) (pre : List ExceptionTableEntry) (x : ExceptionTableEntry) (suf : List ExceptionTableEntry) (hsplit : c.exceptionTable.toList = pre ++ x :: suf)
    (hpass : ∀ z ∈ pre, covers z pc = false ∨ (z.catchType ≠ 0 ∧ ∃ nm : String, (Cond.classLink own z.catchType nm).before args s = true ∧ va_Nc E nm s)) (hx : covers x pc = true) (h0 : x.catchType ≠ 0)
    (hlink : (Cond.classLink own x.catchType name).before args s = true) (hcast : (Cond.castable E name).before args s = true) (hcell : H[q]? = some ce) (hv : ce.vm = .none) (hcl : s.vm.findClass E = some ce.cls)
    (kk : W p l e R s m args below meth c H locs cells slots Q (F0 m x.handlerPc ls [.ref q])) : vx_W p l e R s m args below meth c H locs cells slots Q (F0 m pc ls rest) q := by
  intro T hT X
  have hpl : e.platform.magicAccessors = ({} : Platform).magicAccessors := by rw [X.admits.platform]
  obtain ⟨c3, c4, hc3, hc4, hasg⟩ := Cond.castable_spec hcast
  cases Option.some.inj (hc3.symm.trans hcl)
  obtain ⟨c5, hc5, hcl5⟩ := Cond.classLink_spec hown hlink e.platform hpl
  cases Option.some.inj (hc4.symm.trans hc5)
  obtain ⟨vm', X', st⟩ := X.thenCaughtThrough q (g := F0 m pc ls rest) rfl (Steps.refl _) (by rw [hT]; exact hcell) (by rw [hv]; rfl) (by obtain ⟨k9, h9, -⟩ := Vm.findClass_spec hcl; exact ⟨k9, h9⟩) pre x suf hsplit
    (fun z hz => by
      rcases hpass z hz with h | ⟨hz0, nm, hl1, hn1⟩
      · exact Or.inl h
      · obtain ⟨c6, hc6, hcl6⟩ := Cond.classLink_spec hown hl1 e.platform hpl
        obtain ⟨a8, b8, h1, h2, h3⟩ := hn1
        cases Option.some.inj (h1.symm.trans hcl)
        cases Option.some.inj (h2.symm.trans hc6)
        exact Or.inr ⟨hz0, _, hcl6, h3⟩) hx (Or.inr ⟨h0, c4, hcl5, hasg⟩)
  obtain ⟨t, a1, b1⟩ := kk (T.setVm vm') hT X'
  exact ⟨t, st.trans a1, b1⟩
end Rows
section Ends
variable {p : Program} {l : Launch} {e : Env} {R : Room} {s : State} {m : MethodId} {args : Array Value} {below : List Frame} {meth : Method} {c : Code} {H : Heap} {locs : List Loc} {cells slots : Nat} {Q : State → Prop}
variable {mc ms : Nat} {free : Addr → Prop} {A0 A1 : Nat → Prop} {H0 : Heap} {a : Array Value} {ls : Array Slot} {st0 rest : List Value}
variable {Qc : Array Value → State → Outcome → State → Prop} {XC : String → State → State → Prop}
/-- what a body that may throw owes at its end -/
def vx_MQ (below : List Frame) (Qc : Array Value → State → Outcome → State → Prop) (XC : String → State → State → Prop) (a : Array Value) (s : State) (mc ms : Nat) (free : Addr → Prop) : State → Prop := fun t =>
  ∃ o, t.status = .running ∧ Ended t below o ∧ vx_Q Qc XC mc ms free a s o t
theorem vx_ret {g : JFrame} {mc ms : Nat} (k : W p l e R s m args below meth c H locs cells slots (MQ below Qc args s mc ms free) g) : W p l e R s m args below meth c H locs cells slots (vx_MQ below Qc XC args s mc ms free) g := by
  intro T hT X
  obtain ⟨t, a1, o, b1, b2, b3, b4⟩ := k T hT X
  exact ⟨t, a1, o, b1, b2, Or.inl ⟨b3, b4⟩⟩
/-- not caught here: it goes on to the caller -/
theorem vx_widen {g : JFrame} {q : Addr} {k n : Nat} (h1 : cells ≤ k) (h2 : slots ≤ n) (kk : vx_W p l e R s m args below meth c H locs k n Q g q) : vx_W p l e R s m args below meth c H locs cells slots Q g q := fun T hT X => kk T hT (stand_widen X h1 h2)
theorem vx_out {pc : Nat} {E : String} {ce : Cell} {q : Addr} {mc ms : Nat} (hout : ∀ x ∈ c.exceptionTable.toList, covers x pc = false) (hlocks : meth.locks = false) (hcell : H[q]? = some ce) (hv : ce.vm = .none) (hcl : s.vm.findClass E = some ce.cls)
    (hx : ∀ t : State, t.heap = H → s.vm.Alike t.vm → XC E s t) (hf : ∀ z ∈ locs, free z.base) (hc : cells ≤ mc) (hs : slots ≤ ms) :
    vx_W p l e R s m args below meth c H locs cells slots (vx_MQ below Qc XC args s mc ms free) (F0 m pc ls rest) q := by
  intro T hT X
  obtain ⟨st1, hrun, hend, hW, hsm⟩ := X.leaveThrown q (g := F0 m pc ls rest) rfl rfl rfl hout hlocks
  have hcell9 : (T.setFrames (.throwing q :: below)).heap[q]? = some ce := by
    show T.heap[q]? = some ce
    rw [hT]; exact hcell
  exact ⟨_, st1, .threw q, hrun, hend, Or.inr ⟨q, rfl, E, ce, locs, hx _ hT hW.alike, hcell9, hv, hcl, hW, hsm.mono hc hs, hf⟩⟩
theorem vx_frame {U : State} {k n : Nat} (h : s.sameButNew ({ U with vm := s.vm } : State) locs k n) : s.heap.size ≤ U.heap.size ∧ ∀ q : Nat, q < s.heap.size → (∀ z ∈ locs, z.base ≠ q) → U.heap[q]? = s.heap[q]? := by
  obtain ⟨-, h2, -, -, -, h6⟩ := h
  refine ⟨h2, fun q hq hz => ?_⟩
  obtain ⟨c9, e1, e2, e3, e4⟩ := h6 q _ (Array.getElem?_eq_getElem hq)
  have hs : c9.slots = (s.heap[q]).slots := Array.ext_getElem? fun i => e4 i fun hm => hz _ hm rfl
  have h9 : c9 = s.heap[q] := by
    rw [hs] at e2
    exact e2
  have e5 : U.heap[q]? = some c9 := e1
  rw [e5, h9, Array.getElem?_eq_getElem hq]
/-- the words of a throw but the four that speak of the heap -/
def vx_no (w : Cond) : Bool := decide (w ≠ .isRef (.static Bundle.tN "UNASSIGNED_STACK" Bundle.steD)) && decide (w ≠ .isRef (.static Bundle.tN "SUPPRESSED_SENTINEL" Bundle.listD)) && decide (w ≠ .laysStatic Bundle.tN "UNASSIGNED_STACK" Bundle.steD) && decide (w ≠ .laysStatic Bundle.tN "SUPPRESSED_SENTINEL" Bundle.listD)
def vx_at0 (own : String) (ic : Nat) (X : String) (names : List String) : List Cond := (Bundle.ownAtoms0 own ic X names).filter vx_no
def vx_atS (own : String) (ic : Nat) (X : String) (names : List String) : List Cond := (Bundle.ownAtoms own ic X names).filter vx_no
/-- a word that the tables alone decide, or a good one -/
def vx_ot (w : Cond) : Bool := w.onTables || goodWord w
theorem vx_ot_at {args a' : Array Value} {s U : State} {w : Cond} (hW : s.WarmedH U.vm) (hvm : s.vm = U.vm) (hg : vx_ot w = true) (h : w.before args s = true) : w.before a' U = true := by
  simp only [vx_ot, Bool.or_eq_true] at hg
  rcases hg with hg | hg
  · exact va_tabs hg hvm h
  · exact word_at hW (good_of_word hg) h
/-- a list's words: the good ones out of the method's own list, the others by premises of their own -/
theorem vx_hat {args : Array Value} {s : State} {L B : List Cond} (h1 : ∀ w ∈ L.filter goodWord, w.before args s = true) (h2 : ∀ w ∈ L.filter (fun w => !goodWord w), w ∈ B) (h3 : ∀ w ∈ B, w.before args s = true) : ∀ w ∈ L, w.before args s = true := by
  intro w hw
  by_cases g : goodWord w = true
  · exact h1 w (List.mem_filter.mpr ⟨hw, g⟩)
  · refine h3 w (h2 w (List.mem_filter.mpr ⟨hw, ?_⟩))
    show (!goodWord w) = true
    cases hgw : goodWord w
    · rfl
    · exact absurd hgw g
theorem vx_c {args : Array Value} {s : State} {w : Cond} {B : List Cond} (h : w.before args s = true) (t : ∀ w ∈ B, w.before args s = true) : ∀ w' ∈ w :: B, w'.before args s = true := fun w' h' => (List.mem_cons.mp h').elim (fun e => by rw [e]; exact h) (t w')
theorem vx_n {args : Array Value} {s : State} : ∀ w ∈ ([] : List Cond), w.before args s = true := fun _ h => nomatch h
theorem vx_own {args : Array Value} {s : State} {L : List Cond} (h1 : ∀ w ∈ L.filter vx_no, w.before args s = true)
    (hU : (Cond.isRef (.static Bundle.tN "UNASSIGNED_STACK" Bundle.steD)).before args s = true) (hN : (Cond.isRef (.static Bundle.tN "SUPPRESSED_SENTINEL" Bundle.listD)).before args s = true)
    (lU : (Cond.laysStatic Bundle.tN "UNASSIGNED_STACK" Bundle.steD).before args s = true) (lN : (Cond.laysStatic Bundle.tN "SUPPRESSED_SENTINEL" Bundle.listD).before args s = true) : ∀ w ∈ L, w.before args s = true := by
  intro w hw
  by_cases e1 : w = .isRef (.static Bundle.tN "UNASSIGNED_STACK" Bundle.steD)
  · rw [e1]; exact hU
  · by_cases e2 : w = .isRef (.static Bundle.tN "SUPPRESSED_SENTINEL" Bundle.listD)
    · rw [e2]; exact hN
    · by_cases e3 : w = .laysStatic Bundle.tN "UNASSIGNED_STACK" Bundle.steD
      · rw [e3]; exact lU
      · by_cases e4 : w = .laysStatic Bundle.tN "SUPPRESSED_SENTINEL" Bundle.listD
        · rw [e4]; exact lN
        · exact h1 w (List.mem_filter.mpr ⟨hw, by unfold vx_no; rw [decide_eq_true e1, decide_eq_true e2, decide_eq_true e3, decide_eq_true e4]; rfl⟩)
/-- where a static field lies, its class's statics cell in H -/
def vx_L (C n d : String) (A : Nat → Prop) (U : State) (H : Heap) : Prop := ∃ (c : ClassId) (k : Class) (i : Nat) (f : Field) (a : Nat) (cell : Cell), U.vm.findClass C = some c ∧ U.fieldFound? C n d = some (c, k, i, f) ∧ f.isStatic = true ∧ k.statics = some a ∧ H[a]? = some cell ∧ cell.vm.isStatics = true ∧ cell.cls = c ∧ f.slot < cell.slots.size ∧ k.staticTypes[f.slot]? = some f.type ∧ ¬ A a
theorem vx_L.moved {C n d : String} {A : Nat → Prop} {u U : State} {H : Heap} (hvm : u.vm.Alike U.vm) (h : vx_L C n d A u H) : vx_L C n d A U H := by
  obtain ⟨c, k, i, f, a, cell, h1, h2, h3, h4, h5, h6, h7, h8, h9, h10⟩ := h
  obtain ⟨k', hi', he⟩ := State.fieldFound?_setVm hvm h2
  exact ⟨c, k', i, f, a, cell, by rw [hvm.findClass]; exact h1, hi', h3, by rw [he]; exact h4, h5, h6, h7, h8, by rw [he]; exact h9, h10⟩
theorem vx_L.kept {C n d : String} {A : Nat → Prop} {U : State} {H H1 : Heap} (h : vx_L C n d A U H) (hq : ∀ a : Nat, a < H.size → ¬ A a → H1[a]? = H[a]?) : vx_L C n d A U H1 := by
  obtain ⟨c, k, i, f, a, cell, h1, h2, h3, h4, h5, h6, h7, h8, h9, h10⟩ := h
  exact ⟨c, k, i, f, a, cell, h1, h2, h3, h4, by rw [hq a (Array.getElem?_eq_some_iff.mp h5).1 h10]; exact h5, h6, h7, h8, h9, h10⟩
theorem vx_L.narrow {C n d : String} {A B : Nat → Prop} {U : State} {H : Heap} (h : vx_L C n d A U H) (hAB : ∀ q, B q → A q) : vx_L C n d B U H := by
  obtain ⟨c, k, i, f, a, cell, h1, h2, h3, h4, h5, h6, h7, h8, h9, h10⟩ := h
  exact ⟨c, k, i, f, a, cell, h1, h2, h3, h4, h5, h6, h7, h8, h9, fun z => h10 (hAB _ z)⟩
theorem vx_L.word {C n d : String} {A : Nat → Prop} {s : State} {args : Array Value} (h : vx_L C n d A s s.heap) : (Cond.laysStatic C n d).before args s = true := by
  obtain ⟨c, k, i, f, a, cell, h1, h2, h3, h4, h5, h6, h7, h8, h9, -⟩ := h
  show (Cond.laysStatic C n d).holds args s none s [] = true
  exact Cond.laysStatic_of h1 h2 h3 h4 h5 h6 h7 h8 h9
/-- .. and what it holds: null or some reference -/
def vx_Zq (C n d : String) (A : Nat → Prop) (U : State) (H : Heap) : Prop := va_Zq C n d A U H ∧ vx_L C n d A U H
theorem vx_Zq.moved {C n d : String} {A : Nat → Prop} {u U : State} {H : Heap} (hvm : u.vm.Alike U.vm) (h : vx_Zq C n d A u H) : vx_Zq C n d A U H := ⟨va_Zq.moved hvm h.1, vx_L.moved hvm h.2⟩
theorem vx_Zq.kept {C n d : String} {A : Nat → Prop} {U : State} {H H1 : Heap} (h : vx_Zq C n d A U H) (hq : ∀ a : Nat, a < H.size → ¬ A a → H1[a]? = H[a]?) : vx_Zq C n d A U H1 := ⟨va_Zq.kept h.1 hq, vx_L.kept h.2 hq⟩
theorem vx_Zq.narrow {C n d : String} {A B : Nat → Prop} {U : State} {H : Heap} (h : vx_Zq C n d A U H) (hAB : ∀ q, B q → A q) : vx_Zq C n d B U H := ⟨va_Zq.narrow h.1 hAB, vx_L.narrow h.2 hAB⟩
theorem vx_Zqof {args : Array Value} {s : State} {C n d : String} {A : Nat → Prop} (hl : (Cond.laysStatic C n d).before args s = true) (hini : (Cond.initialized C).before args s = true) (h : (Cond.isRef (.static C n d)).before args s = true) (hA : ∀ a : Nat, a < s.heap.size → ¬ A a) : vx_Zq C n d A s s.heap := by
  refine ⟨va_Zqof hl hini h hA, ?_⟩
  obtain ⟨c, k, i, f, a, cell, h1, h2, h3, h4, h5, h6, h7, h8, h9⟩ := Cond.laysStatic_spec hl
  exact ⟨c, k, i, f, a, cell, h1, h2, h3, h4, h5, h6, h7, h8, h9, hA a (Array.getElem?_eq_some_iff.mp h5).1⟩
theorem vx_isRef {C n d : String} {v : Value} {A : Nat → Prop} {s : State} {args : Array Value} (h : va_Z C n d v A s s.heap) (hv : v.isRef = true) : (Cond.isRef (.static C n d)).before args s = true := by
  obtain ⟨cf, kf, fi, f, a, cell, h1, h2, h3, h4, h5, h6, h7, -⟩ := h
  have he : (Term.static C n d).eval args s none [] s = some v := by
    simp [Term.eval, State.fieldNamed?, h1, h2, h4, h5, h6, h7]
  simp only [Cond.before, Cond.holds, Cond.value, he]
  cases v <;> simp_all [Value.isRef]
theorem vx_isRefq {C n d : String} {A : Nat → Prop} {s : State} {args : Array Value} (h : va_Zq C n d A s s.heap) : (Cond.isRef (.static C n d)).before args s = true := by
  rcases h with h | ⟨t, h⟩
  · exact vx_isRef h rfl
  · exact vx_isRef h rfl
/-- the same frame, seen from here: as if the method were called anew in this heap -/
theorem vx_rebase {T : State} (X : Stand p l e R s m args below meth c T locs cells slots) {R' : Room} (hf : R'.frames ≤ R.frames) (hl : R'.locals ≤ R.locals) (hc : cells + R'.cells ≤ R.cells) (hs : slots + R'.slots ≤ R.slots) :
    Stand p l e R' ((T.setVm s.vm).setFrames (.invoking m args :: below)) m args below meth c T [] 0 0 := by
  have htop : (T.setVm s.vm).topJava?.isSome := X.here.top
  have hF : ((T.setVm s.vm).setFrames (.invoking m args :: below)).frames = .invoking m args :: below := State.frames_setFrames _ (State.cur_lt_of_top htop)
  obtain ⟨g₀, hg0⟩ := Option.isSome_iff_exists.mp htop
  obtain ⟨r, hr⟩ := State.topJava?_eq_some.mp hg0
  have hl9 : e.platform.stackLimits (T.setVm s.vm).me = e.platform.stackLimits s.me := X.limits
  have hb9 : (T.setVm s.vm).me.stackBytes = s.me.stackBytes := X.bytes
  refine ⟨X.admits, X.cas, X.clock, hF, ?_, X.hears, X.method, X.code, X.here, X.tail, X.warmed, ?_, ?_, ?_⟩
  · have h := X.room
    have hU : ((T.setVm s.vm).setFrames (.invoking m args :: below)).localsInUse = s.localsInUse := by
      rw [State.localsInUse_invoking hF (meth := meth) (c := c) X.method X.code, State.localsInUse_invoking X.frames X.method X.code]
    simp only [State.hasRoom, Bool.and_eq_true, decide_eq_true_eq] at h ⊢
    obtain ⟨⟨⟨⟨h1, h2, h3, h4, h5, h6⟩, h7⟩, h8⟩, h9⟩ := h
    rw [X.frames, List.length_cons] at h2 h3
    have q1 := X.heapSize
    have q2 := X.used
    simp only [hF, hU, List.length_cons, State.stackLimits_setFrames, State.stackBytes_setFrames, hl9, hb9]
    refine ⟨⟨⟨⟨by omega, by omega, by omega, by omega, by omega, h6⟩, ?_⟩, ?_⟩, X.book⟩
    · show T.heap.size + R'.cells ≤ e.platform.maxCells
      omega
    · show T.slotsUsed + R'.slots ≤ e.platform.maxSlots
      omega
  · rw [State.stackLimits_setFrames]; rfl
  · rw [State.stackBytes_setFrames]; rfl
  · refine ⟨?_, Nat.le_refl _, Nat.le_refl _, ?_, ?_, fun a c9 h9 => ⟨c9, h9, rfl, rfl, fun _ _ => rfl⟩⟩
    · obtain ⟨t, ht, -⟩ := State.frames_cons hr
      show T.setVm s.vm = { ((T.setVm s.vm).setFrames (.invoking m args :: below)).setFrames (T.setVm s.vm).frames with heap := T.heap, slotsUsed := T.slotsUsed }
      rw [State.setFrames_setFrames, State.setFrames_self ht]
      rfl
    · show T.slotsUsed = T.slotsUsed + ((T.heap.toList.drop T.heap.size).map (·.slots.size)).sum
      rw [List.drop_eq_nil_of_le (Nat.le_of_eq Array.length_toList)]
      rfl
    · show ((T.heap.toList.drop T.heap.size).map (·.slots.size)).sum ≤ 0
      rw [List.drop_eq_nil_of_le (Nat.le_of_eq Array.length_toList)]
      exact Nat.le_refl _
/-- 'throw new E()': new; dup; invokespecial; athrow -/
theorem vx_throw0 {cc : ByteArray} {pc : Nat} (hexec : p.tables.exec = Jvm.exec) (hb : c.code = cc) (hl : l.stackTraces = false) {own cls : String} {names : List String} {ik ic mc ms : Nat} {A : Nat → Prop}
    (hown : s.vm.findClass own = some m.cls) (hcls : Bundle.fit cls = true) (hnames : ∀ n ∈ names, Bundle.fit n = true)
    (hk : (Cond.classLink own ik cls).before args s = true) (hini : (Cond.initialized cls).before args s = true) (hat : ∀ w ∈ vx_at0 own ic cls names, w.before args s = true)
    (hgood : ∀ w ∈ Cond.classLink own ik cls :: Cond.initialized cls :: vx_at0 own ic cls names, vx_ot w = true)
    (hU : vx_Zq Bundle.tN "UNASSIGNED_STACK" Bundle.steD A s s.heap) (hN : vx_Zq Bundle.tN "SUPPRESSED_SENTINEL" Bundle.listD A s s.heap) (hS : va_S A s.heap H locs) (hsize : ls.size = c.maxLocals)
    (d0 : decode cc pc = .ok (.new ik, 3)) (d3 : decode cc (pc + 3) = .ok (.dup, 1)) (d4 : decode cc (pc + 4) = .ok (.invokespecial ic, 3)) (d7 : decode cc (pc + 7) = .ok (.athrow, 1))
    (hout : ∀ x ∈ c.exceptionTable.toList, covers x (pc + 7) = false)
    (hRframes : names.length + 3 < R.frames) (hRlocals : (rest.map fun v => v.category).sum + (13 * (names.length + 1) + 42) ≤ R.locals) (hRcells : cells + 1 ≤ R.cells) (hRslots : slots + 6 ≤ R.slots) (hlocks : meth.locks = false)
    (hx : ∀ t : State, s.vm.Alike t.vm → H.size ≤ t.heap.size → (∀ q : Nat, q < H.size → t.heap[q]? = H[q]?) → XC cls s t)
    (hf : ∀ z ∈ locs, free z.base) (hc : cells + 1 ≤ mc) (hs : slots + 6 ≤ ms) :
    W p l e R s m args below meth c H locs cells slots (vx_MQ below Qc XC args s mc ms free) (F0 m pc ls rest) := by
  intro T hT X
  have htr : e.platform.stackTraces = false := (show e.platform.stackTraces = l.stackTraces by rw [X.admits.platform]).trans hl
  have Y := vx_rebase X (R' := { frames := R.frames, locals := R.locals, cells := 1, slots := 6 }) (Nat.le_refl _) (Nat.le_refl _) hRcells hRslots
  obtain ⟨s', hA⟩ : ∃ z, z = (T.setVm s.vm).setFrames (.invoking m args :: below) := ⟨_, rfl⟩
  rw [← hA] at Y
  have hvm : s'.vm = s.vm := by rw [hA]; rfl
  have hhp : s'.heap = H := by rw [hA]; exact hT
  have hW0 : s.WarmedH s'.vm := by rw [hvm]; exact State.WarmedH.refl s
  have hat' : ∀ w ∈ vx_at0 own ic cls names, w.before args s' = true := fun w hw => vx_ot_at hW0 hvm.symm (hgood w (List.mem_cons_of_mem _ (List.mem_cons_of_mem _ hw))) (hat w hw)
  have hk' : (Cond.classLink own ik cls).before args s' = true := vx_ot_at hW0 hvm.symm (hgood _ List.mem_cons_self) hk
  have hini' : (Cond.initialized cls).before args s' = true := vx_ot_at hW0 hvm.symm (hgood _ (List.mem_cons_of_mem _ List.mem_cons_self)) hini
  have hU' : vx_Zq Bundle.tN "UNASSIGNED_STACK" Bundle.steD A s' s'.heap := by rw [hhp]; exact vx_Zq.moved hW0.alike (hU.kept hS.2.1)
  have hN' : vx_Zq Bundle.tN "SUPPRESSED_SENTINEL" Bundle.listD A s' s'.heap := by rw [hhp]; exact vx_Zq.moved hW0.alike (hN.kept hS.2.1)
  have h : ∀ w ∈ Bundle.ownAtoms0 own ic cls names, w.before args s' = true := vx_own hat' (vx_isRefq hU'.1) (vx_isRefq hN'.1) hU'.2.word hN'.2.word
  have hown' : s'.vm.findClass own = some m.cls := by rw [hvm]; exact hown
  have hins : (Cond.instantiable cls 6).before args s' = true := h _ (by simp [Bundle.ownAtoms0])
  obtain ⟨vm₁, cX, kX, hfX, hkX, -, -, X₁, st1⟩ := Y.newCold hexec (own := own) (C := cls) (index := ik) (n := 6) hown' hk' hins hini'
    (g := F0 m pc ls rest) rfl (by rw [hb]; exact d0) (Nat.le_refl _) (Nat.le_refl _)
  generalize hT1 : (T.setVm vm₁).pushCell { cls := cX, slots := kX.instanceTypes.map defaultValue, vm := .none } = T1 at X₁ st1
  have hcat : (Value.ref T.heap.size).category = 1 := rfl
  have hcellA : T1.heap[T.heap.size]? = some (freshCell cX kX) := by rw [← hT1]; exact State.heap_pushCell_size _ _
  have d3' : decode c.code (pc + 3) = .ok (.dup, 1) := by rw [hb]; exact d3
  obtain ⟨U, hsteps, hrun, hend, hW, hsame, ce, hce, hO⟩ := X₁.ctorThrow0 hexec htr (own := own) (cls := cls) (names := names) (ic := ic) hown' hcls hnames h (fun x hx => nomatch hx) hfX hkX hcellA (by rw [hhp, hT]; exact Nat.le_refl _)
    (g := { method := m, pc := pc + 4, locals := ls, stack := .ref T.heap.size :: .ref T.heap.size :: rest, locked := none }) rfl hsize rfl rfl (rest := rest) rfl
    (by rw [hb]; exact d4) (by rw [hb]; exact d7) hout hRframes (by simp only [List.map_cons, List.sum_cons, hcat]; omega) hlocks
  obtain ⟨f1, f2⟩ := vx_frame hsame
  rw [hhp] at f1 f2
  have hWs : s.WarmedH U.vm := State.WarmedH.trans hW0 hW
  have hcl : s.vm.findClass cls = some ce.cls := by
    have h9 := hO.cls
    rw [hvm] at h9
    exact h9
  have hall : s.sameButNew ({ U with vm := s.vm } : State) locs mc ms := by
    subst hA
    obtain ⟨e1, e2⟩ := hsame
    rw [State.setFrames_setFrames] at e1
    have h2 : (T.setVm s.vm).sameButNew ({ U with vm := s.vm } : State) [] (0 + 1) (0 + 6) := ⟨e1, e2⟩
    have h3 := X.same.trans h2
    rw [List.append_nil] at h3
    exact h3.mono hc hs
  refine ⟨U, ?_, .threw T.heap.size, hrun, hend, Or.inr ⟨T.heap.size, rfl, cls, ce, locs, hx U hWs.alike f1 (fun q hq => f2 q hq (fun z hz => nomatch hz)), hce, hO.vm, hcl, hWs, hall, hf⟩⟩
  refine st1 _ ?_
  show Steps p.tables e below (T1.setTop { method := m, pc := pc + 3, locals := ls, stack := .ref T.heap.size :: rest, locked := none }) _
  jvm_step X₁.here [X₁.here.top, hexec, d3', Value.category]
  exact hsteps
/-- 'throw new E("text")': new; dup; ldc; invokespecial; athrow -/
theorem vx_throwS {cc : ByteArray} {pc : Nat} (hexec : p.tables.exec = Jvm.exec) (hb : c.code = cc) (hl : l.stackTraces = false) {own cls text : String} {names : List String} {ik is ic mc ms sa : Nat} {A : Nat → Prop}
    (hown : s.vm.findClass own = some m.cls) (hcls : Bundle.fit cls = true) (hnames : ∀ n ∈ names, Bundle.fit n = true)
    (hk : (Cond.classLink own ik cls).before args s = true) (hini : (Cond.initialized cls).before args s = true) (hstr : vk_R own is text sa s) (hat : ∀ w ∈ vx_atS own ic cls names, w.before args s = true)
    (hgood : ∀ w ∈ Cond.classLink own ik cls :: Cond.initialized cls :: vx_atS own ic cls names, vx_ot w = true)
    (hU : vx_Zq Bundle.tN "UNASSIGNED_STACK" Bundle.steD A s s.heap) (hN : vx_Zq Bundle.tN "SUPPRESSED_SENTINEL" Bundle.listD A s s.heap) (hS : va_S A s.heap H locs) (hsize : ls.size = c.maxLocals)
    (d0 : decode cc pc = .ok (.new ik, 3)) (d3 : decode cc (pc + 3) = .ok (.dup, 1)) (d4 : decode cc (pc + 4) = .ok (.ldc is, 2)) (d6 : decode cc (pc + 6) = .ok (.invokespecial ic, 3)) (d9 : decode cc (pc + 9) = .ok (.athrow, 1))
    (hout : ∀ x ∈ c.exceptionTable.toList, covers x (pc + 9) = false)
    (hRframes : names.length + 3 < R.frames) (hRlocals : (rest.map fun v => v.category).sum + (13 * (names.length + 1) + 43) ≤ R.locals) (hRcells : cells + 1 ≤ R.cells) (hRslots : slots + 6 ≤ R.slots) (hlocks : meth.locks = false)
    (hx : ∀ t : State, s.vm.Alike t.vm → H.size ≤ t.heap.size → (∀ q : Nat, q < H.size → t.heap[q]? = H[q]?) → XC cls s t)
    (hf : ∀ z ∈ locs, free z.base) (hc : cells + 1 ≤ mc) (hs : slots + 6 ≤ ms) :
    W p l e R s m args below meth c H locs cells slots (vx_MQ below Qc XC args s mc ms free) (F0 m pc ls rest) := by
  intro T hT X
  have htr : e.platform.stackTraces = false := (show e.platform.stackTraces = l.stackTraces by rw [X.admits.platform]).trans hl
  have Y := vx_rebase X (R' := { frames := R.frames, locals := R.locals, cells := 1, slots := 6 }) (Nat.le_refl _) (Nat.le_refl _) hRcells hRslots
  obtain ⟨s', hA⟩ : ∃ z, z = (T.setVm s.vm).setFrames (.invoking m args :: below) := ⟨_, rfl⟩
  rw [← hA] at Y
  have hvm : s'.vm = s.vm := by rw [hA]; rfl
  have hhp : s'.heap = H := by rw [hA]; exact hT
  have hW0 : s.WarmedH s'.vm := by rw [hvm]; exact State.WarmedH.refl s
  have hat' : ∀ w ∈ vx_atS own ic cls names, w.before args s' = true := fun w hw => vx_ot_at hW0 hvm.symm (hgood w (List.mem_cons_of_mem _ (List.mem_cons_of_mem _ hw))) (hat w hw)
  have hk' : (Cond.classLink own ik cls).before args s' = true := vx_ot_at hW0 hvm.symm (hgood _ List.mem_cons_self) hk
  have hini' : (Cond.initialized cls).before args s' = true := vx_ot_at hW0 hvm.symm (hgood _ (List.mem_cons_of_mem _ List.mem_cons_self)) hini
  have hU' : vx_Zq Bundle.tN "UNASSIGNED_STACK" Bundle.steD A s' s'.heap := by rw [hhp]; exact vx_Zq.moved hW0.alike (hU.kept hS.2.1)
  have hN' : vx_Zq Bundle.tN "SUPPRESSED_SENTINEL" Bundle.listD A s' s'.heap := by rw [hhp]; exact vx_Zq.moved hW0.alike (hN.kept hS.2.1)
  have h : ∀ w ∈ Bundle.ownAtoms own ic cls names, w.before args s' = true := vx_own hat' (vx_isRefq hU'.1) (vx_isRefq hN'.1) hU'.2.word hN'.2.word
  have hown' : s'.vm.findClass own = some m.cls := by rw [hvm]; exact hown
  have hins : (Cond.instantiable cls 6).before args s' = true := h _ (by simp [Bundle.ownAtoms])
  obtain ⟨vm₁, cX, kX, hfX, hkX, -, -, X₁, st1⟩ := Y.newCold hexec (own := own) (C := cls) (index := ik) (n := 6) hown' hk' hins hini'
    (g := F0 m pc ls rest) rfl (by rw [hb]; exact d0) (Nat.le_refl _) (Nat.le_refl _)
  generalize hT1 : (T.setVm vm₁).pushCell { cls := cX, slots := kX.instanceTypes.map defaultValue, vm := .none } = T1 at X₁ st1
  have hcat : (Value.ref T.heap.size).category = 1 := rfl
  have hcellA : T1.heap[T.heap.size]? = some (freshCell cX kX) := by rw [← hT1]; exact State.heap_pushCell_size _ _
  have d3' : decode c.code (pc + 3) = .ok (.dup, 1) := by rw [hb]; exact d3
  have d4' : decode c.code (pc + 4) = .ok (.ldc is, 2) := by rw [hb]; exact d4
  have hstr' : vk_R own is text sa s' := vk_R.warm hW0 hstr
  obtain ⟨U, hsteps, hrun, hend, hW, hsame, ce, hce, hO⟩ := X₁.ctorThrowS hexec htr (own := own) (cls := cls) (names := names) (ic := ic) hown' hcls hnames h (fun x hx => nomatch hx) hfX hkX hcellA (by rw [hhp, hT]; exact Nat.le_refl _) (msg := .ref sa) rfl
    (g := { method := m, pc := pc + 6, locals := ls, stack := .ref sa :: .ref T.heap.size :: .ref T.heap.size :: rest, locked := none }) rfl hsize rfl rfl (rest := rest) rfl
    (by rw [hb]; exact d6) (by rw [hb]; exact d9) hout hRframes (by simp only [List.map_cons, List.sum_cons, hcat]; omega) hlocks
  obtain ⟨f1, f2⟩ := vx_frame hsame
  rw [hhp] at f1 f2
  have hWs : s.WarmedH U.vm := State.WarmedH.trans hW0 hW
  have hcl : s.vm.findClass cls = some ce.cls := by
    have h9 := hO.cls
    rw [hvm] at h9
    exact h9
  have hall : s.sameButNew ({ U with vm := s.vm } : State) locs mc ms := by
    subst hA
    obtain ⟨e1, e2⟩ := hsame
    rw [State.setFrames_setFrames] at e1
    have h2 : (T.setVm s.vm).sameButNew ({ U with vm := s.vm } : State) [] (0 + 1) (0 + 6) := ⟨e1, e2⟩
    have h3 := X.same.trans h2
    rw [List.append_nil] at h3
    exact h3.mono hc hs
  refine ⟨U, ?_, .threw T.heap.size, hrun, hend, Or.inr ⟨T.heap.size, rfl, cls, ce, locs, hx U hWs.alike f1 (fun q hq => f2 q hq (fun z hz => nomatch hz)), hce, hO.vm, hcl, hWs, hall, hf⟩⟩
  refine st1 _ ?_
  show Steps p.tables e below (T1.setTop { method := m, pc := pc + 3, locals := ls, stack := .ref T.heap.size :: rest, locked := none }) _
  jvm_step X₁.here [X₁.here.top, hexec, d3', Value.category]
  exact X₁.ldcString hexec (own := own) (text := text) (index := is) (a := sa) hown' hstr'.1 hstr'.2
    (g := { method := m, pc := pc + 4, locals := ls, stack := .ref T.heap.size :: .ref T.heap.size :: rest, locked := none }) rfl d4' _ hsteps
/-- 'throw new E("text")', the text by a wide index -/
theorem vx_throwSW {cc : ByteArray} {pc : Nat} (hexec : p.tables.exec = Jvm.exec) (hb : c.code = cc) (hl : l.stackTraces = false) {own cls text : String} {names : List String} {ik is ic mc ms sa : Nat} {A : Nat → Prop}
    (hown : s.vm.findClass own = some m.cls) (hcls : Bundle.fit cls = true) (hnames : ∀ n ∈ names, Bundle.fit n = true)
    (hk : (Cond.classLink own ik cls).before args s = true) (hini : (Cond.initialized cls).before args s = true) (hstr : vk_R own is text sa s) (hat : ∀ w ∈ vx_atS own ic cls names, w.before args s = true)
    (hgood : ∀ w ∈ Cond.classLink own ik cls :: Cond.initialized cls :: vx_atS own ic cls names, vx_ot w = true)
    (hU : vx_Zq Bundle.tN "UNASSIGNED_STACK" Bundle.steD A s s.heap) (hN : vx_Zq Bundle.tN "SUPPRESSED_SENTINEL" Bundle.listD A s s.heap) (hS : va_S A s.heap H locs) (hsize : ls.size = c.maxLocals)
    (d0 : decode cc pc = .ok (.new ik, 3)) (d3 : decode cc (pc + 3) = .ok (.dup, 1)) (d4 : decode cc (pc + 4) = .ok (.ldc_w is, 3)) (d7 : decode cc (pc + 7) = .ok (.invokespecial ic, 3)) (d10 : decode cc (pc + 10) = .ok (.athrow, 1))
    (hout : ∀ x ∈ c.exceptionTable.toList, covers x (pc + 10) = false)
    (hRframes : names.length + 3 < R.frames) (hRlocals : (rest.map fun v => v.category).sum + (13 * (names.length + 1) + 43) ≤ R.locals) (hRcells : cells + 1 ≤ R.cells) (hRslots : slots + 6 ≤ R.slots) (hlocks : meth.locks = false)
    (hx : ∀ t : State, s.vm.Alike t.vm → H.size ≤ t.heap.size → (∀ q : Nat, q < H.size → t.heap[q]? = H[q]?) → XC cls s t)
    (hf : ∀ z ∈ locs, free z.base) (hc : cells + 1 ≤ mc) (hs : slots + 6 ≤ ms) :
    W p l e R s m args below meth c H locs cells slots (vx_MQ below Qc XC args s mc ms free) (F0 m pc ls rest) := by
  intro T hT X
  have htr : e.platform.stackTraces = false := (show e.platform.stackTraces = l.stackTraces by rw [X.admits.platform]).trans hl
  have Y := vx_rebase X (R' := { frames := R.frames, locals := R.locals, cells := 1, slots := 6 }) (Nat.le_refl _) (Nat.le_refl _) hRcells hRslots
  obtain ⟨s', hA⟩ : ∃ z, z = (T.setVm s.vm).setFrames (.invoking m args :: below) := ⟨_, rfl⟩
  rw [← hA] at Y
  have hvm : s'.vm = s.vm := by rw [hA]; rfl
  have hhp : s'.heap = H := by rw [hA]; exact hT
  have hW0 : s.WarmedH s'.vm := by rw [hvm]; exact State.WarmedH.refl s
  have hat' : ∀ w ∈ vx_atS own ic cls names, w.before args s' = true := fun w hw => vx_ot_at hW0 hvm.symm (hgood w (List.mem_cons_of_mem _ (List.mem_cons_of_mem _ hw))) (hat w hw)
  have hk' : (Cond.classLink own ik cls).before args s' = true := vx_ot_at hW0 hvm.symm (hgood _ List.mem_cons_self) hk
  have hini' : (Cond.initialized cls).before args s' = true := vx_ot_at hW0 hvm.symm (hgood _ (List.mem_cons_of_mem _ List.mem_cons_self)) hini
  have hU' : vx_Zq Bundle.tN "UNASSIGNED_STACK" Bundle.steD A s' s'.heap := by rw [hhp]; exact vx_Zq.moved hW0.alike (hU.kept hS.2.1)
  have hN' : vx_Zq Bundle.tN "SUPPRESSED_SENTINEL" Bundle.listD A s' s'.heap := by rw [hhp]; exact vx_Zq.moved hW0.alike (hN.kept hS.2.1)
  have h : ∀ w ∈ Bundle.ownAtoms own ic cls names, w.before args s' = true := vx_own hat' (vx_isRefq hU'.1) (vx_isRefq hN'.1) hU'.2.word hN'.2.word
  have hown' : s'.vm.findClass own = some m.cls := by rw [hvm]; exact hown
  have hins : (Cond.instantiable cls 6).before args s' = true := h _ (by simp [Bundle.ownAtoms])
  obtain ⟨vm₁, cX, kX, hfX, hkX, -, -, X₁, st1⟩ := Y.newCold hexec (own := own) (C := cls) (index := ik) (n := 6) hown' hk' hins hini'
    (g := F0 m pc ls rest) rfl (by rw [hb]; exact d0) (Nat.le_refl _) (Nat.le_refl _)
  generalize hT1 : (T.setVm vm₁).pushCell { cls := cX, slots := kX.instanceTypes.map defaultValue, vm := .none } = T1 at X₁ st1
  have hcat : (Value.ref T.heap.size).category = 1 := rfl
  have hcellA : T1.heap[T.heap.size]? = some (freshCell cX kX) := by rw [← hT1]; exact State.heap_pushCell_size _ _
  have d3' : decode c.code (pc + 3) = .ok (.dup, 1) := by rw [hb]; exact d3
  have d4' : decode c.code (pc + 4) = .ok (.ldc_w is, 3) := by rw [hb]; exact d4
  have hstr' : vk_R own is text sa s' := vk_R.warm hW0 hstr
  obtain ⟨U, hsteps, hrun, hend, hW, hsame, ce, hce, hO⟩ := X₁.ctorThrowS hexec htr (own := own) (cls := cls) (names := names) (ic := ic) hown' hcls hnames h (fun x hx => nomatch hx) hfX hkX hcellA (by rw [hhp, hT]; exact Nat.le_refl _) (msg := .ref sa) rfl
    (g := { method := m, pc := pc + 7, locals := ls, stack := .ref sa :: .ref T.heap.size :: .ref T.heap.size :: rest, locked := none }) rfl hsize rfl rfl (rest := rest) rfl
    (by rw [hb]; exact d7) (by rw [hb]; exact d10) hout hRframes (by simp only [List.map_cons, List.sum_cons, hcat]; omega) hlocks
  obtain ⟨f1, f2⟩ := vx_frame hsame
  rw [hhp] at f1 f2
  have hWs : s.WarmedH U.vm := State.WarmedH.trans hW0 hW
  have hcl : s.vm.findClass cls = some ce.cls := by
    have h9 := hO.cls
    rw [hvm] at h9
    exact h9
  have hall : s.sameButNew ({ U with vm := s.vm } : State) locs mc ms := by
    subst hA
    obtain ⟨e1, e2⟩ := hsame
    rw [State.setFrames_setFrames] at e1
    have h2 : (T.setVm s.vm).sameButNew ({ U with vm := s.vm } : State) [] (0 + 1) (0 + 6) := ⟨e1, e2⟩
    have h3 := X.same.trans h2
    rw [List.append_nil] at h3
    exact h3.mono hc hs
  refine ⟨U, ?_, .threw T.heap.size, hrun, hend, Or.inr ⟨T.heap.size, rfl, cls, ce, locs, hx U hWs.alike f1 (fun q hq => f2 q hq (fun z hz => nomatch hz)), hce, hO.vm, hcl, hWs, hall, hf⟩⟩
  refine st1 _ ?_
  show Steps p.tables e below (T1.setTop { method := m, pc := pc + 3, locals := ls, stack := .ref T.heap.size :: rest, locked := none }) _
  jvm_step X₁.here [X₁.here.top, hexec, d3', Value.category]
  exact X₁.ldcStringW hexec (own := own) (text := text) (index := is) (a := sa) hown' hstr'.1 hstr'.2
    (g := { method := m, pc := pc + 4, locals := ls, stack := .ref T.heap.size :: .ref T.heap.size :: rest, locked := none }) rfl d4' _ hsteps
end Ends
section Bodies
variable {l : Launch}
theorem vx_ofW {y : MethodName} {ws ws' : List Cond} {rm : Room} {Pc : Array Value → State → Prop} {Qc : Array Value → State → Outcome → State → Prop} {XC : String → State → State → Prop} {mc ms : Nat} {free : Addr → Prop} {cc : ByteArray} {maxL : Nat} {ret : Option FieldType}
    (hy : plainName y.cls = true) (hw : ws = Cond.code y cc maxL ret :: ws')
    (body : ∀ p e s m args below meth c s₁, BodyLoose p l y (headSpec ws rm) cc maxL ret e s m args below meth c s₁ → c.maxLocals = maxL → (∀ x ∈ c.exceptionTable.toList, False) → Pc args s →
      W p l e (headSpec ws rm).room s m args below meth c s.heap [] 0 0 (vx_MQ below Qc XC args s mc ms free) (entryFrame m args maxL)) : vx_Met l y ws rm Pc Qc XC mc ms free := by
  refine MetFree.of_bodyS (code := cc) (maxLocals := maxL) (ret := ret) hy ?_ ?_
  · intro args s m h hn
    obtain ⟨meth, c, h1, h2, h3, h4, h5, h6, -, -⟩ := Cond.code_spec hn (atoms_spec (ws := ws) h _ (by rw [hw]; exact List.mem_cons_self))
    exact ⟨meth, c, h1, h2, h3, h4, h5, h6⟩
  · intro p e s m args below meth c s₁ B hml hP _
    have hh0 : s₁.heap = s.heap := by rw [B.state]; rfl
    have ht : ∀ x ∈ c.exceptionTable.toList, False := by
      obtain ⟨meth9, c9, h1, h2, -, -, -, -, h7, -⟩ := Cond.code_spec B.named (atoms_spec (ws := ws) B.pre _ (by rw [hw]; exact List.mem_cons_self))
      cases Option.some.inj (h1.symm.trans B.method)
      cases Option.some.inj (h2.symm.trans (Stand.of_body B).code)
      intro x hx
      rw [Array.isEmpty_iff.mp h7] at hx
      cases hx
    obtain ⟨t, a1, o, b1, b2, b3⟩ := body p e s m args below meth c s₁ B hml ht hP s₁ hh0 (Stand.of_body B)
    exact ⟨t, o, a1, b1, b2, b3⟩
/-- the table of a body with handlers -/
theorem vx_table {p : Program} {x y : MethodName} {S : Spec} {cc bytes : ByteArray} {maxL maxL' : Nat} {ret ret' : Option FieldType} {e : Env} {s s₁ : State} {m : MethodId} {args : Array Value} {below : List Frame} {meth : Method} {c : Code} {hh : List (Nat × Nat × Nat × Nat)}
    (B : BodyLoose p l y S cc maxL ret e s m args below meth c s₁) (h : (Cond.codeWith y bytes maxL' ret' hh).before args s = true) : c.exceptionTable.toList = tableOf hh := by
  obtain ⟨m9, meth9, c9, hn9, h1, h2, -, -, h6, -⟩ := Cond.codeWith_spec h
  cases Option.some.inj (hn9.symm.trans B.named)
  cases Option.some.inj (h1.symm.trans B.method)
  cases Option.some.inj (h2.symm.trans (Stand.of_body B).code)
  rw [← h6, table_eq]
end Bodies
end VXA
/-! ===== END ===== -/
/-! ===== BEGIN a static call of a method with an exception table ===== -/
section VXS
variable {p : Program} {l : Launch} {e : Env} {R : Room} {s : State} {m : MethodId} {args : Array Value} {below : List Frame} {meth : Method} {c : Code} {T : State} {H : Heap} {locs : List Loc} {cells slots : Nat}
abbrev vx_CSW (R : Room) (s : State) (args : Array Value) (own : String) (index : Nat) (y : MethodName) (bytes : ByteArray) (maxL : Nat) (ret : Option FieldType) (hh : List (Nat × Nat × Nat × Nat)) (ws : List Cond) (rm : Room) (mc ms n : Nat) : Prop :=
  (rm.cells = mc ∧ rm.slots = ms ∧ rm.frames + 1 ≤ R.frames ∧ 8 + (maxL + 11) + rm.locals ≤ R.locals ∧ (∀ w ∈ ws, ∀ (a' : Array Value) (U : State), s.WarmedH U.vm → w.before a' U = true) ∧ Cond.codeWith y bytes maxL ret hh ∈ ws) ∧
  (Cond.codeWith y bytes maxL ret hh).before args s = true ∧ (Cond.initialized y.cls).before args s = true ∧ (y.cls ≠ "java/lang/invoke/MethodHandle" ∧ y.cls ≠ "java/lang/invoke/VarHandle") ∧
  (∀ sig, parseMethodDescriptor y.desc = some sig → n = sig.parameters.length) ∧ (Cond.methodLink own index y).before args s = true ∧ (Cond.static y).before args s = true
theorem vx_cwSW {own : String} {index maxL mc ms : Nat} {y : MethodName} {bytes : ByteArray} {ret : Option FieldType} {hh : List (Nat × Nat × Nat × Nat)} {Ts ws ws' : List Cond} {rm : Room} (n : Nat) (ht : ∀ w ∈ Ts, w.before args s = true) (hT : GoodIn Ts (va_wsS own index y ws)) (hw : ws = Cond.codeWith y bytes maxL ret hh :: ws') (hrc : rm.cells = mc) (hrs : rm.slots = ms)
    (hd : y.cls ≠ "java/lang/invoke/MethodHandle" ∧ y.cls ≠ "java/lang/invoke/VarHandle" ∧ (parseMethodDescriptor y.desc).map (fun d => d.parameters.length) = some n) (hR : rm.frames + 1 ≤ R.frames ∧ 8 + (maxL + 11) + rm.locals ≤ R.locals) :
    vx_CSW R s args own index y bytes maxL ret hh ws rm mc ms n := by
  have ok : ∀ w ∈ va_wsS own index y ws, w.before args s = true := fun w h => ht w (hT w h).1
  have hG : GoodIn Ts ws := fun w h => hT w (by unfold va_wsS; exact List.mem_append_right _ h)
  have hc : Cond.codeWith y bytes maxL ret hh ∈ ws := by rw [hw]; exact List.mem_cons_self
  refine ⟨⟨hrc, hrs, hR.1, hR.2, pay_in ht hG, hc⟩, ht _ (hG _ hc).1, ok _ (by simp [va_wsS]), ⟨hd.1, hd.2.1⟩, fun sig h => ?_, ok _ (by simp [va_wsS]), ok _ (by simp [va_wsS])⟩
  have h2 := hd.2.2
  rw [h] at h2
  exact (Option.some.inj h2).symm
theorem vx_callSW (X : Stand p l e R s m args below meth c T locs cells slots) (hexec : p.tables.exec = Jvm.exec) {own : String} {index : Nat} {y : MethodName} {bytes : ByteArray} {maxL : Nat} {ret : Option FieldType} {hh : List (Nat × Nat × Nat × Nat)}
    (hown : s.vm.findClass own = some m.cls) (hlink : (Cond.methodLink own index y).before args s = true) (hstat : (Cond.static y).before args s = true) (hinit : (Cond.initialized y.cls).before args s = true)
    (hcode : (Cond.codeWith y bytes maxL ret hh).before args s = true) (hy : y.cls ≠ "java/lang/invoke/MethodHandle" ∧ y.cls ≠ "java/lang/invoke/VarHandle")
    {W9 : Nat} {Pre : Pt → Array Value → Prop} {Post : Pt → Array Value → Option Value → Pt → Prop} (hK : Back l R p e below s args y 3 W9 Pre Post)
    {g : JFrame} (hg : g.method = m) (hsize : g.locals.size = c.maxLocals) {argsL rest : List Value} (hlen : ∀ sig, parseMethodDescriptor y.desc = some sig → argsL.length = sig.parameters.length)
    (hstack : g.stack = argsL.reverse ++ rest) (hW : 2 * g.monitorRoom + (rest.map fun v => v.category).sum ≤ W9) (hdg : decode c.code g.pc = .ok (.invokestatic index, 3))
    (hpre : ∀ vm₁, s.WarmedH vm₁ → Pre ⟨T.setVm vm₁, locs, cells, slots⟩ argsL.toArray) :
    ∃ (v : Option Value) (vm₁ : Vm) (B : Pt), s.WarmedH vm₁ ∧ Stand p l e R s m args below meth c B.U B.locs B.cells B.slots ∧ Post ⟨T.setVm vm₁, locs, cells, slots⟩ argsL.toArray v B ∧
      ∀ target, Steps p.tables e below (B.U.setTop { g with pc := g.pc + 3, stack := v.toList ++ rest }) target → Steps p.tables e below (T.setTop g) target := by
  obtain ⟨mk, methM, cM, hnamed, hmethM, -, -, -, -, -, -, hsigM⟩ := Cond.codeWith_spec hcode
  have hstatic : methM.isStatic = true := Cond.static_spec hnamed hmethM hstat
  obtain ⟨kP, hkP, -⟩ := className_of_methodNamed hnamed
  have hinitP : kP.init = .initialized := Cond.initialized_spec (findClass_of_methodNamed hnamed) hkP hinit
  obtain ⟨vm₁, X₁, hstep₁⟩ := X.invokestatic hexec hown hlink hnamed hmethM hstatic hkP hinitP hy (g := g) hg (argsL := argsL) (rest := rest) (hlen _ hsigM) hstack hdg
  obtain ⟨v, B, X', hpost, hsteps⟩ := hK m meth c ⟨T.setVm vm₁, locs, cells, slots⟩ { g with stack := rest } (.invokestatic index) mk argsL.toArray X₁ hg hsize hdg hW (X₁.named hnamed) (hpre vm₁ X₁.warmed)
  exact ⟨v, vm₁, B, X₁.warmed, X', hpost, fun target h => hstep₁ _ fun acts => by rw [doInvoke_state]; exact hsteps.trans h⟩
theorem vx_runSW {y : MethodName} {bytes cc : ByteArray} {maxL nL mc ms n index : Nat} {ret : Option FieldType} {hh : List (Nat × Nat × Nat × Nat)} {ws : List Cond} {rm : Room} {Pc : Array Value → State → Prop} {Qc : Array Value → State → Outcome → State → Prop} {free : Addr → Prop} {Ts : List Cond} {own : String} {As rest : List Value} {g : JFrame}
    (S : CallFix p m c cc nL s args Ts own) (hM : Met l y ws rm Pc Qc mc ms free) (cw : vx_CSW R s args own index y bytes maxL ret hh ws rm mc ms n) (hp : PreS s H Pc As)
    (hg : g.method = m) (hn : As.length = n) (hsize : g.locals.size = nL) (hstack : g.stack = As.reverse ++ rest) (hW : 2 * g.monitorRoom + (rest.map fun v => v.category).sum ≤ 8) (hdg : decode cc g.pc = .ok (.invokestatic index, 3)) (hf : cells + mc ≤ R.cells ∧ slots + ms ≤ R.slots) :
    va_Run p l e R s m args below meth c H locs cells slots mc ms g rest (Qc As.toArray) (free) := by
  obtain ⟨⟨hrc, hrs, hfr, hlo, hws, hcw⟩, hcode, hini, hy, hlen, hl, hstt⟩ := cw
  have hK : Back l R p e below s args y 3 8 (PreOf R mc ms Pc) (PostOf Qc mc ms free) := va_backW (hh := hh) (bytes := bytes) (maxL := maxL) (ret := ret) hM hp.1 hrc hrs hfr hlo hws hcw (fun a' U hW => word_at hW (Or.inl (by first | rfl | simp [Cond.onTables, Cond.keeps, Cond.steady])) hini)
  obtain ⟨hx, hb, hml, ho, -⟩ := S
  intro T hT X
  obtain ⟨v, vm₁, ⟨U', l2, c2, s2⟩, hW₁, X', ⟨g', mk, t, L, e1, e2, hq, h1, hL, h2, h3⟩, st⟩ := vx_callSW X hx (hh := hh) (bytes := bytes) (maxL := maxL) (ret := ret) ho hl hstt hini hcode hy hK hg (hsize.trans hml.symm) (argsL := As) (rest := rest) (fun sig h => hn.trans (hlen sig h)) hstack hW (by rw [hb]; exact hdg)
    (fun vm₁ hW₁ => ⟨hf.1, hf.2, hp.2 (T.setVm vm₁) hT hW₁⟩)
  dsimp only [Pt.U, Pt.locs, Pt.cells, Pt.slots] at X' e1 e2 h1 h2 h3 st
  subst h1; subst h2; subst h3
  exact ⟨v, (T.setVm vm₁).calling g' mk As.toArray, t, U', L, hT, X', hL, e1, e2, hq, st⟩
/-- not caught here, past rows that name other classes: it goes on to the caller -/
theorem vx_outP {p : Program} {l : Launch} {e : Env} {R : Room} {s : State} {m : MethodId} {args : Array Value} {below : List Frame} {meth : Method} {c : Code} {H : Heap} {locs : List Loc} {cells slots : Nat} {free : Addr → Prop} {ls : Array Slot} {rest : List Value} {Qc : Array Value → State → Outcome → State → Prop} {XC : String → State → State → Prop}
    {pc : Nat} {own E : String} {ce : Cell} {q : Addr} {mc ms : Nat} (hown : s.vm.findClass own = some m.cls) (hlocks : meth.locks = false)
    (hpass : ∀ z ∈ c.exceptionTable.toList, covers z pc = false ∨ (z.catchType ≠ 0 ∧ ∃ nm : String, (Cond.classLink own z.catchType nm).before args s = true ∧ va_Nc E nm s)) (hcell : H[q]? = some ce) (hv : ce.vm = .none) (hcl : s.vm.findClass E = some ce.cls)
    (hx : ∀ t : State, t.heap = H → s.vm.Alike t.vm → XC E s t) (hf : ∀ z ∈ locs, free z.base) (hc : cells ≤ mc) (hs : slots ≤ ms) :
    vx_W p l e R s m args below meth c H locs cells slots (vx_MQ below Qc XC args s mc ms free) (F0 m pc ls rest) q := by
  intro T hT X
  have hpl : e.platform.magicAccessors = ({} : Platform).magicAccessors := by rw [X.admits.platform]
  obtain ⟨vm', hW', X', st⟩ := X.outThrough hlocks q (g := F0 m pc ls rest) rfl rfl rfl (cell := ce) (by rw [hT]; exact hcell) (by rw [hv]; rfl)
    (by obtain ⟨k9, h9, -⟩ := Vm.findClass_spec hcl; exact ⟨k9, h9⟩) (fun z hz => by
      rcases hpass z hz with h | ⟨hz0, nm, hl1, hn1⟩
      · exact Or.inl h
      · obtain ⟨c6, hc6, hcl6⟩ := Cond.classLink_spec hown hl1 e.platform hpl
        obtain ⟨a8, b8, h1, h2, h3⟩ := hn1
        cases Option.some.inj (h1.symm.trans hcl)
        cases Option.some.inj (h2.symm.trans hc6)
        exact Or.inr ⟨hz0, _, hcl6, h3⟩)
  obtain ⟨g₀, hfr⟩ := X'.frames_eq
  have hcell9 : ((T.setVm vm').setFrames (.throwing q :: below)).heap[q]? = some ce := by
    show T.heap[q]? = some ce
    rw [hT]; exact hcell
  have hend : Ended ((T.setVm vm').setFrames (.throwing q :: below)) below (.threw q) := State.frames_setFrames _ (State.cur_lt_of_frames hfr)
  refine ⟨(T.setVm vm').setFrames (.throwing q :: below), ?_, .threw q, X'.here.running, hend, Or.inr ⟨q, rfl, E, ce, locs, hx _ hT (X'.ends _).1.alike, hcell9, hv, hcl, (X'.ends _).1, (X'.ends _).2.mono hc hs, hf⟩⟩
  rw [X.pushThrowing_eq]
  exact st
/-- a thing of a world lies in the heap -/
theorem vx_lt {D : va_G} {cl : List vw_C} {ws : va_W} {H1 : Heap} (h : va_P D cl ws H1) {k : Nat} {q : Nat × va_E} (hk : ws[k]? = some q) : q.1 < H1.size := (h k q hk).lt
end VXS
/-! ===== END ===== -/
/-! ===== BEGIN methods with a table of their own: called by a name, returning or throwing ===== -/
section VXH
/-! vx_backW, vx_callVX, vx_callSX, vx_callVW, vx_runVW, vx_runVX, vx_runSX, vx_ofWH follow the same proofs as their sisters above (Free/Laws.lean, Shelf42/LK1.lean); vx_outP calls Shelf42/NT130.lean (outThrough). -/
section
variable {l : Launch} {R : Room} {p : Program} {e : Env} {below : List Frame} {s : State} {sargs : Array Value} {y : MethodName} {len W9 : Nat}
theorem vx_backW {ws : List Cond} {rm : Room} {Pc : Array Value → State → Prop} {Qc : Array Value → State → Outcome → State → Prop} {XC : String → State → State → Prop} {mc ms : Nat} {free : Addr → Prop} {bytes : ByteArray} {maxL : Nat} {ret : Option FieldType} {hh : List (Nat × Nat × Nat × Nat)}
    (hM : vx_Met l y ws rm Pc Qc XC mc ms free) (hblind : FrameBlind Pc) (hrc : rm.cells = mc) (hrs : rm.slots = ms)
    (hframes : rm.frames + 1 ≤ R.frames) (hlocals : W9 + (maxL + 11) + rm.locals ≤ R.locals)
    (hws : ∀ w ∈ ws, ∀ a' U, s.WarmedH U.vm → w.before a' U = true) (hcode : Cond.codeWith y bytes maxL ret hh ∈ ws) (hinit : ∀ a' U, s.WarmedH U.vm → (Cond.initialized y.cls).before a' U = true) :
    vx_Back l R p e below s sargs y len W9 (PreOf R mc ms Pc) (PostOf Qc mc ms free) (vx_Post XC mc ms free) := by
  intro m meth c A g ig mk a X hg hsize hdg hW hn hp
  have h1 : (headSpec ws rm).pre.before a A.U = true := atoms_intro fun w hw => hws w hw _ _ X.warmed
  have h2 : (Cond.codeWith y bytes maxL ret hh).before a A.U = true := hws _ hcode _ _ X.warmed
  have h3 : (Cond.initialized y.cls).before a A.U = true := hinit _ _ X.warmed
  have h4 : A.cells + (headSpec ws rm).room.cells ≤ R.cells := by rw [show (headSpec ws rm).room.cells = mc from hrc]; exact hp.1
  have h5 : A.slots + (headSpec ws rm).room.slots ≤ R.slots := by rw [show (headSpec ws rm).room.slots = ms from hrs]; exact hp.2.1
  have hPc : Pc a (A.U.calling g mk a) := hblind _ _ _ _ hp.2.2
  obtain ⟨U, Ls, c0, s0⟩ := A
  dsimp only [Pt.U, Pt.locs, Pt.cells, Pt.slots] at h1 h2 h3 h4 h5 X hn hPc ⊢
  obtain ⟨m9, methY, cY, hn9, hmY, hcY, -, hlY, -⟩ := Cond.codeWith_spec h2
  cases Option.some.inj (hn9.symm.trans hn)
  obtain ⟨kY, hkY, -⟩ := className_of_methodNamed hn
  have hinitY : kY.init = .initialized := Cond.initialized_spec (findClass_of_methodNamed hn) hkY h3
  have h : At U g.method c below := by rw [hg]; exact X.here
  have hlocals9 : W9 + (maxL + 11) + (headSpec ws rm).room.locals ≤ R.locals := hlocals
  have happ : (headSpec ws rm).appliesLoose y e.platform (U.calling g mk a) = true :=
    Spec.appliesLoose_calling (g := g) h hdg hn hkY hinitY
      (X.room_calling (g := g) (R' := (headSpec ws rm).room) hsize hmY hcY hframes (by rw [hlY]; omega) h4 h5) h1
  obtain ⟨mid, hmid⟩ := h.above
  have hfr : (U.setTop g).frames = (.java g :: mid) ++ below := by rw [State.frames_setTop' g h.top, hmid]; rfl
  obtain ⟨o, s₂, hsteps, -, hend, hq⟩ := Steps.callFree hM p X.admits X.cas X.clock (acts := []) hfr happ hPc trivial
  have hq' : vx_Q Qc XC mc ms free a (U.calling g mk a) o s₂ := hq
  rw [State.frames_setTop' g h.top] at hend
  obtain ⟨g₀, hg0⟩ := Option.isSome_iff_exists.mp h.top
  obtain ⟨r, hr⟩ := State.topJava?_eq_some.mp hg0
  have hr' : (({ U with heap := s₂.heap, slotsUsed := s₂.slotsUsed } : State).setVm s₂.vm).frames = .java g₀ :: r := hr
  rcases hq' with ⟨hqc, L, hfe, hL⟩ | ⟨q, rfl, E, ce, L, hx, hce, hcv, hcl, hW₂, hsm, hL⟩
  · obtain ⟨⟨v, rfl⟩, hW₂, e2, q2, q3, q4, q5, q6⟩ := id hfe
    have e3 : s₂ = ({ (U.calling g mk a).setFrames s₂.frames with heap := s₂.heap, slotsUsed := s₂.slotsUsed } : State).setVm s₂.vm := by
      have : s₂ = ({ s₂ with vm := (U.calling g mk a).vm } : State).setVm s₂.vm := rfl
      rw [e2] at this
      exact this
    obtain ⟨c₂, i₂, len₂, hc₂, hd₂, hf₂⟩ := hend
    have hW' : U.WarmedH s₂.vm := hW₂
    have hcc : c₂ = c := by
      have h1 : s₂.code? g.method = U.code? g.method := by
        rw [State.code?_eq, State.code?_eq, hW'.alike.method?]
      exact Option.some.inj (hc₂.symm.trans (h1.trans h.code))
    subst hcc
    have hlen : len₂ = len := by rw [hdg] at hd₂; cases hd₂; rfl
    subst hlen
    have hs₂ : s₂ = (({ U with heap := s₂.heap, slotsUsed := s₂.slotsUsed } : State).setVm s₂.vm).setTop { g with pc := g.pc + len₂, stack := v.toList ++ g.stack } := by
      refine e3.trans ?_
      rw [hf₂, State.calling_eq h.top, State.setFrames_setFrames, State.setTop_of_frames _ hr', hr]
      rfl
    have hsame : U.sameButNew ({ U with heap := s₂.heap, slotsUsed := s₂.slotsUsed } : State) L mc ms := by
      refine ⟨?_, q2, q3, q4, q5, q6⟩
      obtain ⟨t, ht, -⟩ := State.frames_cons hr
      show ({ U with heap := s₂.heap, slotsUsed := s₂.slotsUsed } : State) = { U.setFrames U.frames with heap := s₂.heap, slotsUsed := s₂.slotsUsed }
      rw [State.setFrames_self ht]
    subst hg
    refine Or.inl ⟨v, ⟨(({ U with heap := s₂.heap, slotsUsed := s₂.slotsUsed } : State).setVm s₂.vm), Ls ++ L, c0 + mc, s0 + ms⟩,
      ⟨X.admits, X.cas, X.clock, X.frames, X.room, X.hears, X.method, X.code, (X.here.setHeapUsed s₂.heap s₂.slotsUsed).setVm hW'.alike, X.tail, State.WarmedH.trans X.warmed hW', X.limits, X.bytes, X.same.trans (hsame.setVm s.vm)⟩,
      ⟨g, mk, s₂, L, rfl, rfl, hqc, rfl, hL, rfl, rfl⟩, ?_⟩
    show Steps p.tables e below _ ((({ U with heap := s₂.heap, slotsUsed := s₂.slotsUsed } : State).setVm s₂.vm).setTop { g with pc := g.pc + len₂, stack := v.toList ++ g.stack })
    rw [← hs₂]
    exact hsteps
  · obtain ⟨e2, q2, q3, q4, q5, q6⟩ := id hsm
    have e3 : s₂ = ({ (U.calling g mk a).setFrames s₂.frames with heap := s₂.heap, slotsUsed := s₂.slotsUsed } : State).setVm s₂.vm := by
      have : s₂ = ({ s₂ with vm := (U.calling g mk a).vm } : State).setVm s₂.vm := rfl
      rw [e2] at this
      exact this
    have hf₂ : s₂.frames = .throwing q :: .java g :: U.frames.tail := hend
    have hW' : U.WarmedH s₂.vm := hW₂
    have hs₂ : s₂ = ((({ U with heap := s₂.heap, slotsUsed := s₂.slotsUsed } : State).setVm s₂.vm).setTop g).pushFrame (.throwing q) := by
      refine e3.trans ?_
      rw [hf₂, State.calling_eq h.top, State.setFrames_setFrames, State.pushFrame, State.frames_setTop _ hr', State.setTop_of_frames _ hr', State.setFrames_setFrames, hr]
      rfl
    have hsame : U.sameButNew ({ U with heap := s₂.heap, slotsUsed := s₂.slotsUsed } : State) L mc ms := by
      refine ⟨?_, q2, q3, q4, q5, q6⟩
      obtain ⟨t, ht, -⟩ := State.frames_cons hr
      show ({ U with heap := s₂.heap, slotsUsed := s₂.slotsUsed } : State) = { U.setFrames U.frames with heap := s₂.heap, slotsUsed := s₂.slotsUsed }
      rw [State.setFrames_self ht]
    subst hg
    refine Or.inr ⟨q, ⟨(({ U with heap := s₂.heap, slotsUsed := s₂.slotsUsed } : State).setVm s₂.vm), Ls ++ L, c0 + mc, s0 + ms⟩,
      ⟨X.admits, X.cas, X.clock, X.frames, X.room, X.hears, X.method, X.code, (X.here.setHeapUsed s₂.heap s₂.slotsUsed).setVm hW'.alike, X.tail, State.WarmedH.trans X.warmed hW', X.limits, X.bytes, X.same.trans (hsame.setVm s.vm)⟩,
      ⟨g, mk, s₂, L, E, ce, rfl, rfl, hx, hce, hcv, hcl, rfl, hL, rfl, rfl⟩, ?_⟩
    show Steps p.tables e below _ (((({ U with heap := s₂.heap, slotsUsed := s₂.slotsUsed } : State).setVm s₂.vm).setTop g).pushFrame (.throwing q))
    rw [← hs₂]
    exact hsteps
end
variable {p : Program} {l : Launch} {e : Env} {R : Room} {s : State} {m : MethodId} {args : Array Value} {below : List Frame} {meth : Method} {c : Code} {T : State} {H : Heap} {locs : List Loc} {cells slots : Nat}
theorem vx_callVX (X : Stand p l e R s m args below meth c T locs cells slots) (hexec : p.tables.exec = Jvm.exec) {own C : String} {index : Nat} {y : MethodName} {bytes : ByteArray} {maxL : Nat} {ret : Option FieldType} {hh : List (Nat × Nat × Nat × Nat)}
    (hown : s.vm.findClass own = some m.cls) (hlink : (Cond.methodLink own index y).before args s = true) (hinst : (Cond.instanceMethod y).before args s = true) (hsel : (Cond.selects C y y).before args s = true)
    (hcode : (Cond.codeWith y bytes maxL ret hh).before args s = true) (hy : y.cls ≠ "java/lang/invoke/MethodHandle" ∧ y.cls ≠ "java/lang/invoke/VarHandle")
    {W9 : Nat} {Pre : Pt → Array Value → Prop} {Post : Pt → Array Value → Option Value → Pt → Prop} {PostX : Pt → Array Value → Addr → Pt → Prop} (hK : vx_Back l R p e below s args y 3 W9 Pre Post PostX)
    {b : Addr} {cellB : Cell} (hcell : T.heap[b]? = some cellB) (hobj : cellB.vm.isStatics = false) (hcls : s.vm.findClass C = some cellB.cls)
    {g : JFrame} (hg : g.method = m) (hsize : g.locals.size = c.maxLocals) {argsL rest : List Value} (hlen : ∀ sig, parseMethodDescriptor y.desc = some sig → argsL.length = sig.parameters.length)
    (hstack : g.stack = argsL.reverse ++ .ref b :: rest) (hW : 2 * g.monitorRoom + (rest.map fun v => v.category).sum ≤ W9) (hdg : decode c.code g.pc = .ok (.invokevirtual index, 3))
    (hpre : ∀ vm₁, s.WarmedH vm₁ → Pre ⟨T.setVm vm₁, locs, cells, slots⟩ (Value.ref b :: argsL).toArray) :
    (∃ (v : Option Value) (vm₁ : Vm) (B : Pt), s.WarmedH vm₁ ∧ Stand p l e R s m args below meth c B.U B.locs B.cells B.slots ∧ Post ⟨T.setVm vm₁, locs, cells, slots⟩ (Value.ref b :: argsL).toArray v B ∧
      ∀ target, Steps p.tables e below (B.U.setTop { g with pc := g.pc + 3, stack := v.toList ++ rest }) target → Steps p.tables e below (T.setTop g) target) ∨
    (∃ (q : Addr) (vm₁ : Vm) (B : Pt), s.WarmedH vm₁ ∧ Stand p l e R s m args below meth c B.U B.locs B.cells B.slots ∧ PostX ⟨T.setVm vm₁, locs, cells, slots⟩ (Value.ref b :: argsL).toArray q B ∧
      Steps p.tables e below (T.setTop g) ((B.U.setTop { g with stack := rest }).pushFrame (.throwing q))) := by
  obtain ⟨mk, methM, hnamed, hmethM, hstM, habM⟩ := Cond.instanceMethod_spec hinst
  obtain ⟨m8, methM', cM, hn8, hmethM', -, -, -, -, -, -, hsigM⟩ := Cond.codeWith_spec hcode
  cases Option.some.inj (hn8.symm.trans hnamed)
  cases hmethM.symm.trans hmethM'
  obtain ⟨c2, r2, m2, q1, q2, q3, q4, kP, hkP, hkPi⟩ := Cond.selects_spec hsel
  cases hcls.symm.trans q1
  cases (State.methodFound?_of_named hnamed hy).symm.trans q2
  cases hnamed.symm.trans q3
  have hselP : selectMethod e.platform s.vm cellB.cls mk = .method mk := by rw [Launch.admits_selectMethod X.admits]; exact q4
  obtain ⟨vm₁, X₁, hstep₁⟩ := X.invokevirtual hexec hown hlink hnamed hmethM hstM hkP hkPi hy (a := b) (cell := cellB) hcell
    (fun z h => by rw [h] at hobj; cases hobj) hselP hmethM habM hkP hkPi (g := g) hg (argsL := argsL) (rest := rest) (hlen _ hsigM) hstack hdg
  rcases hK m meth c ⟨T.setVm vm₁, locs, cells, slots⟩ { g with stack := rest } (.invokevirtual index) mk (Value.ref b :: argsL).toArray X₁ hg hsize hdg hW (X₁.named hnamed) (hpre vm₁ X₁.warmed) with ⟨v, B, X', hpost, hsteps⟩ | ⟨q, B, X', hpost, hsteps⟩
  · exact Or.inl ⟨v, vm₁, B, X₁.warmed, X', hpost, fun target h => hstep₁ _ fun acts => by rw [doInvoke_state]; exact hsteps.trans h⟩
  · exact Or.inr ⟨q, vm₁, B, X₁.warmed, X', hpost, hstep₁ _ fun acts => by rw [doInvoke_state]; exact hsteps⟩
theorem vx_callSX (X : Stand p l e R s m args below meth c T locs cells slots) (hexec : p.tables.exec = Jvm.exec) {own : String} {index : Nat} {y : MethodName} {bytes : ByteArray} {maxL : Nat} {ret : Option FieldType} {hh : List (Nat × Nat × Nat × Nat)}
    (hown : s.vm.findClass own = some m.cls) (hlink : (Cond.methodLink own index y).before args s = true) (hstat : (Cond.static y).before args s = true) (hinit : (Cond.initialized y.cls).before args s = true)
    (hcode : (Cond.codeWith y bytes maxL ret hh).before args s = true) (hy : y.cls ≠ "java/lang/invoke/MethodHandle" ∧ y.cls ≠ "java/lang/invoke/VarHandle")
    {W9 : Nat} {Pre : Pt → Array Value → Prop} {Post : Pt → Array Value → Option Value → Pt → Prop} {PostX : Pt → Array Value → Addr → Pt → Prop} (hK : vx_Back l R p e below s args y 3 W9 Pre Post PostX)
    {g : JFrame} (hg : g.method = m) (hsize : g.locals.size = c.maxLocals) {argsL rest : List Value} (hlen : ∀ sig, parseMethodDescriptor y.desc = some sig → argsL.length = sig.parameters.length)
    (hstack : g.stack = argsL.reverse ++ rest) (hW : 2 * g.monitorRoom + (rest.map fun v => v.category).sum ≤ W9) (hdg : decode c.code g.pc = .ok (.invokestatic index, 3))
    (hpre : ∀ vm₁, s.WarmedH vm₁ → Pre ⟨T.setVm vm₁, locs, cells, slots⟩ argsL.toArray) :
    (∃ (v : Option Value) (vm₁ : Vm) (B : Pt), s.WarmedH vm₁ ∧ Stand p l e R s m args below meth c B.U B.locs B.cells B.slots ∧ Post ⟨T.setVm vm₁, locs, cells, slots⟩ argsL.toArray v B ∧
      ∀ target, Steps p.tables e below (B.U.setTop { g with pc := g.pc + 3, stack := v.toList ++ rest }) target → Steps p.tables e below (T.setTop g) target) ∨
    (∃ (q : Addr) (vm₁ : Vm) (B : Pt), s.WarmedH vm₁ ∧ Stand p l e R s m args below meth c B.U B.locs B.cells B.slots ∧ PostX ⟨T.setVm vm₁, locs, cells, slots⟩ argsL.toArray q B ∧
      Steps p.tables e below (T.setTop g) ((B.U.setTop { g with stack := rest }).pushFrame (.throwing q))) := by
  obtain ⟨mk, methM, cM, hnamed, hmethM, -, -, -, -, -, -, hsigM⟩ := Cond.codeWith_spec hcode
  have hstatic : methM.isStatic = true := Cond.static_spec hnamed hmethM hstat
  obtain ⟨kP, hkP, -⟩ := className_of_methodNamed hnamed
  have hinitP : kP.init = .initialized := Cond.initialized_spec (findClass_of_methodNamed hnamed) hkP hinit
  obtain ⟨vm₁, X₁, hstep₁⟩ := X.invokestatic hexec hown hlink hnamed hmethM hstatic hkP hinitP hy (g := g) hg (argsL := argsL) (rest := rest) (hlen _ hsigM) hstack hdg
  rcases hK m meth c ⟨T.setVm vm₁, locs, cells, slots⟩ { g with stack := rest } (.invokestatic index) mk argsL.toArray X₁ hg hsize hdg hW (X₁.named hnamed) (hpre vm₁ X₁.warmed) with ⟨v, B, X', hpost, hsteps⟩ | ⟨q, B, X', hpost, hsteps⟩
  · exact Or.inl ⟨v, vm₁, B, X₁.warmed, X', hpost, fun target h => hstep₁ _ fun acts => by rw [doInvoke_state]; exact hsteps.trans h⟩
  · exact Or.inr ⟨q, vm₁, B, X₁.warmed, X', hpost, hstep₁ _ fun acts => by rw [doInvoke_state]; exact hsteps⟩
theorem vx_callVW (X : Stand p l e R s m args below meth c T locs cells slots) (hexec : p.tables.exec = Jvm.exec) {own C : String} {index : Nat} {y : MethodName} {bytes : ByteArray} {maxL : Nat} {ret : Option FieldType} {hh : List (Nat × Nat × Nat × Nat)}
    (hown : s.vm.findClass own = some m.cls) (hlink : (Cond.methodLink own index y).before args s = true) (hinst : (Cond.instanceMethod y).before args s = true) (hsel : (Cond.selects C y y).before args s = true)
    (hcode : (Cond.codeWith y bytes maxL ret hh).before args s = true) (hy : y.cls ≠ "java/lang/invoke/MethodHandle" ∧ y.cls ≠ "java/lang/invoke/VarHandle")
    {W9 : Nat} {Pre : Pt → Array Value → Prop} {Post : Pt → Array Value → Option Value → Pt → Prop} (hK : Back l R p e below s args y 3 W9 Pre Post)
    {b : Addr} {cellB : Cell} (hcell : T.heap[b]? = some cellB) (hobj : cellB.vm.isStatics = false) (hcls : s.vm.findClass C = some cellB.cls)
    {g : JFrame} (hg : g.method = m) (hsize : g.locals.size = c.maxLocals) {argsL rest : List Value} (hlen : ∀ sig, parseMethodDescriptor y.desc = some sig → argsL.length = sig.parameters.length)
    (hstack : g.stack = argsL.reverse ++ .ref b :: rest) (hW : 2 * g.monitorRoom + (rest.map fun v => v.category).sum ≤ W9) (hdg : decode c.code g.pc = .ok (.invokevirtual index, 3))
    (hpre : ∀ vm₁, s.WarmedH vm₁ → Pre ⟨T.setVm vm₁, locs, cells, slots⟩ (Value.ref b :: argsL).toArray) :
    ∃ (v : Option Value) (vm₁ : Vm) (B : Pt), s.WarmedH vm₁ ∧ Stand p l e R s m args below meth c B.U B.locs B.cells B.slots ∧ Post ⟨T.setVm vm₁, locs, cells, slots⟩ (Value.ref b :: argsL).toArray v B ∧
      ∀ target, Steps p.tables e below (B.U.setTop { g with pc := g.pc + 3, stack := v.toList ++ rest }) target → Steps p.tables e below (T.setTop g) target := by
  obtain ⟨mk, methM, hnamed, hmethM, hstM, habM⟩ := Cond.instanceMethod_spec hinst
  obtain ⟨m8, methM', cM, hn8, hmethM', -, -, -, -, -, -, hsigM⟩ := Cond.codeWith_spec hcode
  cases Option.some.inj (hn8.symm.trans hnamed)
  cases hmethM.symm.trans hmethM'
  obtain ⟨c2, r2, m2, q1, q2, q3, q4, kP, hkP, hkPi⟩ := Cond.selects_spec hsel
  cases hcls.symm.trans q1
  cases (State.methodFound?_of_named hnamed hy).symm.trans q2
  cases hnamed.symm.trans q3
  have hselP : selectMethod e.platform s.vm cellB.cls mk = .method mk := by rw [Launch.admits_selectMethod X.admits]; exact q4
  obtain ⟨vm₁, X₁, hstep₁⟩ := X.invokevirtual hexec hown hlink hnamed hmethM hstM hkP hkPi hy (a := b) (cell := cellB) hcell
    (fun z h => by rw [h] at hobj; cases hobj) hselP hmethM habM hkP hkPi (g := g) hg (argsL := argsL) (rest := rest) (hlen _ hsigM) hstack hdg
  obtain ⟨v, B, X', hpost, hsteps⟩ := hK m meth c ⟨T.setVm vm₁, locs, cells, slots⟩ { g with stack := rest } (.invokevirtual index) mk (Value.ref b :: argsL).toArray X₁ hg hsize hdg hW (X₁.named hnamed) (hpre vm₁ X₁.warmed)
  exact ⟨v, vm₁, B, X₁.warmed, X', hpost, fun target h => hstep₁ _ fun acts => by rw [doInvoke_state]; exact hsteps.trans h⟩
abbrev vx_CVW (R : Room) (s : State) (args : Array Value) (own C : String) (index : Nat) (y : MethodName) (bytes : ByteArray) (maxL : Nat) (ret : Option FieldType) (hh : List (Nat × Nat × Nat × Nat)) (ws : List Cond) (rm : Room) (mc ms n : Nat) : Prop :=
  (rm.cells = mc ∧ rm.slots = ms ∧ rm.frames + 1 ≤ R.frames ∧ 8 + (maxL + 11) + rm.locals ≤ R.locals ∧ (∀ w ∈ ws, ∀ (a' : Array Value) (U : State), s.WarmedH U.vm → w.before a' U = true) ∧ Cond.codeWith y bytes maxL ret hh ∈ ws) ∧
  (Cond.codeWith y bytes maxL ret hh).before args s = true ∧ (Cond.initialized y.cls).before args s = true ∧ (y.cls ≠ "java/lang/invoke/MethodHandle" ∧ y.cls ≠ "java/lang/invoke/VarHandle") ∧
  (∀ sig, parseMethodDescriptor y.desc = some sig → n = sig.parameters.length) ∧ (Cond.methodLink own index y).before args s = true ∧ (Cond.instanceMethod y).before args s = true ∧ (Cond.selects C y y).before args s = true
theorem vx_cwVW {own C : String} {index maxL mc ms : Nat} {y : MethodName} {bytes : ByteArray} {ret : Option FieldType} {hh : List (Nat × Nat × Nat × Nat)} {Ts ws ws' : List Cond} {rm : Room} (n : Nat) (ht : ∀ w ∈ Ts, w.before args s = true) (hT : GoodIn Ts (wsV own index C y ws)) (hw : ws = Cond.codeWith y bytes maxL ret hh :: ws') (hrc : rm.cells = mc) (hrs : rm.slots = ms)
    (hd : y.cls = C ∧ y.cls ≠ "java/lang/invoke/MethodHandle" ∧ y.cls ≠ "java/lang/invoke/VarHandle" ∧ (parseMethodDescriptor y.desc).map (fun d => d.parameters.length) = some n) (hR : rm.frames + 1 ≤ R.frames ∧ 8 + (maxL + 11) + rm.locals ≤ R.locals) :
    vx_CVW R s args own C index y bytes maxL ret hh ws rm mc ms n := by
  obtain ⟨hC, hd⟩ := hd
  subst hC
  have ok : ∀ w ∈ wsV own index y.cls y ws, w.before args s = true := fun w h => ht w (hT w h).1
  have hG : GoodIn Ts ws := fun w h => hT w (by unfold wsV; exact List.mem_append_right _ h)
  have hc : Cond.codeWith y bytes maxL ret hh ∈ ws := by rw [hw]; exact List.mem_cons_self
  refine ⟨⟨hrc, hrs, hR.1, hR.2, pay_in ht hG, hc⟩, ht _ (hG _ hc).1, ok _ (by simp [wsV]), ⟨hd.1, hd.2.1⟩, fun sig h => ?_, ok _ (by simp [wsV]), ok _ (by simp [wsV]), ok _ (by simp [wsV])⟩
  have h2 := hd.2.2
  rw [h] at h2
  exact (Option.some.inj h2).symm
theorem vx_runVW {y : MethodName} {bytes cc : ByteArray} {maxL nL mc ms n index : Nat} {ret : Option FieldType} {hh : List (Nat × Nat × Nat × Nat)} {ws : List Cond} {rm : Room} {Pc : Array Value → State → Prop} {Qc : Array Value → State → Outcome → State → Prop} {free : Addr → Prop} {Ts : List Cond} {own C : String} {b : Addr} {As rest : List Value} {g : JFrame}
    (S : CallFix p m c cc nL s args Ts own) (hM : Met l y ws rm Pc Qc mc ms free) (cw : vx_CVW R s args own C index y bytes maxL ret hh ws rm mc ms n) (hp : PreV s H C b Pc As)
    (hg : g.method = m) (hn : As.length = n) (hsize : g.locals.size = nL) (hstack : g.stack = As.reverse ++ .ref b :: rest) (hW : 2 * g.monitorRoom + (rest.map fun v => v.category).sum ≤ 8) (hdg : decode cc g.pc = .ok (.invokevirtual index, 3)) (hf : cells + mc ≤ R.cells ∧ slots + ms ≤ R.slots) :
    va_Run p l e R s m args below meth c H locs cells slots mc ms g rest (Qc (Value.ref b :: As).toArray) free := by
  obtain ⟨⟨hrc, hrs, hfr, hlo, hws, hcw⟩, hcode, hini, hy, hlen, hl, hin, hse⟩ := cw
  have hK : Back l R p e below s args y 3 8 (PreOf R mc ms Pc) (PostOf Qc mc ms free) := va_backW (hh := hh) (bytes := bytes) (maxL := maxL) (ret := ret) hM hp.1 hrc hrs hfr hlo hws hcw (fun a' U hW => word_at hW (Or.inl (by first | rfl | simp [Cond.onTables, Cond.keeps, Cond.steady])) hini)
  obtain ⟨hx, hb, hml, ho, -⟩ := S
  obtain ⟨-, ⟨cellB, hcB, hoB, hclB⟩, hPc⟩ := hp
  intro T hT X
  obtain ⟨v, vm₁, ⟨U', l2, c2, s2⟩, hW₁, X', ⟨g', mk, t, L, e1, e2, hq, h1, hL, h2, h3⟩, st⟩ := vx_callVW X hx (C := C) (hh := hh) (bytes := bytes) (maxL := maxL) (ret := ret) ho hl hin hse hcode hy hK (by rw [hT]; exact hcB) hoB hclB hg (hsize.trans hml.symm) (argsL := As) (rest := rest) (fun sig h => hn.trans (hlen sig h)) hstack hW (by rw [hb]; exact hdg)
    (fun vm₁ hW₁ => ⟨hf.1, hf.2, hPc (T.setVm vm₁) hT hW₁⟩)
  dsimp only [Pt.U, Pt.locs, Pt.cells, Pt.slots] at X' e1 e2 h1 h2 h3 st
  subst h1; subst h2; subst h3
  exact ⟨v, (T.setVm vm₁).calling g' mk (Value.ref b :: As).toArray, t, U', L, hT, X', hL, e1, e2, hq, st⟩
section
variable {y : MethodName} {bytes cc : ByteArray} {maxL nL mc ms n index : Nat} {ret : Option FieldType} {ws : List Cond} {rm : Room} {Pc : Array Value → State → Prop} {Qc : Array Value → State → Outcome → State → Prop} {XC : String → State → State → Prop} {free : Addr → Prop} {Ts : List Cond} {own C : String} {b : Addr} {As rest : List Value} {g : JFrame}
theorem vx_runVX {hh : List (Nat × Nat × Nat × Nat)} (S : CallFix p m c cc nL s args Ts own) (hM : vx_Met l y ws rm Pc Qc XC mc ms free) (cw : vx_CVW R s args own C index y bytes maxL ret hh ws rm mc ms n) (hp : PreV s H C b Pc As)
    (hg : g.method = m) (hn : As.length = n) (hsize : g.locals.size = nL) (hstack : g.stack = As.reverse ++ .ref b :: rest) (hW : 2 * g.monitorRoom + (rest.map fun v => v.category).sum ≤ 8) (hdg : decode cc g.pc = .ok (.invokevirtual index, 3)) (hf : cells + mc ≤ R.cells ∧ slots + ms ≤ R.slots) :
    vx_Run p l e R s m args below meth c H locs cells slots mc ms g rest (Qc (Value.ref b :: As).toArray) XC free := by
  obtain ⟨⟨hrc, hrs, hfr, hlo, hws, hcw⟩, hcode, hini, hy, hlen, hl, hin, hse⟩ := cw
  have hK : vx_Back l R p e below s args y 3 8 (PreOf R mc ms Pc) (PostOf Qc mc ms free) (vx_Post XC mc ms free) := vx_backW (hh := hh) (bytes := bytes) (maxL := maxL) (ret := ret) hM hp.1 hrc hrs hfr hlo hws hcw (fun a' U hW => word_at hW (Or.inl (by first | rfl | simp [Cond.onTables, Cond.keeps, Cond.steady])) hini)
  obtain ⟨hx, hb, hml, ho, -⟩ := S
  obtain ⟨-, ⟨cellB, hcB, hoB, hclB⟩, hPc⟩ := hp
  intro T hT X
  rcases vx_callVX X hx (C := C) (hh := hh) (bytes := bytes) (maxL := maxL) (ret := ret) ho hl hin hse hcode hy hK (by rw [hT]; exact hcB) hoB hclB hg (hsize.trans hml.symm) (argsL := As) (rest := rest) (fun sig h => hn.trans (hlen sig h)) hstack hW (by rw [hb]; exact hdg)
    (fun vm₁ hW₁ => ⟨hf.1, hf.2, hPc (T.setVm vm₁) hT hW₁⟩) with ⟨v, vm₁, ⟨U', l2, c2, s2⟩, hW₁, X', ⟨g', mk, t, L, e1, e2, hq, h1, hL, h2, h3⟩, st⟩ | ⟨q, vm₁, ⟨U', l2, c2, s2⟩, hW₁, X', ⟨g', mk, t, L, E, ce, e1, e2, hq, hce, hcv, hcl, h1, hL, h2, h3⟩, st⟩
  · dsimp only [Pt.U, Pt.locs, Pt.cells, Pt.slots] at X' e1 e2 h1 h2 h3 st
    subst h1; subst h2; subst h3
    exact Or.inl ⟨v, (T.setVm vm₁).calling g' mk (Value.ref b :: As).toArray, t, U', L, hT, X', hL, e1, e2, hq, st⟩
  · dsimp only [Pt.U, Pt.locs, Pt.cells, Pt.slots] at X' e1 e2 h1 h2 h3 st hcl
    subst h1; subst h2; subst h3
    exact Or.inr ⟨q, (T.setVm vm₁).calling g' mk (Value.ref b :: As).toArray, t, U', L, E, ce, hT, X', hL, e1, e2, hq, hce, hcv, vx_cls hW₁ hcl, st⟩
theorem vx_runSX {hh : List (Nat × Nat × Nat × Nat)} (S : CallFix p m c cc nL s args Ts own) (hM : vx_Met l y ws rm Pc Qc XC mc ms free) (cw : vx_CSW R s args own index y bytes maxL ret hh ws rm mc ms n) (hp : PreS s H Pc As)
    (hg : g.method = m) (hn : As.length = n) (hsize : g.locals.size = nL) (hstack : g.stack = As.reverse ++ rest) (hW : 2 * g.monitorRoom + (rest.map fun v => v.category).sum ≤ 8) (hdg : decode cc g.pc = .ok (.invokestatic index, 3)) (hf : cells + mc ≤ R.cells ∧ slots + ms ≤ R.slots) :
    vx_Run p l e R s m args below meth c H locs cells slots mc ms g rest (Qc As.toArray) XC free := by
  obtain ⟨⟨hrc, hrs, hfr, hlo, hws, hcw⟩, hcode, hini, hy, hlen, hl, hstt⟩ := cw
  have hK : vx_Back l R p e below s args y 3 8 (PreOf R mc ms Pc) (PostOf Qc mc ms free) (vx_Post XC mc ms free) := vx_backW (hh := hh) (bytes := bytes) (maxL := maxL) (ret := ret) hM hp.1 hrc hrs hfr hlo hws hcw (fun a' U hW => word_at hW (Or.inl (by first | rfl | simp [Cond.onTables, Cond.keeps, Cond.steady])) hini)
  obtain ⟨hx, hb, hml, ho, -⟩ := S
  intro T hT X
  rcases vx_callSX X hx (hh := hh) (bytes := bytes) (maxL := maxL) (ret := ret) ho hl hstt hini hcode hy hK hg (hsize.trans hml.symm) (argsL := As) (rest := rest) (fun sig h => hn.trans (hlen sig h)) hstack hW (by rw [hb]; exact hdg)
    (fun vm₁ hW₁ => ⟨hf.1, hf.2, hp.2 (T.setVm vm₁) hT hW₁⟩) with ⟨v, vm₁, ⟨U', l2, c2, s2⟩, hW₁, X', ⟨g', mk, t, L, e1, e2, hq, h1, hL, h2, h3⟩, st⟩ | ⟨q, vm₁, ⟨U', l2, c2, s2⟩, hW₁, X', ⟨g', mk, t, L, E, ce, e1, e2, hq, hce, hcv, hcl, h1, hL, h2, h3⟩, st⟩
  · dsimp only [Pt.U, Pt.locs, Pt.cells, Pt.slots] at X' e1 e2 h1 h2 h3 st
    subst h1; subst h2; subst h3
    exact Or.inl ⟨v, (T.setVm vm₁).calling g' mk As.toArray, t, U', L, hT, X', hL, e1, e2, hq, st⟩
  · dsimp only [Pt.U, Pt.locs, Pt.cells, Pt.slots] at X' e1 e2 h1 h2 h3 st hcl
    subst h1; subst h2; subst h3
    exact Or.inr ⟨q, (T.setVm vm₁).calling g' mk As.toArray, t, U', L, E, ce, hT, X', hL, e1, e2, hq, hce, hcv, vx_cls hW₁ hcl, st⟩
end
end VXH
theorem vx_ofWH {l : Launch} {y : MethodName} {ws ws' : List Cond} {rm : Room} {Pc : Array Value → State → Prop} {Qc : Array Value → State → Outcome → State → Prop} {XC : String → State → State → Prop} {mc ms : Nat} {free : Addr → Prop} {cc : ByteArray} {maxL : Nat} {ret : Option FieldType} {hh : List (Nat × Nat × Nat × Nat)}
    (hy : plainName y.cls = true) (hw : ws = Cond.codeWith y cc maxL ret hh :: ws')
    (body : ∀ p e s m args below meth c s₁, BodyLoose p l y (headSpec ws rm) cc maxL ret e s m args below meth c s₁ → c.maxLocals = maxL → Pc args s →
      W p l e (headSpec ws rm).room s m args below meth c s.heap [] 0 0 (vx_MQ below Qc XC args s mc ms free) (entryFrame m args maxL)) : vx_Met l y ws rm Pc Qc XC mc ms free := by
  refine MetFree.of_bodyS (code := cc) (maxLocals := maxL) (ret := ret) hy ?_ ?_
  · intro args s m h hn
    obtain ⟨m9, meth, c, hn9, h1, h2, h3, h4, -, h5, h6, -⟩ := Cond.codeWith_spec (atoms_spec (ws := ws) h _ (by rw [hw]; exact List.mem_cons_self))
    cases hn.symm.trans hn9
    exact ⟨meth, c, h1, h2, h3, h4, h5, h6⟩
  · intro p e s m args below meth c s₁ B hml hP _
    have hh0 : s₁.heap = s.heap := by rw [B.state]; rfl
    obtain ⟨t, a1, o, b1, b2, b3⟩ := body p e s m args below meth c s₁ B hml hP s₁ hh0 (Stand.of_body B)
    exact ⟨t, o, a1, b1, b2, b3⟩
/-! ===== END ===== -/
end
section
/-! ===== BEGIN printed: names, fields, word lists, decode rows ===== -/
def RX0 : String := "LanternWalk$Parade"
def TX0 : u_T := fun k => match k with
  | 0 => ("LanternWalk$Parade", "setting", "LLanternWalk$Setting;", true)
  | 1 => ("LanternWalk$Parade", "step", "I", false)
  | 2 => ("LanternWalk$Parade", "corner", "[I", true)
  | 3 => ("LanternWalk$Parade", "passed", "[I", true)
  | 4 => ("LanternWalk$Parade", "stopped", "[I", true)
  | 5 => ("LanternWalk$Parade", "wick", "[I", true)
  | 6 => ("LanternWalk$Parade", "burns", "[Z", true)
  | 7 => ("LanternWalk$Parade", "stage", "[I", true)
  | 8 => ("LanternWalk$Parade", "place", "[I", true)
  | 9 => ("LanternWalk$Parade", "dark", "[I", true)
  | 10 => ("LanternWalk$Parade", "cameHome", "[I", true)
  | 11 => ("LanternWalk$Parade", "known", "[I", true)
  | 12 => ("LanternWalk$Parade", "burnedBefore", "[Z", true)
  | 13 => ("LanternWalk$Parade", "knownBefore", "[I", true)
  | 14 => ("LanternWalk$Parade", "loudest", "[I", true)
  | 15 => ("LanternWalk$Parade", "stillLets", "[I", true)
  | _ => ("LanternWalk$Parade", "hasGone", "[Z", true)
def tyX0 : Nat → FieldType := fun k => match k with
  | 0 => .object "LanternWalk$Setting"
  | 1 => .int
  | 2 => .array .int
  | 3 => .array .int
  | 4 => .array .int
  | 5 => .array .int
  | 6 => .array .boolean
  | 7 => .array .int
  | 8 => .array .int
  | 9 => .array .int
  | 10 => .array .int
  | 11 => .array .int
  | 12 => .array .boolean
  | 13 => .array .int
  | 14 => .array .int
  | 15 => .array .int
  | _ => .array .boolean
abbrev wsX00 : List Cond := u_ws RX0 TX0 17
theorem nmX0 : ∀ a, a < 17 → ∀ b, b < 17 → a ≠ b → (TX0 a).2.1 ≠ (TX0 b).2.1 := by decide +kernel
theorem tyX0_ok : ∀ k, k < 17 → parseFieldDescriptor (TX0 k).2.2.1 = some (tyX0 k) := by decide +kernel
abbrev cX0_init : ByteArray := prog_2_method_1_code
def yX0_init : MethodName := ⟨RX0, "<init>", "(LLanternWalk$Setting;)V"⟩
abbrev cX0_becomeLike : ByteArray := prog_2_method_2_code
def yX0_becomeLike : MethodName := ⟨RX0, "becomeLike", "(LLanternWalk$Parade;)V"⟩
abbrev cX0_copyNumbers : ByteArray := prog_2_method_3_code
def yX0_copyNumbers : MethodName := ⟨RX0, "copyNumbers", "([I[I)V"⟩
abbrev cX0_copyFlags : ByteArray := prog_2_method_4_code
def yX0_copyFlags : MethodName := ⟨RX0, "copyFlags", "([Z[Z)V"⟩
abbrev cX0_howManyAre : ByteArray := prog_2_method_5_code
def yX0_howManyAre : MethodName := ⟨RX0, "howManyAre", "(I)I"⟩
abbrev cX0_lanternsBurning : ByteArray := prog_2_method_6_code
def yX0_lanternsBurning : MethodName := ⟨RX0, "lanternsBurning", "()I"⟩
abbrev cX0_songsKnownInAll : ByteArray := prog_2_method_7_code
def yX0_songsKnownInAll : MethodName := ⟨RX0, "songsKnownInAll", "()I"⟩
abbrev cX0_knowersOf : ByteArray := prog_2_method_8_code
def yX0_knowersOf : MethodName := ⟨RX0, "knowersOf", "(I)I"⟩
abbrev cX0_knowersOfVersion : ByteArray := prog_2_method_9_code
def yX0_knowersOfVersion : MethodName := ⟨RX0, "knowersOfVersion", "(II)I"⟩
abbrev cX0_versionsOf : ByteArray := prog_2_method_10_code
def yX0_versionsOf : MethodName := ⟨RX0, "versionsOf", "(I)I"⟩
abbrev cX0_commonestVersionOf : ByteArray := prog_2_method_11_code
def yX0_commonestVersionOf : MethodName := ⟨RX0, "commonestVersionOf", "(I)I"⟩
abbrev cX0_letsThrough : ByteArray := prog_2_method_12_code
def yX0_letsThrough : MethodName := ⟨RX0, "letsThrough", "(I)I"⟩
abbrev cX0_walkersOn : ByteArray := prog_2_method_13_code
def yX0_walkersOn : MethodName := ⟨RX0, "walkersOn", "(I)I"⟩
abbrev cX0_walkersAt : ByteArray := prog_2_method_14_code
def yX0_walkersAt : MethodName := ⟨RX0, "walkersAt", "(I)I"⟩
abbrev cX0_areNeighbours : ByteArray := prog_2_method_15_code
def yX0_areNeighbours : MethodName := ⟨RX0, "areNeighbours", "(II)Z"⟩
abbrev cX0_neighboursOf : ByteArray := prog_2_method_16_code
def yX0_neighboursOf : MethodName := ⟨RX0, "neighboursOf", "(I)I"⟩
abbrev cX0_foremostPlace : ByteArray := prog_2_method_17_code
def yX0_foremostPlace : MethodName := ⟨RX0, "foremostPlace", "()I"⟩
abbrev cX0_paradeLength : ByteArray := prog_2_method_18_code
def yX0_paradeLength : MethodName := ⟨RX0, "paradeLength", "()I"⟩
abbrev cX0_takeSteps : ByteArray := prog_2_method_19_code
def yX0_takeSteps : MethodName := ⟨RX0, "takeSteps", "(I)V"⟩
abbrev cX0_takeStep : ByteArray := prog_2_method_20_code
def yX0_takeStep : MethodName := ⟨RX0, "takeStep", "()V"⟩
abbrev cX0_burnDown : ByteArray := prog_2_method_21_code
def yX0_burnDown : MethodName := ⟨RX0, "burnDown", "(I)V"⟩
abbrev cX0_blowOut : ByteArray := prog_2_method_22_code
def yX0_blowOut : MethodName := ⟨RX0, "blowOut", "(I)V"⟩
abbrev cX0_lightEachOther : ByteArray := prog_2_method_23_code
def yX0_lightEachOther : MethodName := ⟨RX0, "lightEachOther", "()V"⟩
abbrev cX0_isBesideBurning : ByteArray := prog_2_method_24_code
def yX0_isBesideBurning : MethodName := ⟨RX0, "isBesideBurning", "(I)Z"⟩
abbrev cX0_singToEachOther : ByteArray := prog_2_method_25_code
def yX0_singToEachOther : MethodName := ⟨RX0, "singToEachOther", "()V"⟩
abbrev cX0_listenAround : ByteArray := prog_2_method_26_code
def yX0_listenAround : MethodName := ⟨RX0, "listenAround", "(I)V"⟩
abbrev cX0_listenTo : ByteArray := prog_2_method_27_code
def yX0_listenTo : MethodName := ⟨RX0, "listenTo", "(II)V"⟩
abbrev cX0_goOn : ByteArray := prog_2_method_28_code
def yX0_goOn : MethodName := ⟨RX0, "goOn", "()V"⟩
abbrev cX0_foremostToGo : ByteArray := prog_2_method_29_code
def yX0_foremostToGo : MethodName := ⟨RX0, "foremostToGo", "()I"⟩
abbrev cX0_walkOn : ByteArray := prog_2_method_30_code
def yX0_walkOn : MethodName := ⟨RX0, "walkOn", "(I)V"⟩
abbrev cX0_goOnePlace : ByteArray := prog_2_method_31_code
def yX0_goOnePlace : MethodName := ⟨RX0, "goOnePlace", "(I)Z"⟩
abbrev cX0_passCorner : ByteArray := prog_2_method_32_code
def yX0_passCorner : MethodName := ⟨RX0, "passCorner", "(I)Z"⟩
abbrev cX0_comeHome : ByteArray := prog_2_method_33_code
def yX0_comeHome : MethodName := ⟨RX0, "comeHome", "(I)V"⟩
abbrev cX0_start : ByteArray := prog_2_method_34_code
def yX0_start : MethodName := ⟨RX0, "start", "()V"⟩
def RX1 : String := "LanternWalk$Setting"
def TX1 : u_T := fun k => match k with
  | 0 => ("LanternWalk$Setting", "stretches", "I", false)
  | 1 => ("LanternWalk$Setting", "places", "I", false)
  | 2 => ("LanternWalk$Setting", "length", "[I", true)
  | 3 => ("LanternWalk$Setting", "lets", "[I", true)
  | 4 => ("LanternWalk$Setting", "first", "[I", true)
  | 5 => ("LanternWalk$Setting", "wind", "[I", true)
  | 6 => ("LanternWalk$Setting", "walkers", "I", false)
  | 7 => ("LanternWalk$Setting", "pace", "[I", true)
  | 8 => ("LanternWalk$Setting", "voice", "[I", true)
  | 9 => ("LanternWalk$Setting", "songs", "I", false)
  | _ => ("LanternWalk$Setting", "songLength", "[I", true)
def tyX1 : Nat → FieldType := fun k => match k with
  | 0 => .int
  | 1 => .int
  | 2 => .array .int
  | 3 => .array .int
  | 4 => .array .int
  | 5 => .array .int
  | 6 => .int
  | 7 => .array .int
  | 8 => .array .int
  | 9 => .int
  | _ => .array .int
abbrev wsX10 : List Cond := u_ws RX1 TX1 11
theorem nmX1 : ∀ a, a < 11 → ∀ b, b < 11 → a ≠ b → (TX1 a).2.1 ≠ (TX1 b).2.1 := by decide +kernel
theorem tyX1_ok : ∀ k, k < 11 → parseFieldDescriptor (TX1 k).2.2.1 = some (tyX1 k) := by decide +kernel
abbrev cX1_init : ByteArray := prog_3_method_1_code
def yX1_init : MethodName := ⟨RX1, "<init>", "()V"⟩
abbrev cX1_hasStretch : ByteArray := prog_3_method_2_code
def yX1_hasStretch : MethodName := ⟨RX1, "hasStretch", "(I)Z"⟩
abbrev cX1_hasWalker : ByteArray := prog_3_method_3_code
def yX1_hasWalker : MethodName := ⟨RX1, "hasWalker", "(I)Z"⟩
abbrev cX1_hasSong : ByteArray := prog_3_method_4_code
def yX1_hasSong : MethodName := ⟨RX1, "hasSong", "(I)Z"⟩
abbrev cX1_appendStretch : ByteArray := prog_3_method_5_code
def yX1_appendStretch : MethodName := ⟨RX1, "appendStretch", "(II)I"⟩
abbrev cX1_appendWalker : ByteArray := prog_3_method_6_code
def yX1_appendWalker : MethodName := ⟨RX1, "appendWalker", "(II)I"⟩
abbrev cX1_appendSong : ByteArray := prog_3_method_7_code
def yX1_appendSong : MethodName := ⟨RX1, "appendSong", "(I)I"⟩
abbrev cX1_stretchEndingAt : ByteArray := prog_3_method_8_code
def yX1_stretchEndingAt : MethodName := ⟨RX1, "stretchEndingAt", "(I)I"⟩
def RX2 : String := "LanternWalk"
def TX2 : u_T := fun k => match k with
  | 0 => ("LanternWalk", "setting", "LLanternWalk$Setting;", true)
  | 1 => ("LanternWalk", "now", "LLanternWalk$Parade;", true)
  | _ => ("LanternWalk", "ahead", "LLanternWalk$Parade;", true)
def tyX2 : Nat → FieldType := fun k => match k with
  | 0 => .object "LanternWalk$Setting"
  | 1 => .object "LanternWalk$Parade"
  | _ => .object "LanternWalk$Parade"
abbrev wsX20 : List Cond := u_ws RX2 TX2 3
theorem nmX2 : ∀ a, a < 3 → ∀ b, b < 3 → a ≠ b → (TX2 a).2.1 ≠ (TX2 b).2.1 := by decide +kernel
theorem tyX2_ok : ∀ k, k < 3 → parseFieldDescriptor (TX2 k).2.2.1 = some (tyX2 k) := by decide +kernel
abbrev cX2_init : ByteArray := prog_1_method_1_code
def yX2_init : MethodName := ⟨RX2, "<init>", "()V"⟩
abbrev cX2_addStretch : ByteArray := prog_1_method_2_code
def yX2_addStretch : MethodName := ⟨RX2, "addStretch", "(II)I"⟩
abbrev cX2_post : ByteArray := prog_1_method_3_code
def yX2_post : MethodName := ⟨RX2, "post", "(II)I"⟩
abbrev cX2_setWind : ByteArray := prog_1_method_4_code
def yX2_setWind : MethodName := ⟨RX2, "setWind", "(II)I"⟩
abbrev cX2_come : ByteArray := prog_1_method_5_code
def yX2_come : MethodName := ⟨RX2, "come", "(III)I"⟩
abbrev cX2_trim : ByteArray := prog_1_method_6_code
def yX2_trim : MethodName := ⟨RX2, "trim", "(II)I"⟩
abbrev cX2_addSong : ByteArray := prog_1_method_7_code
def yX2_addSong : MethodName := ⟨RX2, "addSong", "(I)I"⟩
abbrev cX2_teach : ByteArray := prog_1_method_8_code
def yX2_teach : MethodName := ⟨RX2, "teach", "(III)I"⟩
abbrev cX2_stretch : ByteArray := prog_1_method_9_code
def yX2_stretch : MethodName := ⟨RX2, "stretch", "(II)I"⟩
abbrev cX2_walker : ByteArray := prog_1_method_10_code
def yX2_walker : MethodName := ⟨RX2, "walker", "(II)I"⟩
abbrev cX2_knows : ByteArray := prog_1_method_11_code
def yX2_knows : MethodName := ⟨RX2, "knows", "(II)I"⟩
abbrev cX2_song : ByteArray := prog_1_method_12_code
def yX2_song : MethodName := ⟨RX2, "song", "(II)I"⟩
abbrev cX2_pass : ByteArray := prog_1_method_13_code
def yX2_pass : MethodName := ⟨RX2, "pass", "(I)I"⟩
abbrev cX2_count : ByteArray := prog_1_method_14_code
def yX2_count : MethodName := ⟨RX2, "count", "(I)I"⟩
abbrev cX2_foresee : ByteArray := prog_1_method_15_code
def yX2_foresee : MethodName := ⟨RX2, "foresee", "(II)I"⟩
abbrev cX2_home : ByteArray := prog_1_method_16_code
def yX2_home : MethodName := ⟨RX2, "home", "(I)I"⟩
abbrev cX2_hears : ByteArray := prog_1_method_17_code
def yX2_hears : MethodName := ⟨RX2, "hears", "(II)I"⟩
abbrev cX2_advise : ByteArray := prog_1_method_18_code
def yX2_advise : MethodName := ⟨RX2, "advise", "(II)I"⟩
abbrev cX2_light : ByteArray := prog_1_method_19_code
def yX2_light : MethodName := ⟨RX2, "light", "()D"⟩
abbrev cX2_digest : ByteArray := prog_1_method_20_code
def yX2_digest : MethodName := ⟨RX2, "digest", "()J"⟩
abbrev cX2_digestOfWalker : ByteArray := prog_1_method_21_code
def yX2_digestOfWalker : MethodName := ⟨RX2, "digestOfWalker", "(JI)J"⟩
abbrev cX2_digestWith : ByteArray := prog_1_method_22_code
def yX2_digestWith : MethodName := ⟨RX2, "digestWith", "(JI)J"⟩
abbrev cX2_tellOfStretch : ByteArray := prog_1_method_23_code
def yX2_tellOfStretch : MethodName := ⟨RX2, "tellOfStretch", "(II)I"⟩
abbrev cX2_tellOfWalker : ByteArray := prog_1_method_24_code
def yX2_tellOfWalker : MethodName := ⟨RX2, "tellOfWalker", "(II)I"⟩
abbrev cX2_tellOfAll : ByteArray := prog_1_method_25_code
def yX2_tellOfAll : MethodName := ⟨RX2, "tellOfAll", "(I)I"⟩
abbrev cX2_cellOf : ByteArray := prog_1_method_26_code
def yX2_cellOf : MethodName := ⟨RX2, "cellOf", "(II)I"⟩
def RX3 : String := "LanternWalkModel"
def TX3 : u_T := fun k => match k with
  | 0 => ("LanternWalkModel", "thrown", "I", false)
  | 1 => ("LanternWalkModel", "stretches", "I", false)
  | 2 => ("LanternWalkModel", "route", "[I", true)
  | 3 => ("LanternWalkModel", "stewards", "[I", true)
  | 4 => ("LanternWalkModel", "wind", "[I", true)
  | 5 => ("LanternWalkModel", "walkers", "I", false)
  | 6 => ("LanternWalkModel", "people", "[I", true)
  | 7 => ("LanternWalkModel", "songs", "I", false)
  | 8 => ("LanternWalkModel", "lengths", "[I", true)
  | 9 => ("LanternWalkModel", "known", "[I", true)
  | 10 => ("LanternWalkModel", "step", "[I", true)
  | 11 => ("LanternWalkModel", "learns", "[I", true)
  | 12 => ("LanternWalkModel", "lights", "[Z", true)
  | 13 => ("LanternWalkModel", "through", "[I", true)
  | 14 => ("LanternWalkModel", "went", "[Z", true)
  | _ => ("LanternWalkModel", "ahead", "[I", true)
def tyX3 : Nat → FieldType := fun k => match k with
  | 0 => .int
  | 1 => .int
  | 2 => .array .int
  | 3 => .array .int
  | 4 => .array .int
  | 5 => .int
  | 6 => .array .int
  | 7 => .int
  | 8 => .array .int
  | 9 => .array .int
  | 10 => .array .int
  | 11 => .array .int
  | 12 => .array .boolean
  | 13 => .array .int
  | 14 => .array .boolean
  | _ => .array .int
abbrev wsX30 : List Cond := u_ws RX3 TX3 16
theorem nmX3 : ∀ a, a < 16 → ∀ b, b < 16 → a ≠ b → (TX3 a).2.1 ≠ (TX3 b).2.1 := by decide +kernel
theorem tyX3_ok : ∀ k, k < 16 → parseFieldDescriptor (TX3 k).2.2.1 = some (tyX3 k) := by decide +kernel
abbrev cX3_init : ByteArray := prog_5_method_1_code
def yX3_init : MethodName := ⟨RX3, "<init>", "()V"⟩
abbrev cX3_thrown : ByteArray := prog_5_method_2_code
def yX3_thrown : MethodName := ⟨RX3, "thrown", "()I"⟩
abbrev cX3_fail : ByteArray := prog_5_method_3_code
def yX3_fail : MethodName := ⟨RX3, "fail", "(I)I"⟩
abbrev cX3_isIn : ByteArray := prog_5_method_4_code
def yX3_isIn : MethodName := ⟨RX3, "isIn", "(III)Z"⟩
abbrev cX3_isStretch : ByteArray := prog_5_method_5_code
def yX3_isStretch : MethodName := ⟨RX3, "isStretch", "(I)Z"⟩
abbrev cX3_isWalker : ByteArray := prog_5_method_6_code
def yX3_isWalker : MethodName := ⟨RX3, "isWalker", "(I)Z"⟩
abbrev cX3_isSong : ByteArray := prog_5_method_7_code
def yX3_isSong : MethodName := ⟨RX3, "isSong", "(I)Z"⟩
abbrev cX3_ro : ByteArray := prog_5_method_8_code
def yX3_ro : MethodName := ⟨RX3, "ro", "(II)I"⟩
abbrev cX3_pe : ByteArray := prog_5_method_9_code
def yX3_pe : MethodName := ⟨RX3, "pe", "(II)I"⟩
abbrev cX3_set : ByteArray := prog_5_method_10_code
def yX3_set : MethodName := ⟨RX3, "set", "(III)V"⟩
abbrev cX3_places : ByteArray := prog_5_method_11_code
def yX3_places : MethodName := ⟨RX3, "places", "()I"⟩
abbrev cX3_addStretch : ByteArray := prog_5_method_12_code
def yX3_addStretch : MethodName := ⟨RX3, "addStretch", "(II)I"⟩
abbrev cX3_post : ByteArray := prog_5_method_13_code
def yX3_post : MethodName := ⟨RX3, "post", "(II)I"⟩
abbrev cX3_setWind : ByteArray := prog_5_method_14_code
def yX3_setWind : MethodName := ⟨RX3, "setWind", "(II)I"⟩
abbrev cX3_come : ByteArray := prog_5_method_15_code
def yX3_come : MethodName := ⟨RX3, "come", "(III)I"⟩
abbrev cX3_trim : ByteArray := prog_5_method_16_code
def yX3_trim : MethodName := ⟨RX3, "trim", "(II)I"⟩
abbrev cX3_addSong : ByteArray := prog_5_method_17_code
def yX3_addSong : MethodName := ⟨RX3, "addSong", "(I)I"⟩
abbrev cX3_teach : ByteArray := prog_5_method_18_code
def yX3_teach : MethodName := ⟨RX3, "teach", "(III)I"⟩
abbrev cX3_walks : ByteArray := prog_5_method_19_code
def yX3_walks : MethodName := ⟨RX3, "walks", "(I)Z"⟩
abbrev cX3_at : ByteArray := prog_5_method_20_code
def yX3_at : MethodName := ⟨RX3, "at", "(I)I"⟩
abbrev cX3_stretchOf : ByteArray := prog_5_method_21_code
def yX3_stretchOf : MethodName := ⟨RX3, "stretchOf", "(I)I"⟩
abbrev cX3_lets : ByteArray := prog_5_method_22_code
def yX3_lets : MethodName := ⟨RX3, "lets", "(I)I"⟩
abbrev cX3_stretchTold : ByteArray := prog_5_method_23_code
def yX3_stretchTold : MethodName := ⟨RX3, "stretchTold", "(II)I"⟩
abbrev cX3_stretch : ByteArray := prog_5_method_24_code
def yX3_stretch : MethodName := ⟨RX3, "stretch", "(II)I"⟩
abbrev cX3_isNeighbour : ByteArray := prog_5_method_25_code
def yX3_isNeighbour : MethodName := ⟨RX3, "isNeighbour", "(II)Z"⟩
abbrev cX3_neighbours : ByteArray := prog_5_method_26_code
def yX3_neighbours : MethodName := ⟨RX3, "neighbours", "(I)I"⟩
abbrev cX3_walkerTold : ByteArray := prog_5_method_27_code
def yX3_walkerTold : MethodName := ⟨RX3, "walkerTold", "(II)I"⟩
abbrev cX3_walker : ByteArray := prog_5_method_28_code
def yX3_walker : MethodName := ⟨RX3, "walker", "(II)I"⟩
abbrev cX3_knows : ByteArray := prog_5_method_29_code
def yX3_knows : MethodName := ⟨RX3, "knows", "(II)I"⟩
abbrev cX3_with : ByteArray := prog_5_method_30_code
def yX3_with : MethodName := ⟨RX3, "with", "(II)I"⟩
abbrev cX3_songTold : ByteArray := prog_5_method_31_code
def yX3_songTold : MethodName := ⟨RX3, "songTold", "(II)I"⟩
abbrev cX3_song : ByteArray := prog_5_method_32_code
def yX3_song : MethodName := ⟨RX3, "song", "(II)I"⟩
abbrev cX3_burn : ByteArray := prog_5_method_33_code
def yX3_burn : MethodName := ⟨RX3, "burn", "(I)V"⟩
abbrev cX3_learnt : ByteArray := prog_5_method_34_code
def yX3_learnt : MethodName := ⟨RX3, "learnt", "(II)I"⟩
abbrev cX3_sing : ByteArray := prog_5_method_35_code
def yX3_sing : MethodName := ⟨RX3, "sing", "()V"⟩
abbrev cX3_go : ByteArray := prog_5_method_36_code
def yX3_go : MethodName := ⟨RX3, "go", "(I)V"⟩
abbrev cX3_stepOn : ByteArray := prog_5_method_37_code
def yX3_stepOn : MethodName := ⟨RX3, "stepOn", "()I"⟩
abbrev cX3_pass : ByteArray := prog_5_method_38_code
def yX3_pass : MethodName := ⟨RX3, "pass", "(I)I"⟩
abbrev cX3_inState : ByteArray := prog_5_method_39_code
def yX3_inState : MethodName := ⟨RX3, "inState", "(I)I"⟩
abbrev cX3_burning : ByteArray := prog_5_method_40_code
def yX3_burning : MethodName := ⟨RX3, "burning", "()I"⟩
abbrev cX3_end : ByteArray := prog_5_method_41_code
def yX3_end : MethodName := ⟨RX3, "end", "(Z)I"⟩
abbrev cX3_counted : ByteArray := prog_5_method_42_code
def yX3_counted : MethodName := ⟨RX3, "counted", "(I)I"⟩
abbrev cX3_count : ByteArray := prog_5_method_43_code
def yX3_count : MethodName := ⟨RX3, "count", "(I)I"⟩
abbrev cX3_kept : ByteArray := prog_5_method_44_code
def yX3_kept : MethodName := ⟨RX3, "kept", "()[[I"⟩
abbrev cX3_bringBack : ByteArray := prog_5_method_45_code
def yX3_bringBack : MethodName := ⟨RX3, "bringBack", "([[I)V"⟩
abbrev cX3_pairs : ByteArray := prog_5_method_46_code
def yX3_pairs : MethodName := ⟨RX3, "pairs", "()I"⟩
abbrev cX3_foresee : ByteArray := prog_5_method_47_code
def yX3_foresee : MethodName := ⟨RX3, "foresee", "(II)I"⟩
abbrev cX3_home : ByteArray := prog_5_method_48_code
def yX3_home : MethodName := ⟨RX3, "home", "(I)I"⟩
abbrev cX3_hears : ByteArray := prog_5_method_49_code
def yX3_hears : MethodName := ⟨RX3, "hears", "(II)I"⟩
abbrev cX3_advise : ByteArray := prog_5_method_50_code
def yX3_advise : MethodName := ⟨RX3, "advise", "(II)I"⟩
abbrev cX3_light : ByteArray := prog_5_method_51_code
def yX3_light : MethodName := ⟨RX3, "light", "()D"⟩
abbrev cX3_digest : ByteArray := prog_5_method_52_code
def yX3_digest : MethodName := ⟨RX3, "digest", "()J"⟩
def RJx145de : String := "java/io/Serializable"
def TJx145de : u_T := fun k => match k with
  | _ => ("", "", "", false)
def tyJx145de : Nat → FieldType := fun k => match k with
  | _ => .int
abbrev wsJx145de0 : List Cond := u_ws RJx145de TJx145de 0
theorem nmJx145de : ∀ a, a < 0 → ∀ b, b < 0 → a ≠ b → (TJx145de a).2.1 ≠ (TJx145de b).2.1 := by decide +kernel
theorem tyJx145de_ok : ∀ k, k < 0 → parseFieldDescriptor (TJx145de k).2.2.1 = some (tyJx145de k) := by decide +kernel
def RJx8e188 : String := "java/lang/Cloneable"
def TJx8e188 : u_T := fun k => match k with
  | _ => ("", "", "", false)
def tyJx8e188 : Nat → FieldType := fun k => match k with
  | _ => .int
abbrev wsJx8e1880 : List Cond := u_ws RJx8e188 TJx8e188 0
theorem nmJx8e188 : ∀ a, a < 0 → ∀ b, b < 0 → a ≠ b → (TJx8e188 a).2.1 ≠ (TJx8e188 b).2.1 := by decide +kernel
theorem tyJx8e188_ok : ∀ k, k < 0 → parseFieldDescriptor (TJx8e188 k).2.2.1 = some (tyJx8e188 k) := by decide +kernel
def RJ9 : String := "java/lang/Math"
def TJ9 : u_T := fun k => match k with
  | _ => ("", "", "", false)
def tyJ9 : Nat → FieldType := fun k => match k with
  | _ => .int
abbrev wsJ90 : List Cond := u_ws RJ9 TJ9 0
theorem nmJ9 : ∀ a, a < 0 → ∀ b, b < 0 → a ≠ b → (TJ9 a).2.1 ≠ (TJ9 b).2.1 := by decide +kernel
theorem tyJ9_ok : ∀ k, k < 0 → parseFieldDescriptor (TJ9 k).2.2.1 = some (tyJ9 k) := by decide +kernel
abbrev cJ9_floorMod_7cf53 : ByteArray := prog_11_method_50_code
def yJ9_floorMod_7cf53 : MethodName := ⟨RJ9, "floorMod", "(II)I"⟩
abbrev cJ9_abs_0f7a4 : ByteArray := prog_11_method_59_code
def yJ9_abs_0f7a4 : MethodName := ⟨RJ9, "abs", "(I)I"⟩
abbrev cJ9_max_7cf53 : ByteArray := prog_11_method_65_code
def yJ9_max_7cf53 : MethodName := ⟨RJ9, "max", "(II)I"⟩
abbrev cJ9_min_7cf53 : ByteArray := prog_11_method_69_code
def yJ9_min_7cf53 : MethodName := ⟨RJ9, "min", "(II)I"⟩
def RJ0 : String := "java/lang/String"
def TJ0 : u_T := fun k => match k with
  | _ => ("", "", "", false)
def tyJ0 : Nat → FieldType := fun k => match k with
  | _ => .int
abbrev wsJ00 : List Cond := u_ws RJ0 TJ0 0
theorem nmJ0 : ∀ a, a < 0 → ∀ b, b < 0 → a ≠ b → (TJ0 a).2.1 ≠ (TJ0 b).2.1 := by decide +kernel
theorem tyJ0_ok : ∀ k, k < 0 → parseFieldDescriptor (TJ0 k).2.2.1 = some (tyJ0 k) := by decide +kernel
def RJ10 : String := "java/lang/System"
def TJ10 : u_T := fun k => match k with
  | _ => ("", "", "", false)
def tyJ10 : Nat → FieldType := fun k => match k with
  | _ => .int
abbrev wsJ100 : List Cond := u_ws RJ10 TJ10 0
theorem nmJ10 : ∀ a, a < 0 → ∀ b, b < 0 → a ≠ b → (TJ10 a).2.1 ≠ (TJ10 b).2.1 := by decide +kernel
theorem tyJ10_ok : ∀ k, k < 0 → parseFieldDescriptor (TJ10 k).2.2.1 = some (tyJ10 k) := by decide +kernel
def RJ7 : String := "java/util/Arrays"
def TJ7 : u_T := fun k => match k with
  | _ => ("", "", "", false)
def tyJ7 : Nat → FieldType := fun k => match k with
  | _ => .int
abbrev wsJ70 : List Cond := u_ws RJ7 TJ7 0
theorem nmJ7 : ∀ a, a < 0 → ∀ b, b < 0 → a ≠ b → (TJ7 a).2.1 ≠ (TJ7 b).2.1 := by decide +kernel
theorem tyJ7_ok : ∀ k, k < 0 → parseFieldDescriptor (TJ7 k).2.2.1 = some (tyJ7 k) := by decide +kernel
abbrev cJ7_fill_53178 : ByteArray := prog_16_method_103_code
def yJ7_fill_53178 : MethodName := ⟨RJ7, "fill", "([II)V"⟩
def RL : String := "LanternWalkLaw"
abbrev cL_addStretch : ByteArray := method_3_code
def yL_addStretch : MethodName := ⟨RL, "addStretch", "(LLanternWalk;II[J)I"⟩
abbrev cL_post : ByteArray := method_4_code
def yL_post : MethodName := ⟨RL, "post", "(LLanternWalk;II[J)I"⟩
abbrev cL_setWind : ByteArray := method_5_code
def yL_setWind : MethodName := ⟨RL, "setWind", "(LLanternWalk;II[J)I"⟩
abbrev cL_come : ByteArray := method_6_code
def yL_come : MethodName := ⟨RL, "come", "(LLanternWalk;III[J)I"⟩
abbrev cL_trim : ByteArray := method_7_code
def yL_trim : MethodName := ⟨RL, "trim", "(LLanternWalk;II[J)I"⟩
abbrev cL_addSong : ByteArray := method_8_code
def yL_addSong : MethodName := ⟨RL, "addSong", "(LLanternWalk;I[J)I"⟩
abbrev cL_teach : ByteArray := method_9_code
def yL_teach : MethodName := ⟨RL, "teach", "(LLanternWalk;III[J)I"⟩
abbrev cL_stretch : ByteArray := method_10_code
def yL_stretch : MethodName := ⟨RL, "stretch", "(LLanternWalk;II[J)I"⟩
abbrev cL_walker : ByteArray := method_11_code
def yL_walker : MethodName := ⟨RL, "walker", "(LLanternWalk;II[J)I"⟩
abbrev cL_knows : ByteArray := method_12_code
def yL_knows : MethodName := ⟨RL, "knows", "(LLanternWalk;II[J)I"⟩
abbrev cL_song : ByteArray := method_13_code
def yL_song : MethodName := ⟨RL, "song", "(LLanternWalk;II[J)I"⟩
abbrev cL_pass : ByteArray := method_14_code
def yL_pass : MethodName := ⟨RL, "pass", "(LLanternWalk;I[J)I"⟩
abbrev cL_count : ByteArray := method_15_code
def yL_count : MethodName := ⟨RL, "count", "(LLanternWalk;I[J)I"⟩
abbrev cL_foresee : ByteArray := method_16_code
def yL_foresee : MethodName := ⟨RL, "foresee", "(LLanternWalk;II[J)I"⟩
abbrev cL_home : ByteArray := method_17_code
def yL_home : MethodName := ⟨RL, "home", "(LLanternWalk;I[J)I"⟩
abbrev cL_hears : ByteArray := method_18_code
def yL_hears : MethodName := ⟨RL, "hears", "(LLanternWalk;II[J)I"⟩
abbrev cL_advise : ByteArray := method_19_code
def yL_advise : MethodName := ⟨RL, "advise", "(LLanternWalk;II[J)I"⟩
abbrev cL_law : ByteArray := code
def yL_law : MethodName := ⟨RL, "law", "([I)Z"⟩
def wsJ7_fill_53178 : List Cond := .code yJ7_fill_53178 cJ7_fill_53178 4 none :: ([])
def wsX0_init_r1 : List Cond := [Cond.methodLink RX0 3 objectInit, Cond.instanceMethod objectInit, Cond.code objectInit ⟨#[0xb1]⟩ 1 none, Cond.arrayClass .int, Cond.fieldLink RX0 9 "LanternWalk$Parade" "corner" "[I", Cond.fieldLink RX0 15 "LanternWalk$Parade" "passed" "[I", Cond.fieldLink RX0 18 "LanternWalk$Parade" "stopped" "[I", Cond.fieldLink RX0 21 "LanternWalk$Parade" "wick" "[I", Cond.arrayClass .boolean, Cond.fieldLink RX0 24 "LanternWalk$Parade" "burns" "[Z", Cond.fieldLink RX0 28 "LanternWalk$Parade" "stage" "[I", Cond.fieldLink RX0 31 "LanternWalk$Parade" "place" "[I", Cond.fieldLink RX0 34 "LanternWalk$Parade" "dark" "[I", Cond.fieldLink RX0 37 "LanternWalk$Parade" "cameHome" "[I", Cond.fieldLink RX0 40 "LanternWalk$Parade" "known" "[I", Cond.fieldLink RX0 43 "LanternWalk$Parade" "burnedBefore" "[Z", Cond.fieldLink RX0 46 "LanternWalk$Parade" "knownBefore" "[I", Cond.fieldLink RX0 49 "LanternWalk$Parade" "loudest" "[I", Cond.fieldLink RX0 52 "LanternWalk$Parade" "stillLets" "[I", Cond.fieldLink RX0 55 "LanternWalk$Parade" "hasGone" "[Z", Cond.fieldLink RX0 58 "LanternWalk$Parade" "setting" "LLanternWalk$Setting;", Cond.methodLink RX0 62 yJ7_fill_53178, Cond.static yJ7_fill_53178, Cond.initialized RJ7]
def wsX0_init_r2 : List Cond := [Cond.code yJ7_fill_53178 cJ7_fill_53178 4 none]
def wsX0_init : List Cond := .code yX0_init cX0_init 2 none :: ((wsX0_init_r1 ++ wsX0_init_r2) ++ wsX00)
def wsX0_copyNumbers : List Cond := .code yX0_copyNumbers cX0_copyNumbers 2 none :: ([.methodLink RX0 80 Lib.Math.min.name, .static Lib.Math.min.name, .initialized "java/lang/Math", .code Lib.Math.min.name Lib.Math.min.code 2 (some .int), .methodLink RX0 86 arraycopyName, .native arraycopyName, .static arraycopyName, .initialized "java/lang/System"])
def wsX0_copyFlags : List Cond := .code yX0_copyFlags cX0_copyFlags 3 none :: ([])
def wsX0_becomeLike_r1 : List Cond := [Cond.fieldLink RX0 68 "LanternWalk$Parade" "step" "I", Cond.fieldLink RX0 9 "LanternWalk$Parade" "corner" "[I", Cond.fieldLink RX0 15 "LanternWalk$Parade" "passed" "[I", Cond.fieldLink RX0 18 "LanternWalk$Parade" "stopped" "[I", Cond.fieldLink RX0 21 "LanternWalk$Parade" "wick" "[I", Cond.fieldLink RX0 24 "LanternWalk$Parade" "burns" "[Z", Cond.fieldLink RX0 28 "LanternWalk$Parade" "stage" "[I", Cond.fieldLink RX0 31 "LanternWalk$Parade" "place" "[I", Cond.fieldLink RX0 34 "LanternWalk$Parade" "dark" "[I", Cond.fieldLink RX0 37 "LanternWalk$Parade" "cameHome" "[I", Cond.fieldLink RX0 40 "LanternWalk$Parade" "known" "[I", Cond.methodLink RX0 72 yX0_copyNumbers, Cond.static yX0_copyNumbers, Cond.initialized RX0, Cond.code yX0_copyNumbers cX0_copyNumbers 2 none, Cond.methodLink RX0 80 Lib.Math.min.name, Cond.static Lib.Math.min.name, Cond.initialized "java/lang/Math", Cond.code Lib.Math.min.name Lib.Math.min.code 2 (some .int), Cond.methodLink RX0 86 arraycopyName, Cond.native arraycopyName, Cond.static arraycopyName, Cond.initialized "java/lang/System", Cond.methodLink RX0 76 yX0_copyFlags]
def wsX0_becomeLike_r2 : List Cond := [Cond.static yX0_copyFlags, Cond.code yX0_copyFlags cX0_copyFlags 3 none]
def wsX0_becomeLike : List Cond := .code yX0_becomeLike cX0_becomeLike 2 none :: ((wsX0_becomeLike_r1 ++ wsX0_becomeLike_r2) ++ wsX00)
def wsX0_howManyAre : List Cond := .code yX0_howManyAre cX0_howManyAre 4 (some .int) :: ([.fieldLink RX0 58 "LanternWalk$Parade" "setting" "LLanternWalk$Setting;", .fieldLink RX0 92 "LanternWalk$Setting" "walkers" "I", .fieldLink RX0 28 "LanternWalk$Parade" "stage" "[I"] ++ wsX00 ++ wsX10)
def wsX0_lanternsBurning : List Cond := .code yX0_lanternsBurning cX0_lanternsBurning 3 (some .int) :: ([.fieldLink RX0 58 "LanternWalk$Parade" "setting" "LLanternWalk$Setting;", .fieldLink RX0 92 "LanternWalk$Setting" "walkers" "I", .fieldLink RX0 28 "LanternWalk$Parade" "stage" "[I", .fieldLink RX0 24 "LanternWalk$Parade" "burns" "[Z"] ++ wsX00 ++ wsX10)
def wsX2_cellOf : List Cond := .code yX2_cellOf cX2_cellOf 2 (some .int) :: ([])
def wsX0_knowersOf : List Cond := .code yX0_knowersOf cX0_knowersOf 4 (some .int) :: ([.fieldLink RX0 58 "LanternWalk$Parade" "setting" "LLanternWalk$Setting;", .fieldLink RX0 92 "LanternWalk$Setting" "walkers" "I", .fieldLink RX0 40 "LanternWalk$Parade" "known" "[I", .static yX2_cellOf, .initialized RX2, .code yX2_cellOf cX2_cellOf 2 (some .int)] ++ wsX00 ++ wsX10)
def wsX0_songsKnownInAll : List Cond := .code yX0_songsKnownInAll cX0_songsKnownInAll 3 (some .int) :: ([.fieldLink RX0 58 "LanternWalk$Parade" "setting" "LLanternWalk$Setting;", .fieldLink RX0 97 "LanternWalk$Setting" "songs" "I", .methodLink RX0 100 yX0_knowersOf, .instanceMethod yX0_knowersOf, .selects RX0 yX0_knowersOf yX0_knowersOf, .initialized RX0, .code yX0_knowersOf cX0_knowersOf 4 (some .int), .fieldLink RX0 92 "LanternWalk$Setting" "walkers" "I", .fieldLink RX0 40 "LanternWalk$Parade" "known" "[I", .static yX2_cellOf, .initialized RX2, .code yX2_cellOf cX2_cellOf 2 (some .int)] ++ wsX00 ++ wsX10)
def wsX0_knowersOfVersion : List Cond := .code yX0_knowersOfVersion cX0_knowersOfVersion 5 (some .int) :: ([.fieldLink RX0 58 "LanternWalk$Parade" "setting" "LLanternWalk$Setting;", .fieldLink RX0 92 "LanternWalk$Setting" "walkers" "I", .fieldLink RX0 40 "LanternWalk$Parade" "known" "[I", .static yX2_cellOf, .initialized RX2, .code yX2_cellOf cX2_cellOf 2 (some .int)] ++ wsX00 ++ wsX10)
def wsX0_versionsOf : List Cond := .code yX0_versionsOf cX0_versionsOf 4 (some .int) :: ([.methodLink RX0 107 yX0_knowersOfVersion, .instanceMethod yX0_knowersOfVersion, .selects RX0 yX0_knowersOfVersion yX0_knowersOfVersion, .initialized RX0, .code yX0_knowersOfVersion cX0_knowersOfVersion 5 (some .int), .fieldLink RX0 58 "LanternWalk$Parade" "setting" "LLanternWalk$Setting;", .fieldLink RX0 92 "LanternWalk$Setting" "walkers" "I", .fieldLink RX0 40 "LanternWalk$Parade" "known" "[I", .static yX2_cellOf, .initialized RX2, .code yX2_cellOf cX2_cellOf 2 (some .int)] ++ wsX00 ++ wsX10)
def wsX0_commonestVersionOf : List Cond := .code yX0_commonestVersionOf cX0_commonestVersionOf 6 (some .int) :: ([.methodLink RX0 107 yX0_knowersOfVersion, .instanceMethod yX0_knowersOfVersion, .selects RX0 yX0_knowersOfVersion yX0_knowersOfVersion, .initialized RX0, .code yX0_knowersOfVersion cX0_knowersOfVersion 5 (some .int), .fieldLink RX0 58 "LanternWalk$Parade" "setting" "LLanternWalk$Setting;", .fieldLink RX0 92 "LanternWalk$Setting" "walkers" "I", .fieldLink RX0 40 "LanternWalk$Parade" "known" "[I", .static yX2_cellOf, .initialized RX2, .code yX2_cellOf cX2_cellOf 2 (some .int)] ++ wsX00 ++ wsX10)
def wsX0_letsThrough : List Cond := .code yX0_letsThrough cX0_letsThrough 4 (some .int) :: ([.fieldLink RX0 58 "LanternWalk$Parade" "setting" "LLanternWalk$Setting;", .fieldLink RX0 110 "LanternWalk$Setting" "lets" "[I", .fieldLink RX0 9 "LanternWalk$Parade" "corner" "[I"] ++ wsX00 ++ wsX10)
def wsX0_walkersOn : List Cond := .code yX0_walkersOn cX0_walkersOn 6 (some .int) :: ([.fieldLink RX0 58 "LanternWalk$Parade" "setting" "LLanternWalk$Setting;", .fieldLink RX0 113 "LanternWalk$Setting" "first" "[I", .fieldLink RX0 116 "LanternWalk$Setting" "length" "[I", .fieldLink RX0 92 "LanternWalk$Setting" "walkers" "I", .fieldLink RX0 28 "LanternWalk$Parade" "stage" "[I", .fieldLink RX0 31 "LanternWalk$Parade" "place" "[I"] ++ wsX00 ++ wsX10)
def wsX0_walkersAt : List Cond := .code yX0_walkersAt cX0_walkersAt 4 (some .int) :: ([.fieldLink RX0 58 "LanternWalk$Parade" "setting" "LLanternWalk$Setting;", .fieldLink RX0 92 "LanternWalk$Setting" "walkers" "I", .fieldLink RX0 28 "LanternWalk$Parade" "stage" "[I", .fieldLink RX0 31 "LanternWalk$Parade" "place" "[I"] ++ wsX00 ++ wsX10)
def wsX0_areNeighbours : List Cond := .code yX0_areNeighbours cX0_areNeighbours 3 (some .boolean) :: ([.fieldLink RX0 28 "LanternWalk$Parade" "stage" "[I", .fieldLink RX0 31 "LanternWalk$Parade" "place" "[I"] ++ wsX00)
def wsX0_neighboursOf : List Cond := .code yX0_neighboursOf cX0_neighboursOf 4 (some .int) :: ([.fieldLink RX0 58 "LanternWalk$Parade" "setting" "LLanternWalk$Setting;", .fieldLink RX0 92 "LanternWalk$Setting" "walkers" "I", .methodLink RX0 119 yX0_areNeighbours, .instanceMethod yX0_areNeighbours, .selects RX0 yX0_areNeighbours yX0_areNeighbours, .initialized RX0, .code yX0_areNeighbours cX0_areNeighbours 3 (some .boolean), .fieldLink RX0 28 "LanternWalk$Parade" "stage" "[I", .fieldLink RX0 31 "LanternWalk$Parade" "place" "[I"] ++ wsX00 ++ wsX10)
def wsX0_foremostPlace : List Cond := .code yX0_foremostPlace cX0_foremostPlace 3 (some .int) :: ([.fieldLink RX0 58 "LanternWalk$Parade" "setting" "LLanternWalk$Setting;", .fieldLink RX0 92 "LanternWalk$Setting" "walkers" "I", .fieldLink RX0 28 "LanternWalk$Parade" "stage" "[I", .fieldLink RX0 31 "LanternWalk$Parade" "place" "[I"] ++ wsX00 ++ wsX10)
def wsX0_paradeLength : List Cond := .code yX0_paradeLength cX0_paradeLength 4 (some .int) :: ([.fieldLink RX0 58 "LanternWalk$Parade" "setting" "LLanternWalk$Setting;", .fieldLink RX0 92 "LanternWalk$Setting" "walkers" "I", .fieldLink RX0 28 "LanternWalk$Parade" "stage" "[I", .fieldLink RX0 31 "LanternWalk$Parade" "place" "[I", .methodLink RX0 123 yX0_foremostPlace, .instanceMethod yX0_foremostPlace, .selects RX0 yX0_foremostPlace yX0_foremostPlace, .initialized RX0, .code yX0_foremostPlace cX0_foremostPlace 3 (some .int)] ++ wsX00 ++ wsX10)
def wsJ9_floorMod_7cf53 : List Cond := .code yJ9_floorMod_7cf53 cJ9_floorMod_7cf53 3 (some .int) :: ([])
def wsX0_burnDown : List Cond := .code yX0_burnDown cX0_burnDown 4 none :: ([.fieldLink RX0 58 "LanternWalk$Parade" "setting" "LLanternWalk$Setting;", .fieldLink RX0 92 "LanternWalk$Setting" "walkers" "I", .fieldLink RX0 24 "LanternWalk$Parade" "burns" "[Z", .fieldLink RX0 28 "LanternWalk$Parade" "stage" "[I", .fieldLink RX0 21 "LanternWalk$Parade" "wick" "[I", .methodLink RX0 155 Lib.Math.max.name, .static Lib.Math.max.name, .initialized "java/lang/Math", .code Lib.Math.max.name Lib.Math.max.code 2 (some .int)] ++ wsX00 ++ wsX10)
def wsX0_blowOut : List Cond := .code yX0_blowOut cX0_blowOut 3 none :: ([.fieldLink RX0 58 "LanternWalk$Parade" "setting" "LLanternWalk$Setting;", .fieldLink RX0 92 "LanternWalk$Setting" "walkers" "I", .fieldLink RX0 28 "LanternWalk$Parade" "stage" "[I", .fieldLink RX0 24 "LanternWalk$Parade" "burns" "[Z", .methodLink RX0 158 yX0_neighboursOf, .instanceMethod yX0_neighboursOf, .selects RX0 yX0_neighboursOf yX0_neighboursOf, .initialized RX0, .code yX0_neighboursOf cX0_neighboursOf 4 (some .int), .methodLink RX0 119 yX0_areNeighbours, .instanceMethod yX0_areNeighbours, .selects RX0 yX0_areNeighbours yX0_areNeighbours, .code yX0_areNeighbours cX0_areNeighbours 3 (some .boolean), .fieldLink RX0 31 "LanternWalk$Parade" "place" "[I"] ++ wsX00 ++ wsX10)
def wsX0_isBesideBurning : List Cond := .code yX0_isBesideBurning cX0_isBesideBurning 3 (some .boolean) :: ([.fieldLink RX0 58 "LanternWalk$Parade" "setting" "LLanternWalk$Setting;", .fieldLink RX0 92 "LanternWalk$Setting" "walkers" "I", .fieldLink RX0 43 "LanternWalk$Parade" "burnedBefore" "[Z", .methodLink RX0 119 yX0_areNeighbours, .instanceMethod yX0_areNeighbours, .selects RX0 yX0_areNeighbours yX0_areNeighbours, .initialized RX0, .code yX0_areNeighbours cX0_areNeighbours 3 (some .boolean), .fieldLink RX0 28 "LanternWalk$Parade" "stage" "[I", .fieldLink RX0 31 "LanternWalk$Parade" "place" "[I"] ++ wsX00 ++ wsX10)
def wsX0_lightEachOther : List Cond := .code yX0_lightEachOther cX0_lightEachOther 2 none :: ([.fieldLink RX0 24 "LanternWalk$Parade" "burns" "[Z", .fieldLink RX0 43 "LanternWalk$Parade" "burnedBefore" "[Z", .fieldLink RX0 58 "LanternWalk$Parade" "setting" "LLanternWalk$Setting;", .fieldLink RX0 92 "LanternWalk$Setting" "walkers" "I", .fieldLink RX0 28 "LanternWalk$Parade" "stage" "[I", .fieldLink RX0 21 "LanternWalk$Parade" "wick" "[I", .methodLink RX0 76 yX0_copyFlags, .static yX0_copyFlags, .initialized RX0, .code yX0_copyFlags cX0_copyFlags 3 none, .methodLink RX0 161 yX0_isBesideBurning, .instanceMethod yX0_isBesideBurning, .selects RX0 yX0_isBesideBurning yX0_isBesideBurning, .code yX0_isBesideBurning cX0_isBesideBurning 3 (some .boolean), .methodLink RX0 119 yX0_areNeighbours, .instanceMethod yX0_areNeighbours, .selects RX0 yX0_areNeighbours yX0_areNeighbours, .code yX0_areNeighbours cX0_areNeighbours 3 (some .boolean), .fieldLink RX0 31 "LanternWalk$Parade" "place" "[I"] ++ wsX00 ++ wsX10)
def wsX0_listenTo : List Cond := .code yX0_listenTo cX0_listenTo 9 none :: ([.fieldLink RX0 58 "LanternWalk$Parade" "setting" "LLanternWalk$Setting;", .fieldLink RX0 172 "LanternWalk$Setting" "voice" "[I", .fieldLink RX0 24 "LanternWalk$Parade" "burns" "[Z", .fieldLink RX0 97 "LanternWalk$Setting" "songs" "I", .fieldLink RX0 46 "LanternWalk$Parade" "knownBefore" "[I", .fieldLink RX0 49 "LanternWalk$Parade" "loudest" "[I", .fieldLink RX0 175 "LanternWalk$Setting" "songLength" "[I", .fieldLink RX0 40 "LanternWalk$Parade" "known" "[I", .static yX2_cellOf, .initialized RX2, .code yX2_cellOf cX2_cellOf 2 (some .int)] ++ wsX00 ++ wsX10)
def wsX0_listenAround_r1 : List Cond := [Cond.fieldLink RX0 49 "LanternWalk$Parade" "loudest" "[I", Cond.fieldLink RX0 58 "LanternWalk$Parade" "setting" "LLanternWalk$Setting;", Cond.fieldLink RX0 92 "LanternWalk$Setting" "walkers" "I", Cond.methodLink RX0 62 yJ7_fill_53178, Cond.static yJ7_fill_53178, Cond.initialized RJ7, Cond.code yJ7_fill_53178 cJ7_fill_53178 4 none, Cond.methodLink RX0 119 yX0_areNeighbours, Cond.instanceMethod yX0_areNeighbours, Cond.selects RX0 yX0_areNeighbours yX0_areNeighbours, Cond.initialized RX0, Cond.code yX0_areNeighbours cX0_areNeighbours 3 (some .boolean), Cond.fieldLink RX0 28 "LanternWalk$Parade" "stage" "[I", Cond.fieldLink RX0 31 "LanternWalk$Parade" "place" "[I", Cond.methodLink RX0 168 yX0_listenTo, Cond.instanceMethod yX0_listenTo, Cond.selects RX0 yX0_listenTo yX0_listenTo, Cond.code yX0_listenTo cX0_listenTo 9 none, Cond.fieldLink RX0 172 "LanternWalk$Setting" "voice" "[I", Cond.fieldLink RX0 24 "LanternWalk$Parade" "burns" "[Z", Cond.fieldLink RX0 97 "LanternWalk$Setting" "songs" "I", Cond.fieldLink RX0 46 "LanternWalk$Parade" "knownBefore" "[I", Cond.fieldLink RX0 175 "LanternWalk$Setting" "songLength" "[I", Cond.fieldLink RX0 40 "LanternWalk$Parade" "known" "[I"]
def wsX0_listenAround_r2 : List Cond := [Cond.static yX2_cellOf, Cond.initialized RX2, Cond.code yX2_cellOf cX2_cellOf 2 (some .int)]
def wsX0_listenAround : List Cond := .code yX0_listenAround cX0_listenAround 3 none :: ((wsX0_listenAround_r1 ++ wsX0_listenAround_r2) ++ wsX00 ++ wsX10)
def wsX0_singToEachOther_r1 : List Cond := [Cond.fieldLink RX0 40 "LanternWalk$Parade" "known" "[I", Cond.fieldLink RX0 46 "LanternWalk$Parade" "knownBefore" "[I", Cond.fieldLink RX0 58 "LanternWalk$Parade" "setting" "LLanternWalk$Setting;", Cond.fieldLink RX0 92 "LanternWalk$Setting" "walkers" "I", Cond.fieldLink RX0 28 "LanternWalk$Parade" "stage" "[I", Cond.methodLink RX0 72 yX0_copyNumbers, Cond.static yX0_copyNumbers, Cond.initialized RX0, Cond.code yX0_copyNumbers cX0_copyNumbers 2 none, Cond.methodLink RX0 80 Lib.Math.min.name, Cond.static Lib.Math.min.name, Cond.initialized "java/lang/Math", Cond.code Lib.Math.min.name Lib.Math.min.code 2 (some .int), Cond.methodLink RX0 86 arraycopyName, Cond.native arraycopyName, Cond.static arraycopyName, Cond.initialized "java/lang/System", Cond.methodLink RX0 165 yX0_listenAround, Cond.instanceMethod yX0_listenAround, Cond.selects RX0 yX0_listenAround yX0_listenAround, Cond.code yX0_listenAround cX0_listenAround 3 none, Cond.fieldLink RX0 49 "LanternWalk$Parade" "loudest" "[I", Cond.methodLink RX0 62 yJ7_fill_53178, Cond.static yJ7_fill_53178]
def wsX0_singToEachOther_r2 : List Cond := [Cond.initialized RJ7, Cond.code yJ7_fill_53178 cJ7_fill_53178 4 none, Cond.methodLink RX0 119 yX0_areNeighbours, Cond.instanceMethod yX0_areNeighbours, Cond.selects RX0 yX0_areNeighbours yX0_areNeighbours, Cond.code yX0_areNeighbours cX0_areNeighbours 3 (some .boolean), Cond.fieldLink RX0 31 "LanternWalk$Parade" "place" "[I", Cond.methodLink RX0 168 yX0_listenTo, Cond.instanceMethod yX0_listenTo, Cond.selects RX0 yX0_listenTo yX0_listenTo, Cond.code yX0_listenTo cX0_listenTo 9 none, Cond.fieldLink RX0 172 "LanternWalk$Setting" "voice" "[I", Cond.fieldLink RX0 24 "LanternWalk$Parade" "burns" "[Z", Cond.fieldLink RX0 97 "LanternWalk$Setting" "songs" "I", Cond.fieldLink RX0 175 "LanternWalk$Setting" "songLength" "[I", Cond.static yX2_cellOf, Cond.initialized RX2, Cond.code yX2_cellOf cX2_cellOf 2 (some .int)]
def wsX0_singToEachOther : List Cond := .code yX0_singToEachOther cX0_singToEachOther 2 none :: ((wsX0_singToEachOther_r1 ++ wsX0_singToEachOther_r2) ++ wsX00 ++ wsX10)
def wsX0_foremostToGo : List Cond := .code yX0_foremostToGo cX0_foremostToGo 4 (some .int) :: ([.fieldLink RX0 58 "LanternWalk$Parade" "setting" "LLanternWalk$Setting;", .fieldLink RX0 92 "LanternWalk$Setting" "walkers" "I", .fieldLink RX0 28 "LanternWalk$Parade" "stage" "[I", .fieldLink RX0 55 "LanternWalk$Parade" "hasGone" "[Z", .fieldLink RX0 31 "LanternWalk$Parade" "place" "[I"] ++ wsX00 ++ wsX10)
def wsX1_stretchEndingAt : List Cond := .code yX1_stretchEndingAt cX1_stretchEndingAt 3 (some .int) :: ([.fieldLink RX1 33 "LanternWalk$Setting" "stretches" "I", .fieldLink RX1 18 "LanternWalk$Setting" "first" "[I", .fieldLink RX1 9 "LanternWalk$Setting" "length" "[I"] ++ wsX10)
def wsX0_passCorner : List Cond := .code yX0_passCorner cX0_passCorner 2 (some .boolean) :: ([.fieldLink RX0 52 "LanternWalk$Parade" "stillLets" "[I", .fieldLink RX0 18 "LanternWalk$Parade" "stopped" "[I", .fieldLink RX0 15 "LanternWalk$Parade" "passed" "[I"] ++ wsX00)
def wsX0_comeHome : List Cond := .code yX0_comeHome cX0_comeHome 2 none :: ([.fieldLink RX0 28 "LanternWalk$Parade" "stage" "[I", .fieldLink RX0 31 "LanternWalk$Parade" "place" "[I", .fieldLink RX0 37 "LanternWalk$Parade" "cameHome" "[I", .fieldLink RX0 68 "LanternWalk$Parade" "step" "I"] ++ wsX00)
def wsX0_goOnePlace_r1 : List Cond := [Cond.fieldLink RX0 31 "LanternWalk$Parade" "place" "[I", Cond.fieldLink RX0 58 "LanternWalk$Parade" "setting" "LLanternWalk$Setting;", Cond.fieldLink RX0 205 "LanternWalk$Setting" "places" "I", Cond.methodLink RX0 196 yX0_walkersAt, Cond.instanceMethod yX0_walkersAt, Cond.selects RX0 yX0_walkersAt yX0_walkersAt, Cond.initialized RX0, Cond.code yX0_walkersAt cX0_walkersAt 4 (some .int), Cond.fieldLink RX0 92 "LanternWalk$Setting" "walkers" "I", Cond.fieldLink RX0 28 "LanternWalk$Parade" "stage" "[I", Cond.methodLink RX0 199 yX1_stretchEndingAt, Cond.instanceMethod yX1_stretchEndingAt, Cond.selects RX1 yX1_stretchEndingAt yX1_stretchEndingAt, Cond.initialized RX1, Cond.code yX1_stretchEndingAt cX1_stretchEndingAt 3 (some .int), Cond.fieldLink RX1 33 "LanternWalk$Setting" "stretches" "I", Cond.fieldLink RX1 18 "LanternWalk$Setting" "first" "[I", Cond.fieldLink RX1 9 "LanternWalk$Setting" "length" "[I", Cond.methodLink RX0 202 yX0_passCorner, Cond.instanceMethod yX0_passCorner, Cond.selects RX0 yX0_passCorner yX0_passCorner, Cond.code yX0_passCorner cX0_passCorner 2 (some .boolean), Cond.fieldLink RX0 52 "LanternWalk$Parade" "stillLets" "[I", Cond.fieldLink RX0 18 "LanternWalk$Parade" "stopped" "[I"]
def wsX0_goOnePlace_r2 : List Cond := [Cond.fieldLink RX0 15 "LanternWalk$Parade" "passed" "[I", Cond.methodLink RX0 208 yX0_comeHome, Cond.instanceMethod yX0_comeHome, Cond.selects RX0 yX0_comeHome yX0_comeHome, Cond.code yX0_comeHome cX0_comeHome 2 none, Cond.fieldLink RX0 37 "LanternWalk$Parade" "cameHome" "[I", Cond.fieldLink RX0 68 "LanternWalk$Parade" "step" "I"]
def wsX0_goOnePlace : List Cond := .code yX0_goOnePlace cX0_goOnePlace 4 (some .boolean) :: ((wsX0_goOnePlace_r1 ++ wsX0_goOnePlace_r2) ++ wsX00 ++ wsX10)
def wsX0_walkOn_r1 : List Cond := [Cond.fieldLink RX0 58 "LanternWalk$Parade" "setting" "LLanternWalk$Setting;", Cond.fieldLink RX0 190 "LanternWalk$Setting" "pace" "[I", Cond.fieldLink RX0 24 "LanternWalk$Parade" "burns" "[Z", Cond.fieldLink RX0 34 "LanternWalk$Parade" "dark" "[I", Cond.methodLink RX0 155 Lib.Math.max.name, Cond.static Lib.Math.max.name, Cond.initialized "java/lang/Math", Cond.code Lib.Math.max.name Lib.Math.max.code 2 (some .int), Cond.methodLink RX0 193 yX0_goOnePlace, Cond.instanceMethod yX0_goOnePlace, Cond.selects RX0 yX0_goOnePlace yX0_goOnePlace, Cond.initialized RX0, Cond.code yX0_goOnePlace cX0_goOnePlace 4 (some .boolean), Cond.fieldLink RX0 31 "LanternWalk$Parade" "place" "[I", Cond.fieldLink RX0 205 "LanternWalk$Setting" "places" "I", Cond.methodLink RX0 196 yX0_walkersAt, Cond.instanceMethod yX0_walkersAt, Cond.selects RX0 yX0_walkersAt yX0_walkersAt, Cond.code yX0_walkersAt cX0_walkersAt 4 (some .int), Cond.fieldLink RX0 92 "LanternWalk$Setting" "walkers" "I", Cond.fieldLink RX0 28 "LanternWalk$Parade" "stage" "[I", Cond.methodLink RX0 199 yX1_stretchEndingAt, Cond.instanceMethod yX1_stretchEndingAt, Cond.selects RX1 yX1_stretchEndingAt yX1_stretchEndingAt]
def wsX0_walkOn_r2 : List Cond := [Cond.initialized RX1, Cond.code yX1_stretchEndingAt cX1_stretchEndingAt 3 (some .int), Cond.fieldLink RX1 33 "LanternWalk$Setting" "stretches" "I", Cond.fieldLink RX1 18 "LanternWalk$Setting" "first" "[I", Cond.fieldLink RX1 9 "LanternWalk$Setting" "length" "[I", Cond.methodLink RX0 202 yX0_passCorner, Cond.instanceMethod yX0_passCorner, Cond.selects RX0 yX0_passCorner yX0_passCorner, Cond.code yX0_passCorner cX0_passCorner 2 (some .boolean), Cond.fieldLink RX0 52 "LanternWalk$Parade" "stillLets" "[I", Cond.fieldLink RX0 18 "LanternWalk$Parade" "stopped" "[I", Cond.fieldLink RX0 15 "LanternWalk$Parade" "passed" "[I", Cond.methodLink RX0 208 yX0_comeHome, Cond.instanceMethod yX0_comeHome, Cond.selects RX0 yX0_comeHome yX0_comeHome, Cond.code yX0_comeHome cX0_comeHome 2 none, Cond.fieldLink RX0 37 "LanternWalk$Parade" "cameHome" "[I", Cond.fieldLink RX0 68 "LanternWalk$Parade" "step" "I"]
def wsX0_walkOn : List Cond := .code yX0_walkOn cX0_walkOn 5 none :: ((wsX0_walkOn_r1 ++ wsX0_walkOn_r2) ++ wsX00 ++ wsX10)
def wsX0_goOn_r1 : List Cond := [Cond.fieldLink RX0 58 "LanternWalk$Parade" "setting" "LLanternWalk$Setting;", Cond.fieldLink RX0 178 "LanternWalk$Setting" "stretches" "I", Cond.fieldLink RX0 52 "LanternWalk$Parade" "stillLets" "[I", Cond.fieldLink RX0 92 "LanternWalk$Setting" "walkers" "I", Cond.fieldLink RX0 55 "LanternWalk$Parade" "hasGone" "[Z", Cond.methodLink RX0 181 yX0_letsThrough, Cond.instanceMethod yX0_letsThrough, Cond.selects RX0 yX0_letsThrough yX0_letsThrough, Cond.initialized RX0, Cond.code yX0_letsThrough cX0_letsThrough 4 (some .int), Cond.fieldLink RX0 110 "LanternWalk$Setting" "lets" "[I", Cond.fieldLink RX0 9 "LanternWalk$Parade" "corner" "[I", Cond.methodLink RX0 184 yX0_foremostToGo, Cond.instanceMethod yX0_foremostToGo, Cond.selects RX0 yX0_foremostToGo yX0_foremostToGo, Cond.code yX0_foremostToGo cX0_foremostToGo 4 (some .int), Cond.fieldLink RX0 28 "LanternWalk$Parade" "stage" "[I", Cond.fieldLink RX0 31 "LanternWalk$Parade" "place" "[I", Cond.methodLink RX0 187 yX0_walkOn, Cond.instanceMethod yX0_walkOn, Cond.selects RX0 yX0_walkOn yX0_walkOn, Cond.code yX0_walkOn cX0_walkOn 5 none, Cond.fieldLink RX0 190 "LanternWalk$Setting" "pace" "[I", Cond.fieldLink RX0 24 "LanternWalk$Parade" "burns" "[Z"]
def wsX0_goOn_r2 : List Cond := [Cond.fieldLink RX0 34 "LanternWalk$Parade" "dark" "[I", Cond.methodLink RX0 155 Lib.Math.max.name, Cond.static Lib.Math.max.name, Cond.initialized "java/lang/Math", Cond.code Lib.Math.max.name Lib.Math.max.code 2 (some .int), Cond.methodLink RX0 193 yX0_goOnePlace, Cond.instanceMethod yX0_goOnePlace, Cond.selects RX0 yX0_goOnePlace yX0_goOnePlace, Cond.code yX0_goOnePlace cX0_goOnePlace 4 (some .boolean), Cond.fieldLink RX0 205 "LanternWalk$Setting" "places" "I", Cond.methodLink RX0 196 yX0_walkersAt, Cond.instanceMethod yX0_walkersAt, Cond.selects RX0 yX0_walkersAt yX0_walkersAt, Cond.code yX0_walkersAt cX0_walkersAt 4 (some .int), Cond.methodLink RX0 199 yX1_stretchEndingAt, Cond.instanceMethod yX1_stretchEndingAt, Cond.selects RX1 yX1_stretchEndingAt yX1_stretchEndingAt, Cond.initialized RX1, Cond.code yX1_stretchEndingAt cX1_stretchEndingAt 3 (some .int), Cond.fieldLink RX1 33 "LanternWalk$Setting" "stretches" "I", Cond.fieldLink RX1 18 "LanternWalk$Setting" "first" "[I", Cond.fieldLink RX1 9 "LanternWalk$Setting" "length" "[I", Cond.methodLink RX0 202 yX0_passCorner, Cond.instanceMethod yX0_passCorner]
def wsX0_goOn_r3 : List Cond := [Cond.selects RX0 yX0_passCorner yX0_passCorner, Cond.code yX0_passCorner cX0_passCorner 2 (some .boolean), Cond.fieldLink RX0 18 "LanternWalk$Parade" "stopped" "[I", Cond.fieldLink RX0 15 "LanternWalk$Parade" "passed" "[I", Cond.methodLink RX0 208 yX0_comeHome, Cond.instanceMethod yX0_comeHome, Cond.selects RX0 yX0_comeHome yX0_comeHome, Cond.code yX0_comeHome cX0_comeHome 2 none, Cond.fieldLink RX0 37 "LanternWalk$Parade" "cameHome" "[I", Cond.fieldLink RX0 68 "LanternWalk$Parade" "step" "I"]
def wsX0_goOn : List Cond := .code yX0_goOn cX0_goOn 3 none :: ((wsX0_goOn_r1 ++ (wsX0_goOn_r2 ++ wsX0_goOn_r3)) ++ wsX00 ++ wsX10)
def wsX0_start : List Cond := .code yX0_start cX0_start 2 none :: ([.fieldLink RX0 58 "LanternWalk$Parade" "setting" "LLanternWalk$Setting;", .fieldLink RX0 92 "LanternWalk$Setting" "walkers" "I", .fieldLink RX0 28 "LanternWalk$Parade" "stage" "[I", .fieldLink RX0 31 "LanternWalk$Parade" "place" "[I", .methodLink RX0 196 yX0_walkersAt, .instanceMethod yX0_walkersAt, .selects RX0 yX0_walkersAt yX0_walkersAt, .initialized RX0, .code yX0_walkersAt cX0_walkersAt 4 (some .int)] ++ wsX00 ++ wsX10)
def wsX0_takeStep_r1 : List Cond := [Cond.fieldLink RX0 58 "LanternWalk$Parade" "setting" "LLanternWalk$Setting;", Cond.fieldLink RX0 130 "LanternWalk$Setting" "wind" "[I", Cond.fieldLink RX0 68 "LanternWalk$Parade" "step" "I", Cond.methodLink RX0 133 yJ9_floorMod_7cf53, Cond.static yJ9_floorMod_7cf53, Cond.initialized RJ9, Cond.code yJ9_floorMod_7cf53 cJ9_floorMod_7cf53 3 (some .int), Cond.methodLink RX0 136 yX0_burnDown, Cond.instanceMethod yX0_burnDown, Cond.selects RX0 yX0_burnDown yX0_burnDown, Cond.initialized RX0, Cond.code yX0_burnDown cX0_burnDown 4 none, Cond.fieldLink RX0 92 "LanternWalk$Setting" "walkers" "I", Cond.fieldLink RX0 24 "LanternWalk$Parade" "burns" "[Z", Cond.fieldLink RX0 28 "LanternWalk$Parade" "stage" "[I", Cond.fieldLink RX0 21 "LanternWalk$Parade" "wick" "[I", Cond.methodLink RX0 155 Lib.Math.max.name, Cond.static Lib.Math.max.name, Cond.initialized "java/lang/Math", Cond.code Lib.Math.max.name Lib.Math.max.code 2 (some .int), Cond.methodLink RX0 140 yX0_blowOut, Cond.instanceMethod yX0_blowOut, Cond.selects RX0 yX0_blowOut yX0_blowOut, Cond.code yX0_blowOut cX0_blowOut 3 none]
def wsX0_takeStep_r2 : List Cond := [Cond.methodLink RX0 158 yX0_neighboursOf, Cond.instanceMethod yX0_neighboursOf, Cond.selects RX0 yX0_neighboursOf yX0_neighboursOf, Cond.code yX0_neighboursOf cX0_neighboursOf 4 (some .int), Cond.methodLink RX0 119 yX0_areNeighbours, Cond.instanceMethod yX0_areNeighbours, Cond.selects RX0 yX0_areNeighbours yX0_areNeighbours, Cond.code yX0_areNeighbours cX0_areNeighbours 3 (some .boolean), Cond.fieldLink RX0 31 "LanternWalk$Parade" "place" "[I", Cond.methodLink RX0 143 yX0_lightEachOther, Cond.instanceMethod yX0_lightEachOther, Cond.selects RX0 yX0_lightEachOther yX0_lightEachOther, Cond.code yX0_lightEachOther cX0_lightEachOther 2 none, Cond.fieldLink RX0 43 "LanternWalk$Parade" "burnedBefore" "[Z", Cond.methodLink RX0 76 yX0_copyFlags, Cond.static yX0_copyFlags, Cond.code yX0_copyFlags cX0_copyFlags 3 none, Cond.methodLink RX0 161 yX0_isBesideBurning, Cond.instanceMethod yX0_isBesideBurning, Cond.selects RX0 yX0_isBesideBurning yX0_isBesideBurning, Cond.code yX0_isBesideBurning cX0_isBesideBurning 3 (some .boolean), Cond.methodLink RX0 146 yX0_singToEachOther, Cond.instanceMethod yX0_singToEachOther, Cond.selects RX0 yX0_singToEachOther yX0_singToEachOther]
def wsX0_takeStep_r3 : List Cond := [Cond.code yX0_singToEachOther cX0_singToEachOther 2 none, Cond.fieldLink RX0 40 "LanternWalk$Parade" "known" "[I", Cond.fieldLink RX0 46 "LanternWalk$Parade" "knownBefore" "[I", Cond.methodLink RX0 72 yX0_copyNumbers, Cond.static yX0_copyNumbers, Cond.code yX0_copyNumbers cX0_copyNumbers 2 none, Cond.methodLink RX0 80 Lib.Math.min.name, Cond.static Lib.Math.min.name, Cond.code Lib.Math.min.name Lib.Math.min.code 2 (some .int), Cond.methodLink RX0 86 arraycopyName, Cond.native arraycopyName, Cond.static arraycopyName, Cond.initialized "java/lang/System", Cond.methodLink RX0 165 yX0_listenAround, Cond.instanceMethod yX0_listenAround, Cond.selects RX0 yX0_listenAround yX0_listenAround, Cond.code yX0_listenAround cX0_listenAround 3 none, Cond.fieldLink RX0 49 "LanternWalk$Parade" "loudest" "[I", Cond.methodLink RX0 62 yJ7_fill_53178, Cond.static yJ7_fill_53178, Cond.initialized RJ7, Cond.code yJ7_fill_53178 cJ7_fill_53178 4 none, Cond.methodLink RX0 168 yX0_listenTo, Cond.instanceMethod yX0_listenTo]
def wsX0_takeStep_r4 : List Cond := [Cond.selects RX0 yX0_listenTo yX0_listenTo, Cond.code yX0_listenTo cX0_listenTo 9 none, Cond.fieldLink RX0 172 "LanternWalk$Setting" "voice" "[I", Cond.fieldLink RX0 97 "LanternWalk$Setting" "songs" "I", Cond.fieldLink RX0 175 "LanternWalk$Setting" "songLength" "[I", Cond.static yX2_cellOf, Cond.initialized RX2, Cond.code yX2_cellOf cX2_cellOf 2 (some .int), Cond.methodLink RX0 149 yX0_goOn, Cond.instanceMethod yX0_goOn, Cond.selects RX0 yX0_goOn yX0_goOn, Cond.code yX0_goOn cX0_goOn 3 none, Cond.fieldLink RX0 178 "LanternWalk$Setting" "stretches" "I", Cond.fieldLink RX0 52 "LanternWalk$Parade" "stillLets" "[I", Cond.fieldLink RX0 55 "LanternWalk$Parade" "hasGone" "[Z", Cond.methodLink RX0 181 yX0_letsThrough, Cond.instanceMethod yX0_letsThrough, Cond.selects RX0 yX0_letsThrough yX0_letsThrough, Cond.code yX0_letsThrough cX0_letsThrough 4 (some .int), Cond.fieldLink RX0 110 "LanternWalk$Setting" "lets" "[I", Cond.fieldLink RX0 9 "LanternWalk$Parade" "corner" "[I", Cond.methodLink RX0 184 yX0_foremostToGo, Cond.instanceMethod yX0_foremostToGo, Cond.selects RX0 yX0_foremostToGo yX0_foremostToGo]
def wsX0_takeStep_r5 : List Cond := [Cond.code yX0_foremostToGo cX0_foremostToGo 4 (some .int), Cond.methodLink RX0 187 yX0_walkOn, Cond.instanceMethod yX0_walkOn, Cond.selects RX0 yX0_walkOn yX0_walkOn, Cond.code yX0_walkOn cX0_walkOn 5 none, Cond.fieldLink RX0 190 "LanternWalk$Setting" "pace" "[I", Cond.fieldLink RX0 34 "LanternWalk$Parade" "dark" "[I", Cond.methodLink RX0 193 yX0_goOnePlace, Cond.instanceMethod yX0_goOnePlace, Cond.selects RX0 yX0_goOnePlace yX0_goOnePlace, Cond.code yX0_goOnePlace cX0_goOnePlace 4 (some .boolean), Cond.fieldLink RX0 205 "LanternWalk$Setting" "places" "I", Cond.methodLink RX0 196 yX0_walkersAt, Cond.instanceMethod yX0_walkersAt, Cond.selects RX0 yX0_walkersAt yX0_walkersAt, Cond.code yX0_walkersAt cX0_walkersAt 4 (some .int), Cond.methodLink RX0 199 yX1_stretchEndingAt, Cond.instanceMethod yX1_stretchEndingAt, Cond.selects RX1 yX1_stretchEndingAt yX1_stretchEndingAt, Cond.initialized RX1, Cond.code yX1_stretchEndingAt cX1_stretchEndingAt 3 (some .int), Cond.fieldLink RX1 33 "LanternWalk$Setting" "stretches" "I", Cond.fieldLink RX1 18 "LanternWalk$Setting" "first" "[I", Cond.fieldLink RX1 9 "LanternWalk$Setting" "length" "[I"]
def wsX0_takeStep_r6 : List Cond := [Cond.methodLink RX0 202 yX0_passCorner, Cond.instanceMethod yX0_passCorner, Cond.selects RX0 yX0_passCorner yX0_passCorner, Cond.code yX0_passCorner cX0_passCorner 2 (some .boolean), Cond.fieldLink RX0 18 "LanternWalk$Parade" "stopped" "[I", Cond.fieldLink RX0 15 "LanternWalk$Parade" "passed" "[I", Cond.methodLink RX0 208 yX0_comeHome, Cond.instanceMethod yX0_comeHome, Cond.selects RX0 yX0_comeHome yX0_comeHome, Cond.code yX0_comeHome cX0_comeHome 2 none, Cond.fieldLink RX0 37 "LanternWalk$Parade" "cameHome" "[I", Cond.methodLink RX0 152 yX0_start, Cond.instanceMethod yX0_start, Cond.selects RX0 yX0_start yX0_start, Cond.code yX0_start cX0_start 2 none]
def wsX0_takeStep : List Cond := .code yX0_takeStep cX0_takeStep 2 none :: ((wsX0_takeStep_r1 ++ (wsX0_takeStep_r2 ++ (wsX0_takeStep_r3 ++ (wsX0_takeStep_r4 ++ (wsX0_takeStep_r5 ++ wsX0_takeStep_r6))))) ++ wsX00 ++ wsX10)
def wsX0_takeSteps_r1 : List Cond := [Cond.methodLink RX0 127 yX0_takeStep, Cond.instanceMethod yX0_takeStep, Cond.selects RX0 yX0_takeStep yX0_takeStep, Cond.initialized RX0, Cond.code yX0_takeStep cX0_takeStep 2 none, Cond.fieldLink RX0 58 "LanternWalk$Parade" "setting" "LLanternWalk$Setting;", Cond.fieldLink RX0 130 "LanternWalk$Setting" "wind" "[I", Cond.fieldLink RX0 68 "LanternWalk$Parade" "step" "I", Cond.methodLink RX0 133 yJ9_floorMod_7cf53, Cond.static yJ9_floorMod_7cf53, Cond.initialized RJ9, Cond.code yJ9_floorMod_7cf53 cJ9_floorMod_7cf53 3 (some .int), Cond.methodLink RX0 136 yX0_burnDown, Cond.instanceMethod yX0_burnDown, Cond.selects RX0 yX0_burnDown yX0_burnDown, Cond.code yX0_burnDown cX0_burnDown 4 none, Cond.fieldLink RX0 92 "LanternWalk$Setting" "walkers" "I", Cond.fieldLink RX0 24 "LanternWalk$Parade" "burns" "[Z", Cond.fieldLink RX0 28 "LanternWalk$Parade" "stage" "[I", Cond.fieldLink RX0 21 "LanternWalk$Parade" "wick" "[I", Cond.methodLink RX0 155 Lib.Math.max.name, Cond.static Lib.Math.max.name, Cond.initialized "java/lang/Math", Cond.code Lib.Math.max.name Lib.Math.max.code 2 (some .int)]
def wsX0_takeSteps_r2 : List Cond := [Cond.methodLink RX0 140 yX0_blowOut, Cond.instanceMethod yX0_blowOut, Cond.selects RX0 yX0_blowOut yX0_blowOut, Cond.code yX0_blowOut cX0_blowOut 3 none, Cond.methodLink RX0 158 yX0_neighboursOf, Cond.instanceMethod yX0_neighboursOf, Cond.selects RX0 yX0_neighboursOf yX0_neighboursOf, Cond.code yX0_neighboursOf cX0_neighboursOf 4 (some .int), Cond.methodLink RX0 119 yX0_areNeighbours, Cond.instanceMethod yX0_areNeighbours, Cond.selects RX0 yX0_areNeighbours yX0_areNeighbours, Cond.code yX0_areNeighbours cX0_areNeighbours 3 (some .boolean), Cond.fieldLink RX0 31 "LanternWalk$Parade" "place" "[I", Cond.methodLink RX0 143 yX0_lightEachOther, Cond.instanceMethod yX0_lightEachOther, Cond.selects RX0 yX0_lightEachOther yX0_lightEachOther, Cond.code yX0_lightEachOther cX0_lightEachOther 2 none, Cond.fieldLink RX0 43 "LanternWalk$Parade" "burnedBefore" "[Z", Cond.methodLink RX0 76 yX0_copyFlags, Cond.static yX0_copyFlags, Cond.code yX0_copyFlags cX0_copyFlags 3 none, Cond.methodLink RX0 161 yX0_isBesideBurning, Cond.instanceMethod yX0_isBesideBurning, Cond.selects RX0 yX0_isBesideBurning yX0_isBesideBurning]
def wsX0_takeSteps_r3 : List Cond := [Cond.code yX0_isBesideBurning cX0_isBesideBurning 3 (some .boolean), Cond.methodLink RX0 146 yX0_singToEachOther, Cond.instanceMethod yX0_singToEachOther, Cond.selects RX0 yX0_singToEachOther yX0_singToEachOther, Cond.code yX0_singToEachOther cX0_singToEachOther 2 none, Cond.fieldLink RX0 40 "LanternWalk$Parade" "known" "[I", Cond.fieldLink RX0 46 "LanternWalk$Parade" "knownBefore" "[I", Cond.methodLink RX0 72 yX0_copyNumbers, Cond.static yX0_copyNumbers, Cond.code yX0_copyNumbers cX0_copyNumbers 2 none, Cond.methodLink RX0 80 Lib.Math.min.name, Cond.static Lib.Math.min.name, Cond.code Lib.Math.min.name Lib.Math.min.code 2 (some .int), Cond.methodLink RX0 86 arraycopyName, Cond.native arraycopyName, Cond.static arraycopyName, Cond.initialized "java/lang/System", Cond.methodLink RX0 165 yX0_listenAround, Cond.instanceMethod yX0_listenAround, Cond.selects RX0 yX0_listenAround yX0_listenAround, Cond.code yX0_listenAround cX0_listenAround 3 none, Cond.fieldLink RX0 49 "LanternWalk$Parade" "loudest" "[I", Cond.methodLink RX0 62 yJ7_fill_53178, Cond.static yJ7_fill_53178]
def wsX0_takeSteps_r4 : List Cond := [Cond.initialized RJ7, Cond.code yJ7_fill_53178 cJ7_fill_53178 4 none, Cond.methodLink RX0 168 yX0_listenTo, Cond.instanceMethod yX0_listenTo, Cond.selects RX0 yX0_listenTo yX0_listenTo, Cond.code yX0_listenTo cX0_listenTo 9 none, Cond.fieldLink RX0 172 "LanternWalk$Setting" "voice" "[I", Cond.fieldLink RX0 97 "LanternWalk$Setting" "songs" "I", Cond.fieldLink RX0 175 "LanternWalk$Setting" "songLength" "[I", Cond.static yX2_cellOf, Cond.initialized RX2, Cond.code yX2_cellOf cX2_cellOf 2 (some .int), Cond.methodLink RX0 149 yX0_goOn, Cond.instanceMethod yX0_goOn, Cond.selects RX0 yX0_goOn yX0_goOn, Cond.code yX0_goOn cX0_goOn 3 none, Cond.fieldLink RX0 178 "LanternWalk$Setting" "stretches" "I", Cond.fieldLink RX0 52 "LanternWalk$Parade" "stillLets" "[I", Cond.fieldLink RX0 55 "LanternWalk$Parade" "hasGone" "[Z", Cond.methodLink RX0 181 yX0_letsThrough, Cond.instanceMethod yX0_letsThrough, Cond.selects RX0 yX0_letsThrough yX0_letsThrough, Cond.code yX0_letsThrough cX0_letsThrough 4 (some .int), Cond.fieldLink RX0 110 "LanternWalk$Setting" "lets" "[I"]
def wsX0_takeSteps_r5 : List Cond := [Cond.fieldLink RX0 9 "LanternWalk$Parade" "corner" "[I", Cond.methodLink RX0 184 yX0_foremostToGo, Cond.instanceMethod yX0_foremostToGo, Cond.selects RX0 yX0_foremostToGo yX0_foremostToGo, Cond.code yX0_foremostToGo cX0_foremostToGo 4 (some .int), Cond.methodLink RX0 187 yX0_walkOn, Cond.instanceMethod yX0_walkOn, Cond.selects RX0 yX0_walkOn yX0_walkOn, Cond.code yX0_walkOn cX0_walkOn 5 none, Cond.fieldLink RX0 190 "LanternWalk$Setting" "pace" "[I", Cond.fieldLink RX0 34 "LanternWalk$Parade" "dark" "[I", Cond.methodLink RX0 193 yX0_goOnePlace, Cond.instanceMethod yX0_goOnePlace, Cond.selects RX0 yX0_goOnePlace yX0_goOnePlace, Cond.code yX0_goOnePlace cX0_goOnePlace 4 (some .boolean), Cond.fieldLink RX0 205 "LanternWalk$Setting" "places" "I", Cond.methodLink RX0 196 yX0_walkersAt, Cond.instanceMethod yX0_walkersAt, Cond.selects RX0 yX0_walkersAt yX0_walkersAt, Cond.code yX0_walkersAt cX0_walkersAt 4 (some .int), Cond.methodLink RX0 199 yX1_stretchEndingAt, Cond.instanceMethod yX1_stretchEndingAt, Cond.selects RX1 yX1_stretchEndingAt yX1_stretchEndingAt, Cond.initialized RX1]
def wsX0_takeSteps_r6 : List Cond := [Cond.code yX1_stretchEndingAt cX1_stretchEndingAt 3 (some .int), Cond.fieldLink RX1 33 "LanternWalk$Setting" "stretches" "I", Cond.fieldLink RX1 18 "LanternWalk$Setting" "first" "[I", Cond.fieldLink RX1 9 "LanternWalk$Setting" "length" "[I", Cond.methodLink RX0 202 yX0_passCorner, Cond.instanceMethod yX0_passCorner, Cond.selects RX0 yX0_passCorner yX0_passCorner, Cond.code yX0_passCorner cX0_passCorner 2 (some .boolean), Cond.fieldLink RX0 18 "LanternWalk$Parade" "stopped" "[I", Cond.fieldLink RX0 15 "LanternWalk$Parade" "passed" "[I", Cond.methodLink RX0 208 yX0_comeHome, Cond.instanceMethod yX0_comeHome, Cond.selects RX0 yX0_comeHome yX0_comeHome, Cond.code yX0_comeHome cX0_comeHome 2 none, Cond.fieldLink RX0 37 "LanternWalk$Parade" "cameHome" "[I", Cond.methodLink RX0 152 yX0_start, Cond.instanceMethod yX0_start, Cond.selects RX0 yX0_start yX0_start, Cond.code yX0_start cX0_start 2 none]
def wsX0_takeSteps : List Cond := .code yX0_takeSteps cX0_takeSteps 3 none :: ((wsX0_takeSteps_r1 ++ (wsX0_takeSteps_r2 ++ (wsX0_takeSteps_r3 ++ (wsX0_takeSteps_r4 ++ (wsX0_takeSteps_r5 ++ wsX0_takeSteps_r6))))) ++ wsX00 ++ wsX10)
def wsX1_init : List Cond := .code yX1_init cX1_init 1 none :: ([.methodLink RX1 3 objectInit, .instanceMethod objectInit, .code objectInit ⟨#[0xb1]⟩ 1 none, .arrayClass .int, .fieldLink RX1 9 "LanternWalk$Setting" "length" "[I", .fieldLink RX1 15 "LanternWalk$Setting" "lets" "[I", .fieldLink RX1 18 "LanternWalk$Setting" "first" "[I", .fieldLink RX1 21 "LanternWalk$Setting" "wind" "[I", .fieldLink RX1 24 "LanternWalk$Setting" "pace" "[I", .fieldLink RX1 27 "LanternWalk$Setting" "voice" "[I", .fieldLink RX1 30 "LanternWalk$Setting" "songLength" "[I"] ++ wsX10)
def wsX1_hasStretch : List Cond := .code yX1_hasStretch cX1_hasStretch 2 (some .boolean) :: ([.fieldLink RX1 33 "LanternWalk$Setting" "stretches" "I"] ++ wsX10)
def wsX1_hasWalker : List Cond := .code yX1_hasWalker cX1_hasWalker 2 (some .boolean) :: ([.fieldLink RX1 37 "LanternWalk$Setting" "walkers" "I"] ++ wsX10)
def wsX1_hasSong : List Cond := .code yX1_hasSong cX1_hasSong 2 (some .boolean) :: ([.fieldLink RX1 40 "LanternWalk$Setting" "songs" "I"] ++ wsX10)
def wsX1_appendStretch : List Cond := .code yX1_appendStretch cX1_appendStretch 4 (some .int) :: ([.fieldLink RX1 33 "LanternWalk$Setting" "stretches" "I", .fieldLink RX1 9 "LanternWalk$Setting" "length" "[I", .fieldLink RX1 15 "LanternWalk$Setting" "lets" "[I", .fieldLink RX1 18 "LanternWalk$Setting" "first" "[I", .fieldLink RX1 43 "LanternWalk$Setting" "places" "I"] ++ wsX10)
def wsX1_appendWalker : List Cond := .code yX1_appendWalker cX1_appendWalker 4 (some .int) :: ([.fieldLink RX1 37 "LanternWalk$Setting" "walkers" "I", .fieldLink RX1 24 "LanternWalk$Setting" "pace" "[I", .fieldLink RX1 27 "LanternWalk$Setting" "voice" "[I"] ++ wsX10)
def wsX1_appendSong : List Cond := .code yX1_appendSong cX1_appendSong 3 (some .int) :: ([.fieldLink RX1 40 "LanternWalk$Setting" "songs" "I", .fieldLink RX1 30 "LanternWalk$Setting" "songLength" "[I"] ++ wsX10)
def wsX2_init_r1 : List Cond := [Cond.methodLink RX2 1 objectInit, Cond.instanceMethod objectInit, Cond.code objectInit ⟨#[0xb1]⟩ 1 none, Cond.classLink RX2 7 RX1, Cond.instantiable RX1 11, Cond.initialized RX1, Cond.fieldLink RX2 10 "LanternWalk" "setting" "LLanternWalk$Setting;", Cond.classLink RX2 16 RX0, Cond.instantiable RX0 17, Cond.initialized RX0, Cond.fieldLink RX2 21 "LanternWalk" "now" "LLanternWalk$Parade;", Cond.fieldLink RX2 25 "LanternWalk" "ahead" "LLanternWalk$Parade;", Cond.instanceMethod yX1_init, Cond.code yX1_init cX1_init 1 none, Cond.methodLink RX1 3 objectInit, Cond.arrayClass .int, Cond.fieldLink RX1 9 "LanternWalk$Setting" "length" "[I", Cond.fieldLink RX1 15 "LanternWalk$Setting" "lets" "[I", Cond.fieldLink RX1 18 "LanternWalk$Setting" "first" "[I", Cond.fieldLink RX1 21 "LanternWalk$Setting" "wind" "[I", Cond.fieldLink RX1 24 "LanternWalk$Setting" "pace" "[I", Cond.fieldLink RX1 27 "LanternWalk$Setting" "voice" "[I", Cond.fieldLink RX1 30 "LanternWalk$Setting" "songLength" "[I", Cond.methodLink RX2 18 yX0_init]
def wsX2_init_r2 : List Cond := [Cond.instanceMethod yX0_init, Cond.code yX0_init cX0_init 2 none, Cond.methodLink RX0 3 objectInit, Cond.fieldLink RX0 9 "LanternWalk$Parade" "corner" "[I", Cond.fieldLink RX0 15 "LanternWalk$Parade" "passed" "[I", Cond.fieldLink RX0 18 "LanternWalk$Parade" "stopped" "[I", Cond.fieldLink RX0 21 "LanternWalk$Parade" "wick" "[I", Cond.arrayClass .boolean, Cond.fieldLink RX0 24 "LanternWalk$Parade" "burns" "[Z", Cond.fieldLink RX0 28 "LanternWalk$Parade" "stage" "[I", Cond.fieldLink RX0 31 "LanternWalk$Parade" "place" "[I", Cond.fieldLink RX0 34 "LanternWalk$Parade" "dark" "[I", Cond.fieldLink RX0 37 "LanternWalk$Parade" "cameHome" "[I", Cond.fieldLink RX0 40 "LanternWalk$Parade" "known" "[I", Cond.fieldLink RX0 43 "LanternWalk$Parade" "burnedBefore" "[Z", Cond.fieldLink RX0 46 "LanternWalk$Parade" "knownBefore" "[I", Cond.fieldLink RX0 49 "LanternWalk$Parade" "loudest" "[I", Cond.fieldLink RX0 52 "LanternWalk$Parade" "stillLets" "[I", Cond.fieldLink RX0 55 "LanternWalk$Parade" "hasGone" "[Z", Cond.fieldLink RX0 58 "LanternWalk$Parade" "setting" "LLanternWalk$Setting;", Cond.methodLink RX0 62 yJ7_fill_53178, Cond.static yJ7_fill_53178, Cond.initialized RJ7, Cond.code yJ7_fill_53178 cJ7_fill_53178 4 none]
def wsX2_init : List Cond := .code yX2_init cX2_init 2 none :: ((wsX2_init_r1 ++ wsX2_init_r2) ++ wsX10 ++ wsX20 ++ wsX00)
def wsX2_addStretch : List Cond := .code yX2_addStretch cX2_addStretch 3 (some .int) :: ([.classLink RX2 28 "java/lang/IllegalArgumentException", .initialized "java/lang/IllegalArgumentException", .classLink RX2 42 "java/lang/IllegalStateException", .initialized "java/lang/IllegalStateException", .fieldLink RX2 10 "LanternWalk" "setting" "LLanternWalk$Setting;", .fieldLink RX2 35 "LanternWalk$Setting" "stretches" "I", .fieldLink RX2 21 "LanternWalk" "now" "LLanternWalk$Parade;", .fieldLink RX2 39 "LanternWalk$Parade" "step" "I", .methodLink RX2 47 yX1_appendStretch, .instanceMethod yX1_appendStretch, .selects RX1 yX1_appendStretch yX1_appendStretch, .initialized RX1, .code yX1_appendStretch cX1_appendStretch 4 (some .int), .fieldLink RX1 33 "LanternWalk$Setting" "stretches" "I", .fieldLink RX1 9 "LanternWalk$Setting" "length" "[I", .fieldLink RX1 15 "LanternWalk$Setting" "lets" "[I", .fieldLink RX1 18 "LanternWalk$Setting" "first" "[I", .fieldLink RX1 43 "LanternWalk$Setting" "places" "I"] ++ wsX20 ++ wsX10 ++ wsX00 ++ (vx_atS RX2 32 "java/lang/IllegalArgumentException" ["java/lang/RuntimeException", "java/lang/Exception"]).filter goodWord ++ (vx_atS RX2 46 "java/lang/IllegalStateException" ["java/lang/RuntimeException", "java/lang/Exception"]).filter goodWord)
def wsX2_post : List Cond := .code yX2_post cX2_post 4 (some .int) :: ([.classLink RX2 55 "java/lang/IndexOutOfBoundsException", .initialized "java/lang/IndexOutOfBoundsException", .fieldLink RX2 10 "LanternWalk" "setting" "LLanternWalk$Setting;", .fieldLink RX2 21 "LanternWalk" "now" "LLanternWalk$Parade;", .fieldLink RX2 60 "LanternWalk$Parade" "corner" "[I", .methodLink RX2 51 yX1_hasStretch, .instanceMethod yX1_hasStretch, .selects RX1 yX1_hasStretch yX1_hasStretch, .initialized RX1, .code yX1_hasStretch cX1_hasStretch 2 (some .boolean), .fieldLink RX1 33 "LanternWalk$Setting" "stretches" "I"] ++ wsX20 ++ wsX00 ++ wsX10 ++ (vx_atS RX2 59 "java/lang/IndexOutOfBoundsException" ["java/lang/RuntimeException", "java/lang/Exception"]).filter goodWord)
def wsX2_setWind : List Cond := .code yX2_setWind cX2_setWind 4 (some .int) :: ([.classLink RX2 55 "java/lang/IndexOutOfBoundsException", .initialized "java/lang/IndexOutOfBoundsException", .classLink RX2 28 "java/lang/IllegalArgumentException", .initialized "java/lang/IllegalArgumentException", .fieldLink RX2 10 "LanternWalk" "setting" "LLanternWalk$Setting;", .fieldLink RX2 68 "LanternWalk$Setting" "wind" "[I"] ++ wsX20 ++ wsX10 ++ (vx_atS RX2 59 "java/lang/IndexOutOfBoundsException" ["java/lang/RuntimeException", "java/lang/Exception"]).filter goodWord ++ (vx_atS RX2 32 "java/lang/IllegalArgumentException" ["java/lang/RuntimeException", "java/lang/Exception"]).filter goodWord)
def wsX2_come : List Cond := .code yX2_come cX2_come 5 (some .int) :: ([.classLink RX2 28 "java/lang/IllegalArgumentException", .initialized "java/lang/IllegalArgumentException", .classLink RX2 42 "java/lang/IllegalStateException", .initialized "java/lang/IllegalStateException", .fieldLink RX2 10 "LanternWalk" "setting" "LLanternWalk$Setting;", .fieldLink RX2 73 "LanternWalk$Setting" "walkers" "I", .fieldLink RX2 21 "LanternWalk" "now" "LLanternWalk$Parade;", .fieldLink RX2 81 "LanternWalk$Parade" "wick" "[I", .fieldLink RX2 84 "LanternWalk$Parade" "burns" "[Z", .methodLink RX2 78 yX1_appendWalker, .instanceMethod yX1_appendWalker, .selects RX1 yX1_appendWalker yX1_appendWalker, .initialized RX1, .code yX1_appendWalker cX1_appendWalker 4 (some .int), .fieldLink RX1 37 "LanternWalk$Setting" "walkers" "I", .fieldLink RX1 24 "LanternWalk$Setting" "pace" "[I", .fieldLink RX1 27 "LanternWalk$Setting" "voice" "[I"] ++ wsX20 ++ wsX10 ++ wsX00 ++ (vx_atS RX2 32 "java/lang/IllegalArgumentException" ["java/lang/RuntimeException", "java/lang/Exception"]).filter goodWord ++ (vx_atS RX2 46 "java/lang/IllegalStateException" ["java/lang/RuntimeException", "java/lang/Exception"]).filter goodWord)
def wsX2_trim : List Cond := .code yX2_trim cX2_trim 3 (some .int) :: ([.classLink RX2 55 "java/lang/IndexOutOfBoundsException", .initialized "java/lang/IndexOutOfBoundsException", .classLink RX2 28 "java/lang/IllegalArgumentException", .initialized "java/lang/IllegalArgumentException", .classLink RX2 42 "java/lang/IllegalStateException", .initialized "java/lang/IllegalStateException", .fieldLink RX2 10 "LanternWalk" "setting" "LLanternWalk$Setting;", .fieldLink RX2 21 "LanternWalk" "now" "LLanternWalk$Parade;", .fieldLink RX2 95 "LanternWalk$Parade" "stage" "[I", .fieldLink RX2 81 "LanternWalk$Parade" "wick" "[I", .methodLink RX2 100 Lib.Math.min.name, .static Lib.Math.min.name, .initialized "java/lang/Math", .code Lib.Math.min.name Lib.Math.min.code 2 (some .int), .fieldLink RX2 84 "LanternWalk$Parade" "burns" "[Z", .methodLink RX2 88 yX1_hasWalker, .instanceMethod yX1_hasWalker, .selects RX1 yX1_hasWalker yX1_hasWalker, .initialized RX1, .code yX1_hasWalker cX1_hasWalker 2 (some .boolean), .fieldLink RX1 37 "LanternWalk$Setting" "walkers" "I"] ++ wsX20 ++ wsX00 ++ wsX10 ++ (vx_atS RX2 59 "java/lang/IndexOutOfBoundsException" ["java/lang/RuntimeException", "java/lang/Exception"]).filter goodWord ++ (vx_atS RX2 32 "java/lang/IllegalArgumentException" ["java/lang/RuntimeException", "java/lang/Exception"]).filter goodWord ++ (vx_atS RX2 46 "java/lang/IllegalStateException" ["java/lang/RuntimeException", "java/lang/Exception"]).filter goodWord)
def wsX2_addSong : List Cond := .code yX2_addSong cX2_addSong 2 (some .int) :: ([.classLink RX2 28 "java/lang/IllegalArgumentException", .initialized "java/lang/IllegalArgumentException", .classLink RX2 42 "java/lang/IllegalStateException", .initialized "java/lang/IllegalStateException", .fieldLink RX2 10 "LanternWalk" "setting" "LLanternWalk$Setting;", .fieldLink RX2 107 "LanternWalk$Setting" "songs" "I", .methodLink RX2 112 yX1_appendSong, .instanceMethod yX1_appendSong, .selects RX1 yX1_appendSong yX1_appendSong, .initialized RX1, .code yX1_appendSong cX1_appendSong 3 (some .int), .fieldLink RX1 40 "LanternWalk$Setting" "songs" "I", .fieldLink RX1 30 "LanternWalk$Setting" "songLength" "[I"] ++ wsX20 ++ wsX10 ++ (vx_atS RX2 32 "java/lang/IllegalArgumentException" ["java/lang/RuntimeException", "java/lang/Exception"]).filter goodWord ++ (vx_atS RX2 46 "java/lang/IllegalStateException" ["java/lang/RuntimeException", "java/lang/Exception"]).filter goodWord)
def wsX2_teach : List Cond := .code yX2_teach cX2_teach 6 (some .int) :: ([.classLink RX2 55 "java/lang/IndexOutOfBoundsException", .initialized "java/lang/IndexOutOfBoundsException", .classLink RX2 28 "java/lang/IllegalArgumentException", .initialized "java/lang/IllegalArgumentException", .fieldLink RX2 10 "LanternWalk" "setting" "LLanternWalk$Setting;", .fieldLink RX2 21 "LanternWalk" "now" "LLanternWalk$Parade;", .fieldLink RX2 126 "LanternWalk$Parade" "known" "[I", .methodLink RX2 88 yX1_hasWalker, .instanceMethod yX1_hasWalker, .selects RX1 yX1_hasWalker yX1_hasWalker, .initialized RX1, .code yX1_hasWalker cX1_hasWalker 2 (some .boolean), .fieldLink RX1 37 "LanternWalk$Setting" "walkers" "I", .methodLink RX2 116 yX1_hasSong, .instanceMethod yX1_hasSong, .selects RX1 yX1_hasSong yX1_hasSong, .code yX1_hasSong cX1_hasSong 2 (some .boolean), .fieldLink RX1 40 "LanternWalk$Setting" "songs" "I", .methodLink RX2 123 yX2_cellOf, .static yX2_cellOf, .initialized RX2, .code yX2_cellOf cX2_cellOf 2 (some .int)] ++ wsX20 ++ wsX00 ++ wsX10 ++ (vx_atS RX2 59 "java/lang/IndexOutOfBoundsException" ["java/lang/RuntimeException", "java/lang/Exception"]).filter goodWord ++ (vx_atS RX2 32 "java/lang/IllegalArgumentException" ["java/lang/RuntimeException", "java/lang/Exception"]).filter goodWord)
def wsX2_tellOfStretch : List Cond := .code yX2_tellOfStretch cX2_tellOfStretch 3 (some .int) :: ([.fieldLink RX2 10 "LanternWalk" "setting" "LLanternWalk$Setting;", .fieldLink RX2 202 "LanternWalk$Setting" "length" "[I", .fieldLink RX2 21 "LanternWalk" "now" "LLanternWalk$Parade;", .fieldLink RX2 208 "LanternWalk$Setting" "first" "[I", .fieldLink RX2 214 "LanternWalk$Parade" "passed" "[I", .fieldLink RX2 217 "LanternWalk$Parade" "stopped" "[I", .methodLink RX2 205 yX0_letsThrough, .instanceMethod yX0_letsThrough, .selects RX0 yX0_letsThrough yX0_letsThrough, .initialized RX0, .code yX0_letsThrough cX0_letsThrough 4 (some .int), .fieldLink RX0 58 "LanternWalk$Parade" "setting" "LLanternWalk$Setting;", .fieldLink RX0 110 "LanternWalk$Setting" "lets" "[I", .fieldLink RX0 9 "LanternWalk$Parade" "corner" "[I", .methodLink RX2 211 yX0_walkersOn, .instanceMethod yX0_walkersOn, .selects RX0 yX0_walkersOn yX0_walkersOn, .code yX0_walkersOn cX0_walkersOn 6 (some .int), .fieldLink RX0 113 "LanternWalk$Setting" "first" "[I", .fieldLink RX0 116 "LanternWalk$Setting" "length" "[I", .fieldLink RX0 92 "LanternWalk$Setting" "walkers" "I", .fieldLink RX0 28 "LanternWalk$Parade" "stage" "[I", .fieldLink RX0 31 "LanternWalk$Parade" "place" "[I"] ++ wsX20 ++ wsX10 ++ wsX00)
def wsX2_stretch_r1 : List Cond := [Cond.classLink RX2 55 "java/lang/IndexOutOfBoundsException", Cond.initialized "java/lang/IndexOutOfBoundsException", Cond.fieldLink RX2 10 "LanternWalk" "setting" "LLanternWalk$Setting;", Cond.methodLink RX2 51 yX1_hasStretch, Cond.instanceMethod yX1_hasStretch, Cond.selects RX1 yX1_hasStretch yX1_hasStretch, Cond.initialized RX1, Cond.code yX1_hasStretch cX1_hasStretch 2 (some .boolean), Cond.fieldLink RX1 33 "LanternWalk$Setting" "stretches" "I", Cond.methodLink RX2 131 yX2_tellOfStretch, Cond.instanceMethod yX2_tellOfStretch, Cond.selects RX2 yX2_tellOfStretch yX2_tellOfStretch, Cond.initialized RX2, Cond.code yX2_tellOfStretch cX2_tellOfStretch 3 (some .int), Cond.fieldLink RX2 202 "LanternWalk$Setting" "length" "[I", Cond.fieldLink RX2 21 "LanternWalk" "now" "LLanternWalk$Parade;", Cond.fieldLink RX2 208 "LanternWalk$Setting" "first" "[I", Cond.fieldLink RX2 214 "LanternWalk$Parade" "passed" "[I", Cond.fieldLink RX2 217 "LanternWalk$Parade" "stopped" "[I", Cond.methodLink RX2 205 yX0_letsThrough, Cond.instanceMethod yX0_letsThrough, Cond.selects RX0 yX0_letsThrough yX0_letsThrough, Cond.initialized RX0, Cond.code yX0_letsThrough cX0_letsThrough 4 (some .int)]
def wsX2_stretch_r2 : List Cond := [Cond.fieldLink RX0 58 "LanternWalk$Parade" "setting" "LLanternWalk$Setting;", Cond.fieldLink RX0 110 "LanternWalk$Setting" "lets" "[I", Cond.fieldLink RX0 9 "LanternWalk$Parade" "corner" "[I", Cond.methodLink RX2 211 yX0_walkersOn, Cond.instanceMethod yX0_walkersOn, Cond.selects RX0 yX0_walkersOn yX0_walkersOn, Cond.code yX0_walkersOn cX0_walkersOn 6 (some .int), Cond.fieldLink RX0 113 "LanternWalk$Setting" "first" "[I", Cond.fieldLink RX0 116 "LanternWalk$Setting" "length" "[I", Cond.fieldLink RX0 92 "LanternWalk$Setting" "walkers" "I", Cond.fieldLink RX0 28 "LanternWalk$Parade" "stage" "[I", Cond.fieldLink RX0 31 "LanternWalk$Parade" "place" "[I"]
def wsX2_stretch : List Cond := .code yX2_stretch cX2_stretch 3 (some .int) :: ((wsX2_stretch_r1 ++ wsX2_stretch_r2) ++ wsX20 ++ wsX10 ++ wsX00 ++ (vx_atS RX2 59 "java/lang/IndexOutOfBoundsException" ["java/lang/RuntimeException", "java/lang/Exception"]).filter goodWord)
def wsX2_tellOfWalker : List Cond := .code yX2_tellOfWalker cX2_tellOfWalker 3 (some .int) :: ([.fieldLink RX2 10 "LanternWalk" "setting" "LLanternWalk$Setting;", .fieldLink RX2 220 "LanternWalk$Setting" "pace" "[I", .fieldLink RX2 21 "LanternWalk" "now" "LLanternWalk$Parade;", .fieldLink RX2 81 "LanternWalk$Parade" "wick" "[I", .fieldLink RX2 223 "LanternWalk$Setting" "voice" "[I", .fieldLink RX2 84 "LanternWalk$Parade" "burns" "[Z", .fieldLink RX2 95 "LanternWalk$Parade" "stage" "[I", .fieldLink RX2 226 "LanternWalk$Parade" "place" "[I", .fieldLink RX2 232 "LanternWalk$Parade" "dark" "[I", .fieldLink RX2 235 "LanternWalk$Parade" "cameHome" "[I", .methodLink RX2 229 yX0_neighboursOf, .instanceMethod yX0_neighboursOf, .selects RX0 yX0_neighboursOf yX0_neighboursOf, .initialized RX0, .code yX0_neighboursOf cX0_neighboursOf 4 (some .int), .fieldLink RX0 58 "LanternWalk$Parade" "setting" "LLanternWalk$Setting;", .fieldLink RX0 92 "LanternWalk$Setting" "walkers" "I", .methodLink RX0 119 yX0_areNeighbours, .instanceMethod yX0_areNeighbours, .selects RX0 yX0_areNeighbours yX0_areNeighbours, .code yX0_areNeighbours cX0_areNeighbours 3 (some .boolean), .fieldLink RX0 28 "LanternWalk$Parade" "stage" "[I", .fieldLink RX0 31 "LanternWalk$Parade" "place" "[I"] ++ wsX20 ++ wsX10 ++ wsX00)
def wsX2_walker_r1 : List Cond := [Cond.classLink RX2 55 "java/lang/IndexOutOfBoundsException", Cond.initialized "java/lang/IndexOutOfBoundsException", Cond.fieldLink RX2 10 "LanternWalk" "setting" "LLanternWalk$Setting;", Cond.methodLink RX2 88 yX1_hasWalker, Cond.instanceMethod yX1_hasWalker, Cond.selects RX1 yX1_hasWalker yX1_hasWalker, Cond.initialized RX1, Cond.code yX1_hasWalker cX1_hasWalker 2 (some .boolean), Cond.fieldLink RX1 37 "LanternWalk$Setting" "walkers" "I", Cond.methodLink RX2 136 yX2_tellOfWalker, Cond.instanceMethod yX2_tellOfWalker, Cond.selects RX2 yX2_tellOfWalker yX2_tellOfWalker, Cond.initialized RX2, Cond.code yX2_tellOfWalker cX2_tellOfWalker 3 (some .int), Cond.fieldLink RX2 220 "LanternWalk$Setting" "pace" "[I", Cond.fieldLink RX2 21 "LanternWalk" "now" "LLanternWalk$Parade;", Cond.fieldLink RX2 81 "LanternWalk$Parade" "wick" "[I", Cond.fieldLink RX2 223 "LanternWalk$Setting" "voice" "[I", Cond.fieldLink RX2 84 "LanternWalk$Parade" "burns" "[Z", Cond.fieldLink RX2 95 "LanternWalk$Parade" "stage" "[I", Cond.fieldLink RX2 226 "LanternWalk$Parade" "place" "[I", Cond.fieldLink RX2 232 "LanternWalk$Parade" "dark" "[I", Cond.fieldLink RX2 235 "LanternWalk$Parade" "cameHome" "[I", Cond.methodLink RX2 229 yX0_neighboursOf]
def wsX2_walker_r2 : List Cond := [Cond.instanceMethod yX0_neighboursOf, Cond.selects RX0 yX0_neighboursOf yX0_neighboursOf, Cond.initialized RX0, Cond.code yX0_neighboursOf cX0_neighboursOf 4 (some .int), Cond.fieldLink RX0 58 "LanternWalk$Parade" "setting" "LLanternWalk$Setting;", Cond.fieldLink RX0 92 "LanternWalk$Setting" "walkers" "I", Cond.methodLink RX0 119 yX0_areNeighbours, Cond.instanceMethod yX0_areNeighbours, Cond.selects RX0 yX0_areNeighbours yX0_areNeighbours, Cond.code yX0_areNeighbours cX0_areNeighbours 3 (some .boolean), Cond.fieldLink RX0 28 "LanternWalk$Parade" "stage" "[I", Cond.fieldLink RX0 31 "LanternWalk$Parade" "place" "[I"]
def wsX2_walker : List Cond := .code yX2_walker cX2_walker 3 (some .int) :: ((wsX2_walker_r1 ++ wsX2_walker_r2) ++ wsX20 ++ wsX10 ++ wsX00 ++ (vx_atS RX2 59 "java/lang/IndexOutOfBoundsException" ["java/lang/RuntimeException", "java/lang/Exception"]).filter goodWord)
def wsX2_knows : List Cond := .code yX2_knows cX2_knows 3 (some .int) :: ([.classLink RX2 55 "java/lang/IndexOutOfBoundsException", .initialized "java/lang/IndexOutOfBoundsException", .fieldLink RX2 10 "LanternWalk" "setting" "LLanternWalk$Setting;", .fieldLink RX2 21 "LanternWalk" "now" "LLanternWalk$Parade;", .fieldLink RX2 126 "LanternWalk$Parade" "known" "[I", .methodLink RX2 88 yX1_hasWalker, .instanceMethod yX1_hasWalker, .selects RX1 yX1_hasWalker yX1_hasWalker, .initialized RX1, .code yX1_hasWalker cX1_hasWalker 2 (some .boolean), .fieldLink RX1 37 "LanternWalk$Setting" "walkers" "I", .methodLink RX2 116 yX1_hasSong, .instanceMethod yX1_hasSong, .selects RX1 yX1_hasSong yX1_hasSong, .code yX1_hasSong cX1_hasSong 2 (some .boolean), .fieldLink RX1 40 "LanternWalk$Setting" "songs" "I", .methodLink RX2 123 yX2_cellOf, .static yX2_cellOf, .initialized RX2, .code yX2_cellOf cX2_cellOf 2 (some .int)] ++ wsX20 ++ wsX00 ++ wsX10 ++ (vx_atS RX2 59 "java/lang/IndexOutOfBoundsException" ["java/lang/RuntimeException", "java/lang/Exception"]).filter goodWord)
def wsX2_song_r1 : List Cond := [Cond.classLink RX2 55 "java/lang/IndexOutOfBoundsException", Cond.initialized "java/lang/IndexOutOfBoundsException", Cond.fieldLink RX2 10 "LanternWalk" "setting" "LLanternWalk$Setting;", Cond.fieldLink RX2 141 "LanternWalk$Setting" "songLength" "[I", Cond.fieldLink RX2 21 "LanternWalk" "now" "LLanternWalk$Parade;", Cond.methodLink RX2 116 yX1_hasSong, Cond.instanceMethod yX1_hasSong, Cond.selects RX1 yX1_hasSong yX1_hasSong, Cond.initialized RX1, Cond.code yX1_hasSong cX1_hasSong 2 (some .boolean), Cond.fieldLink RX1 40 "LanternWalk$Setting" "songs" "I", Cond.methodLink RX2 144 yX0_knowersOf, Cond.instanceMethod yX0_knowersOf, Cond.selects RX0 yX0_knowersOf yX0_knowersOf, Cond.initialized RX0, Cond.code yX0_knowersOf cX0_knowersOf 4 (some .int), Cond.fieldLink RX0 58 "LanternWalk$Parade" "setting" "LLanternWalk$Setting;", Cond.fieldLink RX0 92 "LanternWalk$Setting" "walkers" "I", Cond.fieldLink RX0 40 "LanternWalk$Parade" "known" "[I", Cond.static yX2_cellOf, Cond.initialized RX2, Cond.code yX2_cellOf cX2_cellOf 2 (some .int), Cond.methodLink RX2 147 yX0_versionsOf, Cond.instanceMethod yX0_versionsOf]
def wsX2_song_r2 : List Cond := [Cond.selects RX0 yX0_versionsOf yX0_versionsOf, Cond.code yX0_versionsOf cX0_versionsOf 4 (some .int), Cond.methodLink RX0 107 yX0_knowersOfVersion, Cond.instanceMethod yX0_knowersOfVersion, Cond.selects RX0 yX0_knowersOfVersion yX0_knowersOfVersion, Cond.code yX0_knowersOfVersion cX0_knowersOfVersion 5 (some .int), Cond.methodLink RX2 150 yX0_commonestVersionOf, Cond.instanceMethod yX0_commonestVersionOf, Cond.selects RX0 yX0_commonestVersionOf yX0_commonestVersionOf, Cond.code yX0_commonestVersionOf cX0_commonestVersionOf 6 (some .int)]
def wsX2_song : List Cond := .code yX2_song cX2_song 3 (some .int) :: ((wsX2_song_r1 ++ wsX2_song_r2) ++ wsX20 ++ wsX10 ++ wsX00 ++ (vx_atS RX2 59 "java/lang/IndexOutOfBoundsException" ["java/lang/RuntimeException", "java/lang/Exception"]).filter goodWord)
def wsX2_pass_r1 : List Cond := [Cond.classLink RX2 28 "java/lang/IllegalArgumentException", Cond.initialized "java/lang/IllegalArgumentException", Cond.classLink RX2 42 "java/lang/IllegalStateException", Cond.initialized "java/lang/IllegalStateException", Cond.fieldLink RX2 10 "LanternWalk" "setting" "LLanternWalk$Setting;", Cond.fieldLink RX2 35 "LanternWalk$Setting" "stretches" "I", Cond.fieldLink RX2 21 "LanternWalk" "now" "LLanternWalk$Parade;", Cond.methodLink RX2 157 yX0_howManyAre, Cond.instanceMethod yX0_howManyAre, Cond.selects RX0 yX0_howManyAre yX0_howManyAre, Cond.initialized RX0, Cond.code yX0_howManyAre cX0_howManyAre 4 (some .int), Cond.fieldLink RX0 58 "LanternWalk$Parade" "setting" "LLanternWalk$Setting;", Cond.fieldLink RX0 92 "LanternWalk$Setting" "walkers" "I", Cond.fieldLink RX0 28 "LanternWalk$Parade" "stage" "[I", Cond.methodLink RX2 160 yX0_takeSteps, Cond.instanceMethod yX0_takeSteps, Cond.selects RX0 yX0_takeSteps yX0_takeSteps, Cond.code yX0_takeSteps cX0_takeSteps 3 none, Cond.methodLink RX0 127 yX0_takeStep, Cond.instanceMethod yX0_takeStep, Cond.selects RX0 yX0_takeStep yX0_takeStep, Cond.code yX0_takeStep cX0_takeStep 2 none, Cond.fieldLink RX0 130 "LanternWalk$Setting" "wind" "[I"]
def wsX2_pass_r2 : List Cond := [Cond.fieldLink RX0 68 "LanternWalk$Parade" "step" "I", Cond.methodLink RX0 133 yJ9_floorMod_7cf53, Cond.static yJ9_floorMod_7cf53, Cond.initialized RJ9, Cond.code yJ9_floorMod_7cf53 cJ9_floorMod_7cf53 3 (some .int), Cond.methodLink RX0 136 yX0_burnDown, Cond.instanceMethod yX0_burnDown, Cond.selects RX0 yX0_burnDown yX0_burnDown, Cond.code yX0_burnDown cX0_burnDown 4 none, Cond.fieldLink RX0 24 "LanternWalk$Parade" "burns" "[Z", Cond.fieldLink RX0 21 "LanternWalk$Parade" "wick" "[I", Cond.methodLink RX0 155 Lib.Math.max.name, Cond.static Lib.Math.max.name, Cond.initialized "java/lang/Math", Cond.code Lib.Math.max.name Lib.Math.max.code 2 (some .int), Cond.methodLink RX0 140 yX0_blowOut, Cond.instanceMethod yX0_blowOut, Cond.selects RX0 yX0_blowOut yX0_blowOut, Cond.code yX0_blowOut cX0_blowOut 3 none, Cond.methodLink RX0 158 yX0_neighboursOf, Cond.instanceMethod yX0_neighboursOf, Cond.selects RX0 yX0_neighboursOf yX0_neighboursOf, Cond.code yX0_neighboursOf cX0_neighboursOf 4 (some .int), Cond.methodLink RX0 119 yX0_areNeighbours]
def wsX2_pass_r3 : List Cond := [Cond.instanceMethod yX0_areNeighbours, Cond.selects RX0 yX0_areNeighbours yX0_areNeighbours, Cond.code yX0_areNeighbours cX0_areNeighbours 3 (some .boolean), Cond.fieldLink RX0 31 "LanternWalk$Parade" "place" "[I", Cond.methodLink RX0 143 yX0_lightEachOther, Cond.instanceMethod yX0_lightEachOther, Cond.selects RX0 yX0_lightEachOther yX0_lightEachOther, Cond.code yX0_lightEachOther cX0_lightEachOther 2 none, Cond.fieldLink RX0 43 "LanternWalk$Parade" "burnedBefore" "[Z", Cond.methodLink RX0 76 yX0_copyFlags, Cond.static yX0_copyFlags, Cond.code yX0_copyFlags cX0_copyFlags 3 none, Cond.methodLink RX0 161 yX0_isBesideBurning, Cond.instanceMethod yX0_isBesideBurning, Cond.selects RX0 yX0_isBesideBurning yX0_isBesideBurning, Cond.code yX0_isBesideBurning cX0_isBesideBurning 3 (some .boolean), Cond.methodLink RX0 146 yX0_singToEachOther, Cond.instanceMethod yX0_singToEachOther, Cond.selects RX0 yX0_singToEachOther yX0_singToEachOther, Cond.code yX0_singToEachOther cX0_singToEachOther 2 none, Cond.fieldLink RX0 40 "LanternWalk$Parade" "known" "[I", Cond.fieldLink RX0 46 "LanternWalk$Parade" "knownBefore" "[I", Cond.methodLink RX0 72 yX0_copyNumbers, Cond.static yX0_copyNumbers]
def wsX2_pass_r4 : List Cond := [Cond.code yX0_copyNumbers cX0_copyNumbers 2 none, Cond.methodLink RX0 80 Lib.Math.min.name, Cond.static Lib.Math.min.name, Cond.code Lib.Math.min.name Lib.Math.min.code 2 (some .int), Cond.methodLink RX0 86 arraycopyName, Cond.native arraycopyName, Cond.static arraycopyName, Cond.initialized "java/lang/System", Cond.methodLink RX0 165 yX0_listenAround, Cond.instanceMethod yX0_listenAround, Cond.selects RX0 yX0_listenAround yX0_listenAround, Cond.code yX0_listenAround cX0_listenAround 3 none, Cond.fieldLink RX0 49 "LanternWalk$Parade" "loudest" "[I", Cond.methodLink RX0 62 yJ7_fill_53178, Cond.static yJ7_fill_53178, Cond.initialized RJ7, Cond.code yJ7_fill_53178 cJ7_fill_53178 4 none, Cond.methodLink RX0 168 yX0_listenTo, Cond.instanceMethod yX0_listenTo, Cond.selects RX0 yX0_listenTo yX0_listenTo, Cond.code yX0_listenTo cX0_listenTo 9 none, Cond.fieldLink RX0 172 "LanternWalk$Setting" "voice" "[I", Cond.fieldLink RX0 97 "LanternWalk$Setting" "songs" "I", Cond.fieldLink RX0 175 "LanternWalk$Setting" "songLength" "[I"]
def wsX2_pass_r5 : List Cond := [Cond.static yX2_cellOf, Cond.initialized RX2, Cond.code yX2_cellOf cX2_cellOf 2 (some .int), Cond.methodLink RX0 149 yX0_goOn, Cond.instanceMethod yX0_goOn, Cond.selects RX0 yX0_goOn yX0_goOn, Cond.code yX0_goOn cX0_goOn 3 none, Cond.fieldLink RX0 178 "LanternWalk$Setting" "stretches" "I", Cond.fieldLink RX0 52 "LanternWalk$Parade" "stillLets" "[I", Cond.fieldLink RX0 55 "LanternWalk$Parade" "hasGone" "[Z", Cond.methodLink RX0 181 yX0_letsThrough, Cond.instanceMethod yX0_letsThrough, Cond.selects RX0 yX0_letsThrough yX0_letsThrough, Cond.code yX0_letsThrough cX0_letsThrough 4 (some .int), Cond.fieldLink RX0 110 "LanternWalk$Setting" "lets" "[I", Cond.fieldLink RX0 9 "LanternWalk$Parade" "corner" "[I", Cond.methodLink RX0 184 yX0_foremostToGo, Cond.instanceMethod yX0_foremostToGo, Cond.selects RX0 yX0_foremostToGo yX0_foremostToGo, Cond.code yX0_foremostToGo cX0_foremostToGo 4 (some .int), Cond.methodLink RX0 187 yX0_walkOn, Cond.instanceMethod yX0_walkOn, Cond.selects RX0 yX0_walkOn yX0_walkOn, Cond.code yX0_walkOn cX0_walkOn 5 none]
def wsX2_pass_r6 : List Cond := [Cond.fieldLink RX0 190 "LanternWalk$Setting" "pace" "[I", Cond.fieldLink RX0 34 "LanternWalk$Parade" "dark" "[I", Cond.methodLink RX0 193 yX0_goOnePlace, Cond.instanceMethod yX0_goOnePlace, Cond.selects RX0 yX0_goOnePlace yX0_goOnePlace, Cond.code yX0_goOnePlace cX0_goOnePlace 4 (some .boolean), Cond.fieldLink RX0 205 "LanternWalk$Setting" "places" "I", Cond.methodLink RX0 196 yX0_walkersAt, Cond.instanceMethod yX0_walkersAt, Cond.selects RX0 yX0_walkersAt yX0_walkersAt, Cond.code yX0_walkersAt cX0_walkersAt 4 (some .int), Cond.methodLink RX0 199 yX1_stretchEndingAt, Cond.instanceMethod yX1_stretchEndingAt, Cond.selects RX1 yX1_stretchEndingAt yX1_stretchEndingAt, Cond.initialized RX1, Cond.code yX1_stretchEndingAt cX1_stretchEndingAt 3 (some .int), Cond.fieldLink RX1 33 "LanternWalk$Setting" "stretches" "I", Cond.fieldLink RX1 18 "LanternWalk$Setting" "first" "[I", Cond.fieldLink RX1 9 "LanternWalk$Setting" "length" "[I", Cond.methodLink RX0 202 yX0_passCorner, Cond.instanceMethod yX0_passCorner, Cond.selects RX0 yX0_passCorner yX0_passCorner, Cond.code yX0_passCorner cX0_passCorner 2 (some .boolean), Cond.fieldLink RX0 18 "LanternWalk$Parade" "stopped" "[I"]
def wsX2_pass_r7 : List Cond := [Cond.fieldLink RX0 15 "LanternWalk$Parade" "passed" "[I", Cond.methodLink RX0 208 yX0_comeHome, Cond.instanceMethod yX0_comeHome, Cond.selects RX0 yX0_comeHome yX0_comeHome, Cond.code yX0_comeHome cX0_comeHome 2 none, Cond.fieldLink RX0 37 "LanternWalk$Parade" "cameHome" "[I", Cond.methodLink RX0 152 yX0_start, Cond.instanceMethod yX0_start, Cond.selects RX0 yX0_start yX0_start, Cond.code yX0_start cX0_start 2 none]
def wsX2_pass : List Cond := .code yX2_pass cX2_pass 3 (some .int) :: ((wsX2_pass_r1 ++ (wsX2_pass_r2 ++ (wsX2_pass_r3 ++ (wsX2_pass_r4 ++ (wsX2_pass_r5 ++ (wsX2_pass_r6 ++ wsX2_pass_r7)))))) ++ wsX20 ++ wsX10 ++ wsX00 ++ (vx_atS RX2 32 "java/lang/IllegalArgumentException" ["java/lang/RuntimeException", "java/lang/Exception"]).filter goodWord ++ (vx_atS RX2 46 "java/lang/IllegalStateException" ["java/lang/RuntimeException", "java/lang/Exception"]).filter goodWord)
def wsX2_tellOfAll_r1 : List Cond := [Cond.fieldLink RX2 21 "LanternWalk" "now" "LLanternWalk$Parade;", Cond.fieldLink RX2 39 "LanternWalk$Parade" "step" "I", Cond.fieldLink RX2 10 "LanternWalk" "setting" "LLanternWalk$Setting;", Cond.fieldLink RX2 35 "LanternWalk$Setting" "stretches" "I", Cond.fieldLink RX2 238 "LanternWalk$Setting" "places" "I", Cond.fieldLink RX2 73 "LanternWalk$Setting" "walkers" "I", Cond.fieldLink RX2 107 "LanternWalk$Setting" "songs" "I", Cond.methodLink RX2 157 yX0_howManyAre, Cond.instanceMethod yX0_howManyAre, Cond.selects RX0 yX0_howManyAre yX0_howManyAre, Cond.initialized RX0, Cond.code yX0_howManyAre cX0_howManyAre 4 (some .int), Cond.fieldLink RX0 58 "LanternWalk$Parade" "setting" "LLanternWalk$Setting;", Cond.fieldLink RX0 92 "LanternWalk$Setting" "walkers" "I", Cond.fieldLink RX0 28 "LanternWalk$Parade" "stage" "[I", Cond.methodLink RX2 177 yX0_lanternsBurning, Cond.instanceMethod yX0_lanternsBurning, Cond.selects RX0 yX0_lanternsBurning yX0_lanternsBurning, Cond.code yX0_lanternsBurning cX0_lanternsBurning 3 (some .int), Cond.fieldLink RX0 24 "LanternWalk$Parade" "burns" "[Z", Cond.methodLink RX2 241 yX0_foremostPlace, Cond.instanceMethod yX0_foremostPlace, Cond.selects RX0 yX0_foremostPlace yX0_foremostPlace, Cond.code yX0_foremostPlace cX0_foremostPlace 3 (some .int)]
def wsX2_tellOfAll_r2 : List Cond := [Cond.fieldLink RX0 31 "LanternWalk$Parade" "place" "[I", Cond.methodLink RX2 244 yX0_paradeLength, Cond.instanceMethod yX0_paradeLength, Cond.selects RX0 yX0_paradeLength yX0_paradeLength, Cond.code yX0_paradeLength cX0_paradeLength 4 (some .int), Cond.methodLink RX0 123 yX0_foremostPlace]
def wsX2_tellOfAll : List Cond := .code yX2_tellOfAll cX2_tellOfAll 2 (some .int) :: ((wsX2_tellOfAll_r1 ++ wsX2_tellOfAll_r2) ++ wsX20 ++ wsX00 ++ wsX10)
def wsX2_count_r1 : List Cond := [Cond.classLink RX2 55 "java/lang/IndexOutOfBoundsException", Cond.initialized "java/lang/IndexOutOfBoundsException", Cond.methodLink RX2 166 yX2_tellOfAll, Cond.instanceMethod yX2_tellOfAll, Cond.selects RX2 yX2_tellOfAll yX2_tellOfAll, Cond.initialized RX2, Cond.code yX2_tellOfAll cX2_tellOfAll 2 (some .int), Cond.fieldLink RX2 21 "LanternWalk" "now" "LLanternWalk$Parade;", Cond.fieldLink RX2 39 "LanternWalk$Parade" "step" "I", Cond.fieldLink RX2 10 "LanternWalk" "setting" "LLanternWalk$Setting;", Cond.fieldLink RX2 35 "LanternWalk$Setting" "stretches" "I", Cond.fieldLink RX2 238 "LanternWalk$Setting" "places" "I", Cond.fieldLink RX2 73 "LanternWalk$Setting" "walkers" "I", Cond.fieldLink RX2 107 "LanternWalk$Setting" "songs" "I", Cond.methodLink RX2 157 yX0_howManyAre, Cond.instanceMethod yX0_howManyAre, Cond.selects RX0 yX0_howManyAre yX0_howManyAre, Cond.initialized RX0, Cond.code yX0_howManyAre cX0_howManyAre 4 (some .int), Cond.fieldLink RX0 58 "LanternWalk$Parade" "setting" "LLanternWalk$Setting;", Cond.fieldLink RX0 92 "LanternWalk$Setting" "walkers" "I", Cond.fieldLink RX0 28 "LanternWalk$Parade" "stage" "[I", Cond.methodLink RX2 177 yX0_lanternsBurning, Cond.instanceMethod yX0_lanternsBurning]
def wsX2_count_r2 : List Cond := [Cond.selects RX0 yX0_lanternsBurning yX0_lanternsBurning, Cond.code yX0_lanternsBurning cX0_lanternsBurning 3 (some .int), Cond.fieldLink RX0 24 "LanternWalk$Parade" "burns" "[Z", Cond.methodLink RX2 241 yX0_foremostPlace, Cond.instanceMethod yX0_foremostPlace, Cond.selects RX0 yX0_foremostPlace yX0_foremostPlace, Cond.code yX0_foremostPlace cX0_foremostPlace 3 (some .int), Cond.fieldLink RX0 31 "LanternWalk$Parade" "place" "[I", Cond.methodLink RX2 244 yX0_paradeLength, Cond.instanceMethod yX0_paradeLength, Cond.selects RX0 yX0_paradeLength yX0_paradeLength, Cond.code yX0_paradeLength cX0_paradeLength 4 (some .int), Cond.methodLink RX0 123 yX0_foremostPlace]
def wsX2_count : List Cond := .code yX2_count cX2_count 2 (some .int) :: ((wsX2_count_r1 ++ wsX2_count_r2) ++ wsX20 ++ wsX00 ++ wsX10 ++ (vx_atS RX2 59 "java/lang/IndexOutOfBoundsException" ["java/lang/RuntimeException", "java/lang/Exception"]).filter goodWord)
def wsX2_foresee_r1 : List Cond := [Cond.classLink RX2 28 "java/lang/IllegalArgumentException", Cond.initialized "java/lang/IllegalArgumentException", Cond.classLink RX2 55 "java/lang/IndexOutOfBoundsException", Cond.initialized "java/lang/IndexOutOfBoundsException", Cond.classLink RX2 42 "java/lang/IllegalStateException", Cond.initialized "java/lang/IllegalStateException", Cond.fieldLink RX2 10 "LanternWalk" "setting" "LLanternWalk$Setting;", Cond.fieldLink RX2 35 "LanternWalk$Setting" "stretches" "I", Cond.fieldLink RX2 25 "LanternWalk" "ahead" "LLanternWalk$Parade;", Cond.fieldLink RX2 21 "LanternWalk" "now" "LLanternWalk$Parade;", Cond.methodLink RX2 173 yX0_becomeLike, Cond.instanceMethod yX0_becomeLike, Cond.selects RX0 yX0_becomeLike yX0_becomeLike, Cond.initialized RX0, Cond.code yX0_becomeLike cX0_becomeLike 2 none, Cond.fieldLink RX0 68 "LanternWalk$Parade" "step" "I", Cond.fieldLink RX0 9 "LanternWalk$Parade" "corner" "[I", Cond.fieldLink RX0 15 "LanternWalk$Parade" "passed" "[I", Cond.fieldLink RX0 18 "LanternWalk$Parade" "stopped" "[I", Cond.fieldLink RX0 21 "LanternWalk$Parade" "wick" "[I", Cond.fieldLink RX0 24 "LanternWalk$Parade" "burns" "[Z", Cond.fieldLink RX0 28 "LanternWalk$Parade" "stage" "[I", Cond.fieldLink RX0 31 "LanternWalk$Parade" "place" "[I", Cond.fieldLink RX0 34 "LanternWalk$Parade" "dark" "[I"]
def wsX2_foresee_r2 : List Cond := [Cond.fieldLink RX0 37 "LanternWalk$Parade" "cameHome" "[I", Cond.fieldLink RX0 40 "LanternWalk$Parade" "known" "[I", Cond.methodLink RX0 72 yX0_copyNumbers, Cond.static yX0_copyNumbers, Cond.code yX0_copyNumbers cX0_copyNumbers 2 none, Cond.methodLink RX0 80 Lib.Math.min.name, Cond.static Lib.Math.min.name, Cond.initialized "java/lang/Math", Cond.code Lib.Math.min.name Lib.Math.min.code 2 (some .int), Cond.methodLink RX0 86 arraycopyName, Cond.native arraycopyName, Cond.static arraycopyName, Cond.initialized "java/lang/System", Cond.methodLink RX0 76 yX0_copyFlags, Cond.static yX0_copyFlags, Cond.code yX0_copyFlags cX0_copyFlags 3 none, Cond.methodLink RX2 160 yX0_takeSteps, Cond.instanceMethod yX0_takeSteps, Cond.selects RX0 yX0_takeSteps yX0_takeSteps, Cond.code yX0_takeSteps cX0_takeSteps 3 none, Cond.methodLink RX0 127 yX0_takeStep, Cond.instanceMethod yX0_takeStep, Cond.selects RX0 yX0_takeStep yX0_takeStep, Cond.code yX0_takeStep cX0_takeStep 2 none]
def wsX2_foresee_r3 : List Cond := [Cond.fieldLink RX0 58 "LanternWalk$Parade" "setting" "LLanternWalk$Setting;", Cond.fieldLink RX0 130 "LanternWalk$Setting" "wind" "[I", Cond.methodLink RX0 133 yJ9_floorMod_7cf53, Cond.static yJ9_floorMod_7cf53, Cond.initialized RJ9, Cond.code yJ9_floorMod_7cf53 cJ9_floorMod_7cf53 3 (some .int), Cond.methodLink RX0 136 yX0_burnDown, Cond.instanceMethod yX0_burnDown, Cond.selects RX0 yX0_burnDown yX0_burnDown, Cond.code yX0_burnDown cX0_burnDown 4 none, Cond.fieldLink RX0 92 "LanternWalk$Setting" "walkers" "I", Cond.methodLink RX0 155 Lib.Math.max.name, Cond.static Lib.Math.max.name, Cond.code Lib.Math.max.name Lib.Math.max.code 2 (some .int), Cond.methodLink RX0 140 yX0_blowOut, Cond.instanceMethod yX0_blowOut, Cond.selects RX0 yX0_blowOut yX0_blowOut, Cond.code yX0_blowOut cX0_blowOut 3 none, Cond.methodLink RX0 158 yX0_neighboursOf, Cond.instanceMethod yX0_neighboursOf, Cond.selects RX0 yX0_neighboursOf yX0_neighboursOf, Cond.code yX0_neighboursOf cX0_neighboursOf 4 (some .int), Cond.methodLink RX0 119 yX0_areNeighbours, Cond.instanceMethod yX0_areNeighbours]
def wsX2_foresee_r4 : List Cond := [Cond.selects RX0 yX0_areNeighbours yX0_areNeighbours, Cond.code yX0_areNeighbours cX0_areNeighbours 3 (some .boolean), Cond.methodLink RX0 143 yX0_lightEachOther, Cond.instanceMethod yX0_lightEachOther, Cond.selects RX0 yX0_lightEachOther yX0_lightEachOther, Cond.code yX0_lightEachOther cX0_lightEachOther 2 none, Cond.fieldLink RX0 43 "LanternWalk$Parade" "burnedBefore" "[Z", Cond.methodLink RX0 161 yX0_isBesideBurning, Cond.instanceMethod yX0_isBesideBurning, Cond.selects RX0 yX0_isBesideBurning yX0_isBesideBurning, Cond.code yX0_isBesideBurning cX0_isBesideBurning 3 (some .boolean), Cond.methodLink RX0 146 yX0_singToEachOther, Cond.instanceMethod yX0_singToEachOther, Cond.selects RX0 yX0_singToEachOther yX0_singToEachOther, Cond.code yX0_singToEachOther cX0_singToEachOther 2 none, Cond.fieldLink RX0 46 "LanternWalk$Parade" "knownBefore" "[I", Cond.methodLink RX0 165 yX0_listenAround, Cond.instanceMethod yX0_listenAround, Cond.selects RX0 yX0_listenAround yX0_listenAround, Cond.code yX0_listenAround cX0_listenAround 3 none, Cond.fieldLink RX0 49 "LanternWalk$Parade" "loudest" "[I", Cond.methodLink RX0 62 yJ7_fill_53178, Cond.static yJ7_fill_53178, Cond.initialized RJ7]
def wsX2_foresee_r5 : List Cond := [Cond.code yJ7_fill_53178 cJ7_fill_53178 4 none, Cond.methodLink RX0 168 yX0_listenTo, Cond.instanceMethod yX0_listenTo, Cond.selects RX0 yX0_listenTo yX0_listenTo, Cond.code yX0_listenTo cX0_listenTo 9 none, Cond.fieldLink RX0 172 "LanternWalk$Setting" "voice" "[I", Cond.fieldLink RX0 97 "LanternWalk$Setting" "songs" "I", Cond.fieldLink RX0 175 "LanternWalk$Setting" "songLength" "[I", Cond.static yX2_cellOf, Cond.initialized RX2, Cond.code yX2_cellOf cX2_cellOf 2 (some .int), Cond.methodLink RX0 149 yX0_goOn, Cond.instanceMethod yX0_goOn, Cond.selects RX0 yX0_goOn yX0_goOn, Cond.code yX0_goOn cX0_goOn 3 none, Cond.fieldLink RX0 178 "LanternWalk$Setting" "stretches" "I", Cond.fieldLink RX0 52 "LanternWalk$Parade" "stillLets" "[I", Cond.fieldLink RX0 55 "LanternWalk$Parade" "hasGone" "[Z", Cond.methodLink RX0 181 yX0_letsThrough, Cond.instanceMethod yX0_letsThrough, Cond.selects RX0 yX0_letsThrough yX0_letsThrough, Cond.code yX0_letsThrough cX0_letsThrough 4 (some .int), Cond.fieldLink RX0 110 "LanternWalk$Setting" "lets" "[I", Cond.methodLink RX0 184 yX0_foremostToGo]
def wsX2_foresee_r6 : List Cond := [Cond.instanceMethod yX0_foremostToGo, Cond.selects RX0 yX0_foremostToGo yX0_foremostToGo, Cond.code yX0_foremostToGo cX0_foremostToGo 4 (some .int), Cond.methodLink RX0 187 yX0_walkOn, Cond.instanceMethod yX0_walkOn, Cond.selects RX0 yX0_walkOn yX0_walkOn, Cond.code yX0_walkOn cX0_walkOn 5 none, Cond.fieldLink RX0 190 "LanternWalk$Setting" "pace" "[I", Cond.methodLink RX0 193 yX0_goOnePlace, Cond.instanceMethod yX0_goOnePlace, Cond.selects RX0 yX0_goOnePlace yX0_goOnePlace, Cond.code yX0_goOnePlace cX0_goOnePlace 4 (some .boolean), Cond.fieldLink RX0 205 "LanternWalk$Setting" "places" "I", Cond.methodLink RX0 196 yX0_walkersAt, Cond.instanceMethod yX0_walkersAt, Cond.selects RX0 yX0_walkersAt yX0_walkersAt, Cond.code yX0_walkersAt cX0_walkersAt 4 (some .int), Cond.methodLink RX0 199 yX1_stretchEndingAt, Cond.instanceMethod yX1_stretchEndingAt, Cond.selects RX1 yX1_stretchEndingAt yX1_stretchEndingAt, Cond.initialized RX1, Cond.code yX1_stretchEndingAt cX1_stretchEndingAt 3 (some .int), Cond.fieldLink RX1 33 "LanternWalk$Setting" "stretches" "I", Cond.fieldLink RX1 18 "LanternWalk$Setting" "first" "[I"]
def wsX2_foresee_r7 : List Cond := [Cond.fieldLink RX1 9 "LanternWalk$Setting" "length" "[I", Cond.methodLink RX0 202 yX0_passCorner, Cond.instanceMethod yX0_passCorner, Cond.selects RX0 yX0_passCorner yX0_passCorner, Cond.code yX0_passCorner cX0_passCorner 2 (some .boolean), Cond.methodLink RX0 208 yX0_comeHome, Cond.instanceMethod yX0_comeHome, Cond.selects RX0 yX0_comeHome yX0_comeHome, Cond.code yX0_comeHome cX0_comeHome 2 none, Cond.methodLink RX0 152 yX0_start, Cond.instanceMethod yX0_start, Cond.selects RX0 yX0_start yX0_start, Cond.code yX0_start cX0_start 2 none, Cond.methodLink RX2 157 yX0_howManyAre, Cond.instanceMethod yX0_howManyAre, Cond.selects RX0 yX0_howManyAre yX0_howManyAre, Cond.code yX0_howManyAre cX0_howManyAre 4 (some .int), Cond.methodLink RX2 177 yX0_lanternsBurning, Cond.instanceMethod yX0_lanternsBurning, Cond.selects RX0 yX0_lanternsBurning yX0_lanternsBurning, Cond.code yX0_lanternsBurning cX0_lanternsBurning 3 (some .int), Cond.methodLink RX2 181 yX0_songsKnownInAll, Cond.instanceMethod yX0_songsKnownInAll, Cond.selects RX0 yX0_songsKnownInAll yX0_songsKnownInAll]
def wsX2_foresee_r8 : List Cond := [Cond.code yX0_songsKnownInAll cX0_songsKnownInAll 3 (some .int), Cond.methodLink RX0 100 yX0_knowersOf, Cond.instanceMethod yX0_knowersOf, Cond.selects RX0 yX0_knowersOf yX0_knowersOf, Cond.code yX0_knowersOf cX0_knowersOf 4 (some .int)]
def wsX2_foresee : List Cond := .code yX2_foresee cX2_foresee 3 (some .int) :: ((wsX2_foresee_r1 ++ (wsX2_foresee_r2 ++ (wsX2_foresee_r3 ++ (wsX2_foresee_r4 ++ (wsX2_foresee_r5 ++ (wsX2_foresee_r6 ++ (wsX2_foresee_r7 ++ wsX2_foresee_r8))))))) ++ wsX20 ++ wsX10 ++ wsX00 ++ (vx_atS RX2 32 "java/lang/IllegalArgumentException" ["java/lang/RuntimeException", "java/lang/Exception"]).filter goodWord ++ (vx_atS RX2 59 "java/lang/IndexOutOfBoundsException" ["java/lang/RuntimeException", "java/lang/Exception"]).filter goodWord ++ (vx_atS RX2 46 "java/lang/IllegalStateException" ["java/lang/RuntimeException", "java/lang/Exception"]).filter goodWord)
def wsX2_home_r1 : List Cond := [Cond.classLink RX2 55 "java/lang/IndexOutOfBoundsException", Cond.initialized "java/lang/IndexOutOfBoundsException", Cond.fieldLink RX2 10 "LanternWalk" "setting" "LLanternWalk$Setting;", Cond.fieldLink RX2 21 "LanternWalk" "now" "LLanternWalk$Parade;", Cond.fieldLink RX2 95 "LanternWalk$Parade" "stage" "[I", Cond.fieldLink RX2 35 "LanternWalk$Setting" "stretches" "I", Cond.fieldLink RX2 25 "LanternWalk" "ahead" "LLanternWalk$Parade;", Cond.methodLink RX2 88 yX1_hasWalker, Cond.instanceMethod yX1_hasWalker, Cond.selects RX1 yX1_hasWalker yX1_hasWalker, Cond.initialized RX1, Cond.code yX1_hasWalker cX1_hasWalker 2 (some .boolean), Cond.fieldLink RX1 37 "LanternWalk$Setting" "walkers" "I", Cond.methodLink RX2 173 yX0_becomeLike, Cond.instanceMethod yX0_becomeLike, Cond.selects RX0 yX0_becomeLike yX0_becomeLike, Cond.initialized RX0, Cond.code yX0_becomeLike cX0_becomeLike 2 none, Cond.fieldLink RX0 68 "LanternWalk$Parade" "step" "I", Cond.fieldLink RX0 9 "LanternWalk$Parade" "corner" "[I", Cond.fieldLink RX0 15 "LanternWalk$Parade" "passed" "[I", Cond.fieldLink RX0 18 "LanternWalk$Parade" "stopped" "[I", Cond.fieldLink RX0 21 "LanternWalk$Parade" "wick" "[I", Cond.fieldLink RX0 24 "LanternWalk$Parade" "burns" "[Z"]
def wsX2_home_r2 : List Cond := [Cond.fieldLink RX0 28 "LanternWalk$Parade" "stage" "[I", Cond.fieldLink RX0 31 "LanternWalk$Parade" "place" "[I", Cond.fieldLink RX0 34 "LanternWalk$Parade" "dark" "[I", Cond.fieldLink RX0 37 "LanternWalk$Parade" "cameHome" "[I", Cond.fieldLink RX0 40 "LanternWalk$Parade" "known" "[I", Cond.methodLink RX0 72 yX0_copyNumbers, Cond.static yX0_copyNumbers, Cond.code yX0_copyNumbers cX0_copyNumbers 2 none, Cond.methodLink RX0 80 Lib.Math.min.name, Cond.static Lib.Math.min.name, Cond.initialized "java/lang/Math", Cond.code Lib.Math.min.name Lib.Math.min.code 2 (some .int), Cond.methodLink RX0 86 arraycopyName, Cond.native arraycopyName, Cond.static arraycopyName, Cond.initialized "java/lang/System", Cond.methodLink RX0 76 yX0_copyFlags, Cond.static yX0_copyFlags, Cond.code yX0_copyFlags cX0_copyFlags 3 none, Cond.methodLink RX2 184 yX0_takeStep, Cond.instanceMethod yX0_takeStep, Cond.selects RX0 yX0_takeStep yX0_takeStep, Cond.code yX0_takeStep cX0_takeStep 2 none, Cond.fieldLink RX0 58 "LanternWalk$Parade" "setting" "LLanternWalk$Setting;"]
def wsX2_home_r3 : List Cond := [Cond.fieldLink RX0 130 "LanternWalk$Setting" "wind" "[I", Cond.methodLink RX0 133 yJ9_floorMod_7cf53, Cond.static yJ9_floorMod_7cf53, Cond.initialized RJ9, Cond.code yJ9_floorMod_7cf53 cJ9_floorMod_7cf53 3 (some .int), Cond.methodLink RX0 136 yX0_burnDown, Cond.instanceMethod yX0_burnDown, Cond.selects RX0 yX0_burnDown yX0_burnDown, Cond.code yX0_burnDown cX0_burnDown 4 none, Cond.fieldLink RX0 92 "LanternWalk$Setting" "walkers" "I", Cond.methodLink RX0 155 Lib.Math.max.name, Cond.static Lib.Math.max.name, Cond.code Lib.Math.max.name Lib.Math.max.code 2 (some .int), Cond.methodLink RX0 140 yX0_blowOut, Cond.instanceMethod yX0_blowOut, Cond.selects RX0 yX0_blowOut yX0_blowOut, Cond.code yX0_blowOut cX0_blowOut 3 none, Cond.methodLink RX0 158 yX0_neighboursOf, Cond.instanceMethod yX0_neighboursOf, Cond.selects RX0 yX0_neighboursOf yX0_neighboursOf, Cond.code yX0_neighboursOf cX0_neighboursOf 4 (some .int), Cond.methodLink RX0 119 yX0_areNeighbours, Cond.instanceMethod yX0_areNeighbours, Cond.selects RX0 yX0_areNeighbours yX0_areNeighbours]
def wsX2_home_r4 : List Cond := [Cond.code yX0_areNeighbours cX0_areNeighbours 3 (some .boolean), Cond.methodLink RX0 143 yX0_lightEachOther, Cond.instanceMethod yX0_lightEachOther, Cond.selects RX0 yX0_lightEachOther yX0_lightEachOther, Cond.code yX0_lightEachOther cX0_lightEachOther 2 none, Cond.fieldLink RX0 43 "LanternWalk$Parade" "burnedBefore" "[Z", Cond.methodLink RX0 161 yX0_isBesideBurning, Cond.instanceMethod yX0_isBesideBurning, Cond.selects RX0 yX0_isBesideBurning yX0_isBesideBurning, Cond.code yX0_isBesideBurning cX0_isBesideBurning 3 (some .boolean), Cond.methodLink RX0 146 yX0_singToEachOther, Cond.instanceMethod yX0_singToEachOther, Cond.selects RX0 yX0_singToEachOther yX0_singToEachOther, Cond.code yX0_singToEachOther cX0_singToEachOther 2 none, Cond.fieldLink RX0 46 "LanternWalk$Parade" "knownBefore" "[I", Cond.methodLink RX0 165 yX0_listenAround, Cond.instanceMethod yX0_listenAround, Cond.selects RX0 yX0_listenAround yX0_listenAround, Cond.code yX0_listenAround cX0_listenAround 3 none, Cond.fieldLink RX0 49 "LanternWalk$Parade" "loudest" "[I", Cond.methodLink RX0 62 yJ7_fill_53178, Cond.static yJ7_fill_53178, Cond.initialized RJ7, Cond.code yJ7_fill_53178 cJ7_fill_53178 4 none]
def wsX2_home_r5 : List Cond := [Cond.methodLink RX0 168 yX0_listenTo, Cond.instanceMethod yX0_listenTo, Cond.selects RX0 yX0_listenTo yX0_listenTo, Cond.code yX0_listenTo cX0_listenTo 9 none, Cond.fieldLink RX0 172 "LanternWalk$Setting" "voice" "[I", Cond.fieldLink RX0 97 "LanternWalk$Setting" "songs" "I", Cond.fieldLink RX0 175 "LanternWalk$Setting" "songLength" "[I", Cond.static yX2_cellOf, Cond.initialized RX2, Cond.code yX2_cellOf cX2_cellOf 2 (some .int), Cond.methodLink RX0 149 yX0_goOn, Cond.instanceMethod yX0_goOn, Cond.selects RX0 yX0_goOn yX0_goOn, Cond.code yX0_goOn cX0_goOn 3 none, Cond.fieldLink RX0 178 "LanternWalk$Setting" "stretches" "I", Cond.fieldLink RX0 52 "LanternWalk$Parade" "stillLets" "[I", Cond.fieldLink RX0 55 "LanternWalk$Parade" "hasGone" "[Z", Cond.methodLink RX0 181 yX0_letsThrough, Cond.instanceMethod yX0_letsThrough, Cond.selects RX0 yX0_letsThrough yX0_letsThrough, Cond.code yX0_letsThrough cX0_letsThrough 4 (some .int), Cond.fieldLink RX0 110 "LanternWalk$Setting" "lets" "[I", Cond.methodLink RX0 184 yX0_foremostToGo, Cond.instanceMethod yX0_foremostToGo]
def wsX2_home_r6 : List Cond := [Cond.selects RX0 yX0_foremostToGo yX0_foremostToGo, Cond.code yX0_foremostToGo cX0_foremostToGo 4 (some .int), Cond.methodLink RX0 187 yX0_walkOn, Cond.instanceMethod yX0_walkOn, Cond.selects RX0 yX0_walkOn yX0_walkOn, Cond.code yX0_walkOn cX0_walkOn 5 none, Cond.fieldLink RX0 190 "LanternWalk$Setting" "pace" "[I", Cond.methodLink RX0 193 yX0_goOnePlace, Cond.instanceMethod yX0_goOnePlace, Cond.selects RX0 yX0_goOnePlace yX0_goOnePlace, Cond.code yX0_goOnePlace cX0_goOnePlace 4 (some .boolean), Cond.fieldLink RX0 205 "LanternWalk$Setting" "places" "I", Cond.methodLink RX0 196 yX0_walkersAt, Cond.instanceMethod yX0_walkersAt, Cond.selects RX0 yX0_walkersAt yX0_walkersAt, Cond.code yX0_walkersAt cX0_walkersAt 4 (some .int), Cond.methodLink RX0 199 yX1_stretchEndingAt, Cond.instanceMethod yX1_stretchEndingAt, Cond.selects RX1 yX1_stretchEndingAt yX1_stretchEndingAt, Cond.code yX1_stretchEndingAt cX1_stretchEndingAt 3 (some .int), Cond.fieldLink RX1 33 "LanternWalk$Setting" "stretches" "I", Cond.fieldLink RX1 18 "LanternWalk$Setting" "first" "[I", Cond.fieldLink RX1 9 "LanternWalk$Setting" "length" "[I", Cond.methodLink RX0 202 yX0_passCorner]
def wsX2_home_r7 : List Cond := [Cond.instanceMethod yX0_passCorner, Cond.selects RX0 yX0_passCorner yX0_passCorner, Cond.code yX0_passCorner cX0_passCorner 2 (some .boolean), Cond.methodLink RX0 208 yX0_comeHome, Cond.instanceMethod yX0_comeHome, Cond.selects RX0 yX0_comeHome yX0_comeHome, Cond.code yX0_comeHome cX0_comeHome 2 none, Cond.methodLink RX0 152 yX0_start, Cond.instanceMethod yX0_start, Cond.selects RX0 yX0_start yX0_start, Cond.code yX0_start cX0_start 2 none]
def wsX2_home : List Cond := .code yX2_home cX2_home 3 (some .int) :: ((wsX2_home_r1 ++ (wsX2_home_r2 ++ (wsX2_home_r3 ++ (wsX2_home_r4 ++ (wsX2_home_r5 ++ (wsX2_home_r6 ++ wsX2_home_r7)))))) ++ wsX20 ++ wsX00 ++ wsX10 ++ (vx_atS RX2 59 "java/lang/IndexOutOfBoundsException" ["java/lang/RuntimeException", "java/lang/Exception"]).filter goodWord)
def wsX2_hears_r1 : List Cond := [Cond.classLink RX2 55 "java/lang/IndexOutOfBoundsException", Cond.initialized "java/lang/IndexOutOfBoundsException", Cond.fieldLink RX2 10 "LanternWalk" "setting" "LLanternWalk$Setting;", Cond.fieldLink RX2 21 "LanternWalk" "now" "LLanternWalk$Parade;", Cond.fieldLink RX2 126 "LanternWalk$Parade" "known" "[I", Cond.fieldLink RX2 35 "LanternWalk$Setting" "stretches" "I", Cond.fieldLink RX2 25 "LanternWalk" "ahead" "LLanternWalk$Parade;", Cond.methodLink RX2 88 yX1_hasWalker, Cond.instanceMethod yX1_hasWalker, Cond.selects RX1 yX1_hasWalker yX1_hasWalker, Cond.initialized RX1, Cond.code yX1_hasWalker cX1_hasWalker 2 (some .boolean), Cond.fieldLink RX1 37 "LanternWalk$Setting" "walkers" "I", Cond.methodLink RX2 116 yX1_hasSong, Cond.instanceMethod yX1_hasSong, Cond.selects RX1 yX1_hasSong yX1_hasSong, Cond.code yX1_hasSong cX1_hasSong 2 (some .boolean), Cond.fieldLink RX1 40 "LanternWalk$Setting" "songs" "I", Cond.methodLink RX2 123 yX2_cellOf, Cond.static yX2_cellOf, Cond.initialized RX2, Cond.code yX2_cellOf cX2_cellOf 2 (some .int), Cond.methodLink RX2 173 yX0_becomeLike, Cond.instanceMethod yX0_becomeLike]
def wsX2_hears_r2 : List Cond := [Cond.selects RX0 yX0_becomeLike yX0_becomeLike, Cond.initialized RX0, Cond.code yX0_becomeLike cX0_becomeLike 2 none, Cond.fieldLink RX0 68 "LanternWalk$Parade" "step" "I", Cond.fieldLink RX0 9 "LanternWalk$Parade" "corner" "[I", Cond.fieldLink RX0 15 "LanternWalk$Parade" "passed" "[I", Cond.fieldLink RX0 18 "LanternWalk$Parade" "stopped" "[I", Cond.fieldLink RX0 21 "LanternWalk$Parade" "wick" "[I", Cond.fieldLink RX0 24 "LanternWalk$Parade" "burns" "[Z", Cond.fieldLink RX0 28 "LanternWalk$Parade" "stage" "[I", Cond.fieldLink RX0 31 "LanternWalk$Parade" "place" "[I", Cond.fieldLink RX0 34 "LanternWalk$Parade" "dark" "[I", Cond.fieldLink RX0 37 "LanternWalk$Parade" "cameHome" "[I", Cond.fieldLink RX0 40 "LanternWalk$Parade" "known" "[I", Cond.methodLink RX0 72 yX0_copyNumbers, Cond.static yX0_copyNumbers, Cond.code yX0_copyNumbers cX0_copyNumbers 2 none, Cond.methodLink RX0 80 Lib.Math.min.name, Cond.static Lib.Math.min.name, Cond.initialized "java/lang/Math", Cond.code Lib.Math.min.name Lib.Math.min.code 2 (some .int), Cond.methodLink RX0 86 arraycopyName, Cond.native arraycopyName, Cond.static arraycopyName]
def wsX2_hears_r3 : List Cond := [Cond.initialized "java/lang/System", Cond.methodLink RX0 76 yX0_copyFlags, Cond.static yX0_copyFlags, Cond.code yX0_copyFlags cX0_copyFlags 3 none, Cond.methodLink RX2 184 yX0_takeStep, Cond.instanceMethod yX0_takeStep, Cond.selects RX0 yX0_takeStep yX0_takeStep, Cond.code yX0_takeStep cX0_takeStep 2 none, Cond.fieldLink RX0 58 "LanternWalk$Parade" "setting" "LLanternWalk$Setting;", Cond.fieldLink RX0 130 "LanternWalk$Setting" "wind" "[I", Cond.methodLink RX0 133 yJ9_floorMod_7cf53, Cond.static yJ9_floorMod_7cf53, Cond.initialized RJ9, Cond.code yJ9_floorMod_7cf53 cJ9_floorMod_7cf53 3 (some .int), Cond.methodLink RX0 136 yX0_burnDown, Cond.instanceMethod yX0_burnDown, Cond.selects RX0 yX0_burnDown yX0_burnDown, Cond.code yX0_burnDown cX0_burnDown 4 none, Cond.fieldLink RX0 92 "LanternWalk$Setting" "walkers" "I", Cond.methodLink RX0 155 Lib.Math.max.name, Cond.static Lib.Math.max.name, Cond.code Lib.Math.max.name Lib.Math.max.code 2 (some .int), Cond.methodLink RX0 140 yX0_blowOut, Cond.instanceMethod yX0_blowOut]
def wsX2_hears_r4 : List Cond := [Cond.selects RX0 yX0_blowOut yX0_blowOut, Cond.code yX0_blowOut cX0_blowOut 3 none, Cond.methodLink RX0 158 yX0_neighboursOf, Cond.instanceMethod yX0_neighboursOf, Cond.selects RX0 yX0_neighboursOf yX0_neighboursOf, Cond.code yX0_neighboursOf cX0_neighboursOf 4 (some .int), Cond.methodLink RX0 119 yX0_areNeighbours, Cond.instanceMethod yX0_areNeighbours, Cond.selects RX0 yX0_areNeighbours yX0_areNeighbours, Cond.code yX0_areNeighbours cX0_areNeighbours 3 (some .boolean), Cond.methodLink RX0 143 yX0_lightEachOther, Cond.instanceMethod yX0_lightEachOther, Cond.selects RX0 yX0_lightEachOther yX0_lightEachOther, Cond.code yX0_lightEachOther cX0_lightEachOther 2 none, Cond.fieldLink RX0 43 "LanternWalk$Parade" "burnedBefore" "[Z", Cond.methodLink RX0 161 yX0_isBesideBurning, Cond.instanceMethod yX0_isBesideBurning, Cond.selects RX0 yX0_isBesideBurning yX0_isBesideBurning, Cond.code yX0_isBesideBurning cX0_isBesideBurning 3 (some .boolean), Cond.methodLink RX0 146 yX0_singToEachOther, Cond.instanceMethod yX0_singToEachOther, Cond.selects RX0 yX0_singToEachOther yX0_singToEachOther, Cond.code yX0_singToEachOther cX0_singToEachOther 2 none, Cond.fieldLink RX0 46 "LanternWalk$Parade" "knownBefore" "[I"]
def wsX2_hears_r5 : List Cond := [Cond.methodLink RX0 165 yX0_listenAround, Cond.instanceMethod yX0_listenAround, Cond.selects RX0 yX0_listenAround yX0_listenAround, Cond.code yX0_listenAround cX0_listenAround 3 none, Cond.fieldLink RX0 49 "LanternWalk$Parade" "loudest" "[I", Cond.methodLink RX0 62 yJ7_fill_53178, Cond.static yJ7_fill_53178, Cond.initialized RJ7, Cond.code yJ7_fill_53178 cJ7_fill_53178 4 none, Cond.methodLink RX0 168 yX0_listenTo, Cond.instanceMethod yX0_listenTo, Cond.selects RX0 yX0_listenTo yX0_listenTo, Cond.code yX0_listenTo cX0_listenTo 9 none, Cond.fieldLink RX0 172 "LanternWalk$Setting" "voice" "[I", Cond.fieldLink RX0 97 "LanternWalk$Setting" "songs" "I", Cond.fieldLink RX0 175 "LanternWalk$Setting" "songLength" "[I", Cond.methodLink RX0 149 yX0_goOn, Cond.instanceMethod yX0_goOn, Cond.selects RX0 yX0_goOn yX0_goOn, Cond.code yX0_goOn cX0_goOn 3 none, Cond.fieldLink RX0 178 "LanternWalk$Setting" "stretches" "I", Cond.fieldLink RX0 52 "LanternWalk$Parade" "stillLets" "[I", Cond.fieldLink RX0 55 "LanternWalk$Parade" "hasGone" "[Z", Cond.methodLink RX0 181 yX0_letsThrough]
def wsX2_hears_r6 : List Cond := [Cond.instanceMethod yX0_letsThrough, Cond.selects RX0 yX0_letsThrough yX0_letsThrough, Cond.code yX0_letsThrough cX0_letsThrough 4 (some .int), Cond.fieldLink RX0 110 "LanternWalk$Setting" "lets" "[I", Cond.methodLink RX0 184 yX0_foremostToGo, Cond.instanceMethod yX0_foremostToGo, Cond.selects RX0 yX0_foremostToGo yX0_foremostToGo, Cond.code yX0_foremostToGo cX0_foremostToGo 4 (some .int), Cond.methodLink RX0 187 yX0_walkOn, Cond.instanceMethod yX0_walkOn, Cond.selects RX0 yX0_walkOn yX0_walkOn, Cond.code yX0_walkOn cX0_walkOn 5 none, Cond.fieldLink RX0 190 "LanternWalk$Setting" "pace" "[I", Cond.methodLink RX0 193 yX0_goOnePlace, Cond.instanceMethod yX0_goOnePlace, Cond.selects RX0 yX0_goOnePlace yX0_goOnePlace, Cond.code yX0_goOnePlace cX0_goOnePlace 4 (some .boolean), Cond.fieldLink RX0 205 "LanternWalk$Setting" "places" "I", Cond.methodLink RX0 196 yX0_walkersAt, Cond.instanceMethod yX0_walkersAt, Cond.selects RX0 yX0_walkersAt yX0_walkersAt, Cond.code yX0_walkersAt cX0_walkersAt 4 (some .int), Cond.methodLink RX0 199 yX1_stretchEndingAt, Cond.instanceMethod yX1_stretchEndingAt]
def wsX2_hears_r7 : List Cond := [Cond.selects RX1 yX1_stretchEndingAt yX1_stretchEndingAt, Cond.code yX1_stretchEndingAt cX1_stretchEndingAt 3 (some .int), Cond.fieldLink RX1 33 "LanternWalk$Setting" "stretches" "I", Cond.fieldLink RX1 18 "LanternWalk$Setting" "first" "[I", Cond.fieldLink RX1 9 "LanternWalk$Setting" "length" "[I", Cond.methodLink RX0 202 yX0_passCorner, Cond.instanceMethod yX0_passCorner, Cond.selects RX0 yX0_passCorner yX0_passCorner, Cond.code yX0_passCorner cX0_passCorner 2 (some .boolean), Cond.methodLink RX0 208 yX0_comeHome, Cond.instanceMethod yX0_comeHome, Cond.selects RX0 yX0_comeHome yX0_comeHome, Cond.code yX0_comeHome cX0_comeHome 2 none, Cond.methodLink RX0 152 yX0_start, Cond.instanceMethod yX0_start, Cond.selects RX0 yX0_start yX0_start, Cond.code yX0_start cX0_start 2 none]
def wsX2_hears : List Cond := .code yX2_hears cX2_hears 5 (some .int) :: ((wsX2_hears_r1 ++ (wsX2_hears_r2 ++ (wsX2_hears_r3 ++ (wsX2_hears_r4 ++ (wsX2_hears_r5 ++ (wsX2_hears_r6 ++ wsX2_hears_r7)))))) ++ wsX20 ++ wsX00 ++ wsX10 ++ (vx_atS RX2 59 "java/lang/IndexOutOfBoundsException" ["java/lang/RuntimeException", "java/lang/Exception"]).filter goodWord)
def wsX2_advise_r1 : List Cond := [Cond.classLink RX2 55 "java/lang/IndexOutOfBoundsException", Cond.initialized "java/lang/IndexOutOfBoundsException", Cond.classLink RX2 28 "java/lang/IllegalArgumentException", Cond.initialized "java/lang/IllegalArgumentException", Cond.classLink RX2 42 "java/lang/IllegalStateException", Cond.initialized "java/lang/IllegalStateException", Cond.fieldLink RX2 10 "LanternWalk" "setting" "LLanternWalk$Setting;", Cond.fieldLink RX2 35 "LanternWalk$Setting" "stretches" "I", Cond.fieldLink RX2 25 "LanternWalk" "ahead" "LLanternWalk$Parade;", Cond.fieldLink RX2 21 "LanternWalk" "now" "LLanternWalk$Parade;", Cond.fieldLink RX2 60 "LanternWalk$Parade" "corner" "[I", Cond.methodLink RX2 173 yX0_becomeLike, Cond.instanceMethod yX0_becomeLike, Cond.selects RX0 yX0_becomeLike yX0_becomeLike, Cond.initialized RX0, Cond.code yX0_becomeLike cX0_becomeLike 2 none, Cond.fieldLink RX0 68 "LanternWalk$Parade" "step" "I", Cond.fieldLink RX0 9 "LanternWalk$Parade" "corner" "[I", Cond.fieldLink RX0 15 "LanternWalk$Parade" "passed" "[I", Cond.fieldLink RX0 18 "LanternWalk$Parade" "stopped" "[I", Cond.fieldLink RX0 21 "LanternWalk$Parade" "wick" "[I", Cond.fieldLink RX0 24 "LanternWalk$Parade" "burns" "[Z", Cond.fieldLink RX0 28 "LanternWalk$Parade" "stage" "[I", Cond.fieldLink RX0 31 "LanternWalk$Parade" "place" "[I"]
def wsX2_advise_r2 : List Cond := [Cond.fieldLink RX0 34 "LanternWalk$Parade" "dark" "[I", Cond.fieldLink RX0 37 "LanternWalk$Parade" "cameHome" "[I", Cond.fieldLink RX0 40 "LanternWalk$Parade" "known" "[I", Cond.methodLink RX0 72 yX0_copyNumbers, Cond.static yX0_copyNumbers, Cond.code yX0_copyNumbers cX0_copyNumbers 2 none, Cond.methodLink RX0 80 Lib.Math.min.name, Cond.static Lib.Math.min.name, Cond.initialized "java/lang/Math", Cond.code Lib.Math.min.name Lib.Math.min.code 2 (some .int), Cond.methodLink RX0 86 arraycopyName, Cond.native arraycopyName, Cond.static arraycopyName, Cond.initialized "java/lang/System", Cond.methodLink RX0 76 yX0_copyFlags, Cond.static yX0_copyFlags, Cond.code yX0_copyFlags cX0_copyFlags 3 none, Cond.methodLink RX2 160 yX0_takeSteps, Cond.instanceMethod yX0_takeSteps, Cond.selects RX0 yX0_takeSteps yX0_takeSteps, Cond.code yX0_takeSteps cX0_takeSteps 3 none, Cond.methodLink RX0 127 yX0_takeStep, Cond.instanceMethod yX0_takeStep, Cond.selects RX0 yX0_takeStep yX0_takeStep]
def wsX2_advise_r3 : List Cond := [Cond.code yX0_takeStep cX0_takeStep 2 none, Cond.fieldLink RX0 58 "LanternWalk$Parade" "setting" "LLanternWalk$Setting;", Cond.fieldLink RX0 130 "LanternWalk$Setting" "wind" "[I", Cond.methodLink RX0 133 yJ9_floorMod_7cf53, Cond.static yJ9_floorMod_7cf53, Cond.initialized RJ9, Cond.code yJ9_floorMod_7cf53 cJ9_floorMod_7cf53 3 (some .int), Cond.methodLink RX0 136 yX0_burnDown, Cond.instanceMethod yX0_burnDown, Cond.selects RX0 yX0_burnDown yX0_burnDown, Cond.code yX0_burnDown cX0_burnDown 4 none, Cond.fieldLink RX0 92 "LanternWalk$Setting" "walkers" "I", Cond.methodLink RX0 155 Lib.Math.max.name, Cond.static Lib.Math.max.name, Cond.code Lib.Math.max.name Lib.Math.max.code 2 (some .int), Cond.methodLink RX0 140 yX0_blowOut, Cond.instanceMethod yX0_blowOut, Cond.selects RX0 yX0_blowOut yX0_blowOut, Cond.code yX0_blowOut cX0_blowOut 3 none, Cond.methodLink RX0 158 yX0_neighboursOf, Cond.instanceMethod yX0_neighboursOf, Cond.selects RX0 yX0_neighboursOf yX0_neighboursOf, Cond.code yX0_neighboursOf cX0_neighboursOf 4 (some .int), Cond.methodLink RX0 119 yX0_areNeighbours]
def wsX2_advise_r4 : List Cond := [Cond.instanceMethod yX0_areNeighbours, Cond.selects RX0 yX0_areNeighbours yX0_areNeighbours, Cond.code yX0_areNeighbours cX0_areNeighbours 3 (some .boolean), Cond.methodLink RX0 143 yX0_lightEachOther, Cond.instanceMethod yX0_lightEachOther, Cond.selects RX0 yX0_lightEachOther yX0_lightEachOther, Cond.code yX0_lightEachOther cX0_lightEachOther 2 none, Cond.fieldLink RX0 43 "LanternWalk$Parade" "burnedBefore" "[Z", Cond.methodLink RX0 161 yX0_isBesideBurning, Cond.instanceMethod yX0_isBesideBurning, Cond.selects RX0 yX0_isBesideBurning yX0_isBesideBurning, Cond.code yX0_isBesideBurning cX0_isBesideBurning 3 (some .boolean), Cond.methodLink RX0 146 yX0_singToEachOther, Cond.instanceMethod yX0_singToEachOther, Cond.selects RX0 yX0_singToEachOther yX0_singToEachOther, Cond.code yX0_singToEachOther cX0_singToEachOther 2 none, Cond.fieldLink RX0 46 "LanternWalk$Parade" "knownBefore" "[I", Cond.methodLink RX0 165 yX0_listenAround, Cond.instanceMethod yX0_listenAround, Cond.selects RX0 yX0_listenAround yX0_listenAround, Cond.code yX0_listenAround cX0_listenAround 3 none, Cond.fieldLink RX0 49 "LanternWalk$Parade" "loudest" "[I", Cond.methodLink RX0 62 yJ7_fill_53178, Cond.static yJ7_fill_53178]
def wsX2_advise_r5 : List Cond := [Cond.initialized RJ7, Cond.code yJ7_fill_53178 cJ7_fill_53178 4 none, Cond.methodLink RX0 168 yX0_listenTo, Cond.instanceMethod yX0_listenTo, Cond.selects RX0 yX0_listenTo yX0_listenTo, Cond.code yX0_listenTo cX0_listenTo 9 none, Cond.fieldLink RX0 172 "LanternWalk$Setting" "voice" "[I", Cond.fieldLink RX0 97 "LanternWalk$Setting" "songs" "I", Cond.fieldLink RX0 175 "LanternWalk$Setting" "songLength" "[I", Cond.static yX2_cellOf, Cond.initialized RX2, Cond.code yX2_cellOf cX2_cellOf 2 (some .int), Cond.methodLink RX0 149 yX0_goOn, Cond.instanceMethod yX0_goOn, Cond.selects RX0 yX0_goOn yX0_goOn, Cond.code yX0_goOn cX0_goOn 3 none, Cond.fieldLink RX0 178 "LanternWalk$Setting" "stretches" "I", Cond.fieldLink RX0 52 "LanternWalk$Parade" "stillLets" "[I", Cond.fieldLink RX0 55 "LanternWalk$Parade" "hasGone" "[Z", Cond.methodLink RX0 181 yX0_letsThrough, Cond.instanceMethod yX0_letsThrough, Cond.selects RX0 yX0_letsThrough yX0_letsThrough, Cond.code yX0_letsThrough cX0_letsThrough 4 (some .int), Cond.fieldLink RX0 110 "LanternWalk$Setting" "lets" "[I"]
def wsX2_advise_r6 : List Cond := [Cond.methodLink RX0 184 yX0_foremostToGo, Cond.instanceMethod yX0_foremostToGo, Cond.selects RX0 yX0_foremostToGo yX0_foremostToGo, Cond.code yX0_foremostToGo cX0_foremostToGo 4 (some .int), Cond.methodLink RX0 187 yX0_walkOn, Cond.instanceMethod yX0_walkOn, Cond.selects RX0 yX0_walkOn yX0_walkOn, Cond.code yX0_walkOn cX0_walkOn 5 none, Cond.fieldLink RX0 190 "LanternWalk$Setting" "pace" "[I", Cond.methodLink RX0 193 yX0_goOnePlace, Cond.instanceMethod yX0_goOnePlace, Cond.selects RX0 yX0_goOnePlace yX0_goOnePlace, Cond.code yX0_goOnePlace cX0_goOnePlace 4 (some .boolean), Cond.fieldLink RX0 205 "LanternWalk$Setting" "places" "I", Cond.methodLink RX0 196 yX0_walkersAt, Cond.instanceMethod yX0_walkersAt, Cond.selects RX0 yX0_walkersAt yX0_walkersAt, Cond.code yX0_walkersAt cX0_walkersAt 4 (some .int), Cond.methodLink RX0 199 yX1_stretchEndingAt, Cond.instanceMethod yX1_stretchEndingAt, Cond.selects RX1 yX1_stretchEndingAt yX1_stretchEndingAt, Cond.initialized RX1, Cond.code yX1_stretchEndingAt cX1_stretchEndingAt 3 (some .int), Cond.fieldLink RX1 33 "LanternWalk$Setting" "stretches" "I"]
def wsX2_advise_r7 : List Cond := [Cond.fieldLink RX1 18 "LanternWalk$Setting" "first" "[I", Cond.fieldLink RX1 9 "LanternWalk$Setting" "length" "[I", Cond.methodLink RX0 202 yX0_passCorner, Cond.instanceMethod yX0_passCorner, Cond.selects RX0 yX0_passCorner yX0_passCorner, Cond.code yX0_passCorner cX0_passCorner 2 (some .boolean), Cond.methodLink RX0 208 yX0_comeHome, Cond.instanceMethod yX0_comeHome, Cond.selects RX0 yX0_comeHome yX0_comeHome, Cond.code yX0_comeHome cX0_comeHome 2 none, Cond.methodLink RX0 152 yX0_start, Cond.instanceMethod yX0_start, Cond.selects RX0 yX0_start yX0_start, Cond.code yX0_start cX0_start 2 none, Cond.methodLink RX2 157 yX0_howManyAre, Cond.instanceMethod yX0_howManyAre, Cond.selects RX0 yX0_howManyAre yX0_howManyAre, Cond.code yX0_howManyAre cX0_howManyAre 4 (some .int)]
def wsX2_advise : List Cond := .code yX2_advise cX2_advise 7 (some .int) :: ((wsX2_advise_r1 ++ (wsX2_advise_r2 ++ (wsX2_advise_r3 ++ (wsX2_advise_r4 ++ (wsX2_advise_r5 ++ (wsX2_advise_r6 ++ wsX2_advise_r7)))))) ++ wsX20 ++ wsX10 ++ wsX00 ++ (vx_atS RX2 59 "java/lang/IndexOutOfBoundsException" ["java/lang/RuntimeException", "java/lang/Exception"]).filter goodWord ++ (vx_atS RX2 32 "java/lang/IllegalArgumentException" ["java/lang/RuntimeException", "java/lang/Exception"]).filter goodWord ++ (vx_atS RX2 46 "java/lang/IllegalStateException" ["java/lang/RuntimeException", "java/lang/Exception"]).filter goodWord)
def wsX2_light : List Cond := .code yX2_light cX2_light 2 (some .double) :: ([.fieldLink RX2 21 "LanternWalk" "now" "LLanternWalk$Parade;", .methodLink RX2 157 yX0_howManyAre, .instanceMethod yX0_howManyAre, .selects RX0 yX0_howManyAre yX0_howManyAre, .initialized RX0, .code yX0_howManyAre cX0_howManyAre 4 (some .int), .fieldLink RX0 58 "LanternWalk$Parade" "setting" "LLanternWalk$Setting;", .fieldLink RX0 92 "LanternWalk$Setting" "walkers" "I", .fieldLink RX0 28 "LanternWalk$Parade" "stage" "[I", .methodLink RX2 177 yX0_lanternsBurning, .instanceMethod yX0_lanternsBurning, .selects RX0 yX0_lanternsBurning yX0_lanternsBurning, .code yX0_lanternsBurning cX0_lanternsBurning 3 (some .int), .fieldLink RX0 24 "LanternWalk$Parade" "burns" "[Z"] ++ wsX20 ++ wsX00 ++ wsX10)
def wsX2_digestWith : List Cond := .code yX2_digestWith cX2_digestWith 3 (some .long) :: ([.constantLong RX2 200 (31)])
def wsX2_digestOfWalker_r1 : List Cond := [Cond.fieldLink RX2 10 "LanternWalk" "setting" "LLanternWalk$Setting;", Cond.fieldLink RX2 107 "LanternWalk$Setting" "songs" "I", Cond.fieldLink RX2 21 "LanternWalk" "now" "LLanternWalk$Parade;", Cond.fieldLink RX2 126 "LanternWalk$Parade" "known" "[I", Cond.methodLink RX2 136 yX2_tellOfWalker, Cond.instanceMethod yX2_tellOfWalker, Cond.selects RX2 yX2_tellOfWalker yX2_tellOfWalker, Cond.initialized RX2, Cond.code yX2_tellOfWalker cX2_tellOfWalker 3 (some .int), Cond.fieldLink RX2 220 "LanternWalk$Setting" "pace" "[I", Cond.fieldLink RX2 81 "LanternWalk$Parade" "wick" "[I", Cond.fieldLink RX2 223 "LanternWalk$Setting" "voice" "[I", Cond.fieldLink RX2 84 "LanternWalk$Parade" "burns" "[Z", Cond.fieldLink RX2 95 "LanternWalk$Parade" "stage" "[I", Cond.fieldLink RX2 226 "LanternWalk$Parade" "place" "[I", Cond.fieldLink RX2 232 "LanternWalk$Parade" "dark" "[I", Cond.fieldLink RX2 235 "LanternWalk$Parade" "cameHome" "[I", Cond.methodLink RX2 229 yX0_neighboursOf, Cond.instanceMethod yX0_neighboursOf, Cond.selects RX0 yX0_neighboursOf yX0_neighboursOf, Cond.initialized RX0, Cond.code yX0_neighboursOf cX0_neighboursOf 4 (some .int), Cond.fieldLink RX0 58 "LanternWalk$Parade" "setting" "LLanternWalk$Setting;", Cond.fieldLink RX0 92 "LanternWalk$Setting" "walkers" "I"]
def wsX2_digestOfWalker_r2 : List Cond := [Cond.methodLink RX0 119 yX0_areNeighbours, Cond.instanceMethod yX0_areNeighbours, Cond.selects RX0 yX0_areNeighbours yX0_areNeighbours, Cond.code yX0_areNeighbours cX0_areNeighbours 3 (some .boolean), Cond.fieldLink RX0 28 "LanternWalk$Parade" "stage" "[I", Cond.fieldLink RX0 31 "LanternWalk$Parade" "place" "[I", Cond.methodLink RX2 193 yX2_digestWith, Cond.static yX2_digestWith, Cond.code yX2_digestWith cX2_digestWith 3 (some .long), Cond.constantLong RX2 200 (31), Cond.methodLink RX2 123 yX2_cellOf, Cond.static yX2_cellOf, Cond.code yX2_cellOf cX2_cellOf 2 (some .int)]
def wsX2_digestOfWalker : List Cond := .code yX2_digestOfWalker cX2_digestOfWalker 7 (some .long) :: ((wsX2_digestOfWalker_r1 ++ wsX2_digestOfWalker_r2) ++ wsX20 ++ wsX10 ++ wsX00)
def wsX2_digest_r1 : List Cond := [Cond.constantLong RX2 191 (659), Cond.fieldLink RX2 10 "LanternWalk" "setting" "LLanternWalk$Setting;", Cond.fieldLink RX2 68 "LanternWalk$Setting" "wind" "[I", Cond.fieldLink RX2 35 "LanternWalk$Setting" "stretches" "I", Cond.fieldLink RX2 73 "LanternWalk$Setting" "walkers" "I", Cond.fieldLink RX2 107 "LanternWalk$Setting" "songs" "I", Cond.fieldLink RX2 141 "LanternWalk$Setting" "songLength" "[I", Cond.methodLink RX2 166 yX2_tellOfAll, Cond.instanceMethod yX2_tellOfAll, Cond.selects RX2 yX2_tellOfAll yX2_tellOfAll, Cond.initialized RX2, Cond.code yX2_tellOfAll cX2_tellOfAll 2 (some .int), Cond.fieldLink RX2 21 "LanternWalk" "now" "LLanternWalk$Parade;", Cond.fieldLink RX2 39 "LanternWalk$Parade" "step" "I", Cond.fieldLink RX2 238 "LanternWalk$Setting" "places" "I", Cond.methodLink RX2 157 yX0_howManyAre, Cond.instanceMethod yX0_howManyAre, Cond.selects RX0 yX0_howManyAre yX0_howManyAre, Cond.initialized RX0, Cond.code yX0_howManyAre cX0_howManyAre 4 (some .int), Cond.fieldLink RX0 58 "LanternWalk$Parade" "setting" "LLanternWalk$Setting;", Cond.fieldLink RX0 92 "LanternWalk$Setting" "walkers" "I", Cond.fieldLink RX0 28 "LanternWalk$Parade" "stage" "[I", Cond.methodLink RX2 177 yX0_lanternsBurning]
def wsX2_digest_r2 : List Cond := [Cond.instanceMethod yX0_lanternsBurning, Cond.selects RX0 yX0_lanternsBurning yX0_lanternsBurning, Cond.code yX0_lanternsBurning cX0_lanternsBurning 3 (some .int), Cond.fieldLink RX0 24 "LanternWalk$Parade" "burns" "[Z", Cond.methodLink RX2 241 yX0_foremostPlace, Cond.instanceMethod yX0_foremostPlace, Cond.selects RX0 yX0_foremostPlace yX0_foremostPlace, Cond.code yX0_foremostPlace cX0_foremostPlace 3 (some .int), Cond.fieldLink RX0 31 "LanternWalk$Parade" "place" "[I", Cond.methodLink RX2 244 yX0_paradeLength, Cond.instanceMethod yX0_paradeLength, Cond.selects RX0 yX0_paradeLength yX0_paradeLength, Cond.code yX0_paradeLength cX0_paradeLength 4 (some .int), Cond.methodLink RX0 123 yX0_foremostPlace, Cond.methodLink RX2 193 yX2_digestWith, Cond.static yX2_digestWith, Cond.code yX2_digestWith cX2_digestWith 3 (some .long), Cond.constantLong RX2 200 (31), Cond.methodLink RX2 131 yX2_tellOfStretch, Cond.instanceMethod yX2_tellOfStretch, Cond.selects RX2 yX2_tellOfStretch yX2_tellOfStretch, Cond.code yX2_tellOfStretch cX2_tellOfStretch 3 (some .int), Cond.fieldLink RX2 202 "LanternWalk$Setting" "length" "[I", Cond.fieldLink RX2 208 "LanternWalk$Setting" "first" "[I"]
def wsX2_digest_r3 : List Cond := [Cond.fieldLink RX2 214 "LanternWalk$Parade" "passed" "[I", Cond.fieldLink RX2 217 "LanternWalk$Parade" "stopped" "[I", Cond.methodLink RX2 205 yX0_letsThrough, Cond.instanceMethod yX0_letsThrough, Cond.selects RX0 yX0_letsThrough yX0_letsThrough, Cond.code yX0_letsThrough cX0_letsThrough 4 (some .int), Cond.fieldLink RX0 110 "LanternWalk$Setting" "lets" "[I", Cond.fieldLink RX0 9 "LanternWalk$Parade" "corner" "[I", Cond.methodLink RX2 211 yX0_walkersOn, Cond.instanceMethod yX0_walkersOn, Cond.selects RX0 yX0_walkersOn yX0_walkersOn, Cond.code yX0_walkersOn cX0_walkersOn 6 (some .int), Cond.fieldLink RX0 113 "LanternWalk$Setting" "first" "[I", Cond.fieldLink RX0 116 "LanternWalk$Setting" "length" "[I", Cond.methodLink RX2 197 yX2_digestOfWalker, Cond.instanceMethod yX2_digestOfWalker, Cond.selects RX2 yX2_digestOfWalker yX2_digestOfWalker, Cond.code yX2_digestOfWalker cX2_digestOfWalker 7 (some .long), Cond.fieldLink RX2 126 "LanternWalk$Parade" "known" "[I", Cond.methodLink RX2 136 yX2_tellOfWalker, Cond.instanceMethod yX2_tellOfWalker, Cond.selects RX2 yX2_tellOfWalker yX2_tellOfWalker, Cond.code yX2_tellOfWalker cX2_tellOfWalker 3 (some .int), Cond.fieldLink RX2 220 "LanternWalk$Setting" "pace" "[I"]
def wsX2_digest_r4 : List Cond := [Cond.fieldLink RX2 81 "LanternWalk$Parade" "wick" "[I", Cond.fieldLink RX2 223 "LanternWalk$Setting" "voice" "[I", Cond.fieldLink RX2 84 "LanternWalk$Parade" "burns" "[Z", Cond.fieldLink RX2 95 "LanternWalk$Parade" "stage" "[I", Cond.fieldLink RX2 226 "LanternWalk$Parade" "place" "[I", Cond.fieldLink RX2 232 "LanternWalk$Parade" "dark" "[I", Cond.fieldLink RX2 235 "LanternWalk$Parade" "cameHome" "[I", Cond.methodLink RX2 229 yX0_neighboursOf, Cond.instanceMethod yX0_neighboursOf, Cond.selects RX0 yX0_neighboursOf yX0_neighboursOf, Cond.code yX0_neighboursOf cX0_neighboursOf 4 (some .int), Cond.methodLink RX0 119 yX0_areNeighbours, Cond.instanceMethod yX0_areNeighbours, Cond.selects RX0 yX0_areNeighbours yX0_areNeighbours, Cond.code yX0_areNeighbours cX0_areNeighbours 3 (some .boolean), Cond.methodLink RX2 123 yX2_cellOf, Cond.static yX2_cellOf, Cond.code yX2_cellOf cX2_cellOf 2 (some .int)]
def wsX2_digest : List Cond := .code yX2_digest cX2_digest 5 (some .long) :: ((wsX2_digest_r1 ++ (wsX2_digest_r2 ++ (wsX2_digest_r3 ++ wsX2_digest_r4))) ++ wsX20 ++ wsX10 ++ wsX00)
def wsX3_init : List Cond := .code yX3_init cX3_init 1 none :: ([.methodLink RX3 1 objectInit, .instanceMethod objectInit, .code objectInit ⟨#[0xb1]⟩ 1 none, .arrayClass .int, .fieldLink RX3 9 "LanternWalkModel" "route" "[I", .fieldLink RX3 13 "LanternWalkModel" "stewards" "[I", .fieldLink RX3 16 "LanternWalkModel" "wind" "[I", .fieldLink RX3 19 "LanternWalkModel" "people" "[I", .fieldLink RX3 22 "LanternWalkModel" "lengths" "[I", .fieldLink RX3 25 "LanternWalkModel" "known" "[I", .fieldLink RX3 28 "LanternWalkModel" "step" "[I", .fieldLink RX3 31 "LanternWalkModel" "learns" "[I", .arrayClass .boolean, .fieldLink RX3 34 "LanternWalkModel" "lights" "[Z", .fieldLink RX3 38 "LanternWalkModel" "through" "[I", .fieldLink RX3 41 "LanternWalkModel" "went" "[Z", .fieldLink RX3 44 "LanternWalkModel" "ahead" "[I"] ++ wsX30)
def wsX3_thrown : List Cond := .code yX3_thrown cX3_thrown 1 (some .int) :: ([.fieldLink RX3 47 "LanternWalkModel" "thrown" "I"] ++ wsX30)
def wsX3_fail : List Cond := .code yX3_fail cX3_fail 2 (some .int) :: ([.fieldLink RX3 47 "LanternWalkModel" "thrown" "I"] ++ wsX30)
def wsX3_isIn : List Cond := .code yX3_isIn cX3_isIn 3 (some .boolean) :: ([])
def wsX3_isStretch : List Cond := .code yX3_isStretch cX3_isStretch 2 (some .boolean) :: ([.fieldLink RX3 51 "LanternWalkModel" "stretches" "I", .methodLink RX3 54 yX3_isIn, .static yX3_isIn, .initialized RX3, .code yX3_isIn cX3_isIn 3 (some .boolean)] ++ wsX30)
def wsX3_isWalker : List Cond := .code yX3_isWalker cX3_isWalker 2 (some .boolean) :: ([.fieldLink RX3 58 "LanternWalkModel" "walkers" "I", .methodLink RX3 54 yX3_isIn, .static yX3_isIn, .initialized RX3, .code yX3_isIn cX3_isIn 3 (some .boolean)] ++ wsX30)
def wsX3_isSong : List Cond := .code yX3_isSong cX3_isSong 2 (some .boolean) :: ([.fieldLink RX3 61 "LanternWalkModel" "songs" "I", .methodLink RX3 54 yX3_isIn, .static yX3_isIn, .initialized RX3, .code yX3_isIn cX3_isIn 3 (some .boolean)] ++ wsX30)
def wsX3_ro : List Cond := .code yX3_ro cX3_ro 3 (some .int) :: ([.fieldLink RX3 9 "LanternWalkModel" "route" "[I"] ++ wsX30)
def wsX3_pe : List Cond := .code yX3_pe cX3_pe 3 (some .int) :: ([.fieldLink RX3 19 "LanternWalkModel" "people" "[I"] ++ wsX30)
def wsX3_set : List Cond := .code yX3_set cX3_set 4 none :: ([.fieldLink RX3 19 "LanternWalkModel" "people" "[I"] ++ wsX30)
def wsX3_places : List Cond := .code yX3_places cX3_places 1 (some .int) :: ([.fieldLink RX3 51 "LanternWalkModel" "stretches" "I", .methodLink RX3 64 yX3_ro, .instanceMethod yX3_ro, .selects RX3 yX3_ro yX3_ro, .initialized RX3, .code yX3_ro cX3_ro 3 (some .int), .fieldLink RX3 9 "LanternWalkModel" "route" "[I"] ++ wsX30)
def wsX3_addStretch_r1 : List Cond := [Cond.fieldLink RX3 47 "LanternWalkModel" "thrown" "I", Cond.fieldLink RX3 51 "LanternWalkModel" "stretches" "I", Cond.fieldLink RX3 28 "LanternWalkModel" "step" "[I", Cond.arrayClass .int, Cond.fieldLink RX3 9 "LanternWalkModel" "route" "[I", Cond.methodLink RX3 76 arraycopyName, Cond.native arraycopyName, Cond.static arraycopyName, Cond.initialized "java/lang/System", Cond.methodLink RX3 54 yX3_isIn, Cond.static yX3_isIn, Cond.initialized RX3, Cond.code yX3_isIn cX3_isIn 3 (some .boolean), Cond.methodLink RX3 68 yX3_fail, Cond.instanceMethod yX3_fail, Cond.selects RX3 yX3_fail yX3_fail, Cond.code yX3_fail cX3_fail 2 (some .int), Cond.methodLink RX3 72 yX3_places, Cond.instanceMethod yX3_places, Cond.selects RX3 yX3_places yX3_places, Cond.code yX3_places cX3_places 1 (some .int), Cond.methodLink RX3 64 yX3_ro, Cond.instanceMethod yX3_ro, Cond.selects RX3 yX3_ro yX3_ro]
def wsX3_addStretch_r2 : List Cond := [Cond.code yX3_ro cX3_ro 3 (some .int)]
def wsX3_addStretch : List Cond := .code yX3_addStretch cX3_addStretch 4 (some .int) :: ((wsX3_addStretch_r1 ++ wsX3_addStretch_r2) ++ wsX30)
def wsX3_post : List Cond := .code yX3_post cX3_post 4 (some .int) :: ([.fieldLink RX3 47 "LanternWalkModel" "thrown" "I", .fieldLink RX3 13 "LanternWalkModel" "stewards" "[I", .methodLink RX3 54 yX3_isIn, .static yX3_isIn, .initialized RX3, .code yX3_isIn cX3_isIn 3 (some .boolean), .methodLink RX3 82 yX3_isStretch, .instanceMethod yX3_isStretch, .selects RX3 yX3_isStretch yX3_isStretch, .code yX3_isStretch cX3_isStretch 2 (some .boolean), .fieldLink RX3 51 "LanternWalkModel" "stretches" "I", .methodLink RX3 68 yX3_fail, .instanceMethod yX3_fail, .selects RX3 yX3_fail yX3_fail, .code yX3_fail cX3_fail 2 (some .int)] ++ wsX30)
def wsX3_setWind : List Cond := .code yX3_setWind cX3_setWind 4 (some .int) :: ([.fieldLink RX3 47 "LanternWalkModel" "thrown" "I", .fieldLink RX3 16 "LanternWalkModel" "wind" "[I", .methodLink RX3 54 yX3_isIn, .static yX3_isIn, .initialized RX3, .code yX3_isIn cX3_isIn 3 (some .boolean), .methodLink RX3 68 yX3_fail, .instanceMethod yX3_fail, .selects RX3 yX3_fail yX3_fail, .code yX3_fail cX3_fail 2 (some .int)] ++ wsX30)
def wsX3_come : List Cond := .code yX3_come cX3_come 5 (some .int) :: ([.fieldLink RX3 47 "LanternWalkModel" "thrown" "I", .fieldLink RX3 58 "LanternWalkModel" "walkers" "I", .arrayClass .int, .fieldLink RX3 19 "LanternWalkModel" "people" "[I", .methodLink RX3 76 arraycopyName, .native arraycopyName, .static arraycopyName, .initialized "java/lang/System", .methodLink RX3 54 yX3_isIn, .static yX3_isIn, .initialized RX3, .code yX3_isIn cX3_isIn 3 (some .boolean), .methodLink RX3 68 yX3_fail, .instanceMethod yX3_fail, .selects RX3 yX3_fail yX3_fail, .code yX3_fail cX3_fail 2 (some .int)] ++ wsX30)
def wsX3_trim_r1 : List Cond := [Cond.fieldLink RX3 47 "LanternWalkModel" "thrown" "I", Cond.methodLink RX3 92 Lib.Math.min.name, Cond.static Lib.Math.min.name, Cond.initialized "java/lang/Math", Cond.code Lib.Math.min.name Lib.Math.min.code 2 (some .int), Cond.methodLink RX3 86 yX3_isWalker, Cond.instanceMethod yX3_isWalker, Cond.selects RX3 yX3_isWalker yX3_isWalker, Cond.initialized RX3, Cond.code yX3_isWalker cX3_isWalker 2 (some .boolean), Cond.fieldLink RX3 58 "LanternWalkModel" "walkers" "I", Cond.methodLink RX3 54 yX3_isIn, Cond.static yX3_isIn, Cond.code yX3_isIn cX3_isIn 3 (some .boolean), Cond.methodLink RX3 68 yX3_fail, Cond.instanceMethod yX3_fail, Cond.selects RX3 yX3_fail yX3_fail, Cond.code yX3_fail cX3_fail 2 (some .int), Cond.methodLink RX3 89 yX3_pe, Cond.instanceMethod yX3_pe, Cond.selects RX3 yX3_pe yX3_pe, Cond.code yX3_pe cX3_pe 3 (some .int), Cond.fieldLink RX3 19 "LanternWalkModel" "people" "[I", Cond.methodLink RX3 97 yX3_set]
def wsX3_trim_r2 : List Cond := [Cond.instanceMethod yX3_set, Cond.selects RX3 yX3_set yX3_set, Cond.code yX3_set cX3_set 4 none]
def wsX3_trim : List Cond := .code yX3_trim cX3_trim 3 (some .int) :: ((wsX3_trim_r1 ++ wsX3_trim_r2) ++ wsX30)
def wsX3_addSong : List Cond := .code yX3_addSong cX3_addSong 2 (some .int) :: ([.fieldLink RX3 47 "LanternWalkModel" "thrown" "I", .fieldLink RX3 61 "LanternWalkModel" "songs" "I", .fieldLink RX3 22 "LanternWalkModel" "lengths" "[I", .methodLink RX3 54 yX3_isIn, .static yX3_isIn, .initialized RX3, .code yX3_isIn cX3_isIn 3 (some .boolean), .methodLink RX3 68 yX3_fail, .instanceMethod yX3_fail, .selects RX3 yX3_fail yX3_fail, .code yX3_fail cX3_fail 2 (some .int)] ++ wsX30)
def wsX3_teach : List Cond := .code yX3_teach cX3_teach 5 (some .int) :: ([.fieldLink RX3 47 "LanternWalkModel" "thrown" "I", .fieldLink RX3 25 "LanternWalkModel" "known" "[I", .methodLink RX3 86 yX3_isWalker, .instanceMethod yX3_isWalker, .selects RX3 yX3_isWalker yX3_isWalker, .initialized RX3, .code yX3_isWalker cX3_isWalker 2 (some .boolean), .fieldLink RX3 58 "LanternWalkModel" "walkers" "I", .methodLink RX3 54 yX3_isIn, .static yX3_isIn, .code yX3_isIn cX3_isIn 3 (some .boolean), .methodLink RX3 101 yX3_isSong, .instanceMethod yX3_isSong, .selects RX3 yX3_isSong yX3_isSong, .code yX3_isSong cX3_isSong 2 (some .boolean), .fieldLink RX3 61 "LanternWalkModel" "songs" "I", .methodLink RX3 68 yX3_fail, .instanceMethod yX3_fail, .selects RX3 yX3_fail yX3_fail, .code yX3_fail cX3_fail 2 (some .int)] ++ wsX30)
def wsX3_walks : List Cond := .code yX3_walks cX3_walks 2 (some .boolean) :: ([.methodLink RX3 89 yX3_pe, .instanceMethod yX3_pe, .selects RX3 yX3_pe yX3_pe, .initialized RX3, .code yX3_pe cX3_pe 3 (some .int), .fieldLink RX3 19 "LanternWalkModel" "people" "[I"] ++ wsX30)
def wsX3_at : List Cond := .code yX3_at cX3_at 4 (some .int) :: ([.fieldLink RX3 58 "LanternWalkModel" "walkers" "I", .methodLink RX3 104 yX3_walks, .instanceMethod yX3_walks, .selects RX3 yX3_walks yX3_walks, .initialized RX3, .code yX3_walks cX3_walks 2 (some .boolean), .methodLink RX3 89 yX3_pe, .instanceMethod yX3_pe, .selects RX3 yX3_pe yX3_pe, .code yX3_pe cX3_pe 3 (some .int), .fieldLink RX3 19 "LanternWalkModel" "people" "[I"] ++ wsX30)
def wsX3_stretchOf : List Cond := .code yX3_stretchOf cX3_stretchOf 3 (some .int) :: ([.methodLink RX3 64 yX3_ro, .instanceMethod yX3_ro, .selects RX3 yX3_ro yX3_ro, .initialized RX3, .code yX3_ro cX3_ro 3 (some .int), .fieldLink RX3 9 "LanternWalkModel" "route" "[I"] ++ wsX30)
def wsX3_lets : List Cond := .code yX3_lets cX3_lets 2 (some .int) :: ([.fieldLink RX3 13 "LanternWalkModel" "stewards" "[I", .methodLink RX3 64 yX3_ro, .instanceMethod yX3_ro, .selects RX3 yX3_ro yX3_ro, .initialized RX3, .code yX3_ro cX3_ro 3 (some .int), .fieldLink RX3 9 "LanternWalkModel" "route" "[I"] ++ wsX30)
def wsX3_stretchTold_r1 : List Cond := [Cond.fieldLink RX3 58 "LanternWalkModel" "walkers" "I", Cond.methodLink RX3 64 yX3_ro, Cond.instanceMethod yX3_ro, Cond.selects RX3 yX3_ro yX3_ro, Cond.initialized RX3, Cond.code yX3_ro cX3_ro 3 (some .int), Cond.fieldLink RX3 9 "LanternWalkModel" "route" "[I", Cond.methodLink RX3 107 yX3_lets, Cond.instanceMethod yX3_lets, Cond.selects RX3 yX3_lets yX3_lets, Cond.code yX3_lets cX3_lets 2 (some .int), Cond.fieldLink RX3 13 "LanternWalkModel" "stewards" "[I", Cond.methodLink RX3 104 yX3_walks, Cond.instanceMethod yX3_walks, Cond.selects RX3 yX3_walks yX3_walks, Cond.code yX3_walks cX3_walks 2 (some .boolean), Cond.methodLink RX3 89 yX3_pe, Cond.instanceMethod yX3_pe, Cond.selects RX3 yX3_pe yX3_pe, Cond.code yX3_pe cX3_pe 3 (some .int), Cond.fieldLink RX3 19 "LanternWalkModel" "people" "[I", Cond.methodLink RX3 110 yX3_stretchOf, Cond.instanceMethod yX3_stretchOf, Cond.selects RX3 yX3_stretchOf yX3_stretchOf]
def wsX3_stretchTold_r2 : List Cond := [Cond.code yX3_stretchOf cX3_stretchOf 3 (some .int)]
def wsX3_stretchTold : List Cond := .code yX3_stretchTold cX3_stretchTold 5 (some .int) :: ((wsX3_stretchTold_r1 ++ wsX3_stretchTold_r2) ++ wsX30)
def wsX3_stretch_r1 : List Cond := [Cond.fieldLink RX3 47 "LanternWalkModel" "thrown" "I", Cond.methodLink RX3 82 yX3_isStretch, Cond.instanceMethod yX3_isStretch, Cond.selects RX3 yX3_isStretch yX3_isStretch, Cond.initialized RX3, Cond.code yX3_isStretch cX3_isStretch 2 (some .boolean), Cond.fieldLink RX3 51 "LanternWalkModel" "stretches" "I", Cond.methodLink RX3 54 yX3_isIn, Cond.static yX3_isIn, Cond.code yX3_isIn cX3_isIn 3 (some .boolean), Cond.methodLink RX3 113 yX3_stretchTold, Cond.instanceMethod yX3_stretchTold, Cond.selects RX3 yX3_stretchTold yX3_stretchTold, Cond.code yX3_stretchTold cX3_stretchTold 5 (some .int), Cond.fieldLink RX3 58 "LanternWalkModel" "walkers" "I", Cond.methodLink RX3 64 yX3_ro, Cond.instanceMethod yX3_ro, Cond.selects RX3 yX3_ro yX3_ro, Cond.code yX3_ro cX3_ro 3 (some .int), Cond.fieldLink RX3 9 "LanternWalkModel" "route" "[I", Cond.methodLink RX3 107 yX3_lets, Cond.instanceMethod yX3_lets, Cond.selects RX3 yX3_lets yX3_lets, Cond.code yX3_lets cX3_lets 2 (some .int)]
def wsX3_stretch_r2 : List Cond := [Cond.fieldLink RX3 13 "LanternWalkModel" "stewards" "[I", Cond.methodLink RX3 104 yX3_walks, Cond.instanceMethod yX3_walks, Cond.selects RX3 yX3_walks yX3_walks, Cond.code yX3_walks cX3_walks 2 (some .boolean), Cond.methodLink RX3 89 yX3_pe, Cond.instanceMethod yX3_pe, Cond.selects RX3 yX3_pe yX3_pe, Cond.code yX3_pe cX3_pe 3 (some .int), Cond.fieldLink RX3 19 "LanternWalkModel" "people" "[I", Cond.methodLink RX3 110 yX3_stretchOf, Cond.instanceMethod yX3_stretchOf, Cond.selects RX3 yX3_stretchOf yX3_stretchOf, Cond.code yX3_stretchOf cX3_stretchOf 3 (some .int), Cond.methodLink RX3 68 yX3_fail, Cond.instanceMethod yX3_fail, Cond.selects RX3 yX3_fail yX3_fail, Cond.code yX3_fail cX3_fail 2 (some .int)]
def wsX3_stretch : List Cond := .code yX3_stretch cX3_stretch 3 (some .int) :: ((wsX3_stretch_r1 ++ wsX3_stretch_r2) ++ wsX30)
def wsX3_isNeighbour : List Cond := .code yX3_isNeighbour cX3_isNeighbour 3 (some .boolean) :: ([.methodLink RX3 116 Lib.Math.abs.name, .static Lib.Math.abs.name, .initialized "java/lang/Math", .code Lib.Math.abs.name Lib.Math.abs.code 1 (some .int), .methodLink RX3 104 yX3_walks, .instanceMethod yX3_walks, .selects RX3 yX3_walks yX3_walks, .initialized RX3, .code yX3_walks cX3_walks 2 (some .boolean), .methodLink RX3 89 yX3_pe, .instanceMethod yX3_pe, .selects RX3 yX3_pe yX3_pe, .code yX3_pe cX3_pe 3 (some .int), .fieldLink RX3 19 "LanternWalkModel" "people" "[I"] ++ wsX30)
def wsX3_neighbours : List Cond := .code yX3_neighbours cX3_neighbours 4 (some .int) :: ([.fieldLink RX3 58 "LanternWalkModel" "walkers" "I", .methodLink RX3 119 yX3_isNeighbour, .instanceMethod yX3_isNeighbour, .selects RX3 yX3_isNeighbour yX3_isNeighbour, .initialized RX3, .code yX3_isNeighbour cX3_isNeighbour 3 (some .boolean), .methodLink RX3 116 Lib.Math.abs.name, .static Lib.Math.abs.name, .initialized "java/lang/Math", .code Lib.Math.abs.name Lib.Math.abs.code 1 (some .int), .methodLink RX3 104 yX3_walks, .instanceMethod yX3_walks, .selects RX3 yX3_walks yX3_walks, .code yX3_walks cX3_walks 2 (some .boolean), .methodLink RX3 89 yX3_pe, .instanceMethod yX3_pe, .selects RX3 yX3_pe yX3_pe, .code yX3_pe cX3_pe 3 (some .int), .fieldLink RX3 19 "LanternWalkModel" "people" "[I"] ++ wsX30)
def wsX3_walkerTold : List Cond := .code yX3_walkerTold cX3_walkerTold 3 (some .int) :: ([.methodLink RX3 89 yX3_pe, .instanceMethod yX3_pe, .selects RX3 yX3_pe yX3_pe, .initialized RX3, .code yX3_pe cX3_pe 3 (some .int), .fieldLink RX3 19 "LanternWalkModel" "people" "[I", .methodLink RX3 123 yX3_neighbours, .instanceMethod yX3_neighbours, .selects RX3 yX3_neighbours yX3_neighbours, .code yX3_neighbours cX3_neighbours 4 (some .int), .fieldLink RX3 58 "LanternWalkModel" "walkers" "I", .methodLink RX3 119 yX3_isNeighbour, .instanceMethod yX3_isNeighbour, .selects RX3 yX3_isNeighbour yX3_isNeighbour, .code yX3_isNeighbour cX3_isNeighbour 3 (some .boolean), .methodLink RX3 116 Lib.Math.abs.name, .static Lib.Math.abs.name, .initialized "java/lang/Math", .code Lib.Math.abs.name Lib.Math.abs.code 1 (some .int), .methodLink RX3 104 yX3_walks, .instanceMethod yX3_walks, .selects RX3 yX3_walks yX3_walks, .code yX3_walks cX3_walks 2 (some .boolean)] ++ wsX30)
def wsX3_walker_r1 : List Cond := [Cond.fieldLink RX3 47 "LanternWalkModel" "thrown" "I", Cond.methodLink RX3 86 yX3_isWalker, Cond.instanceMethod yX3_isWalker, Cond.selects RX3 yX3_isWalker yX3_isWalker, Cond.initialized RX3, Cond.code yX3_isWalker cX3_isWalker 2 (some .boolean), Cond.fieldLink RX3 58 "LanternWalkModel" "walkers" "I", Cond.methodLink RX3 54 yX3_isIn, Cond.static yX3_isIn, Cond.code yX3_isIn cX3_isIn 3 (some .boolean), Cond.methodLink RX3 126 yX3_walkerTold, Cond.instanceMethod yX3_walkerTold, Cond.selects RX3 yX3_walkerTold yX3_walkerTold, Cond.code yX3_walkerTold cX3_walkerTold 3 (some .int), Cond.methodLink RX3 89 yX3_pe, Cond.instanceMethod yX3_pe, Cond.selects RX3 yX3_pe yX3_pe, Cond.code yX3_pe cX3_pe 3 (some .int), Cond.fieldLink RX3 19 "LanternWalkModel" "people" "[I", Cond.methodLink RX3 123 yX3_neighbours, Cond.instanceMethod yX3_neighbours, Cond.selects RX3 yX3_neighbours yX3_neighbours, Cond.code yX3_neighbours cX3_neighbours 4 (some .int), Cond.methodLink RX3 119 yX3_isNeighbour]
def wsX3_walker_r2 : List Cond := [Cond.instanceMethod yX3_isNeighbour, Cond.selects RX3 yX3_isNeighbour yX3_isNeighbour, Cond.code yX3_isNeighbour cX3_isNeighbour 3 (some .boolean), Cond.methodLink RX3 116 Lib.Math.abs.name, Cond.static Lib.Math.abs.name, Cond.initialized "java/lang/Math", Cond.code Lib.Math.abs.name Lib.Math.abs.code 1 (some .int), Cond.methodLink RX3 104 yX3_walks, Cond.instanceMethod yX3_walks, Cond.selects RX3 yX3_walks yX3_walks, Cond.code yX3_walks cX3_walks 2 (some .boolean), Cond.methodLink RX3 68 yX3_fail, Cond.instanceMethod yX3_fail, Cond.selects RX3 yX3_fail yX3_fail, Cond.code yX3_fail cX3_fail 2 (some .int)]
def wsX3_walker : List Cond := .code yX3_walker cX3_walker 3 (some .int) :: ((wsX3_walker_r1 ++ wsX3_walker_r2) ++ wsX30)
def wsX3_knows : List Cond := .code yX3_knows cX3_knows 3 (some .int) :: ([.fieldLink RX3 47 "LanternWalkModel" "thrown" "I", .fieldLink RX3 25 "LanternWalkModel" "known" "[I", .methodLink RX3 86 yX3_isWalker, .instanceMethod yX3_isWalker, .selects RX3 yX3_isWalker yX3_isWalker, .initialized RX3, .code yX3_isWalker cX3_isWalker 2 (some .boolean), .fieldLink RX3 58 "LanternWalkModel" "walkers" "I", .methodLink RX3 54 yX3_isIn, .static yX3_isIn, .code yX3_isIn cX3_isIn 3 (some .boolean), .methodLink RX3 101 yX3_isSong, .instanceMethod yX3_isSong, .selects RX3 yX3_isSong yX3_isSong, .code yX3_isSong cX3_isSong 2 (some .boolean), .fieldLink RX3 61 "LanternWalkModel" "songs" "I", .methodLink RX3 68 yX3_fail, .instanceMethod yX3_fail, .selects RX3 yX3_fail yX3_fail, .code yX3_fail cX3_fail 2 (some .int)] ++ wsX30)
def wsX3_with : List Cond := .code yX3_with cX3_with 5 (some .int) :: ([.fieldLink RX3 58 "LanternWalkModel" "walkers" "I", .fieldLink RX3 25 "LanternWalkModel" "known" "[I"] ++ wsX30)
def wsX3_songTold : List Cond := .code yX3_songTold cX3_songTold 7 (some .int) :: ([.fieldLink RX3 22 "LanternWalkModel" "lengths" "[I", .fieldLink RX3 58 "LanternWalkModel" "walkers" "I", .methodLink RX3 129 yX3_with, .instanceMethod yX3_with, .selects RX3 yX3_with yX3_with, .initialized RX3, .code yX3_with cX3_with 5 (some .int), .fieldLink RX3 25 "LanternWalkModel" "known" "[I"] ++ wsX30)
def wsX3_song_r1 : List Cond := [Cond.fieldLink RX3 47 "LanternWalkModel" "thrown" "I", Cond.methodLink RX3 101 yX3_isSong, Cond.instanceMethod yX3_isSong, Cond.selects RX3 yX3_isSong yX3_isSong, Cond.initialized RX3, Cond.code yX3_isSong cX3_isSong 2 (some .boolean), Cond.fieldLink RX3 61 "LanternWalkModel" "songs" "I", Cond.methodLink RX3 54 yX3_isIn, Cond.static yX3_isIn, Cond.code yX3_isIn cX3_isIn 3 (some .boolean), Cond.methodLink RX3 132 yX3_songTold, Cond.instanceMethod yX3_songTold, Cond.selects RX3 yX3_songTold yX3_songTold, Cond.code yX3_songTold cX3_songTold 7 (some .int), Cond.fieldLink RX3 22 "LanternWalkModel" "lengths" "[I", Cond.fieldLink RX3 58 "LanternWalkModel" "walkers" "I", Cond.methodLink RX3 129 yX3_with, Cond.instanceMethod yX3_with, Cond.selects RX3 yX3_with yX3_with, Cond.code yX3_with cX3_with 5 (some .int), Cond.fieldLink RX3 25 "LanternWalkModel" "known" "[I", Cond.methodLink RX3 68 yX3_fail, Cond.instanceMethod yX3_fail, Cond.selects RX3 yX3_fail yX3_fail]
def wsX3_song_r2 : List Cond := [Cond.code yX3_fail cX3_fail 2 (some .int)]
def wsX3_song : List Cond := .code yX3_song cX3_song 3 (some .int) :: ((wsX3_song_r1 ++ wsX3_song_r2) ++ wsX30)
def wsX3_burn_r1 : List Cond := [Cond.fieldLink RX3 58 "LanternWalkModel" "walkers" "I", Cond.methodLink RX3 135 Lib.Math.max.name, Cond.static Lib.Math.max.name, Cond.initialized "java/lang/Math", Cond.code Lib.Math.max.name Lib.Math.max.code 2 (some .int), Cond.fieldLink RX3 34 "LanternWalkModel" "lights" "[Z", Cond.methodLink RX3 89 yX3_pe, Cond.instanceMethod yX3_pe, Cond.selects RX3 yX3_pe yX3_pe, Cond.initialized RX3, Cond.code yX3_pe cX3_pe 3 (some .int), Cond.fieldLink RX3 19 "LanternWalkModel" "people" "[I", Cond.methodLink RX3 97 yX3_set, Cond.instanceMethod yX3_set, Cond.selects RX3 yX3_set yX3_set, Cond.code yX3_set cX3_set 4 none, Cond.methodLink RX3 104 yX3_walks, Cond.instanceMethod yX3_walks, Cond.selects RX3 yX3_walks yX3_walks, Cond.code yX3_walks cX3_walks 2 (some .boolean), Cond.methodLink RX3 123 yX3_neighbours, Cond.instanceMethod yX3_neighbours, Cond.selects RX3 yX3_neighbours yX3_neighbours, Cond.code yX3_neighbours cX3_neighbours 4 (some .int)]
def wsX3_burn_r2 : List Cond := [Cond.methodLink RX3 119 yX3_isNeighbour, Cond.instanceMethod yX3_isNeighbour, Cond.selects RX3 yX3_isNeighbour yX3_isNeighbour, Cond.code yX3_isNeighbour cX3_isNeighbour 3 (some .boolean), Cond.methodLink RX3 116 Lib.Math.abs.name, Cond.static Lib.Math.abs.name, Cond.code Lib.Math.abs.name Lib.Math.abs.code 1 (some .int)]
def wsX3_burn : List Cond := .code yX3_burn cX3_burn 4 none :: ((wsX3_burn_r1 ++ wsX3_burn_r2) ++ wsX30)
def wsX3_learnt : List Cond := .code yX3_learnt cX3_learnt 5 (some .int) :: ([.fieldLink RX3 58 "LanternWalkModel" "walkers" "I", .fieldLink RX3 25 "LanternWalkModel" "known" "[I", .fieldLink RX3 22 "LanternWalkModel" "lengths" "[I", .methodLink RX3 119 yX3_isNeighbour, .instanceMethod yX3_isNeighbour, .selects RX3 yX3_isNeighbour yX3_isNeighbour, .initialized RX3, .code yX3_isNeighbour cX3_isNeighbour 3 (some .boolean), .methodLink RX3 116 Lib.Math.abs.name, .static Lib.Math.abs.name, .initialized "java/lang/Math", .code Lib.Math.abs.name Lib.Math.abs.code 1 (some .int), .methodLink RX3 104 yX3_walks, .instanceMethod yX3_walks, .selects RX3 yX3_walks yX3_walks, .code yX3_walks cX3_walks 2 (some .boolean), .methodLink RX3 89 yX3_pe, .instanceMethod yX3_pe, .selects RX3 yX3_pe yX3_pe, .code yX3_pe cX3_pe 3 (some .int), .fieldLink RX3 19 "LanternWalkModel" "people" "[I"] ++ wsX30)
def wsX3_sing_r1 : List Cond := [Cond.fieldLink RX3 58 "LanternWalkModel" "walkers" "I", Cond.fieldLink RX3 61 "LanternWalkModel" "songs" "I", Cond.fieldLink RX3 31 "LanternWalkModel" "learns" "[I", Cond.fieldLink RX3 25 "LanternWalkModel" "known" "[I", Cond.methodLink RX3 104 yX3_walks, Cond.instanceMethod yX3_walks, Cond.selects RX3 yX3_walks yX3_walks, Cond.initialized RX3, Cond.code yX3_walks cX3_walks 2 (some .boolean), Cond.methodLink RX3 89 yX3_pe, Cond.instanceMethod yX3_pe, Cond.selects RX3 yX3_pe yX3_pe, Cond.code yX3_pe cX3_pe 3 (some .int), Cond.fieldLink RX3 19 "LanternWalkModel" "people" "[I", Cond.methodLink RX3 138 yX3_learnt, Cond.instanceMethod yX3_learnt, Cond.selects RX3 yX3_learnt yX3_learnt, Cond.code yX3_learnt cX3_learnt 5 (some .int), Cond.fieldLink RX3 22 "LanternWalkModel" "lengths" "[I", Cond.methodLink RX3 119 yX3_isNeighbour, Cond.instanceMethod yX3_isNeighbour, Cond.selects RX3 yX3_isNeighbour yX3_isNeighbour, Cond.code yX3_isNeighbour cX3_isNeighbour 3 (some .boolean), Cond.methodLink RX3 116 Lib.Math.abs.name]
def wsX3_sing_r2 : List Cond := [Cond.static Lib.Math.abs.name, Cond.initialized "java/lang/Math", Cond.code Lib.Math.abs.name Lib.Math.abs.code 1 (some .int)]
def wsX3_sing : List Cond := .code yX3_sing cX3_sing 3 none :: ((wsX3_sing_r1 ++ wsX3_sing_r2) ++ wsX30)
def wsX3_go_r1 : List Cond := [Cond.methodLink RX3 135 Lib.Math.max.name, Cond.static Lib.Math.max.name, Cond.initialized "java/lang/Math", Cond.code Lib.Math.max.name Lib.Math.max.code 2 (some .int), Cond.fieldLink RX3 38 "LanternWalkModel" "through" "[I", Cond.fieldLink RX3 9 "LanternWalkModel" "route" "[I", Cond.fieldLink RX3 28 "LanternWalkModel" "step" "[I", Cond.methodLink RX3 89 yX3_pe, Cond.instanceMethod yX3_pe, Cond.selects RX3 yX3_pe yX3_pe, Cond.initialized RX3, Cond.code yX3_pe cX3_pe 3 (some .int), Cond.fieldLink RX3 19 "LanternWalkModel" "people" "[I", Cond.methodLink RX3 104 yX3_walks, Cond.instanceMethod yX3_walks, Cond.selects RX3 yX3_walks yX3_walks, Cond.code yX3_walks cX3_walks 2 (some .boolean), Cond.methodLink RX3 110 yX3_stretchOf, Cond.instanceMethod yX3_stretchOf, Cond.selects RX3 yX3_stretchOf yX3_stretchOf, Cond.code yX3_stretchOf cX3_stretchOf 3 (some .int), Cond.methodLink RX3 64 yX3_ro, Cond.instanceMethod yX3_ro, Cond.selects RX3 yX3_ro yX3_ro]
def wsX3_go_r2 : List Cond := [Cond.code yX3_ro cX3_ro 3 (some .int), Cond.methodLink RX3 72 yX3_places, Cond.instanceMethod yX3_places, Cond.selects RX3 yX3_places yX3_places, Cond.code yX3_places cX3_places 1 (some .int), Cond.fieldLink RX3 51 "LanternWalkModel" "stretches" "I", Cond.methodLink RX3 141 yX3_at, Cond.instanceMethod yX3_at, Cond.selects RX3 yX3_at yX3_at, Cond.code yX3_at cX3_at 4 (some .int), Cond.fieldLink RX3 58 "LanternWalkModel" "walkers" "I", Cond.methodLink RX3 107 yX3_lets, Cond.instanceMethod yX3_lets, Cond.selects RX3 yX3_lets yX3_lets, Cond.code yX3_lets cX3_lets 2 (some .int), Cond.fieldLink RX3 13 "LanternWalkModel" "stewards" "[I", Cond.methodLink RX3 97 yX3_set, Cond.instanceMethod yX3_set, Cond.selects RX3 yX3_set yX3_set, Cond.code yX3_set cX3_set 4 none]
def wsX3_go : List Cond := .code yX3_go cX3_go 7 none :: ((wsX3_go_r1 ++ wsX3_go_r2) ++ wsX30)
def wsX3_inState : List Cond := .code yX3_inState cX3_inState 4 (some .int) :: ([.fieldLink RX3 58 "LanternWalkModel" "walkers" "I", .methodLink RX3 89 yX3_pe, .instanceMethod yX3_pe, .selects RX3 yX3_pe yX3_pe, .initialized RX3, .code yX3_pe cX3_pe 3 (some .int), .fieldLink RX3 19 "LanternWalkModel" "people" "[I"] ++ wsX30)
def wsX3_stepOn_r1 : List Cond := [Cond.fieldLink RX3 16 "LanternWalkModel" "wind" "[I", Cond.fieldLink RX3 28 "LanternWalkModel" "step" "[I", Cond.fieldLink RX3 38 "LanternWalkModel" "through" "[I", Cond.fieldLink RX3 58 "LanternWalkModel" "walkers" "I", Cond.fieldLink RX3 41 "LanternWalkModel" "went" "[Z", Cond.fieldLink RX3 44 "LanternWalkModel" "ahead" "[I", Cond.methodLink RX3 144 yX3_inState, Cond.instanceMethod yX3_inState, Cond.selects RX3 yX3_inState yX3_inState, Cond.initialized RX3, Cond.code yX3_inState cX3_inState 4 (some .int), Cond.methodLink RX3 89 yX3_pe, Cond.instanceMethod yX3_pe, Cond.selects RX3 yX3_pe yX3_pe, Cond.code yX3_pe cX3_pe 3 (some .int), Cond.fieldLink RX3 19 "LanternWalkModel" "people" "[I", Cond.methodLink RX3 147 yX3_burn, Cond.instanceMethod yX3_burn, Cond.selects RX3 yX3_burn yX3_burn, Cond.code yX3_burn cX3_burn 4 none, Cond.methodLink RX3 135 Lib.Math.max.name, Cond.static Lib.Math.max.name, Cond.initialized "java/lang/Math", Cond.code Lib.Math.max.name Lib.Math.max.code 2 (some .int)]
def wsX3_stepOn_r2 : List Cond := [Cond.fieldLink RX3 34 "LanternWalkModel" "lights" "[Z", Cond.methodLink RX3 97 yX3_set, Cond.instanceMethod yX3_set, Cond.selects RX3 yX3_set yX3_set, Cond.code yX3_set cX3_set 4 none, Cond.methodLink RX3 104 yX3_walks, Cond.instanceMethod yX3_walks, Cond.selects RX3 yX3_walks yX3_walks, Cond.code yX3_walks cX3_walks 2 (some .boolean), Cond.methodLink RX3 123 yX3_neighbours, Cond.instanceMethod yX3_neighbours, Cond.selects RX3 yX3_neighbours yX3_neighbours, Cond.code yX3_neighbours cX3_neighbours 4 (some .int), Cond.methodLink RX3 119 yX3_isNeighbour, Cond.instanceMethod yX3_isNeighbour, Cond.selects RX3 yX3_isNeighbour yX3_isNeighbour, Cond.code yX3_isNeighbour cX3_isNeighbour 3 (some .boolean), Cond.methodLink RX3 116 Lib.Math.abs.name, Cond.static Lib.Math.abs.name, Cond.code Lib.Math.abs.name Lib.Math.abs.code 1 (some .int), Cond.methodLink RX3 151 yX3_sing, Cond.instanceMethod yX3_sing, Cond.selects RX3 yX3_sing yX3_sing, Cond.code yX3_sing cX3_sing 3 none]
def wsX3_stepOn_r3 : List Cond := [Cond.fieldLink RX3 61 "LanternWalkModel" "songs" "I", Cond.fieldLink RX3 31 "LanternWalkModel" "learns" "[I", Cond.fieldLink RX3 25 "LanternWalkModel" "known" "[I", Cond.methodLink RX3 138 yX3_learnt, Cond.instanceMethod yX3_learnt, Cond.selects RX3 yX3_learnt yX3_learnt, Cond.code yX3_learnt cX3_learnt 5 (some .int), Cond.fieldLink RX3 22 "LanternWalkModel" "lengths" "[I", Cond.methodLink RX3 154 yX3_go, Cond.instanceMethod yX3_go, Cond.selects RX3 yX3_go yX3_go, Cond.code yX3_go cX3_go 7 none, Cond.fieldLink RX3 9 "LanternWalkModel" "route" "[I", Cond.methodLink RX3 110 yX3_stretchOf, Cond.instanceMethod yX3_stretchOf, Cond.selects RX3 yX3_stretchOf yX3_stretchOf, Cond.code yX3_stretchOf cX3_stretchOf 3 (some .int), Cond.methodLink RX3 64 yX3_ro, Cond.instanceMethod yX3_ro, Cond.selects RX3 yX3_ro yX3_ro, Cond.code yX3_ro cX3_ro 3 (some .int), Cond.methodLink RX3 72 yX3_places, Cond.instanceMethod yX3_places, Cond.selects RX3 yX3_places yX3_places]
def wsX3_stepOn_r4 : List Cond := [Cond.code yX3_places cX3_places 1 (some .int), Cond.fieldLink RX3 51 "LanternWalkModel" "stretches" "I", Cond.methodLink RX3 141 yX3_at, Cond.instanceMethod yX3_at, Cond.selects RX3 yX3_at yX3_at, Cond.code yX3_at cX3_at 4 (some .int), Cond.methodLink RX3 107 yX3_lets, Cond.instanceMethod yX3_lets, Cond.selects RX3 yX3_lets yX3_lets, Cond.code yX3_lets cX3_lets 2 (some .int), Cond.fieldLink RX3 13 "LanternWalkModel" "stewards" "[I"]
def wsX3_stepOn : List Cond := .code yX3_stepOn cX3_stepOn 5 (some .int) :: ((wsX3_stepOn_r1 ++ (wsX3_stepOn_r2 ++ (wsX3_stepOn_r3 ++ wsX3_stepOn_r4))) ++ wsX30)
def wsX3_pass_r1 : List Cond := [Cond.fieldLink RX3 47 "LanternWalkModel" "thrown" "I", Cond.fieldLink RX3 51 "LanternWalkModel" "stretches" "I", Cond.methodLink RX3 54 yX3_isIn, Cond.static yX3_isIn, Cond.initialized RX3, Cond.code yX3_isIn cX3_isIn 3 (some .boolean), Cond.methodLink RX3 68 yX3_fail, Cond.instanceMethod yX3_fail, Cond.selects RX3 yX3_fail yX3_fail, Cond.code yX3_fail cX3_fail 2 (some .int), Cond.methodLink RX3 157 yX3_stepOn, Cond.instanceMethod yX3_stepOn, Cond.selects RX3 yX3_stepOn yX3_stepOn, Cond.code yX3_stepOn cX3_stepOn 5 (some .int), Cond.fieldLink RX3 16 "LanternWalkModel" "wind" "[I", Cond.fieldLink RX3 28 "LanternWalkModel" "step" "[I", Cond.fieldLink RX3 38 "LanternWalkModel" "through" "[I", Cond.fieldLink RX3 58 "LanternWalkModel" "walkers" "I", Cond.fieldLink RX3 41 "LanternWalkModel" "went" "[Z", Cond.fieldLink RX3 44 "LanternWalkModel" "ahead" "[I", Cond.methodLink RX3 144 yX3_inState, Cond.instanceMethod yX3_inState, Cond.selects RX3 yX3_inState yX3_inState, Cond.code yX3_inState cX3_inState 4 (some .int)]
def wsX3_pass_r2 : List Cond := [Cond.methodLink RX3 89 yX3_pe, Cond.instanceMethod yX3_pe, Cond.selects RX3 yX3_pe yX3_pe, Cond.code yX3_pe cX3_pe 3 (some .int), Cond.fieldLink RX3 19 "LanternWalkModel" "people" "[I", Cond.methodLink RX3 147 yX3_burn, Cond.instanceMethod yX3_burn, Cond.selects RX3 yX3_burn yX3_burn, Cond.code yX3_burn cX3_burn 4 none, Cond.methodLink RX3 135 Lib.Math.max.name, Cond.static Lib.Math.max.name, Cond.initialized "java/lang/Math", Cond.code Lib.Math.max.name Lib.Math.max.code 2 (some .int), Cond.fieldLink RX3 34 "LanternWalkModel" "lights" "[Z", Cond.methodLink RX3 97 yX3_set, Cond.instanceMethod yX3_set, Cond.selects RX3 yX3_set yX3_set, Cond.code yX3_set cX3_set 4 none, Cond.methodLink RX3 104 yX3_walks, Cond.instanceMethod yX3_walks, Cond.selects RX3 yX3_walks yX3_walks, Cond.code yX3_walks cX3_walks 2 (some .boolean), Cond.methodLink RX3 123 yX3_neighbours, Cond.instanceMethod yX3_neighbours]
def wsX3_pass_r3 : List Cond := [Cond.selects RX3 yX3_neighbours yX3_neighbours, Cond.code yX3_neighbours cX3_neighbours 4 (some .int), Cond.methodLink RX3 119 yX3_isNeighbour, Cond.instanceMethod yX3_isNeighbour, Cond.selects RX3 yX3_isNeighbour yX3_isNeighbour, Cond.code yX3_isNeighbour cX3_isNeighbour 3 (some .boolean), Cond.methodLink RX3 116 Lib.Math.abs.name, Cond.static Lib.Math.abs.name, Cond.code Lib.Math.abs.name Lib.Math.abs.code 1 (some .int), Cond.methodLink RX3 151 yX3_sing, Cond.instanceMethod yX3_sing, Cond.selects RX3 yX3_sing yX3_sing, Cond.code yX3_sing cX3_sing 3 none, Cond.fieldLink RX3 61 "LanternWalkModel" "songs" "I", Cond.fieldLink RX3 31 "LanternWalkModel" "learns" "[I", Cond.fieldLink RX3 25 "LanternWalkModel" "known" "[I", Cond.methodLink RX3 138 yX3_learnt, Cond.instanceMethod yX3_learnt, Cond.selects RX3 yX3_learnt yX3_learnt, Cond.code yX3_learnt cX3_learnt 5 (some .int), Cond.fieldLink RX3 22 "LanternWalkModel" "lengths" "[I", Cond.methodLink RX3 154 yX3_go, Cond.instanceMethod yX3_go, Cond.selects RX3 yX3_go yX3_go]
def wsX3_pass_r4 : List Cond := [Cond.code yX3_go cX3_go 7 none, Cond.fieldLink RX3 9 "LanternWalkModel" "route" "[I", Cond.methodLink RX3 110 yX3_stretchOf, Cond.instanceMethod yX3_stretchOf, Cond.selects RX3 yX3_stretchOf yX3_stretchOf, Cond.code yX3_stretchOf cX3_stretchOf 3 (some .int), Cond.methodLink RX3 64 yX3_ro, Cond.instanceMethod yX3_ro, Cond.selects RX3 yX3_ro yX3_ro, Cond.code yX3_ro cX3_ro 3 (some .int), Cond.methodLink RX3 72 yX3_places, Cond.instanceMethod yX3_places, Cond.selects RX3 yX3_places yX3_places, Cond.code yX3_places cX3_places 1 (some .int), Cond.methodLink RX3 141 yX3_at, Cond.instanceMethod yX3_at, Cond.selects RX3 yX3_at yX3_at, Cond.code yX3_at cX3_at 4 (some .int), Cond.methodLink RX3 107 yX3_lets, Cond.instanceMethod yX3_lets, Cond.selects RX3 yX3_lets yX3_lets, Cond.code yX3_lets cX3_lets 2 (some .int), Cond.fieldLink RX3 13 "LanternWalkModel" "stewards" "[I"]
def wsX3_pass : List Cond := .code yX3_pass cX3_pass 4 (some .int) :: ((wsX3_pass_r1 ++ (wsX3_pass_r2 ++ (wsX3_pass_r3 ++ wsX3_pass_r4))) ++ wsX30)
def wsX3_burning : List Cond := .code yX3_burning cX3_burning 3 (some .int) :: ([.fieldLink RX3 58 "LanternWalkModel" "walkers" "I", .methodLink RX3 104 yX3_walks, .instanceMethod yX3_walks, .selects RX3 yX3_walks yX3_walks, .initialized RX3, .code yX3_walks cX3_walks 2 (some .boolean), .methodLink RX3 89 yX3_pe, .instanceMethod yX3_pe, .selects RX3 yX3_pe yX3_pe, .code yX3_pe cX3_pe 3 (some .int), .fieldLink RX3 19 "LanternWalkModel" "people" "[I"] ++ wsX30)
def wsX3_end : List Cond := .code yX3_end cX3_end 4 (some .int) :: ([.fieldLink RX3 58 "LanternWalkModel" "walkers" "I", .methodLink RX3 104 yX3_walks, .instanceMethod yX3_walks, .selects RX3 yX3_walks yX3_walks, .initialized RX3, .code yX3_walks cX3_walks 2 (some .boolean), .methodLink RX3 89 yX3_pe, .instanceMethod yX3_pe, .selects RX3 yX3_pe yX3_pe, .code yX3_pe cX3_pe 3 (some .int), .fieldLink RX3 19 "LanternWalkModel" "people" "[I"] ++ wsX30)
def wsX3_counted_r1 : List Cond := [Cond.fieldLink RX3 28 "LanternWalkModel" "step" "[I", Cond.fieldLink RX3 51 "LanternWalkModel" "stretches" "I", Cond.fieldLink RX3 58 "LanternWalkModel" "walkers" "I", Cond.fieldLink RX3 61 "LanternWalkModel" "songs" "I", Cond.methodLink RX3 72 yX3_places, Cond.instanceMethod yX3_places, Cond.selects RX3 yX3_places yX3_places, Cond.initialized RX3, Cond.code yX3_places cX3_places 1 (some .int), Cond.methodLink RX3 64 yX3_ro, Cond.instanceMethod yX3_ro, Cond.selects RX3 yX3_ro yX3_ro, Cond.code yX3_ro cX3_ro 3 (some .int), Cond.fieldLink RX3 9 "LanternWalkModel" "route" "[I", Cond.methodLink RX3 144 yX3_inState, Cond.instanceMethod yX3_inState, Cond.selects RX3 yX3_inState yX3_inState, Cond.code yX3_inState cX3_inState 4 (some .int), Cond.methodLink RX3 89 yX3_pe, Cond.instanceMethod yX3_pe, Cond.selects RX3 yX3_pe yX3_pe, Cond.code yX3_pe cX3_pe 3 (some .int), Cond.fieldLink RX3 19 "LanternWalkModel" "people" "[I", Cond.methodLink RX3 160 yX3_burning]
def wsX3_counted_r2 : List Cond := [Cond.instanceMethod yX3_burning, Cond.selects RX3 yX3_burning yX3_burning, Cond.code yX3_burning cX3_burning 3 (some .int), Cond.methodLink RX3 104 yX3_walks, Cond.instanceMethod yX3_walks, Cond.selects RX3 yX3_walks yX3_walks, Cond.code yX3_walks cX3_walks 2 (some .boolean), Cond.methodLink RX3 163 yX3_end, Cond.instanceMethod yX3_end, Cond.selects RX3 yX3_end yX3_end, Cond.code yX3_end cX3_end 4 (some .int)]
def wsX3_counted : List Cond := .code yX3_counted cX3_counted 2 (some .int) :: ((wsX3_counted_r1 ++ wsX3_counted_r2) ++ wsX30)
def wsX3_count_r1 : List Cond := [Cond.fieldLink RX3 47 "LanternWalkModel" "thrown" "I", Cond.methodLink RX3 54 yX3_isIn, Cond.static yX3_isIn, Cond.initialized RX3, Cond.code yX3_isIn cX3_isIn 3 (some .boolean), Cond.methodLink RX3 167 yX3_counted, Cond.instanceMethod yX3_counted, Cond.selects RX3 yX3_counted yX3_counted, Cond.code yX3_counted cX3_counted 2 (some .int), Cond.fieldLink RX3 28 "LanternWalkModel" "step" "[I", Cond.fieldLink RX3 51 "LanternWalkModel" "stretches" "I", Cond.fieldLink RX3 58 "LanternWalkModel" "walkers" "I", Cond.fieldLink RX3 61 "LanternWalkModel" "songs" "I", Cond.methodLink RX3 72 yX3_places, Cond.instanceMethod yX3_places, Cond.selects RX3 yX3_places yX3_places, Cond.code yX3_places cX3_places 1 (some .int), Cond.methodLink RX3 64 yX3_ro, Cond.instanceMethod yX3_ro, Cond.selects RX3 yX3_ro yX3_ro, Cond.code yX3_ro cX3_ro 3 (some .int), Cond.fieldLink RX3 9 "LanternWalkModel" "route" "[I", Cond.methodLink RX3 144 yX3_inState, Cond.instanceMethod yX3_inState]
def wsX3_count_r2 : List Cond := [Cond.selects RX3 yX3_inState yX3_inState, Cond.code yX3_inState cX3_inState 4 (some .int), Cond.methodLink RX3 89 yX3_pe, Cond.instanceMethod yX3_pe, Cond.selects RX3 yX3_pe yX3_pe, Cond.code yX3_pe cX3_pe 3 (some .int), Cond.fieldLink RX3 19 "LanternWalkModel" "people" "[I", Cond.methodLink RX3 160 yX3_burning, Cond.instanceMethod yX3_burning, Cond.selects RX3 yX3_burning yX3_burning, Cond.code yX3_burning cX3_burning 3 (some .int), Cond.methodLink RX3 104 yX3_walks, Cond.instanceMethod yX3_walks, Cond.selects RX3 yX3_walks yX3_walks, Cond.code yX3_walks cX3_walks 2 (some .boolean), Cond.methodLink RX3 163 yX3_end, Cond.instanceMethod yX3_end, Cond.selects RX3 yX3_end yX3_end, Cond.code yX3_end cX3_end 4 (some .int), Cond.methodLink RX3 68 yX3_fail, Cond.instanceMethod yX3_fail, Cond.selects RX3 yX3_fail yX3_fail, Cond.code yX3_fail cX3_fail 2 (some .int)]
def wsX3_count : List Cond := .code yX3_count cX3_count 2 (some .int) :: ((wsX3_count_r1 ++ wsX3_count_r2) ++ wsX30)
def wsX3_kept : List Cond := .code yX3_kept cX3_kept 1 (some (.array (.array .int))) :: ([.classLink RX3 170 "[I", .fieldLink RX3 9 "LanternWalkModel" "route" "[I", .methodLink RX3 171 ⟨"[I", "clone", "()Ljava/lang/Object;"⟩, .sameMethod "[I" "java/lang/Object" "clone" "()Ljava/lang/Object;", .native ⟨"java/lang/Object", "clone", "()Ljava/lang/Object;"⟩, .instanceMethod ⟨"java/lang/Object", "clone", "()Ljava/lang/Object;"⟩, .selects "[I" ⟨"[I", "clone", "()Ljava/lang/Object;"⟩ ⟨"java/lang/Object", "clone", "()Ljava/lang/Object;"⟩, .fieldLink RX3 13 "LanternWalkModel" "stewards" "[I", .fieldLink RX3 19 "LanternWalkModel" "people" "[I", .fieldLink RX3 25 "LanternWalkModel" "known" "[I", .fieldLink RX3 28 "LanternWalkModel" "step" "[I"] ++ wsX30)
def wsX3_bringBack : List Cond := .code yX3_bringBack cX3_bringBack 4 none :: ([.classLink RX3 170 "[I", .fieldLink RX3 9 "LanternWalkModel" "route" "[I", .fieldLink RX3 13 "LanternWalkModel" "stewards" "[I", .fieldLink RX3 19 "LanternWalkModel" "people" "[I", .fieldLink RX3 25 "LanternWalkModel" "known" "[I", .fieldLink RX3 28 "LanternWalkModel" "step" "[I", .methodLink RX3 76 arraycopyName, .native arraycopyName, .static arraycopyName, .initialized "java/lang/System"] ++ wsX30)
def wsX3_pairs : List Cond := .code yX3_pairs cX3_pairs 6 (some .int) :: ([.fieldLink RX3 25 "LanternWalkModel" "known" "[I"] ++ wsX30)
def wsX3_foresee_r1 : List Cond := [Cond.fieldLink RX3 47 "LanternWalkModel" "thrown" "I", Cond.fieldLink RX3 51 "LanternWalkModel" "stretches" "I", Cond.methodLink RX3 54 yX3_isIn, Cond.static yX3_isIn, Cond.initialized RX3, Cond.code yX3_isIn cX3_isIn 3 (some .boolean), Cond.methodLink RX3 68 yX3_fail, Cond.instanceMethod yX3_fail, Cond.selects RX3 yX3_fail yX3_fail, Cond.code yX3_fail cX3_fail 2 (some .int), Cond.methodLink RX3 175 yX3_kept, Cond.instanceMethod yX3_kept, Cond.selects RX3 yX3_kept yX3_kept, Cond.code yX3_kept cX3_kept 1 (some (.array (.array .int))), Cond.classLink RX3 170 "[I", Cond.fieldLink RX3 9 "LanternWalkModel" "route" "[I", Cond.methodLink RX3 171 ⟨"[I", "clone", "()Ljava/lang/Object;"⟩, Cond.sameMethod "[I" "java/lang/Object" "clone" "()Ljava/lang/Object;", Cond.native ⟨"java/lang/Object", "clone", "()Ljava/lang/Object;"⟩, Cond.instanceMethod ⟨"java/lang/Object", "clone", "()Ljava/lang/Object;"⟩, Cond.selects "[I" ⟨"[I", "clone", "()Ljava/lang/Object;"⟩ ⟨"java/lang/Object", "clone", "()Ljava/lang/Object;"⟩, Cond.fieldLink RX3 13 "LanternWalkModel" "stewards" "[I", Cond.fieldLink RX3 19 "LanternWalkModel" "people" "[I", Cond.fieldLink RX3 25 "LanternWalkModel" "known" "[I"]
def wsX3_foresee_r2 : List Cond := [Cond.fieldLink RX3 28 "LanternWalkModel" "step" "[I", Cond.methodLink RX3 157 yX3_stepOn, Cond.instanceMethod yX3_stepOn, Cond.selects RX3 yX3_stepOn yX3_stepOn, Cond.code yX3_stepOn cX3_stepOn 5 (some .int), Cond.fieldLink RX3 16 "LanternWalkModel" "wind" "[I", Cond.fieldLink RX3 38 "LanternWalkModel" "through" "[I", Cond.fieldLink RX3 58 "LanternWalkModel" "walkers" "I", Cond.fieldLink RX3 41 "LanternWalkModel" "went" "[Z", Cond.fieldLink RX3 44 "LanternWalkModel" "ahead" "[I", Cond.methodLink RX3 144 yX3_inState, Cond.instanceMethod yX3_inState, Cond.selects RX3 yX3_inState yX3_inState, Cond.code yX3_inState cX3_inState 4 (some .int), Cond.methodLink RX3 89 yX3_pe, Cond.instanceMethod yX3_pe, Cond.selects RX3 yX3_pe yX3_pe, Cond.code yX3_pe cX3_pe 3 (some .int), Cond.methodLink RX3 147 yX3_burn, Cond.instanceMethod yX3_burn, Cond.selects RX3 yX3_burn yX3_burn, Cond.code yX3_burn cX3_burn 4 none, Cond.methodLink RX3 135 Lib.Math.max.name, Cond.static Lib.Math.max.name]
def wsX3_foresee_r3 : List Cond := [Cond.initialized "java/lang/Math", Cond.code Lib.Math.max.name Lib.Math.max.code 2 (some .int), Cond.fieldLink RX3 34 "LanternWalkModel" "lights" "[Z", Cond.methodLink RX3 97 yX3_set, Cond.instanceMethod yX3_set, Cond.selects RX3 yX3_set yX3_set, Cond.code yX3_set cX3_set 4 none, Cond.methodLink RX3 104 yX3_walks, Cond.instanceMethod yX3_walks, Cond.selects RX3 yX3_walks yX3_walks, Cond.code yX3_walks cX3_walks 2 (some .boolean), Cond.methodLink RX3 123 yX3_neighbours, Cond.instanceMethod yX3_neighbours, Cond.selects RX3 yX3_neighbours yX3_neighbours, Cond.code yX3_neighbours cX3_neighbours 4 (some .int), Cond.methodLink RX3 119 yX3_isNeighbour, Cond.instanceMethod yX3_isNeighbour, Cond.selects RX3 yX3_isNeighbour yX3_isNeighbour, Cond.code yX3_isNeighbour cX3_isNeighbour 3 (some .boolean), Cond.methodLink RX3 116 Lib.Math.abs.name, Cond.static Lib.Math.abs.name, Cond.code Lib.Math.abs.name Lib.Math.abs.code 1 (some .int), Cond.methodLink RX3 151 yX3_sing, Cond.instanceMethod yX3_sing]
def wsX3_foresee_r4 : List Cond := [Cond.selects RX3 yX3_sing yX3_sing, Cond.code yX3_sing cX3_sing 3 none, Cond.fieldLink RX3 61 "LanternWalkModel" "songs" "I", Cond.fieldLink RX3 31 "LanternWalkModel" "learns" "[I", Cond.methodLink RX3 138 yX3_learnt, Cond.instanceMethod yX3_learnt, Cond.selects RX3 yX3_learnt yX3_learnt, Cond.code yX3_learnt cX3_learnt 5 (some .int), Cond.fieldLink RX3 22 "LanternWalkModel" "lengths" "[I", Cond.methodLink RX3 154 yX3_go, Cond.instanceMethod yX3_go, Cond.selects RX3 yX3_go yX3_go, Cond.code yX3_go cX3_go 7 none, Cond.methodLink RX3 110 yX3_stretchOf, Cond.instanceMethod yX3_stretchOf, Cond.selects RX3 yX3_stretchOf yX3_stretchOf, Cond.code yX3_stretchOf cX3_stretchOf 3 (some .int), Cond.methodLink RX3 64 yX3_ro, Cond.instanceMethod yX3_ro, Cond.selects RX3 yX3_ro yX3_ro, Cond.code yX3_ro cX3_ro 3 (some .int), Cond.methodLink RX3 72 yX3_places, Cond.instanceMethod yX3_places, Cond.selects RX3 yX3_places yX3_places]
def wsX3_foresee_r5 : List Cond := [Cond.code yX3_places cX3_places 1 (some .int), Cond.methodLink RX3 141 yX3_at, Cond.instanceMethod yX3_at, Cond.selects RX3 yX3_at yX3_at, Cond.code yX3_at cX3_at 4 (some .int), Cond.methodLink RX3 107 yX3_lets, Cond.instanceMethod yX3_lets, Cond.selects RX3 yX3_lets yX3_lets, Cond.code yX3_lets cX3_lets 2 (some .int), Cond.methodLink RX3 160 yX3_burning, Cond.instanceMethod yX3_burning, Cond.selects RX3 yX3_burning yX3_burning, Cond.code yX3_burning cX3_burning 3 (some .int), Cond.methodLink RX3 179 yX3_pairs, Cond.instanceMethod yX3_pairs, Cond.selects RX3 yX3_pairs yX3_pairs, Cond.code yX3_pairs cX3_pairs 6 (some .int), Cond.methodLink RX3 182 yX3_bringBack, Cond.instanceMethod yX3_bringBack, Cond.selects RX3 yX3_bringBack yX3_bringBack, Cond.code yX3_bringBack cX3_bringBack 4 none, Cond.methodLink RX3 76 arraycopyName, Cond.native arraycopyName, Cond.static arraycopyName]
def wsX3_foresee_r6 : List Cond := [Cond.initialized "java/lang/System"]
def wsX3_foresee : List Cond := .code yX3_foresee cX3_foresee 5 (some .int) :: ((wsX3_foresee_r1 ++ (wsX3_foresee_r2 ++ (wsX3_foresee_r3 ++ (wsX3_foresee_r4 ++ (wsX3_foresee_r5 ++ wsX3_foresee_r6))))) ++ wsX30)
def wsX3_home_r1 : List Cond := [Cond.fieldLink RX3 47 "LanternWalkModel" "thrown" "I", Cond.fieldLink RX3 51 "LanternWalkModel" "stretches" "I", Cond.methodLink RX3 86 yX3_isWalker, Cond.instanceMethod yX3_isWalker, Cond.selects RX3 yX3_isWalker yX3_isWalker, Cond.initialized RX3, Cond.code yX3_isWalker cX3_isWalker 2 (some .boolean), Cond.fieldLink RX3 58 "LanternWalkModel" "walkers" "I", Cond.methodLink RX3 54 yX3_isIn, Cond.static yX3_isIn, Cond.code yX3_isIn cX3_isIn 3 (some .boolean), Cond.methodLink RX3 68 yX3_fail, Cond.instanceMethod yX3_fail, Cond.selects RX3 yX3_fail yX3_fail, Cond.code yX3_fail cX3_fail 2 (some .int), Cond.methodLink RX3 89 yX3_pe, Cond.instanceMethod yX3_pe, Cond.selects RX3 yX3_pe yX3_pe, Cond.code yX3_pe cX3_pe 3 (some .int), Cond.fieldLink RX3 19 "LanternWalkModel" "people" "[I", Cond.methodLink RX3 175 yX3_kept, Cond.instanceMethod yX3_kept, Cond.selects RX3 yX3_kept yX3_kept, Cond.code yX3_kept cX3_kept 1 (some (.array (.array .int)))]
def wsX3_home_r2 : List Cond := [Cond.classLink RX3 170 "[I", Cond.fieldLink RX3 9 "LanternWalkModel" "route" "[I", Cond.methodLink RX3 171 ⟨"[I", "clone", "()Ljava/lang/Object;"⟩, Cond.sameMethod "[I" "java/lang/Object" "clone" "()Ljava/lang/Object;", Cond.native ⟨"java/lang/Object", "clone", "()Ljava/lang/Object;"⟩, Cond.instanceMethod ⟨"java/lang/Object", "clone", "()Ljava/lang/Object;"⟩, Cond.selects "[I" ⟨"[I", "clone", "()Ljava/lang/Object;"⟩ ⟨"java/lang/Object", "clone", "()Ljava/lang/Object;"⟩, Cond.fieldLink RX3 13 "LanternWalkModel" "stewards" "[I", Cond.fieldLink RX3 25 "LanternWalkModel" "known" "[I", Cond.fieldLink RX3 28 "LanternWalkModel" "step" "[I", Cond.methodLink RX3 157 yX3_stepOn, Cond.instanceMethod yX3_stepOn, Cond.selects RX3 yX3_stepOn yX3_stepOn, Cond.code yX3_stepOn cX3_stepOn 5 (some .int), Cond.fieldLink RX3 16 "LanternWalkModel" "wind" "[I", Cond.fieldLink RX3 38 "LanternWalkModel" "through" "[I", Cond.fieldLink RX3 41 "LanternWalkModel" "went" "[Z", Cond.fieldLink RX3 44 "LanternWalkModel" "ahead" "[I", Cond.methodLink RX3 144 yX3_inState, Cond.instanceMethod yX3_inState, Cond.selects RX3 yX3_inState yX3_inState, Cond.code yX3_inState cX3_inState 4 (some .int), Cond.methodLink RX3 147 yX3_burn, Cond.instanceMethod yX3_burn]
def wsX3_home_r3 : List Cond := [Cond.selects RX3 yX3_burn yX3_burn, Cond.code yX3_burn cX3_burn 4 none, Cond.methodLink RX3 135 Lib.Math.max.name, Cond.static Lib.Math.max.name, Cond.initialized "java/lang/Math", Cond.code Lib.Math.max.name Lib.Math.max.code 2 (some .int), Cond.fieldLink RX3 34 "LanternWalkModel" "lights" "[Z", Cond.methodLink RX3 97 yX3_set, Cond.instanceMethod yX3_set, Cond.selects RX3 yX3_set yX3_set, Cond.code yX3_set cX3_set 4 none, Cond.methodLink RX3 104 yX3_walks, Cond.instanceMethod yX3_walks, Cond.selects RX3 yX3_walks yX3_walks, Cond.code yX3_walks cX3_walks 2 (some .boolean), Cond.methodLink RX3 123 yX3_neighbours, Cond.instanceMethod yX3_neighbours, Cond.selects RX3 yX3_neighbours yX3_neighbours, Cond.code yX3_neighbours cX3_neighbours 4 (some .int), Cond.methodLink RX3 119 yX3_isNeighbour, Cond.instanceMethod yX3_isNeighbour, Cond.selects RX3 yX3_isNeighbour yX3_isNeighbour, Cond.code yX3_isNeighbour cX3_isNeighbour 3 (some .boolean), Cond.methodLink RX3 116 Lib.Math.abs.name]
def wsX3_home_r4 : List Cond := [Cond.static Lib.Math.abs.name, Cond.code Lib.Math.abs.name Lib.Math.abs.code 1 (some .int), Cond.methodLink RX3 151 yX3_sing, Cond.instanceMethod yX3_sing, Cond.selects RX3 yX3_sing yX3_sing, Cond.code yX3_sing cX3_sing 3 none, Cond.fieldLink RX3 61 "LanternWalkModel" "songs" "I", Cond.fieldLink RX3 31 "LanternWalkModel" "learns" "[I", Cond.methodLink RX3 138 yX3_learnt, Cond.instanceMethod yX3_learnt, Cond.selects RX3 yX3_learnt yX3_learnt, Cond.code yX3_learnt cX3_learnt 5 (some .int), Cond.fieldLink RX3 22 "LanternWalkModel" "lengths" "[I", Cond.methodLink RX3 154 yX3_go, Cond.instanceMethod yX3_go, Cond.selects RX3 yX3_go yX3_go, Cond.code yX3_go cX3_go 7 none, Cond.methodLink RX3 110 yX3_stretchOf, Cond.instanceMethod yX3_stretchOf, Cond.selects RX3 yX3_stretchOf yX3_stretchOf, Cond.code yX3_stretchOf cX3_stretchOf 3 (some .int), Cond.methodLink RX3 64 yX3_ro, Cond.instanceMethod yX3_ro, Cond.selects RX3 yX3_ro yX3_ro]
def wsX3_home_r5 : List Cond := [Cond.code yX3_ro cX3_ro 3 (some .int), Cond.methodLink RX3 72 yX3_places, Cond.instanceMethod yX3_places, Cond.selects RX3 yX3_places yX3_places, Cond.code yX3_places cX3_places 1 (some .int), Cond.methodLink RX3 141 yX3_at, Cond.instanceMethod yX3_at, Cond.selects RX3 yX3_at yX3_at, Cond.code yX3_at cX3_at 4 (some .int), Cond.methodLink RX3 107 yX3_lets, Cond.instanceMethod yX3_lets, Cond.selects RX3 yX3_lets yX3_lets, Cond.code yX3_lets cX3_lets 2 (some .int), Cond.methodLink RX3 182 yX3_bringBack, Cond.instanceMethod yX3_bringBack, Cond.selects RX3 yX3_bringBack yX3_bringBack, Cond.code yX3_bringBack cX3_bringBack 4 none, Cond.methodLink RX3 76 arraycopyName, Cond.native arraycopyName, Cond.static arraycopyName, Cond.initialized "java/lang/System"]
def wsX3_home : List Cond := .code yX3_home cX3_home 4 (some .int) :: ((wsX3_home_r1 ++ (wsX3_home_r2 ++ (wsX3_home_r3 ++ (wsX3_home_r4 ++ wsX3_home_r5)))) ++ wsX30)
def wsX3_hears_r1 : List Cond := [Cond.fieldLink RX3 47 "LanternWalkModel" "thrown" "I", Cond.fieldLink RX3 25 "LanternWalkModel" "known" "[I", Cond.fieldLink RX3 51 "LanternWalkModel" "stretches" "I", Cond.methodLink RX3 86 yX3_isWalker, Cond.instanceMethod yX3_isWalker, Cond.selects RX3 yX3_isWalker yX3_isWalker, Cond.initialized RX3, Cond.code yX3_isWalker cX3_isWalker 2 (some .boolean), Cond.fieldLink RX3 58 "LanternWalkModel" "walkers" "I", Cond.methodLink RX3 54 yX3_isIn, Cond.static yX3_isIn, Cond.code yX3_isIn cX3_isIn 3 (some .boolean), Cond.methodLink RX3 101 yX3_isSong, Cond.instanceMethod yX3_isSong, Cond.selects RX3 yX3_isSong yX3_isSong, Cond.code yX3_isSong cX3_isSong 2 (some .boolean), Cond.fieldLink RX3 61 "LanternWalkModel" "songs" "I", Cond.methodLink RX3 68 yX3_fail, Cond.instanceMethod yX3_fail, Cond.selects RX3 yX3_fail yX3_fail, Cond.code yX3_fail cX3_fail 2 (some .int), Cond.methodLink RX3 175 yX3_kept, Cond.instanceMethod yX3_kept, Cond.selects RX3 yX3_kept yX3_kept]
def wsX3_hears_r2 : List Cond := [Cond.code yX3_kept cX3_kept 1 (some (.array (.array .int))), Cond.classLink RX3 170 "[I", Cond.fieldLink RX3 9 "LanternWalkModel" "route" "[I", Cond.methodLink RX3 171 ⟨"[I", "clone", "()Ljava/lang/Object;"⟩, Cond.sameMethod "[I" "java/lang/Object" "clone" "()Ljava/lang/Object;", Cond.native ⟨"java/lang/Object", "clone", "()Ljava/lang/Object;"⟩, Cond.instanceMethod ⟨"java/lang/Object", "clone", "()Ljava/lang/Object;"⟩, Cond.selects "[I" ⟨"[I", "clone", "()Ljava/lang/Object;"⟩ ⟨"java/lang/Object", "clone", "()Ljava/lang/Object;"⟩, Cond.fieldLink RX3 13 "LanternWalkModel" "stewards" "[I", Cond.fieldLink RX3 19 "LanternWalkModel" "people" "[I", Cond.fieldLink RX3 28 "LanternWalkModel" "step" "[I", Cond.methodLink RX3 157 yX3_stepOn, Cond.instanceMethod yX3_stepOn, Cond.selects RX3 yX3_stepOn yX3_stepOn, Cond.code yX3_stepOn cX3_stepOn 5 (some .int), Cond.fieldLink RX3 16 "LanternWalkModel" "wind" "[I", Cond.fieldLink RX3 38 "LanternWalkModel" "through" "[I", Cond.fieldLink RX3 41 "LanternWalkModel" "went" "[Z", Cond.fieldLink RX3 44 "LanternWalkModel" "ahead" "[I", Cond.methodLink RX3 144 yX3_inState, Cond.instanceMethod yX3_inState, Cond.selects RX3 yX3_inState yX3_inState, Cond.code yX3_inState cX3_inState 4 (some .int), Cond.methodLink RX3 89 yX3_pe]
def wsX3_hears_r3 : List Cond := [Cond.instanceMethod yX3_pe, Cond.selects RX3 yX3_pe yX3_pe, Cond.code yX3_pe cX3_pe 3 (some .int), Cond.methodLink RX3 147 yX3_burn, Cond.instanceMethod yX3_burn, Cond.selects RX3 yX3_burn yX3_burn, Cond.code yX3_burn cX3_burn 4 none, Cond.methodLink RX3 135 Lib.Math.max.name, Cond.static Lib.Math.max.name, Cond.initialized "java/lang/Math", Cond.code Lib.Math.max.name Lib.Math.max.code 2 (some .int), Cond.fieldLink RX3 34 "LanternWalkModel" "lights" "[Z", Cond.methodLink RX3 97 yX3_set, Cond.instanceMethod yX3_set, Cond.selects RX3 yX3_set yX3_set, Cond.code yX3_set cX3_set 4 none, Cond.methodLink RX3 104 yX3_walks, Cond.instanceMethod yX3_walks, Cond.selects RX3 yX3_walks yX3_walks, Cond.code yX3_walks cX3_walks 2 (some .boolean), Cond.methodLink RX3 123 yX3_neighbours, Cond.instanceMethod yX3_neighbours, Cond.selects RX3 yX3_neighbours yX3_neighbours, Cond.code yX3_neighbours cX3_neighbours 4 (some .int)]
def wsX3_hears_r4 : List Cond := [Cond.methodLink RX3 119 yX3_isNeighbour, Cond.instanceMethod yX3_isNeighbour, Cond.selects RX3 yX3_isNeighbour yX3_isNeighbour, Cond.code yX3_isNeighbour cX3_isNeighbour 3 (some .boolean), Cond.methodLink RX3 116 Lib.Math.abs.name, Cond.static Lib.Math.abs.name, Cond.code Lib.Math.abs.name Lib.Math.abs.code 1 (some .int), Cond.methodLink RX3 151 yX3_sing, Cond.instanceMethod yX3_sing, Cond.selects RX3 yX3_sing yX3_sing, Cond.code yX3_sing cX3_sing 3 none, Cond.fieldLink RX3 31 "LanternWalkModel" "learns" "[I", Cond.methodLink RX3 138 yX3_learnt, Cond.instanceMethod yX3_learnt, Cond.selects RX3 yX3_learnt yX3_learnt, Cond.code yX3_learnt cX3_learnt 5 (some .int), Cond.fieldLink RX3 22 "LanternWalkModel" "lengths" "[I", Cond.methodLink RX3 154 yX3_go, Cond.instanceMethod yX3_go, Cond.selects RX3 yX3_go yX3_go, Cond.code yX3_go cX3_go 7 none, Cond.methodLink RX3 110 yX3_stretchOf, Cond.instanceMethod yX3_stretchOf, Cond.selects RX3 yX3_stretchOf yX3_stretchOf]
def wsX3_hears_r5 : List Cond := [Cond.code yX3_stretchOf cX3_stretchOf 3 (some .int), Cond.methodLink RX3 64 yX3_ro, Cond.instanceMethod yX3_ro, Cond.selects RX3 yX3_ro yX3_ro, Cond.code yX3_ro cX3_ro 3 (some .int), Cond.methodLink RX3 72 yX3_places, Cond.instanceMethod yX3_places, Cond.selects RX3 yX3_places yX3_places, Cond.code yX3_places cX3_places 1 (some .int), Cond.methodLink RX3 141 yX3_at, Cond.instanceMethod yX3_at, Cond.selects RX3 yX3_at yX3_at, Cond.code yX3_at cX3_at 4 (some .int), Cond.methodLink RX3 107 yX3_lets, Cond.instanceMethod yX3_lets, Cond.selects RX3 yX3_lets yX3_lets, Cond.code yX3_lets cX3_lets 2 (some .int), Cond.methodLink RX3 182 yX3_bringBack, Cond.instanceMethod yX3_bringBack, Cond.selects RX3 yX3_bringBack yX3_bringBack, Cond.code yX3_bringBack cX3_bringBack 4 none, Cond.methodLink RX3 76 arraycopyName, Cond.native arraycopyName, Cond.static arraycopyName]
def wsX3_hears_r6 : List Cond := [Cond.initialized "java/lang/System"]
def wsX3_hears : List Cond := .code yX3_hears cX3_hears 6 (some .int) :: ((wsX3_hears_r1 ++ (wsX3_hears_r2 ++ (wsX3_hears_r3 ++ (wsX3_hears_r4 ++ (wsX3_hears_r5 ++ wsX3_hears_r6))))) ++ wsX30)
def wsX3_advise_r1 : List Cond := [Cond.fieldLink RX3 47 "LanternWalkModel" "thrown" "I", Cond.fieldLink RX3 51 "LanternWalkModel" "stretches" "I", Cond.fieldLink RX3 13 "LanternWalkModel" "stewards" "[I", Cond.methodLink RX3 54 yX3_isIn, Cond.static yX3_isIn, Cond.initialized RX3, Cond.code yX3_isIn cX3_isIn 3 (some .boolean), Cond.methodLink RX3 68 yX3_fail, Cond.instanceMethod yX3_fail, Cond.selects RX3 yX3_fail yX3_fail, Cond.code yX3_fail cX3_fail 2 (some .int), Cond.methodLink RX3 175 yX3_kept, Cond.instanceMethod yX3_kept, Cond.selects RX3 yX3_kept yX3_kept, Cond.code yX3_kept cX3_kept 1 (some (.array (.array .int))), Cond.classLink RX3 170 "[I", Cond.fieldLink RX3 9 "LanternWalkModel" "route" "[I", Cond.methodLink RX3 171 ⟨"[I", "clone", "()Ljava/lang/Object;"⟩, Cond.sameMethod "[I" "java/lang/Object" "clone" "()Ljava/lang/Object;", Cond.native ⟨"java/lang/Object", "clone", "()Ljava/lang/Object;"⟩, Cond.instanceMethod ⟨"java/lang/Object", "clone", "()Ljava/lang/Object;"⟩, Cond.selects "[I" ⟨"[I", "clone", "()Ljava/lang/Object;"⟩ ⟨"java/lang/Object", "clone", "()Ljava/lang/Object;"⟩, Cond.fieldLink RX3 19 "LanternWalkModel" "people" "[I", Cond.fieldLink RX3 25 "LanternWalkModel" "known" "[I"]
def wsX3_advise_r2 : List Cond := [Cond.fieldLink RX3 28 "LanternWalkModel" "step" "[I", Cond.methodLink RX3 157 yX3_stepOn, Cond.instanceMethod yX3_stepOn, Cond.selects RX3 yX3_stepOn yX3_stepOn, Cond.code yX3_stepOn cX3_stepOn 5 (some .int), Cond.fieldLink RX3 16 "LanternWalkModel" "wind" "[I", Cond.fieldLink RX3 38 "LanternWalkModel" "through" "[I", Cond.fieldLink RX3 58 "LanternWalkModel" "walkers" "I", Cond.fieldLink RX3 41 "LanternWalkModel" "went" "[Z", Cond.fieldLink RX3 44 "LanternWalkModel" "ahead" "[I", Cond.methodLink RX3 144 yX3_inState, Cond.instanceMethod yX3_inState, Cond.selects RX3 yX3_inState yX3_inState, Cond.code yX3_inState cX3_inState 4 (some .int), Cond.methodLink RX3 89 yX3_pe, Cond.instanceMethod yX3_pe, Cond.selects RX3 yX3_pe yX3_pe, Cond.code yX3_pe cX3_pe 3 (some .int), Cond.methodLink RX3 147 yX3_burn, Cond.instanceMethod yX3_burn, Cond.selects RX3 yX3_burn yX3_burn, Cond.code yX3_burn cX3_burn 4 none, Cond.methodLink RX3 135 Lib.Math.max.name, Cond.static Lib.Math.max.name]
def wsX3_advise_r3 : List Cond := [Cond.initialized "java/lang/Math", Cond.code Lib.Math.max.name Lib.Math.max.code 2 (some .int), Cond.fieldLink RX3 34 "LanternWalkModel" "lights" "[Z", Cond.methodLink RX3 97 yX3_set, Cond.instanceMethod yX3_set, Cond.selects RX3 yX3_set yX3_set, Cond.code yX3_set cX3_set 4 none, Cond.methodLink RX3 104 yX3_walks, Cond.instanceMethod yX3_walks, Cond.selects RX3 yX3_walks yX3_walks, Cond.code yX3_walks cX3_walks 2 (some .boolean), Cond.methodLink RX3 123 yX3_neighbours, Cond.instanceMethod yX3_neighbours, Cond.selects RX3 yX3_neighbours yX3_neighbours, Cond.code yX3_neighbours cX3_neighbours 4 (some .int), Cond.methodLink RX3 119 yX3_isNeighbour, Cond.instanceMethod yX3_isNeighbour, Cond.selects RX3 yX3_isNeighbour yX3_isNeighbour, Cond.code yX3_isNeighbour cX3_isNeighbour 3 (some .boolean), Cond.methodLink RX3 116 Lib.Math.abs.name, Cond.static Lib.Math.abs.name, Cond.code Lib.Math.abs.name Lib.Math.abs.code 1 (some .int), Cond.methodLink RX3 151 yX3_sing, Cond.instanceMethod yX3_sing]
def wsX3_advise_r4 : List Cond := [Cond.selects RX3 yX3_sing yX3_sing, Cond.code yX3_sing cX3_sing 3 none, Cond.fieldLink RX3 61 "LanternWalkModel" "songs" "I", Cond.fieldLink RX3 31 "LanternWalkModel" "learns" "[I", Cond.methodLink RX3 138 yX3_learnt, Cond.instanceMethod yX3_learnt, Cond.selects RX3 yX3_learnt yX3_learnt, Cond.code yX3_learnt cX3_learnt 5 (some .int), Cond.fieldLink RX3 22 "LanternWalkModel" "lengths" "[I", Cond.methodLink RX3 154 yX3_go, Cond.instanceMethod yX3_go, Cond.selects RX3 yX3_go yX3_go, Cond.code yX3_go cX3_go 7 none, Cond.methodLink RX3 110 yX3_stretchOf, Cond.instanceMethod yX3_stretchOf, Cond.selects RX3 yX3_stretchOf yX3_stretchOf, Cond.code yX3_stretchOf cX3_stretchOf 3 (some .int), Cond.methodLink RX3 64 yX3_ro, Cond.instanceMethod yX3_ro, Cond.selects RX3 yX3_ro yX3_ro, Cond.code yX3_ro cX3_ro 3 (some .int), Cond.methodLink RX3 72 yX3_places, Cond.instanceMethod yX3_places, Cond.selects RX3 yX3_places yX3_places]
def wsX3_advise_r5 : List Cond := [Cond.code yX3_places cX3_places 1 (some .int), Cond.methodLink RX3 141 yX3_at, Cond.instanceMethod yX3_at, Cond.selects RX3 yX3_at yX3_at, Cond.code yX3_at cX3_at 4 (some .int), Cond.methodLink RX3 107 yX3_lets, Cond.instanceMethod yX3_lets, Cond.selects RX3 yX3_lets yX3_lets, Cond.code yX3_lets cX3_lets 2 (some .int), Cond.methodLink RX3 182 yX3_bringBack, Cond.instanceMethod yX3_bringBack, Cond.selects RX3 yX3_bringBack yX3_bringBack, Cond.code yX3_bringBack cX3_bringBack 4 none, Cond.methodLink RX3 76 arraycopyName, Cond.native arraycopyName, Cond.static arraycopyName, Cond.initialized "java/lang/System"]
def wsX3_advise : List Cond := .code yX3_advise cX3_advise 8 (some .int) :: ((wsX3_advise_r1 ++ (wsX3_advise_r2 ++ (wsX3_advise_r3 ++ (wsX3_advise_r4 ++ wsX3_advise_r5)))) ++ wsX30)
def wsX3_light : List Cond := .code yX3_light cX3_light 1 (some .double) :: ([.fieldLink RX3 47 "LanternWalkModel" "thrown" "I", .methodLink RX3 144 yX3_inState, .instanceMethod yX3_inState, .selects RX3 yX3_inState yX3_inState, .initialized RX3, .code yX3_inState cX3_inState 4 (some .int), .fieldLink RX3 58 "LanternWalkModel" "walkers" "I", .methodLink RX3 89 yX3_pe, .instanceMethod yX3_pe, .selects RX3 yX3_pe yX3_pe, .code yX3_pe cX3_pe 3 (some .int), .fieldLink RX3 19 "LanternWalkModel" "people" "[I", .methodLink RX3 160 yX3_burning, .instanceMethod yX3_burning, .selects RX3 yX3_burning yX3_burning, .code yX3_burning cX3_burning 3 (some .int), .methodLink RX3 104 yX3_walks, .instanceMethod yX3_walks, .selects RX3 yX3_walks yX3_walks, .code yX3_walks cX3_walks 2 (some .boolean)] ++ wsX30)
def wsX3_digest_r1 : List Cond := [Cond.fieldLink RX3 47 "LanternWalkModel" "thrown" "I", Cond.constantLong RX3 186 (659), Cond.constantLong RX3 188 (31), Cond.fieldLink RX3 16 "LanternWalkModel" "wind" "[I", Cond.fieldLink RX3 51 "LanternWalkModel" "stretches" "I", Cond.fieldLink RX3 58 "LanternWalkModel" "walkers" "I", Cond.fieldLink RX3 61 "LanternWalkModel" "songs" "I", Cond.fieldLink RX3 25 "LanternWalkModel" "known" "[I", Cond.fieldLink RX3 22 "LanternWalkModel" "lengths" "[I", Cond.methodLink RX3 167 yX3_counted, Cond.instanceMethod yX3_counted, Cond.selects RX3 yX3_counted yX3_counted, Cond.initialized RX3, Cond.code yX3_counted cX3_counted 2 (some .int), Cond.fieldLink RX3 28 "LanternWalkModel" "step" "[I", Cond.methodLink RX3 72 yX3_places, Cond.instanceMethod yX3_places, Cond.selects RX3 yX3_places yX3_places, Cond.code yX3_places cX3_places 1 (some .int), Cond.methodLink RX3 64 yX3_ro, Cond.instanceMethod yX3_ro, Cond.selects RX3 yX3_ro yX3_ro, Cond.code yX3_ro cX3_ro 3 (some .int), Cond.fieldLink RX3 9 "LanternWalkModel" "route" "[I"]
def wsX3_digest_r2 : List Cond := [Cond.methodLink RX3 144 yX3_inState, Cond.instanceMethod yX3_inState, Cond.selects RX3 yX3_inState yX3_inState, Cond.code yX3_inState cX3_inState 4 (some .int), Cond.methodLink RX3 89 yX3_pe, Cond.instanceMethod yX3_pe, Cond.selects RX3 yX3_pe yX3_pe, Cond.code yX3_pe cX3_pe 3 (some .int), Cond.fieldLink RX3 19 "LanternWalkModel" "people" "[I", Cond.methodLink RX3 160 yX3_burning, Cond.instanceMethod yX3_burning, Cond.selects RX3 yX3_burning yX3_burning, Cond.code yX3_burning cX3_burning 3 (some .int), Cond.methodLink RX3 104 yX3_walks, Cond.instanceMethod yX3_walks, Cond.selects RX3 yX3_walks yX3_walks, Cond.code yX3_walks cX3_walks 2 (some .boolean), Cond.methodLink RX3 163 yX3_end, Cond.instanceMethod yX3_end, Cond.selects RX3 yX3_end yX3_end, Cond.code yX3_end cX3_end 4 (some .int), Cond.methodLink RX3 113 yX3_stretchTold, Cond.instanceMethod yX3_stretchTold, Cond.selects RX3 yX3_stretchTold yX3_stretchTold]
def wsX3_digest_r3 : List Cond := [Cond.code yX3_stretchTold cX3_stretchTold 5 (some .int), Cond.methodLink RX3 107 yX3_lets, Cond.instanceMethod yX3_lets, Cond.selects RX3 yX3_lets yX3_lets, Cond.code yX3_lets cX3_lets 2 (some .int), Cond.fieldLink RX3 13 "LanternWalkModel" "stewards" "[I", Cond.methodLink RX3 110 yX3_stretchOf, Cond.instanceMethod yX3_stretchOf, Cond.selects RX3 yX3_stretchOf yX3_stretchOf, Cond.code yX3_stretchOf cX3_stretchOf 3 (some .int), Cond.methodLink RX3 126 yX3_walkerTold, Cond.instanceMethod yX3_walkerTold, Cond.selects RX3 yX3_walkerTold yX3_walkerTold, Cond.code yX3_walkerTold cX3_walkerTold 3 (some .int), Cond.methodLink RX3 123 yX3_neighbours, Cond.instanceMethod yX3_neighbours, Cond.selects RX3 yX3_neighbours yX3_neighbours, Cond.code yX3_neighbours cX3_neighbours 4 (some .int), Cond.methodLink RX3 119 yX3_isNeighbour, Cond.instanceMethod yX3_isNeighbour, Cond.selects RX3 yX3_isNeighbour yX3_isNeighbour, Cond.code yX3_isNeighbour cX3_isNeighbour 3 (some .boolean), Cond.methodLink RX3 116 Lib.Math.abs.name, Cond.static Lib.Math.abs.name]
def wsX3_digest_r4 : List Cond := [Cond.initialized "java/lang/Math", Cond.code Lib.Math.abs.name Lib.Math.abs.code 1 (some .int)]
def wsX3_digest : List Cond := .code yX3_digest cX3_digest 5 (some .long) :: ((wsX3_digest_r1 ++ (wsX3_digest_r2 ++ (wsX3_digest_r3 ++ wsX3_digest_r4))) ++ wsX30)
def wsJ9_abs_0f7a4 : List Cond := .code yJ9_abs_0f7a4 cJ9_abs_0f7a4 1 (some .int) :: ([])
def wsJ9_max_7cf53 : List Cond := .code yJ9_max_7cf53 cJ9_max_7cf53 2 (some .int) :: ([])
def wsJ9_min_7cf53 : List Cond := .code yJ9_min_7cf53 cJ9_min_7cf53 2 (some .int) :: ([])
def wsL_addStretch_r1 : List Cond := [Cond.classLink RL 13 "java/lang/IllegalArgumentException", Cond.classLink RL 15 "java/lang/IllegalStateException", Cond.methodLink RL 7 yX2_addStretch, Cond.instanceMethod yX2_addStretch, Cond.selects RX2 yX2_addStretch yX2_addStretch, Cond.initialized RX2, Cond.code yX2_addStretch cX2_addStretch 3 (some .int), Cond.classLink RX2 28 "java/lang/IllegalArgumentException", Cond.initialized "java/lang/IllegalArgumentException", Cond.classLink RX2 42 "java/lang/IllegalStateException", Cond.initialized "java/lang/IllegalStateException", Cond.fieldLink RX2 10 "LanternWalk" "setting" "LLanternWalk$Setting;", Cond.fieldLink RX2 35 "LanternWalk$Setting" "stretches" "I", Cond.fieldLink RX2 21 "LanternWalk" "now" "LLanternWalk$Parade;", Cond.fieldLink RX2 39 "LanternWalk$Parade" "step" "I", Cond.methodLink RX2 47 yX1_appendStretch, Cond.instanceMethod yX1_appendStretch, Cond.selects RX1 yX1_appendStretch yX1_appendStretch, Cond.initialized RX1, Cond.code yX1_appendStretch cX1_appendStretch 4 (some .int), Cond.fieldLink RX1 33 "LanternWalk$Setting" "stretches" "I", Cond.fieldLink RX1 9 "LanternWalk$Setting" "length" "[I", Cond.fieldLink RX1 15 "LanternWalk$Setting" "lets" "[I", Cond.fieldLink RX1 18 "LanternWalk$Setting" "first" "[I"]
def wsL_addStretch_r2 : List Cond := [Cond.fieldLink RX1 43 "LanternWalk$Setting" "places" "I"]
def wsL_addStretch : List Cond := .codeWith yL_addStretch cL_addStretch 5 (some .int) [(0, 10, 13, 13), (0, 10, 17, 15)] :: ((wsL_addStretch_r1 ++ wsL_addStretch_r2) ++ wsX20 ++ wsX10 ++ wsX00 ++ (vx_atS RX2 32 "java/lang/IllegalArgumentException" ["java/lang/RuntimeException", "java/lang/Exception"]).filter goodWord ++ (vx_atS RX2 46 "java/lang/IllegalStateException" ["java/lang/RuntimeException", "java/lang/Exception"]).filter goodWord)
def wsL_post : List Cond := .codeWith yL_post cL_post 5 (some .int) [(0, 10, 13, 20)] :: ([.classLink RL 20 "java/lang/IndexOutOfBoundsException", .methodLink RL 17 yX2_post, .instanceMethod yX2_post, .selects RX2 yX2_post yX2_post, .initialized RX2, .code yX2_post cX2_post 4 (some .int), .classLink RX2 55 "java/lang/IndexOutOfBoundsException", .initialized "java/lang/IndexOutOfBoundsException", .fieldLink RX2 10 "LanternWalk" "setting" "LLanternWalk$Setting;", .fieldLink RX2 21 "LanternWalk" "now" "LLanternWalk$Parade;", .fieldLink RX2 60 "LanternWalk$Parade" "corner" "[I", .methodLink RX2 51 yX1_hasStretch, .instanceMethod yX1_hasStretch, .selects RX1 yX1_hasStretch yX1_hasStretch, .initialized RX1, .code yX1_hasStretch cX1_hasStretch 2 (some .boolean), .fieldLink RX1 33 "LanternWalk$Setting" "stretches" "I"] ++ wsX20 ++ wsX00 ++ wsX10 ++ (vx_atS RX2 59 "java/lang/IndexOutOfBoundsException" ["java/lang/RuntimeException", "java/lang/Exception"]).filter goodWord)
def wsL_setWind : List Cond := .codeWith yL_setWind cL_setWind 5 (some .int) [(0, 10, 13, 20), (0, 10, 17, 13)] :: ([.classLink RL 20 "java/lang/IndexOutOfBoundsException", .classLink RL 13 "java/lang/IllegalArgumentException", .methodLink RL 22 yX2_setWind, .instanceMethod yX2_setWind, .selects RX2 yX2_setWind yX2_setWind, .initialized RX2, .code yX2_setWind cX2_setWind 4 (some .int), .classLink RX2 55 "java/lang/IndexOutOfBoundsException", .initialized "java/lang/IndexOutOfBoundsException", .classLink RX2 28 "java/lang/IllegalArgumentException", .initialized "java/lang/IllegalArgumentException", .fieldLink RX2 10 "LanternWalk" "setting" "LLanternWalk$Setting;", .fieldLink RX2 68 "LanternWalk$Setting" "wind" "[I"] ++ wsX20 ++ wsX10 ++ (vx_atS RX2 59 "java/lang/IndexOutOfBoundsException" ["java/lang/RuntimeException", "java/lang/Exception"]).filter goodWord ++ (vx_atS RX2 32 "java/lang/IllegalArgumentException" ["java/lang/RuntimeException", "java/lang/Exception"]).filter goodWord)
def wsL_come : List Cond := .codeWith yL_come cL_come 6 (some .int) [(0, 12, 15, 13), (0, 12, 19, 15)] :: ([.classLink RL 13 "java/lang/IllegalArgumentException", .classLink RL 15 "java/lang/IllegalStateException", .methodLink RL 25 yX2_come, .instanceMethod yX2_come, .selects RX2 yX2_come yX2_come, .initialized RX2, .code yX2_come cX2_come 5 (some .int), .classLink RX2 28 "java/lang/IllegalArgumentException", .initialized "java/lang/IllegalArgumentException", .classLink RX2 42 "java/lang/IllegalStateException", .initialized "java/lang/IllegalStateException", .fieldLink RX2 10 "LanternWalk" "setting" "LLanternWalk$Setting;", .fieldLink RX2 73 "LanternWalk$Setting" "walkers" "I", .fieldLink RX2 21 "LanternWalk" "now" "LLanternWalk$Parade;", .fieldLink RX2 81 "LanternWalk$Parade" "wick" "[I", .fieldLink RX2 84 "LanternWalk$Parade" "burns" "[Z", .methodLink RX2 78 yX1_appendWalker, .instanceMethod yX1_appendWalker, .selects RX1 yX1_appendWalker yX1_appendWalker, .initialized RX1, .code yX1_appendWalker cX1_appendWalker 4 (some .int), .fieldLink RX1 37 "LanternWalk$Setting" "walkers" "I", .fieldLink RX1 24 "LanternWalk$Setting" "pace" "[I", .fieldLink RX1 27 "LanternWalk$Setting" "voice" "[I"] ++ wsX20 ++ wsX10 ++ wsX00 ++ (vx_atS RX2 32 "java/lang/IllegalArgumentException" ["java/lang/RuntimeException", "java/lang/Exception"]).filter goodWord ++ (vx_atS RX2 46 "java/lang/IllegalStateException" ["java/lang/RuntimeException", "java/lang/Exception"]).filter goodWord)
def wsL_trim_r1 : List Cond := [Cond.classLink RL 20 "java/lang/IndexOutOfBoundsException", Cond.classLink RL 13 "java/lang/IllegalArgumentException", Cond.classLink RL 15 "java/lang/IllegalStateException", Cond.methodLink RL 29 yX2_trim, Cond.instanceMethod yX2_trim, Cond.selects RX2 yX2_trim yX2_trim, Cond.initialized RX2, Cond.code yX2_trim cX2_trim 3 (some .int), Cond.classLink RX2 55 "java/lang/IndexOutOfBoundsException", Cond.initialized "java/lang/IndexOutOfBoundsException", Cond.classLink RX2 28 "java/lang/IllegalArgumentException", Cond.initialized "java/lang/IllegalArgumentException", Cond.classLink RX2 42 "java/lang/IllegalStateException", Cond.initialized "java/lang/IllegalStateException", Cond.fieldLink RX2 10 "LanternWalk" "setting" "LLanternWalk$Setting;", Cond.fieldLink RX2 21 "LanternWalk" "now" "LLanternWalk$Parade;", Cond.fieldLink RX2 95 "LanternWalk$Parade" "stage" "[I", Cond.fieldLink RX2 81 "LanternWalk$Parade" "wick" "[I", Cond.methodLink RX2 100 Lib.Math.min.name, Cond.static Lib.Math.min.name, Cond.initialized "java/lang/Math", Cond.code Lib.Math.min.name Lib.Math.min.code 2 (some .int), Cond.fieldLink RX2 84 "LanternWalk$Parade" "burns" "[Z", Cond.methodLink RX2 88 yX1_hasWalker]
def wsL_trim_r2 : List Cond := [Cond.instanceMethod yX1_hasWalker, Cond.selects RX1 yX1_hasWalker yX1_hasWalker, Cond.initialized RX1, Cond.code yX1_hasWalker cX1_hasWalker 2 (some .boolean), Cond.fieldLink RX1 37 "LanternWalk$Setting" "walkers" "I"]
def wsL_trim : List Cond := .codeWith yL_trim cL_trim 5 (some .int) [(0, 10, 13, 20), (0, 10, 17, 13), (0, 10, 21, 15)] :: ((wsL_trim_r1 ++ wsL_trim_r2) ++ wsX20 ++ wsX00 ++ wsX10 ++ (vx_atS RX2 59 "java/lang/IndexOutOfBoundsException" ["java/lang/RuntimeException", "java/lang/Exception"]).filter goodWord ++ (vx_atS RX2 32 "java/lang/IllegalArgumentException" ["java/lang/RuntimeException", "java/lang/Exception"]).filter goodWord ++ (vx_atS RX2 46 "java/lang/IllegalStateException" ["java/lang/RuntimeException", "java/lang/Exception"]).filter goodWord)
def wsL_addSong : List Cond := .codeWith yL_addSong cL_addSong 4 (some .int) [(0, 9, 12, 13), (0, 9, 15, 15)] :: ([.classLink RL 13 "java/lang/IllegalArgumentException", .classLink RL 15 "java/lang/IllegalStateException", .methodLink RL 32 yX2_addSong, .instanceMethod yX2_addSong, .selects RX2 yX2_addSong yX2_addSong, .initialized RX2, .code yX2_addSong cX2_addSong 2 (some .int), .classLink RX2 28 "java/lang/IllegalArgumentException", .initialized "java/lang/IllegalArgumentException", .classLink RX2 42 "java/lang/IllegalStateException", .initialized "java/lang/IllegalStateException", .fieldLink RX2 10 "LanternWalk" "setting" "LLanternWalk$Setting;", .fieldLink RX2 107 "LanternWalk$Setting" "songs" "I", .methodLink RX2 112 yX1_appendSong, .instanceMethod yX1_appendSong, .selects RX1 yX1_appendSong yX1_appendSong, .initialized RX1, .code yX1_appendSong cX1_appendSong 3 (some .int), .fieldLink RX1 40 "LanternWalk$Setting" "songs" "I", .fieldLink RX1 30 "LanternWalk$Setting" "songLength" "[I"] ++ wsX20 ++ wsX10 ++ (vx_atS RX2 32 "java/lang/IllegalArgumentException" ["java/lang/RuntimeException", "java/lang/Exception"]).filter goodWord ++ (vx_atS RX2 46 "java/lang/IllegalStateException" ["java/lang/RuntimeException", "java/lang/Exception"]).filter goodWord)
def wsL_teach_r1 : List Cond := [Cond.classLink RL 20 "java/lang/IndexOutOfBoundsException", Cond.classLink RL 13 "java/lang/IllegalArgumentException", Cond.methodLink RL 36 yX2_teach, Cond.instanceMethod yX2_teach, Cond.selects RX2 yX2_teach yX2_teach, Cond.initialized RX2, Cond.code yX2_teach cX2_teach 6 (some .int), Cond.classLink RX2 55 "java/lang/IndexOutOfBoundsException", Cond.initialized "java/lang/IndexOutOfBoundsException", Cond.classLink RX2 28 "java/lang/IllegalArgumentException", Cond.initialized "java/lang/IllegalArgumentException", Cond.fieldLink RX2 10 "LanternWalk" "setting" "LLanternWalk$Setting;", Cond.fieldLink RX2 21 "LanternWalk" "now" "LLanternWalk$Parade;", Cond.fieldLink RX2 126 "LanternWalk$Parade" "known" "[I", Cond.methodLink RX2 88 yX1_hasWalker, Cond.instanceMethod yX1_hasWalker, Cond.selects RX1 yX1_hasWalker yX1_hasWalker, Cond.initialized RX1, Cond.code yX1_hasWalker cX1_hasWalker 2 (some .boolean), Cond.fieldLink RX1 37 "LanternWalk$Setting" "walkers" "I", Cond.methodLink RX2 116 yX1_hasSong, Cond.instanceMethod yX1_hasSong, Cond.selects RX1 yX1_hasSong yX1_hasSong, Cond.code yX1_hasSong cX1_hasSong 2 (some .boolean)]
def wsL_teach_r2 : List Cond := [Cond.fieldLink RX1 40 "LanternWalk$Setting" "songs" "I", Cond.methodLink RX2 123 yX2_cellOf, Cond.static yX2_cellOf, Cond.code yX2_cellOf cX2_cellOf 2 (some .int)]
def wsL_teach : List Cond := .codeWith yL_teach cL_teach 6 (some .int) [(0, 12, 15, 20), (0, 12, 19, 13)] :: ((wsL_teach_r1 ++ wsL_teach_r2) ++ wsX20 ++ wsX00 ++ wsX10 ++ (vx_atS RX2 59 "java/lang/IndexOutOfBoundsException" ["java/lang/RuntimeException", "java/lang/Exception"]).filter goodWord ++ (vx_atS RX2 32 "java/lang/IllegalArgumentException" ["java/lang/RuntimeException", "java/lang/Exception"]).filter goodWord)
def wsL_stretch_r1 : List Cond := [Cond.classLink RL 20 "java/lang/IndexOutOfBoundsException", Cond.methodLink RL 39 yX2_stretch, Cond.instanceMethod yX2_stretch, Cond.selects RX2 yX2_stretch yX2_stretch, Cond.initialized RX2, Cond.code yX2_stretch cX2_stretch 3 (some .int), Cond.classLink RX2 55 "java/lang/IndexOutOfBoundsException", Cond.initialized "java/lang/IndexOutOfBoundsException", Cond.fieldLink RX2 10 "LanternWalk" "setting" "LLanternWalk$Setting;", Cond.methodLink RX2 51 yX1_hasStretch, Cond.instanceMethod yX1_hasStretch, Cond.selects RX1 yX1_hasStretch yX1_hasStretch, Cond.initialized RX1, Cond.code yX1_hasStretch cX1_hasStretch 2 (some .boolean), Cond.fieldLink RX1 33 "LanternWalk$Setting" "stretches" "I", Cond.methodLink RX2 131 yX2_tellOfStretch, Cond.instanceMethod yX2_tellOfStretch, Cond.selects RX2 yX2_tellOfStretch yX2_tellOfStretch, Cond.code yX2_tellOfStretch cX2_tellOfStretch 3 (some .int), Cond.fieldLink RX2 202 "LanternWalk$Setting" "length" "[I", Cond.fieldLink RX2 21 "LanternWalk" "now" "LLanternWalk$Parade;", Cond.fieldLink RX2 208 "LanternWalk$Setting" "first" "[I", Cond.fieldLink RX2 214 "LanternWalk$Parade" "passed" "[I", Cond.fieldLink RX2 217 "LanternWalk$Parade" "stopped" "[I"]
def wsL_stretch_r2 : List Cond := [Cond.methodLink RX2 205 yX0_letsThrough, Cond.instanceMethod yX0_letsThrough, Cond.selects RX0 yX0_letsThrough yX0_letsThrough, Cond.initialized RX0, Cond.code yX0_letsThrough cX0_letsThrough 4 (some .int), Cond.fieldLink RX0 58 "LanternWalk$Parade" "setting" "LLanternWalk$Setting;", Cond.fieldLink RX0 110 "LanternWalk$Setting" "lets" "[I", Cond.fieldLink RX0 9 "LanternWalk$Parade" "corner" "[I", Cond.methodLink RX2 211 yX0_walkersOn, Cond.instanceMethod yX0_walkersOn, Cond.selects RX0 yX0_walkersOn yX0_walkersOn, Cond.code yX0_walkersOn cX0_walkersOn 6 (some .int), Cond.fieldLink RX0 113 "LanternWalk$Setting" "first" "[I", Cond.fieldLink RX0 116 "LanternWalk$Setting" "length" "[I", Cond.fieldLink RX0 92 "LanternWalk$Setting" "walkers" "I", Cond.fieldLink RX0 28 "LanternWalk$Parade" "stage" "[I", Cond.fieldLink RX0 31 "LanternWalk$Parade" "place" "[I"]
def wsL_stretch : List Cond := .codeWith yL_stretch cL_stretch 5 (some .int) [(0, 10, 13, 20)] :: ((wsL_stretch_r1 ++ wsL_stretch_r2) ++ wsX20 ++ wsX10 ++ wsX00 ++ (vx_atS RX2 59 "java/lang/IndexOutOfBoundsException" ["java/lang/RuntimeException", "java/lang/Exception"]).filter goodWord)
def wsL_walker_r1 : List Cond := [Cond.classLink RL 20 "java/lang/IndexOutOfBoundsException", Cond.methodLink RL 42 yX2_walker, Cond.instanceMethod yX2_walker, Cond.selects RX2 yX2_walker yX2_walker, Cond.initialized RX2, Cond.code yX2_walker cX2_walker 3 (some .int), Cond.classLink RX2 55 "java/lang/IndexOutOfBoundsException", Cond.initialized "java/lang/IndexOutOfBoundsException", Cond.fieldLink RX2 10 "LanternWalk" "setting" "LLanternWalk$Setting;", Cond.methodLink RX2 88 yX1_hasWalker, Cond.instanceMethod yX1_hasWalker, Cond.selects RX1 yX1_hasWalker yX1_hasWalker, Cond.initialized RX1, Cond.code yX1_hasWalker cX1_hasWalker 2 (some .boolean), Cond.fieldLink RX1 37 "LanternWalk$Setting" "walkers" "I", Cond.methodLink RX2 136 yX2_tellOfWalker, Cond.instanceMethod yX2_tellOfWalker, Cond.selects RX2 yX2_tellOfWalker yX2_tellOfWalker, Cond.code yX2_tellOfWalker cX2_tellOfWalker 3 (some .int), Cond.fieldLink RX2 220 "LanternWalk$Setting" "pace" "[I", Cond.fieldLink RX2 21 "LanternWalk" "now" "LLanternWalk$Parade;", Cond.fieldLink RX2 81 "LanternWalk$Parade" "wick" "[I", Cond.fieldLink RX2 223 "LanternWalk$Setting" "voice" "[I", Cond.fieldLink RX2 84 "LanternWalk$Parade" "burns" "[Z"]
def wsL_walker_r2 : List Cond := [Cond.fieldLink RX2 95 "LanternWalk$Parade" "stage" "[I", Cond.fieldLink RX2 226 "LanternWalk$Parade" "place" "[I", Cond.fieldLink RX2 232 "LanternWalk$Parade" "dark" "[I", Cond.fieldLink RX2 235 "LanternWalk$Parade" "cameHome" "[I", Cond.methodLink RX2 229 yX0_neighboursOf, Cond.instanceMethod yX0_neighboursOf, Cond.selects RX0 yX0_neighboursOf yX0_neighboursOf, Cond.initialized RX0, Cond.code yX0_neighboursOf cX0_neighboursOf 4 (some .int), Cond.fieldLink RX0 58 "LanternWalk$Parade" "setting" "LLanternWalk$Setting;", Cond.fieldLink RX0 92 "LanternWalk$Setting" "walkers" "I", Cond.methodLink RX0 119 yX0_areNeighbours, Cond.instanceMethod yX0_areNeighbours, Cond.selects RX0 yX0_areNeighbours yX0_areNeighbours, Cond.code yX0_areNeighbours cX0_areNeighbours 3 (some .boolean), Cond.fieldLink RX0 28 "LanternWalk$Parade" "stage" "[I", Cond.fieldLink RX0 31 "LanternWalk$Parade" "place" "[I"]
def wsL_walker : List Cond := .codeWith yL_walker cL_walker 5 (some .int) [(0, 10, 13, 20)] :: ((wsL_walker_r1 ++ wsL_walker_r2) ++ wsX20 ++ wsX10 ++ wsX00 ++ (vx_atS RX2 59 "java/lang/IndexOutOfBoundsException" ["java/lang/RuntimeException", "java/lang/Exception"]).filter goodWord)
def wsL_knows_r1 : List Cond := [Cond.classLink RL 20 "java/lang/IndexOutOfBoundsException", Cond.methodLink RL 45 yX2_knows, Cond.instanceMethod yX2_knows, Cond.selects RX2 yX2_knows yX2_knows, Cond.initialized RX2, Cond.code yX2_knows cX2_knows 3 (some .int), Cond.classLink RX2 55 "java/lang/IndexOutOfBoundsException", Cond.initialized "java/lang/IndexOutOfBoundsException", Cond.fieldLink RX2 10 "LanternWalk" "setting" "LLanternWalk$Setting;", Cond.fieldLink RX2 21 "LanternWalk" "now" "LLanternWalk$Parade;", Cond.fieldLink RX2 126 "LanternWalk$Parade" "known" "[I", Cond.methodLink RX2 88 yX1_hasWalker, Cond.instanceMethod yX1_hasWalker, Cond.selects RX1 yX1_hasWalker yX1_hasWalker, Cond.initialized RX1, Cond.code yX1_hasWalker cX1_hasWalker 2 (some .boolean), Cond.fieldLink RX1 37 "LanternWalk$Setting" "walkers" "I", Cond.methodLink RX2 116 yX1_hasSong, Cond.instanceMethod yX1_hasSong, Cond.selects RX1 yX1_hasSong yX1_hasSong, Cond.code yX1_hasSong cX1_hasSong 2 (some .boolean), Cond.fieldLink RX1 40 "LanternWalk$Setting" "songs" "I", Cond.methodLink RX2 123 yX2_cellOf, Cond.static yX2_cellOf]
def wsL_knows_r2 : List Cond := [Cond.code yX2_cellOf cX2_cellOf 2 (some .int)]
def wsL_knows : List Cond := .codeWith yL_knows cL_knows 5 (some .int) [(0, 10, 13, 20)] :: ((wsL_knows_r1 ++ wsL_knows_r2) ++ wsX20 ++ wsX00 ++ wsX10 ++ (vx_atS RX2 59 "java/lang/IndexOutOfBoundsException" ["java/lang/RuntimeException", "java/lang/Exception"]).filter goodWord)
def wsL_song_r1 : List Cond := [Cond.classLink RL 20 "java/lang/IndexOutOfBoundsException", Cond.methodLink RL 48 yX2_song, Cond.instanceMethod yX2_song, Cond.selects RX2 yX2_song yX2_song, Cond.initialized RX2, Cond.code yX2_song cX2_song 3 (some .int), Cond.classLink RX2 55 "java/lang/IndexOutOfBoundsException", Cond.initialized "java/lang/IndexOutOfBoundsException", Cond.fieldLink RX2 10 "LanternWalk" "setting" "LLanternWalk$Setting;", Cond.fieldLink RX2 141 "LanternWalk$Setting" "songLength" "[I", Cond.fieldLink RX2 21 "LanternWalk" "now" "LLanternWalk$Parade;", Cond.methodLink RX2 116 yX1_hasSong, Cond.instanceMethod yX1_hasSong, Cond.selects RX1 yX1_hasSong yX1_hasSong, Cond.initialized RX1, Cond.code yX1_hasSong cX1_hasSong 2 (some .boolean), Cond.fieldLink RX1 40 "LanternWalk$Setting" "songs" "I", Cond.methodLink RX2 144 yX0_knowersOf, Cond.instanceMethod yX0_knowersOf, Cond.selects RX0 yX0_knowersOf yX0_knowersOf, Cond.initialized RX0, Cond.code yX0_knowersOf cX0_knowersOf 4 (some .int), Cond.fieldLink RX0 58 "LanternWalk$Parade" "setting" "LLanternWalk$Setting;", Cond.fieldLink RX0 92 "LanternWalk$Setting" "walkers" "I"]
def wsL_song_r2 : List Cond := [Cond.fieldLink RX0 40 "LanternWalk$Parade" "known" "[I", Cond.static yX2_cellOf, Cond.code yX2_cellOf cX2_cellOf 2 (some .int), Cond.methodLink RX2 147 yX0_versionsOf, Cond.instanceMethod yX0_versionsOf, Cond.selects RX0 yX0_versionsOf yX0_versionsOf, Cond.code yX0_versionsOf cX0_versionsOf 4 (some .int), Cond.methodLink RX0 107 yX0_knowersOfVersion, Cond.instanceMethod yX0_knowersOfVersion, Cond.selects RX0 yX0_knowersOfVersion yX0_knowersOfVersion, Cond.code yX0_knowersOfVersion cX0_knowersOfVersion 5 (some .int), Cond.methodLink RX2 150 yX0_commonestVersionOf, Cond.instanceMethod yX0_commonestVersionOf, Cond.selects RX0 yX0_commonestVersionOf yX0_commonestVersionOf, Cond.code yX0_commonestVersionOf cX0_commonestVersionOf 6 (some .int)]
def wsL_song : List Cond := .codeWith yL_song cL_song 5 (some .int) [(0, 10, 13, 20)] :: ((wsL_song_r1 ++ wsL_song_r2) ++ wsX20 ++ wsX10 ++ wsX00 ++ (vx_atS RX2 59 "java/lang/IndexOutOfBoundsException" ["java/lang/RuntimeException", "java/lang/Exception"]).filter goodWord)
def wsL_pass_r1 : List Cond := [Cond.classLink RL 13 "java/lang/IllegalArgumentException", Cond.classLink RL 15 "java/lang/IllegalStateException", Cond.methodLink RL 51 yX2_pass, Cond.instanceMethod yX2_pass, Cond.selects RX2 yX2_pass yX2_pass, Cond.initialized RX2, Cond.code yX2_pass cX2_pass 3 (some .int), Cond.classLink RX2 28 "java/lang/IllegalArgumentException", Cond.initialized "java/lang/IllegalArgumentException", Cond.classLink RX2 42 "java/lang/IllegalStateException", Cond.initialized "java/lang/IllegalStateException", Cond.fieldLink RX2 10 "LanternWalk" "setting" "LLanternWalk$Setting;", Cond.fieldLink RX2 35 "LanternWalk$Setting" "stretches" "I", Cond.fieldLink RX2 21 "LanternWalk" "now" "LLanternWalk$Parade;", Cond.methodLink RX2 157 yX0_howManyAre, Cond.instanceMethod yX0_howManyAre, Cond.selects RX0 yX0_howManyAre yX0_howManyAre, Cond.initialized RX0, Cond.code yX0_howManyAre cX0_howManyAre 4 (some .int), Cond.fieldLink RX0 58 "LanternWalk$Parade" "setting" "LLanternWalk$Setting;", Cond.fieldLink RX0 92 "LanternWalk$Setting" "walkers" "I", Cond.fieldLink RX0 28 "LanternWalk$Parade" "stage" "[I", Cond.methodLink RX2 160 yX0_takeSteps, Cond.instanceMethod yX0_takeSteps]
def wsL_pass_r2 : List Cond := [Cond.selects RX0 yX0_takeSteps yX0_takeSteps, Cond.code yX0_takeSteps cX0_takeSteps 3 none, Cond.methodLink RX0 127 yX0_takeStep, Cond.instanceMethod yX0_takeStep, Cond.selects RX0 yX0_takeStep yX0_takeStep, Cond.code yX0_takeStep cX0_takeStep 2 none, Cond.fieldLink RX0 130 "LanternWalk$Setting" "wind" "[I", Cond.fieldLink RX0 68 "LanternWalk$Parade" "step" "I", Cond.methodLink RX0 133 yJ9_floorMod_7cf53, Cond.static yJ9_floorMod_7cf53, Cond.initialized RJ9, Cond.code yJ9_floorMod_7cf53 cJ9_floorMod_7cf53 3 (some .int), Cond.methodLink RX0 136 yX0_burnDown, Cond.instanceMethod yX0_burnDown, Cond.selects RX0 yX0_burnDown yX0_burnDown, Cond.code yX0_burnDown cX0_burnDown 4 none, Cond.fieldLink RX0 24 "LanternWalk$Parade" "burns" "[Z", Cond.fieldLink RX0 21 "LanternWalk$Parade" "wick" "[I", Cond.methodLink RX0 155 Lib.Math.max.name, Cond.static Lib.Math.max.name, Cond.initialized "java/lang/Math", Cond.code Lib.Math.max.name Lib.Math.max.code 2 (some .int), Cond.methodLink RX0 140 yX0_blowOut, Cond.instanceMethod yX0_blowOut]
def wsL_pass_r3 : List Cond := [Cond.selects RX0 yX0_blowOut yX0_blowOut, Cond.code yX0_blowOut cX0_blowOut 3 none, Cond.methodLink RX0 158 yX0_neighboursOf, Cond.instanceMethod yX0_neighboursOf, Cond.selects RX0 yX0_neighboursOf yX0_neighboursOf, Cond.code yX0_neighboursOf cX0_neighboursOf 4 (some .int), Cond.methodLink RX0 119 yX0_areNeighbours, Cond.instanceMethod yX0_areNeighbours, Cond.selects RX0 yX0_areNeighbours yX0_areNeighbours, Cond.code yX0_areNeighbours cX0_areNeighbours 3 (some .boolean), Cond.fieldLink RX0 31 "LanternWalk$Parade" "place" "[I", Cond.methodLink RX0 143 yX0_lightEachOther, Cond.instanceMethod yX0_lightEachOther, Cond.selects RX0 yX0_lightEachOther yX0_lightEachOther, Cond.code yX0_lightEachOther cX0_lightEachOther 2 none, Cond.fieldLink RX0 43 "LanternWalk$Parade" "burnedBefore" "[Z", Cond.methodLink RX0 76 yX0_copyFlags, Cond.static yX0_copyFlags, Cond.code yX0_copyFlags cX0_copyFlags 3 none, Cond.methodLink RX0 161 yX0_isBesideBurning, Cond.instanceMethod yX0_isBesideBurning, Cond.selects RX0 yX0_isBesideBurning yX0_isBesideBurning, Cond.code yX0_isBesideBurning cX0_isBesideBurning 3 (some .boolean), Cond.methodLink RX0 146 yX0_singToEachOther]
def wsL_pass_r4 : List Cond := [Cond.instanceMethod yX0_singToEachOther, Cond.selects RX0 yX0_singToEachOther yX0_singToEachOther, Cond.code yX0_singToEachOther cX0_singToEachOther 2 none, Cond.fieldLink RX0 40 "LanternWalk$Parade" "known" "[I", Cond.fieldLink RX0 46 "LanternWalk$Parade" "knownBefore" "[I", Cond.methodLink RX0 72 yX0_copyNumbers, Cond.static yX0_copyNumbers, Cond.code yX0_copyNumbers cX0_copyNumbers 2 none, Cond.methodLink RX0 80 Lib.Math.min.name, Cond.static Lib.Math.min.name, Cond.code Lib.Math.min.name Lib.Math.min.code 2 (some .int), Cond.methodLink RX0 86 arraycopyName, Cond.native arraycopyName, Cond.static arraycopyName, Cond.initialized "java/lang/System", Cond.methodLink RX0 165 yX0_listenAround, Cond.instanceMethod yX0_listenAround, Cond.selects RX0 yX0_listenAround yX0_listenAround, Cond.code yX0_listenAround cX0_listenAround 3 none, Cond.fieldLink RX0 49 "LanternWalk$Parade" "loudest" "[I", Cond.methodLink RX0 62 yJ7_fill_53178, Cond.static yJ7_fill_53178, Cond.initialized RJ7, Cond.code yJ7_fill_53178 cJ7_fill_53178 4 none]
def wsL_pass_r5 : List Cond := [Cond.methodLink RX0 168 yX0_listenTo, Cond.instanceMethod yX0_listenTo, Cond.selects RX0 yX0_listenTo yX0_listenTo, Cond.code yX0_listenTo cX0_listenTo 9 none, Cond.fieldLink RX0 172 "LanternWalk$Setting" "voice" "[I", Cond.fieldLink RX0 97 "LanternWalk$Setting" "songs" "I", Cond.fieldLink RX0 175 "LanternWalk$Setting" "songLength" "[I", Cond.static yX2_cellOf, Cond.code yX2_cellOf cX2_cellOf 2 (some .int), Cond.methodLink RX0 149 yX0_goOn, Cond.instanceMethod yX0_goOn, Cond.selects RX0 yX0_goOn yX0_goOn, Cond.code yX0_goOn cX0_goOn 3 none, Cond.fieldLink RX0 178 "LanternWalk$Setting" "stretches" "I", Cond.fieldLink RX0 52 "LanternWalk$Parade" "stillLets" "[I", Cond.fieldLink RX0 55 "LanternWalk$Parade" "hasGone" "[Z", Cond.methodLink RX0 181 yX0_letsThrough, Cond.instanceMethod yX0_letsThrough, Cond.selects RX0 yX0_letsThrough yX0_letsThrough, Cond.code yX0_letsThrough cX0_letsThrough 4 (some .int), Cond.fieldLink RX0 110 "LanternWalk$Setting" "lets" "[I", Cond.fieldLink RX0 9 "LanternWalk$Parade" "corner" "[I", Cond.methodLink RX0 184 yX0_foremostToGo, Cond.instanceMethod yX0_foremostToGo]
def wsL_pass_r6 : List Cond := [Cond.selects RX0 yX0_foremostToGo yX0_foremostToGo, Cond.code yX0_foremostToGo cX0_foremostToGo 4 (some .int), Cond.methodLink RX0 187 yX0_walkOn, Cond.instanceMethod yX0_walkOn, Cond.selects RX0 yX0_walkOn yX0_walkOn, Cond.code yX0_walkOn cX0_walkOn 5 none, Cond.fieldLink RX0 190 "LanternWalk$Setting" "pace" "[I", Cond.fieldLink RX0 34 "LanternWalk$Parade" "dark" "[I", Cond.methodLink RX0 193 yX0_goOnePlace, Cond.instanceMethod yX0_goOnePlace, Cond.selects RX0 yX0_goOnePlace yX0_goOnePlace, Cond.code yX0_goOnePlace cX0_goOnePlace 4 (some .boolean), Cond.fieldLink RX0 205 "LanternWalk$Setting" "places" "I", Cond.methodLink RX0 196 yX0_walkersAt, Cond.instanceMethod yX0_walkersAt, Cond.selects RX0 yX0_walkersAt yX0_walkersAt, Cond.code yX0_walkersAt cX0_walkersAt 4 (some .int), Cond.methodLink RX0 199 yX1_stretchEndingAt, Cond.instanceMethod yX1_stretchEndingAt, Cond.selects RX1 yX1_stretchEndingAt yX1_stretchEndingAt, Cond.initialized RX1, Cond.code yX1_stretchEndingAt cX1_stretchEndingAt 3 (some .int), Cond.fieldLink RX1 33 "LanternWalk$Setting" "stretches" "I", Cond.fieldLink RX1 18 "LanternWalk$Setting" "first" "[I"]
def wsL_pass_r7 : List Cond := [Cond.fieldLink RX1 9 "LanternWalk$Setting" "length" "[I", Cond.methodLink RX0 202 yX0_passCorner, Cond.instanceMethod yX0_passCorner, Cond.selects RX0 yX0_passCorner yX0_passCorner, Cond.code yX0_passCorner cX0_passCorner 2 (some .boolean), Cond.fieldLink RX0 18 "LanternWalk$Parade" "stopped" "[I", Cond.fieldLink RX0 15 "LanternWalk$Parade" "passed" "[I", Cond.methodLink RX0 208 yX0_comeHome, Cond.instanceMethod yX0_comeHome, Cond.selects RX0 yX0_comeHome yX0_comeHome, Cond.code yX0_comeHome cX0_comeHome 2 none, Cond.fieldLink RX0 37 "LanternWalk$Parade" "cameHome" "[I", Cond.methodLink RX0 152 yX0_start, Cond.instanceMethod yX0_start, Cond.selects RX0 yX0_start yX0_start, Cond.code yX0_start cX0_start 2 none]
def wsL_pass : List Cond := .codeWith yL_pass cL_pass 4 (some .int) [(0, 9, 12, 13), (0, 9, 15, 15)] :: ((wsL_pass_r1 ++ (wsL_pass_r2 ++ (wsL_pass_r3 ++ (wsL_pass_r4 ++ (wsL_pass_r5 ++ (wsL_pass_r6 ++ wsL_pass_r7)))))) ++ wsX20 ++ wsX10 ++ wsX00 ++ (vx_atS RX2 32 "java/lang/IllegalArgumentException" ["java/lang/RuntimeException", "java/lang/Exception"]).filter goodWord ++ (vx_atS RX2 46 "java/lang/IllegalStateException" ["java/lang/RuntimeException", "java/lang/Exception"]).filter goodWord)
def wsL_count_r1 : List Cond := [Cond.classLink RL 20 "java/lang/IndexOutOfBoundsException", Cond.methodLink RL 54 yX2_count, Cond.instanceMethod yX2_count, Cond.selects RX2 yX2_count yX2_count, Cond.initialized RX2, Cond.code yX2_count cX2_count 2 (some .int), Cond.classLink RX2 55 "java/lang/IndexOutOfBoundsException", Cond.initialized "java/lang/IndexOutOfBoundsException", Cond.methodLink RX2 166 yX2_tellOfAll, Cond.instanceMethod yX2_tellOfAll, Cond.selects RX2 yX2_tellOfAll yX2_tellOfAll, Cond.code yX2_tellOfAll cX2_tellOfAll 2 (some .int), Cond.fieldLink RX2 21 "LanternWalk" "now" "LLanternWalk$Parade;", Cond.fieldLink RX2 39 "LanternWalk$Parade" "step" "I", Cond.fieldLink RX2 10 "LanternWalk" "setting" "LLanternWalk$Setting;", Cond.fieldLink RX2 35 "LanternWalk$Setting" "stretches" "I", Cond.fieldLink RX2 238 "LanternWalk$Setting" "places" "I", Cond.fieldLink RX2 73 "LanternWalk$Setting" "walkers" "I", Cond.fieldLink RX2 107 "LanternWalk$Setting" "songs" "I", Cond.methodLink RX2 157 yX0_howManyAre, Cond.instanceMethod yX0_howManyAre, Cond.selects RX0 yX0_howManyAre yX0_howManyAre, Cond.initialized RX0, Cond.code yX0_howManyAre cX0_howManyAre 4 (some .int)]
def wsL_count_r2 : List Cond := [Cond.fieldLink RX0 58 "LanternWalk$Parade" "setting" "LLanternWalk$Setting;", Cond.fieldLink RX0 92 "LanternWalk$Setting" "walkers" "I", Cond.fieldLink RX0 28 "LanternWalk$Parade" "stage" "[I", Cond.methodLink RX2 177 yX0_lanternsBurning, Cond.instanceMethod yX0_lanternsBurning, Cond.selects RX0 yX0_lanternsBurning yX0_lanternsBurning, Cond.code yX0_lanternsBurning cX0_lanternsBurning 3 (some .int), Cond.fieldLink RX0 24 "LanternWalk$Parade" "burns" "[Z", Cond.methodLink RX2 241 yX0_foremostPlace, Cond.instanceMethod yX0_foremostPlace, Cond.selects RX0 yX0_foremostPlace yX0_foremostPlace, Cond.code yX0_foremostPlace cX0_foremostPlace 3 (some .int), Cond.fieldLink RX0 31 "LanternWalk$Parade" "place" "[I", Cond.methodLink RX2 244 yX0_paradeLength, Cond.instanceMethod yX0_paradeLength, Cond.selects RX0 yX0_paradeLength yX0_paradeLength, Cond.code yX0_paradeLength cX0_paradeLength 4 (some .int), Cond.methodLink RX0 123 yX0_foremostPlace]
def wsL_count : List Cond := .codeWith yL_count cL_count 4 (some .int) [(0, 9, 12, 20)] :: ((wsL_count_r1 ++ wsL_count_r2) ++ wsX20 ++ wsX00 ++ wsX10 ++ (vx_atS RX2 59 "java/lang/IndexOutOfBoundsException" ["java/lang/RuntimeException", "java/lang/Exception"]).filter goodWord)
def wsL_foresee_r1 : List Cond := [Cond.classLink RL 13 "java/lang/IllegalArgumentException", Cond.classLink RL 20 "java/lang/IndexOutOfBoundsException", Cond.classLink RL 15 "java/lang/IllegalStateException", Cond.methodLink RL 57 yX2_foresee, Cond.instanceMethod yX2_foresee, Cond.selects RX2 yX2_foresee yX2_foresee, Cond.initialized RX2, Cond.code yX2_foresee cX2_foresee 3 (some .int), Cond.classLink RX2 28 "java/lang/IllegalArgumentException", Cond.initialized "java/lang/IllegalArgumentException", Cond.classLink RX2 55 "java/lang/IndexOutOfBoundsException", Cond.initialized "java/lang/IndexOutOfBoundsException", Cond.classLink RX2 42 "java/lang/IllegalStateException", Cond.initialized "java/lang/IllegalStateException", Cond.fieldLink RX2 10 "LanternWalk" "setting" "LLanternWalk$Setting;", Cond.fieldLink RX2 35 "LanternWalk$Setting" "stretches" "I", Cond.fieldLink RX2 25 "LanternWalk" "ahead" "LLanternWalk$Parade;", Cond.fieldLink RX2 21 "LanternWalk" "now" "LLanternWalk$Parade;", Cond.methodLink RX2 173 yX0_becomeLike, Cond.instanceMethod yX0_becomeLike, Cond.selects RX0 yX0_becomeLike yX0_becomeLike, Cond.initialized RX0, Cond.code yX0_becomeLike cX0_becomeLike 2 none, Cond.fieldLink RX0 68 "LanternWalk$Parade" "step" "I"]
def wsL_foresee_r2 : List Cond := [Cond.fieldLink RX0 9 "LanternWalk$Parade" "corner" "[I", Cond.fieldLink RX0 15 "LanternWalk$Parade" "passed" "[I", Cond.fieldLink RX0 18 "LanternWalk$Parade" "stopped" "[I", Cond.fieldLink RX0 21 "LanternWalk$Parade" "wick" "[I", Cond.fieldLink RX0 24 "LanternWalk$Parade" "burns" "[Z", Cond.fieldLink RX0 28 "LanternWalk$Parade" "stage" "[I", Cond.fieldLink RX0 31 "LanternWalk$Parade" "place" "[I", Cond.fieldLink RX0 34 "LanternWalk$Parade" "dark" "[I", Cond.fieldLink RX0 37 "LanternWalk$Parade" "cameHome" "[I", Cond.fieldLink RX0 40 "LanternWalk$Parade" "known" "[I", Cond.methodLink RX0 72 yX0_copyNumbers, Cond.static yX0_copyNumbers, Cond.code yX0_copyNumbers cX0_copyNumbers 2 none, Cond.methodLink RX0 80 Lib.Math.min.name, Cond.static Lib.Math.min.name, Cond.initialized "java/lang/Math", Cond.code Lib.Math.min.name Lib.Math.min.code 2 (some .int), Cond.methodLink RX0 86 arraycopyName, Cond.native arraycopyName, Cond.static arraycopyName, Cond.initialized "java/lang/System", Cond.methodLink RX0 76 yX0_copyFlags, Cond.static yX0_copyFlags, Cond.code yX0_copyFlags cX0_copyFlags 3 none]
def wsL_foresee_r3 : List Cond := [Cond.methodLink RX2 160 yX0_takeSteps, Cond.instanceMethod yX0_takeSteps, Cond.selects RX0 yX0_takeSteps yX0_takeSteps, Cond.code yX0_takeSteps cX0_takeSteps 3 none, Cond.methodLink RX0 127 yX0_takeStep, Cond.instanceMethod yX0_takeStep, Cond.selects RX0 yX0_takeStep yX0_takeStep, Cond.code yX0_takeStep cX0_takeStep 2 none, Cond.fieldLink RX0 58 "LanternWalk$Parade" "setting" "LLanternWalk$Setting;", Cond.fieldLink RX0 130 "LanternWalk$Setting" "wind" "[I", Cond.methodLink RX0 133 yJ9_floorMod_7cf53, Cond.static yJ9_floorMod_7cf53, Cond.initialized RJ9, Cond.code yJ9_floorMod_7cf53 cJ9_floorMod_7cf53 3 (some .int), Cond.methodLink RX0 136 yX0_burnDown, Cond.instanceMethod yX0_burnDown, Cond.selects RX0 yX0_burnDown yX0_burnDown, Cond.code yX0_burnDown cX0_burnDown 4 none, Cond.fieldLink RX0 92 "LanternWalk$Setting" "walkers" "I", Cond.methodLink RX0 155 Lib.Math.max.name, Cond.static Lib.Math.max.name, Cond.code Lib.Math.max.name Lib.Math.max.code 2 (some .int), Cond.methodLink RX0 140 yX0_blowOut, Cond.instanceMethod yX0_blowOut]
def wsL_foresee_r4 : List Cond := [Cond.selects RX0 yX0_blowOut yX0_blowOut, Cond.code yX0_blowOut cX0_blowOut 3 none, Cond.methodLink RX0 158 yX0_neighboursOf, Cond.instanceMethod yX0_neighboursOf, Cond.selects RX0 yX0_neighboursOf yX0_neighboursOf, Cond.code yX0_neighboursOf cX0_neighboursOf 4 (some .int), Cond.methodLink RX0 119 yX0_areNeighbours, Cond.instanceMethod yX0_areNeighbours, Cond.selects RX0 yX0_areNeighbours yX0_areNeighbours, Cond.code yX0_areNeighbours cX0_areNeighbours 3 (some .boolean), Cond.methodLink RX0 143 yX0_lightEachOther, Cond.instanceMethod yX0_lightEachOther, Cond.selects RX0 yX0_lightEachOther yX0_lightEachOther, Cond.code yX0_lightEachOther cX0_lightEachOther 2 none, Cond.fieldLink RX0 43 "LanternWalk$Parade" "burnedBefore" "[Z", Cond.methodLink RX0 161 yX0_isBesideBurning, Cond.instanceMethod yX0_isBesideBurning, Cond.selects RX0 yX0_isBesideBurning yX0_isBesideBurning, Cond.code yX0_isBesideBurning cX0_isBesideBurning 3 (some .boolean), Cond.methodLink RX0 146 yX0_singToEachOther, Cond.instanceMethod yX0_singToEachOther, Cond.selects RX0 yX0_singToEachOther yX0_singToEachOther, Cond.code yX0_singToEachOther cX0_singToEachOther 2 none, Cond.fieldLink RX0 46 "LanternWalk$Parade" "knownBefore" "[I"]
def wsL_foresee_r5 : List Cond := [Cond.methodLink RX0 165 yX0_listenAround, Cond.instanceMethod yX0_listenAround, Cond.selects RX0 yX0_listenAround yX0_listenAround, Cond.code yX0_listenAround cX0_listenAround 3 none, Cond.fieldLink RX0 49 "LanternWalk$Parade" "loudest" "[I", Cond.methodLink RX0 62 yJ7_fill_53178, Cond.static yJ7_fill_53178, Cond.initialized RJ7, Cond.code yJ7_fill_53178 cJ7_fill_53178 4 none, Cond.methodLink RX0 168 yX0_listenTo, Cond.instanceMethod yX0_listenTo, Cond.selects RX0 yX0_listenTo yX0_listenTo, Cond.code yX0_listenTo cX0_listenTo 9 none, Cond.fieldLink RX0 172 "LanternWalk$Setting" "voice" "[I", Cond.fieldLink RX0 97 "LanternWalk$Setting" "songs" "I", Cond.fieldLink RX0 175 "LanternWalk$Setting" "songLength" "[I", Cond.static yX2_cellOf, Cond.code yX2_cellOf cX2_cellOf 2 (some .int), Cond.methodLink RX0 149 yX0_goOn, Cond.instanceMethod yX0_goOn, Cond.selects RX0 yX0_goOn yX0_goOn, Cond.code yX0_goOn cX0_goOn 3 none, Cond.fieldLink RX0 178 "LanternWalk$Setting" "stretches" "I", Cond.fieldLink RX0 52 "LanternWalk$Parade" "stillLets" "[I"]
def wsL_foresee_r6 : List Cond := [Cond.fieldLink RX0 55 "LanternWalk$Parade" "hasGone" "[Z", Cond.methodLink RX0 181 yX0_letsThrough, Cond.instanceMethod yX0_letsThrough, Cond.selects RX0 yX0_letsThrough yX0_letsThrough, Cond.code yX0_letsThrough cX0_letsThrough 4 (some .int), Cond.fieldLink RX0 110 "LanternWalk$Setting" "lets" "[I", Cond.methodLink RX0 184 yX0_foremostToGo, Cond.instanceMethod yX0_foremostToGo, Cond.selects RX0 yX0_foremostToGo yX0_foremostToGo, Cond.code yX0_foremostToGo cX0_foremostToGo 4 (some .int), Cond.methodLink RX0 187 yX0_walkOn, Cond.instanceMethod yX0_walkOn, Cond.selects RX0 yX0_walkOn yX0_walkOn, Cond.code yX0_walkOn cX0_walkOn 5 none, Cond.fieldLink RX0 190 "LanternWalk$Setting" "pace" "[I", Cond.methodLink RX0 193 yX0_goOnePlace, Cond.instanceMethod yX0_goOnePlace, Cond.selects RX0 yX0_goOnePlace yX0_goOnePlace, Cond.code yX0_goOnePlace cX0_goOnePlace 4 (some .boolean), Cond.fieldLink RX0 205 "LanternWalk$Setting" "places" "I", Cond.methodLink RX0 196 yX0_walkersAt, Cond.instanceMethod yX0_walkersAt, Cond.selects RX0 yX0_walkersAt yX0_walkersAt, Cond.code yX0_walkersAt cX0_walkersAt 4 (some .int)]
def wsL_foresee_r7 : List Cond := [Cond.methodLink RX0 199 yX1_stretchEndingAt, Cond.instanceMethod yX1_stretchEndingAt, Cond.selects RX1 yX1_stretchEndingAt yX1_stretchEndingAt, Cond.initialized RX1, Cond.code yX1_stretchEndingAt cX1_stretchEndingAt 3 (some .int), Cond.fieldLink RX1 33 "LanternWalk$Setting" "stretches" "I", Cond.fieldLink RX1 18 "LanternWalk$Setting" "first" "[I", Cond.fieldLink RX1 9 "LanternWalk$Setting" "length" "[I", Cond.methodLink RX0 202 yX0_passCorner, Cond.instanceMethod yX0_passCorner, Cond.selects RX0 yX0_passCorner yX0_passCorner, Cond.code yX0_passCorner cX0_passCorner 2 (some .boolean), Cond.methodLink RX0 208 yX0_comeHome, Cond.instanceMethod yX0_comeHome, Cond.selects RX0 yX0_comeHome yX0_comeHome, Cond.code yX0_comeHome cX0_comeHome 2 none, Cond.methodLink RX0 152 yX0_start, Cond.instanceMethod yX0_start, Cond.selects RX0 yX0_start yX0_start, Cond.code yX0_start cX0_start 2 none, Cond.methodLink RX2 157 yX0_howManyAre, Cond.instanceMethod yX0_howManyAre, Cond.selects RX0 yX0_howManyAre yX0_howManyAre, Cond.code yX0_howManyAre cX0_howManyAre 4 (some .int)]
def wsL_foresee_r8 : List Cond := [Cond.methodLink RX2 177 yX0_lanternsBurning, Cond.instanceMethod yX0_lanternsBurning, Cond.selects RX0 yX0_lanternsBurning yX0_lanternsBurning, Cond.code yX0_lanternsBurning cX0_lanternsBurning 3 (some .int), Cond.methodLink RX2 181 yX0_songsKnownInAll, Cond.instanceMethod yX0_songsKnownInAll, Cond.selects RX0 yX0_songsKnownInAll yX0_songsKnownInAll, Cond.code yX0_songsKnownInAll cX0_songsKnownInAll 3 (some .int), Cond.methodLink RX0 100 yX0_knowersOf, Cond.instanceMethod yX0_knowersOf, Cond.selects RX0 yX0_knowersOf yX0_knowersOf, Cond.code yX0_knowersOf cX0_knowersOf 4 (some .int)]
def wsL_foresee : List Cond := .codeWith yL_foresee cL_foresee 5 (some .int) [(0, 10, 13, 13), (0, 10, 17, 20), (0, 10, 21, 15)] :: ((wsL_foresee_r1 ++ (wsL_foresee_r2 ++ (wsL_foresee_r3 ++ (wsL_foresee_r4 ++ (wsL_foresee_r5 ++ (wsL_foresee_r6 ++ (wsL_foresee_r7 ++ wsL_foresee_r8))))))) ++ wsX20 ++ wsX10 ++ wsX00 ++ (vx_atS RX2 32 "java/lang/IllegalArgumentException" ["java/lang/RuntimeException", "java/lang/Exception"]).filter goodWord ++ (vx_atS RX2 59 "java/lang/IndexOutOfBoundsException" ["java/lang/RuntimeException", "java/lang/Exception"]).filter goodWord ++ (vx_atS RX2 46 "java/lang/IllegalStateException" ["java/lang/RuntimeException", "java/lang/Exception"]).filter goodWord)
def wsL_home_r1 : List Cond := [Cond.classLink RL 20 "java/lang/IndexOutOfBoundsException", Cond.methodLink RL 60 yX2_home, Cond.instanceMethod yX2_home, Cond.selects RX2 yX2_home yX2_home, Cond.initialized RX2, Cond.code yX2_home cX2_home 3 (some .int), Cond.classLink RX2 55 "java/lang/IndexOutOfBoundsException", Cond.initialized "java/lang/IndexOutOfBoundsException", Cond.fieldLink RX2 10 "LanternWalk" "setting" "LLanternWalk$Setting;", Cond.fieldLink RX2 21 "LanternWalk" "now" "LLanternWalk$Parade;", Cond.fieldLink RX2 95 "LanternWalk$Parade" "stage" "[I", Cond.fieldLink RX2 35 "LanternWalk$Setting" "stretches" "I", Cond.fieldLink RX2 25 "LanternWalk" "ahead" "LLanternWalk$Parade;", Cond.methodLink RX2 88 yX1_hasWalker, Cond.instanceMethod yX1_hasWalker, Cond.selects RX1 yX1_hasWalker yX1_hasWalker, Cond.initialized RX1, Cond.code yX1_hasWalker cX1_hasWalker 2 (some .boolean), Cond.fieldLink RX1 37 "LanternWalk$Setting" "walkers" "I", Cond.methodLink RX2 173 yX0_becomeLike, Cond.instanceMethod yX0_becomeLike, Cond.selects RX0 yX0_becomeLike yX0_becomeLike, Cond.initialized RX0, Cond.code yX0_becomeLike cX0_becomeLike 2 none]
def wsL_home_r2 : List Cond := [Cond.fieldLink RX0 68 "LanternWalk$Parade" "step" "I", Cond.fieldLink RX0 9 "LanternWalk$Parade" "corner" "[I", Cond.fieldLink RX0 15 "LanternWalk$Parade" "passed" "[I", Cond.fieldLink RX0 18 "LanternWalk$Parade" "stopped" "[I", Cond.fieldLink RX0 21 "LanternWalk$Parade" "wick" "[I", Cond.fieldLink RX0 24 "LanternWalk$Parade" "burns" "[Z", Cond.fieldLink RX0 28 "LanternWalk$Parade" "stage" "[I", Cond.fieldLink RX0 31 "LanternWalk$Parade" "place" "[I", Cond.fieldLink RX0 34 "LanternWalk$Parade" "dark" "[I", Cond.fieldLink RX0 37 "LanternWalk$Parade" "cameHome" "[I", Cond.fieldLink RX0 40 "LanternWalk$Parade" "known" "[I", Cond.methodLink RX0 72 yX0_copyNumbers, Cond.static yX0_copyNumbers, Cond.code yX0_copyNumbers cX0_copyNumbers 2 none, Cond.methodLink RX0 80 Lib.Math.min.name, Cond.static Lib.Math.min.name, Cond.initialized "java/lang/Math", Cond.code Lib.Math.min.name Lib.Math.min.code 2 (some .int), Cond.methodLink RX0 86 arraycopyName, Cond.native arraycopyName, Cond.static arraycopyName, Cond.initialized "java/lang/System", Cond.methodLink RX0 76 yX0_copyFlags, Cond.static yX0_copyFlags]
def wsL_home_r3 : List Cond := [Cond.code yX0_copyFlags cX0_copyFlags 3 none, Cond.methodLink RX2 184 yX0_takeStep, Cond.instanceMethod yX0_takeStep, Cond.selects RX0 yX0_takeStep yX0_takeStep, Cond.code yX0_takeStep cX0_takeStep 2 none, Cond.fieldLink RX0 58 "LanternWalk$Parade" "setting" "LLanternWalk$Setting;", Cond.fieldLink RX0 130 "LanternWalk$Setting" "wind" "[I", Cond.methodLink RX0 133 yJ9_floorMod_7cf53, Cond.static yJ9_floorMod_7cf53, Cond.initialized RJ9, Cond.code yJ9_floorMod_7cf53 cJ9_floorMod_7cf53 3 (some .int), Cond.methodLink RX0 136 yX0_burnDown, Cond.instanceMethod yX0_burnDown, Cond.selects RX0 yX0_burnDown yX0_burnDown, Cond.code yX0_burnDown cX0_burnDown 4 none, Cond.fieldLink RX0 92 "LanternWalk$Setting" "walkers" "I", Cond.methodLink RX0 155 Lib.Math.max.name, Cond.static Lib.Math.max.name, Cond.code Lib.Math.max.name Lib.Math.max.code 2 (some .int), Cond.methodLink RX0 140 yX0_blowOut, Cond.instanceMethod yX0_blowOut, Cond.selects RX0 yX0_blowOut yX0_blowOut, Cond.code yX0_blowOut cX0_blowOut 3 none, Cond.methodLink RX0 158 yX0_neighboursOf]
def wsL_home_r4 : List Cond := [Cond.instanceMethod yX0_neighboursOf, Cond.selects RX0 yX0_neighboursOf yX0_neighboursOf, Cond.code yX0_neighboursOf cX0_neighboursOf 4 (some .int), Cond.methodLink RX0 119 yX0_areNeighbours, Cond.instanceMethod yX0_areNeighbours, Cond.selects RX0 yX0_areNeighbours yX0_areNeighbours, Cond.code yX0_areNeighbours cX0_areNeighbours 3 (some .boolean), Cond.methodLink RX0 143 yX0_lightEachOther, Cond.instanceMethod yX0_lightEachOther, Cond.selects RX0 yX0_lightEachOther yX0_lightEachOther, Cond.code yX0_lightEachOther cX0_lightEachOther 2 none, Cond.fieldLink RX0 43 "LanternWalk$Parade" "burnedBefore" "[Z", Cond.methodLink RX0 161 yX0_isBesideBurning, Cond.instanceMethod yX0_isBesideBurning, Cond.selects RX0 yX0_isBesideBurning yX0_isBesideBurning, Cond.code yX0_isBesideBurning cX0_isBesideBurning 3 (some .boolean), Cond.methodLink RX0 146 yX0_singToEachOther, Cond.instanceMethod yX0_singToEachOther, Cond.selects RX0 yX0_singToEachOther yX0_singToEachOther, Cond.code yX0_singToEachOther cX0_singToEachOther 2 none, Cond.fieldLink RX0 46 "LanternWalk$Parade" "knownBefore" "[I", Cond.methodLink RX0 165 yX0_listenAround, Cond.instanceMethod yX0_listenAround, Cond.selects RX0 yX0_listenAround yX0_listenAround]
def wsL_home_r5 : List Cond := [Cond.code yX0_listenAround cX0_listenAround 3 none, Cond.fieldLink RX0 49 "LanternWalk$Parade" "loudest" "[I", Cond.methodLink RX0 62 yJ7_fill_53178, Cond.static yJ7_fill_53178, Cond.initialized RJ7, Cond.code yJ7_fill_53178 cJ7_fill_53178 4 none, Cond.methodLink RX0 168 yX0_listenTo, Cond.instanceMethod yX0_listenTo, Cond.selects RX0 yX0_listenTo yX0_listenTo, Cond.code yX0_listenTo cX0_listenTo 9 none, Cond.fieldLink RX0 172 "LanternWalk$Setting" "voice" "[I", Cond.fieldLink RX0 97 "LanternWalk$Setting" "songs" "I", Cond.fieldLink RX0 175 "LanternWalk$Setting" "songLength" "[I", Cond.static yX2_cellOf, Cond.code yX2_cellOf cX2_cellOf 2 (some .int), Cond.methodLink RX0 149 yX0_goOn, Cond.instanceMethod yX0_goOn, Cond.selects RX0 yX0_goOn yX0_goOn, Cond.code yX0_goOn cX0_goOn 3 none, Cond.fieldLink RX0 178 "LanternWalk$Setting" "stretches" "I", Cond.fieldLink RX0 52 "LanternWalk$Parade" "stillLets" "[I", Cond.fieldLink RX0 55 "LanternWalk$Parade" "hasGone" "[Z", Cond.methodLink RX0 181 yX0_letsThrough, Cond.instanceMethod yX0_letsThrough]
def wsL_home_r6 : List Cond := [Cond.selects RX0 yX0_letsThrough yX0_letsThrough, Cond.code yX0_letsThrough cX0_letsThrough 4 (some .int), Cond.fieldLink RX0 110 "LanternWalk$Setting" "lets" "[I", Cond.methodLink RX0 184 yX0_foremostToGo, Cond.instanceMethod yX0_foremostToGo, Cond.selects RX0 yX0_foremostToGo yX0_foremostToGo, Cond.code yX0_foremostToGo cX0_foremostToGo 4 (some .int), Cond.methodLink RX0 187 yX0_walkOn, Cond.instanceMethod yX0_walkOn, Cond.selects RX0 yX0_walkOn yX0_walkOn, Cond.code yX0_walkOn cX0_walkOn 5 none, Cond.fieldLink RX0 190 "LanternWalk$Setting" "pace" "[I", Cond.methodLink RX0 193 yX0_goOnePlace, Cond.instanceMethod yX0_goOnePlace, Cond.selects RX0 yX0_goOnePlace yX0_goOnePlace, Cond.code yX0_goOnePlace cX0_goOnePlace 4 (some .boolean), Cond.fieldLink RX0 205 "LanternWalk$Setting" "places" "I", Cond.methodLink RX0 196 yX0_walkersAt, Cond.instanceMethod yX0_walkersAt, Cond.selects RX0 yX0_walkersAt yX0_walkersAt, Cond.code yX0_walkersAt cX0_walkersAt 4 (some .int), Cond.methodLink RX0 199 yX1_stretchEndingAt, Cond.instanceMethod yX1_stretchEndingAt, Cond.selects RX1 yX1_stretchEndingAt yX1_stretchEndingAt]
def wsL_home_r7 : List Cond := [Cond.code yX1_stretchEndingAt cX1_stretchEndingAt 3 (some .int), Cond.fieldLink RX1 33 "LanternWalk$Setting" "stretches" "I", Cond.fieldLink RX1 18 "LanternWalk$Setting" "first" "[I", Cond.fieldLink RX1 9 "LanternWalk$Setting" "length" "[I", Cond.methodLink RX0 202 yX0_passCorner, Cond.instanceMethod yX0_passCorner, Cond.selects RX0 yX0_passCorner yX0_passCorner, Cond.code yX0_passCorner cX0_passCorner 2 (some .boolean), Cond.methodLink RX0 208 yX0_comeHome, Cond.instanceMethod yX0_comeHome, Cond.selects RX0 yX0_comeHome yX0_comeHome, Cond.code yX0_comeHome cX0_comeHome 2 none, Cond.methodLink RX0 152 yX0_start, Cond.instanceMethod yX0_start, Cond.selects RX0 yX0_start yX0_start, Cond.code yX0_start cX0_start 2 none]
def wsL_home : List Cond := .codeWith yL_home cL_home 4 (some .int) [(0, 9, 12, 20)] :: ((wsL_home_r1 ++ (wsL_home_r2 ++ (wsL_home_r3 ++ (wsL_home_r4 ++ (wsL_home_r5 ++ (wsL_home_r6 ++ wsL_home_r7)))))) ++ wsX20 ++ wsX00 ++ wsX10 ++ (vx_atS RX2 59 "java/lang/IndexOutOfBoundsException" ["java/lang/RuntimeException", "java/lang/Exception"]).filter goodWord)
def wsL_hears_r1 : List Cond := [Cond.classLink RL 20 "java/lang/IndexOutOfBoundsException", Cond.methodLink RL 63 yX2_hears, Cond.instanceMethod yX2_hears, Cond.selects RX2 yX2_hears yX2_hears, Cond.initialized RX2, Cond.code yX2_hears cX2_hears 5 (some .int), Cond.classLink RX2 55 "java/lang/IndexOutOfBoundsException", Cond.initialized "java/lang/IndexOutOfBoundsException", Cond.fieldLink RX2 10 "LanternWalk" "setting" "LLanternWalk$Setting;", Cond.fieldLink RX2 21 "LanternWalk" "now" "LLanternWalk$Parade;", Cond.fieldLink RX2 126 "LanternWalk$Parade" "known" "[I", Cond.fieldLink RX2 35 "LanternWalk$Setting" "stretches" "I", Cond.fieldLink RX2 25 "LanternWalk" "ahead" "LLanternWalk$Parade;", Cond.methodLink RX2 88 yX1_hasWalker, Cond.instanceMethod yX1_hasWalker, Cond.selects RX1 yX1_hasWalker yX1_hasWalker, Cond.initialized RX1, Cond.code yX1_hasWalker cX1_hasWalker 2 (some .boolean), Cond.fieldLink RX1 37 "LanternWalk$Setting" "walkers" "I", Cond.methodLink RX2 116 yX1_hasSong, Cond.instanceMethod yX1_hasSong, Cond.selects RX1 yX1_hasSong yX1_hasSong, Cond.code yX1_hasSong cX1_hasSong 2 (some .boolean), Cond.fieldLink RX1 40 "LanternWalk$Setting" "songs" "I"]
def wsL_hears_r2 : List Cond := [Cond.methodLink RX2 123 yX2_cellOf, Cond.static yX2_cellOf, Cond.code yX2_cellOf cX2_cellOf 2 (some .int), Cond.methodLink RX2 173 yX0_becomeLike, Cond.instanceMethod yX0_becomeLike, Cond.selects RX0 yX0_becomeLike yX0_becomeLike, Cond.initialized RX0, Cond.code yX0_becomeLike cX0_becomeLike 2 none, Cond.fieldLink RX0 68 "LanternWalk$Parade" "step" "I", Cond.fieldLink RX0 9 "LanternWalk$Parade" "corner" "[I", Cond.fieldLink RX0 15 "LanternWalk$Parade" "passed" "[I", Cond.fieldLink RX0 18 "LanternWalk$Parade" "stopped" "[I", Cond.fieldLink RX0 21 "LanternWalk$Parade" "wick" "[I", Cond.fieldLink RX0 24 "LanternWalk$Parade" "burns" "[Z", Cond.fieldLink RX0 28 "LanternWalk$Parade" "stage" "[I", Cond.fieldLink RX0 31 "LanternWalk$Parade" "place" "[I", Cond.fieldLink RX0 34 "LanternWalk$Parade" "dark" "[I", Cond.fieldLink RX0 37 "LanternWalk$Parade" "cameHome" "[I", Cond.fieldLink RX0 40 "LanternWalk$Parade" "known" "[I", Cond.methodLink RX0 72 yX0_copyNumbers, Cond.static yX0_copyNumbers, Cond.code yX0_copyNumbers cX0_copyNumbers 2 none, Cond.methodLink RX0 80 Lib.Math.min.name, Cond.static Lib.Math.min.name]
def wsL_hears_r3 : List Cond := [Cond.initialized "java/lang/Math", Cond.code Lib.Math.min.name Lib.Math.min.code 2 (some .int), Cond.methodLink RX0 86 arraycopyName, Cond.native arraycopyName, Cond.static arraycopyName, Cond.initialized "java/lang/System", Cond.methodLink RX0 76 yX0_copyFlags, Cond.static yX0_copyFlags, Cond.code yX0_copyFlags cX0_copyFlags 3 none, Cond.methodLink RX2 184 yX0_takeStep, Cond.instanceMethod yX0_takeStep, Cond.selects RX0 yX0_takeStep yX0_takeStep, Cond.code yX0_takeStep cX0_takeStep 2 none, Cond.fieldLink RX0 58 "LanternWalk$Parade" "setting" "LLanternWalk$Setting;", Cond.fieldLink RX0 130 "LanternWalk$Setting" "wind" "[I", Cond.methodLink RX0 133 yJ9_floorMod_7cf53, Cond.static yJ9_floorMod_7cf53, Cond.initialized RJ9, Cond.code yJ9_floorMod_7cf53 cJ9_floorMod_7cf53 3 (some .int), Cond.methodLink RX0 136 yX0_burnDown, Cond.instanceMethod yX0_burnDown, Cond.selects RX0 yX0_burnDown yX0_burnDown, Cond.code yX0_burnDown cX0_burnDown 4 none, Cond.fieldLink RX0 92 "LanternWalk$Setting" "walkers" "I"]
def wsL_hears_r4 : List Cond := [Cond.methodLink RX0 155 Lib.Math.max.name, Cond.static Lib.Math.max.name, Cond.code Lib.Math.max.name Lib.Math.max.code 2 (some .int), Cond.methodLink RX0 140 yX0_blowOut, Cond.instanceMethod yX0_blowOut, Cond.selects RX0 yX0_blowOut yX0_blowOut, Cond.code yX0_blowOut cX0_blowOut 3 none, Cond.methodLink RX0 158 yX0_neighboursOf, Cond.instanceMethod yX0_neighboursOf, Cond.selects RX0 yX0_neighboursOf yX0_neighboursOf, Cond.code yX0_neighboursOf cX0_neighboursOf 4 (some .int), Cond.methodLink RX0 119 yX0_areNeighbours, Cond.instanceMethod yX0_areNeighbours, Cond.selects RX0 yX0_areNeighbours yX0_areNeighbours, Cond.code yX0_areNeighbours cX0_areNeighbours 3 (some .boolean), Cond.methodLink RX0 143 yX0_lightEachOther, Cond.instanceMethod yX0_lightEachOther, Cond.selects RX0 yX0_lightEachOther yX0_lightEachOther, Cond.code yX0_lightEachOther cX0_lightEachOther 2 none, Cond.fieldLink RX0 43 "LanternWalk$Parade" "burnedBefore" "[Z", Cond.methodLink RX0 161 yX0_isBesideBurning, Cond.instanceMethod yX0_isBesideBurning, Cond.selects RX0 yX0_isBesideBurning yX0_isBesideBurning, Cond.code yX0_isBesideBurning cX0_isBesideBurning 3 (some .boolean)]
def wsL_hears_r5 : List Cond := [Cond.methodLink RX0 146 yX0_singToEachOther, Cond.instanceMethod yX0_singToEachOther, Cond.selects RX0 yX0_singToEachOther yX0_singToEachOther, Cond.code yX0_singToEachOther cX0_singToEachOther 2 none, Cond.fieldLink RX0 46 "LanternWalk$Parade" "knownBefore" "[I", Cond.methodLink RX0 165 yX0_listenAround, Cond.instanceMethod yX0_listenAround, Cond.selects RX0 yX0_listenAround yX0_listenAround, Cond.code yX0_listenAround cX0_listenAround 3 none, Cond.fieldLink RX0 49 "LanternWalk$Parade" "loudest" "[I", Cond.methodLink RX0 62 yJ7_fill_53178, Cond.static yJ7_fill_53178, Cond.initialized RJ7, Cond.code yJ7_fill_53178 cJ7_fill_53178 4 none, Cond.methodLink RX0 168 yX0_listenTo, Cond.instanceMethod yX0_listenTo, Cond.selects RX0 yX0_listenTo yX0_listenTo, Cond.code yX0_listenTo cX0_listenTo 9 none, Cond.fieldLink RX0 172 "LanternWalk$Setting" "voice" "[I", Cond.fieldLink RX0 97 "LanternWalk$Setting" "songs" "I", Cond.fieldLink RX0 175 "LanternWalk$Setting" "songLength" "[I", Cond.methodLink RX0 149 yX0_goOn, Cond.instanceMethod yX0_goOn, Cond.selects RX0 yX0_goOn yX0_goOn]
def wsL_hears_r6 : List Cond := [Cond.code yX0_goOn cX0_goOn 3 none, Cond.fieldLink RX0 178 "LanternWalk$Setting" "stretches" "I", Cond.fieldLink RX0 52 "LanternWalk$Parade" "stillLets" "[I", Cond.fieldLink RX0 55 "LanternWalk$Parade" "hasGone" "[Z", Cond.methodLink RX0 181 yX0_letsThrough, Cond.instanceMethod yX0_letsThrough, Cond.selects RX0 yX0_letsThrough yX0_letsThrough, Cond.code yX0_letsThrough cX0_letsThrough 4 (some .int), Cond.fieldLink RX0 110 "LanternWalk$Setting" "lets" "[I", Cond.methodLink RX0 184 yX0_foremostToGo, Cond.instanceMethod yX0_foremostToGo, Cond.selects RX0 yX0_foremostToGo yX0_foremostToGo, Cond.code yX0_foremostToGo cX0_foremostToGo 4 (some .int), Cond.methodLink RX0 187 yX0_walkOn, Cond.instanceMethod yX0_walkOn, Cond.selects RX0 yX0_walkOn yX0_walkOn, Cond.code yX0_walkOn cX0_walkOn 5 none, Cond.fieldLink RX0 190 "LanternWalk$Setting" "pace" "[I", Cond.methodLink RX0 193 yX0_goOnePlace, Cond.instanceMethod yX0_goOnePlace, Cond.selects RX0 yX0_goOnePlace yX0_goOnePlace, Cond.code yX0_goOnePlace cX0_goOnePlace 4 (some .boolean), Cond.fieldLink RX0 205 "LanternWalk$Setting" "places" "I", Cond.methodLink RX0 196 yX0_walkersAt]
def wsL_hears_r7 : List Cond := [Cond.instanceMethod yX0_walkersAt, Cond.selects RX0 yX0_walkersAt yX0_walkersAt, Cond.code yX0_walkersAt cX0_walkersAt 4 (some .int), Cond.methodLink RX0 199 yX1_stretchEndingAt, Cond.instanceMethod yX1_stretchEndingAt, Cond.selects RX1 yX1_stretchEndingAt yX1_stretchEndingAt, Cond.code yX1_stretchEndingAt cX1_stretchEndingAt 3 (some .int), Cond.fieldLink RX1 33 "LanternWalk$Setting" "stretches" "I", Cond.fieldLink RX1 18 "LanternWalk$Setting" "first" "[I", Cond.fieldLink RX1 9 "LanternWalk$Setting" "length" "[I", Cond.methodLink RX0 202 yX0_passCorner, Cond.instanceMethod yX0_passCorner, Cond.selects RX0 yX0_passCorner yX0_passCorner, Cond.code yX0_passCorner cX0_passCorner 2 (some .boolean), Cond.methodLink RX0 208 yX0_comeHome, Cond.instanceMethod yX0_comeHome, Cond.selects RX0 yX0_comeHome yX0_comeHome, Cond.code yX0_comeHome cX0_comeHome 2 none, Cond.methodLink RX0 152 yX0_start, Cond.instanceMethod yX0_start, Cond.selects RX0 yX0_start yX0_start, Cond.code yX0_start cX0_start 2 none]
def wsL_hears : List Cond := .codeWith yL_hears cL_hears 5 (some .int) [(0, 10, 13, 20)] :: ((wsL_hears_r1 ++ (wsL_hears_r2 ++ (wsL_hears_r3 ++ (wsL_hears_r4 ++ (wsL_hears_r5 ++ (wsL_hears_r6 ++ wsL_hears_r7)))))) ++ wsX20 ++ wsX00 ++ wsX10 ++ (vx_atS RX2 59 "java/lang/IndexOutOfBoundsException" ["java/lang/RuntimeException", "java/lang/Exception"]).filter goodWord)
def wsL_advise_r1 : List Cond := [Cond.classLink RL 20 "java/lang/IndexOutOfBoundsException", Cond.classLink RL 13 "java/lang/IllegalArgumentException", Cond.classLink RL 15 "java/lang/IllegalStateException", Cond.methodLink RL 66 yX2_advise, Cond.instanceMethod yX2_advise, Cond.selects RX2 yX2_advise yX2_advise, Cond.initialized RX2, Cond.code yX2_advise cX2_advise 7 (some .int), Cond.classLink RX2 55 "java/lang/IndexOutOfBoundsException", Cond.initialized "java/lang/IndexOutOfBoundsException", Cond.classLink RX2 28 "java/lang/IllegalArgumentException", Cond.initialized "java/lang/IllegalArgumentException", Cond.classLink RX2 42 "java/lang/IllegalStateException", Cond.initialized "java/lang/IllegalStateException", Cond.fieldLink RX2 10 "LanternWalk" "setting" "LLanternWalk$Setting;", Cond.fieldLink RX2 35 "LanternWalk$Setting" "stretches" "I", Cond.fieldLink RX2 25 "LanternWalk" "ahead" "LLanternWalk$Parade;", Cond.fieldLink RX2 21 "LanternWalk" "now" "LLanternWalk$Parade;", Cond.fieldLink RX2 60 "LanternWalk$Parade" "corner" "[I", Cond.methodLink RX2 173 yX0_becomeLike, Cond.instanceMethod yX0_becomeLike, Cond.selects RX0 yX0_becomeLike yX0_becomeLike, Cond.initialized RX0, Cond.code yX0_becomeLike cX0_becomeLike 2 none]
def wsL_advise_r2 : List Cond := [Cond.fieldLink RX0 68 "LanternWalk$Parade" "step" "I", Cond.fieldLink RX0 9 "LanternWalk$Parade" "corner" "[I", Cond.fieldLink RX0 15 "LanternWalk$Parade" "passed" "[I", Cond.fieldLink RX0 18 "LanternWalk$Parade" "stopped" "[I", Cond.fieldLink RX0 21 "LanternWalk$Parade" "wick" "[I", Cond.fieldLink RX0 24 "LanternWalk$Parade" "burns" "[Z", Cond.fieldLink RX0 28 "LanternWalk$Parade" "stage" "[I", Cond.fieldLink RX0 31 "LanternWalk$Parade" "place" "[I", Cond.fieldLink RX0 34 "LanternWalk$Parade" "dark" "[I", Cond.fieldLink RX0 37 "LanternWalk$Parade" "cameHome" "[I", Cond.fieldLink RX0 40 "LanternWalk$Parade" "known" "[I", Cond.methodLink RX0 72 yX0_copyNumbers, Cond.static yX0_copyNumbers, Cond.code yX0_copyNumbers cX0_copyNumbers 2 none, Cond.methodLink RX0 80 Lib.Math.min.name, Cond.static Lib.Math.min.name, Cond.initialized "java/lang/Math", Cond.code Lib.Math.min.name Lib.Math.min.code 2 (some .int), Cond.methodLink RX0 86 arraycopyName, Cond.native arraycopyName, Cond.static arraycopyName, Cond.initialized "java/lang/System", Cond.methodLink RX0 76 yX0_copyFlags, Cond.static yX0_copyFlags]
def wsL_advise_r3 : List Cond := [Cond.code yX0_copyFlags cX0_copyFlags 3 none, Cond.methodLink RX2 160 yX0_takeSteps, Cond.instanceMethod yX0_takeSteps, Cond.selects RX0 yX0_takeSteps yX0_takeSteps, Cond.code yX0_takeSteps cX0_takeSteps 3 none, Cond.methodLink RX0 127 yX0_takeStep, Cond.instanceMethod yX0_takeStep, Cond.selects RX0 yX0_takeStep yX0_takeStep, Cond.code yX0_takeStep cX0_takeStep 2 none, Cond.fieldLink RX0 58 "LanternWalk$Parade" "setting" "LLanternWalk$Setting;", Cond.fieldLink RX0 130 "LanternWalk$Setting" "wind" "[I", Cond.methodLink RX0 133 yJ9_floorMod_7cf53, Cond.static yJ9_floorMod_7cf53, Cond.initialized RJ9, Cond.code yJ9_floorMod_7cf53 cJ9_floorMod_7cf53 3 (some .int), Cond.methodLink RX0 136 yX0_burnDown, Cond.instanceMethod yX0_burnDown, Cond.selects RX0 yX0_burnDown yX0_burnDown, Cond.code yX0_burnDown cX0_burnDown 4 none, Cond.fieldLink RX0 92 "LanternWalk$Setting" "walkers" "I", Cond.methodLink RX0 155 Lib.Math.max.name, Cond.static Lib.Math.max.name, Cond.code Lib.Math.max.name Lib.Math.max.code 2 (some .int), Cond.methodLink RX0 140 yX0_blowOut]
def wsL_advise_r4 : List Cond := [Cond.instanceMethod yX0_blowOut, Cond.selects RX0 yX0_blowOut yX0_blowOut, Cond.code yX0_blowOut cX0_blowOut 3 none, Cond.methodLink RX0 158 yX0_neighboursOf, Cond.instanceMethod yX0_neighboursOf, Cond.selects RX0 yX0_neighboursOf yX0_neighboursOf, Cond.code yX0_neighboursOf cX0_neighboursOf 4 (some .int), Cond.methodLink RX0 119 yX0_areNeighbours, Cond.instanceMethod yX0_areNeighbours, Cond.selects RX0 yX0_areNeighbours yX0_areNeighbours, Cond.code yX0_areNeighbours cX0_areNeighbours 3 (some .boolean), Cond.methodLink RX0 143 yX0_lightEachOther, Cond.instanceMethod yX0_lightEachOther, Cond.selects RX0 yX0_lightEachOther yX0_lightEachOther, Cond.code yX0_lightEachOther cX0_lightEachOther 2 none, Cond.fieldLink RX0 43 "LanternWalk$Parade" "burnedBefore" "[Z", Cond.methodLink RX0 161 yX0_isBesideBurning, Cond.instanceMethod yX0_isBesideBurning, Cond.selects RX0 yX0_isBesideBurning yX0_isBesideBurning, Cond.code yX0_isBesideBurning cX0_isBesideBurning 3 (some .boolean), Cond.methodLink RX0 146 yX0_singToEachOther, Cond.instanceMethod yX0_singToEachOther, Cond.selects RX0 yX0_singToEachOther yX0_singToEachOther, Cond.code yX0_singToEachOther cX0_singToEachOther 2 none]
def wsL_advise_r5 : List Cond := [Cond.fieldLink RX0 46 "LanternWalk$Parade" "knownBefore" "[I", Cond.methodLink RX0 165 yX0_listenAround, Cond.instanceMethod yX0_listenAround, Cond.selects RX0 yX0_listenAround yX0_listenAround, Cond.code yX0_listenAround cX0_listenAround 3 none, Cond.fieldLink RX0 49 "LanternWalk$Parade" "loudest" "[I", Cond.methodLink RX0 62 yJ7_fill_53178, Cond.static yJ7_fill_53178, Cond.initialized RJ7, Cond.code yJ7_fill_53178 cJ7_fill_53178 4 none, Cond.methodLink RX0 168 yX0_listenTo, Cond.instanceMethod yX0_listenTo, Cond.selects RX0 yX0_listenTo yX0_listenTo, Cond.code yX0_listenTo cX0_listenTo 9 none, Cond.fieldLink RX0 172 "LanternWalk$Setting" "voice" "[I", Cond.fieldLink RX0 97 "LanternWalk$Setting" "songs" "I", Cond.fieldLink RX0 175 "LanternWalk$Setting" "songLength" "[I", Cond.static yX2_cellOf, Cond.code yX2_cellOf cX2_cellOf 2 (some .int), Cond.methodLink RX0 149 yX0_goOn, Cond.instanceMethod yX0_goOn, Cond.selects RX0 yX0_goOn yX0_goOn, Cond.code yX0_goOn cX0_goOn 3 none, Cond.fieldLink RX0 178 "LanternWalk$Setting" "stretches" "I"]
def wsL_advise_r6 : List Cond := [Cond.fieldLink RX0 52 "LanternWalk$Parade" "stillLets" "[I", Cond.fieldLink RX0 55 "LanternWalk$Parade" "hasGone" "[Z", Cond.methodLink RX0 181 yX0_letsThrough, Cond.instanceMethod yX0_letsThrough, Cond.selects RX0 yX0_letsThrough yX0_letsThrough, Cond.code yX0_letsThrough cX0_letsThrough 4 (some .int), Cond.fieldLink RX0 110 "LanternWalk$Setting" "lets" "[I", Cond.methodLink RX0 184 yX0_foremostToGo, Cond.instanceMethod yX0_foremostToGo, Cond.selects RX0 yX0_foremostToGo yX0_foremostToGo, Cond.code yX0_foremostToGo cX0_foremostToGo 4 (some .int), Cond.methodLink RX0 187 yX0_walkOn, Cond.instanceMethod yX0_walkOn, Cond.selects RX0 yX0_walkOn yX0_walkOn, Cond.code yX0_walkOn cX0_walkOn 5 none, Cond.fieldLink RX0 190 "LanternWalk$Setting" "pace" "[I", Cond.methodLink RX0 193 yX0_goOnePlace, Cond.instanceMethod yX0_goOnePlace, Cond.selects RX0 yX0_goOnePlace yX0_goOnePlace, Cond.code yX0_goOnePlace cX0_goOnePlace 4 (some .boolean), Cond.fieldLink RX0 205 "LanternWalk$Setting" "places" "I", Cond.methodLink RX0 196 yX0_walkersAt, Cond.instanceMethod yX0_walkersAt, Cond.selects RX0 yX0_walkersAt yX0_walkersAt]
def wsL_advise_r7 : List Cond := [Cond.code yX0_walkersAt cX0_walkersAt 4 (some .int), Cond.methodLink RX0 199 yX1_stretchEndingAt, Cond.instanceMethod yX1_stretchEndingAt, Cond.selects RX1 yX1_stretchEndingAt yX1_stretchEndingAt, Cond.initialized RX1, Cond.code yX1_stretchEndingAt cX1_stretchEndingAt 3 (some .int), Cond.fieldLink RX1 33 "LanternWalk$Setting" "stretches" "I", Cond.fieldLink RX1 18 "LanternWalk$Setting" "first" "[I", Cond.fieldLink RX1 9 "LanternWalk$Setting" "length" "[I", Cond.methodLink RX0 202 yX0_passCorner, Cond.instanceMethod yX0_passCorner, Cond.selects RX0 yX0_passCorner yX0_passCorner, Cond.code yX0_passCorner cX0_passCorner 2 (some .boolean), Cond.methodLink RX0 208 yX0_comeHome, Cond.instanceMethod yX0_comeHome, Cond.selects RX0 yX0_comeHome yX0_comeHome, Cond.code yX0_comeHome cX0_comeHome 2 none, Cond.methodLink RX0 152 yX0_start, Cond.instanceMethod yX0_start, Cond.selects RX0 yX0_start yX0_start, Cond.code yX0_start cX0_start 2 none, Cond.methodLink RX2 157 yX0_howManyAre, Cond.instanceMethod yX0_howManyAre, Cond.selects RX0 yX0_howManyAre yX0_howManyAre]
def wsL_advise_r8 : List Cond := [Cond.code yX0_howManyAre cX0_howManyAre 4 (some .int)]
def wsL_advise : List Cond := .codeWith yL_advise cL_advise 5 (some .int) [(0, 10, 13, 20), (0, 10, 17, 13), (0, 10, 21, 15)] :: ((wsL_advise_r1 ++ (wsL_advise_r2 ++ (wsL_advise_r3 ++ (wsL_advise_r4 ++ (wsL_advise_r5 ++ (wsL_advise_r6 ++ (wsL_advise_r7 ++ wsL_advise_r8))))))) ++ wsX20 ++ wsX10 ++ wsX00 ++ (vx_atS RX2 59 "java/lang/IndexOutOfBoundsException" ["java/lang/RuntimeException", "java/lang/Exception"]).filter goodWord ++ (vx_atS RX2 32 "java/lang/IllegalArgumentException" ["java/lang/RuntimeException", "java/lang/Exception"]).filter goodWord ++ (vx_atS RX2 46 "java/lang/IllegalStateException" ["java/lang/RuntimeException", "java/lang/Exception"]).filter goodWord)
def wsL_law0_r1 : List Cond := [Cond.classLink RL 8 RX2, Cond.instantiable RX2 3, Cond.initialized RX2, Cond.classLink RL 70 RX3, Cond.instantiable RX3 16, Cond.initialized RX3, Cond.arrayClass .long, Cond.methodLink RL 69 yX2_init, Cond.instanceMethod yX2_init, Cond.code yX2_init cX2_init 2 none, Cond.methodLink RX2 1 objectInit, Cond.instanceMethod objectInit, Cond.code objectInit ⟨#[0xb1]⟩ 1 none, Cond.classLink RX2 7 RX1, Cond.instantiable RX1 11, Cond.initialized RX1, Cond.fieldLink RX2 10 "LanternWalk" "setting" "LLanternWalk$Setting;", Cond.classLink RX2 16 RX0, Cond.instantiable RX0 17, Cond.initialized RX0, Cond.fieldLink RX2 21 "LanternWalk" "now" "LLanternWalk$Parade;", Cond.fieldLink RX2 25 "LanternWalk" "ahead" "LLanternWalk$Parade;", Cond.instanceMethod yX1_init, Cond.code yX1_init cX1_init 1 none]
def wsL_law0_r2 : List Cond := [Cond.methodLink RX1 3 objectInit, Cond.arrayClass .int, Cond.fieldLink RX1 9 "LanternWalk$Setting" "length" "[I", Cond.fieldLink RX1 15 "LanternWalk$Setting" "lets" "[I", Cond.fieldLink RX1 18 "LanternWalk$Setting" "first" "[I", Cond.fieldLink RX1 21 "LanternWalk$Setting" "wind" "[I", Cond.fieldLink RX1 24 "LanternWalk$Setting" "pace" "[I", Cond.fieldLink RX1 27 "LanternWalk$Setting" "voice" "[I", Cond.fieldLink RX1 30 "LanternWalk$Setting" "songLength" "[I", Cond.methodLink RX2 18 yX0_init, Cond.instanceMethod yX0_init, Cond.code yX0_init cX0_init 2 none, Cond.methodLink RX0 3 objectInit, Cond.fieldLink RX0 9 "LanternWalk$Parade" "corner" "[I", Cond.fieldLink RX0 15 "LanternWalk$Parade" "passed" "[I", Cond.fieldLink RX0 18 "LanternWalk$Parade" "stopped" "[I", Cond.fieldLink RX0 21 "LanternWalk$Parade" "wick" "[I", Cond.arrayClass .boolean, Cond.fieldLink RX0 24 "LanternWalk$Parade" "burns" "[Z", Cond.fieldLink RX0 28 "LanternWalk$Parade" "stage" "[I", Cond.fieldLink RX0 31 "LanternWalk$Parade" "place" "[I", Cond.fieldLink RX0 34 "LanternWalk$Parade" "dark" "[I", Cond.fieldLink RX0 37 "LanternWalk$Parade" "cameHome" "[I", Cond.fieldLink RX0 40 "LanternWalk$Parade" "known" "[I"]
def wsL_law0_r3 : List Cond := [Cond.fieldLink RX0 43 "LanternWalk$Parade" "burnedBefore" "[Z", Cond.fieldLink RX0 46 "LanternWalk$Parade" "knownBefore" "[I", Cond.fieldLink RX0 49 "LanternWalk$Parade" "loudest" "[I", Cond.fieldLink RX0 52 "LanternWalk$Parade" "stillLets" "[I", Cond.fieldLink RX0 55 "LanternWalk$Parade" "hasGone" "[Z", Cond.fieldLink RX0 58 "LanternWalk$Parade" "setting" "LLanternWalk$Setting;", Cond.methodLink RX0 62 yJ7_fill_53178, Cond.static yJ7_fill_53178, Cond.initialized RJ7, Cond.code yJ7_fill_53178 cJ7_fill_53178 4 none, Cond.methodLink RL 72 yX3_init, Cond.instanceMethod yX3_init, Cond.code yX3_init cX3_init 1 none, Cond.methodLink RX3 1 objectInit, Cond.fieldLink RX3 9 "LanternWalkModel" "route" "[I", Cond.fieldLink RX3 13 "LanternWalkModel" "stewards" "[I", Cond.fieldLink RX3 16 "LanternWalkModel" "wind" "[I", Cond.fieldLink RX3 19 "LanternWalkModel" "people" "[I", Cond.fieldLink RX3 22 "LanternWalkModel" "lengths" "[I", Cond.fieldLink RX3 25 "LanternWalkModel" "known" "[I", Cond.fieldLink RX3 28 "LanternWalkModel" "step" "[I", Cond.fieldLink RX3 31 "LanternWalkModel" "learns" "[I", Cond.fieldLink RX3 34 "LanternWalkModel" "lights" "[Z", Cond.fieldLink RX3 38 "LanternWalkModel" "through" "[I"]
def wsL_law0_r4 : List Cond := [Cond.fieldLink RX3 41 "LanternWalkModel" "went" "[Z", Cond.fieldLink RX3 44 "LanternWalkModel" "ahead" "[I", Cond.methodLink RL 73 yL_addStretch, Cond.static yL_addStretch, Cond.initialized RL, Cond.codeWith yL_addStretch cL_addStretch 5 (some .int) [(0, 10, 13, 13), (0, 10, 17, 15)], Cond.classLink RL 13 "java/lang/IllegalArgumentException", Cond.classLink RL 15 "java/lang/IllegalStateException", Cond.methodLink RL 7 yX2_addStretch, Cond.instanceMethod yX2_addStretch, Cond.selects RX2 yX2_addStretch yX2_addStretch, Cond.code yX2_addStretch cX2_addStretch 3 (some .int), Cond.classLink RX2 28 "java/lang/IllegalArgumentException", Cond.initialized "java/lang/IllegalArgumentException", Cond.classLink RX2 42 "java/lang/IllegalStateException", Cond.initialized "java/lang/IllegalStateException", Cond.fieldLink RX2 35 "LanternWalk$Setting" "stretches" "I", Cond.fieldLink RX2 39 "LanternWalk$Parade" "step" "I", Cond.methodLink RX2 47 yX1_appendStretch, Cond.instanceMethod yX1_appendStretch, Cond.selects RX1 yX1_appendStretch yX1_appendStretch, Cond.code yX1_appendStretch cX1_appendStretch 4 (some .int), Cond.fieldLink RX1 33 "LanternWalk$Setting" "stretches" "I", Cond.fieldLink RX1 43 "LanternWalk$Setting" "places" "I"]
def wsL_law0_r5 : List Cond := [Cond.methodLink RL 78 yX3_addStretch, Cond.instanceMethod yX3_addStretch, Cond.selects RX3 yX3_addStretch yX3_addStretch, Cond.code yX3_addStretch cX3_addStretch 4 (some .int), Cond.fieldLink RX3 47 "LanternWalkModel" "thrown" "I", Cond.fieldLink RX3 51 "LanternWalkModel" "stretches" "I", Cond.methodLink RX3 76 arraycopyName, Cond.native arraycopyName, Cond.static arraycopyName, Cond.initialized "java/lang/System", Cond.methodLink RX3 54 yX3_isIn, Cond.static yX3_isIn, Cond.code yX3_isIn cX3_isIn 3 (some .boolean), Cond.methodLink RX3 68 yX3_fail, Cond.instanceMethod yX3_fail, Cond.selects RX3 yX3_fail yX3_fail, Cond.code yX3_fail cX3_fail 2 (some .int), Cond.methodLink RX3 72 yX3_places, Cond.instanceMethod yX3_places, Cond.selects RX3 yX3_places yX3_places, Cond.code yX3_places cX3_places 1 (some .int), Cond.methodLink RX3 64 yX3_ro, Cond.instanceMethod yX3_ro, Cond.selects RX3 yX3_ro yX3_ro]
def wsL_law0_r6 : List Cond := [Cond.code yX3_ro cX3_ro 3 (some .int), Cond.methodLink RL 79 yX3_thrown, Cond.instanceMethod yX3_thrown, Cond.selects RX3 yX3_thrown yX3_thrown, Cond.code yX3_thrown cX3_thrown 1 (some .int), Cond.methodLink RL 83 yL_post, Cond.static yL_post, Cond.codeWith yL_post cL_post 5 (some .int) [(0, 10, 13, 20)], Cond.classLink RL 20 "java/lang/IndexOutOfBoundsException", Cond.methodLink RL 17 yX2_post, Cond.instanceMethod yX2_post, Cond.selects RX2 yX2_post yX2_post, Cond.code yX2_post cX2_post 4 (some .int), Cond.classLink RX2 55 "java/lang/IndexOutOfBoundsException", Cond.initialized "java/lang/IndexOutOfBoundsException", Cond.fieldLink RX2 60 "LanternWalk$Parade" "corner" "[I", Cond.methodLink RX2 51 yX1_hasStretch, Cond.instanceMethod yX1_hasStretch, Cond.selects RX1 yX1_hasStretch yX1_hasStretch, Cond.code yX1_hasStretch cX1_hasStretch 2 (some .boolean), Cond.methodLink RL 85 yX3_post, Cond.instanceMethod yX3_post, Cond.selects RX3 yX3_post yX3_post, Cond.code yX3_post cX3_post 4 (some .int)]
def wsL_law0_r7 : List Cond := [Cond.methodLink RX3 82 yX3_isStretch, Cond.instanceMethod yX3_isStretch, Cond.selects RX3 yX3_isStretch yX3_isStretch, Cond.code yX3_isStretch cX3_isStretch 2 (some .boolean), Cond.methodLink RL 86 yL_setWind, Cond.static yL_setWind, Cond.codeWith yL_setWind cL_setWind 5 (some .int) [(0, 10, 13, 20), (0, 10, 17, 13)], Cond.methodLink RL 22 yX2_setWind, Cond.instanceMethod yX2_setWind, Cond.selects RX2 yX2_setWind yX2_setWind, Cond.code yX2_setWind cX2_setWind 4 (some .int), Cond.fieldLink RX2 68 "LanternWalk$Setting" "wind" "[I", Cond.methodLink RL 88 yX3_setWind, Cond.instanceMethod yX3_setWind, Cond.selects RX3 yX3_setWind yX3_setWind, Cond.code yX3_setWind cX3_setWind 4 (some .int), Cond.methodLink RL 89 yL_come, Cond.static yL_come, Cond.codeWith yL_come cL_come 6 (some .int) [(0, 12, 15, 13), (0, 12, 19, 15)], Cond.methodLink RL 25 yX2_come, Cond.instanceMethod yX2_come, Cond.selects RX2 yX2_come yX2_come, Cond.code yX2_come cX2_come 5 (some .int), Cond.fieldLink RX2 73 "LanternWalk$Setting" "walkers" "I"]
def wsL_law0_r8 : List Cond := [Cond.fieldLink RX2 81 "LanternWalk$Parade" "wick" "[I", Cond.fieldLink RX2 84 "LanternWalk$Parade" "burns" "[Z", Cond.methodLink RX2 78 yX1_appendWalker, Cond.instanceMethod yX1_appendWalker, Cond.selects RX1 yX1_appendWalker yX1_appendWalker, Cond.code yX1_appendWalker cX1_appendWalker 4 (some .int), Cond.fieldLink RX1 37 "LanternWalk$Setting" "walkers" "I", Cond.methodLink RL 92 yX3_come, Cond.instanceMethod yX3_come, Cond.selects RX3 yX3_come yX3_come, Cond.code yX3_come cX3_come 5 (some .int), Cond.fieldLink RX3 58 "LanternWalkModel" "walkers" "I", Cond.methodLink RL 93 yL_trim, Cond.static yL_trim, Cond.codeWith yL_trim cL_trim 5 (some .int) [(0, 10, 13, 20), (0, 10, 17, 13), (0, 10, 21, 15)], Cond.methodLink RL 29 yX2_trim, Cond.instanceMethod yX2_trim, Cond.selects RX2 yX2_trim yX2_trim, Cond.code yX2_trim cX2_trim 3 (some .int), Cond.fieldLink RX2 95 "LanternWalk$Parade" "stage" "[I", Cond.methodLink RX2 100 Lib.Math.min.name, Cond.static Lib.Math.min.name, Cond.initialized "java/lang/Math", Cond.code Lib.Math.min.name Lib.Math.min.code 2 (some .int)]
def wsL_law0_r9 : List Cond := [Cond.methodLink RX2 88 yX1_hasWalker, Cond.instanceMethod yX1_hasWalker, Cond.selects RX1 yX1_hasWalker yX1_hasWalker, Cond.code yX1_hasWalker cX1_hasWalker 2 (some .boolean), Cond.methodLink RL 95 yX3_trim, Cond.instanceMethod yX3_trim, Cond.selects RX3 yX3_trim yX3_trim, Cond.code yX3_trim cX3_trim 3 (some .int), Cond.methodLink RX3 92 Lib.Math.min.name, Cond.methodLink RX3 86 yX3_isWalker, Cond.instanceMethod yX3_isWalker, Cond.selects RX3 yX3_isWalker yX3_isWalker, Cond.code yX3_isWalker cX3_isWalker 2 (some .boolean), Cond.methodLink RX3 89 yX3_pe, Cond.instanceMethod yX3_pe, Cond.selects RX3 yX3_pe yX3_pe, Cond.code yX3_pe cX3_pe 3 (some .int), Cond.methodLink RX3 97 yX3_set, Cond.instanceMethod yX3_set, Cond.selects RX3 yX3_set yX3_set, Cond.code yX3_set cX3_set 4 none, Cond.methodLink RL 96 yL_addSong, Cond.static yL_addSong, Cond.codeWith yL_addSong cL_addSong 4 (some .int) [(0, 9, 12, 13), (0, 9, 15, 15)]]
def wsL_law0_r10 : List Cond := [Cond.methodLink RL 32 yX2_addSong, Cond.instanceMethod yX2_addSong, Cond.selects RX2 yX2_addSong yX2_addSong, Cond.code yX2_addSong cX2_addSong 2 (some .int), Cond.fieldLink RX2 107 "LanternWalk$Setting" "songs" "I", Cond.methodLink RX2 112 yX1_appendSong, Cond.instanceMethod yX1_appendSong, Cond.selects RX1 yX1_appendSong yX1_appendSong, Cond.code yX1_appendSong cX1_appendSong 3 (some .int), Cond.fieldLink RX1 40 "LanternWalk$Setting" "songs" "I", Cond.methodLink RL 99 yX3_addSong, Cond.instanceMethod yX3_addSong, Cond.selects RX3 yX3_addSong yX3_addSong, Cond.code yX3_addSong cX3_addSong 2 (some .int), Cond.fieldLink RX3 61 "LanternWalkModel" "songs" "I", Cond.methodLink RL 100 yL_teach, Cond.static yL_teach, Cond.codeWith yL_teach cL_teach 6 (some .int) [(0, 12, 15, 20), (0, 12, 19, 13)], Cond.methodLink RL 36 yX2_teach, Cond.instanceMethod yX2_teach, Cond.selects RX2 yX2_teach yX2_teach, Cond.code yX2_teach cX2_teach 6 (some .int), Cond.fieldLink RX2 126 "LanternWalk$Parade" "known" "[I", Cond.methodLink RX2 116 yX1_hasSong]
def wsL_law0_r11 : List Cond := [Cond.instanceMethod yX1_hasSong, Cond.selects RX1 yX1_hasSong yX1_hasSong, Cond.code yX1_hasSong cX1_hasSong 2 (some .boolean), Cond.methodLink RX2 123 yX2_cellOf, Cond.static yX2_cellOf, Cond.code yX2_cellOf cX2_cellOf 2 (some .int), Cond.methodLink RL 102 yX3_teach, Cond.instanceMethod yX3_teach, Cond.selects RX3 yX3_teach yX3_teach, Cond.code yX3_teach cX3_teach 5 (some .int), Cond.methodLink RX3 101 yX3_isSong, Cond.instanceMethod yX3_isSong, Cond.selects RX3 yX3_isSong yX3_isSong, Cond.code yX3_isSong cX3_isSong 2 (some .boolean), Cond.methodLink RL 103 yL_stretch, Cond.static yL_stretch, Cond.codeWith yL_stretch cL_stretch 5 (some .int) [(0, 10, 13, 20)], Cond.methodLink RL 39 yX2_stretch, Cond.instanceMethod yX2_stretch, Cond.selects RX2 yX2_stretch yX2_stretch, Cond.code yX2_stretch cX2_stretch 3 (some .int), Cond.methodLink RX2 131 yX2_tellOfStretch, Cond.instanceMethod yX2_tellOfStretch, Cond.selects RX2 yX2_tellOfStretch yX2_tellOfStretch]
def wsL_law0_r12 : List Cond := [Cond.code yX2_tellOfStretch cX2_tellOfStretch 3 (some .int), Cond.fieldLink RX2 202 "LanternWalk$Setting" "length" "[I", Cond.fieldLink RX2 208 "LanternWalk$Setting" "first" "[I", Cond.fieldLink RX2 214 "LanternWalk$Parade" "passed" "[I", Cond.fieldLink RX2 217 "LanternWalk$Parade" "stopped" "[I", Cond.methodLink RX2 205 yX0_letsThrough, Cond.instanceMethod yX0_letsThrough, Cond.selects RX0 yX0_letsThrough yX0_letsThrough, Cond.code yX0_letsThrough cX0_letsThrough 4 (some .int), Cond.fieldLink RX0 110 "LanternWalk$Setting" "lets" "[I", Cond.methodLink RX2 211 yX0_walkersOn, Cond.instanceMethod yX0_walkersOn, Cond.selects RX0 yX0_walkersOn yX0_walkersOn, Cond.code yX0_walkersOn cX0_walkersOn 6 (some .int), Cond.fieldLink RX0 113 "LanternWalk$Setting" "first" "[I", Cond.fieldLink RX0 116 "LanternWalk$Setting" "length" "[I", Cond.fieldLink RX0 92 "LanternWalk$Setting" "walkers" "I", Cond.methodLink RL 105 yX3_stretch, Cond.instanceMethod yX3_stretch, Cond.selects RX3 yX3_stretch yX3_stretch, Cond.code yX3_stretch cX3_stretch 3 (some .int), Cond.methodLink RX3 113 yX3_stretchTold, Cond.instanceMethod yX3_stretchTold, Cond.selects RX3 yX3_stretchTold yX3_stretchTold]
def wsL_law0_r13 : List Cond := [Cond.code yX3_stretchTold cX3_stretchTold 5 (some .int), Cond.methodLink RX3 107 yX3_lets, Cond.instanceMethod yX3_lets, Cond.selects RX3 yX3_lets yX3_lets, Cond.code yX3_lets cX3_lets 2 (some .int), Cond.methodLink RX3 104 yX3_walks, Cond.instanceMethod yX3_walks, Cond.selects RX3 yX3_walks yX3_walks, Cond.code yX3_walks cX3_walks 2 (some .boolean), Cond.methodLink RX3 110 yX3_stretchOf, Cond.instanceMethod yX3_stretchOf, Cond.selects RX3 yX3_stretchOf yX3_stretchOf, Cond.code yX3_stretchOf cX3_stretchOf 3 (some .int), Cond.methodLink RL 106 yL_walker, Cond.static yL_walker, Cond.codeWith yL_walker cL_walker 5 (some .int) [(0, 10, 13, 20)], Cond.methodLink RL 42 yX2_walker, Cond.instanceMethod yX2_walker, Cond.selects RX2 yX2_walker yX2_walker, Cond.code yX2_walker cX2_walker 3 (some .int), Cond.methodLink RX2 136 yX2_tellOfWalker, Cond.instanceMethod yX2_tellOfWalker, Cond.selects RX2 yX2_tellOfWalker yX2_tellOfWalker, Cond.code yX2_tellOfWalker cX2_tellOfWalker 3 (some .int)]
def wsL_law0_r14 : List Cond := [Cond.fieldLink RX2 220 "LanternWalk$Setting" "pace" "[I", Cond.fieldLink RX2 223 "LanternWalk$Setting" "voice" "[I", Cond.fieldLink RX2 226 "LanternWalk$Parade" "place" "[I", Cond.fieldLink RX2 232 "LanternWalk$Parade" "dark" "[I", Cond.fieldLink RX2 235 "LanternWalk$Parade" "cameHome" "[I", Cond.methodLink RX2 229 yX0_neighboursOf, Cond.instanceMethod yX0_neighboursOf, Cond.selects RX0 yX0_neighboursOf yX0_neighboursOf, Cond.code yX0_neighboursOf cX0_neighboursOf 4 (some .int), Cond.methodLink RX0 119 yX0_areNeighbours, Cond.instanceMethod yX0_areNeighbours, Cond.selects RX0 yX0_areNeighbours yX0_areNeighbours, Cond.code yX0_areNeighbours cX0_areNeighbours 3 (some .boolean), Cond.methodLink RL 108 yX3_walker, Cond.instanceMethod yX3_walker, Cond.selects RX3 yX3_walker yX3_walker, Cond.code yX3_walker cX3_walker 3 (some .int), Cond.methodLink RX3 126 yX3_walkerTold, Cond.instanceMethod yX3_walkerTold, Cond.selects RX3 yX3_walkerTold yX3_walkerTold, Cond.code yX3_walkerTold cX3_walkerTold 3 (some .int), Cond.methodLink RX3 123 yX3_neighbours, Cond.instanceMethod yX3_neighbours, Cond.selects RX3 yX3_neighbours yX3_neighbours]
def wsL_law0_r15 : List Cond := [Cond.code yX3_neighbours cX3_neighbours 4 (some .int), Cond.methodLink RX3 119 yX3_isNeighbour, Cond.instanceMethod yX3_isNeighbour, Cond.selects RX3 yX3_isNeighbour yX3_isNeighbour, Cond.code yX3_isNeighbour cX3_isNeighbour 3 (some .boolean), Cond.methodLink RX3 116 Lib.Math.abs.name, Cond.static Lib.Math.abs.name, Cond.code Lib.Math.abs.name Lib.Math.abs.code 1 (some .int), Cond.methodLink RL 109 yL_knows, Cond.static yL_knows, Cond.codeWith yL_knows cL_knows 5 (some .int) [(0, 10, 13, 20)], Cond.methodLink RL 45 yX2_knows, Cond.instanceMethod yX2_knows, Cond.selects RX2 yX2_knows yX2_knows, Cond.code yX2_knows cX2_knows 3 (some .int), Cond.methodLink RL 111 yX3_knows, Cond.instanceMethod yX3_knows, Cond.selects RX3 yX3_knows yX3_knows, Cond.code yX3_knows cX3_knows 3 (some .int), Cond.methodLink RL 112 yL_song, Cond.static yL_song, Cond.codeWith yL_song cL_song 5 (some .int) [(0, 10, 13, 20)], Cond.methodLink RL 48 yX2_song, Cond.instanceMethod yX2_song]
def wsL_law0_r16 : List Cond := [Cond.selects RX2 yX2_song yX2_song, Cond.code yX2_song cX2_song 3 (some .int), Cond.fieldLink RX2 141 "LanternWalk$Setting" "songLength" "[I", Cond.methodLink RX2 144 yX0_knowersOf, Cond.instanceMethod yX0_knowersOf, Cond.selects RX0 yX0_knowersOf yX0_knowersOf, Cond.code yX0_knowersOf cX0_knowersOf 4 (some .int), Cond.methodLink RX2 147 yX0_versionsOf, Cond.instanceMethod yX0_versionsOf, Cond.selects RX0 yX0_versionsOf yX0_versionsOf, Cond.code yX0_versionsOf cX0_versionsOf 4 (some .int), Cond.methodLink RX0 107 yX0_knowersOfVersion, Cond.instanceMethod yX0_knowersOfVersion, Cond.selects RX0 yX0_knowersOfVersion yX0_knowersOfVersion, Cond.code yX0_knowersOfVersion cX0_knowersOfVersion 5 (some .int), Cond.methodLink RX2 150 yX0_commonestVersionOf, Cond.instanceMethod yX0_commonestVersionOf, Cond.selects RX0 yX0_commonestVersionOf yX0_commonestVersionOf, Cond.code yX0_commonestVersionOf cX0_commonestVersionOf 6 (some .int), Cond.methodLink RL 114 yX3_song, Cond.instanceMethod yX3_song, Cond.selects RX3 yX3_song yX3_song, Cond.code yX3_song cX3_song 3 (some .int), Cond.methodLink RX3 132 yX3_songTold]
def wsL_law0_r17 : List Cond := [Cond.instanceMethod yX3_songTold, Cond.selects RX3 yX3_songTold yX3_songTold, Cond.code yX3_songTold cX3_songTold 7 (some .int), Cond.methodLink RX3 129 yX3_with, Cond.instanceMethod yX3_with, Cond.selects RX3 yX3_with yX3_with, Cond.code yX3_with cX3_with 5 (some .int), Cond.methodLink RL 115 yL_pass, Cond.static yL_pass, Cond.codeWith yL_pass cL_pass 4 (some .int) [(0, 9, 12, 13), (0, 9, 15, 15)], Cond.methodLink RL 51 yX2_pass, Cond.instanceMethod yX2_pass, Cond.selects RX2 yX2_pass yX2_pass, Cond.code yX2_pass cX2_pass 3 (some .int), Cond.methodLink RX2 157 yX0_howManyAre, Cond.instanceMethod yX0_howManyAre, Cond.selects RX0 yX0_howManyAre yX0_howManyAre, Cond.code yX0_howManyAre cX0_howManyAre 4 (some .int), Cond.methodLink RX2 160 yX0_takeSteps, Cond.instanceMethod yX0_takeSteps, Cond.selects RX0 yX0_takeSteps yX0_takeSteps, Cond.code yX0_takeSteps cX0_takeSteps 3 none, Cond.methodLink RX0 127 yX0_takeStep, Cond.instanceMethod yX0_takeStep]
def wsL_law0_r18 : List Cond := [Cond.selects RX0 yX0_takeStep yX0_takeStep, Cond.code yX0_takeStep cX0_takeStep 2 none, Cond.fieldLink RX0 130 "LanternWalk$Setting" "wind" "[I", Cond.fieldLink RX0 68 "LanternWalk$Parade" "step" "I", Cond.methodLink RX0 133 yJ9_floorMod_7cf53, Cond.static yJ9_floorMod_7cf53, Cond.initialized RJ9, Cond.code yJ9_floorMod_7cf53 cJ9_floorMod_7cf53 3 (some .int), Cond.methodLink RX0 136 yX0_burnDown, Cond.instanceMethod yX0_burnDown, Cond.selects RX0 yX0_burnDown yX0_burnDown, Cond.code yX0_burnDown cX0_burnDown 4 none, Cond.methodLink RX0 155 Lib.Math.max.name, Cond.static Lib.Math.max.name, Cond.code Lib.Math.max.name Lib.Math.max.code 2 (some .int), Cond.methodLink RX0 140 yX0_blowOut, Cond.instanceMethod yX0_blowOut, Cond.selects RX0 yX0_blowOut yX0_blowOut, Cond.code yX0_blowOut cX0_blowOut 3 none, Cond.methodLink RX0 158 yX0_neighboursOf, Cond.methodLink RX0 143 yX0_lightEachOther, Cond.instanceMethod yX0_lightEachOther, Cond.selects RX0 yX0_lightEachOther yX0_lightEachOther, Cond.code yX0_lightEachOther cX0_lightEachOther 2 none]
def wsL_law0_r19 : List Cond := [Cond.methodLink RX0 76 yX0_copyFlags, Cond.static yX0_copyFlags, Cond.code yX0_copyFlags cX0_copyFlags 3 none, Cond.methodLink RX0 161 yX0_isBesideBurning, Cond.instanceMethod yX0_isBesideBurning, Cond.selects RX0 yX0_isBesideBurning yX0_isBesideBurning, Cond.code yX0_isBesideBurning cX0_isBesideBurning 3 (some .boolean), Cond.methodLink RX0 146 yX0_singToEachOther, Cond.instanceMethod yX0_singToEachOther, Cond.selects RX0 yX0_singToEachOther yX0_singToEachOther, Cond.code yX0_singToEachOther cX0_singToEachOther 2 none, Cond.methodLink RX0 72 yX0_copyNumbers, Cond.static yX0_copyNumbers, Cond.code yX0_copyNumbers cX0_copyNumbers 2 none, Cond.methodLink RX0 80 Lib.Math.min.name, Cond.methodLink RX0 86 arraycopyName, Cond.methodLink RX0 165 yX0_listenAround, Cond.instanceMethod yX0_listenAround, Cond.selects RX0 yX0_listenAround yX0_listenAround, Cond.code yX0_listenAround cX0_listenAround 3 none, Cond.methodLink RX0 168 yX0_listenTo, Cond.instanceMethod yX0_listenTo, Cond.selects RX0 yX0_listenTo yX0_listenTo, Cond.code yX0_listenTo cX0_listenTo 9 none]
def wsL_law0_r20 : List Cond := [Cond.fieldLink RX0 172 "LanternWalk$Setting" "voice" "[I", Cond.fieldLink RX0 97 "LanternWalk$Setting" "songs" "I", Cond.fieldLink RX0 175 "LanternWalk$Setting" "songLength" "[I", Cond.methodLink RX0 149 yX0_goOn, Cond.instanceMethod yX0_goOn, Cond.selects RX0 yX0_goOn yX0_goOn, Cond.code yX0_goOn cX0_goOn 3 none, Cond.fieldLink RX0 178 "LanternWalk$Setting" "stretches" "I", Cond.methodLink RX0 181 yX0_letsThrough, Cond.methodLink RX0 184 yX0_foremostToGo, Cond.instanceMethod yX0_foremostToGo, Cond.selects RX0 yX0_foremostToGo yX0_foremostToGo, Cond.code yX0_foremostToGo cX0_foremostToGo 4 (some .int), Cond.methodLink RX0 187 yX0_walkOn, Cond.instanceMethod yX0_walkOn, Cond.selects RX0 yX0_walkOn yX0_walkOn, Cond.code yX0_walkOn cX0_walkOn 5 none, Cond.fieldLink RX0 190 "LanternWalk$Setting" "pace" "[I", Cond.methodLink RX0 193 yX0_goOnePlace, Cond.instanceMethod yX0_goOnePlace, Cond.selects RX0 yX0_goOnePlace yX0_goOnePlace, Cond.code yX0_goOnePlace cX0_goOnePlace 4 (some .boolean), Cond.fieldLink RX0 205 "LanternWalk$Setting" "places" "I", Cond.methodLink RX0 196 yX0_walkersAt]
def wsL_law0_r21 : List Cond := [Cond.instanceMethod yX0_walkersAt, Cond.selects RX0 yX0_walkersAt yX0_walkersAt, Cond.code yX0_walkersAt cX0_walkersAt 4 (some .int), Cond.methodLink RX0 199 yX1_stretchEndingAt, Cond.instanceMethod yX1_stretchEndingAt, Cond.selects RX1 yX1_stretchEndingAt yX1_stretchEndingAt, Cond.code yX1_stretchEndingAt cX1_stretchEndingAt 3 (some .int), Cond.methodLink RX0 202 yX0_passCorner, Cond.instanceMethod yX0_passCorner, Cond.selects RX0 yX0_passCorner yX0_passCorner, Cond.code yX0_passCorner cX0_passCorner 2 (some .boolean), Cond.methodLink RX0 208 yX0_comeHome, Cond.instanceMethod yX0_comeHome, Cond.selects RX0 yX0_comeHome yX0_comeHome, Cond.code yX0_comeHome cX0_comeHome 2 none, Cond.methodLink RX0 152 yX0_start, Cond.instanceMethod yX0_start, Cond.selects RX0 yX0_start yX0_start, Cond.code yX0_start cX0_start 2 none, Cond.methodLink RL 117 yX3_pass, Cond.instanceMethod yX3_pass, Cond.selects RX3 yX3_pass yX3_pass, Cond.code yX3_pass cX3_pass 4 (some .int), Cond.methodLink RX3 157 yX3_stepOn]
def wsL_law0_r22 : List Cond := [Cond.instanceMethod yX3_stepOn, Cond.selects RX3 yX3_stepOn yX3_stepOn, Cond.code yX3_stepOn cX3_stepOn 5 (some .int), Cond.methodLink RX3 144 yX3_inState, Cond.instanceMethod yX3_inState, Cond.selects RX3 yX3_inState yX3_inState, Cond.code yX3_inState cX3_inState 4 (some .int), Cond.methodLink RX3 147 yX3_burn, Cond.instanceMethod yX3_burn, Cond.selects RX3 yX3_burn yX3_burn, Cond.code yX3_burn cX3_burn 4 none, Cond.methodLink RX3 135 Lib.Math.max.name, Cond.methodLink RX3 151 yX3_sing, Cond.instanceMethod yX3_sing, Cond.selects RX3 yX3_sing yX3_sing, Cond.code yX3_sing cX3_sing 3 none, Cond.methodLink RX3 138 yX3_learnt, Cond.instanceMethod yX3_learnt, Cond.selects RX3 yX3_learnt yX3_learnt, Cond.code yX3_learnt cX3_learnt 5 (some .int), Cond.methodLink RX3 154 yX3_go, Cond.instanceMethod yX3_go, Cond.selects RX3 yX3_go yX3_go, Cond.code yX3_go cX3_go 7 none]
def wsL_law0_r23 : List Cond := [Cond.methodLink RX3 141 yX3_at, Cond.instanceMethod yX3_at, Cond.selects RX3 yX3_at yX3_at, Cond.code yX3_at cX3_at 4 (some .int), Cond.methodLink RL 118 yL_count, Cond.static yL_count, Cond.codeWith yL_count cL_count 4 (some .int) [(0, 9, 12, 20)], Cond.methodLink RL 54 yX2_count, Cond.instanceMethod yX2_count, Cond.selects RX2 yX2_count yX2_count, Cond.code yX2_count cX2_count 2 (some .int), Cond.methodLink RX2 166 yX2_tellOfAll, Cond.instanceMethod yX2_tellOfAll, Cond.selects RX2 yX2_tellOfAll yX2_tellOfAll, Cond.code yX2_tellOfAll cX2_tellOfAll 2 (some .int), Cond.fieldLink RX2 238 "LanternWalk$Setting" "places" "I", Cond.methodLink RX2 177 yX0_lanternsBurning, Cond.instanceMethod yX0_lanternsBurning, Cond.selects RX0 yX0_lanternsBurning yX0_lanternsBurning, Cond.code yX0_lanternsBurning cX0_lanternsBurning 3 (some .int), Cond.methodLink RX2 241 yX0_foremostPlace, Cond.instanceMethod yX0_foremostPlace, Cond.selects RX0 yX0_foremostPlace yX0_foremostPlace, Cond.code yX0_foremostPlace cX0_foremostPlace 3 (some .int)]
def wsL_law0_r24 : List Cond := [Cond.methodLink RX2 244 yX0_paradeLength, Cond.instanceMethod yX0_paradeLength, Cond.selects RX0 yX0_paradeLength yX0_paradeLength, Cond.code yX0_paradeLength cX0_paradeLength 4 (some .int), Cond.methodLink RX0 123 yX0_foremostPlace, Cond.methodLink RL 120 yX3_count, Cond.instanceMethod yX3_count, Cond.selects RX3 yX3_count yX3_count, Cond.code yX3_count cX3_count 2 (some .int), Cond.methodLink RX3 167 yX3_counted, Cond.instanceMethod yX3_counted, Cond.selects RX3 yX3_counted yX3_counted, Cond.code yX3_counted cX3_counted 2 (some .int), Cond.methodLink RX3 160 yX3_burning, Cond.instanceMethod yX3_burning, Cond.selects RX3 yX3_burning yX3_burning, Cond.code yX3_burning cX3_burning 3 (some .int), Cond.methodLink RX3 163 yX3_end, Cond.instanceMethod yX3_end, Cond.selects RX3 yX3_end yX3_end, Cond.code yX3_end cX3_end 4 (some .int), Cond.methodLink RL 121 yL_foresee, Cond.static yL_foresee, Cond.codeWith yL_foresee cL_foresee 5 (some .int) [(0, 10, 13, 13), (0, 10, 17, 20), (0, 10, 21, 15)]]
def wsL_law0_r25 : List Cond := [Cond.methodLink RL 57 yX2_foresee, Cond.instanceMethod yX2_foresee, Cond.selects RX2 yX2_foresee yX2_foresee, Cond.code yX2_foresee cX2_foresee 3 (some .int), Cond.methodLink RX2 173 yX0_becomeLike, Cond.instanceMethod yX0_becomeLike, Cond.selects RX0 yX0_becomeLike yX0_becomeLike, Cond.code yX0_becomeLike cX0_becomeLike 2 none, Cond.methodLink RX2 181 yX0_songsKnownInAll, Cond.instanceMethod yX0_songsKnownInAll, Cond.selects RX0 yX0_songsKnownInAll yX0_songsKnownInAll, Cond.code yX0_songsKnownInAll cX0_songsKnownInAll 3 (some .int), Cond.methodLink RX0 100 yX0_knowersOf, Cond.methodLink RL 123 yX3_foresee, Cond.instanceMethod yX3_foresee, Cond.selects RX3 yX3_foresee yX3_foresee, Cond.code yX3_foresee cX3_foresee 5 (some .int), Cond.methodLink RX3 175 yX3_kept, Cond.instanceMethod yX3_kept, Cond.selects RX3 yX3_kept yX3_kept, Cond.code yX3_kept cX3_kept 1 (some (.array (.array .int))), Cond.classLink RX3 170 "[I", Cond.methodLink RX3 171 ⟨"[I", "clone", "()Ljava/lang/Object;"⟩, Cond.sameMethod "[I" "java/lang/Object" "clone" "()Ljava/lang/Object;"]
def wsL_law0_r26 : List Cond := [Cond.native ⟨"java/lang/Object", "clone", "()Ljava/lang/Object;"⟩, Cond.instanceMethod ⟨"java/lang/Object", "clone", "()Ljava/lang/Object;"⟩, Cond.selects "[I" ⟨"[I", "clone", "()Ljava/lang/Object;"⟩ ⟨"java/lang/Object", "clone", "()Ljava/lang/Object;"⟩, Cond.methodLink RX3 179 yX3_pairs, Cond.instanceMethod yX3_pairs, Cond.selects RX3 yX3_pairs yX3_pairs, Cond.code yX3_pairs cX3_pairs 6 (some .int), Cond.methodLink RX3 182 yX3_bringBack, Cond.instanceMethod yX3_bringBack, Cond.selects RX3 yX3_bringBack yX3_bringBack, Cond.code yX3_bringBack cX3_bringBack 4 none, Cond.methodLink RL 124 yL_home, Cond.static yL_home, Cond.codeWith yL_home cL_home 4 (some .int) [(0, 9, 12, 20)], Cond.methodLink RL 60 yX2_home, Cond.instanceMethod yX2_home, Cond.selects RX2 yX2_home yX2_home, Cond.code yX2_home cX2_home 3 (some .int), Cond.methodLink RX2 184 yX0_takeStep, Cond.methodLink RL 126 yX3_home, Cond.instanceMethod yX3_home, Cond.selects RX3 yX3_home yX3_home, Cond.code yX3_home cX3_home 4 (some .int), Cond.methodLink RL 127 yL_hears]
def wsL_law0_r27 : List Cond := [Cond.static yL_hears, Cond.codeWith yL_hears cL_hears 5 (some .int) [(0, 10, 13, 20)], Cond.methodLink RL 63 yX2_hears, Cond.instanceMethod yX2_hears, Cond.selects RX2 yX2_hears yX2_hears, Cond.code yX2_hears cX2_hears 5 (some .int), Cond.methodLink RL 129 yX3_hears, Cond.instanceMethod yX3_hears, Cond.selects RX3 yX3_hears yX3_hears, Cond.code yX3_hears cX3_hears 6 (some .int), Cond.methodLink RL 130 yL_advise, Cond.static yL_advise, Cond.codeWith yL_advise cL_advise 5 (some .int) [(0, 10, 13, 20), (0, 10, 17, 13), (0, 10, 21, 15)], Cond.methodLink RL 66 yX2_advise, Cond.instanceMethod yX2_advise, Cond.selects RX2 yX2_advise yX2_advise, Cond.code yX2_advise cX2_advise 7 (some .int), Cond.methodLink RL 132 yX3_advise, Cond.instanceMethod yX3_advise, Cond.selects RX3 yX3_advise yX3_advise, Cond.code yX3_advise cX3_advise 8 (some .int), Cond.methodLink RL 133 yX2_light, Cond.instanceMethod yX2_light, Cond.selects RX2 yX2_light yX2_light]
def wsL_law0_r28 : List Cond := [Cond.code yX2_light cX2_light 2 (some .double), Cond.methodLink RL 137 yX3_light, Cond.instanceMethod yX3_light, Cond.selects RX3 yX3_light yX3_light, Cond.code yX3_light cX3_light 1 (some .double), Cond.methodLink RL 138 yX2_digest, Cond.instanceMethod yX2_digest, Cond.selects RX2 yX2_digest yX2_digest, Cond.code yX2_digest cX2_digest 5 (some .long), Cond.constantLong RX2 191 (659), Cond.methodLink RX2 193 yX2_digestWith, Cond.static yX2_digestWith, Cond.code yX2_digestWith cX2_digestWith 3 (some .long), Cond.constantLong RX2 200 (31), Cond.methodLink RX2 197 yX2_digestOfWalker, Cond.instanceMethod yX2_digestOfWalker, Cond.selects RX2 yX2_digestOfWalker yX2_digestOfWalker, Cond.code yX2_digestOfWalker cX2_digestOfWalker 7 (some .long), Cond.methodLink RL 142 yX3_digest, Cond.instanceMethod yX3_digest, Cond.selects RX3 yX3_digest yX3_digest, Cond.code yX3_digest cX3_digest 5 (some .long), Cond.constantLong RX3 186 (659), Cond.constantLong RX3 188 (31)]
def wsL_law0 : List Cond := (wsL_law0_r1 ++ (wsL_law0_r2 ++ (wsL_law0_r3 ++ (wsL_law0_r4 ++ (wsL_law0_r5 ++ (wsL_law0_r6 ++ (wsL_law0_r7 ++ (wsL_law0_r8 ++ (wsL_law0_r9 ++ (wsL_law0_r10 ++ (wsL_law0_r11 ++ (wsL_law0_r12 ++ (wsL_law0_r13 ++ (wsL_law0_r14 ++ (wsL_law0_r15 ++ (wsL_law0_r16 ++ (wsL_law0_r17 ++ (wsL_law0_r18 ++ (wsL_law0_r19 ++ (wsL_law0_r20 ++ (wsL_law0_r21 ++ (wsL_law0_r22 ++ (wsL_law0_r23 ++ (wsL_law0_r24 ++ (wsL_law0_r25 ++ (wsL_law0_r26 ++ (wsL_law0_r27 ++ wsL_law0_r28))))))))))))))))))))))))))) ++ wsX20 ++ wsX30 ++ wsX10 ++ wsX00 ++ ([] : List Cond)
def wsL_law : List Cond := wsL_law0 ++ (vx_atS RX2 32 "java/lang/IllegalArgumentException" ["java/lang/RuntimeException", "java/lang/Exception"]).filter goodWord ++ (vx_atS RX2 46 "java/lang/IllegalStateException" ["java/lang/RuntimeException", "java/lang/Exception"]).filter goodWord ++ (vx_atS RX2 59 "java/lang/IndexOutOfBoundsException" ["java/lang/RuntimeException", "java/lang/Exception"]).filter goodWord
theorem inJx145de : ∀ w ∈ wsJx145de0, w ∈ lw_tbl := by decide +kernel
theorem inJx8e188 : ∀ w ∈ wsJx8e1880, w ∈ lw_tbl := by decide +kernel
theorem inJ9 : ∀ w ∈ wsJ90, w ∈ lw_tbl := by decide +kernel
theorem inJ0 : ∀ w ∈ wsJ00, w ∈ lw_tbl := by decide +kernel
theorem inJ10 : ∀ w ∈ wsJ100, w ∈ lw_tbl := by decide +kernel
theorem inJ7 : ∀ w ∈ wsJ70, w ∈ lw_tbl := by decide +kernel
set_option maxRecDepth 20000 in
theorem ggX0_init_J7_fill_53178 : GoodIn wsX0_init wsJ7_fill_53178 := goodIn_r _ [25] (by decide +kernel) (by decide +kernel)
set_option maxRecDepth 20000 in
theorem gX0_init_J7_fill_53178 : GoodIn wsX0_init (va_wsS RX0 62 yJ7_fill_53178 wsJ7_fill_53178) := goodIn_app (goodIn_of _ (by decide +kernel)) ggX0_init_J7_fill_53178
theorem dJ9_floorMod_7cf53_0 : decode cJ9_floorMod_7cf53 0 = .ok (.iload_n 0, 1) := by decide +kernel
theorem dJ9_floorMod_7cf53_1 : decode cJ9_floorMod_7cf53 1 = .ok (.iload_n 1, 1) := by decide +kernel
theorem dJ9_floorMod_7cf53_2 : decode cJ9_floorMod_7cf53 2 = .ok (.irem, 1) := by decide +kernel
theorem dJ9_floorMod_7cf53_3 : decode cJ9_floorMod_7cf53 3 = .ok (.istore_n 2, 1) := by decide +kernel
theorem dJ9_floorMod_7cf53_4 : decode cJ9_floorMod_7cf53 4 = .ok (.iload_n 0, 1) := by decide +kernel
theorem dJ9_floorMod_7cf53_5 : decode cJ9_floorMod_7cf53 5 = .ok (.iload_n 1, 1) := by decide +kernel
theorem dJ9_floorMod_7cf53_6 : decode cJ9_floorMod_7cf53 6 = .ok (.ixor, 1) := by decide +kernel
theorem dJ9_floorMod_7cf53_7 : decode cJ9_floorMod_7cf53 7 = .ok (.ifCond .ge 11, 3) := by decide +kernel
theorem dJ9_floorMod_7cf53_10 : decode cJ9_floorMod_7cf53 10 = .ok (.iload_n 2, 1) := by decide +kernel
theorem dJ9_floorMod_7cf53_11 : decode cJ9_floorMod_7cf53 11 = .ok (.ifCond .eq 7, 3) := by decide +kernel
theorem dJ9_floorMod_7cf53_14 : decode cJ9_floorMod_7cf53 14 = .ok (.iload_n 2, 1) := by decide +kernel
theorem dJ9_floorMod_7cf53_15 : decode cJ9_floorMod_7cf53 15 = .ok (.iload_n 1, 1) := by decide +kernel
theorem dJ9_floorMod_7cf53_16 : decode cJ9_floorMod_7cf53 16 = .ok (.iadd, 1) := by decide +kernel
theorem dJ9_floorMod_7cf53_17 : decode cJ9_floorMod_7cf53 17 = .ok (.ireturn, 1) := by decide +kernel
theorem dJ9_floorMod_7cf53_18 : decode cJ9_floorMod_7cf53 18 = .ok (.iload_n 2, 1) := by decide +kernel
theorem dJ9_floorMod_7cf53_19 : decode cJ9_floorMod_7cf53 19 = .ok (.ireturn, 1) := by decide +kernel
theorem dJ9_abs_0f7a4_0 : decode cJ9_abs_0f7a4 0 = .ok (.iload_n 0, 1) := by decide +kernel
theorem dJ9_abs_0f7a4_1 : decode cJ9_abs_0f7a4 1 = .ok (.ifCond .ge 8, 3) := by decide +kernel
theorem dJ9_abs_0f7a4_4 : decode cJ9_abs_0f7a4 4 = .ok (.iload_n 0, 1) := by decide +kernel
theorem dJ9_abs_0f7a4_5 : decode cJ9_abs_0f7a4 5 = .ok (.ineg, 1) := by decide +kernel
theorem dJ9_abs_0f7a4_6 : decode cJ9_abs_0f7a4 6 = .ok (.goto 4, 3) := by decide +kernel
theorem dJ9_abs_0f7a4_9 : decode cJ9_abs_0f7a4 9 = .ok (.iload_n 0, 1) := by decide +kernel
theorem dJ9_abs_0f7a4_10 : decode cJ9_abs_0f7a4 10 = .ok (.ireturn, 1) := by decide +kernel
theorem dJ9_max_7cf53_0 : decode cJ9_max_7cf53 0 = .ok (.iload_n 0, 1) := by decide +kernel
theorem dJ9_max_7cf53_1 : decode cJ9_max_7cf53 1 = .ok (.iload_n 1, 1) := by decide +kernel
theorem dJ9_max_7cf53_2 : decode cJ9_max_7cf53 2 = .ok (.if_icmp .lt 7, 3) := by decide +kernel
theorem dJ9_max_7cf53_5 : decode cJ9_max_7cf53 5 = .ok (.iload_n 0, 1) := by decide +kernel
theorem dJ9_max_7cf53_6 : decode cJ9_max_7cf53 6 = .ok (.goto 4, 3) := by decide +kernel
theorem dJ9_max_7cf53_9 : decode cJ9_max_7cf53 9 = .ok (.iload_n 1, 1) := by decide +kernel
theorem dJ9_max_7cf53_10 : decode cJ9_max_7cf53 10 = .ok (.ireturn, 1) := by decide +kernel
theorem dJ9_min_7cf53_0 : decode cJ9_min_7cf53 0 = .ok (.iload_n 0, 1) := by decide +kernel
theorem dJ9_min_7cf53_1 : decode cJ9_min_7cf53 1 = .ok (.iload_n 1, 1) := by decide +kernel
theorem dJ9_min_7cf53_2 : decode cJ9_min_7cf53 2 = .ok (.if_icmp .gt 7, 3) := by decide +kernel
theorem dJ9_min_7cf53_5 : decode cJ9_min_7cf53 5 = .ok (.iload_n 0, 1) := by decide +kernel
theorem dJ9_min_7cf53_6 : decode cJ9_min_7cf53 6 = .ok (.goto 4, 3) := by decide +kernel
theorem dJ9_min_7cf53_9 : decode cJ9_min_7cf53 9 = .ok (.iload_n 1, 1) := by decide +kernel
theorem dJ9_min_7cf53_10 : decode cJ9_min_7cf53 10 = .ok (.ireturn, 1) := by decide +kernel
theorem dJ7_fill_53178_0 : decode cJ7_fill_53178 0 = .ok (.iconst 0, 1) := by decide +kernel
theorem dJ7_fill_53178_1 : decode cJ7_fill_53178 1 = .ok (.istore_n 2, 1) := by decide +kernel
theorem dJ7_fill_53178_2 : decode cJ7_fill_53178 2 = .ok (.aload_n 0, 1) := by decide +kernel
theorem dJ7_fill_53178_3 : decode cJ7_fill_53178 3 = .ok (.arraylength, 1) := by decide +kernel
theorem dJ7_fill_53178_4 : decode cJ7_fill_53178 4 = .ok (.istore_n 3, 1) := by decide +kernel
theorem dJ7_fill_53178_5 : decode cJ7_fill_53178 5 = .ok (.iload_n 2, 1) := by decide +kernel
theorem dJ7_fill_53178_6 : decode cJ7_fill_53178 6 = .ok (.iload_n 3, 1) := by decide +kernel
theorem dJ7_fill_53178_7 : decode cJ7_fill_53178 7 = .ok (.if_icmp .ge 13, 3) := by decide +kernel
theorem dJ7_fill_53178_10 : decode cJ7_fill_53178 10 = .ok (.aload_n 0, 1) := by decide +kernel
theorem dJ7_fill_53178_11 : decode cJ7_fill_53178 11 = .ok (.iload_n 2, 1) := by decide +kernel
theorem dJ7_fill_53178_12 : decode cJ7_fill_53178 12 = .ok (.iload_n 1, 1) := by decide +kernel
theorem dJ7_fill_53178_13 : decode cJ7_fill_53178 13 = .ok (.iastore, 1) := by decide +kernel
theorem dJ7_fill_53178_14 : decode cJ7_fill_53178 14 = .ok (.iinc 2 1, 3) := by decide +kernel
theorem dJ7_fill_53178_17 : decode cJ7_fill_53178 17 = .ok (.goto (-12), 3) := by decide +kernel
theorem dJ7_fill_53178_20 : decode cJ7_fill_53178 20 = .ok (.return_, 1) := by decide +kernel
set_option maxRecDepth 20000 in
theorem ggL_addStretch_X2_addStretch : GoodIn wsL_addStretch wsX2_addStretch := goodIn_ca (goodIn_ca (goodIn_r _ [7, 8, 9, 10, 11, 12, 13, 14, 15, 16, 17, 18, 19, 20, 21, 22, 23, 24, 25, 26, 27, 28, 29, 30, 31, 32, 33, 34, 35, 36, 37, 38, 39, 40, 41, 42, 43, 44, 45, 46, 47, 48, 49, 50, 51, 52, 53, 54, 55, 56] (by decide +kernel) (by decide +kernel)) (goodIn_sub (fun _ h => List.mem_cons_of_mem _ (List.mem_append_left _ (List.mem_append_right _ h))) (by decide +kernel))) (goodIn_sub (fun _ h => List.mem_cons_of_mem _ (List.mem_append_right _ h)) (by decide +kernel))
set_option maxRecDepth 20000 in
theorem gL_addStretch_X2_addStretch : GoodIn wsL_addStretch (wsV RL 7 RX2 yX2_addStretch wsX2_addStretch) := goodIn_app (goodIn_of _ (by decide +kernel)) ggL_addStretch_X2_addStretch
abbrev vwCl : List vw_C := [(RX0, TX0, 17), (RX1, TX1, 11), (RX2, TX2, 3), (RX3, TX3, 16)]
end
section
theorem dX0_init_0 : decode cX0_init 0 = .ok (.aload_n 0, 1) := by decide +kernel
theorem dX0_init_1 : decode cX0_init 1 = .ok (.invokespecial 3, 3) := by decide +kernel
theorem dX0_init_4 : decode cX0_init 4 = .ok (.aload_n 0, 1) := by decide +kernel
theorem dX0_init_5 : decode cX0_init 5 = .ok (.iconst 2, 1) := by decide +kernel
theorem dX0_init_6 : decode cX0_init 6 = .ok (.newarray .int, 2) := by decide +kernel
theorem dX0_init_8 : decode cX0_init 8 = .ok (.putfield 9, 3) := by decide +kernel
theorem dX0_init_11 : decode cX0_init 11 = .ok (.aload_n 0, 1) := by decide +kernel
theorem dX0_init_12 : decode cX0_init 12 = .ok (.bipush 10, 2) := by decide +kernel
theorem dX0_init_14 : decode cX0_init 14 = .ok (.newarray .int, 2) := by decide +kernel
theorem dX0_init_16 : decode cX0_init 16 = .ok (.putfield 15, 3) := by decide +kernel
theorem dX0_init_19 : decode cX0_init 19 = .ok (.aload_n 0, 1) := by decide +kernel
theorem dX0_init_20 : decode cX0_init 20 = .ok (.bipush 10, 2) := by decide +kernel
theorem dX0_init_22 : decode cX0_init 22 = .ok (.newarray .int, 2) := by decide +kernel
theorem dX0_init_24 : decode cX0_init 24 = .ok (.putfield 18, 3) := by decide +kernel
theorem dX0_init_27 : decode cX0_init 27 = .ok (.aload_n 0, 1) := by decide +kernel
theorem dX0_init_28 : decode cX0_init 28 = .ok (.bipush 20, 2) := by decide +kernel
theorem dX0_init_30 : decode cX0_init 30 = .ok (.newarray .int, 2) := by decide +kernel
theorem dX0_init_32 : decode cX0_init 32 = .ok (.putfield 21, 3) := by decide +kernel
theorem dX0_init_35 : decode cX0_init 35 = .ok (.aload_n 0, 1) := by decide +kernel
theorem dX0_init_36 : decode cX0_init 36 = .ok (.bipush 20, 2) := by decide +kernel
theorem dX0_init_38 : decode cX0_init 38 = .ok (.newarray .boolean, 2) := by decide +kernel
theorem dX0_init_40 : decode cX0_init 40 = .ok (.putfield 24, 3) := by decide +kernel
theorem dX0_init_43 : decode cX0_init 43 = .ok (.aload_n 0, 1) := by decide +kernel
theorem dX0_init_44 : decode cX0_init 44 = .ok (.bipush 20, 2) := by decide +kernel
theorem dX0_init_46 : decode cX0_init 46 = .ok (.newarray .int, 2) := by decide +kernel
theorem dX0_init_48 : decode cX0_init 48 = .ok (.putfield 28, 3) := by decide +kernel
theorem dX0_init_51 : decode cX0_init 51 = .ok (.aload_n 0, 1) := by decide +kernel
theorem dX0_init_52 : decode cX0_init 52 = .ok (.bipush 20, 2) := by decide +kernel
theorem dX0_init_54 : decode cX0_init 54 = .ok (.newarray .int, 2) := by decide +kernel
theorem dX0_init_56 : decode cX0_init 56 = .ok (.putfield 31, 3) := by decide +kernel
theorem dX0_init_59 : decode cX0_init 59 = .ok (.aload_n 0, 1) := by decide +kernel
theorem dX0_init_60 : decode cX0_init 60 = .ok (.bipush 20, 2) := by decide +kernel
theorem dX0_init_62 : decode cX0_init 62 = .ok (.newarray .int, 2) := by decide +kernel
theorem dX0_init_64 : decode cX0_init 64 = .ok (.putfield 34, 3) := by decide +kernel
theorem dX0_init_67 : decode cX0_init 67 = .ok (.aload_n 0, 1) := by decide +kernel
theorem dX0_init_68 : decode cX0_init 68 = .ok (.bipush 20, 2) := by decide +kernel
theorem dX0_init_70 : decode cX0_init 70 = .ok (.newarray .int, 2) := by decide +kernel
theorem dX0_init_72 : decode cX0_init 72 = .ok (.putfield 37, 3) := by decide +kernel
theorem dX0_init_75 : decode cX0_init 75 = .ok (.aload_n 0, 1) := by decide +kernel
theorem dX0_init_76 : decode cX0_init 76 = .ok (.bipush 120, 2) := by decide +kernel
theorem dX0_init_78 : decode cX0_init 78 = .ok (.newarray .int, 2) := by decide +kernel
theorem dX0_init_80 : decode cX0_init 80 = .ok (.putfield 40, 3) := by decide +kernel
theorem dX0_init_83 : decode cX0_init 83 = .ok (.aload_n 0, 1) := by decide +kernel
theorem dX0_init_84 : decode cX0_init 84 = .ok (.bipush 20, 2) := by decide +kernel
theorem dX0_init_86 : decode cX0_init 86 = .ok (.newarray .boolean, 2) := by decide +kernel
theorem dX0_init_88 : decode cX0_init 88 = .ok (.putfield 43, 3) := by decide +kernel
theorem dX0_init_91 : decode cX0_init 91 = .ok (.aload_n 0, 1) := by decide +kernel
theorem dX0_init_92 : decode cX0_init 92 = .ok (.bipush 120, 2) := by decide +kernel
theorem dX0_init_94 : decode cX0_init 94 = .ok (.newarray .int, 2) := by decide +kernel
theorem dX0_init_96 : decode cX0_init 96 = .ok (.putfield 46, 3) := by decide +kernel
theorem dX0_init_99 : decode cX0_init 99 = .ok (.aload_n 0, 1) := by decide +kernel
theorem dX0_init_100 : decode cX0_init 100 = .ok (.bipush 6, 2) := by decide +kernel
theorem dX0_init_102 : decode cX0_init 102 = .ok (.newarray .int, 2) := by decide +kernel
theorem dX0_init_104 : decode cX0_init 104 = .ok (.putfield 49, 3) := by decide +kernel
theorem dX0_init_107 : decode cX0_init 107 = .ok (.aload_n 0, 1) := by decide +kernel
theorem dX0_init_108 : decode cX0_init 108 = .ok (.bipush 10, 2) := by decide +kernel
theorem dX0_init_110 : decode cX0_init 110 = .ok (.newarray .int, 2) := by decide +kernel
theorem dX0_init_112 : decode cX0_init 112 = .ok (.putfield 52, 3) := by decide +kernel
theorem dX0_init_115 : decode cX0_init 115 = .ok (.aload_n 0, 1) := by decide +kernel
theorem dX0_init_116 : decode cX0_init 116 = .ok (.bipush 20, 2) := by decide +kernel
theorem dX0_init_118 : decode cX0_init 118 = .ok (.newarray .boolean, 2) := by decide +kernel
theorem dX0_init_120 : decode cX0_init 120 = .ok (.putfield 55, 3) := by decide +kernel
theorem dX0_init_123 : decode cX0_init 123 = .ok (.aload_n 0, 1) := by decide +kernel
theorem dX0_init_124 : decode cX0_init 124 = .ok (.aload_n 1, 1) := by decide +kernel
theorem dX0_init_125 : decode cX0_init 125 = .ok (.putfield 58, 3) := by decide +kernel
theorem dX0_init_128 : decode cX0_init 128 = .ok (.aload_n 0, 1) := by decide +kernel
theorem dX0_init_129 : decode cX0_init 129 = .ok (.getfield 9, 3) := by decide +kernel
theorem dX0_init_132 : decode cX0_init 132 = .ok (.iconst (-1), 1) := by decide +kernel
theorem dX0_init_133 : decode cX0_init 133 = .ok (.invokestatic 62, 3) := by decide +kernel
theorem dX0_init_136 : decode cX0_init 136 = .ok (.aload_n 0, 1) := by decide +kernel
theorem dX0_init_137 : decode cX0_init 137 = .ok (.getfield 31, 3) := by decide +kernel
theorem dX0_init_140 : decode cX0_init 140 = .ok (.iconst (-1), 1) := by decide +kernel
theorem dX0_init_141 : decode cX0_init 141 = .ok (.invokestatic 62, 3) := by decide +kernel
theorem dX0_init_144 : decode cX0_init 144 = .ok (.aload_n 0, 1) := by decide +kernel
theorem dX0_init_145 : decode cX0_init 145 = .ok (.getfield 37, 3) := by decide +kernel
theorem dX0_init_148 : decode cX0_init 148 = .ok (.iconst (-1), 1) := by decide +kernel
theorem dX0_init_149 : decode cX0_init 149 = .ok (.invokestatic 62, 3) := by decide +kernel
theorem dX0_init_152 : decode cX0_init 152 = .ok (.return_, 1) := by decide +kernel
set_option maxRecDepth 20000 in
theorem ggX0_becomeLike_X0_copyNumbers : GoodIn wsX0_becomeLike wsX0_copyNumbers := goodIn_r _ [15, 16, 17, 18, 19, 20, 21, 22, 23] (by decide +kernel) (by decide +kernel)
set_option maxRecDepth 20000 in
theorem gX0_becomeLike_X0_copyNumbers : GoodIn wsX0_becomeLike (va_wsS RX0 72 yX0_copyNumbers wsX0_copyNumbers) := goodIn_app (goodIn_of _ (by decide +kernel)) ggX0_becomeLike_X0_copyNumbers
set_option maxRecDepth 20000 in
theorem ggX0_becomeLike_X0_copyFlags : GoodIn wsX0_becomeLike wsX0_copyFlags := goodIn_r _ [26] (by decide +kernel) (by decide +kernel)
set_option maxRecDepth 20000 in
theorem gX0_becomeLike_X0_copyFlags : GoodIn wsX0_becomeLike (va_wsS RX0 76 yX0_copyFlags wsX0_copyFlags) := goodIn_app (goodIn_of _ (by decide +kernel)) ggX0_becomeLike_X0_copyFlags
theorem dX0_becomeLike_0 : decode cX0_becomeLike 0 = .ok (.aload_n 0, 1) := by decide +kernel
theorem dX0_becomeLike_1 : decode cX0_becomeLike 1 = .ok (.aload_n 1, 1) := by decide +kernel
theorem dX0_becomeLike_2 : decode cX0_becomeLike 2 = .ok (.getfield 68, 3) := by decide +kernel
theorem dX0_becomeLike_5 : decode cX0_becomeLike 5 = .ok (.putfield 68, 3) := by decide +kernel
theorem dX0_becomeLike_8 : decode cX0_becomeLike 8 = .ok (.aload_n 1, 1) := by decide +kernel
theorem dX0_becomeLike_9 : decode cX0_becomeLike 9 = .ok (.getfield 9, 3) := by decide +kernel
theorem dX0_becomeLike_12 : decode cX0_becomeLike 12 = .ok (.aload_n 0, 1) := by decide +kernel
theorem dX0_becomeLike_13 : decode cX0_becomeLike 13 = .ok (.getfield 9, 3) := by decide +kernel
theorem dX0_becomeLike_16 : decode cX0_becomeLike 16 = .ok (.invokestatic 72, 3) := by decide +kernel
theorem dX0_becomeLike_19 : decode cX0_becomeLike 19 = .ok (.aload_n 1, 1) := by decide +kernel
theorem dX0_becomeLike_20 : decode cX0_becomeLike 20 = .ok (.getfield 15, 3) := by decide +kernel
theorem dX0_becomeLike_23 : decode cX0_becomeLike 23 = .ok (.aload_n 0, 1) := by decide +kernel
theorem dX0_becomeLike_24 : decode cX0_becomeLike 24 = .ok (.getfield 15, 3) := by decide +kernel
theorem dX0_becomeLike_27 : decode cX0_becomeLike 27 = .ok (.invokestatic 72, 3) := by decide +kernel
theorem dX0_becomeLike_30 : decode cX0_becomeLike 30 = .ok (.aload_n 1, 1) := by decide +kernel
theorem dX0_becomeLike_31 : decode cX0_becomeLike 31 = .ok (.getfield 18, 3) := by decide +kernel
theorem dX0_becomeLike_34 : decode cX0_becomeLike 34 = .ok (.aload_n 0, 1) := by decide +kernel
theorem dX0_becomeLike_35 : decode cX0_becomeLike 35 = .ok (.getfield 18, 3) := by decide +kernel
theorem dX0_becomeLike_38 : decode cX0_becomeLike 38 = .ok (.invokestatic 72, 3) := by decide +kernel
theorem dX0_becomeLike_41 : decode cX0_becomeLike 41 = .ok (.aload_n 1, 1) := by decide +kernel
theorem dX0_becomeLike_42 : decode cX0_becomeLike 42 = .ok (.getfield 21, 3) := by decide +kernel
theorem dX0_becomeLike_45 : decode cX0_becomeLike 45 = .ok (.aload_n 0, 1) := by decide +kernel
theorem dX0_becomeLike_46 : decode cX0_becomeLike 46 = .ok (.getfield 21, 3) := by decide +kernel
theorem dX0_becomeLike_49 : decode cX0_becomeLike 49 = .ok (.invokestatic 72, 3) := by decide +kernel
theorem dX0_becomeLike_52 : decode cX0_becomeLike 52 = .ok (.aload_n 1, 1) := by decide +kernel
theorem dX0_becomeLike_53 : decode cX0_becomeLike 53 = .ok (.getfield 24, 3) := by decide +kernel
theorem dX0_becomeLike_56 : decode cX0_becomeLike 56 = .ok (.aload_n 0, 1) := by decide +kernel
theorem dX0_becomeLike_57 : decode cX0_becomeLike 57 = .ok (.getfield 24, 3) := by decide +kernel
theorem dX0_becomeLike_60 : decode cX0_becomeLike 60 = .ok (.invokestatic 76, 3) := by decide +kernel
theorem dX0_becomeLike_63 : decode cX0_becomeLike 63 = .ok (.aload_n 1, 1) := by decide +kernel
theorem dX0_becomeLike_64 : decode cX0_becomeLike 64 = .ok (.getfield 28, 3) := by decide +kernel
theorem dX0_becomeLike_67 : decode cX0_becomeLike 67 = .ok (.aload_n 0, 1) := by decide +kernel
theorem dX0_becomeLike_68 : decode cX0_becomeLike 68 = .ok (.getfield 28, 3) := by decide +kernel
theorem dX0_becomeLike_71 : decode cX0_becomeLike 71 = .ok (.invokestatic 72, 3) := by decide +kernel
theorem dX0_becomeLike_74 : decode cX0_becomeLike 74 = .ok (.aload_n 1, 1) := by decide +kernel
theorem dX0_becomeLike_75 : decode cX0_becomeLike 75 = .ok (.getfield 31, 3) := by decide +kernel
theorem dX0_becomeLike_78 : decode cX0_becomeLike 78 = .ok (.aload_n 0, 1) := by decide +kernel
theorem dX0_becomeLike_79 : decode cX0_becomeLike 79 = .ok (.getfield 31, 3) := by decide +kernel
theorem dX0_becomeLike_82 : decode cX0_becomeLike 82 = .ok (.invokestatic 72, 3) := by decide +kernel
theorem dX0_becomeLike_85 : decode cX0_becomeLike 85 = .ok (.aload_n 1, 1) := by decide +kernel
theorem dX0_becomeLike_86 : decode cX0_becomeLike 86 = .ok (.getfield 34, 3) := by decide +kernel
theorem dX0_becomeLike_89 : decode cX0_becomeLike 89 = .ok (.aload_n 0, 1) := by decide +kernel
theorem dX0_becomeLike_90 : decode cX0_becomeLike 90 = .ok (.getfield 34, 3) := by decide +kernel
theorem dX0_becomeLike_93 : decode cX0_becomeLike 93 = .ok (.invokestatic 72, 3) := by decide +kernel
theorem dX0_becomeLike_96 : decode cX0_becomeLike 96 = .ok (.aload_n 1, 1) := by decide +kernel
theorem dX0_becomeLike_97 : decode cX0_becomeLike 97 = .ok (.getfield 37, 3) := by decide +kernel
theorem dX0_becomeLike_100 : decode cX0_becomeLike 100 = .ok (.aload_n 0, 1) := by decide +kernel
theorem dX0_becomeLike_101 : decode cX0_becomeLike 101 = .ok (.getfield 37, 3) := by decide +kernel
theorem dX0_becomeLike_104 : decode cX0_becomeLike 104 = .ok (.invokestatic 72, 3) := by decide +kernel
theorem dX0_becomeLike_107 : decode cX0_becomeLike 107 = .ok (.aload_n 1, 1) := by decide +kernel
theorem dX0_becomeLike_108 : decode cX0_becomeLike 108 = .ok (.getfield 40, 3) := by decide +kernel
theorem dX0_becomeLike_111 : decode cX0_becomeLike 111 = .ok (.aload_n 0, 1) := by decide +kernel
theorem dX0_becomeLike_112 : decode cX0_becomeLike 112 = .ok (.getfield 40, 3) := by decide +kernel
theorem dX0_becomeLike_115 : decode cX0_becomeLike 115 = .ok (.invokestatic 72, 3) := by decide +kernel
theorem dX0_becomeLike_118 : decode cX0_becomeLike 118 = .ok (.return_, 1) := by decide +kernel
theorem dX0_copyNumbers_0 : decode cX0_copyNumbers 0 = .ok (.aload_n 0, 1) := by decide +kernel
theorem dX0_copyNumbers_1 : decode cX0_copyNumbers 1 = .ok (.iconst 0, 1) := by decide +kernel
theorem dX0_copyNumbers_2 : decode cX0_copyNumbers 2 = .ok (.aload_n 1, 1) := by decide +kernel
theorem dX0_copyNumbers_3 : decode cX0_copyNumbers 3 = .ok (.iconst 0, 1) := by decide +kernel
theorem dX0_copyNumbers_4 : decode cX0_copyNumbers 4 = .ok (.aload_n 0, 1) := by decide +kernel
theorem dX0_copyNumbers_5 : decode cX0_copyNumbers 5 = .ok (.arraylength, 1) := by decide +kernel
theorem dX0_copyNumbers_6 : decode cX0_copyNumbers 6 = .ok (.aload_n 1, 1) := by decide +kernel
theorem dX0_copyNumbers_7 : decode cX0_copyNumbers 7 = .ok (.arraylength, 1) := by decide +kernel
theorem dX0_copyNumbers_8 : decode cX0_copyNumbers 8 = .ok (.invokestatic 80, 3) := by decide +kernel
theorem dX0_copyNumbers_11 : decode cX0_copyNumbers 11 = .ok (.invokestatic 86, 3) := by decide +kernel
theorem dX0_copyNumbers_14 : decode cX0_copyNumbers 14 = .ok (.return_, 1) := by decide +kernel
theorem dX0_copyFlags_0 : decode cX0_copyFlags 0 = .ok (.iconst 0, 1) := by decide +kernel
theorem dX0_copyFlags_1 : decode cX0_copyFlags 1 = .ok (.istore_n 2, 1) := by decide +kernel
theorem dX0_copyFlags_2 : decode cX0_copyFlags 2 = .ok (.iload_n 2, 1) := by decide +kernel
theorem dX0_copyFlags_3 : decode cX0_copyFlags 3 = .ok (.aload_n 0, 1) := by decide +kernel
theorem dX0_copyFlags_4 : decode cX0_copyFlags 4 = .ok (.arraylength, 1) := by decide +kernel
theorem dX0_copyFlags_5 : decode cX0_copyFlags 5 = .ok (.if_icmp .ge 21, 3) := by decide +kernel
theorem dX0_copyFlags_8 : decode cX0_copyFlags 8 = .ok (.iload_n 2, 1) := by decide +kernel
theorem dX0_copyFlags_9 : decode cX0_copyFlags 9 = .ok (.aload_n 1, 1) := by decide +kernel
theorem dX0_copyFlags_10 : decode cX0_copyFlags 10 = .ok (.arraylength, 1) := by decide +kernel
theorem dX0_copyFlags_11 : decode cX0_copyFlags 11 = .ok (.if_icmp .ge 15, 3) := by decide +kernel
theorem dX0_copyFlags_14 : decode cX0_copyFlags 14 = .ok (.aload_n 1, 1) := by decide +kernel
theorem dX0_copyFlags_15 : decode cX0_copyFlags 15 = .ok (.iload_n 2, 1) := by decide +kernel
theorem dX0_copyFlags_16 : decode cX0_copyFlags 16 = .ok (.aload_n 0, 1) := by decide +kernel
theorem dX0_copyFlags_17 : decode cX0_copyFlags 17 = .ok (.iload_n 2, 1) := by decide +kernel
theorem dX0_copyFlags_18 : decode cX0_copyFlags 18 = .ok (.baload, 1) := by decide +kernel
theorem dX0_copyFlags_19 : decode cX0_copyFlags 19 = .ok (.bastore, 1) := by decide +kernel
theorem dX0_copyFlags_20 : decode cX0_copyFlags 20 = .ok (.iinc 2 1, 3) := by decide +kernel
theorem dX0_copyFlags_23 : decode cX0_copyFlags 23 = .ok (.goto (-21), 3) := by decide +kernel
theorem dX0_copyFlags_26 : decode cX0_copyFlags 26 = .ok (.return_, 1) := by decide +kernel
theorem dX0_howManyAre_0 : decode cX0_howManyAre 0 = .ok (.iconst 0, 1) := by decide +kernel
theorem dX0_howManyAre_1 : decode cX0_howManyAre 1 = .ok (.istore_n 2, 1) := by decide +kernel
theorem dX0_howManyAre_2 : decode cX0_howManyAre 2 = .ok (.iconst 0, 1) := by decide +kernel
theorem dX0_howManyAre_3 : decode cX0_howManyAre 3 = .ok (.istore_n 3, 1) := by decide +kernel
theorem dX0_howManyAre_4 : decode cX0_howManyAre 4 = .ok (.iload_n 3, 1) := by decide +kernel
theorem dX0_howManyAre_5 : decode cX0_howManyAre 5 = .ok (.aload_n 0, 1) := by decide +kernel
theorem dX0_howManyAre_6 : decode cX0_howManyAre 6 = .ok (.getfield 58, 3) := by decide +kernel
theorem dX0_howManyAre_9 : decode cX0_howManyAre 9 = .ok (.getfield 92, 3) := by decide +kernel
theorem dX0_howManyAre_12 : decode cX0_howManyAre 12 = .ok (.if_icmp .ge 22, 3) := by decide +kernel
theorem dX0_howManyAre_15 : decode cX0_howManyAre 15 = .ok (.aload_n 0, 1) := by decide +kernel
theorem dX0_howManyAre_16 : decode cX0_howManyAre 16 = .ok (.getfield 28, 3) := by decide +kernel
theorem dX0_howManyAre_19 : decode cX0_howManyAre 19 = .ok (.iload_n 3, 1) := by decide +kernel
theorem dX0_howManyAre_20 : decode cX0_howManyAre 20 = .ok (.iaload, 1) := by decide +kernel
theorem dX0_howManyAre_21 : decode cX0_howManyAre 21 = .ok (.iload_n 1, 1) := by decide +kernel
theorem dX0_howManyAre_22 : decode cX0_howManyAre 22 = .ok (.if_icmp .ne 6, 3) := by decide +kernel
theorem dX0_howManyAre_25 : decode cX0_howManyAre 25 = .ok (.iinc 2 1, 3) := by decide +kernel
theorem dX0_howManyAre_28 : decode cX0_howManyAre 28 = .ok (.iinc 3 1, 3) := by decide +kernel
theorem dX0_howManyAre_31 : decode cX0_howManyAre 31 = .ok (.goto (-27), 3) := by decide +kernel
theorem dX0_howManyAre_34 : decode cX0_howManyAre 34 = .ok (.iload_n 2, 1) := by decide +kernel
theorem dX0_howManyAre_35 : decode cX0_howManyAre 35 = .ok (.ireturn, 1) := by decide +kernel
theorem dX0_lanternsBurning_0 : decode cX0_lanternsBurning 0 = .ok (.iconst 0, 1) := by decide +kernel
theorem dX0_lanternsBurning_1 : decode cX0_lanternsBurning 1 = .ok (.istore_n 1, 1) := by decide +kernel
theorem dX0_lanternsBurning_2 : decode cX0_lanternsBurning 2 = .ok (.iconst 0, 1) := by decide +kernel
theorem dX0_lanternsBurning_3 : decode cX0_lanternsBurning 3 = .ok (.istore_n 2, 1) := by decide +kernel
theorem dX0_lanternsBurning_4 : decode cX0_lanternsBurning 4 = .ok (.iload_n 2, 1) := by decide +kernel
theorem dX0_lanternsBurning_5 : decode cX0_lanternsBurning 5 = .ok (.aload_n 0, 1) := by decide +kernel
theorem dX0_lanternsBurning_6 : decode cX0_lanternsBurning 6 = .ok (.getfield 58, 3) := by decide +kernel
theorem dX0_lanternsBurning_9 : decode cX0_lanternsBurning 9 = .ok (.getfield 92, 3) := by decide +kernel
theorem dX0_lanternsBurning_12 : decode cX0_lanternsBurning 12 = .ok (.if_icmp .ge 31, 3) := by decide +kernel
theorem dX0_lanternsBurning_15 : decode cX0_lanternsBurning 15 = .ok (.aload_n 0, 1) := by decide +kernel
theorem dX0_lanternsBurning_16 : decode cX0_lanternsBurning 16 = .ok (.getfield 28, 3) := by decide +kernel
theorem dX0_lanternsBurning_19 : decode cX0_lanternsBurning 19 = .ok (.iload_n 2, 1) := by decide +kernel
theorem dX0_lanternsBurning_20 : decode cX0_lanternsBurning 20 = .ok (.iaload, 1) := by decide +kernel
theorem dX0_lanternsBurning_21 : decode cX0_lanternsBurning 21 = .ok (.iconst 1, 1) := by decide +kernel
theorem dX0_lanternsBurning_22 : decode cX0_lanternsBurning 22 = .ok (.if_icmp .ne 15, 3) := by decide +kernel
theorem dX0_lanternsBurning_25 : decode cX0_lanternsBurning 25 = .ok (.aload_n 0, 1) := by decide +kernel
theorem dX0_lanternsBurning_26 : decode cX0_lanternsBurning 26 = .ok (.getfield 24, 3) := by decide +kernel
theorem dX0_lanternsBurning_29 : decode cX0_lanternsBurning 29 = .ok (.iload_n 2, 1) := by decide +kernel
theorem dX0_lanternsBurning_30 : decode cX0_lanternsBurning 30 = .ok (.baload, 1) := by decide +kernel
theorem dX0_lanternsBurning_31 : decode cX0_lanternsBurning 31 = .ok (.ifCond .eq 6, 3) := by decide +kernel
theorem dX0_lanternsBurning_34 : decode cX0_lanternsBurning 34 = .ok (.iinc 1 1, 3) := by decide +kernel
theorem dX0_lanternsBurning_37 : decode cX0_lanternsBurning 37 = .ok (.iinc 2 1, 3) := by decide +kernel
theorem dX0_lanternsBurning_40 : decode cX0_lanternsBurning 40 = .ok (.goto (-36), 3) := by decide +kernel
theorem dX0_lanternsBurning_43 : decode cX0_lanternsBurning 43 = .ok (.iload_n 1, 1) := by decide +kernel
theorem dX0_lanternsBurning_44 : decode cX0_lanternsBurning 44 = .ok (.ireturn, 1) := by decide +kernel
set_option maxRecDepth 20000 in
theorem ggX0_songsKnownInAll_X0_knowersOf : GoodIn wsX0_songsKnownInAll wsX0_knowersOf := goodIn_r _ [7, 1, 8, 9, 10, 11, 12, 13, 14, 15, 16, 17, 18, 19, 20, 21, 22, 23, 24, 25, 26, 27, 28, 29, 30, 31, 32, 33, 34, 35, 36, 37, 38, 39, 40] (by decide +kernel) (by decide +kernel)
set_option maxRecDepth 20000 in
theorem gX0_songsKnownInAll_X0_knowersOf : GoodIn wsX0_songsKnownInAll (wsV RX0 100 RX0 yX0_knowersOf wsX0_knowersOf) := goodIn_app (goodIn_of _ (by decide +kernel)) ggX0_songsKnownInAll_X0_knowersOf
theorem dX0_songsKnownInAll_0 : decode cX0_songsKnownInAll 0 = .ok (.iconst 0, 1) := by decide +kernel
theorem dX0_songsKnownInAll_1 : decode cX0_songsKnownInAll 1 = .ok (.istore_n 1, 1) := by decide +kernel
theorem dX0_songsKnownInAll_2 : decode cX0_songsKnownInAll 2 = .ok (.iconst 0, 1) := by decide +kernel
theorem dX0_songsKnownInAll_3 : decode cX0_songsKnownInAll 3 = .ok (.istore_n 2, 1) := by decide +kernel
theorem dX0_songsKnownInAll_4 : decode cX0_songsKnownInAll 4 = .ok (.iload_n 2, 1) := by decide +kernel
theorem dX0_songsKnownInAll_5 : decode cX0_songsKnownInAll 5 = .ok (.aload_n 0, 1) := by decide +kernel
theorem dX0_songsKnownInAll_6 : decode cX0_songsKnownInAll 6 = .ok (.getfield 58, 3) := by decide +kernel
theorem dX0_songsKnownInAll_9 : decode cX0_songsKnownInAll 9 = .ok (.getfield 97, 3) := by decide +kernel
theorem dX0_songsKnownInAll_12 : decode cX0_songsKnownInAll 12 = .ok (.if_icmp .ge 17, 3) := by decide +kernel
theorem dX0_songsKnownInAll_15 : decode cX0_songsKnownInAll 15 = .ok (.iload_n 1, 1) := by decide +kernel
theorem dX0_songsKnownInAll_16 : decode cX0_songsKnownInAll 16 = .ok (.aload_n 0, 1) := by decide +kernel
theorem dX0_songsKnownInAll_17 : decode cX0_songsKnownInAll 17 = .ok (.iload_n 2, 1) := by decide +kernel
theorem dX0_songsKnownInAll_18 : decode cX0_songsKnownInAll 18 = .ok (.invokevirtual 100, 3) := by decide +kernel
theorem dX0_songsKnownInAll_21 : decode cX0_songsKnownInAll 21 = .ok (.iadd, 1) := by decide +kernel
theorem dX0_songsKnownInAll_22 : decode cX0_songsKnownInAll 22 = .ok (.istore_n 1, 1) := by decide +kernel
theorem dX0_songsKnownInAll_23 : decode cX0_songsKnownInAll 23 = .ok (.iinc 2 1, 3) := by decide +kernel
theorem dX0_songsKnownInAll_26 : decode cX0_songsKnownInAll 26 = .ok (.goto (-22), 3) := by decide +kernel
theorem dX0_songsKnownInAll_29 : decode cX0_songsKnownInAll 29 = .ok (.iload_n 1, 1) := by decide +kernel
theorem dX0_songsKnownInAll_30 : decode cX0_songsKnownInAll 30 = .ok (.ireturn, 1) := by decide +kernel
set_option maxRecDepth 20000 in
theorem ggX0_knowersOf_X2_cellOf : GoodIn wsX0_knowersOf wsX2_cellOf := goodIn_r _ [6] (by decide +kernel) (by decide +kernel)
set_option maxRecDepth 20000 in
theorem gX0_knowersOf_X2_cellOf_n104 : GoodIn wsX0_knowersOf (wsX2_cellOf) := ggX0_knowersOf_X2_cellOf
theorem dX0_knowersOf_0 : decode cX0_knowersOf 0 = .ok (.iconst 0, 1) := by decide +kernel
theorem dX0_knowersOf_1 : decode cX0_knowersOf 1 = .ok (.istore_n 2, 1) := by decide +kernel
theorem dX0_knowersOf_2 : decode cX0_knowersOf 2 = .ok (.iconst 0, 1) := by decide +kernel
theorem dX0_knowersOf_3 : decode cX0_knowersOf 3 = .ok (.istore_n 3, 1) := by decide +kernel
theorem dX0_knowersOf_4 : decode cX0_knowersOf 4 = .ok (.iload_n 3, 1) := by decide +kernel
theorem dX0_knowersOf_5 : decode cX0_knowersOf 5 = .ok (.aload_n 0, 1) := by decide +kernel
theorem dX0_knowersOf_6 : decode cX0_knowersOf 6 = .ok (.getfield 58, 3) := by decide +kernel
theorem dX0_knowersOf_9 : decode cX0_knowersOf 9 = .ok (.getfield 92, 3) := by decide +kernel
theorem dX0_knowersOf_12 : decode cX0_knowersOf 12 = .ok (.if_icmp .ge 25, 3) := by decide +kernel
theorem dX0_knowersOf_15 : decode cX0_knowersOf 15 = .ok (.aload_n 0, 1) := by decide +kernel
theorem dX0_knowersOf_16 : decode cX0_knowersOf 16 = .ok (.getfield 40, 3) := by decide +kernel
theorem dX0_knowersOf_19 : decode cX0_knowersOf 19 = .ok (.iload_n 3, 1) := by decide +kernel
theorem dX0_knowersOf_20 : decode cX0_knowersOf 20 = .ok (.iload_n 1, 1) := by decide +kernel
theorem dX0_knowersOf_21 : decode cX0_knowersOf 21 = .ok (.invokestatic 104, 3) := by decide +kernel
theorem dX0_knowersOf_24 : decode cX0_knowersOf 24 = .ok (.iaload, 1) := by decide +kernel
theorem dX0_knowersOf_25 : decode cX0_knowersOf 25 = .ok (.ifCond .eq 6, 3) := by decide +kernel
theorem dX0_knowersOf_28 : decode cX0_knowersOf 28 = .ok (.iinc 2 1, 3) := by decide +kernel
theorem dX0_knowersOf_31 : decode cX0_knowersOf 31 = .ok (.iinc 3 1, 3) := by decide +kernel
theorem dX0_knowersOf_34 : decode cX0_knowersOf 34 = .ok (.goto (-30), 3) := by decide +kernel
theorem dX0_knowersOf_37 : decode cX0_knowersOf 37 = .ok (.iload_n 2, 1) := by decide +kernel
theorem dX0_knowersOf_38 : decode cX0_knowersOf 38 = .ok (.ireturn, 1) := by decide +kernel
set_option maxRecDepth 20000 in
theorem ggX0_knowersOfVersion_X2_cellOf : GoodIn wsX0_knowersOfVersion wsX2_cellOf := goodIn_r _ [6] (by decide +kernel) (by decide +kernel)
set_option maxRecDepth 20000 in
theorem gX0_knowersOfVersion_X2_cellOf_n104 : GoodIn wsX0_knowersOfVersion (wsX2_cellOf) := ggX0_knowersOfVersion_X2_cellOf
theorem dX0_knowersOfVersion_0 : decode cX0_knowersOfVersion 0 = .ok (.iconst 0, 1) := by decide +kernel
theorem dX0_knowersOfVersion_1 : decode cX0_knowersOfVersion 1 = .ok (.istore_n 3, 1) := by decide +kernel
theorem dX0_knowersOfVersion_2 : decode cX0_knowersOfVersion 2 = .ok (.iconst 0, 1) := by decide +kernel
theorem dX0_knowersOfVersion_3 : decode cX0_knowersOfVersion 3 = .ok (.istore 4, 2) := by decide +kernel
theorem dX0_knowersOfVersion_5 : decode cX0_knowersOfVersion 5 = .ok (.iload 4, 2) := by decide +kernel
theorem dX0_knowersOfVersion_7 : decode cX0_knowersOfVersion 7 = .ok (.aload_n 0, 1) := by decide +kernel
theorem dX0_knowersOfVersion_8 : decode cX0_knowersOfVersion 8 = .ok (.getfield 58, 3) := by decide +kernel
theorem dX0_knowersOfVersion_11 : decode cX0_knowersOfVersion 11 = .ok (.getfield 92, 3) := by decide +kernel
theorem dX0_knowersOfVersion_14 : decode cX0_knowersOfVersion 14 = .ok (.if_icmp .ge 27, 3) := by decide +kernel
theorem dX0_knowersOfVersion_17 : decode cX0_knowersOfVersion 17 = .ok (.aload_n 0, 1) := by decide +kernel
theorem dX0_knowersOfVersion_18 : decode cX0_knowersOfVersion 18 = .ok (.getfield 40, 3) := by decide +kernel
theorem dX0_knowersOfVersion_21 : decode cX0_knowersOfVersion 21 = .ok (.iload 4, 2) := by decide +kernel
theorem dX0_knowersOfVersion_23 : decode cX0_knowersOfVersion 23 = .ok (.iload_n 1, 1) := by decide +kernel
theorem dX0_knowersOfVersion_24 : decode cX0_knowersOfVersion 24 = .ok (.invokestatic 104, 3) := by decide +kernel
theorem dX0_knowersOfVersion_27 : decode cX0_knowersOfVersion 27 = .ok (.iaload, 1) := by decide +kernel
theorem dX0_knowersOfVersion_28 : decode cX0_knowersOfVersion 28 = .ok (.iload_n 2, 1) := by decide +kernel
theorem dX0_knowersOfVersion_29 : decode cX0_knowersOfVersion 29 = .ok (.if_icmp .ne 6, 3) := by decide +kernel
theorem dX0_knowersOfVersion_32 : decode cX0_knowersOfVersion 32 = .ok (.iinc 3 1, 3) := by decide +kernel
theorem dX0_knowersOfVersion_35 : decode cX0_knowersOfVersion 35 = .ok (.iinc 4 1, 3) := by decide +kernel
theorem dX0_knowersOfVersion_38 : decode cX0_knowersOfVersion 38 = .ok (.goto (-33), 3) := by decide +kernel
theorem dX0_knowersOfVersion_41 : decode cX0_knowersOfVersion 41 = .ok (.iload_n 3, 1) := by decide +kernel
theorem dX0_knowersOfVersion_42 : decode cX0_knowersOfVersion 42 = .ok (.ireturn, 1) := by decide +kernel
set_option maxRecDepth 20000 in
theorem ggX0_versionsOf_X0_knowersOfVersion : GoodIn wsX0_versionsOf wsX0_knowersOfVersion := goodIn_r _ [5, 6, 7, 8, 9, 10, 11, 12, 13, 14, 15, 16, 17, 18, 19, 20, 21, 22, 23, 24, 25, 26, 27, 28, 29, 30, 31, 32, 33, 34, 35, 36, 37, 38, 39] (by decide +kernel) (by decide +kernel)
set_option maxRecDepth 20000 in
theorem gX0_versionsOf_X0_knowersOfVersion : GoodIn wsX0_versionsOf (wsV RX0 107 RX0 yX0_knowersOfVersion wsX0_knowersOfVersion) := goodIn_app (goodIn_of _ (by decide +kernel)) ggX0_versionsOf_X0_knowersOfVersion
theorem dX0_versionsOf_0 : decode cX0_versionsOf 0 = .ok (.iconst 0, 1) := by decide +kernel
theorem dX0_versionsOf_1 : decode cX0_versionsOf 1 = .ok (.istore_n 2, 1) := by decide +kernel
theorem dX0_versionsOf_2 : decode cX0_versionsOf 2 = .ok (.iconst 1, 1) := by decide +kernel
theorem dX0_versionsOf_3 : decode cX0_versionsOf 3 = .ok (.istore_n 3, 1) := by decide +kernel
theorem dX0_versionsOf_4 : decode cX0_versionsOf 4 = .ok (.iload_n 3, 1) := by decide +kernel
theorem dX0_versionsOf_5 : decode cX0_versionsOf 5 = .ok (.bipush 99, 2) := by decide +kernel
theorem dX0_versionsOf_7 : decode cX0_versionsOf 7 = .ok (.if_icmp .gt 21, 3) := by decide +kernel
theorem dX0_versionsOf_10 : decode cX0_versionsOf 10 = .ok (.aload_n 0, 1) := by decide +kernel
theorem dX0_versionsOf_11 : decode cX0_versionsOf 11 = .ok (.iload_n 1, 1) := by decide +kernel
theorem dX0_versionsOf_12 : decode cX0_versionsOf 12 = .ok (.iload_n 3, 1) := by decide +kernel
theorem dX0_versionsOf_13 : decode cX0_versionsOf 13 = .ok (.invokevirtual 107, 3) := by decide +kernel
theorem dX0_versionsOf_16 : decode cX0_versionsOf 16 = .ok (.ifCond .le 6, 3) := by decide +kernel
theorem dX0_versionsOf_19 : decode cX0_versionsOf 19 = .ok (.iinc 2 1, 3) := by decide +kernel
theorem dX0_versionsOf_22 : decode cX0_versionsOf 22 = .ok (.iinc 3 1, 3) := by decide +kernel
theorem dX0_versionsOf_25 : decode cX0_versionsOf 25 = .ok (.goto (-21), 3) := by decide +kernel
theorem dX0_versionsOf_28 : decode cX0_versionsOf 28 = .ok (.iload_n 2, 1) := by decide +kernel
theorem dX0_versionsOf_29 : decode cX0_versionsOf 29 = .ok (.ireturn, 1) := by decide +kernel
set_option maxRecDepth 20000 in
theorem ggX0_commonestVersionOf_X0_knowersOfVersion : GoodIn wsX0_commonestVersionOf wsX0_knowersOfVersion := goodIn_r _ [5, 6, 7, 8, 9, 10, 11, 12, 13, 14, 15, 16, 17, 18, 19, 20, 21, 22, 23, 24, 25, 26, 27, 28, 29, 30, 31, 32, 33, 34, 35, 36, 37, 38, 39] (by decide +kernel) (by decide +kernel)
set_option maxRecDepth 20000 in
theorem gX0_commonestVersionOf_X0_knowersOfVersion : GoodIn wsX0_commonestVersionOf (wsV RX0 107 RX0 yX0_knowersOfVersion wsX0_knowersOfVersion) := goodIn_app (goodIn_of _ (by decide +kernel)) ggX0_commonestVersionOf_X0_knowersOfVersion
theorem dX0_commonestVersionOf_0 : decode cX0_commonestVersionOf 0 = .ok (.iconst 0, 1) := by decide +kernel
theorem dX0_commonestVersionOf_1 : decode cX0_commonestVersionOf 1 = .ok (.istore_n 2, 1) := by decide +kernel
theorem dX0_commonestVersionOf_2 : decode cX0_commonestVersionOf 2 = .ok (.iconst 0, 1) := by decide +kernel
theorem dX0_commonestVersionOf_3 : decode cX0_commonestVersionOf 3 = .ok (.istore_n 3, 1) := by decide +kernel
theorem dX0_commonestVersionOf_4 : decode cX0_commonestVersionOf 4 = .ok (.iconst 1, 1) := by decide +kernel
theorem dX0_commonestVersionOf_5 : decode cX0_commonestVersionOf 5 = .ok (.istore 4, 2) := by decide +kernel
theorem dX0_commonestVersionOf_7 : decode cX0_commonestVersionOf 7 = .ok (.iload 4, 2) := by decide +kernel
theorem dX0_commonestVersionOf_9 : decode cX0_commonestVersionOf 9 = .ok (.bipush 99, 2) := by decide +kernel
theorem dX0_commonestVersionOf_11 : decode cX0_commonestVersionOf 11 = .ok (.if_icmp .gt 30, 3) := by decide +kernel
theorem dX0_commonestVersionOf_14 : decode cX0_commonestVersionOf 14 = .ok (.aload_n 0, 1) := by decide +kernel
theorem dX0_commonestVersionOf_15 : decode cX0_commonestVersionOf 15 = .ok (.iload_n 1, 1) := by decide +kernel
theorem dX0_commonestVersionOf_16 : decode cX0_commonestVersionOf 16 = .ok (.iload 4, 2) := by decide +kernel
theorem dX0_commonestVersionOf_18 : decode cX0_commonestVersionOf 18 = .ok (.invokevirtual 107, 3) := by decide +kernel
theorem dX0_commonestVersionOf_21 : decode cX0_commonestVersionOf 21 = .ok (.istore 5, 2) := by decide +kernel
theorem dX0_commonestVersionOf_23 : decode cX0_commonestVersionOf 23 = .ok (.iload 5, 2) := by decide +kernel
theorem dX0_commonestVersionOf_25 : decode cX0_commonestVersionOf 25 = .ok (.iload_n 3, 1) := by decide +kernel
theorem dX0_commonestVersionOf_26 : decode cX0_commonestVersionOf 26 = .ok (.if_icmp .le 9, 3) := by decide +kernel
theorem dX0_commonestVersionOf_29 : decode cX0_commonestVersionOf 29 = .ok (.iload 5, 2) := by decide +kernel
theorem dX0_commonestVersionOf_31 : decode cX0_commonestVersionOf 31 = .ok (.istore_n 3, 1) := by decide +kernel
theorem dX0_commonestVersionOf_32 : decode cX0_commonestVersionOf 32 = .ok (.iload 4, 2) := by decide +kernel
theorem dX0_commonestVersionOf_34 : decode cX0_commonestVersionOf 34 = .ok (.istore_n 2, 1) := by decide +kernel
theorem dX0_commonestVersionOf_35 : decode cX0_commonestVersionOf 35 = .ok (.iinc 4 1, 3) := by decide +kernel
theorem dX0_commonestVersionOf_38 : decode cX0_commonestVersionOf 38 = .ok (.goto (-31), 3) := by decide +kernel
theorem dX0_commonestVersionOf_41 : decode cX0_commonestVersionOf 41 = .ok (.iload_n 2, 1) := by decide +kernel
theorem dX0_commonestVersionOf_42 : decode cX0_commonestVersionOf 42 = .ok (.ireturn, 1) := by decide +kernel
theorem dX0_letsThrough_0 : decode cX0_letsThrough 0 = .ok (.aload_n 0, 1) := by decide +kernel
theorem dX0_letsThrough_1 : decode cX0_letsThrough 1 = .ok (.getfield 58, 3) := by decide +kernel
theorem dX0_letsThrough_4 : decode cX0_letsThrough 4 = .ok (.getfield 110, 3) := by decide +kernel
theorem dX0_letsThrough_7 : decode cX0_letsThrough 7 = .ok (.iload_n 1, 1) := by decide +kernel
theorem dX0_letsThrough_8 : decode cX0_letsThrough 8 = .ok (.iaload, 1) := by decide +kernel
theorem dX0_letsThrough_9 : decode cX0_letsThrough 9 = .ok (.istore_n 2, 1) := by decide +kernel
theorem dX0_letsThrough_10 : decode cX0_letsThrough 10 = .ok (.iconst 0, 1) := by decide +kernel
theorem dX0_letsThrough_11 : decode cX0_letsThrough 11 = .ok (.istore_n 3, 1) := by decide +kernel
theorem dX0_letsThrough_12 : decode cX0_letsThrough 12 = .ok (.iload_n 3, 1) := by decide +kernel
theorem dX0_letsThrough_13 : decode cX0_letsThrough 13 = .ok (.iconst 2, 1) := by decide +kernel
theorem dX0_letsThrough_14 : decode cX0_letsThrough 14 = .ok (.if_icmp .ge 22, 3) := by decide +kernel
theorem dX0_letsThrough_17 : decode cX0_letsThrough 17 = .ok (.aload_n 0, 1) := by decide +kernel
theorem dX0_letsThrough_18 : decode cX0_letsThrough 18 = .ok (.getfield 9, 3) := by decide +kernel
theorem dX0_letsThrough_21 : decode cX0_letsThrough 21 = .ok (.iload_n 3, 1) := by decide +kernel
theorem dX0_letsThrough_22 : decode cX0_letsThrough 22 = .ok (.iaload, 1) := by decide +kernel
theorem dX0_letsThrough_23 : decode cX0_letsThrough 23 = .ok (.iload_n 1, 1) := by decide +kernel
theorem dX0_letsThrough_24 : decode cX0_letsThrough 24 = .ok (.if_icmp .ne 6, 3) := by decide +kernel
theorem dX0_letsThrough_27 : decode cX0_letsThrough 27 = .ok (.iinc 2 1, 3) := by decide +kernel
theorem dX0_letsThrough_30 : decode cX0_letsThrough 30 = .ok (.iinc 3 1, 3) := by decide +kernel
theorem dX0_letsThrough_33 : decode cX0_letsThrough 33 = .ok (.goto (-21), 3) := by decide +kernel
theorem dX0_letsThrough_36 : decode cX0_letsThrough 36 = .ok (.iload_n 2, 1) := by decide +kernel
theorem dX0_letsThrough_37 : decode cX0_letsThrough 37 = .ok (.ireturn, 1) := by decide +kernel
theorem dX0_walkersOn_0 : decode cX0_walkersOn 0 = .ok (.aload_n 0, 1) := by decide +kernel
theorem dX0_walkersOn_1 : decode cX0_walkersOn 1 = .ok (.getfield 58, 3) := by decide +kernel
theorem dX0_walkersOn_4 : decode cX0_walkersOn 4 = .ok (.getfield 113, 3) := by decide +kernel
theorem dX0_walkersOn_7 : decode cX0_walkersOn 7 = .ok (.iload_n 1, 1) := by decide +kernel
theorem dX0_walkersOn_8 : decode cX0_walkersOn 8 = .ok (.iaload, 1) := by decide +kernel
theorem dX0_walkersOn_9 : decode cX0_walkersOn 9 = .ok (.istore_n 2, 1) := by decide +kernel
theorem dX0_walkersOn_10 : decode cX0_walkersOn 10 = .ok (.iload_n 2, 1) := by decide +kernel
theorem dX0_walkersOn_11 : decode cX0_walkersOn 11 = .ok (.aload_n 0, 1) := by decide +kernel
theorem dX0_walkersOn_12 : decode cX0_walkersOn 12 = .ok (.getfield 58, 3) := by decide +kernel
theorem dX0_walkersOn_15 : decode cX0_walkersOn 15 = .ok (.getfield 116, 3) := by decide +kernel
theorem dX0_walkersOn_18 : decode cX0_walkersOn 18 = .ok (.iload_n 1, 1) := by decide +kernel
theorem dX0_walkersOn_19 : decode cX0_walkersOn 19 = .ok (.iaload, 1) := by decide +kernel
theorem dX0_walkersOn_20 : decode cX0_walkersOn 20 = .ok (.iadd, 1) := by decide +kernel
theorem dX0_walkersOn_21 : decode cX0_walkersOn 21 = .ok (.istore_n 3, 1) := by decide +kernel
theorem dX0_walkersOn_22 : decode cX0_walkersOn 22 = .ok (.iconst 0, 1) := by decide +kernel
theorem dX0_walkersOn_23 : decode cX0_walkersOn 23 = .ok (.istore 4, 2) := by decide +kernel
theorem dX0_walkersOn_25 : decode cX0_walkersOn 25 = .ok (.iconst 0, 1) := by decide +kernel
theorem dX0_walkersOn_26 : decode cX0_walkersOn 26 = .ok (.istore 5, 2) := by decide +kernel
theorem dX0_walkersOn_28 : decode cX0_walkersOn 28 = .ok (.iload 5, 2) := by decide +kernel
theorem dX0_walkersOn_30 : decode cX0_walkersOn 30 = .ok (.aload_n 0, 1) := by decide +kernel
theorem dX0_walkersOn_31 : decode cX0_walkersOn 31 = .ok (.getfield 58, 3) := by decide +kernel
theorem dX0_walkersOn_34 : decode cX0_walkersOn 34 = .ok (.getfield 92, 3) := by decide +kernel
theorem dX0_walkersOn_37 : decode cX0_walkersOn 37 = .ok (.if_icmp .ge 45, 3) := by decide +kernel
theorem dX0_walkersOn_40 : decode cX0_walkersOn 40 = .ok (.aload_n 0, 1) := by decide +kernel
theorem dX0_walkersOn_41 : decode cX0_walkersOn 41 = .ok (.getfield 28, 3) := by decide +kernel
theorem dX0_walkersOn_44 : decode cX0_walkersOn 44 = .ok (.iload 5, 2) := by decide +kernel
theorem dX0_walkersOn_46 : decode cX0_walkersOn 46 = .ok (.iaload, 1) := by decide +kernel
theorem dX0_walkersOn_47 : decode cX0_walkersOn 47 = .ok (.iconst 1, 1) := by decide +kernel
theorem dX0_walkersOn_48 : decode cX0_walkersOn 48 = .ok (.if_icmp .ne 28, 3) := by decide +kernel
theorem dX0_walkersOn_51 : decode cX0_walkersOn 51 = .ok (.aload_n 0, 1) := by decide +kernel
theorem dX0_walkersOn_52 : decode cX0_walkersOn 52 = .ok (.getfield 31, 3) := by decide +kernel
theorem dX0_walkersOn_55 : decode cX0_walkersOn 55 = .ok (.iload 5, 2) := by decide +kernel
theorem dX0_walkersOn_57 : decode cX0_walkersOn 57 = .ok (.iaload, 1) := by decide +kernel
theorem dX0_walkersOn_58 : decode cX0_walkersOn 58 = .ok (.iload_n 2, 1) := by decide +kernel
theorem dX0_walkersOn_59 : decode cX0_walkersOn 59 = .ok (.if_icmp .lt 17, 3) := by decide +kernel
theorem dX0_walkersOn_62 : decode cX0_walkersOn 62 = .ok (.aload_n 0, 1) := by decide +kernel
theorem dX0_walkersOn_63 : decode cX0_walkersOn 63 = .ok (.getfield 31, 3) := by decide +kernel
theorem dX0_walkersOn_66 : decode cX0_walkersOn 66 = .ok (.iload 5, 2) := by decide +kernel
theorem dX0_walkersOn_68 : decode cX0_walkersOn 68 = .ok (.iaload, 1) := by decide +kernel
theorem dX0_walkersOn_69 : decode cX0_walkersOn 69 = .ok (.iload_n 3, 1) := by decide +kernel
theorem dX0_walkersOn_70 : decode cX0_walkersOn 70 = .ok (.if_icmp .ge 6, 3) := by decide +kernel
theorem dX0_walkersOn_73 : decode cX0_walkersOn 73 = .ok (.iinc 4 1, 3) := by decide +kernel
theorem dX0_walkersOn_76 : decode cX0_walkersOn 76 = .ok (.iinc 5 1, 3) := by decide +kernel
theorem dX0_walkersOn_79 : decode cX0_walkersOn 79 = .ok (.goto (-51), 3) := by decide +kernel
theorem dX0_walkersOn_82 : decode cX0_walkersOn 82 = .ok (.iload 4, 2) := by decide +kernel
theorem dX0_walkersOn_84 : decode cX0_walkersOn 84 = .ok (.ireturn, 1) := by decide +kernel
theorem dX0_walkersAt_0 : decode cX0_walkersAt 0 = .ok (.iconst 0, 1) := by decide +kernel
theorem dX0_walkersAt_1 : decode cX0_walkersAt 1 = .ok (.istore_n 2, 1) := by decide +kernel
theorem dX0_walkersAt_2 : decode cX0_walkersAt 2 = .ok (.iconst 0, 1) := by decide +kernel
theorem dX0_walkersAt_3 : decode cX0_walkersAt 3 = .ok (.istore_n 3, 1) := by decide +kernel
theorem dX0_walkersAt_4 : decode cX0_walkersAt 4 = .ok (.iload_n 3, 1) := by decide +kernel
theorem dX0_walkersAt_5 : decode cX0_walkersAt 5 = .ok (.aload_n 0, 1) := by decide +kernel
theorem dX0_walkersAt_6 : decode cX0_walkersAt 6 = .ok (.getfield 58, 3) := by decide +kernel
theorem dX0_walkersAt_9 : decode cX0_walkersAt 9 = .ok (.getfield 92, 3) := by decide +kernel
theorem dX0_walkersAt_12 : decode cX0_walkersAt 12 = .ok (.if_icmp .ge 32, 3) := by decide +kernel
theorem dX0_walkersAt_15 : decode cX0_walkersAt 15 = .ok (.aload_n 0, 1) := by decide +kernel
theorem dX0_walkersAt_16 : decode cX0_walkersAt 16 = .ok (.getfield 28, 3) := by decide +kernel
theorem dX0_walkersAt_19 : decode cX0_walkersAt 19 = .ok (.iload_n 3, 1) := by decide +kernel
theorem dX0_walkersAt_20 : decode cX0_walkersAt 20 = .ok (.iaload, 1) := by decide +kernel
theorem dX0_walkersAt_21 : decode cX0_walkersAt 21 = .ok (.iconst 1, 1) := by decide +kernel
theorem dX0_walkersAt_22 : decode cX0_walkersAt 22 = .ok (.if_icmp .ne 16, 3) := by decide +kernel
theorem dX0_walkersAt_25 : decode cX0_walkersAt 25 = .ok (.aload_n 0, 1) := by decide +kernel
theorem dX0_walkersAt_26 : decode cX0_walkersAt 26 = .ok (.getfield 31, 3) := by decide +kernel
theorem dX0_walkersAt_29 : decode cX0_walkersAt 29 = .ok (.iload_n 3, 1) := by decide +kernel
theorem dX0_walkersAt_30 : decode cX0_walkersAt 30 = .ok (.iaload, 1) := by decide +kernel
theorem dX0_walkersAt_31 : decode cX0_walkersAt 31 = .ok (.iload_n 1, 1) := by decide +kernel
theorem dX0_walkersAt_32 : decode cX0_walkersAt 32 = .ok (.if_icmp .ne 6, 3) := by decide +kernel
theorem dX0_walkersAt_35 : decode cX0_walkersAt 35 = .ok (.iinc 2 1, 3) := by decide +kernel
theorem dX0_walkersAt_38 : decode cX0_walkersAt 38 = .ok (.iinc 3 1, 3) := by decide +kernel
theorem dX0_walkersAt_41 : decode cX0_walkersAt 41 = .ok (.goto (-37), 3) := by decide +kernel
theorem dX0_walkersAt_44 : decode cX0_walkersAt 44 = .ok (.iload_n 2, 1) := by decide +kernel
theorem dX0_walkersAt_45 : decode cX0_walkersAt 45 = .ok (.ireturn, 1) := by decide +kernel
theorem dX0_areNeighbours_0 : decode cX0_areNeighbours 0 = .ok (.iload_n 1, 1) := by decide +kernel
theorem dX0_areNeighbours_1 : decode cX0_areNeighbours 1 = .ok (.iload_n 2, 1) := by decide +kernel
theorem dX0_areNeighbours_2 : decode cX0_areNeighbours 2 = .ok (.if_icmp .eq 61, 3) := by decide +kernel
theorem dX0_areNeighbours_5 : decode cX0_areNeighbours 5 = .ok (.aload_n 0, 1) := by decide +kernel
theorem dX0_areNeighbours_6 : decode cX0_areNeighbours 6 = .ok (.getfield 28, 3) := by decide +kernel
theorem dX0_areNeighbours_9 : decode cX0_areNeighbours 9 = .ok (.iload_n 1, 1) := by decide +kernel
theorem dX0_areNeighbours_10 : decode cX0_areNeighbours 10 = .ok (.iaload, 1) := by decide +kernel
theorem dX0_areNeighbours_11 : decode cX0_areNeighbours 11 = .ok (.iconst 1, 1) := by decide +kernel
theorem dX0_areNeighbours_12 : decode cX0_areNeighbours 12 = .ok (.if_icmp .ne 51, 3) := by decide +kernel
theorem dX0_areNeighbours_15 : decode cX0_areNeighbours 15 = .ok (.aload_n 0, 1) := by decide +kernel
theorem dX0_areNeighbours_16 : decode cX0_areNeighbours 16 = .ok (.getfield 28, 3) := by decide +kernel
theorem dX0_areNeighbours_19 : decode cX0_areNeighbours 19 = .ok (.iload_n 2, 1) := by decide +kernel
theorem dX0_areNeighbours_20 : decode cX0_areNeighbours 20 = .ok (.iaload, 1) := by decide +kernel
theorem dX0_areNeighbours_21 : decode cX0_areNeighbours 21 = .ok (.iconst 1, 1) := by decide +kernel
theorem dX0_areNeighbours_22 : decode cX0_areNeighbours 22 = .ok (.if_icmp .ne 41, 3) := by decide +kernel
theorem dX0_areNeighbours_25 : decode cX0_areNeighbours 25 = .ok (.aload_n 0, 1) := by decide +kernel
theorem dX0_areNeighbours_26 : decode cX0_areNeighbours 26 = .ok (.getfield 31, 3) := by decide +kernel
theorem dX0_areNeighbours_29 : decode cX0_areNeighbours 29 = .ok (.iload_n 1, 1) := by decide +kernel
theorem dX0_areNeighbours_30 : decode cX0_areNeighbours 30 = .ok (.iaload, 1) := by decide +kernel
theorem dX0_areNeighbours_31 : decode cX0_areNeighbours 31 = .ok (.aload_n 0, 1) := by decide +kernel
theorem dX0_areNeighbours_32 : decode cX0_areNeighbours 32 = .ok (.getfield 31, 3) := by decide +kernel
theorem dX0_areNeighbours_35 : decode cX0_areNeighbours 35 = .ok (.iload_n 2, 1) := by decide +kernel
theorem dX0_areNeighbours_36 : decode cX0_areNeighbours 36 = .ok (.iaload, 1) := by decide +kernel
theorem dX0_areNeighbours_37 : decode cX0_areNeighbours 37 = .ok (.isub, 1) := by decide +kernel
theorem dX0_areNeighbours_38 : decode cX0_areNeighbours 38 = .ok (.iconst 1, 1) := by decide +kernel
theorem dX0_areNeighbours_39 : decode cX0_areNeighbours 39 = .ok (.if_icmp .gt 24, 3) := by decide +kernel
theorem dX0_areNeighbours_42 : decode cX0_areNeighbours 42 = .ok (.aload_n 0, 1) := by decide +kernel
theorem dX0_areNeighbours_43 : decode cX0_areNeighbours 43 = .ok (.getfield 31, 3) := by decide +kernel
theorem dX0_areNeighbours_46 : decode cX0_areNeighbours 46 = .ok (.iload_n 2, 1) := by decide +kernel
theorem dX0_areNeighbours_47 : decode cX0_areNeighbours 47 = .ok (.iaload, 1) := by decide +kernel
theorem dX0_areNeighbours_48 : decode cX0_areNeighbours 48 = .ok (.aload_n 0, 1) := by decide +kernel
theorem dX0_areNeighbours_49 : decode cX0_areNeighbours 49 = .ok (.getfield 31, 3) := by decide +kernel
theorem dX0_areNeighbours_52 : decode cX0_areNeighbours 52 = .ok (.iload_n 1, 1) := by decide +kernel
theorem dX0_areNeighbours_53 : decode cX0_areNeighbours 53 = .ok (.iaload, 1) := by decide +kernel
theorem dX0_areNeighbours_54 : decode cX0_areNeighbours 54 = .ok (.isub, 1) := by decide +kernel
theorem dX0_areNeighbours_55 : decode cX0_areNeighbours 55 = .ok (.iconst 1, 1) := by decide +kernel
theorem dX0_areNeighbours_56 : decode cX0_areNeighbours 56 = .ok (.if_icmp .gt 7, 3) := by decide +kernel
theorem dX0_areNeighbours_59 : decode cX0_areNeighbours 59 = .ok (.iconst 1, 1) := by decide +kernel
theorem dX0_areNeighbours_60 : decode cX0_areNeighbours 60 = .ok (.goto 4, 3) := by decide +kernel
theorem dX0_areNeighbours_63 : decode cX0_areNeighbours 63 = .ok (.iconst 0, 1) := by decide +kernel
theorem dX0_areNeighbours_64 : decode cX0_areNeighbours 64 = .ok (.ireturn, 1) := by decide +kernel
set_option maxRecDepth 20000 in
theorem ggX0_neighboursOf_X0_areNeighbours : GoodIn wsX0_neighboursOf wsX0_areNeighbours := goodIn_r _ [7, 8, 9, 10, 11, 12, 13, 14, 15, 16, 17, 18, 19, 20, 21, 22, 23, 24, 25, 26] (by decide +kernel) (by decide +kernel)
set_option maxRecDepth 20000 in
theorem gX0_neighboursOf_X0_areNeighbours : GoodIn wsX0_neighboursOf (wsV RX0 119 RX0 yX0_areNeighbours wsX0_areNeighbours) := goodIn_app (goodIn_of _ (by decide +kernel)) ggX0_neighboursOf_X0_areNeighbours
theorem dX0_neighboursOf_0 : decode cX0_neighboursOf 0 = .ok (.iconst 0, 1) := by decide +kernel
theorem dX0_neighboursOf_1 : decode cX0_neighboursOf 1 = .ok (.istore_n 2, 1) := by decide +kernel
theorem dX0_neighboursOf_2 : decode cX0_neighboursOf 2 = .ok (.iconst 0, 1) := by decide +kernel
theorem dX0_neighboursOf_3 : decode cX0_neighboursOf 3 = .ok (.istore_n 3, 1) := by decide +kernel
theorem dX0_neighboursOf_4 : decode cX0_neighboursOf 4 = .ok (.iload_n 3, 1) := by decide +kernel
theorem dX0_neighboursOf_5 : decode cX0_neighboursOf 5 = .ok (.aload_n 0, 1) := by decide +kernel
theorem dX0_neighboursOf_6 : decode cX0_neighboursOf 6 = .ok (.getfield 58, 3) := by decide +kernel
theorem dX0_neighboursOf_9 : decode cX0_neighboursOf 9 = .ok (.getfield 92, 3) := by decide +kernel
theorem dX0_neighboursOf_12 : decode cX0_neighboursOf 12 = .ok (.if_icmp .ge 21, 3) := by decide +kernel
theorem dX0_neighboursOf_15 : decode cX0_neighboursOf 15 = .ok (.aload_n 0, 1) := by decide +kernel
theorem dX0_neighboursOf_16 : decode cX0_neighboursOf 16 = .ok (.iload_n 1, 1) := by decide +kernel
theorem dX0_neighboursOf_17 : decode cX0_neighboursOf 17 = .ok (.iload_n 3, 1) := by decide +kernel
theorem dX0_neighboursOf_18 : decode cX0_neighboursOf 18 = .ok (.invokevirtual 119, 3) := by decide +kernel
theorem dX0_neighboursOf_21 : decode cX0_neighboursOf 21 = .ok (.ifCond .eq 6, 3) := by decide +kernel
theorem dX0_neighboursOf_24 : decode cX0_neighboursOf 24 = .ok (.iinc 2 1, 3) := by decide +kernel
theorem dX0_neighboursOf_27 : decode cX0_neighboursOf 27 = .ok (.iinc 3 1, 3) := by decide +kernel
theorem dX0_neighboursOf_30 : decode cX0_neighboursOf 30 = .ok (.goto (-26), 3) := by decide +kernel
theorem dX0_neighboursOf_33 : decode cX0_neighboursOf 33 = .ok (.iload_n 2, 1) := by decide +kernel
theorem dX0_neighboursOf_34 : decode cX0_neighboursOf 34 = .ok (.ireturn, 1) := by decide +kernel
theorem dX0_foremostPlace_0 : decode cX0_foremostPlace 0 = .ok (.iconst (-1), 1) := by decide +kernel
theorem dX0_foremostPlace_1 : decode cX0_foremostPlace 1 = .ok (.istore_n 1, 1) := by decide +kernel
theorem dX0_foremostPlace_2 : decode cX0_foremostPlace 2 = .ok (.iconst 0, 1) := by decide +kernel
theorem dX0_foremostPlace_3 : decode cX0_foremostPlace 3 = .ok (.istore_n 2, 1) := by decide +kernel
theorem dX0_foremostPlace_4 : decode cX0_foremostPlace 4 = .ok (.iload_n 2, 1) := by decide +kernel
theorem dX0_foremostPlace_5 : decode cX0_foremostPlace 5 = .ok (.aload_n 0, 1) := by decide +kernel
theorem dX0_foremostPlace_6 : decode cX0_foremostPlace 6 = .ok (.getfield 58, 3) := by decide +kernel
theorem dX0_foremostPlace_9 : decode cX0_foremostPlace 9 = .ok (.getfield 92, 3) := by decide +kernel
theorem dX0_foremostPlace_12 : decode cX0_foremostPlace 12 = .ok (.if_icmp .ge 36, 3) := by decide +kernel
theorem dX0_foremostPlace_15 : decode cX0_foremostPlace 15 = .ok (.aload_n 0, 1) := by decide +kernel
theorem dX0_foremostPlace_16 : decode cX0_foremostPlace 16 = .ok (.getfield 28, 3) := by decide +kernel
theorem dX0_foremostPlace_19 : decode cX0_foremostPlace 19 = .ok (.iload_n 2, 1) := by decide +kernel
theorem dX0_foremostPlace_20 : decode cX0_foremostPlace 20 = .ok (.iaload, 1) := by decide +kernel
theorem dX0_foremostPlace_21 : decode cX0_foremostPlace 21 = .ok (.iconst 1, 1) := by decide +kernel
theorem dX0_foremostPlace_22 : decode cX0_foremostPlace 22 = .ok (.if_icmp .ne 20, 3) := by decide +kernel
theorem dX0_foremostPlace_25 : decode cX0_foremostPlace 25 = .ok (.aload_n 0, 1) := by decide +kernel
theorem dX0_foremostPlace_26 : decode cX0_foremostPlace 26 = .ok (.getfield 31, 3) := by decide +kernel
theorem dX0_foremostPlace_29 : decode cX0_foremostPlace 29 = .ok (.iload_n 2, 1) := by decide +kernel
theorem dX0_foremostPlace_30 : decode cX0_foremostPlace 30 = .ok (.iaload, 1) := by decide +kernel
theorem dX0_foremostPlace_31 : decode cX0_foremostPlace 31 = .ok (.iload_n 1, 1) := by decide +kernel
theorem dX0_foremostPlace_32 : decode cX0_foremostPlace 32 = .ok (.if_icmp .le 10, 3) := by decide +kernel
theorem dX0_foremostPlace_35 : decode cX0_foremostPlace 35 = .ok (.aload_n 0, 1) := by decide +kernel
theorem dX0_foremostPlace_36 : decode cX0_foremostPlace 36 = .ok (.getfield 31, 3) := by decide +kernel
theorem dX0_foremostPlace_39 : decode cX0_foremostPlace 39 = .ok (.iload_n 2, 1) := by decide +kernel
theorem dX0_foremostPlace_40 : decode cX0_foremostPlace 40 = .ok (.iaload, 1) := by decide +kernel
theorem dX0_foremostPlace_41 : decode cX0_foremostPlace 41 = .ok (.istore_n 1, 1) := by decide +kernel
theorem dX0_foremostPlace_42 : decode cX0_foremostPlace 42 = .ok (.iinc 2 1, 3) := by decide +kernel
theorem dX0_foremostPlace_45 : decode cX0_foremostPlace 45 = .ok (.goto (-41), 3) := by decide +kernel
theorem dX0_foremostPlace_48 : decode cX0_foremostPlace 48 = .ok (.iload_n 1, 1) := by decide +kernel
theorem dX0_foremostPlace_49 : decode cX0_foremostPlace 49 = .ok (.ireturn, 1) := by decide +kernel
set_option maxRecDepth 20000 in
theorem ggX0_paradeLength_X0_foremostPlace : GoodIn wsX0_paradeLength wsX0_foremostPlace := goodIn_r _ [9, 1, 2, 3, 4, 10, 11, 12, 13, 14, 15, 16, 17, 18, 19, 20, 21, 22, 23, 24, 25, 26, 27, 28, 29, 30, 31, 32, 33, 34, 35, 36, 37] (by decide +kernel) (by decide +kernel)
set_option maxRecDepth 20000 in
theorem gX0_paradeLength_X0_foremostPlace : GoodIn wsX0_paradeLength (wsV RX0 123 RX0 yX0_foremostPlace wsX0_foremostPlace) := goodIn_app (goodIn_of _ (by decide +kernel)) ggX0_paradeLength_X0_foremostPlace
theorem dX0_paradeLength_0 : decode cX0_paradeLength 0 = .ok (.aload_n 0, 1) := by decide +kernel
theorem dX0_paradeLength_1 : decode cX0_paradeLength 1 = .ok (.invokevirtual 123, 3) := by decide +kernel
theorem dX0_paradeLength_4 : decode cX0_paradeLength 4 = .ok (.istore_n 1, 1) := by decide +kernel
theorem dX0_paradeLength_5 : decode cX0_paradeLength 5 = .ok (.iload_n 1, 1) := by decide +kernel
theorem dX0_paradeLength_6 : decode cX0_paradeLength 6 = .ok (.istore_n 2, 1) := by decide +kernel
theorem dX0_paradeLength_7 : decode cX0_paradeLength 7 = .ok (.iconst 0, 1) := by decide +kernel
theorem dX0_paradeLength_8 : decode cX0_paradeLength 8 = .ok (.istore_n 3, 1) := by decide +kernel
theorem dX0_paradeLength_9 : decode cX0_paradeLength 9 = .ok (.iload_n 3, 1) := by decide +kernel
theorem dX0_paradeLength_10 : decode cX0_paradeLength 10 = .ok (.aload_n 0, 1) := by decide +kernel
theorem dX0_paradeLength_11 : decode cX0_paradeLength 11 = .ok (.getfield 58, 3) := by decide +kernel
theorem dX0_paradeLength_14 : decode cX0_paradeLength 14 = .ok (.getfield 92, 3) := by decide +kernel
theorem dX0_paradeLength_17 : decode cX0_paradeLength 17 = .ok (.if_icmp .ge 36, 3) := by decide +kernel
theorem dX0_paradeLength_20 : decode cX0_paradeLength 20 = .ok (.aload_n 0, 1) := by decide +kernel
theorem dX0_paradeLength_21 : decode cX0_paradeLength 21 = .ok (.getfield 28, 3) := by decide +kernel
theorem dX0_paradeLength_24 : decode cX0_paradeLength 24 = .ok (.iload_n 3, 1) := by decide +kernel
theorem dX0_paradeLength_25 : decode cX0_paradeLength 25 = .ok (.iaload, 1) := by decide +kernel
theorem dX0_paradeLength_26 : decode cX0_paradeLength 26 = .ok (.iconst 1, 1) := by decide +kernel
theorem dX0_paradeLength_27 : decode cX0_paradeLength 27 = .ok (.if_icmp .ne 20, 3) := by decide +kernel
theorem dX0_paradeLength_30 : decode cX0_paradeLength 30 = .ok (.aload_n 0, 1) := by decide +kernel
theorem dX0_paradeLength_31 : decode cX0_paradeLength 31 = .ok (.getfield 31, 3) := by decide +kernel
theorem dX0_paradeLength_34 : decode cX0_paradeLength 34 = .ok (.iload_n 3, 1) := by decide +kernel
theorem dX0_paradeLength_35 : decode cX0_paradeLength 35 = .ok (.iaload, 1) := by decide +kernel
theorem dX0_paradeLength_36 : decode cX0_paradeLength 36 = .ok (.iload_n 2, 1) := by decide +kernel
theorem dX0_paradeLength_37 : decode cX0_paradeLength 37 = .ok (.if_icmp .ge 10, 3) := by decide +kernel
theorem dX0_paradeLength_40 : decode cX0_paradeLength 40 = .ok (.aload_n 0, 1) := by decide +kernel
theorem dX0_paradeLength_41 : decode cX0_paradeLength 41 = .ok (.getfield 31, 3) := by decide +kernel
theorem dX0_paradeLength_44 : decode cX0_paradeLength 44 = .ok (.iload_n 3, 1) := by decide +kernel
theorem dX0_paradeLength_45 : decode cX0_paradeLength 45 = .ok (.iaload, 1) := by decide +kernel
theorem dX0_paradeLength_46 : decode cX0_paradeLength 46 = .ok (.istore_n 2, 1) := by decide +kernel
theorem dX0_paradeLength_47 : decode cX0_paradeLength 47 = .ok (.iinc 3 1, 3) := by decide +kernel
theorem dX0_paradeLength_50 : decode cX0_paradeLength 50 = .ok (.goto (-41), 3) := by decide +kernel
theorem dX0_paradeLength_53 : decode cX0_paradeLength 53 = .ok (.iload_n 1, 1) := by decide +kernel
theorem dX0_paradeLength_54 : decode cX0_paradeLength 54 = .ok (.iload_n 2, 1) := by decide +kernel
theorem dX0_paradeLength_55 : decode cX0_paradeLength 55 = .ok (.isub, 1) := by decide +kernel
theorem dX0_paradeLength_56 : decode cX0_paradeLength 56 = .ok (.ireturn, 1) := by decide +kernel
set_option maxRecDepth 20000 in
theorem ggX0_takeSteps_X0_takeStep : GoodIn wsX0_takeSteps wsX0_takeStep := goodIn_r _ [5, 6, 7, 8, 9, 10, 11, 12, 13, 14, 15, 4, 16, 17, 18, 19, 20, 21, 22, 23, 24, 25, 26, 27, 28, 29, 30, 31, 32, 33, 34, 35, 36, 37, 38, 39, 40, 41, 42, 43, 44, 45, 46, 47, 48, 49, 50, 51, 52, 53, 54, 55, 56, 57, 58, 59, 60, 61, 62, 63, 64, 65, 66, 67, 68, 69, 70, 71, 72, 73, 74, 75, 76, 77, 78, 79, 80, 81, 82, 83, 84, 85, 86, 87, 88, 89, 90, 91, 92, 93, 94, 95, 96, 97, 98, 99, 100, 101, 102, 103, 104, 105, 106, 107, 108, 109, 110, 111, 112, 113, 114, 115, 116, 117, 118, 119, 120, 121, 122, 123, 124, 125, 126, 127, 128, 129, 130, 131, 132, 133, 134, 135, 136, 137, 138, 139, 140, 141, 142, 143, 144, 145, 146, 147, 148, 149, 150, 151, 152, 153, 154, 155, 156, 157, 158, 159, 160, 161, 162, 163, 164, 165, 166, 167] (by decide +kernel) (by decide +kernel)
set_option maxRecDepth 20000 in
theorem gX0_takeSteps_X0_takeStep : GoodIn wsX0_takeSteps (wsV RX0 127 RX0 yX0_takeStep wsX0_takeStep) := goodIn_app (goodIn_of _ (by decide +kernel)) ggX0_takeSteps_X0_takeStep
theorem dX0_takeSteps_0 : decode cX0_takeSteps 0 = .ok (.iconst 0, 1) := by decide +kernel
theorem dX0_takeSteps_1 : decode cX0_takeSteps 1 = .ok (.istore_n 2, 1) := by decide +kernel
theorem dX0_takeSteps_2 : decode cX0_takeSteps 2 = .ok (.iload_n 2, 1) := by decide +kernel
theorem dX0_takeSteps_3 : decode cX0_takeSteps 3 = .ok (.iload_n 1, 1) := by decide +kernel
theorem dX0_takeSteps_4 : decode cX0_takeSteps 4 = .ok (.if_icmp .ge 13, 3) := by decide +kernel
theorem dX0_takeSteps_7 : decode cX0_takeSteps 7 = .ok (.aload_n 0, 1) := by decide +kernel
theorem dX0_takeSteps_8 : decode cX0_takeSteps 8 = .ok (.invokevirtual 127, 3) := by decide +kernel
theorem dX0_takeSteps_11 : decode cX0_takeSteps 11 = .ok (.iinc 2 1, 3) := by decide +kernel
theorem dX0_takeSteps_14 : decode cX0_takeSteps 14 = .ok (.goto (-12), 3) := by decide +kernel
theorem dX0_takeSteps_17 : decode cX0_takeSteps 17 = .ok (.return_, 1) := by decide +kernel
set_option maxRecDepth 20000 in
theorem ggX0_takeStep_J9_floorMod_7cf53 : GoodIn wsX0_takeStep wsJ9_floorMod_7cf53 := goodIn_r _ [7] (by decide +kernel) (by decide +kernel)
set_option maxRecDepth 20000 in
theorem gX0_takeStep_J9_floorMod_7cf53 : GoodIn wsX0_takeStep (va_wsS RX0 133 yJ9_floorMod_7cf53 wsJ9_floorMod_7cf53) := goodIn_app (goodIn_of _ (by decide +kernel)) ggX0_takeStep_J9_floorMod_7cf53
set_option maxRecDepth 20000 in
theorem ggX0_takeStep_X0_burnDown : GoodIn wsX0_takeStep wsX0_burnDown := goodIn_r _ [12, 1, 13, 14, 15, 16, 17, 18, 19, 20, 136, 137, 138, 139, 140, 141, 142, 143, 144, 145, 146, 147, 148, 149, 150, 151, 152, 153, 154, 155, 156, 157, 158, 159, 160, 161, 162, 163] (by decide +kernel) (by decide +kernel)
set_option maxRecDepth 20000 in
theorem gX0_takeStep_X0_burnDown : GoodIn wsX0_takeStep (wsV RX0 136 RX0 yX0_burnDown wsX0_burnDown) := goodIn_app (goodIn_of _ (by decide +kernel)) ggX0_takeStep_X0_burnDown
set_option maxRecDepth 20000 in
theorem ggX0_takeStep_X0_blowOut : GoodIn wsX0_takeStep wsX0_blowOut := goodIn_r _ [24, 1, 13, 15, 14, 25, 26, 27, 11, 28, 29, 30, 31, 32, 33, 136, 137, 138, 139, 140, 141, 142, 143, 144, 145, 146, 147, 148, 149, 150, 151, 152, 153, 154, 155, 156, 157, 158, 159, 160, 161, 162, 163] (by decide +kernel) (by decide +kernel)
set_option maxRecDepth 20000 in
theorem gX0_takeStep_X0_blowOut : GoodIn wsX0_takeStep (wsV RX0 140 RX0 yX0_blowOut wsX0_blowOut) := goodIn_app (goodIn_of _ (by decide +kernel)) ggX0_takeStep_X0_blowOut
set_option maxRecDepth 20000 in
theorem ggX0_takeStep_X0_lightEachOther : GoodIn wsX0_takeStep wsX0_lightEachOther := goodIn_r _ [37, 14, 38, 1, 13, 15, 16, 39, 40, 11, 41, 42, 43, 44, 45, 29, 30, 31, 32, 33, 136, 137, 138, 139, 140, 141, 142, 143, 144, 145, 146, 147, 148, 149, 150, 151, 152, 153, 154, 155, 156, 157, 158, 159, 160, 161, 162, 163] (by decide +kernel) (by decide +kernel)
set_option maxRecDepth 20000 in
theorem gX0_takeStep_X0_lightEachOther : GoodIn wsX0_takeStep (wsV RX0 143 RX0 yX0_lightEachOther wsX0_lightEachOther) := goodIn_app (goodIn_of _ (by decide +kernel)) ggX0_takeStep_X0_lightEachOther
set_option maxRecDepth 20000 in
theorem ggX0_takeStep_X0_singToEachOther : GoodIn wsX0_takeStep wsX0_singToEachOther := goodIn_r _ [49, 50, 51, 1, 13, 15, 52, 53, 11, 54, 55, 56, 19, 57, 58, 59, 60, 61, 62, 63, 64, 65, 66, 67, 68, 69, 70, 29, 30, 31, 32, 33, 71, 72, 73, 74, 75, 14, 76, 77, 78, 79, 80, 136, 137, 138, 139, 140, 141, 142, 143, 144, 145, 146, 147, 148, 149, 150, 151, 152, 153, 154, 155, 156, 157, 158, 159, 160, 161, 162, 163] (by decide +kernel) (by decide +kernel)
set_option maxRecDepth 20000 in
theorem gX0_takeStep_X0_singToEachOther : GoodIn wsX0_takeStep (wsV RX0 146 RX0 yX0_singToEachOther wsX0_singToEachOther) := goodIn_app (goodIn_of _ (by decide +kernel)) ggX0_takeStep_X0_singToEachOther
set_option maxRecDepth 20000 in
theorem ggX0_takeStep_X0_goOn : GoodIn wsX0_takeStep wsX0_goOn := goodIn_r _ [84, 1, 85, 86, 13, 87, 88, 89, 90, 11, 91, 92, 93, 94, 95, 96, 97, 15, 33, 98, 99, 100, 101, 102, 14, 103, 17, 18, 19, 20, 104, 105, 106, 107, 108, 109, 110, 111, 112, 113, 114, 115, 116, 117, 118, 119, 120, 121, 122, 123, 124, 125, 126, 127, 128, 129, 130, 131, 3, 136, 137, 138, 139, 140, 141, 142, 143, 144, 145, 146, 147, 148, 149, 150, 151, 152, 153, 154, 155, 156, 157, 158, 159, 160, 161, 162, 163] (by decide +kernel) (by decide +kernel)
set_option maxRecDepth 20000 in
theorem gX0_takeStep_X0_goOn : GoodIn wsX0_takeStep (wsV RX0 149 RX0 yX0_goOn wsX0_goOn) := goodIn_app (goodIn_of _ (by decide +kernel)) ggX0_takeStep_X0_goOn
set_option maxRecDepth 20000 in
theorem ggX0_takeStep_X0_start : GoodIn wsX0_takeStep wsX0_start := goodIn_r _ [135, 1, 13, 15, 33, 109, 110, 111, 11, 112, 136, 137, 138, 139, 140, 141, 142, 143, 144, 145, 146, 147, 148, 149, 150, 151, 152, 153, 154, 155, 156, 157, 158, 159, 160, 161, 162, 163] (by decide +kernel) (by decide +kernel)
set_option maxRecDepth 20000 in
theorem gX0_takeStep_X0_start : GoodIn wsX0_takeStep (wsV RX0 152 RX0 yX0_start wsX0_start) := goodIn_app (goodIn_of _ (by decide +kernel)) ggX0_takeStep_X0_start
theorem dX0_takeStep_0 : decode cX0_takeStep 0 = .ok (.aload_n 0, 1) := by decide +kernel
theorem dX0_takeStep_1 : decode cX0_takeStep 1 = .ok (.getfield 58, 3) := by decide +kernel
theorem dX0_takeStep_4 : decode cX0_takeStep 4 = .ok (.getfield 130, 3) := by decide +kernel
theorem dX0_takeStep_7 : decode cX0_takeStep 7 = .ok (.aload_n 0, 1) := by decide +kernel
theorem dX0_takeStep_8 : decode cX0_takeStep 8 = .ok (.getfield 68, 3) := by decide +kernel
theorem dX0_takeStep_11 : decode cX0_takeStep 11 = .ok (.bipush 10, 2) := by decide +kernel
theorem dX0_takeStep_13 : decode cX0_takeStep 13 = .ok (.invokestatic 133, 3) := by decide +kernel
theorem dX0_takeStep_16 : decode cX0_takeStep 16 = .ok (.iaload, 1) := by decide +kernel
theorem dX0_takeStep_17 : decode cX0_takeStep 17 = .ok (.istore_n 1, 1) := by decide +kernel
theorem dX0_takeStep_18 : decode cX0_takeStep 18 = .ok (.aload_n 0, 1) := by decide +kernel
theorem dX0_takeStep_19 : decode cX0_takeStep 19 = .ok (.iload_n 1, 1) := by decide +kernel
theorem dX0_takeStep_20 : decode cX0_takeStep 20 = .ok (.invokevirtual 136, 3) := by decide +kernel
theorem dX0_takeStep_23 : decode cX0_takeStep 23 = .ok (.aload_n 0, 1) := by decide +kernel
theorem dX0_takeStep_24 : decode cX0_takeStep 24 = .ok (.iload_n 1, 1) := by decide +kernel
theorem dX0_takeStep_25 : decode cX0_takeStep 25 = .ok (.invokevirtual 140, 3) := by decide +kernel
theorem dX0_takeStep_28 : decode cX0_takeStep 28 = .ok (.aload_n 0, 1) := by decide +kernel
theorem dX0_takeStep_29 : decode cX0_takeStep 29 = .ok (.invokevirtual 143, 3) := by decide +kernel
theorem dX0_takeStep_32 : decode cX0_takeStep 32 = .ok (.aload_n 0, 1) := by decide +kernel
theorem dX0_takeStep_33 : decode cX0_takeStep 33 = .ok (.invokevirtual 146, 3) := by decide +kernel
theorem dX0_takeStep_36 : decode cX0_takeStep 36 = .ok (.aload_n 0, 1) := by decide +kernel
theorem dX0_takeStep_37 : decode cX0_takeStep 37 = .ok (.invokevirtual 149, 3) := by decide +kernel
theorem dX0_takeStep_40 : decode cX0_takeStep 40 = .ok (.aload_n 0, 1) := by decide +kernel
theorem dX0_takeStep_41 : decode cX0_takeStep 41 = .ok (.invokevirtual 152, 3) := by decide +kernel
theorem dX0_takeStep_44 : decode cX0_takeStep 44 = .ok (.aload_n 0, 1) := by decide +kernel
theorem dX0_takeStep_45 : decode cX0_takeStep 45 = .ok (.dup, 1) := by decide +kernel
theorem dX0_takeStep_46 : decode cX0_takeStep 46 = .ok (.getfield 68, 3) := by decide +kernel
theorem dX0_takeStep_49 : decode cX0_takeStep 49 = .ok (.iconst 1, 1) := by decide +kernel
theorem dX0_takeStep_50 : decode cX0_takeStep 50 = .ok (.iadd, 1) := by decide +kernel
theorem dX0_takeStep_51 : decode cX0_takeStep 51 = .ok (.putfield 68, 3) := by decide +kernel
theorem dX0_takeStep_54 : decode cX0_takeStep 54 = .ok (.return_, 1) := by decide +kernel
theorem dX0_burnDown_0 : decode cX0_burnDown 0 = .ok (.iload_n 1, 1) := by decide +kernel
theorem dX0_burnDown_1 : decode cX0_burnDown 1 = .ok (.bipush 6, 2) := by decide +kernel
theorem dX0_burnDown_3 : decode cX0_burnDown 3 = .ok (.if_icmp .lt 7, 3) := by decide +kernel
theorem dX0_burnDown_6 : decode cX0_burnDown 6 = .ok (.iconst 2, 1) := by decide +kernel
theorem dX0_burnDown_7 : decode cX0_burnDown 7 = .ok (.goto 4, 3) := by decide +kernel
theorem dX0_burnDown_10 : decode cX0_burnDown 10 = .ok (.iconst 1, 1) := by decide +kernel
theorem dX0_burnDown_11 : decode cX0_burnDown 11 = .ok (.istore_n 2, 1) := by decide +kernel
theorem dX0_burnDown_12 : decode cX0_burnDown 12 = .ok (.iconst 0, 1) := by decide +kernel
theorem dX0_burnDown_13 : decode cX0_burnDown 13 = .ok (.istore_n 3, 1) := by decide +kernel
theorem dX0_burnDown_14 : decode cX0_burnDown 14 = .ok (.iload_n 3, 1) := by decide +kernel
theorem dX0_burnDown_15 : decode cX0_burnDown 15 = .ok (.aload_n 0, 1) := by decide +kernel
theorem dX0_burnDown_16 : decode cX0_burnDown 16 = .ok (.getfield 58, 3) := by decide +kernel
theorem dX0_burnDown_19 : decode cX0_burnDown 19 = .ok (.getfield 92, 3) := by decide +kernel
theorem dX0_burnDown_22 : decode cX0_burnDown 22 = .ok (.if_icmp .ge 66, 3) := by decide +kernel
theorem dX0_burnDown_25 : decode cX0_burnDown 25 = .ok (.aload_n 0, 1) := by decide +kernel
theorem dX0_burnDown_26 : decode cX0_burnDown 26 = .ok (.getfield 24, 3) := by decide +kernel
theorem dX0_burnDown_29 : decode cX0_burnDown 29 = .ok (.iload_n 3, 1) := by decide +kernel
theorem dX0_burnDown_30 : decode cX0_burnDown 30 = .ok (.baload, 1) := by decide +kernel
theorem dX0_burnDown_31 : decode cX0_burnDown 31 = .ok (.ifCond .eq 51, 3) := by decide +kernel
theorem dX0_burnDown_34 : decode cX0_burnDown 34 = .ok (.aload_n 0, 1) := by decide +kernel
theorem dX0_burnDown_35 : decode cX0_burnDown 35 = .ok (.getfield 28, 3) := by decide +kernel
theorem dX0_burnDown_38 : decode cX0_burnDown 38 = .ok (.iload_n 3, 1) := by decide +kernel
theorem dX0_burnDown_39 : decode cX0_burnDown 39 = .ok (.iaload, 1) := by decide +kernel
theorem dX0_burnDown_40 : decode cX0_burnDown 40 = .ok (.iconst 2, 1) := by decide +kernel
theorem dX0_burnDown_41 : decode cX0_burnDown 41 = .ok (.if_icmp .eq 41, 3) := by decide +kernel
theorem dX0_burnDown_44 : decode cX0_burnDown 44 = .ok (.aload_n 0, 1) := by decide +kernel
theorem dX0_burnDown_45 : decode cX0_burnDown 45 = .ok (.getfield 21, 3) := by decide +kernel
theorem dX0_burnDown_48 : decode cX0_burnDown 48 = .ok (.iload_n 3, 1) := by decide +kernel
theorem dX0_burnDown_49 : decode cX0_burnDown 49 = .ok (.iconst 0, 1) := by decide +kernel
theorem dX0_burnDown_50 : decode cX0_burnDown 50 = .ok (.aload_n 0, 1) := by decide +kernel
theorem dX0_burnDown_51 : decode cX0_burnDown 51 = .ok (.getfield 21, 3) := by decide +kernel
theorem dX0_burnDown_54 : decode cX0_burnDown 54 = .ok (.iload_n 3, 1) := by decide +kernel
theorem dX0_burnDown_55 : decode cX0_burnDown 55 = .ok (.iaload, 1) := by decide +kernel
theorem dX0_burnDown_56 : decode cX0_burnDown 56 = .ok (.iload_n 2, 1) := by decide +kernel
theorem dX0_burnDown_57 : decode cX0_burnDown 57 = .ok (.isub, 1) := by decide +kernel
theorem dX0_burnDown_58 : decode cX0_burnDown 58 = .ok (.invokestatic 155, 3) := by decide +kernel
theorem dX0_burnDown_61 : decode cX0_burnDown 61 = .ok (.iastore, 1) := by decide +kernel
theorem dX0_burnDown_62 : decode cX0_burnDown 62 = .ok (.aload_n 0, 1) := by decide +kernel
theorem dX0_burnDown_63 : decode cX0_burnDown 63 = .ok (.getfield 24, 3) := by decide +kernel
theorem dX0_burnDown_66 : decode cX0_burnDown 66 = .ok (.iload_n 3, 1) := by decide +kernel
theorem dX0_burnDown_67 : decode cX0_burnDown 67 = .ok (.aload_n 0, 1) := by decide +kernel
theorem dX0_burnDown_68 : decode cX0_burnDown 68 = .ok (.getfield 21, 3) := by decide +kernel
theorem dX0_burnDown_71 : decode cX0_burnDown 71 = .ok (.iload_n 3, 1) := by decide +kernel
theorem dX0_burnDown_72 : decode cX0_burnDown 72 = .ok (.iaload, 1) := by decide +kernel
theorem dX0_burnDown_73 : decode cX0_burnDown 73 = .ok (.ifCond .le 7, 3) := by decide +kernel
theorem dX0_burnDown_76 : decode cX0_burnDown 76 = .ok (.iconst 1, 1) := by decide +kernel
theorem dX0_burnDown_77 : decode cX0_burnDown 77 = .ok (.goto 4, 3) := by decide +kernel
theorem dX0_burnDown_80 : decode cX0_burnDown 80 = .ok (.iconst 0, 1) := by decide +kernel
theorem dX0_burnDown_81 : decode cX0_burnDown 81 = .ok (.bastore, 1) := by decide +kernel
theorem dX0_burnDown_82 : decode cX0_burnDown 82 = .ok (.iinc 3 1, 3) := by decide +kernel
theorem dX0_burnDown_85 : decode cX0_burnDown 85 = .ok (.goto (-71), 3) := by decide +kernel
theorem dX0_burnDown_88 : decode cX0_burnDown 88 = .ok (.return_, 1) := by decide +kernel
set_option maxRecDepth 20000 in
theorem ggX0_blowOut_X0_neighboursOf : GoodIn wsX0_blowOut wsX0_neighboursOf := goodIn_r _ [9, 1, 2, 10, 11, 12, 8, 13, 3, 14, 15, 16, 17, 18, 19, 20, 21, 22, 23, 24, 25, 26, 27, 28, 29, 30, 31, 32, 33, 34, 35, 36, 37, 38, 39, 40, 41, 42] (by decide +kernel) (by decide +kernel)
set_option maxRecDepth 20000 in
theorem gX0_blowOut_X0_neighboursOf : GoodIn wsX0_blowOut (wsV RX0 158 RX0 yX0_neighboursOf wsX0_neighboursOf) := goodIn_app (goodIn_of _ (by decide +kernel)) ggX0_blowOut_X0_neighboursOf
theorem dX0_blowOut_0 : decode cX0_blowOut 0 = .ok (.iload_n 1, 1) := by decide +kernel
theorem dX0_blowOut_1 : decode cX0_blowOut 1 = .ok (.bipush 8, 2) := by decide +kernel
theorem dX0_blowOut_3 : decode cX0_blowOut 3 = .ok (.if_icmp .ge 4, 3) := by decide +kernel
theorem dX0_blowOut_6 : decode cX0_blowOut 6 = .ok (.return_, 1) := by decide +kernel
theorem dX0_blowOut_7 : decode cX0_blowOut 7 = .ok (.iconst 0, 1) := by decide +kernel
theorem dX0_blowOut_8 : decode cX0_blowOut 8 = .ok (.istore_n 2, 1) := by decide +kernel
theorem dX0_blowOut_9 : decode cX0_blowOut 9 = .ok (.iload_n 2, 1) := by decide +kernel
theorem dX0_blowOut_10 : decode cX0_blowOut 10 = .ok (.aload_n 0, 1) := by decide +kernel
theorem dX0_blowOut_11 : decode cX0_blowOut 11 = .ok (.getfield 58, 3) := by decide +kernel
theorem dX0_blowOut_14 : decode cX0_blowOut 14 = .ok (.getfield 92, 3) := by decide +kernel
theorem dX0_blowOut_17 : decode cX0_blowOut 17 = .ok (.if_icmp .ge 35, 3) := by decide +kernel
theorem dX0_blowOut_20 : decode cX0_blowOut 20 = .ok (.aload_n 0, 1) := by decide +kernel
theorem dX0_blowOut_21 : decode cX0_blowOut 21 = .ok (.getfield 28, 3) := by decide +kernel
theorem dX0_blowOut_24 : decode cX0_blowOut 24 = .ok (.iload_n 2, 1) := by decide +kernel
theorem dX0_blowOut_25 : decode cX0_blowOut 25 = .ok (.iaload, 1) := by decide +kernel
theorem dX0_blowOut_26 : decode cX0_blowOut 26 = .ok (.iconst 1, 1) := by decide +kernel
theorem dX0_blowOut_27 : decode cX0_blowOut 27 = .ok (.if_icmp .ne 19, 3) := by decide +kernel
theorem dX0_blowOut_30 : decode cX0_blowOut 30 = .ok (.aload_n 0, 1) := by decide +kernel
theorem dX0_blowOut_31 : decode cX0_blowOut 31 = .ok (.iload_n 2, 1) := by decide +kernel
theorem dX0_blowOut_32 : decode cX0_blowOut 32 = .ok (.invokevirtual 158, 3) := by decide +kernel
theorem dX0_blowOut_35 : decode cX0_blowOut 35 = .ok (.iconst 2, 1) := by decide +kernel
theorem dX0_blowOut_36 : decode cX0_blowOut 36 = .ok (.if_icmp .ge 10, 3) := by decide +kernel
theorem dX0_blowOut_39 : decode cX0_blowOut 39 = .ok (.aload_n 0, 1) := by decide +kernel
theorem dX0_blowOut_40 : decode cX0_blowOut 40 = .ok (.getfield 24, 3) := by decide +kernel
theorem dX0_blowOut_43 : decode cX0_blowOut 43 = .ok (.iload_n 2, 1) := by decide +kernel
theorem dX0_blowOut_44 : decode cX0_blowOut 44 = .ok (.iconst 0, 1) := by decide +kernel
theorem dX0_blowOut_45 : decode cX0_blowOut 45 = .ok (.bastore, 1) := by decide +kernel
theorem dX0_blowOut_46 : decode cX0_blowOut 46 = .ok (.iinc 2 1, 3) := by decide +kernel
theorem dX0_blowOut_49 : decode cX0_blowOut 49 = .ok (.goto (-40), 3) := by decide +kernel
theorem dX0_blowOut_52 : decode cX0_blowOut 52 = .ok (.return_, 1) := by decide +kernel
set_option maxRecDepth 20000 in
theorem ggX0_lightEachOther_X0_copyFlags : GoodIn wsX0_lightEachOther wsX0_copyFlags := goodIn_r _ [10] (by decide +kernel) (by decide +kernel)
set_option maxRecDepth 20000 in
theorem gX0_lightEachOther_X0_copyFlags : GoodIn wsX0_lightEachOther (va_wsS RX0 76 yX0_copyFlags wsX0_copyFlags) := goodIn_app (goodIn_of _ (by decide +kernel)) ggX0_lightEachOther_X0_copyFlags
set_option maxRecDepth 20000 in
theorem ggX0_lightEachOther_X0_isBesideBurning : GoodIn wsX0_lightEachOther wsX0_isBesideBurning := goodIn_r _ [14, 3, 4, 2, 15, 16, 17, 9, 18, 5, 19, 20, 21, 22, 23, 24, 25, 26, 27, 28, 29, 30, 31, 32, 33, 34, 35, 36, 37, 38, 39, 40, 41, 42, 43, 44, 45, 46, 47] (by decide +kernel) (by decide +kernel)
set_option maxRecDepth 20000 in
theorem gX0_lightEachOther_X0_isBesideBurning : GoodIn wsX0_lightEachOther (wsV RX0 161 RX0 yX0_isBesideBurning wsX0_isBesideBurning) := goodIn_app (goodIn_of _ (by decide +kernel)) ggX0_lightEachOther_X0_isBesideBurning
theorem dX0_lightEachOther_0 : decode cX0_lightEachOther 0 = .ok (.aload_n 0, 1) := by decide +kernel
theorem dX0_lightEachOther_1 : decode cX0_lightEachOther 1 = .ok (.getfield 24, 3) := by decide +kernel
theorem dX0_lightEachOther_4 : decode cX0_lightEachOther 4 = .ok (.aload_n 0, 1) := by decide +kernel
theorem dX0_lightEachOther_5 : decode cX0_lightEachOther 5 = .ok (.getfield 43, 3) := by decide +kernel
theorem dX0_lightEachOther_8 : decode cX0_lightEachOther 8 = .ok (.invokestatic 76, 3) := by decide +kernel
theorem dX0_lightEachOther_11 : decode cX0_lightEachOther 11 = .ok (.iconst 0, 1) := by decide +kernel
theorem dX0_lightEachOther_12 : decode cX0_lightEachOther 12 = .ok (.istore_n 1, 1) := by decide +kernel
theorem dX0_lightEachOther_13 : decode cX0_lightEachOther 13 = .ok (.iload_n 1, 1) := by decide +kernel
theorem dX0_lightEachOther_14 : decode cX0_lightEachOther 14 = .ok (.aload_n 0, 1) := by decide +kernel
theorem dX0_lightEachOther_15 : decode cX0_lightEachOther 15 = .ok (.getfield 58, 3) := by decide +kernel
theorem dX0_lightEachOther_18 : decode cX0_lightEachOther 18 = .ok (.getfield 92, 3) := by decide +kernel
theorem dX0_lightEachOther_21 : decode cX0_lightEachOther 21 = .ok (.if_icmp .ge 43, 3) := by decide +kernel
theorem dX0_lightEachOther_24 : decode cX0_lightEachOther 24 = .ok (.aload_n 0, 1) := by decide +kernel
theorem dX0_lightEachOther_25 : decode cX0_lightEachOther 25 = .ok (.getfield 28, 3) := by decide +kernel
theorem dX0_lightEachOther_28 : decode cX0_lightEachOther 28 = .ok (.iload_n 1, 1) := by decide +kernel
theorem dX0_lightEachOther_29 : decode cX0_lightEachOther 29 = .ok (.iaload, 1) := by decide +kernel
theorem dX0_lightEachOther_30 : decode cX0_lightEachOther 30 = .ok (.iconst 1, 1) := by decide +kernel
theorem dX0_lightEachOther_31 : decode cX0_lightEachOther 31 = .ok (.if_icmp .ne 27, 3) := by decide +kernel
theorem dX0_lightEachOther_34 : decode cX0_lightEachOther 34 = .ok (.aload_n 0, 1) := by decide +kernel
theorem dX0_lightEachOther_35 : decode cX0_lightEachOther 35 = .ok (.getfield 21, 3) := by decide +kernel
theorem dX0_lightEachOther_38 : decode cX0_lightEachOther 38 = .ok (.iload_n 1, 1) := by decide +kernel
theorem dX0_lightEachOther_39 : decode cX0_lightEachOther 39 = .ok (.iaload, 1) := by decide +kernel
theorem dX0_lightEachOther_40 : decode cX0_lightEachOther 40 = .ok (.ifCond .le 18, 3) := by decide +kernel
theorem dX0_lightEachOther_43 : decode cX0_lightEachOther 43 = .ok (.aload_n 0, 1) := by decide +kernel
theorem dX0_lightEachOther_44 : decode cX0_lightEachOther 44 = .ok (.iload_n 1, 1) := by decide +kernel
theorem dX0_lightEachOther_45 : decode cX0_lightEachOther 45 = .ok (.invokevirtual 161, 3) := by decide +kernel
theorem dX0_lightEachOther_48 : decode cX0_lightEachOther 48 = .ok (.ifCond .eq 10, 3) := by decide +kernel
theorem dX0_lightEachOther_51 : decode cX0_lightEachOther 51 = .ok (.aload_n 0, 1) := by decide +kernel
theorem dX0_lightEachOther_52 : decode cX0_lightEachOther 52 = .ok (.getfield 24, 3) := by decide +kernel
theorem dX0_lightEachOther_55 : decode cX0_lightEachOther 55 = .ok (.iload_n 1, 1) := by decide +kernel
theorem dX0_lightEachOther_56 : decode cX0_lightEachOther 56 = .ok (.iconst 1, 1) := by decide +kernel
theorem dX0_lightEachOther_57 : decode cX0_lightEachOther 57 = .ok (.bastore, 1) := by decide +kernel
theorem dX0_lightEachOther_58 : decode cX0_lightEachOther 58 = .ok (.iinc 1 1, 3) := by decide +kernel
theorem dX0_lightEachOther_61 : decode cX0_lightEachOther 61 = .ok (.goto (-48), 3) := by decide +kernel
theorem dX0_lightEachOther_64 : decode cX0_lightEachOther 64 = .ok (.return_, 1) := by decide +kernel
set_option maxRecDepth 20000 in
theorem ggX0_isBesideBurning_X0_areNeighbours : GoodIn wsX0_isBesideBurning wsX0_areNeighbours := goodIn_r _ [8, 9, 10, 11, 12, 13, 14, 15, 16, 17, 18, 19, 20, 21, 22, 23, 24, 25, 26, 27] (by decide +kernel) (by decide +kernel)
set_option maxRecDepth 20000 in
theorem gX0_isBesideBurning_X0_areNeighbours : GoodIn wsX0_isBesideBurning (wsV RX0 119 RX0 yX0_areNeighbours wsX0_areNeighbours) := goodIn_app (goodIn_of _ (by decide +kernel)) ggX0_isBesideBurning_X0_areNeighbours
theorem dX0_isBesideBurning_0 : decode cX0_isBesideBurning 0 = .ok (.iconst 0, 1) := by decide +kernel
theorem dX0_isBesideBurning_1 : decode cX0_isBesideBurning 1 = .ok (.istore_n 2, 1) := by decide +kernel
theorem dX0_isBesideBurning_2 : decode cX0_isBesideBurning 2 = .ok (.iload_n 2, 1) := by decide +kernel
theorem dX0_isBesideBurning_3 : decode cX0_isBesideBurning 3 = .ok (.aload_n 0, 1) := by decide +kernel
theorem dX0_isBesideBurning_4 : decode cX0_isBesideBurning 4 = .ok (.getfield 58, 3) := by decide +kernel
theorem dX0_isBesideBurning_7 : decode cX0_isBesideBurning 7 = .ok (.getfield 92, 3) := by decide +kernel
theorem dX0_isBesideBurning_10 : decode cX0_isBesideBurning 10 = .ok (.if_icmp .ge 29, 3) := by decide +kernel
theorem dX0_isBesideBurning_13 : decode cX0_isBesideBurning 13 = .ok (.aload_n 0, 1) := by decide +kernel
theorem dX0_isBesideBurning_14 : decode cX0_isBesideBurning 14 = .ok (.getfield 43, 3) := by decide +kernel
theorem dX0_isBesideBurning_17 : decode cX0_isBesideBurning 17 = .ok (.iload_n 2, 1) := by decide +kernel
theorem dX0_isBesideBurning_18 : decode cX0_isBesideBurning 18 = .ok (.baload, 1) := by decide +kernel
theorem dX0_isBesideBurning_19 : decode cX0_isBesideBurning 19 = .ok (.ifCond .eq 14, 3) := by decide +kernel
theorem dX0_isBesideBurning_22 : decode cX0_isBesideBurning 22 = .ok (.aload_n 0, 1) := by decide +kernel
theorem dX0_isBesideBurning_23 : decode cX0_isBesideBurning 23 = .ok (.iload_n 1, 1) := by decide +kernel
theorem dX0_isBesideBurning_24 : decode cX0_isBesideBurning 24 = .ok (.iload_n 2, 1) := by decide +kernel
theorem dX0_isBesideBurning_25 : decode cX0_isBesideBurning 25 = .ok (.invokevirtual 119, 3) := by decide +kernel
theorem dX0_isBesideBurning_28 : decode cX0_isBesideBurning 28 = .ok (.ifCond .eq 5, 3) := by decide +kernel
theorem dX0_isBesideBurning_31 : decode cX0_isBesideBurning 31 = .ok (.iconst 1, 1) := by decide +kernel
theorem dX0_isBesideBurning_32 : decode cX0_isBesideBurning 32 = .ok (.ireturn, 1) := by decide +kernel
theorem dX0_isBesideBurning_33 : decode cX0_isBesideBurning 33 = .ok (.iinc 2 1, 3) := by decide +kernel
theorem dX0_isBesideBurning_36 : decode cX0_isBesideBurning 36 = .ok (.goto (-34), 3) := by decide +kernel
theorem dX0_isBesideBurning_39 : decode cX0_isBesideBurning 39 = .ok (.iconst 0, 1) := by decide +kernel
theorem dX0_isBesideBurning_40 : decode cX0_isBesideBurning 40 = .ok (.ireturn, 1) := by decide +kernel
set_option maxRecDepth 20000 in
theorem ggX0_singToEachOther_X0_copyNumbers : GoodIn wsX0_singToEachOther wsX0_copyNumbers := goodIn_r _ [9, 10, 11, 12, 13, 14, 15, 16, 17] (by decide +kernel) (by decide +kernel)
set_option maxRecDepth 20000 in
theorem gX0_singToEachOther_X0_copyNumbers : GoodIn wsX0_singToEachOther (va_wsS RX0 72 yX0_copyNumbers wsX0_copyNumbers) := goodIn_app (goodIn_of _ (by decide +kernel)) ggX0_singToEachOther_X0_copyNumbers
set_option maxRecDepth 20000 in
theorem ggX0_singToEachOther_X0_listenAround : GoodIn wsX0_singToEachOther wsX0_listenAround := goodIn_r _ [21, 22, 3, 4, 23, 24, 25, 26, 27, 28, 29, 8, 30, 5, 31, 32, 33, 34, 35, 36, 37, 38, 2, 39, 1, 40, 41, 42, 43, 44, 45, 46, 47, 48, 49, 50, 51, 52, 53, 54, 55, 56, 57, 58, 59, 60, 61, 62, 63, 64, 65, 66, 67, 68, 69, 70] (by decide +kernel) (by decide +kernel)
set_option maxRecDepth 20000 in
theorem gX0_singToEachOther_X0_listenAround : GoodIn wsX0_singToEachOther (wsV RX0 165 RX0 yX0_listenAround wsX0_listenAround) := goodIn_app (goodIn_of _ (by decide +kernel)) ggX0_singToEachOther_X0_listenAround
theorem dX0_singToEachOther_0 : decode cX0_singToEachOther 0 = .ok (.aload_n 0, 1) := by decide +kernel
theorem dX0_singToEachOther_1 : decode cX0_singToEachOther 1 = .ok (.getfield 40, 3) := by decide +kernel
theorem dX0_singToEachOther_4 : decode cX0_singToEachOther 4 = .ok (.aload_n 0, 1) := by decide +kernel
theorem dX0_singToEachOther_5 : decode cX0_singToEachOther 5 = .ok (.getfield 46, 3) := by decide +kernel
theorem dX0_singToEachOther_8 : decode cX0_singToEachOther 8 = .ok (.invokestatic 72, 3) := by decide +kernel
theorem dX0_singToEachOther_11 : decode cX0_singToEachOther 11 = .ok (.iconst 0, 1) := by decide +kernel
theorem dX0_singToEachOther_12 : decode cX0_singToEachOther 12 = .ok (.istore_n 1, 1) := by decide +kernel
theorem dX0_singToEachOther_13 : decode cX0_singToEachOther 13 = .ok (.iload_n 1, 1) := by decide +kernel
theorem dX0_singToEachOther_14 : decode cX0_singToEachOther 14 = .ok (.aload_n 0, 1) := by decide +kernel
theorem dX0_singToEachOther_15 : decode cX0_singToEachOther 15 = .ok (.getfield 58, 3) := by decide +kernel
theorem dX0_singToEachOther_18 : decode cX0_singToEachOther 18 = .ok (.getfield 92, 3) := by decide +kernel
theorem dX0_singToEachOther_21 : decode cX0_singToEachOther 21 = .ok (.if_icmp .ge 24, 3) := by decide +kernel
theorem dX0_singToEachOther_24 : decode cX0_singToEachOther 24 = .ok (.aload_n 0, 1) := by decide +kernel
theorem dX0_singToEachOther_25 : decode cX0_singToEachOther 25 = .ok (.getfield 28, 3) := by decide +kernel
theorem dX0_singToEachOther_28 : decode cX0_singToEachOther 28 = .ok (.iload_n 1, 1) := by decide +kernel
theorem dX0_singToEachOther_29 : decode cX0_singToEachOther 29 = .ok (.iaload, 1) := by decide +kernel
theorem dX0_singToEachOther_30 : decode cX0_singToEachOther 30 = .ok (.iconst 1, 1) := by decide +kernel
theorem dX0_singToEachOther_31 : decode cX0_singToEachOther 31 = .ok (.if_icmp .ne 8, 3) := by decide +kernel
theorem dX0_singToEachOther_34 : decode cX0_singToEachOther 34 = .ok (.aload_n 0, 1) := by decide +kernel
theorem dX0_singToEachOther_35 : decode cX0_singToEachOther 35 = .ok (.iload_n 1, 1) := by decide +kernel
theorem dX0_singToEachOther_36 : decode cX0_singToEachOther 36 = .ok (.invokevirtual 165, 3) := by decide +kernel
theorem dX0_singToEachOther_39 : decode cX0_singToEachOther 39 = .ok (.iinc 1 1, 3) := by decide +kernel
theorem dX0_singToEachOther_42 : decode cX0_singToEachOther 42 = .ok (.goto (-29), 3) := by decide +kernel
theorem dX0_singToEachOther_45 : decode cX0_singToEachOther 45 = .ok (.return_, 1) := by decide +kernel
set_option maxRecDepth 20000 in
theorem ggX0_listenAround_J7_fill_53178 : GoodIn wsX0_listenAround wsJ7_fill_53178 := goodIn_r _ [7] (by decide +kernel) (by decide +kernel)
set_option maxRecDepth 20000 in
theorem gX0_listenAround_J7_fill_53178 : GoodIn wsX0_listenAround (va_wsS RX0 62 yJ7_fill_53178 wsJ7_fill_53178) := goodIn_app (goodIn_of _ (by decide +kernel)) ggX0_listenAround_J7_fill_53178
set_option maxRecDepth 20000 in
theorem ggX0_listenAround_X0_areNeighbours : GoodIn wsX0_listenAround wsX0_areNeighbours := goodIn_r _ [12, 13, 14, 28, 29, 30, 31, 32, 33, 34, 35, 36, 37, 38, 39, 40, 41, 42, 43, 44] (by decide +kernel) (by decide +kernel)
set_option maxRecDepth 20000 in
theorem gX0_listenAround_X0_areNeighbours : GoodIn wsX0_listenAround (wsV RX0 119 RX0 yX0_areNeighbours wsX0_areNeighbours) := goodIn_app (goodIn_of _ (by decide +kernel)) ggX0_listenAround_X0_areNeighbours
set_option maxRecDepth 20000 in
theorem ggX0_listenAround_X0_listenTo : GoodIn wsX0_listenAround wsX0_listenTo := goodIn_r _ [18, 2, 19, 20, 21, 22, 1, 23, 24, 25, 26, 27, 28, 29, 30, 31, 32, 33, 34, 35, 36, 37, 38, 39, 40, 41, 42, 43, 44, 45, 46, 47, 48, 49, 50, 51, 52, 53, 54, 55] (by decide +kernel) (by decide +kernel)
set_option maxRecDepth 20000 in
theorem gX0_listenAround_X0_listenTo : GoodIn wsX0_listenAround (wsV RX0 168 RX0 yX0_listenTo wsX0_listenTo) := goodIn_app (goodIn_of _ (by decide +kernel)) ggX0_listenAround_X0_listenTo
theorem dX0_listenAround_0 : decode cX0_listenAround 0 = .ok (.aload_n 0, 1) := by decide +kernel
theorem dX0_listenAround_1 : decode cX0_listenAround 1 = .ok (.getfield 49, 3) := by decide +kernel
theorem dX0_listenAround_4 : decode cX0_listenAround 4 = .ok (.iconst (-1), 1) := by decide +kernel
theorem dX0_listenAround_5 : decode cX0_listenAround 5 = .ok (.invokestatic 62, 3) := by decide +kernel
theorem dX0_listenAround_8 : decode cX0_listenAround 8 = .ok (.iconst 0, 1) := by decide +kernel
theorem dX0_listenAround_9 : decode cX0_listenAround 9 = .ok (.istore_n 2, 1) := by decide +kernel
theorem dX0_listenAround_10 : decode cX0_listenAround 10 = .ok (.iload_n 2, 1) := by decide +kernel
theorem dX0_listenAround_11 : decode cX0_listenAround 11 = .ok (.aload_n 0, 1) := by decide +kernel
theorem dX0_listenAround_12 : decode cX0_listenAround 12 = .ok (.getfield 58, 3) := by decide +kernel
theorem dX0_listenAround_15 : decode cX0_listenAround 15 = .ok (.getfield 92, 3) := by decide +kernel
theorem dX0_listenAround_18 : decode cX0_listenAround 18 = .ok (.if_icmp .ge 24, 3) := by decide +kernel
theorem dX0_listenAround_21 : decode cX0_listenAround 21 = .ok (.aload_n 0, 1) := by decide +kernel
theorem dX0_listenAround_22 : decode cX0_listenAround 22 = .ok (.iload_n 1, 1) := by decide +kernel
theorem dX0_listenAround_23 : decode cX0_listenAround 23 = .ok (.iload_n 2, 1) := by decide +kernel
theorem dX0_listenAround_24 : decode cX0_listenAround 24 = .ok (.invokevirtual 119, 3) := by decide +kernel
theorem dX0_listenAround_27 : decode cX0_listenAround 27 = .ok (.ifCond .eq 9, 3) := by decide +kernel
theorem dX0_listenAround_30 : decode cX0_listenAround 30 = .ok (.aload_n 0, 1) := by decide +kernel
theorem dX0_listenAround_31 : decode cX0_listenAround 31 = .ok (.iload_n 2, 1) := by decide +kernel
theorem dX0_listenAround_32 : decode cX0_listenAround 32 = .ok (.iload_n 1, 1) := by decide +kernel
theorem dX0_listenAround_33 : decode cX0_listenAround 33 = .ok (.invokevirtual 168, 3) := by decide +kernel
theorem dX0_listenAround_36 : decode cX0_listenAround 36 = .ok (.iinc 2 1, 3) := by decide +kernel
theorem dX0_listenAround_39 : decode cX0_listenAround 39 = .ok (.goto (-29), 3) := by decide +kernel
theorem dX0_listenAround_42 : decode cX0_listenAround 42 = .ok (.return_, 1) := by decide +kernel
set_option maxRecDepth 20000 in
theorem ggX0_listenTo_X2_cellOf : GoodIn wsX0_listenTo wsX2_cellOf := goodIn_r _ [11] (by decide +kernel) (by decide +kernel)
set_option maxRecDepth 20000 in
theorem gX0_listenTo_X2_cellOf_n104 : GoodIn wsX0_listenTo (wsX2_cellOf) := ggX0_listenTo_X2_cellOf
theorem dX0_listenTo_0 : decode cX0_listenTo 0 = .ok (.aload_n 0, 1) := by decide +kernel
theorem dX0_listenTo_1 : decode cX0_listenTo 1 = .ok (.getfield 58, 3) := by decide +kernel
theorem dX0_listenTo_4 : decode cX0_listenTo 4 = .ok (.getfield 172, 3) := by decide +kernel
theorem dX0_listenTo_7 : decode cX0_listenTo 7 = .ok (.iload_n 1, 1) := by decide +kernel
theorem dX0_listenTo_8 : decode cX0_listenTo 8 = .ok (.iaload, 1) := by decide +kernel
theorem dX0_listenTo_9 : decode cX0_listenTo 9 = .ok (.istore_n 3, 1) := by decide +kernel
theorem dX0_listenTo_10 : decode cX0_listenTo 10 = .ok (.aload_n 0, 1) := by decide +kernel
theorem dX0_listenTo_11 : decode cX0_listenTo 11 = .ok (.getfield 24, 3) := by decide +kernel
theorem dX0_listenTo_14 : decode cX0_listenTo 14 = .ok (.iload_n 2, 1) := by decide +kernel
theorem dX0_listenTo_15 : decode cX0_listenTo 15 = .ok (.baload, 1) := by decide +kernel
theorem dX0_listenTo_16 : decode cX0_listenTo 16 = .ok (.ifCond .eq 7, 3) := by decide +kernel
theorem dX0_listenTo_19 : decode cX0_listenTo 19 = .ok (.iload_n 3, 1) := by decide +kernel
theorem dX0_listenTo_20 : decode cX0_listenTo 20 = .ok (.goto 6, 3) := by decide +kernel
theorem dX0_listenTo_23 : decode cX0_listenTo 23 = .ok (.iload_n 3, 1) := by decide +kernel
theorem dX0_listenTo_24 : decode cX0_listenTo 24 = .ok (.iconst 3, 1) := by decide +kernel
theorem dX0_listenTo_25 : decode cX0_listenTo 25 = .ok (.iadd, 1) := by decide +kernel
theorem dX0_listenTo_26 : decode cX0_listenTo 26 = .ok (.istore 4, 2) := by decide +kernel
theorem dX0_listenTo_28 : decode cX0_listenTo 28 = .ok (.aload_n 0, 1) := by decide +kernel
theorem dX0_listenTo_29 : decode cX0_listenTo 29 = .ok (.getfield 24, 3) := by decide +kernel
theorem dX0_listenTo_32 : decode cX0_listenTo 32 = .ok (.iload_n 2, 1) := by decide +kernel
theorem dX0_listenTo_33 : decode cX0_listenTo 33 = .ok (.baload, 1) := by decide +kernel
theorem dX0_listenTo_34 : decode cX0_listenTo 34 = .ok (.ifCond .eq 16, 3) := by decide +kernel
theorem dX0_listenTo_37 : decode cX0_listenTo 37 = .ok (.aload_n 0, 1) := by decide +kernel
theorem dX0_listenTo_38 : decode cX0_listenTo 38 = .ok (.getfield 24, 3) := by decide +kernel
theorem dX0_listenTo_41 : decode cX0_listenTo 41 = .ok (.iload_n 1, 1) := by decide +kernel
theorem dX0_listenTo_42 : decode cX0_listenTo 42 = .ok (.baload, 1) := by decide +kernel
theorem dX0_listenTo_43 : decode cX0_listenTo 43 = .ok (.ifCond .eq 7, 3) := by decide +kernel
theorem dX0_listenTo_46 : decode cX0_listenTo 46 = .ok (.iconst 1, 1) := by decide +kernel
theorem dX0_listenTo_47 : decode cX0_listenTo 47 = .ok (.goto 4, 3) := by decide +kernel
theorem dX0_listenTo_50 : decode cX0_listenTo 50 = .ok (.iconst 0, 1) := by decide +kernel
theorem dX0_listenTo_51 : decode cX0_listenTo 51 = .ok (.istore 5, 2) := by decide +kernel
theorem dX0_listenTo_53 : decode cX0_listenTo 53 = .ok (.iconst 0, 1) := by decide +kernel
theorem dX0_listenTo_54 : decode cX0_listenTo 54 = .ok (.istore 6, 2) := by decide +kernel
theorem dX0_listenTo_56 : decode cX0_listenTo 56 = .ok (.iload 6, 2) := by decide +kernel
theorem dX0_listenTo_58 : decode cX0_listenTo 58 = .ok (.aload_n 0, 1) := by decide +kernel
theorem dX0_listenTo_59 : decode cX0_listenTo 59 = .ok (.getfield 58, 3) := by decide +kernel
theorem dX0_listenTo_62 : decode cX0_listenTo 62 = .ok (.getfield 97, 3) := by decide +kernel
theorem dX0_listenTo_65 : decode cX0_listenTo 65 = .ok (.if_icmp .ge 103, 3) := by decide +kernel
theorem dX0_listenTo_68 : decode cX0_listenTo 68 = .ok (.iload_n 2, 1) := by decide +kernel
theorem dX0_listenTo_69 : decode cX0_listenTo 69 = .ok (.iload 6, 2) := by decide +kernel
theorem dX0_listenTo_71 : decode cX0_listenTo 71 = .ok (.invokestatic 104, 3) := by decide +kernel
theorem dX0_listenTo_74 : decode cX0_listenTo 74 = .ok (.istore 7, 2) := by decide +kernel
theorem dX0_listenTo_76 : decode cX0_listenTo 76 = .ok (.aload_n 0, 1) := by decide +kernel
theorem dX0_listenTo_77 : decode cX0_listenTo 77 = .ok (.getfield 46, 3) := by decide +kernel
theorem dX0_listenTo_80 : decode cX0_listenTo 80 = .ok (.iload_n 1, 1) := by decide +kernel
theorem dX0_listenTo_81 : decode cX0_listenTo 81 = .ok (.iload 6, 2) := by decide +kernel
theorem dX0_listenTo_83 : decode cX0_listenTo 83 = .ok (.invokestatic 104, 3) := by decide +kernel
theorem dX0_listenTo_86 : decode cX0_listenTo 86 = .ok (.iaload, 1) := by decide +kernel
theorem dX0_listenTo_87 : decode cX0_listenTo 87 = .ok (.istore 8, 2) := by decide +kernel
theorem dX0_listenTo_89 : decode cX0_listenTo 89 = .ok (.aload_n 0, 1) := by decide +kernel
theorem dX0_listenTo_90 : decode cX0_listenTo 90 = .ok (.getfield 46, 3) := by decide +kernel
theorem dX0_listenTo_93 : decode cX0_listenTo 93 = .ok (.iload 7, 2) := by decide +kernel
theorem dX0_listenTo_95 : decode cX0_listenTo 95 = .ok (.iaload, 1) := by decide +kernel
theorem dX0_listenTo_96 : decode cX0_listenTo 96 = .ok (.ifCond .ne 66, 3) := by decide +kernel
theorem dX0_listenTo_99 : decode cX0_listenTo 99 = .ok (.iload 8, 2) := by decide +kernel
theorem dX0_listenTo_101 : decode cX0_listenTo 101 = .ok (.ifCond .eq 61, 3) := by decide +kernel
theorem dX0_listenTo_104 : decode cX0_listenTo 104 = .ok (.iload_n 3, 1) := by decide +kernel
theorem dX0_listenTo_105 : decode cX0_listenTo 105 = .ok (.aload_n 0, 1) := by decide +kernel
theorem dX0_listenTo_106 : decode cX0_listenTo 106 = .ok (.getfield 49, 3) := by decide +kernel
theorem dX0_listenTo_109 : decode cX0_listenTo 109 = .ok (.iload 6, 2) := by decide +kernel
theorem dX0_listenTo_111 : decode cX0_listenTo 111 = .ok (.iaload, 1) := by decide +kernel
theorem dX0_listenTo_112 : decode cX0_listenTo 112 = .ok (.if_icmp .le 50, 3) := by decide +kernel
theorem dX0_listenTo_115 : decode cX0_listenTo 115 = .ok (.aload_n 0, 1) := by decide +kernel
theorem dX0_listenTo_116 : decode cX0_listenTo 116 = .ok (.getfield 49, 3) := by decide +kernel
theorem dX0_listenTo_119 : decode cX0_listenTo 119 = .ok (.iload 6, 2) := by decide +kernel
theorem dX0_listenTo_121 : decode cX0_listenTo 121 = .ok (.iload_n 3, 1) := by decide +kernel
theorem dX0_listenTo_122 : decode cX0_listenTo 122 = .ok (.iastore, 1) := by decide +kernel
theorem dX0_listenTo_123 : decode cX0_listenTo 123 = .ok (.iload 4, 2) := by decide +kernel
theorem dX0_listenTo_125 : decode cX0_listenTo 125 = .ok (.aload_n 0, 1) := by decide +kernel
theorem dX0_listenTo_126 : decode cX0_listenTo 126 = .ok (.getfield 58, 3) := by decide +kernel
theorem dX0_listenTo_129 : decode cX0_listenTo 129 = .ok (.getfield 175, 3) := by decide +kernel
theorem dX0_listenTo_132 : decode cX0_listenTo 132 = .ok (.iload 6, 2) := by decide +kernel
theorem dX0_listenTo_134 : decode cX0_listenTo 134 = .ok (.iaload, 1) := by decide +kernel
theorem dX0_listenTo_135 : decode cX0_listenTo 135 = .ok (.if_icmp .lt 27, 3) := by decide +kernel
theorem dX0_listenTo_138 : decode cX0_listenTo 138 = .ok (.aload_n 0, 1) := by decide +kernel
theorem dX0_listenTo_139 : decode cX0_listenTo 139 = .ok (.getfield 40, 3) := by decide +kernel
theorem dX0_listenTo_142 : decode cX0_listenTo 142 = .ok (.iload 7, 2) := by decide +kernel
theorem dX0_listenTo_144 : decode cX0_listenTo 144 = .ok (.iload 5, 2) := by decide +kernel
theorem dX0_listenTo_146 : decode cX0_listenTo 146 = .ok (.ifCond .eq 13, 3) := by decide +kernel
theorem dX0_listenTo_149 : decode cX0_listenTo 149 = .ok (.iload 8, 2) := by decide +kernel
theorem dX0_listenTo_151 : decode cX0_listenTo 151 = .ok (.bipush 99, 2) := by decide +kernel
theorem dX0_listenTo_153 : decode cX0_listenTo 153 = .ok (.irem, 1) := by decide +kernel
theorem dX0_listenTo_154 : decode cX0_listenTo 154 = .ok (.iconst 1, 1) := by decide +kernel
theorem dX0_listenTo_155 : decode cX0_listenTo 155 = .ok (.iadd, 1) := by decide +kernel
theorem dX0_listenTo_156 : decode cX0_listenTo 156 = .ok (.goto 5, 3) := by decide +kernel
theorem dX0_listenTo_159 : decode cX0_listenTo 159 = .ok (.iload 8, 2) := by decide +kernel
theorem dX0_listenTo_161 : decode cX0_listenTo 161 = .ok (.iastore, 1) := by decide +kernel
theorem dX0_listenTo_162 : decode cX0_listenTo 162 = .ok (.iinc 6 1, 3) := by decide +kernel
theorem dX0_listenTo_165 : decode cX0_listenTo 165 = .ok (.goto (-109), 3) := by decide +kernel
theorem dX0_listenTo_168 : decode cX0_listenTo 168 = .ok (.return_, 1) := by decide +kernel
set_option maxRecDepth 20000 in
theorem ggX0_goOn_X0_letsThrough : GoodIn wsX0_goOn wsX0_letsThrough := goodIn_r _ [10, 1, 11, 12, 59, 60, 61, 62, 63, 64, 65, 66, 67, 68, 69, 70, 71, 72, 73, 74, 75, 76, 77, 78, 79, 80, 81, 82, 83, 84, 85, 86] (by decide +kernel) (by decide +kernel)
set_option maxRecDepth 20000 in
theorem gX0_goOn_X0_letsThrough : GoodIn wsX0_goOn (wsV RX0 181 RX0 yX0_letsThrough wsX0_letsThrough) := goodIn_app (goodIn_of _ (by decide +kernel)) ggX0_goOn_X0_letsThrough
set_option maxRecDepth 20000 in
theorem ggX0_goOn_X0_foremostToGo : GoodIn wsX0_goOn wsX0_foremostToGo := goodIn_r _ [16, 1, 4, 17, 5, 18, 59, 60, 61, 62, 63, 64, 65, 66, 67, 68, 69, 70, 71, 72, 73, 74, 75, 76, 77, 78, 79, 80, 81, 82, 83, 84, 85, 86] (by decide +kernel) (by decide +kernel)
set_option maxRecDepth 20000 in
theorem gX0_goOn_X0_foremostToGo : GoodIn wsX0_goOn (wsV RX0 184 RX0 yX0_foremostToGo wsX0_foremostToGo) := goodIn_app (goodIn_of _ (by decide +kernel)) ggX0_goOn_X0_foremostToGo
set_option maxRecDepth 20000 in
theorem ggX0_goOn_X0_walkOn : GoodIn wsX0_goOn wsX0_walkOn := goodIn_r _ [22, 1, 23, 24, 25, 26, 27, 28, 29, 30, 31, 32, 9, 33, 18, 34, 35, 36, 37, 38, 4, 17, 39, 40, 41, 42, 43, 44, 45, 46, 47, 48, 49, 50, 3, 51, 52, 53, 54, 55, 56, 57, 58, 59, 60, 61, 62, 63, 64, 65, 66, 67, 68, 69, 70, 71, 72, 73, 74, 75, 76, 77, 78, 79, 80, 81, 82, 83, 84, 85, 86] (by decide +kernel) (by decide +kernel)
set_option maxRecDepth 20000 in
theorem gX0_goOn_X0_walkOn : GoodIn wsX0_goOn (wsV RX0 187 RX0 yX0_walkOn wsX0_walkOn) := goodIn_app (goodIn_of _ (by decide +kernel)) ggX0_goOn_X0_walkOn
theorem dX0_goOn_0 : decode cX0_goOn 0 = .ok (.iconst 0, 1) := by decide +kernel
theorem dX0_goOn_1 : decode cX0_goOn 1 = .ok (.istore_n 1, 1) := by decide +kernel
theorem dX0_goOn_2 : decode cX0_goOn 2 = .ok (.iload_n 1, 1) := by decide +kernel
theorem dX0_goOn_3 : decode cX0_goOn 3 = .ok (.aload_n 0, 1) := by decide +kernel
theorem dX0_goOn_4 : decode cX0_goOn 4 = .ok (.getfield 58, 3) := by decide +kernel
theorem dX0_goOn_7 : decode cX0_goOn 7 = .ok (.getfield 178, 3) := by decide +kernel
theorem dX0_goOn_10 : decode cX0_goOn 10 = .ok (.if_icmp .ge 20, 3) := by decide +kernel
theorem dX0_goOn_13 : decode cX0_goOn 13 = .ok (.aload_n 0, 1) := by decide +kernel
theorem dX0_goOn_14 : decode cX0_goOn 14 = .ok (.getfield 52, 3) := by decide +kernel
theorem dX0_goOn_17 : decode cX0_goOn 17 = .ok (.iload_n 1, 1) := by decide +kernel
theorem dX0_goOn_18 : decode cX0_goOn 18 = .ok (.aload_n 0, 1) := by decide +kernel
theorem dX0_goOn_19 : decode cX0_goOn 19 = .ok (.iload_n 1, 1) := by decide +kernel
theorem dX0_goOn_20 : decode cX0_goOn 20 = .ok (.invokevirtual 181, 3) := by decide +kernel
theorem dX0_goOn_23 : decode cX0_goOn 23 = .ok (.iastore, 1) := by decide +kernel
theorem dX0_goOn_24 : decode cX0_goOn 24 = .ok (.iinc 1 1, 3) := by decide +kernel
theorem dX0_goOn_27 : decode cX0_goOn 27 = .ok (.goto (-25), 3) := by decide +kernel
theorem dX0_goOn_30 : decode cX0_goOn 30 = .ok (.iconst 0, 1) := by decide +kernel
theorem dX0_goOn_31 : decode cX0_goOn 31 = .ok (.istore_n 1, 1) := by decide +kernel
theorem dX0_goOn_32 : decode cX0_goOn 32 = .ok (.iload_n 1, 1) := by decide +kernel
theorem dX0_goOn_33 : decode cX0_goOn 33 = .ok (.aload_n 0, 1) := by decide +kernel
theorem dX0_goOn_34 : decode cX0_goOn 34 = .ok (.getfield 58, 3) := by decide +kernel
theorem dX0_goOn_37 : decode cX0_goOn 37 = .ok (.getfield 92, 3) := by decide +kernel
theorem dX0_goOn_40 : decode cX0_goOn 40 = .ok (.if_icmp .ge 16, 3) := by decide +kernel
theorem dX0_goOn_43 : decode cX0_goOn 43 = .ok (.aload_n 0, 1) := by decide +kernel
theorem dX0_goOn_44 : decode cX0_goOn 44 = .ok (.getfield 55, 3) := by decide +kernel
theorem dX0_goOn_47 : decode cX0_goOn 47 = .ok (.iload_n 1, 1) := by decide +kernel
theorem dX0_goOn_48 : decode cX0_goOn 48 = .ok (.iconst 0, 1) := by decide +kernel
theorem dX0_goOn_49 : decode cX0_goOn 49 = .ok (.bastore, 1) := by decide +kernel
theorem dX0_goOn_50 : decode cX0_goOn 50 = .ok (.iinc 1 1, 3) := by decide +kernel
theorem dX0_goOn_53 : decode cX0_goOn 53 = .ok (.goto (-21), 3) := by decide +kernel
theorem dX0_goOn_56 : decode cX0_goOn 56 = .ok (.iconst 0, 1) := by decide +kernel
theorem dX0_goOn_57 : decode cX0_goOn 57 = .ok (.istore_n 1, 1) := by decide +kernel
theorem dX0_goOn_58 : decode cX0_goOn 58 = .ok (.iload_n 1, 1) := by decide +kernel
theorem dX0_goOn_59 : decode cX0_goOn 59 = .ok (.aload_n 0, 1) := by decide +kernel
theorem dX0_goOn_60 : decode cX0_goOn 60 = .ok (.getfield 58, 3) := by decide +kernel
theorem dX0_goOn_63 : decode cX0_goOn 63 = .ok (.getfield 92, 3) := by decide +kernel
theorem dX0_goOn_66 : decode cX0_goOn 66 = .ok (.if_icmp .ge 32, 3) := by decide +kernel
theorem dX0_goOn_69 : decode cX0_goOn 69 = .ok (.aload_n 0, 1) := by decide +kernel
theorem dX0_goOn_70 : decode cX0_goOn 70 = .ok (.invokevirtual 184, 3) := by decide +kernel
theorem dX0_goOn_73 : decode cX0_goOn 73 = .ok (.istore_n 2, 1) := by decide +kernel
theorem dX0_goOn_74 : decode cX0_goOn 74 = .ok (.iload_n 2, 1) := by decide +kernel
theorem dX0_goOn_75 : decode cX0_goOn 75 = .ok (.iconst (-1), 1) := by decide +kernel
theorem dX0_goOn_76 : decode cX0_goOn 76 = .ok (.if_icmp .ne 4, 3) := by decide +kernel
theorem dX0_goOn_79 : decode cX0_goOn 79 = .ok (.return_, 1) := by decide +kernel
theorem dX0_goOn_80 : decode cX0_goOn 80 = .ok (.aload_n 0, 1) := by decide +kernel
theorem dX0_goOn_81 : decode cX0_goOn 81 = .ok (.getfield 55, 3) := by decide +kernel
theorem dX0_goOn_84 : decode cX0_goOn 84 = .ok (.iload_n 2, 1) := by decide +kernel
theorem dX0_goOn_85 : decode cX0_goOn 85 = .ok (.iconst 1, 1) := by decide +kernel
theorem dX0_goOn_86 : decode cX0_goOn 86 = .ok (.bastore, 1) := by decide +kernel
theorem dX0_goOn_87 : decode cX0_goOn 87 = .ok (.aload_n 0, 1) := by decide +kernel
theorem dX0_goOn_88 : decode cX0_goOn 88 = .ok (.iload_n 2, 1) := by decide +kernel
theorem dX0_goOn_89 : decode cX0_goOn 89 = .ok (.invokevirtual 187, 3) := by decide +kernel
theorem dX0_goOn_92 : decode cX0_goOn 92 = .ok (.iinc 1 1, 3) := by decide +kernel
theorem dX0_goOn_95 : decode cX0_goOn 95 = .ok (.goto (-37), 3) := by decide +kernel
theorem dX0_goOn_98 : decode cX0_goOn 98 = .ok (.return_, 1) := by decide +kernel
theorem dX0_foremostToGo_0 : decode cX0_foremostToGo 0 = .ok (.iconst (-1), 1) := by decide +kernel
theorem dX0_foremostToGo_1 : decode cX0_foremostToGo 1 = .ok (.istore_n 1, 1) := by decide +kernel
theorem dX0_foremostToGo_2 : decode cX0_foremostToGo 2 = .ok (.iconst (-1), 1) := by decide +kernel
theorem dX0_foremostToGo_3 : decode cX0_foremostToGo 3 = .ok (.istore_n 2, 1) := by decide +kernel
theorem dX0_foremostToGo_4 : decode cX0_foremostToGo 4 = .ok (.iconst 0, 1) := by decide +kernel
theorem dX0_foremostToGo_5 : decode cX0_foremostToGo 5 = .ok (.istore_n 3, 1) := by decide +kernel
theorem dX0_foremostToGo_6 : decode cX0_foremostToGo 6 = .ok (.iload_n 3, 1) := by decide +kernel
theorem dX0_foremostToGo_7 : decode cX0_foremostToGo 7 = .ok (.aload_n 0, 1) := by decide +kernel
theorem dX0_foremostToGo_8 : decode cX0_foremostToGo 8 = .ok (.getfield 58, 3) := by decide +kernel
theorem dX0_foremostToGo_11 : decode cX0_foremostToGo 11 = .ok (.getfield 92, 3) := by decide +kernel
theorem dX0_foremostToGo_14 : decode cX0_foremostToGo 14 = .ok (.if_icmp .ge 47, 3) := by decide +kernel
theorem dX0_foremostToGo_17 : decode cX0_foremostToGo 17 = .ok (.aload_n 0, 1) := by decide +kernel
theorem dX0_foremostToGo_18 : decode cX0_foremostToGo 18 = .ok (.getfield 28, 3) := by decide +kernel
theorem dX0_foremostToGo_21 : decode cX0_foremostToGo 21 = .ok (.iload_n 3, 1) := by decide +kernel
theorem dX0_foremostToGo_22 : decode cX0_foremostToGo 22 = .ok (.iaload, 1) := by decide +kernel
theorem dX0_foremostToGo_23 : decode cX0_foremostToGo 23 = .ok (.iconst 1, 1) := by decide +kernel
theorem dX0_foremostToGo_24 : decode cX0_foremostToGo 24 = .ok (.if_icmp .ne 31, 3) := by decide +kernel
theorem dX0_foremostToGo_27 : decode cX0_foremostToGo 27 = .ok (.aload_n 0, 1) := by decide +kernel
theorem dX0_foremostToGo_28 : decode cX0_foremostToGo 28 = .ok (.getfield 55, 3) := by decide +kernel
theorem dX0_foremostToGo_31 : decode cX0_foremostToGo 31 = .ok (.iload_n 3, 1) := by decide +kernel
theorem dX0_foremostToGo_32 : decode cX0_foremostToGo 32 = .ok (.baload, 1) := by decide +kernel
theorem dX0_foremostToGo_33 : decode cX0_foremostToGo 33 = .ok (.ifCond .ne 22, 3) := by decide +kernel
theorem dX0_foremostToGo_36 : decode cX0_foremostToGo 36 = .ok (.aload_n 0, 1) := by decide +kernel
theorem dX0_foremostToGo_37 : decode cX0_foremostToGo 37 = .ok (.getfield 31, 3) := by decide +kernel
theorem dX0_foremostToGo_40 : decode cX0_foremostToGo 40 = .ok (.iload_n 3, 1) := by decide +kernel
theorem dX0_foremostToGo_41 : decode cX0_foremostToGo 41 = .ok (.iaload, 1) := by decide +kernel
theorem dX0_foremostToGo_42 : decode cX0_foremostToGo 42 = .ok (.iload_n 2, 1) := by decide +kernel
theorem dX0_foremostToGo_43 : decode cX0_foremostToGo 43 = .ok (.if_icmp .le 12, 3) := by decide +kernel
theorem dX0_foremostToGo_46 : decode cX0_foremostToGo 46 = .ok (.aload_n 0, 1) := by decide +kernel
theorem dX0_foremostToGo_47 : decode cX0_foremostToGo 47 = .ok (.getfield 31, 3) := by decide +kernel
theorem dX0_foremostToGo_50 : decode cX0_foremostToGo 50 = .ok (.iload_n 3, 1) := by decide +kernel
theorem dX0_foremostToGo_51 : decode cX0_foremostToGo 51 = .ok (.iaload, 1) := by decide +kernel
theorem dX0_foremostToGo_52 : decode cX0_foremostToGo 52 = .ok (.istore_n 2, 1) := by decide +kernel
theorem dX0_foremostToGo_53 : decode cX0_foremostToGo 53 = .ok (.iload_n 3, 1) := by decide +kernel
theorem dX0_foremostToGo_54 : decode cX0_foremostToGo 54 = .ok (.istore_n 1, 1) := by decide +kernel
theorem dX0_foremostToGo_55 : decode cX0_foremostToGo 55 = .ok (.iinc 3 1, 3) := by decide +kernel
theorem dX0_foremostToGo_58 : decode cX0_foremostToGo 58 = .ok (.goto (-52), 3) := by decide +kernel
theorem dX0_foremostToGo_61 : decode cX0_foremostToGo 61 = .ok (.iload_n 1, 1) := by decide +kernel
theorem dX0_foremostToGo_62 : decode cX0_foremostToGo 62 = .ok (.ireturn, 1) := by decide +kernel
set_option maxRecDepth 20000 in
theorem ggX0_walkOn_X0_goOnePlace : GoodIn wsX0_walkOn wsX0_goOnePlace := goodIn_r _ [13, 14, 1, 15, 16, 17, 18, 12, 19, 20, 21, 22, 23, 24, 25, 26, 27, 28, 29, 30, 31, 32, 33, 34, 35, 36, 37, 38, 39, 40, 41, 42, 43, 44, 45, 46, 47, 48, 49, 50, 51, 52, 53, 54, 55, 56, 57, 58, 59, 60, 61, 62, 63, 64, 65, 66, 67, 68, 69, 70] (by decide +kernel) (by decide +kernel)
set_option maxRecDepth 20000 in
theorem gX0_walkOn_X0_goOnePlace : GoodIn wsX0_walkOn (wsV RX0 193 RX0 yX0_goOnePlace wsX0_goOnePlace) := goodIn_app (goodIn_of _ (by decide +kernel)) ggX0_walkOn_X0_goOnePlace
theorem dX0_walkOn_0 : decode cX0_walkOn 0 = .ok (.aload_n 0, 1) := by decide +kernel
theorem dX0_walkOn_1 : decode cX0_walkOn 1 = .ok (.getfield 58, 3) := by decide +kernel
theorem dX0_walkOn_4 : decode cX0_walkOn 4 = .ok (.getfield 190, 3) := by decide +kernel
theorem dX0_walkOn_7 : decode cX0_walkOn 7 = .ok (.iload_n 1, 1) := by decide +kernel
theorem dX0_walkOn_8 : decode cX0_walkOn 8 = .ok (.iaload, 1) := by decide +kernel
theorem dX0_walkOn_9 : decode cX0_walkOn 9 = .ok (.istore_n 2, 1) := by decide +kernel
theorem dX0_walkOn_10 : decode cX0_walkOn 10 = .ok (.aload_n 0, 1) := by decide +kernel
theorem dX0_walkOn_11 : decode cX0_walkOn 11 = .ok (.getfield 24, 3) := by decide +kernel
theorem dX0_walkOn_14 : decode cX0_walkOn 14 = .ok (.iload_n 1, 1) := by decide +kernel
theorem dX0_walkOn_15 : decode cX0_walkOn 15 = .ok (.baload, 1) := by decide +kernel
theorem dX0_walkOn_16 : decode cX0_walkOn 16 = .ok (.ifCond .ne 21, 3) := by decide +kernel
theorem dX0_walkOn_19 : decode cX0_walkOn 19 = .ok (.aload_n 0, 1) := by decide +kernel
theorem dX0_walkOn_20 : decode cX0_walkOn 20 = .ok (.getfield 34, 3) := by decide +kernel
theorem dX0_walkOn_23 : decode cX0_walkOn 23 = .ok (.iload_n 1, 1) := by decide +kernel
theorem dX0_walkOn_24 : decode cX0_walkOn 24 = .ok (.dup2, 1) := by decide +kernel
theorem dX0_walkOn_25 : decode cX0_walkOn 25 = .ok (.iaload, 1) := by decide +kernel
theorem dX0_walkOn_26 : decode cX0_walkOn 26 = .ok (.iconst 1, 1) := by decide +kernel
theorem dX0_walkOn_27 : decode cX0_walkOn 27 = .ok (.iadd, 1) := by decide +kernel
theorem dX0_walkOn_28 : decode cX0_walkOn 28 = .ok (.iastore, 1) := by decide +kernel
theorem dX0_walkOn_29 : decode cX0_walkOn 29 = .ok (.iconst 1, 1) := by decide +kernel
theorem dX0_walkOn_30 : decode cX0_walkOn 30 = .ok (.iload_n 2, 1) := by decide +kernel
theorem dX0_walkOn_31 : decode cX0_walkOn 31 = .ok (.iconst 1, 1) := by decide +kernel
theorem dX0_walkOn_32 : decode cX0_walkOn 32 = .ok (.isub, 1) := by decide +kernel
theorem dX0_walkOn_33 : decode cX0_walkOn 33 = .ok (.invokestatic 155, 3) := by decide +kernel
theorem dX0_walkOn_36 : decode cX0_walkOn 36 = .ok (.istore_n 2, 1) := by decide +kernel
theorem dX0_walkOn_37 : decode cX0_walkOn 37 = .ok (.iconst 1, 1) := by decide +kernel
theorem dX0_walkOn_38 : decode cX0_walkOn 38 = .ok (.istore_n 3, 1) := by decide +kernel
theorem dX0_walkOn_39 : decode cX0_walkOn 39 = .ok (.iconst 0, 1) := by decide +kernel
theorem dX0_walkOn_40 : decode cX0_walkOn 40 = .ok (.istore 4, 2) := by decide +kernel
theorem dX0_walkOn_42 : decode cX0_walkOn 42 = .ok (.iload 4, 2) := by decide +kernel
theorem dX0_walkOn_44 : decode cX0_walkOn 44 = .ok (.iload_n 2, 1) := by decide +kernel
theorem dX0_walkOn_45 : decode cX0_walkOn 45 = .ok (.if_icmp .ge 19, 3) := by decide +kernel
theorem dX0_walkOn_48 : decode cX0_walkOn 48 = .ok (.iload_n 3, 1) := by decide +kernel
theorem dX0_walkOn_49 : decode cX0_walkOn 49 = .ok (.ifCond .eq 15, 3) := by decide +kernel
theorem dX0_walkOn_52 : decode cX0_walkOn 52 = .ok (.aload_n 0, 1) := by decide +kernel
theorem dX0_walkOn_53 : decode cX0_walkOn 53 = .ok (.iload_n 1, 1) := by decide +kernel
theorem dX0_walkOn_54 : decode cX0_walkOn 54 = .ok (.invokevirtual 193, 3) := by decide +kernel
theorem dX0_walkOn_57 : decode cX0_walkOn 57 = .ok (.istore_n 3, 1) := by decide +kernel
theorem dX0_walkOn_58 : decode cX0_walkOn 58 = .ok (.iinc 4 1, 3) := by decide +kernel
theorem dX0_walkOn_61 : decode cX0_walkOn 61 = .ok (.goto (-19), 3) := by decide +kernel
theorem dX0_walkOn_64 : decode cX0_walkOn 64 = .ok (.return_, 1) := by decide +kernel
set_option maxRecDepth 20000 in
theorem ggX0_goOnePlace_X0_walkersAt : GoodIn wsX0_goOnePlace wsX0_walkersAt := goodIn_r _ [8, 2, 9, 10, 1, 32, 33, 34, 35, 36, 37, 38, 39, 40, 41, 42, 43, 44, 45, 46, 47, 48, 49, 50, 51, 52, 53, 54, 55, 56, 57, 58, 59] (by decide +kernel) (by decide +kernel)
set_option maxRecDepth 20000 in
theorem gX0_goOnePlace_X0_walkersAt : GoodIn wsX0_goOnePlace (wsV RX0 196 RX0 yX0_walkersAt wsX0_walkersAt) := goodIn_app (goodIn_of _ (by decide +kernel)) ggX0_goOnePlace_X0_walkersAt
set_option maxRecDepth 20000 in
theorem ggX0_goOnePlace_X1_stretchEndingAt : GoodIn wsX0_goOnePlace wsX1_stretchEndingAt := goodIn_r _ [15, 16, 17, 18, 49, 50, 51, 52, 53, 54, 55, 56, 57, 58, 59] (by decide +kernel) (by decide +kernel)
set_option maxRecDepth 20000 in
theorem gX0_goOnePlace_X1_stretchEndingAt : GoodIn wsX0_goOnePlace (wsV RX0 199 RX1 yX1_stretchEndingAt wsX1_stretchEndingAt) := goodIn_app (goodIn_of _ (by decide +kernel)) ggX0_goOnePlace_X1_stretchEndingAt
set_option maxRecDepth 20000 in
theorem ggX0_goOnePlace_X0_passCorner : GoodIn wsX0_goOnePlace wsX0_passCorner := goodIn_r _ [22, 23, 24, 25, 32, 33, 34, 35, 36, 37, 38, 39, 40, 41, 42, 43, 44, 45, 46, 47, 48] (by decide +kernel) (by decide +kernel)
set_option maxRecDepth 20000 in
theorem gX0_goOnePlace_X0_passCorner : GoodIn wsX0_goOnePlace (wsV RX0 202 RX0 yX0_passCorner wsX0_passCorner) := goodIn_app (goodIn_of _ (by decide +kernel)) ggX0_goOnePlace_X0_passCorner
set_option maxRecDepth 20000 in
theorem ggX0_goOnePlace_X0_comeHome : GoodIn wsX0_goOnePlace wsX0_comeHome := goodIn_r _ [29, 10, 1, 30, 31, 32, 33, 34, 35, 36, 37, 38, 39, 40, 41, 42, 43, 44, 45, 46, 47, 48] (by decide +kernel) (by decide +kernel)
set_option maxRecDepth 20000 in
theorem gX0_goOnePlace_X0_comeHome : GoodIn wsX0_goOnePlace (wsV RX0 208 RX0 yX0_comeHome wsX0_comeHome) := goodIn_app (goodIn_of _ (by decide +kernel)) ggX0_goOnePlace_X0_comeHome
theorem dX0_goOnePlace_0 : decode cX0_goOnePlace 0 = .ok (.aload_n 0, 1) := by decide +kernel
theorem dX0_goOnePlace_1 : decode cX0_goOnePlace 1 = .ok (.getfield 31, 3) := by decide +kernel
theorem dX0_goOnePlace_4 : decode cX0_goOnePlace 4 = .ok (.iload_n 1, 1) := by decide +kernel
theorem dX0_goOnePlace_5 : decode cX0_goOnePlace 5 = .ok (.iaload, 1) := by decide +kernel
theorem dX0_goOnePlace_6 : decode cX0_goOnePlace 6 = .ok (.iconst 1, 1) := by decide +kernel
theorem dX0_goOnePlace_7 : decode cX0_goOnePlace 7 = .ok (.iadd, 1) := by decide +kernel
theorem dX0_goOnePlace_8 : decode cX0_goOnePlace 8 = .ok (.istore_n 2, 1) := by decide +kernel
theorem dX0_goOnePlace_9 : decode cX0_goOnePlace 9 = .ok (.aload_n 0, 1) := by decide +kernel
theorem dX0_goOnePlace_10 : decode cX0_goOnePlace 10 = .ok (.iload_n 2, 1) := by decide +kernel
theorem dX0_goOnePlace_11 : decode cX0_goOnePlace 11 = .ok (.invokevirtual 196, 3) := by decide +kernel
theorem dX0_goOnePlace_14 : decode cX0_goOnePlace 14 = .ok (.iconst 2, 1) := by decide +kernel
theorem dX0_goOnePlace_15 : decode cX0_goOnePlace 15 = .ok (.if_icmp .lt 5, 3) := by decide +kernel
theorem dX0_goOnePlace_18 : decode cX0_goOnePlace 18 = .ok (.iconst 0, 1) := by decide +kernel
theorem dX0_goOnePlace_19 : decode cX0_goOnePlace 19 = .ok (.ireturn, 1) := by decide +kernel
theorem dX0_goOnePlace_20 : decode cX0_goOnePlace 20 = .ok (.aload_n 0, 1) := by decide +kernel
theorem dX0_goOnePlace_21 : decode cX0_goOnePlace 21 = .ok (.getfield 58, 3) := by decide +kernel
theorem dX0_goOnePlace_24 : decode cX0_goOnePlace 24 = .ok (.aload_n 0, 1) := by decide +kernel
theorem dX0_goOnePlace_25 : decode cX0_goOnePlace 25 = .ok (.getfield 31, 3) := by decide +kernel
theorem dX0_goOnePlace_28 : decode cX0_goOnePlace 28 = .ok (.iload_n 1, 1) := by decide +kernel
theorem dX0_goOnePlace_29 : decode cX0_goOnePlace 29 = .ok (.iaload, 1) := by decide +kernel
theorem dX0_goOnePlace_30 : decode cX0_goOnePlace 30 = .ok (.invokevirtual 199, 3) := by decide +kernel
theorem dX0_goOnePlace_33 : decode cX0_goOnePlace 33 = .ok (.istore_n 3, 1) := by decide +kernel
theorem dX0_goOnePlace_34 : decode cX0_goOnePlace 34 = .ok (.iload_n 3, 1) := by decide +kernel
theorem dX0_goOnePlace_35 : decode cX0_goOnePlace 35 = .ok (.iconst (-1), 1) := by decide +kernel
theorem dX0_goOnePlace_36 : decode cX0_goOnePlace 36 = .ok (.if_icmp .eq 13, 3) := by decide +kernel
theorem dX0_goOnePlace_39 : decode cX0_goOnePlace 39 = .ok (.aload_n 0, 1) := by decide +kernel
theorem dX0_goOnePlace_40 : decode cX0_goOnePlace 40 = .ok (.iload_n 3, 1) := by decide +kernel
theorem dX0_goOnePlace_41 : decode cX0_goOnePlace 41 = .ok (.invokevirtual 202, 3) := by decide +kernel
theorem dX0_goOnePlace_44 : decode cX0_goOnePlace 44 = .ok (.ifCond .ne 5, 3) := by decide +kernel
theorem dX0_goOnePlace_47 : decode cX0_goOnePlace 47 = .ok (.iconst 0, 1) := by decide +kernel
theorem dX0_goOnePlace_48 : decode cX0_goOnePlace 48 = .ok (.ireturn, 1) := by decide +kernel
theorem dX0_goOnePlace_49 : decode cX0_goOnePlace 49 = .ok (.iload_n 2, 1) := by decide +kernel
theorem dX0_goOnePlace_50 : decode cX0_goOnePlace 50 = .ok (.aload_n 0, 1) := by decide +kernel
theorem dX0_goOnePlace_51 : decode cX0_goOnePlace 51 = .ok (.getfield 58, 3) := by decide +kernel
theorem dX0_goOnePlace_54 : decode cX0_goOnePlace 54 = .ok (.getfield 205, 3) := by decide +kernel
theorem dX0_goOnePlace_57 : decode cX0_goOnePlace 57 = .ok (.if_icmp .lt 10, 3) := by decide +kernel
theorem dX0_goOnePlace_60 : decode cX0_goOnePlace 60 = .ok (.aload_n 0, 1) := by decide +kernel
theorem dX0_goOnePlace_61 : decode cX0_goOnePlace 61 = .ok (.iload_n 1, 1) := by decide +kernel
theorem dX0_goOnePlace_62 : decode cX0_goOnePlace 62 = .ok (.invokevirtual 208, 3) := by decide +kernel
theorem dX0_goOnePlace_65 : decode cX0_goOnePlace 65 = .ok (.iconst 0, 1) := by decide +kernel
theorem dX0_goOnePlace_66 : decode cX0_goOnePlace 66 = .ok (.ireturn, 1) := by decide +kernel
theorem dX0_goOnePlace_67 : decode cX0_goOnePlace 67 = .ok (.aload_n 0, 1) := by decide +kernel
theorem dX0_goOnePlace_68 : decode cX0_goOnePlace 68 = .ok (.getfield 31, 3) := by decide +kernel
theorem dX0_goOnePlace_71 : decode cX0_goOnePlace 71 = .ok (.iload_n 1, 1) := by decide +kernel
theorem dX0_goOnePlace_72 : decode cX0_goOnePlace 72 = .ok (.iload_n 2, 1) := by decide +kernel
theorem dX0_goOnePlace_73 : decode cX0_goOnePlace 73 = .ok (.iastore, 1) := by decide +kernel
theorem dX0_goOnePlace_74 : decode cX0_goOnePlace 74 = .ok (.iconst 1, 1) := by decide +kernel
theorem dX0_goOnePlace_75 : decode cX0_goOnePlace 75 = .ok (.ireturn, 1) := by decide +kernel
theorem dX0_passCorner_0 : decode cX0_passCorner 0 = .ok (.aload_n 0, 1) := by decide +kernel
theorem dX0_passCorner_1 : decode cX0_passCorner 1 = .ok (.getfield 52, 3) := by decide +kernel
theorem dX0_passCorner_4 : decode cX0_passCorner 4 = .ok (.iload_n 1, 1) := by decide +kernel
theorem dX0_passCorner_5 : decode cX0_passCorner 5 = .ok (.iaload, 1) := by decide +kernel
theorem dX0_passCorner_6 : decode cX0_passCorner 6 = .ok (.ifCond .gt 15, 3) := by decide +kernel
theorem dX0_passCorner_9 : decode cX0_passCorner 9 = .ok (.aload_n 0, 1) := by decide +kernel
theorem dX0_passCorner_10 : decode cX0_passCorner 10 = .ok (.getfield 18, 3) := by decide +kernel
theorem dX0_passCorner_13 : decode cX0_passCorner 13 = .ok (.iload_n 1, 1) := by decide +kernel
theorem dX0_passCorner_14 : decode cX0_passCorner 14 = .ok (.dup2, 1) := by decide +kernel
theorem dX0_passCorner_15 : decode cX0_passCorner 15 = .ok (.iaload, 1) := by decide +kernel
theorem dX0_passCorner_16 : decode cX0_passCorner 16 = .ok (.iconst 1, 1) := by decide +kernel
theorem dX0_passCorner_17 : decode cX0_passCorner 17 = .ok (.iadd, 1) := by decide +kernel
theorem dX0_passCorner_18 : decode cX0_passCorner 18 = .ok (.iastore, 1) := by decide +kernel
theorem dX0_passCorner_19 : decode cX0_passCorner 19 = .ok (.iconst 0, 1) := by decide +kernel
theorem dX0_passCorner_20 : decode cX0_passCorner 20 = .ok (.ireturn, 1) := by decide +kernel
theorem dX0_passCorner_21 : decode cX0_passCorner 21 = .ok (.aload_n 0, 1) := by decide +kernel
theorem dX0_passCorner_22 : decode cX0_passCorner 22 = .ok (.getfield 52, 3) := by decide +kernel
theorem dX0_passCorner_25 : decode cX0_passCorner 25 = .ok (.iload_n 1, 1) := by decide +kernel
theorem dX0_passCorner_26 : decode cX0_passCorner 26 = .ok (.dup2, 1) := by decide +kernel
theorem dX0_passCorner_27 : decode cX0_passCorner 27 = .ok (.iaload, 1) := by decide +kernel
theorem dX0_passCorner_28 : decode cX0_passCorner 28 = .ok (.iconst 1, 1) := by decide +kernel
theorem dX0_passCorner_29 : decode cX0_passCorner 29 = .ok (.isub, 1) := by decide +kernel
theorem dX0_passCorner_30 : decode cX0_passCorner 30 = .ok (.iastore, 1) := by decide +kernel
theorem dX0_passCorner_31 : decode cX0_passCorner 31 = .ok (.aload_n 0, 1) := by decide +kernel
theorem dX0_passCorner_32 : decode cX0_passCorner 32 = .ok (.getfield 15, 3) := by decide +kernel
theorem dX0_passCorner_35 : decode cX0_passCorner 35 = .ok (.iload_n 1, 1) := by decide +kernel
theorem dX0_passCorner_36 : decode cX0_passCorner 36 = .ok (.dup2, 1) := by decide +kernel
theorem dX0_passCorner_37 : decode cX0_passCorner 37 = .ok (.iaload, 1) := by decide +kernel
theorem dX0_passCorner_38 : decode cX0_passCorner 38 = .ok (.iconst 1, 1) := by decide +kernel
theorem dX0_passCorner_39 : decode cX0_passCorner 39 = .ok (.iadd, 1) := by decide +kernel
theorem dX0_passCorner_40 : decode cX0_passCorner 40 = .ok (.iastore, 1) := by decide +kernel
theorem dX0_passCorner_41 : decode cX0_passCorner 41 = .ok (.iconst 1, 1) := by decide +kernel
theorem dX0_passCorner_42 : decode cX0_passCorner 42 = .ok (.ireturn, 1) := by decide +kernel
theorem dX0_comeHome_0 : decode cX0_comeHome 0 = .ok (.aload_n 0, 1) := by decide +kernel
theorem dX0_comeHome_1 : decode cX0_comeHome 1 = .ok (.getfield 28, 3) := by decide +kernel
theorem dX0_comeHome_4 : decode cX0_comeHome 4 = .ok (.iload_n 1, 1) := by decide +kernel
theorem dX0_comeHome_5 : decode cX0_comeHome 5 = .ok (.iconst 2, 1) := by decide +kernel
theorem dX0_comeHome_6 : decode cX0_comeHome 6 = .ok (.iastore, 1) := by decide +kernel
theorem dX0_comeHome_7 : decode cX0_comeHome 7 = .ok (.aload_n 0, 1) := by decide +kernel
theorem dX0_comeHome_8 : decode cX0_comeHome 8 = .ok (.getfield 31, 3) := by decide +kernel
theorem dX0_comeHome_11 : decode cX0_comeHome 11 = .ok (.iload_n 1, 1) := by decide +kernel
theorem dX0_comeHome_12 : decode cX0_comeHome 12 = .ok (.iconst (-1), 1) := by decide +kernel
theorem dX0_comeHome_13 : decode cX0_comeHome 13 = .ok (.iastore, 1) := by decide +kernel
theorem dX0_comeHome_14 : decode cX0_comeHome 14 = .ok (.aload_n 0, 1) := by decide +kernel
theorem dX0_comeHome_15 : decode cX0_comeHome 15 = .ok (.getfield 37, 3) := by decide +kernel
theorem dX0_comeHome_18 : decode cX0_comeHome 18 = .ok (.iload_n 1, 1) := by decide +kernel
theorem dX0_comeHome_19 : decode cX0_comeHome 19 = .ok (.aload_n 0, 1) := by decide +kernel
theorem dX0_comeHome_20 : decode cX0_comeHome 20 = .ok (.getfield 68, 3) := by decide +kernel
theorem dX0_comeHome_23 : decode cX0_comeHome 23 = .ok (.iastore, 1) := by decide +kernel
theorem dX0_comeHome_24 : decode cX0_comeHome 24 = .ok (.return_, 1) := by decide +kernel
set_option maxRecDepth 20000 in
theorem ggX0_start_X0_walkersAt : GoodIn wsX0_start wsX0_walkersAt := goodIn_r _ [9, 1, 2, 3, 4, 10, 11, 12, 13, 14, 15, 16, 17, 18, 19, 20, 21, 22, 23, 24, 25, 26, 27, 28, 29, 30, 31, 32, 33, 34, 35, 36, 37] (by decide +kernel) (by decide +kernel)
set_option maxRecDepth 20000 in
theorem gX0_start_X0_walkersAt : GoodIn wsX0_start (wsV RX0 196 RX0 yX0_walkersAt wsX0_walkersAt) := goodIn_app (goodIn_of _ (by decide +kernel)) ggX0_start_X0_walkersAt
theorem dX0_start_0 : decode cX0_start 0 = .ok (.iconst 0, 1) := by decide +kernel
theorem dX0_start_1 : decode cX0_start 1 = .ok (.istore_n 1, 1) := by decide +kernel
theorem dX0_start_2 : decode cX0_start 2 = .ok (.iload_n 1, 1) := by decide +kernel
theorem dX0_start_3 : decode cX0_start 3 = .ok (.aload_n 0, 1) := by decide +kernel
theorem dX0_start_4 : decode cX0_start 4 = .ok (.getfield 58, 3) := by decide +kernel
theorem dX0_start_7 : decode cX0_start 7 = .ok (.getfield 92, 3) := by decide +kernel
theorem dX0_start_10 : decode cX0_start 10 = .ok (.if_icmp .ge 41, 3) := by decide +kernel
theorem dX0_start_13 : decode cX0_start 13 = .ok (.aload_n 0, 1) := by decide +kernel
theorem dX0_start_14 : decode cX0_start 14 = .ok (.getfield 28, 3) := by decide +kernel
theorem dX0_start_17 : decode cX0_start 17 = .ok (.iload_n 1, 1) := by decide +kernel
theorem dX0_start_18 : decode cX0_start 18 = .ok (.iaload, 1) := by decide +kernel
theorem dX0_start_19 : decode cX0_start 19 = .ok (.ifCond .ne 26, 3) := by decide +kernel
theorem dX0_start_22 : decode cX0_start 22 = .ok (.aload_n 0, 1) := by decide +kernel
theorem dX0_start_23 : decode cX0_start 23 = .ok (.iconst 0, 1) := by decide +kernel
theorem dX0_start_24 : decode cX0_start 24 = .ok (.invokevirtual 196, 3) := by decide +kernel
theorem dX0_start_27 : decode cX0_start 27 = .ok (.iconst 2, 1) := by decide +kernel
theorem dX0_start_28 : decode cX0_start 28 = .ok (.if_icmp .ge 17, 3) := by decide +kernel
theorem dX0_start_31 : decode cX0_start 31 = .ok (.aload_n 0, 1) := by decide +kernel
theorem dX0_start_32 : decode cX0_start 32 = .ok (.getfield 28, 3) := by decide +kernel
theorem dX0_start_35 : decode cX0_start 35 = .ok (.iload_n 1, 1) := by decide +kernel
theorem dX0_start_36 : decode cX0_start 36 = .ok (.iconst 1, 1) := by decide +kernel
theorem dX0_start_37 : decode cX0_start 37 = .ok (.iastore, 1) := by decide +kernel
theorem dX0_start_38 : decode cX0_start 38 = .ok (.aload_n 0, 1) := by decide +kernel
theorem dX0_start_39 : decode cX0_start 39 = .ok (.getfield 31, 3) := by decide +kernel
theorem dX0_start_42 : decode cX0_start 42 = .ok (.iload_n 1, 1) := by decide +kernel
theorem dX0_start_43 : decode cX0_start 43 = .ok (.iconst 0, 1) := by decide +kernel
theorem dX0_start_44 : decode cX0_start 44 = .ok (.iastore, 1) := by decide +kernel
theorem dX0_start_45 : decode cX0_start 45 = .ok (.iinc 1 1, 3) := by decide +kernel
theorem dX0_start_48 : decode cX0_start 48 = .ok (.goto (-46), 3) := by decide +kernel
theorem dX0_start_51 : decode cX0_start 51 = .ok (.return_, 1) := by decide +kernel
theorem dX1_init_0 : decode cX1_init 0 = .ok (.aload_n 0, 1) := by decide +kernel
theorem dX1_init_1 : decode cX1_init 1 = .ok (.invokespecial 3, 3) := by decide +kernel
theorem dX1_init_4 : decode cX1_init 4 = .ok (.aload_n 0, 1) := by decide +kernel
theorem dX1_init_5 : decode cX1_init 5 = .ok (.bipush 10, 2) := by decide +kernel
theorem dX1_init_7 : decode cX1_init 7 = .ok (.newarray .int, 2) := by decide +kernel
theorem dX1_init_9 : decode cX1_init 9 = .ok (.putfield 9, 3) := by decide +kernel
theorem dX1_init_12 : decode cX1_init 12 = .ok (.aload_n 0, 1) := by decide +kernel
theorem dX1_init_13 : decode cX1_init 13 = .ok (.bipush 10, 2) := by decide +kernel
theorem dX1_init_15 : decode cX1_init 15 = .ok (.newarray .int, 2) := by decide +kernel
theorem dX1_init_17 : decode cX1_init 17 = .ok (.putfield 15, 3) := by decide +kernel
theorem dX1_init_20 : decode cX1_init 20 = .ok (.aload_n 0, 1) := by decide +kernel
theorem dX1_init_21 : decode cX1_init 21 = .ok (.bipush 10, 2) := by decide +kernel
theorem dX1_init_23 : decode cX1_init 23 = .ok (.newarray .int, 2) := by decide +kernel
theorem dX1_init_25 : decode cX1_init 25 = .ok (.putfield 18, 3) := by decide +kernel
theorem dX1_init_28 : decode cX1_init 28 = .ok (.aload_n 0, 1) := by decide +kernel
theorem dX1_init_29 : decode cX1_init 29 = .ok (.bipush 10, 2) := by decide +kernel
theorem dX1_init_31 : decode cX1_init 31 = .ok (.newarray .int, 2) := by decide +kernel
theorem dX1_init_33 : decode cX1_init 33 = .ok (.putfield 21, 3) := by decide +kernel
theorem dX1_init_36 : decode cX1_init 36 = .ok (.aload_n 0, 1) := by decide +kernel
theorem dX1_init_37 : decode cX1_init 37 = .ok (.bipush 20, 2) := by decide +kernel
theorem dX1_init_39 : decode cX1_init 39 = .ok (.newarray .int, 2) := by decide +kernel
theorem dX1_init_41 : decode cX1_init 41 = .ok (.putfield 24, 3) := by decide +kernel
theorem dX1_init_44 : decode cX1_init 44 = .ok (.aload_n 0, 1) := by decide +kernel
theorem dX1_init_45 : decode cX1_init 45 = .ok (.bipush 20, 2) := by decide +kernel
theorem dX1_init_47 : decode cX1_init 47 = .ok (.newarray .int, 2) := by decide +kernel
theorem dX1_init_49 : decode cX1_init 49 = .ok (.putfield 27, 3) := by decide +kernel
theorem dX1_init_52 : decode cX1_init 52 = .ok (.aload_n 0, 1) := by decide +kernel
theorem dX1_init_53 : decode cX1_init 53 = .ok (.bipush 6, 2) := by decide +kernel
theorem dX1_init_55 : decode cX1_init 55 = .ok (.newarray .int, 2) := by decide +kernel
theorem dX1_init_57 : decode cX1_init 57 = .ok (.putfield 30, 3) := by decide +kernel
theorem dX1_init_60 : decode cX1_init 60 = .ok (.return_, 1) := by decide +kernel
theorem dX1_hasStretch_0 : decode cX1_hasStretch 0 = .ok (.iload_n 1, 1) := by decide +kernel
theorem dX1_hasStretch_1 : decode cX1_hasStretch 1 = .ok (.ifCond .lt 15, 3) := by decide +kernel
theorem dX1_hasStretch_4 : decode cX1_hasStretch 4 = .ok (.iload_n 1, 1) := by decide +kernel
theorem dX1_hasStretch_5 : decode cX1_hasStretch 5 = .ok (.aload_n 0, 1) := by decide +kernel
theorem dX1_hasStretch_6 : decode cX1_hasStretch 6 = .ok (.getfield 33, 3) := by decide +kernel
theorem dX1_hasStretch_9 : decode cX1_hasStretch 9 = .ok (.if_icmp .ge 7, 3) := by decide +kernel
theorem dX1_hasStretch_12 : decode cX1_hasStretch 12 = .ok (.iconst 1, 1) := by decide +kernel
theorem dX1_hasStretch_13 : decode cX1_hasStretch 13 = .ok (.goto 4, 3) := by decide +kernel
theorem dX1_hasStretch_16 : decode cX1_hasStretch 16 = .ok (.iconst 0, 1) := by decide +kernel
theorem dX1_hasStretch_17 : decode cX1_hasStretch 17 = .ok (.ireturn, 1) := by decide +kernel
theorem dX1_hasWalker_0 : decode cX1_hasWalker 0 = .ok (.iload_n 1, 1) := by decide +kernel
theorem dX1_hasWalker_1 : decode cX1_hasWalker 1 = .ok (.ifCond .lt 15, 3) := by decide +kernel
theorem dX1_hasWalker_4 : decode cX1_hasWalker 4 = .ok (.iload_n 1, 1) := by decide +kernel
theorem dX1_hasWalker_5 : decode cX1_hasWalker 5 = .ok (.aload_n 0, 1) := by decide +kernel
theorem dX1_hasWalker_6 : decode cX1_hasWalker 6 = .ok (.getfield 37, 3) := by decide +kernel
theorem dX1_hasWalker_9 : decode cX1_hasWalker 9 = .ok (.if_icmp .ge 7, 3) := by decide +kernel
theorem dX1_hasWalker_12 : decode cX1_hasWalker 12 = .ok (.iconst 1, 1) := by decide +kernel
theorem dX1_hasWalker_13 : decode cX1_hasWalker 13 = .ok (.goto 4, 3) := by decide +kernel
theorem dX1_hasWalker_16 : decode cX1_hasWalker 16 = .ok (.iconst 0, 1) := by decide +kernel
theorem dX1_hasWalker_17 : decode cX1_hasWalker 17 = .ok (.ireturn, 1) := by decide +kernel
theorem dX1_hasSong_0 : decode cX1_hasSong 0 = .ok (.iload_n 1, 1) := by decide +kernel
theorem dX1_hasSong_1 : decode cX1_hasSong 1 = .ok (.ifCond .lt 15, 3) := by decide +kernel
theorem dX1_hasSong_4 : decode cX1_hasSong 4 = .ok (.iload_n 1, 1) := by decide +kernel
theorem dX1_hasSong_5 : decode cX1_hasSong 5 = .ok (.aload_n 0, 1) := by decide +kernel
theorem dX1_hasSong_6 : decode cX1_hasSong 6 = .ok (.getfield 40, 3) := by decide +kernel
theorem dX1_hasSong_9 : decode cX1_hasSong 9 = .ok (.if_icmp .ge 7, 3) := by decide +kernel
theorem dX1_hasSong_12 : decode cX1_hasSong 12 = .ok (.iconst 1, 1) := by decide +kernel
theorem dX1_hasSong_13 : decode cX1_hasSong 13 = .ok (.goto 4, 3) := by decide +kernel
theorem dX1_hasSong_16 : decode cX1_hasSong 16 = .ok (.iconst 0, 1) := by decide +kernel
theorem dX1_hasSong_17 : decode cX1_hasSong 17 = .ok (.ireturn, 1) := by decide +kernel
theorem dX1_appendStretch_0 : decode cX1_appendStretch 0 = .ok (.aload_n 0, 1) := by decide +kernel
theorem dX1_appendStretch_1 : decode cX1_appendStretch 1 = .ok (.getfield 33, 3) := by decide +kernel
theorem dX1_appendStretch_4 : decode cX1_appendStretch 4 = .ok (.istore_n 3, 1) := by decide +kernel
theorem dX1_appendStretch_5 : decode cX1_appendStretch 5 = .ok (.aload_n 0, 1) := by decide +kernel
theorem dX1_appendStretch_6 : decode cX1_appendStretch 6 = .ok (.getfield 9, 3) := by decide +kernel
theorem dX1_appendStretch_9 : decode cX1_appendStretch 9 = .ok (.iload_n 3, 1) := by decide +kernel
theorem dX1_appendStretch_10 : decode cX1_appendStretch 10 = .ok (.iload_n 1, 1) := by decide +kernel
theorem dX1_appendStretch_11 : decode cX1_appendStretch 11 = .ok (.iastore, 1) := by decide +kernel
theorem dX1_appendStretch_12 : decode cX1_appendStretch 12 = .ok (.aload_n 0, 1) := by decide +kernel
theorem dX1_appendStretch_13 : decode cX1_appendStretch 13 = .ok (.getfield 15, 3) := by decide +kernel
theorem dX1_appendStretch_16 : decode cX1_appendStretch 16 = .ok (.iload_n 3, 1) := by decide +kernel
theorem dX1_appendStretch_17 : decode cX1_appendStretch 17 = .ok (.iload_n 2, 1) := by decide +kernel
theorem dX1_appendStretch_18 : decode cX1_appendStretch 18 = .ok (.iastore, 1) := by decide +kernel
theorem dX1_appendStretch_19 : decode cX1_appendStretch 19 = .ok (.aload_n 0, 1) := by decide +kernel
theorem dX1_appendStretch_20 : decode cX1_appendStretch 20 = .ok (.getfield 18, 3) := by decide +kernel
theorem dX1_appendStretch_23 : decode cX1_appendStretch 23 = .ok (.iload_n 3, 1) := by decide +kernel
theorem dX1_appendStretch_24 : decode cX1_appendStretch 24 = .ok (.aload_n 0, 1) := by decide +kernel
theorem dX1_appendStretch_25 : decode cX1_appendStretch 25 = .ok (.getfield 43, 3) := by decide +kernel
theorem dX1_appendStretch_28 : decode cX1_appendStretch 28 = .ok (.iastore, 1) := by decide +kernel
theorem dX1_appendStretch_29 : decode cX1_appendStretch 29 = .ok (.aload_n 0, 1) := by decide +kernel
theorem dX1_appendStretch_30 : decode cX1_appendStretch 30 = .ok (.dup, 1) := by decide +kernel
theorem dX1_appendStretch_31 : decode cX1_appendStretch 31 = .ok (.getfield 43, 3) := by decide +kernel
theorem dX1_appendStretch_34 : decode cX1_appendStretch 34 = .ok (.iload_n 1, 1) := by decide +kernel
theorem dX1_appendStretch_35 : decode cX1_appendStretch 35 = .ok (.iadd, 1) := by decide +kernel
theorem dX1_appendStretch_36 : decode cX1_appendStretch 36 = .ok (.putfield 43, 3) := by decide +kernel
theorem dX1_appendStretch_39 : decode cX1_appendStretch 39 = .ok (.aload_n 0, 1) := by decide +kernel
theorem dX1_appendStretch_40 : decode cX1_appendStretch 40 = .ok (.dup, 1) := by decide +kernel
theorem dX1_appendStretch_41 : decode cX1_appendStretch 41 = .ok (.getfield 33, 3) := by decide +kernel
theorem dX1_appendStretch_44 : decode cX1_appendStretch 44 = .ok (.iconst 1, 1) := by decide +kernel
theorem dX1_appendStretch_45 : decode cX1_appendStretch 45 = .ok (.iadd, 1) := by decide +kernel
theorem dX1_appendStretch_46 : decode cX1_appendStretch 46 = .ok (.putfield 33, 3) := by decide +kernel
theorem dX1_appendStretch_49 : decode cX1_appendStretch 49 = .ok (.iload_n 3, 1) := by decide +kernel
theorem dX1_appendStretch_50 : decode cX1_appendStretch 50 = .ok (.ireturn, 1) := by decide +kernel
theorem dX1_appendWalker_0 : decode cX1_appendWalker 0 = .ok (.aload_n 0, 1) := by decide +kernel
theorem dX1_appendWalker_1 : decode cX1_appendWalker 1 = .ok (.getfield 37, 3) := by decide +kernel
theorem dX1_appendWalker_4 : decode cX1_appendWalker 4 = .ok (.istore_n 3, 1) := by decide +kernel
theorem dX1_appendWalker_5 : decode cX1_appendWalker 5 = .ok (.aload_n 0, 1) := by decide +kernel
theorem dX1_appendWalker_6 : decode cX1_appendWalker 6 = .ok (.getfield 24, 3) := by decide +kernel
theorem dX1_appendWalker_9 : decode cX1_appendWalker 9 = .ok (.iload_n 3, 1) := by decide +kernel
theorem dX1_appendWalker_10 : decode cX1_appendWalker 10 = .ok (.iload_n 1, 1) := by decide +kernel
theorem dX1_appendWalker_11 : decode cX1_appendWalker 11 = .ok (.iastore, 1) := by decide +kernel
theorem dX1_appendWalker_12 : decode cX1_appendWalker 12 = .ok (.aload_n 0, 1) := by decide +kernel
theorem dX1_appendWalker_13 : decode cX1_appendWalker 13 = .ok (.getfield 27, 3) := by decide +kernel
theorem dX1_appendWalker_16 : decode cX1_appendWalker 16 = .ok (.iload_n 3, 1) := by decide +kernel
theorem dX1_appendWalker_17 : decode cX1_appendWalker 17 = .ok (.iload_n 2, 1) := by decide +kernel
theorem dX1_appendWalker_18 : decode cX1_appendWalker 18 = .ok (.iastore, 1) := by decide +kernel
theorem dX1_appendWalker_19 : decode cX1_appendWalker 19 = .ok (.aload_n 0, 1) := by decide +kernel
theorem dX1_appendWalker_20 : decode cX1_appendWalker 20 = .ok (.dup, 1) := by decide +kernel
theorem dX1_appendWalker_21 : decode cX1_appendWalker 21 = .ok (.getfield 37, 3) := by decide +kernel
theorem dX1_appendWalker_24 : decode cX1_appendWalker 24 = .ok (.iconst 1, 1) := by decide +kernel
theorem dX1_appendWalker_25 : decode cX1_appendWalker 25 = .ok (.iadd, 1) := by decide +kernel
theorem dX1_appendWalker_26 : decode cX1_appendWalker 26 = .ok (.putfield 37, 3) := by decide +kernel
theorem dX1_appendWalker_29 : decode cX1_appendWalker 29 = .ok (.iload_n 3, 1) := by decide +kernel
theorem dX1_appendWalker_30 : decode cX1_appendWalker 30 = .ok (.ireturn, 1) := by decide +kernel
theorem dX1_appendSong_0 : decode cX1_appendSong 0 = .ok (.aload_n 0, 1) := by decide +kernel
theorem dX1_appendSong_1 : decode cX1_appendSong 1 = .ok (.getfield 40, 3) := by decide +kernel
theorem dX1_appendSong_4 : decode cX1_appendSong 4 = .ok (.istore_n 2, 1) := by decide +kernel
theorem dX1_appendSong_5 : decode cX1_appendSong 5 = .ok (.aload_n 0, 1) := by decide +kernel
theorem dX1_appendSong_6 : decode cX1_appendSong 6 = .ok (.getfield 30, 3) := by decide +kernel
theorem dX1_appendSong_9 : decode cX1_appendSong 9 = .ok (.iload_n 2, 1) := by decide +kernel
theorem dX1_appendSong_10 : decode cX1_appendSong 10 = .ok (.iload_n 1, 1) := by decide +kernel
theorem dX1_appendSong_11 : decode cX1_appendSong 11 = .ok (.iastore, 1) := by decide +kernel
theorem dX1_appendSong_12 : decode cX1_appendSong 12 = .ok (.aload_n 0, 1) := by decide +kernel
theorem dX1_appendSong_13 : decode cX1_appendSong 13 = .ok (.dup, 1) := by decide +kernel
theorem dX1_appendSong_14 : decode cX1_appendSong 14 = .ok (.getfield 40, 3) := by decide +kernel
theorem dX1_appendSong_17 : decode cX1_appendSong 17 = .ok (.iconst 1, 1) := by decide +kernel
theorem dX1_appendSong_18 : decode cX1_appendSong 18 = .ok (.iadd, 1) := by decide +kernel
theorem dX1_appendSong_19 : decode cX1_appendSong 19 = .ok (.putfield 40, 3) := by decide +kernel
theorem dX1_appendSong_22 : decode cX1_appendSong 22 = .ok (.iload_n 2, 1) := by decide +kernel
theorem dX1_appendSong_23 : decode cX1_appendSong 23 = .ok (.ireturn, 1) := by decide +kernel
theorem dX1_stretchEndingAt_0 : decode cX1_stretchEndingAt 0 = .ok (.iconst 0, 1) := by decide +kernel
theorem dX1_stretchEndingAt_1 : decode cX1_stretchEndingAt 1 = .ok (.istore_n 2, 1) := by decide +kernel
theorem dX1_stretchEndingAt_2 : decode cX1_stretchEndingAt 2 = .ok (.iload_n 2, 1) := by decide +kernel
theorem dX1_stretchEndingAt_3 : decode cX1_stretchEndingAt 3 = .ok (.aload_n 0, 1) := by decide +kernel
theorem dX1_stretchEndingAt_4 : decode cX1_stretchEndingAt 4 = .ok (.getfield 33, 3) := by decide +kernel
theorem dX1_stretchEndingAt_7 : decode cX1_stretchEndingAt 7 = .ok (.if_icmp .ge 30, 3) := by decide +kernel
theorem dX1_stretchEndingAt_10 : decode cX1_stretchEndingAt 10 = .ok (.aload_n 0, 1) := by decide +kernel
theorem dX1_stretchEndingAt_11 : decode cX1_stretchEndingAt 11 = .ok (.getfield 18, 3) := by decide +kernel
theorem dX1_stretchEndingAt_14 : decode cX1_stretchEndingAt 14 = .ok (.iload_n 2, 1) := by decide +kernel
theorem dX1_stretchEndingAt_15 : decode cX1_stretchEndingAt 15 = .ok (.iaload, 1) := by decide +kernel
theorem dX1_stretchEndingAt_16 : decode cX1_stretchEndingAt 16 = .ok (.aload_n 0, 1) := by decide +kernel
theorem dX1_stretchEndingAt_17 : decode cX1_stretchEndingAt 17 = .ok (.getfield 9, 3) := by decide +kernel
theorem dX1_stretchEndingAt_20 : decode cX1_stretchEndingAt 20 = .ok (.iload_n 2, 1) := by decide +kernel
theorem dX1_stretchEndingAt_21 : decode cX1_stretchEndingAt 21 = .ok (.iaload, 1) := by decide +kernel
theorem dX1_stretchEndingAt_22 : decode cX1_stretchEndingAt 22 = .ok (.iadd, 1) := by decide +kernel
theorem dX1_stretchEndingAt_23 : decode cX1_stretchEndingAt 23 = .ok (.iconst 1, 1) := by decide +kernel
theorem dX1_stretchEndingAt_24 : decode cX1_stretchEndingAt 24 = .ok (.isub, 1) := by decide +kernel
theorem dX1_stretchEndingAt_25 : decode cX1_stretchEndingAt 25 = .ok (.iload_n 1, 1) := by decide +kernel
theorem dX1_stretchEndingAt_26 : decode cX1_stretchEndingAt 26 = .ok (.if_icmp .ne 5, 3) := by decide +kernel
theorem dX1_stretchEndingAt_29 : decode cX1_stretchEndingAt 29 = .ok (.iload_n 2, 1) := by decide +kernel
theorem dX1_stretchEndingAt_30 : decode cX1_stretchEndingAt 30 = .ok (.ireturn, 1) := by decide +kernel
theorem dX1_stretchEndingAt_31 : decode cX1_stretchEndingAt 31 = .ok (.iinc 2 1, 3) := by decide +kernel
theorem dX1_stretchEndingAt_34 : decode cX1_stretchEndingAt 34 = .ok (.goto (-32), 3) := by decide +kernel
theorem dX1_stretchEndingAt_37 : decode cX1_stretchEndingAt 37 = .ok (.iconst (-1), 1) := by decide +kernel
theorem dX1_stretchEndingAt_38 : decode cX1_stretchEndingAt 38 = .ok (.ireturn, 1) := by decide +kernel
set_option maxRecDepth 20000 in
theorem ggX2_init_X1_init : GoodIn wsX2_init wsX1_init := goodIn_r _ [14, 15, 2, 3, 16, 17, 18, 19, 20, 21, 22, 23, 49, 50, 51, 52, 53, 54, 55, 56, 57, 58, 59] (by decide +kernel) (by decide +kernel)
set_option maxRecDepth 20000 in
theorem gX2_init_X1_init_n9 : GoodIn wsX2_init (wsX1_init) := ggX2_init_X1_init
set_option maxRecDepth 20000 in
theorem ggX2_init_X0_init : GoodIn wsX2_init wsX0_init := goodIn_r _ [26, 27, 2, 3, 16, 28, 29, 30, 31, 32, 33, 34, 35, 36, 37, 38, 39, 40, 41, 42, 43, 44, 45, 46, 47, 48, 63, 64, 65, 66, 67, 68, 69, 70, 71, 72, 73, 74, 75, 76, 77, 78, 79] (by decide +kernel) (by decide +kernel)
set_option maxRecDepth 20000 in
theorem gX2_init_X0_init : GoodIn wsX2_init (wsX0_init) := ggX2_init_X0_init
end
section
theorem dX2_cellOf_0 : decode cX2_cellOf 0 = .ok (.iload_n 0, 1) := by decide +kernel
theorem dX2_cellOf_1 : decode cX2_cellOf 1 = .ok (.bipush 6, 2) := by decide +kernel
theorem dX2_cellOf_3 : decode cX2_cellOf 3 = .ok (.imul, 1) := by decide +kernel
theorem dX2_cellOf_4 : decode cX2_cellOf 4 = .ok (.iload_n 1, 1) := by decide +kernel
theorem dX2_cellOf_5 : decode cX2_cellOf 5 = .ok (.iadd, 1) := by decide +kernel
theorem dX2_cellOf_6 : decode cX2_cellOf 6 = .ok (.ireturn, 1) := by decide +kernel
end
section
/-! BASE: what every contract of this claim shares: read-only methods, methods that change a world of fixed cells, rows at natural numbers. -/
def lwE (U : State) : Prop := va_Nw (.methodLinkNest RX0 104 yX2_cellOf RX2) U
theorem lwE.same {u U : State} (h : u.vm = U.vm) (q : lwE u) : lwE U := va_Nw.same rfl h q
theorem lwE.warm {s U : State} (hW : s.WarmedH U.vm) (q : lwE s) : lwE U := va_Nw.warmM hW q
/-- the start of a method: its arguments, the heap by its name, the world -/
def ro_P (D : va_G) (tys : List (ClassId × FieldType)) (w : va_W) (H : Heap) (av : List Value) : Array Value → State → Prop := va_Pc av (fun U => U.heap = H ∧ va_P D vwCl w H ∧ va_K D vwCl tys U ∧ lwE U)
theorem ro_blind {D : va_G} {tys : List (ClassId × FieldType)} {w : va_W} {H : Heap} {av : List Value} : FrameBlind (ro_P D tys w H av) := fun a U g mk q => ⟨q.1, q.2.1, q.2.2.1, va_K.moved (u := U) (U := U.calling g mk a) (Vm.Alike.refl U.vm) q.2.2.2.1, lwE.same (u := U) (U := U.calling g mk a) rfl q.2.2.2.2⟩
/-- the end of a method that changes nothing, with the int v -/
def ro_Q (v : Int32) (H : Heap) : Array Value → State → Outcome → State → Prop := va_Qi (fun (r : Int32) (_ : Unit) => r = v) (fun _ t => t.heap = H) (fun _ => False)
/-- the end of a method that leaves the world w' and answers nothing, or the int v -/
def mu_Q (D : va_G) (w' : va_W) (A : Nat → Prop) : Array Value → State → Outcome → State → Prop := va_Qv (fun (_ : Unit) => True) (fun _ t => va_P D vwCl w' t.heap) A
def mi_Q (D : va_G) (v : Int32) (w' : va_W) (A : Nat → Prop) : Array Value → State → Outcome → State → Prop := va_Qi (fun (r : Int32) (_ : Unit) => r = v) (fun _ t => va_P D vwCl w' t.heap) A
section LWB
variable {l : Launch} {y : MethodName} {ws ws' : List Cond} {rm : Room} {cc : ByteArray} {maxL : Nat} {ty : FieldType} {D : va_G} {tys : List (ClassId × FieldType)} {w w' : va_W} {H : Heap} {av : List Value} {v : Int32} {A : Nat → Prop}
/-- a read-only method, from its body -/
theorem ro_of (hy : plainName y.cls = true) (hw : ws = Cond.code y cc maxL (some ty) :: ws') (hlen : (lg_sl av).length ≤ maxL) (hn : narrow ty (.int v) = .int v)
    (body : ∀ (p : Program) (e : Env) (s : State) (m : MethodId) (args : Array Value) (below : List Frame) (meth : Method) (c : Code) (Q : State → Prop) (ls : Array Slot) (locs : List Loc),
      p.tables.exec = Jvm.exec → c.code = cc → c.maxLocals = maxL → s.vm.findClass y.cls = some m.cls → (∀ w ∈ ws, w.before args s = true) → va_K D vwCl tys s → lwE s → va_P D vwCl w H → lv_has ls maxL (lv_args 0 av) → va_S (fun _ => False) H H locs →
      (∀ (pc : Nat) (ls : Array Slot) (locs : List Loc), decode cc pc = .ok (.ireturn, 1) → va_S (fun _ => False) H H locs → W p l e rm s m args below meth c H locs 0 0 Q (F0 m pc ls [.int v])) →
      W p l e rm s m args below meth c H locs 0 0 Q (F0 m 0 ls [])) : Met l y ws rm (ro_P D tys w H av) (ro_Q v H) 0 0 (fun _ => False) := by
  refine Met.ofW (cc := cc) (maxL := maxL) (ret := some ty) hy hw ?_
  intro p e s m args below meth c s₁ B hml hv
  obtain ⟨rfl, rfl, hP, hK, hE⟩ := hv
  have hx := B.exec
  have hb := B.bytes
  have hr := B.returns
  have hts := atoms_spec (ws := ws) B.pre
  have hown : s.vm.findClass y.cls = some m.cls := findClass_of_methodNamed B.named
  have hlocks := B.notSynchronized
  have hl := lv_entry av (n := maxL) hlen
  rw [lg_entry_eq]
  generalize (lg_sl av ++ List.replicate (maxL - (lg_sl av).length) Slot.unset).toArray = ls at hl ⊢
  exact body p e s m _ below meth c _ ls [] hx hb hml hown hts hK hE hP hl va_S.rf (fun pc ls locs hd hS => W.zret (v := v) hx hb hr hn (fun t ht hW => ⟨⟨v, (), rfl, rfl, ht⟩, hS.F ht⟩) hS.2.2 hd hlocks)
/-- a method that changes its world and answers nothing -/
theorem mu_of (hy : plainName y.cls = true) (hw : ws = Cond.code y cc maxL none :: ws') (hlen : (lg_sl av).length ≤ maxL)
    (body : ∀ (p : Program) (e : Env) (s : State) (m : MethodId) (args : Array Value) (below : List Frame) (meth : Method) (c : Code) (Q : State → Prop) (ls : Array Slot) (locs : List Loc),
      p.tables.exec = Jvm.exec → c.code = cc → c.maxLocals = maxL → s.vm.findClass y.cls = some m.cls → (∀ w ∈ ws, w.before args s = true) → va_K D vwCl tys s → lwE s → va_P D vwCl w H → lv_has ls maxL (lv_args 0 av) → va_S A H H locs →
      (∀ (pc : Nat) (ls : Array Slot) (H1 : Heap) (locs : List Loc), decode cc pc = .ok (.return_, 1) → va_P D vwCl w' H1 → va_S A H H1 locs → W p l e rm s m args below meth c H1 locs 0 0 Q (F0 m pc ls [])) →
      W p l e rm s m args below meth c H locs 0 0 Q (F0 m 0 ls [])) : Met l y ws rm (ro_P D tys w H av) (mu_Q D w' A) 0 0 A := by
  refine Met.ofW (cc := cc) (maxL := maxL) (ret := none) hy hw ?_
  intro p e s m args below meth c s₁ B hml hv
  obtain ⟨rfl, rfl, hP, hK, hE⟩ := hv
  have hx := B.exec
  have hb := B.bytes
  have hr := B.returns
  have hts := atoms_spec (ws := ws) B.pre
  have hown : s.vm.findClass y.cls = some m.cls := findClass_of_methodNamed B.named
  have hlocks := B.notSynchronized
  have hl := lv_entry av (n := maxL) hlen
  rw [lg_entry_eq]
  generalize (lg_sl av ++ List.replicate (maxL - (lg_sl av).length) Slot.unset).toArray = ls at hl ⊢
  exact body p e s m _ below meth c _ ls [] hx hb hml hown hts hK hE hP hl va_S.rf (fun pc ls H1 locs hd hP1 hS => W.vret hx hb hr (fun t ht hW => ⟨⟨(), rfl, trivial, by show va_P D vwCl w' t.heap; rw [ht]; exact hP1⟩, hS.F ht⟩) hS.2.2 hd hlocks)
/-- a method that changes its world and answers an int -/
theorem mi_of (hy : plainName y.cls = true) (hw : ws = Cond.code y cc maxL (some ty) :: ws') (hlen : (lg_sl av).length ≤ maxL) (hn : narrow ty (.int v) = .int v)
    (body : ∀ (p : Program) (e : Env) (s : State) (m : MethodId) (args : Array Value) (below : List Frame) (meth : Method) (c : Code) (Q : State → Prop) (ls : Array Slot) (locs : List Loc),
      p.tables.exec = Jvm.exec → c.code = cc → c.maxLocals = maxL → s.vm.findClass y.cls = some m.cls → (∀ w ∈ ws, w.before args s = true) → va_K D vwCl tys s → lwE s → va_P D vwCl w H → lv_has ls maxL (lv_args 0 av) → va_S A H H locs →
      (∀ (pc : Nat) (ls : Array Slot) (H1 : Heap) (locs : List Loc), decode cc pc = .ok (.ireturn, 1) → va_P D vwCl w' H1 → va_S A H H1 locs → W p l e rm s m args below meth c H1 locs 0 0 Q (F0 m pc ls [.int v])) →
      W p l e rm s m args below meth c H locs 0 0 Q (F0 m 0 ls [])) : Met l y ws rm (ro_P D tys w H av) (mi_Q D v w' A) 0 0 A := by
  refine Met.ofW (cc := cc) (maxL := maxL) (ret := some ty) hy hw ?_
  intro p e s m args below meth c s₁ B hml hv
  obtain ⟨rfl, rfl, hP, hK, hE⟩ := hv
  have hx := B.exec
  have hb := B.bytes
  have hr := B.returns
  have hts := atoms_spec (ws := ws) B.pre
  have hown : s.vm.findClass y.cls = some m.cls := findClass_of_methodNamed B.named
  have hlocks := B.notSynchronized
  have hl := lv_entry av (n := maxL) hlen
  rw [lg_entry_eq]
  generalize (lg_sl av ++ List.replicate (maxL - (lg_sl av).length) Slot.unset).toArray = ls at hl ⊢
  exact body p e s m _ below meth c _ ls [] hx hb hml hown hts hK hE hP hl va_S.rf (fun pc ls H1 locs hd hP1 hS => W.zret (v := v) hx hb hr hn (fun t ht hW => ⟨⟨v, (), rfl, rfl, by show va_P D vwCl w' t.heap; rw [ht]; exact hP1⟩, hS.F ht⟩) hS.2.2 hd hlocks)
end LWB
section LWR
variable {p : Program} {l : Launch} {e : Env} {R : Room} {s : State} {m : MethodId} {args : Array Value} {below : List Frame} {meth : Method} {c : Code} {H : Heap} {locs : List Loc} {cells slots : Nat} {Q : State → Prop}
variable {cc : ByteArray} {pc : Nat} {ls : Array Slot} {rest st0 : List Value} {D : va_G} {tys : List (ClassId × FieldType)} {w w' : va_W} {A A0 A1 : Nat → Prop} {H0 : Heap} {b : Nat}
theorem li_topi {x x' : Int32} (h : x = x') (k : W p l e R s m args below meth c H locs cells slots Q (F0 m pc ls (.int x' :: rest))) : W p l e R s m args below meth c H locs cells slots Q (F0 m pc ls (.int x :: rest)) := by rw [h]; exact k
theorem li_nC {k : Nat} (h : k < 2 ^ 31) : (nI k).toNatClampNeg = k := nI_clamp h
/-- reading a row of ints, or of booleans, at a natural number -/
theorem li_ild (hx : p.tables.exec = Jvm.exec) (hb : c.code = cc) (hK : va_K D vwCl tys s) (hP : va_P D vwCl w H) (q0 t0 : Nat) {cA : ClassId} {n : Nat} {f : Nat → Int32} (ha : w[q0]? = some (b, .inl (cA, n, .inl f))) (ht : tys[t0]? = some (cA, .int)) {i : Nat} (hi : i < n) (hn : n ≤ 200) (hdg : decode cc pc = .ok (.iaload, 1))
    (kk : W p l e R s m args below meth c H locs cells slots Q (F0 m (pc + 1) ls (.int (f i) :: rest))) : W p l e R s m args below meth c H locs cells slots Q (F0 m pc ls (.int (nI i) :: .ref b :: rest)) := by
  refine va_iald hx hb hK hP q0 t0 ha ht (vp_in_nI hi (by omega)) hdg ?_
  rw [li_nC (by omega)]
  exact kk
theorem li_zld (hx : p.tables.exec = Jvm.exec) (hb : c.code = cc) (hK : va_K D vwCl tys s) (hP : va_P D vwCl w H) (q0 t0 : Nat) {cA : ClassId} {n : Nat} {f : Nat → Int32} (ha : w[q0]? = some (b, .inl (cA, n, .inl f))) (ht : tys[t0]? = some (cA, .boolean)) {i : Nat} (hi : i < n) (hn : n ≤ 200) (hdg : decode cc pc = .ok (.baload, 1))
    (kk : W p l e R s m args below meth c H locs cells slots Q (F0 m (pc + 1) ls (.int (f i) :: rest))) : W p l e R s m args below meth c H locs cells slots Q (F0 m pc ls (.int (nI i) :: .ref b :: rest)) := by
  refine va_zald hx hb hK hP q0 t0 ha ht (vp_in_nI hi (by omega)) hdg ?_
  rw [li_nC (by omega)]
  exact kk
theorem li_ist (hx : p.tables.exec = Jvm.exec) (hb : c.code = cc) (hK : va_K D vwCl tys s) (hP : va_P D vwCl w H) (hD : va_D A w) (hS : va_S A H0 H locs) (q0 t0 : Nat) {cA : ClassId} {n : Nat} {f : Nat → Int32} (ha : w[q0]? = some (b, .inl (cA, n, .inl f))) (ht : tys[t0]? = some (cA, .int)) {i : Nat} {x : Int32} (hi : i < n) (hn : n ≤ 200) (hw : w.set q0 (b, .inl (cA, n, .inl (upd f i x))) = w') (hdg : decode cc pc = .ok (.iastore, 1))
    (kk : ∀ (H1 : Heap) (locs1 : List Loc), va_P D vwCl w' H1 → va_S A H0 H1 locs1 → W p l e R s m args below meth c H1 locs1 cells slots Q (F0 m (pc + 1) ls rest)) : W p l e R s m args below meth c H locs cells slots Q (F0 m pc ls (.int x :: .int (nI i) :: .ref b :: rest)) := by
  refine va_iast hx hb hK hP hD hS q0 t0 ha ht (vp_in_nI hi (by omega)) hdg (fun H1 locs1 h1 _ h3 => ?_)
  rw [li_nC (by omega), hw] at h1
  exact kk H1 locs1 h1 h3
theorem li_zst (hx : p.tables.exec = Jvm.exec) (hb : c.code = cc) (hK : va_K D vwCl tys s) (hP : va_P D vwCl w H) (hD : va_D A w) (hS : va_S A H0 H locs) (q0 t0 : Nat) {cA : ClassId} {n : Nat} {f : Nat → Int32} (ha : w[q0]? = some (b, .inl (cA, n, .inl f))) (ht : tys[t0]? = some (cA, .boolean)) {i : Nat} {x : Int32} (hi : i < n) (hn : n ≤ 200) (hx1 : vp_nar .boolean x = x) (hw : w.set q0 (b, .inl (cA, n, .inl (upd f i x))) = w') (hdg : decode cc pc = .ok (.bastore, 1))
    (kk : ∀ (H1 : Heap) (locs1 : List Loc), va_P D vwCl w' H1 → va_S A H0 H1 locs1 → W p l e R s m args below meth c H1 locs1 cells slots Q (F0 m (pc + 1) ls rest)) : W p l e R s m args below meth c H locs cells slots Q (F0 m pc ls (.int x :: .int (nI i) :: .ref b :: rest)) := by
  refine va_zast hx hb hK hP hD hS q0 t0 ha ht (vp_in_nI hi (by omega)) hdg (fun H1 locs1 h1 _ h3 => ?_)
  rw [li_nC (by omega), hx1, hw] at h1
  exact kk H1 locs1 h1 h3
theorem li_alen (hx : p.tables.exec = Jvm.exec) (hb : c.code = cc) (hK : va_K D vwCl tys s) (hP : va_P D vwCl w H) (q0 t0 : Nat) {cA : ClassId} {n : Nat} {f : (Nat → Int32) ⊕ (Nat → Int64) ⊕ (Nat → UInt32) ⊕ (Nat → UInt64) ⊕ (Nat → Option Nat)} (ha : w[q0]? = some (b, .inl (cA, n, f))) {ty : FieldType} (ht : tys[t0]? = some (cA, ty)) (hdg : decode cc pc = .ok (.arraylength, 1))
    (kk : W p l e R s m args below meth c H locs cells slots Q (F0 m (pc + 1) ls (.int (nI n) :: rest))) : W p l e R s m args below meth c H locs cells slots Q (F0 m pc ls (.ref b :: rest)) := va_alen hx hb hK hP q0 t0 ha ht rfl hdg kk
/-- comparisons of natural numbers -/
theorem li_ge (hx : p.tables.exec = Jvm.exec) (hb : c.code = cc) {i j : Nat} {off : Int} {tgt : Nat} (hdg : decode cc pc = .ok (.if_icmp .ge off, 3)) (ht : (pc : Int) + off = (tgt : Int)) (hi : i < 2 ^ 31) (hj : j < 2 ^ 31)
    (kt : j ≤ i → W p l e R s m args below meth c H locs cells slots Q (F0 m tgt ls rest)) (kf : i < j → W p l e R s m args below meth c H locs cells slots Q (F0 m (pc + 3) ls rest)) : W p l e R s m args below meth c H locs cells slots Q (F0 m pc ls (.int (nI j) :: .int (nI i) :: rest)) :=
  lv_icmp_ge hx hb hdg ht (fun h => kt ((nI_leI hj hi).mp h)) (fun h => kf (Nat.lt_of_not_le (fun q => h ((nI_leI hj hi).mpr q))))
theorem li_gt (hx : p.tables.exec = Jvm.exec) (hb : c.code = cc) {i j : Nat} {off : Int} {tgt : Nat} (hdg : decode cc pc = .ok (.if_icmp .gt off, 3)) (ht : (pc : Int) + off = (tgt : Int)) (hi : i < 2 ^ 31) (hj : j < 2 ^ 31)
    (kt : j < i → W p l e R s m args below meth c H locs cells slots Q (F0 m tgt ls rest)) (kf : i ≤ j → W p l e R s m args below meth c H locs cells slots Q (F0 m (pc + 3) ls rest)) : W p l e R s m args below meth c H locs cells slots Q (F0 m pc ls (.int (nI j) :: .int (nI i) :: rest)) :=
  lv_icmp_gt hx hb hdg ht (fun h => kt ((nI_ltI hj hi).mp h)) (fun h => kf (Nat.le_of_not_lt (fun q => h ((nI_ltI hj hi).mpr q))))
theorem li_lt (hx : p.tables.exec = Jvm.exec) (hb : c.code = cc) {i j : Nat} {off : Int} {tgt : Nat} (hdg : decode cc pc = .ok (.if_icmp .lt off, 3)) (ht : (pc : Int) + off = (tgt : Int)) (hi : i < 2 ^ 31) (hj : j < 2 ^ 31)
    (kt : i < j → W p l e R s m args below meth c H locs cells slots Q (F0 m tgt ls rest)) (kf : j ≤ i → W p l e R s m args below meth c H locs cells slots Q (F0 m (pc + 3) ls rest)) : W p l e R s m args below meth c H locs cells slots Q (F0 m pc ls (.int (nI j) :: .int (nI i) :: rest)) :=
  lv_icmp_lt hx hb hdg ht (fun h => kt ((nI_ltI hi hj).mp h)) (fun h => kf (Nat.le_of_not_lt (fun q => h ((nI_ltI hi hj).mpr q))))
theorem li_le (hx : p.tables.exec = Jvm.exec) (hb : c.code = cc) {i j : Nat} {off : Int} {tgt : Nat} (hdg : decode cc pc = .ok (.if_icmp .le off, 3)) (ht : (pc : Int) + off = (tgt : Int)) (hi : i < 2 ^ 31) (hj : j < 2 ^ 31)
    (kt : i ≤ j → W p l e R s m args below meth c H locs cells slots Q (F0 m tgt ls rest)) (kf : j < i → W p l e R s m args below meth c H locs cells slots Q (F0 m (pc + 3) ls rest)) : W p l e R s m args below meth c H locs cells slots Q (F0 m pc ls (.int (nI j) :: .int (nI i) :: rest)) :=
  lv_icmp_le hx hb hdg ht (fun h => kt ((nI_leI hi hj).mp h)) (fun h => kf (Nat.lt_of_not_le (fun q => h ((nI_leI hi hj).mpr q))))
theorem li_eq (hx : p.tables.exec = Jvm.exec) (hb : c.code = cc) {i j : Nat} {off : Int} {tgt : Nat} (hdg : decode cc pc = .ok (.if_icmp .eq off, 3)) (ht : (pc : Int) + off = (tgt : Int)) (hi : i < 2 ^ 31) (hj : j < 2 ^ 31)
    (kt : i = j → W p l e R s m args below meth c H locs cells slots Q (F0 m tgt ls rest)) (kf : i ≠ j → W p l e R s m args below meth c H locs cells slots Q (F0 m (pc + 3) ls rest)) : W p l e R s m args below meth c H locs cells slots Q (F0 m pc ls (.int (nI j) :: .int (nI i) :: rest)) :=
  lv_icmp_eq hx hb hdg ht (fun h => kt ((nI_eq hi hj).mp h)) (fun h => kf (fun q => h ((nI_eq hi hj).mpr q)))
theorem li_ne (hx : p.tables.exec = Jvm.exec) (hb : c.code = cc) {i j : Nat} {off : Int} {tgt : Nat} (hdg : decode cc pc = .ok (.if_icmp .ne off, 3)) (ht : (pc : Int) + off = (tgt : Int)) (hi : i < 2 ^ 31) (hj : j < 2 ^ 31)
    (kt : i ≠ j → W p l e R s m args below meth c H locs cells slots Q (F0 m tgt ls rest)) (kf : i = j → W p l e R s m args below meth c H locs cells slots Q (F0 m (pc + 3) ls rest)) : W p l e R s m args below meth c H locs cells slots Q (F0 m pc ls (.int (nI j) :: .int (nI i) :: rest)) :=
  lv_icmp_ne hx hb hdg ht (fun h => kt (fun q => h ((nI_eq hi hj).mpr q))) (fun h => kf ((nI_eq hi hj).mp h))
/-- fields -/
theorem li_gf0 (hx : p.tables.exec = Jvm.exec) (hb : c.code = cc) {own : String} {index : Nat} (h0 : ∀ w ∈ wsX00, w.before args s = true) (hown : s.vm.findClass own = some m.cls) (hK : va_K D vwCl tys s) (hP : va_P D vwCl w H) (q0 : Nat) {fs : List Value} (he : w[q0]? = some (b, .inr (0, fs))) (k : Nat) (hk : k < 17) (hlink : (Cond.fieldLink own index (TX0 k).1 (TX0 k).2.1 (TX0 k).2.2.1).before args s = true) {v : Value} (hv : fs[k]? = some v) (hdg : decode cc pc = .ok (.getfield index, 3))
    (kk : W p l e R s m args below meth c H locs cells slots Q (F0 m (pc + 3) ls (v :: rest))) : W p l e R s m args below meth c H locs cells slots Q (F0 m pc ls (.ref b :: rest)) :=
  va_get (ci := 0) (C := RX0) (T := TX0) (N := 17) hx hb h0 (fun _ h => h) hown hK hP q0 he rfl k hk hlink (fun _ h => h) hv hdg kk
theorem li_gf1 (hx : p.tables.exec = Jvm.exec) (hb : c.code = cc) {own : String} {index : Nat} (h0 : ∀ w ∈ wsX10, w.before args s = true) (hown : s.vm.findClass own = some m.cls) (hK : va_K D vwCl tys s) (hP : va_P D vwCl w H) (q0 : Nat) {fs : List Value} (he : w[q0]? = some (b, .inr (1, fs))) (k : Nat) (hk : k < 11) (hlink : (Cond.fieldLink own index (TX1 k).1 (TX1 k).2.1 (TX1 k).2.2.1).before args s = true) {v : Value} (hv : fs[k]? = some v) (hdg : decode cc pc = .ok (.getfield index, 3))
    (kk : W p l e R s m args below meth c H locs cells slots Q (F0 m (pc + 3) ls (v :: rest))) : W p l e R s m args below meth c H locs cells slots Q (F0 m pc ls (.ref b :: rest)) :=
  va_get (ci := 1) (C := RX1) (T := TX1) (N := 11) hx hb h0 (fun _ h => h) hown hK hP q0 he rfl k hk hlink (fun _ h => h) hv hdg kk
theorem li_gf2 (hx : p.tables.exec = Jvm.exec) (hb : c.code = cc) {own : String} {index : Nat} (h0 : ∀ w ∈ wsX20, w.before args s = true) (hown : s.vm.findClass own = some m.cls) (hK : va_K D vwCl tys s) (hP : va_P D vwCl w H) (q0 : Nat) {fs : List Value} (he : w[q0]? = some (b, .inr (2, fs))) (k : Nat) (hk : k < 3) (hlink : (Cond.fieldLink own index (TX2 k).1 (TX2 k).2.1 (TX2 k).2.2.1).before args s = true) {v : Value} (hv : fs[k]? = some v) (hdg : decode cc pc = .ok (.getfield index, 3))
    (kk : W p l e R s m args below meth c H locs cells slots Q (F0 m (pc + 3) ls (v :: rest))) : W p l e R s m args below meth c H locs cells slots Q (F0 m pc ls (.ref b :: rest)) :=
  va_get (ci := 2) (C := RX2) (T := TX2) (N := 3) hx hb h0 (fun _ h => h) hown hK hP q0 he rfl k hk hlink (fun _ h => h) hv hdg kk
theorem li_gf3 (hx : p.tables.exec = Jvm.exec) (hb : c.code = cc) {own : String} {index : Nat} (h0 : ∀ w ∈ wsX30, w.before args s = true) (hown : s.vm.findClass own = some m.cls) (hK : va_K D vwCl tys s) (hP : va_P D vwCl w H) (q0 : Nat) {fs : List Value} (he : w[q0]? = some (b, .inr (3, fs))) (k : Nat) (hk : k < 16) (hlink : (Cond.fieldLink own index (TX3 k).1 (TX3 k).2.1 (TX3 k).2.2.1).before args s = true) {v : Value} (hv : fs[k]? = some v) (hdg : decode cc pc = .ok (.getfield index, 3))
    (kk : W p l e R s m args below meth c H locs cells slots Q (F0 m (pc + 3) ls (v :: rest))) : W p l e R s m args below meth c H locs cells slots Q (F0 m pc ls (.ref b :: rest)) :=
  va_get (ci := 3) (C := RX3) (T := TX3) (N := 16) hx hb h0 (fun _ h => h) hown hK hP q0 he rfl k hk hlink (fun _ h => h) hv hdg kk
theorem li_pf0 (hx : p.tables.exec = Jvm.exec) (hb : c.code = cc) {own : String} {index : Nat} (h0 : ∀ w ∈ wsX00, w.before args s = true) (hown : s.vm.findClass own = some m.cls) (hK : va_K D vwCl tys s) (hP : va_P D vwCl w H) (hD : va_D A w) (hS : va_S A H0 H locs) (q0 : Nat) {fs : List Value} (he : w[q0]? = some (b, .inr (0, fs))) (k : Nat) (hk : k < 17) (hlink : (Cond.fieldLink own index (TX0 k).1 (TX0 k).2.1 (TX0 k).2.2.1).before args s = true) (hfin : (TX0 k).2.2.2 = false) {v : Value} (hn : narrow (tyX0 k) v = v) (hfit : fits (tyX0 k) v = true) (hl : k < fs.length) (hw : w.set q0 (b, .inr (0, fs.set k v)) = w') (hdg : decode cc pc = .ok (.putfield index, 3))
    (kk : ∀ (H1 : Heap) (locs1 : List Loc), va_P D vwCl w' H1 → va_S A H0 H1 locs1 → W p l e R s m args below meth c H1 locs1 cells slots Q (F0 m (pc + 3) ls rest)) : W p l e R s m args below meth c H locs cells slots Q (F0 m pc ls (v :: .ref b :: rest)) := by
  refine va_put (ci := 0) (C := RX0) (T := TX0) (N := 17) hx hb h0 (fun _ h => h) tyX0 tyX0_ok nmX0 hown hK hP hD hS q0 he rfl k hk hlink (fun _ h => h) hfin (tyX0_ok k hk) hn hfit hl hdg (fun H1 locs1 h1 _ h3 => ?_)
  rw [hw] at h1
  exact kk H1 locs1 h1 h3
theorem li_pf1 (hx : p.tables.exec = Jvm.exec) (hb : c.code = cc) {own : String} {index : Nat} (h0 : ∀ w ∈ wsX10, w.before args s = true) (hown : s.vm.findClass own = some m.cls) (hK : va_K D vwCl tys s) (hP : va_P D vwCl w H) (hD : va_D A w) (hS : va_S A H0 H locs) (q0 : Nat) {fs : List Value} (he : w[q0]? = some (b, .inr (1, fs))) (k : Nat) (hk : k < 11) (hlink : (Cond.fieldLink own index (TX1 k).1 (TX1 k).2.1 (TX1 k).2.2.1).before args s = true) (hfin : (TX1 k).2.2.2 = false) {v : Value} (hn : narrow (tyX1 k) v = v) (hfit : fits (tyX1 k) v = true) (hl : k < fs.length) (hw : w.set q0 (b, .inr (1, fs.set k v)) = w') (hdg : decode cc pc = .ok (.putfield index, 3))
    (kk : ∀ (H1 : Heap) (locs1 : List Loc), va_P D vwCl w' H1 → va_S A H0 H1 locs1 → W p l e R s m args below meth c H1 locs1 cells slots Q (F0 m (pc + 3) ls rest)) : W p l e R s m args below meth c H locs cells slots Q (F0 m pc ls (v :: .ref b :: rest)) := by
  refine va_put (ci := 1) (C := RX1) (T := TX1) (N := 11) hx hb h0 (fun _ h => h) tyX1 tyX1_ok nmX1 hown hK hP hD hS q0 he rfl k hk hlink (fun _ h => h) hfin (tyX1_ok k hk) hn hfit hl hdg (fun H1 locs1 h1 _ h3 => ?_)
  rw [hw] at h1
  exact kk H1 locs1 h1 h3
theorem li_pf3 (hx : p.tables.exec = Jvm.exec) (hb : c.code = cc) {own : String} {index : Nat} (h0 : ∀ w ∈ wsX30, w.before args s = true) (hown : s.vm.findClass own = some m.cls) (hK : va_K D vwCl tys s) (hP : va_P D vwCl w H) (hD : va_D A w) (hS : va_S A H0 H locs) (q0 : Nat) {fs : List Value} (he : w[q0]? = some (b, .inr (3, fs))) (k : Nat) (hk : k < 16) (hlink : (Cond.fieldLink own index (TX3 k).1 (TX3 k).2.1 (TX3 k).2.2.1).before args s = true) (hfin : (TX3 k).2.2.2 = false) {v : Value} (hn : narrow (tyX3 k) v = v) (hfit : fits (tyX3 k) v = true) (hl : k < fs.length) (hw : w.set q0 (b, .inr (3, fs.set k v)) = w') (hdg : decode cc pc = .ok (.putfield index, 3))
    (kk : ∀ (H1 : Heap) (locs1 : List Loc), va_P D vwCl w' H1 → va_S A H0 H1 locs1 → W p l e R s m args below meth c H1 locs1 cells slots Q (F0 m (pc + 3) ls rest)) : W p l e R s m args below meth c H locs cells slots Q (F0 m pc ls (v :: .ref b :: rest)) := by
  refine va_put (ci := 3) (C := RX3) (T := TX3) (N := 16) hx hb h0 (fun _ h => h) tyX3 tyX3_ok nmX3 hown hK hP hD hS q0 he rfl k hk hlink (fun _ h => h) hfin (tyX3_ok k hk) hn hfit hl hdg (fun H1 locs1 h1 _ h3 => ?_)
  rw [hw] at h1
  exact kk H1 locs1 h1 h3
end LWR
section LWC
variable {p : Program} {l : Launch} {e : Env} {R : Room} {s : State} {m : MethodId} {args : Array Value} {below : List Frame} {meth : Method} {c : Code} {H : Heap} {locs : List Loc} {cells slots : Nat} {Q : State → Prop}
variable {cc : ByteArray} {pc : Nat} {ls : Array Slot} {rest st0 : List Value} {D : va_G} {tys : List (ClassId × FieldType)} {w w' : va_W} {A A0 A1 : Nat → Prop} {H0 : Heap} {b : Nat}
variable {y : MethodName} {bytes : ByteArray} {maxL nL n index mc ms : Nat} {ret : Option FieldType} {ws : List Cond} {rm : Room} {Ts : List Cond} {own C : String} {As : List Value} {v : Int32} {ci q0 : Nat} {fs : List Value} {q9 : vw_C}
/-- a call of a read-only method of an object (invokevirtual) -/
theorem roV (hx : p.tables.exec = Jvm.exec) (hb : c.code = cc) (hml : c.maxLocals = nL) (hown : s.vm.findClass own = some m.cls) (hts : ∀ w ∈ Ts, w.before args s = true) (hM : Met l y ws rm (ro_P D tys w H (.ref b :: As)) (ro_Q v H) 0 0 (fun _ => False)) (cw : CallW R s args own C index y bytes maxL ret ws rm 0 0 n)
    (hK : va_K D vwCl tys s) (hE : lwE s) (hP : va_P D vwCl w H) (hc : vwCl[ci]? = some q9) (hq : q9.1 = C) (he : w[q0]? = some (b, .inr (ci, fs))) (hn : As.length = n) (hsz : ls.size = nL) (hst : st0 = As.reverse ++ .ref b :: rest) (hW : (rest.map fun v => v.category).sum ≤ 8) (hS : va_S A0 H0 H locs) (hdg : decode cc pc = .ok (.invokevirtual index, 3)) (hf : cells ≤ R.cells ∧ slots ≤ R.slots)
    (kk : ∀ locs1 : List Loc, va_S A0 H0 H locs1 → W p l e R s m args below meth c H locs1 cells slots Q (F0 m (pc + 3) ls (.int v :: rest))) : W p l e R s m args below meth c H locs cells slots Q (F0 m pc ls st0) := by
  subst hq
  refine va_calli (va_runV (As := As) (rest := rest) ⟨hx, hb, hml, hown, hts⟩ hM cw ⟨ro_blind, va_recv hK hP hc he, fun U hU hW => ⟨rfl, hU, hP, va_K.moved hW.alike hK, lwE.warm hW hE⟩⟩ rfl hn hsz hst (lv_room hW) hdg hf) hS (fun q _ h => h.elim) (fun q h => h.elim) (fun r u t H1 locs1 ht hvm hw hB hz1 hk1 hS1 => ?_)
  have h1 : t.heap = H := hB
  have h2 : H1 = H := ht.symm.trans h1
  subst h2
  have h3 : r = v := hw
  subst h3
  exact kk locs1 hS1
/-- .. of a static one -/
theorem roS (hx : p.tables.exec = Jvm.exec) (hb : c.code = cc) (hml : c.maxLocals = nL) (hown : s.vm.findClass own = some m.cls) (hts : ∀ w ∈ Ts, w.before args s = true) (hM : Met l y ws rm (ro_P D tys w H As) (ro_Q v H) 0 0 (fun _ => False)) (cw : CallB R s args own index y bytes maxL ret ws rm 0 0 n ∧ (Cond.static y).before args s = true)
    (hK : va_K D vwCl tys s) (hE : lwE s) (hP : va_P D vwCl w H) (hn : As.length = n) (hsz : ls.size = nL) (hst : st0 = As.reverse ++ rest) (hW : (rest.map fun v => v.category).sum ≤ 8) (hS : va_S A0 H0 H locs) (hdg : decode cc pc = .ok (.invokestatic index, 3)) (hf : cells ≤ R.cells ∧ slots ≤ R.slots)
    (kk : ∀ locs1 : List Loc, va_S A0 H0 H locs1 → W p l e R s m args below meth c H locs1 cells slots Q (F0 m (pc + 3) ls (.int v :: rest))) : W p l e R s m args below meth c H locs cells slots Q (F0 m pc ls st0) := by
  refine va_calli (va_runS (As := As) (rest := rest) ⟨hx, hb, hml, hown, hts⟩ hM cw ⟨ro_blind, fun U hU hW => ⟨rfl, hU, hP, va_K.moved hW.alike hK, lwE.warm hW hE⟩⟩ rfl hn hsz hst (lv_room hW) hdg hf) hS (fun q _ h => h.elim) (fun q h => h.elim) (fun r u t H1 locs1 ht hvm hw hB hz1 hk1 hS1 => ?_)
  have h1 : t.heap = H := hB
  have h2 : H1 = H := ht.symm.trans h1
  subst h2
  have h3 : r = v := hw
  subst h3
  exact kk locs1 hS1
/-- .. of a private static one of a nest mate -/
theorem roSN {host : String} (hx : p.tables.exec = Jvm.exec) (hb : c.code = cc) (hml : c.maxLocals = nL) (hown : s.vm.findClass own = some m.cls) (hts : ∀ w ∈ Ts, w.before args s = true) (hM : Met l y ws rm (ro_P D tys w H As) (ro_Q v H) 0 0 (fun _ => False)) (cw : va_CN R s args own index y host bytes maxL ret ws rm 0 0 n ∧ (Cond.static y).before args s = true ∧ True)
    (hK : va_K D vwCl tys s) (hE : lwE s) (hP : va_P D vwCl w H) (hn : As.length = n) (hsz : ls.size = nL) (hst : st0 = As.reverse ++ rest) (hW : (rest.map fun v => v.category).sum ≤ 8) (hS : va_S A0 H0 H locs) (hdg : decode cc pc = .ok (.invokestatic index, 3)) (hf : cells ≤ R.cells ∧ slots ≤ R.slots)
    (kk : ∀ locs1 : List Loc, va_S A0 H0 H locs1 → W p l e R s m args below meth c H locs1 cells slots Q (F0 m (pc + 3) ls (.int v :: rest))) : W p l e R s m args below meth c H locs cells slots Q (F0 m pc ls st0) := by
  refine va_calli (va_runSN (As := As) (rest := rest) ⟨hx, hb, hml, hown, hts⟩ hM cw ⟨ro_blind, fun U hU hW => ⟨rfl, hU, hP, va_K.moved hW.alike hK, lwE.warm hW hE⟩⟩ rfl hn hsz hst (lv_room hW) hdg hf) hS (fun q _ h => h.elim) (fun q h => h.elim) (fun r u t H1 locs1 ht hvm hw hB hz1 hk1 hS1 => ?_)
  have h1 : t.heap = H := hB
  have h2 : H1 = H := ht.symm.trans h1
  subst h2
  have h3 : r = v := hw
  subst h3
  exact kk locs1 hS1
/-- a call of a method that changes the world w to w' -/
theorem muV (hx : p.tables.exec = Jvm.exec) (hb : c.code = cc) (hml : c.maxLocals = nL) (hown : s.vm.findClass own = some m.cls) (hts : ∀ w ∈ Ts, w.before args s = true) (hM : Met l y ws rm (ro_P D tys w H (.ref b :: As)) (mu_Q D w' A1) 0 0 A1) (cw : CallW R s args own C index y bytes maxL ret ws rm 0 0 n)
    (hK : va_K D vwCl tys s) (hE : lwE s) (hP : va_P D vwCl w H) (hc : vwCl[ci]? = some q9) (hq : q9.1 = C) (he : w[q0]? = some (b, .inr (ci, fs))) (hn : As.length = n) (hsz : ls.size = nL) (hst : st0 = As.reverse ++ .ref b :: rest) (hW : (rest.map fun v => v.category).sum ≤ 8) (hS : va_S A0 H0 H locs) (hA : ∀ q, A1 q → A0 q) (hdg : decode cc pc = .ok (.invokevirtual index, 3)) (hf : cells ≤ R.cells ∧ slots ≤ R.slots)
    (kk : ∀ (H1 : Heap) (locs1 : List Loc), va_P D vwCl w' H1 → H.size ≤ H1.size → (∀ q : Nat, q < H.size → ¬ A1 q → H1[q]? = H[q]?) → va_S A0 H0 H1 locs1 → W p l e R s m args below meth c H1 locs1 cells slots Q (F0 m (pc + 3) ls rest)) : W p l e R s m args below meth c H locs cells slots Q (F0 m pc ls st0) := by
  subst hq
  refine va_callv (va_runV (As := As) (rest := rest) ⟨hx, hb, hml, hown, hts⟩ hM cw ⟨ro_blind, va_recv hK hP hc he, fun U hU hW => ⟨rfl, hU, hP, va_K.moved hW.alike hK, lwE.warm hW hE⟩⟩ rfl hn hsz hst (lv_room hW) hdg hf) hS (fun q _ h => hA q h) hA (fun u t H1 locs1 ht hvm hw hB hz1 hk1 hS => ?_)
  have h1 : va_P D vwCl w' t.heap := hB
  rw [ht] at h1
  exact kk H1 locs1 h1 hz1 hk1 hS
theorem miV (hx : p.tables.exec = Jvm.exec) (hb : c.code = cc) (hml : c.maxLocals = nL) (hown : s.vm.findClass own = some m.cls) (hts : ∀ w ∈ Ts, w.before args s = true) (hM : Met l y ws rm (ro_P D tys w H (.ref b :: As)) (mi_Q D v w' A1) 0 0 A1) (cw : CallW R s args own C index y bytes maxL ret ws rm 0 0 n)
    (hK : va_K D vwCl tys s) (hE : lwE s) (hP : va_P D vwCl w H) (hc : vwCl[ci]? = some q9) (hq : q9.1 = C) (he : w[q0]? = some (b, .inr (ci, fs))) (hn : As.length = n) (hsz : ls.size = nL) (hst : st0 = As.reverse ++ .ref b :: rest) (hW : (rest.map fun v => v.category).sum ≤ 8) (hS : va_S A0 H0 H locs) (hA : ∀ q, A1 q → A0 q) (hdg : decode cc pc = .ok (.invokevirtual index, 3)) (hf : cells ≤ R.cells ∧ slots ≤ R.slots)
    (kk : ∀ (H1 : Heap) (locs1 : List Loc), va_P D vwCl w' H1 → H.size ≤ H1.size → (∀ q : Nat, q < H.size → ¬ A1 q → H1[q]? = H[q]?) → va_S A0 H0 H1 locs1 → W p l e R s m args below meth c H1 locs1 cells slots Q (F0 m (pc + 3) ls (.int v :: rest))) : W p l e R s m args below meth c H locs cells slots Q (F0 m pc ls st0) := by
  subst hq
  refine va_calli (va_runV (As := As) (rest := rest) ⟨hx, hb, hml, hown, hts⟩ hM cw ⟨ro_blind, va_recv hK hP hc he, fun U hU hW => ⟨rfl, hU, hP, va_K.moved hW.alike hK, lwE.warm hW hE⟩⟩ rfl hn hsz hst (lv_room hW) hdg hf) hS (fun q _ h => hA q h) hA (fun r u t H1 locs1 ht hvm hw hB hz1 hk1 hS => ?_)
  have h1 : va_P D vwCl w' t.heap := hB
  rw [ht] at h1
  have h3 : r = v := hw
  subst h3
  exact kk H1 locs1 h1 hz1 hk1 hS
theorem muS (hx : p.tables.exec = Jvm.exec) (hb : c.code = cc) (hml : c.maxLocals = nL) (hown : s.vm.findClass own = some m.cls) (hts : ∀ w ∈ Ts, w.before args s = true) (hM : Met l y ws rm (ro_P D tys w H As) (mu_Q D w' A1) 0 0 A1) (cw : CallB R s args own index y bytes maxL ret ws rm 0 0 n ∧ (Cond.static y).before args s = true)
    (hK : va_K D vwCl tys s) (hE : lwE s) (hP : va_P D vwCl w H) (hn : As.length = n) (hsz : ls.size = nL) (hst : st0 = As.reverse ++ rest) (hW : (rest.map fun v => v.category).sum ≤ 8) (hS : va_S A0 H0 H locs) (hA : ∀ q, A1 q → A0 q) (hdg : decode cc pc = .ok (.invokestatic index, 3)) (hf : cells ≤ R.cells ∧ slots ≤ R.slots)
    (kk : ∀ (H1 : Heap) (locs1 : List Loc), va_P D vwCl w' H1 → H.size ≤ H1.size → (∀ q : Nat, q < H.size → ¬ A1 q → H1[q]? = H[q]?) → va_S A0 H0 H1 locs1 → W p l e R s m args below meth c H1 locs1 cells slots Q (F0 m (pc + 3) ls rest)) : W p l e R s m args below meth c H locs cells slots Q (F0 m pc ls st0) := by
  refine va_callv (va_runS (As := As) (rest := rest) ⟨hx, hb, hml, hown, hts⟩ hM cw ⟨ro_blind, fun U hU hW => ⟨rfl, hU, hP, va_K.moved hW.alike hK, lwE.warm hW hE⟩⟩ rfl hn hsz hst (lv_room hW) hdg hf) hS (fun q _ h => hA q h) hA (fun u t H1 locs1 ht hvm hw hB hz1 hk1 hS => ?_)
  have h1 : va_P D vwCl w' t.heap := hB
  rw [ht] at h1
  exact kk H1 locs1 h1 hz1 hk1 hS
/-- behind a call on a part of the world: the part anew beside the rest -/
theorem li_join {isC isR : List Nat} {wc wr w1 : va_W} {H1 : Heap} (hP : va_P D vwCl w H) (hD : va_D A0 w) (hC : isC.map (fun i => w[i]?) = wc.map some) (hR : isR.map (fun i => w[i]?) = wr.map some) (hdis : ∀ i ∈ isR, i ∉ isC) (hA : ∀ q, A1 q → ∃ (k : Nat) (x : va_E), wc[k]? = some (q, x))
    (hk : ∀ q : Nat, q < H.size → ¬ A1 q → H1[q]? = H[q]?) (hP1 : va_P D vwCl w1 H1) : va_P D vwCl (wr ++ w1) H1 := by
  refine va_P.app (fun k q hq => ?_) hP1
  have h1 : (isR.map (fun i => w[i]?))[k]? = some (some q) := by rw [hR, List.getElem?_map, hq]; rfl
  rw [List.getElem?_map] at h1
  cases hi : isR[k]? with
  | none => rw [hi] at h1; cases h1
  | some i =>
    rw [hi] at h1
    have h2 : w[i]? = some q := Option.some.inj h1
    refine (hP i q h2).kept (hk q.1 (hP i q h2).lt (fun ha => ?_))
    obtain ⟨k2, x, h3⟩ := hA q.1 ha
    have h4 : (isC.map (fun i => w[i]?))[k2]? = some (some (q.1, x)) := by rw [hC, List.getElem?_map, h3]; rfl
    rw [List.getElem?_map] at h4
    cases hj : isC[k2]? with
    | none => rw [hj] at h4; cases h4
    | some j =>
      rw [hj] at h4
      have h5 : w[j]? = some (q.1, x) := Option.some.inj h4
      have h6 := hD.1 i j q (q.1, x) h2 h5 rfl
      subst h6
      exact hdis i (List.mem_of_getElem? hi) (List.mem_of_getElem? hj)
end LWC
/-- a row's numbers behind its length say nothing -/
theorem vp_cell_ext {cA : ClassId} {n : Nat} {f g : Nat → Int32} (h : ∀ j, j < n → f j = g j) : vp_cell cA (n, .inl f) = vp_cell cA (n, .inl g) := by
  rw [vp_cell_i, vp_cell_i]
  have : (fun j => if j < n then Value.int (f j) else .null) = (fun j => if j < n then Value.int (g j) else .null) := by
    funext j
    by_cases hj : j < n
    · simp [hj, h j hj]
    · simp [hj]
  unfold arrV
  congr 1
  apply Array.ext
  · simp
  · intro i h1 h2
    simp at h1
    simp [h i h1]
theorem va_P_row {D : va_G} {w : va_W} {H : Heap} {q0 b : Nat} {cA : ClassId} {n : Nat} {f g : Nat → Int32} (hP : va_P D vwCl w H) (ha : w[q0]? = some (b, .inl (cA, n, .inl f))) (h : ∀ j, j < n → f j = g j) : va_P D vwCl (w.set q0 (b, .inl (cA, n, .inl g))) H := by
  have hl := (List.getElem?_eq_some_iff.mp ha).1
  intro k q hk
  by_cases hkp : k = q0
  · subst hkp
    rw [List.getElem?_set_self hl] at hk
    cases hk
    have h1 : H[b]? = some (vp_cell cA (n, .inl f)) := hP k _ ha
    show H[b]? = some (vp_cell cA (n, .inl g))
    rw [h1, vp_cell_ext h]
  · rw [List.getElem?_set_ne (Ne.symm hkp)] at hk
    exact hP k q hk
end
section
/-! WORLDS: a parade with its setting (wP): s k i: row k at i (0 length 1 lets 2 first 3 wind 4 pace 5 voice 6 songLength 7 corner 8 passed 9 stopped 10 wick 11 burns 12 stage 13 place 14 dark 15 cameHome 16 known 17 the step), t: rows of notes (0 burnedBefore 1 knownBefore 2 loudest 3 stillLets 4 hasGone). -/
def up2 (σ : Nat → Nat → Int32) (k i : Nat) (x : Int32) : Nat → Nat → Int32 := va_up σ k (upd (σ k) i x)
theorem up2_at (σ : Nat → Nat → Int32) (k i : Nat) (x : Int32) (k' i' : Nat) : up2 σ k i x k' i' = if k' = k ∧ i' = i then x else σ k' i' := by
  unfold up2 va_up upd
  by_cases h : k' = k
  · subst h
    by_cases h2 : i' = i <;> simp [h2]
  · simp [h]
theorem up2_row (σ : Nat → Nat → Int32) (k i : Nat) (x : Int32) {k' : Nat} (h : k' ≠ k) : up2 σ k i x k' = σ k' := by
  unfold up2 va_up
  rw [if_neg h]
abbrev T4 (cI cZ cL cO : ClassId) : List (ClassId × FieldType) := [(cI, .int), (cZ, .boolean), (cL, .long), (cO, .array .int)]
def wP (cI cZ : ClassId) (a : Nat → Nat) (n pl nw ns : Nat) (σ κ : Nat → Nat → Int32) : va_W :=
  [(a 0, .inr (0, [.ref (a 16), .int (σ 17 0), .ref (a 1), .ref (a 2), .ref (a 3), .ref (a 4), .ref (a 5), .ref (a 6), .ref (a 7), .ref (a 8), .ref (a 9), .ref (a 10), .ref (a 11), .ref (a 12), .ref (a 13), .ref (a 14), .ref (a 15)])),
   (a 1, .inl (cI, 2, .inl (σ 7))),
   (a 2, .inl (cI, 10, .inl (σ 8))),
   (a 3, .inl (cI, 10, .inl (σ 9))),
   (a 4, .inl (cI, 20, .inl (σ 10))),
   (a 5, .inl (cZ, 20, .inl (σ 11))),
   (a 6, .inl (cI, 20, .inl (σ 12))),
   (a 7, .inl (cI, 20, .inl (σ 13))),
   (a 8, .inl (cI, 20, .inl (σ 14))),
   (a 9, .inl (cI, 20, .inl (σ 15))),
   (a 10, .inl (cI, 120, .inl (σ 16))),
   (a 11, .inl (cZ, 20, .inl (κ 0))),
   (a 12, .inl (cI, 120, .inl (κ 1))),
   (a 13, .inl (cI, 6, .inl (κ 2))),
   (a 14, .inl (cI, 10, .inl (κ 3))),
   (a 15, .inl (cZ, 20, .inl (κ 4))),
   (a 16, .inr (1, [.int (nI n), .int (nI pl), .ref (a 17), .ref (a 18), .ref (a 19), .ref (a 20), .int (nI nw), .ref (a 21), .ref (a 22), .int (nI ns), .ref (a 23)])),
   (a 17, .inl (cI, 10, .inl (σ 0))),
   (a 18, .inl (cI, 10, .inl (σ 1))),
   (a 19, .inl (cI, 10, .inl (σ 2))),
   (a 20, .inl (cI, 10, .inl (σ 3))),
   (a 21, .inl (cI, 20, .inl (σ 4))),
   (a 22, .inl (cI, 20, .inl (σ 5))),
   (a 23, .inl (cI, 6, .inl (σ 6)))]
theorem stP_7 {cI cZ : ClassId} {a : Nat → Nat} {n pl nw ns : Nat} {σ κ : Nat → Nat → Int32} {i : Nat} {x : Int32} : (wP cI cZ a n pl nw ns σ κ).set 1 (a 1, .inl (cI, 2, .inl (upd (σ 7) i x))) = wP cI cZ a n pl nw ns (up2 σ 7 i x) κ := rfl
theorem stP_8 {cI cZ : ClassId} {a : Nat → Nat} {n pl nw ns : Nat} {σ κ : Nat → Nat → Int32} {i : Nat} {x : Int32} : (wP cI cZ a n pl nw ns σ κ).set 2 (a 2, .inl (cI, 10, .inl (upd (σ 8) i x))) = wP cI cZ a n pl nw ns (up2 σ 8 i x) κ := rfl
theorem stP_9 {cI cZ : ClassId} {a : Nat → Nat} {n pl nw ns : Nat} {σ κ : Nat → Nat → Int32} {i : Nat} {x : Int32} : (wP cI cZ a n pl nw ns σ κ).set 3 (a 3, .inl (cI, 10, .inl (upd (σ 9) i x))) = wP cI cZ a n pl nw ns (up2 σ 9 i x) κ := rfl
theorem stP_10 {cI cZ : ClassId} {a : Nat → Nat} {n pl nw ns : Nat} {σ κ : Nat → Nat → Int32} {i : Nat} {x : Int32} : (wP cI cZ a n pl nw ns σ κ).set 4 (a 4, .inl (cI, 20, .inl (upd (σ 10) i x))) = wP cI cZ a n pl nw ns (up2 σ 10 i x) κ := rfl
theorem stP_11 {cI cZ : ClassId} {a : Nat → Nat} {n pl nw ns : Nat} {σ κ : Nat → Nat → Int32} {i : Nat} {x : Int32} : (wP cI cZ a n pl nw ns σ κ).set 5 (a 5, .inl (cZ, 20, .inl (upd (σ 11) i x))) = wP cI cZ a n pl nw ns (up2 σ 11 i x) κ := rfl
theorem stP_12 {cI cZ : ClassId} {a : Nat → Nat} {n pl nw ns : Nat} {σ κ : Nat → Nat → Int32} {i : Nat} {x : Int32} : (wP cI cZ a n pl nw ns σ κ).set 6 (a 6, .inl (cI, 20, .inl (upd (σ 12) i x))) = wP cI cZ a n pl nw ns (up2 σ 12 i x) κ := rfl
theorem stP_13 {cI cZ : ClassId} {a : Nat → Nat} {n pl nw ns : Nat} {σ κ : Nat → Nat → Int32} {i : Nat} {x : Int32} : (wP cI cZ a n pl nw ns σ κ).set 7 (a 7, .inl (cI, 20, .inl (upd (σ 13) i x))) = wP cI cZ a n pl nw ns (up2 σ 13 i x) κ := rfl
theorem stP_14 {cI cZ : ClassId} {a : Nat → Nat} {n pl nw ns : Nat} {σ κ : Nat → Nat → Int32} {i : Nat} {x : Int32} : (wP cI cZ a n pl nw ns σ κ).set 8 (a 8, .inl (cI, 20, .inl (upd (σ 14) i x))) = wP cI cZ a n pl nw ns (up2 σ 14 i x) κ := rfl
theorem stP_15 {cI cZ : ClassId} {a : Nat → Nat} {n pl nw ns : Nat} {σ κ : Nat → Nat → Int32} {i : Nat} {x : Int32} : (wP cI cZ a n pl nw ns σ κ).set 9 (a 9, .inl (cI, 20, .inl (upd (σ 15) i x))) = wP cI cZ a n pl nw ns (up2 σ 15 i x) κ := rfl
theorem stP_16 {cI cZ : ClassId} {a : Nat → Nat} {n pl nw ns : Nat} {σ κ : Nat → Nat → Int32} {i : Nat} {x : Int32} : (wP cI cZ a n pl nw ns σ κ).set 10 (a 10, .inl (cI, 120, .inl (upd (σ 16) i x))) = wP cI cZ a n pl nw ns (up2 σ 16 i x) κ := rfl
theorem stK_0 {cI cZ : ClassId} {a : Nat → Nat} {n pl nw ns : Nat} {σ κ : Nat → Nat → Int32} {i : Nat} {x : Int32} : (wP cI cZ a n pl nw ns σ κ).set 11 (a 11, .inl (cZ, 20, .inl (upd (κ 0) i x))) = wP cI cZ a n pl nw ns σ (up2 κ 0 i x) := rfl
theorem stK_1 {cI cZ : ClassId} {a : Nat → Nat} {n pl nw ns : Nat} {σ κ : Nat → Nat → Int32} {i : Nat} {x : Int32} : (wP cI cZ a n pl nw ns σ κ).set 12 (a 12, .inl (cI, 120, .inl (upd (κ 1) i x))) = wP cI cZ a n pl nw ns σ (up2 κ 1 i x) := rfl
theorem stK_2 {cI cZ : ClassId} {a : Nat → Nat} {n pl nw ns : Nat} {σ κ : Nat → Nat → Int32} {i : Nat} {x : Int32} : (wP cI cZ a n pl nw ns σ κ).set 13 (a 13, .inl (cI, 6, .inl (upd (κ 2) i x))) = wP cI cZ a n pl nw ns σ (up2 κ 2 i x) := rfl
theorem stK_3 {cI cZ : ClassId} {a : Nat → Nat} {n pl nw ns : Nat} {σ κ : Nat → Nat → Int32} {i : Nat} {x : Int32} : (wP cI cZ a n pl nw ns σ κ).set 14 (a 14, .inl (cI, 10, .inl (upd (κ 3) i x))) = wP cI cZ a n pl nw ns σ (up2 κ 3 i x) := rfl
theorem stK_4 {cI cZ : ClassId} {a : Nat → Nat} {n pl nw ns : Nat} {σ κ : Nat → Nat → Int32} {i : Nat} {x : Int32} : (wP cI cZ a n pl nw ns σ κ).set 15 (a 15, .inl (cZ, 20, .inl (upd (κ 4) i x))) = wP cI cZ a n pl nw ns σ (up2 κ 4 i x) := rfl
theorem stP_0 {cI cZ : ClassId} {a : Nat → Nat} {n pl nw ns : Nat} {σ κ : Nat → Nat → Int32} {i : Nat} {x : Int32} : (wP cI cZ a n pl nw ns σ κ).set 17 (a 17, .inl (cI, 10, .inl (upd (σ 0) i x))) = wP cI cZ a n pl nw ns (up2 σ 0 i x) κ := rfl
theorem stP_1 {cI cZ : ClassId} {a : Nat → Nat} {n pl nw ns : Nat} {σ κ : Nat → Nat → Int32} {i : Nat} {x : Int32} : (wP cI cZ a n pl nw ns σ κ).set 18 (a 18, .inl (cI, 10, .inl (upd (σ 1) i x))) = wP cI cZ a n pl nw ns (up2 σ 1 i x) κ := rfl
theorem stP_2 {cI cZ : ClassId} {a : Nat → Nat} {n pl nw ns : Nat} {σ κ : Nat → Nat → Int32} {i : Nat} {x : Int32} : (wP cI cZ a n pl nw ns σ κ).set 19 (a 19, .inl (cI, 10, .inl (upd (σ 2) i x))) = wP cI cZ a n pl nw ns (up2 σ 2 i x) κ := rfl
theorem stP_3 {cI cZ : ClassId} {a : Nat → Nat} {n pl nw ns : Nat} {σ κ : Nat → Nat → Int32} {i : Nat} {x : Int32} : (wP cI cZ a n pl nw ns σ κ).set 20 (a 20, .inl (cI, 10, .inl (upd (σ 3) i x))) = wP cI cZ a n pl nw ns (up2 σ 3 i x) κ := rfl
theorem stP_4 {cI cZ : ClassId} {a : Nat → Nat} {n pl nw ns : Nat} {σ κ : Nat → Nat → Int32} {i : Nat} {x : Int32} : (wP cI cZ a n pl nw ns σ κ).set 21 (a 21, .inl (cI, 20, .inl (upd (σ 4) i x))) = wP cI cZ a n pl nw ns (up2 σ 4 i x) κ := rfl
theorem stP_5 {cI cZ : ClassId} {a : Nat → Nat} {n pl nw ns : Nat} {σ κ : Nat → Nat → Int32} {i : Nat} {x : Int32} : (wP cI cZ a n pl nw ns σ κ).set 22 (a 22, .inl (cI, 20, .inl (upd (σ 5) i x))) = wP cI cZ a n pl nw ns (up2 σ 5 i x) κ := rfl
theorem stP_6 {cI cZ : ClassId} {a : Nat → Nat} {n pl nw ns : Nat} {σ κ : Nat → Nat → Int32} {i : Nat} {x : Int32} : (wP cI cZ a n pl nw ns σ κ).set 23 (a 23, .inl (cI, 6, .inl (upd (σ 6) i x))) = wP cI cZ a n pl nw ns (up2 σ 6 i x) κ := rfl
theorem stP_17 {cI cZ : ClassId} {a : Nat → Nat} {n pl nw ns : Nat} {σ κ : Nat → Nat → Int32} {x : Int32} : (wP cI cZ a n pl nw ns σ κ).set 0 (a 0, .inr (0, [.ref (a 16), .int x, .ref (a 1), .ref (a 2), .ref (a 3), .ref (a 4), .ref (a 5), .ref (a 6), .ref (a 7), .ref (a 8), .ref (a 9), .ref (a 10), .ref (a 11), .ref (a 12), .ref (a 13), .ref (a 14), .ref (a 15)])) = wP cI cZ a n pl nw ns (up2 σ 17 0 x) κ := rfl
theorem srw_P7 {cI cZ : ClassId} {a : Nat → Nat} {n pl nw ns : Nat} {σ κ : Nat → Nat → Int32} {f : Nat → Int32} : (wP cI cZ a n pl nw ns σ κ).set 1 (a 1, .inl (cI, 2, .inl f)) = wP cI cZ a n pl nw ns (va_up σ 7 f) κ := rfl
theorem srw_P8 {cI cZ : ClassId} {a : Nat → Nat} {n pl nw ns : Nat} {σ κ : Nat → Nat → Int32} {f : Nat → Int32} : (wP cI cZ a n pl nw ns σ κ).set 2 (a 2, .inl (cI, 10, .inl f)) = wP cI cZ a n pl nw ns (va_up σ 8 f) κ := rfl
theorem srw_P9 {cI cZ : ClassId} {a : Nat → Nat} {n pl nw ns : Nat} {σ κ : Nat → Nat → Int32} {f : Nat → Int32} : (wP cI cZ a n pl nw ns σ κ).set 3 (a 3, .inl (cI, 10, .inl f)) = wP cI cZ a n pl nw ns (va_up σ 9 f) κ := rfl
theorem srw_P10 {cI cZ : ClassId} {a : Nat → Nat} {n pl nw ns : Nat} {σ κ : Nat → Nat → Int32} {f : Nat → Int32} : (wP cI cZ a n pl nw ns σ κ).set 4 (a 4, .inl (cI, 20, .inl f)) = wP cI cZ a n pl nw ns (va_up σ 10 f) κ := rfl
theorem srw_P11 {cI cZ : ClassId} {a : Nat → Nat} {n pl nw ns : Nat} {σ κ : Nat → Nat → Int32} {f : Nat → Int32} : (wP cI cZ a n pl nw ns σ κ).set 5 (a 5, .inl (cZ, 20, .inl f)) = wP cI cZ a n pl nw ns (va_up σ 11 f) κ := rfl
theorem srw_P12 {cI cZ : ClassId} {a : Nat → Nat} {n pl nw ns : Nat} {σ κ : Nat → Nat → Int32} {f : Nat → Int32} : (wP cI cZ a n pl nw ns σ κ).set 6 (a 6, .inl (cI, 20, .inl f)) = wP cI cZ a n pl nw ns (va_up σ 12 f) κ := rfl
theorem srw_P13 {cI cZ : ClassId} {a : Nat → Nat} {n pl nw ns : Nat} {σ κ : Nat → Nat → Int32} {f : Nat → Int32} : (wP cI cZ a n pl nw ns σ κ).set 7 (a 7, .inl (cI, 20, .inl f)) = wP cI cZ a n pl nw ns (va_up σ 13 f) κ := rfl
theorem srw_P14 {cI cZ : ClassId} {a : Nat → Nat} {n pl nw ns : Nat} {σ κ : Nat → Nat → Int32} {f : Nat → Int32} : (wP cI cZ a n pl nw ns σ κ).set 8 (a 8, .inl (cI, 20, .inl f)) = wP cI cZ a n pl nw ns (va_up σ 14 f) κ := rfl
theorem srw_P15 {cI cZ : ClassId} {a : Nat → Nat} {n pl nw ns : Nat} {σ κ : Nat → Nat → Int32} {f : Nat → Int32} : (wP cI cZ a n pl nw ns σ κ).set 9 (a 9, .inl (cI, 20, .inl f)) = wP cI cZ a n pl nw ns (va_up σ 15 f) κ := rfl
theorem srw_P16 {cI cZ : ClassId} {a : Nat → Nat} {n pl nw ns : Nat} {σ κ : Nat → Nat → Int32} {f : Nat → Int32} : (wP cI cZ a n pl nw ns σ κ).set 10 (a 10, .inl (cI, 120, .inl f)) = wP cI cZ a n pl nw ns (va_up σ 16 f) κ := rfl
theorem srw_K0 {cI cZ : ClassId} {a : Nat → Nat} {n pl nw ns : Nat} {σ κ : Nat → Nat → Int32} {f : Nat → Int32} : (wP cI cZ a n pl nw ns σ κ).set 11 (a 11, .inl (cZ, 20, .inl f)) = wP cI cZ a n pl nw ns σ (va_up κ 0 f) := rfl
theorem srw_K1 {cI cZ : ClassId} {a : Nat → Nat} {n pl nw ns : Nat} {σ κ : Nat → Nat → Int32} {f : Nat → Int32} : (wP cI cZ a n pl nw ns σ κ).set 12 (a 12, .inl (cI, 120, .inl f)) = wP cI cZ a n pl nw ns σ (va_up κ 1 f) := rfl
theorem srw_K2 {cI cZ : ClassId} {a : Nat → Nat} {n pl nw ns : Nat} {σ κ : Nat → Nat → Int32} {f : Nat → Int32} : (wP cI cZ a n pl nw ns σ κ).set 13 (a 13, .inl (cI, 6, .inl f)) = wP cI cZ a n pl nw ns σ (va_up κ 2 f) := rfl
theorem srw_K3 {cI cZ : ClassId} {a : Nat → Nat} {n pl nw ns : Nat} {σ κ : Nat → Nat → Int32} {f : Nat → Int32} : (wP cI cZ a n pl nw ns σ κ).set 14 (a 14, .inl (cI, 10, .inl f)) = wP cI cZ a n pl nw ns σ (va_up κ 3 f) := rfl
theorem srw_K4 {cI cZ : ClassId} {a : Nat → Nat} {n pl nw ns : Nat} {σ κ : Nat → Nat → Int32} {f : Nat → Int32} : (wP cI cZ a n pl nw ns σ κ).set 15 (a 15, .inl (cZ, 20, .inl f)) = wP cI cZ a n pl nw ns σ (va_up κ 4 f) := rfl
def okP (A : Nat → Prop) (a : Nat → Nat) (N : Nat) : Prop := (∀ i j, i < N → j < N → a i = a j → i = j) ∧ ∀ i, i < N → A (a i)
theorem wP_adr {cI cZ : ClassId} {a : Nat → Nat} {n pl nw ns : Nat} {σ κ : Nat → Nat → Int32} : ∀ (k : Nat) (q : Nat × va_E), (wP cI cZ a n pl nw ns σ κ)[k]? = some q → k < 24 ∧ q.1 = a k
  | 0, q, h => by cases h; exact ⟨by decide, rfl⟩
  | 1, q, h => by cases h; exact ⟨by decide, rfl⟩
  | 2, q, h => by cases h; exact ⟨by decide, rfl⟩
  | 3, q, h => by cases h; exact ⟨by decide, rfl⟩
  | 4, q, h => by cases h; exact ⟨by decide, rfl⟩
  | 5, q, h => by cases h; exact ⟨by decide, rfl⟩
  | 6, q, h => by cases h; exact ⟨by decide, rfl⟩
  | 7, q, h => by cases h; exact ⟨by decide, rfl⟩
  | 8, q, h => by cases h; exact ⟨by decide, rfl⟩
  | 9, q, h => by cases h; exact ⟨by decide, rfl⟩
  | 10, q, h => by cases h; exact ⟨by decide, rfl⟩
  | 11, q, h => by cases h; exact ⟨by decide, rfl⟩
  | 12, q, h => by cases h; exact ⟨by decide, rfl⟩
  | 13, q, h => by cases h; exact ⟨by decide, rfl⟩
  | 14, q, h => by cases h; exact ⟨by decide, rfl⟩
  | 15, q, h => by cases h; exact ⟨by decide, rfl⟩
  | 16, q, h => by cases h; exact ⟨by decide, rfl⟩
  | 17, q, h => by cases h; exact ⟨by decide, rfl⟩
  | 18, q, h => by cases h; exact ⟨by decide, rfl⟩
  | 19, q, h => by cases h; exact ⟨by decide, rfl⟩
  | 20, q, h => by cases h; exact ⟨by decide, rfl⟩
  | 21, q, h => by cases h; exact ⟨by decide, rfl⟩
  | 22, q, h => by cases h; exact ⟨by decide, rfl⟩
  | 23, q, h => by cases h; exact ⟨by decide, rfl⟩
  | k + 24, q, h => by exact absurd (List.getElem?_eq_some_iff.mp h).1 (by show ¬ k + 24 < 24; omega)
theorem okP.D {A : Nat → Prop} {cI cZ : ClassId} {a : Nat → Nat} {n pl nw ns : Nat} {σ κ : Nat → Nat → Int32} (h : okP A a 24) : va_D A (wP cI cZ a n pl nw ns σ κ) := by
  refine ⟨fun i j p q hi hj hpq => ?_, fun k q hk => ?_⟩
  · obtain ⟨h1, h2⟩ := wP_adr i p hi
    obtain ⟨h3, h4⟩ := wP_adr j q hj
    exact h.1 i j h1 h3 (by rw [← h2, ← h4]; exact hpq)
  · obtain ⟨h1, h2⟩ := wP_adr k q hk
    rw [h2]
    exact h.2 k h1
theorem okP.ne {A : Nat → Prop} {a : Nat → Nat} {N i j : Nat} (h : okP A a N) (hi : i < N) (hj : j < N) (hij : i ≠ j) : a i ≠ a j := fun z => hij (h.1 i j hi hj z)
def adr (a : Nat → Nat) (N : Nat) : Nat → Prop := fun q => ∃ k, k < N ∧ q = a k
def zI (b : Bool) : Int32 := if b then nI 1 else nI 0
theorem zI_t : zI true = nI 1 := rfl
theorem zI_f : zI false = nI 0 := rfl
theorem zI_n (b : Bool) : narrow .boolean (.int (zI b)) = .int (zI b) := by cases b <;> rfl
theorem zI_v (b : Bool) : vp_nar .boolean (zI b) = zI b := by cases b <;> rfl
theorem zI_0 {b : Bool} : zI b = 0 ↔ b = false := by cases b <;> decide
theorem nI_inc (k m : Nat) : nI k + Int32.ofInt (m : Int) = nI (k + m) := nI_add k m
theorem nI_0' : (nI 0) = 0 := rfl
/-- how many of the first n -/
def cnt (p : Nat → Bool) : Nat → Nat
  | 0 => 0
  | k + 1 => cnt p k + (if p k then 1 else 0)
theorem cnt_le (p : Nat → Bool) (k : Nat) : cnt p k ≤ k := by
  induction k with
  | zero => exact Nat.le_refl 0
  | succ k ih =>
    simp only [cnt]
    split <;> omega
theorem cnt_t {p : Nat → Bool} {k : Nat} (h : p k = true) : nI (cnt p k + 1) = nI (cnt p (k + 1)) := by simp only [cnt, h, if_true]
theorem cnt_f {p : Nat → Bool} {k : Nat} (h : p k = false) : nI (cnt p k) = nI (cnt p (k + 1)) := by simp [cnt, h]
theorem nI_dec1 (k : Nat) : nI (k + 1) + Int32.ofInt (-1) = nI k := by
  rw [nI_succ, Int32.add_assoc]
  show nI k + (1 + Int32.ofInt (-1)) = nI k
  rw [show (1 : Int32) + Int32.ofInt (-1) = 0 from by decide, Int32.add_zero]
section LWZ
variable {p : Program} {l : Launch} {e : Env} {R : Room} {s : State} {m : MethodId} {args : Array Value} {below : List Frame} {meth : Method} {c : Code} {H : Heap} {locs : List Loc} {cells slots : Nat} {Q : State → Prop}
variable {cc : ByteArray} {pc : Nat} {ls : Array Slot} {rest : List Value}
theorem li_zeq (hx : p.tables.exec = Jvm.exec) (hb : c.code = cc) {b : Bool} {off : Int} {tgt : Nat} (hdg : decode cc pc = .ok (.ifCond .eq off, 3)) (ht : (pc : Int) + off = (tgt : Int))
    (kt : b = false → W p l e R s m args below meth c H locs cells slots Q (F0 m tgt ls rest)) (kf : b = true → W p l e R s m args below meth c H locs cells slots Q (F0 m (pc + 3) ls rest)) : W p l e R s m args below meth c H locs cells slots Q (F0 m pc ls (.int (zI b) :: rest)) :=
  lv_if_eq hx hb hdg ht (fun h => kt (zI_0.mp h)) (fun h => kf (by cases b; exact absurd rfl h; rfl))
theorem li_zne (hx : p.tables.exec = Jvm.exec) (hb : c.code = cc) {b : Bool} {off : Int} {tgt : Nat} (hdg : decode cc pc = .ok (.ifCond .ne off, 3)) (ht : (pc : Int) + off = (tgt : Int))
    (kt : b = true → W p l e R s m args below meth c H locs cells slots Q (F0 m tgt ls rest)) (kf : b = false → W p l e R s m args below meth c H locs cells slots Q (F0 m (pc + 3) ls rest)) : W p l e R s m args below meth c H locs cells slots Q (F0 m pc ls (.int (zI b) :: rest)) :=
  lv_if_ne hx hb hdg ht (fun h => kt (by cases b; exact absurd rfl h; rfl)) (fun h => kf (zI_0.mp h))
theorem nI_z {i : Nat} (hi : i < 2 ^ 31) : nI i = 0 ↔ i = 0 := nI_eq hi (by decide)
theorem li_eq0 (hx : p.tables.exec = Jvm.exec) (hb : c.code = cc) {i : Nat} {off : Int} {tgt : Nat} (hdg : decode cc pc = .ok (.ifCond .eq off, 3)) (ht : (pc : Int) + off = (tgt : Int)) (hi : i < 2 ^ 31)
    (kt : i = 0 → W p l e R s m args below meth c H locs cells slots Q (F0 m tgt ls rest)) (kf : i ≠ 0 → W p l e R s m args below meth c H locs cells slots Q (F0 m (pc + 3) ls rest)) : W p l e R s m args below meth c H locs cells slots Q (F0 m pc ls (.int (nI i) :: rest)) :=
  lv_if_eq hx hb hdg ht (fun h => kt ((nI_z hi).mp h)) (fun h => kf (fun q => h ((nI_z hi).mpr q)))
theorem li_ne0 (hx : p.tables.exec = Jvm.exec) (hb : c.code = cc) {i : Nat} {off : Int} {tgt : Nat} (hdg : decode cc pc = .ok (.ifCond .ne off, 3)) (ht : (pc : Int) + off = (tgt : Int)) (hi : i < 2 ^ 31)
    (kt : i ≠ 0 → W p l e R s m args below meth c H locs cells slots Q (F0 m tgt ls rest)) (kf : i = 0 → W p l e R s m args below meth c H locs cells slots Q (F0 m (pc + 3) ls rest)) : W p l e R s m args below meth c H locs cells slots Q (F0 m pc ls (.int (nI i) :: rest)) :=
  lv_if_ne hx hb hdg ht (fun h => kt (fun q => h ((nI_z hi).mpr q))) (fun h => kf ((nI_z hi).mp h))
theorem li_le0 (hx : p.tables.exec = Jvm.exec) (hb : c.code = cc) {i : Nat} {off : Int} {tgt : Nat} (hdg : decode cc pc = .ok (.ifCond .le off, 3)) (ht : (pc : Int) + off = (tgt : Int)) (hi : i < 2 ^ 31)
    (kt : i = 0 → W p l e R s m args below meth c H locs cells slots Q (F0 m tgt ls rest)) (kf : 0 < i → W p l e R s m args below meth c H locs cells slots Q (F0 m (pc + 3) ls rest)) : W p l e R s m args below meth c H locs cells slots Q (F0 m pc ls (.int (nI i) :: rest)) :=
  lv_if_le hx hb hdg ht (fun h => kt (by have := (nI_leI hi (b := 0) (by decide)).mp h; omega)) (fun h => kf (Nat.lt_of_not_le (fun q => h ((nI_leI hi (b := 0) (by decide)).mpr q))))
theorem li_gt0 (hx : p.tables.exec = Jvm.exec) (hb : c.code = cc) {i : Nat} {off : Int} {tgt : Nat} (hdg : decode cc pc = .ok (.ifCond .gt off, 3)) (ht : (pc : Int) + off = (tgt : Int)) (hi : i < 2 ^ 31)
    (kt : 0 < i → W p l e R s m args below meth c H locs cells slots Q (F0 m tgt ls rest)) (kf : i = 0 → W p l e R s m args below meth c H locs cells slots Q (F0 m (pc + 3) ls rest)) : W p l e R s m args below meth c H locs cells slots Q (F0 m pc ls (.int (nI i) :: rest)) :=
  lv_if_gt hx hb hdg ht (fun h => kt ((nI_ltI (a := 0) (by decide) hi).mp h)) (fun h => kf (by rcases Nat.eq_zero_or_pos i with q | q; exact q; exact absurd ((nI_ltI (a := 0) (by decide) hi).mpr q) h))
theorem li_lt0 (hx : p.tables.exec = Jvm.exec) (hb : c.code = cc) {i : Nat} {off : Int} {tgt : Nat} (hdg : decode cc pc = .ok (.ifCond .lt off, 3)) (ht : (pc : Int) + off = (tgt : Int)) (hi : i < 2 ^ 31)
    (kt : False → W p l e R s m args below meth c H locs cells slots Q (F0 m tgt ls rest)) (kf : True → W p l e R s m args below meth c H locs cells slots Q (F0 m (pc + 3) ls rest)) : W p l e R s m args below meth c H locs cells slots Q (F0 m pc ls (.int (nI i) :: rest)) :=
  lv_if_lt hx hb hdg ht (fun h => kt (nI_pos hi h)) (fun _ => kf trivial)
theorem li_ge0 (hx : p.tables.exec = Jvm.exec) (hb : c.code = cc) {i : Nat} {off : Int} {tgt : Nat} (hdg : decode cc pc = .ok (.ifCond .ge off, 3)) (ht : (pc : Int) + off = (tgt : Int)) (hi : i < 2 ^ 31)
    (kt : True → W p l e R s m args below meth c H locs cells slots Q (F0 m tgt ls rest)) (kf : False → W p l e R s m args below meth c H locs cells slots Q (F0 m (pc + 3) ls rest)) : W p l e R s m args below meth c H locs cells slots Q (F0 m pc ls (.int (nI i) :: rest)) :=
  lv_if_ge hx hb hdg ht (fun _ => kt trivial) (fun h => kf (h (nI_pos' hi)))
end LWZ
theorem lv_re {ls : Array Slot} {nL : Nat} {l : List (Nat × Value)} (h : lv_has ls nL l) (k : Nat) {i : Nat} {x y : Int32} (hk : l[k]? = some (i, .int x)) (e : x = y) : lv_has ls nL (l.set k (i, .int y)) := by
  subst e
  refine ⟨h.1, h.2.1, fun q hq => h.2.2 q ?_⟩
  rcases List.mem_or_eq_of_mem_set hq with h1 | h1
  · exact h1
  · rw [h1]; exact List.mem_of_getElem? hk
end
section
/-! SPEC: what the parade's questions answer, over the rows σ of a world (06): pure words, no machine. -/
abbrev Sg : Type := Nat → Nat → Int32
def anyN (p : Nat → Bool) : Nat → Bool
  | 0 => false
  | k + 1 => anyN p k || p k
def sumN (f : Nat → Nat) : Nat → Nat
  | 0 => 0
  | k + 1 => sumN f k + f k
def fnd (p : Nat → Bool) : Nat → Option Nat
  | 0 => none
  | k + 1 => match fnd p k with
    | some j => some j
    | none => if p k then some k else none
def oI : Option Nat → Int32
  | none => -1
  | some j => nI j
def hmS (σ : Sg) (x : Int32) (w : Nat) : Bool := decide (σ 12 w = x)
def hm (σ : Sg) (nw : Nat) (x : Int32) : Nat := cnt (hmS σ x) nw
def lbS (σ : Sg) (w : Nat) : Bool := decide (σ 12 w = nI 1) && decide (¬ σ 11 w = 0)
def lb (σ : Sg) (nw : Nat) : Nat := cnt (lbS σ) nw
def knS (σ : Sg) (s : Nat) (w : Nat) : Bool := decide (¬ σ 16 (6 * w + s) = 0)
def kn (σ : Sg) (nw s : Nat) : Nat := cnt (knS σ s) nw
def kvS (σ : Sg) (s : Nat) (v : Int32) (w : Nat) : Bool := decide (σ 16 (6 * w + s) = v)
def kv (σ : Sg) (nw s : Nat) (v : Int32) : Nat := cnt (kvS σ s v) nw
def vsS (σ : Sg) (nw s : Nat) (k : Nat) : Bool := decide (0 < kv σ nw s (nI (k + 1)))
def vs (σ : Sg) (nw s : Nat) : Nat := cnt (vsS σ nw s) 99
/-- the commonest version of the first k, and how many know it -/
def cm (σ : Sg) (nw s : Nat) : Nat → Nat × Nat
  | 0 => (0, 0)
  | k + 1 => if (cm σ nw s k).2 < kv σ nw s (nI (k + 1)) then (k + 1, kv σ nw s (nI (k + 1))) else cm σ nw s k
def lt_ (σ : Sg) (s : Nat) : Nat → Int32
  | 0 => σ 1 s
  | k + 1 => if σ 7 k = nI s then lt_ σ s k + 1 else lt_ σ s k
def onS (σ : Sg) (s : Nat) (w : Nat) : Bool := decide (σ 12 w = nI 1) && (decide (¬ σ 13 w < σ 2 s) && decide (¬ σ 2 s + σ 0 s ≤ σ 13 w))
def on (σ : Sg) (nw s : Nat) : Nat := cnt (onS σ s) nw
def waS (σ : Sg) (z : Int32) (w : Nat) : Bool := decide (σ 12 w = nI 1) && decide (σ 13 w = z)
def wa (σ : Sg) (nw : Nat) (z : Int32) : Nat := cnt (waS σ z) nw
def nbr (σ : Sg) (i j : Nat) : Bool := decide (i ≠ j) && (decide (σ 12 i = nI 1) && (decide (σ 12 j = nI 1) && (decide (¬ nI 1 < σ 13 i - σ 13 j) && decide (¬ nI 1 < σ 13 j - σ 13 i))))
def nb (σ : Sg) (nw w : Nat) : Nat := cnt (nbr σ w) nw
def fm (σ : Sg) : Nat → Int32
  | 0 => -1
  | k + 1 => if σ 12 k = nI 1 ∧ ¬ σ 13 k ≤ fm σ k then σ 13 k else fm σ k
def ls_ (σ : Sg) (f : Int32) : Nat → Int32
  | 0 => f
  | k + 1 => if σ 12 k = nI 1 ∧ ¬ ls_ σ f k ≤ σ 13 k then σ 13 k else ls_ σ f k
def bbS (σ κ : Sg) (w o : Nat) : Bool := decide (¬ κ 0 o = 0) && nbr σ w o
def bb (σ κ : Sg) (nw w : Nat) : Bool := anyN (bbS σ κ w) nw
/-- the foremost of the first k who has not gone yet: the place, the walker -/
def fg (σ κ : Sg) : Nat → Int32 × Int32
  | 0 => (-1, -1)
  | k + 1 => if σ 12 k = nI 1 ∧ κ 4 k = 0 ∧ ¬ σ 13 k ≤ (fg σ κ k).1 then (σ 13 k, nI k) else fg σ κ k
def seS (σ : Sg) (z : Int32) (s : Nat) : Bool := decide (σ 2 s + σ 0 s - nI 1 = z)
def se (σ : Sg) (n : Nat) (z : Int32) : Option Nat := fnd (seS σ z) n
/-- an int that names one of the first n -/
def has (n : Nat) (z : Int32) : Bool := decide (¬ z < 0) && decide (¬ nI n ≤ z)
theorem anyN_t {p : Nat → Bool} {k n : Nat} (hk : k < n) (h : p k = true) : anyN p n = true := by
  induction n with
  | zero => omega
  | succ n ih =>
    simp only [anyN, Bool.or_eq_true]
    rcases Nat.lt_or_ge k n with q | q
    · exact Or.inl (ih q)
    · have : k = n := by omega
      subst this
      exact Or.inr h
theorem anyN_f {p : Nat → Bool} {k : Nat} (h1 : anyN p k = false) (h2 : p k = false) : anyN p (k + 1) = false := by simp [anyN, h1, h2]
theorem fnd_lt {p : Nat → Bool} {n j : Nat} (h : fnd p n = some j) : j < n ∧ p j = true := by
  induction n with
  | zero => cases h
  | succ n ih =>
    simp only [fnd] at h
    cases hf : fnd p n with
    | some i =>
      rw [hf] at h
      cases h
      exact ⟨Nat.lt_succ_of_lt (ih hf).1, (ih hf).2⟩
    | none =>
      rw [hf] at h
      by_cases hp : p n = true
      · simp only [hp, if_true] at h
        cases h
        exact ⟨Nat.lt_succ_self _, hp⟩
      · simp only [hp] at h
        cases h
theorem fnd_s {p : Nat → Bool} {k n : Nat} (hk : k < n) (h1 : fnd p k = none) (h2 : p k = true) : fnd p n = some k := by
  induction n with
  | zero => omega
  | succ n ih =>
    simp only [fnd]
    rcases Nat.lt_or_ge k n with q | q
    · rw [ih q]
    · have : k = n := by omega
      subst this
      rw [h1]
      simp [h2]
theorem fnd_n {p : Nat → Bool} {k : Nat} (h1 : fnd p k = none) (h2 : p k = false) : fnd p (k + 1) = none := by simp [fnd, h1, h2]
theorem sumN_le {f : Nat → Nat} {b : Nat} (h : ∀ k, f k ≤ b) (n : Nat) : sumN f n ≤ n * b := by
  induction n with
  | zero => simp [sumN]
  | succ n ih =>
    simp only [sumN, Nat.succ_mul]
    have := h n
    omega
end
section
/-! the parade: questions that change nothing -/
set_option maxHeartbeats 4000000 in
set_option maxRecDepth 100000 in
theorem c_X2_cellOf (l : Launch) (D : va_G) (cI cZ cL cO : ClassId) (a : Nat → Nat) (n pl nw ns : Nat) (σ κ : Nat → Nat → Int32) (H : Heap) (w : Nat) (sg : Nat) (hB : n ≤ 10 ∧ pl ≤ 200 ∧ nw ≤ 20 ∧ ns ≤ 6) : Met l yX2_cellOf wsX2_cellOf ({ frames := 0, cells := 0, slots := 0, locals := 0 } : Room) (ro_P D (T4 cI cZ cL cO) (wP cI cZ a n pl nw ns σ κ) H [.int (nI w), .int (nI sg)]) (ro_Q (nI (6 * w + sg)) H) 0 0 (fun _ => False) := by
  refine ro_of (cc := cX2_cellOf) (maxL := 2) (by decide) rfl (Nat.le_of_ble_eq_true rfl) rfl ?_
  intro p e s m args below meth c Q ls locs hx hb hml hown hts hK hE hP hl hS hEnd
  have hl : lv_has ls 2 [(0, .int (nI w)), (1, .int (nI sg))] := hl
  refine lv_iload_n hx hb dX2_cellOf_0 rfl (lv_at hl 0 rfl) ?_
  refine lv_bipush (v := nI 6) hx hb dX2_cellOf_1 rfl ?_
  refine lv_imul hx hb dX2_cellOf_3 ?_
  refine li_topi (pk_mul _ _) ?_
  refine lv_iload_n hx hb dX2_cellOf_4 rfl (lv_at hl 1 rfl) ?_
  refine lv_iadd hx hb dX2_cellOf_5 ?_
  refine li_topi (nI_add _ _) ?_
  refine li_topi (show nI (w * 6 + sg) = nI (6 * w + sg) from by rw [Nat.mul_comm]) ?_
  exact hEnd 6 ls locs dX2_cellOf_6 hS
set_option maxHeartbeats 4000000 in
set_option maxRecDepth 100000 in
theorem c_X0_howManyAre (l : Launch) (D : va_G) (cI cZ cL cO : ClassId) (a : Nat → Nat) (n pl nw ns : Nat) (σ κ : Nat → Nat → Int32) (H : Heap) (x : Int32) (hB : n ≤ 10 ∧ pl ≤ 200 ∧ nw ≤ 20 ∧ ns ≤ 6) : Met l yX0_howManyAre wsX0_howManyAre ({ frames := 0, cells := 0, slots := 0, locals := 0 } : Room) (ro_P D (T4 cI cZ cL cO) (wP cI cZ a n pl nw ns σ κ) H [.ref (a 0), .int x]) (ro_Q (nI (hm σ nw x)) H) 0 0 (fun _ => False) := by
  refine ro_of (cc := cX0_howManyAre) (maxL := 4) (by decide) rfl (Nat.le_of_ble_eq_true rfl) rfl ?_
  intro p e s m args below meth c Q ls locs hx hb hml hown hts hK hE hP hl hS hEnd
  have hl : lv_has ls 4 [(0, .ref (a 0)), (1, .int x)] := hl
  have hX0 : ∀ w ∈ wsX00, w.before args s = true := fun w h => hts w (List.mem_cons_of_mem _ (List.mem_append_left _ (List.mem_append_right _ (h))))
  have hX1 : ∀ w ∈ wsX10, w.before args s = true := fun w h => hts w (List.mem_cons_of_mem _ (List.mem_append_right _ (h)))
  have f58 : (Cond.fieldLink RX0 58 "LanternWalk$Parade" "setting" "LLanternWalk$Setting;").before args s = true := hts _ (List.mem_of_getElem? (i := 1) rfl)
  have f92 : (Cond.fieldLink RX0 92 "LanternWalk$Setting" "walkers" "I").before args s = true := hts _ (List.mem_of_getElem? (i := 2) rfl)
  have f28 : (Cond.fieldLink RX0 28 "LanternWalk$Parade" "stage" "[I").before args s = true := hts _ (List.mem_of_getElem? (i := 3) rfl)
  refine lv_iconst (v := nI 0) hx hb dX0_howManyAre_0 rfl ?_
  refine lv_istore_n (lv' := [(2, .int (nI 0)), (0, .ref (a 0)), (1, .int x)]) hx hb dX0_howManyAre_1 rfl hl (by decide) rfl (fun ls hl => ?_)
  refine lv_iconst (v := nI 0) hx hb dX0_howManyAre_2 rfl ?_
  refine lv_istore_n (lv' := [(3, .int (nI 0)), (2, .int (nI 0)), (0, .ref (a 0)), (1, .int x)]) hx hb dX0_howManyAre_3 rfl hl (by decide) rfl (fun ls hl => ?_)
  have L4_1 : ∀ (fuel : Nat) (k : Nat), (nw - k) < fuel → k ≤ nw → ∀ (locs : List Loc), va_S (fun _ => False) H H locs → ∀ (ls : Array Slot), lv_has ls 4 [(3, .int (nI k)), (2, .int (nI (cnt (hmS σ x) k))), (0, .ref (a 0)), (1, .int x)] → W p l e ({ frames := 0, cells := 0, slots := 0, locals := 0 } : Room) s m args below meth c H locs 0 0 Q (F0 m 4 ls []) := by
    intro fuel
    induction fuel with
    | zero =>
      intro k hfuel
      exact absurd hfuel (Nat.not_lt_zero _)
    | succ fuel ih4 =>
      intro k hfuel4 hk locs hS ls hl
      refine lv_iload_n hx hb dX0_howManyAre_4 rfl (lv_at hl 0 rfl) ?_
      refine lv_aload_n hx hb dX0_howManyAre_5 rfl (lv_at hl 2 rfl) ?_
      refine li_gf0 hx hb hX0 hown hK hP 0 rfl 0 (by decide) f58 rfl dX0_howManyAre_6 ?_
      refine li_gf1 hx hb hX1 hown hK hP 16 rfl 6 (by decide) f92 rfl dX0_howManyAre_9 ?_
      refine li_ge (tgt := 34) hx hb dX0_howManyAre_12 (by decide) (by omega) (by omega) (fun c2 => ?_) (fun c2 => ?_)
      · skip
        refine lv_iload_n hx hb dX0_howManyAre_34 rfl (lv_at hl 1 rfl) ?_
        refine li_topi (show nI (cnt (hmS σ x) k) = nI (hm σ nw x) from by rw [show k = nw by omega]; rfl) ?_
        exact hEnd 35 ls locs dX0_howManyAre_35 hS
      · skip
        refine lv_aload_n hx hb dX0_howManyAre_15 rfl (lv_at hl 2 rfl) ?_
        refine li_gf0 hx hb hX0 hown hK hP 0 rfl 7 (by decide) f28 rfl dX0_howManyAre_16 ?_
        refine lv_iload_n hx hb dX0_howManyAre_19 rfl (lv_at hl 0 rfl) ?_
        refine li_ild hx hb hK hP 6 0 rfl rfl (by omega) (by decide) dX0_howManyAre_20 ?_
        refine lv_iload_n hx hb dX0_howManyAre_21 rfl (lv_at hl 3 rfl) ?_
        refine lv_icmp_ne (tgt := 28) hx hb dX0_howManyAre_22 (by decide) (fun c3 => ?_) (fun c3 => ?_)
        · skip
          refine lv_iinc (v := nI (k + 1)) (lv' := [(3, .int (nI (k + 1))), (2, .int (nI (cnt (hmS σ x) k))), (0, .ref (a 0)), (1, .int x)]) hx hb dX0_howManyAre_28 hl (k := 0) rfl (nI_inc _ _) (by decide) rfl (fun ls hl => ?_)
          refine lv_goto (tgt := 4) hx hb dX0_howManyAre_31 (by decide) ?_
          have hl9 : lv_has ls 4 [(3, .int (nI (k + 1))), (2, .int (nI (cnt (hmS σ x) k))), (0, .ref (a 0)), (1, .int x)] := lv_sub hl [0, 1, 2, 3] rfl
          have hl9 : lv_has ls 4 [(3, .int (nI (k + 1))), (2, .int (nI (cnt (hmS σ x) (k + 1)))), (0, .ref (a 0)), (1, .int x)] := lv_re hl9 1 rfl (show nI (cnt (hmS σ x) k) = nI (cnt (hmS σ x) (k + 1)) from by first | exact cnt_t (by simp [hmS, c2, c3]) | exact cnt_f (by simp [hmS, c2, c3]))
          exact ih4 (k + 1) (by omega) (by omega) locs hS ls hl9
        · skip
          refine lv_iinc (v := nI ((cnt (hmS σ x) k) + 1)) (lv' := [(2, .int (nI ((cnt (hmS σ x) k) + 1))), (3, .int (nI k)), (0, .ref (a 0)), (1, .int x)]) hx hb dX0_howManyAre_25 hl (k := 1) rfl (nI_inc _ _) (by decide) rfl (fun ls hl => ?_)
          refine lv_iinc (v := nI (k + 1)) (lv' := [(3, .int (nI (k + 1))), (2, .int (nI ((cnt (hmS σ x) k) + 1))), (0, .ref (a 0)), (1, .int x)]) hx hb dX0_howManyAre_28 hl (k := 1) rfl (nI_inc _ _) (by decide) rfl (fun ls hl => ?_)
          refine lv_goto (tgt := 4) hx hb dX0_howManyAre_31 (by decide) ?_
          have hl9 : lv_has ls 4 [(3, .int (nI (k + 1))), (2, .int (nI ((cnt (hmS σ x) k) + 1))), (0, .ref (a 0)), (1, .int x)] := lv_sub hl [0, 1, 2, 3] rfl
          have hl9 : lv_has ls 4 [(3, .int (nI (k + 1))), (2, .int (nI (cnt (hmS σ x) (k + 1)))), (0, .ref (a 0)), (1, .int x)] := lv_re hl9 1 rfl (show nI ((cnt (hmS σ x) k) + 1) = nI (cnt (hmS σ x) (k + 1)) from by first | exact cnt_t (by simp [hmS, c2, c3]) | exact cnt_f (by simp [hmS, c2, c3]))
          exact ih4 (k + 1) (by omega) (by omega) locs hS ls hl9
  have hl9 : lv_has ls 4 [(3, .int (nI 0)), (2, .int (nI 0)), (0, .ref (a 0)), (1, .int x)] := lv_sub hl [0, 1, 2, 3] rfl
  have hl9 : lv_has ls 4 [(3, .int (nI 0)), (2, .int (nI (cnt (hmS σ x) 0))), (0, .ref (a 0)), (1, .int x)] := lv_re hl9 1 rfl (show nI 0 = nI (cnt (hmS σ x) 0) from rfl)
  exact L4_1 ((nw - 0) + 1) 0 (Nat.lt_succ_self _) (by omega) locs hS ls hl9
set_option maxHeartbeats 4000000 in
set_option maxRecDepth 100000 in
theorem c_X0_lanternsBurning (l : Launch) (D : va_G) (cI cZ cL cO : ClassId) (a : Nat → Nat) (n pl nw ns : Nat) (σ κ : Nat → Nat → Int32) (H : Heap) (hB : n ≤ 10 ∧ pl ≤ 200 ∧ nw ≤ 20 ∧ ns ≤ 6) : Met l yX0_lanternsBurning wsX0_lanternsBurning ({ frames := 0, cells := 0, slots := 0, locals := 0 } : Room) (ro_P D (T4 cI cZ cL cO) (wP cI cZ a n pl nw ns σ κ) H [.ref (a 0)]) (ro_Q (nI (lb σ nw)) H) 0 0 (fun _ => False) := by
  refine ro_of (cc := cX0_lanternsBurning) (maxL := 3) (by decide) rfl (Nat.le_of_ble_eq_true rfl) rfl ?_
  intro p e s m args below meth c Q ls locs hx hb hml hown hts hK hE hP hl hS hEnd
  have hl : lv_has ls 3 [(0, .ref (a 0))] := hl
  have hX0 : ∀ w ∈ wsX00, w.before args s = true := fun w h => hts w (List.mem_cons_of_mem _ (List.mem_append_left _ (List.mem_append_right _ (h))))
  have hX1 : ∀ w ∈ wsX10, w.before args s = true := fun w h => hts w (List.mem_cons_of_mem _ (List.mem_append_right _ (h)))
  have f58 : (Cond.fieldLink RX0 58 "LanternWalk$Parade" "setting" "LLanternWalk$Setting;").before args s = true := hts _ (List.mem_of_getElem? (i := 1) rfl)
  have f92 : (Cond.fieldLink RX0 92 "LanternWalk$Setting" "walkers" "I").before args s = true := hts _ (List.mem_of_getElem? (i := 2) rfl)
  have f28 : (Cond.fieldLink RX0 28 "LanternWalk$Parade" "stage" "[I").before args s = true := hts _ (List.mem_of_getElem? (i := 3) rfl)
  have f24 : (Cond.fieldLink RX0 24 "LanternWalk$Parade" "burns" "[Z").before args s = true := hts _ (List.mem_of_getElem? (i := 4) rfl)
  refine lv_iconst (v := nI 0) hx hb dX0_lanternsBurning_0 rfl ?_
  refine lv_istore_n (lv' := [(1, .int (nI 0)), (0, .ref (a 0))]) hx hb dX0_lanternsBurning_1 rfl hl (by decide) rfl (fun ls hl => ?_)
  refine lv_iconst (v := nI 0) hx hb dX0_lanternsBurning_2 rfl ?_
  refine lv_istore_n (lv' := [(2, .int (nI 0)), (1, .int (nI 0)), (0, .ref (a 0))]) hx hb dX0_lanternsBurning_3 rfl hl (by decide) rfl (fun ls hl => ?_)
  have L4_1 : ∀ (fuel : Nat) (k : Nat), (nw - k) < fuel → k ≤ nw → ∀ (locs : List Loc), va_S (fun _ => False) H H locs → ∀ (ls : Array Slot), lv_has ls 3 [(2, .int (nI k)), (1, .int (nI (cnt (lbS σ) k))), (0, .ref (a 0))] → W p l e ({ frames := 0, cells := 0, slots := 0, locals := 0 } : Room) s m args below meth c H locs 0 0 Q (F0 m 4 ls []) := by
    intro fuel
    induction fuel with
    | zero =>
      intro k hfuel
      exact absurd hfuel (Nat.not_lt_zero _)
    | succ fuel ih4 =>
      intro k hfuel4 hk locs hS ls hl
      refine lv_iload_n hx hb dX0_lanternsBurning_4 rfl (lv_at hl 0 rfl) ?_
      refine lv_aload_n hx hb dX0_lanternsBurning_5 rfl (lv_at hl 2 rfl) ?_
      refine li_gf0 hx hb hX0 hown hK hP 0 rfl 0 (by decide) f58 rfl dX0_lanternsBurning_6 ?_
      refine li_gf1 hx hb hX1 hown hK hP 16 rfl 6 (by decide) f92 rfl dX0_lanternsBurning_9 ?_
      refine li_ge (tgt := 43) hx hb dX0_lanternsBurning_12 (by decide) (by omega) (by omega) (fun c2 => ?_) (fun c2 => ?_)
      · skip
        refine lv_iload_n hx hb dX0_lanternsBurning_43 rfl (lv_at hl 1 rfl) ?_
        refine li_topi (show nI (cnt (lbS σ) k) = nI (lb σ nw) from by rw [show k = nw by omega]; rfl) ?_
        exact hEnd 44 ls locs dX0_lanternsBurning_44 hS
      · skip
        refine lv_aload_n hx hb dX0_lanternsBurning_15 rfl (lv_at hl 2 rfl) ?_
        refine li_gf0 hx hb hX0 hown hK hP 0 rfl 7 (by decide) f28 rfl dX0_lanternsBurning_16 ?_
        refine lv_iload_n hx hb dX0_lanternsBurning_19 rfl (lv_at hl 0 rfl) ?_
        refine li_ild hx hb hK hP 6 0 rfl rfl (by omega) (by decide) dX0_lanternsBurning_20 ?_
        refine lv_iconst (v := nI 1) hx hb dX0_lanternsBurning_21 rfl ?_
        refine lv_icmp_ne (tgt := 37) hx hb dX0_lanternsBurning_22 (by decide) (fun c3 => ?_) (fun c3 => ?_)
        · skip
          refine lv_iinc (v := nI (k + 1)) (lv' := [(2, .int (nI (k + 1))), (1, .int (nI (cnt (lbS σ) k))), (0, .ref (a 0))]) hx hb dX0_lanternsBurning_37 hl (k := 0) rfl (nI_inc _ _) (by decide) rfl (fun ls hl => ?_)
          refine lv_goto (tgt := 4) hx hb dX0_lanternsBurning_40 (by decide) ?_
          have hl9 : lv_has ls 3 [(2, .int (nI (k + 1))), (1, .int (nI (cnt (lbS σ) k))), (0, .ref (a 0))] := lv_sub hl [0, 1, 2] rfl
          have hl9 : lv_has ls 3 [(2, .int (nI (k + 1))), (1, .int (nI (cnt (lbS σ) (k + 1)))), (0, .ref (a 0))] := lv_re hl9 1 rfl (show nI (cnt (lbS σ) k) = nI (cnt (lbS σ) (k + 1)) from by first | exact cnt_t (by simp [lbS, c2, c3]) | exact cnt_f (by simp [lbS, c2, c3]))
          exact ih4 (k + 1) (by omega) (by omega) locs hS ls hl9
        · skip
          refine lv_aload_n hx hb dX0_lanternsBurning_25 rfl (lv_at hl 2 rfl) ?_
          refine li_gf0 hx hb hX0 hown hK hP 0 rfl 6 (by decide) f24 rfl dX0_lanternsBurning_26 ?_
          refine lv_iload_n hx hb dX0_lanternsBurning_29 rfl (lv_at hl 0 rfl) ?_
          refine li_zld hx hb hK hP 5 1 rfl rfl (by omega) (by decide) dX0_lanternsBurning_30 ?_
          refine lv_if_eq (tgt := 37) hx hb dX0_lanternsBurning_31 (by decide) (fun c4 => ?_) (fun c4 => ?_)
          · skip
            refine lv_iinc (v := nI (k + 1)) (lv' := [(2, .int (nI (k + 1))), (1, .int (nI (cnt (lbS σ) k))), (0, .ref (a 0))]) hx hb dX0_lanternsBurning_37 hl (k := 0) rfl (nI_inc _ _) (by decide) rfl (fun ls hl => ?_)
            refine lv_goto (tgt := 4) hx hb dX0_lanternsBurning_40 (by decide) ?_
            have hl9 : lv_has ls 3 [(2, .int (nI (k + 1))), (1, .int (nI (cnt (lbS σ) k))), (0, .ref (a 0))] := lv_sub hl [0, 1, 2] rfl
            have hl9 : lv_has ls 3 [(2, .int (nI (k + 1))), (1, .int (nI (cnt (lbS σ) (k + 1)))), (0, .ref (a 0))] := lv_re hl9 1 rfl (show nI (cnt (lbS σ) k) = nI (cnt (lbS σ) (k + 1)) from by first | exact cnt_t (by simp [lbS, c2, c3, c4]) | exact cnt_f (by simp [lbS, c2, c3, c4]))
            exact ih4 (k + 1) (by omega) (by omega) locs hS ls hl9
          · skip
            refine lv_iinc (v := nI ((cnt (lbS σ) k) + 1)) (lv' := [(1, .int (nI ((cnt (lbS σ) k) + 1))), (2, .int (nI k)), (0, .ref (a 0))]) hx hb dX0_lanternsBurning_34 hl (k := 1) rfl (nI_inc _ _) (by decide) rfl (fun ls hl => ?_)
            refine lv_iinc (v := nI (k + 1)) (lv' := [(2, .int (nI (k + 1))), (1, .int (nI ((cnt (lbS σ) k) + 1))), (0, .ref (a 0))]) hx hb dX0_lanternsBurning_37 hl (k := 1) rfl (nI_inc _ _) (by decide) rfl (fun ls hl => ?_)
            refine lv_goto (tgt := 4) hx hb dX0_lanternsBurning_40 (by decide) ?_
            have hl9 : lv_has ls 3 [(2, .int (nI (k + 1))), (1, .int (nI ((cnt (lbS σ) k) + 1))), (0, .ref (a 0))] := lv_sub hl [0, 1, 2] rfl
            have hl9 : lv_has ls 3 [(2, .int (nI (k + 1))), (1, .int (nI (cnt (lbS σ) (k + 1)))), (0, .ref (a 0))] := lv_re hl9 1 rfl (show nI ((cnt (lbS σ) k) + 1) = nI (cnt (lbS σ) (k + 1)) from by first | exact cnt_t (by simp [lbS, c2, c3, c4]) | exact cnt_f (by simp [lbS, c2, c3, c4]))
            exact ih4 (k + 1) (by omega) (by omega) locs hS ls hl9
  have hl9 : lv_has ls 3 [(2, .int (nI 0)), (1, .int (nI 0)), (0, .ref (a 0))] := lv_sub hl [0, 1, 2] rfl
  have hl9 : lv_has ls 3 [(2, .int (nI 0)), (1, .int (nI (cnt (lbS σ) 0))), (0, .ref (a 0))] := lv_re hl9 1 rfl (show nI 0 = nI (cnt (lbS σ) 0) from rfl)
  exact L4_1 ((nw - 0) + 1) 0 (Nat.lt_succ_self _) (by omega) locs hS ls hl9
set_option maxHeartbeats 4000000 in
set_option maxRecDepth 100000 in
theorem c_X0_knowersOf (l : Launch) (D : va_G) (cI cZ cL cO : ClassId) (a : Nat → Nat) (n pl nw ns : Nat) (σ κ : Nat → Nat → Int32) (H : Heap) (sg : Nat) (hB : n ≤ 10 ∧ pl ≤ 200 ∧ nw ≤ 20 ∧ ns ≤ 6) (hs : sg < 6) : Met l yX0_knowersOf wsX0_knowersOf ({ frames := 1, cells := 0, slots := 0, locals := 21 } : Room) (ro_P D (T4 cI cZ cL cO) (wP cI cZ a n pl nw ns σ κ) H [.ref (a 0), .int (nI sg)]) (ro_Q (nI (kn σ nw sg)) H) 0 0 (fun _ => False) := by
  refine ro_of (cc := cX0_knowersOf) (maxL := 4) (by decide) rfl (Nat.le_of_ble_eq_true rfl) rfl ?_
  intro p e s m args below meth c Q ls locs hx hb hml hown hts hK hE hP hl hS hEnd
  have hl : lv_has ls 4 [(0, .ref (a 0)), (1, .int (nI sg))] := hl
  have hX0 : ∀ w ∈ wsX00, w.before args s = true := fun w h => hts w (List.mem_cons_of_mem _ (List.mem_append_left _ (List.mem_append_right _ (h))))
  have hX1 : ∀ w ∈ wsX10, w.before args s = true := fun w h => hts w (List.mem_cons_of_mem _ (List.mem_append_right _ (h)))
  have f58 : (Cond.fieldLink RX0 58 "LanternWalk$Parade" "setting" "LLanternWalk$Setting;").before args s = true := hts _ (List.mem_of_getElem? (i := 1) rfl)
  have f92 : (Cond.fieldLink RX0 92 "LanternWalk$Setting" "walkers" "I").before args s = true := hts _ (List.mem_of_getElem? (i := 2) rfl)
  have f40 : (Cond.fieldLink RX0 40 "LanternWalk$Parade" "known" "[I").before args s = true := hts _ (List.mem_of_getElem? (i := 3) rfl)
  have g3 : (Cond.initialized RX2).before args s = true := hts _ (List.mem_of_getElem? (i := 5) rfl)
  have g4 : (Cond.static yX2_cellOf).before args s = true := hts _ (List.mem_of_getElem? (i := 4) rfl)
  refine lv_iconst (v := nI 0) hx hb dX0_knowersOf_0 rfl ?_
  refine lv_istore_n (lv' := [(2, .int (nI 0)), (0, .ref (a 0)), (1, .int (nI sg))]) hx hb dX0_knowersOf_1 rfl hl (by decide) rfl (fun ls hl => ?_)
  refine lv_iconst (v := nI 0) hx hb dX0_knowersOf_2 rfl ?_
  refine lv_istore_n (lv' := [(3, .int (nI 0)), (2, .int (nI 0)), (0, .ref (a 0)), (1, .int (nI sg))]) hx hb dX0_knowersOf_3 rfl hl (by decide) rfl (fun ls hl => ?_)
  have L4_1 : ∀ (fuel : Nat) (k : Nat), (nw - k) < fuel → k ≤ nw → ∀ (locs : List Loc), va_S (fun _ => False) H H locs → ∀ (ls : Array Slot), lv_has ls 4 [(3, .int (nI k)), (2, .int (nI (cnt (knS σ sg) k))), (0, .ref (a 0)), (1, .int (nI sg))] → W p l e ({ frames := 1, cells := 0, slots := 0, locals := 21 } : Room) s m args below meth c H locs 0 0 Q (F0 m 4 ls []) := by
    intro fuel
    induction fuel with
    | zero =>
      intro k hfuel
      exact absurd hfuel (Nat.not_lt_zero _)
    | succ fuel ih4 =>
      intro k hfuel4 hk locs hS ls hl
      refine lv_iload_n hx hb dX0_knowersOf_4 rfl (lv_at hl 0 rfl) ?_
      refine lv_aload_n hx hb dX0_knowersOf_5 rfl (lv_at hl 2 rfl) ?_
      refine li_gf0 hx hb hX0 hown hK hP 0 rfl 0 (by decide) f58 rfl dX0_knowersOf_6 ?_
      refine li_gf1 hx hb hX1 hown hK hP 16 rfl 6 (by decide) f92 rfl dX0_knowersOf_9 ?_
      refine li_ge (tgt := 37) hx hb dX0_knowersOf_12 (by decide) (by omega) (by omega) (fun c2 => ?_) (fun c2 => ?_)
      · skip
        refine lv_iload_n hx hb dX0_knowersOf_37 rfl (lv_at hl 1 rfl) ?_
        refine li_topi (show nI (cnt (knS σ sg) k) = nI (kn σ nw sg) from by rw [show k = nw by omega]; rfl) ?_
        exact hEnd 38 ls locs dX0_knowersOf_38 hS
      · skip
        refine lv_aload_n hx hb dX0_knowersOf_15 rfl (lv_at hl 2 rfl) ?_
        refine li_gf0 hx hb hX0 hown hK hP 0 rfl 11 (by decide) f40 rfl dX0_knowersOf_16 ?_
        refine lv_iload_n hx hb dX0_knowersOf_19 rfl (lv_at hl 0 rfl) ?_
        refine lv_iload_n hx hb dX0_knowersOf_20 rfl (lv_at hl 3 rfl) ?_
        refine roSN (As := [.int (nI k), .int (nI sg)]) hx hb hml hown hts (c_X2_cellOf l D cI cZ cL cO a n pl nw ns σ κ H k sg (hB)) ⟨va_cnB 2 hts gX0_knowersOf_X2_cellOf_n104 rfl rfl rfl hE g3 (by decide +kernel) ⟨by decide, by decide⟩, g4, trivial⟩ hK hE hP rfl hl.1 rfl (Nat.le_of_ble_eq_true rfl) hS dX0_knowersOf_21 ⟨Nat.zero_le _, Nat.zero_le _⟩ (fun locs hS => ?_)
        refine li_ild hx hb hK hP 10 0 rfl rfl (by omega) (by decide) dX0_knowersOf_24 ?_
        refine lv_if_eq (tgt := 31) hx hb dX0_knowersOf_25 (by decide) (fun c3 => ?_) (fun c3 => ?_)
        · skip
          refine lv_iinc (v := nI (k + 1)) (lv' := [(3, .int (nI (k + 1))), (2, .int (nI (cnt (knS σ sg) k))), (0, .ref (a 0)), (1, .int (nI sg))]) hx hb dX0_knowersOf_31 hl (k := 0) rfl (nI_inc _ _) (by decide) rfl (fun ls hl => ?_)
          refine lv_goto (tgt := 4) hx hb dX0_knowersOf_34 (by decide) ?_
          have hl9 : lv_has ls 4 [(3, .int (nI (k + 1))), (2, .int (nI (cnt (knS σ sg) k))), (0, .ref (a 0)), (1, .int (nI sg))] := lv_sub hl [0, 1, 2, 3] rfl
          have hl9 : lv_has ls 4 [(3, .int (nI (k + 1))), (2, .int (nI (cnt (knS σ sg) (k + 1)))), (0, .ref (a 0)), (1, .int (nI sg))] := lv_re hl9 1 rfl (show nI (cnt (knS σ sg) k) = nI (cnt (knS σ sg) (k + 1)) from by first | exact cnt_t (by simp [knS, c2, c3]) | exact cnt_f (by simp [knS, c2, c3]))
          exact ih4 (k + 1) (by omega) (by omega) locs hS ls hl9
        · skip
          refine lv_iinc (v := nI ((cnt (knS σ sg) k) + 1)) (lv' := [(2, .int (nI ((cnt (knS σ sg) k) + 1))), (3, .int (nI k)), (0, .ref (a 0)), (1, .int (nI sg))]) hx hb dX0_knowersOf_28 hl (k := 1) rfl (nI_inc _ _) (by decide) rfl (fun ls hl => ?_)
          refine lv_iinc (v := nI (k + 1)) (lv' := [(3, .int (nI (k + 1))), (2, .int (nI ((cnt (knS σ sg) k) + 1))), (0, .ref (a 0)), (1, .int (nI sg))]) hx hb dX0_knowersOf_31 hl (k := 1) rfl (nI_inc _ _) (by decide) rfl (fun ls hl => ?_)
          refine lv_goto (tgt := 4) hx hb dX0_knowersOf_34 (by decide) ?_
          have hl9 : lv_has ls 4 [(3, .int (nI (k + 1))), (2, .int (nI ((cnt (knS σ sg) k) + 1))), (0, .ref (a 0)), (1, .int (nI sg))] := lv_sub hl [0, 1, 2, 3] rfl
          have hl9 : lv_has ls 4 [(3, .int (nI (k + 1))), (2, .int (nI (cnt (knS σ sg) (k + 1)))), (0, .ref (a 0)), (1, .int (nI sg))] := lv_re hl9 1 rfl (show nI ((cnt (knS σ sg) k) + 1) = nI (cnt (knS σ sg) (k + 1)) from by first | exact cnt_t (by simp [knS, c2, c3]) | exact cnt_f (by simp [knS, c2, c3]))
          exact ih4 (k + 1) (by omega) (by omega) locs hS ls hl9
  have hl9 : lv_has ls 4 [(3, .int (nI 0)), (2, .int (nI 0)), (0, .ref (a 0)), (1, .int (nI sg))] := lv_sub hl [0, 1, 2, 3] rfl
  have hl9 : lv_has ls 4 [(3, .int (nI 0)), (2, .int (nI (cnt (knS σ sg) 0))), (0, .ref (a 0)), (1, .int (nI sg))] := lv_re hl9 1 rfl (show nI 0 = nI (cnt (knS σ sg) 0) from rfl)
  exact L4_1 ((nw - 0) + 1) 0 (Nat.lt_succ_self _) (by omega) locs hS ls hl9
set_option maxHeartbeats 4000000 in
set_option maxRecDepth 100000 in
theorem c_X0_songsKnownInAll (l : Launch) (D : va_G) (cI cZ cL cO : ClassId) (a : Nat → Nat) (n pl nw ns : Nat) (σ κ : Nat → Nat → Int32) (H : Heap) (hB : n ≤ 10 ∧ pl ≤ 200 ∧ nw ≤ 20 ∧ ns ≤ 6) : Met l yX0_songsKnownInAll wsX0_songsKnownInAll ({ frames := 2, cells := 0, slots := 0, locals := 44 } : Room) (ro_P D (T4 cI cZ cL cO) (wP cI cZ a n pl nw ns σ κ) H [.ref (a 0)]) (ro_Q (nI (sumN (kn σ nw) ns)) H) 0 0 (fun _ => False) := by
  refine ro_of (cc := cX0_songsKnownInAll) (maxL := 3) (by decide) rfl (Nat.le_of_ble_eq_true rfl) rfl ?_
  intro p e s m args below meth c Q ls locs hx hb hml hown hts hK hE hP hl hS hEnd
  have hl : lv_has ls 3 [(0, .ref (a 0))] := hl
  have hX0 : ∀ w ∈ wsX00, w.before args s = true := fun w h => hts w (List.mem_cons_of_mem _ (List.mem_append_left _ (List.mem_append_right _ (h))))
  have hX1 : ∀ w ∈ wsX10, w.before args s = true := fun w h => hts w (List.mem_cons_of_mem _ (List.mem_append_right _ (h)))
  have f58 : (Cond.fieldLink RX0 58 "LanternWalk$Parade" "setting" "LLanternWalk$Setting;").before args s = true := hts _ (List.mem_of_getElem? (i := 1) rfl)
  have f97 : (Cond.fieldLink RX0 97 "LanternWalk$Setting" "songs" "I").before args s = true := hts _ (List.mem_of_getElem? (i := 2) rfl)
  refine lv_iconst (v := nI 0) hx hb dX0_songsKnownInAll_0 rfl ?_
  refine lv_istore_n (lv' := [(1, .int (nI 0)), (0, .ref (a 0))]) hx hb dX0_songsKnownInAll_1 rfl hl (by decide) rfl (fun ls hl => ?_)
  refine lv_iconst (v := nI 0) hx hb dX0_songsKnownInAll_2 rfl ?_
  refine lv_istore_n (lv' := [(2, .int (nI 0)), (1, .int (nI 0)), (0, .ref (a 0))]) hx hb dX0_songsKnownInAll_3 rfl hl (by decide) rfl (fun ls hl => ?_)
  have L4_1 : ∀ (fuel : Nat) (k : Nat), (ns - k) < fuel → k ≤ ns → ∀ (locs : List Loc), va_S (fun _ => False) H H locs → ∀ (ls : Array Slot), lv_has ls 3 [(2, .int (nI k)), (1, .int (nI (sumN (kn σ nw) k))), (0, .ref (a 0))] → W p l e ({ frames := 2, cells := 0, slots := 0, locals := 44 } : Room) s m args below meth c H locs 0 0 Q (F0 m 4 ls []) := by
    intro fuel
    induction fuel with
    | zero =>
      intro k hfuel
      exact absurd hfuel (Nat.not_lt_zero _)
    | succ fuel ih4 =>
      intro k hfuel4 hk locs hS ls hl
      refine lv_iload_n hx hb dX0_songsKnownInAll_4 rfl (lv_at hl 0 rfl) ?_
      refine lv_aload_n hx hb dX0_songsKnownInAll_5 rfl (lv_at hl 2 rfl) ?_
      refine li_gf0 hx hb hX0 hown hK hP 0 rfl 0 (by decide) f58 rfl dX0_songsKnownInAll_6 ?_
      refine li_gf1 hx hb hX1 hown hK hP 16 rfl 9 (by decide) f97 rfl dX0_songsKnownInAll_9 ?_
      refine li_ge (tgt := 29) hx hb dX0_songsKnownInAll_12 (by decide) (by omega) (by omega) (fun c2 => ?_) (fun c2 => ?_)
      · skip
        refine lv_iload_n hx hb dX0_songsKnownInAll_29 rfl (lv_at hl 1 rfl) ?_
        refine li_topi (show nI (sumN (kn σ nw) k) = nI (sumN (kn σ nw) ns) from by rw [show k = ns by omega]) ?_
        exact hEnd 30 ls locs dX0_songsKnownInAll_30 hS
      · skip
        refine lv_iload_n hx hb dX0_songsKnownInAll_15 rfl (lv_at hl 1 rfl) ?_
        refine lv_aload_n hx hb dX0_songsKnownInAll_16 rfl (lv_at hl 2 rfl) ?_
        refine lv_iload_n hx hb dX0_songsKnownInAll_17 rfl (lv_at hl 0 rfl) ?_
        refine roV (As := [.int (nI k)]) (q0 := 0) (ci := 0) hx hb hml hown hts (c_X0_knowersOf l D cI cZ cL cO a n pl nw ns σ κ H k (hB) (by omega)) (cwV 1 hts gX0_songsKnownInAll_X0_knowersOf rfl rfl rfl (by decide +kernel) ⟨by decide, by decide⟩) hK hE hP rfl rfl rfl rfl hl.1 rfl (Nat.le_of_ble_eq_true rfl) hS dX0_songsKnownInAll_18 ⟨Nat.zero_le _, Nat.zero_le _⟩ (fun locs hS => ?_)
        refine lv_iadd hx hb dX0_songsKnownInAll_21 ?_
        refine li_topi (nI_add _ _) ?_
        refine lv_istore_n (lv' := [(1, .int (nI ((sumN (kn σ nw) k) + (kn σ nw k)))), (2, .int (nI k)), (0, .ref (a 0))]) hx hb dX0_songsKnownInAll_22 rfl hl (by decide) rfl (fun ls hl => ?_)
        refine lv_iinc (v := nI (k + 1)) (lv' := [(2, .int (nI (k + 1))), (1, .int (nI ((sumN (kn σ nw) k) + (kn σ nw k)))), (0, .ref (a 0))]) hx hb dX0_songsKnownInAll_23 hl (k := 1) rfl (nI_inc _ _) (by decide) rfl (fun ls hl => ?_)
        refine lv_goto (tgt := 4) hx hb dX0_songsKnownInAll_26 (by decide) ?_
        have hl9 : lv_has ls 3 [(2, .int (nI (k + 1))), (1, .int (nI ((sumN (kn σ nw) k) + (kn σ nw k)))), (0, .ref (a 0))] := lv_sub hl [0, 1, 2] rfl
        have hl9 : lv_has ls 3 [(2, .int (nI (k + 1))), (1, .int (nI (sumN (kn σ nw) (k + 1)))), (0, .ref (a 0))] := lv_re hl9 1 rfl (show nI ((sumN (kn σ nw) k) + (kn σ nw k)) = nI (sumN (kn σ nw) (k + 1)) from rfl)
        exact ih4 (k + 1) (by omega) (by omega) locs hS ls hl9
  have hl9 : lv_has ls 3 [(2, .int (nI 0)), (1, .int (nI 0)), (0, .ref (a 0))] := lv_sub hl [0, 1, 2] rfl
  have hl9 : lv_has ls 3 [(2, .int (nI 0)), (1, .int (nI (sumN (kn σ nw) 0))), (0, .ref (a 0))] := lv_re hl9 1 rfl (show nI 0 = nI (sumN (kn σ nw) 0) from rfl)
  exact L4_1 ((ns - 0) + 1) 0 (Nat.lt_succ_self _) (by omega) locs hS ls hl9
set_option maxHeartbeats 4000000 in
set_option maxRecDepth 100000 in
theorem c_X0_knowersOfVersion (l : Launch) (D : va_G) (cI cZ cL cO : ClassId) (a : Nat → Nat) (n pl nw ns : Nat) (σ κ : Nat → Nat → Int32) (H : Heap) (sg : Nat) (v : Int32) (hB : n ≤ 10 ∧ pl ≤ 200 ∧ nw ≤ 20 ∧ ns ≤ 6) (hs : sg < 6) : Met l yX0_knowersOfVersion wsX0_knowersOfVersion ({ frames := 1, cells := 0, slots := 0, locals := 21 } : Room) (ro_P D (T4 cI cZ cL cO) (wP cI cZ a n pl nw ns σ κ) H [.ref (a 0), .int (nI sg), .int v]) (ro_Q (nI (kv σ nw sg v)) H) 0 0 (fun _ => False) := by
  refine ro_of (cc := cX0_knowersOfVersion) (maxL := 5) (by decide) rfl (Nat.le_of_ble_eq_true rfl) rfl ?_
  intro p e s m args below meth c Q ls locs hx hb hml hown hts hK hE hP hl hS hEnd
  have hl : lv_has ls 5 [(0, .ref (a 0)), (1, .int (nI sg)), (2, .int v)] := hl
  have hX0 : ∀ w ∈ wsX00, w.before args s = true := fun w h => hts w (List.mem_cons_of_mem _ (List.mem_append_left _ (List.mem_append_right _ (h))))
  have hX1 : ∀ w ∈ wsX10, w.before args s = true := fun w h => hts w (List.mem_cons_of_mem _ (List.mem_append_right _ (h)))
  have f58 : (Cond.fieldLink RX0 58 "LanternWalk$Parade" "setting" "LLanternWalk$Setting;").before args s = true := hts _ (List.mem_of_getElem? (i := 1) rfl)
  have f92 : (Cond.fieldLink RX0 92 "LanternWalk$Setting" "walkers" "I").before args s = true := hts _ (List.mem_of_getElem? (i := 2) rfl)
  have f40 : (Cond.fieldLink RX0 40 "LanternWalk$Parade" "known" "[I").before args s = true := hts _ (List.mem_of_getElem? (i := 3) rfl)
  have g3 : (Cond.initialized RX2).before args s = true := hts _ (List.mem_of_getElem? (i := 5) rfl)
  have g4 : (Cond.static yX2_cellOf).before args s = true := hts _ (List.mem_of_getElem? (i := 4) rfl)
  refine lv_iconst (v := nI 0) hx hb dX0_knowersOfVersion_0 rfl ?_
  refine lv_istore_n (lv' := [(3, .int (nI 0)), (0, .ref (a 0)), (1, .int (nI sg)), (2, .int v)]) hx hb dX0_knowersOfVersion_1 rfl hl (by decide) rfl (fun ls hl => ?_)
  refine lv_iconst (v := nI 0) hx hb dX0_knowersOfVersion_2 rfl ?_
  refine lv_istore (lv' := [(4, .int (nI 0)), (3, .int (nI 0)), (0, .ref (a 0)), (1, .int (nI sg)), (2, .int v)]) hx hb dX0_knowersOfVersion_3 hl (by decide) rfl (fun ls hl => ?_)
  have L5_1 : ∀ (fuel : Nat) (k : Nat), (nw - k) < fuel → k ≤ nw → ∀ (locs : List Loc), va_S (fun _ => False) H H locs → ∀ (ls : Array Slot), lv_has ls 5 [(4, .int (nI k)), (3, .int (nI (cnt (kvS σ sg v) k))), (0, .ref (a 0)), (1, .int (nI sg)), (2, .int v)] → W p l e ({ frames := 1, cells := 0, slots := 0, locals := 21 } : Room) s m args below meth c H locs 0 0 Q (F0 m 5 ls []) := by
    intro fuel
    induction fuel with
    | zero =>
      intro k hfuel
      exact absurd hfuel (Nat.not_lt_zero _)
    | succ fuel ih5 =>
      intro k hfuel5 hk locs hS ls hl
      refine lv_iload hx hb dX0_knowersOfVersion_5 (lv_at hl 0 rfl) ?_
      refine lv_aload_n hx hb dX0_knowersOfVersion_7 rfl (lv_at hl 2 rfl) ?_
      refine li_gf0 hx hb hX0 hown hK hP 0 rfl 0 (by decide) f58 rfl dX0_knowersOfVersion_8 ?_
      refine li_gf1 hx hb hX1 hown hK hP 16 rfl 6 (by decide) f92 rfl dX0_knowersOfVersion_11 ?_
      refine li_ge (tgt := 41) hx hb dX0_knowersOfVersion_14 (by decide) (by omega) (by omega) (fun c2 => ?_) (fun c2 => ?_)
      · skip
        refine lv_iload_n hx hb dX0_knowersOfVersion_41 rfl (lv_at hl 1 rfl) ?_
        refine li_topi (show nI (cnt (kvS σ sg v) k) = nI (kv σ nw sg v) from by rw [show k = nw by omega]; rfl) ?_
        exact hEnd 42 ls locs dX0_knowersOfVersion_42 hS
      · skip
        refine lv_aload_n hx hb dX0_knowersOfVersion_17 rfl (lv_at hl 2 rfl) ?_
        refine li_gf0 hx hb hX0 hown hK hP 0 rfl 11 (by decide) f40 rfl dX0_knowersOfVersion_18 ?_
        refine lv_iload hx hb dX0_knowersOfVersion_21 (lv_at hl 0 rfl) ?_
        refine lv_iload_n hx hb dX0_knowersOfVersion_23 rfl (lv_at hl 3 rfl) ?_
        refine roSN (As := [.int (nI k), .int (nI sg)]) hx hb hml hown hts (c_X2_cellOf l D cI cZ cL cO a n pl nw ns σ κ H k sg (hB)) ⟨va_cnB 2 hts gX0_knowersOfVersion_X2_cellOf_n104 rfl rfl rfl hE g3 (by decide +kernel) ⟨by decide, by decide⟩, g4, trivial⟩ hK hE hP rfl hl.1 rfl (Nat.le_of_ble_eq_true rfl) hS dX0_knowersOfVersion_24 ⟨Nat.zero_le _, Nat.zero_le _⟩ (fun locs hS => ?_)
        refine li_ild hx hb hK hP 10 0 rfl rfl (by omega) (by decide) dX0_knowersOfVersion_27 ?_
        refine lv_iload_n hx hb dX0_knowersOfVersion_28 rfl (lv_at hl 4 rfl) ?_
        refine lv_icmp_ne (tgt := 35) hx hb dX0_knowersOfVersion_29 (by decide) (fun c3 => ?_) (fun c3 => ?_)
        · skip
          refine lv_iinc (v := nI (k + 1)) (lv' := [(4, .int (nI (k + 1))), (3, .int (nI (cnt (kvS σ sg v) k))), (0, .ref (a 0)), (1, .int (nI sg)), (2, .int v)]) hx hb dX0_knowersOfVersion_35 hl (k := 0) rfl (nI_inc _ _) (by decide) rfl (fun ls hl => ?_)
          refine lv_goto (tgt := 5) hx hb dX0_knowersOfVersion_38 (by decide) ?_
          have hl9 : lv_has ls 5 [(4, .int (nI (k + 1))), (3, .int (nI (cnt (kvS σ sg v) k))), (0, .ref (a 0)), (1, .int (nI sg)), (2, .int v)] := lv_sub hl [0, 1, 2, 3, 4] rfl
          have hl9 : lv_has ls 5 [(4, .int (nI (k + 1))), (3, .int (nI (cnt (kvS σ sg v) (k + 1)))), (0, .ref (a 0)), (1, .int (nI sg)), (2, .int v)] := lv_re hl9 1 rfl (show nI (cnt (kvS σ sg v) k) = nI (cnt (kvS σ sg v) (k + 1)) from by first | exact cnt_t (by simp [kvS, c2, c3]) | exact cnt_f (by simp [kvS, c2, c3]))
          exact ih5 (k + 1) (by omega) (by omega) locs hS ls hl9
        · skip
          refine lv_iinc (v := nI ((cnt (kvS σ sg v) k) + 1)) (lv' := [(3, .int (nI ((cnt (kvS σ sg v) k) + 1))), (4, .int (nI k)), (0, .ref (a 0)), (1, .int (nI sg)), (2, .int v)]) hx hb dX0_knowersOfVersion_32 hl (k := 1) rfl (nI_inc _ _) (by decide) rfl (fun ls hl => ?_)
          refine lv_iinc (v := nI (k + 1)) (lv' := [(4, .int (nI (k + 1))), (3, .int (nI ((cnt (kvS σ sg v) k) + 1))), (0, .ref (a 0)), (1, .int (nI sg)), (2, .int v)]) hx hb dX0_knowersOfVersion_35 hl (k := 1) rfl (nI_inc _ _) (by decide) rfl (fun ls hl => ?_)
          refine lv_goto (tgt := 5) hx hb dX0_knowersOfVersion_38 (by decide) ?_
          have hl9 : lv_has ls 5 [(4, .int (nI (k + 1))), (3, .int (nI ((cnt (kvS σ sg v) k) + 1))), (0, .ref (a 0)), (1, .int (nI sg)), (2, .int v)] := lv_sub hl [0, 1, 2, 3, 4] rfl
          have hl9 : lv_has ls 5 [(4, .int (nI (k + 1))), (3, .int (nI (cnt (kvS σ sg v) (k + 1)))), (0, .ref (a 0)), (1, .int (nI sg)), (2, .int v)] := lv_re hl9 1 rfl (show nI ((cnt (kvS σ sg v) k) + 1) = nI (cnt (kvS σ sg v) (k + 1)) from by first | exact cnt_t (by simp [kvS, c2, c3]) | exact cnt_f (by simp [kvS, c2, c3]))
          exact ih5 (k + 1) (by omega) (by omega) locs hS ls hl9
  have hl9 : lv_has ls 5 [(4, .int (nI 0)), (3, .int (nI 0)), (0, .ref (a 0)), (1, .int (nI sg)), (2, .int v)] := lv_sub hl [0, 1, 2, 3, 4] rfl
  have hl9 : lv_has ls 5 [(4, .int (nI 0)), (3, .int (nI (cnt (kvS σ sg v) 0))), (0, .ref (a 0)), (1, .int (nI sg)), (2, .int v)] := lv_re hl9 1 rfl (show nI 0 = nI (cnt (kvS σ sg v) 0) from rfl)
  exact L5_1 ((nw - 0) + 1) 0 (Nat.lt_succ_self _) (by omega) locs hS ls hl9
set_option maxHeartbeats 4000000 in
set_option maxRecDepth 100000 in
theorem c_X0_versionsOf (l : Launch) (D : va_G) (cI cZ cL cO : ClassId) (a : Nat → Nat) (n pl nw ns : Nat) (σ κ : Nat → Nat → Int32) (H : Heap) (sg : Nat) (hB : n ≤ 10 ∧ pl ≤ 200 ∧ nw ≤ 20 ∧ ns ≤ 6) (hs : sg < 6) : Met l yX0_versionsOf wsX0_versionsOf ({ frames := 2, cells := 0, slots := 0, locals := 45 } : Room) (ro_P D (T4 cI cZ cL cO) (wP cI cZ a n pl nw ns σ κ) H [.ref (a 0), .int (nI sg)]) (ro_Q (nI (vs σ nw sg)) H) 0 0 (fun _ => False) := by
  refine ro_of (cc := cX0_versionsOf) (maxL := 4) (by decide) rfl (Nat.le_of_ble_eq_true rfl) rfl ?_
  intro p e s m args below meth c Q ls locs hx hb hml hown hts hK hE hP hl hS hEnd
  have hl : lv_has ls 4 [(0, .ref (a 0)), (1, .int (nI sg))] := hl
  refine lv_iconst (v := nI 0) hx hb dX0_versionsOf_0 rfl ?_
  refine lv_istore_n (lv' := [(2, .int (nI 0)), (0, .ref (a 0)), (1, .int (nI sg))]) hx hb dX0_versionsOf_1 rfl hl (by decide) rfl (fun ls hl => ?_)
  refine lv_iconst (v := nI 1) hx hb dX0_versionsOf_2 rfl ?_
  refine lv_istore_n (lv' := [(3, .int (nI 1)), (2, .int (nI 0)), (0, .ref (a 0)), (1, .int (nI sg))]) hx hb dX0_versionsOf_3 rfl hl (by decide) rfl (fun ls hl => ?_)
  have L4_1 : ∀ (fuel : Nat) (k : Nat), (99 - k) < fuel → k ≤ 99 → ∀ (locs : List Loc), va_S (fun _ => False) H H locs → ∀ (ls : Array Slot), lv_has ls 4 [(3, .int (nI (k + 1))), (2, .int (nI (cnt (vsS σ nw sg) k))), (0, .ref (a 0)), (1, .int (nI sg))] → W p l e ({ frames := 2, cells := 0, slots := 0, locals := 45 } : Room) s m args below meth c H locs 0 0 Q (F0 m 4 ls []) := by
    intro fuel
    induction fuel with
    | zero =>
      intro k hfuel
      exact absurd hfuel (Nat.not_lt_zero _)
    | succ fuel ih4 =>
      intro k hfuel4 hk locs hS ls hl
      refine lv_iload_n hx hb dX0_versionsOf_4 rfl (lv_at hl 0 rfl) ?_
      refine lv_bipush (v := nI 99) hx hb dX0_versionsOf_5 rfl ?_
      refine li_gt (tgt := 28) hx hb dX0_versionsOf_7 (by decide) (by omega) (by omega) (fun c2 => ?_) (fun c2 => ?_)
      · skip
        refine lv_iload_n hx hb dX0_versionsOf_28 rfl (lv_at hl 1 rfl) ?_
        refine li_topi (show nI (cnt (vsS σ nw sg) k) = nI (vs σ nw sg) from by rw [show k = 99 by omega]; rfl) ?_
        exact hEnd 29 ls locs dX0_versionsOf_29 hS
      · skip
        refine lv_aload_n hx hb dX0_versionsOf_10 rfl (lv_at hl 2 rfl) ?_
        refine lv_iload_n hx hb dX0_versionsOf_11 rfl (lv_at hl 3 rfl) ?_
        refine lv_iload_n hx hb dX0_versionsOf_12 rfl (lv_at hl 0 rfl) ?_
        refine roV (As := [.int (nI sg), .int (nI (k + 1))]) (q0 := 0) (ci := 0) hx hb hml hown hts (c_X0_knowersOfVersion l D cI cZ cL cO a n pl nw ns σ κ H sg (nI (k + 1)) (hB) (by omega)) (cwV 2 hts gX0_versionsOf_X0_knowersOfVersion rfl rfl rfl (by decide +kernel) ⟨by decide, by decide⟩) hK hE hP rfl rfl rfl rfl hl.1 rfl (Nat.le_of_ble_eq_true rfl) hS dX0_versionsOf_13 ⟨Nat.zero_le _, Nat.zero_le _⟩ (fun locs hS => ?_)
        refine li_le0 (tgt := 22) hx hb dX0_versionsOf_16 (by decide) (by first | omega | (have := cnt_le (kvS σ sg (nI (k + 1))) nw; unfold kv; omega)) (fun c3 => ?_) (fun c3 => ?_)
        · skip
          refine lv_iinc (v := nI (k + 1 + 1)) (lv' := [(3, .int (nI (k + 1 + 1))), (2, .int (nI (cnt (vsS σ nw sg) k))), (0, .ref (a 0)), (1, .int (nI sg))]) hx hb dX0_versionsOf_22 hl (k := 0) rfl (nI_inc _ _) (by decide) rfl (fun ls hl => ?_)
          refine lv_goto (tgt := 4) hx hb dX0_versionsOf_25 (by decide) ?_
          have hl9 : lv_has ls 4 [(3, .int (nI (k + 1 + 1))), (2, .int (nI (cnt (vsS σ nw sg) k))), (0, .ref (a 0)), (1, .int (nI sg))] := lv_sub hl [0, 1, 2, 3] rfl
          have hl9 : lv_has ls 4 [(3, .int (nI ((k + 1) + 1))), (2, .int (nI (cnt (vsS σ nw sg) k))), (0, .ref (a 0)), (1, .int (nI sg))] := lv_re hl9 0 rfl (show nI (k + 1 + 1) = nI ((k + 1) + 1) from by simp [c2, c3])
          have hl9 : lv_has ls 4 [(3, .int (nI ((k + 1) + 1))), (2, .int (nI (cnt (vsS σ nw sg) (k + 1)))), (0, .ref (a 0)), (1, .int (nI sg))] := lv_re hl9 1 rfl (show nI (cnt (vsS σ nw sg) k) = nI (cnt (vsS σ nw sg) (k + 1)) from by first | exact cnt_t (by simp [vsS, c2, c3]) | exact cnt_f (by simp [vsS, c2, c3]))
          exact ih4 (k + 1) (by omega) (by omega) locs hS ls hl9
        · skip
          refine lv_iinc (v := nI ((cnt (vsS σ nw sg) k) + 1)) (lv' := [(2, .int (nI ((cnt (vsS σ nw sg) k) + 1))), (3, .int (nI (k + 1))), (0, .ref (a 0)), (1, .int (nI sg))]) hx hb dX0_versionsOf_19 hl (k := 1) rfl (nI_inc _ _) (by decide) rfl (fun ls hl => ?_)
          refine lv_iinc (v := nI (k + 1 + 1)) (lv' := [(3, .int (nI (k + 1 + 1))), (2, .int (nI ((cnt (vsS σ nw sg) k) + 1))), (0, .ref (a 0)), (1, .int (nI sg))]) hx hb dX0_versionsOf_22 hl (k := 1) rfl (nI_inc _ _) (by decide) rfl (fun ls hl => ?_)
          refine lv_goto (tgt := 4) hx hb dX0_versionsOf_25 (by decide) ?_
          have hl9 : lv_has ls 4 [(3, .int (nI (k + 1 + 1))), (2, .int (nI ((cnt (vsS σ nw sg) k) + 1))), (0, .ref (a 0)), (1, .int (nI sg))] := lv_sub hl [0, 1, 2, 3] rfl
          have hl9 : lv_has ls 4 [(3, .int (nI ((k + 1) + 1))), (2, .int (nI ((cnt (vsS σ nw sg) k) + 1))), (0, .ref (a 0)), (1, .int (nI sg))] := lv_re hl9 0 rfl (show nI (k + 1 + 1) = nI ((k + 1) + 1) from by simp [c2, c3])
          have hl9 : lv_has ls 4 [(3, .int (nI ((k + 1) + 1))), (2, .int (nI (cnt (vsS σ nw sg) (k + 1)))), (0, .ref (a 0)), (1, .int (nI sg))] := lv_re hl9 1 rfl (show nI ((cnt (vsS σ nw sg) k) + 1) = nI (cnt (vsS σ nw sg) (k + 1)) from by first | exact cnt_t (by simp [vsS, c2, c3]) | exact cnt_f (by simp [vsS, c2, c3]))
          exact ih4 (k + 1) (by omega) (by omega) locs hS ls hl9
  have hl9 : lv_has ls 4 [(3, .int (nI 1)), (2, .int (nI 0)), (0, .ref (a 0)), (1, .int (nI sg))] := lv_sub hl [0, 1, 2, 3] rfl
  have hl9 : lv_has ls 4 [(3, .int (nI (0 + 1))), (2, .int (nI 0)), (0, .ref (a 0)), (1, .int (nI sg))] := lv_re hl9 0 rfl (show nI 1 = nI (0 + 1) from by simp [])
  have hl9 : lv_has ls 4 [(3, .int (nI (0 + 1))), (2, .int (nI (cnt (vsS σ nw sg) 0))), (0, .ref (a 0)), (1, .int (nI sg))] := lv_re hl9 1 rfl (show nI 0 = nI (cnt (vsS σ nw sg) 0) from rfl)
  exact L4_1 ((99 - 0) + 1) 0 (Nat.lt_succ_self _) (by omega) locs hS ls hl9
set_option maxHeartbeats 4000000 in
set_option maxRecDepth 100000 in
theorem c_X0_commonestVersionOf (l : Launch) (D : va_G) (cI cZ cL cO : ClassId) (a : Nat → Nat) (n pl nw ns : Nat) (σ κ : Nat → Nat → Int32) (H : Heap) (sg : Nat) (hB : n ≤ 10 ∧ pl ≤ 200 ∧ nw ≤ 20 ∧ ns ≤ 6) (hs : sg < 6) : Met l yX0_commonestVersionOf wsX0_commonestVersionOf ({ frames := 2, cells := 0, slots := 0, locals := 45 } : Room) (ro_P D (T4 cI cZ cL cO) (wP cI cZ a n pl nw ns σ κ) H [.ref (a 0), .int (nI sg)]) (ro_Q (nI ((cm σ nw sg 99).1)) H) 0 0 (fun _ => False) := by
  refine ro_of (cc := cX0_commonestVersionOf) (maxL := 6) (by decide) rfl (Nat.le_of_ble_eq_true rfl) rfl ?_
  intro p e s m args below meth c Q ls locs hx hb hml hown hts hK hE hP hl hS hEnd
  have hl : lv_has ls 6 [(0, .ref (a 0)), (1, .int (nI sg))] := hl
  refine lv_iconst (v := nI 0) hx hb dX0_commonestVersionOf_0 rfl ?_
  refine lv_istore_n (lv' := [(2, .int (nI 0)), (0, .ref (a 0)), (1, .int (nI sg))]) hx hb dX0_commonestVersionOf_1 rfl hl (by decide) rfl (fun ls hl => ?_)
  refine lv_iconst (v := nI 0) hx hb dX0_commonestVersionOf_2 rfl ?_
  refine lv_istore_n (lv' := [(3, .int (nI 0)), (2, .int (nI 0)), (0, .ref (a 0)), (1, .int (nI sg))]) hx hb dX0_commonestVersionOf_3 rfl hl (by decide) rfl (fun ls hl => ?_)
  refine lv_iconst (v := nI 1) hx hb dX0_commonestVersionOf_4 rfl ?_
  refine lv_istore (lv' := [(4, .int (nI 1)), (3, .int (nI 0)), (2, .int (nI 0)), (0, .ref (a 0)), (1, .int (nI sg))]) hx hb dX0_commonestVersionOf_5 hl (by decide) rfl (fun ls hl => ?_)
  have L7_1 : ∀ (fuel : Nat) (k : Nat), (99 - k) < fuel → k ≤ 99 → (cm σ nw sg k).2 ≤ 20 → ∀ (locs : List Loc), va_S (fun _ => False) H H locs → ∀ (ls : Array Slot), lv_has ls 6 [(4, .int (nI (k + 1))), (3, .int (nI ((cm σ nw sg k).2))), (2, .int (nI ((cm σ nw sg k).1))), (0, .ref (a 0)), (1, .int (nI sg))] → W p l e ({ frames := 2, cells := 0, slots := 0, locals := 45 } : Room) s m args below meth c H locs 0 0 Q (F0 m 7 ls []) := by
    intro fuel
    induction fuel with
    | zero =>
      intro k hfuel
      exact absurd hfuel (Nat.not_lt_zero _)
    | succ fuel ih7 =>
      intro k hfuel7 hk hc locs hS ls hl
      refine lv_iload hx hb dX0_commonestVersionOf_7 (lv_at hl 0 rfl) ?_
      refine lv_bipush (v := nI 99) hx hb dX0_commonestVersionOf_9 rfl ?_
      refine li_gt (tgt := 41) hx hb dX0_commonestVersionOf_11 (by decide) (by omega) (by omega) (fun c2 => ?_) (fun c2 => ?_)
      · skip
        refine lv_iload_n hx hb dX0_commonestVersionOf_41 rfl (lv_at hl 2 rfl) ?_
        refine li_topi (show nI ((cm σ nw sg k).1) = nI ((cm σ nw sg 99).1) from by rw [show k = 99 by omega]) ?_
        exact hEnd 42 ls locs dX0_commonestVersionOf_42 hS
      · skip
        refine lv_aload_n hx hb dX0_commonestVersionOf_14 rfl (lv_at hl 3 rfl) ?_
        refine lv_iload_n hx hb dX0_commonestVersionOf_15 rfl (lv_at hl 4 rfl) ?_
        refine lv_iload hx hb dX0_commonestVersionOf_16 (lv_at hl 0 rfl) ?_
        refine roV (As := [.int (nI sg), .int (nI (k + 1))]) (q0 := 0) (ci := 0) hx hb hml hown hts (c_X0_knowersOfVersion l D cI cZ cL cO a n pl nw ns σ κ H sg (nI (k + 1)) (hB) (by omega)) (cwV 2 hts gX0_commonestVersionOf_X0_knowersOfVersion rfl rfl rfl (by decide +kernel) ⟨by decide, by decide⟩) hK hE hP rfl rfl rfl rfl hl.1 rfl (Nat.le_of_ble_eq_true rfl) hS dX0_commonestVersionOf_18 ⟨Nat.zero_le _, Nat.zero_le _⟩ (fun locs hS => ?_)
        refine lv_istore (lv' := [(5, .int (nI (kv σ nw sg (nI (k + 1))))), (4, .int (nI (k + 1))), (3, .int (nI ((cm σ nw sg k).2))), (2, .int (nI ((cm σ nw sg k).1))), (0, .ref (a 0)), (1, .int (nI sg))]) hx hb dX0_commonestVersionOf_21 hl (by decide) rfl (fun ls hl => ?_)
        refine lv_iload hx hb dX0_commonestVersionOf_23 (lv_at hl 0 rfl) ?_
        refine lv_iload_n hx hb dX0_commonestVersionOf_25 rfl (lv_at hl 2 rfl) ?_
        refine li_le (tgt := 35) hx hb dX0_commonestVersionOf_26 (by decide) (by first | omega | (have := cnt_le (kvS σ sg (nI (k + 1))) nw; unfold kv; omega)) (by first | omega | (have := cnt_le (kvS σ sg (nI (k + 1))) nw; unfold kv; omega)) (fun c3 => ?_) (fun c3 => ?_)
        · skip
          refine lv_iinc (v := nI (k + 1 + 1)) (lv' := [(4, .int (nI (k + 1 + 1))), (5, .int (nI (kv σ nw sg (nI (k + 1))))), (3, .int (nI ((cm σ nw sg k).2))), (2, .int (nI ((cm σ nw sg k).1))), (0, .ref (a 0)), (1, .int (nI sg))]) hx hb dX0_commonestVersionOf_35 hl (k := 1) rfl (nI_inc _ _) (by decide) rfl (fun ls hl => ?_)
          refine lv_goto (tgt := 7) hx hb dX0_commonestVersionOf_38 (by decide) ?_
          have hl9 : lv_has ls 6 [(4, .int (nI (k + 1 + 1))), (3, .int (nI ((cm σ nw sg k).2))), (2, .int (nI ((cm σ nw sg k).1))), (0, .ref (a 0)), (1, .int (nI sg))] := lv_sub hl [0, 2, 3, 4, 5] rfl
          have hl9 : lv_has ls 6 [(4, .int (nI ((k + 1) + 1))), (3, .int (nI ((cm σ nw sg k).2))), (2, .int (nI ((cm σ nw sg k).1))), (0, .ref (a 0)), (1, .int (nI sg))] := lv_re hl9 0 rfl (show nI (k + 1 + 1) = nI ((k + 1) + 1) from by simp [c2, c3])
          have hl9 : lv_has ls 6 [(4, .int (nI ((k + 1) + 1))), (3, .int (nI ((cm σ nw sg (k + 1)).2))), (2, .int (nI ((cm σ nw sg k).1))), (0, .ref (a 0)), (1, .int (nI sg))] := lv_re hl9 1 rfl (show nI ((cm σ nw sg k).2) = nI ((cm σ nw sg (k + 1)).2) from by first | (simp only [cm]; rw [if_pos (by omega)]) | (simp only [cm]; rw [if_neg (by omega)]))
          have hl9 : lv_has ls 6 [(4, .int (nI ((k + 1) + 1))), (3, .int (nI ((cm σ nw sg (k + 1)).2))), (2, .int (nI ((cm σ nw sg (k + 1)).1))), (0, .ref (a 0)), (1, .int (nI sg))] := lv_re hl9 2 rfl (show nI ((cm σ nw sg k).1) = nI ((cm σ nw sg (k + 1)).1) from by first | (simp only [cm]; rw [if_pos (by omega)]) | (simp only [cm]; rw [if_neg (by omega)]))
          exact ih7 (k + 1) (by omega) (by omega) (by have h8 : kv σ nw sg (nI (k + 1)) ≤ nw := cnt_le _ _; simp only [cm]; split <;> omega) locs hS ls hl9
        · skip
          refine lv_iload hx hb dX0_commonestVersionOf_29 (lv_at hl 0 rfl) ?_
          refine lv_istore_n (lv' := [(3, .int (nI (kv σ nw sg (nI (k + 1))))), (5, .int (nI (kv σ nw sg (nI (k + 1))))), (4, .int (nI (k + 1))), (2, .int (nI ((cm σ nw sg k).1))), (0, .ref (a 0)), (1, .int (nI sg))]) hx hb dX0_commonestVersionOf_31 rfl hl (by decide) rfl (fun ls hl => ?_)
          refine lv_iload hx hb dX0_commonestVersionOf_32 (lv_at hl 2 rfl) ?_
          refine lv_istore_n (lv' := [(2, .int (nI (k + 1))), (3, .int (nI (kv σ nw sg (nI (k + 1))))), (5, .int (nI (kv σ nw sg (nI (k + 1))))), (4, .int (nI (k + 1))), (0, .ref (a 0)), (1, .int (nI sg))]) hx hb dX0_commonestVersionOf_34 rfl hl (by decide) rfl (fun ls hl => ?_)
          refine lv_iinc (v := nI (k + 1 + 1)) (lv' := [(4, .int (nI (k + 1 + 1))), (2, .int (nI (k + 1))), (3, .int (nI (kv σ nw sg (nI (k + 1))))), (5, .int (nI (kv σ nw sg (nI (k + 1))))), (0, .ref (a 0)), (1, .int (nI sg))]) hx hb dX0_commonestVersionOf_35 hl (k := 3) rfl (nI_inc _ _) (by decide) rfl (fun ls hl => ?_)
          refine lv_goto (tgt := 7) hx hb dX0_commonestVersionOf_38 (by decide) ?_
          have hl9 : lv_has ls 6 [(4, .int (nI (k + 1 + 1))), (3, .int (nI (kv σ nw sg (nI (k + 1))))), (2, .int (nI (k + 1))), (0, .ref (a 0)), (1, .int (nI sg))] := lv_sub hl [0, 2, 1, 4, 5] rfl
          have hl9 : lv_has ls 6 [(4, .int (nI ((k + 1) + 1))), (3, .int (nI (kv σ nw sg (nI (k + 1))))), (2, .int (nI (k + 1))), (0, .ref (a 0)), (1, .int (nI sg))] := lv_re hl9 0 rfl (show nI (k + 1 + 1) = nI ((k + 1) + 1) from by simp [c2, c3])
          have hl9 : lv_has ls 6 [(4, .int (nI ((k + 1) + 1))), (3, .int (nI ((cm σ nw sg (k + 1)).2))), (2, .int (nI (k + 1))), (0, .ref (a 0)), (1, .int (nI sg))] := lv_re hl9 1 rfl (show nI (kv σ nw sg (nI (k + 1))) = nI ((cm σ nw sg (k + 1)).2) from by first | (simp only [cm]; rw [if_pos (by omega)]) | (simp only [cm]; rw [if_neg (by omega)]))
          have hl9 : lv_has ls 6 [(4, .int (nI ((k + 1) + 1))), (3, .int (nI ((cm σ nw sg (k + 1)).2))), (2, .int (nI ((cm σ nw sg (k + 1)).1))), (0, .ref (a 0)), (1, .int (nI sg))] := lv_re hl9 2 rfl (show nI (k + 1) = nI ((cm σ nw sg (k + 1)).1) from by first | (simp only [cm]; rw [if_pos (by omega)]) | (simp only [cm]; rw [if_neg (by omega)]))
          exact ih7 (k + 1) (by omega) (by omega) (by have h8 : kv σ nw sg (nI (k + 1)) ≤ nw := cnt_le _ _; simp only [cm]; split <;> omega) locs hS ls hl9
  have hl9 : lv_has ls 6 [(4, .int (nI 1)), (3, .int (nI 0)), (2, .int (nI 0)), (0, .ref (a 0)), (1, .int (nI sg))] := lv_sub hl [0, 1, 2, 3, 4] rfl
  have hl9 : lv_has ls 6 [(4, .int (nI (0 + 1))), (3, .int (nI 0)), (2, .int (nI 0)), (0, .ref (a 0)), (1, .int (nI sg))] := lv_re hl9 0 rfl (show nI 1 = nI (0 + 1) from by simp [])
  have hl9 : lv_has ls 6 [(4, .int (nI (0 + 1))), (3, .int (nI ((cm σ nw sg 0).2))), (2, .int (nI 0)), (0, .ref (a 0)), (1, .int (nI sg))] := lv_re hl9 1 rfl (show nI 0 = nI ((cm σ nw sg 0).2) from rfl)
  have hl9 : lv_has ls 6 [(4, .int (nI (0 + 1))), (3, .int (nI ((cm σ nw sg 0).2))), (2, .int (nI ((cm σ nw sg 0).1))), (0, .ref (a 0)), (1, .int (nI sg))] := lv_re hl9 2 rfl (show nI 0 = nI ((cm σ nw sg 0).1) from rfl)
  exact L7_1 ((99 - 0) + 1) 0 (Nat.lt_succ_self _) (by omega) (by exact Nat.zero_le _) locs hS ls hl9
set_option maxHeartbeats 4000000 in
set_option maxRecDepth 100000 in
theorem c_X0_letsThrough (l : Launch) (D : va_G) (cI cZ cL cO : ClassId) (a : Nat → Nat) (n pl nw ns : Nat) (σ κ : Nat → Nat → Int32) (H : Heap) (sg : Nat) (hB : n ≤ 10 ∧ pl ≤ 200 ∧ nw ≤ 20 ∧ ns ≤ 6) (hs : sg < 10) : Met l yX0_letsThrough wsX0_letsThrough ({ frames := 0, cells := 0, slots := 0, locals := 0 } : Room) (ro_P D (T4 cI cZ cL cO) (wP cI cZ a n pl nw ns σ κ) H [.ref (a 0), .int (nI sg)]) (ro_Q (lt_ σ sg 2) H) 0 0 (fun _ => False) := by
  refine ro_of (cc := cX0_letsThrough) (maxL := 4) (by decide) rfl (Nat.le_of_ble_eq_true rfl) rfl ?_
  intro p e s m args below meth c Q ls locs hx hb hml hown hts hK hE hP hl hS hEnd
  have hl : lv_has ls 4 [(0, .ref (a 0)), (1, .int (nI sg))] := hl
  have hX0 : ∀ w ∈ wsX00, w.before args s = true := fun w h => hts w (List.mem_cons_of_mem _ (List.mem_append_left _ (List.mem_append_right _ (h))))
  have hX1 : ∀ w ∈ wsX10, w.before args s = true := fun w h => hts w (List.mem_cons_of_mem _ (List.mem_append_right _ (h)))
  have f58 : (Cond.fieldLink RX0 58 "LanternWalk$Parade" "setting" "LLanternWalk$Setting;").before args s = true := hts _ (List.mem_of_getElem? (i := 1) rfl)
  have f110 : (Cond.fieldLink RX0 110 "LanternWalk$Setting" "lets" "[I").before args s = true := hts _ (List.mem_of_getElem? (i := 2) rfl)
  have f9 : (Cond.fieldLink RX0 9 "LanternWalk$Parade" "corner" "[I").before args s = true := hts _ (List.mem_of_getElem? (i := 3) rfl)
  refine lv_aload_n hx hb dX0_letsThrough_0 rfl (lv_at hl 0 rfl) ?_
  refine li_gf0 hx hb hX0 hown hK hP 0 rfl 0 (by decide) f58 rfl dX0_letsThrough_1 ?_
  refine li_gf1 hx hb hX1 hown hK hP 16 rfl 3 (by decide) f110 rfl dX0_letsThrough_4 ?_
  refine lv_iload_n hx hb dX0_letsThrough_7 rfl (lv_at hl 1 rfl) ?_
  refine li_ild hx hb hK hP 18 0 rfl rfl (by omega) (by decide) dX0_letsThrough_8 ?_
  refine lv_istore_n (lv' := [(2, .int (σ 1 sg)), (0, .ref (a 0)), (1, .int (nI sg))]) hx hb dX0_letsThrough_9 rfl hl (by decide) rfl (fun ls hl => ?_)
  refine lv_iconst (v := nI 0) hx hb dX0_letsThrough_10 rfl ?_
  refine lv_istore_n (lv' := [(3, .int (nI 0)), (2, .int (σ 1 sg)), (0, .ref (a 0)), (1, .int (nI sg))]) hx hb dX0_letsThrough_11 rfl hl (by decide) rfl (fun ls hl => ?_)
  have L12_1 : ∀ (fuel : Nat) (k : Nat), (2 - k) < fuel → k ≤ 2 → ∀ (locs : List Loc), va_S (fun _ => False) H H locs → ∀ (ls : Array Slot), lv_has ls 4 [(3, .int (nI k)), (2, .int (lt_ σ sg k)), (0, .ref (a 0)), (1, .int (nI sg))] → W p l e ({ frames := 0, cells := 0, slots := 0, locals := 0 } : Room) s m args below meth c H locs 0 0 Q (F0 m 12 ls []) := by
    intro fuel
    induction fuel with
    | zero =>
      intro k hfuel
      exact absurd hfuel (Nat.not_lt_zero _)
    | succ fuel ih12 =>
      intro k hfuel12 hk locs hS ls hl
      refine lv_iload_n hx hb dX0_letsThrough_12 rfl (lv_at hl 0 rfl) ?_
      refine lv_iconst (v := nI 2) hx hb dX0_letsThrough_13 rfl ?_
      refine li_ge (tgt := 36) hx hb dX0_letsThrough_14 (by decide) (by omega) (by omega) (fun c2 => ?_) (fun c2 => ?_)
      · skip
        refine lv_iload_n hx hb dX0_letsThrough_36 rfl (lv_at hl 1 rfl) ?_
        refine li_topi (show lt_ σ sg k = lt_ σ sg 2 from by rw [show k = 2 by omega]) ?_
        exact hEnd 37 ls locs dX0_letsThrough_37 hS
      · skip
        refine lv_aload_n hx hb dX0_letsThrough_17 rfl (lv_at hl 2 rfl) ?_
        refine li_gf0 hx hb hX0 hown hK hP 0 rfl 2 (by decide) f9 rfl dX0_letsThrough_18 ?_
        refine lv_iload_n hx hb dX0_letsThrough_21 rfl (lv_at hl 0 rfl) ?_
        refine li_ild hx hb hK hP 1 0 rfl rfl (by omega) (by decide) dX0_letsThrough_22 ?_
        refine lv_iload_n hx hb dX0_letsThrough_23 rfl (lv_at hl 3 rfl) ?_
        refine lv_icmp_ne (tgt := 30) hx hb dX0_letsThrough_24 (by decide) (fun c3 => ?_) (fun c3 => ?_)
        · skip
          refine lv_iinc (v := nI (k + 1)) (lv' := [(3, .int (nI (k + 1))), (2, .int (lt_ σ sg k)), (0, .ref (a 0)), (1, .int (nI sg))]) hx hb dX0_letsThrough_30 hl (k := 0) rfl (nI_inc _ _) (by decide) rfl (fun ls hl => ?_)
          refine lv_goto (tgt := 12) hx hb dX0_letsThrough_33 (by decide) ?_
          have hl9 : lv_has ls 4 [(3, .int (nI (k + 1))), (2, .int (lt_ σ sg k)), (0, .ref (a 0)), (1, .int (nI sg))] := lv_sub hl [0, 1, 2, 3] rfl
          have hl9 : lv_has ls 4 [(3, .int (nI (k + 1))), (2, .int (lt_ σ sg (k + 1))), (0, .ref (a 0)), (1, .int (nI sg))] := lv_re hl9 1 rfl (show lt_ σ sg k = lt_ σ sg (k + 1) from by simp [lt_, c2, c3])
          exact ih12 (k + 1) (by omega) (by omega) locs hS ls hl9
        · skip
          refine lv_iinc (v := (lt_ σ sg k) + 1) (lv' := [(2, .int ((lt_ σ sg k) + 1)), (3, .int (nI k)), (0, .ref (a 0)), (1, .int (nI sg))]) hx hb dX0_letsThrough_27 hl (k := 1) rfl (rfl) (by decide) rfl (fun ls hl => ?_)
          refine lv_iinc (v := nI (k + 1)) (lv' := [(3, .int (nI (k + 1))), (2, .int ((lt_ σ sg k) + 1)), (0, .ref (a 0)), (1, .int (nI sg))]) hx hb dX0_letsThrough_30 hl (k := 1) rfl (nI_inc _ _) (by decide) rfl (fun ls hl => ?_)
          refine lv_goto (tgt := 12) hx hb dX0_letsThrough_33 (by decide) ?_
          have hl9 : lv_has ls 4 [(3, .int (nI (k + 1))), (2, .int ((lt_ σ sg k) + 1)), (0, .ref (a 0)), (1, .int (nI sg))] := lv_sub hl [0, 1, 2, 3] rfl
          have hl9 : lv_has ls 4 [(3, .int (nI (k + 1))), (2, .int (lt_ σ sg (k + 1))), (0, .ref (a 0)), (1, .int (nI sg))] := lv_re hl9 1 rfl (show (lt_ σ sg k) + 1 = lt_ σ sg (k + 1) from by simp [lt_, c2, c3])
          exact ih12 (k + 1) (by omega) (by omega) locs hS ls hl9
  have hl9 : lv_has ls 4 [(3, .int (nI 0)), (2, .int (σ 1 sg)), (0, .ref (a 0)), (1, .int (nI sg))] := lv_sub hl [0, 1, 2, 3] rfl
  have hl9 : lv_has ls 4 [(3, .int (nI 0)), (2, .int (lt_ σ sg 0)), (0, .ref (a 0)), (1, .int (nI sg))] := lv_re hl9 1 rfl (show σ 1 sg = lt_ σ sg 0 from rfl)
  exact L12_1 ((2 - 0) + 1) 0 (Nat.lt_succ_self _) (by omega) locs hS ls hl9
set_option maxHeartbeats 4000000 in
set_option maxRecDepth 100000 in
theorem c_X0_walkersOn (l : Launch) (D : va_G) (cI cZ cL cO : ClassId) (a : Nat → Nat) (n pl nw ns : Nat) (σ κ : Nat → Nat → Int32) (H : Heap) (sg : Nat) (hB : n ≤ 10 ∧ pl ≤ 200 ∧ nw ≤ 20 ∧ ns ≤ 6) (hs : sg < 10) : Met l yX0_walkersOn wsX0_walkersOn ({ frames := 0, cells := 0, slots := 0, locals := 0 } : Room) (ro_P D (T4 cI cZ cL cO) (wP cI cZ a n pl nw ns σ κ) H [.ref (a 0), .int (nI sg)]) (ro_Q (nI (on σ nw sg)) H) 0 0 (fun _ => False) := by
  refine ro_of (cc := cX0_walkersOn) (maxL := 6) (by decide) rfl (Nat.le_of_ble_eq_true rfl) rfl ?_
  intro p e s m args below meth c Q ls locs hx hb hml hown hts hK hE hP hl hS hEnd
  have hl : lv_has ls 6 [(0, .ref (a 0)), (1, .int (nI sg))] := hl
  have hX0 : ∀ w ∈ wsX00, w.before args s = true := fun w h => hts w (List.mem_cons_of_mem _ (List.mem_append_left _ (List.mem_append_right _ (h))))
  have hX1 : ∀ w ∈ wsX10, w.before args s = true := fun w h => hts w (List.mem_cons_of_mem _ (List.mem_append_right _ (h)))
  have f58 : (Cond.fieldLink RX0 58 "LanternWalk$Parade" "setting" "LLanternWalk$Setting;").before args s = true := hts _ (List.mem_of_getElem? (i := 1) rfl)
  have f113 : (Cond.fieldLink RX0 113 "LanternWalk$Setting" "first" "[I").before args s = true := hts _ (List.mem_of_getElem? (i := 2) rfl)
  have f116 : (Cond.fieldLink RX0 116 "LanternWalk$Setting" "length" "[I").before args s = true := hts _ (List.mem_of_getElem? (i := 3) rfl)
  have f92 : (Cond.fieldLink RX0 92 "LanternWalk$Setting" "walkers" "I").before args s = true := hts _ (List.mem_of_getElem? (i := 4) rfl)
  have f28 : (Cond.fieldLink RX0 28 "LanternWalk$Parade" "stage" "[I").before args s = true := hts _ (List.mem_of_getElem? (i := 5) rfl)
  have f31 : (Cond.fieldLink RX0 31 "LanternWalk$Parade" "place" "[I").before args s = true := hts _ (List.mem_of_getElem? (i := 6) rfl)
  refine lv_aload_n hx hb dX0_walkersOn_0 rfl (lv_at hl 0 rfl) ?_
  refine li_gf0 hx hb hX0 hown hK hP 0 rfl 0 (by decide) f58 rfl dX0_walkersOn_1 ?_
  refine li_gf1 hx hb hX1 hown hK hP 16 rfl 4 (by decide) f113 rfl dX0_walkersOn_4 ?_
  refine lv_iload_n hx hb dX0_walkersOn_7 rfl (lv_at hl 1 rfl) ?_
  refine li_ild hx hb hK hP 19 0 rfl rfl (by omega) (by decide) dX0_walkersOn_8 ?_
  refine lv_istore_n (lv' := [(2, .int (σ 2 sg)), (0, .ref (a 0)), (1, .int (nI sg))]) hx hb dX0_walkersOn_9 rfl hl (by decide) rfl (fun ls hl => ?_)
  refine lv_iload_n hx hb dX0_walkersOn_10 rfl (lv_at hl 0 rfl) ?_
  refine lv_aload_n hx hb dX0_walkersOn_11 rfl (lv_at hl 1 rfl) ?_
  refine li_gf0 hx hb hX0 hown hK hP 0 rfl 0 (by decide) f58 rfl dX0_walkersOn_12 ?_
  refine li_gf1 hx hb hX1 hown hK hP 16 rfl 2 (by decide) f116 rfl dX0_walkersOn_15 ?_
  refine lv_iload_n hx hb dX0_walkersOn_18 rfl (lv_at hl 2 rfl) ?_
  refine li_ild hx hb hK hP 17 0 rfl rfl (by omega) (by decide) dX0_walkersOn_19 ?_
  refine lv_iadd hx hb dX0_walkersOn_20 ?_
  refine lv_istore_n (lv' := [(3, .int ((σ 2 sg) + (σ 0 sg))), (2, .int (σ 2 sg)), (0, .ref (a 0)), (1, .int (nI sg))]) hx hb dX0_walkersOn_21 rfl hl (by decide) rfl (fun ls hl => ?_)
  refine lv_iconst (v := nI 0) hx hb dX0_walkersOn_22 rfl ?_
  refine lv_istore (lv' := [(4, .int (nI 0)), (3, .int ((σ 2 sg) + (σ 0 sg))), (2, .int (σ 2 sg)), (0, .ref (a 0)), (1, .int (nI sg))]) hx hb dX0_walkersOn_23 hl (by decide) rfl (fun ls hl => ?_)
  refine lv_iconst (v := nI 0) hx hb dX0_walkersOn_25 rfl ?_
  refine lv_istore (lv' := [(5, .int (nI 0)), (4, .int (nI 0)), (3, .int ((σ 2 sg) + (σ 0 sg))), (2, .int (σ 2 sg)), (0, .ref (a 0)), (1, .int (nI sg))]) hx hb dX0_walkersOn_26 hl (by decide) rfl (fun ls hl => ?_)
  have L28_1 : ∀ (fuel : Nat) (k : Nat), (nw - k) < fuel → k ≤ nw → ∀ (locs : List Loc), va_S (fun _ => False) H H locs → ∀ (ls : Array Slot), lv_has ls 6 [(5, .int (nI k)), (4, .int (nI (cnt (onS σ sg) k))), (3, .int ((σ 2 sg) + (σ 0 sg))), (2, .int (σ 2 sg)), (0, .ref (a 0)), (1, .int (nI sg))] → W p l e ({ frames := 0, cells := 0, slots := 0, locals := 0 } : Room) s m args below meth c H locs 0 0 Q (F0 m 28 ls []) := by
    intro fuel
    induction fuel with
    | zero =>
      intro k hfuel
      exact absurd hfuel (Nat.not_lt_zero _)
    | succ fuel ih28 =>
      intro k hfuel28 hk locs hS ls hl
      refine lv_iload hx hb dX0_walkersOn_28 (lv_at hl 0 rfl) ?_
      refine lv_aload_n hx hb dX0_walkersOn_30 rfl (lv_at hl 4 rfl) ?_
      refine li_gf0 hx hb hX0 hown hK hP 0 rfl 0 (by decide) f58 rfl dX0_walkersOn_31 ?_
      refine li_gf1 hx hb hX1 hown hK hP 16 rfl 6 (by decide) f92 rfl dX0_walkersOn_34 ?_
      refine li_ge (tgt := 82) hx hb dX0_walkersOn_37 (by decide) (by omega) (by omega) (fun c2 => ?_) (fun c2 => ?_)
      · skip
        refine lv_iload hx hb dX0_walkersOn_82 (lv_at hl 1 rfl) ?_
        refine li_topi (show nI (cnt (onS σ sg) k) = nI (on σ nw sg) from by rw [show k = nw by omega]; rfl) ?_
        exact hEnd 84 ls locs dX0_walkersOn_84 hS
      · skip
        refine lv_aload_n hx hb dX0_walkersOn_40 rfl (lv_at hl 4 rfl) ?_
        refine li_gf0 hx hb hX0 hown hK hP 0 rfl 7 (by decide) f28 rfl dX0_walkersOn_41 ?_
        refine lv_iload hx hb dX0_walkersOn_44 (lv_at hl 0 rfl) ?_
        refine li_ild hx hb hK hP 6 0 rfl rfl (by omega) (by decide) dX0_walkersOn_46 ?_
        refine lv_iconst (v := nI 1) hx hb dX0_walkersOn_47 rfl ?_
        refine lv_icmp_ne (tgt := 76) hx hb dX0_walkersOn_48 (by decide) (fun c3 => ?_) (fun c3 => ?_)
        · skip
          refine lv_iinc (v := nI (k + 1)) (lv' := [(5, .int (nI (k + 1))), (4, .int (nI (cnt (onS σ sg) k))), (3, .int ((σ 2 sg) + (σ 0 sg))), (2, .int (σ 2 sg)), (0, .ref (a 0)), (1, .int (nI sg))]) hx hb dX0_walkersOn_76 hl (k := 0) rfl (nI_inc _ _) (by decide) rfl (fun ls hl => ?_)
          refine lv_goto (tgt := 28) hx hb dX0_walkersOn_79 (by decide) ?_
          have hl9 : lv_has ls 6 [(5, .int (nI (k + 1))), (4, .int (nI (cnt (onS σ sg) k))), (3, .int ((σ 2 sg) + (σ 0 sg))), (2, .int (σ 2 sg)), (0, .ref (a 0)), (1, .int (nI sg))] := lv_sub hl [0, 1, 2, 3, 4, 5] rfl
          have hl9 : lv_has ls 6 [(5, .int (nI (k + 1))), (4, .int (nI (cnt (onS σ sg) (k + 1)))), (3, .int ((σ 2 sg) + (σ 0 sg))), (2, .int (σ 2 sg)), (0, .ref (a 0)), (1, .int (nI sg))] := lv_re hl9 1 rfl (show nI (cnt (onS σ sg) k) = nI (cnt (onS σ sg) (k + 1)) from by first | exact cnt_t (by simp [onS, c2, c3]) | exact cnt_f (by simp [onS, c2, c3]))
          exact ih28 (k + 1) (by omega) (by omega) locs hS ls hl9
        · skip
          refine lv_aload_n hx hb dX0_walkersOn_51 rfl (lv_at hl 4 rfl) ?_
          refine li_gf0 hx hb hX0 hown hK hP 0 rfl 8 (by decide) f31 rfl dX0_walkersOn_52 ?_
          refine lv_iload hx hb dX0_walkersOn_55 (lv_at hl 0 rfl) ?_
          refine li_ild hx hb hK hP 7 0 rfl rfl (by omega) (by decide) dX0_walkersOn_57 ?_
          refine lv_iload_n hx hb dX0_walkersOn_58 rfl (lv_at hl 3 rfl) ?_
          refine lv_icmp_lt (tgt := 76) hx hb dX0_walkersOn_59 (by decide) (fun c4 => ?_) (fun c4 => ?_)
          · skip
            refine lv_iinc (v := nI (k + 1)) (lv' := [(5, .int (nI (k + 1))), (4, .int (nI (cnt (onS σ sg) k))), (3, .int ((σ 2 sg) + (σ 0 sg))), (2, .int (σ 2 sg)), (0, .ref (a 0)), (1, .int (nI sg))]) hx hb dX0_walkersOn_76 hl (k := 0) rfl (nI_inc _ _) (by decide) rfl (fun ls hl => ?_)
            refine lv_goto (tgt := 28) hx hb dX0_walkersOn_79 (by decide) ?_
            have hl9 : lv_has ls 6 [(5, .int (nI (k + 1))), (4, .int (nI (cnt (onS σ sg) k))), (3, .int ((σ 2 sg) + (σ 0 sg))), (2, .int (σ 2 sg)), (0, .ref (a 0)), (1, .int (nI sg))] := lv_sub hl [0, 1, 2, 3, 4, 5] rfl
            have hl9 : lv_has ls 6 [(5, .int (nI (k + 1))), (4, .int (nI (cnt (onS σ sg) (k + 1)))), (3, .int ((σ 2 sg) + (σ 0 sg))), (2, .int (σ 2 sg)), (0, .ref (a 0)), (1, .int (nI sg))] := lv_re hl9 1 rfl (show nI (cnt (onS σ sg) k) = nI (cnt (onS σ sg) (k + 1)) from by first | exact cnt_t (by simp [onS, c2, c3, c4]) | exact cnt_f (by simp [onS, c2, c3, c4]))
            exact ih28 (k + 1) (by omega) (by omega) locs hS ls hl9
          · skip
            refine lv_aload_n hx hb dX0_walkersOn_62 rfl (lv_at hl 4 rfl) ?_
            refine li_gf0 hx hb hX0 hown hK hP 0 rfl 8 (by decide) f31 rfl dX0_walkersOn_63 ?_
            refine lv_iload hx hb dX0_walkersOn_66 (lv_at hl 0 rfl) ?_
            refine li_ild hx hb hK hP 7 0 rfl rfl (by omega) (by decide) dX0_walkersOn_68 ?_
            refine lv_iload_n hx hb dX0_walkersOn_69 rfl (lv_at hl 2 rfl) ?_
            refine lv_icmp_ge (tgt := 76) hx hb dX0_walkersOn_70 (by decide) (fun c5 => ?_) (fun c5 => ?_)
            · skip
              refine lv_iinc (v := nI (k + 1)) (lv' := [(5, .int (nI (k + 1))), (4, .int (nI (cnt (onS σ sg) k))), (3, .int ((σ 2 sg) + (σ 0 sg))), (2, .int (σ 2 sg)), (0, .ref (a 0)), (1, .int (nI sg))]) hx hb dX0_walkersOn_76 hl (k := 0) rfl (nI_inc _ _) (by decide) rfl (fun ls hl => ?_)
              refine lv_goto (tgt := 28) hx hb dX0_walkersOn_79 (by decide) ?_
              have hl9 : lv_has ls 6 [(5, .int (nI (k + 1))), (4, .int (nI (cnt (onS σ sg) k))), (3, .int ((σ 2 sg) + (σ 0 sg))), (2, .int (σ 2 sg)), (0, .ref (a 0)), (1, .int (nI sg))] := lv_sub hl [0, 1, 2, 3, 4, 5] rfl
              have hl9 : lv_has ls 6 [(5, .int (nI (k + 1))), (4, .int (nI (cnt (onS σ sg) (k + 1)))), (3, .int ((σ 2 sg) + (σ 0 sg))), (2, .int (σ 2 sg)), (0, .ref (a 0)), (1, .int (nI sg))] := lv_re hl9 1 rfl (show nI (cnt (onS σ sg) k) = nI (cnt (onS σ sg) (k + 1)) from by first | exact cnt_t (by simp [onS, c2, c3, c4, c5]) | exact cnt_f (by simp [onS, c2, c3, c4, c5]))
              exact ih28 (k + 1) (by omega) (by omega) locs hS ls hl9
            · skip
              refine lv_iinc (v := nI ((cnt (onS σ sg) k) + 1)) (lv' := [(4, .int (nI ((cnt (onS σ sg) k) + 1))), (5, .int (nI k)), (3, .int ((σ 2 sg) + (σ 0 sg))), (2, .int (σ 2 sg)), (0, .ref (a 0)), (1, .int (nI sg))]) hx hb dX0_walkersOn_73 hl (k := 1) rfl (nI_inc _ _) (by decide) rfl (fun ls hl => ?_)
              refine lv_iinc (v := nI (k + 1)) (lv' := [(5, .int (nI (k + 1))), (4, .int (nI ((cnt (onS σ sg) k) + 1))), (3, .int ((σ 2 sg) + (σ 0 sg))), (2, .int (σ 2 sg)), (0, .ref (a 0)), (1, .int (nI sg))]) hx hb dX0_walkersOn_76 hl (k := 1) rfl (nI_inc _ _) (by decide) rfl (fun ls hl => ?_)
              refine lv_goto (tgt := 28) hx hb dX0_walkersOn_79 (by decide) ?_
              have hl9 : lv_has ls 6 [(5, .int (nI (k + 1))), (4, .int (nI ((cnt (onS σ sg) k) + 1))), (3, .int ((σ 2 sg) + (σ 0 sg))), (2, .int (σ 2 sg)), (0, .ref (a 0)), (1, .int (nI sg))] := lv_sub hl [0, 1, 2, 3, 4, 5] rfl
              have hl9 : lv_has ls 6 [(5, .int (nI (k + 1))), (4, .int (nI (cnt (onS σ sg) (k + 1)))), (3, .int ((σ 2 sg) + (σ 0 sg))), (2, .int (σ 2 sg)), (0, .ref (a 0)), (1, .int (nI sg))] := lv_re hl9 1 rfl (show nI ((cnt (onS σ sg) k) + 1) = nI (cnt (onS σ sg) (k + 1)) from by first | exact cnt_t (by simp [onS, c2, c3, c4, c5]) | exact cnt_f (by simp [onS, c2, c3, c4, c5]))
              exact ih28 (k + 1) (by omega) (by omega) locs hS ls hl9
  have hl9 : lv_has ls 6 [(5, .int (nI 0)), (4, .int (nI 0)), (3, .int ((σ 2 sg) + (σ 0 sg))), (2, .int (σ 2 sg)), (0, .ref (a 0)), (1, .int (nI sg))] := lv_sub hl [0, 1, 2, 3, 4, 5] rfl
  have hl9 : lv_has ls 6 [(5, .int (nI 0)), (4, .int (nI (cnt (onS σ sg) 0))), (3, .int ((σ 2 sg) + (σ 0 sg))), (2, .int (σ 2 sg)), (0, .ref (a 0)), (1, .int (nI sg))] := lv_re hl9 1 rfl (show nI 0 = nI (cnt (onS σ sg) 0) from rfl)
  exact L28_1 ((nw - 0) + 1) 0 (Nat.lt_succ_self _) (by omega) locs hS ls hl9
set_option maxHeartbeats 4000000 in
set_option maxRecDepth 100000 in
theorem c_X0_walkersAt (l : Launch) (D : va_G) (cI cZ cL cO : ClassId) (a : Nat → Nat) (n pl nw ns : Nat) (σ κ : Nat → Nat → Int32) (H : Heap) (z : Int32) (hB : n ≤ 10 ∧ pl ≤ 200 ∧ nw ≤ 20 ∧ ns ≤ 6) : Met l yX0_walkersAt wsX0_walkersAt ({ frames := 0, cells := 0, slots := 0, locals := 0 } : Room) (ro_P D (T4 cI cZ cL cO) (wP cI cZ a n pl nw ns σ κ) H [.ref (a 0), .int z]) (ro_Q (nI (wa σ nw z)) H) 0 0 (fun _ => False) := by
  refine ro_of (cc := cX0_walkersAt) (maxL := 4) (by decide) rfl (Nat.le_of_ble_eq_true rfl) rfl ?_
  intro p e s m args below meth c Q ls locs hx hb hml hown hts hK hE hP hl hS hEnd
  have hl : lv_has ls 4 [(0, .ref (a 0)), (1, .int z)] := hl
  have hX0 : ∀ w ∈ wsX00, w.before args s = true := fun w h => hts w (List.mem_cons_of_mem _ (List.mem_append_left _ (List.mem_append_right _ (h))))
  have hX1 : ∀ w ∈ wsX10, w.before args s = true := fun w h => hts w (List.mem_cons_of_mem _ (List.mem_append_right _ (h)))
  have f58 : (Cond.fieldLink RX0 58 "LanternWalk$Parade" "setting" "LLanternWalk$Setting;").before args s = true := hts _ (List.mem_of_getElem? (i := 1) rfl)
  have f92 : (Cond.fieldLink RX0 92 "LanternWalk$Setting" "walkers" "I").before args s = true := hts _ (List.mem_of_getElem? (i := 2) rfl)
  have f28 : (Cond.fieldLink RX0 28 "LanternWalk$Parade" "stage" "[I").before args s = true := hts _ (List.mem_of_getElem? (i := 3) rfl)
  have f31 : (Cond.fieldLink RX0 31 "LanternWalk$Parade" "place" "[I").before args s = true := hts _ (List.mem_of_getElem? (i := 4) rfl)
  refine lv_iconst (v := nI 0) hx hb dX0_walkersAt_0 rfl ?_
  refine lv_istore_n (lv' := [(2, .int (nI 0)), (0, .ref (a 0)), (1, .int z)]) hx hb dX0_walkersAt_1 rfl hl (by decide) rfl (fun ls hl => ?_)
  refine lv_iconst (v := nI 0) hx hb dX0_walkersAt_2 rfl ?_
  refine lv_istore_n (lv' := [(3, .int (nI 0)), (2, .int (nI 0)), (0, .ref (a 0)), (1, .int z)]) hx hb dX0_walkersAt_3 rfl hl (by decide) rfl (fun ls hl => ?_)
  have L4_1 : ∀ (fuel : Nat) (k : Nat), (nw - k) < fuel → k ≤ nw → ∀ (locs : List Loc), va_S (fun _ => False) H H locs → ∀ (ls : Array Slot), lv_has ls 4 [(3, .int (nI k)), (2, .int (nI (cnt (waS σ z) k))), (0, .ref (a 0)), (1, .int z)] → W p l e ({ frames := 0, cells := 0, slots := 0, locals := 0 } : Room) s m args below meth c H locs 0 0 Q (F0 m 4 ls []) := by
    intro fuel
    induction fuel with
    | zero =>
      intro k hfuel
      exact absurd hfuel (Nat.not_lt_zero _)
    | succ fuel ih4 =>
      intro k hfuel4 hk locs hS ls hl
      refine lv_iload_n hx hb dX0_walkersAt_4 rfl (lv_at hl 0 rfl) ?_
      refine lv_aload_n hx hb dX0_walkersAt_5 rfl (lv_at hl 2 rfl) ?_
      refine li_gf0 hx hb hX0 hown hK hP 0 rfl 0 (by decide) f58 rfl dX0_walkersAt_6 ?_
      refine li_gf1 hx hb hX1 hown hK hP 16 rfl 6 (by decide) f92 rfl dX0_walkersAt_9 ?_
      refine li_ge (tgt := 44) hx hb dX0_walkersAt_12 (by decide) (by omega) (by omega) (fun c2 => ?_) (fun c2 => ?_)
      · skip
        refine lv_iload_n hx hb dX0_walkersAt_44 rfl (lv_at hl 1 rfl) ?_
        refine li_topi (show nI (cnt (waS σ z) k) = nI (wa σ nw z) from by rw [show k = nw by omega]; rfl) ?_
        exact hEnd 45 ls locs dX0_walkersAt_45 hS
      · skip
        refine lv_aload_n hx hb dX0_walkersAt_15 rfl (lv_at hl 2 rfl) ?_
        refine li_gf0 hx hb hX0 hown hK hP 0 rfl 7 (by decide) f28 rfl dX0_walkersAt_16 ?_
        refine lv_iload_n hx hb dX0_walkersAt_19 rfl (lv_at hl 0 rfl) ?_
        refine li_ild hx hb hK hP 6 0 rfl rfl (by omega) (by decide) dX0_walkersAt_20 ?_
        refine lv_iconst (v := nI 1) hx hb dX0_walkersAt_21 rfl ?_
        refine lv_icmp_ne (tgt := 38) hx hb dX0_walkersAt_22 (by decide) (fun c3 => ?_) (fun c3 => ?_)
        · skip
          refine lv_iinc (v := nI (k + 1)) (lv' := [(3, .int (nI (k + 1))), (2, .int (nI (cnt (waS σ z) k))), (0, .ref (a 0)), (1, .int z)]) hx hb dX0_walkersAt_38 hl (k := 0) rfl (nI_inc _ _) (by decide) rfl (fun ls hl => ?_)
          refine lv_goto (tgt := 4) hx hb dX0_walkersAt_41 (by decide) ?_
          have hl9 : lv_has ls 4 [(3, .int (nI (k + 1))), (2, .int (nI (cnt (waS σ z) k))), (0, .ref (a 0)), (1, .int z)] := lv_sub hl [0, 1, 2, 3] rfl
          have hl9 : lv_has ls 4 [(3, .int (nI (k + 1))), (2, .int (nI (cnt (waS σ z) (k + 1)))), (0, .ref (a 0)), (1, .int z)] := lv_re hl9 1 rfl (show nI (cnt (waS σ z) k) = nI (cnt (waS σ z) (k + 1)) from by first | exact cnt_t (by simp [waS, c2, c3]) | exact cnt_f (by simp [waS, c2, c3]))
          exact ih4 (k + 1) (by omega) (by omega) locs hS ls hl9
        · skip
          refine lv_aload_n hx hb dX0_walkersAt_25 rfl (lv_at hl 2 rfl) ?_
          refine li_gf0 hx hb hX0 hown hK hP 0 rfl 8 (by decide) f31 rfl dX0_walkersAt_26 ?_
          refine lv_iload_n hx hb dX0_walkersAt_29 rfl (lv_at hl 0 rfl) ?_
          refine li_ild hx hb hK hP 7 0 rfl rfl (by omega) (by decide) dX0_walkersAt_30 ?_
          refine lv_iload_n hx hb dX0_walkersAt_31 rfl (lv_at hl 3 rfl) ?_
          refine lv_icmp_ne (tgt := 38) hx hb dX0_walkersAt_32 (by decide) (fun c4 => ?_) (fun c4 => ?_)
          · skip
            refine lv_iinc (v := nI (k + 1)) (lv' := [(3, .int (nI (k + 1))), (2, .int (nI (cnt (waS σ z) k))), (0, .ref (a 0)), (1, .int z)]) hx hb dX0_walkersAt_38 hl (k := 0) rfl (nI_inc _ _) (by decide) rfl (fun ls hl => ?_)
            refine lv_goto (tgt := 4) hx hb dX0_walkersAt_41 (by decide) ?_
            have hl9 : lv_has ls 4 [(3, .int (nI (k + 1))), (2, .int (nI (cnt (waS σ z) k))), (0, .ref (a 0)), (1, .int z)] := lv_sub hl [0, 1, 2, 3] rfl
            have hl9 : lv_has ls 4 [(3, .int (nI (k + 1))), (2, .int (nI (cnt (waS σ z) (k + 1)))), (0, .ref (a 0)), (1, .int z)] := lv_re hl9 1 rfl (show nI (cnt (waS σ z) k) = nI (cnt (waS σ z) (k + 1)) from by first | exact cnt_t (by simp [waS, c2, c3, c4]) | exact cnt_f (by simp [waS, c2, c3, c4]))
            exact ih4 (k + 1) (by omega) (by omega) locs hS ls hl9
          · skip
            refine lv_iinc (v := nI ((cnt (waS σ z) k) + 1)) (lv' := [(2, .int (nI ((cnt (waS σ z) k) + 1))), (3, .int (nI k)), (0, .ref (a 0)), (1, .int z)]) hx hb dX0_walkersAt_35 hl (k := 1) rfl (nI_inc _ _) (by decide) rfl (fun ls hl => ?_)
            refine lv_iinc (v := nI (k + 1)) (lv' := [(3, .int (nI (k + 1))), (2, .int (nI ((cnt (waS σ z) k) + 1))), (0, .ref (a 0)), (1, .int z)]) hx hb dX0_walkersAt_38 hl (k := 1) rfl (nI_inc _ _) (by decide) rfl (fun ls hl => ?_)
            refine lv_goto (tgt := 4) hx hb dX0_walkersAt_41 (by decide) ?_
            have hl9 : lv_has ls 4 [(3, .int (nI (k + 1))), (2, .int (nI ((cnt (waS σ z) k) + 1))), (0, .ref (a 0)), (1, .int z)] := lv_sub hl [0, 1, 2, 3] rfl
            have hl9 : lv_has ls 4 [(3, .int (nI (k + 1))), (2, .int (nI (cnt (waS σ z) (k + 1)))), (0, .ref (a 0)), (1, .int z)] := lv_re hl9 1 rfl (show nI ((cnt (waS σ z) k) + 1) = nI (cnt (waS σ z) (k + 1)) from by first | exact cnt_t (by simp [waS, c2, c3, c4]) | exact cnt_f (by simp [waS, c2, c3, c4]))
            exact ih4 (k + 1) (by omega) (by omega) locs hS ls hl9
  have hl9 : lv_has ls 4 [(3, .int (nI 0)), (2, .int (nI 0)), (0, .ref (a 0)), (1, .int z)] := lv_sub hl [0, 1, 2, 3] rfl
  have hl9 : lv_has ls 4 [(3, .int (nI 0)), (2, .int (nI (cnt (waS σ z) 0))), (0, .ref (a 0)), (1, .int z)] := lv_re hl9 1 rfl (show nI 0 = nI (cnt (waS σ z) 0) from rfl)
  exact L4_1 ((nw - 0) + 1) 0 (Nat.lt_succ_self _) (by omega) locs hS ls hl9
set_option maxHeartbeats 4000000 in
set_option maxRecDepth 100000 in
theorem c_X0_areNeighbours (l : Launch) (D : va_G) (cI cZ cL cO : ClassId) (a : Nat → Nat) (n pl nw ns : Nat) (σ κ : Nat → Nat → Int32) (H : Heap) (i : Nat) (j : Nat) (hB : n ≤ 10 ∧ pl ≤ 200 ∧ nw ≤ 20 ∧ ns ≤ 6) (hi : i < 20) (hj : j < 20) : Met l yX0_areNeighbours wsX0_areNeighbours ({ frames := 0, cells := 0, slots := 0, locals := 0 } : Room) (ro_P D (T4 cI cZ cL cO) (wP cI cZ a n pl nw ns σ κ) H [.ref (a 0), .int (nI i), .int (nI j)]) (ro_Q (zI (nbr σ i j)) H) 0 0 (fun _ => False) := by
  refine ro_of (cc := cX0_areNeighbours) (maxL := 3) (by decide) rfl (Nat.le_of_ble_eq_true rfl) (zI_n _) ?_
  intro p e s m args below meth c Q ls locs hx hb hml hown hts hK hE hP hl hS hEnd
  have hl : lv_has ls 3 [(0, .ref (a 0)), (1, .int (nI i)), (2, .int (nI j))] := hl
  have hX0 : ∀ w ∈ wsX00, w.before args s = true := fun w h => hts w (List.mem_cons_of_mem _ (List.mem_append_right _ (h)))
  have f28 : (Cond.fieldLink RX0 28 "LanternWalk$Parade" "stage" "[I").before args s = true := hts _ (List.mem_of_getElem? (i := 1) rfl)
  have f31 : (Cond.fieldLink RX0 31 "LanternWalk$Parade" "place" "[I").before args s = true := hts _ (List.mem_of_getElem? (i := 2) rfl)
  refine lv_iload_n hx hb dX0_areNeighbours_0 rfl (lv_at hl 1 rfl) ?_
  refine lv_iload_n hx hb dX0_areNeighbours_1 rfl (lv_at hl 2 rfl) ?_
  refine li_eq (tgt := 63) hx hb dX0_areNeighbours_2 (by decide) (by omega) (by omega) (fun c1 => ?_) (fun c1 => ?_)
  · skip
    refine lv_iconst (v := nI 0) hx hb dX0_areNeighbours_63 rfl ?_
    refine li_topi (show nI 0 = zI (nbr σ i j) from by simp [nbr, zI, c1]) ?_
    exact hEnd 64 ls locs dX0_areNeighbours_64 hS
  · skip
    refine lv_aload_n hx hb dX0_areNeighbours_5 rfl (lv_at hl 0 rfl) ?_
    refine li_gf0 hx hb hX0 hown hK hP 0 rfl 7 (by decide) f28 rfl dX0_areNeighbours_6 ?_
    refine lv_iload_n hx hb dX0_areNeighbours_9 rfl (lv_at hl 1 rfl) ?_
    refine li_ild hx hb hK hP 6 0 rfl rfl (by omega) (by decide) dX0_areNeighbours_10 ?_
    refine lv_iconst (v := nI 1) hx hb dX0_areNeighbours_11 rfl ?_
    refine lv_icmp_ne (tgt := 63) hx hb dX0_areNeighbours_12 (by decide) (fun c2 => ?_) (fun c2 => ?_)
    · skip
      refine lv_iconst (v := nI 0) hx hb dX0_areNeighbours_63 rfl ?_
      refine li_topi (show nI 0 = zI (nbr σ i j) from by simp [nbr, zI, c1, c2]) ?_
      exact hEnd 64 ls locs dX0_areNeighbours_64 hS
    · skip
      refine lv_aload_n hx hb dX0_areNeighbours_15 rfl (lv_at hl 0 rfl) ?_
      refine li_gf0 hx hb hX0 hown hK hP 0 rfl 7 (by decide) f28 rfl dX0_areNeighbours_16 ?_
      refine lv_iload_n hx hb dX0_areNeighbours_19 rfl (lv_at hl 2 rfl) ?_
      refine li_ild hx hb hK hP 6 0 rfl rfl (by omega) (by decide) dX0_areNeighbours_20 ?_
      refine lv_iconst (v := nI 1) hx hb dX0_areNeighbours_21 rfl ?_
      refine lv_icmp_ne (tgt := 63) hx hb dX0_areNeighbours_22 (by decide) (fun c3 => ?_) (fun c3 => ?_)
      · skip
        refine lv_iconst (v := nI 0) hx hb dX0_areNeighbours_63 rfl ?_
        refine li_topi (show nI 0 = zI (nbr σ i j) from by simp [nbr, zI, c1, c2, c3]) ?_
        exact hEnd 64 ls locs dX0_areNeighbours_64 hS
      · skip
        refine lv_aload_n hx hb dX0_areNeighbours_25 rfl (lv_at hl 0 rfl) ?_
        refine li_gf0 hx hb hX0 hown hK hP 0 rfl 8 (by decide) f31 rfl dX0_areNeighbours_26 ?_
        refine lv_iload_n hx hb dX0_areNeighbours_29 rfl (lv_at hl 1 rfl) ?_
        refine li_ild hx hb hK hP 7 0 rfl rfl (by omega) (by decide) dX0_areNeighbours_30 ?_
        refine lv_aload_n hx hb dX0_areNeighbours_31 rfl (lv_at hl 0 rfl) ?_
        refine li_gf0 hx hb hX0 hown hK hP 0 rfl 8 (by decide) f31 rfl dX0_areNeighbours_32 ?_
        refine lv_iload_n hx hb dX0_areNeighbours_35 rfl (lv_at hl 2 rfl) ?_
        refine li_ild hx hb hK hP 7 0 rfl rfl (by omega) (by decide) dX0_areNeighbours_36 ?_
        refine lv_isub hx hb dX0_areNeighbours_37 ?_
        refine lv_iconst (v := nI 1) hx hb dX0_areNeighbours_38 rfl ?_
        refine lv_icmp_gt (tgt := 63) hx hb dX0_areNeighbours_39 (by decide) (fun c4 => ?_) (fun c4 => ?_)
        · skip
          refine lv_iconst (v := nI 0) hx hb dX0_areNeighbours_63 rfl ?_
          refine li_topi (show nI 0 = zI (nbr σ i j) from by simp [nbr, zI, c1, c2, c3, c4]) ?_
          exact hEnd 64 ls locs dX0_areNeighbours_64 hS
        · skip
          refine lv_aload_n hx hb dX0_areNeighbours_42 rfl (lv_at hl 0 rfl) ?_
          refine li_gf0 hx hb hX0 hown hK hP 0 rfl 8 (by decide) f31 rfl dX0_areNeighbours_43 ?_
          refine lv_iload_n hx hb dX0_areNeighbours_46 rfl (lv_at hl 2 rfl) ?_
          refine li_ild hx hb hK hP 7 0 rfl rfl (by omega) (by decide) dX0_areNeighbours_47 ?_
          refine lv_aload_n hx hb dX0_areNeighbours_48 rfl (lv_at hl 0 rfl) ?_
          refine li_gf0 hx hb hX0 hown hK hP 0 rfl 8 (by decide) f31 rfl dX0_areNeighbours_49 ?_
          refine lv_iload_n hx hb dX0_areNeighbours_52 rfl (lv_at hl 1 rfl) ?_
          refine li_ild hx hb hK hP 7 0 rfl rfl (by omega) (by decide) dX0_areNeighbours_53 ?_
          refine lv_isub hx hb dX0_areNeighbours_54 ?_
          refine lv_iconst (v := nI 1) hx hb dX0_areNeighbours_55 rfl ?_
          refine lv_icmp_gt (tgt := 63) hx hb dX0_areNeighbours_56 (by decide) (fun c5 => ?_) (fun c5 => ?_)
          · skip
            refine lv_iconst (v := nI 0) hx hb dX0_areNeighbours_63 rfl ?_
            refine li_topi (show nI 0 = zI (nbr σ i j) from by simp [nbr, zI, c1, c2, c3, c4, c5]) ?_
            exact hEnd 64 ls locs dX0_areNeighbours_64 hS
          · skip
            refine lv_iconst (v := nI 1) hx hb dX0_areNeighbours_59 rfl ?_
            refine lv_goto (tgt := 64) hx hb dX0_areNeighbours_60 (by decide) ?_
            refine li_topi (show nI 1 = zI (nbr σ i j) from by simp [nbr, zI, c1, c2, c3, c4, c5]) ?_
            exact hEnd 64 ls locs dX0_areNeighbours_64 hS
set_option maxHeartbeats 4000000 in
set_option maxRecDepth 100000 in
theorem c_X0_neighboursOf (l : Launch) (D : va_G) (cI cZ cL cO : ClassId) (a : Nat → Nat) (n pl nw ns : Nat) (σ κ : Nat → Nat → Int32) (H : Heap) (w : Nat) (hB : n ≤ 10 ∧ pl ≤ 200 ∧ nw ≤ 20 ∧ ns ≤ 6) (hw : w < nw) : Met l yX0_neighboursOf wsX0_neighboursOf ({ frames := 1, cells := 0, slots := 0, locals := 22 } : Room) (ro_P D (T4 cI cZ cL cO) (wP cI cZ a n pl nw ns σ κ) H [.ref (a 0), .int (nI w)]) (ro_Q (nI (nb σ nw w)) H) 0 0 (fun _ => False) := by
  refine ro_of (cc := cX0_neighboursOf) (maxL := 4) (by decide) rfl (Nat.le_of_ble_eq_true rfl) rfl ?_
  intro p e s m args below meth c Q ls locs hx hb hml hown hts hK hE hP hl hS hEnd
  have hl : lv_has ls 4 [(0, .ref (a 0)), (1, .int (nI w))] := hl
  have hX0 : ∀ w ∈ wsX00, w.before args s = true := fun w h => hts w (List.mem_cons_of_mem _ (List.mem_append_left _ (List.mem_append_right _ (h))))
  have hX1 : ∀ w ∈ wsX10, w.before args s = true := fun w h => hts w (List.mem_cons_of_mem _ (List.mem_append_right _ (h)))
  have f58 : (Cond.fieldLink RX0 58 "LanternWalk$Parade" "setting" "LLanternWalk$Setting;").before args s = true := hts _ (List.mem_of_getElem? (i := 1) rfl)
  have f92 : (Cond.fieldLink RX0 92 "LanternWalk$Setting" "walkers" "I").before args s = true := hts _ (List.mem_of_getElem? (i := 2) rfl)
  refine lv_iconst (v := nI 0) hx hb dX0_neighboursOf_0 rfl ?_
  refine lv_istore_n (lv' := [(2, .int (nI 0)), (0, .ref (a 0)), (1, .int (nI w))]) hx hb dX0_neighboursOf_1 rfl hl (by decide) rfl (fun ls hl => ?_)
  refine lv_iconst (v := nI 0) hx hb dX0_neighboursOf_2 rfl ?_
  refine lv_istore_n (lv' := [(3, .int (nI 0)), (2, .int (nI 0)), (0, .ref (a 0)), (1, .int (nI w))]) hx hb dX0_neighboursOf_3 rfl hl (by decide) rfl (fun ls hl => ?_)
  have L4_1 : ∀ (fuel : Nat) (k : Nat), (nw - k) < fuel → k ≤ nw → ∀ (locs : List Loc), va_S (fun _ => False) H H locs → ∀ (ls : Array Slot), lv_has ls 4 [(3, .int (nI k)), (2, .int (nI (cnt (nbr σ w) k))), (0, .ref (a 0)), (1, .int (nI w))] → W p l e ({ frames := 1, cells := 0, slots := 0, locals := 22 } : Room) s m args below meth c H locs 0 0 Q (F0 m 4 ls []) := by
    intro fuel
    induction fuel with
    | zero =>
      intro k hfuel
      exact absurd hfuel (Nat.not_lt_zero _)
    | succ fuel ih4 =>
      intro k hfuel4 hk locs hS ls hl
      refine lv_iload_n hx hb dX0_neighboursOf_4 rfl (lv_at hl 0 rfl) ?_
      refine lv_aload_n hx hb dX0_neighboursOf_5 rfl (lv_at hl 2 rfl) ?_
      refine li_gf0 hx hb hX0 hown hK hP 0 rfl 0 (by decide) f58 rfl dX0_neighboursOf_6 ?_
      refine li_gf1 hx hb hX1 hown hK hP 16 rfl 6 (by decide) f92 rfl dX0_neighboursOf_9 ?_
      refine li_ge (tgt := 33) hx hb dX0_neighboursOf_12 (by decide) (by omega) (by omega) (fun c2 => ?_) (fun c2 => ?_)
      · skip
        refine lv_iload_n hx hb dX0_neighboursOf_33 rfl (lv_at hl 1 rfl) ?_
        refine li_topi (show nI (cnt (nbr σ w) k) = nI (nb σ nw w) from by rw [show k = nw by omega]; rfl) ?_
        exact hEnd 34 ls locs dX0_neighboursOf_34 hS
      · skip
        refine lv_aload_n hx hb dX0_neighboursOf_15 rfl (lv_at hl 2 rfl) ?_
        refine lv_iload_n hx hb dX0_neighboursOf_16 rfl (lv_at hl 3 rfl) ?_
        refine lv_iload_n hx hb dX0_neighboursOf_17 rfl (lv_at hl 0 rfl) ?_
        refine roV (As := [.int (nI w), .int (nI k)]) (q0 := 0) (ci := 0) hx hb hml hown hts (c_X0_areNeighbours l D cI cZ cL cO a n pl nw ns σ κ H w k (hB) (by omega) (by omega)) (cwV 2 hts gX0_neighboursOf_X0_areNeighbours rfl rfl rfl (by decide +kernel) ⟨by decide, by decide⟩) hK hE hP rfl rfl rfl rfl hl.1 rfl (Nat.le_of_ble_eq_true rfl) hS dX0_neighboursOf_18 ⟨Nat.zero_le _, Nat.zero_le _⟩ (fun locs hS => ?_)
        refine li_zeq (tgt := 27) hx hb dX0_neighboursOf_21 (by decide) (fun c3 => ?_) (fun c3 => ?_)
        · skip
          refine lv_iinc (v := nI (k + 1)) (lv' := [(3, .int (nI (k + 1))), (2, .int (nI (cnt (nbr σ w) k))), (0, .ref (a 0)), (1, .int (nI w))]) hx hb dX0_neighboursOf_27 hl (k := 0) rfl (nI_inc _ _) (by decide) rfl (fun ls hl => ?_)
          refine lv_goto (tgt := 4) hx hb dX0_neighboursOf_30 (by decide) ?_
          have hl9 : lv_has ls 4 [(3, .int (nI (k + 1))), (2, .int (nI (cnt (nbr σ w) k))), (0, .ref (a 0)), (1, .int (nI w))] := lv_sub hl [0, 1, 2, 3] rfl
          have hl9 : lv_has ls 4 [(3, .int (nI (k + 1))), (2, .int (nI (cnt (nbr σ w) (k + 1)))), (0, .ref (a 0)), (1, .int (nI w))] := lv_re hl9 1 rfl (show nI (cnt (nbr σ w) k) = nI (cnt (nbr σ w) (k + 1)) from by first | exact cnt_t (by simp [c2, c3]) | exact cnt_f (by simp [c2, c3]))
          exact ih4 (k + 1) (by omega) (by omega) locs hS ls hl9
        · skip
          refine lv_iinc (v := nI ((cnt (nbr σ w) k) + 1)) (lv' := [(2, .int (nI ((cnt (nbr σ w) k) + 1))), (3, .int (nI k)), (0, .ref (a 0)), (1, .int (nI w))]) hx hb dX0_neighboursOf_24 hl (k := 1) rfl (nI_inc _ _) (by decide) rfl (fun ls hl => ?_)
          refine lv_iinc (v := nI (k + 1)) (lv' := [(3, .int (nI (k + 1))), (2, .int (nI ((cnt (nbr σ w) k) + 1))), (0, .ref (a 0)), (1, .int (nI w))]) hx hb dX0_neighboursOf_27 hl (k := 1) rfl (nI_inc _ _) (by decide) rfl (fun ls hl => ?_)
          refine lv_goto (tgt := 4) hx hb dX0_neighboursOf_30 (by decide) ?_
          have hl9 : lv_has ls 4 [(3, .int (nI (k + 1))), (2, .int (nI ((cnt (nbr σ w) k) + 1))), (0, .ref (a 0)), (1, .int (nI w))] := lv_sub hl [0, 1, 2, 3] rfl
          have hl9 : lv_has ls 4 [(3, .int (nI (k + 1))), (2, .int (nI (cnt (nbr σ w) (k + 1)))), (0, .ref (a 0)), (1, .int (nI w))] := lv_re hl9 1 rfl (show nI ((cnt (nbr σ w) k) + 1) = nI (cnt (nbr σ w) (k + 1)) from by first | exact cnt_t (by simp [c2, c3]) | exact cnt_f (by simp [c2, c3]))
          exact ih4 (k + 1) (by omega) (by omega) locs hS ls hl9
  have hl9 : lv_has ls 4 [(3, .int (nI 0)), (2, .int (nI 0)), (0, .ref (a 0)), (1, .int (nI w))] := lv_sub hl [0, 1, 2, 3] rfl
  have hl9 : lv_has ls 4 [(3, .int (nI 0)), (2, .int (nI (cnt (nbr σ w) 0))), (0, .ref (a 0)), (1, .int (nI w))] := lv_re hl9 1 rfl (show nI 0 = nI (cnt (nbr σ w) 0) from rfl)
  exact L4_1 ((nw - 0) + 1) 0 (Nat.lt_succ_self _) (by omega) locs hS ls hl9
set_option maxHeartbeats 4000000 in
set_option maxRecDepth 100000 in
theorem c_X0_foremostPlace (l : Launch) (D : va_G) (cI cZ cL cO : ClassId) (a : Nat → Nat) (n pl nw ns : Nat) (σ κ : Nat → Nat → Int32) (H : Heap) (hB : n ≤ 10 ∧ pl ≤ 200 ∧ nw ≤ 20 ∧ ns ≤ 6) : Met l yX0_foremostPlace wsX0_foremostPlace ({ frames := 0, cells := 0, slots := 0, locals := 0 } : Room) (ro_P D (T4 cI cZ cL cO) (wP cI cZ a n pl nw ns σ κ) H [.ref (a 0)]) (ro_Q (fm σ nw) H) 0 0 (fun _ => False) := by
  refine ro_of (cc := cX0_foremostPlace) (maxL := 3) (by decide) rfl (Nat.le_of_ble_eq_true rfl) rfl ?_
  intro p e s m args below meth c Q ls locs hx hb hml hown hts hK hE hP hl hS hEnd
  have hl : lv_has ls 3 [(0, .ref (a 0))] := hl
  have hX0 : ∀ w ∈ wsX00, w.before args s = true := fun w h => hts w (List.mem_cons_of_mem _ (List.mem_append_left _ (List.mem_append_right _ (h))))
  have hX1 : ∀ w ∈ wsX10, w.before args s = true := fun w h => hts w (List.mem_cons_of_mem _ (List.mem_append_right _ (h)))
  have f58 : (Cond.fieldLink RX0 58 "LanternWalk$Parade" "setting" "LLanternWalk$Setting;").before args s = true := hts _ (List.mem_of_getElem? (i := 1) rfl)
  have f92 : (Cond.fieldLink RX0 92 "LanternWalk$Setting" "walkers" "I").before args s = true := hts _ (List.mem_of_getElem? (i := 2) rfl)
  have f28 : (Cond.fieldLink RX0 28 "LanternWalk$Parade" "stage" "[I").before args s = true := hts _ (List.mem_of_getElem? (i := 3) rfl)
  have f31 : (Cond.fieldLink RX0 31 "LanternWalk$Parade" "place" "[I").before args s = true := hts _ (List.mem_of_getElem? (i := 4) rfl)
  refine lv_iconst (v := (-1)) hx hb dX0_foremostPlace_0 rfl ?_
  refine lv_istore_n (lv' := [(1, .int (-1)), (0, .ref (a 0))]) hx hb dX0_foremostPlace_1 rfl hl (by decide) rfl (fun ls hl => ?_)
  refine lv_iconst (v := nI 0) hx hb dX0_foremostPlace_2 rfl ?_
  refine lv_istore_n (lv' := [(2, .int (nI 0)), (1, .int (-1)), (0, .ref (a 0))]) hx hb dX0_foremostPlace_3 rfl hl (by decide) rfl (fun ls hl => ?_)
  have L4_1 : ∀ (fuel : Nat) (k : Nat), (nw - k) < fuel → k ≤ nw → ∀ (locs : List Loc), va_S (fun _ => False) H H locs → ∀ (ls : Array Slot), lv_has ls 3 [(2, .int (nI k)), (1, .int (fm σ k)), (0, .ref (a 0))] → W p l e ({ frames := 0, cells := 0, slots := 0, locals := 0 } : Room) s m args below meth c H locs 0 0 Q (F0 m 4 ls []) := by
    intro fuel
    induction fuel with
    | zero =>
      intro k hfuel
      exact absurd hfuel (Nat.not_lt_zero _)
    | succ fuel ih4 =>
      intro k hfuel4 hk locs hS ls hl
      refine lv_iload_n hx hb dX0_foremostPlace_4 rfl (lv_at hl 0 rfl) ?_
      refine lv_aload_n hx hb dX0_foremostPlace_5 rfl (lv_at hl 2 rfl) ?_
      refine li_gf0 hx hb hX0 hown hK hP 0 rfl 0 (by decide) f58 rfl dX0_foremostPlace_6 ?_
      refine li_gf1 hx hb hX1 hown hK hP 16 rfl 6 (by decide) f92 rfl dX0_foremostPlace_9 ?_
      refine li_ge (tgt := 48) hx hb dX0_foremostPlace_12 (by decide) (by omega) (by omega) (fun c2 => ?_) (fun c2 => ?_)
      · skip
        refine lv_iload_n hx hb dX0_foremostPlace_48 rfl (lv_at hl 1 rfl) ?_
        refine li_topi (show fm σ k = fm σ nw from by rw [show k = nw by omega]) ?_
        exact hEnd 49 ls locs dX0_foremostPlace_49 hS
      · skip
        refine lv_aload_n hx hb dX0_foremostPlace_15 rfl (lv_at hl 2 rfl) ?_
        refine li_gf0 hx hb hX0 hown hK hP 0 rfl 7 (by decide) f28 rfl dX0_foremostPlace_16 ?_
        refine lv_iload_n hx hb dX0_foremostPlace_19 rfl (lv_at hl 0 rfl) ?_
        refine li_ild hx hb hK hP 6 0 rfl rfl (by omega) (by decide) dX0_foremostPlace_20 ?_
        refine lv_iconst (v := nI 1) hx hb dX0_foremostPlace_21 rfl ?_
        refine lv_icmp_ne (tgt := 42) hx hb dX0_foremostPlace_22 (by decide) (fun c3 => ?_) (fun c3 => ?_)
        · skip
          refine lv_iinc (v := nI (k + 1)) (lv' := [(2, .int (nI (k + 1))), (1, .int (fm σ k)), (0, .ref (a 0))]) hx hb dX0_foremostPlace_42 hl (k := 0) rfl (nI_inc _ _) (by decide) rfl (fun ls hl => ?_)
          refine lv_goto (tgt := 4) hx hb dX0_foremostPlace_45 (by decide) ?_
          have hl9 : lv_has ls 3 [(2, .int (nI (k + 1))), (1, .int (fm σ k)), (0, .ref (a 0))] := lv_sub hl [0, 1, 2] rfl
          have hl9 : lv_has ls 3 [(2, .int (nI (k + 1))), (1, .int (fm σ (k + 1))), (0, .ref (a 0))] := lv_re hl9 1 rfl (show fm σ k = fm σ (k + 1) from by simp [fm, c2, c3])
          exact ih4 (k + 1) (by omega) (by omega) locs hS ls hl9
        · skip
          refine lv_aload_n hx hb dX0_foremostPlace_25 rfl (lv_at hl 2 rfl) ?_
          refine li_gf0 hx hb hX0 hown hK hP 0 rfl 8 (by decide) f31 rfl dX0_foremostPlace_26 ?_
          refine lv_iload_n hx hb dX0_foremostPlace_29 rfl (lv_at hl 0 rfl) ?_
          refine li_ild hx hb hK hP 7 0 rfl rfl (by omega) (by decide) dX0_foremostPlace_30 ?_
          refine lv_iload_n hx hb dX0_foremostPlace_31 rfl (lv_at hl 1 rfl) ?_
          refine lv_icmp_le (tgt := 42) hx hb dX0_foremostPlace_32 (by decide) (fun c4 => ?_) (fun c4 => ?_)
          · skip
            refine lv_iinc (v := nI (k + 1)) (lv' := [(2, .int (nI (k + 1))), (1, .int (fm σ k)), (0, .ref (a 0))]) hx hb dX0_foremostPlace_42 hl (k := 0) rfl (nI_inc _ _) (by decide) rfl (fun ls hl => ?_)
            refine lv_goto (tgt := 4) hx hb dX0_foremostPlace_45 (by decide) ?_
            have hl9 : lv_has ls 3 [(2, .int (nI (k + 1))), (1, .int (fm σ k)), (0, .ref (a 0))] := lv_sub hl [0, 1, 2] rfl
            have hl9 : lv_has ls 3 [(2, .int (nI (k + 1))), (1, .int (fm σ (k + 1))), (0, .ref (a 0))] := lv_re hl9 1 rfl (show fm σ k = fm σ (k + 1) from by simp [fm, c2, c3, c4])
            exact ih4 (k + 1) (by omega) (by omega) locs hS ls hl9
          · skip
            refine lv_aload_n hx hb dX0_foremostPlace_35 rfl (lv_at hl 2 rfl) ?_
            refine li_gf0 hx hb hX0 hown hK hP 0 rfl 8 (by decide) f31 rfl dX0_foremostPlace_36 ?_
            refine lv_iload_n hx hb dX0_foremostPlace_39 rfl (lv_at hl 0 rfl) ?_
            refine li_ild hx hb hK hP 7 0 rfl rfl (by omega) (by decide) dX0_foremostPlace_40 ?_
            refine lv_istore_n (lv' := [(1, .int (σ 13 k)), (2, .int (nI k)), (0, .ref (a 0))]) hx hb dX0_foremostPlace_41 rfl hl (by decide) rfl (fun ls hl => ?_)
            refine lv_iinc (v := nI (k + 1)) (lv' := [(2, .int (nI (k + 1))), (1, .int (σ 13 k)), (0, .ref (a 0))]) hx hb dX0_foremostPlace_42 hl (k := 1) rfl (nI_inc _ _) (by decide) rfl (fun ls hl => ?_)
            refine lv_goto (tgt := 4) hx hb dX0_foremostPlace_45 (by decide) ?_
            have hl9 : lv_has ls 3 [(2, .int (nI (k + 1))), (1, .int (σ 13 k)), (0, .ref (a 0))] := lv_sub hl [0, 1, 2] rfl
            have hl9 : lv_has ls 3 [(2, .int (nI (k + 1))), (1, .int (fm σ (k + 1))), (0, .ref (a 0))] := lv_re hl9 1 rfl (show σ 13 k = fm σ (k + 1) from by simp [fm, c2, c3, c4])
            exact ih4 (k + 1) (by omega) (by omega) locs hS ls hl9
  have hl9 : lv_has ls 3 [(2, .int (nI 0)), (1, .int (-1)), (0, .ref (a 0))] := lv_sub hl [0, 1, 2] rfl
  have hl9 : lv_has ls 3 [(2, .int (nI 0)), (1, .int (fm σ 0)), (0, .ref (a 0))] := lv_re hl9 1 rfl (show (-1) = fm σ 0 from rfl)
  exact L4_1 ((nw - 0) + 1) 0 (Nat.lt_succ_self _) (by omega) locs hS ls hl9
set_option maxHeartbeats 4000000 in
set_option maxRecDepth 100000 in
theorem c_X0_paradeLength (l : Launch) (D : va_G) (cI cZ cL cO : ClassId) (a : Nat → Nat) (n pl nw ns : Nat) (σ κ : Nat → Nat → Int32) (H : Heap) (hB : n ≤ 10 ∧ pl ≤ 200 ∧ nw ≤ 20 ∧ ns ≤ 6) : Met l yX0_paradeLength wsX0_paradeLength ({ frames := 1, cells := 0, slots := 0, locals := 22 } : Room) (ro_P D (T4 cI cZ cL cO) (wP cI cZ a n pl nw ns σ κ) H [.ref (a 0)]) (ro_Q (fm σ nw - ls_ σ (fm σ nw) nw) H) 0 0 (fun _ => False) := by
  refine ro_of (cc := cX0_paradeLength) (maxL := 4) (by decide) rfl (Nat.le_of_ble_eq_true rfl) rfl ?_
  intro p e s m args below meth c Q ls locs hx hb hml hown hts hK hE hP hl hS hEnd
  have hl : lv_has ls 4 [(0, .ref (a 0))] := hl
  have hX0 : ∀ w ∈ wsX00, w.before args s = true := fun w h => hts w (List.mem_cons_of_mem _ (List.mem_append_left _ (List.mem_append_right _ (h))))
  have hX1 : ∀ w ∈ wsX10, w.before args s = true := fun w h => hts w (List.mem_cons_of_mem _ (List.mem_append_right _ (h)))
  have f58 : (Cond.fieldLink RX0 58 "LanternWalk$Parade" "setting" "LLanternWalk$Setting;").before args s = true := hts _ (List.mem_of_getElem? (i := 1) rfl)
  have f92 : (Cond.fieldLink RX0 92 "LanternWalk$Setting" "walkers" "I").before args s = true := hts _ (List.mem_of_getElem? (i := 2) rfl)
  have f28 : (Cond.fieldLink RX0 28 "LanternWalk$Parade" "stage" "[I").before args s = true := hts _ (List.mem_of_getElem? (i := 3) rfl)
  have f31 : (Cond.fieldLink RX0 31 "LanternWalk$Parade" "place" "[I").before args s = true := hts _ (List.mem_of_getElem? (i := 4) rfl)
  refine lv_aload_n hx hb dX0_paradeLength_0 rfl (lv_at hl 0 rfl) ?_
  refine roV (As := []) (q0 := 0) (ci := 0) hx hb hml hown hts (c_X0_foremostPlace l D cI cZ cL cO a n pl nw ns σ κ H (hB)) (cwV 0 hts gX0_paradeLength_X0_foremostPlace rfl rfl rfl (by decide +kernel) ⟨by decide, by decide⟩) hK hE hP rfl rfl rfl rfl hl.1 rfl (Nat.le_of_ble_eq_true rfl) hS dX0_paradeLength_1 ⟨Nat.zero_le _, Nat.zero_le _⟩ (fun locs hS => ?_)
  refine lv_istore_n (lv' := [(1, .int (fm σ nw)), (0, .ref (a 0))]) hx hb dX0_paradeLength_4 rfl hl (by decide) rfl (fun ls hl => ?_)
  refine lv_iload_n hx hb dX0_paradeLength_5 rfl (lv_at hl 0 rfl) ?_
  refine lv_istore_n (lv' := [(2, .int (fm σ nw)), (1, .int (fm σ nw)), (0, .ref (a 0))]) hx hb dX0_paradeLength_6 rfl hl (by decide) rfl (fun ls hl => ?_)
  refine lv_iconst (v := nI 0) hx hb dX0_paradeLength_7 rfl ?_
  refine lv_istore_n (lv' := [(3, .int (nI 0)), (2, .int (fm σ nw)), (1, .int (fm σ nw)), (0, .ref (a 0))]) hx hb dX0_paradeLength_8 rfl hl (by decide) rfl (fun ls hl => ?_)
  have L9_1 : ∀ (fuel : Nat) (k : Nat), (nw - k) < fuel → k ≤ nw → ∀ (locs : List Loc), va_S (fun _ => False) H H locs → ∀ (ls : Array Slot), lv_has ls 4 [(3, .int (nI k)), (2, .int (ls_ σ (fm σ nw) k)), (1, .int (fm σ nw)), (0, .ref (a 0))] → W p l e ({ frames := 1, cells := 0, slots := 0, locals := 22 } : Room) s m args below meth c H locs 0 0 Q (F0 m 9 ls []) := by
    intro fuel
    induction fuel with
    | zero =>
      intro k hfuel
      exact absurd hfuel (Nat.not_lt_zero _)
    | succ fuel ih9 =>
      intro k hfuel9 hk locs hS ls hl
      refine lv_iload_n hx hb dX0_paradeLength_9 rfl (lv_at hl 0 rfl) ?_
      refine lv_aload_n hx hb dX0_paradeLength_10 rfl (lv_at hl 3 rfl) ?_
      refine li_gf0 hx hb hX0 hown hK hP 0 rfl 0 (by decide) f58 rfl dX0_paradeLength_11 ?_
      refine li_gf1 hx hb hX1 hown hK hP 16 rfl 6 (by decide) f92 rfl dX0_paradeLength_14 ?_
      refine li_ge (tgt := 53) hx hb dX0_paradeLength_17 (by decide) (by omega) (by omega) (fun c2 => ?_) (fun c2 => ?_)
      · skip
        refine lv_iload_n hx hb dX0_paradeLength_53 rfl (lv_at hl 2 rfl) ?_
        refine lv_iload_n hx hb dX0_paradeLength_54 rfl (lv_at hl 1 rfl) ?_
        refine lv_isub hx hb dX0_paradeLength_55 ?_
        refine li_topi (show (fm σ nw) - (ls_ σ (fm σ nw) k) = fm σ nw - ls_ σ (fm σ nw) nw from by rw [show k = nw by omega]) ?_
        exact hEnd 56 ls locs dX0_paradeLength_56 hS
      · skip
        refine lv_aload_n hx hb dX0_paradeLength_20 rfl (lv_at hl 3 rfl) ?_
        refine li_gf0 hx hb hX0 hown hK hP 0 rfl 7 (by decide) f28 rfl dX0_paradeLength_21 ?_
        refine lv_iload_n hx hb dX0_paradeLength_24 rfl (lv_at hl 0 rfl) ?_
        refine li_ild hx hb hK hP 6 0 rfl rfl (by omega) (by decide) dX0_paradeLength_25 ?_
        refine lv_iconst (v := nI 1) hx hb dX0_paradeLength_26 rfl ?_
        refine lv_icmp_ne (tgt := 47) hx hb dX0_paradeLength_27 (by decide) (fun c3 => ?_) (fun c3 => ?_)
        · skip
          refine lv_iinc (v := nI (k + 1)) (lv' := [(3, .int (nI (k + 1))), (2, .int (ls_ σ (fm σ nw) k)), (1, .int (fm σ nw)), (0, .ref (a 0))]) hx hb dX0_paradeLength_47 hl (k := 0) rfl (nI_inc _ _) (by decide) rfl (fun ls hl => ?_)
          refine lv_goto (tgt := 9) hx hb dX0_paradeLength_50 (by decide) ?_
          have hl9 : lv_has ls 4 [(3, .int (nI (k + 1))), (2, .int (ls_ σ (fm σ nw) k)), (1, .int (fm σ nw)), (0, .ref (a 0))] := lv_sub hl [0, 1, 2, 3] rfl
          have hl9 : lv_has ls 4 [(3, .int (nI (k + 1))), (2, .int (ls_ σ (fm σ nw) (k + 1))), (1, .int (fm σ nw)), (0, .ref (a 0))] := lv_re hl9 1 rfl (show ls_ σ (fm σ nw) k = ls_ σ (fm σ nw) (k + 1) from by simp [ls_, c2, c3])
          exact ih9 (k + 1) (by omega) (by omega) locs hS ls hl9
        · skip
          refine lv_aload_n hx hb dX0_paradeLength_30 rfl (lv_at hl 3 rfl) ?_
          refine li_gf0 hx hb hX0 hown hK hP 0 rfl 8 (by decide) f31 rfl dX0_paradeLength_31 ?_
          refine lv_iload_n hx hb dX0_paradeLength_34 rfl (lv_at hl 0 rfl) ?_
          refine li_ild hx hb hK hP 7 0 rfl rfl (by omega) (by decide) dX0_paradeLength_35 ?_
          refine lv_iload_n hx hb dX0_paradeLength_36 rfl (lv_at hl 1 rfl) ?_
          refine lv_icmp_ge (tgt := 47) hx hb dX0_paradeLength_37 (by decide) (fun c4 => ?_) (fun c4 => ?_)
          · skip
            refine lv_iinc (v := nI (k + 1)) (lv' := [(3, .int (nI (k + 1))), (2, .int (ls_ σ (fm σ nw) k)), (1, .int (fm σ nw)), (0, .ref (a 0))]) hx hb dX0_paradeLength_47 hl (k := 0) rfl (nI_inc _ _) (by decide) rfl (fun ls hl => ?_)
            refine lv_goto (tgt := 9) hx hb dX0_paradeLength_50 (by decide) ?_
            have hl9 : lv_has ls 4 [(3, .int (nI (k + 1))), (2, .int (ls_ σ (fm σ nw) k)), (1, .int (fm σ nw)), (0, .ref (a 0))] := lv_sub hl [0, 1, 2, 3] rfl
            have hl9 : lv_has ls 4 [(3, .int (nI (k + 1))), (2, .int (ls_ σ (fm σ nw) (k + 1))), (1, .int (fm σ nw)), (0, .ref (a 0))] := lv_re hl9 1 rfl (show ls_ σ (fm σ nw) k = ls_ σ (fm σ nw) (k + 1) from by simp [ls_, c2, c3, c4])
            exact ih9 (k + 1) (by omega) (by omega) locs hS ls hl9
          · skip
            refine lv_aload_n hx hb dX0_paradeLength_40 rfl (lv_at hl 3 rfl) ?_
            refine li_gf0 hx hb hX0 hown hK hP 0 rfl 8 (by decide) f31 rfl dX0_paradeLength_41 ?_
            refine lv_iload_n hx hb dX0_paradeLength_44 rfl (lv_at hl 0 rfl) ?_
            refine li_ild hx hb hK hP 7 0 rfl rfl (by omega) (by decide) dX0_paradeLength_45 ?_
            refine lv_istore_n (lv' := [(2, .int (σ 13 k)), (3, .int (nI k)), (1, .int (fm σ nw)), (0, .ref (a 0))]) hx hb dX0_paradeLength_46 rfl hl (by decide) rfl (fun ls hl => ?_)
            refine lv_iinc (v := nI (k + 1)) (lv' := [(3, .int (nI (k + 1))), (2, .int (σ 13 k)), (1, .int (fm σ nw)), (0, .ref (a 0))]) hx hb dX0_paradeLength_47 hl (k := 1) rfl (nI_inc _ _) (by decide) rfl (fun ls hl => ?_)
            refine lv_goto (tgt := 9) hx hb dX0_paradeLength_50 (by decide) ?_
            have hl9 : lv_has ls 4 [(3, .int (nI (k + 1))), (2, .int (σ 13 k)), (1, .int (fm σ nw)), (0, .ref (a 0))] := lv_sub hl [0, 1, 2, 3] rfl
            have hl9 : lv_has ls 4 [(3, .int (nI (k + 1))), (2, .int (ls_ σ (fm σ nw) (k + 1))), (1, .int (fm σ nw)), (0, .ref (a 0))] := lv_re hl9 1 rfl (show σ 13 k = ls_ σ (fm σ nw) (k + 1) from by simp [ls_, c2, c3, c4])
            exact ih9 (k + 1) (by omega) (by omega) locs hS ls hl9
  have hl9 : lv_has ls 4 [(3, .int (nI 0)), (2, .int (fm σ nw)), (1, .int (fm σ nw)), (0, .ref (a 0))] := lv_sub hl [0, 1, 2, 3] rfl
  have hl9 : lv_has ls 4 [(3, .int (nI 0)), (2, .int (ls_ σ (fm σ nw) 0)), (1, .int (fm σ nw)), (0, .ref (a 0))] := lv_re hl9 1 rfl (show fm σ nw = ls_ σ (fm σ nw) 0 from rfl)
  exact L9_1 ((nw - 0) + 1) 0 (Nat.lt_succ_self _) (by omega) locs hS ls hl9
set_option maxHeartbeats 4000000 in
set_option maxRecDepth 100000 in
theorem c_X0_isBesideBurning (l : Launch) (D : va_G) (cI cZ cL cO : ClassId) (a : Nat → Nat) (n pl nw ns : Nat) (σ κ : Nat → Nat → Int32) (H : Heap) (w : Nat) (hB : n ≤ 10 ∧ pl ≤ 200 ∧ nw ≤ 20 ∧ ns ≤ 6) (hw : w < nw) : Met l yX0_isBesideBurning wsX0_isBesideBurning ({ frames := 1, cells := 0, slots := 0, locals := 22 } : Room) (ro_P D (T4 cI cZ cL cO) (wP cI cZ a n pl nw ns σ κ) H [.ref (a 0), .int (nI w)]) (ro_Q (zI (bb σ κ nw w)) H) 0 0 (fun _ => False) := by
  refine ro_of (cc := cX0_isBesideBurning) (maxL := 3) (by decide) rfl (Nat.le_of_ble_eq_true rfl) (zI_n _) ?_
  intro p e s m args below meth c Q ls locs hx hb hml hown hts hK hE hP hl hS hEnd
  have hl : lv_has ls 3 [(0, .ref (a 0)), (1, .int (nI w))] := hl
  have hX0 : ∀ w ∈ wsX00, w.before args s = true := fun w h => hts w (List.mem_cons_of_mem _ (List.mem_append_left _ (List.mem_append_right _ (h))))
  have hX1 : ∀ w ∈ wsX10, w.before args s = true := fun w h => hts w (List.mem_cons_of_mem _ (List.mem_append_right _ (h)))
  have f58 : (Cond.fieldLink RX0 58 "LanternWalk$Parade" "setting" "LLanternWalk$Setting;").before args s = true := hts _ (List.mem_of_getElem? (i := 1) rfl)
  have f92 : (Cond.fieldLink RX0 92 "LanternWalk$Setting" "walkers" "I").before args s = true := hts _ (List.mem_of_getElem? (i := 2) rfl)
  have f43 : (Cond.fieldLink RX0 43 "LanternWalk$Parade" "burnedBefore" "[Z").before args s = true := hts _ (List.mem_of_getElem? (i := 3) rfl)
  refine lv_iconst (v := nI 0) hx hb dX0_isBesideBurning_0 rfl ?_
  refine lv_istore_n (lv' := [(2, .int (nI 0)), (0, .ref (a 0)), (1, .int (nI w))]) hx hb dX0_isBesideBurning_1 rfl hl (by decide) rfl (fun ls hl => ?_)
  have L2_1 : ∀ (fuel : Nat) (k : Nat), (nw - k) < fuel → k ≤ nw → anyN (bbS σ κ w) k = false → ∀ (locs : List Loc), va_S (fun _ => False) H H locs → ∀ (ls : Array Slot), lv_has ls 3 [(2, .int (nI k)), (0, .ref (a 0)), (1, .int (nI w))] → W p l e ({ frames := 1, cells := 0, slots := 0, locals := 22 } : Room) s m args below meth c H locs 0 0 Q (F0 m 2 ls []) := by
    intro fuel
    induction fuel with
    | zero =>
      intro k hfuel
      exact absurd hfuel (Nat.not_lt_zero _)
    | succ fuel ih2 =>
      intro k hfuel2 hk ha locs hS ls hl
      refine lv_iload_n hx hb dX0_isBesideBurning_2 rfl (lv_at hl 0 rfl) ?_
      refine lv_aload_n hx hb dX0_isBesideBurning_3 rfl (lv_at hl 1 rfl) ?_
      refine li_gf0 hx hb hX0 hown hK hP 0 rfl 0 (by decide) f58 rfl dX0_isBesideBurning_4 ?_
      refine li_gf1 hx hb hX1 hown hK hP 16 rfl 6 (by decide) f92 rfl dX0_isBesideBurning_7 ?_
      refine li_ge (tgt := 39) hx hb dX0_isBesideBurning_10 (by decide) (by omega) (by omega) (fun c2 => ?_) (fun c2 => ?_)
      · skip
        refine lv_iconst (v := nI 0) hx hb dX0_isBesideBurning_39 rfl ?_
        refine li_topi (show nI 0 = zI (bb σ κ nw w) from by first | (rw [show bb σ κ nw w = true from anyN_t (k := k) (by omega) (by simp [bbS, c2])]; rfl) | (rw [show bb σ κ nw w = false from by unfold bb; rw [show nw = k by omega]; exact ha]; rfl)) ?_
        exact hEnd 40 ls locs dX0_isBesideBurning_40 hS
      · skip
        refine lv_aload_n hx hb dX0_isBesideBurning_13 rfl (lv_at hl 1 rfl) ?_
        refine li_gf0 hx hb hX0 hown hK hP 0 rfl 12 (by decide) f43 rfl dX0_isBesideBurning_14 ?_
        refine lv_iload_n hx hb dX0_isBesideBurning_17 rfl (lv_at hl 0 rfl) ?_
        refine li_zld hx hb hK hP 11 1 rfl rfl (by omega) (by decide) dX0_isBesideBurning_18 ?_
        refine lv_if_eq (tgt := 33) hx hb dX0_isBesideBurning_19 (by decide) (fun c3 => ?_) (fun c3 => ?_)
        · skip
          refine lv_iinc (v := nI (k + 1)) (lv' := [(2, .int (nI (k + 1))), (0, .ref (a 0)), (1, .int (nI w))]) hx hb dX0_isBesideBurning_33 hl (k := 0) rfl (nI_inc _ _) (by decide) rfl (fun ls hl => ?_)
          refine lv_goto (tgt := 2) hx hb dX0_isBesideBurning_36 (by decide) ?_
          have hl9 : lv_has ls 3 [(2, .int (nI (k + 1))), (0, .ref (a 0)), (1, .int (nI w))] := lv_sub hl [0, 1, 2] rfl
          exact ih2 (k + 1) (by omega) (by omega) (anyN_f ha (by simp [bbS, c2, c3])) locs hS ls hl9
        · skip
          refine lv_aload_n hx hb dX0_isBesideBurning_22 rfl (lv_at hl 1 rfl) ?_
          refine lv_iload_n hx hb dX0_isBesideBurning_23 rfl (lv_at hl 2 rfl) ?_
          refine lv_iload_n hx hb dX0_isBesideBurning_24 rfl (lv_at hl 0 rfl) ?_
          refine roV (As := [.int (nI w), .int (nI k)]) (q0 := 0) (ci := 0) hx hb hml hown hts (c_X0_areNeighbours l D cI cZ cL cO a n pl nw ns σ κ H w k (hB) (by omega) (by omega)) (cwV 2 hts gX0_isBesideBurning_X0_areNeighbours rfl rfl rfl (by decide +kernel) ⟨by decide, by decide⟩) hK hE hP rfl rfl rfl rfl hl.1 rfl (Nat.le_of_ble_eq_true rfl) hS dX0_isBesideBurning_25 ⟨Nat.zero_le _, Nat.zero_le _⟩ (fun locs hS => ?_)
          refine li_zeq (tgt := 33) hx hb dX0_isBesideBurning_28 (by decide) (fun c4 => ?_) (fun c4 => ?_)
          · skip
            refine lv_iinc (v := nI (k + 1)) (lv' := [(2, .int (nI (k + 1))), (0, .ref (a 0)), (1, .int (nI w))]) hx hb dX0_isBesideBurning_33 hl (k := 0) rfl (nI_inc _ _) (by decide) rfl (fun ls hl => ?_)
            refine lv_goto (tgt := 2) hx hb dX0_isBesideBurning_36 (by decide) ?_
            have hl9 : lv_has ls 3 [(2, .int (nI (k + 1))), (0, .ref (a 0)), (1, .int (nI w))] := lv_sub hl [0, 1, 2] rfl
            exact ih2 (k + 1) (by omega) (by omega) (anyN_f ha (by simp [bbS, c2, c3, c4])) locs hS ls hl9
          · skip
            refine lv_iconst (v := nI 1) hx hb dX0_isBesideBurning_31 rfl ?_
            refine li_topi (show nI 1 = zI (bb σ κ nw w) from by first | (rw [show bb σ κ nw w = true from anyN_t (k := k) (by omega) (by simp [bbS, c2, c3, c4])]; rfl) | (rw [show bb σ κ nw w = false from by unfold bb; rw [show nw = k by omega]; exact ha]; rfl)) ?_
            exact hEnd 32 ls locs dX0_isBesideBurning_32 hS
  have hl9 : lv_has ls 3 [(2, .int (nI 0)), (0, .ref (a 0)), (1, .int (nI w))] := lv_sub hl [0, 1, 2] rfl
  exact L2_1 ((nw - 0) + 1) 0 (Nat.lt_succ_self _) (by omega) (rfl) locs hS ls hl9
set_option maxHeartbeats 4000000 in
set_option maxRecDepth 100000 in
theorem c_X0_foremostToGo (l : Launch) (D : va_G) (cI cZ cL cO : ClassId) (a : Nat → Nat) (n pl nw ns : Nat) (σ κ : Nat → Nat → Int32) (H : Heap) (hB : n ≤ 10 ∧ pl ≤ 200 ∧ nw ≤ 20 ∧ ns ≤ 6) : Met l yX0_foremostToGo wsX0_foremostToGo ({ frames := 0, cells := 0, slots := 0, locals := 0 } : Room) (ro_P D (T4 cI cZ cL cO) (wP cI cZ a n pl nw ns σ κ) H [.ref (a 0)]) (ro_Q ((fg σ κ nw).2) H) 0 0 (fun _ => False) := by
  refine ro_of (cc := cX0_foremostToGo) (maxL := 4) (by decide) rfl (Nat.le_of_ble_eq_true rfl) rfl ?_
  intro p e s m args below meth c Q ls locs hx hb hml hown hts hK hE hP hl hS hEnd
  have hl : lv_has ls 4 [(0, .ref (a 0))] := hl
  have hX0 : ∀ w ∈ wsX00, w.before args s = true := fun w h => hts w (List.mem_cons_of_mem _ (List.mem_append_left _ (List.mem_append_right _ (h))))
  have hX1 : ∀ w ∈ wsX10, w.before args s = true := fun w h => hts w (List.mem_cons_of_mem _ (List.mem_append_right _ (h)))
  have f58 : (Cond.fieldLink RX0 58 "LanternWalk$Parade" "setting" "LLanternWalk$Setting;").before args s = true := hts _ (List.mem_of_getElem? (i := 1) rfl)
  have f92 : (Cond.fieldLink RX0 92 "LanternWalk$Setting" "walkers" "I").before args s = true := hts _ (List.mem_of_getElem? (i := 2) rfl)
  have f28 : (Cond.fieldLink RX0 28 "LanternWalk$Parade" "stage" "[I").before args s = true := hts _ (List.mem_of_getElem? (i := 3) rfl)
  have f55 : (Cond.fieldLink RX0 55 "LanternWalk$Parade" "hasGone" "[Z").before args s = true := hts _ (List.mem_of_getElem? (i := 4) rfl)
  have f31 : (Cond.fieldLink RX0 31 "LanternWalk$Parade" "place" "[I").before args s = true := hts _ (List.mem_of_getElem? (i := 5) rfl)
  refine lv_iconst (v := (-1)) hx hb dX0_foremostToGo_0 rfl ?_
  refine lv_istore_n (lv' := [(1, .int (-1)), (0, .ref (a 0))]) hx hb dX0_foremostToGo_1 rfl hl (by decide) rfl (fun ls hl => ?_)
  refine lv_iconst (v := (-1)) hx hb dX0_foremostToGo_2 rfl ?_
  refine lv_istore_n (lv' := [(2, .int (-1)), (1, .int (-1)), (0, .ref (a 0))]) hx hb dX0_foremostToGo_3 rfl hl (by decide) rfl (fun ls hl => ?_)
  refine lv_iconst (v := nI 0) hx hb dX0_foremostToGo_4 rfl ?_
  refine lv_istore_n (lv' := [(3, .int (nI 0)), (2, .int (-1)), (1, .int (-1)), (0, .ref (a 0))]) hx hb dX0_foremostToGo_5 rfl hl (by decide) rfl (fun ls hl => ?_)
  have L6_1 : ∀ (fuel : Nat) (k : Nat), (nw - k) < fuel → k ≤ nw → ∀ (locs : List Loc), va_S (fun _ => False) H H locs → ∀ (ls : Array Slot), lv_has ls 4 [(3, .int (nI k)), (2, .int ((fg σ κ k).1)), (1, .int ((fg σ κ k).2)), (0, .ref (a 0))] → W p l e ({ frames := 0, cells := 0, slots := 0, locals := 0 } : Room) s m args below meth c H locs 0 0 Q (F0 m 6 ls []) := by
    intro fuel
    induction fuel with
    | zero =>
      intro k hfuel
      exact absurd hfuel (Nat.not_lt_zero _)
    | succ fuel ih6 =>
      intro k hfuel6 hk locs hS ls hl
      refine lv_iload_n hx hb dX0_foremostToGo_6 rfl (lv_at hl 0 rfl) ?_
      refine lv_aload_n hx hb dX0_foremostToGo_7 rfl (lv_at hl 3 rfl) ?_
      refine li_gf0 hx hb hX0 hown hK hP 0 rfl 0 (by decide) f58 rfl dX0_foremostToGo_8 ?_
      refine li_gf1 hx hb hX1 hown hK hP 16 rfl 6 (by decide) f92 rfl dX0_foremostToGo_11 ?_
      refine li_ge (tgt := 61) hx hb dX0_foremostToGo_14 (by decide) (by omega) (by omega) (fun c2 => ?_) (fun c2 => ?_)
      · skip
        refine lv_iload_n hx hb dX0_foremostToGo_61 rfl (lv_at hl 2 rfl) ?_
        refine li_topi (show (fg σ κ k).2 = (fg σ κ nw).2 from by rw [show k = nw by omega]) ?_
        exact hEnd 62 ls locs dX0_foremostToGo_62 hS
      · skip
        refine lv_aload_n hx hb dX0_foremostToGo_17 rfl (lv_at hl 3 rfl) ?_
        refine li_gf0 hx hb hX0 hown hK hP 0 rfl 7 (by decide) f28 rfl dX0_foremostToGo_18 ?_
        refine lv_iload_n hx hb dX0_foremostToGo_21 rfl (lv_at hl 0 rfl) ?_
        refine li_ild hx hb hK hP 6 0 rfl rfl (by omega) (by decide) dX0_foremostToGo_22 ?_
        refine lv_iconst (v := nI 1) hx hb dX0_foremostToGo_23 rfl ?_
        refine lv_icmp_ne (tgt := 55) hx hb dX0_foremostToGo_24 (by decide) (fun c3 => ?_) (fun c3 => ?_)
        · skip
          refine lv_iinc (v := nI (k + 1)) (lv' := [(3, .int (nI (k + 1))), (2, .int ((fg σ κ k).1)), (1, .int ((fg σ κ k).2)), (0, .ref (a 0))]) hx hb dX0_foremostToGo_55 hl (k := 0) rfl (nI_inc _ _) (by decide) rfl (fun ls hl => ?_)
          refine lv_goto (tgt := 6) hx hb dX0_foremostToGo_58 (by decide) ?_
          have hl9 : lv_has ls 4 [(3, .int (nI (k + 1))), (2, .int ((fg σ κ k).1)), (1, .int ((fg σ κ k).2)), (0, .ref (a 0))] := lv_sub hl [0, 1, 2, 3] rfl
          have hl9 : lv_has ls 4 [(3, .int (nI (k + 1))), (2, .int ((fg σ κ (k + 1)).1)), (1, .int ((fg σ κ k).2)), (0, .ref (a 0))] := lv_re hl9 1 rfl (show (fg σ κ k).1 = (fg σ κ (k + 1)).1 from by simp [fg, c2, c3])
          have hl9 : lv_has ls 4 [(3, .int (nI (k + 1))), (2, .int ((fg σ κ (k + 1)).1)), (1, .int ((fg σ κ (k + 1)).2)), (0, .ref (a 0))] := lv_re hl9 2 rfl (show (fg σ κ k).2 = (fg σ κ (k + 1)).2 from by simp [fg, c2, c3])
          exact ih6 (k + 1) (by omega) (by omega) locs hS ls hl9
        · skip
          refine lv_aload_n hx hb dX0_foremostToGo_27 rfl (lv_at hl 3 rfl) ?_
          refine li_gf0 hx hb hX0 hown hK hP 0 rfl 16 (by decide) f55 rfl dX0_foremostToGo_28 ?_
          refine lv_iload_n hx hb dX0_foremostToGo_31 rfl (lv_at hl 0 rfl) ?_
          refine li_zld hx hb hK hP 15 1 rfl rfl (by omega) (by decide) dX0_foremostToGo_32 ?_
          refine lv_if_ne (tgt := 55) hx hb dX0_foremostToGo_33 (by decide) (fun c4 => ?_) (fun c4 => ?_)
          · skip
            refine lv_iinc (v := nI (k + 1)) (lv' := [(3, .int (nI (k + 1))), (2, .int ((fg σ κ k).1)), (1, .int ((fg σ κ k).2)), (0, .ref (a 0))]) hx hb dX0_foremostToGo_55 hl (k := 0) rfl (nI_inc _ _) (by decide) rfl (fun ls hl => ?_)
            refine lv_goto (tgt := 6) hx hb dX0_foremostToGo_58 (by decide) ?_
            have hl9 : lv_has ls 4 [(3, .int (nI (k + 1))), (2, .int ((fg σ κ k).1)), (1, .int ((fg σ κ k).2)), (0, .ref (a 0))] := lv_sub hl [0, 1, 2, 3] rfl
            have hl9 : lv_has ls 4 [(3, .int (nI (k + 1))), (2, .int ((fg σ κ (k + 1)).1)), (1, .int ((fg σ κ k).2)), (0, .ref (a 0))] := lv_re hl9 1 rfl (show (fg σ κ k).1 = (fg σ κ (k + 1)).1 from by simp [fg, c2, c3, c4])
            have hl9 : lv_has ls 4 [(3, .int (nI (k + 1))), (2, .int ((fg σ κ (k + 1)).1)), (1, .int ((fg σ κ (k + 1)).2)), (0, .ref (a 0))] := lv_re hl9 2 rfl (show (fg σ κ k).2 = (fg σ κ (k + 1)).2 from by simp [fg, c2, c3, c4])
            exact ih6 (k + 1) (by omega) (by omega) locs hS ls hl9
          · skip
            refine lv_aload_n hx hb dX0_foremostToGo_36 rfl (lv_at hl 3 rfl) ?_
            refine li_gf0 hx hb hX0 hown hK hP 0 rfl 8 (by decide) f31 rfl dX0_foremostToGo_37 ?_
            refine lv_iload_n hx hb dX0_foremostToGo_40 rfl (lv_at hl 0 rfl) ?_
            refine li_ild hx hb hK hP 7 0 rfl rfl (by omega) (by decide) dX0_foremostToGo_41 ?_
            refine lv_iload_n hx hb dX0_foremostToGo_42 rfl (lv_at hl 1 rfl) ?_
            refine lv_icmp_le (tgt := 55) hx hb dX0_foremostToGo_43 (by decide) (fun c5 => ?_) (fun c5 => ?_)
            · skip
              refine lv_iinc (v := nI (k + 1)) (lv' := [(3, .int (nI (k + 1))), (2, .int ((fg σ κ k).1)), (1, .int ((fg σ κ k).2)), (0, .ref (a 0))]) hx hb dX0_foremostToGo_55 hl (k := 0) rfl (nI_inc _ _) (by decide) rfl (fun ls hl => ?_)
              refine lv_goto (tgt := 6) hx hb dX0_foremostToGo_58 (by decide) ?_
              have hl9 : lv_has ls 4 [(3, .int (nI (k + 1))), (2, .int ((fg σ κ k).1)), (1, .int ((fg σ κ k).2)), (0, .ref (a 0))] := lv_sub hl [0, 1, 2, 3] rfl
              have hl9 : lv_has ls 4 [(3, .int (nI (k + 1))), (2, .int ((fg σ κ (k + 1)).1)), (1, .int ((fg σ κ k).2)), (0, .ref (a 0))] := lv_re hl9 1 rfl (show (fg σ κ k).1 = (fg σ κ (k + 1)).1 from by simp [fg, c2, c3, c4, c5])
              have hl9 : lv_has ls 4 [(3, .int (nI (k + 1))), (2, .int ((fg σ κ (k + 1)).1)), (1, .int ((fg σ κ (k + 1)).2)), (0, .ref (a 0))] := lv_re hl9 2 rfl (show (fg σ κ k).2 = (fg σ κ (k + 1)).2 from by simp [fg, c2, c3, c4, c5])
              exact ih6 (k + 1) (by omega) (by omega) locs hS ls hl9
            · skip
              refine lv_aload_n hx hb dX0_foremostToGo_46 rfl (lv_at hl 3 rfl) ?_
              refine li_gf0 hx hb hX0 hown hK hP 0 rfl 8 (by decide) f31 rfl dX0_foremostToGo_47 ?_
              refine lv_iload_n hx hb dX0_foremostToGo_50 rfl (lv_at hl 0 rfl) ?_
              refine li_ild hx hb hK hP 7 0 rfl rfl (by omega) (by decide) dX0_foremostToGo_51 ?_
              refine lv_istore_n (lv' := [(2, .int (σ 13 k)), (3, .int (nI k)), (1, .int ((fg σ κ k).2)), (0, .ref (a 0))]) hx hb dX0_foremostToGo_52 rfl hl (by decide) rfl (fun ls hl => ?_)
              refine lv_iload_n hx hb dX0_foremostToGo_53 rfl (lv_at hl 1 rfl) ?_
              refine lv_istore_n (lv' := [(1, .int (nI k)), (2, .int (σ 13 k)), (3, .int (nI k)), (0, .ref (a 0))]) hx hb dX0_foremostToGo_54 rfl hl (by decide) rfl (fun ls hl => ?_)
              refine lv_iinc (v := nI (k + 1)) (lv' := [(3, .int (nI (k + 1))), (1, .int (nI k)), (2, .int (σ 13 k)), (0, .ref (a 0))]) hx hb dX0_foremostToGo_55 hl (k := 2) rfl (nI_inc _ _) (by decide) rfl (fun ls hl => ?_)
              refine lv_goto (tgt := 6) hx hb dX0_foremostToGo_58 (by decide) ?_
              have hl9 : lv_has ls 4 [(3, .int (nI (k + 1))), (2, .int (σ 13 k)), (1, .int (nI k)), (0, .ref (a 0))] := lv_sub hl [0, 2, 1, 3] rfl
              have hl9 : lv_has ls 4 [(3, .int (nI (k + 1))), (2, .int ((fg σ κ (k + 1)).1)), (1, .int (nI k)), (0, .ref (a 0))] := lv_re hl9 1 rfl (show σ 13 k = (fg σ κ (k + 1)).1 from by simp [fg, c2, c3, c4, c5])
              have hl9 : lv_has ls 4 [(3, .int (nI (k + 1))), (2, .int ((fg σ κ (k + 1)).1)), (1, .int ((fg σ κ (k + 1)).2)), (0, .ref (a 0))] := lv_re hl9 2 rfl (show nI k = (fg σ κ (k + 1)).2 from by simp [fg, c2, c3, c4, c5])
              exact ih6 (k + 1) (by omega) (by omega) locs hS ls hl9
  have hl9 : lv_has ls 4 [(3, .int (nI 0)), (2, .int (-1)), (1, .int (-1)), (0, .ref (a 0))] := lv_sub hl [0, 1, 2, 3] rfl
  have hl9 : lv_has ls 4 [(3, .int (nI 0)), (2, .int ((fg σ κ 0).1)), (1, .int (-1)), (0, .ref (a 0))] := lv_re hl9 1 rfl (show (-1) = (fg σ κ 0).1 from rfl)
  have hl9 : lv_has ls 4 [(3, .int (nI 0)), (2, .int ((fg σ κ 0).1)), (1, .int ((fg σ κ 0).2)), (0, .ref (a 0))] := lv_re hl9 2 rfl (show (-1) = (fg σ κ 0).2 from rfl)
  exact L6_1 ((nw - 0) + 1) 0 (Nat.lt_succ_self _) (by omega) locs hS ls hl9
set_option maxHeartbeats 4000000 in
set_option maxRecDepth 100000 in
theorem c_X1_stretchEndingAt (l : Launch) (D : va_G) (cI cZ cL cO : ClassId) (a : Nat → Nat) (n pl nw ns : Nat) (σ κ : Nat → Nat → Int32) (H : Heap) (z : Int32) (hB : n ≤ 10 ∧ pl ≤ 200 ∧ nw ≤ 20 ∧ ns ≤ 6) : Met l yX1_stretchEndingAt wsX1_stretchEndingAt ({ frames := 0, cells := 0, slots := 0, locals := 0 } : Room) (ro_P D (T4 cI cZ cL cO) (wP cI cZ a n pl nw ns σ κ) H [.ref (a 16), .int z]) (ro_Q (oI (se σ n z)) H) 0 0 (fun _ => False) := by
  refine ro_of (cc := cX1_stretchEndingAt) (maxL := 3) (by decide) rfl (Nat.le_of_ble_eq_true rfl) rfl ?_
  intro p e s m args below meth c Q ls locs hx hb hml hown hts hK hE hP hl hS hEnd
  have hl : lv_has ls 3 [(0, .ref (a 16)), (1, .int z)] := hl
  have hX1 : ∀ w ∈ wsX10, w.before args s = true := fun w h => hts w (List.mem_cons_of_mem _ (List.mem_append_right _ (h)))
  have f33 : (Cond.fieldLink RX1 33 "LanternWalk$Setting" "stretches" "I").before args s = true := hts _ (List.mem_of_getElem? (i := 1) rfl)
  have f18 : (Cond.fieldLink RX1 18 "LanternWalk$Setting" "first" "[I").before args s = true := hts _ (List.mem_of_getElem? (i := 2) rfl)
  have f9 : (Cond.fieldLink RX1 9 "LanternWalk$Setting" "length" "[I").before args s = true := hts _ (List.mem_of_getElem? (i := 3) rfl)
  refine lv_iconst (v := nI 0) hx hb dX1_stretchEndingAt_0 rfl ?_
  refine lv_istore_n (lv' := [(2, .int (nI 0)), (0, .ref (a 16)), (1, .int z)]) hx hb dX1_stretchEndingAt_1 rfl hl (by decide) rfl (fun ls hl => ?_)
  have L2_1 : ∀ (fuel : Nat) (k : Nat), (n - k) < fuel → k ≤ n → fnd (seS σ z) k = none → ∀ (locs : List Loc), va_S (fun _ => False) H H locs → ∀ (ls : Array Slot), lv_has ls 3 [(2, .int (nI k)), (0, .ref (a 16)), (1, .int z)] → W p l e ({ frames := 0, cells := 0, slots := 0, locals := 0 } : Room) s m args below meth c H locs 0 0 Q (F0 m 2 ls []) := by
    intro fuel
    induction fuel with
    | zero =>
      intro k hfuel
      exact absurd hfuel (Nat.not_lt_zero _)
    | succ fuel ih2 =>
      intro k hfuel2 hk ha locs hS ls hl
      refine lv_iload_n hx hb dX1_stretchEndingAt_2 rfl (lv_at hl 0 rfl) ?_
      refine lv_aload_n hx hb dX1_stretchEndingAt_3 rfl (lv_at hl 1 rfl) ?_
      refine li_gf1 hx hb hX1 hown hK hP 16 rfl 0 (by decide) f33 rfl dX1_stretchEndingAt_4 ?_
      refine li_ge (tgt := 37) hx hb dX1_stretchEndingAt_7 (by decide) (by omega) (by omega) (fun c2 => ?_) (fun c2 => ?_)
      · skip
        refine lv_iconst (v := (-1)) hx hb dX1_stretchEndingAt_37 rfl ?_
        refine li_topi (show (-1) = oI (se σ n z) from by first | (rw [show se σ n z = some k from fnd_s (by omega) ha (by simp [seS, c2])]; rfl) | (rw [show se σ n z = none from by unfold se; rw [show n = k by omega]; exact ha]; rfl)) ?_
        exact hEnd 38 ls locs dX1_stretchEndingAt_38 hS
      · skip
        refine lv_aload_n hx hb dX1_stretchEndingAt_10 rfl (lv_at hl 1 rfl) ?_
        refine li_gf1 hx hb hX1 hown hK hP 16 rfl 4 (by decide) f18 rfl dX1_stretchEndingAt_11 ?_
        refine lv_iload_n hx hb dX1_stretchEndingAt_14 rfl (lv_at hl 0 rfl) ?_
        refine li_ild hx hb hK hP 19 0 rfl rfl (by omega) (by decide) dX1_stretchEndingAt_15 ?_
        refine lv_aload_n hx hb dX1_stretchEndingAt_16 rfl (lv_at hl 1 rfl) ?_
        refine li_gf1 hx hb hX1 hown hK hP 16 rfl 2 (by decide) f9 rfl dX1_stretchEndingAt_17 ?_
        refine lv_iload_n hx hb dX1_stretchEndingAt_20 rfl (lv_at hl 0 rfl) ?_
        refine li_ild hx hb hK hP 17 0 rfl rfl (by omega) (by decide) dX1_stretchEndingAt_21 ?_
        refine lv_iadd hx hb dX1_stretchEndingAt_22 ?_
        refine lv_iconst (v := nI 1) hx hb dX1_stretchEndingAt_23 rfl ?_
        refine lv_isub hx hb dX1_stretchEndingAt_24 ?_
        refine lv_iload_n hx hb dX1_stretchEndingAt_25 rfl (lv_at hl 2 rfl) ?_
        refine lv_icmp_ne (tgt := 31) hx hb dX1_stretchEndingAt_26 (by decide) (fun c3 => ?_) (fun c3 => ?_)
        · skip
          refine lv_iinc (v := nI (k + 1)) (lv' := [(2, .int (nI (k + 1))), (0, .ref (a 16)), (1, .int z)]) hx hb dX1_stretchEndingAt_31 hl (k := 0) rfl (nI_inc _ _) (by decide) rfl (fun ls hl => ?_)
          refine lv_goto (tgt := 2) hx hb dX1_stretchEndingAt_34 (by decide) ?_
          have hl9 : lv_has ls 3 [(2, .int (nI (k + 1))), (0, .ref (a 16)), (1, .int z)] := lv_sub hl [0, 1, 2] rfl
          exact ih2 (k + 1) (by omega) (by omega) (fnd_n ha (by simp [seS, c2, c3])) locs hS ls hl9
        · skip
          refine lv_iload_n hx hb dX1_stretchEndingAt_29 rfl (lv_at hl 0 rfl) ?_
          refine li_topi (show nI k = oI (se σ n z) from by first | (rw [show se σ n z = some k from fnd_s (by omega) ha (by simp [seS, c2, c3])]; rfl) | (rw [show se σ n z = none from by unfold se; rw [show n = k by omega]; exact ha]; rfl)) ?_
          exact hEnd 30 ls locs dX1_stretchEndingAt_30 hS
  have hl9 : lv_has ls 3 [(2, .int (nI 0)), (0, .ref (a 16)), (1, .int z)] := lv_sub hl [0, 1, 2] rfl
  exact L2_1 ((n - 0) + 1) 0 (Nat.lt_succ_self _) (by omega) (rfl) locs hS ls hl9
set_option maxHeartbeats 4000000 in
set_option maxRecDepth 100000 in
theorem c_X1_hasStretch (l : Launch) (D : va_G) (cI cZ cL cO : ClassId) (a : Nat → Nat) (n pl nw ns : Nat) (σ κ : Nat → Nat → Int32) (H : Heap) (z : Int32) (hB : n ≤ 10 ∧ pl ≤ 200 ∧ nw ≤ 20 ∧ ns ≤ 6) : Met l yX1_hasStretch wsX1_hasStretch ({ frames := 0, cells := 0, slots := 0, locals := 0 } : Room) (ro_P D (T4 cI cZ cL cO) (wP cI cZ a n pl nw ns σ κ) H [.ref (a 16), .int z]) (ro_Q (zI (has n z)) H) 0 0 (fun _ => False) := by
  refine ro_of (cc := cX1_hasStretch) (maxL := 2) (by decide) rfl (Nat.le_of_ble_eq_true rfl) (zI_n _) ?_
  intro p e s m args below meth c Q ls locs hx hb hml hown hts hK hE hP hl hS hEnd
  have hl : lv_has ls 2 [(0, .ref (a 16)), (1, .int z)] := hl
  have hX1 : ∀ w ∈ wsX10, w.before args s = true := fun w h => hts w (List.mem_cons_of_mem _ (List.mem_append_right _ (h)))
  have f33 : (Cond.fieldLink RX1 33 "LanternWalk$Setting" "stretches" "I").before args s = true := hts _ (List.mem_of_getElem? (i := 1) rfl)
  refine lv_iload_n hx hb dX1_hasStretch_0 rfl (lv_at hl 1 rfl) ?_
  refine lv_if_lt (tgt := 16) hx hb dX1_hasStretch_1 (by decide) (fun c1 => ?_) (fun c1 => ?_)
  · skip
    refine lv_iconst (v := nI 0) hx hb dX1_hasStretch_16 rfl ?_
    refine li_topi (show nI 0 = zI (has n z) from by simp [has, zI, c1]) ?_
    exact hEnd 17 ls locs dX1_hasStretch_17 hS
  · skip
    refine lv_iload_n hx hb dX1_hasStretch_4 rfl (lv_at hl 1 rfl) ?_
    refine lv_aload_n hx hb dX1_hasStretch_5 rfl (lv_at hl 0 rfl) ?_
    refine li_gf1 hx hb hX1 hown hK hP 16 rfl 0 (by decide) f33 rfl dX1_hasStretch_6 ?_
    refine lv_icmp_ge (tgt := 16) hx hb dX1_hasStretch_9 (by decide) (fun c2 => ?_) (fun c2 => ?_)
    · skip
      refine lv_iconst (v := nI 0) hx hb dX1_hasStretch_16 rfl ?_
      refine li_topi (show nI 0 = zI (has n z) from by simp [has, zI, c1, c2]) ?_
      exact hEnd 17 ls locs dX1_hasStretch_17 hS
    · skip
      refine lv_iconst (v := nI 1) hx hb dX1_hasStretch_12 rfl ?_
      refine lv_goto (tgt := 17) hx hb dX1_hasStretch_13 (by decide) ?_
      refine li_topi (show nI 1 = zI (has n z) from by simp [has, zI, c1, c2]) ?_
      exact hEnd 17 ls locs dX1_hasStretch_17 hS
set_option maxHeartbeats 4000000 in
set_option maxRecDepth 100000 in
theorem c_X1_hasWalker (l : Launch) (D : va_G) (cI cZ cL cO : ClassId) (a : Nat → Nat) (n pl nw ns : Nat) (σ κ : Nat → Nat → Int32) (H : Heap) (z : Int32) (hB : n ≤ 10 ∧ pl ≤ 200 ∧ nw ≤ 20 ∧ ns ≤ 6) : Met l yX1_hasWalker wsX1_hasWalker ({ frames := 0, cells := 0, slots := 0, locals := 0 } : Room) (ro_P D (T4 cI cZ cL cO) (wP cI cZ a n pl nw ns σ κ) H [.ref (a 16), .int z]) (ro_Q (zI (has nw z)) H) 0 0 (fun _ => False) := by
  refine ro_of (cc := cX1_hasWalker) (maxL := 2) (by decide) rfl (Nat.le_of_ble_eq_true rfl) (zI_n _) ?_
  intro p e s m args below meth c Q ls locs hx hb hml hown hts hK hE hP hl hS hEnd
  have hl : lv_has ls 2 [(0, .ref (a 16)), (1, .int z)] := hl
  have hX1 : ∀ w ∈ wsX10, w.before args s = true := fun w h => hts w (List.mem_cons_of_mem _ (List.mem_append_right _ (h)))
  have f37 : (Cond.fieldLink RX1 37 "LanternWalk$Setting" "walkers" "I").before args s = true := hts _ (List.mem_of_getElem? (i := 1) rfl)
  refine lv_iload_n hx hb dX1_hasWalker_0 rfl (lv_at hl 1 rfl) ?_
  refine lv_if_lt (tgt := 16) hx hb dX1_hasWalker_1 (by decide) (fun c1 => ?_) (fun c1 => ?_)
  · skip
    refine lv_iconst (v := nI 0) hx hb dX1_hasWalker_16 rfl ?_
    refine li_topi (show nI 0 = zI (has nw z) from by simp [has, zI, c1]) ?_
    exact hEnd 17 ls locs dX1_hasWalker_17 hS
  · skip
    refine lv_iload_n hx hb dX1_hasWalker_4 rfl (lv_at hl 1 rfl) ?_
    refine lv_aload_n hx hb dX1_hasWalker_5 rfl (lv_at hl 0 rfl) ?_
    refine li_gf1 hx hb hX1 hown hK hP 16 rfl 6 (by decide) f37 rfl dX1_hasWalker_6 ?_
    refine lv_icmp_ge (tgt := 16) hx hb dX1_hasWalker_9 (by decide) (fun c2 => ?_) (fun c2 => ?_)
    · skip
      refine lv_iconst (v := nI 0) hx hb dX1_hasWalker_16 rfl ?_
      refine li_topi (show nI 0 = zI (has nw z) from by simp [has, zI, c1, c2]) ?_
      exact hEnd 17 ls locs dX1_hasWalker_17 hS
    · skip
      refine lv_iconst (v := nI 1) hx hb dX1_hasWalker_12 rfl ?_
      refine lv_goto (tgt := 17) hx hb dX1_hasWalker_13 (by decide) ?_
      refine li_topi (show nI 1 = zI (has nw z) from by simp [has, zI, c1, c2]) ?_
      exact hEnd 17 ls locs dX1_hasWalker_17 hS
set_option maxHeartbeats 4000000 in
set_option maxRecDepth 100000 in
theorem c_X1_hasSong (l : Launch) (D : va_G) (cI cZ cL cO : ClassId) (a : Nat → Nat) (n pl nw ns : Nat) (σ κ : Nat → Nat → Int32) (H : Heap) (z : Int32) (hB : n ≤ 10 ∧ pl ≤ 200 ∧ nw ≤ 20 ∧ ns ≤ 6) : Met l yX1_hasSong wsX1_hasSong ({ frames := 0, cells := 0, slots := 0, locals := 0 } : Room) (ro_P D (T4 cI cZ cL cO) (wP cI cZ a n pl nw ns σ κ) H [.ref (a 16), .int z]) (ro_Q (zI (has ns z)) H) 0 0 (fun _ => False) := by
  refine ro_of (cc := cX1_hasSong) (maxL := 2) (by decide) rfl (Nat.le_of_ble_eq_true rfl) (zI_n _) ?_
  intro p e s m args below meth c Q ls locs hx hb hml hown hts hK hE hP hl hS hEnd
  have hl : lv_has ls 2 [(0, .ref (a 16)), (1, .int z)] := hl
  have hX1 : ∀ w ∈ wsX10, w.before args s = true := fun w h => hts w (List.mem_cons_of_mem _ (List.mem_append_right _ (h)))
  have f40 : (Cond.fieldLink RX1 40 "LanternWalk$Setting" "songs" "I").before args s = true := hts _ (List.mem_of_getElem? (i := 1) rfl)
  refine lv_iload_n hx hb dX1_hasSong_0 rfl (lv_at hl 1 rfl) ?_
  refine lv_if_lt (tgt := 16) hx hb dX1_hasSong_1 (by decide) (fun c1 => ?_) (fun c1 => ?_)
  · skip
    refine lv_iconst (v := nI 0) hx hb dX1_hasSong_16 rfl ?_
    refine li_topi (show nI 0 = zI (has ns z) from by simp [has, zI, c1]) ?_
    exact hEnd 17 ls locs dX1_hasSong_17 hS
  · skip
    refine lv_iload_n hx hb dX1_hasSong_4 rfl (lv_at hl 1 rfl) ?_
    refine lv_aload_n hx hb dX1_hasSong_5 rfl (lv_at hl 0 rfl) ?_
    refine li_gf1 hx hb hX1 hown hK hP 16 rfl 9 (by decide) f40 rfl dX1_hasSong_6 ?_
    refine lv_icmp_ge (tgt := 16) hx hb dX1_hasSong_9 (by decide) (fun c2 => ?_) (fun c2 => ?_)
    · skip
      refine lv_iconst (v := nI 0) hx hb dX1_hasSong_16 rfl ?_
      refine li_topi (show nI 0 = zI (has ns z) from by simp [has, zI, c1, c2]) ?_
      exact hEnd 17 ls locs dX1_hasSong_17 hS
    · skip
      refine lv_iconst (v := nI 1) hx hb dX1_hasSong_12 rfl ?_
      refine lv_goto (tgt := 17) hx hb dX1_hasSong_13 (by decide) ?_
      refine li_topi (show nI 1 = zI (has ns z) from by simp [has, zI, c1, c2]) ?_
      exact hEnd 17 ls locs dX1_hasSong_17 hS
end
section
/-! ROWS copied, rows filled: static calls on one row or two of a larger world -/
def cpk (f g : Nat → Int32) (k : Nat) : Nat → Int32 := fun j => if j < k then f j else g j
theorem cpk_0 (f g : Nat → Int32) : cpk f g 0 = g := by funext j; simp [cpk]
theorem cpk_s (f g : Nat → Int32) (k : Nat) : upd (cpk f g k) k (f k) = cpk f g (k + 1) := by
  funext j
  unfold upd cpk
  by_cases h : j = k
  · subst h; simp
  · rw [if_neg h]
    by_cases h2 : j < k
    · rw [if_pos h2, if_pos (by omega)]
    · rw [if_neg h2, if_neg (by omega)]
theorem cpk_c (f g : Nat → Int32) (n : Nat) : va_cpy f g 0 0 n = cpk f g n := by
  funext j
  unfold va_cpy cpk
  by_cases h : j < n
  · rw [if_pos ⟨Nat.zero_le _, by omega⟩, if_pos h]
    congr 1
    omega
  · rw [if_neg (fun q => h (by omega)), if_neg h]
theorem D2_ {A : Nat → Prop} {b0 b1 : Nat} {e0 e1 : va_E} (h : b0 ≠ b1) (h0 : A b0) (h1 : A b1) : va_D A [(b0, e0), (b1, e1)] := by
  refine ⟨fun i j p q hi hj hpq => ?_, fun k q hk => ?_⟩
  · match i, j, hi, hj with
    | 0, 0, hi, hj => rfl
    | 0, 1, hi, hj => cases hi; cases hj; exact absurd hpq h
    | 1, 0, hi, hj => cases hi; cases hj; exact absurd hpq.symm h
    | 1, 1, hi, hj => rfl
    | i + 2, _, hi, _ => simp at hi
    | _, j + 2, _, hj => simp at hj
  · match k, hk with
    | 0, hk => cases hk; exact h0
    | 1, hk => cases hk; exact h1
    | k + 2, hk => simp at hk
theorem D1_ {A : Nat → Prop} {b0 : Nat} {e0 : va_E} (h0 : A b0) : va_D A [(b0, e0)] := by
  refine ⟨fun i j p q hi hj hpq => ?_, fun k q hk => ?_⟩
  · match i, j, hi, hj with
    | 0, 0, hi, hj => rfl
    | i + 1, _, hi, _ => simp at hi
    | _, j + 1, _, hj => simp at hj
  · match k, hk with
    | 0, hk => cases hk; exact h0
    | k + 1, hk => simp at hk
/-- a world whose cell q alone has changed -/
theorem va_P_one {D : va_G} {w : va_W} {A0 : Nat → Prop} {H H1 : Heap} {q0 b : Nat} {e e' : va_E} (hP : va_P D vwCl w H) (hD : va_D A0 w) (hq : w[q0]? = some (b, e)) (he : va_at D vwCl (b, e') H1) (hk : ∀ q : Nat, q < H.size → q ≠ b → H1[q]? = H[q]?) : va_P D vwCl (w.set q0 (b, e')) H1 := by
  have hl := (List.getElem?_eq_some_iff.mp hq).1
  intro k q h
  by_cases hkp : k = q0
  · subst hkp
    rw [List.getElem?_set_self hl] at h
    cases h
    exact he
  · rw [List.getElem?_set_ne (Ne.symm hkp)] at h
    exact (hP k q h).kept (hk q.1 (hP k q h).lt (fun z => hkp (hD.1 k q0 q (b, e) h hq z)))
theorem nI_xor {i j : Nat} (hi : i < 2 ^ 31) (hj : j < 2 ^ 31) : 0 ≤ nI i ^^^ nI j := by
  have h : nI i ^^^ nI j = nI (i ^^^ j) := by
    apply Int32.toBitVec_inj.mp
    show BitVec.ofNat 32 i ^^^ BitVec.ofNat 32 j = BitVec.ofNat 32 (i ^^^ j)
    apply BitVec.eq_of_toNat_eq
    have h3 : i ^^^ j < 2 ^ 31 := Nat.xor_lt_two_pow hi hj
    rw [BitVec.toNat_xor, BitVec.toNat_ofNat, BitVec.toNat_ofNat, BitVec.toNat_ofNat, Nat.mod_eq_of_lt (by omega), Nat.mod_eq_of_lt (by omega), Nat.mod_eq_of_lt (by omega)]
  rw [h]
  exact nI_pos' (Nat.xor_lt_two_pow hi hj)
section LWS
variable {p : Program} {l : Launch} {e : Env} {R : Room} {s : State} {m : MethodId} {args : Array Value} {below : List Frame} {meth : Method} {c : Code} {H : Heap} {locs : List Loc} {cells slots : Nat} {Q : State → Prop}
variable {cc : ByteArray} {pc : Nat} {ls : Array Slot} {rest st0 : List Value} {D : va_G} {tys : List (ClassId × FieldType)} {w w' : va_W} {A A0 : Nat → Prop} {H0 : Heap} {b0 b1 : Nat}
variable {y : MethodName} {bytes : ByteArray} {maxL nL n index : Nat} {ret : Option FieldType} {ws : List Cond} {rm : Room} {Ts : List Cond} {own : String} {q0 q1 N : Nat} {cX : ClassId} {f g : Nat → Int32}
/-- a call that copies the row at q0 into the row at q1 -/
theorem cpS (hx : p.tables.exec = Jvm.exec) (hb : c.code = cc) (hml : c.maxLocals = nL) (hown : s.vm.findClass own = some m.cls) (hts : ∀ w ∈ Ts, w.before args s = true)
    (hM : Met l y ws rm (ro_P D tys [(b0, .inl (cX, N, .inl f)), (b1, .inl (cX, N, .inl g))] H [.ref b0, .ref b1]) (mu_Q D [(b0, .inl (cX, N, .inl f)), (b1, .inl (cX, N, .inl (cpk f g N)))] (fun q => q = b0 ∨ q = b1)) 0 0 (fun q => q = b0 ∨ q = b1)) (cw : CallB R s args own index y bytes maxL ret ws rm 0 0 2 ∧ (Cond.static y).before args s = true)
    (hK : va_K D vwCl tys s) (hE : lwE s) (hP : va_P D vwCl w H) (hD : va_D A w) (h0 : w[q0]? = some (b0, .inl (cX, N, .inl f))) (h1 : w[q1]? = some (b1, .inl (cX, N, .inl g))) (hne : q0 ≠ q1) (hw : w.set q1 (b1, .inl (cX, N, .inl f)) = w') (hsz : ls.size = nL) (hW : (rest.map fun v => v.category).sum ≤ 8) (hS : va_S A H0 H locs) (hdg : decode cc pc = .ok (.invokestatic index, 3)) (hf : cells ≤ R.cells ∧ slots ≤ R.slots)
    (kk : ∀ (H1 : Heap) (locs1 : List Loc), va_P D vwCl w' H1 → va_S A H0 H1 locs1 → W p l e R s m args below meth c H1 locs1 cells slots Q (F0 m (pc + 3) ls rest)) : W p l e R s m args below meth c H locs cells slots Q (F0 m pc ls (.ref b1 :: .ref b0 :: rest)) := by
  have hb01 : b0 ≠ b1 := fun z => hne (hD.1 q0 q1 _ _ h0 h1 z)
  have hA0 : A b0 := hD.2 q0 _ h0
  have hA1 : A b1 := hD.2 q1 _ h1
  have hPc : va_P D vwCl [(b0, .inl (cX, N, .inl f)), (b1, .inl (cX, N, .inl g))] H := by
    intro k q hk
    match k, hk with
    | 0, hk => cases hk; exact hP q0 _ h0
    | 1, hk => cases hk; exact hP q1 _ h1
    | k + 2, hk => simp at hk
  refine muS (As := [.ref b0, .ref b1]) hx hb hml hown hts hM cw hK hE hPc rfl hsz rfl hW hS (fun q h => by rcases h with h | h <;> rw [h] <;> assumption) hdg hf (fun H1 locs1 hP1 hz hk hS1 => kk H1 locs1 ?_ hS1)
  have e0 : va_at D vwCl (b0, .inl (cX, N, .inl f)) H1 := hP1 0 _ rfl
  have e1 : va_at D vwCl (b1, .inl (cX, N, .inl (cpk f g N))) H1 := hP1 1 _ rfl
  have h2 : va_P D vwCl (w.set q1 (b1, .inl (cX, N, .inl (cpk f g N)))) H1 := by
    have hl := (List.getElem?_eq_some_iff.mp h1).1
    intro k q hkq
    by_cases hk1 : k = q1
    · subst hk1
      rw [List.getElem?_set_self hl] at hkq
      cases hkq
      exact e1
    · rw [List.getElem?_set_ne (Ne.symm hk1)] at hkq
      by_cases hk0 : k = q0
      · subst hk0
        have := hkq.symm.trans h0
        cases this
        exact e0
      · refine (hP k q hkq).kept (hk q.1 (hP k q hkq).lt (fun z => ?_))
        rcases z with z | z
        · exact hk0 (hD.1 k q0 q _ hkq h0 z)
        · exact hk1 (hD.1 k q1 q _ hkq h1 z)
  have hl := (List.getElem?_eq_some_iff.mp h1).1
  have h3 := va_P_row (q0 := q1) (g := f) h2 (List.getElem?_set_self hl) (fun j hj => by unfold cpk; rw [if_pos hj])
  rw [List.set_set, hw] at h3
  exact h3
/-- a call that fills the row at q0 with x -/
theorem flS {x : Int32} (hx : p.tables.exec = Jvm.exec) (hb : c.code = cc) (hml : c.maxLocals = nL) (hown : s.vm.findClass own = some m.cls) (hts : ∀ w ∈ Ts, w.before args s = true)
    (hM : Met l y ws rm (ro_P D tys [(b0, .inl (cX, N, .inl f))] H [.ref b0, .int x]) (mu_Q D [(b0, .inl (cX, N, .inl (cpk (fun _ => x) f N)))] (fun q => q = b0)) 0 0 (fun q => q = b0)) (cw : CallB R s args own index y bytes maxL ret ws rm 0 0 2 ∧ (Cond.static y).before args s = true)
    (hK : va_K D vwCl tys s) (hE : lwE s) (hP : va_P D vwCl w H) (hD : va_D A w) (h0 : w[q0]? = some (b0, .inl (cX, N, .inl f))) (hw : w.set q0 (b0, .inl (cX, N, .inl (fun _ => x))) = w') (hsz : ls.size = nL) (hW : (rest.map fun v => v.category).sum ≤ 8) (hS : va_S A H0 H locs) (hdg : decode cc pc = .ok (.invokestatic index, 3)) (hf : cells ≤ R.cells ∧ slots ≤ R.slots)
    (kk : ∀ (H1 : Heap) (locs1 : List Loc), va_P D vwCl w' H1 → va_S A H0 H1 locs1 → W p l e R s m args below meth c H1 locs1 cells slots Q (F0 m (pc + 3) ls rest)) : W p l e R s m args below meth c H locs cells slots Q (F0 m pc ls (.int x :: .ref b0 :: rest)) := by
  have hA0 : A b0 := hD.2 q0 _ h0
  have hPc : va_P D vwCl [(b0, .inl (cX, N, .inl f))] H := by
    intro k q hk
    match k, hk with
    | 0, hk => cases hk; exact hP q0 _ h0
    | k + 1, hk => simp at hk
  refine muS (As := [.ref b0, .int x]) hx hb hml hown hts hM cw hK hE hPc rfl hsz rfl hW hS (fun q h => by rw [h]; exact hA0) hdg hf (fun H1 locs1 hP1 hz hk hS1 => kk H1 locs1 ?_ hS1)
  have e0 : va_at D vwCl (b0, .inl (cX, N, .inl (cpk (fun _ => x) f N))) H1 := hP1 0 _ rfl
  have h2 := va_P_one hP hD h0 e0 hk
  have hl := (List.getElem?_eq_some_iff.mp h0).1
  have h3 := va_P_row (q0 := q0) (g := fun _ => x) h2 (List.getElem?_set_self hl) (fun j hj => by unfold cpk; rw [if_pos hj])
  rw [List.set_set, hw] at h3
  exact h3
end LWS
section LWF
theorem metofWF {l : Launch} {y : MethodName} {ws ws' : List Cond} {rm : Room} {Pc : Array Value → State → Prop} {Qc : Array Value → State → Outcome → State → Prop} {mc ms : Nat} {free : Addr → Prop} {cc : ByteArray} {maxL : Nat} {ret : Option FieldType}
    (hy : plainFor y = true) (hw : ws = Cond.code y cc maxL ret :: ws')
    (body : ∀ p e s m args below meth c s₁, BodyLoose p l y (headSpec ws rm) cc maxL ret e s m args below meth c s₁ → c.maxLocals = maxL → Pc args s →
      W p l e (headSpec ws rm).room s m args below meth c s.heap [] 0 0 (MQ below Qc args s mc ms free) (entryFrame m args maxL)) : Met l y ws rm Pc Qc mc ms free := by
  refine MetFree.of_bodySF (code := cc) (maxLocals := maxL) (ret := ret) hy ?_ ?_
  · intro args s m h hn
    obtain ⟨meth, c, h1, h2, h3, h4, h5, h6, -, -⟩ := Cond.code_spec hn (atoms_spec (ws := ws) h _ (by rw [hw]; exact List.mem_cons_self))
    exact ⟨meth, c, h1, h2, h3, h4, h5, h6⟩
  · intro p e s m args below meth c s₁ B hml hP _
    have hh0 : s₁.heap = s.heap := by rw [B.state]; rfl
    obtain ⟨t, a1, o, b1, b2, b3⟩ := body p e s m args below meth c s₁ B hml hP s₁ hh0 (Stand.of_body B)
    exact ⟨t, o, a1, b1, b2, ⟨b3.1, b3.2⟩⟩
variable {l : Launch} {y : MethodName} {ws ws' : List Cond} {rm : Room} {cc : ByteArray} {maxL : Nat} {ty : FieldType} {D : va_G} {tys : List (ClassId × FieldType)} {w w' : va_W} {H : Heap} {av : List Value} {v : Int32} {A : Nat → Prop}
/-- a read-only method, from its body -/
theorem ro_ofF (hy : plainFor y = true) (hw : ws = Cond.code y cc maxL (some ty) :: ws') (hlen : (lg_sl av).length ≤ maxL) (hn : narrow ty (.int v) = .int v)
    (body : ∀ (p : Program) (e : Env) (s : State) (m : MethodId) (args : Array Value) (below : List Frame) (meth : Method) (c : Code) (Q : State → Prop) (ls : Array Slot) (locs : List Loc),
      p.tables.exec = Jvm.exec → c.code = cc → c.maxLocals = maxL → s.vm.findClass y.cls = some m.cls → (∀ w ∈ ws, w.before args s = true) → va_K D vwCl tys s → lwE s → va_P D vwCl w H → lv_has ls maxL (lv_args 0 av) → va_S (fun _ => False) H H locs →
      (∀ (pc : Nat) (ls : Array Slot) (locs : List Loc), decode cc pc = .ok (.ireturn, 1) → va_S (fun _ => False) H H locs → W p l e rm s m args below meth c H locs 0 0 Q (F0 m pc ls [.int v])) →
      W p l e rm s m args below meth c H locs 0 0 Q (F0 m 0 ls [])) : Met l y ws rm (ro_P D tys w H av) (ro_Q v H) 0 0 (fun _ => False) := by
  refine metofWF (cc := cc) (maxL := maxL) (ret := some ty) hy hw ?_
  intro p e s m args below meth c s₁ B hml hv
  obtain ⟨rfl, rfl, hP, hK, hE⟩ := hv
  have hx := B.exec
  have hb := B.bytes
  have hr := B.returns
  have hts := atoms_spec (ws := ws) B.pre
  have hown : s.vm.findClass y.cls = some m.cls := findClass_of_methodNamed B.named
  have hlocks := B.notSynchronized
  have hl := lv_entry av (n := maxL) hlen
  rw [lg_entry_eq]
  generalize (lg_sl av ++ List.replicate (maxL - (lg_sl av).length) Slot.unset).toArray = ls at hl ⊢
  exact body p e s m _ below meth c _ ls [] hx hb hml hown hts hK hE hP hl va_S.rf (fun pc ls locs hd hS => W.zret (v := v) hx hb hr hn (fun t ht hW => ⟨⟨v, (), rfl, rfl, ht⟩, hS.F ht⟩) hS.2.2 hd hlocks)
end LWF
end
section
/-! SPEC of a step, in the order of the class: over pairs (rows, notes) -/
abbrev P2 : Type := Sg × Sg
def foldN {α : Type} (f : Nat → α → α) : Nat → α → α
  | 0, x => x
  | k + 1, x => f k (foldN f k x)
def nN (x : Int32) : Nat := x.toNatClampNeg
theorem nN_nI {k : Nat} (h : k < 2 ^ 31) : nN (nI k) = k := nI_clamp h
def mx0 (x : Int32) : Int32 := if nI 0 < x then x else nI 0
def bd1 (loss : Int32) (w : Nat) (σ : Sg) : Sg :=
  if ¬ σ 11 w = 0 ∧ ¬ σ 12 w = nI 2 then up2 (up2 σ 10 w (mx0 (σ 10 w - loss))) 11 w (if mx0 (σ 10 w - loss) ≤ 0 then nI 0 else nI 1) else σ
def lossOf (x : Int32) : Int32 := if x < nI 6 then nI 1 else nI 2
def bdF (x : Int32) (nw : Nat) (σ : Sg) : Sg := foldN (bd1 (lossOf x)) nw σ
def bo1 (nw w : Nat) (σ : Sg) : Sg := if σ 12 w = nI 1 ∧ nb σ nw w < 2 then up2 σ 11 w (nI 0) else σ
def boF (x : Int32) (nw : Nat) (σ : Sg) : Sg := if x < nI 8 then σ else foldN (bo1 nw) nw σ
def le1 (κ : Sg) (nw w : Nat) (σ : Sg) : Sg := if σ 12 w = nI 1 ∧ ¬ σ 10 w ≤ 0 ∧ bb σ κ nw w = true then up2 σ 11 w (nI 1) else σ
def leK (q : P2) : Sg := va_up q.2 0 (q.1 11)
def leF (nw : Nat) (q : P2) : P2 := (foldN (le1 (leK q) nw) nw q.1, leK q)
def rem99 (x : Int32) : Int32 := x - x / nI 99 * nI 99
def lis1 (learner singer : Nat) (voice heard : Int32) (ch : Bool) (sg : Nat) (q : P2) : P2 :=
  if q.2 1 (6 * learner + sg) = 0 ∧ ¬ q.2 1 (6 * singer + sg) = 0 ∧ ¬ voice ≤ q.2 2 sg then
    (if heard < q.1 6 sg then q.1 else up2 q.1 16 (6 * learner + sg) (if ch = true then rem99 (q.2 1 (6 * singer + sg)) + nI 1 else q.2 1 (6 * singer + sg)), up2 q.2 2 sg voice)
  else q
def hrd (σ : Sg) (learner singer : Nat) : Int32 := if σ 11 learner = 0 then σ 5 singer + nI 3 else σ 5 singer
def chg (σ : Sg) (learner singer : Nat) : Bool := decide (¬ σ 11 learner = 0) && decide (¬ σ 11 singer = 0)
def lisF (learner singer ns : Nat) (q : P2) : P2 := foldN (lis1 learner singer (q.1 5 singer) (hrd q.1 learner singer) (chg q.1 learner singer)) ns q
def la1 (ns learner w : Nat) (q : P2) : P2 := if nbr q.1 learner w = true then lisF learner w ns q else q
def laF (nw ns learner : Nat) (q : P2) : P2 := foldN (la1 ns learner) nw (q.1, va_up q.2 2 (fun _ => -1))
def sg1 (nw ns w : Nat) (q : P2) : P2 := if q.1 12 w = nI 1 then laF nw ns w q else q
def sgF (nw ns : Nat) (q : P2) : P2 := foldN (sg1 nw ns) nw (q.1, va_up q.2 1 (q.1 16))
def ch1 (w : Nat) (σ : Sg) : Sg := up2 (up2 (up2 σ 12 w (nI 2)) 13 w (-1)) 15 w (σ 17 0)
def pcB (s : Nat) (q : P2) : Bool := decide (0 < q.2 3 s)
def pcQ (s : Nat) (q : P2) : P2 := if 0 < q.2 3 s then (up2 q.1 8 s (q.1 8 s + nI 1), up2 q.2 3 s (q.2 3 s - nI 1)) else (up2 q.1 9 s (q.1 9 s + nI 1), q.2)
def g2 (pl w : Nat) (z : Int32) (q : P2) : Bool × P2 := if nI pl ≤ z then (false, (ch1 w q.1, q.2)) else (true, (up2 q.1 13 w z, q.2))
/-- one place further: whether there may be more to go, and what is then -/
def g1 (n pl nw w : Nat) (q : P2) : Bool × P2 :=
  if 2 ≤ wa q.1 nw (q.1 13 w + nI 1) then (false, q) else
  match se q.1 n (q.1 13 w) with
  | none => g2 pl w (q.1 13 w + nI 1) q
  | some s => if pcB s q = true then g2 pl w (q.1 13 w + nI 1) (pcQ s q) else (false, pcQ s q)
def wl (n pl nw w : Nat) : Nat → Bool × P2 → Bool × P2
  | 0, r => r
  | k + 1, r => if r.1 = true then wl n pl nw w k (g1 n pl nw w r.2) else r
def wk0 (w : Nat) (σ : Sg) : Sg := if σ 11 w = 0 then up2 σ 14 w (σ 14 w + nI 1) else σ
def mxp (P : Nat) : Nat := if P ≤ 2 then 1 else P - 1
def wkP (w : Nat) (σ : Sg) : Nat := if σ 11 w = 0 then mxp (nN (σ 4 w)) else nN (σ 4 w)
def wkF (n pl nw w : Nat) (q : P2) : P2 := (wl n pl nw w (wkP w q.1) (true, (wk0 w q.1, q.2))).2
def goL (n pl nw : Nat) : Nat → P2 → P2
  | 0, q => q
  | k + 1, q => if (fg q.1 q.2 nw).2 = -1 then q else goL n pl nw k (wkF n pl nw (nN (fg q.1 q.2 nw).2) (q.1, up2 q.2 4 (nN (fg q.1 q.2 nw).2) (nI 1)))
def sl1 (σ : Sg) (s : Nat) (κ : Sg) : Sg := up2 κ 3 s (lt_ σ s 2)
def slF (n : Nat) (q : P2) : Sg := foldN (sl1 q.1) n q.2
def hg1 (w : Nat) (κ : Sg) : Sg := up2 κ 4 w (nI 0)
def hgF (nw : Nat) (κ : Sg) : Sg := foldN hg1 nw κ
def goF (n pl nw : Nat) (q : P2) : P2 := goL n pl nw nw (q.1, hgF nw (slF n q))
def st1 (nw w : Nat) (σ : Sg) : Sg := if σ 12 w = 0 ∧ wa σ nw (nI 0) < 2 then up2 (up2 σ 12 w (nI 1)) 13 w (nI 0) else σ
def stF (nw : Nat) (σ : Sg) : Sg := foldN (st1 nw) nw σ
def windOf (σ : Sg) : Int32 := σ 3 (nN (σ 17 0) % 10)
def t1 (nw : Nat) (q : P2) : P2 := leF nw (boF (windOf q.1) nw (bdF (windOf q.1) nw q.1), q.2)
def t2 (n pl nw ns : Nat) (q : P2) : P2 := goF n pl nw (sgF nw ns (t1 nw q))
def tsF (n pl nw ns : Nat) (q : P2) : P2 := (up2 (stF nw (t2 n pl nw ns q).1) 17 0 (stF nw (t2 n pl nw ns q).1 17 0 + nI 1), (t2 n pl nw ns q).2)
def tsN (n pl nw ns : Nat) : Nat → P2 → P2
  | 0, q => q
  | k + 1, q => tsF n pl nw ns (tsN n pl nw ns k q)
/-! rows that a part of the step leaves -/
theorem foldN_inv {α : Type} {f : Nat → α → α} {P : α → Prop} {x : α} {n : Nat} (h0 : P x) (hs : ∀ k y, k < n → P y → P (f k y)) : P (foldN f n x) := by
  induction n with
  | zero => exact h0
  | succ n ih => exact hs n _ (Nat.lt_succ_self n) (ih (fun k y hk => hs k y (Nat.lt_succ_of_lt hk)))
theorem vu_ne {α : Type} {f : Nat → α} {k j : Nat} {v : α} (h : j ≠ k) : va_up f k v j = f j := by unfold va_up; rw [if_neg h]
theorem vu_eq {α : Type} {f : Nat → α} {k : Nat} {v : α} : va_up f k v k = v := by unfold va_up; rw [if_pos rfl]
theorem bdF_row {x : Int32} {nw : Nat} {σ : Sg} {k : Nat} (h1 : k ≠ 10) (h2 : k ≠ 11) : bdF x nw σ k = σ k :=
  foldN_inv (P := fun (τ : Sg) => τ k = σ k) rfl (fun w τ _ h => by unfold bd1; split; rw [up2_row _ _ _ _ h2, up2_row _ _ _ _ h1]; exact h; exact h)
theorem boF_row {x : Int32} {nw : Nat} {σ : Sg} {k : Nat} (h2 : k ≠ 11) : boF x nw σ k = σ k := by
  unfold boF
  split
  · rfl
  · exact foldN_inv (P := fun (τ : Sg) => τ k = σ k) rfl (fun w τ _ h => by unfold bo1; split; rw [up2_row _ _ _ _ h2]; exact h; exact h)
theorem leF_row {nw : Nat} {q : P2} {k : Nat} (h2 : k ≠ 11) : (leF nw q).1 k = q.1 k :=
  foldN_inv (P := fun (τ : Sg) => τ k = q.1 k) rfl (fun w τ _ h => by unfold le1; split; rw [up2_row _ _ _ _ h2]; exact h; exact h)
theorem lisF_row {learner singer ns : Nat} {q : P2} {k : Nat} (h2 : k ≠ 16) : (lisF learner singer ns q).1 k = q.1 k :=
  foldN_inv (P := fun (τ : P2) => τ.1 k = q.1 k) rfl (fun w τ _ h => by
    unfold lis1
    split
    · show (if _ then τ.1 else _) k = _
      split
      · exact h
      · rw [up2_row _ _ _ _ h2]; exact h
    · exact h)
theorem laF_row {nw ns learner : Nat} {q : P2} {k : Nat} (h2 : k ≠ 16) : (laF nw ns learner q).1 k = q.1 k :=
  foldN_inv (P := fun (τ : P2) => τ.1 k = q.1 k) rfl (fun w τ _ h => by unfold la1; split; rw [lisF_row h2]; exact h; exact h)
theorem sgF_row {nw ns : Nat} {q : P2} {k : Nat} (h2 : k ≠ 16) : (sgF nw ns q).1 k = q.1 k :=
  foldN_inv (P := fun (τ : P2) => τ.1 k = q.1 k) rfl (fun w τ _ h => by unfold sg1; split; rw [laF_row h2]; exact h; exact h)
theorem pcQ_row {s : Nat} {q : P2} {k : Nat} (h1 : k ≠ 8) (h2 : k ≠ 9) : (pcQ s q).1 k = q.1 k := by
  unfold pcQ
  split
  · exact up2_row _ _ _ _ h1
  · exact up2_row _ _ _ _ h2
theorem g2_row {pl w : Nat} {z : Int32} {q : P2} {k : Nat} (h1 : k ≠ 12) (h2 : k ≠ 13) (h3 : k ≠ 15) : (g2 pl w z q).2.1 k = q.1 k := by
  unfold g2
  split
  · show ch1 w q.1 k = _
    unfold ch1
    rw [up2_row _ _ _ _ h3, up2_row _ _ _ _ h2, up2_row _ _ _ _ h1]
  · exact up2_row _ _ _ _ h2
def goR (k : Nat) : Prop := k ≠ 8 ∧ k ≠ 9 ∧ k ≠ 12 ∧ k ≠ 13 ∧ k ≠ 14 ∧ k ≠ 15
theorem g1_row {n pl nw w : Nat} {q : P2} {k : Nat} (h : goR k) : (g1 n pl nw w q).2.1 k = q.1 k := by
  obtain ⟨h8, h9, h12, h13, h14, h15⟩ := h
  unfold g1
  split
  · rfl
  · split
    · exact g2_row h12 h13 h15
    · split
      · rw [g2_row h12 h13 h15, pcQ_row h8 h9]
      · exact pcQ_row h8 h9
theorem wl_row {n pl nw w : Nat} {k : Nat} (h : goR k) : ∀ (m : Nat) (r : Bool × P2), (wl n pl nw w m r).2.1 k = r.2.1 k
  | 0, r => rfl
  | m + 1, r => by
    simp only [wl]
    split
    · rw [wl_row h m, g1_row h]
    · rfl
theorem wkF_row {n pl nw w : Nat} {q : P2} {k : Nat} (h : goR k) : (wkF n pl nw w q).1 k = q.1 k := by
  unfold wkF
  rw [wl_row h]
  show wk0 w q.1 k = _
  unfold wk0
  split
  · exact up2_row _ _ _ _ h.2.2.2.2.1
  · rfl
theorem goL_row {n pl nw : Nat} {k : Nat} (h : goR k) : ∀ (m : Nat) (q : P2), (goL n pl nw m q).1 k = q.1 k
  | 0, q => rfl
  | m + 1, q => by
    simp only [goL]
    split
    · rfl
    · rw [goL_row h m, wkF_row h]
theorem goF_row {n pl nw : Nat} {q : P2} {k : Nat} (h : goR k) : (goF n pl nw q).1 k = q.1 k := by
  unfold goF
  rw [goL_row h]
theorem stF_row {nw : Nat} {σ : Sg} {k : Nat} (h1 : k ≠ 12) (h2 : k ≠ 13) : stF nw σ k = σ k :=
  foldN_inv (P := fun (τ : Sg) => τ k = σ k) rfl (fun w τ _ h => by unfold st1; split; rw [up2_row _ _ _ _ h2, up2_row _ _ _ _ h1]; exact h; exact h)
/-- what no step changes -/
theorem tsF_row {n pl nw ns : Nat} {q : P2} {k : Nat} (h : k < 8) : (tsF n pl nw ns q).1 k = q.1 k := by
  show (up2 (stF nw (t2 n pl nw ns q).1) 17 0 (stF nw (t2 n pl nw ns q).1 17 0 + nI 1)) k = q.1 k
  rw [up2_row _ _ _ _ (by omega), stF_row (by omega) (by omega)]
  unfold t2
  rw [goF_row (by unfold goR; omega), sgF_row (by omega)]
  unfold t1
  rw [leF_row (by omega)]
  show boF (windOf q.1) nw (bdF (windOf q.1) nw q.1) k = q.1 k
  rw [boF_row (by omega), bdF_row (by omega) (by omega)]
theorem tsF_step {n pl nw ns : Nat} {q : P2} : (tsF n pl nw ns q).1 17 0 = q.1 17 0 + nI 1 := by
  show (up2 (stF nw (t2 n pl nw ns q).1) 17 0 (stF nw (t2 n pl nw ns q).1 17 0 + nI 1)) 17 0 = q.1 17 0 + nI 1
  rw [up2_at, if_pos ⟨rfl, rfl⟩, stF_row (by omega) (by omega)]
  unfold t2
  rw [goF_row (by unfold goR; omega), sgF_row (by omega)]
  unfold t1
  rw [leF_row (by omega)]
  show boF (windOf q.1) nw (bdF (windOf q.1) nw q.1) 17 0 + nI 1 = q.1 17 0 + nI 1
  rw [boF_row (by omega), bdF_row (by omega) (by omega)]
/-- burning is 0 or 1 -/
def bz (σ : Sg) : Prop := ∀ i, σ 11 i = nI 0 ∨ σ 11 i = nI 1
theorem bz_up {σ : Sg} {w : Nat} {v : Int32} (h : bz σ) (hv : v = nI 0 ∨ v = nI 1) : bz (up2 σ 11 w v) := fun i => by
  rw [up2_at]
  split
  · exact hv
  · exact h i
theorem bz_row {σ τ : Sg} (h : bz σ) (e : τ 11 = σ 11) : bz τ := fun i => by rw [e]; exact h i
theorem bdF_bz {x : Int32} {nw : Nat} {σ : Sg} (h : bz σ) : bz (bdF x nw σ) :=
  foldN_inv (P := bz) h (fun w τ _ h => by
    unfold bd1
    split
    · refine bz_up (bz_row h (up2_row _ _ _ _ (by omega))) ?_
      split
      · exact Or.inl rfl
      · exact Or.inr rfl
    · exact h)
theorem boF_bz {x : Int32} {nw : Nat} {σ : Sg} (h : bz σ) : bz (boF x nw σ) := by
  unfold boF
  split
  · exact h
  · exact foldN_inv (P := bz) h (fun w τ _ h => by
      unfold bo1
      split
      · exact bz_up h (Or.inl rfl)
      · exact h)
theorem leF_bz {nw : Nat} {q : P2} (h : bz q.1) : bz (leF nw q).1 :=
  foldN_inv (P := bz) h (fun w τ _ h => by
    unfold le1
    split
    · exact bz_up h (Or.inr rfl)
    · exact h)
theorem t2_bz {n pl nw ns : Nat} {q : P2} (h : bz q.1) : bz (t2 n pl nw ns q).1 := by
  unfold t2
  refine bz_row (leF_bz (nw := nw) (q := (boF (windOf q.1) nw (bdF (windOf q.1) nw q.1), q.2)) (boF_bz (bdF_bz h))) ?_
  rw [goF_row (by unfold goR; omega), sgF_row (by omega)]
  rfl
theorem tsF_bz {n pl nw ns : Nat} {q : P2} (h : bz q.1) : bz (tsF n pl nw ns q).1 := by
  refine bz_row (t2_bz (n := n) (pl := pl) (nw := nw) (ns := ns) h) ?_
  show (up2 (stF nw (t2 n pl nw ns q).1) 17 0 (stF nw (t2 n pl nw ns q).1 17 0 + nI 1)) 11 = (t2 n pl nw ns q).1 11
  rw [up2_row _ _ _ _ (by omega), stF_row (by omega) (by omega)]
/-- what a step wants: burning 0 or 1, paces 1 to 3, the step t -/
def okS (nw t : Nat) (σ : Sg) : Prop := bz σ ∧ (∀ w, w < nw → σ 4 w = nI (nN (σ 4 w)) ∧ 1 ≤ nN (σ 4 w) ∧ nN (σ 4 w) ≤ 3) ∧ σ 17 0 = nI t
theorem tsF_ok {n pl nw ns t : Nat} {q : P2} (h : okS nw t q.1) : okS nw (t + 1) (tsF n pl nw ns q).1 :=
  ⟨tsF_bz h.1, fun w hw => by rw [tsF_row (by omega)]; exact h.2.1 w hw, by rw [tsF_step, h.2.2, nI_add]⟩
theorem tsN_ok {n pl nw ns t : Nat} {q : P2} (h : okS nw t q.1) : ∀ k, okS nw (t + k) (tsN n pl nw ns k q).1
  | 0 => h
  | k + 1 => tsF_ok (tsN_ok h k)
theorem tsN_row {n pl nw ns : Nat} {q : P2} {j : Nat} (h : j < 8) : ∀ k, (tsN n pl nw ns k q).1 j = q.1 j
  | 0 => rfl
  | k + 1 => by
    show (tsF n pl nw ns (tsN n pl nw ns k q)).1 j = _
    rw [tsF_row h, tsN_row h k]
theorem fg_nat {σ κ : Sg} {n : Nat} (h : ¬ (fg σ κ n).2 = -1) : ∃ j, j < n ∧ (fg σ κ n).2 = nI j ∧ σ 12 j = nI 1 ∧ κ 4 j = 0 := by
  induction n with
  | zero => exact absurd rfl h
  | succ n ih =>
    simp only [fg] at h ⊢
    split
    · rename_i hc
      exact ⟨n, Nat.lt_succ_self n, rfl, hc.1, hc.2.1⟩
    · rename_i hc
      rw [if_neg hc] at h
      obtain ⟨j, h1, h2⟩ := ih h
      exact ⟨j, Nat.lt_succ_of_lt h1, h2⟩
theorem wl_f {n pl nw w : Nat} {q : P2} : ∀ m, wl n pl nw w m (false, q) = (false, q)
  | 0 => rfl
  | m + 1 => by simp [wl]
theorem oI_m1 {x : Option Nat} {n : Nat} (hx : ∀ j, x = some j → j < n) (hn : n < 2 ^ 31) (h : oI x = -1) : x = none := by
  cases x with
  | none => rfl
  | some j =>
    have hj := hx j rfl
    have : nI j = -1 := h
    have h2 := nI_toInt (n := j) (by omega)
    rw [this] at h2
    have h3 : ((-1 : Int32)).toInt = -1 := by decide
    omega
theorem oI_n {x : Option Nat} (h : ¬ oI x = -1) : ∃ j, x = some j := by
  cases x with
  | none => exact absurd rfl h
  | some j => exact ⟨j, rfl⟩
theorem mxp_eq {P : Nat} (h1 : 1 ≤ P) (h3 : P ≤ 3) : (if nI 1 < nI (P - 1) then nI (P - 1) else nI 1) = nI (mxp P) := by
  rcases (show P = 1 ∨ P = 2 ∨ P = 3 by omega) with rfl | rfl | rfl <;> decide
theorem mxp_le {P : Nat} (h3 : P ≤ 3) : mxp P ≤ 3 := by unfold mxp; split <;> omega
theorem lossOf_t {x : Int32} (h : x < nI 6) : lossOf x = nI 1 := if_pos h
theorem lossOf_f {x : Int32} (h : ¬ x < nI 6) : lossOf x = nI 2 := if_neg h
end
section
/-! rows copied and filled; the parade: what changes it -/
set_option maxHeartbeats 4000000 in
set_option maxRecDepth 100000 in
theorem c_X0_copyNumbers (l : Launch) (D : va_G) (cI cZ cL cO : ClassId) (H : Heap) (b0 b1 N : Nat) (f g : Nat → Int32) (A : Nat → Prop) (hD0 : ∀ e0 e1 : va_E, va_D A [(b0, e0), (b1, e1)]) (hN : N ≤ 200) : Met l yX0_copyNumbers wsX0_copyNumbers ({ frames := 1, cells := 0, slots := 0, locals := 30 } : Room) (ro_P D (T4 cI cZ cL cO) ([(b0, .inl (cI, N, .inl f)), (b1, .inl (cI, N, .inl g))]) H [.ref b0, .ref b1]) (mu_Q D ([(b0, .inl (cI, N, .inl f)), (b1, .inl (cI, N, .inl (cpk f g N)))]) A) 0 0 A := by
  refine mu_of (cc := cX0_copyNumbers) (maxL := 2) (by decide) rfl (Nat.le_of_ble_eq_true rfl) ?_
  intro p e s m args below meth c Q ls locs hx hb hml hown hts hK hE hP hl hS hEnd
  have hl : lv_has ls 2 [(0, .ref b0), (1, .ref b1)] := hl
  have g0 : (Cond.methodLink RX0 80 Lib.Math.min.name).before args s = true := hts _ (List.mem_of_getElem? (i := 1) rfl)
  have g1 : (Cond.static Lib.Math.min.name).before args s = true := hts _ (List.mem_of_getElem? (i := 2) rfl)
  have g2 : (Cond.initialized "java/lang/Math").before args s = true := hts _ (List.mem_of_getElem? (i := 3) rfl)
  have g3 : (Cond.code Lib.Math.min.name Lib.Math.min.code 2 (some .int)).before args s = true := hts _ (List.mem_of_getElem? (i := 4) rfl)
  have g4 : (Cond.methodLink RX0 86 arraycopyName).before args s = true := hts _ (List.mem_of_getElem? (i := 5) rfl)
  have g5 : (Cond.native arraycopyName).before args s = true := hts _ (List.mem_of_getElem? (i := 6) rfl)
  have g6 : (Cond.static arraycopyName).before args s = true := hts _ (List.mem_of_getElem? (i := 7) rfl)
  have g7 : (Cond.initialized "java/lang/System").before args s = true := hts _ (List.mem_of_getElem? (i := 8) rfl)
  refine lv_aload_n hx hb dX0_copyNumbers_0 rfl (lv_at hl 0 rfl) ?_
  refine lv_iconst (v := nI 0) hx hb dX0_copyNumbers_1 rfl ?_
  refine lv_aload_n hx hb dX0_copyNumbers_2 rfl (lv_at hl 1 rfl) ?_
  refine lv_iconst (v := nI 0) hx hb dX0_copyNumbers_3 rfl ?_
  refine lv_aload_n hx hb dX0_copyNumbers_4 rfl (lv_at hl 0 rfl) ?_
  refine li_alen hx hb hK hP 0 0 rfl rfl dX0_copyNumbers_5 ?_
  refine lv_aload_n hx hb dX0_copyNumbers_6 rfl (lv_at hl 1 rfl) ?_
  refine li_alen hx hb hK hP 1 0 rfl rfl dX0_copyNumbers_7 ?_
  refine va_mmin hx hb (hml.trans hl.1.symm) hown g0 g1 g2 g3 (by decide) (Nat.le_of_ble_eq_true rfl) (Nat.zero_le _) (Nat.zero_le _) dX0_copyNumbers_8 ?_
  refine li_topi (show (if nI N < nI N then nI N else nI N) = nI N from by split <;> rfl) ?_
  refine va_copyi hx hb (hml.trans hl.1.symm) hown g4 g5 g6 g7 hK hP (hD0 _ _) hS 0 1 0 0 rfl rfl rfl rfl rfl (by decide) (by decide) (nI_pos (by omega)) (by rw [nI_clamp (show N < 2 ^ 31 by omega)]; show 0 + N ≤ N; omega) (by rw [nI_clamp (show N < 2 ^ 31 by omega)]; show 0 + N ≤ N; omega) (fun _ _ => rfl) (by decide) (Nat.le_of_ble_eq_true rfl) dX0_copyNumbers_11 (fun G locs hP _ hS => ?_)
  rw [nI_clamp (show N < 2 ^ 31 by omega), show (nI 0).toNatClampNeg = 0 from rfl, cpk_c] at hP
  have hP : va_P D vwCl ([(b0, .inl (cI, N, .inl f)), (b1, .inl (cI, N, .inl (cpk f g N)))]) G := hP
  exact hEnd 14 ls G locs dX0_copyNumbers_14 hP hS
set_option maxHeartbeats 4000000 in
set_option maxRecDepth 100000 in
theorem c_X0_copyFlags (l : Launch) (D : va_G) (cI cZ cL cO : ClassId) (H : Heap) (b0 b1 N : Nat) (f g : Nat → Int32) (A : Nat → Prop) (hD0 : ∀ e0 e1 : va_E, va_D A [(b0, e0), (b1, e1)]) (hN : N ≤ 200) (hz : ∀ i, i < N → vp_nar .boolean (f i) = f i) : Met l yX0_copyFlags wsX0_copyFlags ({ frames := 0, cells := 0, slots := 0, locals := 0 } : Room) (ro_P D (T4 cI cZ cL cO) ([(b0, .inl (cZ, N, .inl f)), (b1, .inl (cZ, N, .inl g))]) H [.ref b0, .ref b1]) (mu_Q D ([(b0, .inl (cZ, N, .inl f)), (b1, .inl (cZ, N, .inl (cpk f g N)))]) A) 0 0 A := by
  refine mu_of (cc := cX0_copyFlags) (maxL := 3) (by decide) rfl (Nat.le_of_ble_eq_true rfl) ?_
  intro p e s m args below meth c Q ls locs hx hb hml hown hts hK hE hP hl hS hEnd
  have hl : lv_has ls 3 [(0, .ref b0), (1, .ref b1)] := hl
  refine lv_iconst (v := nI 0) hx hb dX0_copyFlags_0 rfl ?_
  refine lv_istore_n (lv' := [(2, .int (nI 0)), (0, .ref b0), (1, .ref b1)]) hx hb dX0_copyFlags_1 rfl hl (by decide) rfl (fun ls hl => ?_)
  have L2_1 : ∀ (fuel : Nat) (k : Nat), (N - k) < fuel → k ≤ N → ∀ (G : Heap) (locs : List Loc), va_P D vwCl ([(b0, .inl (cZ, N, .inl f)), (b1, .inl (cZ, N, .inl (cpk f g k)))]) G → va_S A H G locs → ∀ (ls : Array Slot), lv_has ls 3 [(2, .int (nI k)), (0, .ref b0), (1, .ref b1)] → W p l e ({ frames := 0, cells := 0, slots := 0, locals := 0 } : Room) s m args below meth c G locs 0 0 Q (F0 m 2 ls []) := by
    intro fuel
    induction fuel with
    | zero =>
      intro k hfuel
      exact absurd hfuel (Nat.not_lt_zero _)
    | succ fuel ih2 =>
      intro k hfuel2 hk G locs hP hS ls hl
      refine lv_iload_n hx hb dX0_copyFlags_2 rfl (lv_at hl 0 rfl) ?_
      refine lv_aload_n hx hb dX0_copyFlags_3 rfl (lv_at hl 1 rfl) ?_
      refine li_alen hx hb hK hP 0 1 rfl rfl dX0_copyFlags_4 ?_
      refine li_ge (tgt := 26) hx hb dX0_copyFlags_5 (by decide) (by omega) (by omega) (fun c2 => ?_) (fun c2 => ?_)
      · skip
        have hw9 : cpk f g k = cpk f g N := by rw [show k = N by omega]
        rw [hw9] at hP
        clear hw9
        exact hEnd 26 ls G locs dX0_copyFlags_26 hP hS
      · skip
        refine lv_iload_n hx hb dX0_copyFlags_8 rfl (lv_at hl 0 rfl) ?_
        refine lv_aload_n hx hb dX0_copyFlags_9 rfl (lv_at hl 2 rfl) ?_
        refine li_alen hx hb hK hP 1 1 rfl rfl dX0_copyFlags_10 ?_
        refine li_ge (tgt := 26) hx hb dX0_copyFlags_11 (by decide) (by omega) (by omega) (fun c3 => ?_) (fun c3 => ?_)
        · skip
          have hw9 : cpk f g k = cpk f g N := by rw [show k = N by omega]
          rw [hw9] at hP
          clear hw9
          exact hEnd 26 ls G locs dX0_copyFlags_26 hP hS
        · skip
          refine lv_aload_n hx hb dX0_copyFlags_14 rfl (lv_at hl 2 rfl) ?_
          refine lv_iload_n hx hb dX0_copyFlags_15 rfl (lv_at hl 0 rfl) ?_
          refine lv_aload_n hx hb dX0_copyFlags_16 rfl (lv_at hl 1 rfl) ?_
          refine lv_iload_n hx hb dX0_copyFlags_17 rfl (lv_at hl 0 rfl) ?_
          refine li_zld hx hb hK hP 0 1 rfl rfl (by omega) hN dX0_copyFlags_18 ?_
          refine li_zst hx hb hK hP (hD0 _ _) hS 1 1 rfl rfl (by omega) hN (hz k (by omega)) rfl dX0_copyFlags_19 (fun G locs hP hS => ?_)
          refine lv_iinc (v := nI (k + 1)) (lv' := [(2, .int (nI (k + 1))), (0, .ref b0), (1, .ref b1)]) hx hb dX0_copyFlags_20 hl (k := 0) rfl (nI_inc _ _) (by decide) rfl (fun ls hl => ?_)
          refine lv_goto (tgt := 2) hx hb dX0_copyFlags_23 (by decide) ?_
          have hw9 : upd (cpk f g k) k (f k) = cpk f g (k + 1) := by exact cpk_s f g k
          rw [hw9] at hP
          clear hw9
          have hl9 : lv_has ls 3 [(2, .int (nI (k + 1))), (0, .ref b0), (1, .ref b1)] := lv_sub hl [0, 1, 2] rfl
          exact ih2 (k + 1) (by omega) (by omega) G locs hP hS ls hl9
  have hw9 : g = cpk f g 0 := (cpk_0 f g).symm
  rw [hw9] at hP
  clear hw9
  have hl9 : lv_has ls 3 [(2, .int (nI 0)), (0, .ref b0), (1, .ref b1)] := lv_sub hl [0, 1, 2] rfl
  exact L2_1 ((N - 0) + 1) 0 (Nat.lt_succ_self _) (by omega) H locs hP hS ls hl9
set_option maxHeartbeats 4000000 in
set_option maxRecDepth 100000 in
theorem c_J7_fill_53178 (l : Launch) (D : va_G) (cI cZ cL cO : ClassId) (H : Heap) (b0 N : Nat) (f : Nat → Int32) (A : Nat → Prop) (hD0 : ∀ e0 : va_E, va_D A [(b0, e0)]) (x : Int32) (hN : N ≤ 200) : Met l yJ7_fill_53178 wsJ7_fill_53178 ({ frames := 0, cells := 0, slots := 0, locals := 0 } : Room) (ro_P D (T4 cI cZ cL cO) ([(b0, .inl (cI, N, .inl f))]) H [.ref b0, .int x]) (mu_Q D ([(b0, .inl (cI, N, .inl (cpk (fun _ => x) f N)))]) A) 0 0 A := by
  refine mu_of (cc := cJ7_fill_53178) (maxL := 4) (by decide) rfl (Nat.le_of_ble_eq_true rfl) ?_
  intro p e s m args below meth c Q ls locs hx hb hml hown hts hK hE hP hl hS hEnd
  have hl : lv_has ls 4 [(0, .ref b0), (1, .int x)] := hl
  refine lv_iconst (v := nI 0) hx hb dJ7_fill_53178_0 rfl ?_
  refine lv_istore_n (lv' := [(2, .int (nI 0)), (0, .ref b0), (1, .int x)]) hx hb dJ7_fill_53178_1 rfl hl (by decide) rfl (fun ls hl => ?_)
  refine lv_aload_n hx hb dJ7_fill_53178_2 rfl (lv_at hl 1 rfl) ?_
  refine li_alen hx hb hK hP 0 0 rfl rfl dJ7_fill_53178_3 ?_
  refine lv_istore_n (lv' := [(3, .int (nI N)), (2, .int (nI 0)), (0, .ref b0), (1, .int x)]) hx hb dJ7_fill_53178_4 rfl hl (by decide) rfl (fun ls hl => ?_)
  have L5_1 : ∀ (fuel : Nat) (k : Nat), (N - k) < fuel → k ≤ N → ∀ (G : Heap) (locs : List Loc), va_P D vwCl ([(b0, .inl (cI, N, .inl (cpk (fun _ => x) f k)))]) G → va_S A H G locs → ∀ (ls : Array Slot), lv_has ls 4 [(3, .int (nI N)), (2, .int (nI k)), (0, .ref b0), (1, .int x)] → W p l e ({ frames := 0, cells := 0, slots := 0, locals := 0 } : Room) s m args below meth c G locs 0 0 Q (F0 m 5 ls []) := by
    intro fuel
    induction fuel with
    | zero =>
      intro k hfuel
      exact absurd hfuel (Nat.not_lt_zero _)
    | succ fuel ih5 =>
      intro k hfuel5 hk G locs hP hS ls hl
      refine lv_iload_n hx hb dJ7_fill_53178_5 rfl (lv_at hl 1 rfl) ?_
      refine lv_iload_n hx hb dJ7_fill_53178_6 rfl (lv_at hl 0 rfl) ?_
      refine li_ge (tgt := 20) hx hb dJ7_fill_53178_7 (by decide) (by omega) (by omega) (fun c2 => ?_) (fun c2 => ?_)
      · skip
        have hw9 : cpk (fun _ => x) f k = cpk (fun _ => x) f N := by rw [show k = N by omega]
        rw [hw9] at hP
        clear hw9
        exact hEnd 20 ls G locs dJ7_fill_53178_20 hP hS
      · skip
        refine lv_aload_n hx hb dJ7_fill_53178_10 rfl (lv_at hl 2 rfl) ?_
        refine lv_iload_n hx hb dJ7_fill_53178_11 rfl (lv_at hl 1 rfl) ?_
        refine lv_iload_n hx hb dJ7_fill_53178_12 rfl (lv_at hl 3 rfl) ?_
        refine li_ist hx hb hK hP (hD0 _) hS 0 0 rfl rfl (by omega) hN rfl dJ7_fill_53178_13 (fun G locs hP hS => ?_)
        refine lv_iinc (v := nI (k + 1)) (lv' := [(2, .int (nI (k + 1))), (3, .int (nI N)), (0, .ref b0), (1, .int x)]) hx hb dJ7_fill_53178_14 hl (k := 1) rfl (nI_inc _ _) (by decide) rfl (fun ls hl => ?_)
        refine lv_goto (tgt := 5) hx hb dJ7_fill_53178_17 (by decide) ?_
        have hw9 : upd (cpk (fun _ => x) f k) k x = cpk (fun _ => x) f (k + 1) := by exact cpk_s (fun _ => x) f k
        rw [hw9] at hP
        clear hw9
        have hl9 : lv_has ls 4 [(3, .int (nI N)), (2, .int (nI (k + 1))), (0, .ref b0), (1, .int x)] := lv_sub hl [1, 0, 2, 3] rfl
        exact ih5 (k + 1) (by omega) (by omega) G locs hP hS ls hl9
  have hw9 : f = cpk (fun _ => x) f 0 := (cpk_0 _ f).symm
  rw [hw9] at hP
  clear hw9
  have hl9 : lv_has ls 4 [(3, .int (nI N)), (2, .int (nI 0)), (0, .ref b0), (1, .int x)] := lv_sub hl [0, 1, 2, 3] rfl
  exact L5_1 ((N - 0) + 1) 0 (Nat.lt_succ_self _) (by omega) H locs hP hS ls hl9
set_option maxHeartbeats 4000000 in
set_option maxRecDepth 100000 in
theorem c_J9_floorMod_7cf53 (l : Launch) (D : va_G) (cI cZ cL cO : ClassId) (H : Heap) (i : Nat) (j : Nat) (hi : i < 2 ^ 31) (hj : j < 2 ^ 31) (hj0 : 0 < j) : Met l yJ9_floorMod_7cf53 wsJ9_floorMod_7cf53 ({ frames := 0, cells := 0, slots := 0, locals := 0 } : Room) (ro_P D (T4 cI cZ cL cO) ([]) H [.int (nI i), .int (nI j)]) (ro_Q (nI (i % j)) H) 0 0 (fun _ => False) := by
  refine ro_ofF (cc := cJ9_floorMod_7cf53) (maxL := 3) (by decide +kernel) rfl (Nat.le_of_ble_eq_true rfl) rfl ?_
  intro p e s m args below meth c Q ls locs hx hb hml hown hts hK hE hP hl hS hEnd
  have hl : lv_has ls 3 [(0, .int (nI i)), (1, .int (nI j))] := hl
  refine lv_iload_n hx hb dJ9_floorMod_7cf53_0 rfl (lv_at hl 0 rfl) ?_
  refine lv_iload_n hx hb dJ9_floorMod_7cf53_1 rfl (lv_at hl 1 rfl) ?_
  refine lv_irem hx hb dJ9_floorMod_7cf53_2 (nI_ne0 hj0 hj) ?_
  refine li_topi (show (nI i) - (nI i) / (nI j) * (nI j) = nI (i % j) from pk_rem hi hj0 hj) ?_
  refine lv_istore_n (lv' := [(2, .int (nI (i % j))), (0, .int (nI i)), (1, .int (nI j))]) hx hb dJ9_floorMod_7cf53_3 rfl hl (by decide) rfl (fun ls hl => ?_)
  refine lv_iload_n hx hb dJ9_floorMod_7cf53_4 rfl (lv_at hl 1 rfl) ?_
  refine lv_iload_n hx hb dJ9_floorMod_7cf53_5 rfl (lv_at hl 2 rfl) ?_
  refine lv_ixor hx hb dJ9_floorMod_7cf53_6 ?_
  refine lv_if_ge (tgt := 18) hx hb dJ9_floorMod_7cf53_7 (by decide) (fun c1 => ?_) (fun c1 => ?_)
  · skip
    refine lv_iload_n hx hb dJ9_floorMod_7cf53_18 rfl (lv_at hl 0 rfl) ?_
    exact hEnd 19 ls locs dJ9_floorMod_7cf53_19 hS
  · exact absurd (nI_xor hi hj) c1
end
