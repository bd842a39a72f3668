theorem dX3_init_0 : decode cX3_init 0 = .ok (.aload_n 0, 1) := by decide +kernel
theorem dX3_init_1 : decode cX3_init 1 = .ok (.invokespecial 1, 3) := by decide +kernel
theorem dX3_init_4 : decode cX3_init 4 = .ok (.aload_n 0, 1) := by decide +kernel
theorem dX3_init_5 : decode cX3_init 5 = .ok (.bipush 50, 2) := by decide +kernel
theorem dX3_init_7 : decode cX3_init 7 = .ok (.newarray .int, 2) := by decide +kernel
theorem dX3_init_9 : decode cX3_init 9 = .ok (.putfield 9, 3) := by decide +kernel
theorem dX3_init_12 : decode cX3_init 12 = .ok (.aload_n 0, 1) := by decide +kernel
theorem dX3_init_13 : decode cX3_init 13 = .ok (.iconst 2, 1) := by decide +kernel
theorem dX3_init_14 : decode cX3_init 14 = .ok (.newarray .int, 2) := by decide +kernel
theorem dX3_init_16 : decode cX3_init 16 = .ok (.dup, 1) := by decide +kernel
theorem dX3_init_17 : decode cX3_init 17 = .ok (.iconst 0, 1) := by decide +kernel
theorem dX3_init_18 : decode cX3_init 18 = .ok (.iconst (-1), 1) := by decide +kernel
theorem dX3_init_19 : decode cX3_init 19 = .ok (.iastore, 1) := by decide +kernel
theorem dX3_init_20 : decode cX3_init 20 = .ok (.dup, 1) := by decide +kernel
theorem dX3_init_21 : decode cX3_init 21 = .ok (.iconst 1, 1) := by decide +kernel
theorem dX3_init_22 : decode cX3_init 22 = .ok (.iconst (-1), 1) := by decide +kernel
theorem dX3_init_23 : decode cX3_init 23 = .ok (.iastore, 1) := by decide +kernel
theorem dX3_init_24 : decode cX3_init 24 = .ok (.putfield 13, 3) := by decide +kernel
theorem dX3_init_27 : decode cX3_init 27 = .ok (.aload_n 0, 1) := by decide +kernel
theorem dX3_init_28 : decode cX3_init 28 = .ok (.bipush 10, 2) := by decide +kernel
theorem dX3_init_30 : decode cX3_init 30 = .ok (.newarray .int, 2) := by decide +kernel
theorem dX3_init_32 : decode cX3_init 32 = .ok (.putfield 16, 3) := by decide +kernel
theorem dX3_init_35 : decode cX3_init 35 = .ok (.aload_n 0, 1) := by decide +kernel
theorem dX3_init_36 : decode cX3_init 36 = .ok (.sipush 160, 3) := by decide +kernel
theorem dX3_init_39 : decode cX3_init 39 = .ok (.newarray .int, 2) := by decide +kernel
theorem dX3_init_41 : decode cX3_init 41 = .ok (.putfield 19, 3) := by decide +kernel
theorem dX3_init_44 : decode cX3_init 44 = .ok (.aload_n 0, 1) := by decide +kernel
theorem dX3_init_45 : decode cX3_init 45 = .ok (.bipush 6, 2) := by decide +kernel
theorem dX3_init_47 : decode cX3_init 47 = .ok (.newarray .int, 2) := by decide +kernel
theorem dX3_init_49 : decode cX3_init 49 = .ok (.putfield 22, 3) := by decide +kernel
theorem dX3_init_52 : decode cX3_init 52 = .ok (.aload_n 0, 1) := by decide +kernel
theorem dX3_init_53 : decode cX3_init 53 = .ok (.bipush 120, 2) := by decide +kernel
theorem dX3_init_55 : decode cX3_init 55 = .ok (.newarray .int, 2) := by decide +kernel
theorem dX3_init_57 : decode cX3_init 57 = .ok (.putfield 25, 3) := by decide +kernel
theorem dX3_init_60 : decode cX3_init 60 = .ok (.aload_n 0, 1) := by decide +kernel
theorem dX3_init_61 : decode cX3_init 61 = .ok (.iconst 1, 1) := by decide +kernel
theorem dX3_init_62 : decode cX3_init 62 = .ok (.newarray .int, 2) := by decide +kernel
theorem dX3_init_64 : decode cX3_init 64 = .ok (.dup, 1) := by decide +kernel
theorem dX3_init_65 : decode cX3_init 65 = .ok (.iconst 0, 1) := by decide +kernel
theorem dX3_init_66 : decode cX3_init 66 = .ok (.iconst 0, 1) := by decide +kernel
theorem dX3_init_67 : decode cX3_init 67 = .ok (.iastore, 1) := by decide +kernel
theorem dX3_init_68 : decode cX3_init 68 = .ok (.putfield 28, 3) := by decide +kernel
theorem dX3_init_71 : decode cX3_init 71 = .ok (.aload_n 0, 1) := by decide +kernel
theorem dX3_init_72 : decode cX3_init 72 = .ok (.bipush 120, 2) := by decide +kernel
theorem dX3_init_74 : decode cX3_init 74 = .ok (.newarray .int, 2) := by decide +kernel
theorem dX3_init_76 : decode cX3_init 76 = .ok (.putfield 31, 3) := by decide +kernel
theorem dX3_init_79 : decode cX3_init 79 = .ok (.aload_n 0, 1) := by decide +kernel
theorem dX3_init_80 : decode cX3_init 80 = .ok (.bipush 20, 2) := by decide +kernel
theorem dX3_init_82 : decode cX3_init 82 = .ok (.newarray .boolean, 2) := by decide +kernel
theorem dX3_init_84 : decode cX3_init 84 = .ok (.putfield 34, 3) := by decide +kernel
theorem dX3_init_87 : decode cX3_init 87 = .ok (.aload_n 0, 1) := by decide +kernel
theorem dX3_init_88 : decode cX3_init 88 = .ok (.bipush 10, 2) := by decide +kernel
theorem dX3_init_90 : decode cX3_init 90 = .ok (.newarray .int, 2) := by decide +kernel
theorem dX3_init_92 : decode cX3_init 92 = .ok (.putfield 38, 3) := by decide +kernel
theorem dX3_init_95 : decode cX3_init 95 = .ok (.aload_n 0, 1) := by decide +kernel
theorem dX3_init_96 : decode cX3_init 96 = .ok (.bipush 20, 2) := by decide +kernel
theorem dX3_init_98 : decode cX3_init 98 = .ok (.newarray .boolean, 2) := by decide +kernel
theorem dX3_init_100 : decode cX3_init 100 = .ok (.putfield 41, 3) := by decide +kernel
theorem dX3_init_103 : decode cX3_init 103 = .ok (.aload_n 0, 1) := by decide +kernel
theorem dX3_init_104 : decode cX3_init 104 = .ok (.bipush 20, 2) := by decide +kernel
theorem dX3_init_106 : decode cX3_init 106 = .ok (.newarray .int, 2) := by decide +kernel
theorem dX3_init_108 : decode cX3_init 108 = .ok (.putfield 44, 3) := by decide +kernel
theorem dX3_init_111 : decode cX3_init 111 = .ok (.return_, 1) := by decide +kernel
theorem dX3_thrown_0 : decode cX3_thrown 0 = .ok (.aload_n 0, 1) := by decide +kernel
theorem dX3_thrown_1 : decode cX3_thrown 1 = .ok (.getfield 47, 3) := by decide +kernel
theorem dX3_thrown_4 : decode cX3_thrown 4 = .ok (.ireturn, 1) := by decide +kernel
theorem dX3_fail_0 : decode cX3_fail 0 = .ok (.aload_n 0, 1) := by decide +kernel
theorem dX3_fail_1 : decode cX3_fail 1 = .ok (.iload_n 1, 1) := by decide +kernel
theorem dX3_fail_2 : decode cX3_fail 2 = .ok (.putfield 47, 3) := by decide +kernel
theorem dX3_fail_5 : decode cX3_fail 5 = .ok (.iconst 0, 1) := by decide +kernel
theorem dX3_fail_6 : decode cX3_fail 6 = .ok (.ireturn, 1) := by decide +kernel
theorem dX3_isIn_0 : decode cX3_isIn 0 = .ok (.iload_n 0, 1) := by decide +kernel
theorem dX3_isIn_1 : decode cX3_isIn 1 = .ok (.iload_n 1, 1) := by decide +kernel
theorem dX3_isIn_2 : decode cX3_isIn 2 = .ok (.if_icmp .lt 12, 3) := by decide +kernel
theorem dX3_isIn_5 : decode cX3_isIn 5 = .ok (.iload_n 0, 1) := by decide +kernel
theorem dX3_isIn_6 : decode cX3_isIn 6 = .ok (.iload_n 2, 1) := by decide +kernel
theorem dX3_isIn_7 : decode cX3_isIn 7 = .ok (.if_icmp .gt 7, 3) := by decide +kernel
theorem dX3_isIn_10 : decode cX3_isIn 10 = .ok (.iconst 1, 1) := by decide +kernel
theorem dX3_isIn_11 : decode cX3_isIn 11 = .ok (.goto 4, 3) := by decide +kernel
theorem dX3_isIn_14 : decode cX3_isIn 14 = .ok (.iconst 0, 1) := by decide +kernel
theorem dX3_isIn_15 : decode cX3_isIn 15 = .ok (.ireturn, 1) := by decide +kernel
set_option maxRecDepth 20000 in
theorem ggX3_isStretch_X3_isIn : GoodIn wsX3_isStretch wsX3_isIn := goodIn_r _ [5] (by decide +kernel) (by decide +kernel)
set_option maxRecDepth 20000 in
theorem gX3_isStretch_X3_isIn : GoodIn wsX3_isStretch (va_wsS RX3 54 yX3_isIn wsX3_isIn) := goodIn_app (goodIn_of _ (by decide +kernel)) ggX3_isStretch_X3_isIn
theorem dX3_isStretch_0 : decode cX3_isStretch 0 = .ok (.iload_n 1, 1) := by decide +kernel
theorem dX3_isStretch_1 : decode cX3_isStretch 1 = .ok (.iconst 0, 1) := by decide +kernel
theorem dX3_isStretch_2 : decode cX3_isStretch 2 = .ok (.aload_n 0, 1) := by decide +kernel
theorem dX3_isStretch_3 : decode cX3_isStretch 3 = .ok (.getfield 51, 3) := by decide +kernel
theorem dX3_isStretch_6 : decode cX3_isStretch 6 = .ok (.iconst 1, 1) := by decide +kernel
theorem dX3_isStretch_7 : decode cX3_isStretch 7 = .ok (.isub, 1) := by decide +kernel
theorem dX3_isStretch_8 : decode cX3_isStretch 8 = .ok (.invokestatic 54, 3) := by decide +kernel
theorem dX3_isStretch_11 : decode cX3_isStretch 11 = .ok (.ireturn, 1) := by decide +kernel
set_option maxRecDepth 20000 in
theorem ggX3_isWalker_X3_isIn : GoodIn wsX3_isWalker wsX3_isIn := goodIn_r _ [5] (by decide +kernel) (by decide +kernel)
set_option maxRecDepth 20000 in
theorem gX3_isWalker_X3_isIn : GoodIn wsX3_isWalker (va_wsS RX3 54 yX3_isIn wsX3_isIn) := goodIn_app (goodIn_of _ (by decide +kernel)) ggX3_isWalker_X3_isIn
theorem dX3_isWalker_0 : decode cX3_isWalker 0 = .ok (.iload_n 1, 1) := by decide +kernel
theorem dX3_isWalker_1 : decode cX3_isWalker 1 = .ok (.iconst 0, 1) := by decide +kernel
theorem dX3_isWalker_2 : decode cX3_isWalker 2 = .ok (.aload_n 0, 1) := by decide +kernel
theorem dX3_isWalker_3 : decode cX3_isWalker 3 = .ok (.getfield 58, 3) := by decide +kernel
theorem dX3_isWalker_6 : decode cX3_isWalker 6 = .ok (.iconst 1, 1) := by decide +kernel
theorem dX3_isWalker_7 : decode cX3_isWalker 7 = .ok (.isub, 1) := by decide +kernel
theorem dX3_isWalker_8 : decode cX3_isWalker 8 = .ok (.invokestatic 54, 3) := by decide +kernel
theorem dX3_isWalker_11 : decode cX3_isWalker 11 = .ok (.ireturn, 1) := by decide +kernel
set_option maxRecDepth 20000 in
theorem ggX3_isSong_X3_isIn : GoodIn wsX3_isSong wsX3_isIn := goodIn_r _ [5] (by decide +kernel) (by decide +kernel)
set_option maxRecDepth 20000 in
theorem gX3_isSong_X3_isIn : GoodIn wsX3_isSong (va_wsS RX3 54 yX3_isIn wsX3_isIn) := goodIn_app (goodIn_of _ (by decide +kernel)) ggX3_isSong_X3_isIn
theorem dX3_isSong_0 : decode cX3_isSong 0 = .ok (.iload_n 1, 1) := by decide +kernel
theorem dX3_isSong_1 : decode cX3_isSong 1 = .ok (.iconst 0, 1) := by decide +kernel
theorem dX3_isSong_2 : decode cX3_isSong 2 = .ok (.aload_n 0, 1) := by decide +kernel
theorem dX3_isSong_3 : decode cX3_isSong 3 = .ok (.getfield 61, 3) := by decide +kernel
theorem dX3_isSong_6 : decode cX3_isSong 6 = .ok (.iconst 1, 1) := by decide +kernel
theorem dX3_isSong_7 : decode cX3_isSong 7 = .ok (.isub, 1) := by decide +kernel
theorem dX3_isSong_8 : decode cX3_isSong 8 = .ok (.invokestatic 54, 3) := by decide +kernel
theorem dX3_isSong_11 : decode cX3_isSong 11 = .ok (.ireturn, 1) := by decide +kernel
theorem dX3_ro_0 : decode cX3_ro 0 = .ok (.aload_n 0, 1) := by decide +kernel
theorem dX3_ro_1 : decode cX3_ro 1 = .ok (.getfield 9, 3) := by decide +kernel
theorem dX3_ro_4 : decode cX3_ro 4 = .ok (.iconst 5, 1) := by decide +kernel
theorem dX3_ro_5 : decode cX3_ro 5 = .ok (.iload_n 1, 1) := by decide +kernel
theorem dX3_ro_6 : decode cX3_ro 6 = .ok (.imul, 1) := by decide +kernel
theorem dX3_ro_7 : decode cX3_ro 7 = .ok (.iload_n 2, 1) := by decide +kernel
theorem dX3_ro_8 : decode cX3_ro 8 = .ok (.iadd, 1) := by decide +kernel
theorem dX3_ro_9 : decode cX3_ro 9 = .ok (.iaload, 1) := by decide +kernel
theorem dX3_ro_10 : decode cX3_ro 10 = .ok (.ireturn, 1) := by decide +kernel
theorem dX3_pe_0 : decode cX3_pe 0 = .ok (.aload_n 0, 1) := by decide +kernel
theorem dX3_pe_1 : decode cX3_pe 1 = .ok (.getfield 19, 3) := by decide +kernel
theorem dX3_pe_4 : decode cX3_pe 4 = .ok (.bipush 8, 2) := by decide +kernel
theorem dX3_pe_6 : decode cX3_pe 6 = .ok (.iload_n 1, 1) := by decide +kernel
theorem dX3_pe_7 : decode cX3_pe 7 = .ok (.imul, 1) := by decide +kernel
theorem dX3_pe_8 : decode cX3_pe 8 = .ok (.iload_n 2, 1) := by decide +kernel
theorem dX3_pe_9 : decode cX3_pe 9 = .ok (.iadd, 1) := by decide +kernel
theorem dX3_pe_10 : decode cX3_pe 10 = .ok (.iaload, 1) := by decide +kernel
theorem dX3_pe_11 : decode cX3_pe 11 = .ok (.ireturn, 1) := by decide +kernel
theorem dX3_set_0 : decode cX3_set 0 = .ok (.aload_n 0, 1) := by decide +kernel
theorem dX3_set_1 : decode cX3_set 1 = .ok (.getfield 19, 3) := by decide +kernel
theorem dX3_set_4 : decode cX3_set 4 = .ok (.bipush 8, 2) := by decide +kernel
theorem dX3_set_6 : decode cX3_set 6 = .ok (.iload_n 1, 1) := by decide +kernel
theorem dX3_set_7 : decode cX3_set 7 = .ok (.imul, 1) := by decide +kernel
theorem dX3_set_8 : decode cX3_set 8 = .ok (.iload_n 2, 1) := by decide +kernel
theorem dX3_set_9 : decode cX3_set 9 = .ok (.iadd, 1) := by decide +kernel
theorem dX3_set_10 : decode cX3_set 10 = .ok (.iload_n 3, 1) := by decide +kernel
theorem dX3_set_11 : decode cX3_set 11 = .ok (.iastore, 1) := by decide +kernel
theorem dX3_set_12 : decode cX3_set 12 = .ok (.return_, 1) := by decide +kernel
set_option maxRecDepth 20000 in
theorem ggX3_places_X3_ro : GoodIn wsX3_places wsX3_ro := goodIn_r _ [6, 7, 8, 9, 10, 11, 12, 13, 14, 15, 16, 17, 18, 19, 20, 21, 22, 23] (by decide +kernel) (by decide +kernel)
set_option maxRecDepth 20000 in
theorem gX3_places_X3_ro : GoodIn wsX3_places (wsV RX3 64 RX3 yX3_ro wsX3_ro) := goodIn_app (goodIn_of _ (by decide +kernel)) ggX3_places_X3_ro
theorem dX3_places_0 : decode cX3_places 0 = .ok (.aload_n 0, 1) := by decide +kernel
theorem dX3_places_1 : decode cX3_places 1 = .ok (.getfield 51, 3) := by decide +kernel
theorem dX3_places_4 : decode cX3_places 4 = .ok (.ifCond .ne 7, 3) := by decide +kernel
theorem dX3_places_7 : decode cX3_places 7 = .ok (.iconst 0, 1) := by decide +kernel
theorem dX3_places_8 : decode cX3_places 8 = .ok (.goto 26, 3) := by decide +kernel
theorem dX3_places_11 : decode cX3_places 11 = .ok (.aload_n 0, 1) := by decide +kernel
theorem dX3_places_12 : decode cX3_places 12 = .ok (.aload_n 0, 1) := by decide +kernel
theorem dX3_places_13 : decode cX3_places 13 = .ok (.getfield 51, 3) := by decide +kernel
theorem dX3_places_16 : decode cX3_places 16 = .ok (.iconst 1, 1) := by decide +kernel
theorem dX3_places_17 : decode cX3_places 17 = .ok (.isub, 1) := by decide +kernel
theorem dX3_places_18 : decode cX3_places 18 = .ok (.iconst 2, 1) := by decide +kernel
theorem dX3_places_19 : decode cX3_places 19 = .ok (.invokevirtual 64, 3) := by decide +kernel
theorem dX3_places_22 : decode cX3_places 22 = .ok (.aload_n 0, 1) := by decide +kernel
theorem dX3_places_23 : decode cX3_places 23 = .ok (.aload_n 0, 1) := by decide +kernel
theorem dX3_places_24 : decode cX3_places 24 = .ok (.getfield 51, 3) := by decide +kernel
theorem dX3_places_27 : decode cX3_places 27 = .ok (.iconst 1, 1) := by decide +kernel
theorem dX3_places_28 : decode cX3_places 28 = .ok (.isub, 1) := by decide +kernel
theorem dX3_places_29 : decode cX3_places 29 = .ok (.iconst 0, 1) := by decide +kernel
theorem dX3_places_30 : decode cX3_places 30 = .ok (.invokevirtual 64, 3) := by decide +kernel
theorem dX3_places_33 : decode cX3_places 33 = .ok (.iadd, 1) := by decide +kernel
theorem dX3_places_34 : decode cX3_places 34 = .ok (.ireturn, 1) := by decide +kernel
set_option maxRecDepth 20000 in
theorem ggX3_addStretch_X3_isIn : GoodIn wsX3_addStretch wsX3_isIn := goodIn_r _ [13] (by decide +kernel) (by decide +kernel)
set_option maxRecDepth 20000 in
theorem gX3_addStretch_X3_isIn : GoodIn wsX3_addStretch (va_wsS RX3 54 yX3_isIn wsX3_isIn) := goodIn_app (goodIn_of _ (by decide +kernel)) ggX3_addStretch_X3_isIn
set_option maxRecDepth 20000 in
theorem ggX3_addStretch_X3_fail : GoodIn wsX3_addStretch wsX3_fail := goodIn_r _ [17, 1, 26, 27, 28, 29, 30, 31, 32, 33, 34, 35, 36, 37, 38, 39, 40, 41] (by decide +kernel) (by decide +kernel)
set_option maxRecDepth 20000 in
theorem gX3_addStretch_X3_fail : GoodIn wsX3_addStretch (wsV RX3 68 RX3 yX3_fail wsX3_fail) := goodIn_app (goodIn_of _ (by decide +kernel)) ggX3_addStretch_X3_fail
set_option maxRecDepth 20000 in
theorem ggX3_addStretch_X3_places : GoodIn wsX3_addStretch wsX3_places := goodIn_r _ [21, 2, 22, 23, 24, 12, 25, 5, 26, 27, 28, 29, 30, 31, 32, 33, 34, 35, 36, 37, 38, 39, 40, 41] (by decide +kernel) (by decide +kernel)
set_option maxRecDepth 20000 in
theorem gX3_addStretch_X3_places : GoodIn wsX3_addStretch (wsV RX3 72 RX3 yX3_places wsX3_places) := goodIn_app (goodIn_of _ (by decide +kernel)) ggX3_addStretch_X3_places
theorem dX3_addStretch_0 : decode cX3_addStretch 0 = .ok (.aload_n 0, 1) := by decide +kernel
theorem dX3_addStretch_1 : decode cX3_addStretch 1 = .ok (.iconst 0, 1) := by decide +kernel
theorem dX3_addStretch_2 : decode cX3_addStretch 2 = .ok (.putfield 47, 3) := by decide +kernel
theorem dX3_addStretch_5 : decode cX3_addStretch 5 = .ok (.iload_n 1, 1) := by decide +kernel
theorem dX3_addStretch_6 : decode cX3_addStretch 6 = .ok (.iconst 1, 1) := by decide +kernel
theorem dX3_addStretch_7 : decode cX3_addStretch 7 = .ok (.bipush 20, 2) := by decide +kernel
theorem dX3_addStretch_9 : decode cX3_addStretch 9 = .ok (.invokestatic 54, 3) := by decide +kernel
theorem dX3_addStretch_12 : decode cX3_addStretch 12 = .ok (.ifCond .eq 12, 3) := by decide +kernel
theorem dX3_addStretch_15 : decode cX3_addStretch 15 = .ok (.iload_n 2, 1) := by decide +kernel
theorem dX3_addStretch_16 : decode cX3_addStretch 16 = .ok (.iconst 1, 1) := by decide +kernel
theorem dX3_addStretch_17 : decode cX3_addStretch 17 = .ok (.iconst 4, 1) := by decide +kernel
theorem dX3_addStretch_18 : decode cX3_addStretch 18 = .ok (.invokestatic 54, 3) := by decide +kernel
theorem dX3_addStretch_21 : decode cX3_addStretch 21 = .ok (.ifCond .ne 9, 3) := by decide +kernel
theorem dX3_addStretch_24 : decode cX3_addStretch 24 = .ok (.aload_n 0, 1) := by decide +kernel
theorem dX3_addStretch_25 : decode cX3_addStretch 25 = .ok (.iconst 1, 1) := by decide +kernel
theorem dX3_addStretch_26 : decode cX3_addStretch 26 = .ok (.invokevirtual 68, 3) := by decide +kernel
theorem dX3_addStretch_29 : decode cX3_addStretch 29 = .ok (.ireturn, 1) := by decide +kernel
theorem dX3_addStretch_30 : decode cX3_addStretch 30 = .ok (.aload_n 0, 1) := by decide +kernel
theorem dX3_addStretch_31 : decode cX3_addStretch 31 = .ok (.getfield 51, 3) := by decide +kernel
theorem dX3_addStretch_34 : decode cX3_addStretch 34 = .ok (.bipush 10, 2) := by decide +kernel
theorem dX3_addStretch_36 : decode cX3_addStretch 36 = .ok (.if_icmp .eq 12, 3) := by decide +kernel
theorem dX3_addStretch_39 : decode cX3_addStretch 39 = .ok (.aload_n 0, 1) := by decide +kernel
theorem dX3_addStretch_40 : decode cX3_addStretch 40 = .ok (.getfield 28, 3) := by decide +kernel
theorem dX3_addStretch_43 : decode cX3_addStretch 43 = .ok (.iconst 0, 1) := by decide +kernel
theorem dX3_addStretch_44 : decode cX3_addStretch 44 = .ok (.iaload, 1) := by decide +kernel
theorem dX3_addStretch_45 : decode cX3_addStretch 45 = .ok (.ifCond .le 9, 3) := by decide +kernel
theorem dX3_addStretch_48 : decode cX3_addStretch 48 = .ok (.aload_n 0, 1) := by decide +kernel
theorem dX3_addStretch_49 : decode cX3_addStretch 49 = .ok (.iconst 2, 1) := by decide +kernel
theorem dX3_addStretch_50 : decode cX3_addStretch 50 = .ok (.invokevirtual 68, 3) := by decide +kernel
theorem dX3_addStretch_53 : decode cX3_addStretch 53 = .ok (.ireturn, 1) := by decide +kernel
theorem dX3_addStretch_54 : decode cX3_addStretch 54 = .ok (.iconst 5, 1) := by decide +kernel
theorem dX3_addStretch_55 : decode cX3_addStretch 55 = .ok (.newarray .int, 2) := by decide +kernel
theorem dX3_addStretch_57 : decode cX3_addStretch 57 = .ok (.dup, 1) := by decide +kernel
theorem dX3_addStretch_58 : decode cX3_addStretch 58 = .ok (.iconst 0, 1) := by decide +kernel
theorem dX3_addStretch_59 : decode cX3_addStretch 59 = .ok (.iload_n 1, 1) := by decide +kernel
theorem dX3_addStretch_60 : decode cX3_addStretch 60 = .ok (.iastore, 1) := by decide +kernel
theorem dX3_addStretch_61 : decode cX3_addStretch 61 = .ok (.dup, 1) := by decide +kernel
theorem dX3_addStretch_62 : decode cX3_addStretch 62 = .ok (.iconst 1, 1) := by decide +kernel
theorem dX3_addStretch_63 : decode cX3_addStretch 63 = .ok (.iload_n 2, 1) := by decide +kernel
theorem dX3_addStretch_64 : decode cX3_addStretch 64 = .ok (.iastore, 1) := by decide +kernel
theorem dX3_addStretch_65 : decode cX3_addStretch 65 = .ok (.dup, 1) := by decide +kernel
theorem dX3_addStretch_66 : decode cX3_addStretch 66 = .ok (.iconst 2, 1) := by decide +kernel
theorem dX3_addStretch_67 : decode cX3_addStretch 67 = .ok (.aload_n 0, 1) := by decide +kernel
theorem dX3_addStretch_68 : decode cX3_addStretch 68 = .ok (.invokevirtual 72, 3) := by decide +kernel
theorem dX3_addStretch_71 : decode cX3_addStretch 71 = .ok (.iastore, 1) := by decide +kernel
theorem dX3_addStretch_72 : decode cX3_addStretch 72 = .ok (.dup, 1) := by decide +kernel
theorem dX3_addStretch_73 : decode cX3_addStretch 73 = .ok (.iconst 3, 1) := by decide +kernel
theorem dX3_addStretch_74 : decode cX3_addStretch 74 = .ok (.iconst 0, 1) := by decide +kernel
theorem dX3_addStretch_75 : decode cX3_addStretch 75 = .ok (.iastore, 1) := by decide +kernel
theorem dX3_addStretch_76 : decode cX3_addStretch 76 = .ok (.dup, 1) := by decide +kernel
theorem dX3_addStretch_77 : decode cX3_addStretch 77 = .ok (.iconst 4, 1) := by decide +kernel
theorem dX3_addStretch_78 : decode cX3_addStretch 78 = .ok (.iconst 0, 1) := by decide +kernel
theorem dX3_addStretch_79 : decode cX3_addStretch 79 = .ok (.iastore, 1) := by decide +kernel
theorem dX3_addStretch_80 : decode cX3_addStretch 80 = .ok (.astore_n 3, 1) := by decide +kernel
theorem dX3_addStretch_81 : decode cX3_addStretch 81 = .ok (.aload_n 3, 1) := by decide +kernel
theorem dX3_addStretch_82 : decode cX3_addStretch 82 = .ok (.iconst 0, 1) := by decide +kernel
theorem dX3_addStretch_83 : decode cX3_addStretch 83 = .ok (.aload_n 0, 1) := by decide +kernel
theorem dX3_addStretch_84 : decode cX3_addStretch 84 = .ok (.getfield 9, 3) := by decide +kernel
theorem dX3_addStretch_87 : decode cX3_addStretch 87 = .ok (.iconst 5, 1) := by decide +kernel
theorem dX3_addStretch_88 : decode cX3_addStretch 88 = .ok (.aload_n 0, 1) := by decide +kernel
theorem dX3_addStretch_89 : decode cX3_addStretch 89 = .ok (.getfield 51, 3) := by decide +kernel
theorem dX3_addStretch_92 : decode cX3_addStretch 92 = .ok (.imul, 1) := by decide +kernel
theorem dX3_addStretch_93 : decode cX3_addStretch 93 = .ok (.iconst 5, 1) := by decide +kernel
theorem dX3_addStretch_94 : decode cX3_addStretch 94 = .ok (.invokestatic 76, 3) := by decide +kernel
theorem dX3_addStretch_97 : decode cX3_addStretch 97 = .ok (.aload_n 0, 1) := by decide +kernel
theorem dX3_addStretch_98 : decode cX3_addStretch 98 = .ok (.dup, 1) := by decide +kernel
theorem dX3_addStretch_99 : decode cX3_addStretch 99 = .ok (.getfield 51, 3) := by decide +kernel
theorem dX3_addStretch_102 : decode cX3_addStretch 102 = .ok (.iconst 1, 1) := by decide +kernel
theorem dX3_addStretch_103 : decode cX3_addStretch 103 = .ok (.iadd, 1) := by decide +kernel
theorem dX3_addStretch_104 : decode cX3_addStretch 104 = .ok (.putfield 51, 3) := by decide +kernel
theorem dX3_addStretch_107 : decode cX3_addStretch 107 = .ok (.aload_n 0, 1) := by decide +kernel
theorem dX3_addStretch_108 : decode cX3_addStretch 108 = .ok (.getfield 51, 3) := by decide +kernel
theorem dX3_addStretch_111 : decode cX3_addStretch 111 = .ok (.iconst 1, 1) := by decide +kernel
theorem dX3_addStretch_112 : decode cX3_addStretch 112 = .ok (.isub, 1) := by decide +kernel
theorem dX3_addStretch_113 : decode cX3_addStretch 113 = .ok (.ireturn, 1) := by decide +kernel
set_option maxRecDepth 20000 in
theorem ggX3_post_X3_isIn : GoodIn wsX3_post wsX3_isIn := goodIn_r _ [6] (by decide +kernel) (by decide +kernel)
set_option maxRecDepth 20000 in
theorem gX3_post_X3_isIn : GoodIn wsX3_post (va_wsS RX3 54 yX3_isIn wsX3_isIn) := goodIn_app (goodIn_of _ (by decide +kernel)) ggX3_post_X3_isIn
set_option maxRecDepth 20000 in
theorem ggX3_post_X3_isStretch : GoodIn wsX3_post wsX3_isStretch := goodIn_r _ [10, 11, 3, 4, 5, 6, 16, 17, 18, 19, 20, 21, 22, 23, 24, 25, 26, 27, 28, 29, 30, 31] (by decide +kernel) (by decide +kernel)
set_option maxRecDepth 20000 in
theorem gX3_post_X3_isStretch : GoodIn wsX3_post (wsV RX3 82 RX3 yX3_isStretch wsX3_isStretch) := goodIn_app (goodIn_of _ (by decide +kernel)) ggX3_post_X3_isStretch
set_option maxRecDepth 20000 in
theorem ggX3_post_X3_fail : GoodIn wsX3_post wsX3_fail := goodIn_r _ [15, 1, 16, 17, 18, 19, 20, 21, 22, 23, 24, 25, 26, 27, 28, 29, 30, 31] (by decide +kernel) (by decide +kernel)
set_option maxRecDepth 20000 in
theorem gX3_post_X3_fail : GoodIn wsX3_post (wsV RX3 68 RX3 yX3_fail wsX3_fail) := goodIn_app (goodIn_of _ (by decide +kernel)) ggX3_post_X3_fail
theorem dX3_post_0 : decode cX3_post 0 = .ok (.aload_n 0, 1) := by decide +kernel
theorem dX3_post_1 : decode cX3_post 1 = .ok (.iconst 0, 1) := by decide +kernel
theorem dX3_post_2 : decode cX3_post 2 = .ok (.putfield 47, 3) := by decide +kernel
theorem dX3_post_5 : decode cX3_post 5 = .ok (.iload_n 1, 1) := by decide +kernel
theorem dX3_post_6 : decode cX3_post 6 = .ok (.iconst 0, 1) := by decide +kernel
theorem dX3_post_7 : decode cX3_post 7 = .ok (.iconst 1, 1) := by decide +kernel
theorem dX3_post_8 : decode cX3_post 8 = .ok (.invokestatic 54, 3) := by decide +kernel
theorem dX3_post_11 : decode cX3_post 11 = .ok (.ifCond .eq 16, 3) := by decide +kernel
theorem dX3_post_14 : decode cX3_post 14 = .ok (.iload_n 2, 1) := by decide +kernel
theorem dX3_post_15 : decode cX3_post 15 = .ok (.iconst (-1), 1) := by decide +kernel
theorem dX3_post_16 : decode cX3_post 16 = .ok (.if_icmp .eq 17, 3) := by decide +kernel
theorem dX3_post_19 : decode cX3_post 19 = .ok (.aload_n 0, 1) := by decide +kernel
theorem dX3_post_20 : decode cX3_post 20 = .ok (.iload_n 2, 1) := by decide +kernel
theorem dX3_post_21 : decode cX3_post 21 = .ok (.invokevirtual 82, 3) := by decide +kernel
theorem dX3_post_24 : decode cX3_post 24 = .ok (.ifCond .ne 9, 3) := by decide +kernel
theorem dX3_post_27 : decode cX3_post 27 = .ok (.aload_n 0, 1) := by decide +kernel
theorem dX3_post_28 : decode cX3_post 28 = .ok (.iconst 1, 1) := by decide +kernel
theorem dX3_post_29 : decode cX3_post 29 = .ok (.invokevirtual 68, 3) := by decide +kernel
theorem dX3_post_32 : decode cX3_post 32 = .ok (.ireturn, 1) := by decide +kernel
theorem dX3_post_33 : decode cX3_post 33 = .ok (.aload_n 0, 1) := by decide +kernel
theorem dX3_post_34 : decode cX3_post 34 = .ok (.getfield 13, 3) := by decide +kernel
theorem dX3_post_37 : decode cX3_post 37 = .ok (.iload_n 1, 1) := by decide +kernel
theorem dX3_post_38 : decode cX3_post 38 = .ok (.iaload, 1) := by decide +kernel
theorem dX3_post_39 : decode cX3_post 39 = .ok (.istore_n 3, 1) := by decide +kernel
theorem dX3_post_40 : decode cX3_post 40 = .ok (.aload_n 0, 1) := by decide +kernel
theorem dX3_post_41 : decode cX3_post 41 = .ok (.getfield 13, 3) := by decide +kernel
theorem dX3_post_44 : decode cX3_post 44 = .ok (.iload_n 1, 1) := by decide +kernel
theorem dX3_post_45 : decode cX3_post 45 = .ok (.iload_n 2, 1) := by decide +kernel
theorem dX3_post_46 : decode cX3_post 46 = .ok (.iastore, 1) := by decide +kernel
theorem dX3_post_47 : decode cX3_post 47 = .ok (.iload_n 3, 1) := by decide +kernel
theorem dX3_post_48 : decode cX3_post 48 = .ok (.ireturn, 1) := by decide +kernel
set_option maxRecDepth 20000 in
theorem ggX3_setWind_X3_isIn : GoodIn wsX3_setWind wsX3_isIn := goodIn_r _ [6] (by decide +kernel) (by decide +kernel)
set_option maxRecDepth 20000 in
theorem gX3_setWind_X3_isIn : GoodIn wsX3_setWind (va_wsS RX3 54 yX3_isIn wsX3_isIn) := goodIn_app (goodIn_of _ (by decide +kernel)) ggX3_setWind_X3_isIn
set_option maxRecDepth 20000 in
theorem ggX3_setWind_X3_fail : GoodIn wsX3_setWind wsX3_fail := goodIn_r _ [10, 1, 11, 12, 13, 14, 15, 16, 17, 18, 19, 20, 21, 22, 23, 24, 25, 26] (by decide +kernel) (by decide +kernel)
set_option maxRecDepth 20000 in
theorem gX3_setWind_X3_fail : GoodIn wsX3_setWind (wsV RX3 68 RX3 yX3_fail wsX3_fail) := goodIn_app (goodIn_of _ (by decide +kernel)) ggX3_setWind_X3_fail
theorem dX3_setWind_0 : decode cX3_setWind 0 = .ok (.aload_n 0, 1) := by decide +kernel
theorem dX3_setWind_1 : decode cX3_setWind 1 = .ok (.iconst 0, 1) := by decide +kernel
theorem dX3_setWind_2 : decode cX3_setWind 2 = .ok (.putfield 47, 3) := by decide +kernel
theorem dX3_setWind_5 : decode cX3_setWind 5 = .ok (.iload_n 1, 1) := by decide +kernel
theorem dX3_setWind_6 : decode cX3_setWind 6 = .ok (.iconst 0, 1) := by decide +kernel
theorem dX3_setWind_7 : decode cX3_setWind 7 = .ok (.bipush 9, 2) := by decide +kernel
theorem dX3_setWind_9 : decode cX3_setWind 9 = .ok (.invokestatic 54, 3) := by decide +kernel
theorem dX3_setWind_12 : decode cX3_setWind 12 = .ok (.ifCond .ne 9, 3) := by decide +kernel
theorem dX3_setWind_15 : decode cX3_setWind 15 = .ok (.aload_n 0, 1) := by decide +kernel
theorem dX3_setWind_16 : decode cX3_setWind 16 = .ok (.iconst 1, 1) := by decide +kernel
theorem dX3_setWind_17 : decode cX3_setWind 17 = .ok (.invokevirtual 68, 3) := by decide +kernel
theorem dX3_setWind_20 : decode cX3_setWind 20 = .ok (.ireturn, 1) := by decide +kernel
theorem dX3_setWind_21 : decode cX3_setWind 21 = .ok (.iload_n 2, 1) := by decide +kernel
theorem dX3_setWind_22 : decode cX3_setWind 22 = .ok (.iconst 0, 1) := by decide +kernel
theorem dX3_setWind_23 : decode cX3_setWind 23 = .ok (.bipush 9, 2) := by decide +kernel
theorem dX3_setWind_25 : decode cX3_setWind 25 = .ok (.invokestatic 54, 3) := by decide +kernel
theorem dX3_setWind_28 : decode cX3_setWind 28 = .ok (.ifCond .ne 9, 3) := by decide +kernel
theorem dX3_setWind_31 : decode cX3_setWind 31 = .ok (.aload_n 0, 1) := by decide +kernel
theorem dX3_setWind_32 : decode cX3_setWind 32 = .ok (.iconst 2, 1) := by decide +kernel
theorem dX3_setWind_33 : decode cX3_setWind 33 = .ok (.invokevirtual 68, 3) := by decide +kernel
theorem dX3_setWind_36 : decode cX3_setWind 36 = .ok (.ireturn, 1) := by decide +kernel
theorem dX3_setWind_37 : decode cX3_setWind 37 = .ok (.aload_n 0, 1) := by decide +kernel
theorem dX3_setWind_38 : decode cX3_setWind 38 = .ok (.getfield 16, 3) := by decide +kernel
theorem dX3_setWind_41 : decode cX3_setWind 41 = .ok (.iload_n 1, 1) := by decide +kernel
theorem dX3_setWind_42 : decode cX3_setWind 42 = .ok (.iaload, 1) := by decide +kernel
theorem dX3_setWind_43 : decode cX3_setWind 43 = .ok (.istore_n 3, 1) := by decide +kernel
theorem dX3_setWind_44 : decode cX3_setWind 44 = .ok (.aload_n 0, 1) := by decide +kernel
theorem dX3_setWind_45 : decode cX3_setWind 45 = .ok (.getfield 16, 3) := by decide +kernel
theorem dX3_setWind_48 : decode cX3_setWind 48 = .ok (.iload_n 1, 1) := by decide +kernel
theorem dX3_setWind_49 : decode cX3_setWind 49 = .ok (.iload_n 2, 1) := by decide +kernel
theorem dX3_setWind_50 : decode cX3_setWind 50 = .ok (.iastore, 1) := by decide +kernel
theorem dX3_setWind_51 : decode cX3_setWind 51 = .ok (.iload_n 3, 1) := by decide +kernel
theorem dX3_setWind_52 : decode cX3_setWind 52 = .ok (.ireturn, 1) := by decide +kernel
set_option maxRecDepth 20000 in
theorem ggX3_come_X3_isIn : GoodIn wsX3_come wsX3_isIn := goodIn_r _ [12] (by decide +kernel) (by decide +kernel)
set_option maxRecDepth 20000 in
theorem gX3_come_X3_isIn : GoodIn wsX3_come (va_wsS RX3 54 yX3_isIn wsX3_isIn) := goodIn_app (goodIn_of _ (by decide +kernel)) ggX3_come_X3_isIn
set_option maxRecDepth 20000 in
theorem ggX3_come_X3_fail : GoodIn wsX3_come wsX3_fail := goodIn_r _ [16, 1, 17, 18, 19, 20, 21, 22, 23, 24, 25, 26, 27, 28, 29, 30, 31, 32] (by decide +kernel) (by decide +kernel)
set_option maxRecDepth 20000 in
theorem gX3_come_X3_fail : GoodIn wsX3_come (wsV RX3 68 RX3 yX3_fail wsX3_fail) := goodIn_app (goodIn_of _ (by decide +kernel)) ggX3_come_X3_fail
theorem dX3_come_0 : decode cX3_come 0 = .ok (.aload_n 0, 1) := by decide +kernel
theorem dX3_come_1 : decode cX3_come 1 = .ok (.iconst 0, 1) := by decide +kernel
theorem dX3_come_2 : decode cX3_come 2 = .ok (.putfield 47, 3) := by decide +kernel
theorem dX3_come_5 : decode cX3_come 5 = .ok (.iload_n 1, 1) := by decide +kernel
theorem dX3_come_6 : decode cX3_come 6 = .ok (.iconst 1, 1) := by decide +kernel
theorem dX3_come_7 : decode cX3_come 7 = .ok (.iconst 3, 1) := by decide +kernel
theorem dX3_come_8 : decode cX3_come 8 = .ok (.invokestatic 54, 3) := by decide +kernel
theorem dX3_come_11 : decode cX3_come 11 = .ok (.ifCond .eq 24, 3) := by decide +kernel
theorem dX3_come_14 : decode cX3_come 14 = .ok (.iload_n 2, 1) := by decide +kernel
theorem dX3_come_15 : decode cX3_come 15 = .ok (.iconst 0, 1) := by decide +kernel
theorem dX3_come_16 : decode cX3_come 16 = .ok (.sipush 200, 3) := by decide +kernel
theorem dX3_come_19 : decode cX3_come 19 = .ok (.invokestatic 54, 3) := by decide +kernel
theorem dX3_come_22 : decode cX3_come 22 = .ok (.ifCond .eq 13, 3) := by decide +kernel
theorem dX3_come_25 : decode cX3_come 25 = .ok (.iload_n 3, 1) := by decide +kernel
theorem dX3_come_26 : decode cX3_come 26 = .ok (.iconst 0, 1) := by decide +kernel
theorem dX3_come_27 : decode cX3_come 27 = .ok (.bipush 9, 2) := by decide +kernel
theorem dX3_come_29 : decode cX3_come 29 = .ok (.invokestatic 54, 3) := by decide +kernel
theorem dX3_come_32 : decode cX3_come 32 = .ok (.ifCond .ne 9, 3) := by decide +kernel
theorem dX3_come_35 : decode cX3_come 35 = .ok (.aload_n 0, 1) := by decide +kernel
theorem dX3_come_36 : decode cX3_come 36 = .ok (.iconst 1, 1) := by decide +kernel
theorem dX3_come_37 : decode cX3_come 37 = .ok (.invokevirtual 68, 3) := by decide +kernel
theorem dX3_come_40 : decode cX3_come 40 = .ok (.ireturn, 1) := by decide +kernel
theorem dX3_come_41 : decode cX3_come 41 = .ok (.aload_n 0, 1) := by decide +kernel
theorem dX3_come_42 : decode cX3_come 42 = .ok (.getfield 58, 3) := by decide +kernel
theorem dX3_come_45 : decode cX3_come 45 = .ok (.bipush 20, 2) := by decide +kernel
theorem dX3_come_47 : decode cX3_come 47 = .ok (.if_icmp .ne 9, 3) := by decide +kernel
theorem dX3_come_50 : decode cX3_come 50 = .ok (.aload_n 0, 1) := by decide +kernel
theorem dX3_come_51 : decode cX3_come 51 = .ok (.iconst 2, 1) := by decide +kernel
theorem dX3_come_52 : decode cX3_come 52 = .ok (.invokevirtual 68, 3) := by decide +kernel
theorem dX3_come_55 : decode cX3_come 55 = .ok (.ireturn, 1) := by decide +kernel
theorem dX3_come_56 : decode cX3_come 56 = .ok (.bipush 8, 2) := by decide +kernel
theorem dX3_come_58 : decode cX3_come 58 = .ok (.newarray .int, 2) := by decide +kernel
theorem dX3_come_60 : decode cX3_come 60 = .ok (.dup, 1) := by decide +kernel
theorem dX3_come_61 : decode cX3_come 61 = .ok (.iconst 0, 1) := by decide +kernel
theorem dX3_come_62 : decode cX3_come 62 = .ok (.iload_n 1, 1) := by decide +kernel
theorem dX3_come_63 : decode cX3_come 63 = .ok (.iastore, 1) := by decide +kernel
theorem dX3_come_64 : decode cX3_come 64 = .ok (.dup, 1) := by decide +kernel
theorem dX3_come_65 : decode cX3_come 65 = .ok (.iconst 1, 1) := by decide +kernel
theorem dX3_come_66 : decode cX3_come 66 = .ok (.iload_n 2, 1) := by decide +kernel
theorem dX3_come_67 : decode cX3_come 67 = .ok (.iastore, 1) := by decide +kernel
theorem dX3_come_68 : decode cX3_come 68 = .ok (.dup, 1) := by decide +kernel
theorem dX3_come_69 : decode cX3_come 69 = .ok (.iconst 2, 1) := by decide +kernel
theorem dX3_come_70 : decode cX3_come 70 = .ok (.iload_n 3, 1) := by decide +kernel
theorem dX3_come_71 : decode cX3_come 71 = .ok (.iastore, 1) := by decide +kernel
theorem dX3_come_72 : decode cX3_come 72 = .ok (.dup, 1) := by decide +kernel
theorem dX3_come_73 : decode cX3_come 73 = .ok (.iconst 3, 1) := by decide +kernel
theorem dX3_come_74 : decode cX3_come 74 = .ok (.iload_n 2, 1) := by decide +kernel
theorem dX3_come_75 : decode cX3_come 75 = .ok (.ifCond .le 7, 3) := by decide +kernel
theorem dX3_come_78 : decode cX3_come 78 = .ok (.iconst 1, 1) := by decide +kernel
theorem dX3_come_79 : decode cX3_come 79 = .ok (.goto 4, 3) := by decide +kernel
theorem dX3_come_82 : decode cX3_come 82 = .ok (.iconst 0, 1) := by decide +kernel
theorem dX3_come_83 : decode cX3_come 83 = .ok (.iastore, 1) := by decide +kernel
theorem dX3_come_84 : decode cX3_come 84 = .ok (.dup, 1) := by decide +kernel
theorem dX3_come_85 : decode cX3_come 85 = .ok (.iconst 4, 1) := by decide +kernel
theorem dX3_come_86 : decode cX3_come 86 = .ok (.iconst 0, 1) := by decide +kernel
theorem dX3_come_87 : decode cX3_come 87 = .ok (.iastore, 1) := by decide +kernel
theorem dX3_come_88 : decode cX3_come 88 = .ok (.dup, 1) := by decide +kernel
theorem dX3_come_89 : decode cX3_come 89 = .ok (.iconst 5, 1) := by decide +kernel
theorem dX3_come_90 : decode cX3_come 90 = .ok (.iconst (-1), 1) := by decide +kernel
theorem dX3_come_91 : decode cX3_come 91 = .ok (.iastore, 1) := by decide +kernel
theorem dX3_come_92 : decode cX3_come 92 = .ok (.dup, 1) := by decide +kernel
theorem dX3_come_93 : decode cX3_come 93 = .ok (.bipush 6, 2) := by decide +kernel
theorem dX3_come_95 : decode cX3_come 95 = .ok (.iconst 0, 1) := by decide +kernel
theorem dX3_come_96 : decode cX3_come 96 = .ok (.iastore, 1) := by decide +kernel
theorem dX3_come_97 : decode cX3_come 97 = .ok (.dup, 1) := by decide +kernel
theorem dX3_come_98 : decode cX3_come 98 = .ok (.bipush 7, 2) := by decide +kernel
theorem dX3_come_100 : decode cX3_come 100 = .ok (.iconst (-1), 1) := by decide +kernel
theorem dX3_come_101 : decode cX3_come 101 = .ok (.iastore, 1) := by decide +kernel
theorem dX3_come_102 : decode cX3_come 102 = .ok (.astore 4, 2) := by decide +kernel
theorem dX3_come_104 : decode cX3_come 104 = .ok (.aload 4, 2) := by decide +kernel
theorem dX3_come_106 : decode cX3_come 106 = .ok (.iconst 0, 1) := by decide +kernel
theorem dX3_come_107 : decode cX3_come 107 = .ok (.aload_n 0, 1) := by decide +kernel
theorem dX3_come_108 : decode cX3_come 108 = .ok (.getfield 19, 3) := by decide +kernel
theorem dX3_come_111 : decode cX3_come 111 = .ok (.bipush 8, 2) := by decide +kernel
theorem dX3_come_113 : decode cX3_come 113 = .ok (.aload_n 0, 1) := by decide +kernel
theorem dX3_come_114 : decode cX3_come 114 = .ok (.getfield 58, 3) := by decide +kernel
theorem dX3_come_117 : decode cX3_come 117 = .ok (.imul, 1) := by decide +kernel
theorem dX3_come_118 : decode cX3_come 118 = .ok (.bipush 8, 2) := by decide +kernel
theorem dX3_come_120 : decode cX3_come 120 = .ok (.invokestatic 76, 3) := by decide +kernel
theorem dX3_come_123 : decode cX3_come 123 = .ok (.aload_n 0, 1) := by decide +kernel
theorem dX3_come_124 : decode cX3_come 124 = .ok (.dup, 1) := by decide +kernel
theorem dX3_come_125 : decode cX3_come 125 = .ok (.getfield 58, 3) := by decide +kernel
theorem dX3_come_128 : decode cX3_come 128 = .ok (.iconst 1, 1) := by decide +kernel
theorem dX3_come_129 : decode cX3_come 129 = .ok (.iadd, 1) := by decide +kernel
theorem dX3_come_130 : decode cX3_come 130 = .ok (.putfield 58, 3) := by decide +kernel
theorem dX3_come_133 : decode cX3_come 133 = .ok (.aload_n 0, 1) := by decide +kernel
theorem dX3_come_134 : decode cX3_come 134 = .ok (.getfield 58, 3) := by decide +kernel
theorem dX3_come_137 : decode cX3_come 137 = .ok (.iconst 1, 1) := by decide +kernel
theorem dX3_come_138 : decode cX3_come 138 = .ok (.isub, 1) := by decide +kernel
theorem dX3_come_139 : decode cX3_come 139 = .ok (.ireturn, 1) := by decide +kernel
set_option maxRecDepth 20000 in
theorem ggX3_trim_X3_isWalker : GoodIn wsX3_trim wsX3_isWalker := goodIn_r _ [10, 11, 12, 13, 9, 14, 28, 29, 30, 31, 32, 33, 34, 35, 36, 37, 38, 39, 40, 41, 42, 43] (by decide +kernel) (by decide +kernel)
set_option maxRecDepth 20000 in
theorem gX3_trim_X3_isWalker : GoodIn wsX3_trim (wsV RX3 86 RX3 yX3_isWalker wsX3_isWalker) := goodIn_app (goodIn_of _ (by decide +kernel)) ggX3_trim_X3_isWalker
set_option maxRecDepth 20000 in
theorem ggX3_trim_X3_fail : GoodIn wsX3_trim wsX3_fail := goodIn_r _ [18, 1, 28, 29, 30, 31, 32, 33, 34, 35, 36, 37, 38, 39, 40, 41, 42, 43] (by decide +kernel) (by decide +kernel)
set_option maxRecDepth 20000 in
theorem gX3_trim_X3_fail : GoodIn wsX3_trim (wsV RX3 68 RX3 yX3_fail wsX3_fail) := goodIn_app (goodIn_of _ (by decide +kernel)) ggX3_trim_X3_fail
set_option maxRecDepth 20000 in
theorem ggX3_trim_X3_isIn : GoodIn wsX3_trim wsX3_isIn := goodIn_r _ [14] (by decide +kernel) (by decide +kernel)
set_option maxRecDepth 20000 in
theorem gX3_trim_X3_isIn : GoodIn wsX3_trim (va_wsS RX3 54 yX3_isIn wsX3_isIn) := goodIn_app (goodIn_of _ (by decide +kernel)) ggX3_trim_X3_isIn
set_option maxRecDepth 20000 in
theorem ggX3_trim_X3_pe : GoodIn wsX3_trim wsX3_pe := goodIn_r _ [22, 23, 28, 29, 30, 31, 32, 33, 34, 35, 36, 37, 38, 39, 40, 41, 42, 43] (by decide +kernel) (by decide +kernel)
set_option maxRecDepth 20000 in
theorem gX3_trim_X3_pe : GoodIn wsX3_trim (wsV RX3 89 RX3 yX3_pe wsX3_pe) := goodIn_app (goodIn_of _ (by decide +kernel)) ggX3_trim_X3_pe
set_option maxRecDepth 20000 in
theorem ggX3_trim_X3_set : GoodIn wsX3_trim wsX3_set := goodIn_r _ [27, 23, 28, 29, 30, 31, 32, 33, 34, 35, 36, 37, 38, 39, 40, 41, 42, 43] (by decide +kernel) (by decide +kernel)
set_option maxRecDepth 20000 in
theorem gX3_trim_X3_set : GoodIn wsX3_trim (wsV RX3 97 RX3 yX3_set wsX3_set) := goodIn_app (goodIn_of _ (by decide +kernel)) ggX3_trim_X3_set
theorem dX3_trim_0 : decode cX3_trim 0 = .ok (.aload_n 0, 1) := by decide +kernel
theorem dX3_trim_1 : decode cX3_trim 1 = .ok (.iconst 0, 1) := by decide +kernel
theorem dX3_trim_2 : decode cX3_trim 2 = .ok (.putfield 47, 3) := by decide +kernel
theorem dX3_trim_5 : decode cX3_trim 5 = .ok (.aload_n 0, 1) := by decide +kernel
theorem dX3_trim_6 : decode cX3_trim 6 = .ok (.iload_n 1, 1) := by decide +kernel
theorem dX3_trim_7 : decode cX3_trim 7 = .ok (.invokevirtual 86, 3) := by decide +kernel
theorem dX3_trim_10 : decode cX3_trim 10 = .ok (.ifCond .ne 9, 3) := by decide +kernel
theorem dX3_trim_13 : decode cX3_trim 13 = .ok (.aload_n 0, 1) := by decide +kernel
theorem dX3_trim_14 : decode cX3_trim 14 = .ok (.iconst 1, 1) := by decide +kernel
theorem dX3_trim_15 : decode cX3_trim 15 = .ok (.invokevirtual 68, 3) := by decide +kernel
theorem dX3_trim_18 : decode cX3_trim 18 = .ok (.ireturn, 1) := by decide +kernel
theorem dX3_trim_19 : decode cX3_trim 19 = .ok (.iload_n 2, 1) := by decide +kernel
theorem dX3_trim_20 : decode cX3_trim 20 = .ok (.iconst 1, 1) := by decide +kernel
theorem dX3_trim_21 : decode cX3_trim 21 = .ok (.sipush 200, 3) := by decide +kernel
theorem dX3_trim_24 : decode cX3_trim 24 = .ok (.invokestatic 54, 3) := by decide +kernel
theorem dX3_trim_27 : decode cX3_trim 27 = .ok (.ifCond .ne 9, 3) := by decide +kernel
theorem dX3_trim_30 : decode cX3_trim 30 = .ok (.aload_n 0, 1) := by decide +kernel
theorem dX3_trim_31 : decode cX3_trim 31 = .ok (.iconst 2, 1) := by decide +kernel
theorem dX3_trim_32 : decode cX3_trim 32 = .ok (.invokevirtual 68, 3) := by decide +kernel
theorem dX3_trim_35 : decode cX3_trim 35 = .ok (.ireturn, 1) := by decide +kernel
theorem dX3_trim_36 : decode cX3_trim 36 = .ok (.aload_n 0, 1) := by decide +kernel
theorem dX3_trim_37 : decode cX3_trim 37 = .ok (.iload_n 1, 1) := by decide +kernel
theorem dX3_trim_38 : decode cX3_trim 38 = .ok (.iconst 4, 1) := by decide +kernel
theorem dX3_trim_39 : decode cX3_trim 39 = .ok (.invokevirtual 89, 3) := by decide +kernel
theorem dX3_trim_42 : decode cX3_trim 42 = .ok (.iconst 2, 1) := by decide +kernel
theorem dX3_trim_43 : decode cX3_trim 43 = .ok (.if_icmp .ne 9, 3) := by decide +kernel
theorem dX3_trim_46 : decode cX3_trim 46 = .ok (.aload_n 0, 1) := by decide +kernel
theorem dX3_trim_47 : decode cX3_trim 47 = .ok (.iconst 3, 1) := by decide +kernel
theorem dX3_trim_48 : decode cX3_trim 48 = .ok (.invokevirtual 68, 3) := by decide +kernel
theorem dX3_trim_51 : decode cX3_trim 51 = .ok (.ireturn, 1) := by decide +kernel
theorem dX3_trim_52 : decode cX3_trim 52 = .ok (.aload_n 0, 1) := by decide +kernel
theorem dX3_trim_53 : decode cX3_trim 53 = .ok (.iload_n 1, 1) := by decide +kernel
theorem dX3_trim_54 : decode cX3_trim 54 = .ok (.iconst 1, 1) := by decide +kernel
theorem dX3_trim_55 : decode cX3_trim 55 = .ok (.sipush 200, 3) := by decide +kernel
theorem dX3_trim_58 : decode cX3_trim 58 = .ok (.aload_n 0, 1) := by decide +kernel
theorem dX3_trim_59 : decode cX3_trim 59 = .ok (.iload_n 1, 1) := by decide +kernel
theorem dX3_trim_60 : decode cX3_trim 60 = .ok (.iconst 1, 1) := by decide +kernel
theorem dX3_trim_61 : decode cX3_trim 61 = .ok (.invokevirtual 89, 3) := by decide +kernel
theorem dX3_trim_64 : decode cX3_trim 64 = .ok (.iload_n 2, 1) := by decide +kernel
theorem dX3_trim_65 : decode cX3_trim 65 = .ok (.iadd, 1) := by decide +kernel
theorem dX3_trim_66 : decode cX3_trim 66 = .ok (.invokestatic 92, 3) := by decide +kernel
theorem dX3_trim_69 : decode cX3_trim 69 = .ok (.invokevirtual 97, 3) := by decide +kernel
theorem dX3_trim_72 : decode cX3_trim 72 = .ok (.aload_n 0, 1) := by decide +kernel
theorem dX3_trim_73 : decode cX3_trim 73 = .ok (.iload_n 1, 1) := by decide +kernel
theorem dX3_trim_74 : decode cX3_trim 74 = .ok (.iconst 3, 1) := by decide +kernel
theorem dX3_trim_75 : decode cX3_trim 75 = .ok (.iconst 1, 1) := by decide +kernel
theorem dX3_trim_76 : decode cX3_trim 76 = .ok (.invokevirtual 97, 3) := by decide +kernel
theorem dX3_trim_79 : decode cX3_trim 79 = .ok (.aload_n 0, 1) := by decide +kernel
theorem dX3_trim_80 : decode cX3_trim 80 = .ok (.iload_n 1, 1) := by decide +kernel
theorem dX3_trim_81 : decode cX3_trim 81 = .ok (.iconst 1, 1) := by decide +kernel
theorem dX3_trim_82 : decode cX3_trim 82 = .ok (.invokevirtual 89, 3) := by decide +kernel
theorem dX3_trim_85 : decode cX3_trim 85 = .ok (.ireturn, 1) := by decide +kernel
set_option maxRecDepth 20000 in
theorem ggX3_addSong_X3_isIn : GoodIn wsX3_addSong wsX3_isIn := goodIn_r _ [7] (by decide +kernel) (by decide +kernel)
set_option maxRecDepth 20000 in
theorem gX3_addSong_X3_isIn : GoodIn wsX3_addSong (va_wsS RX3 54 yX3_isIn wsX3_isIn) := goodIn_app (goodIn_of _ (by decide +kernel)) ggX3_addSong_X3_isIn
set_option maxRecDepth 20000 in
theorem ggX3_addSong_X3_fail : GoodIn wsX3_addSong wsX3_fail := goodIn_r _ [11, 1, 12, 13, 14, 15, 16, 17, 18, 19, 20, 21, 22, 23, 24, 25, 26, 27] (by decide +kernel) (by decide +kernel)
set_option maxRecDepth 20000 in
theorem gX3_addSong_X3_fail : GoodIn wsX3_addSong (wsV RX3 68 RX3 yX3_fail wsX3_fail) := goodIn_app (goodIn_of _ (by decide +kernel)) ggX3_addSong_X3_fail
theorem dX3_addSong_0 : decode cX3_addSong 0 = .ok (.aload_n 0, 1) := by decide +kernel
theorem dX3_addSong_1 : decode cX3_addSong 1 = .ok (.iconst 0, 1) := by decide +kernel
theorem dX3_addSong_2 : decode cX3_addSong 2 = .ok (.putfield 47, 3) := by decide +kernel
theorem dX3_addSong_5 : decode cX3_addSong 5 = .ok (.iload_n 1, 1) := by decide +kernel
theorem dX3_addSong_6 : decode cX3_addSong 6 = .ok (.iconst 1, 1) := by decide +kernel
theorem dX3_addSong_7 : decode cX3_addSong 7 = .ok (.bipush 9, 2) := by decide +kernel
theorem dX3_addSong_9 : decode cX3_addSong 9 = .ok (.invokestatic 54, 3) := by decide +kernel
theorem dX3_addSong_12 : decode cX3_addSong 12 = .ok (.ifCond .ne 9, 3) := by decide +kernel
theorem dX3_addSong_15 : decode cX3_addSong 15 = .ok (.aload_n 0, 1) := by decide +kernel
theorem dX3_addSong_16 : decode cX3_addSong 16 = .ok (.iconst 1, 1) := by decide +kernel
theorem dX3_addSong_17 : decode cX3_addSong 17 = .ok (.invokevirtual 68, 3) := by decide +kernel
theorem dX3_addSong_20 : decode cX3_addSong 20 = .ok (.ireturn, 1) := by decide +kernel
theorem dX3_addSong_21 : decode cX3_addSong 21 = .ok (.aload_n 0, 1) := by decide +kernel
theorem dX3_addSong_22 : decode cX3_addSong 22 = .ok (.getfield 61, 3) := by decide +kernel
theorem dX3_addSong_25 : decode cX3_addSong 25 = .ok (.bipush 6, 2) := by decide +kernel
theorem dX3_addSong_27 : decode cX3_addSong 27 = .ok (.if_icmp .ne 9, 3) := by decide +kernel
theorem dX3_addSong_30 : decode cX3_addSong 30 = .ok (.aload_n 0, 1) := by decide +kernel
theorem dX3_addSong_31 : decode cX3_addSong 31 = .ok (.iconst 2, 1) := by decide +kernel
theorem dX3_addSong_32 : decode cX3_addSong 32 = .ok (.invokevirtual 68, 3) := by decide +kernel
theorem dX3_addSong_35 : decode cX3_addSong 35 = .ok (.ireturn, 1) := by decide +kernel
theorem dX3_addSong_36 : decode cX3_addSong 36 = .ok (.aload_n 0, 1) := by decide +kernel
theorem dX3_addSong_37 : decode cX3_addSong 37 = .ok (.getfield 22, 3) := by decide +kernel
theorem dX3_addSong_40 : decode cX3_addSong 40 = .ok (.aload_n 0, 1) := by decide +kernel
theorem dX3_addSong_41 : decode cX3_addSong 41 = .ok (.getfield 61, 3) := by decide +kernel
theorem dX3_addSong_44 : decode cX3_addSong 44 = .ok (.iload_n 1, 1) := by decide +kernel
theorem dX3_addSong_45 : decode cX3_addSong 45 = .ok (.iastore, 1) := by decide +kernel
theorem dX3_addSong_46 : decode cX3_addSong 46 = .ok (.aload_n 0, 1) := by decide +kernel
theorem dX3_addSong_47 : decode cX3_addSong 47 = .ok (.dup, 1) := by decide +kernel
theorem dX3_addSong_48 : decode cX3_addSong 48 = .ok (.getfield 61, 3) := by decide +kernel
theorem dX3_addSong_51 : decode cX3_addSong 51 = .ok (.iconst 1, 1) := by decide +kernel
theorem dX3_addSong_52 : decode cX3_addSong 52 = .ok (.iadd, 1) := by decide +kernel
theorem dX3_addSong_53 : decode cX3_addSong 53 = .ok (.putfield 61, 3) := by decide +kernel
theorem dX3_addSong_56 : decode cX3_addSong 56 = .ok (.aload_n 0, 1) := by decide +kernel
theorem dX3_addSong_57 : decode cX3_addSong 57 = .ok (.getfield 61, 3) := by decide +kernel
theorem dX3_addSong_60 : decode cX3_addSong 60 = .ok (.iconst 1, 1) := by decide +kernel
theorem dX3_addSong_61 : decode cX3_addSong 61 = .ok (.isub, 1) := by decide +kernel
theorem dX3_addSong_62 : decode cX3_addSong 62 = .ok (.ireturn, 1) := by decide +kernel
set_option maxRecDepth 20000 in
theorem ggX3_teach_X3_isWalker : GoodIn wsX3_teach wsX3_isWalker := goodIn_r _ [7, 8, 9, 10, 6, 11, 21, 22, 23, 24, 25, 26, 27, 28, 29, 30, 31, 32, 33, 34, 35, 36] (by decide +kernel) (by decide +kernel)
set_option maxRecDepth 20000 in
theorem gX3_teach_X3_isWalker : GoodIn wsX3_teach (wsV RX3 86 RX3 yX3_isWalker wsX3_isWalker) := goodIn_app (goodIn_of _ (by decide +kernel)) ggX3_teach_X3_isWalker
set_option maxRecDepth 20000 in
theorem ggX3_teach_X3_isSong : GoodIn wsX3_teach wsX3_isSong := goodIn_r _ [15, 16, 9, 10, 6, 11, 21, 22, 23, 24, 25, 26, 27, 28, 29, 30, 31, 32, 33, 34, 35, 36] (by decide +kernel) (by decide +kernel)
set_option maxRecDepth 20000 in
theorem gX3_teach_X3_isSong : GoodIn wsX3_teach (wsV RX3 101 RX3 yX3_isSong wsX3_isSong) := goodIn_app (goodIn_of _ (by decide +kernel)) ggX3_teach_X3_isSong
set_option maxRecDepth 20000 in
theorem ggX3_teach_X3_fail : GoodIn wsX3_teach wsX3_fail := goodIn_r _ [20, 1, 21, 22, 23, 24, 25, 26, 27, 28, 29, 30, 31, 32, 33, 34, 35, 36] (by decide +kernel) (by decide +kernel)
set_option maxRecDepth 20000 in
theorem gX3_teach_X3_fail : GoodIn wsX3_teach (wsV RX3 68 RX3 yX3_fail wsX3_fail) := goodIn_app (goodIn_of _ (by decide +kernel)) ggX3_teach_X3_fail
set_option maxRecDepth 20000 in
theorem ggX3_teach_X3_isIn : GoodIn wsX3_teach wsX3_isIn := goodIn_r _ [11] (by decide +kernel) (by decide +kernel)
set_option maxRecDepth 20000 in
theorem gX3_teach_X3_isIn : GoodIn wsX3_teach (va_wsS RX3 54 yX3_isIn wsX3_isIn) := goodIn_app (goodIn_of _ (by decide +kernel)) ggX3_teach_X3_isIn
theorem dX3_teach_0 : decode cX3_teach 0 = .ok (.aload_n 0, 1) := by decide +kernel
theorem dX3_teach_1 : decode cX3_teach 1 = .ok (.iconst 0, 1) := by decide +kernel
theorem dX3_teach_2 : decode cX3_teach 2 = .ok (.putfield 47, 3) := by decide +kernel
theorem dX3_teach_5 : decode cX3_teach 5 = .ok (.aload_n 0, 1) := by decide +kernel
theorem dX3_teach_6 : decode cX3_teach 6 = .ok (.iload_n 1, 1) := by decide +kernel
theorem dX3_teach_7 : decode cX3_teach 7 = .ok (.invokevirtual 86, 3) := by decide +kernel
theorem dX3_teach_10 : decode cX3_teach 10 = .ok (.ifCond .eq 11, 3) := by decide +kernel
theorem dX3_teach_13 : decode cX3_teach 13 = .ok (.aload_n 0, 1) := by decide +kernel
theorem dX3_teach_14 : decode cX3_teach 14 = .ok (.iload_n 2, 1) := by decide +kernel
theorem dX3_teach_15 : decode cX3_teach 15 = .ok (.invokevirtual 101, 3) := by decide +kernel
theorem dX3_teach_18 : decode cX3_teach 18 = .ok (.ifCond .ne 9, 3) := by decide +kernel
theorem dX3_teach_21 : decode cX3_teach 21 = .ok (.aload_n 0, 1) := by decide +kernel
theorem dX3_teach_22 : decode cX3_teach 22 = .ok (.iconst 1, 1) := by decide +kernel
theorem dX3_teach_23 : decode cX3_teach 23 = .ok (.invokevirtual 68, 3) := by decide +kernel
theorem dX3_teach_26 : decode cX3_teach 26 = .ok (.ireturn, 1) := by decide +kernel
theorem dX3_teach_27 : decode cX3_teach 27 = .ok (.iload_n 3, 1) := by decide +kernel
theorem dX3_teach_28 : decode cX3_teach 28 = .ok (.iconst 0, 1) := by decide +kernel
theorem dX3_teach_29 : decode cX3_teach 29 = .ok (.bipush 99, 2) := by decide +kernel
theorem dX3_teach_31 : decode cX3_teach 31 = .ok (.invokestatic 54, 3) := by decide +kernel
theorem dX3_teach_34 : decode cX3_teach 34 = .ok (.ifCond .ne 9, 3) := by decide +kernel
theorem dX3_teach_37 : decode cX3_teach 37 = .ok (.aload_n 0, 1) := by decide +kernel
theorem dX3_teach_38 : decode cX3_teach 38 = .ok (.iconst 2, 1) := by decide +kernel
theorem dX3_teach_39 : decode cX3_teach 39 = .ok (.invokevirtual 68, 3) := by decide +kernel
theorem dX3_teach_42 : decode cX3_teach 42 = .ok (.ireturn, 1) := by decide +kernel
theorem dX3_teach_43 : decode cX3_teach 43 = .ok (.aload_n 0, 1) := by decide +kernel
theorem dX3_teach_44 : decode cX3_teach 44 = .ok (.getfield 25, 3) := by decide +kernel
theorem dX3_teach_47 : decode cX3_teach 47 = .ok (.bipush 6, 2) := by decide +kernel
theorem dX3_teach_49 : decode cX3_teach 49 = .ok (.iload_n 1, 1) := by decide +kernel
theorem dX3_teach_50 : decode cX3_teach 50 = .ok (.imul, 1) := by decide +kernel
theorem dX3_teach_51 : decode cX3_teach 51 = .ok (.iload_n 2, 1) := by decide +kernel
theorem dX3_teach_52 : decode cX3_teach 52 = .ok (.iadd, 1) := by decide +kernel
theorem dX3_teach_53 : decode cX3_teach 53 = .ok (.iaload, 1) := by decide +kernel
theorem dX3_teach_54 : decode cX3_teach 54 = .ok (.istore 4, 2) := by decide +kernel
theorem dX3_teach_56 : decode cX3_teach 56 = .ok (.aload_n 0, 1) := by decide +kernel
theorem dX3_teach_57 : decode cX3_teach 57 = .ok (.getfield 25, 3) := by decide +kernel
theorem dX3_teach_60 : decode cX3_teach 60 = .ok (.bipush 6, 2) := by decide +kernel
theorem dX3_teach_62 : decode cX3_teach 62 = .ok (.iload_n 1, 1) := by decide +kernel
theorem dX3_teach_63 : decode cX3_teach 63 = .ok (.imul, 1) := by decide +kernel
theorem dX3_teach_64 : decode cX3_teach 64 = .ok (.iload_n 2, 1) := by decide +kernel
theorem dX3_teach_65 : decode cX3_teach 65 = .ok (.iadd, 1) := by decide +kernel
theorem dX3_teach_66 : decode cX3_teach 66 = .ok (.iload_n 3, 1) := by decide +kernel
theorem dX3_teach_67 : decode cX3_teach 67 = .ok (.iastore, 1) := by decide +kernel
theorem dX3_teach_68 : decode cX3_teach 68 = .ok (.iload 4, 2) := by decide +kernel
theorem dX3_teach_70 : decode cX3_teach 70 = .ok (.ireturn, 1) := by decide +kernel
set_option maxRecDepth 20000 in
theorem ggX3_walks_X3_pe : GoodIn wsX3_walks wsX3_pe := goodIn_r _ [5, 6, 7, 8, 9, 10, 11, 12, 13, 14, 15, 16, 17, 18, 19, 20, 21, 22] (by decide +kernel) (by decide +kernel)
set_option maxRecDepth 20000 in
theorem gX3_walks_X3_pe : GoodIn wsX3_walks (wsV RX3 89 RX3 yX3_pe wsX3_pe) := goodIn_app (goodIn_of _ (by decide +kernel)) ggX3_walks_X3_pe
theorem dX3_walks_0 : decode cX3_walks 0 = .ok (.aload_n 0, 1) := by decide +kernel
theorem dX3_walks_1 : decode cX3_walks 1 = .ok (.iload_n 1, 1) := by decide +kernel
theorem dX3_walks_2 : decode cX3_walks 2 = .ok (.iconst 4, 1) := by decide +kernel
theorem dX3_walks_3 : decode cX3_walks 3 = .ok (.invokevirtual 89, 3) := by decide +kernel
theorem dX3_walks_6 : decode cX3_walks 6 = .ok (.iconst 1, 1) := by decide +kernel
theorem dX3_walks_7 : decode cX3_walks 7 = .ok (.if_icmp .ne 7, 3) := by decide +kernel
theorem dX3_walks_10 : decode cX3_walks 10 = .ok (.iconst 1, 1) := by decide +kernel
theorem dX3_walks_11 : decode cX3_walks 11 = .ok (.goto 4, 3) := by decide +kernel
theorem dX3_walks_14 : decode cX3_walks 14 = .ok (.iconst 0, 1) := by decide +kernel
theorem dX3_walks_15 : decode cX3_walks 15 = .ok (.ireturn, 1) := by decide +kernel
set_option maxRecDepth 20000 in
theorem ggX3_at_X3_walks : GoodIn wsX3_at wsX3_walks := goodIn_r _ [6, 7, 8, 9, 5, 10, 11, 12, 13, 14, 15, 16, 17, 18, 19, 20, 21, 22, 23, 24, 25, 26, 27] (by decide +kernel) (by decide +kernel)
set_option maxRecDepth 20000 in
theorem gX3_at_X3_walks : GoodIn wsX3_at (wsV RX3 104 RX3 yX3_walks wsX3_walks) := goodIn_app (goodIn_of _ (by decide +kernel)) ggX3_at_X3_walks
set_option maxRecDepth 20000 in
theorem ggX3_at_X3_pe : GoodIn wsX3_at wsX3_pe := goodIn_r _ [10, 11, 12, 13, 14, 15, 16, 17, 18, 19, 20, 21, 22, 23, 24, 25, 26, 27] (by decide +kernel) (by decide +kernel)
set_option maxRecDepth 20000 in
theorem gX3_at_X3_pe : GoodIn wsX3_at (wsV RX3 89 RX3 yX3_pe wsX3_pe) := goodIn_app (goodIn_of _ (by decide +kernel)) ggX3_at_X3_pe
theorem dX3_at_0 : decode cX3_at 0 = .ok (.iconst 0, 1) := by decide +kernel
theorem dX3_at_1 : decode cX3_at 1 = .ok (.istore_n 2, 1) := by decide +kernel
theorem dX3_at_2 : decode cX3_at 2 = .ok (.iconst 0, 1) := by decide +kernel
theorem dX3_at_3 : decode cX3_at 3 = .ok (.istore_n 3, 1) := by decide +kernel
theorem dX3_at_4 : decode cX3_at 4 = .ok (.iload_n 3, 1) := by decide +kernel
theorem dX3_at_5 : decode cX3_at 5 = .ok (.aload_n 0, 1) := by decide +kernel
theorem dX3_at_6 : decode cX3_at 6 = .ok (.getfield 58, 3) := by decide +kernel
theorem dX3_at_9 : decode cX3_at 9 = .ok (.if_icmp .ge 35, 3) := by decide +kernel
theorem dX3_at_12 : decode cX3_at 12 = .ok (.iload_n 2, 1) := by decide +kernel
theorem dX3_at_13 : decode cX3_at 13 = .ok (.aload_n 0, 1) := by decide +kernel
theorem dX3_at_14 : decode cX3_at 14 = .ok (.iload_n 3, 1) := by decide +kernel
theorem dX3_at_15 : decode cX3_at 15 = .ok (.invokevirtual 104, 3) := by decide +kernel
theorem dX3_at_18 : decode cX3_at 18 = .ok (.ifCond .eq 17, 3) := by decide +kernel
theorem dX3_at_21 : decode cX3_at 21 = .ok (.aload_n 0, 1) := by decide +kernel
theorem dX3_at_22 : decode cX3_at 22 = .ok (.iload_n 3, 1) := by decide +kernel
theorem dX3_at_23 : decode cX3_at 23 = .ok (.iconst 5, 1) := by decide +kernel
theorem dX3_at_24 : decode cX3_at 24 = .ok (.invokevirtual 89, 3) := by decide +kernel
theorem dX3_at_27 : decode cX3_at 27 = .ok (.iload_n 1, 1) := by decide +kernel
theorem dX3_at_28 : decode cX3_at 28 = .ok (.if_icmp .ne 7, 3) := by decide +kernel
theorem dX3_at_31 : decode cX3_at 31 = .ok (.iconst 1, 1) := by decide +kernel
theorem dX3_at_32 : decode cX3_at 32 = .ok (.goto 4, 3) := by decide +kernel
theorem dX3_at_35 : decode cX3_at 35 = .ok (.iconst 0, 1) := by decide +kernel
theorem dX3_at_36 : decode cX3_at 36 = .ok (.iadd, 1) := by decide +kernel
theorem dX3_at_37 : decode cX3_at 37 = .ok (.istore_n 2, 1) := by decide +kernel
theorem dX3_at_38 : decode cX3_at 38 = .ok (.iinc 3 1, 3) := by decide +kernel
theorem dX3_at_41 : decode cX3_at 41 = .ok (.goto (-37), 3) := by decide +kernel
theorem dX3_at_44 : decode cX3_at 44 = .ok (.iload_n 2, 1) := by decide +kernel
theorem dX3_at_45 : decode cX3_at 45 = .ok (.ireturn, 1) := by decide +kernel
set_option maxRecDepth 20000 in
theorem ggX3_stretchOf_X3_ro : GoodIn wsX3_stretchOf wsX3_ro := goodIn_r _ [5, 6, 7, 8, 9, 10, 11, 12, 13, 14, 15, 16, 17, 18, 19, 20, 21, 22] (by decide +kernel) (by decide +kernel)
set_option maxRecDepth 20000 in
theorem gX3_stretchOf_X3_ro : GoodIn wsX3_stretchOf (wsV RX3 64 RX3 yX3_ro wsX3_ro) := goodIn_app (goodIn_of _ (by decide +kernel)) ggX3_stretchOf_X3_ro
theorem dX3_stretchOf_0 : decode cX3_stretchOf 0 = .ok (.iconst 0, 1) := by decide +kernel
theorem dX3_stretchOf_1 : decode cX3_stretchOf 1 = .ok (.istore_n 2, 1) := by decide +kernel
theorem dX3_stretchOf_2 : decode cX3_stretchOf 2 = .ok (.iload_n 1, 1) := by decide +kernel
theorem dX3_stretchOf_3 : decode cX3_stretchOf 3 = .ok (.aload_n 0, 1) := by decide +kernel
theorem dX3_stretchOf_4 : decode cX3_stretchOf 4 = .ok (.iload_n 2, 1) := by decide +kernel
theorem dX3_stretchOf_5 : decode cX3_stretchOf 5 = .ok (.iconst 2, 1) := by decide +kernel
theorem dX3_stretchOf_6 : decode cX3_stretchOf 6 = .ok (.invokevirtual 64, 3) := by decide +kernel
theorem dX3_stretchOf_9 : decode cX3_stretchOf 9 = .ok (.aload_n 0, 1) := by decide +kernel
theorem dX3_stretchOf_10 : decode cX3_stretchOf 10 = .ok (.iload_n 2, 1) := by decide +kernel
theorem dX3_stretchOf_11 : decode cX3_stretchOf 11 = .ok (.iconst 0, 1) := by decide +kernel
theorem dX3_stretchOf_12 : decode cX3_stretchOf 12 = .ok (.invokevirtual 64, 3) := by decide +kernel
theorem dX3_stretchOf_15 : decode cX3_stretchOf 15 = .ok (.iadd, 1) := by decide +kernel
theorem dX3_stretchOf_16 : decode cX3_stretchOf 16 = .ok (.if_icmp .lt 9, 3) := by decide +kernel
theorem dX3_stretchOf_19 : decode cX3_stretchOf 19 = .ok (.iinc 2 1, 3) := by decide +kernel
theorem dX3_stretchOf_22 : decode cX3_stretchOf 22 = .ok (.goto (-20), 3) := by decide +kernel
theorem dX3_stretchOf_25 : decode cX3_stretchOf 25 = .ok (.iload_n 2, 1) := by decide +kernel
theorem dX3_stretchOf_26 : decode cX3_stretchOf 26 = .ok (.ireturn, 1) := by decide +kernel
set_option maxRecDepth 20000 in
theorem ggX3_lets_X3_ro : GoodIn wsX3_lets wsX3_ro := goodIn_r _ [6, 7, 8, 9, 10, 11, 12, 13, 14, 15, 16, 17, 18, 19, 20, 21, 22, 23] (by decide +kernel) (by decide +kernel)
set_option maxRecDepth 20000 in
theorem gX3_lets_X3_ro : GoodIn wsX3_lets (wsV RX3 64 RX3 yX3_ro wsX3_ro) := goodIn_app (goodIn_of _ (by decide +kernel)) ggX3_lets_X3_ro
theorem dX3_lets_0 : decode cX3_lets 0 = .ok (.aload_n 0, 1) := by decide +kernel
theorem dX3_lets_1 : decode cX3_lets 1 = .ok (.iload_n 1, 1) := by decide +kernel
theorem dX3_lets_2 : decode cX3_lets 2 = .ok (.iconst 1, 1) := by decide +kernel
theorem dX3_lets_3 : decode cX3_lets 3 = .ok (.invokevirtual 64, 3) := by decide +kernel
theorem dX3_lets_6 : decode cX3_lets 6 = .ok (.aload_n 0, 1) := by decide +kernel
theorem dX3_lets_7 : decode cX3_lets 7 = .ok (.getfield 13, 3) := by decide +kernel
theorem dX3_lets_10 : decode cX3_lets 10 = .ok (.iconst 0, 1) := by decide +kernel
theorem dX3_lets_11 : decode cX3_lets 11 = .ok (.iaload, 1) := by decide +kernel
theorem dX3_lets_12 : decode cX3_lets 12 = .ok (.iload_n 1, 1) := by decide +kernel
theorem dX3_lets_13 : decode cX3_lets 13 = .ok (.if_icmp .ne 7, 3) := by decide +kernel
theorem dX3_lets_16 : decode cX3_lets 16 = .ok (.iconst 1, 1) := by decide +kernel
theorem dX3_lets_17 : decode cX3_lets 17 = .ok (.goto 4, 3) := by decide +kernel
theorem dX3_lets_20 : decode cX3_lets 20 = .ok (.iconst 0, 1) := by decide +kernel
theorem dX3_lets_21 : decode cX3_lets 21 = .ok (.iadd, 1) := by decide +kernel
theorem dX3_lets_22 : decode cX3_lets 22 = .ok (.aload_n 0, 1) := by decide +kernel
theorem dX3_lets_23 : decode cX3_lets 23 = .ok (.getfield 13, 3) := by decide +kernel
theorem dX3_lets_26 : decode cX3_lets 26 = .ok (.iconst 1, 1) := by decide +kernel
theorem dX3_lets_27 : decode cX3_lets 27 = .ok (.iaload, 1) := by decide +kernel
theorem dX3_lets_28 : decode cX3_lets 28 = .ok (.iload_n 1, 1) := by decide +kernel
theorem dX3_lets_29 : decode cX3_lets 29 = .ok (.if_icmp .ne 7, 3) := by decide +kernel
theorem dX3_lets_32 : decode cX3_lets 32 = .ok (.iconst 1, 1) := by decide +kernel
theorem dX3_lets_33 : decode cX3_lets 33 = .ok (.goto 4, 3) := by decide +kernel
theorem dX3_lets_36 : decode cX3_lets 36 = .ok (.iconst 0, 1) := by decide +kernel
theorem dX3_lets_37 : decode cX3_lets 37 = .ok (.iadd, 1) := by decide +kernel
theorem dX3_lets_38 : decode cX3_lets 38 = .ok (.ireturn, 1) := by decide +kernel
set_option maxRecDepth 20000 in
theorem ggX3_stretchTold_X3_ro : GoodIn wsX3_stretchTold wsX3_ro := goodIn_r _ [6, 7, 26, 27, 28, 29, 30, 31, 32, 33, 34, 35, 36, 37, 38, 39, 40, 41] (by decide +kernel) (by decide +kernel)
set_option maxRecDepth 20000 in
theorem gX3_stretchTold_X3_ro : GoodIn wsX3_stretchTold (wsV RX3 64 RX3 yX3_ro wsX3_ro) := goodIn_app (goodIn_of _ (by decide +kernel)) ggX3_stretchTold_X3_ro
set_option maxRecDepth 20000 in
theorem ggX3_stretchTold_X3_lets : GoodIn wsX3_stretchTold wsX3_lets := goodIn_r _ [11, 12, 2, 3, 4, 5, 6, 7, 26, 27, 28, 29, 30, 31, 32, 33, 34, 35, 36, 37, 38, 39, 40, 41] (by decide +kernel) (by decide +kernel)
set_option maxRecDepth 20000 in
theorem gX3_stretchTold_X3_lets : GoodIn wsX3_stretchTold (wsV RX3 107 RX3 yX3_lets wsX3_lets) := goodIn_app (goodIn_of _ (by decide +kernel)) ggX3_stretchTold_X3_lets
set_option maxRecDepth 20000 in
theorem ggX3_stretchTold_X3_walks : GoodIn wsX3_stretchTold wsX3_walks := goodIn_r _ [16, 17, 18, 19, 5, 20, 21, 26, 27, 28, 29, 30, 31, 32, 33, 34, 35, 36, 37, 38, 39, 40, 41] (by decide +kernel) (by decide +kernel)
set_option maxRecDepth 20000 in
theorem gX3_stretchTold_X3_walks : GoodIn wsX3_stretchTold (wsV RX3 104 RX3 yX3_walks wsX3_walks) := goodIn_app (goodIn_of _ (by decide +kernel)) ggX3_stretchTold_X3_walks
set_option maxRecDepth 20000 in
theorem ggX3_stretchTold_X3_pe : GoodIn wsX3_stretchTold wsX3_pe := goodIn_r _ [20, 21, 26, 27, 28, 29, 30, 31, 32, 33, 34, 35, 36, 37, 38, 39, 40, 41] (by decide +kernel) (by decide +kernel)
set_option maxRecDepth 20000 in
theorem gX3_stretchTold_X3_pe : GoodIn wsX3_stretchTold (wsV RX3 89 RX3 yX3_pe wsX3_pe) := goodIn_app (goodIn_of _ (by decide +kernel)) ggX3_stretchTold_X3_pe
set_option maxRecDepth 20000 in
theorem ggX3_stretchTold_X3_stretchOf : GoodIn wsX3_stretchTold wsX3_stretchOf := goodIn_r _ [25, 2, 3, 4, 5, 6, 7, 26, 27, 28, 29, 30, 31, 32, 33, 34, 35, 36, 37, 38, 39, 40, 41] (by decide +kernel) (by decide +kernel)
set_option maxRecDepth 20000 in
theorem gX3_stretchTold_X3_stretchOf : GoodIn wsX3_stretchTold (wsV RX3 110 RX3 yX3_stretchOf wsX3_stretchOf) := goodIn_app (goodIn_of _ (by decide +kernel)) ggX3_stretchTold_X3_stretchOf
theorem dX3_stretchTold_0 : decode cX3_stretchTold 0 = .ok (.iconst 0, 1) := by decide +kernel
theorem dX3_stretchTold_1 : decode cX3_stretchTold 1 = .ok (.istore_n 3, 1) := by decide +kernel
theorem dX3_stretchTold_2 : decode cX3_stretchTold 2 = .ok (.iload_n 2, 1) := by decide +kernel
theorem dX3_stretchTold_3 : decode cX3_stretchTold 3 = .ok (.tableswitch 101 0 3 #[29, 36, 42, 49], 29) := by decide +kernel
theorem dX3_stretchTold_32 : decode cX3_stretchTold 32 = .ok (.aload_n 0, 1) := by decide +kernel
theorem dX3_stretchTold_33 : decode cX3_stretchTold 33 = .ok (.iload_n 1, 1) := by decide +kernel
theorem dX3_stretchTold_34 : decode cX3_stretchTold 34 = .ok (.iconst 0, 1) := by decide +kernel
theorem dX3_stretchTold_35 : decode cX3_stretchTold 35 = .ok (.invokevirtual 64, 3) := by decide +kernel
theorem dX3_stretchTold_38 : decode cX3_stretchTold 38 = .ok (.ireturn, 1) := by decide +kernel
theorem dX3_stretchTold_39 : decode cX3_stretchTold 39 = .ok (.aload_n 0, 1) := by decide +kernel
theorem dX3_stretchTold_40 : decode cX3_stretchTold 40 = .ok (.iload_n 1, 1) := by decide +kernel
theorem dX3_stretchTold_41 : decode cX3_stretchTold 41 = .ok (.invokevirtual 107, 3) := by decide +kernel
theorem dX3_stretchTold_44 : decode cX3_stretchTold 44 = .ok (.ireturn, 1) := by decide +kernel
theorem dX3_stretchTold_45 : decode cX3_stretchTold 45 = .ok (.aload_n 0, 1) := by decide +kernel
theorem dX3_stretchTold_46 : decode cX3_stretchTold 46 = .ok (.iload_n 1, 1) := by decide +kernel
theorem dX3_stretchTold_47 : decode cX3_stretchTold 47 = .ok (.iconst 2, 1) := by decide +kernel
theorem dX3_stretchTold_48 : decode cX3_stretchTold 48 = .ok (.invokevirtual 64, 3) := by decide +kernel
theorem dX3_stretchTold_51 : decode cX3_stretchTold 51 = .ok (.ireturn, 1) := by decide +kernel
theorem dX3_stretchTold_52 : decode cX3_stretchTold 52 = .ok (.iconst 0, 1) := by decide +kernel
theorem dX3_stretchTold_53 : decode cX3_stretchTold 53 = .ok (.istore 4, 2) := by decide +kernel
theorem dX3_stretchTold_55 : decode cX3_stretchTold 55 = .ok (.iload 4, 2) := by decide +kernel
theorem dX3_stretchTold_57 : decode cX3_stretchTold 57 = .ok (.aload_n 0, 1) := by decide +kernel
theorem dX3_stretchTold_58 : decode cX3_stretchTold 58 = .ok (.getfield 58, 3) := by decide +kernel
theorem dX3_stretchTold_61 : decode cX3_stretchTold 61 = .ok (.if_icmp .ge 41, 3) := by decide +kernel
theorem dX3_stretchTold_64 : decode cX3_stretchTold 64 = .ok (.iload_n 3, 1) := by decide +kernel
theorem dX3_stretchTold_65 : decode cX3_stretchTold 65 = .ok (.aload_n 0, 1) := by decide +kernel
theorem dX3_stretchTold_66 : decode cX3_stretchTold 66 = .ok (.iload 4, 2) := by decide +kernel
theorem dX3_stretchTold_68 : decode cX3_stretchTold 68 = .ok (.invokevirtual 104, 3) := by decide +kernel
theorem dX3_stretchTold_71 : decode cX3_stretchTold 71 = .ok (.ifCond .eq 22, 3) := by decide +kernel
theorem dX3_stretchTold_74 : decode cX3_stretchTold 74 = .ok (.aload_n 0, 1) := by decide +kernel
theorem dX3_stretchTold_75 : decode cX3_stretchTold 75 = .ok (.aload_n 0, 1) := by decide +kernel
theorem dX3_stretchTold_76 : decode cX3_stretchTold 76 = .ok (.iload 4, 2) := by decide +kernel
theorem dX3_stretchTold_78 : decode cX3_stretchTold 78 = .ok (.iconst 5, 1) := by decide +kernel
theorem dX3_stretchTold_79 : decode cX3_stretchTold 79 = .ok (.invokevirtual 89, 3) := by decide +kernel
theorem dX3_stretchTold_82 : decode cX3_stretchTold 82 = .ok (.invokevirtual 110, 3) := by decide +kernel
theorem dX3_stretchTold_85 : decode cX3_stretchTold 85 = .ok (.iload_n 1, 1) := by decide +kernel
theorem dX3_stretchTold_86 : decode cX3_stretchTold 86 = .ok (.if_icmp .ne 7, 3) := by decide +kernel
theorem dX3_stretchTold_89 : decode cX3_stretchTold 89 = .ok (.iconst 1, 1) := by decide +kernel
theorem dX3_stretchTold_90 : decode cX3_stretchTold 90 = .ok (.goto 4, 3) := by decide +kernel
theorem dX3_stretchTold_93 : decode cX3_stretchTold 93 = .ok (.iconst 0, 1) := by decide +kernel
theorem dX3_stretchTold_94 : decode cX3_stretchTold 94 = .ok (.iadd, 1) := by decide +kernel
theorem dX3_stretchTold_95 : decode cX3_stretchTold 95 = .ok (.istore_n 3, 1) := by decide +kernel
theorem dX3_stretchTold_96 : decode cX3_stretchTold 96 = .ok (.iinc 4 1, 3) := by decide +kernel
theorem dX3_stretchTold_99 : decode cX3_stretchTold 99 = .ok (.goto (-44), 3) := by decide +kernel
theorem dX3_stretchTold_102 : decode cX3_stretchTold 102 = .ok (.iload_n 3, 1) := by decide +kernel
theorem dX3_stretchTold_103 : decode cX3_stretchTold 103 = .ok (.ireturn, 1) := by decide +kernel
theorem dX3_stretchTold_104 : decode cX3_stretchTold 104 = .ok (.aload_n 0, 1) := by decide +kernel
theorem dX3_stretchTold_105 : decode cX3_stretchTold 105 = .ok (.iload_n 1, 1) := by decide +kernel
theorem dX3_stretchTold_106 : decode cX3_stretchTold 106 = .ok (.iload_n 2, 1) := by decide +kernel
theorem dX3_stretchTold_107 : decode cX3_stretchTold 107 = .ok (.iconst 1, 1) := by decide +kernel
theorem dX3_stretchTold_108 : decode cX3_stretchTold 108 = .ok (.isub, 1) := by decide +kernel
theorem dX3_stretchTold_109 : decode cX3_stretchTold 109 = .ok (.invokevirtual 64, 3) := by decide +kernel
theorem dX3_stretchTold_112 : decode cX3_stretchTold 112 = .ok (.ireturn, 1) := by decide +kernel
set_option maxRecDepth 20000 in
theorem ggX3_stretch_X3_isStretch : GoodIn wsX3_stretch wsX3_isStretch := goodIn_r _ [6, 7, 8, 9, 5, 10, 43, 44, 45, 46, 47, 48, 49, 50, 51, 52, 53, 54, 55, 56, 57, 58] (by decide +kernel) (by decide +kernel)
set_option maxRecDepth 20000 in
theorem gX3_stretch_X3_isStretch : GoodIn wsX3_stretch (wsV RX3 82 RX3 yX3_isStretch wsX3_isStretch) := goodIn_app (goodIn_of _ (by decide +kernel)) ggX3_stretch_X3_isStretch
set_option maxRecDepth 20000 in
theorem ggX3_stretch_X3_isIn : GoodIn wsX3_stretch wsX3_isIn := goodIn_r _ [10] (by decide +kernel) (by decide +kernel)
set_option maxRecDepth 20000 in
theorem gX3_stretch_X3_isIn : GoodIn wsX3_stretch (va_wsS RX3 54 yX3_isIn wsX3_isIn) := goodIn_app (goodIn_of _ (by decide +kernel)) ggX3_stretch_X3_isIn
set_option maxRecDepth 20000 in
theorem ggX3_stretch_X3_stretchTold : GoodIn wsX3_stretch wsX3_stretchTold := goodIn_r _ [14, 15, 16, 17, 18, 5, 19, 20, 21, 22, 23, 24, 25, 26, 27, 28, 29, 30, 31, 32, 33, 34, 35, 36, 37, 38, 43, 44, 45, 46, 47, 48, 49, 50, 51, 52, 53, 54, 55, 56, 57, 58] (by decide +kernel) (by decide +kernel)
set_option maxRecDepth 20000 in
theorem gX3_stretch_X3_stretchTold : GoodIn wsX3_stretch (wsV RX3 113 RX3 yX3_stretchTold wsX3_stretchTold) := goodIn_app (goodIn_of _ (by decide +kernel)) ggX3_stretch_X3_stretchTold
set_option maxRecDepth 20000 in
theorem ggX3_stretch_X3_fail : GoodIn wsX3_stretch wsX3_fail := goodIn_r _ [42, 1, 43, 44, 45, 46, 47, 48, 49, 50, 51, 52, 53, 54, 55, 56, 57, 58] (by decide +kernel) (by decide +kernel)
set_option maxRecDepth 20000 in
theorem gX3_stretch_X3_fail : GoodIn wsX3_stretch (wsV RX3 68 RX3 yX3_fail wsX3_fail) := goodIn_app (goodIn_of _ (by decide +kernel)) ggX3_stretch_X3_fail
theorem dX3_stretch_0 : decode cX3_stretch 0 = .ok (.aload_n 0, 1) := by decide +kernel
theorem dX3_stretch_1 : decode cX3_stretch 1 = .ok (.iconst 0, 1) := by decide +kernel
theorem dX3_stretch_2 : decode cX3_stretch 2 = .ok (.putfield 47, 3) := by decide +kernel
theorem dX3_stretch_5 : decode cX3_stretch 5 = .ok (.aload_n 0, 1) := by decide +kernel
theorem dX3_stretch_6 : decode cX3_stretch 6 = .ok (.iload_n 1, 1) := by decide +kernel
theorem dX3_stretch_7 : decode cX3_stretch 7 = .ok (.invokevirtual 82, 3) := by decide +kernel
theorem dX3_stretch_10 : decode cX3_stretch 10 = .ok (.ifCond .eq 21, 3) := by decide +kernel
theorem dX3_stretch_13 : decode cX3_stretch 13 = .ok (.iload_n 2, 1) := by decide +kernel
theorem dX3_stretch_14 : decode cX3_stretch 14 = .ok (.iconst 0, 1) := by decide +kernel
theorem dX3_stretch_15 : decode cX3_stretch 15 = .ok (.iconst 5, 1) := by decide +kernel
theorem dX3_stretch_16 : decode cX3_stretch 16 = .ok (.invokestatic 54, 3) := by decide +kernel
theorem dX3_stretch_19 : decode cX3_stretch 19 = .ok (.ifCond .eq 12, 3) := by decide +kernel
theorem dX3_stretch_22 : decode cX3_stretch 22 = .ok (.aload_n 0, 1) := by decide +kernel
theorem dX3_stretch_23 : decode cX3_stretch 23 = .ok (.iload_n 1, 1) := by decide +kernel
theorem dX3_stretch_24 : decode cX3_stretch 24 = .ok (.iload_n 2, 1) := by decide +kernel
theorem dX3_stretch_25 : decode cX3_stretch 25 = .ok (.invokevirtual 113, 3) := by decide +kernel
theorem dX3_stretch_28 : decode cX3_stretch 28 = .ok (.goto 8, 3) := by decide +kernel
theorem dX3_stretch_31 : decode cX3_stretch 31 = .ok (.aload_n 0, 1) := by decide +kernel
theorem dX3_stretch_32 : decode cX3_stretch 32 = .ok (.iconst 1, 1) := by decide +kernel
theorem dX3_stretch_33 : decode cX3_stretch 33 = .ok (.invokevirtual 68, 3) := by decide +kernel
theorem dX3_stretch_36 : decode cX3_stretch 36 = .ok (.ireturn, 1) := by decide +kernel
set_option maxRecDepth 20000 in
theorem ggX3_isNeighbour_X3_walks : GoodIn wsX3_isNeighbour wsX3_walks := goodIn_r _ [9, 10, 11, 12, 8, 13, 14, 15, 16, 17, 18, 19, 20, 21, 22, 23, 24, 25, 26, 27, 28, 29, 30] (by decide +kernel) (by decide +kernel)
set_option maxRecDepth 20000 in
theorem gX3_isNeighbour_X3_walks : GoodIn wsX3_isNeighbour (wsV RX3 104 RX3 yX3_walks wsX3_walks) := goodIn_app (goodIn_of _ (by decide +kernel)) ggX3_isNeighbour_X3_walks
set_option maxRecDepth 20000 in
theorem ggX3_isNeighbour_X3_pe : GoodIn wsX3_isNeighbour wsX3_pe := goodIn_r _ [13, 14, 15, 16, 17, 18, 19, 20, 21, 22, 23, 24, 25, 26, 27, 28, 29, 30] (by decide +kernel) (by decide +kernel)
set_option maxRecDepth 20000 in
theorem gX3_isNeighbour_X3_pe : GoodIn wsX3_isNeighbour (wsV RX3 89 RX3 yX3_pe wsX3_pe) := goodIn_app (goodIn_of _ (by decide +kernel)) ggX3_isNeighbour_X3_pe
theorem dX3_isNeighbour_0 : decode cX3_isNeighbour 0 = .ok (.iload_n 1, 1) := by decide +kernel
theorem dX3_isNeighbour_1 : decode cX3_isNeighbour 1 = .ok (.iload_n 2, 1) := by decide +kernel
theorem dX3_isNeighbour_2 : decode cX3_isNeighbour 2 = .ok (.if_icmp .eq 43, 3) := by decide +kernel
theorem dX3_isNeighbour_5 : decode cX3_isNeighbour 5 = .ok (.aload_n 0, 1) := by decide +kernel
theorem dX3_isNeighbour_6 : decode cX3_isNeighbour 6 = .ok (.iload_n 1, 1) := by decide +kernel
theorem dX3_isNeighbour_7 : decode cX3_isNeighbour 7 = .ok (.invokevirtual 104, 3) := by decide +kernel
theorem dX3_isNeighbour_10 : decode cX3_isNeighbour 10 = .ok (.ifCond .eq 35, 3) := by decide +kernel
theorem dX3_isNeighbour_13 : decode cX3_isNeighbour 13 = .ok (.aload_n 0, 1) := by decide +kernel
theorem dX3_isNeighbour_14 : decode cX3_isNeighbour 14 = .ok (.iload_n 2, 1) := by decide +kernel
theorem dX3_isNeighbour_15 : decode cX3_isNeighbour 15 = .ok (.invokevirtual 104, 3) := by decide +kernel
theorem dX3_isNeighbour_18 : decode cX3_isNeighbour 18 = .ok (.ifCond .eq 27, 3) := by decide +kernel
theorem dX3_isNeighbour_21 : decode cX3_isNeighbour 21 = .ok (.aload_n 0, 1) := by decide +kernel
theorem dX3_isNeighbour_22 : decode cX3_isNeighbour 22 = .ok (.iload_n 1, 1) := by decide +kernel
theorem dX3_isNeighbour_23 : decode cX3_isNeighbour 23 = .ok (.iconst 5, 1) := by decide +kernel
theorem dX3_isNeighbour_24 : decode cX3_isNeighbour 24 = .ok (.invokevirtual 89, 3) := by decide +kernel
theorem dX3_isNeighbour_27 : decode cX3_isNeighbour 27 = .ok (.aload_n 0, 1) := by decide +kernel
theorem dX3_isNeighbour_28 : decode cX3_isNeighbour 28 = .ok (.iload_n 2, 1) := by decide +kernel
theorem dX3_isNeighbour_29 : decode cX3_isNeighbour 29 = .ok (.iconst 5, 1) := by decide +kernel
theorem dX3_isNeighbour_30 : decode cX3_isNeighbour 30 = .ok (.invokevirtual 89, 3) := by decide +kernel
theorem dX3_isNeighbour_33 : decode cX3_isNeighbour 33 = .ok (.isub, 1) := by decide +kernel
theorem dX3_isNeighbour_34 : decode cX3_isNeighbour 34 = .ok (.invokestatic 116, 3) := by decide +kernel
theorem dX3_isNeighbour_37 : decode cX3_isNeighbour 37 = .ok (.iconst 1, 1) := by decide +kernel
theorem dX3_isNeighbour_38 : decode cX3_isNeighbour 38 = .ok (.if_icmp .gt 7, 3) := by decide +kernel
theorem dX3_isNeighbour_41 : decode cX3_isNeighbour 41 = .ok (.iconst 1, 1) := by decide +kernel
theorem dX3_isNeighbour_42 : decode cX3_isNeighbour 42 = .ok (.goto 4, 3) := by decide +kernel
theorem dX3_isNeighbour_45 : decode cX3_isNeighbour 45 = .ok (.iconst 0, 1) := by decide +kernel
theorem dX3_isNeighbour_46 : decode cX3_isNeighbour 46 = .ok (.ireturn, 1) := by decide +kernel
set_option maxRecDepth 20000 in
theorem ggX3_neighbours_X3_isNeighbour : GoodIn wsX3_neighbours wsX3_isNeighbour := goodIn_r _ [6, 7, 8, 9, 10, 11, 12, 13, 5, 14, 15, 16, 17, 18, 19, 20, 21, 22, 23, 24, 25, 26, 27, 28, 29, 30, 31, 32, 33, 34, 35] (by decide +kernel) (by decide +kernel)
set_option maxRecDepth 20000 in
theorem gX3_neighbours_X3_isNeighbour : GoodIn wsX3_neighbours (wsV RX3 119 RX3 yX3_isNeighbour wsX3_isNeighbour) := goodIn_app (goodIn_of _ (by decide +kernel)) ggX3_neighbours_X3_isNeighbour
theorem dX3_neighbours_0 : decode cX3_neighbours 0 = .ok (.iconst 0, 1) := by decide +kernel
theorem dX3_neighbours_1 : decode cX3_neighbours 1 = .ok (.istore_n 2, 1) := by decide +kernel
theorem dX3_neighbours_2 : decode cX3_neighbours 2 = .ok (.iconst 0, 1) := by decide +kernel
theorem dX3_neighbours_3 : decode cX3_neighbours 3 = .ok (.istore_n 3, 1) := by decide +kernel
theorem dX3_neighbours_4 : decode cX3_neighbours 4 = .ok (.iload_n 3, 1) := by decide +kernel
theorem dX3_neighbours_5 : decode cX3_neighbours 5 = .ok (.aload_n 0, 1) := by decide +kernel
theorem dX3_neighbours_6 : decode cX3_neighbours 6 = .ok (.getfield 58, 3) := by decide +kernel
theorem dX3_neighbours_9 : decode cX3_neighbours 9 = .ok (.if_icmp .ge 26, 3) := by decide +kernel
theorem dX3_neighbours_12 : decode cX3_neighbours 12 = .ok (.iload_n 2, 1) := by decide +kernel
theorem dX3_neighbours_13 : decode cX3_neighbours 13 = .ok (.aload_n 0, 1) := by decide +kernel
theorem dX3_neighbours_14 : decode cX3_neighbours 14 = .ok (.iload_n 1, 1) := by decide +kernel
theorem dX3_neighbours_15 : decode cX3_neighbours 15 = .ok (.iload_n 3, 1) := by decide +kernel
theorem dX3_neighbours_16 : decode cX3_neighbours 16 = .ok (.invokevirtual 119, 3) := by decide +kernel
theorem dX3_neighbours_19 : decode cX3_neighbours 19 = .ok (.ifCond .eq 7, 3) := by decide +kernel
theorem dX3_neighbours_22 : decode cX3_neighbours 22 = .ok (.iconst 1, 1) := by decide +kernel
theorem dX3_neighbours_23 : decode cX3_neighbours 23 = .ok (.goto 4, 3) := by decide +kernel
theorem dX3_neighbours_26 : decode cX3_neighbours 26 = .ok (.iconst 0, 1) := by decide +kernel
theorem dX3_neighbours_27 : decode cX3_neighbours 27 = .ok (.iadd, 1) := by decide +kernel
theorem dX3_neighbours_28 : decode cX3_neighbours 28 = .ok (.istore_n 2, 1) := by decide +kernel
theorem dX3_neighbours_29 : decode cX3_neighbours 29 = .ok (.iinc 3 1, 3) := by decide +kernel
theorem dX3_neighbours_32 : decode cX3_neighbours 32 = .ok (.goto (-28), 3) := by decide +kernel
theorem dX3_neighbours_35 : decode cX3_neighbours 35 = .ok (.iload_n 2, 1) := by decide +kernel
theorem dX3_neighbours_36 : decode cX3_neighbours 36 = .ok (.ireturn, 1) := by decide +kernel
set_option maxRecDepth 20000 in
theorem ggX3_walkerTold_X3_pe : GoodIn wsX3_walkerTold wsX3_pe := goodIn_r _ [5, 6, 24, 25, 26, 27, 28, 29, 30, 31, 32, 33, 34, 35, 36, 37, 38, 39] (by decide +kernel) (by decide +kernel)
set_option maxRecDepth 20000 in
theorem gX3_walkerTold_X3_pe : GoodIn wsX3_walkerTold (wsV RX3 89 RX3 yX3_pe wsX3_pe) := goodIn_app (goodIn_of _ (by decide +kernel)) ggX3_walkerTold_X3_pe
set_option maxRecDepth 20000 in
theorem ggX3_walkerTold_X3_neighbours : GoodIn wsX3_walkerTold wsX3_neighbours := goodIn_r _ [10, 11, 12, 13, 14, 4, 15, 16, 17, 18, 19, 20, 21, 22, 23, 1, 2, 3, 5, 6, 24, 25, 26, 27, 28, 29, 30, 31, 32, 33, 34, 35, 36, 37, 38, 39] (by decide +kernel) (by decide +kernel)
set_option maxRecDepth 20000 in
theorem gX3_walkerTold_X3_neighbours : GoodIn wsX3_walkerTold (wsV RX3 123 RX3 yX3_neighbours wsX3_neighbours) := goodIn_app (goodIn_of _ (by decide +kernel)) ggX3_walkerTold_X3_neighbours
theorem dX3_walkerTold_0 : decode cX3_walkerTold 0 = .ok (.iload_n 2, 1) := by decide +kernel
theorem dX3_walkerTold_1 : decode cX3_walkerTold 1 = .ok (.bipush 6, 2) := by decide +kernel
theorem dX3_walkerTold_3 : decode cX3_walkerTold 3 = .ok (.if_icmp .ge 12, 3) := by decide +kernel
theorem dX3_walkerTold_6 : decode cX3_walkerTold 6 = .ok (.aload_n 0, 1) := by decide +kernel
theorem dX3_walkerTold_7 : decode cX3_walkerTold 7 = .ok (.iload_n 1, 1) := by decide +kernel
theorem dX3_walkerTold_8 : decode cX3_walkerTold 8 = .ok (.iload_n 2, 1) := by decide +kernel
theorem dX3_walkerTold_9 : decode cX3_walkerTold 9 = .ok (.invokevirtual 89, 3) := by decide +kernel
theorem dX3_walkerTold_12 : decode cX3_walkerTold 12 = .ok (.goto 25, 3) := by decide +kernel
theorem dX3_walkerTold_15 : decode cX3_walkerTold 15 = .ok (.iload_n 2, 1) := by decide +kernel
theorem dX3_walkerTold_16 : decode cX3_walkerTold 16 = .ok (.bipush 6, 2) := by decide +kernel
theorem dX3_walkerTold_18 : decode cX3_walkerTold 18 = .ok (.if_icmp .ne 11, 3) := by decide +kernel
theorem dX3_walkerTold_21 : decode cX3_walkerTold 21 = .ok (.aload_n 0, 1) := by decide +kernel
theorem dX3_walkerTold_22 : decode cX3_walkerTold 22 = .ok (.iload_n 1, 1) := by decide +kernel
theorem dX3_walkerTold_23 : decode cX3_walkerTold 23 = .ok (.invokevirtual 123, 3) := by decide +kernel
theorem dX3_walkerTold_26 : decode cX3_walkerTold 26 = .ok (.goto 11, 3) := by decide +kernel
theorem dX3_walkerTold_29 : decode cX3_walkerTold 29 = .ok (.aload_n 0, 1) := by decide +kernel
theorem dX3_walkerTold_30 : decode cX3_walkerTold 30 = .ok (.iload_n 1, 1) := by decide +kernel
theorem dX3_walkerTold_31 : decode cX3_walkerTold 31 = .ok (.iload_n 2, 1) := by decide +kernel
theorem dX3_walkerTold_32 : decode cX3_walkerTold 32 = .ok (.iconst 1, 1) := by decide +kernel
theorem dX3_walkerTold_33 : decode cX3_walkerTold 33 = .ok (.isub, 1) := by decide +kernel
theorem dX3_walkerTold_34 : decode cX3_walkerTold 34 = .ok (.invokevirtual 89, 3) := by decide +kernel
theorem dX3_walkerTold_37 : decode cX3_walkerTold 37 = .ok (.ireturn, 1) := by decide +kernel
set_option maxRecDepth 20000 in
theorem ggX3_walker_X3_isWalker : GoodIn wsX3_walker wsX3_isWalker := goodIn_r _ [6, 7, 8, 9, 5, 10, 40, 41, 42, 43, 44, 45, 46, 47, 48, 49, 50, 51, 52, 53, 54, 55] (by decide +kernel) (by decide +kernel)
set_option maxRecDepth 20000 in
theorem gX3_walker_X3_isWalker : GoodIn wsX3_walker (wsV RX3 86 RX3 yX3_isWalker wsX3_isWalker) := goodIn_app (goodIn_of _ (by decide +kernel)) ggX3_walker_X3_isWalker
set_option maxRecDepth 20000 in
theorem ggX3_walker_X3_isIn : GoodIn wsX3_walker wsX3_isIn := goodIn_r _ [10] (by decide +kernel) (by decide +kernel)
set_option maxRecDepth 20000 in
theorem gX3_walker_X3_isIn : GoodIn wsX3_walker (va_wsS RX3 54 yX3_isIn wsX3_isIn) := goodIn_app (goodIn_of _ (by decide +kernel)) ggX3_walker_X3_isIn
set_option maxRecDepth 20000 in
theorem ggX3_walker_X3_walkerTold : GoodIn wsX3_walker wsX3_walkerTold := goodIn_r _ [14, 15, 16, 17, 5, 18, 19, 20, 21, 22, 23, 7, 24, 25, 26, 27, 28, 29, 30, 31, 32, 33, 34, 35, 40, 41, 42, 43, 44, 45, 46, 47, 48, 49, 50, 51, 52, 53, 54, 55] (by decide +kernel) (by decide +kernel)
set_option maxRecDepth 20000 in
theorem gX3_walker_X3_walkerTold : GoodIn wsX3_walker (wsV RX3 126 RX3 yX3_walkerTold wsX3_walkerTold) := goodIn_app (goodIn_of _ (by decide +kernel)) ggX3_walker_X3_walkerTold
set_option maxRecDepth 20000 in
theorem ggX3_walker_X3_fail : GoodIn wsX3_walker wsX3_fail := goodIn_r _ [39, 1, 40, 41, 42, 43, 44, 45, 46, 47, 48, 49, 50, 51, 52, 53, 54, 55] (by decide +kernel) (by decide +kernel)
set_option maxRecDepth 20000 in
theorem gX3_walker_X3_fail : GoodIn wsX3_walker (wsV RX3 68 RX3 yX3_fail wsX3_fail) := goodIn_app (goodIn_of _ (by decide +kernel)) ggX3_walker_X3_fail
theorem dX3_walker_0 : decode cX3_walker 0 = .ok (.aload_n 0, 1) := by decide +kernel
theorem dX3_walker_1 : decode cX3_walker 1 = .ok (.iconst 0, 1) := by decide +kernel
theorem dX3_walker_2 : decode cX3_walker 2 = .ok (.putfield 47, 3) := by decide +kernel
theorem dX3_walker_5 : decode cX3_walker 5 = .ok (.aload_n 0, 1) := by decide +kernel
theorem dX3_walker_6 : decode cX3_walker 6 = .ok (.iload_n 1, 1) := by decide +kernel
theorem dX3_walker_7 : decode cX3_walker 7 = .ok (.invokevirtual 86, 3) := by decide +kernel
theorem dX3_walker_10 : decode cX3_walker 10 = .ok (.ifCond .eq 22, 3) := by decide +kernel
theorem dX3_walker_13 : decode cX3_walker 13 = .ok (.iload_n 2, 1) := by decide +kernel
theorem dX3_walker_14 : decode cX3_walker 14 = .ok (.iconst 0, 1) := by decide +kernel
theorem dX3_walker_15 : decode cX3_walker 15 = .ok (.bipush 8, 2) := by decide +kernel
theorem dX3_walker_17 : decode cX3_walker 17 = .ok (.invokestatic 54, 3) := by decide +kernel
theorem dX3_walker_20 : decode cX3_walker 20 = .ok (.ifCond .eq 12, 3) := by decide +kernel
theorem dX3_walker_23 : decode cX3_walker 23 = .ok (.aload_n 0, 1) := by decide +kernel
theorem dX3_walker_24 : decode cX3_walker 24 = .ok (.iload_n 1, 1) := by decide +kernel
theorem dX3_walker_25 : decode cX3_walker 25 = .ok (.iload_n 2, 1) := by decide +kernel
theorem dX3_walker_26 : decode cX3_walker 26 = .ok (.invokevirtual 126, 3) := by decide +kernel
theorem dX3_walker_29 : decode cX3_walker 29 = .ok (.goto 8, 3) := by decide +kernel
theorem dX3_walker_32 : decode cX3_walker 32 = .ok (.aload_n 0, 1) := by decide +kernel
theorem dX3_walker_33 : decode cX3_walker 33 = .ok (.iconst 1, 1) := by decide +kernel
theorem dX3_walker_34 : decode cX3_walker 34 = .ok (.invokevirtual 68, 3) := by decide +kernel
theorem dX3_walker_37 : decode cX3_walker 37 = .ok (.ireturn, 1) := by decide +kernel
set_option maxRecDepth 20000 in
theorem ggX3_knows_X3_isWalker : GoodIn wsX3_knows wsX3_isWalker := goodIn_r _ [7, 8, 9, 10, 6, 11, 21, 22, 23, 24, 25, 26, 27, 28, 29, 30, 31, 32, 33, 34, 35, 36] (by decide +kernel) (by decide +kernel)
set_option maxRecDepth 20000 in
theorem gX3_knows_X3_isWalker : GoodIn wsX3_knows (wsV RX3 86 RX3 yX3_isWalker wsX3_isWalker) := goodIn_app (goodIn_of _ (by decide +kernel)) ggX3_knows_X3_isWalker
set_option maxRecDepth 20000 in
theorem ggX3_knows_X3_isSong : GoodIn wsX3_knows wsX3_isSong := goodIn_r _ [15, 16, 9, 10, 6, 11, 21, 22, 23, 24, 25, 26, 27, 28, 29, 30, 31, 32, 33, 34, 35, 36] (by decide +kernel) (by decide +kernel)
set_option maxRecDepth 20000 in
theorem gX3_knows_X3_isSong : GoodIn wsX3_knows (wsV RX3 101 RX3 yX3_isSong wsX3_isSong) := goodIn_app (goodIn_of _ (by decide +kernel)) ggX3_knows_X3_isSong
set_option maxRecDepth 20000 in
theorem ggX3_knows_X3_fail : GoodIn wsX3_knows wsX3_fail := goodIn_r _ [20, 1, 21, 22, 23, 24, 25, 26, 27, 28, 29, 30, 31, 32, 33, 34, 35, 36] (by decide +kernel) (by decide +kernel)
set_option maxRecDepth 20000 in
theorem gX3_knows_X3_fail : GoodIn wsX3_knows (wsV RX3 68 RX3 yX3_fail wsX3_fail) := goodIn_app (goodIn_of _ (by decide +kernel)) ggX3_knows_X3_fail
theorem dX3_knows_0 : decode cX3_knows 0 = .ok (.aload_n 0, 1) := by decide +kernel
theorem dX3_knows_1 : decode cX3_knows 1 = .ok (.iconst 0, 1) := by decide +kernel
theorem dX3_knows_2 : decode cX3_knows 2 = .ok (.putfield 47, 3) := by decide +kernel
theorem dX3_knows_5 : decode cX3_knows 5 = .ok (.aload_n 0, 1) := by decide +kernel
theorem dX3_knows_6 : decode cX3_knows 6 = .ok (.iload_n 1, 1) := by decide +kernel
theorem dX3_knows_7 : decode cX3_knows 7 = .ok (.invokevirtual 86, 3) := by decide +kernel
theorem dX3_knows_10 : decode cX3_knows 10 = .ok (.ifCond .eq 25, 3) := by decide +kernel
theorem dX3_knows_13 : decode cX3_knows 13 = .ok (.aload_n 0, 1) := by decide +kernel
theorem dX3_knows_14 : decode cX3_knows 14 = .ok (.iload_n 2, 1) := by decide +kernel
theorem dX3_knows_15 : decode cX3_knows 15 = .ok (.invokevirtual 101, 3) := by decide +kernel
theorem dX3_knows_18 : decode cX3_knows 18 = .ok (.ifCond .eq 17, 3) := by decide +kernel
theorem dX3_knows_21 : decode cX3_knows 21 = .ok (.aload_n 0, 1) := by decide +kernel
theorem dX3_knows_22 : decode cX3_knows 22 = .ok (.getfield 25, 3) := by decide +kernel
theorem dX3_knows_25 : decode cX3_knows 25 = .ok (.bipush 6, 2) := by decide +kernel
theorem dX3_knows_27 : decode cX3_knows 27 = .ok (.iload_n 1, 1) := by decide +kernel
theorem dX3_knows_28 : decode cX3_knows 28 = .ok (.imul, 1) := by decide +kernel
theorem dX3_knows_29 : decode cX3_knows 29 = .ok (.iload_n 2, 1) := by decide +kernel
theorem dX3_knows_30 : decode cX3_knows 30 = .ok (.iadd, 1) := by decide +kernel
theorem dX3_knows_31 : decode cX3_knows 31 = .ok (.iaload, 1) := by decide +kernel
theorem dX3_knows_32 : decode cX3_knows 32 = .ok (.goto 8, 3) := by decide +kernel
theorem dX3_knows_35 : decode cX3_knows 35 = .ok (.aload_n 0, 1) := by decide +kernel
theorem dX3_knows_36 : decode cX3_knows 36 = .ok (.iconst 1, 1) := by decide +kernel
theorem dX3_knows_37 : decode cX3_knows 37 = .ok (.invokevirtual 68, 3) := by decide +kernel
theorem dX3_knows_40 : decode cX3_knows 40 = .ok (.ireturn, 1) := by decide +kernel
theorem dX3_with_0 : decode cX3_with 0 = .ok (.iconst 0, 1) := by decide +kernel
theorem dX3_with_1 : decode cX3_with 1 = .ok (.istore_n 3, 1) := by decide +kernel
theorem dX3_with_2 : decode cX3_with 2 = .ok (.iconst 0, 1) := by decide +kernel
theorem dX3_with_3 : decode cX3_with 3 = .ok (.istore 4, 2) := by decide +kernel
theorem dX3_with_5 : decode cX3_with 5 = .ok (.iload 4, 2) := by decide +kernel
theorem dX3_with_7 : decode cX3_with 7 = .ok (.aload_n 0, 1) := by decide +kernel
theorem dX3_with_8 : decode cX3_with 8 = .ok (.getfield 58, 3) := by decide +kernel
theorem dX3_with_11 : decode cX3_with 11 = .ok (.if_icmp .ge 33, 3) := by decide +kernel
theorem dX3_with_14 : decode cX3_with 14 = .ok (.iload_n 3, 1) := by decide +kernel
theorem dX3_with_15 : decode cX3_with 15 = .ok (.aload_n 0, 1) := by decide +kernel
theorem dX3_with_16 : decode cX3_with 16 = .ok (.getfield 25, 3) := by decide +kernel
theorem dX3_with_19 : decode cX3_with 19 = .ok (.bipush 6, 2) := by decide +kernel
theorem dX3_with_21 : decode cX3_with 21 = .ok (.iload 4, 2) := by decide +kernel
theorem dX3_with_23 : decode cX3_with 23 = .ok (.imul, 1) := by decide +kernel
theorem dX3_with_24 : decode cX3_with 24 = .ok (.iload_n 1, 1) := by decide +kernel
theorem dX3_with_25 : decode cX3_with 25 = .ok (.iadd, 1) := by decide +kernel
theorem dX3_with_26 : decode cX3_with 26 = .ok (.iaload, 1) := by decide +kernel
theorem dX3_with_27 : decode cX3_with 27 = .ok (.iload_n 2, 1) := by decide +kernel
theorem dX3_with_28 : decode cX3_with 28 = .ok (.if_icmp .ne 7, 3) := by decide +kernel
theorem dX3_with_31 : decode cX3_with 31 = .ok (.iconst 1, 1) := by decide +kernel
theorem dX3_with_32 : decode cX3_with 32 = .ok (.goto 4, 3) := by decide +kernel
theorem dX3_with_35 : decode cX3_with 35 = .ok (.iconst 0, 1) := by decide +kernel
theorem dX3_with_36 : decode cX3_with 36 = .ok (.iadd, 1) := by decide +kernel
theorem dX3_with_37 : decode cX3_with 37 = .ok (.istore_n 3, 1) := by decide +kernel
theorem dX3_with_38 : decode cX3_with 38 = .ok (.iinc 4 1, 3) := by decide +kernel
theorem dX3_with_41 : decode cX3_with 41 = .ok (.goto (-36), 3) := by decide +kernel
theorem dX3_with_44 : decode cX3_with 44 = .ok (.iload_n 3, 1) := by decide +kernel
theorem dX3_with_45 : decode cX3_with 45 = .ok (.ireturn, 1) := by decide +kernel
set_option maxRecDepth 20000 in
theorem ggX3_songTold_X3_with : GoodIn wsX3_songTold wsX3_with := goodIn_r _ [7, 2, 8, 9, 10, 11, 12, 13, 14, 15, 16, 17, 18, 19, 20, 21, 22, 23, 24] (by decide +kernel) (by decide +kernel)
set_option maxRecDepth 20000 in
theorem gX3_songTold_X3_with : GoodIn wsX3_songTold (wsV RX3 129 RX3 yX3_with wsX3_with) := goodIn_app (goodIn_of _ (by decide +kernel)) ggX3_songTold_X3_with
theorem dX3_songTold_0 : decode cX3_songTold 0 = .ok (.iconst 0, 1) := by decide +kernel
theorem dX3_songTold_1 : decode cX3_songTold 1 = .ok (.istore_n 3, 1) := by decide +kernel
theorem dX3_songTold_2 : decode cX3_songTold 2 = .ok (.iconst 0, 1) := by decide +kernel
theorem dX3_songTold_3 : decode cX3_songTold 3 = .ok (.istore 4, 2) := by decide +kernel
theorem dX3_songTold_5 : decode cX3_songTold 5 = .ok (.iconst 1, 1) := by decide +kernel
theorem dX3_songTold_6 : decode cX3_songTold 6 = .ok (.istore 5, 2) := by decide +kernel
theorem dX3_songTold_8 : decode cX3_songTold 8 = .ok (.iload 5, 2) := by decide +kernel
theorem dX3_songTold_10 : decode cX3_songTold 10 = .ok (.bipush 100, 2) := by decide +kernel
theorem dX3_songTold_12 : decode cX3_songTold 12 = .ok (.if_icmp .ge 56, 3) := by decide +kernel
theorem dX3_songTold_15 : decode cX3_songTold 15 = .ok (.aload_n 0, 1) := by decide +kernel
theorem dX3_songTold_16 : decode cX3_songTold 16 = .ok (.iload_n 1, 1) := by decide +kernel
theorem dX3_songTold_17 : decode cX3_songTold 17 = .ok (.iload 5, 2) := by decide +kernel
theorem dX3_songTold_19 : decode cX3_songTold 19 = .ok (.invokevirtual 129, 3) := by decide +kernel
theorem dX3_songTold_22 : decode cX3_songTold 22 = .ok (.istore 6, 2) := by decide +kernel
theorem dX3_songTold_24 : decode cX3_songTold 24 = .ok (.iload_n 3, 1) := by decide +kernel
theorem dX3_songTold_25 : decode cX3_songTold 25 = .ok (.iload 6, 2) := by decide +kernel
theorem dX3_songTold_27 : decode cX3_songTold 27 = .ok (.ifCond .le 7, 3) := by decide +kernel
theorem dX3_songTold_30 : decode cX3_songTold 30 = .ok (.iconst 1, 1) := by decide +kernel
theorem dX3_songTold_31 : decode cX3_songTold 31 = .ok (.goto 4, 3) := by decide +kernel
theorem dX3_songTold_34 : decode cX3_songTold 34 = .ok (.iconst 0, 1) := by decide +kernel
theorem dX3_songTold_35 : decode cX3_songTold 35 = .ok (.iadd, 1) := by decide +kernel
theorem dX3_songTold_36 : decode cX3_songTold 36 = .ok (.istore_n 3, 1) := by decide +kernel
theorem dX3_songTold_37 : decode cX3_songTold 37 = .ok (.iload 6, 2) := by decide +kernel
theorem dX3_songTold_39 : decode cX3_songTold 39 = .ok (.iload 4, 2) := by decide +kernel
theorem dX3_songTold_41 : decode cX3_songTold 41 = .ok (.ifCond .ne 7, 3) := by decide +kernel
theorem dX3_songTold_44 : decode cX3_songTold 44 = .ok (.iconst 0, 1) := by decide +kernel
theorem dX3_songTold_45 : decode cX3_songTold 45 = .ok (.goto 10, 3) := by decide +kernel
theorem dX3_songTold_48 : decode cX3_songTold 48 = .ok (.aload_n 0, 1) := by decide +kernel
theorem dX3_songTold_49 : decode cX3_songTold 49 = .ok (.iload_n 1, 1) := by decide +kernel
theorem dX3_songTold_50 : decode cX3_songTold 50 = .ok (.iload 4, 2) := by decide +kernel
theorem dX3_songTold_52 : decode cX3_songTold 52 = .ok (.invokevirtual 129, 3) := by decide +kernel
theorem dX3_songTold_55 : decode cX3_songTold 55 = .ok (.if_icmp .le 7, 3) := by decide +kernel
theorem dX3_songTold_58 : decode cX3_songTold 58 = .ok (.iload 5, 2) := by decide +kernel
theorem dX3_songTold_60 : decode cX3_songTold 60 = .ok (.istore 4, 2) := by decide +kernel
theorem dX3_songTold_62 : decode cX3_songTold 62 = .ok (.iinc 5 1, 3) := by decide +kernel
theorem dX3_songTold_65 : decode cX3_songTold 65 = .ok (.goto (-57), 3) := by decide +kernel
theorem dX3_songTold_68 : decode cX3_songTold 68 = .ok (.iload_n 2, 1) := by decide +kernel
theorem dX3_songTold_69 : decode cX3_songTold 69 = .ok (.ifCond .ne 12, 3) := by decide +kernel
theorem dX3_songTold_72 : decode cX3_songTold 72 = .ok (.aload_n 0, 1) := by decide +kernel
theorem dX3_songTold_73 : decode cX3_songTold 73 = .ok (.getfield 22, 3) := by decide +kernel
theorem dX3_songTold_76 : decode cX3_songTold 76 = .ok (.iload_n 1, 1) := by decide +kernel
theorem dX3_songTold_77 : decode cX3_songTold 77 = .ok (.iaload, 1) := by decide +kernel
theorem dX3_songTold_78 : decode cX3_songTold 78 = .ok (.goto 33, 3) := by decide +kernel
theorem dX3_songTold_81 : decode cX3_songTold 81 = .ok (.iload_n 2, 1) := by decide +kernel
theorem dX3_songTold_82 : decode cX3_songTold 82 = .ok (.iconst 1, 1) := by decide +kernel
theorem dX3_songTold_83 : decode cX3_songTold 83 = .ok (.if_icmp .ne 17, 3) := by decide +kernel
theorem dX3_songTold_86 : decode cX3_songTold 86 = .ok (.aload_n 0, 1) := by decide +kernel
theorem dX3_songTold_87 : decode cX3_songTold 87 = .ok (.getfield 58, 3) := by decide +kernel
theorem dX3_songTold_90 : decode cX3_songTold 90 = .ok (.aload_n 0, 1) := by decide +kernel
theorem dX3_songTold_91 : decode cX3_songTold 91 = .ok (.iload_n 1, 1) := by decide +kernel
theorem dX3_songTold_92 : decode cX3_songTold 92 = .ok (.iconst 0, 1) := by decide +kernel
theorem dX3_songTold_93 : decode cX3_songTold 93 = .ok (.invokevirtual 129, 3) := by decide +kernel
theorem dX3_songTold_96 : decode cX3_songTold 96 = .ok (.isub, 1) := by decide +kernel
theorem dX3_songTold_97 : decode cX3_songTold 97 = .ok (.goto 14, 3) := by decide +kernel
theorem dX3_songTold_100 : decode cX3_songTold 100 = .ok (.iload_n 2, 1) := by decide +kernel
theorem dX3_songTold_101 : decode cX3_songTold 101 = .ok (.iconst 2, 1) := by decide +kernel
theorem dX3_songTold_102 : decode cX3_songTold 102 = .ok (.if_icmp .ne 7, 3) := by decide +kernel
theorem dX3_songTold_105 : decode cX3_songTold 105 = .ok (.iload_n 3, 1) := by decide +kernel
theorem dX3_songTold_106 : decode cX3_songTold 106 = .ok (.goto 5, 3) := by decide +kernel
theorem dX3_songTold_109 : decode cX3_songTold 109 = .ok (.iload 4, 2) := by decide +kernel
theorem dX3_songTold_111 : decode cX3_songTold 111 = .ok (.ireturn, 1) := by decide +kernel
set_option maxRecDepth 20000 in
theorem ggX3_song_X3_isSong : GoodIn wsX3_song wsX3_isSong := goodIn_r _ [6, 7, 8, 9, 5, 10, 26, 27, 28, 29, 30, 31, 32, 33, 34, 35, 36, 37, 38, 39, 40, 41] (by decide +kernel) (by decide +kernel)
set_option maxRecDepth 20000 in
theorem gX3_song_X3_isSong : GoodIn wsX3_song (wsV RX3 101 RX3 yX3_isSong wsX3_isSong) := goodIn_app (goodIn_of _ (by decide +kernel)) ggX3_song_X3_isSong
set_option maxRecDepth 20000 in
theorem ggX3_song_X3_isIn : GoodIn wsX3_song wsX3_isIn := goodIn_r _ [10] (by decide +kernel) (by decide +kernel)
set_option maxRecDepth 20000 in
theorem gX3_song_X3_isIn : GoodIn wsX3_song (va_wsS RX3 54 yX3_isIn wsX3_isIn) := goodIn_app (goodIn_of _ (by decide +kernel)) ggX3_song_X3_isIn
set_option maxRecDepth 20000 in
theorem ggX3_song_X3_songTold : GoodIn wsX3_song wsX3_songTold := goodIn_r _ [14, 15, 16, 17, 18, 19, 5, 20, 21, 26, 27, 28, 29, 30, 31, 32, 33, 34, 35, 36, 37, 38, 39, 40, 41] (by decide +kernel) (by decide +kernel)
set_option maxRecDepth 20000 in
theorem gX3_song_X3_songTold : GoodIn wsX3_song (wsV RX3 132 RX3 yX3_songTold wsX3_songTold) := goodIn_app (goodIn_of _ (by decide +kernel)) ggX3_song_X3_songTold
set_option maxRecDepth 20000 in
theorem ggX3_song_X3_fail : GoodIn wsX3_song wsX3_fail := goodIn_r _ [25, 1, 26, 27, 28, 29, 30, 31, 32, 33, 34, 35, 36, 37, 38, 39, 40, 41] (by decide +kernel) (by decide +kernel)
set_option maxRecDepth 20000 in
theorem gX3_song_X3_fail : GoodIn wsX3_song (wsV RX3 68 RX3 yX3_fail wsX3_fail) := goodIn_app (goodIn_of _ (by decide +kernel)) ggX3_song_X3_fail
theorem dX3_song_0 : decode cX3_song 0 = .ok (.aload_n 0, 1) := by decide +kernel
theorem dX3_song_1 : decode cX3_song 1 = .ok (.iconst 0, 1) := by decide +kernel
theorem dX3_song_2 : decode cX3_song 2 = .ok (.putfield 47, 3) := by decide +kernel
theorem dX3_song_5 : decode cX3_song 5 = .ok (.aload_n 0, 1) := by decide +kernel
theorem dX3_song_6 : decode cX3_song 6 = .ok (.iload_n 1, 1) := by decide +kernel
theorem dX3_song_7 : decode cX3_song 7 = .ok (.invokevirtual 101, 3) := by decide +kernel
theorem dX3_song_10 : decode cX3_song 10 = .ok (.ifCond .eq 21, 3) := by decide +kernel
theorem dX3_song_13 : decode cX3_song 13 = .ok (.iload_n 2, 1) := by decide +kernel
theorem dX3_song_14 : decode cX3_song 14 = .ok (.iconst 0, 1) := by decide +kernel
theorem dX3_song_15 : decode cX3_song 15 = .ok (.iconst 3, 1) := by decide +kernel
theorem dX3_song_16 : decode cX3_song 16 = .ok (.invokestatic 54, 3) := by decide +kernel
theorem dX3_song_19 : decode cX3_song 19 = .ok (.ifCond .eq 12, 3) := by decide +kernel
theorem dX3_song_22 : decode cX3_song 22 = .ok (.aload_n 0, 1) := by decide +kernel
theorem dX3_song_23 : decode cX3_song 23 = .ok (.iload_n 1, 1) := by decide +kernel
theorem dX3_song_24 : decode cX3_song 24 = .ok (.iload_n 2, 1) := by decide +kernel
theorem dX3_song_25 : decode cX3_song 25 = .ok (.invokevirtual 132, 3) := by decide +kernel
theorem dX3_song_28 : decode cX3_song 28 = .ok (.goto 8, 3) := by decide +kernel
theorem dX3_song_31 : decode cX3_song 31 = .ok (.aload_n 0, 1) := by decide +kernel
theorem dX3_song_32 : decode cX3_song 32 = .ok (.iconst 1, 1) := by decide +kernel
theorem dX3_song_33 : decode cX3_song 33 = .ok (.invokevirtual 68, 3) := by decide +kernel
theorem dX3_song_36 : decode cX3_song 36 = .ok (.ireturn, 1) := by decide +kernel
set_option maxRecDepth 20000 in
theorem ggX3_burn_X3_pe : GoodIn wsX3_burn wsX3_pe := goodIn_r _ [11, 12, 32, 33, 34, 35, 36, 37, 38, 39, 40, 41, 42, 43, 44, 45, 46, 47] (by decide +kernel) (by decide +kernel)
set_option maxRecDepth 20000 in
theorem gX3_burn_X3_pe : GoodIn wsX3_burn (wsV RX3 89 RX3 yX3_pe wsX3_pe) := goodIn_app (goodIn_of _ (by decide +kernel)) ggX3_burn_X3_pe
set_option maxRecDepth 20000 in
theorem ggX3_burn_X3_set : GoodIn wsX3_burn wsX3_set := goodIn_r _ [16, 12, 32, 33, 34, 35, 36, 37, 38, 39, 40, 41, 42, 43, 44, 45, 46, 47] (by decide +kernel) (by decide +kernel)
set_option maxRecDepth 20000 in
theorem gX3_burn_X3_set : GoodIn wsX3_burn (wsV RX3 97 RX3 yX3_set wsX3_set) := goodIn_app (goodIn_of _ (by decide +kernel)) ggX3_burn_X3_set
set_option maxRecDepth 20000 in
theorem ggX3_burn_X3_walks : GoodIn wsX3_burn wsX3_walks := goodIn_r _ [20, 7, 8, 9, 10, 11, 12, 32, 33, 34, 35, 36, 37, 38, 39, 40, 41, 42, 43, 44, 45, 46, 47] (by decide +kernel) (by decide +kernel)
set_option maxRecDepth 20000 in
theorem gX3_burn_X3_walks : GoodIn wsX3_burn (wsV RX3 104 RX3 yX3_walks wsX3_walks) := goodIn_app (goodIn_of _ (by decide +kernel)) ggX3_burn_X3_walks
set_option maxRecDepth 20000 in
theorem ggX3_burn_X3_neighbours : GoodIn wsX3_burn wsX3_neighbours := goodIn_r _ [24, 1, 25, 26, 27, 10, 28, 29, 30, 4, 31, 17, 18, 19, 20, 7, 8, 9, 11, 12, 32, 33, 34, 35, 36, 37, 38, 39, 40, 41, 42, 43, 44, 45, 46, 47] (by decide +kernel) (by decide +kernel)
set_option maxRecDepth 20000 in
theorem gX3_burn_X3_neighbours : GoodIn wsX3_burn (wsV RX3 123 RX3 yX3_neighbours wsX3_neighbours) := goodIn_app (goodIn_of _ (by decide +kernel)) ggX3_burn_X3_neighbours
set_option maxRecDepth 20000 in
theorem ggX3_burn_X3_isNeighbour : GoodIn wsX3_burn wsX3_isNeighbour := goodIn_r _ [28, 29, 30, 4, 31, 17, 18, 19, 10, 20, 7, 8, 9, 11, 12, 32, 33, 34, 35, 36, 37, 38, 39, 40, 41, 42, 43, 44, 45, 46, 47] (by decide +kernel) (by decide +kernel)
set_option maxRecDepth 20000 in
theorem gX3_burn_X3_isNeighbour : GoodIn wsX3_burn (wsV RX3 119 RX3 yX3_isNeighbour wsX3_isNeighbour) := goodIn_app (goodIn_of _ (by decide +kernel)) ggX3_burn_X3_isNeighbour
theorem dX3_burn_0 : decode cX3_burn 0 = .ok (.iconst 0, 1) := by decide +kernel
theorem dX3_burn_1 : decode cX3_burn 1 = .ok (.istore_n 2, 1) := by decide +kernel
theorem dX3_burn_2 : decode cX3_burn 2 = .ok (.iload_n 2, 1) := by decide +kernel
theorem dX3_burn_3 : decode cX3_burn 3 = .ok (.aload_n 0, 1) := by decide +kernel
theorem dX3_burn_4 : decode cX3_burn 4 = .ok (.getfield 58, 3) := by decide +kernel
theorem dX3_burn_7 : decode cX3_burn 7 = .ok (.if_icmp .ge 74, 3) := by decide +kernel
theorem dX3_burn_10 : decode cX3_burn 10 = .ok (.aload_n 0, 1) := by decide +kernel
theorem dX3_burn_11 : decode cX3_burn 11 = .ok (.iload_n 2, 1) := by decide +kernel
theorem dX3_burn_12 : decode cX3_burn 12 = .ok (.iconst 3, 1) := by decide +kernel
theorem dX3_burn_13 : decode cX3_burn 13 = .ok (.invokevirtual 89, 3) := by decide +kernel
theorem dX3_burn_16 : decode cX3_burn 16 = .ok (.ifCond .eq 59, 3) := by decide +kernel
theorem dX3_burn_19 : decode cX3_burn 19 = .ok (.aload_n 0, 1) := by decide +kernel
theorem dX3_burn_20 : decode cX3_burn 20 = .ok (.iload_n 2, 1) := by decide +kernel
theorem dX3_burn_21 : decode cX3_burn 21 = .ok (.iconst 4, 1) := by decide +kernel
theorem dX3_burn_22 : decode cX3_burn 22 = .ok (.invokevirtual 89, 3) := by decide +kernel
theorem dX3_burn_25 : decode cX3_burn 25 = .ok (.iconst 2, 1) := by decide +kernel
theorem dX3_burn_26 : decode cX3_burn 26 = .ok (.if_icmp .ne 6, 3) := by decide +kernel
theorem dX3_burn_29 : decode cX3_burn 29 = .ok (.goto 46, 3) := by decide +kernel
theorem dX3_burn_32 : decode cX3_burn 32 = .ok (.aload_n 0, 1) := by decide +kernel
theorem dX3_burn_33 : decode cX3_burn 33 = .ok (.iload_n 2, 1) := by decide +kernel
theorem dX3_burn_34 : decode cX3_burn 34 = .ok (.iconst 1, 1) := by decide +kernel
theorem dX3_burn_35 : decode cX3_burn 35 = .ok (.iconst 0, 1) := by decide +kernel
theorem dX3_burn_36 : decode cX3_burn 36 = .ok (.aload_n 0, 1) := by decide +kernel
theorem dX3_burn_37 : decode cX3_burn 37 = .ok (.iload_n 2, 1) := by decide +kernel
theorem dX3_burn_38 : decode cX3_burn 38 = .ok (.iconst 1, 1) := by decide +kernel
theorem dX3_burn_39 : decode cX3_burn 39 = .ok (.invokevirtual 89, 3) := by decide +kernel
theorem dX3_burn_42 : decode cX3_burn 42 = .ok (.iload_n 1, 1) := by decide +kernel
theorem dX3_burn_43 : decode cX3_burn 43 = .ok (.iconst 5, 1) := by decide +kernel
theorem dX3_burn_44 : decode cX3_burn 44 = .ok (.if_icmp .le 7, 3) := by decide +kernel
theorem dX3_burn_47 : decode cX3_burn 47 = .ok (.iconst 2, 1) := by decide +kernel
theorem dX3_burn_48 : decode cX3_burn 48 = .ok (.goto 4, 3) := by decide +kernel
theorem dX3_burn_51 : decode cX3_burn 51 = .ok (.iconst 1, 1) := by decide +kernel
theorem dX3_burn_52 : decode cX3_burn 52 = .ok (.isub, 1) := by decide +kernel
theorem dX3_burn_53 : decode cX3_burn 53 = .ok (.invokestatic 135, 3) := by decide +kernel
theorem dX3_burn_56 : decode cX3_burn 56 = .ok (.invokevirtual 97, 3) := by decide +kernel
theorem dX3_burn_59 : decode cX3_burn 59 = .ok (.aload_n 0, 1) := by decide +kernel
theorem dX3_burn_60 : decode cX3_burn 60 = .ok (.iload_n 2, 1) := by decide +kernel
theorem dX3_burn_61 : decode cX3_burn 61 = .ok (.iconst 1, 1) := by decide +kernel
theorem dX3_burn_62 : decode cX3_burn 62 = .ok (.invokevirtual 89, 3) := by decide +kernel
theorem dX3_burn_65 : decode cX3_burn 65 = .ok (.ifCond .ne 10, 3) := by decide +kernel
theorem dX3_burn_68 : decode cX3_burn 68 = .ok (.aload_n 0, 1) := by decide +kernel
theorem dX3_burn_69 : decode cX3_burn 69 = .ok (.iload_n 2, 1) := by decide +kernel
theorem dX3_burn_70 : decode cX3_burn 70 = .ok (.iconst 3, 1) := by decide +kernel
theorem dX3_burn_71 : decode cX3_burn 71 = .ok (.iconst 0, 1) := by decide +kernel
theorem dX3_burn_72 : decode cX3_burn 72 = .ok (.invokevirtual 97, 3) := by decide +kernel
theorem dX3_burn_75 : decode cX3_burn 75 = .ok (.iinc 2 1, 3) := by decide +kernel
theorem dX3_burn_78 : decode cX3_burn 78 = .ok (.goto (-76), 3) := by decide +kernel
theorem dX3_burn_81 : decode cX3_burn 81 = .ok (.iconst 0, 1) := by decide +kernel
theorem dX3_burn_82 : decode cX3_burn 82 = .ok (.istore_n 2, 1) := by decide +kernel
theorem dX3_burn_83 : decode cX3_burn 83 = .ok (.iload_n 2, 1) := by decide +kernel
theorem dX3_burn_84 : decode cX3_burn 84 = .ok (.aload_n 0, 1) := by decide +kernel
theorem dX3_burn_85 : decode cX3_burn 85 = .ok (.getfield 58, 3) := by decide +kernel
theorem dX3_burn_88 : decode cX3_burn 88 = .ok (.if_icmp .ge 39, 3) := by decide +kernel
theorem dX3_burn_91 : decode cX3_burn 91 = .ok (.iload_n 1, 1) := by decide +kernel
theorem dX3_burn_92 : decode cX3_burn 92 = .ok (.bipush 8, 2) := by decide +kernel
theorem dX3_burn_94 : decode cX3_burn 94 = .ok (.if_icmp .lt 33, 3) := by decide +kernel
theorem dX3_burn_97 : decode cX3_burn 97 = .ok (.aload_n 0, 1) := by decide +kernel
theorem dX3_burn_98 : decode cX3_burn 98 = .ok (.iload_n 2, 1) := by decide +kernel
theorem dX3_burn_99 : decode cX3_burn 99 = .ok (.invokevirtual 104, 3) := by decide +kernel
theorem dX3_burn_102 : decode cX3_burn 102 = .ok (.ifCond .eq 19, 3) := by decide +kernel
theorem dX3_burn_105 : decode cX3_burn 105 = .ok (.aload_n 0, 1) := by decide +kernel
theorem dX3_burn_106 : decode cX3_burn 106 = .ok (.iload_n 2, 1) := by decide +kernel
theorem dX3_burn_107 : decode cX3_burn 107 = .ok (.invokevirtual 123, 3) := by decide +kernel
theorem dX3_burn_110 : decode cX3_burn 110 = .ok (.iconst 2, 1) := by decide +kernel
theorem dX3_burn_111 : decode cX3_burn 111 = .ok (.if_icmp .ge 10, 3) := by decide +kernel
theorem dX3_burn_114 : decode cX3_burn 114 = .ok (.aload_n 0, 1) := by decide +kernel
theorem dX3_burn_115 : decode cX3_burn 115 = .ok (.iload_n 2, 1) := by decide +kernel
theorem dX3_burn_116 : decode cX3_burn 116 = .ok (.iconst 3, 1) := by decide +kernel
theorem dX3_burn_117 : decode cX3_burn 117 = .ok (.iconst 0, 1) := by decide +kernel
theorem dX3_burn_118 : decode cX3_burn 118 = .ok (.invokevirtual 97, 3) := by decide +kernel
theorem dX3_burn_121 : decode cX3_burn 121 = .ok (.iinc 2 1, 3) := by decide +kernel
theorem dX3_burn_124 : decode cX3_burn 124 = .ok (.goto (-41), 3) := by decide +kernel
theorem dX3_burn_127 : decode cX3_burn 127 = .ok (.iconst 0, 1) := by decide +kernel
theorem dX3_burn_128 : decode cX3_burn 128 = .ok (.istore_n 2, 1) := by decide +kernel
theorem dX3_burn_129 : decode cX3_burn 129 = .ok (.iload_n 2, 1) := by decide +kernel
theorem dX3_burn_130 : decode cX3_burn 130 = .ok (.aload_n 0, 1) := by decide +kernel
theorem dX3_burn_131 : decode cX3_burn 131 = .ok (.getfield 58, 3) := by decide +kernel
theorem dX3_burn_134 : decode cX3_burn 134 = .ok (.if_icmp .ge 91, 3) := by decide +kernel
theorem dX3_burn_137 : decode cX3_burn 137 = .ok (.aload_n 0, 1) := by decide +kernel
theorem dX3_burn_138 : decode cX3_burn 138 = .ok (.getfield 34, 3) := by decide +kernel
theorem dX3_burn_141 : decode cX3_burn 141 = .ok (.iload_n 2, 1) := by decide +kernel
theorem dX3_burn_142 : decode cX3_burn 142 = .ok (.iconst 0, 1) := by decide +kernel
theorem dX3_burn_143 : decode cX3_burn 143 = .ok (.bastore, 1) := by decide +kernel
theorem dX3_burn_144 : decode cX3_burn 144 = .ok (.aload_n 0, 1) := by decide +kernel
theorem dX3_burn_145 : decode cX3_burn 145 = .ok (.iload_n 2, 1) := by decide +kernel
theorem dX3_burn_146 : decode cX3_burn 146 = .ok (.invokevirtual 104, 3) := by decide +kernel
theorem dX3_burn_149 : decode cX3_burn 149 = .ok (.ifCond .eq 70, 3) := by decide +kernel
theorem dX3_burn_152 : decode cX3_burn 152 = .ok (.aload_n 0, 1) := by decide +kernel
theorem dX3_burn_153 : decode cX3_burn 153 = .ok (.iload_n 2, 1) := by decide +kernel
theorem dX3_burn_154 : decode cX3_burn 154 = .ok (.iconst 1, 1) := by decide +kernel
theorem dX3_burn_155 : decode cX3_burn 155 = .ok (.invokevirtual 89, 3) := by decide +kernel
theorem dX3_burn_158 : decode cX3_burn 158 = .ok (.ifCond .ne 6, 3) := by decide +kernel
theorem dX3_burn_161 : decode cX3_burn 161 = .ok (.goto 58, 3) := by decide +kernel
theorem dX3_burn_164 : decode cX3_burn 164 = .ok (.iconst 0, 1) := by decide +kernel
theorem dX3_burn_165 : decode cX3_burn 165 = .ok (.istore_n 3, 1) := by decide +kernel
theorem dX3_burn_166 : decode cX3_burn 166 = .ok (.iload_n 3, 1) := by decide +kernel
theorem dX3_burn_167 : decode cX3_burn 167 = .ok (.aload_n 0, 1) := by decide +kernel
theorem dX3_burn_168 : decode cX3_burn 168 = .ok (.getfield 58, 3) := by decide +kernel
theorem dX3_burn_171 : decode cX3_burn 171 = .ok (.if_icmp .ge 48, 3) := by decide +kernel
theorem dX3_burn_174 : decode cX3_burn 174 = .ok (.aload_n 0, 1) := by decide +kernel
theorem dX3_burn_175 : decode cX3_burn 175 = .ok (.getfield 34, 3) := by decide +kernel
theorem dX3_burn_178 : decode cX3_burn 178 = .ok (.iload_n 2, 1) := by decide +kernel
theorem dX3_burn_179 : decode cX3_burn 179 = .ok (.aload_n 0, 1) := by decide +kernel
theorem dX3_burn_180 : decode cX3_burn 180 = .ok (.getfield 34, 3) := by decide +kernel
theorem dX3_burn_183 : decode cX3_burn 183 = .ok (.iload_n 2, 1) := by decide +kernel
theorem dX3_burn_184 : decode cX3_burn 184 = .ok (.baload, 1) := by decide +kernel
theorem dX3_burn_185 : decode cX3_burn 185 = .ok (.ifCond .ne 22, 3) := by decide +kernel
theorem dX3_burn_188 : decode cX3_burn 188 = .ok (.aload_n 0, 1) := by decide +kernel
theorem dX3_burn_189 : decode cX3_burn 189 = .ok (.iload_n 2, 1) := by decide +kernel
theorem dX3_burn_190 : decode cX3_burn 190 = .ok (.iload_n 3, 1) := by decide +kernel
theorem dX3_burn_191 : decode cX3_burn 191 = .ok (.invokevirtual 119, 3) := by decide +kernel
theorem dX3_burn_194 : decode cX3_burn 194 = .ok (.ifCond .eq 17, 3) := by decide +kernel
theorem dX3_burn_197 : decode cX3_burn 197 = .ok (.aload_n 0, 1) := by decide +kernel
theorem dX3_burn_198 : decode cX3_burn 198 = .ok (.iload_n 3, 1) := by decide +kernel
theorem dX3_burn_199 : decode cX3_burn 199 = .ok (.iconst 3, 1) := by decide +kernel
theorem dX3_burn_200 : decode cX3_burn 200 = .ok (.invokevirtual 89, 3) := by decide +kernel
theorem dX3_burn_203 : decode cX3_burn 203 = .ok (.iconst 1, 1) := by decide +kernel
theorem dX3_burn_204 : decode cX3_burn 204 = .ok (.if_icmp .ne 7, 3) := by decide +kernel
theorem dX3_burn_207 : decode cX3_burn 207 = .ok (.iconst 1, 1) := by decide +kernel
theorem dX3_burn_208 : decode cX3_burn 208 = .ok (.goto 4, 3) := by decide +kernel
theorem dX3_burn_211 : decode cX3_burn 211 = .ok (.iconst 0, 1) := by decide +kernel
theorem dX3_burn_212 : decode cX3_burn 212 = .ok (.bastore, 1) := by decide +kernel
theorem dX3_burn_213 : decode cX3_burn 213 = .ok (.iinc 3 1, 3) := by decide +kernel
theorem dX3_burn_216 : decode cX3_burn 216 = .ok (.goto (-50), 3) := by decide +kernel
theorem dX3_burn_219 : decode cX3_burn 219 = .ok (.iinc 2 1, 3) := by decide +kernel
theorem dX3_burn_222 : decode cX3_burn 222 = .ok (.goto (-93), 3) := by decide +kernel
theorem dX3_burn_225 : decode cX3_burn 225 = .ok (.iconst 0, 1) := by decide +kernel
theorem dX3_burn_226 : decode cX3_burn 226 = .ok (.istore_n 2, 1) := by decide +kernel
theorem dX3_burn_227 : decode cX3_burn 227 = .ok (.iload_n 2, 1) := by decide +kernel
theorem dX3_burn_228 : decode cX3_burn 228 = .ok (.aload_n 0, 1) := by decide +kernel
theorem dX3_burn_229 : decode cX3_burn 229 = .ok (.getfield 58, 3) := by decide +kernel
theorem dX3_burn_232 : decode cX3_burn 232 = .ok (.if_icmp .ge 25, 3) := by decide +kernel
theorem dX3_burn_235 : decode cX3_burn 235 = .ok (.aload_n 0, 1) := by decide +kernel
theorem dX3_burn_236 : decode cX3_burn 236 = .ok (.getfield 34, 3) := by decide +kernel
theorem dX3_burn_239 : decode cX3_burn 239 = .ok (.iload_n 2, 1) := by decide +kernel
theorem dX3_burn_240 : decode cX3_burn 240 = .ok (.baload, 1) := by decide +kernel
theorem dX3_burn_241 : decode cX3_burn 241 = .ok (.ifCond .eq 10, 3) := by decide +kernel
theorem dX3_burn_244 : decode cX3_burn 244 = .ok (.aload_n 0, 1) := by decide +kernel
theorem dX3_burn_245 : decode cX3_burn 245 = .ok (.iload_n 2, 1) := by decide +kernel
theorem dX3_burn_246 : decode cX3_burn 246 = .ok (.iconst 3, 1) := by decide +kernel
theorem dX3_burn_247 : decode cX3_burn 247 = .ok (.iconst 1, 1) := by decide +kernel
theorem dX3_burn_248 : decode cX3_burn 248 = .ok (.invokevirtual 97, 3) := by decide +kernel
theorem dX3_burn_251 : decode cX3_burn 251 = .ok (.iinc 2 1, 3) := by decide +kernel
theorem dX3_burn_254 : decode cX3_burn 254 = .ok (.goto (-27), 3) := by decide +kernel
theorem dX3_burn_257 : decode cX3_burn 257 = .ok (.return_, 1) := by decide +kernel
set_option maxRecDepth 20000 in
theorem ggX3_learnt_X3_isNeighbour : GoodIn wsX3_learnt wsX3_isNeighbour := goodIn_r _ [8, 9, 10, 11, 12, 13, 14, 15, 7, 16, 17, 18, 19, 20, 21, 22, 23, 24, 25, 26, 27, 28, 29, 30, 31, 32, 33, 34, 35, 36, 37] (by decide +kernel) (by decide +kernel)
set_option maxRecDepth 20000 in
theorem gX3_learnt_X3_isNeighbour : GoodIn wsX3_learnt (wsV RX3 119 RX3 yX3_isNeighbour wsX3_isNeighbour) := goodIn_app (goodIn_of _ (by decide +kernel)) ggX3_learnt_X3_isNeighbour
set_option maxRecDepth 20000 in
theorem ggX3_learnt_X3_pe : GoodIn wsX3_learnt wsX3_pe := goodIn_r _ [20, 21, 22, 23, 24, 25, 26, 27, 28, 29, 30, 31, 32, 33, 34, 35, 36, 37] (by decide +kernel) (by decide +kernel)
set_option maxRecDepth 20000 in
theorem gX3_learnt_X3_pe : GoodIn wsX3_learnt (wsV RX3 89 RX3 yX3_pe wsX3_pe) := goodIn_app (goodIn_of _ (by decide +kernel)) ggX3_learnt_X3_pe
theorem dX3_learnt_0 : decode cX3_learnt 0 = .ok (.iconst (-1), 1) := by decide +kernel
theorem dX3_learnt_1 : decode cX3_learnt 1 = .ok (.istore_n 3, 1) := by decide +kernel
theorem dX3_learnt_2 : decode cX3_learnt 2 = .ok (.iconst 0, 1) := by decide +kernel
theorem dX3_learnt_3 : decode cX3_learnt 3 = .ok (.istore 4, 2) := by decide +kernel
theorem dX3_learnt_5 : decode cX3_learnt 5 = .ok (.iload 4, 2) := by decide +kernel
theorem dX3_learnt_7 : decode cX3_learnt 7 = .ok (.aload_n 0, 1) := by decide +kernel
theorem dX3_learnt_8 : decode cX3_learnt 8 = .ok (.getfield 58, 3) := by decide +kernel
theorem dX3_learnt_11 : decode cX3_learnt 11 = .ok (.if_icmp .ge 58, 3) := by decide +kernel
theorem dX3_learnt_14 : decode cX3_learnt 14 = .ok (.aload_n 0, 1) := by decide +kernel
theorem dX3_learnt_15 : decode cX3_learnt 15 = .ok (.iload_n 1, 1) := by decide +kernel
theorem dX3_learnt_16 : decode cX3_learnt 16 = .ok (.iload 4, 2) := by decide +kernel
theorem dX3_learnt_18 : decode cX3_learnt 18 = .ok (.invokevirtual 119, 3) := by decide +kernel
theorem dX3_learnt_21 : decode cX3_learnt 21 = .ok (.ifCond .eq 42, 3) := by decide +kernel
theorem dX3_learnt_24 : decode cX3_learnt 24 = .ok (.aload_n 0, 1) := by decide +kernel
theorem dX3_learnt_25 : decode cX3_learnt 25 = .ok (.getfield 25, 3) := by decide +kernel
theorem dX3_learnt_28 : decode cX3_learnt 28 = .ok (.bipush 6, 2) := by decide +kernel
theorem dX3_learnt_30 : decode cX3_learnt 30 = .ok (.iload 4, 2) := by decide +kernel
theorem dX3_learnt_32 : decode cX3_learnt 32 = .ok (.imul, 1) := by decide +kernel
theorem dX3_learnt_33 : decode cX3_learnt 33 = .ok (.iload_n 2, 1) := by decide +kernel
theorem dX3_learnt_34 : decode cX3_learnt 34 = .ok (.iadd, 1) := by decide +kernel
theorem dX3_learnt_35 : decode cX3_learnt 35 = .ok (.iaload, 1) := by decide +kernel
theorem dX3_learnt_36 : decode cX3_learnt 36 = .ok (.ifCond .le 27, 3) := by decide +kernel
theorem dX3_learnt_39 : decode cX3_learnt 39 = .ok (.iload_n 3, 1) := by decide +kernel
theorem dX3_learnt_40 : decode cX3_learnt 40 = .ok (.iconst (-1), 1) := by decide +kernel
theorem dX3_learnt_41 : decode cX3_learnt 41 = .ok (.if_icmp .eq 19, 3) := by decide +kernel
theorem dX3_learnt_44 : decode cX3_learnt 44 = .ok (.aload_n 0, 1) := by decide +kernel
theorem dX3_learnt_45 : decode cX3_learnt 45 = .ok (.iload 4, 2) := by decide +kernel
theorem dX3_learnt_47 : decode cX3_learnt 47 = .ok (.iconst 2, 1) := by decide +kernel
theorem dX3_learnt_48 : decode cX3_learnt 48 = .ok (.invokevirtual 89, 3) := by decide +kernel
theorem dX3_learnt_51 : decode cX3_learnt 51 = .ok (.aload_n 0, 1) := by decide +kernel
theorem dX3_learnt_52 : decode cX3_learnt 52 = .ok (.iload_n 3, 1) := by decide +kernel
theorem dX3_learnt_53 : decode cX3_learnt 53 = .ok (.iconst 2, 1) := by decide +kernel
theorem dX3_learnt_54 : decode cX3_learnt 54 = .ok (.invokevirtual 89, 3) := by decide +kernel
theorem dX3_learnt_57 : decode cX3_learnt 57 = .ok (.if_icmp .le 6, 3) := by decide +kernel
theorem dX3_learnt_60 : decode cX3_learnt 60 = .ok (.iload 4, 2) := by decide +kernel
theorem dX3_learnt_62 : decode cX3_learnt 62 = .ok (.istore_n 3, 1) := by decide +kernel
theorem dX3_learnt_63 : decode cX3_learnt 63 = .ok (.iinc 4 1, 3) := by decide +kernel
theorem dX3_learnt_66 : decode cX3_learnt 66 = .ok (.goto (-61), 3) := by decide +kernel
theorem dX3_learnt_69 : decode cX3_learnt 69 = .ok (.iload_n 3, 1) := by decide +kernel
theorem dX3_learnt_70 : decode cX3_learnt 70 = .ok (.iconst (-1), 1) := by decide +kernel
theorem dX3_learnt_71 : decode cX3_learnt 71 = .ok (.if_icmp .eq 33, 3) := by decide +kernel
theorem dX3_learnt_74 : decode cX3_learnt 74 = .ok (.aload_n 0, 1) := by decide +kernel
theorem dX3_learnt_75 : decode cX3_learnt 75 = .ok (.iload_n 3, 1) := by decide +kernel
theorem dX3_learnt_76 : decode cX3_learnt 76 = .ok (.iconst 2, 1) := by decide +kernel
theorem dX3_learnt_77 : decode cX3_learnt 77 = .ok (.invokevirtual 89, 3) := by decide +kernel
theorem dX3_learnt_80 : decode cX3_learnt 80 = .ok (.aload_n 0, 1) := by decide +kernel
theorem dX3_learnt_81 : decode cX3_learnt 81 = .ok (.iload_n 1, 1) := by decide +kernel
theorem dX3_learnt_82 : decode cX3_learnt 82 = .ok (.iconst 3, 1) := by decide +kernel
theorem dX3_learnt_83 : decode cX3_learnt 83 = .ok (.invokevirtual 89, 3) := by decide +kernel
theorem dX3_learnt_86 : decode cX3_learnt 86 = .ok (.ifCond .ne 7, 3) := by decide +kernel
theorem dX3_learnt_89 : decode cX3_learnt 89 = .ok (.iconst 3, 1) := by decide +kernel
theorem dX3_learnt_90 : decode cX3_learnt 90 = .ok (.goto 4, 3) := by decide +kernel
theorem dX3_learnt_93 : decode cX3_learnt 93 = .ok (.iconst 0, 1) := by decide +kernel
theorem dX3_learnt_94 : decode cX3_learnt 94 = .ok (.iadd, 1) := by decide +kernel
theorem dX3_learnt_95 : decode cX3_learnt 95 = .ok (.aload_n 0, 1) := by decide +kernel
theorem dX3_learnt_96 : decode cX3_learnt 96 = .ok (.getfield 22, 3) := by decide +kernel
theorem dX3_learnt_99 : decode cX3_learnt 99 = .ok (.iload_n 2, 1) := by decide +kernel
theorem dX3_learnt_100 : decode cX3_learnt 100 = .ok (.iaload, 1) := by decide +kernel
theorem dX3_learnt_101 : decode cX3_learnt 101 = .ok (.if_icmp .ge 5, 3) := by decide +kernel
theorem dX3_learnt_104 : decode cX3_learnt 104 = .ok (.iconst 0, 1) := by decide +kernel
theorem dX3_learnt_105 : decode cX3_learnt 105 = .ok (.ireturn, 1) := by decide +kernel
theorem dX3_learnt_106 : decode cX3_learnt 106 = .ok (.aload_n 0, 1) := by decide +kernel
theorem dX3_learnt_107 : decode cX3_learnt 107 = .ok (.getfield 25, 3) := by decide +kernel
theorem dX3_learnt_110 : decode cX3_learnt 110 = .ok (.bipush 6, 2) := by decide +kernel
theorem dX3_learnt_112 : decode cX3_learnt 112 = .ok (.iload_n 3, 1) := by decide +kernel
theorem dX3_learnt_113 : decode cX3_learnt 113 = .ok (.imul, 1) := by decide +kernel
theorem dX3_learnt_114 : decode cX3_learnt 114 = .ok (.iload_n 2, 1) := by decide +kernel
theorem dX3_learnt_115 : decode cX3_learnt 115 = .ok (.iadd, 1) := by decide +kernel
theorem dX3_learnt_116 : decode cX3_learnt 116 = .ok (.iaload, 1) := by decide +kernel
theorem dX3_learnt_117 : decode cX3_learnt 117 = .ok (.istore 4, 2) := by decide +kernel
theorem dX3_learnt_119 : decode cX3_learnt 119 = .ok (.aload_n 0, 1) := by decide +kernel
theorem dX3_learnt_120 : decode cX3_learnt 120 = .ok (.iload_n 1, 1) := by decide +kernel
theorem dX3_learnt_121 : decode cX3_learnt 121 = .ok (.iconst 3, 1) := by decide +kernel
theorem dX3_learnt_122 : decode cX3_learnt 122 = .ok (.invokevirtual 89, 3) := by decide +kernel
theorem dX3_learnt_125 : decode cX3_learnt 125 = .ok (.aload_n 0, 1) := by decide +kernel
theorem dX3_learnt_126 : decode cX3_learnt 126 = .ok (.iload_n 3, 1) := by decide +kernel
theorem dX3_learnt_127 : decode cX3_learnt 127 = .ok (.iconst 3, 1) := by decide +kernel
theorem dX3_learnt_128 : decode cX3_learnt 128 = .ok (.invokevirtual 89, 3) := by decide +kernel
theorem dX3_learnt_131 : decode cX3_learnt 131 = .ok (.iadd, 1) := by decide +kernel
theorem dX3_learnt_132 : decode cX3_learnt 132 = .ok (.iconst 2, 1) := by decide +kernel
theorem dX3_learnt_133 : decode cX3_learnt 133 = .ok (.if_icmp .ne 13, 3) := by decide +kernel
theorem dX3_learnt_136 : decode cX3_learnt 136 = .ok (.iload 4, 2) := by decide +kernel
theorem dX3_learnt_138 : decode cX3_learnt 138 = .ok (.bipush 99, 2) := by decide +kernel
theorem dX3_learnt_140 : decode cX3_learnt 140 = .ok (.irem, 1) := by decide +kernel
theorem dX3_learnt_141 : decode cX3_learnt 141 = .ok (.iconst 1, 1) := by decide +kernel
theorem dX3_learnt_142 : decode cX3_learnt 142 = .ok (.iadd, 1) := by decide +kernel
theorem dX3_learnt_143 : decode cX3_learnt 143 = .ok (.goto 5, 3) := by decide +kernel
theorem dX3_learnt_146 : decode cX3_learnt 146 = .ok (.iload 4, 2) := by decide +kernel
theorem dX3_learnt_148 : decode cX3_learnt 148 = .ok (.ireturn, 1) := by decide +kernel
set_option maxRecDepth 20000 in
theorem ggX3_sing_X3_walks : GoodIn wsX3_sing wsX3_walks := goodIn_r _ [9, 10, 11, 12, 8, 13, 14, 28, 29, 30, 31, 32, 33, 34, 35, 36, 37, 38, 39, 40, 41, 42, 43] (by decide +kernel) (by decide +kernel)
set_option maxRecDepth 20000 in
theorem gX3_sing_X3_walks : GoodIn wsX3_sing (wsV RX3 104 RX3 yX3_walks wsX3_walks) := goodIn_app (goodIn_of _ (by decide +kernel)) ggX3_sing_X3_walks
set_option maxRecDepth 20000 in
theorem ggX3_sing_X3_learnt : GoodIn wsX3_sing wsX3_learnt := goodIn_r _ [18, 1, 4, 19, 20, 21, 22, 8, 23, 24, 25, 26, 27, 5, 6, 7, 9, 10, 11, 12, 13, 14, 28, 29, 30, 31, 32, 33, 34, 35, 36, 37, 38, 39, 40, 41, 42, 43] (by decide +kernel) (by decide +kernel)
set_option maxRecDepth 20000 in
theorem gX3_sing_X3_learnt : GoodIn wsX3_sing (wsV RX3 138 RX3 yX3_learnt wsX3_learnt) := goodIn_app (goodIn_of _ (by decide +kernel)) ggX3_sing_X3_learnt
theorem dX3_sing_0 : decode cX3_sing 0 = .ok (.iconst 0, 1) := by decide +kernel
theorem dX3_sing_1 : decode cX3_sing 1 = .ok (.istore_n 1, 1) := by decide +kernel
theorem dX3_sing_2 : decode cX3_sing 2 = .ok (.iload_n 1, 1) := by decide +kernel
theorem dX3_sing_3 : decode cX3_sing 3 = .ok (.aload_n 0, 1) := by decide +kernel
theorem dX3_sing_4 : decode cX3_sing 4 = .ok (.getfield 58, 3) := by decide +kernel
theorem dX3_sing_7 : decode cX3_sing 7 = .ok (.if_icmp .ge 68, 3) := by decide +kernel
theorem dX3_sing_10 : decode cX3_sing 10 = .ok (.iconst 0, 1) := by decide +kernel
theorem dX3_sing_11 : decode cX3_sing 11 = .ok (.istore_n 2, 1) := by decide +kernel
theorem dX3_sing_12 : decode cX3_sing 12 = .ok (.iload_n 2, 1) := by decide +kernel
theorem dX3_sing_13 : decode cX3_sing 13 = .ok (.aload_n 0, 1) := by decide +kernel
theorem dX3_sing_14 : decode cX3_sing 14 = .ok (.getfield 61, 3) := by decide +kernel
theorem dX3_sing_17 : decode cX3_sing 17 = .ok (.if_icmp .ge 52, 3) := by decide +kernel
theorem dX3_sing_20 : decode cX3_sing 20 = .ok (.aload_n 0, 1) := by decide +kernel
theorem dX3_sing_21 : decode cX3_sing 21 = .ok (.getfield 31, 3) := by decide +kernel
theorem dX3_sing_24 : decode cX3_sing 24 = .ok (.bipush 6, 2) := by decide +kernel
theorem dX3_sing_26 : decode cX3_sing 26 = .ok (.iload_n 1, 1) := by decide +kernel
theorem dX3_sing_27 : decode cX3_sing 27 = .ok (.imul, 1) := by decide +kernel
theorem dX3_sing_28 : decode cX3_sing 28 = .ok (.iload_n 2, 1) := by decide +kernel
theorem dX3_sing_29 : decode cX3_sing 29 = .ok (.iadd, 1) := by decide +kernel
theorem dX3_sing_30 : decode cX3_sing 30 = .ok (.aload_n 0, 1) := by decide +kernel
theorem dX3_sing_31 : decode cX3_sing 31 = .ok (.iload_n 1, 1) := by decide +kernel
theorem dX3_sing_32 : decode cX3_sing 32 = .ok (.invokevirtual 104, 3) := by decide +kernel
theorem dX3_sing_35 : decode cX3_sing 35 = .ok (.ifCond .eq 26, 3) := by decide +kernel
theorem dX3_sing_38 : decode cX3_sing 38 = .ok (.aload_n 0, 1) := by decide +kernel
theorem dX3_sing_39 : decode cX3_sing 39 = .ok (.getfield 25, 3) := by decide +kernel
theorem dX3_sing_42 : decode cX3_sing 42 = .ok (.bipush 6, 2) := by decide +kernel
theorem dX3_sing_44 : decode cX3_sing 44 = .ok (.iload_n 1, 1) := by decide +kernel
theorem dX3_sing_45 : decode cX3_sing 45 = .ok (.imul, 1) := by decide +kernel
theorem dX3_sing_46 : decode cX3_sing 46 = .ok (.iload_n 2, 1) := by decide +kernel
theorem dX3_sing_47 : decode cX3_sing 47 = .ok (.iadd, 1) := by decide +kernel
theorem dX3_sing_48 : decode cX3_sing 48 = .ok (.iaload, 1) := by decide +kernel
theorem dX3_sing_49 : decode cX3_sing 49 = .ok (.ifCond .ne 12, 3) := by decide +kernel
theorem dX3_sing_52 : decode cX3_sing 52 = .ok (.aload_n 0, 1) := by decide +kernel
theorem dX3_sing_53 : decode cX3_sing 53 = .ok (.iload_n 1, 1) := by decide +kernel
theorem dX3_sing_54 : decode cX3_sing 54 = .ok (.iload_n 2, 1) := by decide +kernel
theorem dX3_sing_55 : decode cX3_sing 55 = .ok (.invokevirtual 138, 3) := by decide +kernel
theorem dX3_sing_58 : decode cX3_sing 58 = .ok (.goto 4, 3) := by decide +kernel
theorem dX3_sing_61 : decode cX3_sing 61 = .ok (.iconst 0, 1) := by decide +kernel
theorem dX3_sing_62 : decode cX3_sing 62 = .ok (.iastore, 1) := by decide +kernel
theorem dX3_sing_63 : decode cX3_sing 63 = .ok (.iinc 2 1, 3) := by decide +kernel
theorem dX3_sing_66 : decode cX3_sing 66 = .ok (.goto (-54), 3) := by decide +kernel
theorem dX3_sing_69 : decode cX3_sing 69 = .ok (.iinc 1 1, 3) := by decide +kernel
theorem dX3_sing_72 : decode cX3_sing 72 = .ok (.goto (-70), 3) := by decide +kernel
theorem dX3_sing_75 : decode cX3_sing 75 = .ok (.iconst 0, 1) := by decide +kernel
theorem dX3_sing_76 : decode cX3_sing 76 = .ok (.istore_n 1, 1) := by decide +kernel
theorem dX3_sing_77 : decode cX3_sing 77 = .ok (.iload_n 1, 1) := by decide +kernel
theorem dX3_sing_78 : decode cX3_sing 78 = .ok (.aload_n 0, 1) := by decide +kernel
theorem dX3_sing_79 : decode cX3_sing 79 = .ok (.getfield 25, 3) := by decide +kernel
theorem dX3_sing_82 : decode cX3_sing 82 = .ok (.arraylength, 1) := by decide +kernel
theorem dX3_sing_83 : decode cX3_sing 83 = .ok (.if_icmp .ge 30, 3) := by decide +kernel
theorem dX3_sing_86 : decode cX3_sing 86 = .ok (.aload_n 0, 1) := by decide +kernel
theorem dX3_sing_87 : decode cX3_sing 87 = .ok (.getfield 31, 3) := by decide +kernel
theorem dX3_sing_90 : decode cX3_sing 90 = .ok (.iload_n 1, 1) := by decide +kernel
theorem dX3_sing_91 : decode cX3_sing 91 = .ok (.iaload, 1) := by decide +kernel
theorem dX3_sing_92 : decode cX3_sing 92 = .ok (.ifCond .le 15, 3) := by decide +kernel
theorem dX3_sing_95 : decode cX3_sing 95 = .ok (.aload_n 0, 1) := by decide +kernel
theorem dX3_sing_96 : decode cX3_sing 96 = .ok (.getfield 25, 3) := by decide +kernel
theorem dX3_sing_99 : decode cX3_sing 99 = .ok (.iload_n 1, 1) := by decide +kernel
theorem dX3_sing_100 : decode cX3_sing 100 = .ok (.aload_n 0, 1) := by decide +kernel
theorem dX3_sing_101 : decode cX3_sing 101 = .ok (.getfield 31, 3) := by decide +kernel
theorem dX3_sing_104 : decode cX3_sing 104 = .ok (.iload_n 1, 1) := by decide +kernel
theorem dX3_sing_105 : decode cX3_sing 105 = .ok (.iaload, 1) := by decide +kernel
theorem dX3_sing_106 : decode cX3_sing 106 = .ok (.iastore, 1) := by decide +kernel
theorem dX3_sing_107 : decode cX3_sing 107 = .ok (.iinc 1 1, 3) := by decide +kernel
theorem dX3_sing_110 : decode cX3_sing 110 = .ok (.goto (-33), 3) := by decide +kernel
theorem dX3_sing_113 : decode cX3_sing 113 = .ok (.return_, 1) := by decide +kernel
set_option maxRecDepth 20000 in
theorem ggX3_go_X3_pe : GoodIn wsX3_go wsX3_pe := goodIn_r _ [12, 13, 45, 46, 47, 48, 49, 50, 51, 52, 53, 54, 55, 56, 57, 58, 59, 60] (by decide +kernel) (by decide +kernel)
set_option maxRecDepth 20000 in
theorem gX3_go_X3_pe : GoodIn wsX3_go (wsV RX3 89 RX3 yX3_pe wsX3_pe) := goodIn_app (goodIn_of _ (by decide +kernel)) ggX3_go_X3_pe
set_option maxRecDepth 20000 in
theorem ggX3_go_X3_walks : GoodIn wsX3_go wsX3_walks := goodIn_r _ [17, 8, 9, 10, 11, 12, 13, 45, 46, 47, 48, 49, 50, 51, 52, 53, 54, 55, 56, 57, 58, 59, 60] (by decide +kernel) (by decide +kernel)
set_option maxRecDepth 20000 in
theorem gX3_go_X3_walks : GoodIn wsX3_go (wsV RX3 104 RX3 yX3_walks wsX3_walks) := goodIn_app (goodIn_of _ (by decide +kernel)) ggX3_go_X3_walks
set_option maxRecDepth 20000 in
theorem ggX3_go_X3_stretchOf : GoodIn wsX3_go wsX3_stretchOf := goodIn_r _ [21, 22, 23, 24, 11, 25, 6, 45, 46, 47, 48, 49, 50, 51, 52, 53, 54, 55, 56, 57, 58, 59, 60] (by decide +kernel) (by decide +kernel)
set_option maxRecDepth 20000 in
theorem gX3_go_X3_stretchOf : GoodIn wsX3_go (wsV RX3 110 RX3 yX3_stretchOf wsX3_stretchOf) := goodIn_app (goodIn_of _ (by decide +kernel)) ggX3_go_X3_stretchOf
set_option maxRecDepth 20000 in
theorem ggX3_go_X3_ro : GoodIn wsX3_go wsX3_ro := goodIn_r _ [25, 6, 45, 46, 47, 48, 49, 50, 51, 52, 53, 54, 55, 56, 57, 58, 59, 60] (by decide +kernel) (by decide +kernel)
set_option maxRecDepth 20000 in
theorem gX3_go_X3_ro : GoodIn wsX3_go (wsV RX3 64 RX3 yX3_ro wsX3_ro) := goodIn_app (goodIn_of _ (by decide +kernel)) ggX3_go_X3_ro
set_option maxRecDepth 20000 in
theorem ggX3_go_X3_places : GoodIn wsX3_go wsX3_places := goodIn_r _ [29, 30, 22, 23, 24, 11, 25, 6, 45, 46, 47, 48, 49, 50, 51, 52, 53, 54, 55, 56, 57, 58, 59, 60] (by decide +kernel) (by decide +kernel)
set_option maxRecDepth 20000 in
theorem gX3_go_X3_places : GoodIn wsX3_go (wsV RX3 72 RX3 yX3_places wsX3_places) := goodIn_app (goodIn_of _ (by decide +kernel)) ggX3_go_X3_places
set_option maxRecDepth 20000 in
theorem ggX3_go_X3_at : GoodIn wsX3_go wsX3_at := goodIn_r _ [34, 35, 14, 15, 16, 11, 17, 8, 9, 10, 12, 13, 45, 46, 47, 48, 49, 50, 51, 52, 53, 54, 55, 56, 57, 58, 59, 60] (by decide +kernel) (by decide +kernel)
set_option maxRecDepth 20000 in
theorem gX3_go_X3_at : GoodIn wsX3_go (wsV RX3 141 RX3 yX3_at wsX3_at) := goodIn_app (goodIn_of _ (by decide +kernel)) ggX3_go_X3_at
set_option maxRecDepth 20000 in
theorem ggX3_go_X3_lets : GoodIn wsX3_go wsX3_lets := goodIn_r _ [39, 40, 22, 23, 24, 11, 25, 6, 45, 46, 47, 48, 49, 50, 51, 52, 53, 54, 55, 56, 57, 58, 59, 60] (by decide +kernel) (by decide +kernel)
set_option maxRecDepth 20000 in
theorem gX3_go_X3_lets : GoodIn wsX3_go (wsV RX3 107 RX3 yX3_lets wsX3_lets) := goodIn_app (goodIn_of _ (by decide +kernel)) ggX3_go_X3_lets
set_option maxRecDepth 20000 in
theorem ggX3_go_X3_set : GoodIn wsX3_go wsX3_set := goodIn_r _ [44, 13, 45, 46, 47, 48, 49, 50, 51, 52, 53, 54, 55, 56, 57, 58, 59, 60] (by decide +kernel) (by decide +kernel)
set_option maxRecDepth 20000 in
theorem gX3_go_X3_set : GoodIn wsX3_go (wsV RX3 97 RX3 yX3_set wsX3_set) := goodIn_app (goodIn_of _ (by decide +kernel)) ggX3_go_X3_set
theorem dX3_go_0 : decode cX3_go 0 = .ok (.aload_n 0, 1) := by decide +kernel
theorem dX3_go_1 : decode cX3_go 1 = .ok (.iload_n 1, 1) := by decide +kernel
theorem dX3_go_2 : decode cX3_go 2 = .ok (.iconst 3, 1) := by decide +kernel
theorem dX3_go_3 : decode cX3_go 3 = .ok (.invokevirtual 89, 3) := by decide +kernel
theorem dX3_go_6 : decode cX3_go 6 = .ok (.iconst 1, 1) := by decide +kernel
theorem dX3_go_7 : decode cX3_go 7 = .ok (.if_icmp .ne 12, 3) := by decide +kernel
theorem dX3_go_10 : decode cX3_go 10 = .ok (.aload_n 0, 1) := by decide +kernel
theorem dX3_go_11 : decode cX3_go 11 = .ok (.iload_n 1, 1) := by decide +kernel
theorem dX3_go_12 : decode cX3_go 12 = .ok (.iconst 0, 1) := by decide +kernel
theorem dX3_go_13 : decode cX3_go 13 = .ok (.invokevirtual 89, 3) := by decide +kernel
theorem dX3_go_16 : decode cX3_go 16 = .ok (.goto 15, 3) := by decide +kernel
theorem dX3_go_19 : decode cX3_go 19 = .ok (.iconst 1, 1) := by decide +kernel
theorem dX3_go_20 : decode cX3_go 20 = .ok (.aload_n 0, 1) := by decide +kernel
theorem dX3_go_21 : decode cX3_go 21 = .ok (.iload_n 1, 1) := by decide +kernel
theorem dX3_go_22 : decode cX3_go 22 = .ok (.iconst 0, 1) := by decide +kernel
theorem dX3_go_23 : decode cX3_go 23 = .ok (.invokevirtual 89, 3) := by decide +kernel
theorem dX3_go_26 : decode cX3_go 26 = .ok (.iconst 1, 1) := by decide +kernel
theorem dX3_go_27 : decode cX3_go 27 = .ok (.isub, 1) := by decide +kernel
theorem dX3_go_28 : decode cX3_go 28 = .ok (.invokestatic 135, 3) := by decide +kernel
theorem dX3_go_31 : decode cX3_go 31 = .ok (.istore_n 2, 1) := by decide +kernel
theorem dX3_go_32 : decode cX3_go 32 = .ok (.iload_n 2, 1) := by decide +kernel
theorem dX3_go_33 : decode cX3_go 33 = .ok (.ifCond .le 207, 3) := by decide +kernel
theorem dX3_go_36 : decode cX3_go 36 = .ok (.aload_n 0, 1) := by decide +kernel
theorem dX3_go_37 : decode cX3_go 37 = .ok (.iload_n 1, 1) := by decide +kernel
theorem dX3_go_38 : decode cX3_go 38 = .ok (.invokevirtual 104, 3) := by decide +kernel
theorem dX3_go_41 : decode cX3_go 41 = .ok (.ifCond .eq 199, 3) := by decide +kernel
theorem dX3_go_44 : decode cX3_go 44 = .ok (.aload_n 0, 1) := by decide +kernel
theorem dX3_go_45 : decode cX3_go 45 = .ok (.iload_n 1, 1) := by decide +kernel
theorem dX3_go_46 : decode cX3_go 46 = .ok (.iconst 5, 1) := by decide +kernel
theorem dX3_go_47 : decode cX3_go 47 = .ok (.invokevirtual 89, 3) := by decide +kernel
theorem dX3_go_50 : decode cX3_go 50 = .ok (.istore_n 3, 1) := by decide +kernel
theorem dX3_go_51 : decode cX3_go 51 = .ok (.aload_n 0, 1) := by decide +kernel
theorem dX3_go_52 : decode cX3_go 52 = .ok (.iload_n 3, 1) := by decide +kernel
theorem dX3_go_53 : decode cX3_go 53 = .ok (.invokevirtual 110, 3) := by decide +kernel
theorem dX3_go_56 : decode cX3_go 56 = .ok (.istore 4, 2) := by decide +kernel
theorem dX3_go_58 : decode cX3_go 58 = .ok (.iload_n 3, 1) := by decide +kernel
theorem dX3_go_59 : decode cX3_go 59 = .ok (.aload_n 0, 1) := by decide +kernel
theorem dX3_go_60 : decode cX3_go 60 = .ok (.iload 4, 2) := by decide +kernel
theorem dX3_go_62 : decode cX3_go 62 = .ok (.iconst 2, 1) := by decide +kernel
theorem dX3_go_63 : decode cX3_go 63 = .ok (.invokevirtual 64, 3) := by decide +kernel
theorem dX3_go_66 : decode cX3_go 66 = .ok (.aload_n 0, 1) := by decide +kernel
theorem dX3_go_67 : decode cX3_go 67 = .ok (.iload 4, 2) := by decide +kernel
theorem dX3_go_69 : decode cX3_go 69 = .ok (.iconst 0, 1) := by decide +kernel
theorem dX3_go_70 : decode cX3_go 70 = .ok (.invokevirtual 64, 3) := by decide +kernel
theorem dX3_go_73 : decode cX3_go 73 = .ok (.iadd, 1) := by decide +kernel
theorem dX3_go_74 : decode cX3_go 74 = .ok (.iconst 1, 1) := by decide +kernel
theorem dX3_go_75 : decode cX3_go 75 = .ok (.isub, 1) := by decide +kernel
theorem dX3_go_76 : decode cX3_go 76 = .ok (.if_icmp .ne 7, 3) := by decide +kernel
theorem dX3_go_79 : decode cX3_go 79 = .ok (.iconst 1, 1) := by decide +kernel
theorem dX3_go_80 : decode cX3_go 80 = .ok (.goto 4, 3) := by decide +kernel
theorem dX3_go_83 : decode cX3_go 83 = .ok (.iconst 0, 1) := by decide +kernel
theorem dX3_go_84 : decode cX3_go 84 = .ok (.istore 5, 2) := by decide +kernel
theorem dX3_go_86 : decode cX3_go 86 = .ok (.iload_n 3, 1) := by decide +kernel
theorem dX3_go_87 : decode cX3_go 87 = .ok (.aload_n 0, 1) := by decide +kernel
theorem dX3_go_88 : decode cX3_go 88 = .ok (.invokevirtual 72, 3) := by decide +kernel
theorem dX3_go_91 : decode cX3_go 91 = .ok (.iconst 1, 1) := by decide +kernel
theorem dX3_go_92 : decode cX3_go 92 = .ok (.isub, 1) := by decide +kernel
theorem dX3_go_93 : decode cX3_go 93 = .ok (.if_icmp .ne 7, 3) := by decide +kernel
theorem dX3_go_96 : decode cX3_go 96 = .ok (.iconst 1, 1) := by decide +kernel
theorem dX3_go_97 : decode cX3_go 97 = .ok (.goto 4, 3) := by decide +kernel
theorem dX3_go_100 : decode cX3_go 100 = .ok (.iconst 0, 1) := by decide +kernel
theorem dX3_go_101 : decode cX3_go 101 = .ok (.istore 6, 2) := by decide +kernel
theorem dX3_go_103 : decode cX3_go 103 = .ok (.iload 6, 2) := by decide +kernel
theorem dX3_go_105 : decode cX3_go 105 = .ok (.ifCond .ne 15, 3) := by decide +kernel
theorem dX3_go_108 : decode cX3_go 108 = .ok (.aload_n 0, 1) := by decide +kernel
theorem dX3_go_109 : decode cX3_go 109 = .ok (.iload_n 3, 1) := by decide +kernel
theorem dX3_go_110 : decode cX3_go 110 = .ok (.iconst 1, 1) := by decide +kernel
theorem dX3_go_111 : decode cX3_go 111 = .ok (.iadd, 1) := by decide +kernel
theorem dX3_go_112 : decode cX3_go 112 = .ok (.invokevirtual 141, 3) := by decide +kernel
theorem dX3_go_115 : decode cX3_go 115 = .ok (.iconst 1, 1) := by decide +kernel
theorem dX3_go_116 : decode cX3_go 116 = .ok (.if_icmp .le 4, 3) := by decide +kernel
theorem dX3_go_119 : decode cX3_go 119 = .ok (.return_, 1) := by decide +kernel
theorem dX3_go_120 : decode cX3_go 120 = .ok (.iload 5, 2) := by decide +kernel
theorem dX3_go_122 : decode cX3_go 122 = .ok (.ifCond .eq 35, 3) := by decide +kernel
theorem dX3_go_125 : decode cX3_go 125 = .ok (.aload_n 0, 1) := by decide +kernel
theorem dX3_go_126 : decode cX3_go 126 = .ok (.getfield 38, 3) := by decide +kernel
theorem dX3_go_129 : decode cX3_go 129 = .ok (.iload 4, 2) := by decide +kernel
theorem dX3_go_131 : decode cX3_go 131 = .ok (.iaload, 1) := by decide +kernel
theorem dX3_go_132 : decode cX3_go 132 = .ok (.aload_n 0, 1) := by decide +kernel
theorem dX3_go_133 : decode cX3_go 133 = .ok (.iload 4, 2) := by decide +kernel
theorem dX3_go_135 : decode cX3_go 135 = .ok (.invokevirtual 107, 3) := by decide +kernel
theorem dX3_go_138 : decode cX3_go 138 = .ok (.if_icmp .ne 19, 3) := by decide +kernel
theorem dX3_go_141 : decode cX3_go 141 = .ok (.aload_n 0, 1) := by decide +kernel
theorem dX3_go_142 : decode cX3_go 142 = .ok (.getfield 9, 3) := by decide +kernel
theorem dX3_go_145 : decode cX3_go 145 = .ok (.iconst 5, 1) := by decide +kernel
theorem dX3_go_146 : decode cX3_go 146 = .ok (.iload 4, 2) := by decide +kernel
theorem dX3_go_148 : decode cX3_go 148 = .ok (.imul, 1) := by decide +kernel
theorem dX3_go_149 : decode cX3_go 149 = .ok (.iconst 4, 1) := by decide +kernel
theorem dX3_go_150 : decode cX3_go 150 = .ok (.iadd, 1) := by decide +kernel
theorem dX3_go_151 : decode cX3_go 151 = .ok (.dup2, 1) := by decide +kernel
theorem dX3_go_152 : decode cX3_go 152 = .ok (.iaload, 1) := by decide +kernel
theorem dX3_go_153 : decode cX3_go 153 = .ok (.iconst 1, 1) := by decide +kernel
theorem dX3_go_154 : decode cX3_go 154 = .ok (.iadd, 1) := by decide +kernel
theorem dX3_go_155 : decode cX3_go 155 = .ok (.iastore, 1) := by decide +kernel
theorem dX3_go_156 : decode cX3_go 156 = .ok (.return_, 1) := by decide +kernel
theorem dX3_go_157 : decode cX3_go 157 = .ok (.iload 5, 2) := by decide +kernel
theorem dX3_go_159 : decode cX3_go 159 = .ok (.ifCond .eq 29, 3) := by decide +kernel
theorem dX3_go_162 : decode cX3_go 162 = .ok (.aload_n 0, 1) := by decide +kernel
theorem dX3_go_163 : decode cX3_go 163 = .ok (.getfield 38, 3) := by decide +kernel
theorem dX3_go_166 : decode cX3_go 166 = .ok (.iload 4, 2) := by decide +kernel
theorem dX3_go_168 : decode cX3_go 168 = .ok (.dup2, 1) := by decide +kernel
theorem dX3_go_169 : decode cX3_go 169 = .ok (.iaload, 1) := by decide +kernel
theorem dX3_go_170 : decode cX3_go 170 = .ok (.iconst 1, 1) := by decide +kernel
theorem dX3_go_171 : decode cX3_go 171 = .ok (.iadd, 1) := by decide +kernel
theorem dX3_go_172 : decode cX3_go 172 = .ok (.iastore, 1) := by decide +kernel
theorem dX3_go_173 : decode cX3_go 173 = .ok (.aload_n 0, 1) := by decide +kernel
theorem dX3_go_174 : decode cX3_go 174 = .ok (.getfield 9, 3) := by decide +kernel
theorem dX3_go_177 : decode cX3_go 177 = .ok (.iconst 5, 1) := by decide +kernel
theorem dX3_go_178 : decode cX3_go 178 = .ok (.iload 4, 2) := by decide +kernel
theorem dX3_go_180 : decode cX3_go 180 = .ok (.imul, 1) := by decide +kernel
theorem dX3_go_181 : decode cX3_go 181 = .ok (.iconst 3, 1) := by decide +kernel
theorem dX3_go_182 : decode cX3_go 182 = .ok (.iadd, 1) := by decide +kernel
theorem dX3_go_183 : decode cX3_go 183 = .ok (.dup2, 1) := by decide +kernel
theorem dX3_go_184 : decode cX3_go 184 = .ok (.iaload, 1) := by decide +kernel
theorem dX3_go_185 : decode cX3_go 185 = .ok (.iconst 1, 1) := by decide +kernel
theorem dX3_go_186 : decode cX3_go 186 = .ok (.iadd, 1) := by decide +kernel
theorem dX3_go_187 : decode cX3_go 187 = .ok (.iastore, 1) := by decide +kernel
theorem dX3_go_188 : decode cX3_go 188 = .ok (.aload_n 0, 1) := by decide +kernel
theorem dX3_go_189 : decode cX3_go 189 = .ok (.iload_n 1, 1) := by decide +kernel
theorem dX3_go_190 : decode cX3_go 190 = .ok (.iconst 5, 1) := by decide +kernel
theorem dX3_go_191 : decode cX3_go 191 = .ok (.iload 6, 2) := by decide +kernel
theorem dX3_go_193 : decode cX3_go 193 = .ok (.ifCond .eq 7, 3) := by decide +kernel
theorem dX3_go_196 : decode cX3_go 196 = .ok (.iconst (-1), 1) := by decide +kernel
theorem dX3_go_197 : decode cX3_go 197 = .ok (.goto 6, 3) := by decide +kernel
theorem dX3_go_200 : decode cX3_go 200 = .ok (.iload_n 3, 1) := by decide +kernel
theorem dX3_go_201 : decode cX3_go 201 = .ok (.iconst 1, 1) := by decide +kernel
theorem dX3_go_202 : decode cX3_go 202 = .ok (.iadd, 1) := by decide +kernel
theorem dX3_go_203 : decode cX3_go 203 = .ok (.invokevirtual 97, 3) := by decide +kernel
theorem dX3_go_206 : decode cX3_go 206 = .ok (.iload 6, 2) := by decide +kernel
theorem dX3_go_208 : decode cX3_go 208 = .ok (.ifCond .ne 6, 3) := by decide +kernel
theorem dX3_go_211 : decode cX3_go 211 = .ok (.goto 23, 3) := by decide +kernel
theorem dX3_go_214 : decode cX3_go 214 = .ok (.aload_n 0, 1) := by decide +kernel
theorem dX3_go_215 : decode cX3_go 215 = .ok (.iload_n 1, 1) := by decide +kernel
theorem dX3_go_216 : decode cX3_go 216 = .ok (.iconst 4, 1) := by decide +kernel
theorem dX3_go_217 : decode cX3_go 217 = .ok (.iconst 2, 1) := by decide +kernel
theorem dX3_go_218 : decode cX3_go 218 = .ok (.invokevirtual 97, 3) := by decide +kernel
theorem dX3_go_221 : decode cX3_go 221 = .ok (.aload_n 0, 1) := by decide +kernel
theorem dX3_go_222 : decode cX3_go 222 = .ok (.iload_n 1, 1) := by decide +kernel
theorem dX3_go_223 : decode cX3_go 223 = .ok (.bipush 7, 2) := by decide +kernel
theorem dX3_go_225 : decode cX3_go 225 = .ok (.aload_n 0, 1) := by decide +kernel
theorem dX3_go_226 : decode cX3_go 226 = .ok (.getfield 28, 3) := by decide +kernel
theorem dX3_go_229 : decode cX3_go 229 = .ok (.iconst 0, 1) := by decide +kernel
theorem dX3_go_230 : decode cX3_go 230 = .ok (.iaload, 1) := by decide +kernel
theorem dX3_go_231 : decode cX3_go 231 = .ok (.invokevirtual 97, 3) := by decide +kernel
theorem dX3_go_234 : decode cX3_go 234 = .ok (.iinc 2 (-1), 3) := by decide +kernel
theorem dX3_go_237 : decode cX3_go 237 = .ok (.goto (-205), 3) := by decide +kernel
theorem dX3_go_240 : decode cX3_go 240 = .ok (.return_, 1) := by decide +kernel
set_option maxRecDepth 20000 in
theorem ggX3_stepOn_X3_inState : GoodIn wsX3_stepOn wsX3_inState := goodIn_r _ [11, 4, 12, 13, 14, 10, 15, 16, 84, 85, 86, 87, 88, 89, 90, 91, 92, 93, 94, 95, 96, 97, 98, 99] (by decide +kernel) (by decide +kernel)
set_option maxRecDepth 20000 in
theorem gX3_stepOn_X3_inState : GoodIn wsX3_stepOn (wsV RX3 144 RX3 yX3_inState wsX3_inState) := goodIn_app (goodIn_of _ (by decide +kernel)) ggX3_stepOn_X3_inState
set_option maxRecDepth 20000 in
theorem ggX3_stepOn_X3_burn : GoodIn wsX3_stepOn wsX3_burn := goodIn_r _ [20, 4, 21, 22, 23, 24, 25, 12, 13, 14, 10, 15, 16, 26, 27, 28, 29, 30, 31, 32, 33, 34, 35, 36, 37, 38, 39, 40, 41, 42, 43, 44, 84, 85, 86, 87, 88, 89, 90, 91, 92, 93, 94, 95, 96, 97, 98, 99] (by decide +kernel) (by decide +kernel)
set_option maxRecDepth 20000 in
theorem gX3_stepOn_X3_burn : GoodIn wsX3_stepOn (wsV RX3 147 RX3 yX3_burn wsX3_burn) := goodIn_app (goodIn_of _ (by decide +kernel)) ggX3_stepOn_X3_burn
set_option maxRecDepth 20000 in
theorem ggX3_stepOn_X3_sing : GoodIn wsX3_stepOn wsX3_sing := goodIn_r _ [48, 4, 49, 50, 51, 30, 31, 32, 10, 33, 12, 13, 14, 15, 16, 52, 53, 54, 55, 56, 38, 39, 40, 41, 42, 43, 23, 44, 84, 85, 86, 87, 88, 89, 90, 91, 92, 93, 94, 95, 96, 97, 98, 99] (by decide +kernel) (by decide +kernel)
set_option maxRecDepth 20000 in
theorem gX3_stepOn_X3_sing : GoodIn wsX3_stepOn (wsV RX3 151 RX3 yX3_sing wsX3_sing) := goodIn_app (goodIn_of _ (by decide +kernel)) ggX3_stepOn_X3_sing
set_option maxRecDepth 20000 in
theorem ggX3_stepOn_X3_walks : GoodIn wsX3_stepOn wsX3_walks := goodIn_r _ [33, 12, 13, 14, 10, 15, 16, 84, 85, 86, 87, 88, 89, 90, 91, 92, 93, 94, 95, 96, 97, 98, 99] (by decide +kernel) (by decide +kernel)
set_option maxRecDepth 20000 in
theorem gX3_stepOn_X3_walks : GoodIn wsX3_stepOn (wsV RX3 104 RX3 yX3_walks wsX3_walks) := goodIn_app (goodIn_of _ (by decide +kernel)) ggX3_stepOn_X3_walks
set_option maxRecDepth 20000 in
theorem ggX3_stepOn_X3_pe : GoodIn wsX3_stepOn wsX3_pe := goodIn_r _ [15, 16, 84, 85, 86, 87, 88, 89, 90, 91, 92, 93, 94, 95, 96, 97, 98, 99] (by decide +kernel) (by decide +kernel)
set_option maxRecDepth 20000 in
theorem gX3_stepOn_X3_pe : GoodIn wsX3_stepOn (wsV RX3 89 RX3 yX3_pe wsX3_pe) := goodIn_app (goodIn_of _ (by decide +kernel)) ggX3_stepOn_X3_pe
set_option maxRecDepth 20000 in
theorem ggX3_stepOn_X3_set : GoodIn wsX3_stepOn wsX3_set := goodIn_r _ [29, 16, 84, 85, 86, 87, 88, 89, 90, 91, 92, 93, 94, 95, 96, 97, 98, 99] (by decide +kernel) (by decide +kernel)
set_option maxRecDepth 20000 in
theorem gX3_stepOn_X3_set : GoodIn wsX3_stepOn (wsV RX3 97 RX3 yX3_set wsX3_set) := goodIn_app (goodIn_of _ (by decide +kernel)) ggX3_stepOn_X3_set
set_option maxRecDepth 20000 in
theorem ggX3_stepOn_X3_go : GoodIn wsX3_stepOn wsX3_go := goodIn_r _ [60, 21, 22, 23, 24, 3, 61, 2, 12, 13, 14, 10, 15, 16, 30, 31, 32, 33, 62, 63, 64, 65, 66, 67, 68, 69, 70, 71, 72, 73, 74, 75, 76, 77, 78, 4, 79, 80, 81, 82, 83, 26, 27, 28, 29, 84, 85, 86, 87, 88, 89, 90, 91, 92, 93, 94, 95, 96, 97, 98, 99] (by decide +kernel) (by decide +kernel)
set_option maxRecDepth 20000 in
theorem gX3_stepOn_X3_go : GoodIn wsX3_stepOn (wsV RX3 154 RX3 yX3_go wsX3_go) := goodIn_app (goodIn_of _ (by decide +kernel)) ggX3_stepOn_X3_go
set_option maxRecDepth 20000 in
theorem ggX3_stepOn_X3_at : GoodIn wsX3_stepOn wsX3_at := goodIn_r _ [78, 4, 30, 31, 32, 10, 33, 12, 13, 14, 15, 16, 84, 85, 86, 87, 88, 89, 90, 91, 92, 93, 94, 95, 96, 97, 98, 99] (by decide +kernel) (by decide +kernel)
set_option maxRecDepth 20000 in
theorem gX3_stepOn_X3_at : GoodIn wsX3_stepOn (wsV RX3 141 RX3 yX3_at wsX3_at) := goodIn_app (goodIn_of _ (by decide +kernel)) ggX3_stepOn_X3_at
theorem dX3_stepOn_0 : decode cX3_stepOn 0 = .ok (.aload_n 0, 1) := by decide +kernel
theorem dX3_stepOn_1 : decode cX3_stepOn 1 = .ok (.iconst 2, 1) := by decide +kernel
theorem dX3_stepOn_2 : decode cX3_stepOn 2 = .ok (.invokevirtual 144, 3) := by decide +kernel
theorem dX3_stepOn_5 : decode cX3_stepOn 5 = .ok (.istore_n 1, 1) := by decide +kernel
theorem dX3_stepOn_6 : decode cX3_stepOn 6 = .ok (.aload_n 0, 1) := by decide +kernel
theorem dX3_stepOn_7 : decode cX3_stepOn 7 = .ok (.aload_n 0, 1) := by decide +kernel
theorem dX3_stepOn_8 : decode cX3_stepOn 8 = .ok (.getfield 16, 3) := by decide +kernel
theorem dX3_stepOn_11 : decode cX3_stepOn 11 = .ok (.aload_n 0, 1) := by decide +kernel
theorem dX3_stepOn_12 : decode cX3_stepOn 12 = .ok (.getfield 28, 3) := by decide +kernel
theorem dX3_stepOn_15 : decode cX3_stepOn 15 = .ok (.iconst 0, 1) := by decide +kernel
theorem dX3_stepOn_16 : decode cX3_stepOn 16 = .ok (.iaload, 1) := by decide +kernel
theorem dX3_stepOn_17 : decode cX3_stepOn 17 = .ok (.bipush 10, 2) := by decide +kernel
theorem dX3_stepOn_19 : decode cX3_stepOn 19 = .ok (.irem, 1) := by decide +kernel
theorem dX3_stepOn_20 : decode cX3_stepOn 20 = .ok (.iaload, 1) := by decide +kernel
theorem dX3_stepOn_21 : decode cX3_stepOn 21 = .ok (.invokevirtual 147, 3) := by decide +kernel
theorem dX3_stepOn_24 : decode cX3_stepOn 24 = .ok (.aload_n 0, 1) := by decide +kernel
theorem dX3_stepOn_25 : decode cX3_stepOn 25 = .ok (.invokevirtual 151, 3) := by decide +kernel
theorem dX3_stepOn_28 : decode cX3_stepOn 28 = .ok (.iconst 0, 1) := by decide +kernel
theorem dX3_stepOn_29 : decode cX3_stepOn 29 = .ok (.istore_n 2, 1) := by decide +kernel
theorem dX3_stepOn_30 : decode cX3_stepOn 30 = .ok (.iload_n 2, 1) := by decide +kernel
theorem dX3_stepOn_31 : decode cX3_stepOn 31 = .ok (.bipush 10, 2) := by decide +kernel
theorem dX3_stepOn_33 : decode cX3_stepOn 33 = .ok (.if_icmp .ge 16, 3) := by decide +kernel
theorem dX3_stepOn_36 : decode cX3_stepOn 36 = .ok (.aload_n 0, 1) := by decide +kernel
theorem dX3_stepOn_37 : decode cX3_stepOn 37 = .ok (.getfield 38, 3) := by decide +kernel
theorem dX3_stepOn_40 : decode cX3_stepOn 40 = .ok (.iload_n 2, 1) := by decide +kernel
theorem dX3_stepOn_41 : decode cX3_stepOn 41 = .ok (.iconst 0, 1) := by decide +kernel
theorem dX3_stepOn_42 : decode cX3_stepOn 42 = .ok (.iastore, 1) := by decide +kernel
theorem dX3_stepOn_43 : decode cX3_stepOn 43 = .ok (.iinc 2 1, 3) := by decide +kernel
theorem dX3_stepOn_46 : decode cX3_stepOn 46 = .ok (.goto (-16), 3) := by decide +kernel
theorem dX3_stepOn_49 : decode cX3_stepOn 49 = .ok (.iconst 0, 1) := by decide +kernel
theorem dX3_stepOn_50 : decode cX3_stepOn 50 = .ok (.istore_n 2, 1) := by decide +kernel
theorem dX3_stepOn_51 : decode cX3_stepOn 51 = .ok (.iload_n 2, 1) := by decide +kernel
theorem dX3_stepOn_52 : decode cX3_stepOn 52 = .ok (.aload_n 0, 1) := by decide +kernel
theorem dX3_stepOn_53 : decode cX3_stepOn 53 = .ok (.getfield 58, 3) := by decide +kernel
theorem dX3_stepOn_56 : decode cX3_stepOn 56 = .ok (.if_icmp .ge 73, 3) := by decide +kernel
theorem dX3_stepOn_59 : decode cX3_stepOn 59 = .ok (.aload_n 0, 1) := by decide +kernel
theorem dX3_stepOn_60 : decode cX3_stepOn 60 = .ok (.getfield 41, 3) := by decide +kernel
theorem dX3_stepOn_63 : decode cX3_stepOn 63 = .ok (.iload_n 2, 1) := by decide +kernel
theorem dX3_stepOn_64 : decode cX3_stepOn 64 = .ok (.aload_n 0, 1) := by decide +kernel
theorem dX3_stepOn_65 : decode cX3_stepOn 65 = .ok (.iload_n 2, 1) := by decide +kernel
theorem dX3_stepOn_66 : decode cX3_stepOn 66 = .ok (.invokevirtual 104, 3) := by decide +kernel
theorem dX3_stepOn_69 : decode cX3_stepOn 69 = .ok (.ifCond .ne 7, 3) := by decide +kernel
theorem dX3_stepOn_72 : decode cX3_stepOn 72 = .ok (.iconst 1, 1) := by decide +kernel
theorem dX3_stepOn_73 : decode cX3_stepOn 73 = .ok (.goto 4, 3) := by decide +kernel
theorem dX3_stepOn_76 : decode cX3_stepOn 76 = .ok (.iconst 0, 1) := by decide +kernel
theorem dX3_stepOn_77 : decode cX3_stepOn 77 = .ok (.bastore, 1) := by decide +kernel
theorem dX3_stepOn_78 : decode cX3_stepOn 78 = .ok (.aload_n 0, 1) := by decide +kernel
theorem dX3_stepOn_79 : decode cX3_stepOn 79 = .ok (.getfield 44, 3) := by decide +kernel
theorem dX3_stepOn_82 : decode cX3_stepOn 82 = .ok (.iload_n 2, 1) := by decide +kernel
theorem dX3_stepOn_83 : decode cX3_stepOn 83 = .ok (.aload_n 0, 1) := by decide +kernel
theorem dX3_stepOn_84 : decode cX3_stepOn 84 = .ok (.iload_n 2, 1) := by decide +kernel
theorem dX3_stepOn_85 : decode cX3_stepOn 85 = .ok (.iconst 5, 1) := by decide +kernel
theorem dX3_stepOn_86 : decode cX3_stepOn 86 = .ok (.invokevirtual 89, 3) := by decide +kernel
theorem dX3_stepOn_89 : decode cX3_stepOn 89 = .ok (.iastore, 1) := by decide +kernel
theorem dX3_stepOn_90 : decode cX3_stepOn 90 = .ok (.aload_n 0, 1) := by decide +kernel
theorem dX3_stepOn_91 : decode cX3_stepOn 91 = .ok (.iload_n 2, 1) := by decide +kernel
theorem dX3_stepOn_92 : decode cX3_stepOn 92 = .ok (.invokevirtual 104, 3) := by decide +kernel
theorem dX3_stepOn_95 : decode cX3_stepOn 95 = .ok (.ifCond .eq 28, 3) := by decide +kernel
theorem dX3_stepOn_98 : decode cX3_stepOn 98 = .ok (.aload_n 0, 1) := by decide +kernel
theorem dX3_stepOn_99 : decode cX3_stepOn 99 = .ok (.iload_n 2, 1) := by decide +kernel
theorem dX3_stepOn_100 : decode cX3_stepOn 100 = .ok (.iconst 3, 1) := by decide +kernel
theorem dX3_stepOn_101 : decode cX3_stepOn 101 = .ok (.invokevirtual 89, 3) := by decide +kernel
theorem dX3_stepOn_104 : decode cX3_stepOn 104 = .ok (.ifCond .ne 19, 3) := by decide +kernel
theorem dX3_stepOn_107 : decode cX3_stepOn 107 = .ok (.aload_n 0, 1) := by decide +kernel
theorem dX3_stepOn_108 : decode cX3_stepOn 108 = .ok (.iload_n 2, 1) := by decide +kernel
theorem dX3_stepOn_109 : decode cX3_stepOn 109 = .ok (.bipush 6, 2) := by decide +kernel
theorem dX3_stepOn_111 : decode cX3_stepOn 111 = .ok (.aload_n 0, 1) := by decide +kernel
theorem dX3_stepOn_112 : decode cX3_stepOn 112 = .ok (.iload_n 2, 1) := by decide +kernel
theorem dX3_stepOn_113 : decode cX3_stepOn 113 = .ok (.bipush 6, 2) := by decide +kernel
theorem dX3_stepOn_115 : decode cX3_stepOn 115 = .ok (.invokevirtual 89, 3) := by decide +kernel
theorem dX3_stepOn_118 : decode cX3_stepOn 118 = .ok (.iconst 1, 1) := by decide +kernel
theorem dX3_stepOn_119 : decode cX3_stepOn 119 = .ok (.iadd, 1) := by decide +kernel
theorem dX3_stepOn_120 : decode cX3_stepOn 120 = .ok (.invokevirtual 97, 3) := by decide +kernel
theorem dX3_stepOn_123 : decode cX3_stepOn 123 = .ok (.iinc 2 1, 3) := by decide +kernel
theorem dX3_stepOn_126 : decode cX3_stepOn 126 = .ok (.goto (-75), 3) := by decide +kernel
theorem dX3_stepOn_129 : decode cX3_stepOn 129 = .ok (.iconst 0, 1) := by decide +kernel
theorem dX3_stepOn_130 : decode cX3_stepOn 130 = .ok (.istore_n 2, 1) := by decide +kernel
theorem dX3_stepOn_131 : decode cX3_stepOn 131 = .ok (.iload_n 2, 1) := by decide +kernel
theorem dX3_stepOn_132 : decode cX3_stepOn 132 = .ok (.aload_n 0, 1) := by decide +kernel
theorem dX3_stepOn_133 : decode cX3_stepOn 133 = .ok (.getfield 58, 3) := by decide +kernel
theorem dX3_stepOn_136 : decode cX3_stepOn 136 = .ok (.if_icmp .ge 83, 3) := by decide +kernel
theorem dX3_stepOn_139 : decode cX3_stepOn 139 = .ok (.iconst (-1), 1) := by decide +kernel
theorem dX3_stepOn_140 : decode cX3_stepOn 140 = .ok (.istore_n 3, 1) := by decide +kernel
theorem dX3_stepOn_141 : decode cX3_stepOn 141 = .ok (.iconst 0, 1) := by decide +kernel
theorem dX3_stepOn_142 : decode cX3_stepOn 142 = .ok (.istore 4, 2) := by decide +kernel
theorem dX3_stepOn_144 : decode cX3_stepOn 144 = .ok (.iload 4, 2) := by decide +kernel
theorem dX3_stepOn_146 : decode cX3_stepOn 146 = .ok (.aload_n 0, 1) := by decide +kernel
theorem dX3_stepOn_147 : decode cX3_stepOn 147 = .ok (.getfield 58, 3) := by decide +kernel
theorem dX3_stepOn_150 : decode cX3_stepOn 150 = .ok (.if_icmp .ge 43, 3) := by decide +kernel
theorem dX3_stepOn_153 : decode cX3_stepOn 153 = .ok (.aload_n 0, 1) := by decide +kernel
theorem dX3_stepOn_154 : decode cX3_stepOn 154 = .ok (.getfield 41, 3) := by decide +kernel
theorem dX3_stepOn_157 : decode cX3_stepOn 157 = .ok (.iload 4, 2) := by decide +kernel
theorem dX3_stepOn_159 : decode cX3_stepOn 159 = .ok (.baload, 1) := by decide +kernel
theorem dX3_stepOn_160 : decode cX3_stepOn 160 = .ok (.ifCond .ne 27, 3) := by decide +kernel
theorem dX3_stepOn_163 : decode cX3_stepOn 163 = .ok (.iload_n 3, 1) := by decide +kernel
theorem dX3_stepOn_164 : decode cX3_stepOn 164 = .ok (.iconst (-1), 1) := by decide +kernel
theorem dX3_stepOn_165 : decode cX3_stepOn 165 = .ok (.if_icmp .eq 19, 3) := by decide +kernel
theorem dX3_stepOn_168 : decode cX3_stepOn 168 = .ok (.aload_n 0, 1) := by decide +kernel
theorem dX3_stepOn_169 : decode cX3_stepOn 169 = .ok (.getfield 44, 3) := by decide +kernel
theorem dX3_stepOn_172 : decode cX3_stepOn 172 = .ok (.iload 4, 2) := by decide +kernel
theorem dX3_stepOn_174 : decode cX3_stepOn 174 = .ok (.iaload, 1) := by decide +kernel
theorem dX3_stepOn_175 : decode cX3_stepOn 175 = .ok (.aload_n 0, 1) := by decide +kernel
theorem dX3_stepOn_176 : decode cX3_stepOn 176 = .ok (.getfield 44, 3) := by decide +kernel
theorem dX3_stepOn_179 : decode cX3_stepOn 179 = .ok (.iload_n 3, 1) := by decide +kernel
theorem dX3_stepOn_180 : decode cX3_stepOn 180 = .ok (.iaload, 1) := by decide +kernel
theorem dX3_stepOn_181 : decode cX3_stepOn 181 = .ok (.if_icmp .le 6, 3) := by decide +kernel
theorem dX3_stepOn_184 : decode cX3_stepOn 184 = .ok (.iload 4, 2) := by decide +kernel
theorem dX3_stepOn_186 : decode cX3_stepOn 186 = .ok (.istore_n 3, 1) := by decide +kernel
theorem dX3_stepOn_187 : decode cX3_stepOn 187 = .ok (.iinc 4 1, 3) := by decide +kernel
theorem dX3_stepOn_190 : decode cX3_stepOn 190 = .ok (.goto (-46), 3) := by decide +kernel
theorem dX3_stepOn_193 : decode cX3_stepOn 193 = .ok (.iload_n 3, 1) := by decide +kernel
theorem dX3_stepOn_194 : decode cX3_stepOn 194 = .ok (.iconst (-1), 1) := by decide +kernel
theorem dX3_stepOn_195 : decode cX3_stepOn 195 = .ok (.if_icmp .ne 6, 3) := by decide +kernel
theorem dX3_stepOn_198 : decode cX3_stepOn 198 = .ok (.goto 21, 3) := by decide +kernel
theorem dX3_stepOn_201 : decode cX3_stepOn 201 = .ok (.aload_n 0, 1) := by decide +kernel
theorem dX3_stepOn_202 : decode cX3_stepOn 202 = .ok (.getfield 41, 3) := by decide +kernel
theorem dX3_stepOn_205 : decode cX3_stepOn 205 = .ok (.iload_n 3, 1) := by decide +kernel
theorem dX3_stepOn_206 : decode cX3_stepOn 206 = .ok (.iconst 1, 1) := by decide +kernel
theorem dX3_stepOn_207 : decode cX3_stepOn 207 = .ok (.bastore, 1) := by decide +kernel
theorem dX3_stepOn_208 : decode cX3_stepOn 208 = .ok (.aload_n 0, 1) := by decide +kernel
theorem dX3_stepOn_209 : decode cX3_stepOn 209 = .ok (.iload_n 3, 1) := by decide +kernel
theorem dX3_stepOn_210 : decode cX3_stepOn 210 = .ok (.invokevirtual 154, 3) := by decide +kernel
theorem dX3_stepOn_213 : decode cX3_stepOn 213 = .ok (.iinc 2 1, 3) := by decide +kernel
theorem dX3_stepOn_216 : decode cX3_stepOn 216 = .ok (.goto (-85), 3) := by decide +kernel
theorem dX3_stepOn_219 : decode cX3_stepOn 219 = .ok (.iconst 0, 1) := by decide +kernel
theorem dX3_stepOn_220 : decode cX3_stepOn 220 = .ok (.istore_n 2, 1) := by decide +kernel
theorem dX3_stepOn_221 : decode cX3_stepOn 221 = .ok (.iload_n 2, 1) := by decide +kernel
theorem dX3_stepOn_222 : decode cX3_stepOn 222 = .ok (.aload_n 0, 1) := by decide +kernel
theorem dX3_stepOn_223 : decode cX3_stepOn 223 = .ok (.getfield 58, 3) := by decide +kernel
theorem dX3_stepOn_226 : decode cX3_stepOn 226 = .ok (.if_icmp .ge 44, 3) := by decide +kernel
theorem dX3_stepOn_229 : decode cX3_stepOn 229 = .ok (.aload_n 0, 1) := by decide +kernel
theorem dX3_stepOn_230 : decode cX3_stepOn 230 = .ok (.iload_n 2, 1) := by decide +kernel
theorem dX3_stepOn_231 : decode cX3_stepOn 231 = .ok (.iconst 4, 1) := by decide +kernel
theorem dX3_stepOn_232 : decode cX3_stepOn 232 = .ok (.invokevirtual 89, 3) := by decide +kernel
theorem dX3_stepOn_235 : decode cX3_stepOn 235 = .ok (.ifCond .ne 29, 3) := by decide +kernel
theorem dX3_stepOn_238 : decode cX3_stepOn 238 = .ok (.aload_n 0, 1) := by decide +kernel
theorem dX3_stepOn_239 : decode cX3_stepOn 239 = .ok (.iconst 0, 1) := by decide +kernel
theorem dX3_stepOn_240 : decode cX3_stepOn 240 = .ok (.invokevirtual 141, 3) := by decide +kernel
theorem dX3_stepOn_243 : decode cX3_stepOn 243 = .ok (.iconst 1, 1) := by decide +kernel
theorem dX3_stepOn_244 : decode cX3_stepOn 244 = .ok (.if_icmp .le 6, 3) := by decide +kernel
theorem dX3_stepOn_247 : decode cX3_stepOn 247 = .ok (.goto 17, 3) := by decide +kernel
theorem dX3_stepOn_250 : decode cX3_stepOn 250 = .ok (.aload_n 0, 1) := by decide +kernel
theorem dX3_stepOn_251 : decode cX3_stepOn 251 = .ok (.iload_n 2, 1) := by decide +kernel
theorem dX3_stepOn_252 : decode cX3_stepOn 252 = .ok (.iconst 4, 1) := by decide +kernel
theorem dX3_stepOn_253 : decode cX3_stepOn 253 = .ok (.iconst 1, 1) := by decide +kernel
theorem dX3_stepOn_254 : decode cX3_stepOn 254 = .ok (.invokevirtual 97, 3) := by decide +kernel
theorem dX3_stepOn_257 : decode cX3_stepOn 257 = .ok (.aload_n 0, 1) := by decide +kernel
theorem dX3_stepOn_258 : decode cX3_stepOn 258 = .ok (.iload_n 2, 1) := by decide +kernel
theorem dX3_stepOn_259 : decode cX3_stepOn 259 = .ok (.iconst 5, 1) := by decide +kernel
theorem dX3_stepOn_260 : decode cX3_stepOn 260 = .ok (.iconst 0, 1) := by decide +kernel
theorem dX3_stepOn_261 : decode cX3_stepOn 261 = .ok (.invokevirtual 97, 3) := by decide +kernel
theorem dX3_stepOn_264 : decode cX3_stepOn 264 = .ok (.iinc 2 1, 3) := by decide +kernel
theorem dX3_stepOn_267 : decode cX3_stepOn 267 = .ok (.goto (-46), 3) := by decide +kernel
theorem dX3_stepOn_270 : decode cX3_stepOn 270 = .ok (.aload_n 0, 1) := by decide +kernel
theorem dX3_stepOn_271 : decode cX3_stepOn 271 = .ok (.getfield 28, 3) := by decide +kernel
theorem dX3_stepOn_274 : decode cX3_stepOn 274 = .ok (.iconst 0, 1) := by decide +kernel
theorem dX3_stepOn_275 : decode cX3_stepOn 275 = .ok (.dup2, 1) := by decide +kernel
theorem dX3_stepOn_276 : decode cX3_stepOn 276 = .ok (.iaload, 1) := by decide +kernel
theorem dX3_stepOn_277 : decode cX3_stepOn 277 = .ok (.iconst 1, 1) := by decide +kernel
theorem dX3_stepOn_278 : decode cX3_stepOn 278 = .ok (.iadd, 1) := by decide +kernel
theorem dX3_stepOn_279 : decode cX3_stepOn 279 = .ok (.iastore, 1) := by decide +kernel
theorem dX3_stepOn_280 : decode cX3_stepOn 280 = .ok (.aload_n 0, 1) := by decide +kernel
theorem dX3_stepOn_281 : decode cX3_stepOn 281 = .ok (.iconst 2, 1) := by decide +kernel
theorem dX3_stepOn_282 : decode cX3_stepOn 282 = .ok (.invokevirtual 144, 3) := by decide +kernel
theorem dX3_stepOn_285 : decode cX3_stepOn 285 = .ok (.iload_n 1, 1) := by decide +kernel
theorem dX3_stepOn_286 : decode cX3_stepOn 286 = .ok (.isub, 1) := by decide +kernel
theorem dX3_stepOn_287 : decode cX3_stepOn 287 = .ok (.ireturn, 1) := by decide +kernel
set_option maxRecDepth 20000 in
theorem ggX3_pass_X3_isIn : GoodIn wsX3_pass wsX3_isIn := goodIn_r _ [6] (by decide +kernel) (by decide +kernel)
set_option maxRecDepth 20000 in
theorem gX3_pass_X3_isIn : GoodIn wsX3_pass (va_wsS RX3 54 yX3_isIn wsX3_isIn) := goodIn_app (goodIn_of _ (by decide +kernel)) ggX3_pass_X3_isIn
set_option maxRecDepth 20000 in
theorem ggX3_pass_X3_fail : GoodIn wsX3_pass wsX3_fail := goodIn_r _ [10, 1, 96, 97, 98, 99, 100, 101, 102, 103, 104, 105, 106, 107, 108, 109, 110, 111] (by decide +kernel) (by decide +kernel)
set_option maxRecDepth 20000 in
theorem gX3_pass_X3_fail : GoodIn wsX3_pass (wsV RX3 68 RX3 yX3_fail wsX3_fail) := goodIn_app (goodIn_of _ (by decide +kernel)) ggX3_pass_X3_fail
set_option maxRecDepth 20000 in
theorem ggX3_pass_X3_stepOn : GoodIn wsX3_pass wsX3_stepOn := goodIn_r _ [14, 15, 16, 17, 18, 19, 20, 21, 22, 23, 5, 24, 25, 26, 27, 28, 29, 30, 31, 32, 33, 34, 35, 36, 37, 38, 39, 40, 41, 42, 43, 44, 45, 46, 47, 48, 49, 50, 51, 52, 53, 54, 55, 56, 57, 58, 59, 60, 61, 62, 63, 64, 65, 66, 67, 68, 69, 70, 71, 72, 73, 74, 75, 76, 77, 78, 79, 80, 81, 82, 83, 84, 85, 86, 2, 87, 88, 89, 90, 91, 92, 93, 94, 95, 96, 97, 98, 99, 100, 101, 102, 103, 104, 105, 106, 107, 108, 109, 110, 111] (by decide +kernel) (by decide +kernel)
set_option maxRecDepth 20000 in
theorem gX3_pass_X3_stepOn : GoodIn wsX3_pass (wsV RX3 157 RX3 yX3_stepOn wsX3_stepOn) := goodIn_app (goodIn_of _ (by decide +kernel)) ggX3_pass_X3_stepOn
theorem dX3_pass_0 : decode cX3_pass 0 = .ok (.aload_n 0, 1) := by decide +kernel
theorem dX3_pass_1 : decode cX3_pass 1 = .ok (.iconst 0, 1) := by decide +kernel
theorem dX3_pass_2 : decode cX3_pass 2 = .ok (.putfield 47, 3) := by decide +kernel
theorem dX3_pass_5 : decode cX3_pass 5 = .ok (.iload_n 1, 1) := by decide +kernel
theorem dX3_pass_6 : decode cX3_pass 6 = .ok (.iconst 1, 1) := by decide +kernel
theorem dX3_pass_7 : decode cX3_pass 7 = .ok (.sipush 200, 3) := by decide +kernel
theorem dX3_pass_10 : decode cX3_pass 10 = .ok (.invokestatic 54, 3) := by decide +kernel
theorem dX3_pass_13 : decode cX3_pass 13 = .ok (.ifCond .ne 9, 3) := by decide +kernel
theorem dX3_pass_16 : decode cX3_pass 16 = .ok (.aload_n 0, 1) := by decide +kernel
theorem dX3_pass_17 : decode cX3_pass 17 = .ok (.iconst 1, 1) := by decide +kernel
theorem dX3_pass_18 : decode cX3_pass 18 = .ok (.invokevirtual 68, 3) := by decide +kernel
theorem dX3_pass_21 : decode cX3_pass 21 = .ok (.ireturn, 1) := by decide +kernel
theorem dX3_pass_22 : decode cX3_pass 22 = .ok (.aload_n 0, 1) := by decide +kernel
theorem dX3_pass_23 : decode cX3_pass 23 = .ok (.getfield 51, 3) := by decide +kernel
theorem dX3_pass_26 : decode cX3_pass 26 = .ok (.ifCond .ne 9, 3) := by decide +kernel
theorem dX3_pass_29 : decode cX3_pass 29 = .ok (.aload_n 0, 1) := by decide +kernel
theorem dX3_pass_30 : decode cX3_pass 30 = .ok (.iconst 2, 1) := by decide +kernel
theorem dX3_pass_31 : decode cX3_pass 31 = .ok (.invokevirtual 68, 3) := by decide +kernel
theorem dX3_pass_34 : decode cX3_pass 34 = .ok (.ireturn, 1) := by decide +kernel
theorem dX3_pass_35 : decode cX3_pass 35 = .ok (.iconst 0, 1) := by decide +kernel
theorem dX3_pass_36 : decode cX3_pass 36 = .ok (.istore_n 2, 1) := by decide +kernel
theorem dX3_pass_37 : decode cX3_pass 37 = .ok (.iconst 0, 1) := by decide +kernel
theorem dX3_pass_38 : decode cX3_pass 38 = .ok (.istore_n 3, 1) := by decide +kernel
theorem dX3_pass_39 : decode cX3_pass 39 = .ok (.iload_n 3, 1) := by decide +kernel
theorem dX3_pass_40 : decode cX3_pass 40 = .ok (.iload_n 1, 1) := by decide +kernel
theorem dX3_pass_41 : decode cX3_pass 41 = .ok (.if_icmp .ge 16, 3) := by decide +kernel
theorem dX3_pass_44 : decode cX3_pass 44 = .ok (.iload_n 2, 1) := by decide +kernel
theorem dX3_pass_45 : decode cX3_pass 45 = .ok (.aload_n 0, 1) := by decide +kernel
theorem dX3_pass_46 : decode cX3_pass 46 = .ok (.invokevirtual 157, 3) := by decide +kernel
theorem dX3_pass_49 : decode cX3_pass 49 = .ok (.iadd, 1) := by decide +kernel
theorem dX3_pass_50 : decode cX3_pass 50 = .ok (.istore_n 2, 1) := by decide +kernel
theorem dX3_pass_51 : decode cX3_pass 51 = .ok (.iinc 3 1, 3) := by decide +kernel
theorem dX3_pass_54 : decode cX3_pass 54 = .ok (.goto (-15), 3) := by decide +kernel
theorem dX3_pass_57 : decode cX3_pass 57 = .ok (.iload_n 2, 1) := by decide +kernel
theorem dX3_pass_58 : decode cX3_pass 58 = .ok (.ireturn, 1) := by decide +kernel
set_option maxRecDepth 20000 in
theorem ggX3_inState_X3_pe : GoodIn wsX3_inState wsX3_pe := goodIn_r _ [6, 7, 8, 9, 10, 11, 12, 13, 14, 15, 16, 17, 18, 19, 20, 21, 22, 23] (by decide +kernel) (by decide +kernel)
set_option maxRecDepth 20000 in
theorem gX3_inState_X3_pe : GoodIn wsX3_inState (wsV RX3 89 RX3 yX3_pe wsX3_pe) := goodIn_app (goodIn_of _ (by decide +kernel)) ggX3_inState_X3_pe
theorem dX3_inState_0 : decode cX3_inState 0 = .ok (.iconst 0, 1) := by decide +kernel
theorem dX3_inState_1 : decode cX3_inState 1 = .ok (.istore_n 2, 1) := by decide +kernel
theorem dX3_inState_2 : decode cX3_inState 2 = .ok (.iconst 0, 1) := by decide +kernel
theorem dX3_inState_3 : decode cX3_inState 3 = .ok (.istore_n 3, 1) := by decide +kernel
theorem dX3_inState_4 : decode cX3_inState 4 = .ok (.iload_n 3, 1) := by decide +kernel
theorem dX3_inState_5 : decode cX3_inState 5 = .ok (.aload_n 0, 1) := by decide +kernel
theorem dX3_inState_6 : decode cX3_inState 6 = .ok (.getfield 58, 3) := by decide +kernel
theorem dX3_inState_9 : decode cX3_inState 9 = .ok (.if_icmp .ge 27, 3) := by decide +kernel
theorem dX3_inState_12 : decode cX3_inState 12 = .ok (.iload_n 2, 1) := by decide +kernel
theorem dX3_inState_13 : decode cX3_inState 13 = .ok (.aload_n 0, 1) := by decide +kernel
theorem dX3_inState_14 : decode cX3_inState 14 = .ok (.iload_n 3, 1) := by decide +kernel
theorem dX3_inState_15 : decode cX3_inState 15 = .ok (.iconst 4, 1) := by decide +kernel
theorem dX3_inState_16 : decode cX3_inState 16 = .ok (.invokevirtual 89, 3) := by decide +kernel
theorem dX3_inState_19 : decode cX3_inState 19 = .ok (.iload_n 1, 1) := by decide +kernel
theorem dX3_inState_20 : decode cX3_inState 20 = .ok (.if_icmp .ne 7, 3) := by decide +kernel
theorem dX3_inState_23 : decode cX3_inState 23 = .ok (.iconst 1, 1) := by decide +kernel
theorem dX3_inState_24 : decode cX3_inState 24 = .ok (.goto 4, 3) := by decide +kernel
theorem dX3_inState_27 : decode cX3_inState 27 = .ok (.iconst 0, 1) := by decide +kernel
theorem dX3_inState_28 : decode cX3_inState 28 = .ok (.iadd, 1) := by decide +kernel
theorem dX3_inState_29 : decode cX3_inState 29 = .ok (.istore_n 2, 1) := by decide +kernel
theorem dX3_inState_30 : decode cX3_inState 30 = .ok (.iinc 3 1, 3) := by decide +kernel
theorem dX3_inState_33 : decode cX3_inState 33 = .ok (.goto (-29), 3) := by decide +kernel
theorem dX3_inState_36 : decode cX3_inState 36 = .ok (.iload_n 2, 1) := by decide +kernel
theorem dX3_inState_37 : decode cX3_inState 37 = .ok (.ireturn, 1) := by decide +kernel
set_option maxRecDepth 20000 in
theorem ggX3_burning_X3_walks : GoodIn wsX3_burning wsX3_walks := goodIn_r _ [6, 7, 8, 9, 5, 10, 11, 12, 13, 14, 15, 16, 17, 18, 19, 20, 21, 22, 23, 24, 25, 26, 27] (by decide +kernel) (by decide +kernel)
set_option maxRecDepth 20000 in
theorem gX3_burning_X3_walks : GoodIn wsX3_burning (wsV RX3 104 RX3 yX3_walks wsX3_walks) := goodIn_app (goodIn_of _ (by decide +kernel)) ggX3_burning_X3_walks
set_option maxRecDepth 20000 in
theorem ggX3_burning_X3_pe : GoodIn wsX3_burning wsX3_pe := goodIn_r _ [10, 11, 12, 13, 14, 15, 16, 17, 18, 19, 20, 21, 22, 23, 24, 25, 26, 27] (by decide +kernel) (by decide +kernel)
set_option maxRecDepth 20000 in
theorem gX3_burning_X3_pe : GoodIn wsX3_burning (wsV RX3 89 RX3 yX3_pe wsX3_pe) := goodIn_app (goodIn_of _ (by decide +kernel)) ggX3_burning_X3_pe
theorem dX3_burning_0 : decode cX3_burning 0 = .ok (.iconst 0, 1) := by decide +kernel
theorem dX3_burning_1 : decode cX3_burning 1 = .ok (.istore_n 1, 1) := by decide +kernel
theorem dX3_burning_2 : decode cX3_burning 2 = .ok (.iconst 0, 1) := by decide +kernel
theorem dX3_burning_3 : decode cX3_burning 3 = .ok (.istore_n 2, 1) := by decide +kernel
theorem dX3_burning_4 : decode cX3_burning 4 = .ok (.iload_n 2, 1) := by decide +kernel
theorem dX3_burning_5 : decode cX3_burning 5 = .ok (.aload_n 0, 1) := by decide +kernel
theorem dX3_burning_6 : decode cX3_burning 6 = .ok (.getfield 58, 3) := by decide +kernel
theorem dX3_burning_9 : decode cX3_burning 9 = .ok (.if_icmp .ge 30, 3) := by decide +kernel
theorem dX3_burning_12 : decode cX3_burning 12 = .ok (.iload_n 1, 1) := by decide +kernel
theorem dX3_burning_13 : decode cX3_burning 13 = .ok (.aload_n 0, 1) := by decide +kernel
theorem dX3_burning_14 : decode cX3_burning 14 = .ok (.iload_n 2, 1) := by decide +kernel
theorem dX3_burning_15 : decode cX3_burning 15 = .ok (.invokevirtual 104, 3) := by decide +kernel
theorem dX3_burning_18 : decode cX3_burning 18 = .ok (.ifCond .eq 12, 3) := by decide +kernel
theorem dX3_burning_21 : decode cX3_burning 21 = .ok (.aload_n 0, 1) := by decide +kernel
theorem dX3_burning_22 : decode cX3_burning 22 = .ok (.iload_n 2, 1) := by decide +kernel
theorem dX3_burning_23 : decode cX3_burning 23 = .ok (.iconst 3, 1) := by decide +kernel
theorem dX3_burning_24 : decode cX3_burning 24 = .ok (.invokevirtual 89, 3) := by decide +kernel
theorem dX3_burning_27 : decode cX3_burning 27 = .ok (.goto 4, 3) := by decide +kernel
theorem dX3_burning_30 : decode cX3_burning 30 = .ok (.iconst 0, 1) := by decide +kernel
theorem dX3_burning_31 : decode cX3_burning 31 = .ok (.iadd, 1) := by decide +kernel
theorem dX3_burning_32 : decode cX3_burning 32 = .ok (.istore_n 1, 1) := by decide +kernel
theorem dX3_burning_33 : decode cX3_burning 33 = .ok (.iinc 2 1, 3) := by decide +kernel
theorem dX3_burning_36 : decode cX3_burning 36 = .ok (.goto (-32), 3) := by decide +kernel
theorem dX3_burning_39 : decode cX3_burning 39 = .ok (.iload_n 1, 1) := by decide +kernel
theorem dX3_burning_40 : decode cX3_burning 40 = .ok (.ireturn, 1) := by decide +kernel
set_option maxRecDepth 20000 in
theorem ggX3_end_X3_walks : GoodIn wsX3_end wsX3_walks := goodIn_r _ [6, 7, 8, 9, 5, 10, 11, 12, 13, 14, 15, 16, 17, 18, 19, 20, 21, 22, 23, 24, 25, 26, 27] (by decide +kernel) (by decide +kernel)
set_option maxRecDepth 20000 in
theorem gX3_end_X3_walks : GoodIn wsX3_end (wsV RX3 104 RX3 yX3_walks wsX3_walks) := goodIn_app (goodIn_of _ (by decide +kernel)) ggX3_end_X3_walks
set_option maxRecDepth 20000 in
theorem ggX3_end_X3_pe : GoodIn wsX3_end wsX3_pe := goodIn_r _ [10, 11, 12, 13, 14, 15, 16, 17, 18, 19, 20, 21, 22, 23, 24, 25, 26, 27] (by decide +kernel) (by decide +kernel)
set_option maxRecDepth 20000 in
theorem gX3_end_X3_pe : GoodIn wsX3_end (wsV RX3 89 RX3 yX3_pe wsX3_pe) := goodIn_app (goodIn_of _ (by decide +kernel)) ggX3_end_X3_pe
theorem dX3_end_0 : decode cX3_end 0 = .ok (.iconst (-1), 1) := by decide +kernel
theorem dX3_end_1 : decode cX3_end 1 = .ok (.istore_n 2, 1) := by decide +kernel
theorem dX3_end_2 : decode cX3_end 2 = .ok (.iconst 0, 1) := by decide +kernel
theorem dX3_end_3 : decode cX3_end 3 = .ok (.istore_n 3, 1) := by decide +kernel
theorem dX3_end_4 : decode cX3_end 4 = .ok (.iload_n 3, 1) := by decide +kernel
theorem dX3_end_5 : decode cX3_end 5 = .ok (.aload_n 0, 1) := by decide +kernel
theorem dX3_end_6 : decode cX3_end 6 = .ok (.getfield 58, 3) := by decide +kernel
theorem dX3_end_9 : decode cX3_end 9 = .ok (.if_icmp .ge 48, 3) := by decide +kernel
theorem dX3_end_12 : decode cX3_end 12 = .ok (.aload_n 0, 1) := by decide +kernel
theorem dX3_end_13 : decode cX3_end 13 = .ok (.iload_n 3, 1) := by decide +kernel
theorem dX3_end_14 : decode cX3_end 14 = .ok (.invokevirtual 104, 3) := by decide +kernel
theorem dX3_end_17 : decode cX3_end 17 = .ok (.ifCond .eq 34, 3) := by decide +kernel
theorem dX3_end_20 : decode cX3_end 20 = .ok (.iload_n 2, 1) := by decide +kernel
theorem dX3_end_21 : decode cX3_end 21 = .ok (.iconst (-1), 1) := by decide +kernel
theorem dX3_end_22 : decode cX3_end 22 = .ok (.if_icmp .eq 22, 3) := by decide +kernel
theorem dX3_end_25 : decode cX3_end 25 = .ok (.iload_n 1, 1) := by decide +kernel
theorem dX3_end_26 : decode cX3_end 26 = .ok (.aload_n 0, 1) := by decide +kernel
theorem dX3_end_27 : decode cX3_end 27 = .ok (.iload_n 3, 1) := by decide +kernel
theorem dX3_end_28 : decode cX3_end 28 = .ok (.iconst 5, 1) := by decide +kernel
theorem dX3_end_29 : decode cX3_end 29 = .ok (.invokevirtual 89, 3) := by decide +kernel
theorem dX3_end_32 : decode cX3_end 32 = .ok (.iload_n 2, 1) := by decide +kernel
theorem dX3_end_33 : decode cX3_end 33 = .ok (.if_icmp .le 7, 3) := by decide +kernel
theorem dX3_end_36 : decode cX3_end 36 = .ok (.iconst 1, 1) := by decide +kernel
theorem dX3_end_37 : decode cX3_end 37 = .ok (.goto 4, 3) := by decide +kernel
theorem dX3_end_40 : decode cX3_end 40 = .ok (.iconst 0, 1) := by decide +kernel
theorem dX3_end_41 : decode cX3_end 41 = .ok (.if_icmp .ne 10, 3) := by decide +kernel
theorem dX3_end_44 : decode cX3_end 44 = .ok (.aload_n 0, 1) := by decide +kernel
theorem dX3_end_45 : decode cX3_end 45 = .ok (.iload_n 3, 1) := by decide +kernel
theorem dX3_end_46 : decode cX3_end 46 = .ok (.iconst 5, 1) := by decide +kernel
theorem dX3_end_47 : decode cX3_end 47 = .ok (.invokevirtual 89, 3) := by decide +kernel
theorem dX3_end_50 : decode cX3_end 50 = .ok (.istore_n 2, 1) := by decide +kernel
theorem dX3_end_51 : decode cX3_end 51 = .ok (.iinc 3 1, 3) := by decide +kernel
theorem dX3_end_54 : decode cX3_end 54 = .ok (.goto (-50), 3) := by decide +kernel
theorem dX3_end_57 : decode cX3_end 57 = .ok (.iload_n 2, 1) := by decide +kernel
theorem dX3_end_58 : decode cX3_end 58 = .ok (.ireturn, 1) := by decide +kernel
set_option maxRecDepth 20000 in
theorem ggX3_counted_X3_places : GoodIn wsX3_counted wsX3_places := goodIn_r _ [9, 2, 10, 11, 12, 8, 13, 14, 36, 37, 38, 39, 40, 41, 42, 43, 44, 45, 46, 47, 48, 49, 50, 51] (by decide +kernel) (by decide +kernel)
set_option maxRecDepth 20000 in
theorem gX3_counted_X3_places : GoodIn wsX3_counted (wsV RX3 72 RX3 yX3_places wsX3_places) := goodIn_app (goodIn_of _ (by decide +kernel)) ggX3_counted_X3_places
set_option maxRecDepth 20000 in
theorem ggX3_counted_X3_inState : GoodIn wsX3_counted wsX3_inState := goodIn_r _ [18, 3, 19, 20, 21, 8, 22, 23, 36, 37, 38, 39, 40, 41, 42, 43, 44, 45, 46, 47, 48, 49, 50, 51] (by decide +kernel) (by decide +kernel)
set_option maxRecDepth 20000 in
theorem gX3_counted_X3_inState : GoodIn wsX3_counted (wsV RX3 144 RX3 yX3_inState wsX3_inState) := goodIn_app (goodIn_of _ (by decide +kernel)) ggX3_counted_X3_inState
set_option maxRecDepth 20000 in
theorem ggX3_counted_X3_burning : GoodIn wsX3_counted wsX3_burning := goodIn_r _ [27, 3, 28, 29, 30, 8, 31, 19, 20, 21, 22, 23, 36, 37, 38, 39, 40, 41, 42, 43, 44, 45, 46, 47, 48, 49, 50, 51] (by decide +kernel) (by decide +kernel)
set_option maxRecDepth 20000 in
theorem gX3_counted_X3_burning : GoodIn wsX3_counted (wsV RX3 160 RX3 yX3_burning wsX3_burning) := goodIn_app (goodIn_of _ (by decide +kernel)) ggX3_counted_X3_burning
set_option maxRecDepth 20000 in
theorem ggX3_counted_X3_end : GoodIn wsX3_counted wsX3_end := goodIn_r _ [35, 3, 28, 29, 30, 8, 31, 19, 20, 21, 22, 23, 36, 37, 38, 39, 40, 41, 42, 43, 44, 45, 46, 47, 48, 49, 50, 51] (by decide +kernel) (by decide +kernel)
set_option maxRecDepth 20000 in
theorem gX3_counted_X3_end : GoodIn wsX3_counted (wsV RX3 163 RX3 yX3_end wsX3_end) := goodIn_app (goodIn_of _ (by decide +kernel)) ggX3_counted_X3_end
theorem dX3_counted_0 : decode cX3_counted 0 = .ok (.iload_n 1, 1) := by decide +kernel
theorem dX3_counted_1 : decode cX3_counted 1 = .ok (.tableswitch 101 0 9 #[55, 62, 67, 72, 77, 77, 77, 85, 90, 95], 55) := by decide +kernel
theorem dX3_counted_56 : decode cX3_counted 56 = .ok (.aload_n 0, 1) := by decide +kernel
theorem dX3_counted_57 : decode cX3_counted 57 = .ok (.getfield 28, 3) := by decide +kernel
theorem dX3_counted_60 : decode cX3_counted 60 = .ok (.iconst 0, 1) := by decide +kernel
theorem dX3_counted_61 : decode cX3_counted 61 = .ok (.iaload, 1) := by decide +kernel
theorem dX3_counted_62 : decode cX3_counted 62 = .ok (.ireturn, 1) := by decide +kernel
theorem dX3_counted_63 : decode cX3_counted 63 = .ok (.aload_n 0, 1) := by decide +kernel
theorem dX3_counted_64 : decode cX3_counted 64 = .ok (.getfield 51, 3) := by decide +kernel
theorem dX3_counted_67 : decode cX3_counted 67 = .ok (.ireturn, 1) := by decide +kernel
theorem dX3_counted_68 : decode cX3_counted 68 = .ok (.aload_n 0, 1) := by decide +kernel
theorem dX3_counted_69 : decode cX3_counted 69 = .ok (.invokevirtual 72, 3) := by decide +kernel
theorem dX3_counted_72 : decode cX3_counted 72 = .ok (.ireturn, 1) := by decide +kernel
theorem dX3_counted_73 : decode cX3_counted 73 = .ok (.aload_n 0, 1) := by decide +kernel
theorem dX3_counted_74 : decode cX3_counted 74 = .ok (.getfield 58, 3) := by decide +kernel
theorem dX3_counted_77 : decode cX3_counted 77 = .ok (.ireturn, 1) := by decide +kernel
theorem dX3_counted_78 : decode cX3_counted 78 = .ok (.aload_n 0, 1) := by decide +kernel
theorem dX3_counted_79 : decode cX3_counted 79 = .ok (.iload_n 1, 1) := by decide +kernel
theorem dX3_counted_80 : decode cX3_counted 80 = .ok (.iconst 4, 1) := by decide +kernel
theorem dX3_counted_81 : decode cX3_counted 81 = .ok (.isub, 1) := by decide +kernel
theorem dX3_counted_82 : decode cX3_counted 82 = .ok (.invokevirtual 144, 3) := by decide +kernel
theorem dX3_counted_85 : decode cX3_counted 85 = .ok (.ireturn, 1) := by decide +kernel
theorem dX3_counted_86 : decode cX3_counted 86 = .ok (.aload_n 0, 1) := by decide +kernel
theorem dX3_counted_87 : decode cX3_counted 87 = .ok (.invokevirtual 160, 3) := by decide +kernel
theorem dX3_counted_90 : decode cX3_counted 90 = .ok (.ireturn, 1) := by decide +kernel
theorem dX3_counted_91 : decode cX3_counted 91 = .ok (.aload_n 0, 1) := by decide +kernel
theorem dX3_counted_92 : decode cX3_counted 92 = .ok (.getfield 61, 3) := by decide +kernel
theorem dX3_counted_95 : decode cX3_counted 95 = .ok (.ireturn, 1) := by decide +kernel
theorem dX3_counted_96 : decode cX3_counted 96 = .ok (.aload_n 0, 1) := by decide +kernel
theorem dX3_counted_97 : decode cX3_counted 97 = .ok (.iconst 1, 1) := by decide +kernel
theorem dX3_counted_98 : decode cX3_counted 98 = .ok (.invokevirtual 163, 3) := by decide +kernel
theorem dX3_counted_101 : decode cX3_counted 101 = .ok (.ireturn, 1) := by decide +kernel
theorem dX3_counted_102 : decode cX3_counted 102 = .ok (.aload_n 0, 1) := by decide +kernel
theorem dX3_counted_103 : decode cX3_counted 103 = .ok (.iconst 1, 1) := by decide +kernel
theorem dX3_counted_104 : decode cX3_counted 104 = .ok (.invokevirtual 163, 3) := by decide +kernel
theorem dX3_counted_107 : decode cX3_counted 107 = .ok (.aload_n 0, 1) := by decide +kernel
theorem dX3_counted_108 : decode cX3_counted 108 = .ok (.iconst 0, 1) := by decide +kernel
theorem dX3_counted_109 : decode cX3_counted 109 = .ok (.invokevirtual 163, 3) := by decide +kernel
theorem dX3_counted_112 : decode cX3_counted 112 = .ok (.isub, 1) := by decide +kernel
theorem dX3_counted_113 : decode cX3_counted 113 = .ok (.ireturn, 1) := by decide +kernel
set_option maxRecDepth 20000 in
theorem ggX3_count_X3_isIn : GoodIn wsX3_count wsX3_isIn := goodIn_r _ [5] (by decide +kernel) (by decide +kernel)
set_option maxRecDepth 20000 in
theorem gX3_count_X3_isIn : GoodIn wsX3_count (va_wsS RX3 54 yX3_isIn wsX3_isIn) := goodIn_app (goodIn_of _ (by decide +kernel)) ggX3_count_X3_isIn
set_option maxRecDepth 20000 in
theorem ggX3_count_X3_counted : GoodIn wsX3_count wsX3_counted := goodIn_r _ [9, 10, 11, 12, 13, 14, 15, 16, 4, 17, 18, 19, 20, 21, 22, 23, 24, 25, 26, 27, 28, 29, 30, 31, 32, 33, 34, 35, 36, 37, 38, 39, 40, 41, 42, 43, 48, 49, 50, 51, 52, 53, 54, 55, 56, 57, 58, 59, 60, 61, 62, 63] (by decide +kernel) (by decide +kernel)
set_option maxRecDepth 20000 in
theorem gX3_count_X3_counted : GoodIn wsX3_count (wsV RX3 167 RX3 yX3_counted wsX3_counted) := goodIn_app (goodIn_of _ (by decide +kernel)) ggX3_count_X3_counted
set_option maxRecDepth 20000 in
theorem ggX3_count_X3_fail : GoodIn wsX3_count wsX3_fail := goodIn_r _ [47, 1, 48, 49, 50, 51, 52, 53, 54, 55, 56, 57, 58, 59, 60, 61, 62, 63] (by decide +kernel) (by decide +kernel)
set_option maxRecDepth 20000 in
theorem gX3_count_X3_fail : GoodIn wsX3_count (wsV RX3 68 RX3 yX3_fail wsX3_fail) := goodIn_app (goodIn_of _ (by decide +kernel)) ggX3_count_X3_fail
theorem dX3_count_0 : decode cX3_count 0 = .ok (.aload_n 0, 1) := by decide +kernel
theorem dX3_count_1 : decode cX3_count 1 = .ok (.iconst 0, 1) := by decide +kernel
theorem dX3_count_2 : decode cX3_count 2 = .ok (.putfield 47, 3) := by decide +kernel
theorem dX3_count_5 : decode cX3_count 5 = .ok (.iload_n 1, 1) := by decide +kernel
theorem dX3_count_6 : decode cX3_count 6 = .ok (.iconst 0, 1) := by decide +kernel
theorem dX3_count_7 : decode cX3_count 7 = .ok (.bipush 10, 2) := by decide +kernel
theorem dX3_count_9 : decode cX3_count 9 = .ok (.invokestatic 54, 3) := by decide +kernel
theorem dX3_count_12 : decode cX3_count 12 = .ok (.ifCond .eq 11, 3) := by decide +kernel
theorem dX3_count_15 : decode cX3_count 15 = .ok (.aload_n 0, 1) := by decide +kernel
theorem dX3_count_16 : decode cX3_count 16 = .ok (.iload_n 1, 1) := by decide +kernel
theorem dX3_count_17 : decode cX3_count 17 = .ok (.invokevirtual 167, 3) := by decide +kernel
theorem dX3_count_20 : decode cX3_count 20 = .ok (.goto 8, 3) := by decide +kernel
theorem dX3_count_23 : decode cX3_count 23 = .ok (.aload_n 0, 1) := by decide +kernel
theorem dX3_count_24 : decode cX3_count 24 = .ok (.iconst 1, 1) := by decide +kernel
theorem dX3_count_25 : decode cX3_count 25 = .ok (.invokevirtual 68, 3) := by decide +kernel
theorem dX3_count_28 : decode cX3_count 28 = .ok (.ireturn, 1) := by decide +kernel
theorem dX3_kept_0 : decode cX3_kept 0 = .ok (.iconst 5, 1) := by decide +kernel
theorem dX3_kept_1 : decode cX3_kept 1 = .ok (.anewarray 170, 3) := by decide +kernel
theorem dX3_kept_4 : decode cX3_kept 4 = .ok (.dup, 1) := by decide +kernel
theorem dX3_kept_5 : decode cX3_kept 5 = .ok (.iconst 0, 1) := by decide +kernel
theorem dX3_kept_6 : decode cX3_kept 6 = .ok (.aload_n 0, 1) := by decide +kernel
theorem dX3_kept_7 : decode cX3_kept 7 = .ok (.getfield 9, 3) := by decide +kernel
theorem dX3_kept_10 : decode cX3_kept 10 = .ok (.invokevirtual 171, 3) := by decide +kernel
theorem dX3_kept_13 : decode cX3_kept 13 = .ok (.checkcast 170, 3) := by decide +kernel
theorem dX3_kept_16 : decode cX3_kept 16 = .ok (.aastore, 1) := by decide +kernel
theorem dX3_kept_17 : decode cX3_kept 17 = .ok (.dup, 1) := by decide +kernel
theorem dX3_kept_18 : decode cX3_kept 18 = .ok (.iconst 1, 1) := by decide +kernel
theorem dX3_kept_19 : decode cX3_kept 19 = .ok (.aload_n 0, 1) := by decide +kernel
theorem dX3_kept_20 : decode cX3_kept 20 = .ok (.getfield 13, 3) := by decide +kernel
theorem dX3_kept_23 : decode cX3_kept 23 = .ok (.invokevirtual 171, 3) := by decide +kernel
theorem dX3_kept_26 : decode cX3_kept 26 = .ok (.checkcast 170, 3) := by decide +kernel
theorem dX3_kept_29 : decode cX3_kept 29 = .ok (.aastore, 1) := by decide +kernel
theorem dX3_kept_30 : decode cX3_kept 30 = .ok (.dup, 1) := by decide +kernel
theorem dX3_kept_31 : decode cX3_kept 31 = .ok (.iconst 2, 1) := by decide +kernel
theorem dX3_kept_32 : decode cX3_kept 32 = .ok (.aload_n 0, 1) := by decide +kernel
theorem dX3_kept_33 : decode cX3_kept 33 = .ok (.getfield 19, 3) := by decide +kernel
theorem dX3_kept_36 : decode cX3_kept 36 = .ok (.invokevirtual 171, 3) := by decide +kernel
theorem dX3_kept_39 : decode cX3_kept 39 = .ok (.checkcast 170, 3) := by decide +kernel
theorem dX3_kept_42 : decode cX3_kept 42 = .ok (.aastore, 1) := by decide +kernel
theorem dX3_kept_43 : decode cX3_kept 43 = .ok (.dup, 1) := by decide +kernel
theorem dX3_kept_44 : decode cX3_kept 44 = .ok (.iconst 3, 1) := by decide +kernel
theorem dX3_kept_45 : decode cX3_kept 45 = .ok (.aload_n 0, 1) := by decide +kernel
theorem dX3_kept_46 : decode cX3_kept 46 = .ok (.getfield 25, 3) := by decide +kernel
theorem dX3_kept_49 : decode cX3_kept 49 = .ok (.invokevirtual 171, 3) := by decide +kernel
theorem dX3_kept_52 : decode cX3_kept 52 = .ok (.checkcast 170, 3) := by decide +kernel
theorem dX3_kept_55 : decode cX3_kept 55 = .ok (.aastore, 1) := by decide +kernel
theorem dX3_kept_56 : decode cX3_kept 56 = .ok (.dup, 1) := by decide +kernel
theorem dX3_kept_57 : decode cX3_kept 57 = .ok (.iconst 4, 1) := by decide +kernel
theorem dX3_kept_58 : decode cX3_kept 58 = .ok (.aload_n 0, 1) := by decide +kernel
theorem dX3_kept_59 : decode cX3_kept 59 = .ok (.getfield 28, 3) := by decide +kernel
theorem dX3_kept_62 : decode cX3_kept 62 = .ok (.invokevirtual 171, 3) := by decide +kernel
theorem dX3_kept_65 : decode cX3_kept 65 = .ok (.checkcast 170, 3) := by decide +kernel
theorem dX3_kept_68 : decode cX3_kept 68 = .ok (.aastore, 1) := by decide +kernel
theorem dX3_kept_69 : decode cX3_kept 69 = .ok (.areturn, 1) := by decide +kernel
theorem dX3_bringBack_0 : decode cX3_bringBack 0 = .ok (.iconst 5, 1) := by decide +kernel
theorem dX3_bringBack_1 : decode cX3_bringBack 1 = .ok (.anewarray 170, 3) := by decide +kernel
theorem dX3_bringBack_4 : decode cX3_bringBack 4 = .ok (.dup, 1) := by decide +kernel
theorem dX3_bringBack_5 : decode cX3_bringBack 5 = .ok (.iconst 0, 1) := by decide +kernel
theorem dX3_bringBack_6 : decode cX3_bringBack 6 = .ok (.aload_n 0, 1) := by decide +kernel
theorem dX3_bringBack_7 : decode cX3_bringBack 7 = .ok (.getfield 9, 3) := by decide +kernel
theorem dX3_bringBack_10 : decode cX3_bringBack 10 = .ok (.aastore, 1) := by decide +kernel
theorem dX3_bringBack_11 : decode cX3_bringBack 11 = .ok (.dup, 1) := by decide +kernel
theorem dX3_bringBack_12 : decode cX3_bringBack 12 = .ok (.iconst 1, 1) := by decide +kernel
theorem dX3_bringBack_13 : decode cX3_bringBack 13 = .ok (.aload_n 0, 1) := by decide +kernel
theorem dX3_bringBack_14 : decode cX3_bringBack 14 = .ok (.getfield 13, 3) := by decide +kernel
theorem dX3_bringBack_17 : decode cX3_bringBack 17 = .ok (.aastore, 1) := by decide +kernel
theorem dX3_bringBack_18 : decode cX3_bringBack 18 = .ok (.dup, 1) := by decide +kernel
theorem dX3_bringBack_19 : decode cX3_bringBack 19 = .ok (.iconst 2, 1) := by decide +kernel
theorem dX3_bringBack_20 : decode cX3_bringBack 20 = .ok (.aload_n 0, 1) := by decide +kernel
theorem dX3_bringBack_21 : decode cX3_bringBack 21 = .ok (.getfield 19, 3) := by decide +kernel
theorem dX3_bringBack_24 : decode cX3_bringBack 24 = .ok (.aastore, 1) := by decide +kernel
theorem dX3_bringBack_25 : decode cX3_bringBack 25 = .ok (.dup, 1) := by decide +kernel
theorem dX3_bringBack_26 : decode cX3_bringBack 26 = .ok (.iconst 3, 1) := by decide +kernel
theorem dX3_bringBack_27 : decode cX3_bringBack 27 = .ok (.aload_n 0, 1) := by decide +kernel
theorem dX3_bringBack_28 : decode cX3_bringBack 28 = .ok (.getfield 25, 3) := by decide +kernel
theorem dX3_bringBack_31 : decode cX3_bringBack 31 = .ok (.aastore, 1) := by decide +kernel
theorem dX3_bringBack_32 : decode cX3_bringBack 32 = .ok (.dup, 1) := by decide +kernel
theorem dX3_bringBack_33 : decode cX3_bringBack 33 = .ok (.iconst 4, 1) := by decide +kernel
theorem dX3_bringBack_34 : decode cX3_bringBack 34 = .ok (.aload_n 0, 1) := by decide +kernel
theorem dX3_bringBack_35 : decode cX3_bringBack 35 = .ok (.getfield 28, 3) := by decide +kernel
theorem dX3_bringBack_38 : decode cX3_bringBack 38 = .ok (.aastore, 1) := by decide +kernel
theorem dX3_bringBack_39 : decode cX3_bringBack 39 = .ok (.astore_n 2, 1) := by decide +kernel
theorem dX3_bringBack_40 : decode cX3_bringBack 40 = .ok (.iconst 0, 1) := by decide +kernel
theorem dX3_bringBack_41 : decode cX3_bringBack 41 = .ok (.istore_n 3, 1) := by decide +kernel
theorem dX3_bringBack_42 : decode cX3_bringBack 42 = .ok (.iload_n 3, 1) := by decide +kernel
theorem dX3_bringBack_43 : decode cX3_bringBack 43 = .ok (.aload_n 2, 1) := by decide +kernel
theorem dX3_bringBack_44 : decode cX3_bringBack 44 = .ok (.arraylength, 1) := by decide +kernel
theorem dX3_bringBack_45 : decode cX3_bringBack 45 = .ok (.if_icmp .ge 24, 3) := by decide +kernel
theorem dX3_bringBack_48 : decode cX3_bringBack 48 = .ok (.aload_n 1, 1) := by decide +kernel
theorem dX3_bringBack_49 : decode cX3_bringBack 49 = .ok (.iload_n 3, 1) := by decide +kernel
theorem dX3_bringBack_50 : decode cX3_bringBack 50 = .ok (.aaload, 1) := by decide +kernel
theorem dX3_bringBack_51 : decode cX3_bringBack 51 = .ok (.iconst 0, 1) := by decide +kernel
theorem dX3_bringBack_52 : decode cX3_bringBack 52 = .ok (.aload_n 2, 1) := by decide +kernel
theorem dX3_bringBack_53 : decode cX3_bringBack 53 = .ok (.iload_n 3, 1) := by decide +kernel
theorem dX3_bringBack_54 : decode cX3_bringBack 54 = .ok (.aaload, 1) := by decide +kernel
theorem dX3_bringBack_55 : decode cX3_bringBack 55 = .ok (.iconst 0, 1) := by decide +kernel
theorem dX3_bringBack_56 : decode cX3_bringBack 56 = .ok (.aload_n 2, 1) := by decide +kernel
theorem dX3_bringBack_57 : decode cX3_bringBack 57 = .ok (.iload_n 3, 1) := by decide +kernel
theorem dX3_bringBack_58 : decode cX3_bringBack 58 = .ok (.aaload, 1) := by decide +kernel
theorem dX3_bringBack_59 : decode cX3_bringBack 59 = .ok (.arraylength, 1) := by decide +kernel
theorem dX3_bringBack_60 : decode cX3_bringBack 60 = .ok (.invokestatic 76, 3) := by decide +kernel
theorem dX3_bringBack_63 : decode cX3_bringBack 63 = .ok (.iinc 3 1, 3) := by decide +kernel
theorem dX3_bringBack_66 : decode cX3_bringBack 66 = .ok (.goto (-24), 3) := by decide +kernel
theorem dX3_bringBack_69 : decode cX3_bringBack 69 = .ok (.return_, 1) := by decide +kernel
theorem dX3_pairs_0 : decode cX3_pairs 0 = .ok (.iconst 0, 1) := by decide +kernel
theorem dX3_pairs_1 : decode cX3_pairs 1 = .ok (.istore_n 1, 1) := by decide +kernel
theorem dX3_pairs_2 : decode cX3_pairs 2 = .ok (.aload_n 0, 1) := by decide +kernel
theorem dX3_pairs_3 : decode cX3_pairs 3 = .ok (.getfield 25, 3) := by decide +kernel
theorem dX3_pairs_6 : decode cX3_pairs 6 = .ok (.astore_n 2, 1) := by decide +kernel
theorem dX3_pairs_7 : decode cX3_pairs 7 = .ok (.aload_n 2, 1) := by decide +kernel
theorem dX3_pairs_8 : decode cX3_pairs 8 = .ok (.arraylength, 1) := by decide +kernel
theorem dX3_pairs_9 : decode cX3_pairs 9 = .ok (.istore_n 3, 1) := by decide +kernel
theorem dX3_pairs_10 : decode cX3_pairs 10 = .ok (.iconst 0, 1) := by decide +kernel
theorem dX3_pairs_11 : decode cX3_pairs 11 = .ok (.istore 4, 2) := by decide +kernel
theorem dX3_pairs_13 : decode cX3_pairs 13 = .ok (.iload 4, 2) := by decide +kernel
theorem dX3_pairs_15 : decode cX3_pairs 15 = .ok (.iload_n 3, 1) := by decide +kernel
theorem dX3_pairs_16 : decode cX3_pairs 16 = .ok (.if_icmp .ge 28, 3) := by decide +kernel
theorem dX3_pairs_19 : decode cX3_pairs 19 = .ok (.aload_n 2, 1) := by decide +kernel
theorem dX3_pairs_20 : decode cX3_pairs 20 = .ok (.iload 4, 2) := by decide +kernel
theorem dX3_pairs_22 : decode cX3_pairs 22 = .ok (.iaload, 1) := by decide +kernel
theorem dX3_pairs_23 : decode cX3_pairs 23 = .ok (.istore 5, 2) := by decide +kernel
theorem dX3_pairs_25 : decode cX3_pairs 25 = .ok (.iload_n 1, 1) := by decide +kernel
theorem dX3_pairs_26 : decode cX3_pairs 26 = .ok (.iload 5, 2) := by decide +kernel
theorem dX3_pairs_28 : decode cX3_pairs 28 = .ok (.ifCond .le 7, 3) := by decide +kernel
theorem dX3_pairs_31 : decode cX3_pairs 31 = .ok (.iconst 1, 1) := by decide +kernel
theorem dX3_pairs_32 : decode cX3_pairs 32 = .ok (.goto 4, 3) := by decide +kernel
theorem dX3_pairs_35 : decode cX3_pairs 35 = .ok (.iconst 0, 1) := by decide +kernel
theorem dX3_pairs_36 : decode cX3_pairs 36 = .ok (.iadd, 1) := by decide +kernel
theorem dX3_pairs_37 : decode cX3_pairs 37 = .ok (.istore_n 1, 1) := by decide +kernel
theorem dX3_pairs_38 : decode cX3_pairs 38 = .ok (.iinc 4 1, 3) := by decide +kernel
theorem dX3_pairs_41 : decode cX3_pairs 41 = .ok (.goto (-28), 3) := by decide +kernel
theorem dX3_pairs_44 : decode cX3_pairs 44 = .ok (.iload_n 1, 1) := by decide +kernel
theorem dX3_pairs_45 : decode cX3_pairs 45 = .ok (.ireturn, 1) := by decide +kernel
set_option maxRecDepth 20000 in
theorem ggX3_foresee_X3_isIn : GoodIn wsX3_foresee wsX3_isIn := goodIn_r _ [6] (by decide +kernel) (by decide +kernel)
set_option maxRecDepth 20000 in
theorem gX3_foresee_X3_isIn : GoodIn wsX3_foresee (va_wsS RX3 54 yX3_isIn wsX3_isIn) := goodIn_app (goodIn_of _ (by decide +kernel)) ggX3_foresee_X3_isIn
set_option maxRecDepth 20000 in
theorem ggX3_foresee_X3_fail : GoodIn wsX3_foresee wsX3_fail := goodIn_r _ [10, 1, 122, 123, 124, 125, 126, 127, 128, 129, 130, 131, 132, 133, 134, 135, 136, 137] (by decide +kernel) (by decide +kernel)
set_option maxRecDepth 20000 in
theorem gX3_foresee_X3_fail : GoodIn wsX3_foresee (wsV RX3 68 RX3 yX3_fail wsX3_fail) := goodIn_app (goodIn_of _ (by decide +kernel)) ggX3_foresee_X3_fail
set_option maxRecDepth 20000 in
theorem ggX3_foresee_X3_kept : GoodIn wsX3_foresee wsX3_kept := goodIn_r _ [14, 15, 16, 17, 18, 19, 20, 21, 22, 23, 24, 25, 122, 123, 124, 125, 126, 127, 128, 129, 130, 131, 132, 133, 134, 135, 136, 137] (by decide +kernel) (by decide +kernel)
set_option maxRecDepth 20000 in
theorem gX3_foresee_X3_kept : GoodIn wsX3_foresee (wsV RX3 175 RX3 yX3_kept wsX3_kept) := goodIn_app (goodIn_of _ (by decide +kernel)) ggX3_foresee_X3_kept
set_option maxRecDepth 20000 in
theorem ggX3_foresee_X3_stepOn : GoodIn wsX3_foresee wsX3_stepOn := goodIn_r _ [29, 30, 25, 31, 32, 33, 34, 35, 36, 37, 5, 38, 39, 40, 41, 42, 23, 43, 44, 45, 46, 47, 48, 49, 50, 51, 52, 53, 54, 55, 56, 57, 58, 59, 60, 61, 62, 63, 64, 65, 66, 67, 68, 69, 70, 71, 72, 73, 74, 75, 76, 24, 77, 78, 79, 80, 81, 82, 83, 84, 85, 16, 86, 87, 88, 89, 90, 91, 92, 93, 94, 95, 96, 97, 2, 98, 99, 100, 101, 102, 103, 104, 105, 22, 122, 123, 124, 125, 126, 127, 128, 129, 130, 131, 132, 133, 134, 135, 136, 137] (by decide +kernel) (by decide +kernel)
set_option maxRecDepth 20000 in
theorem gX3_foresee_X3_stepOn : GoodIn wsX3_foresee (wsV RX3 157 RX3 yX3_stepOn wsX3_stepOn) := goodIn_app (goodIn_of _ (by decide +kernel)) ggX3_foresee_X3_stepOn
set_option maxRecDepth 20000 in
theorem ggX3_foresee_X3_inState : GoodIn wsX3_foresee wsX3_inState := goodIn_r _ [38, 32, 39, 40, 41, 5, 42, 23, 122, 123, 124, 125, 126, 127, 128, 129, 130, 131, 132, 133, 134, 135, 136, 137] (by decide +kernel) (by decide +kernel)
set_option maxRecDepth 20000 in
theorem gX3_foresee_X3_inState : GoodIn wsX3_foresee (wsV RX3 144 RX3 yX3_inState wsX3_inState) := goodIn_app (goodIn_of _ (by decide +kernel)) ggX3_foresee_X3_inState
set_option maxRecDepth 20000 in
theorem ggX3_foresee_X3_burning : GoodIn wsX3_foresee wsX3_burning := goodIn_r _ [109, 32, 56, 57, 58, 5, 59, 39, 40, 41, 42, 23, 122, 123, 124, 125, 126, 127, 128, 129, 130, 131, 132, 133, 134, 135, 136, 137] (by decide +kernel) (by decide +kernel)
set_option maxRecDepth 20000 in
theorem gX3_foresee_X3_burning : GoodIn wsX3_foresee (wsV RX3 160 RX3 yX3_burning wsX3_burning) := goodIn_app (goodIn_of _ (by decide +kernel)) ggX3_foresee_X3_burning
set_option maxRecDepth 20000 in
theorem ggX3_foresee_X3_pairs : GoodIn wsX3_foresee wsX3_pairs := goodIn_r _ [113, 24, 122, 123, 124, 125, 126, 127, 128, 129, 130, 131, 132, 133, 134, 135, 136, 137] (by decide +kernel) (by decide +kernel)
set_option maxRecDepth 20000 in
theorem gX3_foresee_X3_pairs : GoodIn wsX3_foresee (wsV RX3 179 RX3 yX3_pairs wsX3_pairs) := goodIn_app (goodIn_of _ (by decide +kernel)) ggX3_foresee_X3_pairs
set_option maxRecDepth 20000 in
theorem ggX3_foresee_X3_bringBack : GoodIn wsX3_foresee wsX3_bringBack := goodIn_r _ [117, 15, 16, 22, 23, 24, 25, 118, 119, 120, 121, 122, 123, 124, 125, 126, 127, 128, 129, 130, 131, 132, 133, 134, 135, 136, 137] (by decide +kernel) (by decide +kernel)
set_option maxRecDepth 20000 in
theorem gX3_foresee_X3_bringBack : GoodIn wsX3_foresee (wsV RX3 182 RX3 yX3_bringBack wsX3_bringBack) := goodIn_app (goodIn_of _ (by decide +kernel)) ggX3_foresee_X3_bringBack
theorem dX3_foresee_0 : decode cX3_foresee 0 = .ok (.aload_n 0, 1) := by decide +kernel
theorem dX3_foresee_1 : decode cX3_foresee 1 = .ok (.iconst 0, 1) := by decide +kernel
theorem dX3_foresee_2 : decode cX3_foresee 2 = .ok (.putfield 47, 3) := by decide +kernel
theorem dX3_foresee_5 : decode cX3_foresee 5 = .ok (.iload_n 1, 1) := by decide +kernel
theorem dX3_foresee_6 : decode cX3_foresee 6 = .ok (.iconst 1, 1) := by decide +kernel
theorem dX3_foresee_7 : decode cX3_foresee 7 = .ok (.sipush 150, 3) := by decide +kernel
theorem dX3_foresee_10 : decode cX3_foresee 10 = .ok (.invokestatic 54, 3) := by decide +kernel
theorem dX3_foresee_13 : decode cX3_foresee 13 = .ok (.ifCond .ne 9, 3) := by decide +kernel
theorem dX3_foresee_16 : decode cX3_foresee 16 = .ok (.aload_n 0, 1) := by decide +kernel
theorem dX3_foresee_17 : decode cX3_foresee 17 = .ok (.iconst 1, 1) := by decide +kernel
theorem dX3_foresee_18 : decode cX3_foresee 18 = .ok (.invokevirtual 68, 3) := by decide +kernel
theorem dX3_foresee_21 : decode cX3_foresee 21 = .ok (.ireturn, 1) := by decide +kernel
theorem dX3_foresee_22 : decode cX3_foresee 22 = .ok (.iload_n 2, 1) := by decide +kernel
theorem dX3_foresee_23 : decode cX3_foresee 23 = .ok (.iconst 0, 1) := by decide +kernel
theorem dX3_foresee_24 : decode cX3_foresee 24 = .ok (.iconst 2, 1) := by decide +kernel
theorem dX3_foresee_25 : decode cX3_foresee 25 = .ok (.invokestatic 54, 3) := by decide +kernel
theorem dX3_foresee_28 : decode cX3_foresee 28 = .ok (.ifCond .ne 9, 3) := by decide +kernel
theorem dX3_foresee_31 : decode cX3_foresee 31 = .ok (.aload_n 0, 1) := by decide +kernel
theorem dX3_foresee_32 : decode cX3_foresee 32 = .ok (.iconst 2, 1) := by decide +kernel
theorem dX3_foresee_33 : decode cX3_foresee 33 = .ok (.invokevirtual 68, 3) := by decide +kernel
theorem dX3_foresee_36 : decode cX3_foresee 36 = .ok (.ireturn, 1) := by decide +kernel
theorem dX3_foresee_37 : decode cX3_foresee 37 = .ok (.aload_n 0, 1) := by decide +kernel
theorem dX3_foresee_38 : decode cX3_foresee 38 = .ok (.getfield 51, 3) := by decide +kernel
theorem dX3_foresee_41 : decode cX3_foresee 41 = .ok (.ifCond .ne 9, 3) := by decide +kernel
theorem dX3_foresee_44 : decode cX3_foresee 44 = .ok (.aload_n 0, 1) := by decide +kernel
theorem dX3_foresee_45 : decode cX3_foresee 45 = .ok (.iconst 3, 1) := by decide +kernel
theorem dX3_foresee_46 : decode cX3_foresee 46 = .ok (.invokevirtual 68, 3) := by decide +kernel
theorem dX3_foresee_49 : decode cX3_foresee 49 = .ok (.ireturn, 1) := by decide +kernel
theorem dX3_foresee_50 : decode cX3_foresee 50 = .ok (.aload_n 0, 1) := by decide +kernel
theorem dX3_foresee_51 : decode cX3_foresee 51 = .ok (.invokevirtual 175, 3) := by decide +kernel
theorem dX3_foresee_54 : decode cX3_foresee 54 = .ok (.astore_n 3, 1) := by decide +kernel
theorem dX3_foresee_55 : decode cX3_foresee 55 = .ok (.iconst 0, 1) := by decide +kernel
theorem dX3_foresee_56 : decode cX3_foresee 56 = .ok (.istore 4, 2) := by decide +kernel
theorem dX3_foresee_58 : decode cX3_foresee 58 = .ok (.iload 4, 2) := by decide +kernel
theorem dX3_foresee_60 : decode cX3_foresee 60 = .ok (.iload_n 1, 1) := by decide +kernel
theorem dX3_foresee_61 : decode cX3_foresee 61 = .ok (.if_icmp .ge 14, 3) := by decide +kernel
theorem dX3_foresee_64 : decode cX3_foresee 64 = .ok (.aload_n 0, 1) := by decide +kernel
theorem dX3_foresee_65 : decode cX3_foresee 65 = .ok (.invokevirtual 157, 3) := by decide +kernel
theorem dX3_foresee_68 : decode cX3_foresee 68 = .ok (.pop, 1) := by decide +kernel
theorem dX3_foresee_69 : decode cX3_foresee 69 = .ok (.iinc 4 1, 3) := by decide +kernel
theorem dX3_foresee_72 : decode cX3_foresee 72 = .ok (.goto (-14), 3) := by decide +kernel
theorem dX3_foresee_75 : decode cX3_foresee 75 = .ok (.iload_n 2, 1) := by decide +kernel
theorem dX3_foresee_76 : decode cX3_foresee 76 = .ok (.ifCond .ne 11, 3) := by decide +kernel
theorem dX3_foresee_79 : decode cX3_foresee 79 = .ok (.aload_n 0, 1) := by decide +kernel
theorem dX3_foresee_80 : decode cX3_foresee 80 = .ok (.iconst 2, 1) := by decide +kernel
theorem dX3_foresee_81 : decode cX3_foresee 81 = .ok (.invokevirtual 144, 3) := by decide +kernel
theorem dX3_foresee_84 : decode cX3_foresee 84 = .ok (.goto 19, 3) := by decide +kernel
theorem dX3_foresee_87 : decode cX3_foresee 87 = .ok (.iload_n 2, 1) := by decide +kernel
theorem dX3_foresee_88 : decode cX3_foresee 88 = .ok (.iconst 1, 1) := by decide +kernel
theorem dX3_foresee_89 : decode cX3_foresee 89 = .ok (.if_icmp .ne 10, 3) := by decide +kernel
theorem dX3_foresee_92 : decode cX3_foresee 92 = .ok (.aload_n 0, 1) := by decide +kernel
theorem dX3_foresee_93 : decode cX3_foresee 93 = .ok (.invokevirtual 160, 3) := by decide +kernel
theorem dX3_foresee_96 : decode cX3_foresee 96 = .ok (.goto 7, 3) := by decide +kernel
theorem dX3_foresee_99 : decode cX3_foresee 99 = .ok (.aload_n 0, 1) := by decide +kernel
theorem dX3_foresee_100 : decode cX3_foresee 100 = .ok (.invokevirtual 179, 3) := by decide +kernel
theorem dX3_foresee_103 : decode cX3_foresee 103 = .ok (.istore 4, 2) := by decide +kernel
theorem dX3_foresee_105 : decode cX3_foresee 105 = .ok (.aload_n 0, 1) := by decide +kernel
theorem dX3_foresee_106 : decode cX3_foresee 106 = .ok (.aload_n 3, 1) := by decide +kernel
theorem dX3_foresee_107 : decode cX3_foresee 107 = .ok (.invokevirtual 182, 3) := by decide +kernel
theorem dX3_foresee_110 : decode cX3_foresee 110 = .ok (.iload 4, 2) := by decide +kernel
theorem dX3_foresee_112 : decode cX3_foresee 112 = .ok (.ireturn, 1) := by decide +kernel
set_option maxRecDepth 20000 in
theorem ggX3_home_X3_isWalker : GoodIn wsX3_home wsX3_isWalker := goodIn_r _ [7, 8, 9, 10, 6, 11, 118, 119, 120, 121, 122, 123, 124, 125, 126, 127, 128, 129, 130, 131, 132, 133] (by decide +kernel) (by decide +kernel)
set_option maxRecDepth 20000 in
theorem gX3_home_X3_isWalker : GoodIn wsX3_home (wsV RX3 86 RX3 yX3_isWalker wsX3_isWalker) := goodIn_app (goodIn_of _ (by decide +kernel)) ggX3_home_X3_isWalker
set_option maxRecDepth 20000 in
theorem ggX3_home_X3_fail : GoodIn wsX3_home wsX3_fail := goodIn_r _ [15, 1, 118, 119, 120, 121, 122, 123, 124, 125, 126, 127, 128, 129, 130, 131, 132, 133] (by decide +kernel) (by decide +kernel)
set_option maxRecDepth 20000 in
theorem gX3_home_X3_fail : GoodIn wsX3_home (wsV RX3 68 RX3 yX3_fail wsX3_fail) := goodIn_app (goodIn_of _ (by decide +kernel)) ggX3_home_X3_fail
set_option maxRecDepth 20000 in
theorem ggX3_home_X3_pe : GoodIn wsX3_home wsX3_pe := goodIn_r _ [19, 20, 118, 119, 120, 121, 122, 123, 124, 125, 126, 127, 128, 129, 130, 131, 132, 133] (by decide +kernel) (by decide +kernel)
set_option maxRecDepth 20000 in
theorem gX3_home_X3_pe : GoodIn wsX3_home (wsV RX3 89 RX3 yX3_pe wsX3_pe) := goodIn_app (goodIn_of _ (by decide +kernel)) ggX3_home_X3_pe
set_option maxRecDepth 20000 in
theorem ggX3_home_X3_kept : GoodIn wsX3_home wsX3_kept := goodIn_r _ [24, 25, 26, 27, 28, 29, 30, 31, 32, 20, 33, 34, 118, 119, 120, 121, 122, 123, 124, 125, 126, 127, 128, 129, 130, 131, 132, 133] (by decide +kernel) (by decide +kernel)
set_option maxRecDepth 20000 in
theorem gX3_home_X3_kept : GoodIn wsX3_home (wsV RX3 175 RX3 yX3_kept wsX3_kept) := goodIn_app (goodIn_of _ (by decide +kernel)) ggX3_home_X3_kept
set_option maxRecDepth 20000 in
theorem ggX3_home_X3_stepOn : GoodIn wsX3_home wsX3_stepOn := goodIn_r _ [38, 39, 34, 40, 8, 41, 42, 43, 44, 45, 6, 46, 16, 17, 18, 19, 20, 47, 48, 49, 50, 51, 52, 53, 54, 55, 56, 57, 58, 59, 60, 61, 62, 63, 64, 65, 66, 67, 68, 69, 70, 71, 72, 73, 74, 75, 76, 77, 78, 79, 80, 33, 81, 82, 83, 84, 85, 86, 87, 88, 89, 26, 90, 91, 92, 93, 94, 95, 96, 97, 98, 99, 100, 101, 2, 102, 103, 104, 105, 106, 107, 108, 109, 32, 118, 119, 120, 121, 122, 123, 124, 125, 126, 127, 128, 129, 130, 131, 132, 133] (by decide +kernel) (by decide +kernel)
set_option maxRecDepth 20000 in
theorem gX3_home_X3_stepOn : GoodIn wsX3_home (wsV RX3 157 RX3 yX3_stepOn wsX3_stepOn) := goodIn_app (goodIn_of _ (by decide +kernel)) ggX3_home_X3_stepOn
set_option maxRecDepth 20000 in
theorem ggX3_home_X3_bringBack : GoodIn wsX3_home wsX3_bringBack := goodIn_r _ [113, 25, 26, 32, 20, 33, 34, 114, 115, 116, 117, 118, 119, 120, 121, 122, 123, 124, 125, 126, 127, 128, 129, 130, 131, 132, 133] (by decide +kernel) (by decide +kernel)
set_option maxRecDepth 20000 in
theorem gX3_home_X3_bringBack : GoodIn wsX3_home (wsV RX3 182 RX3 yX3_bringBack wsX3_bringBack) := goodIn_app (goodIn_of _ (by decide +kernel)) ggX3_home_X3_bringBack
theorem dX3_home_0 : decode cX3_home 0 = .ok (.aload_n 0, 1) := by decide +kernel
theorem dX3_home_1 : decode cX3_home 1 = .ok (.iconst 0, 1) := by decide +kernel
theorem dX3_home_2 : decode cX3_home 2 = .ok (.putfield 47, 3) := by decide +kernel
theorem dX3_home_5 : decode cX3_home 5 = .ok (.aload_n 0, 1) := by decide +kernel
theorem dX3_home_6 : decode cX3_home 6 = .ok (.iload_n 1, 1) := by decide +kernel
theorem dX3_home_7 : decode cX3_home 7 = .ok (.invokevirtual 86, 3) := by decide +kernel
theorem dX3_home_10 : decode cX3_home 10 = .ok (.ifCond .ne 9, 3) := by decide +kernel
theorem dX3_home_13 : decode cX3_home 13 = .ok (.aload_n 0, 1) := by decide +kernel
theorem dX3_home_14 : decode cX3_home 14 = .ok (.iconst 1, 1) := by decide +kernel
theorem dX3_home_15 : decode cX3_home 15 = .ok (.invokevirtual 68, 3) := by decide +kernel
theorem dX3_home_18 : decode cX3_home 18 = .ok (.ireturn, 1) := by decide +kernel
theorem dX3_home_19 : decode cX3_home 19 = .ok (.aload_n 0, 1) := by decide +kernel
theorem dX3_home_20 : decode cX3_home 20 = .ok (.iload_n 1, 1) := by decide +kernel
theorem dX3_home_21 : decode cX3_home 21 = .ok (.iconst 4, 1) := by decide +kernel
theorem dX3_home_22 : decode cX3_home 22 = .ok (.invokevirtual 89, 3) := by decide +kernel
theorem dX3_home_25 : decode cX3_home 25 = .ok (.iconst 2, 1) := by decide +kernel
theorem dX3_home_26 : decode cX3_home 26 = .ok (.if_icmp .ne 5, 3) := by decide +kernel
theorem dX3_home_29 : decode cX3_home 29 = .ok (.iconst 0, 1) := by decide +kernel
theorem dX3_home_30 : decode cX3_home 30 = .ok (.ireturn, 1) := by decide +kernel
theorem dX3_home_31 : decode cX3_home 31 = .ok (.aload_n 0, 1) := by decide +kernel
theorem dX3_home_32 : decode cX3_home 32 = .ok (.getfield 51, 3) := by decide +kernel
theorem dX3_home_35 : decode cX3_home 35 = .ok (.ifCond .ne 5, 3) := by decide +kernel
theorem dX3_home_38 : decode cX3_home 38 = .ok (.iconst (-1), 1) := by decide +kernel
theorem dX3_home_39 : decode cX3_home 39 = .ok (.ireturn, 1) := by decide +kernel
theorem dX3_home_40 : decode cX3_home 40 = .ok (.aload_n 0, 1) := by decide +kernel
theorem dX3_home_41 : decode cX3_home 41 = .ok (.invokevirtual 175, 3) := by decide +kernel
theorem dX3_home_44 : decode cX3_home 44 = .ok (.astore_n 2, 1) := by decide +kernel
theorem dX3_home_45 : decode cX3_home 45 = .ok (.iconst 0, 1) := by decide +kernel
theorem dX3_home_46 : decode cX3_home 46 = .ok (.istore_n 3, 1) := by decide +kernel
theorem dX3_home_47 : decode cX3_home 47 = .ok (.iload_n 3, 1) := by decide +kernel
theorem dX3_home_48 : decode cX3_home 48 = .ok (.sipush 300, 3) := by decide +kernel
theorem dX3_home_51 : decode cX3_home 51 = .ok (.if_icmp .ge 24, 3) := by decide +kernel
theorem dX3_home_54 : decode cX3_home 54 = .ok (.aload_n 0, 1) := by decide +kernel
theorem dX3_home_55 : decode cX3_home 55 = .ok (.iload_n 1, 1) := by decide +kernel
theorem dX3_home_56 : decode cX3_home 56 = .ok (.iconst 4, 1) := by decide +kernel
theorem dX3_home_57 : decode cX3_home 57 = .ok (.invokevirtual 89, 3) := by decide +kernel
theorem dX3_home_60 : decode cX3_home 60 = .ok (.iconst 2, 1) := by decide +kernel
theorem dX3_home_61 : decode cX3_home 61 = .ok (.if_icmp .eq 14, 3) := by decide +kernel
theorem dX3_home_64 : decode cX3_home 64 = .ok (.aload_n 0, 1) := by decide +kernel
theorem dX3_home_65 : decode cX3_home 65 = .ok (.invokevirtual 157, 3) := by decide +kernel
theorem dX3_home_68 : decode cX3_home 68 = .ok (.pop, 1) := by decide +kernel
theorem dX3_home_69 : decode cX3_home 69 = .ok (.iinc 3 1, 3) := by decide +kernel
theorem dX3_home_72 : decode cX3_home 72 = .ok (.goto (-25), 3) := by decide +kernel
theorem dX3_home_75 : decode cX3_home 75 = .ok (.aload_n 0, 1) := by decide +kernel
theorem dX3_home_76 : decode cX3_home 76 = .ok (.iload_n 1, 1) := by decide +kernel
theorem dX3_home_77 : decode cX3_home 77 = .ok (.iconst 4, 1) := by decide +kernel
theorem dX3_home_78 : decode cX3_home 78 = .ok (.invokevirtual 89, 3) := by decide +kernel
theorem dX3_home_81 : decode cX3_home 81 = .ok (.iconst 2, 1) := by decide +kernel
theorem dX3_home_82 : decode cX3_home 82 = .ok (.if_icmp .eq 5, 3) := by decide +kernel
theorem dX3_home_85 : decode cX3_home 85 = .ok (.iconst (-1), 1) := by decide +kernel
theorem dX3_home_86 : decode cX3_home 86 = .ok (.istore_n 3, 1) := by decide +kernel
theorem dX3_home_87 : decode cX3_home 87 = .ok (.aload_n 0, 1) := by decide +kernel
theorem dX3_home_88 : decode cX3_home 88 = .ok (.aload_n 2, 1) := by decide +kernel
theorem dX3_home_89 : decode cX3_home 89 = .ok (.invokevirtual 182, 3) := by decide +kernel
theorem dX3_home_92 : decode cX3_home 92 = .ok (.iload_n 3, 1) := by decide +kernel
theorem dX3_home_93 : decode cX3_home 93 = .ok (.ireturn, 1) := by decide +kernel
set_option maxRecDepth 20000 in
theorem ggX3_hears_X3_isWalker : GoodIn wsX3_hears wsX3_isWalker := goodIn_r _ [8, 9, 10, 11, 7, 12, 122, 123, 124, 125, 126, 127, 128, 129, 130, 131, 132, 133, 134, 135, 136, 137] (by decide +kernel) (by decide +kernel)
set_option maxRecDepth 20000 in
theorem gX3_hears_X3_isWalker : GoodIn wsX3_hears (wsV RX3 86 RX3 yX3_isWalker wsX3_isWalker) := goodIn_app (goodIn_of _ (by decide +kernel)) ggX3_hears_X3_isWalker
set_option maxRecDepth 20000 in
theorem ggX3_hears_X3_isSong : GoodIn wsX3_hears wsX3_isSong := goodIn_r _ [16, 17, 10, 11, 7, 12, 122, 123, 124, 125, 126, 127, 128, 129, 130, 131, 132, 133, 134, 135, 136, 137] (by decide +kernel) (by decide +kernel)
set_option maxRecDepth 20000 in
theorem gX3_hears_X3_isSong : GoodIn wsX3_hears (wsV RX3 101 RX3 yX3_isSong wsX3_isSong) := goodIn_app (goodIn_of _ (by decide +kernel)) ggX3_hears_X3_isSong
set_option maxRecDepth 20000 in
theorem ggX3_hears_X3_fail : GoodIn wsX3_hears wsX3_fail := goodIn_r _ [21, 1, 122, 123, 124, 125, 126, 127, 128, 129, 130, 131, 132, 133, 134, 135, 136, 137] (by decide +kernel) (by decide +kernel)
set_option maxRecDepth 20000 in
theorem gX3_hears_X3_fail : GoodIn wsX3_hears (wsV RX3 68 RX3 yX3_fail wsX3_fail) := goodIn_app (goodIn_of _ (by decide +kernel)) ggX3_hears_X3_fail
set_option maxRecDepth 20000 in
theorem ggX3_hears_X3_kept : GoodIn wsX3_hears wsX3_kept := goodIn_r _ [25, 26, 27, 28, 29, 30, 31, 32, 33, 34, 2, 35, 122, 123, 124, 125, 126, 127, 128, 129, 130, 131, 132, 133, 134, 135, 136, 137] (by decide +kernel) (by decide +kernel)
set_option maxRecDepth 20000 in
theorem gX3_hears_X3_kept : GoodIn wsX3_hears (wsV RX3 175 RX3 yX3_kept wsX3_kept) := goodIn_app (goodIn_of _ (by decide +kernel)) ggX3_hears_X3_kept
set_option maxRecDepth 20000 in
theorem ggX3_hears_X3_stepOn : GoodIn wsX3_hears wsX3_stepOn := goodIn_r _ [39, 40, 35, 41, 9, 42, 43, 44, 45, 46, 7, 47, 48, 49, 50, 51, 34, 52, 53, 54, 55, 56, 57, 58, 59, 60, 61, 62, 63, 64, 65, 66, 67, 68, 69, 70, 71, 72, 73, 74, 75, 76, 77, 78, 79, 80, 81, 82, 83, 17, 84, 2, 85, 86, 87, 88, 89, 90, 91, 92, 93, 27, 94, 95, 96, 97, 98, 99, 100, 101, 102, 103, 104, 105, 3, 106, 107, 108, 109, 110, 111, 112, 113, 33, 122, 123, 124, 125, 126, 127, 128, 129, 130, 131, 132, 133, 134, 135, 136, 137] (by decide +kernel) (by decide +kernel)
set_option maxRecDepth 20000 in
theorem gX3_hears_X3_stepOn : GoodIn wsX3_hears (wsV RX3 157 RX3 yX3_stepOn wsX3_stepOn) := goodIn_app (goodIn_of _ (by decide +kernel)) ggX3_hears_X3_stepOn
set_option maxRecDepth 20000 in
theorem ggX3_hears_X3_bringBack : GoodIn wsX3_hears wsX3_bringBack := goodIn_r _ [117, 26, 27, 33, 34, 2, 35, 118, 119, 120, 121, 122, 123, 124, 125, 126, 127, 128, 129, 130, 131, 132, 133, 134, 135, 136, 137] (by decide +kernel) (by decide +kernel)
set_option maxRecDepth 20000 in
theorem gX3_hears_X3_bringBack : GoodIn wsX3_hears (wsV RX3 182 RX3 yX3_bringBack wsX3_bringBack) := goodIn_app (goodIn_of _ (by decide +kernel)) ggX3_hears_X3_bringBack
theorem dX3_hears_0 : decode cX3_hears 0 = .ok (.aload_n 0, 1) := by decide +kernel
theorem dX3_hears_1 : decode cX3_hears 1 = .ok (.iconst 0, 1) := by decide +kernel
theorem dX3_hears_2 : decode cX3_hears 2 = .ok (.putfield 47, 3) := by decide +kernel
theorem dX3_hears_5 : decode cX3_hears 5 = .ok (.aload_n 0, 1) := by decide +kernel
theorem dX3_hears_6 : decode cX3_hears 6 = .ok (.iload_n 1, 1) := by decide +kernel
theorem dX3_hears_7 : decode cX3_hears 7 = .ok (.invokevirtual 86, 3) := by decide +kernel
theorem dX3_hears_10 : decode cX3_hears 10 = .ok (.ifCond .eq 11, 3) := by decide +kernel
theorem dX3_hears_13 : decode cX3_hears 13 = .ok (.aload_n 0, 1) := by decide +kernel
theorem dX3_hears_14 : decode cX3_hears 14 = .ok (.iload_n 2, 1) := by decide +kernel
theorem dX3_hears_15 : decode cX3_hears 15 = .ok (.invokevirtual 101, 3) := by decide +kernel
theorem dX3_hears_18 : decode cX3_hears 18 = .ok (.ifCond .ne 9, 3) := by decide +kernel
theorem dX3_hears_21 : decode cX3_hears 21 = .ok (.aload_n 0, 1) := by decide +kernel
theorem dX3_hears_22 : decode cX3_hears 22 = .ok (.iconst 1, 1) := by decide +kernel
theorem dX3_hears_23 : decode cX3_hears 23 = .ok (.invokevirtual 68, 3) := by decide +kernel
theorem dX3_hears_26 : decode cX3_hears 26 = .ok (.ireturn, 1) := by decide +kernel
theorem dX3_hears_27 : decode cX3_hears 27 = .ok (.bipush 6, 2) := by decide +kernel
theorem dX3_hears_29 : decode cX3_hears 29 = .ok (.iload_n 1, 1) := by decide +kernel
theorem dX3_hears_30 : decode cX3_hears 30 = .ok (.imul, 1) := by decide +kernel
theorem dX3_hears_31 : decode cX3_hears 31 = .ok (.iload_n 2, 1) := by decide +kernel
theorem dX3_hears_32 : decode cX3_hears 32 = .ok (.iadd, 1) := by decide +kernel
theorem dX3_hears_33 : decode cX3_hears 33 = .ok (.istore_n 3, 1) := by decide +kernel
theorem dX3_hears_34 : decode cX3_hears 34 = .ok (.aload_n 0, 1) := by decide +kernel
theorem dX3_hears_35 : decode cX3_hears 35 = .ok (.getfield 25, 3) := by decide +kernel
theorem dX3_hears_38 : decode cX3_hears 38 = .ok (.iload_n 3, 1) := by decide +kernel
theorem dX3_hears_39 : decode cX3_hears 39 = .ok (.iaload, 1) := by decide +kernel
theorem dX3_hears_40 : decode cX3_hears 40 = .ok (.ifCond .le 5, 3) := by decide +kernel
theorem dX3_hears_43 : decode cX3_hears 43 = .ok (.iconst 0, 1) := by decide +kernel
theorem dX3_hears_44 : decode cX3_hears 44 = .ok (.ireturn, 1) := by decide +kernel
theorem dX3_hears_45 : decode cX3_hears 45 = .ok (.aload_n 0, 1) := by decide +kernel
theorem dX3_hears_46 : decode cX3_hears 46 = .ok (.getfield 51, 3) := by decide +kernel
theorem dX3_hears_49 : decode cX3_hears 49 = .ok (.ifCond .ne 5, 3) := by decide +kernel
theorem dX3_hears_52 : decode cX3_hears 52 = .ok (.iconst (-1), 1) := by decide +kernel
theorem dX3_hears_53 : decode cX3_hears 53 = .ok (.ireturn, 1) := by decide +kernel
theorem dX3_hears_54 : decode cX3_hears 54 = .ok (.aload_n 0, 1) := by decide +kernel
theorem dX3_hears_55 : decode cX3_hears 55 = .ok (.invokevirtual 175, 3) := by decide +kernel
theorem dX3_hears_58 : decode cX3_hears 58 = .ok (.astore 4, 2) := by decide +kernel
theorem dX3_hears_60 : decode cX3_hears 60 = .ok (.iconst 0, 1) := by decide +kernel
theorem dX3_hears_61 : decode cX3_hears 61 = .ok (.istore 5, 2) := by decide +kernel
theorem dX3_hears_63 : decode cX3_hears 63 = .ok (.iload 5, 2) := by decide +kernel
theorem dX3_hears_65 : decode cX3_hears 65 = .ok (.sipush 150, 3) := by decide +kernel
theorem dX3_hears_68 : decode cX3_hears 68 = .ok (.if_icmp .ge 23, 3) := by decide +kernel
theorem dX3_hears_71 : decode cX3_hears 71 = .ok (.aload_n 0, 1) := by decide +kernel
theorem dX3_hears_72 : decode cX3_hears 72 = .ok (.getfield 25, 3) := by decide +kernel
theorem dX3_hears_75 : decode cX3_hears 75 = .ok (.iload_n 3, 1) := by decide +kernel
theorem dX3_hears_76 : decode cX3_hears 76 = .ok (.iaload, 1) := by decide +kernel
theorem dX3_hears_77 : decode cX3_hears 77 = .ok (.ifCond .ne 14, 3) := by decide +kernel
theorem dX3_hears_80 : decode cX3_hears 80 = .ok (.aload_n 0, 1) := by decide +kernel
theorem dX3_hears_81 : decode cX3_hears 81 = .ok (.invokevirtual 157, 3) := by decide +kernel
theorem dX3_hears_84 : decode cX3_hears 84 = .ok (.pop, 1) := by decide +kernel
theorem dX3_hears_85 : decode cX3_hears 85 = .ok (.iinc 5 1, 3) := by decide +kernel
theorem dX3_hears_88 : decode cX3_hears 88 = .ok (.goto (-25), 3) := by decide +kernel
theorem dX3_hears_91 : decode cX3_hears 91 = .ok (.aload_n 0, 1) := by decide +kernel
theorem dX3_hears_92 : decode cX3_hears 92 = .ok (.getfield 25, 3) := by decide +kernel
theorem dX3_hears_95 : decode cX3_hears 95 = .ok (.iload_n 3, 1) := by decide +kernel
theorem dX3_hears_96 : decode cX3_hears 96 = .ok (.iaload, 1) := by decide +kernel
theorem dX3_hears_97 : decode cX3_hears 97 = .ok (.ifCond .ne 6, 3) := by decide +kernel
theorem dX3_hears_100 : decode cX3_hears 100 = .ok (.iconst (-1), 1) := by decide +kernel
theorem dX3_hears_101 : decode cX3_hears 101 = .ok (.istore 5, 2) := by decide +kernel
theorem dX3_hears_103 : decode cX3_hears 103 = .ok (.aload_n 0, 1) := by decide +kernel
theorem dX3_hears_104 : decode cX3_hears 104 = .ok (.aload 4, 2) := by decide +kernel
theorem dX3_hears_106 : decode cX3_hears 106 = .ok (.invokevirtual 182, 3) := by decide +kernel
theorem dX3_hears_109 : decode cX3_hears 109 = .ok (.iload 5, 2) := by decide +kernel
theorem dX3_hears_111 : decode cX3_hears 111 = .ok (.ireturn, 1) := by decide +kernel
set_option maxRecDepth 20000 in
theorem ggX3_advise_X3_isIn : GoodIn wsX3_advise wsX3_isIn := goodIn_r _ [7] (by decide +kernel) (by decide +kernel)
set_option maxRecDepth 20000 in
theorem gX3_advise_X3_isIn : GoodIn wsX3_advise (va_wsS RX3 54 yX3_isIn wsX3_isIn) := goodIn_app (goodIn_of _ (by decide +kernel)) ggX3_advise_X3_isIn
set_option maxRecDepth 20000 in
theorem ggX3_advise_X3_fail : GoodIn wsX3_advise wsX3_fail := goodIn_r _ [11, 1, 114, 115, 116, 117, 118, 119, 120, 121, 122, 123, 124, 125, 126, 127, 128, 129] (by decide +kernel) (by decide +kernel)
set_option maxRecDepth 20000 in
theorem gX3_advise_X3_fail : GoodIn wsX3_advise (wsV RX3 68 RX3 yX3_fail wsX3_fail) := goodIn_app (goodIn_of _ (by decide +kernel)) ggX3_advise_X3_fail
set_option maxRecDepth 20000 in
theorem ggX3_advise_X3_kept : GoodIn wsX3_advise wsX3_kept := goodIn_r _ [15, 16, 17, 18, 19, 20, 21, 22, 3, 23, 24, 25, 114, 115, 116, 117, 118, 119, 120, 121, 122, 123, 124, 125, 126, 127, 128, 129] (by decide +kernel) (by decide +kernel)
set_option maxRecDepth 20000 in
theorem gX3_advise_X3_kept : GoodIn wsX3_advise (wsV RX3 175 RX3 yX3_kept wsX3_kept) := goodIn_app (goodIn_of _ (by decide +kernel)) ggX3_advise_X3_kept
set_option maxRecDepth 20000 in
theorem ggX3_advise_X3_stepOn : GoodIn wsX3_advise wsX3_stepOn := goodIn_r _ [29, 30, 25, 31, 32, 33, 34, 35, 36, 37, 6, 38, 39, 40, 41, 42, 23, 43, 44, 45, 46, 47, 48, 49, 50, 51, 52, 53, 54, 55, 56, 57, 58, 59, 60, 61, 62, 63, 64, 65, 66, 67, 68, 69, 70, 71, 72, 73, 74, 75, 76, 24, 77, 78, 79, 80, 81, 82, 83, 84, 85, 17, 86, 87, 88, 89, 90, 91, 92, 93, 94, 95, 96, 97, 2, 98, 99, 100, 101, 102, 103, 104, 105, 3, 114, 115, 116, 117, 118, 119, 120, 121, 122, 123, 124, 125, 126, 127, 128, 129] (by decide +kernel) (by decide +kernel)
set_option maxRecDepth 20000 in
theorem gX3_advise_X3_stepOn : GoodIn wsX3_advise (wsV RX3 157 RX3 yX3_stepOn wsX3_stepOn) := goodIn_app (goodIn_of _ (by decide +kernel)) ggX3_advise_X3_stepOn
set_option maxRecDepth 20000 in
theorem ggX3_advise_X3_inState : GoodIn wsX3_advise wsX3_inState := goodIn_r _ [38, 32, 39, 40, 41, 6, 42, 23, 114, 115, 116, 117, 118, 119, 120, 121, 122, 123, 124, 125, 126, 127, 128, 129] (by decide +kernel) (by decide +kernel)
set_option maxRecDepth 20000 in
theorem gX3_advise_X3_inState : GoodIn wsX3_advise (wsV RX3 144 RX3 yX3_inState wsX3_inState) := goodIn_app (goodIn_of _ (by decide +kernel)) ggX3_advise_X3_inState
set_option maxRecDepth 20000 in
theorem ggX3_advise_X3_bringBack : GoodIn wsX3_advise wsX3_bringBack := goodIn_r _ [109, 16, 17, 3, 23, 24, 25, 110, 111, 112, 113, 114, 115, 116, 117, 118, 119, 120, 121, 122, 123, 124, 125, 126, 127, 128, 129] (by decide +kernel) (by decide +kernel)
set_option maxRecDepth 20000 in
theorem gX3_advise_X3_bringBack : GoodIn wsX3_advise (wsV RX3 182 RX3 yX3_bringBack wsX3_bringBack) := goodIn_app (goodIn_of _ (by decide +kernel)) ggX3_advise_X3_bringBack
theorem dX3_advise_0 : decode cX3_advise 0 = .ok (.aload_n 0, 1) := by decide +kernel
theorem dX3_advise_1 : decode cX3_advise 1 = .ok (.iconst 0, 1) := by decide +kernel
theorem dX3_advise_2 : decode cX3_advise 2 = .ok (.putfield 47, 3) := by decide +kernel
theorem dX3_advise_5 : decode cX3_advise 5 = .ok (.iload_n 1, 1) := by decide +kernel
theorem dX3_advise_6 : decode cX3_advise 6 = .ok (.iconst 0, 1) := by decide +kernel
theorem dX3_advise_7 : decode cX3_advise 7 = .ok (.iconst 1, 1) := by decide +kernel
theorem dX3_advise_8 : decode cX3_advise 8 = .ok (.invokestatic 54, 3) := by decide +kernel
theorem dX3_advise_11 : decode cX3_advise 11 = .ok (.ifCond .ne 9, 3) := by decide +kernel
theorem dX3_advise_14 : decode cX3_advise 14 = .ok (.aload_n 0, 1) := by decide +kernel
theorem dX3_advise_15 : decode cX3_advise 15 = .ok (.iconst 1, 1) := by decide +kernel
theorem dX3_advise_16 : decode cX3_advise 16 = .ok (.invokevirtual 68, 3) := by decide +kernel
theorem dX3_advise_19 : decode cX3_advise 19 = .ok (.ireturn, 1) := by decide +kernel
theorem dX3_advise_20 : decode cX3_advise 20 = .ok (.iload_n 2, 1) := by decide +kernel
theorem dX3_advise_21 : decode cX3_advise 21 = .ok (.iconst 1, 1) := by decide +kernel
theorem dX3_advise_22 : decode cX3_advise 22 = .ok (.bipush 100, 2) := by decide +kernel
theorem dX3_advise_24 : decode cX3_advise 24 = .ok (.invokestatic 54, 3) := by decide +kernel
theorem dX3_advise_27 : decode cX3_advise 27 = .ok (.ifCond .ne 9, 3) := by decide +kernel
theorem dX3_advise_30 : decode cX3_advise 30 = .ok (.aload_n 0, 1) := by decide +kernel
theorem dX3_advise_31 : decode cX3_advise 31 = .ok (.iconst 2, 1) := by decide +kernel
theorem dX3_advise_32 : decode cX3_advise 32 = .ok (.invokevirtual 68, 3) := by decide +kernel
theorem dX3_advise_35 : decode cX3_advise 35 = .ok (.ireturn, 1) := by decide +kernel
theorem dX3_advise_36 : decode cX3_advise 36 = .ok (.aload_n 0, 1) := by decide +kernel
theorem dX3_advise_37 : decode cX3_advise 37 = .ok (.getfield 51, 3) := by decide +kernel
theorem dX3_advise_40 : decode cX3_advise 40 = .ok (.ifCond .ne 9, 3) := by decide +kernel
theorem dX3_advise_43 : decode cX3_advise 43 = .ok (.aload_n 0, 1) := by decide +kernel
theorem dX3_advise_44 : decode cX3_advise 44 = .ok (.iconst 3, 1) := by decide +kernel
theorem dX3_advise_45 : decode cX3_advise 45 = .ok (.invokevirtual 68, 3) := by decide +kernel
theorem dX3_advise_48 : decode cX3_advise 48 = .ok (.ireturn, 1) := by decide +kernel
theorem dX3_advise_49 : decode cX3_advise 49 = .ok (.aload_n 0, 1) := by decide +kernel
theorem dX3_advise_50 : decode cX3_advise 50 = .ok (.invokevirtual 175, 3) := by decide +kernel
theorem dX3_advise_53 : decode cX3_advise 53 = .ok (.astore_n 3, 1) := by decide +kernel
theorem dX3_advise_54 : decode cX3_advise 54 = .ok (.iconst (-1), 1) := by decide +kernel
theorem dX3_advise_55 : decode cX3_advise 55 = .ok (.istore 4, 2) := by decide +kernel
theorem dX3_advise_57 : decode cX3_advise 57 = .ok (.iconst (-1), 1) := by decide +kernel
theorem dX3_advise_58 : decode cX3_advise 58 = .ok (.istore 5, 2) := by decide +kernel
theorem dX3_advise_60 : decode cX3_advise 60 = .ok (.iconst (-1), 1) := by decide +kernel
theorem dX3_advise_61 : decode cX3_advise 61 = .ok (.istore 6, 2) := by decide +kernel
theorem dX3_advise_63 : decode cX3_advise 63 = .ok (.iload 6, 2) := by decide +kernel
theorem dX3_advise_65 : decode cX3_advise 65 = .ok (.aload_n 0, 1) := by decide +kernel
theorem dX3_advise_66 : decode cX3_advise 66 = .ok (.getfield 51, 3) := by decide +kernel
theorem dX3_advise_69 : decode cX3_advise 69 = .ok (.if_icmp .ge 67, 3) := by decide +kernel
theorem dX3_advise_72 : decode cX3_advise 72 = .ok (.aload_n 0, 1) := by decide +kernel
theorem dX3_advise_73 : decode cX3_advise 73 = .ok (.getfield 13, 3) := by decide +kernel
theorem dX3_advise_76 : decode cX3_advise 76 = .ok (.iload_n 1, 1) := by decide +kernel
theorem dX3_advise_77 : decode cX3_advise 77 = .ok (.iload 6, 2) := by decide +kernel
theorem dX3_advise_79 : decode cX3_advise 79 = .ok (.iastore, 1) := by decide +kernel
theorem dX3_advise_80 : decode cX3_advise 80 = .ok (.iconst 0, 1) := by decide +kernel
theorem dX3_advise_81 : decode cX3_advise 81 = .ok (.istore 7, 2) := by decide +kernel
theorem dX3_advise_83 : decode cX3_advise 83 = .ok (.iload 7, 2) := by decide +kernel
theorem dX3_advise_85 : decode cX3_advise 85 = .ok (.iload_n 2, 1) := by decide +kernel
theorem dX3_advise_86 : decode cX3_advise 86 = .ok (.if_icmp .ge 14, 3) := by decide +kernel
theorem dX3_advise_89 : decode cX3_advise 89 = .ok (.aload_n 0, 1) := by decide +kernel
theorem dX3_advise_90 : decode cX3_advise 90 = .ok (.invokevirtual 157, 3) := by decide +kernel
theorem dX3_advise_93 : decode cX3_advise 93 = .ok (.pop, 1) := by decide +kernel
theorem dX3_advise_94 : decode cX3_advise 94 = .ok (.iinc 7 1, 3) := by decide +kernel
theorem dX3_advise_97 : decode cX3_advise 97 = .ok (.goto (-14), 3) := by decide +kernel
theorem dX3_advise_100 : decode cX3_advise 100 = .ok (.aload_n 0, 1) := by decide +kernel
theorem dX3_advise_101 : decode cX3_advise 101 = .ok (.iconst 2, 1) := by decide +kernel
theorem dX3_advise_102 : decode cX3_advise 102 = .ok (.invokevirtual 144, 3) := by decide +kernel
theorem dX3_advise_105 : decode cX3_advise 105 = .ok (.istore 7, 2) := by decide +kernel
theorem dX3_advise_107 : decode cX3_advise 107 = .ok (.aload_n 0, 1) := by decide +kernel
theorem dX3_advise_108 : decode cX3_advise 108 = .ok (.aload_n 3, 1) := by decide +kernel
theorem dX3_advise_109 : decode cX3_advise 109 = .ok (.invokevirtual 182, 3) := by decide +kernel
theorem dX3_advise_112 : decode cX3_advise 112 = .ok (.iload 7, 2) := by decide +kernel
theorem dX3_advise_114 : decode cX3_advise 114 = .ok (.iload 5, 2) := by decide +kernel
theorem dX3_advise_116 : decode cX3_advise 116 = .ok (.if_icmp .gt 6, 3) := by decide +kernel
theorem dX3_advise_119 : decode cX3_advise 119 = .ok (.goto 11, 3) := by decide +kernel
theorem dX3_advise_122 : decode cX3_advise 122 = .ok (.iload 6, 2) := by decide +kernel
theorem dX3_advise_124 : decode cX3_advise 124 = .ok (.istore 4, 2) := by decide +kernel
theorem dX3_advise_126 : decode cX3_advise 126 = .ok (.iload 7, 2) := by decide +kernel
theorem dX3_advise_128 : decode cX3_advise 128 = .ok (.istore 5, 2) := by decide +kernel
theorem dX3_advise_130 : decode cX3_advise 130 = .ok (.iinc 6 1, 3) := by decide +kernel
theorem dX3_advise_133 : decode cX3_advise 133 = .ok (.goto (-70), 3) := by decide +kernel
theorem dX3_advise_136 : decode cX3_advise 136 = .ok (.iload 4, 2) := by decide +kernel
theorem dX3_advise_138 : decode cX3_advise 138 = .ok (.ireturn, 1) := by decide +kernel
set_option maxRecDepth 20000 in
theorem ggX3_light_X3_inState : GoodIn wsX3_light wsX3_inState := goodIn_r _ [6, 7, 8, 9, 10, 5, 11, 12, 21, 22, 23, 24, 25, 26, 27, 28, 29, 30, 31, 32, 33, 34, 35, 36] (by decide +kernel) (by decide +kernel)
set_option maxRecDepth 20000 in
theorem gX3_light_X3_inState : GoodIn wsX3_light (wsV RX3 144 RX3 yX3_inState wsX3_inState) := goodIn_app (goodIn_of _ (by decide +kernel)) ggX3_light_X3_inState
set_option maxRecDepth 20000 in
theorem ggX3_light_X3_burning : GoodIn wsX3_light wsX3_burning := goodIn_r _ [16, 7, 17, 18, 19, 5, 20, 8, 9, 10, 11, 12, 21, 22, 23, 24, 25, 26, 27, 28, 29, 30, 31, 32, 33, 34, 35, 36] (by decide +kernel) (by decide +kernel)
set_option maxRecDepth 20000 in
theorem gX3_light_X3_burning : GoodIn wsX3_light (wsV RX3 160 RX3 yX3_burning wsX3_burning) := goodIn_app (goodIn_of _ (by decide +kernel)) ggX3_light_X3_burning
theorem dX3_light_0 : decode cX3_light 0 = .ok (.aload_n 0, 1) := by decide +kernel
theorem dX3_light_1 : decode cX3_light 1 = .ok (.iconst 0, 1) := by decide +kernel
theorem dX3_light_2 : decode cX3_light 2 = .ok (.putfield 47, 3) := by decide +kernel
theorem dX3_light_5 : decode cX3_light 5 = .ok (.aload_n 0, 1) := by decide +kernel
theorem dX3_light_6 : decode cX3_light 6 = .ok (.iconst 1, 1) := by decide +kernel
theorem dX3_light_7 : decode cX3_light 7 = .ok (.invokevirtual 144, 3) := by decide +kernel
theorem dX3_light_10 : decode cX3_light 10 = .ok (.ifCond .ne 7, 3) := by decide +kernel
theorem dX3_light_13 : decode cX3_light 13 = .ok (.dconst 0, 1) := by decide +kernel
theorem dX3_light_14 : decode cX3_light 14 = .ok (.goto 15, 3) := by decide +kernel
theorem dX3_light_17 : decode cX3_light 17 = .ok (.aload_n 0, 1) := by decide +kernel
theorem dX3_light_18 : decode cX3_light 18 = .ok (.invokevirtual 160, 3) := by decide +kernel
theorem dX3_light_21 : decode cX3_light 21 = .ok (.i2d, 1) := by decide +kernel
theorem dX3_light_22 : decode cX3_light 22 = .ok (.aload_n 0, 1) := by decide +kernel
theorem dX3_light_23 : decode cX3_light 23 = .ok (.iconst 1, 1) := by decide +kernel
theorem dX3_light_24 : decode cX3_light 24 = .ok (.invokevirtual 144, 3) := by decide +kernel
theorem dX3_light_27 : decode cX3_light 27 = .ok (.i2d, 1) := by decide +kernel
theorem dX3_light_28 : decode cX3_light 28 = .ok (.ddiv, 1) := by decide +kernel
theorem dX3_light_29 : decode cX3_light 29 = .ok (.dreturn, 1) := by decide +kernel
set_option maxRecDepth 20000 in
theorem ggX3_digest_X3_counted : GoodIn wsX3_digest wsX3_counted := goodIn_r _ [14, 15, 5, 6, 7, 16, 17, 18, 13, 19, 20, 21, 22, 23, 24, 25, 26, 27, 28, 29, 30, 31, 32, 33, 34, 35, 36, 37, 38, 39, 40, 41, 42, 43, 44, 45, 75, 76, 77, 78, 79, 80, 81, 82, 83, 84, 85, 86, 87, 88, 89, 90] (by decide +kernel) (by decide +kernel)
set_option maxRecDepth 20000 in
theorem gX3_digest_X3_counted : GoodIn wsX3_digest (wsV RX3 167 RX3 yX3_counted wsX3_counted) := goodIn_app (goodIn_of _ (by decide +kernel)) ggX3_digest_X3_counted
set_option maxRecDepth 20000 in
theorem ggX3_digest_X3_stretchTold : GoodIn wsX3_digest wsX3_stretchTold := goodIn_r _ [49, 6, 20, 21, 22, 13, 23, 24, 50, 51, 52, 53, 54, 38, 39, 40, 41, 29, 30, 31, 32, 33, 55, 56, 57, 58, 75, 76, 77, 78, 79, 80, 81, 82, 83, 84, 85, 86, 87, 88, 89, 90] (by decide +kernel) (by decide +kernel)
set_option maxRecDepth 20000 in
theorem gX3_digest_X3_stretchTold : GoodIn wsX3_digest (wsV RX3 113 RX3 yX3_stretchTold wsX3_stretchTold) := goodIn_app (goodIn_of _ (by decide +kernel)) ggX3_digest_X3_stretchTold
set_option maxRecDepth 20000 in
theorem ggX3_digest_X3_walkerTold : GoodIn wsX3_digest wsX3_walkerTold := goodIn_r _ [62, 29, 30, 31, 13, 32, 33, 63, 64, 65, 66, 6, 67, 68, 69, 70, 71, 72, 73, 74, 38, 39, 40, 41, 75, 76, 77, 78, 79, 80, 81, 82, 83, 84, 85, 86, 87, 88, 89, 90] (by decide +kernel) (by decide +kernel)
set_option maxRecDepth 20000 in
theorem gX3_digest_X3_walkerTold : GoodIn wsX3_digest (wsV RX3 126 RX3 yX3_walkerTold wsX3_walkerTold) := goodIn_app (goodIn_of _ (by decide +kernel)) ggX3_digest_X3_walkerTold
theorem dX3_digest_0 : decode cX3_digest 0 = .ok (.aload_n 0, 1) := by decide +kernel
theorem dX3_digest_1 : decode cX3_digest 1 = .ok (.iconst 0, 1) := by decide +kernel
theorem dX3_digest_2 : decode cX3_digest 2 = .ok (.putfield 47, 3) := by decide +kernel
theorem dX3_digest_5 : decode cX3_digest 5 = .ok (.ldc2_w 186, 3) := by decide +kernel
theorem dX3_digest_8 : decode cX3_digest 8 = .ok (.lstore_n 1, 1) := by decide +kernel
theorem dX3_digest_9 : decode cX3_digest 9 = .ok (.iconst 0, 1) := by decide +kernel
theorem dX3_digest_10 : decode cX3_digest 10 = .ok (.istore_n 3, 1) := by decide +kernel
theorem dX3_digest_11 : decode cX3_digest 11 = .ok (.iload_n 3, 1) := by decide +kernel
theorem dX3_digest_12 : decode cX3_digest 12 = .ok (.bipush 11, 2) := by decide +kernel
theorem dX3_digest_14 : decode cX3_digest 14 = .ok (.if_icmp .ge 22, 3) := by decide +kernel
theorem dX3_digest_17 : decode cX3_digest 17 = .ok (.lload_n 1, 1) := by decide +kernel
theorem dX3_digest_18 : decode cX3_digest 18 = .ok (.ldc2_w 188, 3) := by decide +kernel
theorem dX3_digest_21 : decode cX3_digest 21 = .ok (.lmul, 1) := by decide +kernel
theorem dX3_digest_22 : decode cX3_digest 22 = .ok (.aload_n 0, 1) := by decide +kernel
theorem dX3_digest_23 : decode cX3_digest 23 = .ok (.iload_n 3, 1) := by decide +kernel
theorem dX3_digest_24 : decode cX3_digest 24 = .ok (.invokevirtual 167, 3) := by decide +kernel
theorem dX3_digest_27 : decode cX3_digest 27 = .ok (.i2l, 1) := by decide +kernel
theorem dX3_digest_28 : decode cX3_digest 28 = .ok (.ladd, 1) := by decide +kernel
theorem dX3_digest_29 : decode cX3_digest 29 = .ok (.lstore_n 1, 1) := by decide +kernel
theorem dX3_digest_30 : decode cX3_digest 30 = .ok (.iinc 3 1, 3) := by decide +kernel
theorem dX3_digest_33 : decode cX3_digest 33 = .ok (.goto (-22), 3) := by decide +kernel
theorem dX3_digest_36 : decode cX3_digest 36 = .ok (.iconst 0, 1) := by decide +kernel
theorem dX3_digest_37 : decode cX3_digest 37 = .ok (.istore_n 3, 1) := by decide +kernel
theorem dX3_digest_38 : decode cX3_digest 38 = .ok (.iload_n 3, 1) := by decide +kernel
theorem dX3_digest_39 : decode cX3_digest 39 = .ok (.bipush 10, 2) := by decide +kernel
theorem dX3_digest_41 : decode cX3_digest 41 = .ok (.if_icmp .ge 23, 3) := by decide +kernel
theorem dX3_digest_44 : decode cX3_digest 44 = .ok (.lload_n 1, 1) := by decide +kernel
theorem dX3_digest_45 : decode cX3_digest 45 = .ok (.ldc2_w 188, 3) := by decide +kernel
theorem dX3_digest_48 : decode cX3_digest 48 = .ok (.lmul, 1) := by decide +kernel
theorem dX3_digest_49 : decode cX3_digest 49 = .ok (.aload_n 0, 1) := by decide +kernel
theorem dX3_digest_50 : decode cX3_digest 50 = .ok (.getfield 16, 3) := by decide +kernel
theorem dX3_digest_53 : decode cX3_digest 53 = .ok (.iload_n 3, 1) := by decide +kernel
theorem dX3_digest_54 : decode cX3_digest 54 = .ok (.iaload, 1) := by decide +kernel
theorem dX3_digest_55 : decode cX3_digest 55 = .ok (.i2l, 1) := by decide +kernel
theorem dX3_digest_56 : decode cX3_digest 56 = .ok (.ladd, 1) := by decide +kernel
theorem dX3_digest_57 : decode cX3_digest 57 = .ok (.lstore_n 1, 1) := by decide +kernel
theorem dX3_digest_58 : decode cX3_digest 58 = .ok (.iinc 3 1, 3) := by decide +kernel
theorem dX3_digest_61 : decode cX3_digest 61 = .ok (.goto (-23), 3) := by decide +kernel
theorem dX3_digest_64 : decode cX3_digest 64 = .ok (.iconst 0, 1) := by decide +kernel
theorem dX3_digest_65 : decode cX3_digest 65 = .ok (.istore_n 3, 1) := by decide +kernel
theorem dX3_digest_66 : decode cX3_digest 66 = .ok (.iload_n 3, 1) := by decide +kernel
theorem dX3_digest_67 : decode cX3_digest 67 = .ok (.aload_n 0, 1) := by decide +kernel
theorem dX3_digest_68 : decode cX3_digest 68 = .ok (.getfield 51, 3) := by decide +kernel
theorem dX3_digest_71 : decode cX3_digest 71 = .ok (.if_icmp .ge 40, 3) := by decide +kernel
theorem dX3_digest_74 : decode cX3_digest 74 = .ok (.iconst 0, 1) := by decide +kernel
theorem dX3_digest_75 : decode cX3_digest 75 = .ok (.istore 4, 2) := by decide +kernel
theorem dX3_digest_77 : decode cX3_digest 77 = .ok (.iload 4, 2) := by decide +kernel
theorem dX3_digest_79 : decode cX3_digest 79 = .ok (.bipush 6, 2) := by decide +kernel
theorem dX3_digest_81 : decode cX3_digest 81 = .ok (.if_icmp .ge 24, 3) := by decide +kernel
theorem dX3_digest_84 : decode cX3_digest 84 = .ok (.lload_n 1, 1) := by decide +kernel
theorem dX3_digest_85 : decode cX3_digest 85 = .ok (.ldc2_w 188, 3) := by decide +kernel
theorem dX3_digest_88 : decode cX3_digest 88 = .ok (.lmul, 1) := by decide +kernel
theorem dX3_digest_89 : decode cX3_digest 89 = .ok (.aload_n 0, 1) := by decide +kernel
theorem dX3_digest_90 : decode cX3_digest 90 = .ok (.iload_n 3, 1) := by decide +kernel
theorem dX3_digest_91 : decode cX3_digest 91 = .ok (.iload 4, 2) := by decide +kernel
theorem dX3_digest_93 : decode cX3_digest 93 = .ok (.invokevirtual 113, 3) := by decide +kernel
theorem dX3_digest_96 : decode cX3_digest 96 = .ok (.i2l, 1) := by decide +kernel
theorem dX3_digest_97 : decode cX3_digest 97 = .ok (.ladd, 1) := by decide +kernel
theorem dX3_digest_98 : decode cX3_digest 98 = .ok (.lstore_n 1, 1) := by decide +kernel
theorem dX3_digest_99 : decode cX3_digest 99 = .ok (.iinc 4 1, 3) := by decide +kernel
theorem dX3_digest_102 : decode cX3_digest 102 = .ok (.goto (-25), 3) := by decide +kernel
theorem dX3_digest_105 : decode cX3_digest 105 = .ok (.iinc 3 1, 3) := by decide +kernel
theorem dX3_digest_108 : decode cX3_digest 108 = .ok (.goto (-42), 3) := by decide +kernel
theorem dX3_digest_111 : decode cX3_digest 111 = .ok (.iconst 0, 1) := by decide +kernel
theorem dX3_digest_112 : decode cX3_digest 112 = .ok (.istore_n 3, 1) := by decide +kernel
theorem dX3_digest_113 : decode cX3_digest 113 = .ok (.iload_n 3, 1) := by decide +kernel
theorem dX3_digest_114 : decode cX3_digest 114 = .ok (.aload_n 0, 1) := by decide +kernel
theorem dX3_digest_115 : decode cX3_digest 115 = .ok (.getfield 58, 3) := by decide +kernel
theorem dX3_digest_118 : decode cX3_digest 118 = .ok (.if_icmp .ge 78, 3) := by decide +kernel
theorem dX3_digest_121 : decode cX3_digest 121 = .ok (.iconst 0, 1) := by decide +kernel
theorem dX3_digest_122 : decode cX3_digest 122 = .ok (.istore 4, 2) := by decide +kernel
theorem dX3_digest_124 : decode cX3_digest 124 = .ok (.iload 4, 2) := by decide +kernel
theorem dX3_digest_126 : decode cX3_digest 126 = .ok (.bipush 9, 2) := by decide +kernel
theorem dX3_digest_128 : decode cX3_digest 128 = .ok (.if_icmp .ge 24, 3) := by decide +kernel
theorem dX3_digest_131 : decode cX3_digest 131 = .ok (.lload_n 1, 1) := by decide +kernel
theorem dX3_digest_132 : decode cX3_digest 132 = .ok (.ldc2_w 188, 3) := by decide +kernel
theorem dX3_digest_135 : decode cX3_digest 135 = .ok (.lmul, 1) := by decide +kernel
theorem dX3_digest_136 : decode cX3_digest 136 = .ok (.aload_n 0, 1) := by decide +kernel
theorem dX3_digest_137 : decode cX3_digest 137 = .ok (.iload_n 3, 1) := by decide +kernel
theorem dX3_digest_138 : decode cX3_digest 138 = .ok (.iload 4, 2) := by decide +kernel
theorem dX3_digest_140 : decode cX3_digest 140 = .ok (.invokevirtual 126, 3) := by decide +kernel
theorem dX3_digest_143 : decode cX3_digest 143 = .ok (.i2l, 1) := by decide +kernel
theorem dX3_digest_144 : decode cX3_digest 144 = .ok (.ladd, 1) := by decide +kernel
theorem dX3_digest_145 : decode cX3_digest 145 = .ok (.lstore_n 1, 1) := by decide +kernel
theorem dX3_digest_146 : decode cX3_digest 146 = .ok (.iinc 4 1, 3) := by decide +kernel
theorem dX3_digest_149 : decode cX3_digest 149 = .ok (.goto (-25), 3) := by decide +kernel
theorem dX3_digest_152 : decode cX3_digest 152 = .ok (.iconst 0, 1) := by decide +kernel
theorem dX3_digest_153 : decode cX3_digest 153 = .ok (.istore 4, 2) := by decide +kernel
theorem dX3_digest_155 : decode cX3_digest 155 = .ok (.iload 4, 2) := by decide +kernel
theorem dX3_digest_157 : decode cX3_digest 157 = .ok (.aload_n 0, 1) := by decide +kernel
theorem dX3_digest_158 : decode cX3_digest 158 = .ok (.getfield 61, 3) := by decide +kernel
theorem dX3_digest_161 : decode cX3_digest 161 = .ok (.if_icmp .ge 29, 3) := by decide +kernel
theorem dX3_digest_164 : decode cX3_digest 164 = .ok (.lload_n 1, 1) := by decide +kernel
theorem dX3_digest_165 : decode cX3_digest 165 = .ok (.ldc2_w 188, 3) := by decide +kernel
theorem dX3_digest_168 : decode cX3_digest 168 = .ok (.lmul, 1) := by decide +kernel
theorem dX3_digest_169 : decode cX3_digest 169 = .ok (.aload_n 0, 1) := by decide +kernel
theorem dX3_digest_170 : decode cX3_digest 170 = .ok (.getfield 25, 3) := by decide +kernel
theorem dX3_digest_173 : decode cX3_digest 173 = .ok (.bipush 6, 2) := by decide +kernel
theorem dX3_digest_175 : decode cX3_digest 175 = .ok (.iload_n 3, 1) := by decide +kernel
theorem dX3_digest_176 : decode cX3_digest 176 = .ok (.imul, 1) := by decide +kernel
theorem dX3_digest_177 : decode cX3_digest 177 = .ok (.iload 4, 2) := by decide +kernel
theorem dX3_digest_179 : decode cX3_digest 179 = .ok (.iadd, 1) := by decide +kernel
theorem dX3_digest_180 : decode cX3_digest 180 = .ok (.iaload, 1) := by decide +kernel
theorem dX3_digest_181 : decode cX3_digest 181 = .ok (.i2l, 1) := by decide +kernel
theorem dX3_digest_182 : decode cX3_digest 182 = .ok (.ladd, 1) := by decide +kernel
theorem dX3_digest_183 : decode cX3_digest 183 = .ok (.lstore_n 1, 1) := by decide +kernel
theorem dX3_digest_184 : decode cX3_digest 184 = .ok (.iinc 4 1, 3) := by decide +kernel
theorem dX3_digest_187 : decode cX3_digest 187 = .ok (.goto (-32), 3) := by decide +kernel
theorem dX3_digest_190 : decode cX3_digest 190 = .ok (.iinc 3 1, 3) := by decide +kernel
theorem dX3_digest_193 : decode cX3_digest 193 = .ok (.goto (-80), 3) := by decide +kernel
theorem dX3_digest_196 : decode cX3_digest 196 = .ok (.iconst 0, 1) := by decide +kernel
theorem dX3_digest_197 : decode cX3_digest 197 = .ok (.istore_n 3, 1) := by decide +kernel
theorem dX3_digest_198 : decode cX3_digest 198 = .ok (.iload_n 3, 1) := by decide +kernel
theorem dX3_digest_199 : decode cX3_digest 199 = .ok (.aload_n 0, 1) := by decide +kernel
theorem dX3_digest_200 : decode cX3_digest 200 = .ok (.getfield 61, 3) := by decide +kernel
theorem dX3_digest_203 : decode cX3_digest 203 = .ok (.if_icmp .ge 23, 3) := by decide +kernel
theorem dX3_digest_206 : decode cX3_digest 206 = .ok (.lload_n 1, 1) := by decide +kernel
theorem dX3_digest_207 : decode cX3_digest 207 = .ok (.ldc2_w 188, 3) := by decide +kernel
theorem dX3_digest_210 : decode cX3_digest 210 = .ok (.lmul, 1) := by decide +kernel
theorem dX3_digest_211 : decode cX3_digest 211 = .ok (.aload_n 0, 1) := by decide +kernel
theorem dX3_digest_212 : decode cX3_digest 212 = .ok (.getfield 22, 3) := by decide +kernel
theorem dX3_digest_215 : decode cX3_digest 215 = .ok (.iload_n 3, 1) := by decide +kernel
theorem dX3_digest_216 : decode cX3_digest 216 = .ok (.iaload, 1) := by decide +kernel
theorem dX3_digest_217 : decode cX3_digest 217 = .ok (.i2l, 1) := by decide +kernel
theorem dX3_digest_218 : decode cX3_digest 218 = .ok (.ladd, 1) := by decide +kernel
theorem dX3_digest_219 : decode cX3_digest 219 = .ok (.lstore_n 1, 1) := by decide +kernel
theorem dX3_digest_220 : decode cX3_digest 220 = .ok (.iinc 3 1, 3) := by decide +kernel
theorem dX3_digest_223 : decode cX3_digest 223 = .ok (.goto (-25), 3) := by decide +kernel
theorem dX3_digest_226 : decode cX3_digest 226 = .ok (.lload_n 1, 1) := by decide +kernel
theorem dX3_digest_227 : decode cX3_digest 227 = .ok (.lreturn, 1) := by decide +kernel
