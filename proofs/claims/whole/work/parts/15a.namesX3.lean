theorem dX3_init_0 : decode cX3_init 0 = .ok (.aload_n 0, 1) := by decide +kernel
theorem dX3_init_1 : decode cX3_init 1 = .ok (.invokespecial 1, 3) := by decide +kernel
theorem dX3_init_4 : decode cX3_init 4 = .ok (.aload_n 0, 1) := by decide +kernel
theorem dX3_init_5 : decode cX3_init 5 = .ok (.bipush 50, 2) := by decide +kernel
theorem dX3_init_7 : decode cX3_init 7 = .ok (.newarray .int, 2) := by decide +kernel
theorem dX3_init_9 : decode cX3_init 9 = .ok (.putfield 9, 3) := by decide +kernel
theorem dX3_init_12 : decode cX3_init 12 = .ok (.aload_n 0, 1) := by decide +kernel
theorem dX3_init_13 : decode cX3_init 13 = .ok (.iconst 2, 1) := by decide +kernel
theorem dX3_init_14 : decode cX3_init 14 = .ok (.newarray .int, 2) := by decide +kernel
theorem dX3_init_16 : decode cX3_init 16 = .ok (.dup, 1) := by decide +kernel
theorem dX3_init_17 : decode cX3_init 17 = .ok (.iconst 0, 1) := by decide +kernel
theorem dX3_init_18 : decode cX3_init 18 = .ok (.iconst (-1), 1) := by decide +kernel
theorem dX3_init_19 : decode cX3_init 19 = .ok (.iastore, 1) := by decide +kernel
theorem dX3_init_20 : decode cX3_init 20 = .ok (.dup, 1) := by decide +kernel
theorem dX3_init_21 : decode cX3_init 21 = .ok (.iconst 1, 1) := by decide +kernel
theorem dX3_init_22 : decode cX3_init 22 = .ok (.iconst (-1), 1) := by decide +kernel
theorem dX3_init_23 : decode cX3_init 23 = .ok (.iastore, 1) := by decide +kernel
theorem dX3_init_24 : decode cX3_init 24 = .ok (.putfield 13, 3) := by decide +kernel
theorem dX3_init_27 : decode cX3_init 27 = .ok (.aload_n 0, 1) := by decide +kernel
theorem dX3_init_28 : decode cX3_init 28 = .ok (.bipush 10, 2) := by decide +kernel
theorem dX3_init_30 : decode cX3_init 30 = .ok (.newarray .int, 2) := by decide +kernel
theorem dX3_init_32 : decode cX3_init 32 = .ok (.putfield 16, 3) := by decide +kernel
theorem dX3_init_35 : decode cX3_init 35 = .ok (.aload_n 0, 1) := by decide +kernel
theorem dX3_init_36 : decode cX3_init 36 = .ok (.sipush 160, 3) := by decide +kernel
theorem dX3_init_39 : decode cX3_init 39 = .ok (.newarray .int, 2) := by decide +kernel
theorem dX3_init_41 : decode cX3_init 41 = .ok (.putfield 19, 3) := by decide +kernel
theorem dX3_init_44 : decode cX3_init 44 = .ok (.aload_n 0, 1) := by decide +kernel
theorem dX3_init_45 : decode cX3_init 45 = .ok (.bipush 6, 2) := by decide +kernel
theorem dX3_init_47 : decode cX3_init 47 = .ok (.newarray .int, 2) := by decide +kernel
theorem dX3_init_49 : decode cX3_init 49 = .ok (.putfield 22, 3) := by decide +kernel
theorem dX3_init_52 : decode cX3_init 52 = .ok (.aload_n 0, 1) := by decide +kernel
theorem dX3_init_53 : decode cX3_init 53 = .ok (.bipush 120, 2) := by decide +kernel
theorem dX3_init_55 : decode cX3_init 55 = .ok (.newarray .int, 2) := by decide +kernel
theorem dX3_init_57 : decode cX3_init 57 = .ok (.putfield 25, 3) := by decide +kernel
theorem dX3_init_60 : decode cX3_init 60 = .ok (.aload_n 0, 1) := by decide +kernel
theorem dX3_init_61 : decode cX3_init 61 = .ok (.iconst 1, 1) := by decide +kernel
theorem dX3_init_62 : decode cX3_init 62 = .ok (.newarray .int, 2) := by decide +kernel
theorem dX3_init_64 : decode cX3_init 64 = .ok (.dup, 1) := by decide +kernel
theorem dX3_init_65 : decode cX3_init 65 = .ok (.iconst 0, 1) := by decide +kernel
theorem dX3_init_66 : decode cX3_init 66 = .ok (.iconst 0, 1) := by decide +kernel
theorem dX3_init_67 : decode cX3_init 67 = .ok (.iastore, 1) := by decide +kernel
theorem dX3_init_68 : decode cX3_init 68 = .ok (.putfield 28, 3) := by decide +kernel
theorem dX3_init_71 : decode cX3_init 71 = .ok (.aload_n 0, 1) := by decide +kernel
theorem dX3_init_72 : decode cX3_init 72 = .ok (.bipush 120, 2) := by decide +kernel
theorem dX3_init_74 : decode cX3_init 74 = .ok (.newarray .int, 2) := by decide +kernel
theorem dX3_init_76 : decode cX3_init 76 = .ok (.putfield 31, 3) := by decide +kernel
theorem dX3_init_79 : decode cX3_init 79 = .ok (.aload_n 0, 1) := by decide +kernel
theorem dX3_init_80 : decode cX3_init 80 = .ok (.bipush 20, 2) := by decide +kernel
theorem dX3_init_82 : decode cX3_init 82 = .ok (.newarray .boolean, 2) := by decide +kernel
theorem dX3_init_84 : decode cX3_init 84 = .ok (.putfield 34, 3) := by decide +kernel
theorem dX3_init_87 : decode cX3_init 87 = .ok (.aload_n 0, 1) := by decide +kernel
theorem dX3_init_88 : decode cX3_init 88 = .ok (.bipush 10, 2) := by decide +kernel
theorem dX3_init_90 : decode cX3_init 90 = .ok (.newarray .int, 2) := by decide +kernel
theorem dX3_init_92 : decode cX3_init 92 = .ok (.putfield 38, 3) := by decide +kernel
theorem dX3_init_95 : decode cX3_init 95 = .ok (.aload_n 0, 1) := by decide +kernel
theorem dX3_init_96 : decode cX3_init 96 = .ok (.bipush 20, 2) := by decide +kernel
theorem dX3_init_98 : decode cX3_init 98 = .ok (.newarray .boolean, 2) := by decide +kernel
theorem dX3_init_100 : decode cX3_init 100 = .ok (.putfield 41, 3) := by decide +kernel
theorem dX3_init_103 : decode cX3_init 103 = .ok (.aload_n 0, 1) := by decide +kernel
theorem dX3_init_104 : decode cX3_init 104 = .ok (.bipush 20, 2) := by decide +kernel
theorem dX3_init_106 : decode cX3_init 106 = .ok (.newarray .int, 2) := by decide +kernel
theorem dX3_init_108 : decode cX3_init 108 = .ok (.putfield 44, 3) := by decide +kernel
theorem dX3_init_111 : decode cX3_init 111 = .ok (.return_, 1) := by decide +kernel
theorem dX3_thrown_0 : decode cX3_thrown 0 = .ok (.aload_n 0, 1) := by decide +kernel
theorem dX3_thrown_1 : decode cX3_thrown 1 = .ok (.getfield 47, 3) := by decide +kernel
theorem dX3_thrown_4 : decode cX3_thrown 4 = .ok (.ireturn, 1) := by decide +kernel
theorem dX3_fail_0 : decode cX3_fail 0 = .ok (.aload_n 0, 1) := by decide +kernel
theorem dX3_fail_1 : decode cX3_fail 1 = .ok (.iload_n 1, 1) := by decide +kernel
theorem dX3_fail_2 : decode cX3_fail 2 = .ok (.putfield 47, 3) := by decide +kernel
theorem dX3_fail_5 : decode cX3_fail 5 = .ok (.iconst 0, 1) := by decide +kernel
theorem dX3_fail_6 : decode cX3_fail 6 = .ok (.ireturn, 1) := by decide +kernel
theorem dX3_isIn_0 : decode cX3_isIn 0 = .ok (.iload_n 0, 1) := by decide +kernel
theorem dX3_isIn_1 : decode cX3_isIn 1 = .ok (.iload_n 1, 1) := by decide +kernel
theorem dX3_isIn_2 : decode cX3_isIn 2 = .ok (.if_icmp .lt 12, 3) := by decide +kernel
theorem dX3_isIn_5 : decode cX3_isIn 5 = .ok (.iload_n 0, 1) := by decide +kernel
theorem dX3_isIn_6 : decode cX3_isIn 6 = .ok (.iload_n 2, 1) := by decide +kernel
theorem dX3_isIn_7 : decode cX3_isIn 7 = .ok (.if_icmp .gt 7, 3) := by decide +kernel
theorem dX3_isIn_10 : decode cX3_isIn 10 = .ok (.iconst 1, 1) := by decide +kernel
theorem dX3_isIn_11 : decode cX3_isIn 11 = .ok (.goto 4, 3) := by decide +kernel
theorem dX3_isIn_14 : decode cX3_isIn 14 = .ok (.iconst 0, 1) := by decide +kernel
theorem dX3_isIn_15 : decode cX3_isIn 15 = .ok (.ireturn, 1) := by decide +kernel
set_option maxRecDepth 20000 in
theorem ggX3_isStretch_X3_isIn : GoodIn wsX3_isStretch wsX3_isIn := goodIn_r _ [5] (by decide +kernel) (by decide +kernel)
set_option maxRecDepth 20000 in
theorem gX3_isStretch_X3_isIn : GoodIn wsX3_isStretch (va_wsS RX3 54 yX3_isIn wsX3_isIn) := goodIn_app (goodIn_of _ (by decide +kernel)) ggX3_isStretch_X3_isIn
theorem dX3_isStretch_0 : decode cX3_isStretch 0 = .ok (.iload_n 1, 1) := by decide +kernel
theorem dX3_isStretch_1 : decode cX3_isStretch 1 = .ok (.iconst 0, 1) := by decide +kernel
theorem dX3_isStretch_2 : decode cX3_isStretch 2 = .ok (.aload_n 0, 1) := by decide +kernel
theorem dX3_isStretch_3 : decode cX3_isStretch 3 = .ok (.getfield 51, 3) := by decide +kernel
theorem dX3_isStretch_6 : decode cX3_isStretch 6 = .ok (.iconst 1, 1) := by decide +kernel
theorem dX3_isStretch_7 : decode cX3_isStretch 7 = .ok (.isub, 1) := by decide +kernel
theorem dX3_isStretch_8 : decode cX3_isStretch 8 = .ok (.invokestatic 54, 3) := by decide +kernel
theorem dX3_isStretch_11 : decode cX3_isStretch 11 = .ok (.ireturn, 1) := by decide +kernel
set_option maxRecDepth 20000 in
theorem ggX3_isWalker_X3_isIn : GoodIn wsX3_isWalker wsX3_isIn := goodIn_r _ [5] (by decide +kernel) (by decide +kernel)
set_option maxRecDepth 20000 in
theorem gX3_isWalker_X3_isIn : GoodIn wsX3_isWalker (va_wsS RX3 54 yX3_isIn wsX3_isIn) := goodIn_app (goodIn_of _ (by decide +kernel)) ggX3_isWalker_X3_isIn
theorem dX3_isWalker_0 : decode cX3_isWalker 0 = .ok (.iload_n 1, 1) := by decide +kernel
theorem dX3_isWalker_1 : decode cX3_isWalker 1 = .ok (.iconst 0, 1) := by decide +kernel
theorem dX3_isWalker_2 : decode cX3_isWalker 2 = .ok (.aload_n 0, 1) := by decide +kernel
theorem dX3_isWalker_3 : decode cX3_isWalker 3 = .ok (.getfield 58, 3) := by decide +kernel
theorem dX3_isWalker_6 : decode cX3_isWalker 6 = .ok (.iconst 1, 1) := by decide +kernel
theorem dX3_isWalker_7 : decode cX3_isWalker 7 = .ok (.isub, 1) := by decide +kernel
theorem dX3_isWalker_8 : decode cX3_isWalker 8 = .ok (.invokestatic 54, 3) := by decide +kernel
theorem dX3_isWalker_11 : decode cX3_isWalker 11 = .ok (.ireturn, 1) := by decide +kernel
set_option maxRecDepth 20000 in
theorem ggX3_isSong_X3_isIn : GoodIn wsX3_isSong wsX3_isIn := goodIn_r _ [5] (by decide +kernel) (by decide +kernel)
set_option maxRecDepth 20000 in
theorem gX3_isSong_X3_isIn : GoodIn wsX3_isSong (va_wsS RX3 54 yX3_isIn wsX3_isIn) := goodIn_app (goodIn_of _ (by decide +kernel)) ggX3_isSong_X3_isIn
theorem dX3_isSong_0 : decode cX3_isSong 0 = .ok (.iload_n 1, 1) := by decide +kernel
theorem dX3_isSong_1 : decode cX3_isSong 1 = .ok (.iconst 0, 1) := by decide +kernel
theorem dX3_isSong_2 : decode cX3_isSong 2 = .ok (.aload_n 0, 1) := by decide +kernel
theorem dX3_isSong_3 : decode cX3_isSong 3 = .ok (.getfield 61, 3) := by decide +kernel
theorem dX3_isSong_6 : decode cX3_isSong 6 = .ok (.iconst 1, 1) := by decide +kernel
theorem dX3_isSong_7 : decode cX3_isSong 7 = .ok (.isub, 1) := by decide +kernel
theorem dX3_isSong_8 : decode cX3_isSong 8 = .ok (.invokestatic 54, 3) := by decide +kernel
theorem dX3_isSong_11 : decode cX3_isSong 11 = .ok (.ireturn, 1) := by decide +kernel
theorem dX3_ro_0 : decode cX3_ro 0 = .ok (.aload_n 0, 1) := by decide +kernel
theorem dX3_ro_1 : decode cX3_ro 1 = .ok (.getfield 9, 3) := by decide +kernel
theorem dX3_ro_4 : decode cX3_ro 4 = .ok (.iconst 5, 1) := by decide +kernel
theorem dX3_ro_5 : decode cX3_ro 5 = .ok (.iload_n 1, 1) := by decide +kernel
theorem dX3_ro_6 : decode cX3_ro 6 = .ok (.imul, 1) := by decide +kernel
theorem dX3_ro_7 : decode cX3_ro 7 = .ok (.iload_n 2, 1) := by decide +kernel
theorem dX3_ro_8 : decode cX3_ro 8 = .ok (.iadd, 1) := by decide +kernel
theorem dX3_ro_9 : decode cX3_ro 9 = .ok (.iaload, 1) := by decide +kernel
theorem dX3_ro_10 : decode cX3_ro 10 = .ok (.ireturn, 1) := by decide +kernel
theorem dX3_pe_0 : decode cX3_pe 0 = .ok (.aload_n 0, 1) := by decide +kernel
theorem dX3_pe_1 : decode cX3_pe 1 = .ok (.getfield 19, 3) := by decide +kernel
theorem dX3_pe_4 : decode cX3_pe 4 = .ok (.bipush 8, 2) := by decide +kernel
theorem dX3_pe_6 : decode cX3_pe 6 = .ok (.iload_n 1, 1) := by decide +kernel
theorem dX3_pe_7 : decode cX3_pe 7 = .ok (.imul, 1) := by decide +kernel
theorem dX3_pe_8 : decode cX3_pe 8 = .ok (.iload_n 2, 1) := by decide +kernel
theorem dX3_pe_9 : decode cX3_pe 9 = .ok (.iadd, 1) := by decide +kernel
theorem dX3_pe_10 : decode cX3_pe 10 = .ok (.iaload, 1) := by decide +kernel
theorem dX3_pe_11 : decode cX3_pe 11 = .ok (.ireturn, 1) := by decide +kernel
theorem dX3_set_0 : decode cX3_set 0 = .ok (.aload_n 0, 1) := by decide +kernel
theorem dX3_set_1 : decode cX3_set 1 = .ok (.getfield 19, 3) := by decide +kernel
theorem dX3_set_4 : decode cX3_set 4 = .ok (.bipush 8, 2) := by decide +kernel
theorem dX3_set_6 : decode cX3_set 6 = .ok (.iload_n 1, 1) := by decide +kernel
theorem dX3_set_7 : decode cX3_set 7 = .ok (.imul, 1) := by decide +kernel
theorem dX3_set_8 : decode cX3_set 8 = .ok (.iload_n 2, 1) := by decide +kernel
theorem dX3_set_9 : decode cX3_set 9 = .ok (.iadd, 1) := by decide +kernel
theorem dX3_set_10 : decode cX3_set 10 = .ok (.iload_n 3, 1) := by decide +kernel
theorem dX3_set_11 : decode cX3_set 11 = .ok (.iastore, 1) := by decide +kernel
theorem dX3_set_12 : decode cX3_set 12 = .ok (.return_, 1) := by decide +kernel
set_option maxRecDepth 20000 in
theorem ggX3_places_X3_ro : GoodIn wsX3_places wsX3_ro := goodIn_r _ [6, 7, 8, 9, 10, 11, 12, 13, 14, 15, 16, 17, 18, 19, 20, 21, 22, 23] (by decide +kernel) (by decide +kernel)
set_option maxRecDepth 20000 in
theorem gX3_places_X3_ro : GoodIn wsX3_places (wsV RX3 64 RX3 yX3_ro wsX3_ro) := goodIn_app (goodIn_of _ (by decide +kernel)) ggX3_places_X3_ro
theorem dX3_places_0 : decode cX3_places 0 = .ok (.aload_n 0, 1) := by decide +kernel
theorem dX3_places_1 : decode cX3_places 1 = .ok (.getfield 51, 3) := by decide +kernel
theorem dX3_places_4 : decode cX3_places 4 = .ok (.ifCond .ne 7, 3) := by decide +kernel
theorem dX3_places_7 : decode cX3_places 7 = .ok (.iconst 0, 1) := by decide +kernel
theorem dX3_places_8 : decode cX3_places 8 = .ok (.goto 26, 3) := by decide +kernel
theorem dX3_places_11 : decode cX3_places 11 = .ok (.aload_n 0, 1) := by decide +kernel
theorem dX3_places_12 : decode cX3_places 12 = .ok (.aload_n 0, 1) := by decide +kernel
theorem dX3_places_13 : decode cX3_places 13 = .ok (.getfield 51, 3) := by decide +kernel
theorem dX3_places_16 : decode cX3_places 16 = .ok (.iconst 1, 1) := by decide +kernel
theorem dX3_places_17 : decode cX3_places 17 = .ok (.isub, 1) := by decide +kernel
theorem dX3_places_18 : decode cX3_places 18 = .ok (.iconst 2, 1) := by decide +kernel
theorem dX3_places_19 : decode cX3_places 19 = .ok (.invokevirtual 64, 3) := by decide +kernel
theorem dX3_places_22 : decode cX3_places 22 = .ok (.aload_n 0, 1) := by decide +kernel
theorem dX3_places_23 : decode cX3_places 23 = .ok (.aload_n 0, 1) := by decide +kernel
theorem dX3_places_24 : decode cX3_places 24 = .ok (.getfield 51, 3) := by decide +kernel
theorem dX3_places_27 : decode cX3_places 27 = .ok (.iconst 1, 1) := by decide +kernel
theorem dX3_places_28 : decode cX3_places 28 = .ok (.isub, 1) := by decide +kernel
theorem dX3_places_29 : decode cX3_places 29 = .ok (.iconst 0, 1) := by decide +kernel
theorem dX3_places_30 : decode cX3_places 30 = .ok (.invokevirtual 64, 3) := by decide +kernel
theorem dX3_places_33 : decode cX3_places 33 = .ok (.iadd, 1) := by decide +kernel
theorem dX3_places_34 : decode cX3_places 34 = .ok (.ireturn, 1) := by decide +kernel
set_option maxRecDepth 20000 in
theorem ggX3_addStretch_X3_isIn : GoodIn wsX3_addStretch wsX3_isIn := goodIn_r _ [13] (by decide +kernel) (by decide +kernel)
set_option maxRecDepth 20000 in
theorem gX3_addStretch_X3_isIn : GoodIn wsX3_addStretch (va_wsS RX3 54 yX3_isIn wsX3_isIn) := goodIn_app (goodIn_of _ (by decide +kernel)) ggX3_addStretch_X3_isIn
set_option maxRecDepth 20000 in
theorem ggX3_addStretch_X3_fail : GoodIn wsX3_addStretch wsX3_fail := goodIn_r _ [17, 1, 26, 27, 28, 29, 30, 31, 32, 33, 34, 35, 36, 37, 38, 39, 40, 41] (by decide +kernel) (by decide +kernel)
set_option maxRecDepth 20000 in
theorem gX3_addStretch_X3_fail : GoodIn wsX3_addStretch (wsV RX3 68 RX3 yX3_fail wsX3_fail) := goodIn_app (goodIn_of _ (by decide +kernel)) ggX3_addStretch_X3_fail
set_option maxRecDepth 20000 in
theorem ggX3_addStretch_X3_places : GoodIn wsX3_addStretch wsX3_places := goodIn_r _ [21, 2, 22, 23, 24, 12, 25, 5, 26, 27, 28, 29, 30, 31, 32, 33, 34, 35, 36, 37, 38, 39, 40, 41] (by decide +kernel) (by decide +kernel)
set_option maxRecDepth 20000 in
theorem gX3_addStretch_X3_places : GoodIn wsX3_addStretch (wsV RX3 72 RX3 yX3_places wsX3_places) := goodIn_app (goodIn_of _ (by decide +kernel)) ggX3_addStretch_X3_places
theorem dX3_addStretch_0 : decode cX3_addStretch 0 = .ok (.aload_n 0, 1) := by decide +kernel
theorem dX3_addStretch_1 : decode cX3_addStretch 1 = .ok (.iconst 0, 1) := by decide +kernel
theorem dX3_addStretch_2 : decode cX3_addStretch 2 = .ok (.putfield 47, 3) := by decide +kernel
theorem dX3_addStretch_5 : decode cX3_addStretch 5 = .ok (.iload_n 1, 1) := by decide +kernel
theorem dX3_addStretch_6 : decode cX3_addStretch 6 = .ok (.iconst 1, 1) := by decide +kernel
theorem dX3_addStretch_7 : decode cX3_addStretch 7 = .ok (.bipush 20, 2) := by decide +kernel
theorem dX3_addStretch_9 : decode cX3_addStretch 9 = .ok (.invokestatic 54, 3) := by decide +kernel
theorem dX3_addStretch_12 : decode cX3_addStretch 12 = .ok (.ifCond .eq 12, 3) := by decide +kernel
theorem dX3_addStretch_15 : decode cX3_addStretch 15 = .ok (.iload_n 2, 1) := by decide +kernel
theorem dX3_addStretch_16 : decode cX3_addStretch 16 = .ok (.iconst 1, 1) := by decide +kernel
theorem dX3_addStretch_17 : decode cX3_addStretch 17 = .ok (.iconst 4, 1) := by decide +kernel
theorem dX3_addStretch_18 : decode cX3_addStretch 18 = .ok (.invokestatic 54, 3) := by decide +kernel
theorem dX3_addStretch_21 : decode cX3_addStretch 21 = .ok (.ifCond .ne 9, 3) := by decide +kernel
theorem dX3_addStretch_24 : decode cX3_addStretch 24 = .ok (.aload_n 0, 1) := by decide +kernel
theorem dX3_addStretch_25 : decode cX3_addStretch 25 = .ok (.iconst 1, 1) := by decide +kernel
theorem dX3_addStretch_26 : decode cX3_addStretch 26 = .ok (.invokevirtual 68, 3) := by decide +kernel
theorem dX3_addStretch_29 : decode cX3_addStretch 29 = .ok (.ireturn, 1) := by decide +kernel
theorem dX3_addStretch_30 : decode cX3_addStretch 30 = .ok (.aload_n 0, 1) := by decide +kernel
theorem dX3_addStretch_31 : decode cX3_addStretch 31 = .ok (.getfield 51, 3) := by decide +kernel
theorem dX3_addStretch_34 : decode cX3_addStretch 34 = .ok (.bipush 10, 2) := by decide +kernel
theorem dX3_addStretch_36 : decode cX3_addStretch 36 = .ok (.if_icmp .eq 12, 3) := by decide +kernel
theorem dX3_addStretch_39 : decode cX3_addStretch 39 = .ok (.aload_n 0, 1) := by decide +kernel
theorem dX3_addStretch_40 : decode cX3_addStretch 40 = .ok (.getfield 28, 3) := by decide +kernel
theorem dX3_addStretch_43 : decode cX3_addStretch 43 = .ok (.iconst 0, 1) := by decide +kernel
theorem dX3_addStretch_44 : decode cX3_addStretch 44 = .ok (.iaload, 1) := by decide +kernel
theorem dX3_addStretch_45 : decode cX3_addStretch 45 = .ok (.ifCond .le 9, 3) := by decide +kernel
theorem dX3_addStretch_48 : decode cX3_addStretch 48 = .ok (.aload_n 0, 1) := by decide +kernel
theorem dX3_addStretch_49 : decode cX3_addStretch 49 = .ok (.iconst 2, 1) := by decide +kernel
theorem dX3_addStretch_50 : decode cX3_addStretch 50 = .ok (.invokevirtual 68, 3) := by decide +kernel
theorem dX3_addStretch_53 : decode cX3_addStretch 53 = .ok (.ireturn, 1) := by decide +kernel
theorem dX3_addStretch_54 : decode cX3_addStretch 54 = .ok (.iconst 5, 1) := by decide +kernel
theorem dX3_addStretch_55 : decode cX3_addStretch 55 = .ok (.newarray .int, 2) := by decide +kernel
theorem dX3_addStretch_57 : decode cX3_addStretch 57 = .ok (.dup, 1) := by decide +kernel
theorem dX3_addStretch_58 : decode cX3_addStretch 58 = .ok (.iconst 0, 1) := by decide +kernel
theorem dX3_addStretch_59 : decode cX3_addStretch 59 = .ok (.iload_n 1, 1) := by decide +kernel
theorem dX3_addStretch_60 : decode cX3_addStretch 60 = .ok (.iastore, 1) := by decide +kernel
theorem dX3_addStretch_61 : decode cX3_addStretch 61 = .ok (.dup, 1) := by decide +kernel
theorem dX3_addStretch_62 : decode cX3_addStretch 62 = .ok (.iconst 1, 1) := by decide +kernel
theorem dX3_addStretch_63 : decode cX3_addStretch 63 = .ok (.iload_n 2, 1) := by decide +kernel
theorem dX3_addStretch_64 : decode cX3_addStretch 64 = .ok (.iastore, 1) := by decide +kernel
theorem dX3_addStretch_65 : decode cX3_addStretch 65 = .ok (.dup, 1) := by decide +kernel
theorem dX3_addStretch_66 : decode cX3_addStretch 66 = .ok (.iconst 2, 1) := by decide +kernel
theorem dX3_addStretch_67 : decode cX3_addStretch 67 = .ok (.aload_n 0, 1) := by decide +kernel
theorem dX3_addStretch_68 : decode cX3_addStretch 68 = .ok (.invokevirtual 72, 3) := by decide +kernel
theorem dX3_addStretch_71 : decode cX3_addStretch 71 = .ok (.iastore, 1) := by decide +kernel
theorem dX3_addStretch_72 : decode cX3_addStretch 72 = .ok (.dup, 1) := by decide +kernel
theorem dX3_addStretch_73 : decode cX3_addStretch 73 = .ok (.iconst 3, 1) := by decide +kernel
theorem dX3_addStretch_74 : decode cX3_addStretch 74 = .ok (.iconst 0, 1) := by decide +kernel
theorem dX3_addStretch_75 : decode cX3_addStretch 75 = .ok (.iastore, 1) := by decide +kernel
theorem dX3_addStretch_76 : decode cX3_addStretch 76 = .ok (.dup, 1) := by decide +kernel
theorem dX3_addStretch_77 : decode cX3_addStretch 77 = .ok (.iconst 4, 1) := by decide +kernel
theorem dX3_addStretch_78 : decode cX3_addStretch 78 = .ok (.iconst 0, 1) := by decide +kernel
theorem dX3_addStretch_79 : decode cX3_addStretch 79 = .ok (.iastore, 1) := by decide +kernel
theorem dX3_addStretch_80 : decode cX3_addStretch 80 = .ok (.astore_n 3, 1) := by decide +kernel
theorem dX3_addStretch_81 : decode cX3_addStretch 81 = .ok (.aload_n 3, 1) := by decide +kernel
theorem dX3_addStretch_82 : decode cX3_addStretch 82 = .ok (.iconst 0, 1) := by decide +kernel
theorem dX3_addStretch_83 : decode cX3_addStretch 83 = .ok (.aload_n 0, 1) := by decide +kernel
theorem dX3_addStretch_84 : decode cX3_addStretch 84 = .ok (.getfield 9, 3) := by decide +kernel
theorem dX3_addStretch_87 : decode cX3_addStretch 87 = .ok (.iconst 5, 1) := by decide +kernel
theorem dX3_addStretch_88 : decode cX3_addStretch 88 = .ok (.aload_n 0, 1) := by decide +kernel
theorem dX3_addStretch_89 : decode cX3_addStretch 89 = .ok (.getfield 51, 3) := by decide +kernel
theorem dX3_addStretch_92 : decode cX3_addStretch 92 = .ok (.imul, 1) := by decide +kernel
theorem dX3_addStretch_93 : decode cX3_addStretch 93 = .ok (.iconst 5, 1) := by decide +kernel
theorem dX3_addStretch_94 : decode cX3_addStretch 94 = .ok (.invokestatic 76, 3) := by decide +kernel
theorem dX3_addStretch_97 : decode cX3_addStretch 97 = .ok (.aload_n 0, 1) := by decide +kernel
theorem dX3_addStretch_98 : decode cX3_addStretch 98 = .ok (.dup, 1) := by decide +kernel
theorem dX3_addStretch_99 : decode cX3_addStretch 99 = .ok (.getfield 51, 3) := by decide +kernel
theorem dX3_addStretch_102 : decode cX3_addStretch 102 = .ok (.iconst 1, 1) := by decide +kernel
theorem dX3_addStretch_103 : decode cX3_addStretch 103 = .ok (.iadd, 1) := by decide +kernel
theorem dX3_addStretch_104 : decode cX3_addStretch 104 = .ok (.putfield 51, 3) := by decide +kernel
theorem dX3_addStretch_107 : decode cX3_addStretch 107 = .ok (.aload_n 0, 1) := by decide +kernel
theorem dX3_addStretch_108 : decode cX3_addStretch 108 = .ok (.getfield 51, 3) := by decide +kernel
theorem dX3_addStretch_111 : decode cX3_addStretch 111 = .ok (.iconst 1, 1) := by decide +kernel
theorem dX3_addStretch_112 : decode cX3_addStretch 112 = .ok (.isub, 1) := by decide +kernel
theorem dX3_addStretch_113 : decode cX3_addStretch 113 = .ok (.ireturn, 1) := by decide +kernel
set_option maxRecDepth 20000 in
theorem ggX3_post_X3_isIn : GoodIn wsX3_post wsX3_isIn := goodIn_r _ [6] (by decide +kernel) (by decide +kernel)
set_option maxRecDepth 20000 in
theorem gX3_post_X3_isIn : GoodIn wsX3_post (va_wsS RX3 54 yX3_isIn wsX3_isIn) := goodIn_app (goodIn_of _ (by decide +kernel)) ggX3_post_X3_isIn
set_option maxRecDepth 20000 in
theorem ggX3_post_X3_isStretch : GoodIn wsX3_post wsX3_isStretch := goodIn_r _ [10, 11, 3, 4, 5, 6, 16, 17, 18, 19, 20, 21, 22, 23, 24, 25, 26, 27, 28, 29, 30, 31] (by decide +kernel) (by decide +kernel)
set_option maxRecDepth 20000 in
theorem gX3_post_X3_isStretch : GoodIn wsX3_post (wsV RX3 82 RX3 yX3_isStretch wsX3_isStretch) := goodIn_app (goodIn_of _ (by decide +kernel)) ggX3_post_X3_isStretch
set_option maxRecDepth 20000 in
theorem ggX3_post_X3_fail : GoodIn wsX3_post wsX3_fail := goodIn_r _ [15, 1, 16, 17, 18, 19, 20, 21, 22, 23, 24, 25, 26, 27, 28, 29, 30, 31] (by decide +kernel) (by decide +kernel)
set_option maxRecDepth 20000 in
theorem gX3_post_X3_fail : GoodIn wsX3_post (wsV RX3 68 RX3 yX3_fail wsX3_fail) := goodIn_app (goodIn_of _ (by decide +kernel)) ggX3_post_X3_fail
theorem dX3_post_0 : decode cX3_post 0 = .ok (.aload_n 0, 1) := by decide +kernel
theorem dX3_post_1 : decode cX3_post 1 = .ok (.iconst 0, 1) := by decide +kernel
theorem dX3_post_2 : decode cX3_post 2 = .ok (.putfield 47, 3) := by decide +kernel
theorem dX3_post_5 : decode cX3_post 5 = .ok (.iload_n 1, 1) := by decide +kernel
theorem dX3_post_6 : decode cX3_post 6 = .ok (.iconst 0, 1) := by decide +kernel
theorem dX3_post_7 : decode cX3_post 7 = .ok (.iconst 1, 1) := by decide +kernel
theorem dX3_post_8 : decode cX3_post 8 = .ok (.invokestatic 54, 3) := by decide +kernel
theorem dX3_post_11 : decode cX3_post 11 = .ok (.ifCond .eq 16, 3) := by decide +kernel
theorem dX3_post_14 : decode cX3_post 14 = .ok (.iload_n 2, 1) := by decide +kernel
theorem dX3_post_15 : decode cX3_post 15 = .ok (.iconst (-1), 1) := by decide +kernel
theorem dX3_post_16 : decode cX3_post 16 = .ok (.if_icmp .eq 17, 3) := by decide +kernel
theorem dX3_post_19 : decode cX3_post 19 = .ok (.aload_n 0, 1) := by decide +kernel
theorem dX3_post_20 : decode cX3_post 20 = .ok (.iload_n 2, 1) := by decide +kernel
theorem dX3_post_21 : decode cX3_post 21 = .ok (.invokevirtual 82, 3) := by decide +kernel
theorem dX3_post_24 : decode cX3_post 24 = .ok (.ifCond .ne 9, 3) := by decide +kernel
theorem dX3_post_27 : decode cX3_post 27 = .ok (.aload_n 0, 1) := by decide +kernel
theorem dX3_post_28 : decode cX3_post 28 = .ok (.iconst 1, 1) := by decide +kernel
theorem dX3_post_29 : decode cX3_post 29 = .ok (.invokevirtual 68, 3) := by decide +kernel
theorem dX3_post_32 : decode cX3_post 32 = .ok (.ireturn, 1) := by decide +kernel
theorem dX3_post_33 : decode cX3_post 33 = .ok (.aload_n 0, 1) := by decide +kernel
theorem dX3_post_34 : decode cX3_post 34 = .ok (.getfield 13, 3) := by decide +kernel
theorem dX3_post_37 : decode cX3_post 37 = .ok (.iload_n 1, 1) := by decide +kernel
theorem dX3_post_38 : decode cX3_post 38 = .ok (.iaload, 1) := by decide +kernel
theorem dX3_post_39 : decode cX3_post 39 = .ok (.istore_n 3, 1) := by decide +kernel
theorem dX3_post_40 : decode cX3_post 40 = .ok (.aload_n 0, 1) := by decide +kernel
theorem dX3_post_41 : decode cX3_post 41 = .ok (.getfield 13, 3) := by decide +kernel
theorem dX3_post_44 : decode cX3_post 44 = .ok (.iload_n 1, 1) := by decide +kernel
theorem dX3_post_45 : decode cX3_post 45 = .ok (.iload_n 2, 1) := by decide +kernel
theorem dX3_post_46 : decode cX3_post 46 = .ok (.iastore, 1) := by decide +kernel
theorem dX3_post_47 : decode cX3_post 47 = .ok (.iload_n 3, 1) := by decide +kernel
theorem dX3_post_48 : decode cX3_post 48 = .ok (.ireturn, 1) := by decide +kernel
set_option maxRecDepth 20000 in
theorem ggX3_setWind_X3_isIn : GoodIn wsX3_setWind wsX3_isIn := goodIn_r _ [6] (by decide +kernel) (by decide +kernel)
set_option maxRecDepth 20000 in
theorem gX3_setWind_X3_isIn : GoodIn wsX3_setWind (va_wsS RX3 54 yX3_isIn wsX3_isIn) := goodIn_app (goodIn_of _ (by decide +kernel)) ggX3_setWind_X3_isIn
set_option maxRecDepth 20000 in
theorem ggX3_setWind_X3_fail : GoodIn wsX3_setWind wsX3_fail := goodIn_r _ [10, 1, 11, 12, 13, 14, 15, 16, 17, 18, 19, 20, 21, 22, 23, 24, 25, 26] (by decide +kernel) (by decide +kernel)
set_option maxRecDepth 20000 in
theorem gX3_setWind_X3_fail : GoodIn wsX3_setWind (wsV RX3 68 RX3 yX3_fail wsX3_fail) := goodIn_app (goodIn_of _ (by decide +kernel)) ggX3_setWind_X3_fail
theorem dX3_setWind_0 : decode cX3_setWind 0 = .ok (.aload_n 0, 1) := by decide +kernel
theorem dX3_setWind_1 : decode cX3_setWind 1 = .ok (.iconst 0, 1) := by decide +kernel
theorem dX3_setWind_2 : decode cX3_setWind 2 = .ok (.putfield 47, 3) := by decide +kernel
theorem dX3_setWind_5 : decode cX3_setWind 5 = .ok (.iload_n 1, 1) := by decide +kernel
theorem dX3_setWind_6 : decode cX3_setWind 6 = .ok (.iconst 0, 1) := by decide +kernel
theorem dX3_setWind_7 : decode cX3_setWind 7 = .ok (.bipush 9, 2) := by decide +kernel
theorem dX3_setWind_9 : decode cX3_setWind 9 = .ok (.invokestatic 54, 3) := by decide +kernel
theorem dX3_setWind_12 : decode cX3_setWind 12 = .ok (.ifCond .ne 9, 3) := by decide +kernel
theorem dX3_setWind_15 : decode cX3_setWind 15 = .ok (.aload_n 0, 1) := by decide +kernel
theorem dX3_setWind_16 : decode cX3_setWind 16 = .ok (.iconst 1, 1) := by decide +kernel
theorem dX3_setWind_17 : decode cX3_setWind 17 = .ok (.invokevirtual 68, 3) := by decide +kernel
theorem dX3_setWind_20 : decode cX3_setWind 20 = .ok (.ireturn, 1) := by decide +kernel
theorem dX3_setWind_21 : decode cX3_setWind 21 = .ok (.iload_n 2, 1) := by decide +kernel
theorem dX3_setWind_22 : decode cX3_setWind 22 = .ok (.iconst 0, 1) := by decide +kernel
theorem dX3_setWind_23 : decode cX3_setWind 23 = .ok (.bipush 9, 2) := by decide +kernel
theorem dX3_setWind_25 : decode cX3_setWind 25 = .ok (.invokestatic 54, 3) := by decide +kernel
theorem dX3_setWind_28 : decode cX3_setWind 28 = .ok (.ifCond .ne 9, 3) := by decide +kernel
theorem dX3_setWind_31 : decode cX3_setWind 31 = .ok (.aload_n 0, 1) := by decide +kernel
theorem dX3_setWind_32 : decode cX3_setWind 32 = .ok (.iconst 2, 1) := by decide +kernel
theorem dX3_setWind_33 : decode cX3_setWind 33 = .ok (.invokevirtual 68, 3) := by decide +kernel
theorem dX3_setWind_36 : decode cX3_setWind 36 = .ok (.ireturn, 1) := by decide +kernel
theorem dX3_setWind_37 : decode cX3_setWind 37 = .ok (.aload_n 0, 1) := by decide +kernel
theorem dX3_setWind_38 : decode cX3_setWind 38 = .ok (.getfield 16, 3) := by decide +kernel
theorem dX3_setWind_41 : decode cX3_setWind 41 = .ok (.iload_n 1, 1) := by decide +kernel
theorem dX3_setWind_42 : decode cX3_setWind 42 = .ok (.iaload, 1) := by decide +kernel
theorem dX3_setWind_43 : decode cX3_setWind 43 = .ok (.istore_n 3, 1) := by decide +kernel
theorem dX3_setWind_44 : decode cX3_setWind 44 = .ok (.aload_n 0, 1) := by decide +kernel
theorem dX3_setWind_45 : decode cX3_setWind 45 = .ok (.getfield 16, 3) := by decide +kernel
theorem dX3_setWind_48 : decode cX3_setWind 48 = .ok (.iload_n 1, 1) := by decide +kernel
theorem dX3_setWind_49 : decode cX3_setWind 49 = .ok (.iload_n 2, 1) := by decide +kernel
theorem dX3_setWind_50 : decode cX3_setWind 50 = .ok (.iastore, 1) := by decide +kernel
theorem dX3_setWind_51 : decode cX3_setWind 51 = .ok (.iload_n 3, 1) := by decide +kernel
theorem dX3_setWind_52 : decode cX3_setWind 52 = .ok (.ireturn, 1) := by decide +kernel
set_option maxRecDepth 20000 in
theorem ggX3_come_X3_isIn : GoodIn wsX3_come wsX3_isIn := goodIn_r _ [12] (by decide +kernel) (by decide +kernel)
set_option maxRecDepth 20000 in
theorem gX3_come_X3_isIn : GoodIn wsX3_come (va_wsS RX3 54 yX3_isIn wsX3_isIn) := goodIn_app (goodIn_of _ (by decide +kernel)) ggX3_come_X3_isIn
set_option maxRecDepth 20000 in
theorem ggX3_come_X3_fail : GoodIn wsX3_come wsX3_fail := goodIn_r _ [16, 1, 17, 18, 19, 20, 21, 22, 23, 24, 25, 26, 27, 28, 29, 30, 31, 32] (by decide +kernel) (by decide +kernel)
set_option maxRecDepth 20000 in
theorem gX3_come_X3_fail : GoodIn wsX3_come (wsV RX3 68 RX3 yX3_fail wsX3_fail) := goodIn_app (goodIn_of _ (by decide +kernel)) ggX3_come_X3_fail
theorem dX3_come_0 : decode cX3_come 0 = .ok (.aload_n 0, 1) := by decide +kernel
theorem dX3_come_1 : decode cX3_come 1 = .ok (.iconst 0, 1) := by decide +kernel
theorem dX3_come_2 : decode cX3_come 2 = .ok (.putfield 47, 3) := by decide +kernel
theorem dX3_come_5 : decode cX3_come 5 = .ok (.iload_n 1, 1) := by decide +kernel
theorem dX3_come_6 : decode cX3_come 6 = .ok (.iconst 1, 1) := by decide +kernel
theorem dX3_come_7 : decode cX3_come 7 = .ok (.iconst 3, 1) := by decide +kernel
theorem dX3_come_8 : decode cX3_come 8 = .ok (.invokestatic 54, 3) := by decide +kernel
theorem dX3_come_11 : decode cX3_come 11 = .ok (.ifCond .eq 24, 3) := by decide +kernel
theorem dX3_come_14 : decode cX3_come 14 = .ok (.iload_n 2, 1) := by decide +kernel
theorem dX3_come_15 : decode cX3_come 15 = .ok (.iconst 0, 1) := by decide +kernel
theorem dX3_come_16 : decode cX3_come 16 = .ok (.sipush 200, 3) := by decide +kernel
theorem dX3_come_19 : decode cX3_come 19 = .ok (.invokestatic 54, 3) := by decide +kernel
theorem dX3_come_22 : decode cX3_come 22 = .ok (.ifCond .eq 13, 3) := by decide +kernel
theorem dX3_come_25 : decode cX3_come 25 = .ok (.iload_n 3, 1) := by decide +kernel
theorem dX3_come_26 : decode cX3_come 26 = .ok (.iconst 0, 1) := by decide +kernel
theorem dX3_come_27 : decode cX3_come 27 = .ok (.bipush 9, 2) := by decide +kernel
theorem dX3_come_29 : decode cX3_come 29 = .ok (.invokestatic 54, 3) := by decide +kernel
theorem dX3_come_32 : decode cX3_come 32 = .ok (.ifCond .ne 9, 3) := by decide +kernel
theorem dX3_come_35 : decode cX3_come 35 = .ok (.aload_n 0, 1) := by decide +kernel
theorem dX3_come_36 : decode cX3_come 36 = .ok (.iconst 1, 1) := by decide +kernel
theorem dX3_come_37 : decode cX3_come 37 = .ok (.invokevirtual 68, 3) := by decide +kernel
theorem dX3_come_40 : decode cX3_come 40 = .ok (.ireturn, 1) := by decide +kernel
theorem dX3_come_41 : decode cX3_come 41 = .ok (.aload_n 0, 1) := by decide +kernel
theorem dX3_come_42 : decode cX3_come 42 = .ok (.getfield 58, 3) := by decide +kernel
theorem dX3_come_45 : decode cX3_come 45 = .ok (.bipush 20, 2) := by decide +kernel
theorem dX3_come_47 : decode cX3_come 47 = .ok (.if_icmp .ne 9, 3) := by decide +kernel
theorem dX3_come_50 : decode cX3_come 50 = .ok (.aload_n 0, 1) := by decide +kernel
theorem dX3_come_51 : decode cX3_come 51 = .ok (.iconst 2, 1) := by decide +kernel
theorem dX3_come_52 : decode cX3_come 52 = .ok (.invokevirtual 68, 3) := by decide +kernel
theorem dX3_come_55 : decode cX3_come 55 = .ok (.ireturn, 1) := by decide +kernel
theorem dX3_come_56 : decode cX3_come 56 = .ok (.bipush 8, 2) := by decide +kernel
theorem dX3_come_58 : decode cX3_come 58 = .ok (.newarray .int, 2) := by decide +kernel
theorem dX3_come_60 : decode cX3_come 60 = .ok (.dup, 1) := by decide +kernel
theorem dX3_come_61 : decode cX3_come 61 = .ok (.iconst 0, 1) := by decide +kernel
theorem dX3_come_62 : decode cX3_come 62 = .ok (.iload_n 1, 1) := by decide +kernel
theorem dX3_come_63 : decode cX3_come 63 = .ok (.iastore, 1) := by decide +kernel
theorem dX3_come_64 : decode cX3_come 64 = .ok (.dup, 1) := by decide +kernel
theorem dX3_come_65 : decode cX3_come 65 = .ok (.iconst 1, 1) := by decide +kernel
theorem dX3_come_66 : decode cX3_come 66 = .ok (.iload_n 2, 1) := by decide +kernel
theorem dX3_come_67 : decode cX3_come 67 = .ok (.iastore, 1) := by decide +kernel
theorem dX3_come_68 : decode cX3_come 68 = .ok (.dup, 1) := by decide +kernel
theorem dX3_come_69 : decode cX3_come 69 = .ok (.iconst 2, 1) := by decide +kernel
theorem dX3_come_70 : decode cX3_come 70 = .ok (.iload_n 3, 1) := by decide +kernel
theorem dX3_come_71 : decode cX3_come 71 = .ok (.iastore, 1) := by decide +kernel
theorem dX3_come_72 : decode cX3_come 72 = .ok (.dup, 1) := by decide +kernel
theorem dX3_come_73 : decode cX3_come 73 = .ok (.iconst 3, 1) := by decide +kernel
theorem dX3_come_74 : decode cX3_come 74 = .ok (.iload_n 2, 1) := by decide +kernel
theorem dX3_come_75 : decode cX3_come 75 = .ok (.ifCond .le 7, 3) := by decide +kernel
theorem dX3_come_78 : decode cX3_come 78 = .ok (.iconst 1, 1) := by decide +kernel
theorem dX3_come_79 : decode cX3_come 79 = .ok (.goto 4, 3) := by decide +kernel
theorem dX3_come_82 : decode cX3_come 82 = .ok (.iconst 0, 1) := by decide +kernel
theorem dX3_come_83 : decode cX3_come 83 = .ok (.iastore, 1) := by decide +kernel
theorem dX3_come_84 : decode cX3_come 84 = .ok (.dup, 1) := by decide +kernel
theorem dX3_come_85 : decode cX3_come 85 = .ok (.iconst 4, 1) := by decide +kernel
theorem dX3_come_86 : decode cX3_come 86 = .ok (.iconst 0, 1) := by decide +kernel
theorem dX3_come_87 : decode cX3_come 87 = .ok (.iastore, 1) := by decide +kernel
theorem dX3_come_88 : decode cX3_come 88 = .ok (.dup, 1) := by decide +kernel
theorem dX3_come_89 : decode cX3_come 89 = .ok (.iconst 5, 1) := by decide +kernel
theorem dX3_come_90 : decode cX3_come 90 = .ok (.iconst (-1), 1) := by decide +kernel
theorem dX3_come_91 : decode cX3_come 91 = .ok (.iastore, 1) := by decide +kernel
theorem dX3_come_92 : decode cX3_come 92 = .ok (.dup, 1) := by decide +kernel
theorem dX3_come_93 : decode cX3_come 93 = .ok (.bipush 6, 2) := by decide +kernel
theorem dX3_come_95 : decode cX3_come 95 = .ok (.iconst 0, 1) := by decide +kernel
theorem dX3_come_96 : decode cX3_come 96 = .ok (.iastore, 1) := by decide +kernel
theorem dX3_come_97 : decode cX3_come 97 = .ok (.dup, 1) := by decide +kernel
theorem dX3_come_98 : decode cX3_come 98 = .ok (.bipush 7, 2) := by decide +kernel
theorem dX3_come_100 : decode cX3_come 100 = .ok (.iconst (-1), 1) := by decide +kernel
theorem dX3_come_101 : decode cX3_come 101 = .ok (.iastore, 1) := by decide +kernel
theorem dX3_come_102 : decode cX3_come 102 = .ok (.astore 4, 2) := by decide +kernel
theorem dX3_come_104 : decode cX3_come 104 = .ok (.aload 4, 2) := by decide +kernel
theorem dX3_come_106 : decode cX3_come 106 = .ok (.iconst 0, 1) := by decide +kernel
theorem dX3_come_107 : decode cX3_come 107 = .ok (.aload_n 0, 1) := by decide +kernel
theorem dX3_come_108 : decode cX3_come 108 = .ok (.getfield 19, 3) := by decide +kernel
theorem dX3_come_111 : decode cX3_come 111 = .ok (.bipush 8, 2) := by decide +kernel
theorem dX3_come_113 : decode cX3_come 113 = .ok (.aload_n 0, 1) := by decide +kernel
theorem dX3_come_114 : decode cX3_come 114 = .ok (.getfield 58, 3) := by decide +kernel
theorem dX3_come_117 : decode cX3_come 117 = .ok (.imul, 1) := by decide +kernel
theorem dX3_come_118 : decode cX3_come 118 = .ok (.bipush 8, 2) := by decide +kernel
theorem dX3_come_120 : decode cX3_come 120 = .ok (.invokestatic 76, 3) := by decide +kernel
theorem dX3_come_123 : decode cX3_come 123 = .ok (.aload_n 0, 1) := by decide +kernel
theorem dX3_come_124 : decode cX3_come 124 = .ok (.dup, 1) := by decide +kernel
theorem dX3_come_125 : decode cX3_come 125 = .ok (.getfield 58, 3) := by decide +kernel
theorem dX3_come_128 : decode cX3_come 128 = .ok (.iconst 1, 1) := by decide +kernel
theorem dX3_come_129 : decode cX3_come 129 = .ok (.iadd, 1) := by decide +kernel
theorem dX3_come_130 : decode cX3_come 130 = .ok (.putfield 58, 3) := by decide +kernel
theorem dX3_come_133 : decode cX3_come 133 = .ok (.aload_n 0, 1) := by decide +kernel
theorem dX3_come_134 : decode cX3_come 134 = .ok (.getfield 58, 3) := by decide +kernel
theorem dX3_come_137 : decode cX3_come 137 = .ok (.iconst 1, 1) := by decide +kernel
theorem dX3_come_138 : decode cX3_come 138 = .ok (.isub, 1) := by decide +kernel
theorem dX3_come_139 : decode cX3_come 139 = .ok (.ireturn, 1) := by decide +kernel
set_option maxRecDepth 20000 in
theorem ggX3_trim_X3_isWalker : GoodIn wsX3_trim wsX3_isWalker := goodIn_r _ [10, 11, 12, 13, 9, 14, 28, 29, 30, 31, 32, 33, 34, 35, 36, 37, 38, 39, 40, 41, 42, 43] (by decide +kernel) (by decide +kernel)
set_option maxRecDepth 20000 in
theorem gX3_trim_X3_isWalker : GoodIn wsX3_trim (wsV RX3 86 RX3 yX3_isWalker wsX3_isWalker) := goodIn_app (goodIn_of _ (by decide +kernel)) ggX3_trim_X3_isWalker
set_option maxRecDepth 20000 in
theorem ggX3_trim_X3_fail : GoodIn wsX3_trim wsX3_fail := goodIn_r _ [18, 1, 28, 29, 30, 31, 32, 33, 34, 35, 36, 37, 38, 39, 40, 41, 42, 43] (by decide +kernel) (by decide +kernel)
set_option maxRecDepth 20000 in
theorem gX3_trim_X3_fail : GoodIn wsX3_trim (wsV RX3 68 RX3 yX3_fail wsX3_fail) := goodIn_app (goodIn_of _ (by decide +kernel)) ggX3_trim_X3_fail
set_option maxRecDepth 20000 in
theorem ggX3_trim_X3_isIn : GoodIn wsX3_trim wsX3_isIn := goodIn_r _ [14] (by decide +kernel) (by decide +kernel)
set_option maxRecDepth 20000 in
theorem gX3_trim_X3_isIn : GoodIn wsX3_trim (va_wsS RX3 54 yX3_isIn wsX3_isIn) := goodIn_app (goodIn_of _ (by decide +kernel)) ggX3_trim_X3_isIn
set_option maxRecDepth 20000 in
theorem ggX3_trim_X3_pe : GoodIn wsX3_trim wsX3_pe := goodIn_r _ [22, 23, 28, 29, 30, 31, 32, 33, 34, 35, 36, 37, 38, 39, 40, 41, 42, 43] (by decide +kernel) (by decide +kernel)
set_option maxRecDepth 20000 in
theorem gX3_trim_X3_pe : GoodIn wsX3_trim (wsV RX3 89 RX3 yX3_pe wsX3_pe) := goodIn_app (goodIn_of _ (by decide +kernel)) ggX3_trim_X3_pe
set_option maxRecDepth 20000 in
theorem ggX3_trim_X3_set : GoodIn wsX3_trim wsX3_set := goodIn_r _ [27, 23, 28, 29, 30, 31, 32, 33, 34, 35, 36, 37, 38, 39, 40, 41, 42, 43] (by decide +kernel) (by decide +kernel)
set_option maxRecDepth 20000 in
theorem gX3_trim_X3_set : GoodIn wsX3_trim (wsV RX3 97 RX3 yX3_set wsX3_set) := goodIn_app (goodIn_of _ (by decide +kernel)) ggX3_trim_X3_set
theorem dX3_trim_0 : decode cX3_trim 0 = .ok (.aload_n 0, 1) := by decide +kernel
theorem dX3_trim_1 : decode cX3_trim 1 = .ok (.iconst 0, 1) := by decide +kernel
theorem dX3_trim_2 : decode cX3_trim 2 = .ok (.putfield 47, 3) := by decide +kernel
theorem dX3_trim_5 : decode cX3_trim 5 = .ok (.aload_n 0, 1) := by decide +kernel
theorem dX3_trim_6 : decode cX3_trim 6 = .ok (.iload_n 1, 1) := by decide +kernel
theorem dX3_trim_7 : decode cX3_trim 7 = .ok (.invokevirtual 86, 3) := by decide +kernel
theorem dX3_trim_10 : decode cX3_trim 10 = .ok (.ifCond .ne 9, 3) := by decide +kernel
theorem dX3_trim_13 : decode cX3_trim 13 = .ok (.aload_n 0, 1) := by decide +kernel
theorem dX3_trim_14 : decode cX3_trim 14 = .ok (.iconst 1, 1) := by decide +kernel
theorem dX3_trim_15 : decode cX3_trim 15 = .ok (.invokevirtual 68, 3) := by decide +kernel
theorem dX3_trim_18 : decode cX3_trim 18 = .ok (.ireturn, 1) := by decide +kernel
theorem dX3_trim_19 : decode cX3_trim 19 = .ok (.iload_n 2, 1) := by decide +kernel
theorem dX3_trim_20 : decode cX3_trim 20 = .ok (.iconst 1, 1) := by decide +kernel
theorem dX3_trim_21 : decode cX3_trim 21 = .ok (.sipush 200, 3) := by decide +kernel
theorem dX3_trim_24 : decode cX3_trim 24 = .ok (.invokestatic 54, 3) := by decide +kernel
theorem dX3_trim_27 : decode cX3_trim 27 = .ok (.ifCond .ne 9, 3) := by decide +kernel
theorem dX3_trim_30 : decode cX3_trim 30 = .ok (.aload_n 0, 1) := by decide +kernel
theorem dX3_trim_31 : decode cX3_trim 31 = .ok (.iconst 2, 1) := by decide +kernel
theorem dX3_trim_32 : decode cX3_trim 32 = .ok (.invokevirtual 68, 3) := by decide +kernel
theorem dX3_trim_35 : decode cX3_trim 35 = .ok (.ireturn, 1) := by decide +kernel
theorem dX3_trim_36 : decode cX3_trim 36 = .ok (.aload_n 0, 1) := by decide +kernel
theorem dX3_trim_37 : decode cX3_trim 37 = .ok (.iload_n 1, 1) := by decide +kernel
theorem dX3_trim_38 : decode cX3_trim 38 = .ok (.iconst 4, 1) := by decide +kernel
theorem dX3_trim_39 : decode cX3_trim 39 = .ok (.invokevirtual 89, 3) := by decide +kernel
theorem dX3_trim_42 : decode cX3_trim 42 = .ok (.iconst 2, 1) := by decide +kernel
theorem dX3_trim_43 : decode cX3_trim 43 = .ok (.if_icmp .ne 9, 3) := by decide +kernel
theorem dX3_trim_46 : decode cX3_trim 46 = .ok (.aload_n 0, 1) := by decide +kernel
theorem dX3_trim_47 : decode cX3_trim 47 = .ok (.iconst 3, 1) := by decide +kernel
theorem dX3_trim_48 : decode cX3_trim 48 = .ok (.invokevirtual 68, 3) := by decide +kernel
theorem dX3_trim_51 : decode cX3_trim 51 = .ok (.ireturn, 1) := by decide +kernel
theorem dX3_trim_52 : decode cX3_trim 52 = .ok (.aload_n 0, 1) := by decide +kernel
theorem dX3_trim_53 : decode cX3_trim 53 = .ok (.iload_n 1, 1) := by decide +kernel
theorem dX3_trim_54 : decode cX3_trim 54 = .ok (.iconst 1, 1) := by decide +kernel
theorem dX3_trim_55 : decode cX3_trim 55 = .ok (.sipush 200, 3) := by decide +kernel
theorem dX3_trim_58 : decode cX3_trim 58 = .ok (.aload_n 0, 1) := by decide +kernel
theorem dX3_trim_59 : decode cX3_trim 59 = .ok (.iload_n 1, 1) := by decide +kernel
theorem dX3_trim_60 : decode cX3_trim 60 = .ok (.iconst 1, 1) := by decide +kernel
theorem dX3_trim_61 : decode cX3_trim 61 = .ok (.invokevirtual 89, 3) := by decide +kernel
theorem dX3_trim_64 : decode cX3_trim 64 = .ok (.iload_n 2, 1) := by decide +kernel
theorem dX3_trim_65 : decode cX3_trim 65 = .ok (.iadd, 1) := by decide +kernel
theorem dX3_trim_66 : decode cX3_trim 66 = .ok (.invokestatic 92, 3) := by decide +kernel
theorem dX3_trim_69 : decode cX3_trim 69 = .ok (.invokevirtual 97, 3) := by decide +kernel
theorem dX3_trim_72 : decode cX3_trim 72 = .ok (.aload_n 0, 1) := by decide +kernel
theorem dX3_trim_73 : decode cX3_trim 73 = .ok (.iload_n 1, 1) := by decide +kernel
theorem dX3_trim_74 : decode cX3_trim 74 = .ok (.iconst 3, 1) := by decide +kernel
theorem dX3_trim_75 : decode cX3_trim 75 = .ok (.iconst 1, 1) := by decide +kernel
theorem dX3_trim_76 : decode cX3_trim 76 = .ok (.invokevirtual 97, 3) := by decide +kernel
theorem dX3_trim_79 : decode cX3_trim 79 = .ok (.aload_n 0, 1) := by decide +kernel
theorem dX3_trim_80 : decode cX3_trim 80 = .ok (.iload_n 1, 1) := by decide +kernel
theorem dX3_trim_81 : decode cX3_trim 81 = .ok (.iconst 1, 1) := by decide +kernel
theorem dX3_trim_82 : decode cX3_trim 82 = .ok (.invokevirtual 89, 3) := by decide +kernel
theorem dX3_trim_85 : decode cX3_trim 85 = .ok (.ireturn, 1) := by decide +kernel
set_option maxRecDepth 20000 in
theorem ggX3_addSong_X3_isIn : GoodIn wsX3_addSong wsX3_isIn := goodIn_r _ [7] (by decide +kernel) (by decide +kernel)
set_option maxRecDepth 20000 in
theorem gX3_addSong_X3_isIn : GoodIn wsX3_addSong (va_wsS RX3 54 yX3_isIn wsX3_isIn) := goodIn_app (goodIn_of _ (by decide +kernel)) ggX3_addSong_X3_isIn
set_option maxRecDepth 20000 in
theorem ggX3_addSong_X3_fail : GoodIn wsX3_addSong wsX3_fail := goodIn_r _ [11, 1, 12, 13, 14, 15, 16, 17, 18, 19, 20, 21, 22, 23, 24, 25, 26, 27] (by decide +kernel) (by decide +kernel)
set_option maxRecDepth 20000 in
theorem gX3_addSong_X3_fail : GoodIn wsX3_addSong (wsV RX3 68 RX3 yX3_fail wsX3_fail) := goodIn_app (goodIn_of _ (by decide +kernel)) ggX3_addSong_X3_fail
theorem dX3_addSong_0 : decode cX3_addSong 0 = .ok (.aload_n 0, 1) := by decide +kernel
theorem dX3_addSong_1 : decode cX3_addSong 1 = .ok (.iconst 0, 1) := by decide +kernel
theorem dX3_addSong_2 : decode cX3_addSong 2 = .ok (.putfield 47, 3) := by decide +kernel
theorem dX3_addSong_5 : decode cX3_addSong 5 = .ok (.iload_n 1, 1) := by decide +kernel
theorem dX3_addSong_6 : decode cX3_addSong 6 = .ok (.iconst 1, 1) := by decide +kernel
theorem dX3_addSong_7 : decode cX3_addSong 7 = .ok (.bipush 9, 2) := by decide +kernel
theorem dX3_addSong_9 : decode cX3_addSong 9 = .ok (.invokestatic 54, 3) := by decide +kernel
theorem dX3_addSong_12 : decode cX3_addSong 12 = .ok (.ifCond .ne 9, 3) := by decide +kernel
theorem dX3_addSong_15 : decode cX3_addSong 15 = .ok (.aload_n 0, 1) := by decide +kernel
theorem dX3_addSong_16 : decode cX3_addSong 16 = .ok (.iconst 1, 1) := by decide +kernel
theorem dX3_addSong_17 : decode cX3_addSong 17 = .ok (.invokevirtual 68, 3) := by decide +kernel
theorem dX3_addSong_20 : decode cX3_addSong 20 = .ok (.ireturn, 1) := by decide +kernel
theorem dX3_addSong_21 : decode cX3_addSong 21 = .ok (.aload_n 0, 1) := by decide +kernel
theorem dX3_addSong_22 : decode cX3_addSong 22 = .ok (.getfield 61, 3) := by decide +kernel
theorem dX3_addSong_25 : decode cX3_addSong 25 = .ok (.bipush 6, 2) := by decide +kernel
theorem dX3_addSong_27 : decode cX3_addSong 27 = .ok (.if_icmp .ne 9, 3) := by decide +kernel
theorem dX3_addSong_30 : decode cX3_addSong 30 = .ok (.aload_n 0, 1) := by decide +kernel
theorem dX3_addSong_31 : decode cX3_addSong 31 = .ok (.iconst 2, 1) := by decide +kernel
theorem dX3_addSong_32 : decode cX3_addSong 32 = .ok (.invokevirtual 68, 3) := by decide +kernel
theorem dX3_addSong_35 : decode cX3_addSong 35 = .ok (.ireturn, 1) := by decide +kernel
theorem dX3_addSong_36 : decode cX3_addSong 36 = .ok (.aload_n 0, 1) := by decide +kernel
theorem dX3_addSong_37 : decode cX3_addSong 37 = .ok (.getfield 22, 3) := by decide +kernel
theorem dX3_addSong_40 : decode cX3_addSong 40 = .ok (.aload_n 0, 1) := by decide +kernel
theorem dX3_addSong_41 : decode cX3_addSong 41 = .ok (.getfield 61, 3) := by decide +kernel
theorem dX3_addSong_44 : decode cX3_addSong 44 = .ok (.iload_n 1, 1) := by decide +kernel
theorem dX3_addSong_45 : decode cX3_addSong 45 = .ok (.iastore, 1) := by decide +kernel
theorem dX3_addSong_46 : decode cX3_addSong 46 = .ok (.aload_n 0, 1) := by decide +kernel
theorem dX3_addSong_47 : decode cX3_addSong 47 = .ok (.dup, 1) := by decide +kernel
theorem dX3_addSong_48 : decode cX3_addSong 48 = .ok (.getfield 61, 3) := by decide +kernel
theorem dX3_addSong_51 : decode cX3_addSong 51 = .ok (.iconst 1, 1) := by decide +kernel
theorem dX3_addSong_52 : decode cX3_addSong 52 = .ok (.iadd, 1) := by decide +kernel
theorem dX3_addSong_53 : decode cX3_addSong 53 = .ok (.putfield 61, 3) := by decide +kernel
theorem dX3_addSong_56 : decode cX3_addSong 56 = .ok (.aload_n 0, 1) := by decide +kernel
theorem dX3_addSong_57 : decode cX3_addSong 57 = .ok (.getfield 61, 3) := by decide +kernel
theorem dX3_addSong_60 : decode cX3_addSong 60 = .ok (.iconst 1, 1) := by decide +kernel
theorem dX3_addSong_61 : decode cX3_addSong 61 = .ok (.isub, 1) := by decide +kernel
theorem dX3_addSong_62 : decode cX3_addSong 62 = .ok (.ireturn, 1) := by decide +kernel
set_option maxRecDepth 20000 in
theorem ggX3_teach_X3_isWalker : GoodIn wsX3_teach wsX3_isWalker := goodIn_r _ [7, 8, 9, 10, 6, 11, 21, 22, 23, 24, 25, 26, 27, 28, 29, 30, 31, 32, 33, 34, 35, 36] (by decide +kernel) (by decide +kernel)
set_option maxRecDepth 20000 in
theorem gX3_teach_X3_isWalker : GoodIn wsX3_teach (wsV RX3 86 RX3 yX3_isWalker wsX3_isWalker) := goodIn_app (goodIn_of _ (by decide +kernel)) ggX3_teach_X3_isWalker
set_option maxRecDepth 20000 in
theorem ggX3_teach_X3_isSong : GoodIn wsX3_teach wsX3_isSong := goodIn_r _ [15, 16, 9, 10, 6, 11, 21, 22, 23, 24, 25, 26, 27, 28, 29, 30, 31, 32, 33, 34, 35, 36] (by decide +kernel) (by decide +kernel)
set_option maxRecDepth 20000 in
theorem gX3_teach_X3_isSong : GoodIn wsX3_teach (wsV RX3 101 RX3 yX3_isSong wsX3_isSong) := goodIn_app (goodIn_of _ (by decide +kernel)) ggX3_teach_X3_isSong
set_option maxRecDepth 20000 in
theorem ggX3_teach_X3_fail : GoodIn wsX3_teach wsX3_fail := goodIn_r _ [20, 1, 21, 22, 23, 24, 25, 26, 27, 28, 29, 30, 31, 32, 33, 34, 35, 36] (by decide +kernel) (by decide +kernel)
set_option maxRecDepth 20000 in
theorem gX3_teach_X3_fail : GoodIn wsX3_teach (wsV RX3 68 RX3 yX3_fail wsX3_fail) := goodIn_app (goodIn_of _ (by decide +kernel)) ggX3_teach_X3_fail
set_option maxRecDepth 20000 in
theorem ggX3_teach_X3_isIn : GoodIn wsX3_teach wsX3_isIn := goodIn_r _ [11] (by decide +kernel) (by decide +kernel)
set_option maxRecDepth 20000 in
theorem gX3_teach_X3_isIn : GoodIn wsX3_teach (va_wsS RX3 54 yX3_isIn wsX3_isIn) := goodIn_app (goodIn_of _ (by decide +kernel)) ggX3_teach_X3_isIn
theorem dX3_teach_0 : decode cX3_teach 0 = .ok (.aload_n 0, 1) := by decide +kernel
theorem dX3_teach_1 : decode cX3_teach 1 = .ok (.iconst 0, 1) := by decide +kernel
theorem dX3_teach_2 : decode cX3_teach 2 = .ok (.putfield 47, 3) := by decide +kernel
theorem dX3_teach_5 : decode cX3_teach 5 = .ok (.aload_n 0, 1) := by decide +kernel
theorem dX3_teach_6 : decode cX3_teach 6 = .ok (.iload_n 1, 1) := by decide +kernel
theorem dX3_teach_7 : decode cX3_teach 7 = .ok (.invokevirtual 86, 3) := by decide +kernel
theorem dX3_teach_10 : decode cX3_teach 10 = .ok (.ifCond .eq 11, 3) := by decide +kernel
theorem dX3_teach_13 : decode cX3_teach 13 = .ok (.aload_n 0, 1) := by decide +kernel
theorem dX3_teach_14 : decode cX3_teach 14 = .ok (.iload_n 2, 1) := by decide +kernel
theorem dX3_teach_15 : decode cX3_teach 15 = .ok (.invokevirtual 101, 3) := by decide +kernel
theorem dX3_teach_18 : decode cX3_teach 18 = .ok (.ifCond .ne 9, 3) := by decide +kernel
theorem dX3_teach_21 : decode cX3_teach 21 = .ok (.aload_n 0, 1) := by decide +kernel
theorem dX3_teach_22 : decode cX3_teach 22 = .ok (.iconst 1, 1) := by decide +kernel
theorem dX3_teach_23 : decode cX3_teach 23 = .ok (.invokevirtual 68, 3) := by decide +kernel
theorem dX3_teach_26 : decode cX3_teach 26 = .ok (.ireturn, 1) := by decide +kernel
theorem dX3_teach_27 : decode cX3_teach 27 = .ok (.iload_n 3, 1) := by decide +kernel
theorem dX3_teach_28 : decode cX3_teach 28 = .ok (.iconst 0, 1) := by decide +kernel
theorem dX3_teach_29 : decode cX3_teach 29 = .ok (.bipush 99, 2) := by decide +kernel
theorem dX3_teach_31 : decode cX3_teach 31 = .ok (.invokestatic 54, 3) := by decide +kernel
theorem dX3_teach_34 : decode cX3_teach 34 = .ok (.ifCond .ne 9, 3) := by decide +kernel
theorem dX3_teach_37 : decode cX3_teach 37 = .ok (.aload_n 0, 1) := by decide +kernel
theorem dX3_teach_38 : decode cX3_teach 38 = .ok (.iconst 2, 1) := by decide +kernel
theorem dX3_teach_39 : decode cX3_teach 39 = .ok (.invokevirtual 68, 3) := by decide +kernel
theorem dX3_teach_42 : decode cX3_teach 42 = .ok (.ireturn, 1) := by decide +kernel
theorem dX3_teach_43 : decode cX3_teach 43 = .ok (.aload_n 0, 1) := by decide +kernel
theorem dX3_teach_44 : decode cX3_teach 44 = .ok (.getfield 25, 3) := by decide +kernel
theorem dX3_teach_47 : decode cX3_teach 47 = .ok (.bipush 6, 2) := by decide +kernel
theorem dX3_teach_49 : decode cX3_teach 49 = .ok (.iload_n 1, 1) := by decide +kernel
theorem dX3_teach_50 : decode cX3_teach 50 = .ok (.imul, 1) := by decide +kernel
theorem dX3_teach_51 : decode cX3_teach 51 = .ok (.iload_n 2, 1) := by decide +kernel
theorem dX3_teach_52 : decode cX3_teach 52 = .ok (.iadd, 1) := by decide +kernel
theorem dX3_teach_53 : decode cX3_teach 53 = .ok (.iaload, 1) := by decide +kernel
theorem dX3_teach_54 : decode cX3_teach 54 = .ok (.istore 4, 2) := by decide +kernel
theorem dX3_teach_56 : decode cX3_teach 56 = .ok (.aload_n 0, 1) := by decide +kernel
theorem dX3_teach_57 : decode cX3_teach 57 = .ok (.getfield 25, 3) := by decide +kernel
theorem dX3_teach_60 : decode cX3_teach 60 = .ok (.bipush 6, 2) := by decide +kernel
theorem dX3_teach_62 : decode cX3_teach 62 = .ok (.iload_n 1, 1) := by decide +kernel
theorem dX3_teach_63 : decode cX3_teach 63 = .ok (.imul, 1) := by decide +kernel
theorem dX3_teach_64 : decode cX3_teach 64 = .ok (.iload_n 2, 1) := by decide +kernel
theorem dX3_teach_65 : decode cX3_teach 65 = .ok (.iadd, 1) := by decide +kernel
theorem dX3_teach_66 : decode cX3_teach 66 = .ok (.iload_n 3, 1) := by decide +kernel
theorem dX3_teach_67 : decode cX3_teach 67 = .ok (.iastore, 1) := by decide +kernel
theorem dX3_teach_68 : decode cX3_teach 68 = .ok (.iload 4, 2) := by decide +kernel
theorem dX3_teach_70 : decode cX3_teach 70 = .ok (.ireturn, 1) := by decide +kernel
set_option maxRecDepth 20000 in
theorem ggX3_walks_X3_pe : GoodIn wsX3_walks wsX3_pe := goodIn_r _ [5, 6, 7, 8, 9, 10, 11, 12, 13, 14, 15, 16, 17, 18, 19, 20, 21, 22] (by decide +kernel) (by decide +kernel)
set_option maxRecDepth 20000 in
theorem gX3_walks_X3_pe : GoodIn wsX3_walks (wsV RX3 89 RX3 yX3_pe wsX3_pe) := goodIn_app (goodIn_of _ (by decide +kernel)) ggX3_walks_X3_pe
theorem dX3_walks_0 : decode cX3_walks 0 = .ok (.aload_n 0, 1) := by decide +kernel
theorem dX3_walks_1 : decode cX3_walks 1 = .ok (.iload_n 1, 1) := by decide +kernel
theorem dX3_walks_2 : decode cX3_walks 2 = .ok (.iconst 4, 1) := by decide +kernel
theorem dX3_walks_3 : decode cX3_walks 3 = .ok (.invokevirtual 89, 3) := by decide +kernel
theorem dX3_walks_6 : decode cX3_walks 6 = .ok (.iconst 1, 1) := by decide +kernel
theorem dX3_walks_7 : decode cX3_walks 7 = .ok (.if_icmp .ne 7, 3) := by decide +kernel
theorem dX3_walks_10 : decode cX3_walks 10 = .ok (.iconst 1, 1) := by decide +kernel
theorem dX3_walks_11 : decode cX3_walks 11 = .ok (.goto 4, 3) := by decide +kernel
theorem dX3_walks_14 : decode cX3_walks 14 = .ok (.iconst 0, 1) := by decide +kernel
theorem dX3_walks_15 : decode cX3_walks 15 = .ok (.ireturn, 1) := by decide +kernel
set_option maxRecDepth 20000 in
theorem ggX3_at_X3_walks : GoodIn wsX3_at wsX3_walks := goodIn_r _ [6, 7, 8, 9, 5, 10, 11, 12, 13, 14, 15, 16, 17, 18, 19, 20, 21, 22, 23, 24, 25, 26, 27] (by decide +kernel) (by decide +kernel)
set_option maxRecDepth 20000 in
theorem gX3_at_X3_walks : GoodIn wsX3_at (wsV RX3 104 RX3 yX3_walks wsX3_walks) := goodIn_app (goodIn_of _ (by decide +kernel)) ggX3_at_X3_walks
set_option maxRecDepth 20000 in
theorem ggX3_at_X3_pe : GoodIn wsX3_at wsX3_pe := goodIn_r _ [10, 11, 12, 13, 14, 15, 16, 17, 18, 19, 20, 21, 22, 23, 24, 25, 26, 27] (by decide +kernel) (by decide +kernel)
set_option maxRecDepth 20000 in
theorem gX3_at_X3_pe : GoodIn wsX3_at (wsV RX3 89 RX3 yX3_pe wsX3_pe) := goodIn_app (goodIn_of _ (by decide +kernel)) ggX3_at_X3_pe
theorem dX3_at_0 : decode cX3_at 0 = .ok (.iconst 0, 1) := by decide +kernel
theorem dX3_at_1 : decode cX3_at 1 = .ok (.istore_n 2, 1) := by decide +kernel
theorem dX3_at_2 : decode cX3_at 2 = .ok (.iconst 0, 1) := by decide +kernel
theorem dX3_at_3 : decode cX3_at 3 = .ok (.istore_n 3, 1) := by decide +kernel
theorem dX3_at_4 : decode cX3_at 4 = .ok (.iload_n 3, 1) := by decide +kernel
theorem dX3_at_5 : decode cX3_at 5 = .ok (.aload_n 0, 1) := by decide +kernel
theorem dX3_at_6 : decode cX3_at 6 = .ok (.getfield 58, 3) := by decide +kernel
theorem dX3_at_9 : decode cX3_at 9 = .ok (.if_icmp .ge 35, 3) := by decide +kernel
theorem dX3_at_12 : decode cX3_at 12 = .ok (.iload_n 2, 1) := by decide +kernel
theorem dX3_at_13 : decode cX3_at 13 = .ok (.aload_n 0, 1) := by decide +kernel
theorem dX3_at_14 : decode cX3_at 14 = .ok (.iload_n 3, 1) := by decide +kernel
theorem dX3_at_15 : decode cX3_at 15 = .ok (.invokevirtual 104, 3) := by decide +kernel
theorem dX3_at_18 : decode cX3_at 18 = .ok (.ifCond .eq 17, 3) := by decide +kernel
theorem dX3_at_21 : decode cX3_at 21 = .ok (.aload_n 0, 1) := by decide +kernel
theorem dX3_at_22 : decode cX3_at 22 = .ok (.iload_n 3, 1) := by decide +kernel
theorem dX3_at_23 : decode cX3_at 23 = .ok (.iconst 5, 1) := by decide +kernel
theorem dX3_at_24 : decode cX3_at 24 = .ok (.invokevirtual 89, 3) := by decide +kernel
theorem dX3_at_27 : decode cX3_at 27 = .ok (.iload_n 1, 1) := by decide +kernel
theorem dX3_at_28 : decode cX3_at 28 = .ok (.if_icmp .ne 7, 3) := by decide +kernel
theorem dX3_at_31 : decode cX3_at 31 = .ok (.iconst 1, 1) := by decide +kernel
theorem dX3_at_32 : decode cX3_at 32 = .ok (.goto 4, 3) := by decide +kernel
theorem dX3_at_35 : decode cX3_at 35 = .ok (.iconst 0, 1) := by decide +kernel
theorem dX3_at_36 : decode cX3_at 36 = .ok (.iadd, 1) := by decide +kernel
theorem dX3_at_37 : decode cX3_at 37 = .ok (.istore_n 2, 1) := by decide +kernel
theorem dX3_at_38 : decode cX3_at 38 = .ok (.iinc 3 1, 3) := by decide +kernel
theorem dX3_at_41 : decode cX3_at 41 = .ok (.goto (-37), 3) := by decide +kernel
theorem dX3_at_44 : decode cX3_at 44 = .ok (.iload_n 2, 1) := by decide +kernel
theorem dX3_at_45 : decode cX3_at 45 = .ok (.ireturn, 1) := by decide +kernel
set_option maxRecDepth 20000 in
theorem ggX3_stretchOf_X3_ro : GoodIn wsX3_stretchOf wsX3_ro := goodIn_r _ [5, 6, 7, 8, 9, 10, 11, 12, 13, 14, 15, 16, 17, 18, 19, 20, 21, 22] (by decide +kernel) (by decide +kernel)
set_option maxRecDepth 20000 in
theorem gX3_stretchOf_X3_ro : GoodIn wsX3_stretchOf (wsV RX3 64 RX3 yX3_ro wsX3_ro) := goodIn_app (goodIn_of _ (by decide +kernel)) ggX3_stretchOf_X3_ro
theorem dX3_stretchOf_0 : decode cX3_stretchOf 0 = .ok (.iconst 0, 1) := by decide +kernel
theorem dX3_stretchOf_1 : decode cX3_stretchOf 1 = .ok (.istore_n 2, 1) := by decide +kernel
theorem dX3_stretchOf_2 : decode cX3_stretchOf 2 = .ok (.iload_n 1, 1) := by decide +kernel
theorem dX3_stretchOf_3 : decode cX3_stretchOf 3 = .ok (.aload_n 0, 1) := by decide +kernel
theorem dX3_stretchOf_4 : decode cX3_stretchOf 4 = .ok (.iload_n 2, 1) := by decide +kernel
theorem dX3_stretchOf_5 : decode cX3_stretchOf 5 = .ok (.iconst 2, 1) := by decide +kernel
theorem dX3_stretchOf_6 : decode cX3_stretchOf 6 = .ok (.invokevirtual 64, 3) := by decide +kernel
theorem dX3_stretchOf_9 : decode cX3_stretchOf 9 = .ok (.aload_n 0, 1) := by decide +kernel
theorem dX3_stretchOf_10 : decode cX3_stretchOf 10 = .ok (.iload_n 2, 1) := by decide +kernel
theorem dX3_stretchOf_11 : decode cX3_stretchOf 11 = .ok (.iconst 0, 1) := by decide +kernel
theorem dX3_stretchOf_12 : decode cX3_stretchOf 12 = .ok (.invokevirtual 64, 3) := by decide +kernel
theorem dX3_stretchOf_15 : decode cX3_stretchOf 15 = .ok (.iadd, 1) := by decide +kernel
theorem dX3_stretchOf_16 : decode cX3_stretchOf 16 = .ok (.if_icmp .lt 9, 3) := by decide +kernel
theorem dX3_stretchOf_19 : decode cX3_stretchOf 19 = .ok (.iinc 2 1, 3) := by decide +kernel
theorem dX3_stretchOf_22 : decode cX3_stretchOf 22 = .ok (.goto (-20), 3) := by decide +kernel
theorem dX3_stretchOf_25 : decode cX3_stretchOf 25 = .ok (.iload_n 2, 1) := by decide +kernel
theorem dX3_stretchOf_26 : decode cX3_stretchOf 26 = .ok (.ireturn, 1) := by decide +kernel
set_option maxRecDepth 20000 in
theorem ggX3_lets_X3_ro : GoodIn wsX3_lets wsX3_ro := goodIn_r _ [6, 7, 8, 9, 10, 11, 12, 13, 14, 15, 16, 17, 18, 19, 20, 21, 22, 23] (by decide +kernel) (by decide +kernel)
set_option maxRecDepth 20000 in
theorem gX3_lets_X3_ro : GoodIn wsX3_lets (wsV RX3 64 RX3 yX3_ro wsX3_ro) := goodIn_app (goodIn_of _ (by decide +kernel)) ggX3_lets_X3_ro
theorem dX3_lets_0 : decode cX3_lets 0 = .ok (.aload_n 0, 1) := by decide +kernel
theorem dX3_lets_1 : decode cX3_lets 1 = .ok (.iload_n 1, 1) := by decide +kernel
theorem dX3_lets_2 : decode cX3_lets 2 = .ok (.iconst 1, 1) := by decide +kernel
theorem dX3_lets_3 : decode cX3_lets 3 = .ok (.invokevirtual 64, 3) := by decide +kernel
theorem dX3_lets_6 : decode cX3_lets 6 = .ok (.aload_n 0, 1) := by decide +kernel
theorem dX3_lets_7 : decode cX3_lets 7 = .ok (.getfield 13, 3) := by decide +kernel
theorem dX3_lets_10 : decode cX3_lets 10 = .ok (.iconst 0, 1) := by decide +kernel
theorem dX3_lets_11 : decode cX3_lets 11 = .ok (.iaload, 1) := by decide +kernel
theorem dX3_lets_12 : decode cX3_lets 12 = .ok (.iload_n 1, 1) := by decide +kernel
theorem dX3_lets_13 : decode cX3_lets 13 = .ok (.if_icmp .ne 7, 3) := by decide +kernel
theorem dX3_lets_16 : decode cX3_lets 16 = .ok (.iconst 1, 1) := by decide +kernel
theorem dX3_lets_17 : decode cX3_lets 17 = .ok (.goto 4, 3) := by decide +kernel
theorem dX3_lets_20 : decode cX3_lets 20 = .ok (.iconst 0, 1) := by decide +kernel
theorem dX3_lets_21 : decode cX3_lets 21 = .ok (.iadd, 1) := by decide +kernel
theorem dX3_lets_22 : decode cX3_lets 22 = .ok (.aload_n 0, 1) := by decide +kernel
theorem dX3_lets_23 : decode cX3_lets 23 = .ok (.getfield 13, 3) := by decide +kernel
theorem dX3_lets_26 : decode cX3_lets 26 = .ok (.iconst 1, 1) := by decide +kernel
theorem dX3_lets_27 : decode cX3_lets 27 = .ok (.iaload, 1) := by decide +kernel
theorem dX3_lets_28 : decode cX3_lets 28 = .ok (.iload_n 1, 1) := by decide +kernel
theorem dX3_lets_29 : decode cX3_lets 29 = .ok (.if_icmp .ne 7, 3) := by decide +kernel
theorem dX3_lets_32 : decode cX3_lets 32 = .ok (.iconst 1, 1) := by decide +kernel
theorem dX3_lets_33 : decode cX3_lets 33 = .ok (.goto 4, 3) := by decide +kernel
theorem dX3_lets_36 : decode cX3_lets 36 = .ok (.iconst 0, 1) := by decide +kernel
theorem dX3_lets_37 : decode cX3_lets 37 = .ok (.iadd, 1) := by decide +kernel
theorem dX3_lets_38 : decode cX3_lets 38 = .ok (.ireturn, 1) := by decide +kernel
set_option maxRecDepth 20000 in
theorem ggX3_stretchTold_X3_ro : GoodIn wsX3_stretchTold wsX3_ro := goodIn_r _ [6, 7, 26, 27, 28, 29, 30, 31, 32, 33, 34, 35, 36, 37, 38, 39, 40, 41] (by decide +kernel) (by decide +kernel)
set_option maxRecDepth 20000 in
theorem gX3_stretchTold_X3_ro : GoodIn wsX3_stretchTold (wsV RX3 64 RX3 yX3_ro wsX3_ro) := goodIn_app (goodIn_of _ (by decide +kernel)) ggX3_stretchTold_X3_ro
set_option maxRecDepth 20000 in
theorem ggX3_stretchTold_X3_lets : GoodIn wsX3_stretchTold wsX3_lets := goodIn_r _ [11, 12, 2, 3, 4, 5, 6, 7, 26, 27, 28, 29, 30, 31, 32, 33, 34, 35, 36, 37, 38, 39, 40, 41] (by decide +kernel) (by decide +kernel)
set_option maxRecDepth 20000 in
theorem gX3_stretchTold_X3_lets : GoodIn wsX3_stretchTold (wsV RX3 107 RX3 yX3_lets wsX3_lets) := goodIn_app (goodIn_of _ (by decide +kernel)) ggX3_stretchTold_X3_lets
set_option maxRecDepth 20000 in
theorem ggX3_stretchTold_X3_walks : GoodIn wsX3_stretchTold wsX3_walks := goodIn_r _ [16, 17, 18, 19, 5, 20, 21, 26, 27, 28, 29, 30, 31, 32, 33, 34, 35, 36, 37, 38, 39, 40, 41] (by decide +kernel) (by decide +kernel)
set_option maxRecDepth 20000 in
theorem gX3_stretchTold_X3_walks : GoodIn wsX3_stretchTold (wsV RX3 104 RX3 yX3_walks wsX3_walks) := goodIn_app (goodIn_of _ (by decide +kernel)) ggX3_stretchTold_X3_walks
set_option maxRecDepth 20000 in
theorem ggX3_stretchTold_X3_pe : GoodIn wsX3_stretchTold wsX3_pe := goodIn_r _ [20, 21, 26, 27, 28, 29, 30, 31, 32, 33, 34, 35, 36, 37, 38, 39, 40, 41] (by decide +kernel) (by decide +kernel)
set_option maxRecDepth 20000 in
theorem gX3_stretchTold_X3_pe : GoodIn wsX3_stretchTold (wsV RX3 89 RX3 yX3_pe wsX3_pe) := goodIn_app (goodIn_of _ (by decide +kernel)) ggX3_stretchTold_X3_pe
set_option maxRecDepth 20000 in
theorem ggX3_stretchTold_X3_stretchOf : GoodIn wsX3_stretchTold wsX3_stretchOf := goodIn_r _ [25, 2, 3, 4, 5, 6, 7, 26, 27, 28, 29, 30, 31, 32, 33, 34, 35, 36, 37, 38, 39, 40, 41] (by decide +kernel) (by decide +kernel)
set_option maxRecDepth 20000 in
theorem gX3_stretchTold_X3_stretchOf : GoodIn wsX3_stretchTold (wsV RX3 110 RX3 yX3_stretchOf wsX3_stretchOf) := goodIn_app (goodIn_of _ (by decide +kernel)) ggX3_stretchTold_X3_stretchOf
theorem dX3_stretchTold_0 : decode cX3_stretchTold 0 = .ok (.iconst 0, 1) := by decide +kernel
theorem dX3_stretchTold_1 : decode cX3_stretchTold 1 = .ok (.istore_n 3, 1) := by decide +kernel
theorem dX3_stretchTold_2 : decode cX3_stretchTold 2 = .ok (.iload_n 2, 1) := by decide +kernel
theorem dX3_stretchTold_3 : decode cX3_stretchTold 3 = .ok (.tableswitch 101 0 3 #[29, 36, 42, 49], 29) := by decide +kernel
theorem dX3_stretchTold_32 : decode cX3_stretchTold 32 = .ok (.aload_n 0, 1) := by decide +kernel
theorem dX3_stretchTold_33 : decode cX3_stretchTold 33 = .ok (.iload_n 1, 1) := by decide +kernel
theorem dX3_stretchTold_34 : decode cX3_stretchTold 34 = .ok (.iconst 0, 1) := by decide +kernel
theorem dX3_stretchTold_35 : decode cX3_stretchTold 35 = .ok (.invokevirtual 64, 3) := by decide +kernel
theorem dX3_stretchTold_38 : decode cX3_stretchTold 38 = .ok (.ireturn, 1) := by decide +kernel
theorem dX3_stretchTold_39 : decode cX3_stretchTold 39 = .ok (.aload_n 0, 1) := by decide +kernel
theorem dX3_stretchTold_40 : decode cX3_stretchTold 40 = .ok (.iload_n 1, 1) := by decide +kernel
theorem dX3_stretchTold_41 : decode cX3_stretchTold 41 = .ok (.invokevirtual 107, 3) := by decide +kernel
theorem dX3_stretchTold_44 : decode cX3_stretchTold 44 = .ok (.ireturn, 1) := by decide +kernel
theorem dX3_stretchTold_45 : decode cX3_stretchTold 45 = .ok (.aload_n 0, 1) := by decide +kernel
theorem dX3_stretchTold_46 : decode cX3_stretchTold 46 = .ok (.iload_n 1, 1) := by decide +kernel
theorem dX3_stretchTold_47 : decode cX3_stretchTold 47 = .ok (.iconst 2, 1) := by decide +kernel
theorem dX3_stretchTold_48 : decode cX3_stretchTold 48 = .ok (.invokevirtual 64, 3) := by decide +kernel
theorem dX3_stretchTold_51 : decode cX3_stretchTold 51 = .ok (.ireturn, 1) := by decide +kernel
theorem dX3_stretchTold_52 : decode cX3_stretchTold 52 = .ok (.iconst 0, 1) := by decide +kernel
theorem dX3_stretchTold_53 : decode cX3_stretchTold 53 = .ok (.istore 4, 2) := by decide +kernel
theorem dX3_stretchTold_55 : decode cX3_stretchTold 55 = .ok (.iload 4, 2) := by decide +kernel
theorem dX3_stretchTold_57 : decode cX3_stretchTold 57 = .ok (.aload_n 0, 1) := by decide +kernel
theorem dX3_stretchTold_58 : decode cX3_stretchTold 58 = .ok (.getfield 58, 3) := by decide +kernel
theorem dX3_stretchTold_61 : decode cX3_stretchTold 61 = .ok (.if_icmp .ge 41, 3) := by decide +kernel
theorem dX3_stretchTold_64 : decode cX3_stretchTold 64 = .ok (.iload_n 3, 1) := by decide +kernel
theorem dX3_stretchTold_65 : decode cX3_stretchTold 65 = .ok (.aload_n 0, 1) := by decide +kernel
theorem dX3_stretchTold_66 : decode cX3_stretchTold 66 = .ok (.iload 4, 2) := by decide +kernel
theorem dX3_stretchTold_68 : decode cX3_stretchTold 68 = .ok (.invokevirtual 104, 3) := by decide +kernel
theorem dX3_stretchTold_71 : decode cX3_stretchTold 71 = .ok (.ifCond .eq 22, 3) := by decide +kernel
theorem dX3_stretchTold_74 : decode cX3_stretchTold 74 = .ok (.aload_n 0, 1) := by decide +kernel
theorem dX3_stretchTold_75 : decode cX3_stretchTold 75 = .ok (.aload_n 0, 1) := by decide +kernel
theorem dX3_stretchTold_76 : decode cX3_stretchTold 76 = .ok (.iload 4, 2) := by decide +kernel
theorem dX3_stretchTold_78 : decode cX3_stretchTold 78 = .ok (.iconst 5, 1) := by decide +kernel
theorem dX3_stretchTold_79 : decode cX3_stretchTold 79 = .ok (.invokevirtual 89, 3) := by decide +kernel
theorem dX3_stretchTold_82 : decode cX3_stretchTold 82 = .ok (.invokevirtual 110, 3) := by decide +kernel
theorem dX3_stretchTold_85 : decode cX3_stretchTold 85 = .ok (.iload_n 1, 1) := by decide +kernel
theorem dX3_stretchTold_86 : decode cX3_stretchTold 86 = .ok (.if_icmp .ne 7, 3) := by decide +kernel
theorem dX3_stretchTold_89 : decode cX3_stretchTold 89 = .ok (.iconst 1, 1) := by decide +kernel
theorem dX3_stretchTold_90 : decode cX3_stretchTold 90 = .ok (.goto 4, 3) := by decide +kernel
theorem dX3_stretchTold_93 : decode cX3_stretchTold 93 = .ok (.iconst 0, 1) := by decide +kernel
theorem dX3_stretchTold_94 : decode cX3_stretchTold 94 = .ok (.iadd, 1) := by decide +kernel
theorem dX3_stretchTold_95 : decode cX3_stretchTold 95 = .ok (.istore_n 3, 1) := by decide +kernel
theorem dX3_stretchTold_96 : decode cX3_stretchTold 96 = .ok (.iinc 4 1, 3) := by decide +kernel
theorem dX3_stretchTold_99 : decode cX3_stretchTold 99 = .ok (.goto (-44), 3) := by decide +kernel
theorem dX3_stretchTold_102 : decode cX3_stretchTold 102 = .ok (.iload_n 3, 1) := by decide +kernel
theorem dX3_stretchTold_103 : decode cX3_stretchTold 103 = .ok (.ireturn, 1) := by decide +kernel
theorem dX3_stretchTold_104 : decode cX3_stretchTold 104 = .ok (.aload_n 0, 1) := by decide +kernel
theorem dX3_stretchTold_105 : decode cX3_stretchTold 105 = .ok (.iload_n 1, 1) := by decide +kernel
theorem dX3_stretchTold_106 : decode cX3_stretchTold 106 = .ok (.iload_n 2, 1) := by decide +kernel
theorem dX3_stretchTold_107 : decode cX3_stretchTold 107 = .ok (.iconst 1, 1) := by decide +kernel
theorem dX3_stretchTold_108 : decode cX3_stretchTold 108 = .ok (.isub, 1) := by decide +kernel
theorem dX3_stretchTold_109 : decode cX3_stretchTold 109 = .ok (.invokevirtual 64, 3) := by decide +kernel
theorem dX3_stretchTold_112 : decode cX3_stretchTold 112 = .ok (.ireturn, 1) := by decide +kernel
set_option maxRecDepth 20000 in
theorem ggX3_stretch_X3_isStretch : GoodIn wsX3_stretch wsX3_isStretch := goodIn_r _ [6, 7, 8, 9, 5, 10, 43, 44, 45, 46, 47, 48, 49, 50, 51, 52, 53, 54, 55, 56, 57, 58] (by decide +kernel) (by decide +kernel)
set_option maxRecDepth 20000 in
theorem gX3_stretch_X3_isStretch : GoodIn wsX3_stretch (wsV RX3 82 RX3 yX3_isStretch wsX3_isStretch) := goodIn_app (goodIn_of _ (by decide +kernel)) ggX3_stretch_X3_isStretch
set_option maxRecDepth 20000 in
theorem ggX3_stretch_X3_isIn : GoodIn wsX3_stretch wsX3_isIn := goodIn_r _ [10] (by decide +kernel) (by decide +kernel)
set_option maxRecDepth 20000 in
theorem gX3_stretch_X3_isIn : GoodIn wsX3_stretch (va_wsS RX3 54 yX3_isIn wsX3_isIn) := goodIn_app (goodIn_of _ (by decide +kernel)) ggX3_stretch_X3_isIn
set_option maxRecDepth 20000 in
theorem ggX3_stretch_X3_stretchTold : GoodIn wsX3_stretch wsX3_stretchTold := goodIn_r _ [14, 15, 16, 17, 18, 5, 19, 20, 21, 22, 23, 24, 25, 26, 27, 28, 29, 30, 31, 32, 33, 34, 35, 36, 37, 38, 43, 44, 45, 46, 47, 48, 49, 50, 51, 52, 53, 54, 55, 56, 57, 58] (by decide +kernel) (by decide +kernel)
set_option maxRecDepth 20000 in
theorem gX3_stretch_X3_stretchTold : GoodIn wsX3_stretch (wsV RX3 113 RX3 yX3_stretchTold wsX3_stretchTold) := goodIn_app (goodIn_of _ (by decide +kernel)) ggX3_stretch_X3_stretchTold
set_option maxRecDepth 20000 in
theorem ggX3_stretch_X3_fail : GoodIn wsX3_stretch wsX3_fail := goodIn_r _ [42, 1, 43, 44, 45, 46, 47, 48, 49, 50, 51, 52, 53, 54, 55, 56, 57, 58] (by decide +kernel) (by decide +kernel)
set_option maxRecDepth 20000 in
theorem gX3_stretch_X3_fail : GoodIn wsX3_stretch (wsV RX3 68 RX3 yX3_fail wsX3_fail) := goodIn_app (goodIn_of _ (by decide +kernel)) ggX3_stretch_X3_fail
theorem dX3_stretch_0 : decode cX3_stretch 0 = .ok (.aload_n 0, 1) := by decide +kernel
theorem dX3_stretch_1 : decode cX3_stretch 1 = .ok (.iconst 0, 1) := by decide +kernel
theorem dX3_stretch_2 : decode cX3_stretch 2 = .ok (.putfield 47, 3) := by decide +kernel
theorem dX3_stretch_5 : decode cX3_stretch 5 = .ok (.aload_n 0, 1) := by decide +kernel
theorem dX3_stretch_6 : decode cX3_stretch 6 = .ok (.iload_n 1, 1) := by decide +kernel
theorem dX3_stretch_7 : decode cX3_stretch 7 = .ok (.invokevirtual 82, 3) := by decide +kernel
theorem dX3_stretch_10 : decode cX3_stretch 10 = .ok (.ifCond .eq 21, 3) := by decide +kernel
theorem dX3_stretch_13 : decode cX3_stretch 13 = .ok (.iload_n 2, 1) := by decide +kernel
theorem dX3_stretch_14 : decode cX3_stretch 14 = .ok (.iconst 0, 1) := by decide +kernel
theorem dX3_stretch_15 : decode cX3_stretch 15 = .ok (.iconst 5, 1) := by decide +kernel
theorem dX3_stretch_16 : decode cX3_stretch 16 = .ok (.invokestatic 54, 3) := by decide +kernel
theorem dX3_stretch_19 : decode cX3_stretch 19 = .ok (.ifCond .eq 12, 3) := by decide +kernel
theorem dX3_stretch_22 : decode cX3_stretch 22 = .ok (.aload_n 0, 1) := by decide +kernel
theorem dX3_stretch_23 : decode cX3_stretch 23 = .ok (.iload_n 1, 1) := by decide +kernel
theorem dX3_stretch_24 : decode cX3_stretch 24 = .ok (.iload_n 2, 1) := by decide +kernel
theorem dX3_stretch_25 : decode cX3_stretch 25 = .ok (.invokevirtual 113, 3) := by decide +kernel
theorem dX3_stretch_28 : decode cX3_stretch 28 = .ok (.goto 8, 3) := by decide +kernel
theorem dX3_stretch_31 : decode cX3_stretch 31 = .ok (.aload_n 0, 1) := by decide +kernel
theorem dX3_stretch_32 : decode cX3_stretch 32 = .ok (.iconst 1, 1) := by decide +kernel
theorem dX3_stretch_33 : decode cX3_stretch 33 = .ok (.invokevirtual 68, 3) := by decide +kernel
theorem dX3_stretch_36 : decode cX3_stretch 36 = .ok (.ireturn, 1) := by decide +kernel
set_option maxRecDepth 20000 in
theorem ggX3_isNeighbour_X3_walks : GoodIn wsX3_isNeighbour wsX3_walks := goodIn_r _ [9, 10, 11, 12, 8, 13, 14, 15, 16, 17, 18, 19, 20, 21, 22, 23, 24, 25, 26, 27, 28, 29, 30] (by decide +kernel) (by decide +kernel)
set_option maxRecDepth 20000 in
theorem gX3_isNeighbour_X3_walks : GoodIn wsX3_isNeighbour (wsV RX3 104 RX3 yX3_walks wsX3_walks) := goodIn_app (goodIn_of _ (by decide +kernel)) ggX3_isNeighbour_X3_walks
set_option maxRecDepth 20000 in
theorem ggX3_isNeighbour_X3_pe : GoodIn wsX3_isNeighbour wsX3_pe := goodIn_r _ [13, 14, 15, 16, 17, 18, 19, 20, 21, 22, 23, 24, 25, 26, 27, 28, 29, 30] (by decide +kernel) (by decide +kernel)
set_option maxRecDepth 20000 in
theorem gX3_isNeighbour_X3_pe : GoodIn wsX3_isNeighbour (wsV RX3 89 RX3 yX3_pe wsX3_pe) := goodIn_app (goodIn_of _ (by decide +kernel)) ggX3_isNeighbour_X3_pe
theorem dX3_isNeighbour_0 : decode cX3_isNeighbour 0 = .ok (.iload_n 1, 1) := by decide +kernel
theorem dX3_isNeighbour_1 : decode cX3_isNeighbour 1 = .ok (.iload_n 2, 1) := by decide +kernel
theorem dX3_isNeighbour_2 : decode cX3_isNeighbour 2 = .ok (.if_icmp .eq 43, 3) := by decide +kernel
theorem dX3_isNeighbour_5 : decode cX3_isNeighbour 5 = .ok (.aload_n 0, 1) := by decide +kernel
theorem dX3_isNeighbour_6 : decode cX3_isNeighbour 6 = .ok (.iload_n 1, 1) := by decide +kernel
theorem dX3_isNeighbour_7 : decode cX3_isNeighbour 7 = .ok (.invokevirtual 104, 3) := by decide +kernel
theorem dX3_isNeighbour_10 : decode cX3_isNeighbour 10 = .ok (.ifCond .eq 35, 3) := by decide +kernel
theorem dX3_isNeighbour_13 : decode cX3_isNeighbour 13 = .ok (.aload_n 0, 1) := by decide +kernel
theorem dX3_isNeighbour_14 : decode cX3_isNeighbour 14 = .ok (.iload_n 2, 1) := by decide +kernel
theorem dX3_isNeighbour_15 : decode cX3_isNeighbour 15 = .ok (.invokevirtual 104, 3) := by decide +kernel
theorem dX3_isNeighbour_18 : decode cX3_isNeighbour 18 = .ok (.ifCond .eq 27, 3) := by decide +kernel
theorem dX3_isNeighbour_21 : decode cX3_isNeighbour 21 = .ok (.aload_n 0, 1) := by decide +kernel
theorem dX3_isNeighbour_22 : decode cX3_isNeighbour 22 = .ok (.iload_n 1, 1) := by decide +kernel
theorem dX3_isNeighbour_23 : decode cX3_isNeighbour 23 = .ok (.iconst 5, 1) := by decide +kernel
theorem dX3_isNeighbour_24 : decode cX3_isNeighbour 24 = .ok (.invokevirtual 89, 3) := by decide +kernel
theorem dX3_isNeighbour_27 : decode cX3_isNeighbour 27 = .ok (.aload_n 0, 1) := by decide +kernel
theorem dX3_isNeighbour_28 : decode cX3_isNeighbour 28 = .ok (.iload_n 2, 1) := by decide +kernel
theorem dX3_isNeighbour_29 : decode cX3_isNeighbour 29 = .ok (.iconst 5, 1) := by decide +kernel
theorem dX3_isNeighbour_30 : decode cX3_isNeighbour 30 = .ok (.invokevirtual 89, 3) := by decide +kernel
theorem dX3_isNeighbour_33 : decode cX3_isNeighbour 33 = .ok (.isub, 1) := by decide +kernel
theorem dX3_isNeighbour_34 : decode cX3_isNeighbour 34 = .ok (.invokestatic 116, 3) := by decide +kernel
theorem dX3_isNeighbour_37 : decode cX3_isNeighbour 37 = .ok (.iconst 1, 1) := by decide +kernel
theorem dX3_isNeighbour_38 : decode cX3_isNeighbour 38 = .ok (.if_icmp .gt 7, 3) := by decide +kernel
theorem dX3_isNeighbour_41 : decode cX3_isNeighbour 41 = .ok (.iconst 1, 1) := by decide +kernel
theorem dX3_isNeighbour_42 : decode cX3_isNeighbour 42 = .ok (.goto 4, 3) := by decide +kernel
theorem dX3_isNeighbour_45 : decode cX3_isNeighbour 45 = .ok (.iconst 0, 1) := by decide +kernel
theorem dX3_isNeighbour_46 : decode cX3_isNeighbour 46 = .ok (.ireturn, 1) := by decide +kernel
set_option maxRecDepth 20000 in
theorem ggX3_neighbours_X3_isNeighbour : GoodIn wsX3_neighbours wsX3_isNeighbour := goodIn_r _ [6, 7, 8, 9, 10, 11, 12, 13, 5, 14, 15, 16, 17, 18, 19, 20, 21, 22, 23, 24, 25, 26, 27, 28, 29, 30, 31, 32, 33, 34, 35] (by decide +kernel) (by decide +kernel)
set_option maxRecDepth 20000 in
theorem gX3_neighbours_X3_isNeighbour : GoodIn wsX3_neighbours (wsV RX3 119 RX3 yX3_isNeighbour wsX3_isNeighbour) := goodIn_app (goodIn_of _ (by decide +kernel)) ggX3_neighbours_X3_isNeighbour
theorem dX3_neighbours_0 : decode cX3_neighbours 0 = .ok (.iconst 0, 1) := by decide +kernel
theorem dX3_neighbours_1 : decode cX3_neighbours 1 = .ok (.istore_n 2, 1) := by decide +kernel
theorem dX3_neighbours_2 : decode cX3_neighbours 2 = .ok (.iconst 0, 1) := by decide +kernel
theorem dX3_neighbours_3 : decode cX3_neighbours 3 = .ok (.istore_n 3, 1) := by decide +kernel
theorem dX3_neighbours_4 : decode cX3_neighbours 4 = .ok (.iload_n 3, 1) := by decide +kernel
theorem dX3_neighbours_5 : decode cX3_neighbours 5 = .ok (.aload_n 0, 1) := by decide +kernel
theorem dX3_neighbours_6 : decode cX3_neighbours 6 = .ok (.getfield 58, 3) := by decide +kernel
theorem dX3_neighbours_9 : decode cX3_neighbours 9 = .ok (.if_icmp .ge 26, 3) := by decide +kernel
theorem dX3_neighbours_12 : decode cX3_neighbours 12 = .ok (.iload_n 2, 1) := by decide +kernel
theorem dX3_neighbours_13 : decode cX3_neighbours 13 = .ok (.aload_n 0, 1) := by decide +kernel
theorem dX3_neighbours_14 : decode cX3_neighbours 14 = .ok (.iload_n 1, 1) := by decide +kernel
theorem dX3_neighbours_15 : decode cX3_neighbours 15 = .ok (.iload_n 3, 1) := by decide +kernel
theorem dX3_neighbours_16 : decode cX3_neighbours 16 = .ok (.invokevirtual 119, 3) := by decide +kernel
theorem dX3_neighbours_19 : decode cX3_neighbours 19 = .ok (.ifCond .eq 7, 3) := by decide +kernel
theorem dX3_neighbours_22 : decode cX3_neighbours 22 = .ok (.iconst 1, 1) := by decide +kernel
theorem dX3_neighbours_23 : decode cX3_neighbours 23 = .ok (.goto 4, 3) := by decide +kernel
theorem dX3_neighbours_26 : decode cX3_neighbours 26 = .ok (.iconst 0, 1) := by decide +kernel
theorem dX3_neighbours_27 : decode cX3_neighbours 27 = .ok (.iadd, 1) := by decide +kernel
theorem dX3_neighbours_28 : decode cX3_neighbours 28 = .ok (.istore_n 2, 1) := by decide +kernel
theorem dX3_neighbours_29 : decode cX3_neighbours 29 = .ok (.iinc 3 1, 3) := by decide +kernel
theorem dX3_neighbours_32 : decode cX3_neighbours 32 = .ok (.goto (-28), 3) := by decide +kernel
theorem dX3_neighbours_35 : decode cX3_neighbours 35 = .ok (.iload_n 2, 1) := by decide +kernel
theorem dX3_neighbours_36 : decode cX3_neighbours 36 = .ok (.ireturn, 1) := by decide +kernel
set_option maxRecDepth 20000 in
theorem ggX3_walkerTold_X3_pe : GoodIn wsX3_walkerTold wsX3_pe := goodIn_r _ [5, 6, 24, 25, 26, 27, 28, 29, 30, 31, 32, 33, 34, 35, 36, 37, 38, 39] (by decide +kernel) (by decide +kernel)
set_option maxRecDepth 20000 in
theorem gX3_walkerTold_X3_pe : GoodIn wsX3_walkerTold (wsV RX3 89 RX3 yX3_pe wsX3_pe) := goodIn_app (goodIn_of _ (by decide +kernel)) ggX3_walkerTold_X3_pe
set_option maxRecDepth 20000 in
theorem ggX3_walkerTold_X3_neighbours : GoodIn wsX3_walkerTold wsX3_neighbours := goodIn_r _ [10, 11, 12, 13, 14, 4, 15, 16, 17, 18, 19, 20, 21, 22, 23, 1, 2, 3, 5, 6, 24, 25, 26, 27, 28, 29, 30, 31, 32, 33, 34, 35, 36, 37, 38, 39] (by decide +kernel) (by decide +kernel)
set_option maxRecDepth 20000 in
theorem gX3_walkerTold_X3_neighbours : GoodIn wsX3_walkerTold (wsV RX3 123 RX3 yX3_neighbours wsX3_neighbours) := goodIn_app (goodIn_of _ (by decide +kernel)) ggX3_walkerTold_X3_neighbours
theorem dX3_walkerTold_0 : decode cX3_walkerTold 0 = .ok (.iload_n 2, 1) := by decide +kernel
theorem dX3_walkerTold_1 : decode cX3_walkerTold 1 = .ok (.bipush 6, 2) := by decide +kernel
theorem dX3_walkerTold_3 : decode cX3_walkerTold 3 = .ok (.if_icmp .ge 12, 3) := by decide +kernel
theorem dX3_walkerTold_6 : decode cX3_walkerTold 6 = .ok (.aload_n 0, 1) := by decide +kernel
theorem dX3_walkerTold_7 : decode cX3_walkerTold 7 = .ok (.iload_n 1, 1) := by decide +kernel
theorem dX3_walkerTold_8 : decode cX3_walkerTold 8 = .ok (.iload_n 2, 1) := by decide +kernel
theorem dX3_walkerTold_9 : decode cX3_walkerTold 9 = .ok (.invokevirtual 89, 3) := by decide +kernel
theorem dX3_walkerTold_12 : decode cX3_walkerTold 12 = .ok (.goto 25, 3) := by decide +kernel
theorem dX3_walkerTold_15 : decode cX3_walkerTold 15 = .ok (.iload_n 2, 1) := by decide +kernel
theorem dX3_walkerTold_16 : decode cX3_walkerTold 16 = .ok (.bipush 6, 2) := by decide +kernel
theorem dX3_walkerTold_18 : decode cX3_walkerTold 18 = .ok (.if_icmp .ne 11, 3) := by decide +kernel
theorem dX3_walkerTold_21 : decode cX3_walkerTold 21 = .ok (.aload_n 0, 1) := by decide +kernel
theorem dX3_walkerTold_22 : decode cX3_walkerTold 22 = .ok (.iload_n 1, 1) := by decide +kernel
theorem dX3_walkerTold_23 : decode cX3_walkerTold 23 = .ok (.invokevirtual 123, 3) := by decide +kernel
theorem dX3_walkerTold_26 : decode cX3_walkerTold 26 = .ok (.goto 11, 3) := by decide +kernel
theorem dX3_walkerTold_29 : decode cX3_walkerTold 29 = .ok (.aload_n 0, 1) := by decide +kernel
theorem dX3_walkerTold_30 : decode cX3_walkerTold 30 = .ok (.iload_n 1, 1) := by decide +kernel
theorem dX3_walkerTold_31 : decode cX3_walkerTold 31 = .ok (.iload_n 2, 1) := by decide +kernel
theorem dX3_walkerTold_32 : decode cX3_walkerTold 32 = .ok (.iconst 1, 1) := by decide +kernel
theorem dX3_walkerTold_33 : decode cX3_walkerTold 33 = .ok (.isub, 1) := by decide +kernel
theorem dX3_walkerTold_34 : decode cX3_walkerTold 34 = .ok (.invokevirtual 89, 3) := by decide +kernel
theorem dX3_walkerTold_37 : decode cX3_walkerTold 37 = .ok (.ireturn, 1) := by decide +kernel
set_option maxRecDepth 20000 in
theorem ggX3_walker_X3_isWalker : GoodIn wsX3_walker wsX3_isWalker := goodIn_r _ [6, 7, 8, 9, 5, 10, 40, 41, 42, 43, 44, 45, 46, 47, 48, 49, 50, 51, 52, 53, 54, 55] (by decide +kernel) (by decide +kernel)
set_option maxRecDepth 20000 in
theorem gX3_walker_X3_isWalker : GoodIn wsX3_walker (wsV RX3 86 RX3 yX3_isWalker wsX3_isWalker) := goodIn_app (goodIn_of _ (by decide +kernel)) ggX3_walker_X3_isWalker
set_option maxRecDepth 20000 in
theorem ggX3_walker_X3_isIn : GoodIn wsX3_walker wsX3_isIn := goodIn_r _ [10] (by decide +kernel) (by decide +kernel)
set_option maxRecDepth 20000 in
theorem gX3_walker_X3_isIn : GoodIn wsX3_walker (va_wsS RX3 54 yX3_isIn wsX3_isIn) := goodIn_app (goodIn_of _ (by decide +kernel)) ggX3_walker_X3_isIn
set_option maxRecDepth 20000 in
theorem ggX3_walker_X3_walkerTold : GoodIn wsX3_walker wsX3_walkerTold := goodIn_r _ [14, 15, 16, 17, 5, 18, 19, 20, 21, 22, 23, 7, 24, 25, 26, 27, 28, 29, 30, 31, 32, 33, 34, 35, 40, 41, 42, 43, 44, 45, 46, 47, 48, 49, 50, 51, 52, 53, 54, 55] (by decide +kernel) (by decide +kernel)
set_option maxRecDepth 20000 in
theorem gX3_walker_X3_walkerTold : GoodIn wsX3_walker (wsV RX3 126 RX3 yX3_walkerTold wsX3_walkerTold) := goodIn_app (goodIn_of _ (by decide +kernel)) ggX3_walker_X3_walkerTold
set_option maxRecDepth 20000 in
theorem ggX3_walker_X3_fail : GoodIn wsX3_walker wsX3_fail := goodIn_r _ [39, 1, 40, 41, 42, 43, 44, 45, 46, 47, 48, 49, 50, 51, 52, 53, 54, 55] (by decide +kernel) (by decide +kernel)
set_option maxRecDepth 20000 in
theorem gX3_walker_X3_fail : GoodIn wsX3_walker (wsV RX3 68 RX3 yX3_fail wsX3_fail) := goodIn_app (goodIn_of _ (by decide +kernel)) ggX3_walker_X3_fail
theorem dX3_walker_0 : decode cX3_walker 0 = .ok (.aload_n 0, 1) := by decide +kernel
theorem dX3_walker_1 : decode cX3_walker 1 = .ok (.iconst 0, 1) := by decide +kernel
theorem dX3_walker_2 : decode cX3_walker 2 = .ok (.putfield 47, 3) := by decide +kernel
theorem dX3_walker_5 : decode cX3_walker 5 = .ok (.aload_n 0, 1) := by decide +kernel
theorem dX3_walker_6 : decode cX3_walker 6 = .ok (.iload_n 1, 1) := by decide +kernel
theorem dX3_walker_7 : decode cX3_walker 7 = .ok (.invokevirtual 86, 3) := by decide +kernel
theorem dX3_walker_10 : decode cX3_walker 10 = .ok (.ifCond .eq 22, 3) := by decide +kernel
theorem dX3_walker_13 : decode cX3_walker 13 = .ok (.iload_n 2, 1) := by decide +kernel
theorem dX3_walker_14 : decode cX3_walker 14 = .ok (.iconst 0, 1) := by decide +kernel
theorem dX3_walker_15 : decode cX3_walker 15 = .ok (.bipush 8, 2) := by decide +kernel
theorem dX3_walker_17 : decode cX3_walker 17 = .ok (.invokestatic 54, 3) := by decide +kernel
theorem dX3_walker_20 : decode cX3_walker 20 = .ok (.ifCond .eq 12, 3) := by decide +kernel
theorem dX3_walker_23 : decode cX3_walker 23 = .ok (.aload_n 0, 1) := by decide +kernel
theorem dX3_walker_24 : decode cX3_walker 24 = .ok (.iload_n 1, 1) := by decide +kernel
theorem dX3_walker_25 : decode cX3_walker 25 = .ok (.iload_n 2, 1) := by decide +kernel
theorem dX3_walker_26 : decode cX3_walker 26 = .ok (.invokevirtual 126, 3) := by decide +kernel
theorem dX3_walker_29 : decode cX3_walker 29 = .ok (.goto 8, 3) := by decide +kernel
theorem dX3_walker_32 : decode cX3_walker 32 = .ok (.aload_n 0, 1) := by decide +kernel
theorem dX3_walker_33 : decode cX3_walker 33 = .ok (.iconst 1, 1) := by decide +kernel
theorem dX3_walker_34 : decode cX3_walker 34 = .ok (.invokevirtual 68, 3) := by decide +kernel
theorem dX3_walker_37 : decode cX3_walker 37 = .ok (.ireturn, 1) := by decide +kernel
set_option maxRecDepth 20000 in
theorem ggX3_knows_X3_isWalker : GoodIn wsX3_knows wsX3_isWalker := goodIn_r _ [7, 8, 9, 10, 6, 11, 21, 22, 23, 24, 25, 26, 27, 28, 29, 30, 31, 32, 33, 34, 35, 36] (by decide +kernel) (by decide +kernel)
set_option maxRecDepth 20000 in
theorem gX3_knows_X3_isWalker : GoodIn wsX3_knows (wsV RX3 86 RX3 yX3_isWalker wsX3_isWalker) := goodIn_app (goodIn_of _ (by decide +kernel)) ggX3_knows_X3_isWalker
set_option maxRecDepth 20000 in
theorem ggX3_knows_X3_isSong : GoodIn wsX3_knows wsX3_isSong := goodIn_r _ [15, 16, 9, 10, 6, 11, 21, 22, 23, 24, 25, 26, 27, 28, 29, 30, 31, 32, 33, 34, 35, 36] (by decide +kernel) (by decide +kernel)
set_option maxRecDepth 20000 in
theorem gX3_knows_X3_isSong : GoodIn wsX3_knows (wsV RX3 101 RX3 yX3_isSong wsX3_isSong) := goodIn_app (goodIn_of _ (by decide +kernel)) ggX3_knows_X3_isSong
set_option maxRecDepth 20000 in
theorem ggX3_knows_X3_fail : GoodIn wsX3_knows wsX3_fail := goodIn_r _ [20, 1, 21, 22, 23, 24, 25, 26, 27, 28, 29, 30, 31, 32, 33, 34, 35, 36] (by decide +kernel) (by decide +kernel)
set_option maxRecDepth 20000 in
theorem gX3_knows_X3_fail : GoodIn wsX3_knows (wsV RX3 68 RX3 yX3_fail wsX3_fail) := goodIn_app (goodIn_of _ (by decide +kernel)) ggX3_knows_X3_fail
theorem dX3_knows_0 : decode cX3_knows 0 = .ok (.aload_n 0, 1) := by decide +kernel
theorem dX3_knows_1 : decode cX3_knows 1 = .ok (.iconst 0, 1) := by decide +kernel
theorem dX3_knows_2 : decode cX3_knows 2 = .ok (.putfield 47, 3) := by decide +kernel
theorem dX3_knows_5 : decode cX3_knows 5 = .ok (.aload_n 0, 1) := by decide +kernel
theorem dX3_knows_6 : decode cX3_knows 6 = .ok (.iload_n 1, 1) := by decide +kernel
theorem dX3_knows_7 : decode cX3_knows 7 = .ok (.invokevirtual 86, 3) := by decide +kernel
theorem dX3_knows_10 : decode cX3_knows 10 = .ok (.ifCond .eq 25, 3) := by decide +kernel
theorem dX3_knows_13 : decode cX3_knows 13 = .ok (.aload_n 0, 1) := by decide +kernel
theorem dX3_knows_14 : decode cX3_knows 14 = .ok (.iload_n 2, 1) := by decide +kernel
theorem dX3_knows_15 : decode cX3_knows 15 = .ok (.invokevirtual 101, 3) := by decide +kernel
theorem dX3_knows_18 : decode cX3_knows 18 = .ok (.ifCond .eq 17, 3) := by decide +kernel
theorem dX3_knows_21 : decode cX3_knows 21 = .ok (.aload_n 0, 1) := by decide +kernel
theorem dX3_knows_22 : decode cX3_knows 22 = .ok (.getfield 25, 3) := by decide +kernel
theorem dX3_knows_25 : decode cX3_knows 25 = .ok (.bipush 6, 2) := by decide +kernel
theorem dX3_knows_27 : decode cX3_knows 27 = .ok (.iload_n 1, 1) := by decide +kernel
theorem dX3_knows_28 : decode cX3_knows 28 = .ok (.imul, 1) := by decide +kernel
theorem dX3_knows_29 : decode cX3_knows 29 = .ok (.iload_n 2, 1) := by decide +kernel
theorem dX3_knows_30 : decode cX3_knows 30 = .ok (.iadd, 1) := by decide +kernel
theorem dX3_knows_31 : decode cX3_knows 31 = .ok (.iaload, 1) := by decide +kernel
theorem dX3_knows_32 : decode cX3_knows 32 = .ok (.goto 8, 3) := by decide +kernel
theorem dX3_knows_35 : decode cX3_knows 35 = .ok (.aload_n 0, 1) := by decide +kernel
theorem dX3_knows_36 : decode cX3_knows 36 = .ok (.iconst 1, 1) := by decide +kernel
theorem dX3_knows_37 : decode cX3_knows 37 = .ok (.invokevirtual 68, 3) := by decide +kernel
theorem dX3_knows_40 : decode cX3_knows 40 = .ok (.ireturn, 1) := by decide +kernel
theorem dX3_with_0 : decode cX3_with 0 = .ok (.iconst 0, 1) := by decide +kernel
theorem dX3_with_1 : decode cX3_with 1 = .ok (.istore_n 3, 1) := by decide +kernel
theorem dX3_with_2 : decode cX3_with 2 = .ok (.iconst 0, 1) := by decide +kernel
theorem dX3_with_3 : decode cX3_with 3 = .ok (.istore 4, 2) := by decide +kernel
theorem dX3_with_5 : decode cX3_with 5 = .ok (.iload 4, 2) := by decide +kernel
theorem dX3_with_7 : decode cX3_with 7 = .ok (.aload_n 0, 1) := by decide +kernel
theorem dX3_with_8 : decode cX3_with 8 = .ok (.getfield 58, 3) := by decide +kernel
theorem dX3_with_11 : decode cX3_with 11 = .ok (.if_icmp .ge 33, 3) := by decide +kernel
theorem dX3_with_14 : decode cX3_with 14 = .ok (.iload_n 3, 1) := by decide +kernel
theorem dX3_with_15 : decode cX3_with 15 = .ok (.aload_n 0, 1) := by decide +kernel
theorem dX3_with_16 : decode cX3_with 16 = .ok (.getfield 25, 3) := by decide +kernel
theorem dX3_with_19 : decode cX3_with 19 = .ok (.bipush 6, 2) := by decide +kernel
theorem dX3_with_21 : decode cX3_with 21 = .ok (.iload 4, 2) := by decide +kernel
theorem dX3_with_23 : decode cX3_with 23 = .ok (.imul, 1) := by decide +kernel
theorem dX3_with_24 : decode cX3_with 24 = .ok (.iload_n 1, 1) := by decide +kernel
theorem dX3_with_25 : decode cX3_with 25 = .ok (.iadd, 1) := by decide +kernel
theorem dX3_with_26 : decode cX3_with 26 = .ok (.iaload, 1) := by decide +kernel
theorem dX3_with_27 : decode cX3_with 27 = .ok (.iload_n 2, 1) := by decide +kernel
theorem dX3_with_28 : decode cX3_with 28 = .ok (.if_icmp .ne 7, 3) := by decide +kernel
theorem dX3_with_31 : decode cX3_with 31 = .ok (.iconst 1, 1) := by decide +kernel
theorem dX3_with_32 : decode cX3_with 32 = .ok (.goto 4, 3) := by decide +kernel
theorem dX3_with_35 : decode cX3_with 35 = .ok (.iconst 0, 1) := by decide +kernel
theorem dX3_with_36 : decode cX3_with 36 = .ok (.iadd, 1) := by decide +kernel
theorem dX3_with_37 : decode cX3_with 37 = .ok (.istore_n 3, 1) := by decide +kernel
theorem dX3_with_38 : decode cX3_with 38 = .ok (.iinc 4 1, 3) := by decide +kernel
theorem dX3_with_41 : decode cX3_with 41 = .ok (.goto (-36), 3) := by decide +kernel
theorem dX3_with_44 : decode cX3_with 44 = .ok (.iload_n 3, 1) := by decide +kernel
theorem dX3_with_45 : decode cX3_with 45 = .ok (.ireturn, 1) := by decide +kernel
set_option maxRecDepth 20000 in
theorem ggX3_songTold_X3_with : GoodIn wsX3_songTold wsX3_with := goodIn_r _ [7, 2, 8, 9, 10, 11, 12, 13, 14, 15, 16, 17, 18, 19, 20, 21, 22, 23, 24] (by decide +kernel) (by decide +kernel)
set_option maxRecDepth 20000 in
theorem gX3_songTold_X3_with : GoodIn wsX3_songTold (wsV RX3 129 RX3 yX3_with wsX3_with) := goodIn_app (goodIn_of _ (by decide +kernel)) ggX3_songTold_X3_with
theorem dX3_songTold_0 : decode cX3_songTold 0 = .ok (.iconst 0, 1) := by decide +kernel
theorem dX3_songTold_1 : decode cX3_songTold 1 = .ok (.istore_n 3, 1) := by decide +kernel
theorem dX3_songTold_2 : decode cX3_songTold 2 = .ok (.iconst 0, 1) := by decide +kernel
theorem dX3_songTold_3 : decode cX3_songTold 3 = .ok (.istore 4, 2) := by decide +kernel
theorem dX3_songTold_5 : decode cX3_songTold 5 = .ok (.iconst 1, 1) := by decide +kernel
theorem dX3_songTold_6 : decode cX3_songTold 6 = .ok (.istore 5, 2) := by decide +kernel
theorem dX3_songTold_8 : decode cX3_songTold 8 = .ok (.iload 5, 2) := by decide +kernel
theorem dX3_songTold_10 : decode cX3_songTold 10 = .ok (.bipush 100, 2) := by decide +kernel
theorem dX3_songTold_12 : decode cX3_songTold 12 = .ok (.if_icmp .ge 56, 3) := by decide +kernel
theorem dX3_songTold_15 : decode cX3_songTold 15 = .ok (.aload_n 0, 1) := by decide +kernel
theorem dX3_songTold_16 : decode cX3_songTold 16 = .ok (.iload_n 1, 1) := by decide +kernel
theorem dX3_songTold_17 : decode cX3_songTold 17 = .ok (.iload 5, 2) := by decide +kernel
theorem dX3_songTold_19 : decode cX3_songTold 19 = .ok (.invokevirtual 129, 3) := by decide +kernel
theorem dX3_songTold_22 : decode cX3_songTold 22 = .ok (.istore 6, 2) := by decide +kernel
theorem dX3_songTold_24 : decode cX3_songTold 24 = .ok (.iload_n 3, 1) := by decide +kernel
theorem dX3_songTold_25 : decode cX3_songTold 25 = .ok (.iload 6, 2) := by decide +kernel
theorem dX3_songTold_27 : decode cX3_songTold 27 = .ok (.ifCond .le 7, 3) := by decide +kernel
theorem dX3_songTold_30 : decode cX3_songTold 30 = .ok (.iconst 1, 1) := by decide +kernel
theorem dX3_songTold_31 : decode cX3_songTold 31 = .ok (.goto 4, 3) := by decide +kernel
theorem dX3_songTold_34 : decode cX3_songTold 34 = .ok (.iconst 0, 1) := by decide +kernel
theorem dX3_songTold_35 : decode cX3_songTold 35 = .ok (.iadd, 1) := by decide +kernel
theorem dX3_songTold_36 : decode cX3_songTold 36 = .ok (.istore_n 3, 1) := by decide +kernel
theorem dX3_songTold_37 : decode cX3_songTold 37 = .ok (.iload 6, 2) := by decide +kernel
theorem dX3_songTold_39 : decode cX3_songTold 39 = .ok (.iload 4, 2) := by decide +kernel
theorem dX3_songTold_41 : decode cX3_songTold 41 = .ok (.ifCond .ne 7, 3) := by decide +kernel
theorem dX3_songTold_44 : decode cX3_songTold 44 = .ok (.iconst 0, 1) := by decide +kernel
theorem dX3_songTold_45 : decode cX3_songTold 45 = .ok (.goto 10, 3) := by decide +kernel
theorem dX3_songTold_48 : decode cX3_songTold 48 = .ok (.aload_n 0, 1) := by decide +kernel
theorem dX3_songTold_49 : decode cX3_songTold 49 = .ok (.iload_n 1, 1) := by decide +kernel
theorem dX3_songTold_50 : decode cX3_songTold 50 = .ok (.iload 4, 2) := by decide +kernel
theorem dX3_songTold_52 : decode cX3_songTold 52 = .ok (.invokevirtual 129, 3) := by decide +kernel
theorem dX3_songTold_55 : decode cX3_songTold 55 = .ok (.if_icmp .le 7, 3) := by decide +kernel
theorem dX3_songTold_58 : decode cX3_songTold 58 = .ok (.iload 5, 2) := by decide +kernel
theorem dX3_songTold_60 : decode cX3_songTold 60 = .ok (.istore 4, 2) := by decide +kernel
theorem dX3_songTold_62 : decode cX3_songTold 62 = .ok (.iinc 5 1, 3) := by decide +kernel
theorem dX3_songTold_65 : decode cX3_songTold 65 = .ok (.goto (-57), 3) := by decide +kernel
theorem dX3_songTold_68 : decode cX3_songTold 68 = .ok (.iload_n 2, 1) := by decide +kernel
theorem dX3_songTold_69 : decode cX3_songTold 69 = .ok (.ifCond .ne 12, 3) := by decide +kernel
theorem dX3_songTold_72 : decode cX3_songTold 72 = .ok (.aload_n 0, 1) := by decide +kernel
theorem dX3_songTold_73 : decode cX3_songTold 73 = .ok (.getfield 22, 3) := by decide +kernel
theorem dX3_songTold_76 : decode cX3_songTold 76 = .ok (.iload_n 1, 1) := by decide +kernel
theorem dX3_songTold_77 : decode cX3_songTold 77 = .ok (.iaload, 1) := by decide +kernel
theorem dX3_songTold_78 : decode cX3_songTold 78 = .ok (.goto 33, 3) := by decide +kernel
theorem dX3_songTold_81 : decode cX3_songTold 81 = .ok (.iload_n 2, 1) := by decide +kernel
theorem dX3_songTold_82 : decode cX3_songTold 82 = .ok (.iconst 1, 1) := by decide +kernel
theorem dX3_songTold_83 : decode cX3_songTold 83 = .ok (.if_icmp .ne 17, 3) := by decide +kernel
theorem dX3_songTold_86 : decode cX3_songTold 86 = .ok (.aload_n 0, 1) := by decide +kernel
theorem dX3_songTold_87 : decode cX3_songTold 87 = .ok (.getfield 58, 3) := by decide +kernel
theorem dX3_songTold_90 : decode cX3_songTold 90 = .ok (.aload_n 0, 1) := by decide +kernel
theorem dX3_songTold_91 : decode cX3_songTold 91 = .ok (.iload_n 1, 1) := by decide +kernel
theorem dX3_songTold_92 : decode cX3_songTold 92 = .ok (.iconst 0, 1) := by decide +kernel
theorem dX3_songTold_93 : decode cX3_songTold 93 = .ok (.invokevirtual 129, 3) := by decide +kernel
theorem dX3_songTold_96 : decode cX3_songTold 96 = .ok (.isub, 1) := by decide +kernel
theorem dX3_songTold_97 : decode cX3_songTold 97 = .ok (.goto 14, 3) := by decide +kernel
theorem dX3_songTold_100 : decode cX3_songTold 100 = .ok (.iload_n 2, 1) := by decide +kernel
theorem dX3_songTold_101 : decode cX3_songTold 101 = .ok (.iconst 2, 1) := by decide +kernel
theorem dX3_songTold_102 : decode cX3_songTold 102 = .ok (.if_icmp .ne 7, 3) := by decide +kernel
theorem dX3_songTold_105 : decode cX3_songTold 105 = .ok (.iload_n 3, 1) := by decide +kernel
theorem dX3_songTold_106 : decode cX3_songTold 106 = .ok (.goto 5, 3) := by decide +kernel
theorem dX3_songTold_109 : decode cX3_songTold 109 = .ok (.iload 4, 2) := by decide +kernel
theorem dX3_songTold_111 : decode cX3_songTold 111 = .ok (.ireturn, 1) := by decide +kernel
set_option maxRecDepth 20000 in
theorem ggX3_song_X3_isSong : GoodIn wsX3_song wsX3_isSong := goodIn_r _ [6, 7, 8, 9, 5, 10, 26, 27, 28, 29, 30, 31, 32, 33, 34, 35, 36, 37, 38, 39, 40, 41] (by decide +kernel) (by decide +kernel)
set_option maxRecDepth 20000 in
theorem gX3_song_X3_isSong : GoodIn wsX3_song (wsV RX3 101 RX3 yX3_isSong wsX3_isSong) := goodIn_app (goodIn_of _ (by decide +kernel)) ggX3_song_X3_isSong
set_option maxRecDepth 20000 in
theorem ggX3_song_X3_isIn : GoodIn wsX3_song wsX3_isIn := goodIn_r _ [10] (by decide +kernel) (by decide +kernel)
set_option maxRecDepth 20000 in
theorem gX3_song_X3_isIn : GoodIn wsX3_song (va_wsS RX3 54 yX3_isIn wsX3_isIn) := goodIn_app (goodIn_of _ (by decide +kernel)) ggX3_song_X3_isIn
set_option maxRecDepth 20000 in
theorem ggX3_song_X3_songTold : GoodIn wsX3_song wsX3_songTold := goodIn_r _ [14, 15, 16, 17, 18, 19, 5, 20, 21, 26, 27, 28, 29, 30, 31, 32, 33, 34, 35, 36, 37, 38, 39, 40, 41] (by decide +kernel) (by decide +kernel)
set_option maxRecDepth 20000 in
theorem gX3_song_X3_songTold : GoodIn wsX3_song (wsV RX3 132 RX3 yX3_songTold wsX3_songTold) := goodIn_app (goodIn_of _ (by decide +kernel)) ggX3_song_X3_songTold
set_option maxRecDepth 20000 in
theorem ggX3_song_X3_fail : GoodIn wsX3_song wsX3_fail := goodIn_r _ [25, 1, 26, 27, 28, 29, 30, 31, 32, 33, 34, 35, 36, 37, 38, 39, 40, 41] (by decide +kernel) (by decide +kernel)
set_option maxRecDepth 20000 in
theorem gX3_song_X3_fail : GoodIn wsX3_song (wsV RX3 68 RX3 yX3_fail wsX3_fail) := goodIn_app (goodIn_of _ (by decide +kernel)) ggX3_song_X3_fail
theorem dX3_song_0 : decode cX3_song 0 = .ok (.aload_n 0, 1) := by decide +kernel
theorem dX3_song_1 : decode cX3_song 1 = .ok (.iconst 0, 1) := by decide +kernel
theorem dX3_song_2 : decode cX3_song 2 = .ok (.putfield 47, 3) := by decide +kernel
theorem dX3_song_5 : decode cX3_song 5 = .ok (.aload_n 0, 1) := by decide +kernel
theorem dX3_song_6 : decode cX3_song 6 = .ok (.iload_n 1, 1) := by decide +kernel
theorem dX3_song_7 : decode cX3_song 7 = .ok (.invokevirtual 101, 3) := by decide +kernel
theorem dX3_song_10 : decode cX3_song 10 = .ok (.ifCond .eq 21, 3) := by decide +kernel
theorem dX3_song_13 : decode cX3_song 13 = .ok (.iload_n 2, 1) := by decide +kernel
theorem dX3_song_14 : decode cX3_song 14 = .ok (.iconst 0, 1) := by decide +kernel
theorem dX3_song_15 : decode cX3_song 15 = .ok (.iconst 3, 1) := by decide +kernel
theorem dX3_song_16 : decode cX3_song 16 = .ok (.invokestatic 54, 3) := by decide +kernel
theorem dX3_song_19 : decode cX3_song 19 = .ok (.ifCond .eq 12, 3) := by decide +kernel
theorem dX3_song_22 : decode cX3_song 22 = .ok (.aload_n 0, 1) := by decide +kernel
theorem dX3_song_23 : decode cX3_song 23 = .ok (.iload_n 1, 1) := by decide +kernel
theorem dX3_song_24 : decode cX3_song 24 = .ok (.iload_n 2, 1) := by decide +kernel
theorem dX3_song_25 : decode cX3_song 25 = .ok (.invokevirtual 132, 3) := by decide +kernel
theorem dX3_song_28 : decode cX3_song 28 = .ok (.goto 8, 3) := by decide +kernel
theorem dX3_song_31 : decode cX3_song 31 = .ok (.aload_n 0, 1) := by decide +kernel
theorem dX3_song_32 : decode cX3_song 32 = .ok (.iconst 1, 1) := by decide +kernel
theorem dX3_song_33 : decode cX3_song 33 = .ok (.invokevirtual 68, 3) := by decide +kernel
theorem dX3_song_36 : decode cX3_song 36 = .ok (.ireturn, 1) := by decide +kernel
set_option maxRecDepth 20000 in
theorem ggX3_burn_X3_pe : GoodIn wsX3_burn wsX3_pe := goodIn_r _ [11, 12, 32, 33, 34, 35, 36, 37, 38, 39, 40, 41, 42, 43, 44, 45, 46, 47] (by decide +kernel) (by decide +kernel)
set_option maxRecDepth 20000 in
theorem gX3_burn_X3_pe : GoodIn wsX3_burn (wsV RX3 89 RX3 yX3_pe wsX3_pe) := goodIn_app (goodIn_of _ (by decide +kernel)) ggX3_burn_X3_pe
set_option maxRecDepth 20000 in
theorem ggX3_burn_X3_set : GoodIn wsX3_burn wsX3_set := goodIn_r _ [16, 12, 32, 33, 34, 35, 36, 37, 38, 39, 40, 41, 42, 43, 44, 45, 46, 47] (by decide +kernel) (by decide +kernel)
set_option maxRecDepth 20000 in
theorem gX3_burn_X3_set : GoodIn wsX3_burn (wsV RX3 97 RX3 yX3_set wsX3_set) := goodIn_app (goodIn_of _ (by decide +kernel)) ggX3_burn_X3_set
set_option maxRecDepth 20000 in
theorem ggX3_burn_X3_walks : GoodIn wsX3_burn wsX3_walks := goodIn_r _ [20, 7, 8, 9, 10, 11, 12, 32, 33, 34, 35, 36, 37, 38, 39, 40, 41, 42, 43, 44, 45, 46, 47] (by decide +kernel) (by decide +kernel)
set_option maxRecDepth 20000 in
theorem gX3_burn_X3_walks : GoodIn wsX3_burn (wsV RX3 104 RX3 yX3_walks wsX3_walks) := goodIn_app (goodIn_of _ (by decide +kernel)) ggX3_burn_X3_walks
set_option maxRecDepth 20000 in
theorem ggX3_burn_X3_neighbours : GoodIn wsX3_burn wsX3_neighbours := goodIn_r _ [24, 1, 25, 26, 27, 10, 28, 29, 30, 4, 31, 17, 18, 19, 20, 7, 8, 9, 11, 12, 32, 33, 34, 35, 36, 37, 38, 39, 40, 41, 42, 43, 44, 45, 46, 47] (by decide +kernel) (by decide +kernel)
set_option maxRecDepth 20000 in
theorem gX3_burn_X3_neighbours : GoodIn wsX3_burn (wsV RX3 123 RX3 yX3_neighbours wsX3_neighbours) := goodIn_app (goodIn_of _ (by decide +kernel)) ggX3_burn_X3_neighbours
set_option maxRecDepth 20000 in
theorem ggX3_burn_X3_isNeighbour : GoodIn wsX3_burn wsX3_isNeighbour := goodIn_r _ [28, 29, 30, 4, 31, 17, 18, 19, 10, 20, 7, 8, 9, 11, 12, 32, 33, 34, 35, 36, 37, 38, 39, 40, 41, 42, 43, 44, 45, 46, 47] (by decide +kernel) (by decide +kernel)
set_option maxRecDepth 20000 in
theorem gX3_burn_X3_isNeighbour : GoodIn wsX3_burn (wsV RX3 119 RX3 yX3_isNeighbour wsX3_isNeighbour) := goodIn_app (goodIn_of _ (by decide +kernel)) ggX3_burn_X3_isNeighbour
