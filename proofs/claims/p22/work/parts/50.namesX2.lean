set_option maxRecDepth 20000 in
theorem ggX2_init_X1_init : GoodIn wsX2_init wsX1_init := goodIn_r _ [14, 15, 2, 3, 16, 17, 18, 19, 20, 21, 22, 23, 49, 50, 51, 52, 53, 54, 55, 56, 57, 58, 59] (by decide +kernel) (by decide +kernel)
set_option maxRecDepth 20000 in
theorem gX2_init_X1_init_n9 : GoodIn wsX2_init (wsX1_init) := ggX2_init_X1_init
set_option maxRecDepth 20000 in
theorem ggX2_init_X0_init : GoodIn wsX2_init wsX0_init := goodIn_r _ [26, 27, 2, 3, 16, 28, 29, 30, 31, 32, 33, 34, 35, 36, 37, 38, 39, 40, 41, 42, 43, 44, 45, 46, 47, 48, 63, 64, 65, 66, 67, 68, 69, 70, 71, 72, 73, 74, 75, 76, 77, 78, 79] (by decide +kernel) (by decide +kernel)
set_option maxRecDepth 20000 in
theorem gX2_init_X0_init : GoodIn wsX2_init (wsX0_init) := ggX2_init_X0_init
theorem dX2_init_0 : decode cX2_init 0 = .ok (.aload_n 0, 1) := by decide +kernel
theorem dX2_init_1 : decode cX2_init 1 = .ok (.invokespecial 1, 3) := by decide +kernel
theorem dX2_init_4 : decode cX2_init 4 = .ok (.new 7, 3) := by decide +kernel
theorem dX2_init_7 : decode cX2_init 7 = .ok (.dup, 1) := by decide +kernel
theorem dX2_init_8 : decode cX2_init 8 = .ok (.invokespecial 9, 3) := by decide +kernel
theorem dX2_init_11 : decode cX2_init 11 = .ok (.astore_n 1, 1) := by decide +kernel
theorem dX2_init_12 : decode cX2_init 12 = .ok (.aload_n 0, 1) := by decide +kernel
theorem dX2_init_13 : decode cX2_init 13 = .ok (.aload_n 1, 1) := by decide +kernel
theorem dX2_init_14 : decode cX2_init 14 = .ok (.putfield 10, 3) := by decide +kernel
theorem dX2_init_17 : decode cX2_init 17 = .ok (.aload_n 0, 1) := by decide +kernel
theorem dX2_init_18 : decode cX2_init 18 = .ok (.new 16, 3) := by decide +kernel
theorem dX2_init_21 : decode cX2_init 21 = .ok (.dup, 1) := by decide +kernel
theorem dX2_init_22 : decode cX2_init 22 = .ok (.aload_n 1, 1) := by decide +kernel
theorem dX2_init_23 : decode cX2_init 23 = .ok (.invokespecial 18, 3) := by decide +kernel
theorem dX2_init_26 : decode cX2_init 26 = .ok (.putfield 21, 3) := by decide +kernel
theorem dX2_init_29 : decode cX2_init 29 = .ok (.aload_n 0, 1) := by decide +kernel
theorem dX2_init_30 : decode cX2_init 30 = .ok (.new 16, 3) := by decide +kernel
theorem dX2_init_33 : decode cX2_init 33 = .ok (.dup, 1) := by decide +kernel
theorem dX2_init_34 : decode cX2_init 34 = .ok (.aload_n 1, 1) := by decide +kernel
theorem dX2_init_35 : decode cX2_init 35 = .ok (.invokespecial 18, 3) := by decide +kernel
theorem dX2_init_38 : decode cX2_init 38 = .ok (.putfield 25, 3) := by decide +kernel
theorem dX2_init_41 : decode cX2_init 41 = .ok (.return_, 1) := by decide +kernel
set_option maxRecDepth 20000 in
theorem ggX2_addStretch_X1_appendStretch : GoodIn wsX2_addStretch wsX1_appendStretch := goodIn_r _ [13, 14, 15, 16, 17, 18, 22, 23, 24, 25, 26, 27, 28, 29, 30, 31, 32] (by decide +kernel) (by decide +kernel)
set_option maxRecDepth 20000 in
theorem gX2_addStretch_X1_appendStretch : GoodIn wsX2_addStretch (wsV RX2 47 RX1 yX1_appendStretch wsX1_appendStretch) := goodIn_app (goodIn_of _ (by decide +kernel)) ggX2_addStretch_X1_appendStretch
theorem dX2_addStretch_0 : decode cX2_addStretch 0 = .ok (.iload_n 1, 1) := by decide +kernel
theorem dX2_addStretch_1 : decode cX2_addStretch 1 = .ok (.iconst 1, 1) := by decide +kernel
theorem dX2_addStretch_2 : decode cX2_addStretch 2 = .ok (.if_icmp .lt 19, 3) := by decide +kernel
theorem dX2_addStretch_5 : decode cX2_addStretch 5 = .ok (.iload_n 1, 1) := by decide +kernel
theorem dX2_addStretch_6 : decode cX2_addStretch 6 = .ok (.bipush 20, 2) := by decide +kernel
theorem dX2_addStretch_8 : decode cX2_addStretch 8 = .ok (.if_icmp .gt 13, 3) := by decide +kernel
theorem dX2_addStretch_11 : decode cX2_addStretch 11 = .ok (.iload_n 2, 1) := by decide +kernel
theorem dX2_addStretch_12 : decode cX2_addStretch 12 = .ok (.iconst 1, 1) := by decide +kernel
theorem dX2_addStretch_13 : decode cX2_addStretch 13 = .ok (.if_icmp .lt 8, 3) := by decide +kernel
theorem dX2_addStretch_16 : decode cX2_addStretch 16 = .ok (.iload_n 2, 1) := by decide +kernel
theorem dX2_addStretch_17 : decode cX2_addStretch 17 = .ok (.iconst 4, 1) := by decide +kernel
theorem dX2_addStretch_18 : decode cX2_addStretch 18 = .ok (.if_icmp .le 13, 3) := by decide +kernel
theorem dX2_addStretch_21 : decode cX2_addStretch 21 = .ok (.new 28, 3) := by decide +kernel
theorem dX2_addStretch_24 : decode cX2_addStretch 24 = .ok (.dup, 1) := by decide +kernel
theorem dX2_addStretch_25 : decode cX2_addStretch 25 = .ok (.ldc 30, 2) := by decide +kernel
theorem dX2_addStretch_27 : decode cX2_addStretch 27 = .ok (.invokespecial 32, 3) := by decide +kernel
theorem dX2_addStretch_30 : decode cX2_addStretch 30 = .ok (.athrow, 1) := by decide +kernel
theorem dX2_addStretch_31 : decode cX2_addStretch 31 = .ok (.aload_n 0, 1) := by decide +kernel
theorem dX2_addStretch_32 : decode cX2_addStretch 32 = .ok (.getfield 10, 3) := by decide +kernel
theorem dX2_addStretch_35 : decode cX2_addStretch 35 = .ok (.getfield 35, 3) := by decide +kernel
theorem dX2_addStretch_38 : decode cX2_addStretch 38 = .ok (.bipush 10, 2) := by decide +kernel
theorem dX2_addStretch_40 : decode cX2_addStretch 40 = .ok (.if_icmp .ge 13, 3) := by decide +kernel
theorem dX2_addStretch_43 : decode cX2_addStretch 43 = .ok (.aload_n 0, 1) := by decide +kernel
theorem dX2_addStretch_44 : decode cX2_addStretch 44 = .ok (.getfield 21, 3) := by decide +kernel
theorem dX2_addStretch_47 : decode cX2_addStretch 47 = .ok (.getfield 39, 3) := by decide +kernel
theorem dX2_addStretch_50 : decode cX2_addStretch 50 = .ok (.ifCond .le 13, 3) := by decide +kernel
theorem dX2_addStretch_53 : decode cX2_addStretch 53 = .ok (.new 42, 3) := by decide +kernel
theorem dX2_addStretch_56 : decode cX2_addStretch 56 = .ok (.dup, 1) := by decide +kernel
theorem dX2_addStretch_57 : decode cX2_addStretch 57 = .ok (.ldc 44, 2) := by decide +kernel
theorem dX2_addStretch_59 : decode cX2_addStretch 59 = .ok (.invokespecial 46, 3) := by decide +kernel
theorem dX2_addStretch_62 : decode cX2_addStretch 62 = .ok (.athrow, 1) := by decide +kernel
theorem dX2_addStretch_63 : decode cX2_addStretch 63 = .ok (.aload_n 0, 1) := by decide +kernel
theorem dX2_addStretch_64 : decode cX2_addStretch 64 = .ok (.getfield 10, 3) := by decide +kernel
theorem dX2_addStretch_67 : decode cX2_addStretch 67 = .ok (.iload_n 1, 1) := by decide +kernel
theorem dX2_addStretch_68 : decode cX2_addStretch 68 = .ok (.iload_n 2, 1) := by decide +kernel
theorem dX2_addStretch_69 : decode cX2_addStretch 69 = .ok (.invokevirtual 47, 3) := by decide +kernel
theorem dX2_addStretch_72 : decode cX2_addStretch 72 = .ok (.ireturn, 1) := by decide +kernel
set_option maxRecDepth 20000 in
theorem ggX2_post_X1_hasStretch : GoodIn wsX2_post wsX1_hasStretch := goodIn_r _ [10, 11, 32, 33, 34, 35, 36, 37, 38, 39, 40, 41, 42] (by decide +kernel) (by decide +kernel)
set_option maxRecDepth 20000 in
theorem gX2_post_X1_hasStretch : GoodIn wsX2_post (wsV RX2 51 RX1 yX1_hasStretch wsX1_hasStretch) := goodIn_app (goodIn_of _ (by decide +kernel)) ggX2_post_X1_hasStretch
theorem dX2_post_0 : decode cX2_post 0 = .ok (.iload_n 1, 1) := by decide +kernel
theorem dX2_post_1 : decode cX2_post 1 = .ok (.ifCond .lt 24, 3) := by decide +kernel
theorem dX2_post_4 : decode cX2_post 4 = .ok (.iload_n 1, 1) := by decide +kernel
theorem dX2_post_5 : decode cX2_post 5 = .ok (.iconst 2, 1) := by decide +kernel
theorem dX2_post_6 : decode cX2_post 6 = .ok (.if_icmp .ge 19, 3) := by decide +kernel
theorem dX2_post_9 : decode cX2_post 9 = .ok (.iload_n 2, 1) := by decide +kernel
theorem dX2_post_10 : decode cX2_post 10 = .ok (.iconst (-1), 1) := by decide +kernel
theorem dX2_post_11 : decode cX2_post 11 = .ok (.if_icmp .eq 24, 3) := by decide +kernel
theorem dX2_post_14 : decode cX2_post 14 = .ok (.aload_n 0, 1) := by decide +kernel
theorem dX2_post_15 : decode cX2_post 15 = .ok (.getfield 10, 3) := by decide +kernel
theorem dX2_post_18 : decode cX2_post 18 = .ok (.iload_n 2, 1) := by decide +kernel
theorem dX2_post_19 : decode cX2_post 19 = .ok (.invokevirtual 51, 3) := by decide +kernel
theorem dX2_post_22 : decode cX2_post 22 = .ok (.ifCond .ne 13, 3) := by decide +kernel
theorem dX2_post_25 : decode cX2_post 25 = .ok (.new 55, 3) := by decide +kernel
theorem dX2_post_28 : decode cX2_post 28 = .ok (.dup, 1) := by decide +kernel
theorem dX2_post_29 : decode cX2_post 29 = .ok (.ldc 57, 2) := by decide +kernel
theorem dX2_post_31 : decode cX2_post 31 = .ok (.invokespecial 59, 3) := by decide +kernel
theorem dX2_post_34 : decode cX2_post 34 = .ok (.athrow, 1) := by decide +kernel
theorem dX2_post_35 : decode cX2_post 35 = .ok (.aload_n 0, 1) := by decide +kernel
theorem dX2_post_36 : decode cX2_post 36 = .ok (.getfield 21, 3) := by decide +kernel
theorem dX2_post_39 : decode cX2_post 39 = .ok (.getfield 60, 3) := by decide +kernel
theorem dX2_post_42 : decode cX2_post 42 = .ok (.iload_n 1, 1) := by decide +kernel
theorem dX2_post_43 : decode cX2_post 43 = .ok (.iaload, 1) := by decide +kernel
theorem dX2_post_44 : decode cX2_post 44 = .ok (.istore_n 3, 1) := by decide +kernel
theorem dX2_post_45 : decode cX2_post 45 = .ok (.aload_n 0, 1) := by decide +kernel
theorem dX2_post_46 : decode cX2_post 46 = .ok (.getfield 21, 3) := by decide +kernel
theorem dX2_post_49 : decode cX2_post 49 = .ok (.getfield 60, 3) := by decide +kernel
theorem dX2_post_52 : decode cX2_post 52 = .ok (.iload_n 1, 1) := by decide +kernel
theorem dX2_post_53 : decode cX2_post 53 = .ok (.iload_n 2, 1) := by decide +kernel
theorem dX2_post_54 : decode cX2_post 54 = .ok (.iastore, 1) := by decide +kernel
theorem dX2_post_55 : decode cX2_post 55 = .ok (.iload_n 3, 1) := by decide +kernel
theorem dX2_post_56 : decode cX2_post 56 = .ok (.ireturn, 1) := by decide +kernel
theorem dX2_setWind_0 : decode cX2_setWind 0 = .ok (.iload_n 1, 1) := by decide +kernel
theorem dX2_setWind_1 : decode cX2_setWind 1 = .ok (.ifCond .lt 9, 3) := by decide +kernel
theorem dX2_setWind_4 : decode cX2_setWind 4 = .ok (.iload_n 1, 1) := by decide +kernel
theorem dX2_setWind_5 : decode cX2_setWind 5 = .ok (.bipush 10, 2) := by decide +kernel
theorem dX2_setWind_7 : decode cX2_setWind 7 = .ok (.if_icmp .lt 13, 3) := by decide +kernel
theorem dX2_setWind_10 : decode cX2_setWind 10 = .ok (.new 55, 3) := by decide +kernel
theorem dX2_setWind_13 : decode cX2_setWind 13 = .ok (.dup, 1) := by decide +kernel
theorem dX2_setWind_14 : decode cX2_setWind 14 = .ok (.ldc 64, 2) := by decide +kernel
theorem dX2_setWind_16 : decode cX2_setWind 16 = .ok (.invokespecial 59, 3) := by decide +kernel
theorem dX2_setWind_19 : decode cX2_setWind 19 = .ok (.athrow, 1) := by decide +kernel
theorem dX2_setWind_20 : decode cX2_setWind 20 = .ok (.iload_n 2, 1) := by decide +kernel
theorem dX2_setWind_21 : decode cX2_setWind 21 = .ok (.ifCond .lt 9, 3) := by decide +kernel
theorem dX2_setWind_24 : decode cX2_setWind 24 = .ok (.iload_n 2, 1) := by decide +kernel
theorem dX2_setWind_25 : decode cX2_setWind 25 = .ok (.bipush 9, 2) := by decide +kernel
theorem dX2_setWind_27 : decode cX2_setWind 27 = .ok (.if_icmp .le 13, 3) := by decide +kernel
theorem dX2_setWind_30 : decode cX2_setWind 30 = .ok (.new 28, 3) := by decide +kernel
theorem dX2_setWind_33 : decode cX2_setWind 33 = .ok (.dup, 1) := by decide +kernel
theorem dX2_setWind_34 : decode cX2_setWind 34 = .ok (.ldc 66, 2) := by decide +kernel
theorem dX2_setWind_36 : decode cX2_setWind 36 = .ok (.invokespecial 32, 3) := by decide +kernel
theorem dX2_setWind_39 : decode cX2_setWind 39 = .ok (.athrow, 1) := by decide +kernel
theorem dX2_setWind_40 : decode cX2_setWind 40 = .ok (.aload_n 0, 1) := by decide +kernel
theorem dX2_setWind_41 : decode cX2_setWind 41 = .ok (.getfield 10, 3) := by decide +kernel
theorem dX2_setWind_44 : decode cX2_setWind 44 = .ok (.getfield 68, 3) := by decide +kernel
theorem dX2_setWind_47 : decode cX2_setWind 47 = .ok (.iload_n 1, 1) := by decide +kernel
theorem dX2_setWind_48 : decode cX2_setWind 48 = .ok (.iaload, 1) := by decide +kernel
theorem dX2_setWind_49 : decode cX2_setWind 49 = .ok (.istore_n 3, 1) := by decide +kernel
theorem dX2_setWind_50 : decode cX2_setWind 50 = .ok (.aload_n 0, 1) := by decide +kernel
theorem dX2_setWind_51 : decode cX2_setWind 51 = .ok (.getfield 10, 3) := by decide +kernel
theorem dX2_setWind_54 : decode cX2_setWind 54 = .ok (.getfield 68, 3) := by decide +kernel
theorem dX2_setWind_57 : decode cX2_setWind 57 = .ok (.iload_n 1, 1) := by decide +kernel
theorem dX2_setWind_58 : decode cX2_setWind 58 = .ok (.iload_n 2, 1) := by decide +kernel
theorem dX2_setWind_59 : decode cX2_setWind 59 = .ok (.iastore, 1) := by decide +kernel
theorem dX2_setWind_60 : decode cX2_setWind 60 = .ok (.iload_n 3, 1) := by decide +kernel
theorem dX2_setWind_61 : decode cX2_setWind 61 = .ok (.ireturn, 1) := by decide +kernel
set_option maxRecDepth 20000 in
theorem ggX2_come_X1_appendWalker : GoodIn wsX2_come wsX1_appendWalker := goodIn_r _ [14, 15, 16, 17, 21, 22, 23, 24, 25, 26, 27, 28, 29, 30, 31] (by decide +kernel) (by decide +kernel)
set_option maxRecDepth 20000 in
theorem gX2_come_X1_appendWalker : GoodIn wsX2_come (wsV RX2 78 RX1 yX1_appendWalker wsX1_appendWalker) := goodIn_app (goodIn_of _ (by decide +kernel)) ggX2_come_X1_appendWalker
theorem dX2_come_0 : decode cX2_come 0 = .ok (.iload_n 1, 1) := by decide +kernel
theorem dX2_come_1 : decode cX2_come 1 = .ok (.iconst 1, 1) := by decide +kernel
theorem dX2_come_2 : decode cX2_come 2 = .ok (.if_icmp .lt 29, 3) := by decide +kernel
theorem dX2_come_5 : decode cX2_come 5 = .ok (.iload_n 1, 1) := by decide +kernel
theorem dX2_come_6 : decode cX2_come 6 = .ok (.iconst 3, 1) := by decide +kernel
theorem dX2_come_7 : decode cX2_come 7 = .ok (.if_icmp .gt 24, 3) := by decide +kernel
theorem dX2_come_10 : decode cX2_come 10 = .ok (.iload_n 2, 1) := by decide +kernel
theorem dX2_come_11 : decode cX2_come 11 = .ok (.ifCond .lt 20, 3) := by decide +kernel
theorem dX2_come_14 : decode cX2_come 14 = .ok (.iload_n 2, 1) := by decide +kernel
theorem dX2_come_15 : decode cX2_come 15 = .ok (.sipush 200, 3) := by decide +kernel
theorem dX2_come_18 : decode cX2_come 18 = .ok (.if_icmp .gt 13, 3) := by decide +kernel
theorem dX2_come_21 : decode cX2_come 21 = .ok (.iload_n 3, 1) := by decide +kernel
theorem dX2_come_22 : decode cX2_come 22 = .ok (.ifCond .lt 9, 3) := by decide +kernel
theorem dX2_come_25 : decode cX2_come 25 = .ok (.iload_n 3, 1) := by decide +kernel
theorem dX2_come_26 : decode cX2_come 26 = .ok (.bipush 9, 2) := by decide +kernel
theorem dX2_come_28 : decode cX2_come 28 = .ok (.if_icmp .le 13, 3) := by decide +kernel
theorem dX2_come_31 : decode cX2_come 31 = .ok (.new 28, 3) := by decide +kernel
theorem dX2_come_34 : decode cX2_come 34 = .ok (.dup, 1) := by decide +kernel
theorem dX2_come_35 : decode cX2_come 35 = .ok (.ldc 71, 2) := by decide +kernel
theorem dX2_come_37 : decode cX2_come 37 = .ok (.invokespecial 32, 3) := by decide +kernel
theorem dX2_come_40 : decode cX2_come 40 = .ok (.athrow, 1) := by decide +kernel
theorem dX2_come_41 : decode cX2_come 41 = .ok (.aload_n 0, 1) := by decide +kernel
theorem dX2_come_42 : decode cX2_come 42 = .ok (.getfield 10, 3) := by decide +kernel
theorem dX2_come_45 : decode cX2_come 45 = .ok (.getfield 73, 3) := by decide +kernel
theorem dX2_come_48 : decode cX2_come 48 = .ok (.bipush 20, 2) := by decide +kernel
theorem dX2_come_50 : decode cX2_come 50 = .ok (.if_icmp .lt 13, 3) := by decide +kernel
theorem dX2_come_53 : decode cX2_come 53 = .ok (.new 42, 3) := by decide +kernel
theorem dX2_come_56 : decode cX2_come 56 = .ok (.dup, 1) := by decide +kernel
theorem dX2_come_57 : decode cX2_come 57 = .ok (.ldc 76, 2) := by decide +kernel
theorem dX2_come_59 : decode cX2_come 59 = .ok (.invokespecial 46, 3) := by decide +kernel
theorem dX2_come_62 : decode cX2_come 62 = .ok (.athrow, 1) := by decide +kernel
theorem dX2_come_63 : decode cX2_come 63 = .ok (.aload_n 0, 1) := by decide +kernel
theorem dX2_come_64 : decode cX2_come 64 = .ok (.getfield 10, 3) := by decide +kernel
theorem dX2_come_67 : decode cX2_come 67 = .ok (.iload_n 1, 1) := by decide +kernel
theorem dX2_come_68 : decode cX2_come 68 = .ok (.iload_n 3, 1) := by decide +kernel
theorem dX2_come_69 : decode cX2_come 69 = .ok (.invokevirtual 78, 3) := by decide +kernel
theorem dX2_come_72 : decode cX2_come 72 = .ok (.istore 4, 2) := by decide +kernel
theorem dX2_come_74 : decode cX2_come 74 = .ok (.aload_n 0, 1) := by decide +kernel
theorem dX2_come_75 : decode cX2_come 75 = .ok (.getfield 21, 3) := by decide +kernel
theorem dX2_come_78 : decode cX2_come 78 = .ok (.getfield 81, 3) := by decide +kernel
theorem dX2_come_81 : decode cX2_come 81 = .ok (.iload 4, 2) := by decide +kernel
theorem dX2_come_83 : decode cX2_come 83 = .ok (.iload_n 2, 1) := by decide +kernel
theorem dX2_come_84 : decode cX2_come 84 = .ok (.iastore, 1) := by decide +kernel
theorem dX2_come_85 : decode cX2_come 85 = .ok (.aload_n 0, 1) := by decide +kernel
theorem dX2_come_86 : decode cX2_come 86 = .ok (.getfield 21, 3) := by decide +kernel
theorem dX2_come_89 : decode cX2_come 89 = .ok (.getfield 84, 3) := by decide +kernel
theorem dX2_come_92 : decode cX2_come 92 = .ok (.iload 4, 2) := by decide +kernel
theorem dX2_come_94 : decode cX2_come 94 = .ok (.iload_n 2, 1) := by decide +kernel
theorem dX2_come_95 : decode cX2_come 95 = .ok (.ifCond .le 7, 3) := by decide +kernel
theorem dX2_come_98 : decode cX2_come 98 = .ok (.iconst 1, 1) := by decide +kernel
theorem dX2_come_99 : decode cX2_come 99 = .ok (.goto 4, 3) := by decide +kernel
theorem dX2_come_102 : decode cX2_come 102 = .ok (.iconst 0, 1) := by decide +kernel
theorem dX2_come_103 : decode cX2_come 103 = .ok (.bastore, 1) := by decide +kernel
theorem dX2_come_104 : decode cX2_come 104 = .ok (.iload 4, 2) := by decide +kernel
theorem dX2_come_106 : decode cX2_come 106 = .ok (.ireturn, 1) := by decide +kernel
set_option maxRecDepth 20000 in
theorem ggX2_trim_X1_hasWalker : GoodIn wsX2_trim wsX1_hasWalker := goodIn_r _ [20, 21, 42, 43, 44, 45, 46, 47, 48, 49, 50, 51, 52] (by decide +kernel) (by decide +kernel)
set_option maxRecDepth 20000 in
theorem gX2_trim_X1_hasWalker : GoodIn wsX2_trim (wsV RX2 88 RX1 yX1_hasWalker wsX1_hasWalker) := goodIn_app (goodIn_of _ (by decide +kernel)) ggX2_trim_X1_hasWalker
theorem dX2_trim_0 : decode cX2_trim 0 = .ok (.aload_n 0, 1) := by decide +kernel
theorem dX2_trim_1 : decode cX2_trim 1 = .ok (.getfield 10, 3) := by decide +kernel
theorem dX2_trim_4 : decode cX2_trim 4 = .ok (.iload_n 1, 1) := by decide +kernel
theorem dX2_trim_5 : decode cX2_trim 5 = .ok (.invokevirtual 88, 3) := by decide +kernel
theorem dX2_trim_8 : decode cX2_trim 8 = .ok (.ifCond .ne 13, 3) := by decide +kernel
theorem dX2_trim_11 : decode cX2_trim 11 = .ok (.new 55, 3) := by decide +kernel
theorem dX2_trim_14 : decode cX2_trim 14 = .ok (.dup, 1) := by decide +kernel
theorem dX2_trim_15 : decode cX2_trim 15 = .ok (.ldc 91, 2) := by decide +kernel
theorem dX2_trim_17 : decode cX2_trim 17 = .ok (.invokespecial 59, 3) := by decide +kernel
theorem dX2_trim_20 : decode cX2_trim 20 = .ok (.athrow, 1) := by decide +kernel
theorem dX2_trim_21 : decode cX2_trim 21 = .ok (.iload_n 2, 1) := by decide +kernel
theorem dX2_trim_22 : decode cX2_trim 22 = .ok (.iconst 1, 1) := by decide +kernel
theorem dX2_trim_23 : decode cX2_trim 23 = .ok (.if_icmp .lt 10, 3) := by decide +kernel
theorem dX2_trim_26 : decode cX2_trim 26 = .ok (.iload_n 2, 1) := by decide +kernel
theorem dX2_trim_27 : decode cX2_trim 27 = .ok (.sipush 200, 3) := by decide +kernel
theorem dX2_trim_30 : decode cX2_trim 30 = .ok (.if_icmp .le 13, 3) := by decide +kernel
theorem dX2_trim_33 : decode cX2_trim 33 = .ok (.new 28, 3) := by decide +kernel
theorem dX2_trim_36 : decode cX2_trim 36 = .ok (.dup, 1) := by decide +kernel
theorem dX2_trim_37 : decode cX2_trim 37 = .ok (.ldc 93, 2) := by decide +kernel
theorem dX2_trim_39 : decode cX2_trim 39 = .ok (.invokespecial 32, 3) := by decide +kernel
theorem dX2_trim_42 : decode cX2_trim 42 = .ok (.athrow, 1) := by decide +kernel
theorem dX2_trim_43 : decode cX2_trim 43 = .ok (.aload_n 0, 1) := by decide +kernel
theorem dX2_trim_44 : decode cX2_trim 44 = .ok (.getfield 21, 3) := by decide +kernel
theorem dX2_trim_47 : decode cX2_trim 47 = .ok (.getfield 95, 3) := by decide +kernel
theorem dX2_trim_50 : decode cX2_trim 50 = .ok (.iload_n 1, 1) := by decide +kernel
theorem dX2_trim_51 : decode cX2_trim 51 = .ok (.iaload, 1) := by decide +kernel
theorem dX2_trim_52 : decode cX2_trim 52 = .ok (.iconst 2, 1) := by decide +kernel
theorem dX2_trim_53 : decode cX2_trim 53 = .ok (.if_icmp .ne 13, 3) := by decide +kernel
theorem dX2_trim_56 : decode cX2_trim 56 = .ok (.new 42, 3) := by decide +kernel
theorem dX2_trim_59 : decode cX2_trim 59 = .ok (.dup, 1) := by decide +kernel
theorem dX2_trim_60 : decode cX2_trim 60 = .ok (.ldc 98, 2) := by decide +kernel
theorem dX2_trim_62 : decode cX2_trim 62 = .ok (.invokespecial 46, 3) := by decide +kernel
theorem dX2_trim_65 : decode cX2_trim 65 = .ok (.athrow, 1) := by decide +kernel
theorem dX2_trim_66 : decode cX2_trim 66 = .ok (.aload_n 0, 1) := by decide +kernel
theorem dX2_trim_67 : decode cX2_trim 67 = .ok (.getfield 21, 3) := by decide +kernel
theorem dX2_trim_70 : decode cX2_trim 70 = .ok (.getfield 81, 3) := by decide +kernel
theorem dX2_trim_73 : decode cX2_trim 73 = .ok (.iload_n 1, 1) := by decide +kernel
theorem dX2_trim_74 : decode cX2_trim 74 = .ok (.sipush 200, 3) := by decide +kernel
theorem dX2_trim_77 : decode cX2_trim 77 = .ok (.aload_n 0, 1) := by decide +kernel
theorem dX2_trim_78 : decode cX2_trim 78 = .ok (.getfield 21, 3) := by decide +kernel
theorem dX2_trim_81 : decode cX2_trim 81 = .ok (.getfield 81, 3) := by decide +kernel
theorem dX2_trim_84 : decode cX2_trim 84 = .ok (.iload_n 1, 1) := by decide +kernel
theorem dX2_trim_85 : decode cX2_trim 85 = .ok (.iaload, 1) := by decide +kernel
theorem dX2_trim_86 : decode cX2_trim 86 = .ok (.iload_n 2, 1) := by decide +kernel
theorem dX2_trim_87 : decode cX2_trim 87 = .ok (.iadd, 1) := by decide +kernel
theorem dX2_trim_88 : decode cX2_trim 88 = .ok (.invokestatic 100, 3) := by decide +kernel
theorem dX2_trim_91 : decode cX2_trim 91 = .ok (.iastore, 1) := by decide +kernel
theorem dX2_trim_92 : decode cX2_trim 92 = .ok (.aload_n 0, 1) := by decide +kernel
theorem dX2_trim_93 : decode cX2_trim 93 = .ok (.getfield 21, 3) := by decide +kernel
theorem dX2_trim_96 : decode cX2_trim 96 = .ok (.getfield 84, 3) := by decide +kernel
theorem dX2_trim_99 : decode cX2_trim 99 = .ok (.iload_n 1, 1) := by decide +kernel
theorem dX2_trim_100 : decode cX2_trim 100 = .ok (.iconst 1, 1) := by decide +kernel
theorem dX2_trim_101 : decode cX2_trim 101 = .ok (.bastore, 1) := by decide +kernel
theorem dX2_trim_102 : decode cX2_trim 102 = .ok (.aload_n 0, 1) := by decide +kernel
theorem dX2_trim_103 : decode cX2_trim 103 = .ok (.getfield 21, 3) := by decide +kernel
theorem dX2_trim_106 : decode cX2_trim 106 = .ok (.getfield 81, 3) := by decide +kernel
theorem dX2_trim_109 : decode cX2_trim 109 = .ok (.iload_n 1, 1) := by decide +kernel
theorem dX2_trim_110 : decode cX2_trim 110 = .ok (.iaload, 1) := by decide +kernel
theorem dX2_trim_111 : decode cX2_trim 111 = .ok (.ireturn, 1) := by decide +kernel
set_option maxRecDepth 20000 in
theorem ggX2_addSong_X1_appendSong : GoodIn wsX2_addSong wsX1_appendSong := goodIn_r _ [11, 12, 13, 17, 18, 19, 20, 21, 22, 23, 24, 25, 26, 27] (by decide +kernel) (by decide +kernel)
set_option maxRecDepth 20000 in
theorem gX2_addSong_X1_appendSong : GoodIn wsX2_addSong (wsV RX2 112 RX1 yX1_appendSong wsX1_appendSong) := goodIn_app (goodIn_of _ (by decide +kernel)) ggX2_addSong_X1_appendSong
theorem dX2_addSong_0 : decode cX2_addSong 0 = .ok (.iload_n 1, 1) := by decide +kernel
theorem dX2_addSong_1 : decode cX2_addSong 1 = .ok (.iconst 1, 1) := by decide +kernel
theorem dX2_addSong_2 : decode cX2_addSong 2 = .ok (.if_icmp .lt 9, 3) := by decide +kernel
theorem dX2_addSong_5 : decode cX2_addSong 5 = .ok (.iload_n 1, 1) := by decide +kernel
theorem dX2_addSong_6 : decode cX2_addSong 6 = .ok (.bipush 9, 2) := by decide +kernel
theorem dX2_addSong_8 : decode cX2_addSong 8 = .ok (.if_icmp .le 13, 3) := by decide +kernel
theorem dX2_addSong_11 : decode cX2_addSong 11 = .ok (.new 28, 3) := by decide +kernel
theorem dX2_addSong_14 : decode cX2_addSong 14 = .ok (.dup, 1) := by decide +kernel
theorem dX2_addSong_15 : decode cX2_addSong 15 = .ok (.ldc 105, 2) := by decide +kernel
theorem dX2_addSong_17 : decode cX2_addSong 17 = .ok (.invokespecial 32, 3) := by decide +kernel
theorem dX2_addSong_20 : decode cX2_addSong 20 = .ok (.athrow, 1) := by decide +kernel
theorem dX2_addSong_21 : decode cX2_addSong 21 = .ok (.aload_n 0, 1) := by decide +kernel
theorem dX2_addSong_22 : decode cX2_addSong 22 = .ok (.getfield 10, 3) := by decide +kernel
theorem dX2_addSong_25 : decode cX2_addSong 25 = .ok (.getfield 107, 3) := by decide +kernel
theorem dX2_addSong_28 : decode cX2_addSong 28 = .ok (.bipush 6, 2) := by decide +kernel
theorem dX2_addSong_30 : decode cX2_addSong 30 = .ok (.if_icmp .lt 13, 3) := by decide +kernel
theorem dX2_addSong_33 : decode cX2_addSong 33 = .ok (.new 42, 3) := by decide +kernel
theorem dX2_addSong_36 : decode cX2_addSong 36 = .ok (.dup, 1) := by decide +kernel
theorem dX2_addSong_37 : decode cX2_addSong 37 = .ok (.ldc 110, 2) := by decide +kernel
theorem dX2_addSong_39 : decode cX2_addSong 39 = .ok (.invokespecial 46, 3) := by decide +kernel
theorem dX2_addSong_42 : decode cX2_addSong 42 = .ok (.athrow, 1) := by decide +kernel
theorem dX2_addSong_43 : decode cX2_addSong 43 = .ok (.aload_n 0, 1) := by decide +kernel
theorem dX2_addSong_44 : decode cX2_addSong 44 = .ok (.getfield 10, 3) := by decide +kernel
theorem dX2_addSong_47 : decode cX2_addSong 47 = .ok (.iload_n 1, 1) := by decide +kernel
theorem dX2_addSong_48 : decode cX2_addSong 48 = .ok (.invokevirtual 112, 3) := by decide +kernel
theorem dX2_addSong_51 : decode cX2_addSong 51 = .ok (.ireturn, 1) := by decide +kernel
set_option maxRecDepth 20000 in
theorem ggX2_teach_X1_hasWalker : GoodIn wsX2_teach wsX1_hasWalker := goodIn_r _ [12, 13, 43, 44, 45, 46, 47, 48, 49, 50, 51, 52, 53] (by decide +kernel) (by decide +kernel)
set_option maxRecDepth 20000 in
theorem gX2_teach_X1_hasWalker : GoodIn wsX2_teach (wsV RX2 88 RX1 yX1_hasWalker wsX1_hasWalker) := goodIn_app (goodIn_of _ (by decide +kernel)) ggX2_teach_X1_hasWalker
set_option maxRecDepth 20000 in
theorem ggX2_teach_X1_hasSong : GoodIn wsX2_teach wsX1_hasSong := goodIn_r _ [17, 18, 43, 44, 45, 46, 47, 48, 49, 50, 51, 52, 53] (by decide +kernel) (by decide +kernel)
set_option maxRecDepth 20000 in
theorem gX2_teach_X1_hasSong : GoodIn wsX2_teach (wsV RX2 116 RX1 yX1_hasSong wsX1_hasSong) := goodIn_app (goodIn_of _ (by decide +kernel)) ggX2_teach_X1_hasSong
set_option maxRecDepth 20000 in
theorem ggX2_teach_X2_cellOf : GoodIn wsX2_teach wsX2_cellOf := goodIn_r _ [22] (by decide +kernel) (by decide +kernel)
set_option maxRecDepth 20000 in
theorem gX2_teach_X2_cellOf : GoodIn wsX2_teach (va_wsS RX2 123 yX2_cellOf wsX2_cellOf) := goodIn_app (goodIn_of _ (by decide +kernel)) ggX2_teach_X2_cellOf
theorem dX2_teach_0 : decode cX2_teach 0 = .ok (.aload_n 0, 1) := by decide +kernel
theorem dX2_teach_1 : decode cX2_teach 1 = .ok (.getfield 10, 3) := by decide +kernel
theorem dX2_teach_4 : decode cX2_teach 4 = .ok (.iload_n 1, 1) := by decide +kernel
theorem dX2_teach_5 : decode cX2_teach 5 = .ok (.invokevirtual 88, 3) := by decide +kernel
theorem dX2_teach_8 : decode cX2_teach 8 = .ok (.ifCond .eq 14, 3) := by decide +kernel
theorem dX2_teach_11 : decode cX2_teach 11 = .ok (.aload_n 0, 1) := by decide +kernel
theorem dX2_teach_12 : decode cX2_teach 12 = .ok (.getfield 10, 3) := by decide +kernel
theorem dX2_teach_15 : decode cX2_teach 15 = .ok (.iload_n 2, 1) := by decide +kernel
theorem dX2_teach_16 : decode cX2_teach 16 = .ok (.invokevirtual 116, 3) := by decide +kernel
theorem dX2_teach_19 : decode cX2_teach 19 = .ok (.ifCond .ne 13, 3) := by decide +kernel
theorem dX2_teach_22 : decode cX2_teach 22 = .ok (.new 55, 3) := by decide +kernel
theorem dX2_teach_25 : decode cX2_teach 25 = .ok (.dup, 1) := by decide +kernel
theorem dX2_teach_26 : decode cX2_teach 26 = .ok (.ldc 119, 2) := by decide +kernel
theorem dX2_teach_28 : decode cX2_teach 28 = .ok (.invokespecial 59, 3) := by decide +kernel
theorem dX2_teach_31 : decode cX2_teach 31 = .ok (.athrow, 1) := by decide +kernel
theorem dX2_teach_32 : decode cX2_teach 32 = .ok (.iload_n 3, 1) := by decide +kernel
theorem dX2_teach_33 : decode cX2_teach 33 = .ok (.ifCond .lt 9, 3) := by decide +kernel
theorem dX2_teach_36 : decode cX2_teach 36 = .ok (.iload_n 3, 1) := by decide +kernel
theorem dX2_teach_37 : decode cX2_teach 37 = .ok (.bipush 99, 2) := by decide +kernel
theorem dX2_teach_39 : decode cX2_teach 39 = .ok (.if_icmp .le 13, 3) := by decide +kernel
theorem dX2_teach_42 : decode cX2_teach 42 = .ok (.new 28, 3) := by decide +kernel
theorem dX2_teach_45 : decode cX2_teach 45 = .ok (.dup, 1) := by decide +kernel
theorem dX2_teach_46 : decode cX2_teach 46 = .ok (.ldc 121, 2) := by decide +kernel
theorem dX2_teach_48 : decode cX2_teach 48 = .ok (.invokespecial 32, 3) := by decide +kernel
theorem dX2_teach_51 : decode cX2_teach 51 = .ok (.athrow, 1) := by decide +kernel
theorem dX2_teach_52 : decode cX2_teach 52 = .ok (.iload_n 1, 1) := by decide +kernel
theorem dX2_teach_53 : decode cX2_teach 53 = .ok (.iload_n 2, 1) := by decide +kernel
theorem dX2_teach_54 : decode cX2_teach 54 = .ok (.invokestatic 123, 3) := by decide +kernel
theorem dX2_teach_57 : decode cX2_teach 57 = .ok (.istore 4, 2) := by decide +kernel
theorem dX2_teach_59 : decode cX2_teach 59 = .ok (.aload_n 0, 1) := by decide +kernel
theorem dX2_teach_60 : decode cX2_teach 60 = .ok (.getfield 21, 3) := by decide +kernel
theorem dX2_teach_63 : decode cX2_teach 63 = .ok (.getfield 126, 3) := by decide +kernel
theorem dX2_teach_66 : decode cX2_teach 66 = .ok (.iload 4, 2) := by decide +kernel
theorem dX2_teach_68 : decode cX2_teach 68 = .ok (.iaload, 1) := by decide +kernel
theorem dX2_teach_69 : decode cX2_teach 69 = .ok (.istore 5, 2) := by decide +kernel
theorem dX2_teach_71 : decode cX2_teach 71 = .ok (.aload_n 0, 1) := by decide +kernel
theorem dX2_teach_72 : decode cX2_teach 72 = .ok (.getfield 21, 3) := by decide +kernel
theorem dX2_teach_75 : decode cX2_teach 75 = .ok (.getfield 126, 3) := by decide +kernel
theorem dX2_teach_78 : decode cX2_teach 78 = .ok (.iload 4, 2) := by decide +kernel
theorem dX2_teach_80 : decode cX2_teach 80 = .ok (.iload_n 3, 1) := by decide +kernel
theorem dX2_teach_81 : decode cX2_teach 81 = .ok (.iastore, 1) := by decide +kernel
theorem dX2_teach_82 : decode cX2_teach 82 = .ok (.iload 5, 2) := by decide +kernel
theorem dX2_teach_84 : decode cX2_teach 84 = .ok (.ireturn, 1) := by decide +kernel
set_option maxRecDepth 20000 in
theorem ggX2_stretch_X1_hasStretch : GoodIn wsX2_stretch wsX1_hasStretch := goodIn_r _ [8, 9, 40, 41, 42, 43, 44, 45, 46, 47, 48, 49, 50] (by decide +kernel) (by decide +kernel)
set_option maxRecDepth 20000 in
theorem gX2_stretch_X1_hasStretch : GoodIn wsX2_stretch (wsV RX2 51 RX1 yX1_hasStretch wsX1_hasStretch) := goodIn_app (goodIn_of _ (by decide +kernel)) ggX2_stretch_X1_hasStretch
set_option maxRecDepth 20000 in
theorem ggX2_stretch_X2_tellOfStretch : GoodIn wsX2_stretch wsX2_tellOfStretch := goodIn_r _ [14, 3, 15, 16, 17, 18, 19, 20, 21, 22, 23, 24, 25, 26, 27, 28, 29, 30, 31, 32, 33, 34, 35, 36, 37, 38, 39, 40, 41, 42, 43, 44, 45, 46, 47, 48, 49, 50, 51, 52, 53, 54, 55, 56, 57, 58, 59, 60, 61, 62, 63, 64, 65, 66, 67] (by decide +kernel) (by decide +kernel)
set_option maxRecDepth 20000 in
theorem gX2_stretch_X2_tellOfStretch : GoodIn wsX2_stretch (wsV RX2 131 RX2 yX2_tellOfStretch wsX2_tellOfStretch) := goodIn_app (goodIn_of _ (by decide +kernel)) ggX2_stretch_X2_tellOfStretch
theorem dX2_stretch_0 : decode cX2_stretch 0 = .ok (.aload_n 0, 1) := by decide +kernel
theorem dX2_stretch_1 : decode cX2_stretch 1 = .ok (.getfield 10, 3) := by decide +kernel
theorem dX2_stretch_4 : decode cX2_stretch 4 = .ok (.iload_n 1, 1) := by decide +kernel
theorem dX2_stretch_5 : decode cX2_stretch 5 = .ok (.invokevirtual 51, 3) := by decide +kernel
theorem dX2_stretch_8 : decode cX2_stretch 8 = .ok (.ifCond .eq 13, 3) := by decide +kernel
theorem dX2_stretch_11 : decode cX2_stretch 11 = .ok (.iload_n 2, 1) := by decide +kernel
theorem dX2_stretch_12 : decode cX2_stretch 12 = .ok (.ifCond .lt 9, 3) := by decide +kernel
theorem dX2_stretch_15 : decode cX2_stretch 15 = .ok (.iload_n 2, 1) := by decide +kernel
theorem dX2_stretch_16 : decode cX2_stretch 16 = .ok (.bipush 6, 2) := by decide +kernel
theorem dX2_stretch_18 : decode cX2_stretch 18 = .ok (.if_icmp .lt 13, 3) := by decide +kernel
theorem dX2_stretch_21 : decode cX2_stretch 21 = .ok (.new 55, 3) := by decide +kernel
theorem dX2_stretch_24 : decode cX2_stretch 24 = .ok (.dup, 1) := by decide +kernel
theorem dX2_stretch_25 : decode cX2_stretch 25 = .ok (.ldc 129, 2) := by decide +kernel
theorem dX2_stretch_27 : decode cX2_stretch 27 = .ok (.invokespecial 59, 3) := by decide +kernel
theorem dX2_stretch_30 : decode cX2_stretch 30 = .ok (.athrow, 1) := by decide +kernel
theorem dX2_stretch_31 : decode cX2_stretch 31 = .ok (.aload_n 0, 1) := by decide +kernel
theorem dX2_stretch_32 : decode cX2_stretch 32 = .ok (.iload_n 1, 1) := by decide +kernel
theorem dX2_stretch_33 : decode cX2_stretch 33 = .ok (.iload_n 2, 1) := by decide +kernel
theorem dX2_stretch_34 : decode cX2_stretch 34 = .ok (.invokevirtual 131, 3) := by decide +kernel
theorem dX2_stretch_37 : decode cX2_stretch 37 = .ok (.ireturn, 1) := by decide +kernel
set_option maxRecDepth 20000 in
theorem ggX2_walker_X1_hasWalker : GoodIn wsX2_walker wsX1_hasWalker := goodIn_r _ [8, 9, 40, 41, 42, 43, 44, 45, 46, 47, 48, 49, 50] (by decide +kernel) (by decide +kernel)
set_option maxRecDepth 20000 in
theorem gX2_walker_X1_hasWalker : GoodIn wsX2_walker (wsV RX2 88 RX1 yX1_hasWalker wsX1_hasWalker) := goodIn_app (goodIn_of _ (by decide +kernel)) ggX2_walker_X1_hasWalker
set_option maxRecDepth 20000 in
theorem ggX2_walker_X2_tellOfWalker : GoodIn wsX2_walker wsX2_tellOfWalker := goodIn_r _ [14, 3, 15, 16, 17, 18, 19, 20, 21, 22, 23, 24, 25, 26, 27, 28, 29, 30, 31, 32, 33, 34, 35, 36, 37, 38, 39, 40, 41, 42, 43, 44, 45, 46, 47, 48, 49, 50, 51, 52, 53, 54, 55, 56, 57, 58, 59, 60, 61, 62, 63, 64, 65, 66, 67] (by decide +kernel) (by decide +kernel)
set_option maxRecDepth 20000 in
theorem gX2_walker_X2_tellOfWalker : GoodIn wsX2_walker (wsV RX2 136 RX2 yX2_tellOfWalker wsX2_tellOfWalker) := goodIn_app (goodIn_of _ (by decide +kernel)) ggX2_walker_X2_tellOfWalker
theorem dX2_walker_0 : decode cX2_walker 0 = .ok (.aload_n 0, 1) := by decide +kernel
theorem dX2_walker_1 : decode cX2_walker 1 = .ok (.getfield 10, 3) := by decide +kernel
theorem dX2_walker_4 : decode cX2_walker 4 = .ok (.iload_n 1, 1) := by decide +kernel
theorem dX2_walker_5 : decode cX2_walker 5 = .ok (.invokevirtual 88, 3) := by decide +kernel
theorem dX2_walker_8 : decode cX2_walker 8 = .ok (.ifCond .eq 13, 3) := by decide +kernel
theorem dX2_walker_11 : decode cX2_walker 11 = .ok (.iload_n 2, 1) := by decide +kernel
theorem dX2_walker_12 : decode cX2_walker 12 = .ok (.ifCond .lt 9, 3) := by decide +kernel
theorem dX2_walker_15 : decode cX2_walker 15 = .ok (.iload_n 2, 1) := by decide +kernel
theorem dX2_walker_16 : decode cX2_walker 16 = .ok (.bipush 9, 2) := by decide +kernel
theorem dX2_walker_18 : decode cX2_walker 18 = .ok (.if_icmp .lt 13, 3) := by decide +kernel
theorem dX2_walker_21 : decode cX2_walker 21 = .ok (.new 55, 3) := by decide +kernel
theorem dX2_walker_24 : decode cX2_walker 24 = .ok (.dup, 1) := by decide +kernel
theorem dX2_walker_25 : decode cX2_walker 25 = .ok (.ldc 134, 2) := by decide +kernel
theorem dX2_walker_27 : decode cX2_walker 27 = .ok (.invokespecial 59, 3) := by decide +kernel
theorem dX2_walker_30 : decode cX2_walker 30 = .ok (.athrow, 1) := by decide +kernel
theorem dX2_walker_31 : decode cX2_walker 31 = .ok (.aload_n 0, 1) := by decide +kernel
theorem dX2_walker_32 : decode cX2_walker 32 = .ok (.iload_n 1, 1) := by decide +kernel
theorem dX2_walker_33 : decode cX2_walker 33 = .ok (.iload_n 2, 1) := by decide +kernel
theorem dX2_walker_34 : decode cX2_walker 34 = .ok (.invokevirtual 136, 3) := by decide +kernel
theorem dX2_walker_37 : decode cX2_walker 37 = .ok (.ireturn, 1) := by decide +kernel
set_option maxRecDepth 20000 in
theorem ggX2_knows_X1_hasWalker : GoodIn wsX2_knows wsX1_hasWalker := goodIn_r _ [10, 11, 41, 42, 43, 44, 45, 46, 47, 48, 49, 50, 51] (by decide +kernel) (by decide +kernel)
set_option maxRecDepth 20000 in
theorem gX2_knows_X1_hasWalker : GoodIn wsX2_knows (wsV RX2 88 RX1 yX1_hasWalker wsX1_hasWalker) := goodIn_app (goodIn_of _ (by decide +kernel)) ggX2_knows_X1_hasWalker
set_option maxRecDepth 20000 in
theorem ggX2_knows_X1_hasSong : GoodIn wsX2_knows wsX1_hasSong := goodIn_r _ [15, 16, 41, 42, 43, 44, 45, 46, 47, 48, 49, 50, 51] (by decide +kernel) (by decide +kernel)
set_option maxRecDepth 20000 in
theorem gX2_knows_X1_hasSong : GoodIn wsX2_knows (wsV RX2 116 RX1 yX1_hasSong wsX1_hasSong) := goodIn_app (goodIn_of _ (by decide +kernel)) ggX2_knows_X1_hasSong
set_option maxRecDepth 20000 in
theorem ggX2_knows_X2_cellOf : GoodIn wsX2_knows wsX2_cellOf := goodIn_r _ [20] (by decide +kernel) (by decide +kernel)
set_option maxRecDepth 20000 in
theorem gX2_knows_X2_cellOf : GoodIn wsX2_knows (va_wsS RX2 123 yX2_cellOf wsX2_cellOf) := goodIn_app (goodIn_of _ (by decide +kernel)) ggX2_knows_X2_cellOf
theorem dX2_knows_0 : decode cX2_knows 0 = .ok (.aload_n 0, 1) := by decide +kernel
theorem dX2_knows_1 : decode cX2_knows 1 = .ok (.getfield 10, 3) := by decide +kernel
theorem dX2_knows_4 : decode cX2_knows 4 = .ok (.iload_n 1, 1) := by decide +kernel
theorem dX2_knows_5 : decode cX2_knows 5 = .ok (.invokevirtual 88, 3) := by decide +kernel
theorem dX2_knows_8 : decode cX2_knows 8 = .ok (.ifCond .eq 14, 3) := by decide +kernel
theorem dX2_knows_11 : decode cX2_knows 11 = .ok (.aload_n 0, 1) := by decide +kernel
theorem dX2_knows_12 : decode cX2_knows 12 = .ok (.getfield 10, 3) := by decide +kernel
theorem dX2_knows_15 : decode cX2_knows 15 = .ok (.iload_n 2, 1) := by decide +kernel
theorem dX2_knows_16 : decode cX2_knows 16 = .ok (.invokevirtual 116, 3) := by decide +kernel
theorem dX2_knows_19 : decode cX2_knows 19 = .ok (.ifCond .ne 13, 3) := by decide +kernel
theorem dX2_knows_22 : decode cX2_knows 22 = .ok (.new 55, 3) := by decide +kernel
theorem dX2_knows_25 : decode cX2_knows 25 = .ok (.dup, 1) := by decide +kernel
theorem dX2_knows_26 : decode cX2_knows 26 = .ok (.ldc 119, 2) := by decide +kernel
theorem dX2_knows_28 : decode cX2_knows 28 = .ok (.invokespecial 59, 3) := by decide +kernel
theorem dX2_knows_31 : decode cX2_knows 31 = .ok (.athrow, 1) := by decide +kernel
theorem dX2_knows_32 : decode cX2_knows 32 = .ok (.aload_n 0, 1) := by decide +kernel
theorem dX2_knows_33 : decode cX2_knows 33 = .ok (.getfield 21, 3) := by decide +kernel
theorem dX2_knows_36 : decode cX2_knows 36 = .ok (.getfield 126, 3) := by decide +kernel
theorem dX2_knows_39 : decode cX2_knows 39 = .ok (.iload_n 1, 1) := by decide +kernel
theorem dX2_knows_40 : decode cX2_knows 40 = .ok (.iload_n 2, 1) := by decide +kernel
theorem dX2_knows_41 : decode cX2_knows 41 = .ok (.invokestatic 123, 3) := by decide +kernel
theorem dX2_knows_44 : decode cX2_knows 44 = .ok (.iaload, 1) := by decide +kernel
theorem dX2_knows_45 : decode cX2_knows 45 = .ok (.ireturn, 1) := by decide +kernel
set_option maxRecDepth 20000 in
theorem ggX2_song_X1_hasSong : GoodIn wsX2_song wsX1_hasSong := goodIn_r _ [10, 11, 38, 39, 40, 41, 42, 43, 44, 45, 46, 47, 48] (by decide +kernel) (by decide +kernel)
set_option maxRecDepth 20000 in
theorem gX2_song_X1_hasSong : GoodIn wsX2_song (wsV RX2 116 RX1 yX1_hasSong wsX1_hasSong) := goodIn_app (goodIn_of _ (by decide +kernel)) ggX2_song_X1_hasSong
set_option maxRecDepth 20000 in
theorem ggX2_song_X0_knowersOf : GoodIn wsX2_song wsX0_knowersOf := goodIn_r _ [16, 17, 18, 19, 20, 21, 22, 49, 50, 51, 52, 53, 54, 55, 56, 57, 58, 59, 60, 61, 62, 63, 64, 65, 38, 39, 40, 41, 42, 43, 44, 45, 46, 47, 48] (by decide +kernel) (by decide +kernel)
set_option maxRecDepth 20000 in
theorem gX2_song_X0_knowersOf : GoodIn wsX2_song (wsV RX2 144 RX0 yX0_knowersOf wsX0_knowersOf) := goodIn_app (goodIn_of _ (by decide +kernel)) ggX2_song_X0_knowersOf
set_option maxRecDepth 20000 in
theorem ggX2_song_X0_versionsOf : GoodIn wsX2_song wsX0_versionsOf := goodIn_r _ [26, 27, 28, 29, 15, 30, 17, 18, 19, 20, 21, 22, 49, 50, 51, 52, 53, 54, 55, 56, 57, 58, 59, 60, 61, 62, 63, 64, 65, 38, 39, 40, 41, 42, 43, 44, 45, 46, 47, 48] (by decide +kernel) (by decide +kernel)
set_option maxRecDepth 20000 in
theorem gX2_song_X0_versionsOf : GoodIn wsX2_song (wsV RX2 147 RX0 yX0_versionsOf wsX0_versionsOf) := goodIn_app (goodIn_of _ (by decide +kernel)) ggX2_song_X0_versionsOf
set_option maxRecDepth 20000 in
theorem ggX2_song_X0_commonestVersionOf : GoodIn wsX2_song wsX0_commonestVersionOf := goodIn_r _ [34, 27, 28, 29, 15, 30, 17, 18, 19, 20, 21, 22, 49, 50, 51, 52, 53, 54, 55, 56, 57, 58, 59, 60, 61, 62, 63, 64, 65, 38, 39, 40, 41, 42, 43, 44, 45, 46, 47, 48] (by decide +kernel) (by decide +kernel)
set_option maxRecDepth 20000 in
theorem gX2_song_X0_commonestVersionOf : GoodIn wsX2_song (wsV RX2 150 RX0 yX0_commonestVersionOf wsX0_commonestVersionOf) := goodIn_app (goodIn_of _ (by decide +kernel)) ggX2_song_X0_commonestVersionOf
theorem dX2_song_0 : decode cX2_song 0 = .ok (.aload_n 0, 1) := by decide +kernel
theorem dX2_song_1 : decode cX2_song 1 = .ok (.getfield 10, 3) := by decide +kernel
theorem dX2_song_4 : decode cX2_song 4 = .ok (.iload_n 1, 1) := by decide +kernel
theorem dX2_song_5 : decode cX2_song 5 = .ok (.invokevirtual 116, 3) := by decide +kernel
theorem dX2_song_8 : decode cX2_song 8 = .ok (.ifCond .eq 12, 3) := by decide +kernel
theorem dX2_song_11 : decode cX2_song 11 = .ok (.iload_n 2, 1) := by decide +kernel
theorem dX2_song_12 : decode cX2_song 12 = .ok (.ifCond .lt 8, 3) := by decide +kernel
theorem dX2_song_15 : decode cX2_song 15 = .ok (.iload_n 2, 1) := by decide +kernel
theorem dX2_song_16 : decode cX2_song 16 = .ok (.iconst 4, 1) := by decide +kernel
theorem dX2_song_17 : decode cX2_song 17 = .ok (.if_icmp .lt 13, 3) := by decide +kernel
theorem dX2_song_20 : decode cX2_song 20 = .ok (.new 55, 3) := by decide +kernel
theorem dX2_song_23 : decode cX2_song 23 = .ok (.dup, 1) := by decide +kernel
theorem dX2_song_24 : decode cX2_song 24 = .ok (.ldc 139, 2) := by decide +kernel
theorem dX2_song_26 : decode cX2_song 26 = .ok (.invokespecial 59, 3) := by decide +kernel
theorem dX2_song_29 : decode cX2_song 29 = .ok (.athrow, 1) := by decide +kernel
theorem dX2_song_30 : decode cX2_song 30 = .ok (.iload_n 2, 1) := by decide +kernel
theorem dX2_song_31 : decode cX2_song 31 = .ok (.tableswitch 53 0 2 #[25, 35, 44], 25) := by decide +kernel
theorem dX2_song_56 : decode cX2_song 56 = .ok (.aload_n 0, 1) := by decide +kernel
theorem dX2_song_57 : decode cX2_song 57 = .ok (.getfield 10, 3) := by decide +kernel
theorem dX2_song_60 : decode cX2_song 60 = .ok (.getfield 141, 3) := by decide +kernel
theorem dX2_song_63 : decode cX2_song 63 = .ok (.iload_n 1, 1) := by decide +kernel
theorem dX2_song_64 : decode cX2_song 64 = .ok (.iaload, 1) := by decide +kernel
theorem dX2_song_65 : decode cX2_song 65 = .ok (.ireturn, 1) := by decide +kernel
theorem dX2_song_66 : decode cX2_song 66 = .ok (.aload_n 0, 1) := by decide +kernel
theorem dX2_song_67 : decode cX2_song 67 = .ok (.getfield 21, 3) := by decide +kernel
theorem dX2_song_70 : decode cX2_song 70 = .ok (.iload_n 1, 1) := by decide +kernel
theorem dX2_song_71 : decode cX2_song 71 = .ok (.invokevirtual 144, 3) := by decide +kernel
theorem dX2_song_74 : decode cX2_song 74 = .ok (.ireturn, 1) := by decide +kernel
theorem dX2_song_75 : decode cX2_song 75 = .ok (.aload_n 0, 1) := by decide +kernel
theorem dX2_song_76 : decode cX2_song 76 = .ok (.getfield 21, 3) := by decide +kernel
theorem dX2_song_79 : decode cX2_song 79 = .ok (.iload_n 1, 1) := by decide +kernel
theorem dX2_song_80 : decode cX2_song 80 = .ok (.invokevirtual 147, 3) := by decide +kernel
theorem dX2_song_83 : decode cX2_song 83 = .ok (.ireturn, 1) := by decide +kernel
theorem dX2_song_84 : decode cX2_song 84 = .ok (.aload_n 0, 1) := by decide +kernel
theorem dX2_song_85 : decode cX2_song 85 = .ok (.getfield 21, 3) := by decide +kernel
theorem dX2_song_88 : decode cX2_song 88 = .ok (.iload_n 1, 1) := by decide +kernel
theorem dX2_song_89 : decode cX2_song 89 = .ok (.invokevirtual 150, 3) := by decide +kernel
theorem dX2_song_92 : decode cX2_song 92 = .ok (.ireturn, 1) := by decide +kernel
set_option maxRecDepth 20000 in
theorem ggX2_pass_X0_howManyAre : GoodIn wsX2_pass wsX0_howManyAre := goodIn_r _ [12, 13, 14, 15, 169, 170, 171, 172, 173, 174, 175, 176, 177, 178, 179, 180, 181, 182, 183, 184, 185, 158, 159, 160, 161, 162, 163, 164, 165, 166, 167, 168] (by decide +kernel) (by decide +kernel)
set_option maxRecDepth 20000 in
theorem gX2_pass_X0_howManyAre : GoodIn wsX2_pass (wsV RX2 157 RX0 yX0_howManyAre wsX0_howManyAre) := goodIn_app (goodIn_of _ (by decide +kernel)) ggX2_pass_X0_howManyAre
set_option maxRecDepth 20000 in
theorem ggX2_pass_X0_takeSteps : GoodIn wsX2_pass wsX0_takeSteps := goodIn_r _ [19, 20, 21, 22, 11, 23, 13, 24, 25, 26, 27, 28, 29, 30, 31, 32, 33, 14, 34, 15, 35, 36, 37, 38, 39, 40, 41, 42, 43, 44, 45, 46, 47, 48, 49, 50, 51, 52, 53, 54, 55, 56, 57, 58, 59, 60, 61, 62, 63, 64, 65, 66, 67, 68, 69, 70, 71, 72, 73, 74, 75, 76, 77, 78, 79, 80, 81, 82, 83, 84, 85, 86, 87, 88, 89, 90, 91, 92, 93, 94, 95, 96, 97, 98, 99, 100, 101, 102, 103, 104, 105, 106, 107, 108, 109, 110, 111, 112, 113, 114, 115, 116, 117, 118, 119, 120, 121, 122, 123, 124, 125, 126, 127, 128, 129, 130, 131, 132, 133, 134, 135, 136, 137, 138, 139, 140, 141, 142, 143, 144, 145, 146, 147, 148, 149, 150, 151, 152, 153, 154, 169, 170, 171, 172, 173, 174, 175, 176, 177, 178, 179, 180, 181, 182, 183, 184, 185, 158, 159, 160, 161, 162, 163, 164, 165, 166, 167, 168] (by decide +kernel) (by decide +kernel)
set_option maxRecDepth 20000 in
theorem gX2_pass_X0_takeSteps : GoodIn wsX2_pass (wsV RX2 160 RX0 yX0_takeSteps wsX0_takeSteps) := goodIn_app (goodIn_of _ (by decide +kernel)) ggX2_pass_X0_takeSteps
theorem dX2_pass_0 : decode cX2_pass 0 = .ok (.iload_n 1, 1) := by decide +kernel
theorem dX2_pass_1 : decode cX2_pass 1 = .ok (.iconst 1, 1) := by decide +kernel
theorem dX2_pass_2 : decode cX2_pass 2 = .ok (.if_icmp .lt 10, 3) := by decide +kernel
theorem dX2_pass_5 : decode cX2_pass 5 = .ok (.iload_n 1, 1) := by decide +kernel
theorem dX2_pass_6 : decode cX2_pass 6 = .ok (.sipush 200, 3) := by decide +kernel
theorem dX2_pass_9 : decode cX2_pass 9 = .ok (.if_icmp .le 13, 3) := by decide +kernel
theorem dX2_pass_12 : decode cX2_pass 12 = .ok (.new 28, 3) := by decide +kernel
theorem dX2_pass_15 : decode cX2_pass 15 = .ok (.dup, 1) := by decide +kernel
theorem dX2_pass_16 : decode cX2_pass 16 = .ok (.ldc 153, 2) := by decide +kernel
theorem dX2_pass_18 : decode cX2_pass 18 = .ok (.invokespecial 32, 3) := by decide +kernel
theorem dX2_pass_21 : decode cX2_pass 21 = .ok (.athrow, 1) := by decide +kernel
theorem dX2_pass_22 : decode cX2_pass 22 = .ok (.aload_n 0, 1) := by decide +kernel
theorem dX2_pass_23 : decode cX2_pass 23 = .ok (.getfield 10, 3) := by decide +kernel
theorem dX2_pass_26 : decode cX2_pass 26 = .ok (.getfield 35, 3) := by decide +kernel
theorem dX2_pass_29 : decode cX2_pass 29 = .ok (.ifCond .ne 13, 3) := by decide +kernel
theorem dX2_pass_32 : decode cX2_pass 32 = .ok (.new 42, 3) := by decide +kernel
theorem dX2_pass_35 : decode cX2_pass 35 = .ok (.dup, 1) := by decide +kernel
theorem dX2_pass_36 : decode cX2_pass 36 = .ok (.ldc 155, 2) := by decide +kernel
theorem dX2_pass_38 : decode cX2_pass 38 = .ok (.invokespecial 46, 3) := by decide +kernel
theorem dX2_pass_41 : decode cX2_pass 41 = .ok (.athrow, 1) := by decide +kernel
theorem dX2_pass_42 : decode cX2_pass 42 = .ok (.aload_n 0, 1) := by decide +kernel
theorem dX2_pass_43 : decode cX2_pass 43 = .ok (.getfield 21, 3) := by decide +kernel
theorem dX2_pass_46 : decode cX2_pass 46 = .ok (.iconst 2, 1) := by decide +kernel
theorem dX2_pass_47 : decode cX2_pass 47 = .ok (.invokevirtual 157, 3) := by decide +kernel
theorem dX2_pass_50 : decode cX2_pass 50 = .ok (.istore_n 2, 1) := by decide +kernel
theorem dX2_pass_51 : decode cX2_pass 51 = .ok (.aload_n 0, 1) := by decide +kernel
theorem dX2_pass_52 : decode cX2_pass 52 = .ok (.getfield 21, 3) := by decide +kernel
theorem dX2_pass_55 : decode cX2_pass 55 = .ok (.iload_n 1, 1) := by decide +kernel
theorem dX2_pass_56 : decode cX2_pass 56 = .ok (.invokevirtual 160, 3) := by decide +kernel
theorem dX2_pass_59 : decode cX2_pass 59 = .ok (.aload_n 0, 1) := by decide +kernel
theorem dX2_pass_60 : decode cX2_pass 60 = .ok (.getfield 21, 3) := by decide +kernel
theorem dX2_pass_63 : decode cX2_pass 63 = .ok (.iconst 2, 1) := by decide +kernel
theorem dX2_pass_64 : decode cX2_pass 64 = .ok (.invokevirtual 157, 3) := by decide +kernel
theorem dX2_pass_67 : decode cX2_pass 67 = .ok (.iload_n 2, 1) := by decide +kernel
theorem dX2_pass_68 : decode cX2_pass 68 = .ok (.isub, 1) := by decide +kernel
theorem dX2_pass_69 : decode cX2_pass 69 = .ok (.ireturn, 1) := by decide +kernel
set_option maxRecDepth 20000 in
theorem ggX2_count_X2_tellOfAll : GoodIn wsX2_count wsX2_tellOfAll := goodIn_r _ [7, 8, 9, 10, 11, 12, 13, 14, 15, 16, 17, 18, 19, 20, 21, 22, 23, 24, 25, 26, 27, 28, 29, 30, 31, 32, 33, 34, 35, 36, 37, 38, 39, 40, 41, 42, 43, 44, 45, 46, 47, 48, 49, 50, 51, 52, 53, 54, 55, 56, 57, 58, 59, 60, 61, 62, 63, 64, 65, 66, 67, 68] (by decide +kernel) (by decide +kernel)
set_option maxRecDepth 20000 in
theorem gX2_count_X2_tellOfAll : GoodIn wsX2_count (wsV RX2 166 RX2 yX2_tellOfAll wsX2_tellOfAll) := goodIn_app (goodIn_of _ (by decide +kernel)) ggX2_count_X2_tellOfAll
theorem dX2_count_0 : decode cX2_count 0 = .ok (.iload_n 1, 1) := by decide +kernel
theorem dX2_count_1 : decode cX2_count 1 = .ok (.ifCond .lt 9, 3) := by decide +kernel
theorem dX2_count_4 : decode cX2_count 4 = .ok (.iload_n 1, 1) := by decide +kernel
theorem dX2_count_5 : decode cX2_count 5 = .ok (.bipush 11, 2) := by decide +kernel
theorem dX2_count_7 : decode cX2_count 7 = .ok (.if_icmp .lt 13, 3) := by decide +kernel
theorem dX2_count_10 : decode cX2_count 10 = .ok (.new 55, 3) := by decide +kernel
theorem dX2_count_13 : decode cX2_count 13 = .ok (.dup, 1) := by decide +kernel
theorem dX2_count_14 : decode cX2_count 14 = .ok (.ldc 164, 2) := by decide +kernel
theorem dX2_count_16 : decode cX2_count 16 = .ok (.invokespecial 59, 3) := by decide +kernel
theorem dX2_count_19 : decode cX2_count 19 = .ok (.athrow, 1) := by decide +kernel
theorem dX2_count_20 : decode cX2_count 20 = .ok (.aload_n 0, 1) := by decide +kernel
theorem dX2_count_21 : decode cX2_count 21 = .ok (.iload_n 1, 1) := by decide +kernel
theorem dX2_count_22 : decode cX2_count 22 = .ok (.invokevirtual 166, 3) := by decide +kernel
theorem dX2_count_25 : decode cX2_count 25 = .ok (.ireturn, 1) := by decide +kernel
set_option maxRecDepth 20000 in
theorem ggX2_foresee_X0_becomeLike : GoodIn wsX2_foresee wsX0_becomeLike := goodIn_r _ [15, 16, 17, 18, 19, 20, 21, 22, 23, 24, 25, 26, 27, 28, 14, 29, 30, 31, 32, 33, 34, 35, 36, 37, 38, 39, 40, 188, 189, 190, 191, 192, 193, 194, 195, 196, 197, 198, 199, 200, 201, 202, 203, 204] (by decide +kernel) (by decide +kernel)
set_option maxRecDepth 20000 in
theorem gX2_foresee_X0_becomeLike : GoodIn wsX2_foresee (wsV RX2 173 RX0 yX0_becomeLike wsX0_becomeLike) := goodIn_app (goodIn_of _ (by decide +kernel)) ggX2_foresee_X0_becomeLike
set_option maxRecDepth 20000 in
theorem ggX2_foresee_X0_takeSteps : GoodIn wsX2_foresee wsX0_takeSteps := goodIn_r _ [44, 45, 46, 47, 14, 48, 49, 50, 16, 51, 52, 53, 54, 55, 56, 57, 58, 59, 21, 22, 20, 60, 61, 32, 62, 63, 64, 65, 66, 67, 68, 69, 70, 71, 72, 73, 74, 23, 75, 76, 77, 78, 79, 38, 39, 40, 80, 81, 82, 83, 84, 85, 86, 87, 26, 88, 27, 28, 29, 30, 31, 33, 34, 35, 36, 37, 89, 90, 91, 92, 93, 94, 95, 96, 97, 98, 99, 100, 101, 102, 103, 104, 105, 106, 107, 108, 109, 110, 111, 112, 113, 114, 115, 116, 117, 118, 119, 17, 120, 121, 122, 123, 124, 125, 126, 127, 128, 24, 129, 130, 131, 132, 133, 134, 135, 136, 137, 138, 139, 140, 141, 142, 143, 144, 145, 146, 147, 148, 149, 19, 18, 150, 151, 152, 153, 25, 154, 155, 156, 157, 188, 189, 190, 191, 192, 193, 194, 195, 196, 197, 198, 199, 200, 201, 202, 203, 204, 177, 178, 179, 180, 181, 182, 183, 184, 185, 186, 187] (by decide +kernel) (by decide +kernel)
set_option maxRecDepth 20000 in
theorem gX2_foresee_X0_takeSteps : GoodIn wsX2_foresee (wsV RX2 160 RX0 yX0_takeSteps wsX0_takeSteps) := goodIn_app (goodIn_of _ (by decide +kernel)) ggX2_foresee_X0_takeSteps
set_option maxRecDepth 20000 in
theorem ggX2_foresee_X0_howManyAre : GoodIn wsX2_foresee wsX0_howManyAre := goodIn_r _ [161, 49, 59, 22, 188, 189, 190, 191, 192, 193, 194, 195, 196, 197, 198, 199, 200, 201, 202, 203, 204, 177, 178, 179, 180, 181, 182, 183, 184, 185, 186, 187] (by decide +kernel) (by decide +kernel)
set_option maxRecDepth 20000 in
theorem gX2_foresee_X0_howManyAre : GoodIn wsX2_foresee (wsV RX2 157 RX0 yX0_howManyAre wsX0_howManyAre) := goodIn_app (goodIn_of _ (by decide +kernel)) ggX2_foresee_X0_howManyAre
set_option maxRecDepth 20000 in
theorem ggX2_foresee_X0_lanternsBurning : GoodIn wsX2_foresee wsX0_lanternsBurning := goodIn_r _ [165, 49, 59, 22, 21, 188, 189, 190, 191, 192, 193, 194, 195, 196, 197, 198, 199, 200, 201, 202, 203, 204, 177, 178, 179, 180, 181, 182, 183, 184, 185, 186, 187] (by decide +kernel) (by decide +kernel)
set_option maxRecDepth 20000 in
theorem gX2_foresee_X0_lanternsBurning : GoodIn wsX2_foresee (wsV RX2 177 RX0 yX0_lanternsBurning wsX0_lanternsBurning) := goodIn_app (goodIn_of _ (by decide +kernel)) ggX2_foresee_X0_lanternsBurning
set_option maxRecDepth 20000 in
theorem ggX2_foresee_X0_songsKnownInAll : GoodIn wsX2_foresee wsX0_songsKnownInAll := goodIn_r _ [169, 49, 103, 170, 171, 172, 14, 173, 59, 26, 105, 106, 107, 188, 189, 190, 191, 192, 193, 194, 195, 196, 197, 198, 199, 200, 201, 202, 203, 204, 177, 178, 179, 180, 181, 182, 183, 184, 185, 186, 187] (by decide +kernel) (by decide +kernel)
set_option maxRecDepth 20000 in
theorem gX2_foresee_X0_songsKnownInAll : GoodIn wsX2_foresee (wsV RX2 181 RX0 yX0_songsKnownInAll wsX0_songsKnownInAll) := goodIn_app (goodIn_of _ (by decide +kernel)) ggX2_foresee_X0_songsKnownInAll
theorem dX2_foresee_0 : decode cX2_foresee 0 = .ok (.iload_n 1, 1) := by decide +kernel
theorem dX2_foresee_1 : decode cX2_foresee 1 = .ok (.iconst 1, 1) := by decide +kernel
theorem dX2_foresee_2 : decode cX2_foresee 2 = .ok (.if_icmp .lt 10, 3) := by decide +kernel
theorem dX2_foresee_5 : decode cX2_foresee 5 = .ok (.iload_n 1, 1) := by decide +kernel
theorem dX2_foresee_6 : decode cX2_foresee 6 = .ok (.sipush 150, 3) := by decide +kernel
theorem dX2_foresee_9 : decode cX2_foresee 9 = .ok (.if_icmp .le 13, 3) := by decide +kernel
theorem dX2_foresee_12 : decode cX2_foresee 12 = .ok (.new 28, 3) := by decide +kernel
theorem dX2_foresee_15 : decode cX2_foresee 15 = .ok (.dup, 1) := by decide +kernel
theorem dX2_foresee_16 : decode cX2_foresee 16 = .ok (.ldc 169, 2) := by decide +kernel
theorem dX2_foresee_18 : decode cX2_foresee 18 = .ok (.invokespecial 32, 3) := by decide +kernel
theorem dX2_foresee_21 : decode cX2_foresee 21 = .ok (.athrow, 1) := by decide +kernel
theorem dX2_foresee_22 : decode cX2_foresee 22 = .ok (.iload_n 2, 1) := by decide +kernel
theorem dX2_foresee_23 : decode cX2_foresee 23 = .ok (.ifCond .lt 8, 3) := by decide +kernel
theorem dX2_foresee_26 : decode cX2_foresee 26 = .ok (.iload_n 2, 1) := by decide +kernel
theorem dX2_foresee_27 : decode cX2_foresee 27 = .ok (.iconst 3, 1) := by decide +kernel
theorem dX2_foresee_28 : decode cX2_foresee 28 = .ok (.if_icmp .lt 13, 3) := by decide +kernel
theorem dX2_foresee_31 : decode cX2_foresee 31 = .ok (.new 55, 3) := by decide +kernel
theorem dX2_foresee_34 : decode cX2_foresee 34 = .ok (.dup, 1) := by decide +kernel
theorem dX2_foresee_35 : decode cX2_foresee 35 = .ok (.ldc 171, 2) := by decide +kernel
theorem dX2_foresee_37 : decode cX2_foresee 37 = .ok (.invokespecial 59, 3) := by decide +kernel
theorem dX2_foresee_40 : decode cX2_foresee 40 = .ok (.athrow, 1) := by decide +kernel
theorem dX2_foresee_41 : decode cX2_foresee 41 = .ok (.aload_n 0, 1) := by decide +kernel
theorem dX2_foresee_42 : decode cX2_foresee 42 = .ok (.getfield 10, 3) := by decide +kernel
theorem dX2_foresee_45 : decode cX2_foresee 45 = .ok (.getfield 35, 3) := by decide +kernel
theorem dX2_foresee_48 : decode cX2_foresee 48 = .ok (.ifCond .ne 13, 3) := by decide +kernel
theorem dX2_foresee_51 : decode cX2_foresee 51 = .ok (.new 42, 3) := by decide +kernel
theorem dX2_foresee_54 : decode cX2_foresee 54 = .ok (.dup, 1) := by decide +kernel
theorem dX2_foresee_55 : decode cX2_foresee 55 = .ok (.ldc 155, 2) := by decide +kernel
theorem dX2_foresee_57 : decode cX2_foresee 57 = .ok (.invokespecial 46, 3) := by decide +kernel
theorem dX2_foresee_60 : decode cX2_foresee 60 = .ok (.athrow, 1) := by decide +kernel
theorem dX2_foresee_61 : decode cX2_foresee 61 = .ok (.aload_n 0, 1) := by decide +kernel
theorem dX2_foresee_62 : decode cX2_foresee 62 = .ok (.getfield 25, 3) := by decide +kernel
theorem dX2_foresee_65 : decode cX2_foresee 65 = .ok (.aload_n 0, 1) := by decide +kernel
theorem dX2_foresee_66 : decode cX2_foresee 66 = .ok (.getfield 21, 3) := by decide +kernel
theorem dX2_foresee_69 : decode cX2_foresee 69 = .ok (.invokevirtual 173, 3) := by decide +kernel
theorem dX2_foresee_72 : decode cX2_foresee 72 = .ok (.aload_n 0, 1) := by decide +kernel
theorem dX2_foresee_73 : decode cX2_foresee 73 = .ok (.getfield 25, 3) := by decide +kernel
theorem dX2_foresee_76 : decode cX2_foresee 76 = .ok (.iload_n 1, 1) := by decide +kernel
theorem dX2_foresee_77 : decode cX2_foresee 77 = .ok (.invokevirtual 160, 3) := by decide +kernel
theorem dX2_foresee_80 : decode cX2_foresee 80 = .ok (.iload_n 2, 1) := by decide +kernel
theorem dX2_foresee_81 : decode cX2_foresee 81 = .ok (.lookupswitch 44 #[(0, 27), (1, 36)], 27) := by decide +kernel
theorem dX2_foresee_108 : decode cX2_foresee 108 = .ok (.aload_n 0, 1) := by decide +kernel
theorem dX2_foresee_109 : decode cX2_foresee 109 = .ok (.getfield 25, 3) := by decide +kernel
theorem dX2_foresee_112 : decode cX2_foresee 112 = .ok (.iconst 2, 1) := by decide +kernel
theorem dX2_foresee_113 : decode cX2_foresee 113 = .ok (.invokevirtual 157, 3) := by decide +kernel
theorem dX2_foresee_116 : decode cX2_foresee 116 = .ok (.ireturn, 1) := by decide +kernel
theorem dX2_foresee_117 : decode cX2_foresee 117 = .ok (.aload_n 0, 1) := by decide +kernel
theorem dX2_foresee_118 : decode cX2_foresee 118 = .ok (.getfield 25, 3) := by decide +kernel
theorem dX2_foresee_121 : decode cX2_foresee 121 = .ok (.invokevirtual 177, 3) := by decide +kernel
theorem dX2_foresee_124 : decode cX2_foresee 124 = .ok (.ireturn, 1) := by decide +kernel
theorem dX2_foresee_125 : decode cX2_foresee 125 = .ok (.aload_n 0, 1) := by decide +kernel
theorem dX2_foresee_126 : decode cX2_foresee 126 = .ok (.getfield 25, 3) := by decide +kernel
theorem dX2_foresee_129 : decode cX2_foresee 129 = .ok (.invokevirtual 181, 3) := by decide +kernel
theorem dX2_foresee_132 : decode cX2_foresee 132 = .ok (.ireturn, 1) := by decide +kernel
set_option maxRecDepth 20000 in
theorem ggX2_home_X1_hasWalker : GoodIn wsX2_home wsX1_hasWalker := goodIn_r _ [12, 13, 176, 177, 178, 179, 180, 181, 182, 183, 184, 185, 186] (by decide +kernel) (by decide +kernel)
set_option maxRecDepth 20000 in
theorem gX2_home_X1_hasWalker : GoodIn wsX2_home (wsV RX2 88 RX1 yX1_hasWalker wsX1_hasWalker) := goodIn_app (goodIn_of _ (by decide +kernel)) ggX2_home_X1_hasWalker
set_option maxRecDepth 20000 in
theorem ggX2_home_X0_becomeLike : GoodIn wsX2_home wsX0_becomeLike := goodIn_r _ [18, 19, 20, 21, 22, 23, 24, 25, 26, 27, 28, 29, 30, 31, 17, 32, 33, 34, 35, 36, 37, 38, 39, 40, 41, 42, 43, 159, 160, 161, 162, 163, 164, 165, 166, 167, 168, 169, 170, 171, 172, 173, 174, 175] (by decide +kernel) (by decide +kernel)
set_option maxRecDepth 20000 in
theorem gX2_home_X0_becomeLike : GoodIn wsX2_home (wsV RX2 173 RX0 yX0_becomeLike wsX0_becomeLike) := goodIn_app (goodIn_of _ (by decide +kernel)) ggX2_home_X0_becomeLike
set_option maxRecDepth 20000 in
theorem ggX2_home_X0_takeStep : GoodIn wsX2_home wsX0_takeStep := goodIn_r _ [47, 48, 49, 19, 50, 51, 52, 53, 54, 55, 56, 17, 57, 58, 24, 25, 23, 59, 60, 35, 61, 62, 63, 64, 65, 66, 67, 68, 69, 70, 71, 72, 73, 26, 74, 75, 76, 77, 78, 41, 42, 43, 79, 80, 81, 82, 83, 84, 85, 86, 29, 87, 30, 31, 32, 33, 34, 36, 37, 38, 39, 40, 88, 89, 90, 91, 92, 93, 94, 95, 96, 97, 98, 99, 100, 101, 102, 103, 104, 105, 106, 107, 108, 109, 110, 111, 112, 113, 114, 115, 116, 117, 118, 20, 119, 120, 121, 122, 123, 124, 125, 126, 127, 27, 128, 129, 130, 131, 132, 133, 134, 135, 136, 137, 138, 139, 11, 140, 141, 142, 143, 144, 145, 146, 147, 22, 21, 148, 149, 150, 151, 28, 152, 153, 154, 155, 159, 160, 161, 162, 163, 164, 165, 166, 167, 168, 169, 170, 171, 172, 173, 174, 175, 176, 177, 178, 179, 180, 181, 182, 183, 184, 185, 186] (by decide +kernel) (by decide +kernel)
set_option maxRecDepth 20000 in
theorem gX2_home_X0_takeStep : GoodIn wsX2_home (wsV RX2 184 RX0 yX0_takeStep wsX0_takeStep) := goodIn_app (goodIn_of _ (by decide +kernel)) ggX2_home_X0_takeStep
theorem dX2_home_0 : decode cX2_home 0 = .ok (.aload_n 0, 1) := by decide +kernel
theorem dX2_home_1 : decode cX2_home 1 = .ok (.getfield 10, 3) := by decide +kernel
theorem dX2_home_4 : decode cX2_home 4 = .ok (.iload_n 1, 1) := by decide +kernel
theorem dX2_home_5 : decode cX2_home 5 = .ok (.invokevirtual 88, 3) := by decide +kernel
theorem dX2_home_8 : decode cX2_home 8 = .ok (.ifCond .ne 13, 3) := by decide +kernel
theorem dX2_home_11 : decode cX2_home 11 = .ok (.new 55, 3) := by decide +kernel
theorem dX2_home_14 : decode cX2_home 14 = .ok (.dup, 1) := by decide +kernel
theorem dX2_home_15 : decode cX2_home 15 = .ok (.ldc 91, 2) := by decide +kernel
theorem dX2_home_17 : decode cX2_home 17 = .ok (.invokespecial 59, 3) := by decide +kernel
theorem dX2_home_20 : decode cX2_home 20 = .ok (.athrow, 1) := by decide +kernel
theorem dX2_home_21 : decode cX2_home 21 = .ok (.aload_n 0, 1) := by decide +kernel
theorem dX2_home_22 : decode cX2_home 22 = .ok (.getfield 21, 3) := by decide +kernel
theorem dX2_home_25 : decode cX2_home 25 = .ok (.getfield 95, 3) := by decide +kernel
theorem dX2_home_28 : decode cX2_home 28 = .ok (.iload_n 1, 1) := by decide +kernel
theorem dX2_home_29 : decode cX2_home 29 = .ok (.iaload, 1) := by decide +kernel
theorem dX2_home_30 : decode cX2_home 30 = .ok (.iconst 2, 1) := by decide +kernel
theorem dX2_home_31 : decode cX2_home 31 = .ok (.if_icmp .ne 5, 3) := by decide +kernel
theorem dX2_home_34 : decode cX2_home 34 = .ok (.iconst 0, 1) := by decide +kernel
theorem dX2_home_35 : decode cX2_home 35 = .ok (.ireturn, 1) := by decide +kernel
theorem dX2_home_36 : decode cX2_home 36 = .ok (.aload_n 0, 1) := by decide +kernel
theorem dX2_home_37 : decode cX2_home 37 = .ok (.getfield 10, 3) := by decide +kernel
theorem dX2_home_40 : decode cX2_home 40 = .ok (.getfield 35, 3) := by decide +kernel
theorem dX2_home_43 : decode cX2_home 43 = .ok (.ifCond .ne 5, 3) := by decide +kernel
theorem dX2_home_46 : decode cX2_home 46 = .ok (.iconst (-1), 1) := by decide +kernel
theorem dX2_home_47 : decode cX2_home 47 = .ok (.ireturn, 1) := by decide +kernel
theorem dX2_home_48 : decode cX2_home 48 = .ok (.aload_n 0, 1) := by decide +kernel
theorem dX2_home_49 : decode cX2_home 49 = .ok (.getfield 25, 3) := by decide +kernel
theorem dX2_home_52 : decode cX2_home 52 = .ok (.aload_n 0, 1) := by decide +kernel
theorem dX2_home_53 : decode cX2_home 53 = .ok (.getfield 21, 3) := by decide +kernel
theorem dX2_home_56 : decode cX2_home 56 = .ok (.invokevirtual 173, 3) := by decide +kernel
theorem dX2_home_59 : decode cX2_home 59 = .ok (.iconst 1, 1) := by decide +kernel
theorem dX2_home_60 : decode cX2_home 60 = .ok (.istore_n 2, 1) := by decide +kernel
theorem dX2_home_61 : decode cX2_home 61 = .ok (.iload_n 2, 1) := by decide +kernel
theorem dX2_home_62 : decode cX2_home 62 = .ok (.sipush 300, 3) := by decide +kernel
theorem dX2_home_65 : decode cX2_home 65 = .ok (.if_icmp .gt 31, 3) := by decide +kernel
theorem dX2_home_68 : decode cX2_home 68 = .ok (.aload_n 0, 1) := by decide +kernel
theorem dX2_home_69 : decode cX2_home 69 = .ok (.getfield 25, 3) := by decide +kernel
theorem dX2_home_72 : decode cX2_home 72 = .ok (.invokevirtual 184, 3) := by decide +kernel
theorem dX2_home_75 : decode cX2_home 75 = .ok (.aload_n 0, 1) := by decide +kernel
theorem dX2_home_76 : decode cX2_home 76 = .ok (.getfield 25, 3) := by decide +kernel
theorem dX2_home_79 : decode cX2_home 79 = .ok (.getfield 95, 3) := by decide +kernel
theorem dX2_home_82 : decode cX2_home 82 = .ok (.iload_n 1, 1) := by decide +kernel
theorem dX2_home_83 : decode cX2_home 83 = .ok (.iaload, 1) := by decide +kernel
theorem dX2_home_84 : decode cX2_home 84 = .ok (.iconst 2, 1) := by decide +kernel
theorem dX2_home_85 : decode cX2_home 85 = .ok (.if_icmp .ne 5, 3) := by decide +kernel
theorem dX2_home_88 : decode cX2_home 88 = .ok (.iload_n 2, 1) := by decide +kernel
theorem dX2_home_89 : decode cX2_home 89 = .ok (.ireturn, 1) := by decide +kernel
theorem dX2_home_90 : decode cX2_home 90 = .ok (.iinc 2 1, 3) := by decide +kernel
theorem dX2_home_93 : decode cX2_home 93 = .ok (.goto (-32), 3) := by decide +kernel
theorem dX2_home_96 : decode cX2_home 96 = .ok (.iconst (-1), 1) := by decide +kernel
theorem dX2_home_97 : decode cX2_home 97 = .ok (.ireturn, 1) := by decide +kernel
set_option maxRecDepth 20000 in
theorem ggX2_light_X0_howManyAre : GoodIn wsX2_light wsX0_howManyAre := goodIn_r _ [6, 7, 8, 9, 18, 19, 20, 21, 22, 23, 24, 25, 26, 27, 28, 29, 30, 31, 32, 33, 34, 35, 36, 37, 38, 39, 40, 41, 42, 43, 44, 45] (by decide +kernel) (by decide +kernel)
set_option maxRecDepth 20000 in
theorem gX2_light_X0_howManyAre : GoodIn wsX2_light (wsV RX2 157 RX0 yX0_howManyAre wsX0_howManyAre) := goodIn_app (goodIn_of _ (by decide +kernel)) ggX2_light_X0_howManyAre
set_option maxRecDepth 20000 in
theorem ggX2_light_X0_lanternsBurning : GoodIn wsX2_light wsX0_lanternsBurning := goodIn_r _ [13, 7, 8, 9, 14, 18, 19, 20, 21, 22, 23, 24, 25, 26, 27, 28, 29, 30, 31, 32, 33, 34, 35, 36, 37, 38, 39, 40, 41, 42, 43, 44, 45] (by decide +kernel) (by decide +kernel)
set_option maxRecDepth 20000 in
theorem gX2_light_X0_lanternsBurning : GoodIn wsX2_light (wsV RX2 177 RX0 yX0_lanternsBurning wsX0_lanternsBurning) := goodIn_app (goodIn_of _ (by decide +kernel)) ggX2_light_X0_lanternsBurning
theorem dX2_light_0 : decode cX2_light 0 = .ok (.aload_n 0, 1) := by decide +kernel
theorem dX2_light_1 : decode cX2_light 1 = .ok (.getfield 21, 3) := by decide +kernel
theorem dX2_light_4 : decode cX2_light 4 = .ok (.iconst 1, 1) := by decide +kernel
theorem dX2_light_5 : decode cX2_light 5 = .ok (.invokevirtual 157, 3) := by decide +kernel
theorem dX2_light_8 : decode cX2_light 8 = .ok (.istore_n 1, 1) := by decide +kernel
theorem dX2_light_9 : decode cX2_light 9 = .ok (.iload_n 1, 1) := by decide +kernel
theorem dX2_light_10 : decode cX2_light 10 = .ok (.ifCond .ne 5, 3) := by decide +kernel
theorem dX2_light_13 : decode cX2_light 13 = .ok (.dconst 0, 1) := by decide +kernel
theorem dX2_light_14 : decode cX2_light 14 = .ok (.dreturn, 1) := by decide +kernel
theorem dX2_light_15 : decode cX2_light 15 = .ok (.aload_n 0, 1) := by decide +kernel
theorem dX2_light_16 : decode cX2_light 16 = .ok (.getfield 21, 3) := by decide +kernel
theorem dX2_light_19 : decode cX2_light 19 = .ok (.invokevirtual 177, 3) := by decide +kernel
theorem dX2_light_22 : decode cX2_light 22 = .ok (.i2d, 1) := by decide +kernel
theorem dX2_light_23 : decode cX2_light 23 = .ok (.iload_n 1, 1) := by decide +kernel
theorem dX2_light_24 : decode cX2_light 24 = .ok (.i2d, 1) := by decide +kernel
theorem dX2_light_25 : decode cX2_light 25 = .ok (.ddiv, 1) := by decide +kernel
theorem dX2_light_26 : decode cX2_light 26 = .ok (.dreturn, 1) := by decide +kernel
set_option maxRecDepth 20000 in
theorem ggX2_tellOfStretch_X0_letsThrough : GoodIn wsX2_tellOfStretch wsX0_letsThrough := goodIn_r _ [11, 12, 13, 14, 38, 39, 40, 41, 42, 43, 44, 45, 46, 47, 48, 49, 50, 51, 52, 53, 54, 27, 28, 29, 30, 31, 32, 33, 34, 35, 36, 37] (by decide +kernel) (by decide +kernel)
set_option maxRecDepth 20000 in
theorem gX2_tellOfStretch_X0_letsThrough : GoodIn wsX2_tellOfStretch (wsV RX2 205 RX0 yX0_letsThrough wsX0_letsThrough) := goodIn_app (goodIn_of _ (by decide +kernel)) ggX2_tellOfStretch_X0_letsThrough
set_option maxRecDepth 20000 in
theorem ggX2_tellOfStretch_X0_walkersOn : GoodIn wsX2_tellOfStretch wsX0_walkersOn := goodIn_r _ [18, 12, 19, 20, 21, 22, 23, 38, 39, 40, 41, 42, 43, 44, 45, 46, 47, 48, 49, 50, 51, 52, 53, 54, 27, 28, 29, 30, 31, 32, 33, 34, 35, 36, 37] (by decide +kernel) (by decide +kernel)
set_option maxRecDepth 20000 in
theorem gX2_tellOfStretch_X0_walkersOn : GoodIn wsX2_tellOfStretch (wsV RX2 211 RX0 yX0_walkersOn wsX0_walkersOn) := goodIn_app (goodIn_of _ (by decide +kernel)) ggX2_tellOfStretch_X0_walkersOn
theorem dX2_tellOfStretch_0 : decode cX2_tellOfStretch 0 = .ok (.iload_n 2, 1) := by decide +kernel
theorem dX2_tellOfStretch_1 : decode cX2_tellOfStretch 1 = .ok (.tableswitch 83 0 4 #[35, 45, 54, 64, 73], 35) := by decide +kernel
theorem dX2_tellOfStretch_36 : decode cX2_tellOfStretch 36 = .ok (.aload_n 0, 1) := by decide +kernel
theorem dX2_tellOfStretch_37 : decode cX2_tellOfStretch 37 = .ok (.getfield 10, 3) := by decide +kernel
theorem dX2_tellOfStretch_40 : decode cX2_tellOfStretch 40 = .ok (.getfield 202, 3) := by decide +kernel
theorem dX2_tellOfStretch_43 : decode cX2_tellOfStretch 43 = .ok (.iload_n 1, 1) := by decide +kernel
theorem dX2_tellOfStretch_44 : decode cX2_tellOfStretch 44 = .ok (.iaload, 1) := by decide +kernel
theorem dX2_tellOfStretch_45 : decode cX2_tellOfStretch 45 = .ok (.ireturn, 1) := by decide +kernel
theorem dX2_tellOfStretch_46 : decode cX2_tellOfStretch 46 = .ok (.aload_n 0, 1) := by decide +kernel
theorem dX2_tellOfStretch_47 : decode cX2_tellOfStretch 47 = .ok (.getfield 21, 3) := by decide +kernel
theorem dX2_tellOfStretch_50 : decode cX2_tellOfStretch 50 = .ok (.iload_n 1, 1) := by decide +kernel
theorem dX2_tellOfStretch_51 : decode cX2_tellOfStretch 51 = .ok (.invokevirtual 205, 3) := by decide +kernel
theorem dX2_tellOfStretch_54 : decode cX2_tellOfStretch 54 = .ok (.ireturn, 1) := by decide +kernel
theorem dX2_tellOfStretch_55 : decode cX2_tellOfStretch 55 = .ok (.aload_n 0, 1) := by decide +kernel
theorem dX2_tellOfStretch_56 : decode cX2_tellOfStretch 56 = .ok (.getfield 10, 3) := by decide +kernel
theorem dX2_tellOfStretch_59 : decode cX2_tellOfStretch 59 = .ok (.getfield 208, 3) := by decide +kernel
theorem dX2_tellOfStretch_62 : decode cX2_tellOfStretch 62 = .ok (.iload_n 1, 1) := by decide +kernel
theorem dX2_tellOfStretch_63 : decode cX2_tellOfStretch 63 = .ok (.iaload, 1) := by decide +kernel
theorem dX2_tellOfStretch_64 : decode cX2_tellOfStretch 64 = .ok (.ireturn, 1) := by decide +kernel
theorem dX2_tellOfStretch_65 : decode cX2_tellOfStretch 65 = .ok (.aload_n 0, 1) := by decide +kernel
theorem dX2_tellOfStretch_66 : decode cX2_tellOfStretch 66 = .ok (.getfield 21, 3) := by decide +kernel
theorem dX2_tellOfStretch_69 : decode cX2_tellOfStretch 69 = .ok (.iload_n 1, 1) := by decide +kernel
theorem dX2_tellOfStretch_70 : decode cX2_tellOfStretch 70 = .ok (.invokevirtual 211, 3) := by decide +kernel
theorem dX2_tellOfStretch_73 : decode cX2_tellOfStretch 73 = .ok (.ireturn, 1) := by decide +kernel
theorem dX2_tellOfStretch_74 : decode cX2_tellOfStretch 74 = .ok (.aload_n 0, 1) := by decide +kernel
theorem dX2_tellOfStretch_75 : decode cX2_tellOfStretch 75 = .ok (.getfield 21, 3) := by decide +kernel
theorem dX2_tellOfStretch_78 : decode cX2_tellOfStretch 78 = .ok (.getfield 214, 3) := by decide +kernel
theorem dX2_tellOfStretch_81 : decode cX2_tellOfStretch 81 = .ok (.iload_n 1, 1) := by decide +kernel
theorem dX2_tellOfStretch_82 : decode cX2_tellOfStretch 82 = .ok (.iaload, 1) := by decide +kernel
theorem dX2_tellOfStretch_83 : decode cX2_tellOfStretch 83 = .ok (.ireturn, 1) := by decide +kernel
theorem dX2_tellOfStretch_84 : decode cX2_tellOfStretch 84 = .ok (.aload_n 0, 1) := by decide +kernel
theorem dX2_tellOfStretch_85 : decode cX2_tellOfStretch 85 = .ok (.getfield 21, 3) := by decide +kernel
theorem dX2_tellOfStretch_88 : decode cX2_tellOfStretch 88 = .ok (.getfield 217, 3) := by decide +kernel
theorem dX2_tellOfStretch_91 : decode cX2_tellOfStretch 91 = .ok (.iload_n 1, 1) := by decide +kernel
theorem dX2_tellOfStretch_92 : decode cX2_tellOfStretch 92 = .ok (.iaload, 1) := by decide +kernel
theorem dX2_tellOfStretch_93 : decode cX2_tellOfStretch 93 = .ok (.ireturn, 1) := by decide +kernel
set_option maxRecDepth 20000 in
theorem ggX2_tellOfWalker_X0_neighboursOf : GoodIn wsX2_tellOfWalker wsX0_neighboursOf := goodIn_r _ [15, 16, 17, 18, 19, 20, 14, 21, 22, 23, 38, 39, 40, 41, 42, 43, 44, 45, 46, 47, 48, 49, 50, 51, 52, 53, 54, 27, 28, 29, 30, 31, 32, 33, 34, 35, 36, 37] (by decide +kernel) (by decide +kernel)
set_option maxRecDepth 20000 in
theorem gX2_tellOfWalker_X0_neighboursOf : GoodIn wsX2_tellOfWalker (wsV RX2 229 RX0 yX0_neighboursOf wsX0_neighboursOf) := goodIn_app (goodIn_of _ (by decide +kernel)) ggX2_tellOfWalker_X0_neighboursOf
theorem dX2_tellOfWalker_0 : decode cX2_tellOfWalker 0 = .ok (.iload_n 2, 1) := by decide +kernel
theorem dX2_tellOfWalker_1 : decode cX2_tellOfWalker 1 = .ok (.tableswitch 134 0 7 #[47, 57, 67, 77, 95, 105, 115, 124], 47) := by decide +kernel
theorem dX2_tellOfWalker_48 : decode cX2_tellOfWalker 48 = .ok (.aload_n 0, 1) := by decide +kernel
theorem dX2_tellOfWalker_49 : decode cX2_tellOfWalker 49 = .ok (.getfield 10, 3) := by decide +kernel
theorem dX2_tellOfWalker_52 : decode cX2_tellOfWalker 52 = .ok (.getfield 220, 3) := by decide +kernel
theorem dX2_tellOfWalker_55 : decode cX2_tellOfWalker 55 = .ok (.iload_n 1, 1) := by decide +kernel
theorem dX2_tellOfWalker_56 : decode cX2_tellOfWalker 56 = .ok (.iaload, 1) := by decide +kernel
theorem dX2_tellOfWalker_57 : decode cX2_tellOfWalker 57 = .ok (.ireturn, 1) := by decide +kernel
theorem dX2_tellOfWalker_58 : decode cX2_tellOfWalker 58 = .ok (.aload_n 0, 1) := by decide +kernel
theorem dX2_tellOfWalker_59 : decode cX2_tellOfWalker 59 = .ok (.getfield 21, 3) := by decide +kernel
theorem dX2_tellOfWalker_62 : decode cX2_tellOfWalker 62 = .ok (.getfield 81, 3) := by decide +kernel
theorem dX2_tellOfWalker_65 : decode cX2_tellOfWalker 65 = .ok (.iload_n 1, 1) := by decide +kernel
theorem dX2_tellOfWalker_66 : decode cX2_tellOfWalker 66 = .ok (.iaload, 1) := by decide +kernel
theorem dX2_tellOfWalker_67 : decode cX2_tellOfWalker 67 = .ok (.ireturn, 1) := by decide +kernel
theorem dX2_tellOfWalker_68 : decode cX2_tellOfWalker 68 = .ok (.aload_n 0, 1) := by decide +kernel
theorem dX2_tellOfWalker_69 : decode cX2_tellOfWalker 69 = .ok (.getfield 10, 3) := by decide +kernel
theorem dX2_tellOfWalker_72 : decode cX2_tellOfWalker 72 = .ok (.getfield 223, 3) := by decide +kernel
theorem dX2_tellOfWalker_75 : decode cX2_tellOfWalker 75 = .ok (.iload_n 1, 1) := by decide +kernel
theorem dX2_tellOfWalker_76 : decode cX2_tellOfWalker 76 = .ok (.iaload, 1) := by decide +kernel
theorem dX2_tellOfWalker_77 : decode cX2_tellOfWalker 77 = .ok (.ireturn, 1) := by decide +kernel
theorem dX2_tellOfWalker_78 : decode cX2_tellOfWalker 78 = .ok (.aload_n 0, 1) := by decide +kernel
theorem dX2_tellOfWalker_79 : decode cX2_tellOfWalker 79 = .ok (.getfield 21, 3) := by decide +kernel
theorem dX2_tellOfWalker_82 : decode cX2_tellOfWalker 82 = .ok (.getfield 84, 3) := by decide +kernel
theorem dX2_tellOfWalker_85 : decode cX2_tellOfWalker 85 = .ok (.iload_n 1, 1) := by decide +kernel
theorem dX2_tellOfWalker_86 : decode cX2_tellOfWalker 86 = .ok (.baload, 1) := by decide +kernel
theorem dX2_tellOfWalker_87 : decode cX2_tellOfWalker 87 = .ok (.ifCond .eq 7, 3) := by decide +kernel
theorem dX2_tellOfWalker_90 : decode cX2_tellOfWalker 90 = .ok (.iconst 1, 1) := by decide +kernel
theorem dX2_tellOfWalker_91 : decode cX2_tellOfWalker 91 = .ok (.goto 4, 3) := by decide +kernel
theorem dX2_tellOfWalker_94 : decode cX2_tellOfWalker 94 = .ok (.iconst 0, 1) := by decide +kernel
theorem dX2_tellOfWalker_95 : decode cX2_tellOfWalker 95 = .ok (.ireturn, 1) := by decide +kernel
theorem dX2_tellOfWalker_96 : decode cX2_tellOfWalker 96 = .ok (.aload_n 0, 1) := by decide +kernel
theorem dX2_tellOfWalker_97 : decode cX2_tellOfWalker 97 = .ok (.getfield 21, 3) := by decide +kernel
theorem dX2_tellOfWalker_100 : decode cX2_tellOfWalker 100 = .ok (.getfield 95, 3) := by decide +kernel
theorem dX2_tellOfWalker_103 : decode cX2_tellOfWalker 103 = .ok (.iload_n 1, 1) := by decide +kernel
theorem dX2_tellOfWalker_104 : decode cX2_tellOfWalker 104 = .ok (.iaload, 1) := by decide +kernel
theorem dX2_tellOfWalker_105 : decode cX2_tellOfWalker 105 = .ok (.ireturn, 1) := by decide +kernel
theorem dX2_tellOfWalker_106 : decode cX2_tellOfWalker 106 = .ok (.aload_n 0, 1) := by decide +kernel
theorem dX2_tellOfWalker_107 : decode cX2_tellOfWalker 107 = .ok (.getfield 21, 3) := by decide +kernel
theorem dX2_tellOfWalker_110 : decode cX2_tellOfWalker 110 = .ok (.getfield 226, 3) := by decide +kernel
theorem dX2_tellOfWalker_113 : decode cX2_tellOfWalker 113 = .ok (.iload_n 1, 1) := by decide +kernel
theorem dX2_tellOfWalker_114 : decode cX2_tellOfWalker 114 = .ok (.iaload, 1) := by decide +kernel
theorem dX2_tellOfWalker_115 : decode cX2_tellOfWalker 115 = .ok (.ireturn, 1) := by decide +kernel
theorem dX2_tellOfWalker_116 : decode cX2_tellOfWalker 116 = .ok (.aload_n 0, 1) := by decide +kernel
theorem dX2_tellOfWalker_117 : decode cX2_tellOfWalker 117 = .ok (.getfield 21, 3) := by decide +kernel
theorem dX2_tellOfWalker_120 : decode cX2_tellOfWalker 120 = .ok (.iload_n 1, 1) := by decide +kernel
theorem dX2_tellOfWalker_121 : decode cX2_tellOfWalker 121 = .ok (.invokevirtual 229, 3) := by decide +kernel
theorem dX2_tellOfWalker_124 : decode cX2_tellOfWalker 124 = .ok (.ireturn, 1) := by decide +kernel
theorem dX2_tellOfWalker_125 : decode cX2_tellOfWalker 125 = .ok (.aload_n 0, 1) := by decide +kernel
theorem dX2_tellOfWalker_126 : decode cX2_tellOfWalker 126 = .ok (.getfield 21, 3) := by decide +kernel
theorem dX2_tellOfWalker_129 : decode cX2_tellOfWalker 129 = .ok (.getfield 232, 3) := by decide +kernel
theorem dX2_tellOfWalker_132 : decode cX2_tellOfWalker 132 = .ok (.iload_n 1, 1) := by decide +kernel
theorem dX2_tellOfWalker_133 : decode cX2_tellOfWalker 133 = .ok (.iaload, 1) := by decide +kernel
theorem dX2_tellOfWalker_134 : decode cX2_tellOfWalker 134 = .ok (.ireturn, 1) := by decide +kernel
theorem dX2_tellOfWalker_135 : decode cX2_tellOfWalker 135 = .ok (.aload_n 0, 1) := by decide +kernel
theorem dX2_tellOfWalker_136 : decode cX2_tellOfWalker 136 = .ok (.getfield 21, 3) := by decide +kernel
theorem dX2_tellOfWalker_139 : decode cX2_tellOfWalker 139 = .ok (.getfield 235, 3) := by decide +kernel
theorem dX2_tellOfWalker_142 : decode cX2_tellOfWalker 142 = .ok (.iload_n 1, 1) := by decide +kernel
theorem dX2_tellOfWalker_143 : decode cX2_tellOfWalker 143 = .ok (.iaload, 1) := by decide +kernel
theorem dX2_tellOfWalker_144 : decode cX2_tellOfWalker 144 = .ok (.ireturn, 1) := by decide +kernel
set_option maxRecDepth 20000 in
theorem ggX2_tellOfAll_X0_howManyAre : GoodIn wsX2_tellOfAll wsX0_howManyAre := goodIn_r _ [12, 13, 14, 15, 34, 35, 36, 37, 38, 39, 40, 41, 42, 43, 44, 45, 46, 47, 48, 49, 50, 51, 52, 53, 54, 55, 56, 57, 58, 59, 60, 61] (by decide +kernel) (by decide +kernel)
set_option maxRecDepth 20000 in
theorem gX2_tellOfAll_X0_howManyAre : GoodIn wsX2_tellOfAll (wsV RX2 157 RX0 yX0_howManyAre wsX0_howManyAre) := goodIn_app (goodIn_of _ (by decide +kernel)) ggX2_tellOfAll_X0_howManyAre
set_option maxRecDepth 20000 in
theorem ggX2_tellOfAll_X0_lanternsBurning : GoodIn wsX2_tellOfAll wsX0_lanternsBurning := goodIn_r _ [19, 13, 14, 15, 20, 34, 35, 36, 37, 38, 39, 40, 41, 42, 43, 44, 45, 46, 47, 48, 49, 50, 51, 52, 53, 54, 55, 56, 57, 58, 59, 60, 61] (by decide +kernel) (by decide +kernel)
set_option maxRecDepth 20000 in
theorem gX2_tellOfAll_X0_lanternsBurning : GoodIn wsX2_tellOfAll (wsV RX2 177 RX0 yX0_lanternsBurning wsX0_lanternsBurning) := goodIn_app (goodIn_of _ (by decide +kernel)) ggX2_tellOfAll_X0_lanternsBurning
set_option maxRecDepth 20000 in
theorem ggX2_tellOfAll_X0_foremostPlace : GoodIn wsX2_tellOfAll wsX0_foremostPlace := goodIn_r _ [24, 13, 14, 15, 25, 34, 35, 36, 37, 38, 39, 40, 41, 42, 43, 44, 45, 46, 47, 48, 49, 50, 51, 52, 53, 54, 55, 56, 57, 58, 59, 60, 61] (by decide +kernel) (by decide +kernel)
set_option maxRecDepth 20000 in
theorem gX2_tellOfAll_X0_foremostPlace : GoodIn wsX2_tellOfAll (wsV RX2 241 RX0 yX0_foremostPlace wsX0_foremostPlace) := goodIn_app (goodIn_of _ (by decide +kernel)) ggX2_tellOfAll_X0_foremostPlace
set_option maxRecDepth 20000 in
theorem ggX2_tellOfAll_X0_paradeLength : GoodIn wsX2_tellOfAll wsX0_paradeLength := goodIn_r _ [29, 13, 14, 15, 25, 30, 22, 23, 11, 24, 34, 35, 36, 37, 38, 39, 40, 41, 42, 43, 44, 45, 46, 47, 48, 49, 50, 51, 52, 53, 54, 55, 56, 57, 58, 59, 60, 61] (by decide +kernel) (by decide +kernel)
set_option maxRecDepth 20000 in
theorem gX2_tellOfAll_X0_paradeLength : GoodIn wsX2_tellOfAll (wsV RX2 244 RX0 yX0_paradeLength wsX0_paradeLength) := goodIn_app (goodIn_of _ (by decide +kernel)) ggX2_tellOfAll_X0_paradeLength
theorem dX2_tellOfAll_0 : decode cX2_tellOfAll 0 = .ok (.iload_n 1, 1) := by decide +kernel
theorem dX2_tellOfAll_1 : decode cX2_tellOfAll 1 = .ok (.tableswitch 138 0 9 #[55, 63, 71, 79, 87, 96, 105, 114, 122, 130], 55) := by decide +kernel
theorem dX2_tellOfAll_56 : decode cX2_tellOfAll 56 = .ok (.aload_n 0, 1) := by decide +kernel
theorem dX2_tellOfAll_57 : decode cX2_tellOfAll 57 = .ok (.getfield 21, 3) := by decide +kernel
theorem dX2_tellOfAll_60 : decode cX2_tellOfAll 60 = .ok (.getfield 39, 3) := by decide +kernel
theorem dX2_tellOfAll_63 : decode cX2_tellOfAll 63 = .ok (.ireturn, 1) := by decide +kernel
theorem dX2_tellOfAll_64 : decode cX2_tellOfAll 64 = .ok (.aload_n 0, 1) := by decide +kernel
theorem dX2_tellOfAll_65 : decode cX2_tellOfAll 65 = .ok (.getfield 10, 3) := by decide +kernel
theorem dX2_tellOfAll_68 : decode cX2_tellOfAll 68 = .ok (.getfield 35, 3) := by decide +kernel
theorem dX2_tellOfAll_71 : decode cX2_tellOfAll 71 = .ok (.ireturn, 1) := by decide +kernel
theorem dX2_tellOfAll_72 : decode cX2_tellOfAll 72 = .ok (.aload_n 0, 1) := by decide +kernel
theorem dX2_tellOfAll_73 : decode cX2_tellOfAll 73 = .ok (.getfield 10, 3) := by decide +kernel
theorem dX2_tellOfAll_76 : decode cX2_tellOfAll 76 = .ok (.getfield 238, 3) := by decide +kernel
theorem dX2_tellOfAll_79 : decode cX2_tellOfAll 79 = .ok (.ireturn, 1) := by decide +kernel
theorem dX2_tellOfAll_80 : decode cX2_tellOfAll 80 = .ok (.aload_n 0, 1) := by decide +kernel
theorem dX2_tellOfAll_81 : decode cX2_tellOfAll 81 = .ok (.getfield 10, 3) := by decide +kernel
theorem dX2_tellOfAll_84 : decode cX2_tellOfAll 84 = .ok (.getfield 73, 3) := by decide +kernel
theorem dX2_tellOfAll_87 : decode cX2_tellOfAll 87 = .ok (.ireturn, 1) := by decide +kernel
theorem dX2_tellOfAll_88 : decode cX2_tellOfAll 88 = .ok (.aload_n 0, 1) := by decide +kernel
theorem dX2_tellOfAll_89 : decode cX2_tellOfAll 89 = .ok (.getfield 21, 3) := by decide +kernel
theorem dX2_tellOfAll_92 : decode cX2_tellOfAll 92 = .ok (.iconst 0, 1) := by decide +kernel
theorem dX2_tellOfAll_93 : decode cX2_tellOfAll 93 = .ok (.invokevirtual 157, 3) := by decide +kernel
theorem dX2_tellOfAll_96 : decode cX2_tellOfAll 96 = .ok (.ireturn, 1) := by decide +kernel
theorem dX2_tellOfAll_97 : decode cX2_tellOfAll 97 = .ok (.aload_n 0, 1) := by decide +kernel
theorem dX2_tellOfAll_98 : decode cX2_tellOfAll 98 = .ok (.getfield 21, 3) := by decide +kernel
theorem dX2_tellOfAll_101 : decode cX2_tellOfAll 101 = .ok (.iconst 1, 1) := by decide +kernel
theorem dX2_tellOfAll_102 : decode cX2_tellOfAll 102 = .ok (.invokevirtual 157, 3) := by decide +kernel
theorem dX2_tellOfAll_105 : decode cX2_tellOfAll 105 = .ok (.ireturn, 1) := by decide +kernel
theorem dX2_tellOfAll_106 : decode cX2_tellOfAll 106 = .ok (.aload_n 0, 1) := by decide +kernel
theorem dX2_tellOfAll_107 : decode cX2_tellOfAll 107 = .ok (.getfield 21, 3) := by decide +kernel
theorem dX2_tellOfAll_110 : decode cX2_tellOfAll 110 = .ok (.iconst 2, 1) := by decide +kernel
theorem dX2_tellOfAll_111 : decode cX2_tellOfAll 111 = .ok (.invokevirtual 157, 3) := by decide +kernel
theorem dX2_tellOfAll_114 : decode cX2_tellOfAll 114 = .ok (.ireturn, 1) := by decide +kernel
theorem dX2_tellOfAll_115 : decode cX2_tellOfAll 115 = .ok (.aload_n 0, 1) := by decide +kernel
theorem dX2_tellOfAll_116 : decode cX2_tellOfAll 116 = .ok (.getfield 21, 3) := by decide +kernel
theorem dX2_tellOfAll_119 : decode cX2_tellOfAll 119 = .ok (.invokevirtual 177, 3) := by decide +kernel
theorem dX2_tellOfAll_122 : decode cX2_tellOfAll 122 = .ok (.ireturn, 1) := by decide +kernel
theorem dX2_tellOfAll_123 : decode cX2_tellOfAll 123 = .ok (.aload_n 0, 1) := by decide +kernel
theorem dX2_tellOfAll_124 : decode cX2_tellOfAll 124 = .ok (.getfield 10, 3) := by decide +kernel
theorem dX2_tellOfAll_127 : decode cX2_tellOfAll 127 = .ok (.getfield 107, 3) := by decide +kernel
theorem dX2_tellOfAll_130 : decode cX2_tellOfAll 130 = .ok (.ireturn, 1) := by decide +kernel
theorem dX2_tellOfAll_131 : decode cX2_tellOfAll 131 = .ok (.aload_n 0, 1) := by decide +kernel
theorem dX2_tellOfAll_132 : decode cX2_tellOfAll 132 = .ok (.getfield 21, 3) := by decide +kernel
theorem dX2_tellOfAll_135 : decode cX2_tellOfAll 135 = .ok (.invokevirtual 241, 3) := by decide +kernel
theorem dX2_tellOfAll_138 : decode cX2_tellOfAll 138 = .ok (.ireturn, 1) := by decide +kernel
theorem dX2_tellOfAll_139 : decode cX2_tellOfAll 139 = .ok (.aload_n 0, 1) := by decide +kernel
theorem dX2_tellOfAll_140 : decode cX2_tellOfAll 140 = .ok (.getfield 21, 3) := by decide +kernel
theorem dX2_tellOfAll_143 : decode cX2_tellOfAll 143 = .ok (.invokevirtual 244, 3) := by decide +kernel
theorem dX2_tellOfAll_146 : decode cX2_tellOfAll 146 = .ok (.ireturn, 1) := by decide +kernel
