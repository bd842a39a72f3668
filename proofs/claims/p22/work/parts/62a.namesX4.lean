theorem dX4_init_0 : decode cX4_init 0 = .ok (.aload_n 0, 1) := by decide +kernel
theorem dX4_init_1 : decode cX4_init 1 = .ok (.invokespecial 1, 3) := by decide +kernel
theorem dX4_init_4 : decode cX4_init 4 = .ok (.aload_n 0, 1) := by decide +kernel
theorem dX4_init_5 : decode cX4_init 5 = .ok (.iconst (-1), 1) := by decide +kernel
theorem dX4_init_6 : decode cX4_init 6 = .ok (.putfield 7, 3) := by decide +kernel
theorem dX4_init_9 : decode cX4_init 9 = .ok (.aload_n 0, 1) := by decide +kernel
theorem dX4_init_10 : decode cX4_init 10 = .ok (.iconst (-1), 1) := by decide +kernel
theorem dX4_init_11 : decode cX4_init 11 = .ok (.putfield 13, 3) := by decide +kernel
theorem dX4_init_14 : decode cX4_init 14 = .ok (.aload_n 0, 1) := by decide +kernel
theorem dX4_init_15 : decode cX4_init 15 = .ok (.bipush 6, 2) := by decide +kernel
theorem dX4_init_17 : decode cX4_init 17 = .ok (.newarray .int, 2) := by decide +kernel
theorem dX4_init_19 : decode cX4_init 19 = .ok (.putfield 16, 3) := by decide +kernel
theorem dX4_init_22 : decode cX4_init 22 = .ok (.return_, 1) := by decide +kernel
theorem dX4_isBeside_0 : decode cX4_isBeside 0 = .ok (.aload_n 1, 1) := by decide +kernel
theorem dX4_isBeside_1 : decode cX4_isBeside 1 = .ok (.aload_n 0, 1) := by decide +kernel
theorem dX4_isBeside_2 : decode cX4_isBeside 2 = .ok (.if_acmp .eq 49, 3) := by decide +kernel
theorem dX4_isBeside_5 : decode cX4_isBeside 5 = .ok (.aload_n 0, 1) := by decide +kernel
theorem dX4_isBeside_6 : decode cX4_isBeside 6 = .ok (.getfield 34, 3) := by decide +kernel
theorem dX4_isBeside_9 : decode cX4_isBeside 9 = .ok (.iconst 1, 1) := by decide +kernel
theorem dX4_isBeside_10 : decode cX4_isBeside 10 = .ok (.if_icmp .ne 41, 3) := by decide +kernel
theorem dX4_isBeside_13 : decode cX4_isBeside 13 = .ok (.aload_n 1, 1) := by decide +kernel
theorem dX4_isBeside_14 : decode cX4_isBeside 14 = .ok (.getfield 34, 3) := by decide +kernel
theorem dX4_isBeside_17 : decode cX4_isBeside 17 = .ok (.iconst 1, 1) := by decide +kernel
theorem dX4_isBeside_18 : decode cX4_isBeside 18 = .ok (.if_icmp .ne 33, 3) := by decide +kernel
theorem dX4_isBeside_21 : decode cX4_isBeside 21 = .ok (.aload_n 0, 1) := by decide +kernel
theorem dX4_isBeside_22 : decode cX4_isBeside 22 = .ok (.getfield 7, 3) := by decide +kernel
theorem dX4_isBeside_25 : decode cX4_isBeside 25 = .ok (.aload_n 1, 1) := by decide +kernel
theorem dX4_isBeside_26 : decode cX4_isBeside 26 = .ok (.getfield 7, 3) := by decide +kernel
theorem dX4_isBeside_29 : decode cX4_isBeside 29 = .ok (.isub, 1) := by decide +kernel
theorem dX4_isBeside_30 : decode cX4_isBeside 30 = .ok (.iconst 2, 1) := by decide +kernel
theorem dX4_isBeside_31 : decode cX4_isBeside 31 = .ok (.if_icmp .ge 20, 3) := by decide +kernel
theorem dX4_isBeside_34 : decode cX4_isBeside 34 = .ok (.aload_n 1, 1) := by decide +kernel
theorem dX4_isBeside_35 : decode cX4_isBeside 35 = .ok (.getfield 7, 3) := by decide +kernel
theorem dX4_isBeside_38 : decode cX4_isBeside 38 = .ok (.aload_n 0, 1) := by decide +kernel
theorem dX4_isBeside_39 : decode cX4_isBeside 39 = .ok (.getfield 7, 3) := by decide +kernel
theorem dX4_isBeside_42 : decode cX4_isBeside 42 = .ok (.isub, 1) := by decide +kernel
theorem dX4_isBeside_43 : decode cX4_isBeside 43 = .ok (.iconst 2, 1) := by decide +kernel
theorem dX4_isBeside_44 : decode cX4_isBeside 44 = .ok (.if_icmp .ge 7, 3) := by decide +kernel
theorem dX4_isBeside_47 : decode cX4_isBeside 47 = .ok (.iconst 1, 1) := by decide +kernel
theorem dX4_isBeside_48 : decode cX4_isBeside 48 = .ok (.goto 4, 3) := by decide +kernel
theorem dX4_isBeside_51 : decode cX4_isBeside 51 = .ok (.iconst 0, 1) := by decide +kernel
theorem dX4_isBeside_52 : decode cX4_isBeside 52 = .ok (.ireturn, 1) := by decide +kernel
theorem dX3_init_0 : decode cX3_init 0 = .ok (.aload_n 0, 1) := by decide +kernel
theorem dX3_init_1 : decode cX3_init 1 = .ok (.invokespecial 1, 3) := by decide +kernel
theorem dX3_init_4 : decode cX3_init 4 = .ok (.aload_n 0, 1) := by decide +kernel
theorem dX3_init_5 : decode cX3_init 5 = .ok (.iconst 0, 1) := by decide +kernel
theorem dX3_init_6 : decode cX3_init 6 = .ok (.anewarray 7, 3) := by decide +kernel
theorem dX3_init_9 : decode cX3_init 9 = .ok (.putfield 9, 3) := by decide +kernel
theorem dX3_init_12 : decode cX3_init 12 = .ok (.aload_n 0, 1) := by decide +kernel
theorem dX3_init_13 : decode cX3_init 13 = .ok (.iconst 2, 1) := by decide +kernel
theorem dX3_init_14 : decode cX3_init 14 = .ok (.newarray .int, 2) := by decide +kernel
theorem dX3_init_16 : decode cX3_init 16 = .ok (.dup, 1) := by decide +kernel
theorem dX3_init_17 : decode cX3_init 17 = .ok (.iconst 0, 1) := by decide +kernel
theorem dX3_init_18 : decode cX3_init 18 = .ok (.iconst (-1), 1) := by decide +kernel
theorem dX3_init_19 : decode cX3_init 19 = .ok (.iastore, 1) := by decide +kernel
theorem dX3_init_20 : decode cX3_init 20 = .ok (.dup, 1) := by decide +kernel
theorem dX3_init_21 : decode cX3_init 21 = .ok (.iconst 1, 1) := by decide +kernel
theorem dX3_init_22 : decode cX3_init 22 = .ok (.iconst (-1), 1) := by decide +kernel
theorem dX3_init_23 : decode cX3_init 23 = .ok (.iastore, 1) := by decide +kernel
theorem dX3_init_24 : decode cX3_init 24 = .ok (.putfield 15, 3) := by decide +kernel
theorem dX3_init_27 : decode cX3_init 27 = .ok (.aload_n 0, 1) := by decide +kernel
theorem dX3_init_28 : decode cX3_init 28 = .ok (.bipush 10, 2) := by decide +kernel
theorem dX3_init_30 : decode cX3_init 30 = .ok (.newarray .int, 2) := by decide +kernel
theorem dX3_init_32 : decode cX3_init 32 = .ok (.putfield 18, 3) := by decide +kernel
theorem dX3_init_35 : decode cX3_init 35 = .ok (.aload_n 0, 1) := by decide +kernel
theorem dX3_init_36 : decode cX3_init 36 = .ok (.iconst 0, 1) := by decide +kernel
theorem dX3_init_37 : decode cX3_init 37 = .ok (.anewarray 21, 3) := by decide +kernel
theorem dX3_init_40 : decode cX3_init 40 = .ok (.putfield 23, 3) := by decide +kernel
theorem dX3_init_43 : decode cX3_init 43 = .ok (.aload_n 0, 1) := by decide +kernel
theorem dX3_init_44 : decode cX3_init 44 = .ok (.iconst 0, 1) := by decide +kernel
theorem dX3_init_45 : decode cX3_init 45 = .ok (.newarray .int, 2) := by decide +kernel
theorem dX3_init_47 : decode cX3_init 47 = .ok (.putfield 27, 3) := by decide +kernel
theorem dX3_init_50 : decode cX3_init 50 = .ok (.aload_n 0, 1) := by decide +kernel
theorem dX3_init_51 : decode cX3_init 51 = .ok (.bipush 20, 2) := by decide +kernel
theorem dX3_init_53 : decode cX3_init 53 = .ok (.newarray .boolean, 2) := by decide +kernel
theorem dX3_init_55 : decode cX3_init 55 = .ok (.putfield 30, 3) := by decide +kernel
theorem dX3_init_58 : decode cX3_init 58 = .ok (.aload_n 0, 1) := by decide +kernel
theorem dX3_init_59 : decode cX3_init 59 = .ok (.bipush 120, 2) := by decide +kernel
theorem dX3_init_61 : decode cX3_init 61 = .ok (.newarray .int, 2) := by decide +kernel
theorem dX3_init_63 : decode cX3_init 63 = .ok (.putfield 34, 3) := by decide +kernel
theorem dX3_init_66 : decode cX3_init 66 = .ok (.aload_n 0, 1) := by decide +kernel
theorem dX3_init_67 : decode cX3_init 67 = .ok (.bipush 10, 2) := by decide +kernel
theorem dX3_init_69 : decode cX3_init 69 = .ok (.newarray .int, 2) := by decide +kernel
theorem dX3_init_71 : decode cX3_init 71 = .ok (.putfield 37, 3) := by decide +kernel
theorem dX3_init_74 : decode cX3_init 74 = .ok (.aload_n 0, 1) := by decide +kernel
theorem dX3_init_75 : decode cX3_init 75 = .ok (.bipush 20, 2) := by decide +kernel
theorem dX3_init_77 : decode cX3_init 77 = .ok (.newarray .int, 2) := by decide +kernel
theorem dX3_init_79 : decode cX3_init 79 = .ok (.putfield 40, 3) := by decide +kernel
theorem dX3_init_82 : decode cX3_init 82 = .ok (.return_, 1) := by decide +kernel
theorem dX3_stretch_0 : decode cX3_stretch 0 = .ok (.aload_n 0, 1) := by decide +kernel
theorem dX3_stretch_1 : decode cX3_stretch 1 = .ok (.getfield 9, 3) := by decide +kernel
theorem dX3_stretch_4 : decode cX3_stretch 4 = .ok (.arraylength, 1) := by decide +kernel
theorem dX3_stretch_5 : decode cX3_stretch 5 = .ok (.iconst 1, 1) := by decide +kernel
theorem dX3_stretch_6 : decode cX3_stretch 6 = .ok (.iadd, 1) := by decide +kernel
theorem dX3_stretch_7 : decode cX3_stretch 7 = .ok (.anewarray 7, 3) := by decide +kernel
theorem dX3_stretch_10 : decode cX3_stretch 10 = .ok (.astore_n 3, 1) := by decide +kernel
theorem dX3_stretch_11 : decode cX3_stretch 11 = .ok (.iconst 0, 1) := by decide +kernel
theorem dX3_stretch_12 : decode cX3_stretch 12 = .ok (.istore 4, 2) := by decide +kernel
theorem dX3_stretch_14 : decode cX3_stretch 14 = .ok (.iconst 0, 1) := by decide +kernel
theorem dX3_stretch_15 : decode cX3_stretch 15 = .ok (.istore 5, 2) := by decide +kernel
theorem dX3_stretch_17 : decode cX3_stretch 17 = .ok (.iload 5, 2) := by decide +kernel
theorem dX3_stretch_19 : decode cX3_stretch 19 = .ok (.aload_n 0, 1) := by decide +kernel
theorem dX3_stretch_20 : decode cX3_stretch 20 = .ok (.getfield 9, 3) := by decide +kernel
theorem dX3_stretch_23 : decode cX3_stretch 23 = .ok (.arraylength, 1) := by decide +kernel
theorem dX3_stretch_24 : decode cX3_stretch 24 = .ok (.if_icmp .ge 34, 3) := by decide +kernel
theorem dX3_stretch_27 : decode cX3_stretch 27 = .ok (.aload_n 3, 1) := by decide +kernel
theorem dX3_stretch_28 : decode cX3_stretch 28 = .ok (.iload 5, 2) := by decide +kernel
theorem dX3_stretch_30 : decode cX3_stretch 30 = .ok (.aload_n 0, 1) := by decide +kernel
theorem dX3_stretch_31 : decode cX3_stretch 31 = .ok (.getfield 9, 3) := by decide +kernel
theorem dX3_stretch_34 : decode cX3_stretch 34 = .ok (.iload 5, 2) := by decide +kernel
theorem dX3_stretch_36 : decode cX3_stretch 36 = .ok (.aaload, 1) := by decide +kernel
theorem dX3_stretch_37 : decode cX3_stretch 37 = .ok (.aastore, 1) := by decide +kernel
theorem dX3_stretch_38 : decode cX3_stretch 38 = .ok (.iload 4, 2) := by decide +kernel
theorem dX3_stretch_40 : decode cX3_stretch 40 = .ok (.aload_n 0, 1) := by decide +kernel
theorem dX3_stretch_41 : decode cX3_stretch 41 = .ok (.getfield 9, 3) := by decide +kernel
theorem dX3_stretch_44 : decode cX3_stretch 44 = .ok (.iload 5, 2) := by decide +kernel
theorem dX3_stretch_46 : decode cX3_stretch 46 = .ok (.aaload, 1) := by decide +kernel
theorem dX3_stretch_47 : decode cX3_stretch 47 = .ok (.iconst 0, 1) := by decide +kernel
theorem dX3_stretch_48 : decode cX3_stretch 48 = .ok (.iaload, 1) := by decide +kernel
theorem dX3_stretch_49 : decode cX3_stretch 49 = .ok (.iadd, 1) := by decide +kernel
theorem dX3_stretch_50 : decode cX3_stretch 50 = .ok (.istore 4, 2) := by decide +kernel
theorem dX3_stretch_52 : decode cX3_stretch 52 = .ok (.iinc 5 1, 3) := by decide +kernel
theorem dX3_stretch_55 : decode cX3_stretch 55 = .ok (.goto (-38), 3) := by decide +kernel
theorem dX3_stretch_58 : decode cX3_stretch 58 = .ok (.aload_n 3, 1) := by decide +kernel
theorem dX3_stretch_59 : decode cX3_stretch 59 = .ok (.aload_n 0, 1) := by decide +kernel
theorem dX3_stretch_60 : decode cX3_stretch 60 = .ok (.getfield 9, 3) := by decide +kernel
theorem dX3_stretch_63 : decode cX3_stretch 63 = .ok (.arraylength, 1) := by decide +kernel
theorem dX3_stretch_64 : decode cX3_stretch 64 = .ok (.iconst 5, 1) := by decide +kernel
theorem dX3_stretch_65 : decode cX3_stretch 65 = .ok (.newarray .int, 2) := by decide +kernel
theorem dX3_stretch_67 : decode cX3_stretch 67 = .ok (.dup, 1) := by decide +kernel
theorem dX3_stretch_68 : decode cX3_stretch 68 = .ok (.iconst 0, 1) := by decide +kernel
theorem dX3_stretch_69 : decode cX3_stretch 69 = .ok (.iload_n 1, 1) := by decide +kernel
theorem dX3_stretch_70 : decode cX3_stretch 70 = .ok (.iastore, 1) := by decide +kernel
theorem dX3_stretch_71 : decode cX3_stretch 71 = .ok (.dup, 1) := by decide +kernel
theorem dX3_stretch_72 : decode cX3_stretch 72 = .ok (.iconst 1, 1) := by decide +kernel
theorem dX3_stretch_73 : decode cX3_stretch 73 = .ok (.iload_n 2, 1) := by decide +kernel
theorem dX3_stretch_74 : decode cX3_stretch 74 = .ok (.iastore, 1) := by decide +kernel
theorem dX3_stretch_75 : decode cX3_stretch 75 = .ok (.dup, 1) := by decide +kernel
theorem dX3_stretch_76 : decode cX3_stretch 76 = .ok (.iconst 2, 1) := by decide +kernel
theorem dX3_stretch_77 : decode cX3_stretch 77 = .ok (.iload 4, 2) := by decide +kernel
theorem dX3_stretch_79 : decode cX3_stretch 79 = .ok (.iastore, 1) := by decide +kernel
theorem dX3_stretch_80 : decode cX3_stretch 80 = .ok (.dup, 1) := by decide +kernel
theorem dX3_stretch_81 : decode cX3_stretch 81 = .ok (.iconst 3, 1) := by decide +kernel
theorem dX3_stretch_82 : decode cX3_stretch 82 = .ok (.iconst 0, 1) := by decide +kernel
theorem dX3_stretch_83 : decode cX3_stretch 83 = .ok (.iastore, 1) := by decide +kernel
theorem dX3_stretch_84 : decode cX3_stretch 84 = .ok (.dup, 1) := by decide +kernel
theorem dX3_stretch_85 : decode cX3_stretch 85 = .ok (.iconst 4, 1) := by decide +kernel
theorem dX3_stretch_86 : decode cX3_stretch 86 = .ok (.iconst 0, 1) := by decide +kernel
theorem dX3_stretch_87 : decode cX3_stretch 87 = .ok (.iastore, 1) := by decide +kernel
theorem dX3_stretch_88 : decode cX3_stretch 88 = .ok (.aastore, 1) := by decide +kernel
theorem dX3_stretch_89 : decode cX3_stretch 89 = .ok (.aload_n 0, 1) := by decide +kernel
theorem dX3_stretch_90 : decode cX3_stretch 90 = .ok (.aload_n 3, 1) := by decide +kernel
theorem dX3_stretch_91 : decode cX3_stretch 91 = .ok (.putfield 9, 3) := by decide +kernel
theorem dX3_stretch_94 : decode cX3_stretch 94 = .ok (.return_, 1) := by decide +kernel
set_option maxRecDepth 20000 in
theorem ggX3_come_X4_init : GoodIn wsX3_come wsX4_init := goodIn_r _ [10, 11, 12, 13, 14, 15, 16, 17, 28, 29, 30, 31, 32, 33, 34, 35, 36] (by decide +kernel) (by decide +kernel)
set_option maxRecDepth 20000 in
theorem gX3_come_X4_init_n56 : GoodIn wsX3_come (wsX4_init) := ggX3_come_X4_init
theorem dX3_come_0 : decode cX3_come 0 = .ok (.aload_n 0, 1) := by decide +kernel
theorem dX3_come_1 : decode cX3_come 1 = .ok (.getfield 23, 3) := by decide +kernel
theorem dX3_come_4 : decode cX3_come 4 = .ok (.arraylength, 1) := by decide +kernel
theorem dX3_come_5 : decode cX3_come 5 = .ok (.iconst 1, 1) := by decide +kernel
theorem dX3_come_6 : decode cX3_come 6 = .ok (.iadd, 1) := by decide +kernel
theorem dX3_come_7 : decode cX3_come 7 = .ok (.anewarray 21, 3) := by decide +kernel
theorem dX3_come_10 : decode cX3_come 10 = .ok (.astore 4, 2) := by decide +kernel
theorem dX3_come_12 : decode cX3_come 12 = .ok (.iconst 0, 1) := by decide +kernel
theorem dX3_come_13 : decode cX3_come 13 = .ok (.istore 5, 2) := by decide +kernel
theorem dX3_come_15 : decode cX3_come 15 = .ok (.iload 5, 2) := by decide +kernel
theorem dX3_come_17 : decode cX3_come 17 = .ok (.aload_n 0, 1) := by decide +kernel
theorem dX3_come_18 : decode cX3_come 18 = .ok (.getfield 23, 3) := by decide +kernel
theorem dX3_come_21 : decode cX3_come 21 = .ok (.arraylength, 1) := by decide +kernel
theorem dX3_come_22 : decode cX3_come 22 = .ok (.if_icmp .ge 21, 3) := by decide +kernel
theorem dX3_come_25 : decode cX3_come 25 = .ok (.aload 4, 2) := by decide +kernel
theorem dX3_come_27 : decode cX3_come 27 = .ok (.iload 5, 2) := by decide +kernel
theorem dX3_come_29 : decode cX3_come 29 = .ok (.aload_n 0, 1) := by decide +kernel
theorem dX3_come_30 : decode cX3_come 30 = .ok (.getfield 23, 3) := by decide +kernel
theorem dX3_come_33 : decode cX3_come 33 = .ok (.iload 5, 2) := by decide +kernel
theorem dX3_come_35 : decode cX3_come 35 = .ok (.aaload, 1) := by decide +kernel
theorem dX3_come_36 : decode cX3_come 36 = .ok (.aastore, 1) := by decide +kernel
theorem dX3_come_37 : decode cX3_come 37 = .ok (.iinc 5 1, 3) := by decide +kernel
theorem dX3_come_40 : decode cX3_come 40 = .ok (.goto (-25), 3) := by decide +kernel
theorem dX3_come_43 : decode cX3_come 43 = .ok (.new 21, 3) := by decide +kernel
theorem dX3_come_46 : decode cX3_come 46 = .ok (.dup, 1) := by decide +kernel
theorem dX3_come_47 : decode cX3_come 47 = .ok (.invokespecial 56, 3) := by decide +kernel
theorem dX3_come_50 : decode cX3_come 50 = .ok (.astore 5, 2) := by decide +kernel
theorem dX3_come_52 : decode cX3_come 52 = .ok (.aload 5, 2) := by decide +kernel
theorem dX3_come_54 : decode cX3_come 54 = .ok (.iload_n 1, 1) := by decide +kernel
theorem dX3_come_55 : decode cX3_come 55 = .ok (.putfield 57, 3) := by decide +kernel
theorem dX3_come_58 : decode cX3_come 58 = .ok (.aload 5, 2) := by decide +kernel
theorem dX3_come_60 : decode cX3_come 60 = .ok (.iload_n 2, 1) := by decide +kernel
theorem dX3_come_61 : decode cX3_come 61 = .ok (.putfield 60, 3) := by decide +kernel
theorem dX3_come_64 : decode cX3_come 64 = .ok (.aload 5, 2) := by decide +kernel
theorem dX3_come_66 : decode cX3_come 66 = .ok (.iload_n 3, 1) := by decide +kernel
theorem dX3_come_67 : decode cX3_come 67 = .ok (.putfield 63, 3) := by decide +kernel
theorem dX3_come_70 : decode cX3_come 70 = .ok (.aload 5, 2) := by decide +kernel
theorem dX3_come_72 : decode cX3_come 72 = .ok (.iload_n 2, 1) := by decide +kernel
theorem dX3_come_73 : decode cX3_come 73 = .ok (.ifCond .le 7, 3) := by decide +kernel
theorem dX3_come_76 : decode cX3_come 76 = .ok (.iconst 1, 1) := by decide +kernel
theorem dX3_come_77 : decode cX3_come 77 = .ok (.goto 4, 3) := by decide +kernel
theorem dX3_come_80 : decode cX3_come 80 = .ok (.iconst 0, 1) := by decide +kernel
theorem dX3_come_81 : decode cX3_come 81 = .ok (.putfield 66, 3) := by decide +kernel
theorem dX3_come_84 : decode cX3_come 84 = .ok (.aload 4, 2) := by decide +kernel
theorem dX3_come_86 : decode cX3_come 86 = .ok (.aload_n 0, 1) := by decide +kernel
theorem dX3_come_87 : decode cX3_come 87 = .ok (.getfield 23, 3) := by decide +kernel
theorem dX3_come_90 : decode cX3_come 90 = .ok (.arraylength, 1) := by decide +kernel
theorem dX3_come_91 : decode cX3_come 91 = .ok (.aload 5, 2) := by decide +kernel
theorem dX3_come_93 : decode cX3_come 93 = .ok (.aastore, 1) := by decide +kernel
theorem dX3_come_94 : decode cX3_come 94 = .ok (.aload_n 0, 1) := by decide +kernel
theorem dX3_come_95 : decode cX3_come 95 = .ok (.aload 4, 2) := by decide +kernel
theorem dX3_come_97 : decode cX3_come 97 = .ok (.putfield 23, 3) := by decide +kernel
theorem dX3_come_100 : decode cX3_come 100 = .ok (.return_, 1) := by decide +kernel
theorem dX3_places_0 : decode cX3_places 0 = .ok (.iconst 0, 1) := by decide +kernel
theorem dX3_places_1 : decode cX3_places 1 = .ok (.istore_n 1, 1) := by decide +kernel
theorem dX3_places_2 : decode cX3_places 2 = .ok (.aload_n 0, 1) := by decide +kernel
theorem dX3_places_3 : decode cX3_places 3 = .ok (.getfield 9, 3) := by decide +kernel
theorem dX3_places_6 : decode cX3_places 6 = .ok (.astore_n 2, 1) := by decide +kernel
theorem dX3_places_7 : decode cX3_places 7 = .ok (.aload_n 2, 1) := by decide +kernel
theorem dX3_places_8 : decode cX3_places 8 = .ok (.arraylength, 1) := by decide +kernel
theorem dX3_places_9 : decode cX3_places 9 = .ok (.istore_n 3, 1) := by decide +kernel
theorem dX3_places_10 : decode cX3_places 10 = .ok (.iconst 0, 1) := by decide +kernel
theorem dX3_places_11 : decode cX3_places 11 = .ok (.istore 4, 2) := by decide +kernel
theorem dX3_places_13 : decode cX3_places 13 = .ok (.iload 4, 2) := by decide +kernel
theorem dX3_places_15 : decode cX3_places 15 = .ok (.iload_n 3, 1) := by decide +kernel
theorem dX3_places_16 : decode cX3_places 16 = .ok (.if_icmp .ge 22, 3) := by decide +kernel
theorem dX3_places_19 : decode cX3_places 19 = .ok (.aload_n 2, 1) := by decide +kernel
theorem dX3_places_20 : decode cX3_places 20 = .ok (.iload 4, 2) := by decide +kernel
theorem dX3_places_22 : decode cX3_places 22 = .ok (.aaload, 1) := by decide +kernel
theorem dX3_places_23 : decode cX3_places 23 = .ok (.astore 5, 2) := by decide +kernel
theorem dX3_places_25 : decode cX3_places 25 = .ok (.iload_n 1, 1) := by decide +kernel
theorem dX3_places_26 : decode cX3_places 26 = .ok (.aload 5, 2) := by decide +kernel
theorem dX3_places_28 : decode cX3_places 28 = .ok (.iconst 0, 1) := by decide +kernel
theorem dX3_places_29 : decode cX3_places 29 = .ok (.iaload, 1) := by decide +kernel
theorem dX3_places_30 : decode cX3_places 30 = .ok (.iadd, 1) := by decide +kernel
theorem dX3_places_31 : decode cX3_places 31 = .ok (.istore_n 1, 1) := by decide +kernel
theorem dX3_places_32 : decode cX3_places 32 = .ok (.iinc 4 1, 3) := by decide +kernel
theorem dX3_places_35 : decode cX3_places 35 = .ok (.goto (-22), 3) := by decide +kernel
theorem dX3_places_38 : decode cX3_places 38 = .ok (.iload_n 1, 1) := by decide +kernel
theorem dX3_places_39 : decode cX3_places 39 = .ok (.ireturn, 1) := by decide +kernel
theorem dX3_lets_0 : decode cX3_lets 0 = .ok (.aload_n 0, 1) := by decide +kernel
theorem dX3_lets_1 : decode cX3_lets 1 = .ok (.getfield 9, 3) := by decide +kernel
theorem dX3_lets_4 : decode cX3_lets 4 = .ok (.iload_n 1, 1) := by decide +kernel
theorem dX3_lets_5 : decode cX3_lets 5 = .ok (.aaload, 1) := by decide +kernel
theorem dX3_lets_6 : decode cX3_lets 6 = .ok (.iconst 1, 1) := by decide +kernel
theorem dX3_lets_7 : decode cX3_lets 7 = .ok (.iaload, 1) := by decide +kernel
theorem dX3_lets_8 : decode cX3_lets 8 = .ok (.istore_n 2, 1) := by decide +kernel
theorem dX3_lets_9 : decode cX3_lets 9 = .ok (.aload_n 0, 1) := by decide +kernel
theorem dX3_lets_10 : decode cX3_lets 10 = .ok (.getfield 15, 3) := by decide +kernel
theorem dX3_lets_13 : decode cX3_lets 13 = .ok (.astore_n 3, 1) := by decide +kernel
theorem dX3_lets_14 : decode cX3_lets 14 = .ok (.aload_n 3, 1) := by decide +kernel
theorem dX3_lets_15 : decode cX3_lets 15 = .ok (.arraylength, 1) := by decide +kernel
theorem dX3_lets_16 : decode cX3_lets 16 = .ok (.istore 4, 2) := by decide +kernel
theorem dX3_lets_18 : decode cX3_lets 18 = .ok (.iconst 0, 1) := by decide +kernel
theorem dX3_lets_19 : decode cX3_lets 19 = .ok (.istore 5, 2) := by decide +kernel
theorem dX3_lets_21 : decode cX3_lets 21 = .ok (.iload 5, 2) := by decide +kernel
theorem dX3_lets_23 : decode cX3_lets 23 = .ok (.iload 4, 2) := by decide +kernel
theorem dX3_lets_25 : decode cX3_lets 25 = .ok (.if_icmp .ge 24, 3) := by decide +kernel
theorem dX3_lets_28 : decode cX3_lets 28 = .ok (.aload_n 3, 1) := by decide +kernel
theorem dX3_lets_29 : decode cX3_lets 29 = .ok (.iload 5, 2) := by decide +kernel
theorem dX3_lets_31 : decode cX3_lets 31 = .ok (.iaload, 1) := by decide +kernel
theorem dX3_lets_32 : decode cX3_lets 32 = .ok (.istore 6, 2) := by decide +kernel
theorem dX3_lets_34 : decode cX3_lets 34 = .ok (.iload 6, 2) := by decide +kernel
theorem dX3_lets_36 : decode cX3_lets 36 = .ok (.iload_n 1, 1) := by decide +kernel
theorem dX3_lets_37 : decode cX3_lets 37 = .ok (.if_icmp .ne 6, 3) := by decide +kernel
theorem dX3_lets_40 : decode cX3_lets 40 = .ok (.iinc 2 1, 3) := by decide +kernel
theorem dX3_lets_43 : decode cX3_lets 43 = .ok (.iinc 5 1, 3) := by decide +kernel
theorem dX3_lets_46 : decode cX3_lets 46 = .ok (.goto (-25), 3) := by decide +kernel
theorem dX3_lets_49 : decode cX3_lets 49 = .ok (.iload_n 2, 1) := by decide +kernel
theorem dX3_lets_50 : decode cX3_lets 50 = .ok (.ireturn, 1) := by decide +kernel
set_option maxRecDepth 20000 in
theorem ggX3_beside_X4_isBeside : GoodIn wsX3_beside wsX4_isBeside := goodIn_r _ [6, 7, 8, 19, 20, 21, 22, 23, 24, 25, 26, 27] (by decide +kernel) (by decide +kernel)
set_option maxRecDepth 20000 in
theorem gX3_beside_X4_isBeside : GoodIn wsX3_beside (wsV RX3 70 RX4 yX4_isBeside wsX4_isBeside) := goodIn_app (goodIn_of _ (by decide +kernel)) ggX3_beside_X4_isBeside
theorem dX3_beside_0 : decode cX3_beside 0 = .ok (.iconst 0, 1) := by decide +kernel
theorem dX3_beside_1 : decode cX3_beside 1 = .ok (.istore_n 2, 1) := by decide +kernel
theorem dX3_beside_2 : decode cX3_beside 2 = .ok (.aload_n 0, 1) := by decide +kernel
theorem dX3_beside_3 : decode cX3_beside 3 = .ok (.getfield 23, 3) := by decide +kernel
theorem dX3_beside_6 : decode cX3_beside 6 = .ok (.astore_n 3, 1) := by decide +kernel
theorem dX3_beside_7 : decode cX3_beside 7 = .ok (.aload_n 3, 1) := by decide +kernel
theorem dX3_beside_8 : decode cX3_beside 8 = .ok (.arraylength, 1) := by decide +kernel
theorem dX3_beside_9 : decode cX3_beside 9 = .ok (.istore 4, 2) := by decide +kernel
theorem dX3_beside_11 : decode cX3_beside 11 = .ok (.iconst 0, 1) := by decide +kernel
theorem dX3_beside_12 : decode cX3_beside 12 = .ok (.istore 5, 2) := by decide +kernel
theorem dX3_beside_14 : decode cX3_beside 14 = .ok (.iload 5, 2) := by decide +kernel
theorem dX3_beside_16 : decode cX3_beside 16 = .ok (.iload 4, 2) := by decide +kernel
theorem dX3_beside_18 : decode cX3_beside 18 = .ok (.if_icmp .ge 32, 3) := by decide +kernel
theorem dX3_beside_21 : decode cX3_beside 21 = .ok (.aload_n 3, 1) := by decide +kernel
theorem dX3_beside_22 : decode cX3_beside 22 = .ok (.iload 5, 2) := by decide +kernel
theorem dX3_beside_24 : decode cX3_beside 24 = .ok (.aaload, 1) := by decide +kernel
theorem dX3_beside_25 : decode cX3_beside 25 = .ok (.astore 6, 2) := by decide +kernel
theorem dX3_beside_27 : decode cX3_beside 27 = .ok (.iload_n 2, 1) := by decide +kernel
theorem dX3_beside_28 : decode cX3_beside 28 = .ok (.aload_n 1, 1) := by decide +kernel
theorem dX3_beside_29 : decode cX3_beside 29 = .ok (.aload 6, 2) := by decide +kernel
theorem dX3_beside_31 : decode cX3_beside 31 = .ok (.invokevirtual 70, 3) := by decide +kernel
theorem dX3_beside_34 : decode cX3_beside 34 = .ok (.ifCond .eq 7, 3) := by decide +kernel
theorem dX3_beside_37 : decode cX3_beside 37 = .ok (.iconst 1, 1) := by decide +kernel
theorem dX3_beside_38 : decode cX3_beside 38 = .ok (.goto 4, 3) := by decide +kernel
theorem dX3_beside_41 : decode cX3_beside 41 = .ok (.iconst 0, 1) := by decide +kernel
theorem dX3_beside_42 : decode cX3_beside 42 = .ok (.iadd, 1) := by decide +kernel
theorem dX3_beside_43 : decode cX3_beside 43 = .ok (.istore_n 2, 1) := by decide +kernel
theorem dX3_beside_44 : decode cX3_beside 44 = .ok (.iinc 5 1, 3) := by decide +kernel
theorem dX3_beside_47 : decode cX3_beside 47 = .ok (.goto (-33), 3) := by decide +kernel
theorem dX3_beside_50 : decode cX3_beside 50 = .ok (.iload_n 2, 1) := by decide +kernel
theorem dX3_beside_51 : decode cX3_beside 51 = .ok (.ireturn, 1) := by decide +kernel
theorem dX3_on_0 : decode cX3_on 0 = .ok (.iconst 0, 1) := by decide +kernel
theorem dX3_on_1 : decode cX3_on 1 = .ok (.istore_n 2, 1) := by decide +kernel
theorem dX3_on_2 : decode cX3_on 2 = .ok (.aload_n 0, 1) := by decide +kernel
theorem dX3_on_3 : decode cX3_on 3 = .ok (.getfield 23, 3) := by decide +kernel
theorem dX3_on_6 : decode cX3_on 6 = .ok (.astore_n 3, 1) := by decide +kernel
theorem dX3_on_7 : decode cX3_on 7 = .ok (.aload_n 3, 1) := by decide +kernel
theorem dX3_on_8 : decode cX3_on 8 = .ok (.arraylength, 1) := by decide +kernel
theorem dX3_on_9 : decode cX3_on 9 = .ok (.istore 4, 2) := by decide +kernel
theorem dX3_on_11 : decode cX3_on 11 = .ok (.iconst 0, 1) := by decide +kernel
theorem dX3_on_12 : decode cX3_on 12 = .ok (.istore 5, 2) := by decide +kernel
theorem dX3_on_14 : decode cX3_on 14 = .ok (.iload 5, 2) := by decide +kernel
theorem dX3_on_16 : decode cX3_on 16 = .ok (.iload 4, 2) := by decide +kernel
theorem dX3_on_18 : decode cX3_on 18 = .ok (.if_icmp .ge 41, 3) := by decide +kernel
theorem dX3_on_21 : decode cX3_on 21 = .ok (.aload_n 3, 1) := by decide +kernel
theorem dX3_on_22 : decode cX3_on 22 = .ok (.iload 5, 2) := by decide +kernel
theorem dX3_on_24 : decode cX3_on 24 = .ok (.aaload, 1) := by decide +kernel
theorem dX3_on_25 : decode cX3_on 25 = .ok (.astore 6, 2) := by decide +kernel
theorem dX3_on_27 : decode cX3_on 27 = .ok (.iload_n 2, 1) := by decide +kernel
theorem dX3_on_28 : decode cX3_on 28 = .ok (.aload 6, 2) := by decide +kernel
theorem dX3_on_30 : decode cX3_on 30 = .ok (.getfield 74, 3) := by decide +kernel
theorem dX3_on_33 : decode cX3_on 33 = .ok (.iconst 1, 1) := by decide +kernel
theorem dX3_on_34 : decode cX3_on 34 = .ok (.if_icmp .ne 16, 3) := by decide +kernel
theorem dX3_on_37 : decode cX3_on 37 = .ok (.aload 6, 2) := by decide +kernel
theorem dX3_on_39 : decode cX3_on 39 = .ok (.getfield 77, 3) := by decide +kernel
theorem dX3_on_42 : decode cX3_on 42 = .ok (.iload_n 1, 1) := by decide +kernel
theorem dX3_on_43 : decode cX3_on 43 = .ok (.if_icmp .ne 7, 3) := by decide +kernel
theorem dX3_on_46 : decode cX3_on 46 = .ok (.iconst 1, 1) := by decide +kernel
theorem dX3_on_47 : decode cX3_on 47 = .ok (.goto 4, 3) := by decide +kernel
theorem dX3_on_50 : decode cX3_on 50 = .ok (.iconst 0, 1) := by decide +kernel
theorem dX3_on_51 : decode cX3_on 51 = .ok (.iadd, 1) := by decide +kernel
theorem dX3_on_52 : decode cX3_on 52 = .ok (.istore_n 2, 1) := by decide +kernel
theorem dX3_on_53 : decode cX3_on 53 = .ok (.iinc 5 1, 3) := by decide +kernel
theorem dX3_on_56 : decode cX3_on 56 = .ok (.goto (-42), 3) := by decide +kernel
theorem dX3_on_59 : decode cX3_on 59 = .ok (.iload_n 2, 1) := by decide +kernel
theorem dX3_on_60 : decode cX3_on 60 = .ok (.ireturn, 1) := by decide +kernel
theorem dX3_corner_0 : decode cX3_corner 0 = .ok (.iconst 0, 1) := by decide +kernel
theorem dX3_corner_1 : decode cX3_corner 1 = .ok (.istore_n 2, 1) := by decide +kernel
theorem dX3_corner_2 : decode cX3_corner 2 = .ok (.iload_n 2, 1) := by decide +kernel
theorem dX3_corner_3 : decode cX3_corner 3 = .ok (.aload_n 0, 1) := by decide +kernel
theorem dX3_corner_4 : decode cX3_corner 4 = .ok (.getfield 9, 3) := by decide +kernel
theorem dX3_corner_7 : decode cX3_corner 7 = .ok (.arraylength, 1) := by decide +kernel
theorem dX3_corner_8 : decode cX3_corner 8 = .ok (.if_icmp .ge 34, 3) := by decide +kernel
theorem dX3_corner_11 : decode cX3_corner 11 = .ok (.aload_n 0, 1) := by decide +kernel
theorem dX3_corner_12 : decode cX3_corner 12 = .ok (.getfield 9, 3) := by decide +kernel
theorem dX3_corner_15 : decode cX3_corner 15 = .ok (.iload_n 2, 1) := by decide +kernel
theorem dX3_corner_16 : decode cX3_corner 16 = .ok (.aaload, 1) := by decide +kernel
theorem dX3_corner_17 : decode cX3_corner 17 = .ok (.iconst 2, 1) := by decide +kernel
theorem dX3_corner_18 : decode cX3_corner 18 = .ok (.iaload, 1) := by decide +kernel
theorem dX3_corner_19 : decode cX3_corner 19 = .ok (.aload_n 0, 1) := by decide +kernel
theorem dX3_corner_20 : decode cX3_corner 20 = .ok (.getfield 9, 3) := by decide +kernel
theorem dX3_corner_23 : decode cX3_corner 23 = .ok (.iload_n 2, 1) := by decide +kernel
theorem dX3_corner_24 : decode cX3_corner 24 = .ok (.aaload, 1) := by decide +kernel
theorem dX3_corner_25 : decode cX3_corner 25 = .ok (.iconst 0, 1) := by decide +kernel
theorem dX3_corner_26 : decode cX3_corner 26 = .ok (.iaload, 1) := by decide +kernel
theorem dX3_corner_27 : decode cX3_corner 27 = .ok (.iadd, 1) := by decide +kernel
theorem dX3_corner_28 : decode cX3_corner 28 = .ok (.iconst 1, 1) := by decide +kernel
theorem dX3_corner_29 : decode cX3_corner 29 = .ok (.isub, 1) := by decide +kernel
theorem dX3_corner_30 : decode cX3_corner 30 = .ok (.iload_n 1, 1) := by decide +kernel
theorem dX3_corner_31 : decode cX3_corner 31 = .ok (.if_icmp .ne 5, 3) := by decide +kernel
theorem dX3_corner_34 : decode cX3_corner 34 = .ok (.iload_n 2, 1) := by decide +kernel
theorem dX3_corner_35 : decode cX3_corner 35 = .ok (.ireturn, 1) := by decide +kernel
theorem dX3_corner_36 : decode cX3_corner 36 = .ok (.iinc 2 1, 3) := by decide +kernel
theorem dX3_corner_39 : decode cX3_corner 39 = .ok (.goto (-37), 3) := by decide +kernel
theorem dX3_corner_42 : decode cX3_corner 42 = .ok (.iconst (-1), 1) := by decide +kernel
theorem dX3_corner_43 : decode cX3_corner 43 = .ok (.ireturn, 1) := by decide +kernel
set_option maxRecDepth 20000 in
theorem ggX3_go_X3_corner : GoodIn wsX3_go wsX3_corner := goodIn_r _ [13, 4, 33, 34, 35, 36, 37, 38, 39, 40, 41, 42] (by decide +kernel) (by decide +kernel)
set_option maxRecDepth 20000 in
theorem gX3_go_X3_corner : GoodIn wsX3_go (wsV RX3 80 RX3 yX3_corner wsX3_corner) := goodIn_app (goodIn_of _ (by decide +kernel)) ggX3_go_X3_corner
set_option maxRecDepth 20000 in
theorem ggX3_go_X3_on : GoodIn wsX3_go wsX3_on := goodIn_r _ [17, 18, 6, 3, 33, 34, 35, 36, 37, 38, 39, 40, 41, 42, 24, 25, 26, 27, 28, 29, 30, 31, 32] (by decide +kernel) (by decide +kernel)
set_option maxRecDepth 20000 in
theorem gX3_go_X3_on : GoodIn wsX3_go (wsV RX3 84 RX3 yX3_on wsX3_on) := goodIn_app (goodIn_of _ (by decide +kernel)) ggX3_go_X3_on
set_option maxRecDepth 20000 in
theorem ggX3_go_X3_lets : GoodIn wsX3_go wsX3_lets := goodIn_r _ [22, 4, 23, 33, 34, 35, 36, 37, 38, 39, 40, 41, 42] (by decide +kernel) (by decide +kernel)
set_option maxRecDepth 20000 in
theorem gX3_go_X3_lets : GoodIn wsX3_go (wsV RX3 87 RX3 yX3_lets wsX3_lets) := goodIn_app (goodIn_of _ (by decide +kernel)) ggX3_go_X3_lets
theorem dX3_go_0 : decode cX3_go 0 = .ok (.aload_n 1, 1) := by decide +kernel
theorem dX3_go_1 : decode cX3_go 1 = .ok (.getfield 66, 3) := by decide +kernel
theorem dX3_go_4 : decode cX3_go 4 = .ok (.ifCond .ne 11, 3) := by decide +kernel
theorem dX3_go_7 : decode cX3_go 7 = .ok (.aload_n 1, 1) := by decide +kernel
theorem dX3_go_8 : decode cX3_go 8 = .ok (.getfield 57, 3) := by decide +kernel
theorem dX3_go_11 : decode cX3_go 11 = .ok (.iconst 1, 1) := by decide +kernel
theorem dX3_go_12 : decode cX3_go 12 = .ok (.if_icmp .ne 10, 3) := by decide +kernel
theorem dX3_go_15 : decode cX3_go 15 = .ok (.aload_n 1, 1) := by decide +kernel
theorem dX3_go_16 : decode cX3_go 16 = .ok (.getfield 57, 3) := by decide +kernel
theorem dX3_go_19 : decode cX3_go 19 = .ok (.goto 9, 3) := by decide +kernel
theorem dX3_go_22 : decode cX3_go 22 = .ok (.aload_n 1, 1) := by decide +kernel
theorem dX3_go_23 : decode cX3_go 23 = .ok (.getfield 57, 3) := by decide +kernel
theorem dX3_go_26 : decode cX3_go 26 = .ok (.iconst 1, 1) := by decide +kernel
theorem dX3_go_27 : decode cX3_go 27 = .ok (.isub, 1) := by decide +kernel
theorem dX3_go_28 : decode cX3_go 28 = .ok (.istore_n 2, 1) := by decide +kernel
theorem dX3_go_29 : decode cX3_go 29 = .ok (.iconst 0, 1) := by decide +kernel
theorem dX3_go_30 : decode cX3_go 30 = .ok (.istore_n 3, 1) := by decide +kernel
theorem dX3_go_31 : decode cX3_go 31 = .ok (.iload_n 3, 1) := by decide +kernel
theorem dX3_go_32 : decode cX3_go 32 = .ok (.iload_n 2, 1) := by decide +kernel
theorem dX3_go_33 : decode cX3_go 33 = .ok (.if_icmp .ge 154, 3) := by decide +kernel
theorem dX3_go_36 : decode cX3_go 36 = .ok (.aload_n 0, 1) := by decide +kernel
theorem dX3_go_37 : decode cX3_go 37 = .ok (.aload_n 1, 1) := by decide +kernel
theorem dX3_go_38 : decode cX3_go 38 = .ok (.getfield 77, 3) := by decide +kernel
theorem dX3_go_41 : decode cX3_go 41 = .ok (.invokevirtual 80, 3) := by decide +kernel
theorem dX3_go_44 : decode cX3_go 44 = .ok (.istore 4, 2) := by decide +kernel
theorem dX3_go_46 : decode cX3_go 46 = .ok (.iload 4, 2) := by decide +kernel
theorem dX3_go_48 : decode cX3_go 48 = .ok (.aload_n 0, 1) := by decide +kernel
theorem dX3_go_49 : decode cX3_go 49 = .ok (.getfield 9, 3) := by decide +kernel
theorem dX3_go_52 : decode cX3_go 52 = .ok (.arraylength, 1) := by decide +kernel
theorem dX3_go_53 : decode cX3_go 53 = .ok (.iconst 1, 1) := by decide +kernel
theorem dX3_go_54 : decode cX3_go 54 = .ok (.isub, 1) := by decide +kernel
theorem dX3_go_55 : decode cX3_go 55 = .ok (.if_icmp .ne 7, 3) := by decide +kernel
theorem dX3_go_58 : decode cX3_go 58 = .ok (.iconst 1, 1) := by decide +kernel
theorem dX3_go_59 : decode cX3_go 59 = .ok (.goto 4, 3) := by decide +kernel
theorem dX3_go_62 : decode cX3_go 62 = .ok (.iconst 0, 1) := by decide +kernel
theorem dX3_go_63 : decode cX3_go 63 = .ok (.istore 5, 2) := by decide +kernel
theorem dX3_go_65 : decode cX3_go 65 = .ok (.iload 5, 2) := by decide +kernel
theorem dX3_go_67 : decode cX3_go 67 = .ok (.ifCond .ne 18, 3) := by decide +kernel
theorem dX3_go_70 : decode cX3_go 70 = .ok (.aload_n 0, 1) := by decide +kernel
theorem dX3_go_71 : decode cX3_go 71 = .ok (.aload_n 1, 1) := by decide +kernel
theorem dX3_go_72 : decode cX3_go 72 = .ok (.getfield 77, 3) := by decide +kernel
theorem dX3_go_75 : decode cX3_go 75 = .ok (.iconst 1, 1) := by decide +kernel
theorem dX3_go_76 : decode cX3_go 76 = .ok (.iadd, 1) := by decide +kernel
theorem dX3_go_77 : decode cX3_go 77 = .ok (.invokevirtual 84, 3) := by decide +kernel
theorem dX3_go_80 : decode cX3_go 80 = .ok (.iconst 2, 1) := by decide +kernel
theorem dX3_go_81 : decode cX3_go 81 = .ok (.if_icmp .ne 4, 3) := by decide +kernel
theorem dX3_go_84 : decode cX3_go 84 = .ok (.return_, 1) := by decide +kernel
theorem dX3_go_85 : decode cX3_go 85 = .ok (.iload 4, 2) := by decide +kernel
theorem dX3_go_87 : decode cX3_go 87 = .ok (.ifCond .lt 57, 3) := by decide +kernel
theorem dX3_go_90 : decode cX3_go 90 = .ok (.aload_n 0, 1) := by decide +kernel
theorem dX3_go_91 : decode cX3_go 91 = .ok (.getfield 37, 3) := by decide +kernel
theorem dX3_go_94 : decode cX3_go 94 = .ok (.iload 4, 2) := by decide +kernel
theorem dX3_go_96 : decode cX3_go 96 = .ok (.iaload, 1) := by decide +kernel
theorem dX3_go_97 : decode cX3_go 97 = .ok (.aload_n 0, 1) := by decide +kernel
theorem dX3_go_98 : decode cX3_go 98 = .ok (.iload 4, 2) := by decide +kernel
theorem dX3_go_100 : decode cX3_go 100 = .ok (.invokevirtual 87, 3) := by decide +kernel
theorem dX3_go_103 : decode cX3_go 103 = .ok (.if_icmp .lt 17, 3) := by decide +kernel
theorem dX3_go_106 : decode cX3_go 106 = .ok (.aload_n 0, 1) := by decide +kernel
theorem dX3_go_107 : decode cX3_go 107 = .ok (.getfield 9, 3) := by decide +kernel
theorem dX3_go_110 : decode cX3_go 110 = .ok (.iload 4, 2) := by decide +kernel
theorem dX3_go_112 : decode cX3_go 112 = .ok (.aaload, 1) := by decide +kernel
theorem dX3_go_113 : decode cX3_go 113 = .ok (.iconst 4, 1) := by decide +kernel
theorem dX3_go_114 : decode cX3_go 114 = .ok (.dup2, 1) := by decide +kernel
theorem dX3_go_115 : decode cX3_go 115 = .ok (.iaload, 1) := by decide +kernel
theorem dX3_go_116 : decode cX3_go 116 = .ok (.iconst 1, 1) := by decide +kernel
theorem dX3_go_117 : decode cX3_go 117 = .ok (.iadd, 1) := by decide +kernel
theorem dX3_go_118 : decode cX3_go 118 = .ok (.iastore, 1) := by decide +kernel
theorem dX3_go_119 : decode cX3_go 119 = .ok (.return_, 1) := by decide +kernel
theorem dX3_go_120 : decode cX3_go 120 = .ok (.aload_n 0, 1) := by decide +kernel
theorem dX3_go_121 : decode cX3_go 121 = .ok (.getfield 37, 3) := by decide +kernel
theorem dX3_go_124 : decode cX3_go 124 = .ok (.iload 4, 2) := by decide +kernel
theorem dX3_go_126 : decode cX3_go 126 = .ok (.dup2, 1) := by decide +kernel
theorem dX3_go_127 : decode cX3_go 127 = .ok (.iaload, 1) := by decide +kernel
theorem dX3_go_128 : decode cX3_go 128 = .ok (.iconst 1, 1) := by decide +kernel
theorem dX3_go_129 : decode cX3_go 129 = .ok (.iadd, 1) := by decide +kernel
theorem dX3_go_130 : decode cX3_go 130 = .ok (.iastore, 1) := by decide +kernel
theorem dX3_go_131 : decode cX3_go 131 = .ok (.aload_n 0, 1) := by decide +kernel
theorem dX3_go_132 : decode cX3_go 132 = .ok (.getfield 9, 3) := by decide +kernel
theorem dX3_go_135 : decode cX3_go 135 = .ok (.iload 4, 2) := by decide +kernel
theorem dX3_go_137 : decode cX3_go 137 = .ok (.aaload, 1) := by decide +kernel
theorem dX3_go_138 : decode cX3_go 138 = .ok (.iconst 3, 1) := by decide +kernel
theorem dX3_go_139 : decode cX3_go 139 = .ok (.dup2, 1) := by decide +kernel
theorem dX3_go_140 : decode cX3_go 140 = .ok (.iaload, 1) := by decide +kernel
theorem dX3_go_141 : decode cX3_go 141 = .ok (.iconst 1, 1) := by decide +kernel
theorem dX3_go_142 : decode cX3_go 142 = .ok (.iadd, 1) := by decide +kernel
theorem dX3_go_143 : decode cX3_go 143 = .ok (.iastore, 1) := by decide +kernel
theorem dX3_go_144 : decode cX3_go 144 = .ok (.aload_n 1, 1) := by decide +kernel
theorem dX3_go_145 : decode cX3_go 145 = .ok (.dup, 1) := by decide +kernel
theorem dX3_go_146 : decode cX3_go 146 = .ok (.getfield 77, 3) := by decide +kernel
theorem dX3_go_149 : decode cX3_go 149 = .ok (.iconst 1, 1) := by decide +kernel
theorem dX3_go_150 : decode cX3_go 150 = .ok (.iadd, 1) := by decide +kernel
theorem dX3_go_151 : decode cX3_go 151 = .ok (.putfield 77, 3) := by decide +kernel
theorem dX3_go_154 : decode cX3_go 154 = .ok (.iload 5, 2) := by decide +kernel
theorem dX3_go_156 : decode cX3_go 156 = .ok (.ifCond .ne 6, 3) := by decide +kernel
theorem dX3_go_159 : decode cX3_go 159 = .ok (.goto 22, 3) := by decide +kernel
theorem dX3_go_162 : decode cX3_go 162 = .ok (.aload_n 1, 1) := by decide +kernel
theorem dX3_go_163 : decode cX3_go 163 = .ok (.iconst (-1), 1) := by decide +kernel
theorem dX3_go_164 : decode cX3_go 164 = .ok (.putfield 77, 3) := by decide +kernel
theorem dX3_go_167 : decode cX3_go 167 = .ok (.aload_n 1, 1) := by decide +kernel
theorem dX3_go_168 : decode cX3_go 168 = .ok (.iconst 2, 1) := by decide +kernel
theorem dX3_go_169 : decode cX3_go 169 = .ok (.putfield 74, 3) := by decide +kernel
theorem dX3_go_172 : decode cX3_go 172 = .ok (.aload_n 1, 1) := by decide +kernel
theorem dX3_go_173 : decode cX3_go 173 = .ok (.aload_n 0, 1) := by decide +kernel
theorem dX3_go_174 : decode cX3_go 174 = .ok (.getfield 52, 3) := by decide +kernel
theorem dX3_go_177 : decode cX3_go 177 = .ok (.putfield 90, 3) := by decide +kernel
theorem dX3_go_180 : decode cX3_go 180 = .ok (.return_, 1) := by decide +kernel
theorem dX3_go_181 : decode cX3_go 181 = .ok (.iinc 3 1, 3) := by decide +kernel
theorem dX3_go_184 : decode cX3_go 184 = .ok (.goto (-153), 3) := by decide +kernel
theorem dX3_go_187 : decode cX3_go 187 = .ok (.return_, 1) := by decide +kernel
theorem dX3_in_0 : decode cX3_in 0 = .ok (.iconst 0, 1) := by decide +kernel
theorem dX3_in_1 : decode cX3_in 1 = .ok (.istore_n 2, 1) := by decide +kernel
theorem dX3_in_2 : decode cX3_in 2 = .ok (.aload_n 0, 1) := by decide +kernel
theorem dX3_in_3 : decode cX3_in 3 = .ok (.getfield 23, 3) := by decide +kernel
theorem dX3_in_6 : decode cX3_in 6 = .ok (.astore_n 3, 1) := by decide +kernel
theorem dX3_in_7 : decode cX3_in 7 = .ok (.aload_n 3, 1) := by decide +kernel
theorem dX3_in_8 : decode cX3_in 8 = .ok (.arraylength, 1) := by decide +kernel
theorem dX3_in_9 : decode cX3_in 9 = .ok (.istore 4, 2) := by decide +kernel
theorem dX3_in_11 : decode cX3_in 11 = .ok (.iconst 0, 1) := by decide +kernel
theorem dX3_in_12 : decode cX3_in 12 = .ok (.istore 5, 2) := by decide +kernel
theorem dX3_in_14 : decode cX3_in 14 = .ok (.iload 5, 2) := by decide +kernel
theorem dX3_in_16 : decode cX3_in 16 = .ok (.iload 4, 2) := by decide +kernel
theorem dX3_in_18 : decode cX3_in 18 = .ok (.if_icmp .ge 32, 3) := by decide +kernel
theorem dX3_in_21 : decode cX3_in 21 = .ok (.aload_n 3, 1) := by decide +kernel
theorem dX3_in_22 : decode cX3_in 22 = .ok (.iload 5, 2) := by decide +kernel
theorem dX3_in_24 : decode cX3_in 24 = .ok (.aaload, 1) := by decide +kernel
theorem dX3_in_25 : decode cX3_in 25 = .ok (.astore 6, 2) := by decide +kernel
theorem dX3_in_27 : decode cX3_in 27 = .ok (.iload_n 2, 1) := by decide +kernel
theorem dX3_in_28 : decode cX3_in 28 = .ok (.aload 6, 2) := by decide +kernel
theorem dX3_in_30 : decode cX3_in 30 = .ok (.getfield 74, 3) := by decide +kernel
theorem dX3_in_33 : decode cX3_in 33 = .ok (.iload_n 1, 1) := by decide +kernel
theorem dX3_in_34 : decode cX3_in 34 = .ok (.if_icmp .ne 7, 3) := by decide +kernel
theorem dX3_in_37 : decode cX3_in 37 = .ok (.iconst 1, 1) := by decide +kernel
theorem dX3_in_38 : decode cX3_in 38 = .ok (.goto 4, 3) := by decide +kernel
theorem dX3_in_41 : decode cX3_in 41 = .ok (.iconst 0, 1) := by decide +kernel
theorem dX3_in_42 : decode cX3_in 42 = .ok (.iadd, 1) := by decide +kernel
theorem dX3_in_43 : decode cX3_in 43 = .ok (.istore_n 2, 1) := by decide +kernel
theorem dX3_in_44 : decode cX3_in 44 = .ok (.iinc 5 1, 3) := by decide +kernel
theorem dX3_in_47 : decode cX3_in 47 = .ok (.goto (-33), 3) := by decide +kernel
theorem dX3_in_50 : decode cX3_in 50 = .ok (.iload_n 2, 1) := by decide +kernel
theorem dX3_in_51 : decode cX3_in 51 = .ok (.ireturn, 1) := by decide +kernel
theorem dX3_burning_0 : decode cX3_burning 0 = .ok (.iconst 0, 1) := by decide +kernel
theorem dX3_burning_1 : decode cX3_burning 1 = .ok (.istore_n 1, 1) := by decide +kernel
theorem dX3_burning_2 : decode cX3_burning 2 = .ok (.aload_n 0, 1) := by decide +kernel
theorem dX3_burning_3 : decode cX3_burning 3 = .ok (.getfield 23, 3) := by decide +kernel
theorem dX3_burning_6 : decode cX3_burning 6 = .ok (.astore_n 2, 1) := by decide +kernel
theorem dX3_burning_7 : decode cX3_burning 7 = .ok (.aload_n 2, 1) := by decide +kernel
theorem dX3_burning_8 : decode cX3_burning 8 = .ok (.arraylength, 1) := by decide +kernel
theorem dX3_burning_9 : decode cX3_burning 9 = .ok (.istore_n 3, 1) := by decide +kernel
theorem dX3_burning_10 : decode cX3_burning 10 = .ok (.iconst 0, 1) := by decide +kernel
theorem dX3_burning_11 : decode cX3_burning 11 = .ok (.istore 4, 2) := by decide +kernel
theorem dX3_burning_13 : decode cX3_burning 13 = .ok (.iload 4, 2) := by decide +kernel
theorem dX3_burning_15 : decode cX3_burning 15 = .ok (.iload_n 3, 1) := by decide +kernel
theorem dX3_burning_16 : decode cX3_burning 16 = .ok (.if_icmp .ge 40, 3) := by decide +kernel
theorem dX3_burning_19 : decode cX3_burning 19 = .ok (.aload_n 2, 1) := by decide +kernel
theorem dX3_burning_20 : decode cX3_burning 20 = .ok (.iload 4, 2) := by decide +kernel
theorem dX3_burning_22 : decode cX3_burning 22 = .ok (.aaload, 1) := by decide +kernel
theorem dX3_burning_23 : decode cX3_burning 23 = .ok (.astore 5, 2) := by decide +kernel
theorem dX3_burning_25 : decode cX3_burning 25 = .ok (.iload_n 1, 1) := by decide +kernel
theorem dX3_burning_26 : decode cX3_burning 26 = .ok (.aload 5, 2) := by decide +kernel
theorem dX3_burning_28 : decode cX3_burning 28 = .ok (.getfield 74, 3) := by decide +kernel
theorem dX3_burning_31 : decode cX3_burning 31 = .ok (.iconst 1, 1) := by decide +kernel
theorem dX3_burning_32 : decode cX3_burning 32 = .ok (.if_icmp .ne 15, 3) := by decide +kernel
theorem dX3_burning_35 : decode cX3_burning 35 = .ok (.aload 5, 2) := by decide +kernel
theorem dX3_burning_37 : decode cX3_burning 37 = .ok (.getfield 66, 3) := by decide +kernel
theorem dX3_burning_40 : decode cX3_burning 40 = .ok (.ifCond .eq 7, 3) := by decide +kernel
theorem dX3_burning_43 : decode cX3_burning 43 = .ok (.iconst 1, 1) := by decide +kernel
theorem dX3_burning_44 : decode cX3_burning 44 = .ok (.goto 4, 3) := by decide +kernel
theorem dX3_burning_47 : decode cX3_burning 47 = .ok (.iconst 0, 1) := by decide +kernel
theorem dX3_burning_48 : decode cX3_burning 48 = .ok (.iadd, 1) := by decide +kernel
theorem dX3_burning_49 : decode cX3_burning 49 = .ok (.istore_n 1, 1) := by decide +kernel
theorem dX3_burning_50 : decode cX3_burning 50 = .ok (.iinc 4 1, 3) := by decide +kernel
theorem dX3_burning_53 : decode cX3_burning 53 = .ok (.goto (-40), 3) := by decide +kernel
theorem dX3_burning_56 : decode cX3_burning 56 = .ok (.iload_n 1, 1) := by decide +kernel
theorem dX3_burning_57 : decode cX3_burning 57 = .ok (.ireturn, 1) := by decide +kernel
