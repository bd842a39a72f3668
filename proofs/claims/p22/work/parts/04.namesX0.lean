set_option maxRecDepth 20000 in
theorem ggX0_init_J7_fill_53178 : GoodIn wsX0_init wsJ7_fill_53178 := goodIn_r _ [25] (by decide +kernel) (by decide +kernel)
set_option maxRecDepth 20000 in
theorem gX0_init_J7_fill_53178 : GoodIn wsX0_init (va_wsS RX0 62 yJ7_fill_53178 wsJ7_fill_53178) := goodIn_app (goodIn_of _ (by decide +kernel)) ggX0_init_J7_fill_53178
theorem dX0_init_0 : decode cX0_init 0 = .ok (.aload_n 0, 1) := by decide +kernel
theorem dX0_init_1 : decode cX0_init 1 = .ok (.invokespecial 3, 3) := by decide +kernel
theorem dX0_init_4 : decode cX0_init 4 = .ok (.aload_n 0, 1) := by decide +kernel
theorem dX0_init_5 : decode cX0_init 5 = .ok (.iconst 2, 1) := by decide +kernel
theorem dX0_init_6 : decode cX0_init 6 = .ok (.newarray .int, 2) := by decide +kernel
theorem dX0_init_8 : decode cX0_init 8 = .ok (.putfield 9, 3) := by decide +kernel
theorem dX0_init_11 : decode cX0_init 11 = .ok (.aload_n 0, 1) := by decide +kernel
theorem dX0_init_12 : decode cX0_init 12 = .ok (.bipush 10, 2) := by decide +kernel
theorem dX0_init_14 : decode cX0_init 14 = .ok (.newarray .int, 2) := by decide +kernel
theorem dX0_init_16 : decode cX0_init 16 = .ok (.putfield 15, 3) := by decide +kernel
theorem dX0_init_19 : decode cX0_init 19 = .ok (.aload_n 0, 1) := by decide +kernel
theorem dX0_init_20 : decode cX0_init 20 = .ok (.bipush 10, 2) := by decide +kernel
theorem dX0_init_22 : decode cX0_init 22 = .ok (.newarray .int, 2) := by decide +kernel
theorem dX0_init_24 : decode cX0_init 24 = .ok (.putfield 18, 3) := by decide +kernel
theorem dX0_init_27 : decode cX0_init 27 = .ok (.aload_n 0, 1) := by decide +kernel
theorem dX0_init_28 : decode cX0_init 28 = .ok (.bipush 20, 2) := by decide +kernel
theorem dX0_init_30 : decode cX0_init 30 = .ok (.newarray .int, 2) := by decide +kernel
theorem dX0_init_32 : decode cX0_init 32 = .ok (.putfield 21, 3) := by decide +kernel
theorem dX0_init_35 : decode cX0_init 35 = .ok (.aload_n 0, 1) := by decide +kernel
theorem dX0_init_36 : decode cX0_init 36 = .ok (.bipush 20, 2) := by decide +kernel
theorem dX0_init_38 : decode cX0_init 38 = .ok (.newarray .boolean, 2) := by decide +kernel
theorem dX0_init_40 : decode cX0_init 40 = .ok (.putfield 24, 3) := by decide +kernel
theorem dX0_init_43 : decode cX0_init 43 = .ok (.aload_n 0, 1) := by decide +kernel
theorem dX0_init_44 : decode cX0_init 44 = .ok (.bipush 20, 2) := by decide +kernel
theorem dX0_init_46 : decode cX0_init 46 = .ok (.newarray .int, 2) := by decide +kernel
theorem dX0_init_48 : decode cX0_init 48 = .ok (.putfield 28, 3) := by decide +kernel
theorem dX0_init_51 : decode cX0_init 51 = .ok (.aload_n 0, 1) := by decide +kernel
theorem dX0_init_52 : decode cX0_init 52 = .ok (.bipush 20, 2) := by decide +kernel
theorem dX0_init_54 : decode cX0_init 54 = .ok (.newarray .int, 2) := by decide +kernel
theorem dX0_init_56 : decode cX0_init 56 = .ok (.putfield 31, 3) := by decide +kernel
theorem dX0_init_59 : decode cX0_init 59 = .ok (.aload_n 0, 1) := by decide +kernel
theorem dX0_init_60 : decode cX0_init 60 = .ok (.bipush 20, 2) := by decide +kernel
theorem dX0_init_62 : decode cX0_init 62 = .ok (.newarray .int, 2) := by decide +kernel
theorem dX0_init_64 : decode cX0_init 64 = .ok (.putfield 34, 3) := by decide +kernel
theorem dX0_init_67 : decode cX0_init 67 = .ok (.aload_n 0, 1) := by decide +kernel
theorem dX0_init_68 : decode cX0_init 68 = .ok (.bipush 20, 2) := by decide +kernel
theorem dX0_init_70 : decode cX0_init 70 = .ok (.newarray .int, 2) := by decide +kernel
theorem dX0_init_72 : decode cX0_init 72 = .ok (.putfield 37, 3) := by decide +kernel
theorem dX0_init_75 : decode cX0_init 75 = .ok (.aload_n 0, 1) := by decide +kernel
theorem dX0_init_76 : decode cX0_init 76 = .ok (.bipush 120, 2) := by decide +kernel
theorem dX0_init_78 : decode cX0_init 78 = .ok (.newarray .int, 2) := by decide +kernel
theorem dX0_init_80 : decode cX0_init 80 = .ok (.putfield 40, 3) := by decide +kernel
theorem dX0_init_83 : decode cX0_init 83 = .ok (.aload_n 0, 1) := by decide +kernel
theorem dX0_init_84 : decode cX0_init 84 = .ok (.bipush 20, 2) := by decide +kernel
theorem dX0_init_86 : decode cX0_init 86 = .ok (.newarray .boolean, 2) := by decide +kernel
theorem dX0_init_88 : decode cX0_init 88 = .ok (.putfield 43, 3) := by decide +kernel
theorem dX0_init_91 : decode cX0_init 91 = .ok (.aload_n 0, 1) := by decide +kernel
theorem dX0_init_92 : decode cX0_init 92 = .ok (.bipush 120, 2) := by decide +kernel
theorem dX0_init_94 : decode cX0_init 94 = .ok (.newarray .int, 2) := by decide +kernel
theorem dX0_init_96 : decode cX0_init 96 = .ok (.putfield 46, 3) := by decide +kernel
theorem dX0_init_99 : decode cX0_init 99 = .ok (.aload_n 0, 1) := by decide +kernel
theorem dX0_init_100 : decode cX0_init 100 = .ok (.bipush 6, 2) := by decide +kernel
theorem dX0_init_102 : decode cX0_init 102 = .ok (.newarray .int, 2) := by decide +kernel
theorem dX0_init_104 : decode cX0_init 104 = .ok (.putfield 49, 3) := by decide +kernel
theorem dX0_init_107 : decode cX0_init 107 = .ok (.aload_n 0, 1) := by decide +kernel
theorem dX0_init_108 : decode cX0_init 108 = .ok (.bipush 10, 2) := by decide +kernel
theorem dX0_init_110 : decode cX0_init 110 = .ok (.newarray .int, 2) := by decide +kernel
theorem dX0_init_112 : decode cX0_init 112 = .ok (.putfield 52, 3) := by decide +kernel
theorem dX0_init_115 : decode cX0_init 115 = .ok (.aload_n 0, 1) := by decide +kernel
theorem dX0_init_116 : decode cX0_init 116 = .ok (.bipush 20, 2) := by decide +kernel
theorem dX0_init_118 : decode cX0_init 118 = .ok (.newarray .boolean, 2) := by decide +kernel
theorem dX0_init_120 : decode cX0_init 120 = .ok (.putfield 55, 3) := by decide +kernel
theorem dX0_init_123 : decode cX0_init 123 = .ok (.aload_n 0, 1) := by decide +kernel
theorem dX0_init_124 : decode cX0_init 124 = .ok (.aload_n 1, 1) := by decide +kernel
theorem dX0_init_125 : decode cX0_init 125 = .ok (.putfield 58, 3) := by decide +kernel
theorem dX0_init_128 : decode cX0_init 128 = .ok (.aload_n 0, 1) := by decide +kernel
theorem dX0_init_129 : decode cX0_init 129 = .ok (.getfield 9, 3) := by decide +kernel
theorem dX0_init_132 : decode cX0_init 132 = .ok (.iconst (-1), 1) := by decide +kernel
theorem dX0_init_133 : decode cX0_init 133 = .ok (.invokestatic 62, 3) := by decide +kernel
theorem dX0_init_136 : decode cX0_init 136 = .ok (.aload_n 0, 1) := by decide +kernel
theorem dX0_init_137 : decode cX0_init 137 = .ok (.getfield 31, 3) := by decide +kernel
theorem dX0_init_140 : decode cX0_init 140 = .ok (.iconst (-1), 1) := by decide +kernel
theorem dX0_init_141 : decode cX0_init 141 = .ok (.invokestatic 62, 3) := by decide +kernel
theorem dX0_init_144 : decode cX0_init 144 = .ok (.aload_n 0, 1) := by decide +kernel
theorem dX0_init_145 : decode cX0_init 145 = .ok (.getfield 37, 3) := by decide +kernel
theorem dX0_init_148 : decode cX0_init 148 = .ok (.iconst (-1), 1) := by decide +kernel
theorem dX0_init_149 : decode cX0_init 149 = .ok (.invokestatic 62, 3) := by decide +kernel
theorem dX0_init_152 : decode cX0_init 152 = .ok (.return_, 1) := by decide +kernel
set_option maxRecDepth 20000 in
theorem ggX0_becomeLike_X0_copyNumbers : GoodIn wsX0_becomeLike wsX0_copyNumbers := goodIn_r _ [15, 16, 17, 18, 19, 20, 21, 22, 23] (by decide +kernel) (by decide +kernel)
set_option maxRecDepth 20000 in
theorem gX0_becomeLike_X0_copyNumbers : GoodIn wsX0_becomeLike (va_wsS RX0 72 yX0_copyNumbers wsX0_copyNumbers) := goodIn_app (goodIn_of _ (by decide +kernel)) ggX0_becomeLike_X0_copyNumbers
set_option maxRecDepth 20000 in
theorem ggX0_becomeLike_X0_copyFlags : GoodIn wsX0_becomeLike wsX0_copyFlags := goodIn_r _ [26] (by decide +kernel) (by decide +kernel)
set_option maxRecDepth 20000 in
theorem gX0_becomeLike_X0_copyFlags : GoodIn wsX0_becomeLike (va_wsS RX0 76 yX0_copyFlags wsX0_copyFlags) := goodIn_app (goodIn_of _ (by decide +kernel)) ggX0_becomeLike_X0_copyFlags
theorem dX0_becomeLike_0 : decode cX0_becomeLike 0 = .ok (.aload_n 0, 1) := by decide +kernel
theorem dX0_becomeLike_1 : decode cX0_becomeLike 1 = .ok (.aload_n 1, 1) := by decide +kernel
theorem dX0_becomeLike_2 : decode cX0_becomeLike 2 = .ok (.getfield 68, 3) := by decide +kernel
theorem dX0_becomeLike_5 : decode cX0_becomeLike 5 = .ok (.putfield 68, 3) := by decide +kernel
theorem dX0_becomeLike_8 : decode cX0_becomeLike 8 = .ok (.aload_n 1, 1) := by decide +kernel
theorem dX0_becomeLike_9 : decode cX0_becomeLike 9 = .ok (.getfield 9, 3) := by decide +kernel
theorem dX0_becomeLike_12 : decode cX0_becomeLike 12 = .ok (.aload_n 0, 1) := by decide +kernel
theorem dX0_becomeLike_13 : decode cX0_becomeLike 13 = .ok (.getfield 9, 3) := by decide +kernel
theorem dX0_becomeLike_16 : decode cX0_becomeLike 16 = .ok (.invokestatic 72, 3) := by decide +kernel
theorem dX0_becomeLike_19 : decode cX0_becomeLike 19 = .ok (.aload_n 1, 1) := by decide +kernel
theorem dX0_becomeLike_20 : decode cX0_becomeLike 20 = .ok (.getfield 15, 3) := by decide +kernel
theorem dX0_becomeLike_23 : decode cX0_becomeLike 23 = .ok (.aload_n 0, 1) := by decide +kernel
theorem dX0_becomeLike_24 : decode cX0_becomeLike 24 = .ok (.getfield 15, 3) := by decide +kernel
theorem dX0_becomeLike_27 : decode cX0_becomeLike 27 = .ok (.invokestatic 72, 3) := by decide +kernel
theorem dX0_becomeLike_30 : decode cX0_becomeLike 30 = .ok (.aload_n 1, 1) := by decide +kernel
theorem dX0_becomeLike_31 : decode cX0_becomeLike 31 = .ok (.getfield 18, 3) := by decide +kernel
theorem dX0_becomeLike_34 : decode cX0_becomeLike 34 = .ok (.aload_n 0, 1) := by decide +kernel
theorem dX0_becomeLike_35 : decode cX0_becomeLike 35 = .ok (.getfield 18, 3) := by decide +kernel
theorem dX0_becomeLike_38 : decode cX0_becomeLike 38 = .ok (.invokestatic 72, 3) := by decide +kernel
theorem dX0_becomeLike_41 : decode cX0_becomeLike 41 = .ok (.aload_n 1, 1) := by decide +kernel
theorem dX0_becomeLike_42 : decode cX0_becomeLike 42 = .ok (.getfield 21, 3) := by decide +kernel
theorem dX0_becomeLike_45 : decode cX0_becomeLike 45 = .ok (.aload_n 0, 1) := by decide +kernel
theorem dX0_becomeLike_46 : decode cX0_becomeLike 46 = .ok (.getfield 21, 3) := by decide +kernel
theorem dX0_becomeLike_49 : decode cX0_becomeLike 49 = .ok (.invokestatic 72, 3) := by decide +kernel
theorem dX0_becomeLike_52 : decode cX0_becomeLike 52 = .ok (.aload_n 1, 1) := by decide +kernel
theorem dX0_becomeLike_53 : decode cX0_becomeLike 53 = .ok (.getfield 24, 3) := by decide +kernel
theorem dX0_becomeLike_56 : decode cX0_becomeLike 56 = .ok (.aload_n 0, 1) := by decide +kernel
theorem dX0_becomeLike_57 : decode cX0_becomeLike 57 = .ok (.getfield 24, 3) := by decide +kernel
theorem dX0_becomeLike_60 : decode cX0_becomeLike 60 = .ok (.invokestatic 76, 3) := by decide +kernel
theorem dX0_becomeLike_63 : decode cX0_becomeLike 63 = .ok (.aload_n 1, 1) := by decide +kernel
theorem dX0_becomeLike_64 : decode cX0_becomeLike 64 = .ok (.getfield 28, 3) := by decide +kernel
theorem dX0_becomeLike_67 : decode cX0_becomeLike 67 = .ok (.aload_n 0, 1) := by decide +kernel
theorem dX0_becomeLike_68 : decode cX0_becomeLike 68 = .ok (.getfield 28, 3) := by decide +kernel
theorem dX0_becomeLike_71 : decode cX0_becomeLike 71 = .ok (.invokestatic 72, 3) := by decide +kernel
theorem dX0_becomeLike_74 : decode cX0_becomeLike 74 = .ok (.aload_n 1, 1) := by decide +kernel
theorem dX0_becomeLike_75 : decode cX0_becomeLike 75 = .ok (.getfield 31, 3) := by decide +kernel
theorem dX0_becomeLike_78 : decode cX0_becomeLike 78 = .ok (.aload_n 0, 1) := by decide +kernel
theorem dX0_becomeLike_79 : decode cX0_becomeLike 79 = .ok (.getfield 31, 3) := by decide +kernel
theorem dX0_becomeLike_82 : decode cX0_becomeLike 82 = .ok (.invokestatic 72, 3) := by decide +kernel
theorem dX0_becomeLike_85 : decode cX0_becomeLike 85 = .ok (.aload_n 1, 1) := by decide +kernel
theorem dX0_becomeLike_86 : decode cX0_becomeLike 86 = .ok (.getfield 34, 3) := by decide +kernel
theorem dX0_becomeLike_89 : decode cX0_becomeLike 89 = .ok (.aload_n 0, 1) := by decide +kernel
theorem dX0_becomeLike_90 : decode cX0_becomeLike 90 = .ok (.getfield 34, 3) := by decide +kernel
theorem dX0_becomeLike_93 : decode cX0_becomeLike 93 = .ok (.invokestatic 72, 3) := by decide +kernel
theorem dX0_becomeLike_96 : decode cX0_becomeLike 96 = .ok (.aload_n 1, 1) := by decide +kernel
theorem dX0_becomeLike_97 : decode cX0_becomeLike 97 = .ok (.getfield 37, 3) := by decide +kernel
theorem dX0_becomeLike_100 : decode cX0_becomeLike 100 = .ok (.aload_n 0, 1) := by decide +kernel
theorem dX0_becomeLike_101 : decode cX0_becomeLike 101 = .ok (.getfield 37, 3) := by decide +kernel
theorem dX0_becomeLike_104 : decode cX0_becomeLike 104 = .ok (.invokestatic 72, 3) := by decide +kernel
theorem dX0_becomeLike_107 : decode cX0_becomeLike 107 = .ok (.aload_n 1, 1) := by decide +kernel
theorem dX0_becomeLike_108 : decode cX0_becomeLike 108 = .ok (.getfield 40, 3) := by decide +kernel
theorem dX0_becomeLike_111 : decode cX0_becomeLike 111 = .ok (.aload_n 0, 1) := by decide +kernel
theorem dX0_becomeLike_112 : decode cX0_becomeLike 112 = .ok (.getfield 40, 3) := by decide +kernel
theorem dX0_becomeLike_115 : decode cX0_becomeLike 115 = .ok (.invokestatic 72, 3) := by decide +kernel
theorem dX0_becomeLike_118 : decode cX0_becomeLike 118 = .ok (.return_, 1) := by decide +kernel
theorem dX0_copyNumbers_0 : decode cX0_copyNumbers 0 = .ok (.aload_n 0, 1) := by decide +kernel
theorem dX0_copyNumbers_1 : decode cX0_copyNumbers 1 = .ok (.iconst 0, 1) := by decide +kernel
theorem dX0_copyNumbers_2 : decode cX0_copyNumbers 2 = .ok (.aload_n 1, 1) := by decide +kernel
theorem dX0_copyNumbers_3 : decode cX0_copyNumbers 3 = .ok (.iconst 0, 1) := by decide +kernel
theorem dX0_copyNumbers_4 : decode cX0_copyNumbers 4 = .ok (.aload_n 0, 1) := by decide +kernel
theorem dX0_copyNumbers_5 : decode cX0_copyNumbers 5 = .ok (.arraylength, 1) := by decide +kernel
theorem dX0_copyNumbers_6 : decode cX0_copyNumbers 6 = .ok (.aload_n 1, 1) := by decide +kernel
theorem dX0_copyNumbers_7 : decode cX0_copyNumbers 7 = .ok (.arraylength, 1) := by decide +kernel
theorem dX0_copyNumbers_8 : decode cX0_copyNumbers 8 = .ok (.invokestatic 80, 3) := by decide +kernel
theorem dX0_copyNumbers_11 : decode cX0_copyNumbers 11 = .ok (.invokestatic 86, 3) := by decide +kernel
theorem dX0_copyNumbers_14 : decode cX0_copyNumbers 14 = .ok (.return_, 1) := by decide +kernel
theorem dX0_copyFlags_0 : decode cX0_copyFlags 0 = .ok (.iconst 0, 1) := by decide +kernel
theorem dX0_copyFlags_1 : decode cX0_copyFlags 1 = .ok (.istore_n 2, 1) := by decide +kernel
theorem dX0_copyFlags_2 : decode cX0_copyFlags 2 = .ok (.iload_n 2, 1) := by decide +kernel
theorem dX0_copyFlags_3 : decode cX0_copyFlags 3 = .ok (.aload_n 0, 1) := by decide +kernel
theorem dX0_copyFlags_4 : decode cX0_copyFlags 4 = .ok (.arraylength, 1) := by decide +kernel
theorem dX0_copyFlags_5 : decode cX0_copyFlags 5 = .ok (.if_icmp .ge 21, 3) := by decide +kernel
theorem dX0_copyFlags_8 : decode cX0_copyFlags 8 = .ok (.iload_n 2, 1) := by decide +kernel
theorem dX0_copyFlags_9 : decode cX0_copyFlags 9 = .ok (.aload_n 1, 1) := by decide +kernel
theorem dX0_copyFlags_10 : decode cX0_copyFlags 10 = .ok (.arraylength, 1) := by decide +kernel
theorem dX0_copyFlags_11 : decode cX0_copyFlags 11 = .ok (.if_icmp .ge 15, 3) := by decide +kernel
theorem dX0_copyFlags_14 : decode cX0_copyFlags 14 = .ok (.aload_n 1, 1) := by decide +kernel
theorem dX0_copyFlags_15 : decode cX0_copyFlags 15 = .ok (.iload_n 2, 1) := by decide +kernel
theorem dX0_copyFlags_16 : decode cX0_copyFlags 16 = .ok (.aload_n 0, 1) := by decide +kernel
theorem dX0_copyFlags_17 : decode cX0_copyFlags 17 = .ok (.iload_n 2, 1) := by decide +kernel
theorem dX0_copyFlags_18 : decode cX0_copyFlags 18 = .ok (.baload, 1) := by decide +kernel
theorem dX0_copyFlags_19 : decode cX0_copyFlags 19 = .ok (.bastore, 1) := by decide +kernel
theorem dX0_copyFlags_20 : decode cX0_copyFlags 20 = .ok (.iinc 2 1, 3) := by decide +kernel
theorem dX0_copyFlags_23 : decode cX0_copyFlags 23 = .ok (.goto (-21), 3) := by decide +kernel
theorem dX0_copyFlags_26 : decode cX0_copyFlags 26 = .ok (.return_, 1) := by decide +kernel
theorem dX0_howManyAre_0 : decode cX0_howManyAre 0 = .ok (.iconst 0, 1) := by decide +kernel
theorem dX0_howManyAre_1 : decode cX0_howManyAre 1 = .ok (.istore_n 2, 1) := by decide +kernel
theorem dX0_howManyAre_2 : decode cX0_howManyAre 2 = .ok (.iconst 0, 1) := by decide +kernel
theorem dX0_howManyAre_3 : decode cX0_howManyAre 3 = .ok (.istore_n 3, 1) := by decide +kernel
theorem dX0_howManyAre_4 : decode cX0_howManyAre 4 = .ok (.iload_n 3, 1) := by decide +kernel
theorem dX0_howManyAre_5 : decode cX0_howManyAre 5 = .ok (.aload_n 0, 1) := by decide +kernel
theorem dX0_howManyAre_6 : decode cX0_howManyAre 6 = .ok (.getfield 58, 3) := by decide +kernel
theorem dX0_howManyAre_9 : decode cX0_howManyAre 9 = .ok (.getfield 92, 3) := by decide +kernel
theorem dX0_howManyAre_12 : decode cX0_howManyAre 12 = .ok (.if_icmp .ge 22, 3) := by decide +kernel
theorem dX0_howManyAre_15 : decode cX0_howManyAre 15 = .ok (.aload_n 0, 1) := by decide +kernel
theorem dX0_howManyAre_16 : decode cX0_howManyAre 16 = .ok (.getfield 28, 3) := by decide +kernel
theorem dX0_howManyAre_19 : decode cX0_howManyAre 19 = .ok (.iload_n 3, 1) := by decide +kernel
theorem dX0_howManyAre_20 : decode cX0_howManyAre 20 = .ok (.iaload, 1) := by decide +kernel
theorem dX0_howManyAre_21 : decode cX0_howManyAre 21 = .ok (.iload_n 1, 1) := by decide +kernel
theorem dX0_howManyAre_22 : decode cX0_howManyAre 22 = .ok (.if_icmp .ne 6, 3) := by decide +kernel
theorem dX0_howManyAre_25 : decode cX0_howManyAre 25 = .ok (.iinc 2 1, 3) := by decide +kernel
theorem dX0_howManyAre_28 : decode cX0_howManyAre 28 = .ok (.iinc 3 1, 3) := by decide +kernel
theorem dX0_howManyAre_31 : decode cX0_howManyAre 31 = .ok (.goto (-27), 3) := by decide +kernel
theorem dX0_howManyAre_34 : decode cX0_howManyAre 34 = .ok (.iload_n 2, 1) := by decide +kernel
theorem dX0_howManyAre_35 : decode cX0_howManyAre 35 = .ok (.ireturn, 1) := by decide +kernel
theorem dX0_lanternsBurning_0 : decode cX0_lanternsBurning 0 = .ok (.iconst 0, 1) := by decide +kernel
theorem dX0_lanternsBurning_1 : decode cX0_lanternsBurning 1 = .ok (.istore_n 1, 1) := by decide +kernel
theorem dX0_lanternsBurning_2 : decode cX0_lanternsBurning 2 = .ok (.iconst 0, 1) := by decide +kernel
theorem dX0_lanternsBurning_3 : decode cX0_lanternsBurning 3 = .ok (.istore_n 2, 1) := by decide +kernel
theorem dX0_lanternsBurning_4 : decode cX0_lanternsBurning 4 = .ok (.iload_n 2, 1) := by decide +kernel
theorem dX0_lanternsBurning_5 : decode cX0_lanternsBurning 5 = .ok (.aload_n 0, 1) := by decide +kernel
theorem dX0_lanternsBurning_6 : decode cX0_lanternsBurning 6 = .ok (.getfield 58, 3) := by decide +kernel
theorem dX0_lanternsBurning_9 : decode cX0_lanternsBurning 9 = .ok (.getfield 92, 3) := by decide +kernel
theorem dX0_lanternsBurning_12 : decode cX0_lanternsBurning 12 = .ok (.if_icmp .ge 31, 3) := by decide +kernel
theorem dX0_lanternsBurning_15 : decode cX0_lanternsBurning 15 = .ok (.aload_n 0, 1) := by decide +kernel
theorem dX0_lanternsBurning_16 : decode cX0_lanternsBurning 16 = .ok (.getfield 28, 3) := by decide +kernel
theorem dX0_lanternsBurning_19 : decode cX0_lanternsBurning 19 = .ok (.iload_n 2, 1) := by decide +kernel
theorem dX0_lanternsBurning_20 : decode cX0_lanternsBurning 20 = .ok (.iaload, 1) := by decide +kernel
theorem dX0_lanternsBurning_21 : decode cX0_lanternsBurning 21 = .ok (.iconst 1, 1) := by decide +kernel
theorem dX0_lanternsBurning_22 : decode cX0_lanternsBurning 22 = .ok (.if_icmp .ne 15, 3) := by decide +kernel
theorem dX0_lanternsBurning_25 : decode cX0_lanternsBurning 25 = .ok (.aload_n 0, 1) := by decide +kernel
theorem dX0_lanternsBurning_26 : decode cX0_lanternsBurning 26 = .ok (.getfield 24, 3) := by decide +kernel
theorem dX0_lanternsBurning_29 : decode cX0_lanternsBurning 29 = .ok (.iload_n 2, 1) := by decide +kernel
theorem dX0_lanternsBurning_30 : decode cX0_lanternsBurning 30 = .ok (.baload, 1) := by decide +kernel
theorem dX0_lanternsBurning_31 : decode cX0_lanternsBurning 31 = .ok (.ifCond .eq 6, 3) := by decide +kernel
theorem dX0_lanternsBurning_34 : decode cX0_lanternsBurning 34 = .ok (.iinc 1 1, 3) := by decide +kernel
theorem dX0_lanternsBurning_37 : decode cX0_lanternsBurning 37 = .ok (.iinc 2 1, 3) := by decide +kernel
theorem dX0_lanternsBurning_40 : decode cX0_lanternsBurning 40 = .ok (.goto (-36), 3) := by decide +kernel
theorem dX0_lanternsBurning_43 : decode cX0_lanternsBurning 43 = .ok (.iload_n 1, 1) := by decide +kernel
theorem dX0_lanternsBurning_44 : decode cX0_lanternsBurning 44 = .ok (.ireturn, 1) := by decide +kernel
set_option maxRecDepth 20000 in
theorem ggX0_songsKnownInAll_X0_knowersOf : GoodIn wsX0_songsKnownInAll wsX0_knowersOf := goodIn_r _ [7, 1, 8, 9, 10, 11, 12, 13, 14, 15, 16, 17, 18, 19, 20, 21, 22, 23, 24, 25, 26, 27, 28, 29, 30, 31, 32, 33, 34, 35, 36, 37, 38, 39, 40] (by decide +kernel) (by decide +kernel)
set_option maxRecDepth 20000 in
theorem gX0_songsKnownInAll_X0_knowersOf : GoodIn wsX0_songsKnownInAll (wsV RX0 100 RX0 yX0_knowersOf wsX0_knowersOf) := goodIn_app (goodIn_of _ (by decide +kernel)) ggX0_songsKnownInAll_X0_knowersOf
theorem dX0_songsKnownInAll_0 : decode cX0_songsKnownInAll 0 = .ok (.iconst 0, 1) := by decide +kernel
theorem dX0_songsKnownInAll_1 : decode cX0_songsKnownInAll 1 = .ok (.istore_n 1, 1) := by decide +kernel
theorem dX0_songsKnownInAll_2 : decode cX0_songsKnownInAll 2 = .ok (.iconst 0, 1) := by decide +kernel
theorem dX0_songsKnownInAll_3 : decode cX0_songsKnownInAll 3 = .ok (.istore_n 2, 1) := by decide +kernel
theorem dX0_songsKnownInAll_4 : decode cX0_songsKnownInAll 4 = .ok (.iload_n 2, 1) := by decide +kernel
theorem dX0_songsKnownInAll_5 : decode cX0_songsKnownInAll 5 = .ok (.aload_n 0, 1) := by decide +kernel
theorem dX0_songsKnownInAll_6 : decode cX0_songsKnownInAll 6 = .ok (.getfield 58, 3) := by decide +kernel
theorem dX0_songsKnownInAll_9 : decode cX0_songsKnownInAll 9 = .ok (.getfield 97, 3) := by decide +kernel
theorem dX0_songsKnownInAll_12 : decode cX0_songsKnownInAll 12 = .ok (.if_icmp .ge 17, 3) := by decide +kernel
theorem dX0_songsKnownInAll_15 : decode cX0_songsKnownInAll 15 = .ok (.iload_n 1, 1) := by decide +kernel
theorem dX0_songsKnownInAll_16 : decode cX0_songsKnownInAll 16 = .ok (.aload_n 0, 1) := by decide +kernel
theorem dX0_songsKnownInAll_17 : decode cX0_songsKnownInAll 17 = .ok (.iload_n 2, 1) := by decide +kernel
theorem dX0_songsKnownInAll_18 : decode cX0_songsKnownInAll 18 = .ok (.invokevirtual 100, 3) := by decide +kernel
theorem dX0_songsKnownInAll_21 : decode cX0_songsKnownInAll 21 = .ok (.iadd, 1) := by decide +kernel
theorem dX0_songsKnownInAll_22 : decode cX0_songsKnownInAll 22 = .ok (.istore_n 1, 1) := by decide +kernel
theorem dX0_songsKnownInAll_23 : decode cX0_songsKnownInAll 23 = .ok (.iinc 2 1, 3) := by decide +kernel
theorem dX0_songsKnownInAll_26 : decode cX0_songsKnownInAll 26 = .ok (.goto (-22), 3) := by decide +kernel
theorem dX0_songsKnownInAll_29 : decode cX0_songsKnownInAll 29 = .ok (.iload_n 1, 1) := by decide +kernel
theorem dX0_songsKnownInAll_30 : decode cX0_songsKnownInAll 30 = .ok (.ireturn, 1) := by decide +kernel
set_option maxRecDepth 20000 in
theorem ggX0_knowersOf_X2_cellOf : GoodIn wsX0_knowersOf wsX2_cellOf := goodIn_r _ [6] (by decide +kernel) (by decide +kernel)
set_option maxRecDepth 20000 in
theorem gX0_knowersOf_X2_cellOf_n104 : GoodIn wsX0_knowersOf (wsX2_cellOf) := ggX0_knowersOf_X2_cellOf
theorem dX0_knowersOf_0 : decode cX0_knowersOf 0 = .ok (.iconst 0, 1) := by decide +kernel
theorem dX0_knowersOf_1 : decode cX0_knowersOf 1 = .ok (.istore_n 2, 1) := by decide +kernel
theorem dX0_knowersOf_2 : decode cX0_knowersOf 2 = .ok (.iconst 0, 1) := by decide +kernel
theorem dX0_knowersOf_3 : decode cX0_knowersOf 3 = .ok (.istore_n 3, 1) := by decide +kernel
theorem dX0_knowersOf_4 : decode cX0_knowersOf 4 = .ok (.iload_n 3, 1) := by decide +kernel
theorem dX0_knowersOf_5 : decode cX0_knowersOf 5 = .ok (.aload_n 0, 1) := by decide +kernel
theorem dX0_knowersOf_6 : decode cX0_knowersOf 6 = .ok (.getfield 58, 3) := by decide +kernel
theorem dX0_knowersOf_9 : decode cX0_knowersOf 9 = .ok (.getfield 92, 3) := by decide +kernel
theorem dX0_knowersOf_12 : decode cX0_knowersOf 12 = .ok (.if_icmp .ge 25, 3) := by decide +kernel
theorem dX0_knowersOf_15 : decode cX0_knowersOf 15 = .ok (.aload_n 0, 1) := by decide +kernel
theorem dX0_knowersOf_16 : decode cX0_knowersOf 16 = .ok (.getfield 40, 3) := by decide +kernel
theorem dX0_knowersOf_19 : decode cX0_knowersOf 19 = .ok (.iload_n 3, 1) := by decide +kernel
theorem dX0_knowersOf_20 : decode cX0_knowersOf 20 = .ok (.iload_n 1, 1) := by decide +kernel
theorem dX0_knowersOf_21 : decode cX0_knowersOf 21 = .ok (.invokestatic 104, 3) := by decide +kernel
theorem dX0_knowersOf_24 : decode cX0_knowersOf 24 = .ok (.iaload, 1) := by decide +kernel
theorem dX0_knowersOf_25 : decode cX0_knowersOf 25 = .ok (.ifCond .eq 6, 3) := by decide +kernel
theorem dX0_knowersOf_28 : decode cX0_knowersOf 28 = .ok (.iinc 2 1, 3) := by decide +kernel
theorem dX0_knowersOf_31 : decode cX0_knowersOf 31 = .ok (.iinc 3 1, 3) := by decide +kernel
theorem dX0_knowersOf_34 : decode cX0_knowersOf 34 = .ok (.goto (-30), 3) := by decide +kernel
theorem dX0_knowersOf_37 : decode cX0_knowersOf 37 = .ok (.iload_n 2, 1) := by decide +kernel
theorem dX0_knowersOf_38 : decode cX0_knowersOf 38 = .ok (.ireturn, 1) := by decide +kernel
set_option maxRecDepth 20000 in
theorem ggX0_knowersOfVersion_X2_cellOf : GoodIn wsX0_knowersOfVersion wsX2_cellOf := goodIn_r _ [6] (by decide +kernel) (by decide +kernel)
set_option maxRecDepth 20000 in
theorem gX0_knowersOfVersion_X2_cellOf_n104 : GoodIn wsX0_knowersOfVersion (wsX2_cellOf) := ggX0_knowersOfVersion_X2_cellOf
theorem dX0_knowersOfVersion_0 : decode cX0_knowersOfVersion 0 = .ok (.iconst 0, 1) := by decide +kernel
theorem dX0_knowersOfVersion_1 : decode cX0_knowersOfVersion 1 = .ok (.istore_n 3, 1) := by decide +kernel
theorem dX0_knowersOfVersion_2 : decode cX0_knowersOfVersion 2 = .ok (.iconst 0, 1) := by decide +kernel
theorem dX0_knowersOfVersion_3 : decode cX0_knowersOfVersion 3 = .ok (.istore 4, 2) := by decide +kernel
theorem dX0_knowersOfVersion_5 : decode cX0_knowersOfVersion 5 = .ok (.iload 4, 2) := by decide +kernel
theorem dX0_knowersOfVersion_7 : decode cX0_knowersOfVersion 7 = .ok (.aload_n 0, 1) := by decide +kernel
theorem dX0_knowersOfVersion_8 : decode cX0_knowersOfVersion 8 = .ok (.getfield 58, 3) := by decide +kernel
theorem dX0_knowersOfVersion_11 : decode cX0_knowersOfVersion 11 = .ok (.getfield 92, 3) := by decide +kernel
theorem dX0_knowersOfVersion_14 : decode cX0_knowersOfVersion 14 = .ok (.if_icmp .ge 27, 3) := by decide +kernel
theorem dX0_knowersOfVersion_17 : decode cX0_knowersOfVersion 17 = .ok (.aload_n 0, 1) := by decide +kernel
theorem dX0_knowersOfVersion_18 : decode cX0_knowersOfVersion 18 = .ok (.getfield 40, 3) := by decide +kernel
theorem dX0_knowersOfVersion_21 : decode cX0_knowersOfVersion 21 = .ok (.iload 4, 2) := by decide +kernel
theorem dX0_knowersOfVersion_23 : decode cX0_knowersOfVersion 23 = .ok (.iload_n 1, 1) := by decide +kernel
theorem dX0_knowersOfVersion_24 : decode cX0_knowersOfVersion 24 = .ok (.invokestatic 104, 3) := by decide +kernel
theorem dX0_knowersOfVersion_27 : decode cX0_knowersOfVersion 27 = .ok (.iaload, 1) := by decide +kernel
theorem dX0_knowersOfVersion_28 : decode cX0_knowersOfVersion 28 = .ok (.iload_n 2, 1) := by decide +kernel
theorem dX0_knowersOfVersion_29 : decode cX0_knowersOfVersion 29 = .ok (.if_icmp .ne 6, 3) := by decide +kernel
theorem dX0_knowersOfVersion_32 : decode cX0_knowersOfVersion 32 = .ok (.iinc 3 1, 3) := by decide +kernel
theorem dX0_knowersOfVersion_35 : decode cX0_knowersOfVersion 35 = .ok (.iinc 4 1, 3) := by decide +kernel
theorem dX0_knowersOfVersion_38 : decode cX0_knowersOfVersion 38 = .ok (.goto (-33), 3) := by decide +kernel
theorem dX0_knowersOfVersion_41 : decode cX0_knowersOfVersion 41 = .ok (.iload_n 3, 1) := by decide +kernel
theorem dX0_knowersOfVersion_42 : decode cX0_knowersOfVersion 42 = .ok (.ireturn, 1) := by decide +kernel
set_option maxRecDepth 20000 in
theorem ggX0_versionsOf_X0_knowersOfVersion : GoodIn wsX0_versionsOf wsX0_knowersOfVersion := goodIn_r _ [5, 6, 7, 8, 9, 10, 11, 12, 13, 14, 15, 16, 17, 18, 19, 20, 21, 22, 23, 24, 25, 26, 27, 28, 29, 30, 31, 32, 33, 34, 35, 36, 37, 38, 39] (by decide +kernel) (by decide +kernel)
set_option maxRecDepth 20000 in
theorem gX0_versionsOf_X0_knowersOfVersion : GoodIn wsX0_versionsOf (wsV RX0 107 RX0 yX0_knowersOfVersion wsX0_knowersOfVersion) := goodIn_app (goodIn_of _ (by decide +kernel)) ggX0_versionsOf_X0_knowersOfVersion
theorem dX0_versionsOf_0 : decode cX0_versionsOf 0 = .ok (.iconst 0, 1) := by decide +kernel
theorem dX0_versionsOf_1 : decode cX0_versionsOf 1 = .ok (.istore_n 2, 1) := by decide +kernel
theorem dX0_versionsOf_2 : decode cX0_versionsOf 2 = .ok (.iconst 1, 1) := by decide +kernel
theorem dX0_versionsOf_3 : decode cX0_versionsOf 3 = .ok (.istore_n 3, 1) := by decide +kernel
theorem dX0_versionsOf_4 : decode cX0_versionsOf 4 = .ok (.iload_n 3, 1) := by decide +kernel
theorem dX0_versionsOf_5 : decode cX0_versionsOf 5 = .ok (.bipush 99, 2) := by decide +kernel
theorem dX0_versionsOf_7 : decode cX0_versionsOf 7 = .ok (.if_icmp .gt 21, 3) := by decide +kernel
theorem dX0_versionsOf_10 : decode cX0_versionsOf 10 = .ok (.aload_n 0, 1) := by decide +kernel
theorem dX0_versionsOf_11 : decode cX0_versionsOf 11 = .ok (.iload_n 1, 1) := by decide +kernel
theorem dX0_versionsOf_12 : decode cX0_versionsOf 12 = .ok (.iload_n 3, 1) := by decide +kernel
theorem dX0_versionsOf_13 : decode cX0_versionsOf 13 = .ok (.invokevirtual 107, 3) := by decide +kernel
theorem dX0_versionsOf_16 : decode cX0_versionsOf 16 = .ok (.ifCond .le 6, 3) := by decide +kernel
theorem dX0_versionsOf_19 : decode cX0_versionsOf 19 = .ok (.iinc 2 1, 3) := by decide +kernel
theorem dX0_versionsOf_22 : decode cX0_versionsOf 22 = .ok (.iinc 3 1, 3) := by decide +kernel
theorem dX0_versionsOf_25 : decode cX0_versionsOf 25 = .ok (.goto (-21), 3) := by decide +kernel
theorem dX0_versionsOf_28 : decode cX0_versionsOf 28 = .ok (.iload_n 2, 1) := by decide +kernel
theorem dX0_versionsOf_29 : decode cX0_versionsOf 29 = .ok (.ireturn, 1) := by decide +kernel
set_option maxRecDepth 20000 in
theorem ggX0_commonestVersionOf_X0_knowersOfVersion : GoodIn wsX0_commonestVersionOf wsX0_knowersOfVersion := goodIn_r _ [5, 6, 7, 8, 9, 10, 11, 12, 13, 14, 15, 16, 17, 18, 19, 20, 21, 22, 23, 24, 25, 26, 27, 28, 29, 30, 31, 32, 33, 34, 35, 36, 37, 38, 39] (by decide +kernel) (by decide +kernel)
set_option maxRecDepth 20000 in
theorem gX0_commonestVersionOf_X0_knowersOfVersion : GoodIn wsX0_commonestVersionOf (wsV RX0 107 RX0 yX0_knowersOfVersion wsX0_knowersOfVersion) := goodIn_app (goodIn_of _ (by decide +kernel)) ggX0_commonestVersionOf_X0_knowersOfVersion
theorem dX0_commonestVersionOf_0 : decode cX0_commonestVersionOf 0 = .ok (.iconst 0, 1) := by decide +kernel
theorem dX0_commonestVersionOf_1 : decode cX0_commonestVersionOf 1 = .ok (.istore_n 2, 1) := by decide +kernel
theorem dX0_commonestVersionOf_2 : decode cX0_commonestVersionOf 2 = .ok (.iconst 0, 1) := by decide +kernel
theorem dX0_commonestVersionOf_3 : decode cX0_commonestVersionOf 3 = .ok (.istore_n 3, 1) := by decide +kernel
theorem dX0_commonestVersionOf_4 : decode cX0_commonestVersionOf 4 = .ok (.iconst 1, 1) := by decide +kernel
theorem dX0_commonestVersionOf_5 : decode cX0_commonestVersionOf 5 = .ok (.istore 4, 2) := by decide +kernel
theorem dX0_commonestVersionOf_7 : decode cX0_commonestVersionOf 7 = .ok (.iload 4, 2) := by decide +kernel
theorem dX0_commonestVersionOf_9 : decode cX0_commonestVersionOf 9 = .ok (.bipush 99, 2) := by decide +kernel
theorem dX0_commonestVersionOf_11 : decode cX0_commonestVersionOf 11 = .ok (.if_icmp .gt 30, 3) := by decide +kernel
theorem dX0_commonestVersionOf_14 : decode cX0_commonestVersionOf 14 = .ok (.aload_n 0, 1) := by decide +kernel
theorem dX0_commonestVersionOf_15 : decode cX0_commonestVersionOf 15 = .ok (.iload_n 1, 1) := by decide +kernel
theorem dX0_commonestVersionOf_16 : decode cX0_commonestVersionOf 16 = .ok (.iload 4, 2) := by decide +kernel
theorem dX0_commonestVersionOf_18 : decode cX0_commonestVersionOf 18 = .ok (.invokevirtual 107, 3) := by decide +kernel
theorem dX0_commonestVersionOf_21 : decode cX0_commonestVersionOf 21 = .ok (.istore 5, 2) := by decide +kernel
theorem dX0_commonestVersionOf_23 : decode cX0_commonestVersionOf 23 = .ok (.iload 5, 2) := by decide +kernel
theorem dX0_commonestVersionOf_25 : decode cX0_commonestVersionOf 25 = .ok (.iload_n 3, 1) := by decide +kernel
theorem dX0_commonestVersionOf_26 : decode cX0_commonestVersionOf 26 = .ok (.if_icmp .le 9, 3) := by decide +kernel
theorem dX0_commonestVersionOf_29 : decode cX0_commonestVersionOf 29 = .ok (.iload 5, 2) := by decide +kernel
theorem dX0_commonestVersionOf_31 : decode cX0_commonestVersionOf 31 = .ok (.istore_n 3, 1) := by decide +kernel
theorem dX0_commonestVersionOf_32 : decode cX0_commonestVersionOf 32 = .ok (.iload 4, 2) := by decide +kernel
theorem dX0_commonestVersionOf_34 : decode cX0_commonestVersionOf 34 = .ok (.istore_n 2, 1) := by decide +kernel
theorem dX0_commonestVersionOf_35 : decode cX0_commonestVersionOf 35 = .ok (.iinc 4 1, 3) := by decide +kernel
theorem dX0_commonestVersionOf_38 : decode cX0_commonestVersionOf 38 = .ok (.goto (-31), 3) := by decide +kernel
theorem dX0_commonestVersionOf_41 : decode cX0_commonestVersionOf 41 = .ok (.iload_n 2, 1) := by decide +kernel
theorem dX0_commonestVersionOf_42 : decode cX0_commonestVersionOf 42 = .ok (.ireturn, 1) := by decide +kernel
theorem dX0_letsThrough_0 : decode cX0_letsThrough 0 = .ok (.aload_n 0, 1) := by decide +kernel
theorem dX0_letsThrough_1 : decode cX0_letsThrough 1 = .ok (.getfield 58, 3) := by decide +kernel
theorem dX0_letsThrough_4 : decode cX0_letsThrough 4 = .ok (.getfield 110, 3) := by decide +kernel
theorem dX0_letsThrough_7 : decode cX0_letsThrough 7 = .ok (.iload_n 1, 1) := by decide +kernel
theorem dX0_letsThrough_8 : decode cX0_letsThrough 8 = .ok (.iaload, 1) := by decide +kernel
theorem dX0_letsThrough_9 : decode cX0_letsThrough 9 = .ok (.istore_n 2, 1) := by decide +kernel
theorem dX0_letsThrough_10 : decode cX0_letsThrough 10 = .ok (.iconst 0, 1) := by decide +kernel
theorem dX0_letsThrough_11 : decode cX0_letsThrough 11 = .ok (.istore_n 3, 1) := by decide +kernel
theorem dX0_letsThrough_12 : decode cX0_letsThrough 12 = .ok (.iload_n 3, 1) := by decide +kernel
theorem dX0_letsThrough_13 : decode cX0_letsThrough 13 = .ok (.iconst 2, 1) := by decide +kernel
theorem dX0_letsThrough_14 : decode cX0_letsThrough 14 = .ok (.if_icmp .ge 22, 3) := by decide +kernel
theorem dX0_letsThrough_17 : decode cX0_letsThrough 17 = .ok (.aload_n 0, 1) := by decide +kernel
theorem dX0_letsThrough_18 : decode cX0_letsThrough 18 = .ok (.getfield 9, 3) := by decide +kernel
theorem dX0_letsThrough_21 : decode cX0_letsThrough 21 = .ok (.iload_n 3, 1) := by decide +kernel
theorem dX0_letsThrough_22 : decode cX0_letsThrough 22 = .ok (.iaload, 1) := by decide +kernel
theorem dX0_letsThrough_23 : decode cX0_letsThrough 23 = .ok (.iload_n 1, 1) := by decide +kernel
theorem dX0_letsThrough_24 : decode cX0_letsThrough 24 = .ok (.if_icmp .ne 6, 3) := by decide +kernel
theorem dX0_letsThrough_27 : decode cX0_letsThrough 27 = .ok (.iinc 2 1, 3) := by decide +kernel
theorem dX0_letsThrough_30 : decode cX0_letsThrough 30 = .ok (.iinc 3 1, 3) := by decide +kernel
theorem dX0_letsThrough_33 : decode cX0_letsThrough 33 = .ok (.goto (-21), 3) := by decide +kernel
theorem dX0_letsThrough_36 : decode cX0_letsThrough 36 = .ok (.iload_n 2, 1) := by decide +kernel
theorem dX0_letsThrough_37 : decode cX0_letsThrough 37 = .ok (.ireturn, 1) := by decide +kernel
theorem dX0_walkersOn_0 : decode cX0_walkersOn 0 = .ok (.aload_n 0, 1) := by decide +kernel
theorem dX0_walkersOn_1 : decode cX0_walkersOn 1 = .ok (.getfield 58, 3) := by decide +kernel
theorem dX0_walkersOn_4 : decode cX0_walkersOn 4 = .ok (.getfield 113, 3) := by decide +kernel
theorem dX0_walkersOn_7 : decode cX0_walkersOn 7 = .ok (.iload_n 1, 1) := by decide +kernel
theorem dX0_walkersOn_8 : decode cX0_walkersOn 8 = .ok (.iaload, 1) := by decide +kernel
theorem dX0_walkersOn_9 : decode cX0_walkersOn 9 = .ok (.istore_n 2, 1) := by decide +kernel
theorem dX0_walkersOn_10 : decode cX0_walkersOn 10 = .ok (.iload_n 2, 1) := by decide +kernel
theorem dX0_walkersOn_11 : decode cX0_walkersOn 11 = .ok (.aload_n 0, 1) := by decide +kernel
theorem dX0_walkersOn_12 : decode cX0_walkersOn 12 = .ok (.getfield 58, 3) := by decide +kernel
theorem dX0_walkersOn_15 : decode cX0_walkersOn 15 = .ok (.getfield 116, 3) := by decide +kernel
theorem dX0_walkersOn_18 : decode cX0_walkersOn 18 = .ok (.iload_n 1, 1) := by decide +kernel
theorem dX0_walkersOn_19 : decode cX0_walkersOn 19 = .ok (.iaload, 1) := by decide +kernel
theorem dX0_walkersOn_20 : decode cX0_walkersOn 20 = .ok (.iadd, 1) := by decide +kernel
theorem dX0_walkersOn_21 : decode cX0_walkersOn 21 = .ok (.istore_n 3, 1) := by decide +kernel
theorem dX0_walkersOn_22 : decode cX0_walkersOn 22 = .ok (.iconst 0, 1) := by decide +kernel
theorem dX0_walkersOn_23 : decode cX0_walkersOn 23 = .ok (.istore 4, 2) := by decide +kernel
theorem dX0_walkersOn_25 : decode cX0_walkersOn 25 = .ok (.iconst 0, 1) := by decide +kernel
theorem dX0_walkersOn_26 : decode cX0_walkersOn 26 = .ok (.istore 5, 2) := by decide +kernel
theorem dX0_walkersOn_28 : decode cX0_walkersOn 28 = .ok (.iload 5, 2) := by decide +kernel
theorem dX0_walkersOn_30 : decode cX0_walkersOn 30 = .ok (.aload_n 0, 1) := by decide +kernel
theorem dX0_walkersOn_31 : decode cX0_walkersOn 31 = .ok (.getfield 58, 3) := by decide +kernel
theorem dX0_walkersOn_34 : decode cX0_walkersOn 34 = .ok (.getfield 92, 3) := by decide +kernel
theorem dX0_walkersOn_37 : decode cX0_walkersOn 37 = .ok (.if_icmp .ge 45, 3) := by decide +kernel
theorem dX0_walkersOn_40 : decode cX0_walkersOn 40 = .ok (.aload_n 0, 1) := by decide +kernel
theorem dX0_walkersOn_41 : decode cX0_walkersOn 41 = .ok (.getfield 28, 3) := by decide +kernel
theorem dX0_walkersOn_44 : decode cX0_walkersOn 44 = .ok (.iload 5, 2) := by decide +kernel
theorem dX0_walkersOn_46 : decode cX0_walkersOn 46 = .ok (.iaload, 1) := by decide +kernel
theorem dX0_walkersOn_47 : decode cX0_walkersOn 47 = .ok (.iconst 1, 1) := by decide +kernel
theorem dX0_walkersOn_48 : decode cX0_walkersOn 48 = .ok (.if_icmp .ne 28, 3) := by decide +kernel
theorem dX0_walkersOn_51 : decode cX0_walkersOn 51 = .ok (.aload_n 0, 1) := by decide +kernel
theorem dX0_walkersOn_52 : decode cX0_walkersOn 52 = .ok (.getfield 31, 3) := by decide +kernel
theorem dX0_walkersOn_55 : decode cX0_walkersOn 55 = .ok (.iload 5, 2) := by decide +kernel
theorem dX0_walkersOn_57 : decode cX0_walkersOn 57 = .ok (.iaload, 1) := by decide +kernel
theorem dX0_walkersOn_58 : decode cX0_walkersOn 58 = .ok (.iload_n 2, 1) := by decide +kernel
theorem dX0_walkersOn_59 : decode cX0_walkersOn 59 = .ok (.if_icmp .lt 17, 3) := by decide +kernel
theorem dX0_walkersOn_62 : decode cX0_walkersOn 62 = .ok (.aload_n 0, 1) := by decide +kernel
theorem dX0_walkersOn_63 : decode cX0_walkersOn 63 = .ok (.getfield 31, 3) := by decide +kernel
theorem dX0_walkersOn_66 : decode cX0_walkersOn 66 = .ok (.iload 5, 2) := by decide +kernel
theorem dX0_walkersOn_68 : decode cX0_walkersOn 68 = .ok (.iaload, 1) := by decide +kernel
theorem dX0_walkersOn_69 : decode cX0_walkersOn 69 = .ok (.iload_n 3, 1) := by decide +kernel
theorem dX0_walkersOn_70 : decode cX0_walkersOn 70 = .ok (.if_icmp .ge 6, 3) := by decide +kernel
theorem dX0_walkersOn_73 : decode cX0_walkersOn 73 = .ok (.iinc 4 1, 3) := by decide +kernel
theorem dX0_walkersOn_76 : decode cX0_walkersOn 76 = .ok (.iinc 5 1, 3) := by decide +kernel
theorem dX0_walkersOn_79 : decode cX0_walkersOn 79 = .ok (.goto (-51), 3) := by decide +kernel
theorem dX0_walkersOn_82 : decode cX0_walkersOn 82 = .ok (.iload 4, 2) := by decide +kernel
theorem dX0_walkersOn_84 : decode cX0_walkersOn 84 = .ok (.ireturn, 1) := by decide +kernel
theorem dX0_walkersAt_0 : decode cX0_walkersAt 0 = .ok (.iconst 0, 1) := by decide +kernel
theorem dX0_walkersAt_1 : decode cX0_walkersAt 1 = .ok (.istore_n 2, 1) := by decide +kernel
theorem dX0_walkersAt_2 : decode cX0_walkersAt 2 = .ok (.iconst 0, 1) := by decide +kernel
theorem dX0_walkersAt_3 : decode cX0_walkersAt 3 = .ok (.istore_n 3, 1) := by decide +kernel
theorem dX0_walkersAt_4 : decode cX0_walkersAt 4 = .ok (.iload_n 3, 1) := by decide +kernel
theorem dX0_walkersAt_5 : decode cX0_walkersAt 5 = .ok (.aload_n 0, 1) := by decide +kernel
theorem dX0_walkersAt_6 : decode cX0_walkersAt 6 = .ok (.getfield 58, 3) := by decide +kernel
theorem dX0_walkersAt_9 : decode cX0_walkersAt 9 = .ok (.getfield 92, 3) := by decide +kernel
theorem dX0_walkersAt_12 : decode cX0_walkersAt 12 = .ok (.if_icmp .ge 32, 3) := by decide +kernel
theorem dX0_walkersAt_15 : decode cX0_walkersAt 15 = .ok (.aload_n 0, 1) := by decide +kernel
theorem dX0_walkersAt_16 : decode cX0_walkersAt 16 = .ok (.getfield 28, 3) := by decide +kernel
theorem dX0_walkersAt_19 : decode cX0_walkersAt 19 = .ok (.iload_n 3, 1) := by decide +kernel
theorem dX0_walkersAt_20 : decode cX0_walkersAt 20 = .ok (.iaload, 1) := by decide +kernel
theorem dX0_walkersAt_21 : decode cX0_walkersAt 21 = .ok (.iconst 1, 1) := by decide +kernel
theorem dX0_walkersAt_22 : decode cX0_walkersAt 22 = .ok (.if_icmp .ne 16, 3) := by decide +kernel
theorem dX0_walkersAt_25 : decode cX0_walkersAt 25 = .ok (.aload_n 0, 1) := by decide +kernel
theorem dX0_walkersAt_26 : decode cX0_walkersAt 26 = .ok (.getfield 31, 3) := by decide +kernel
theorem dX0_walkersAt_29 : decode cX0_walkersAt 29 = .ok (.iload_n 3, 1) := by decide +kernel
theorem dX0_walkersAt_30 : decode cX0_walkersAt 30 = .ok (.iaload, 1) := by decide +kernel
theorem dX0_walkersAt_31 : decode cX0_walkersAt 31 = .ok (.iload_n 1, 1) := by decide +kernel
theorem dX0_walkersAt_32 : decode cX0_walkersAt 32 = .ok (.if_icmp .ne 6, 3) := by decide +kernel
theorem dX0_walkersAt_35 : decode cX0_walkersAt 35 = .ok (.iinc 2 1, 3) := by decide +kernel
theorem dX0_walkersAt_38 : decode cX0_walkersAt 38 = .ok (.iinc 3 1, 3) := by decide +kernel
theorem dX0_walkersAt_41 : decode cX0_walkersAt 41 = .ok (.goto (-37), 3) := by decide +kernel
theorem dX0_walkersAt_44 : decode cX0_walkersAt 44 = .ok (.iload_n 2, 1) := by decide +kernel
theorem dX0_walkersAt_45 : decode cX0_walkersAt 45 = .ok (.ireturn, 1) := by decide +kernel
theorem dX0_areNeighbours_0 : decode cX0_areNeighbours 0 = .ok (.iload_n 1, 1) := by decide +kernel
theorem dX0_areNeighbours_1 : decode cX0_areNeighbours 1 = .ok (.iload_n 2, 1) := by decide +kernel
theorem dX0_areNeighbours_2 : decode cX0_areNeighbours 2 = .ok (.if_icmp .eq 61, 3) := by decide +kernel
theorem dX0_areNeighbours_5 : decode cX0_areNeighbours 5 = .ok (.aload_n 0, 1) := by decide +kernel
theorem dX0_areNeighbours_6 : decode cX0_areNeighbours 6 = .ok (.getfield 28, 3) := by decide +kernel
theorem dX0_areNeighbours_9 : decode cX0_areNeighbours 9 = .ok (.iload_n 1, 1) := by decide +kernel
theorem dX0_areNeighbours_10 : decode cX0_areNeighbours 10 = .ok (.iaload, 1) := by decide +kernel
theorem dX0_areNeighbours_11 : decode cX0_areNeighbours 11 = .ok (.iconst 1, 1) := by decide +kernel
theorem dX0_areNeighbours_12 : decode cX0_areNeighbours 12 = .ok (.if_icmp .ne 51, 3) := by decide +kernel
theorem dX0_areNeighbours_15 : decode cX0_areNeighbours 15 = .ok (.aload_n 0, 1) := by decide +kernel
theorem dX0_areNeighbours_16 : decode cX0_areNeighbours 16 = .ok (.getfield 28, 3) := by decide +kernel
theorem dX0_areNeighbours_19 : decode cX0_areNeighbours 19 = .ok (.iload_n 2, 1) := by decide +kernel
theorem dX0_areNeighbours_20 : decode cX0_areNeighbours 20 = .ok (.iaload, 1) := by decide +kernel
theorem dX0_areNeighbours_21 : decode cX0_areNeighbours 21 = .ok (.iconst 1, 1) := by decide +kernel
theorem dX0_areNeighbours_22 : decode cX0_areNeighbours 22 = .ok (.if_icmp .ne 41, 3) := by decide +kernel
theorem dX0_areNeighbours_25 : decode cX0_areNeighbours 25 = .ok (.aload_n 0, 1) := by decide +kernel
theorem dX0_areNeighbours_26 : decode cX0_areNeighbours 26 = .ok (.getfield 31, 3) := by decide +kernel
theorem dX0_areNeighbours_29 : decode cX0_areNeighbours 29 = .ok (.iload_n 1, 1) := by decide +kernel
theorem dX0_areNeighbours_30 : decode cX0_areNeighbours 30 = .ok (.iaload, 1) := by decide +kernel
theorem dX0_areNeighbours_31 : decode cX0_areNeighbours 31 = .ok (.aload_n 0, 1) := by decide +kernel
theorem dX0_areNeighbours_32 : decode cX0_areNeighbours 32 = .ok (.getfield 31, 3) := by decide +kernel
theorem dX0_areNeighbours_35 : decode cX0_areNeighbours 35 = .ok (.iload_n 2, 1) := by decide +kernel
theorem dX0_areNeighbours_36 : decode cX0_areNeighbours 36 = .ok (.iaload, 1) := by decide +kernel
theorem dX0_areNeighbours_37 : decode cX0_areNeighbours 37 = .ok (.isub, 1) := by decide +kernel
theorem dX0_areNeighbours_38 : decode cX0_areNeighbours 38 = .ok (.iconst 1, 1) := by decide +kernel
theorem dX0_areNeighbours_39 : decode cX0_areNeighbours 39 = .ok (.if_icmp .gt 24, 3) := by decide +kernel
theorem dX0_areNeighbours_42 : decode cX0_areNeighbours 42 = .ok (.aload_n 0, 1) := by decide +kernel
theorem dX0_areNeighbours_43 : decode cX0_areNeighbours 43 = .ok (.getfield 31, 3) := by decide +kernel
theorem dX0_areNeighbours_46 : decode cX0_areNeighbours 46 = .ok (.iload_n 2, 1) := by decide +kernel
theorem dX0_areNeighbours_47 : decode cX0_areNeighbours 47 = .ok (.iaload, 1) := by decide +kernel
theorem dX0_areNeighbours_48 : decode cX0_areNeighbours 48 = .ok (.aload_n 0, 1) := by decide +kernel
theorem dX0_areNeighbours_49 : decode cX0_areNeighbours 49 = .ok (.getfield 31, 3) := by decide +kernel
theorem dX0_areNeighbours_52 : decode cX0_areNeighbours 52 = .ok (.iload_n 1, 1) := by decide +kernel
theorem dX0_areNeighbours_53 : decode cX0_areNeighbours 53 = .ok (.iaload, 1) := by decide +kernel
theorem dX0_areNeighbours_54 : decode cX0_areNeighbours 54 = .ok (.isub, 1) := by decide +kernel
theorem dX0_areNeighbours_55 : decode cX0_areNeighbours 55 = .ok (.iconst 1, 1) := by decide +kernel
theorem dX0_areNeighbours_56 : decode cX0_areNeighbours 56 = .ok (.if_icmp .gt 7, 3) := by decide +kernel
theorem dX0_areNeighbours_59 : decode cX0_areNeighbours 59 = .ok (.iconst 1, 1) := by decide +kernel
theorem dX0_areNeighbours_60 : decode cX0_areNeighbours 60 = .ok (.goto 4, 3) := by decide +kernel
theorem dX0_areNeighbours_63 : decode cX0_areNeighbours 63 = .ok (.iconst 0, 1) := by decide +kernel
theorem dX0_areNeighbours_64 : decode cX0_areNeighbours 64 = .ok (.ireturn, 1) := by decide +kernel
set_option maxRecDepth 20000 in
theorem ggX0_neighboursOf_X0_areNeighbours : GoodIn wsX0_neighboursOf wsX0_areNeighbours := goodIn_r _ [7, 8, 9, 10, 11, 12, 13, 14, 15, 16, 17, 18, 19, 20, 21, 22, 23, 24, 25, 26] (by decide +kernel) (by decide +kernel)
set_option maxRecDepth 20000 in
theorem gX0_neighboursOf_X0_areNeighbours : GoodIn wsX0_neighboursOf (wsV RX0 119 RX0 yX0_areNeighbours wsX0_areNeighbours) := goodIn_app (goodIn_of _ (by decide +kernel)) ggX0_neighboursOf_X0_areNeighbours
theorem dX0_neighboursOf_0 : decode cX0_neighboursOf 0 = .ok (.iconst 0, 1) := by decide +kernel
theorem dX0_neighboursOf_1 : decode cX0_neighboursOf 1 = .ok (.istore_n 2, 1) := by decide +kernel
theorem dX0_neighboursOf_2 : decode cX0_neighboursOf 2 = .ok (.iconst 0, 1) := by decide +kernel
theorem dX0_neighboursOf_3 : decode cX0_neighboursOf 3 = .ok (.istore_n 3, 1) := by decide +kernel
theorem dX0_neighboursOf_4 : decode cX0_neighboursOf 4 = .ok (.iload_n 3, 1) := by decide +kernel
theorem dX0_neighboursOf_5 : decode cX0_neighboursOf 5 = .ok (.aload_n 0, 1) := by decide +kernel
theorem dX0_neighboursOf_6 : decode cX0_neighboursOf 6 = .ok (.getfield 58, 3) := by decide +kernel
theorem dX0_neighboursOf_9 : decode cX0_neighboursOf 9 = .ok (.getfield 92, 3) := by decide +kernel
theorem dX0_neighboursOf_12 : decode cX0_neighboursOf 12 = .ok (.if_icmp .ge 21, 3) := by decide +kernel
theorem dX0_neighboursOf_15 : decode cX0_neighboursOf 15 = .ok (.aload_n 0, 1) := by decide +kernel
theorem dX0_neighboursOf_16 : decode cX0_neighboursOf 16 = .ok (.iload_n 1, 1) := by decide +kernel
theorem dX0_neighboursOf_17 : decode cX0_neighboursOf 17 = .ok (.iload_n 3, 1) := by decide +kernel
theorem dX0_neighboursOf_18 : decode cX0_neighboursOf 18 = .ok (.invokevirtual 119, 3) := by decide +kernel
theorem dX0_neighboursOf_21 : decode cX0_neighboursOf 21 = .ok (.ifCond .eq 6, 3) := by decide +kernel
theorem dX0_neighboursOf_24 : decode cX0_neighboursOf 24 = .ok (.iinc 2 1, 3) := by decide +kernel
theorem dX0_neighboursOf_27 : decode cX0_neighboursOf 27 = .ok (.iinc 3 1, 3) := by decide +kernel
theorem dX0_neighboursOf_30 : decode cX0_neighboursOf 30 = .ok (.goto (-26), 3) := by decide +kernel
theorem dX0_neighboursOf_33 : decode cX0_neighboursOf 33 = .ok (.iload_n 2, 1) := by decide +kernel
theorem dX0_neighboursOf_34 : decode cX0_neighboursOf 34 = .ok (.ireturn, 1) := by decide +kernel
theorem dX0_foremostPlace_0 : decode cX0_foremostPlace 0 = .ok (.iconst (-1), 1) := by decide +kernel
theorem dX0_foremostPlace_1 : decode cX0_foremostPlace 1 = .ok (.istore_n 1, 1) := by decide +kernel
theorem dX0_foremostPlace_2 : decode cX0_foremostPlace 2 = .ok (.iconst 0, 1) := by decide +kernel
theorem dX0_foremostPlace_3 : decode cX0_foremostPlace 3 = .ok (.istore_n 2, 1) := by decide +kernel
theorem dX0_foremostPlace_4 : decode cX0_foremostPlace 4 = .ok (.iload_n 2, 1) := by decide +kernel
theorem dX0_foremostPlace_5 : decode cX0_foremostPlace 5 = .ok (.aload_n 0, 1) := by decide +kernel
theorem dX0_foremostPlace_6 : decode cX0_foremostPlace 6 = .ok (.getfield 58, 3) := by decide +kernel
theorem dX0_foremostPlace_9 : decode cX0_foremostPlace 9 = .ok (.getfield 92, 3) := by decide +kernel
theorem dX0_foremostPlace_12 : decode cX0_foremostPlace 12 = .ok (.if_icmp .ge 36, 3) := by decide +kernel
theorem dX0_foremostPlace_15 : decode cX0_foremostPlace 15 = .ok (.aload_n 0, 1) := by decide +kernel
theorem dX0_foremostPlace_16 : decode cX0_foremostPlace 16 = .ok (.getfield 28, 3) := by decide +kernel
theorem dX0_foremostPlace_19 : decode cX0_foremostPlace 19 = .ok (.iload_n 2, 1) := by decide +kernel
theorem dX0_foremostPlace_20 : decode cX0_foremostPlace 20 = .ok (.iaload, 1) := by decide +kernel
theorem dX0_foremostPlace_21 : decode cX0_foremostPlace 21 = .ok (.iconst 1, 1) := by decide +kernel
theorem dX0_foremostPlace_22 : decode cX0_foremostPlace 22 = .ok (.if_icmp .ne 20, 3) := by decide +kernel
theorem dX0_foremostPlace_25 : decode cX0_foremostPlace 25 = .ok (.aload_n 0, 1) := by decide +kernel
theorem dX0_foremostPlace_26 : decode cX0_foremostPlace 26 = .ok (.getfield 31, 3) := by decide +kernel
theorem dX0_foremostPlace_29 : decode cX0_foremostPlace 29 = .ok (.iload_n 2, 1) := by decide +kernel
theorem dX0_foremostPlace_30 : decode cX0_foremostPlace 30 = .ok (.iaload, 1) := by decide +kernel
theorem dX0_foremostPlace_31 : decode cX0_foremostPlace 31 = .ok (.iload_n 1, 1) := by decide +kernel
theorem dX0_foremostPlace_32 : decode cX0_foremostPlace 32 = .ok (.if_icmp .le 10, 3) := by decide +kernel
theorem dX0_foremostPlace_35 : decode cX0_foremostPlace 35 = .ok (.aload_n 0, 1) := by decide +kernel
theorem dX0_foremostPlace_36 : decode cX0_foremostPlace 36 = .ok (.getfield 31, 3) := by decide +kernel
theorem dX0_foremostPlace_39 : decode cX0_foremostPlace 39 = .ok (.iload_n 2, 1) := by decide +kernel
theorem dX0_foremostPlace_40 : decode cX0_foremostPlace 40 = .ok (.iaload, 1) := by decide +kernel
theorem dX0_foremostPlace_41 : decode cX0_foremostPlace 41 = .ok (.istore_n 1, 1) := by decide +kernel
theorem dX0_foremostPlace_42 : decode cX0_foremostPlace 42 = .ok (.iinc 2 1, 3) := by decide +kernel
theorem dX0_foremostPlace_45 : decode cX0_foremostPlace 45 = .ok (.goto (-41), 3) := by decide +kernel
theorem dX0_foremostPlace_48 : decode cX0_foremostPlace 48 = .ok (.iload_n 1, 1) := by decide +kernel
theorem dX0_foremostPlace_49 : decode cX0_foremostPlace 49 = .ok (.ireturn, 1) := by decide +kernel
set_option maxRecDepth 20000 in
theorem ggX0_paradeLength_X0_foremostPlace : GoodIn wsX0_paradeLength wsX0_foremostPlace := goodIn_r _ [9, 1, 2, 3, 4, 10, 11, 12, 13, 14, 15, 16, 17, 18, 19, 20, 21, 22, 23, 24, 25, 26, 27, 28, 29, 30, 31, 32, 33, 34, 35, 36, 37] (by decide +kernel) (by decide +kernel)
set_option maxRecDepth 20000 in
theorem gX0_paradeLength_X0_foremostPlace : GoodIn wsX0_paradeLength (wsV RX0 123 RX0 yX0_foremostPlace wsX0_foremostPlace) := goodIn_app (goodIn_of _ (by decide +kernel)) ggX0_paradeLength_X0_foremostPlace
theorem dX0_paradeLength_0 : decode cX0_paradeLength 0 = .ok (.aload_n 0, 1) := by decide +kernel
theorem dX0_paradeLength_1 : decode cX0_paradeLength 1 = .ok (.invokevirtual 123, 3) := by decide +kernel
theorem dX0_paradeLength_4 : decode cX0_paradeLength 4 = .ok (.istore_n 1, 1) := by decide +kernel
theorem dX0_paradeLength_5 : decode cX0_paradeLength 5 = .ok (.iload_n 1, 1) := by decide +kernel
theorem dX0_paradeLength_6 : decode cX0_paradeLength 6 = .ok (.istore_n 2, 1) := by decide +kernel
theorem dX0_paradeLength_7 : decode cX0_paradeLength 7 = .ok (.iconst 0, 1) := by decide +kernel
theorem dX0_paradeLength_8 : decode cX0_paradeLength 8 = .ok (.istore_n 3, 1) := by decide +kernel
theorem dX0_paradeLength_9 : decode cX0_paradeLength 9 = .ok (.iload_n 3, 1) := by decide +kernel
theorem dX0_paradeLength_10 : decode cX0_paradeLength 10 = .ok (.aload_n 0, 1) := by decide +kernel
theorem dX0_paradeLength_11 : decode cX0_paradeLength 11 = .ok (.getfield 58, 3) := by decide +kernel
theorem dX0_paradeLength_14 : decode cX0_paradeLength 14 = .ok (.getfield 92, 3) := by decide +kernel
theorem dX0_paradeLength_17 : decode cX0_paradeLength 17 = .ok (.if_icmp .ge 36, 3) := by decide +kernel
theorem dX0_paradeLength_20 : decode cX0_paradeLength 20 = .ok (.aload_n 0, 1) := by decide +kernel
theorem dX0_paradeLength_21 : decode cX0_paradeLength 21 = .ok (.getfield 28, 3) := by decide +kernel
theorem dX0_paradeLength_24 : decode cX0_paradeLength 24 = .ok (.iload_n 3, 1) := by decide +kernel
theorem dX0_paradeLength_25 : decode cX0_paradeLength 25 = .ok (.iaload, 1) := by decide +kernel
theorem dX0_paradeLength_26 : decode cX0_paradeLength 26 = .ok (.iconst 1, 1) := by decide +kernel
theorem dX0_paradeLength_27 : decode cX0_paradeLength 27 = .ok (.if_icmp .ne 20, 3) := by decide +kernel
theorem dX0_paradeLength_30 : decode cX0_paradeLength 30 = .ok (.aload_n 0, 1) := by decide +kernel
theorem dX0_paradeLength_31 : decode cX0_paradeLength 31 = .ok (.getfield 31, 3) := by decide +kernel
theorem dX0_paradeLength_34 : decode cX0_paradeLength 34 = .ok (.iload_n 3, 1) := by decide +kernel
theorem dX0_paradeLength_35 : decode cX0_paradeLength 35 = .ok (.iaload, 1) := by decide +kernel
theorem dX0_paradeLength_36 : decode cX0_paradeLength 36 = .ok (.iload_n 2, 1) := by decide +kernel
theorem dX0_paradeLength_37 : decode cX0_paradeLength 37 = .ok (.if_icmp .ge 10, 3) := by decide +kernel
theorem dX0_paradeLength_40 : decode cX0_paradeLength 40 = .ok (.aload_n 0, 1) := by decide +kernel
theorem dX0_paradeLength_41 : decode cX0_paradeLength 41 = .ok (.getfield 31, 3) := by decide +kernel
theorem dX0_paradeLength_44 : decode cX0_paradeLength 44 = .ok (.iload_n 3, 1) := by decide +kernel
theorem dX0_paradeLength_45 : decode cX0_paradeLength 45 = .ok (.iaload, 1) := by decide +kernel
theorem dX0_paradeLength_46 : decode cX0_paradeLength 46 = .ok (.istore_n 2, 1) := by decide +kernel
theorem dX0_paradeLength_47 : decode cX0_paradeLength 47 = .ok (.iinc 3 1, 3) := by decide +kernel
theorem dX0_paradeLength_50 : decode cX0_paradeLength 50 = .ok (.goto (-41), 3) := by decide +kernel
theorem dX0_paradeLength_53 : decode cX0_paradeLength 53 = .ok (.iload_n 1, 1) := by decide +kernel
theorem dX0_paradeLength_54 : decode cX0_paradeLength 54 = .ok (.iload_n 2, 1) := by decide +kernel
theorem dX0_paradeLength_55 : decode cX0_paradeLength 55 = .ok (.isub, 1) := by decide +kernel
theorem dX0_paradeLength_56 : decode cX0_paradeLength 56 = .ok (.ireturn, 1) := by decide +kernel
set_option maxRecDepth 20000 in
theorem ggX0_takeSteps_X0_takeStep : GoodIn wsX0_takeSteps wsX0_takeStep := goodIn_r _ [5, 6, 7, 8, 9, 10, 11, 12, 13, 14, 15, 4, 16, 17, 18, 19, 20, 21, 22, 23, 24, 25, 26, 27, 28, 29, 30, 31, 32, 33, 34, 35, 36, 37, 38, 39, 40, 41, 42, 43, 44, 45, 46, 47, 48, 49, 50, 51, 52, 53, 54, 55, 56, 57, 58, 59, 60, 61, 62, 63, 64, 65, 66, 67, 68, 69, 70, 71, 72, 73, 74, 75, 76, 77, 78, 79, 80, 81, 82, 83, 84, 85, 86, 87, 88, 89, 90, 91, 92, 93, 94, 95, 96, 97, 98, 99, 100, 101, 102, 103, 104, 105, 106, 107, 108, 109, 110, 111, 112, 113, 114, 115, 116, 117, 118, 119, 120, 121, 122, 123, 124, 125, 126, 127, 128, 129, 130, 131, 132, 133, 134, 135, 136, 137, 138, 139, 140, 141, 142, 143, 144, 145, 146, 147, 148, 149, 150, 151, 152, 153, 154, 155, 156, 157, 158, 159, 160, 161, 162, 163, 164, 165, 166, 167] (by decide +kernel) (by decide +kernel)
set_option maxRecDepth 20000 in
theorem gX0_takeSteps_X0_takeStep : GoodIn wsX0_takeSteps (wsV RX0 127 RX0 yX0_takeStep wsX0_takeStep) := goodIn_app (goodIn_of _ (by decide +kernel)) ggX0_takeSteps_X0_takeStep
theorem dX0_takeSteps_0 : decode cX0_takeSteps 0 = .ok (.iconst 0, 1) := by decide +kernel
theorem dX0_takeSteps_1 : decode cX0_takeSteps 1 = .ok (.istore_n 2, 1) := by decide +kernel
theorem dX0_takeSteps_2 : decode cX0_takeSteps 2 = .ok (.iload_n 2, 1) := by decide +kernel
theorem dX0_takeSteps_3 : decode cX0_takeSteps 3 = .ok (.iload_n 1, 1) := by decide +kernel
theorem dX0_takeSteps_4 : decode cX0_takeSteps 4 = .ok (.if_icmp .ge 13, 3) := by decide +kernel
theorem dX0_takeSteps_7 : decode cX0_takeSteps 7 = .ok (.aload_n 0, 1) := by decide +kernel
theorem dX0_takeSteps_8 : decode cX0_takeSteps 8 = .ok (.invokevirtual 127, 3) := by decide +kernel
theorem dX0_takeSteps_11 : decode cX0_takeSteps 11 = .ok (.iinc 2 1, 3) := by decide +kernel
theorem dX0_takeSteps_14 : decode cX0_takeSteps 14 = .ok (.goto (-12), 3) := by decide +kernel
theorem dX0_takeSteps_17 : decode cX0_takeSteps 17 = .ok (.return_, 1) := by decide +kernel
set_option maxRecDepth 20000 in
theorem ggX0_takeStep_J9_floorMod_7cf53 : GoodIn wsX0_takeStep wsJ9_floorMod_7cf53 := goodIn_r _ [7] (by decide +kernel) (by decide +kernel)
set_option maxRecDepth 20000 in
theorem gX0_takeStep_J9_floorMod_7cf53 : GoodIn wsX0_takeStep (va_wsS RX0 133 yJ9_floorMod_7cf53 wsJ9_floorMod_7cf53) := goodIn_app (goodIn_of _ (by decide +kernel)) ggX0_takeStep_J9_floorMod_7cf53
set_option maxRecDepth 20000 in
theorem ggX0_takeStep_X0_burnDown : GoodIn wsX0_takeStep wsX0_burnDown := goodIn_r _ [12, 1, 13, 14, 15, 16, 17, 18, 19, 20, 136, 137, 138, 139, 140, 141, 142, 143, 144, 145, 146, 147, 148, 149, 150, 151, 152, 153, 154, 155, 156, 157, 158, 159, 160, 161, 162, 163] (by decide +kernel) (by decide +kernel)
set_option maxRecDepth 20000 in
theorem gX0_takeStep_X0_burnDown : GoodIn wsX0_takeStep (wsV RX0 136 RX0 yX0_burnDown wsX0_burnDown) := goodIn_app (goodIn_of _ (by decide +kernel)) ggX0_takeStep_X0_burnDown
set_option maxRecDepth 20000 in
theorem ggX0_takeStep_X0_blowOut : GoodIn wsX0_takeStep wsX0_blowOut := goodIn_r _ [24, 1, 13, 15, 14, 25, 26, 27, 11, 28, 29, 30, 31, 32, 33, 136, 137, 138, 139, 140, 141, 142, 143, 144, 145, 146, 147, 148, 149, 150, 151, 152, 153, 154, 155, 156, 157, 158, 159, 160, 161, 162, 163] (by decide +kernel) (by decide +kernel)
set_option maxRecDepth 20000 in
theorem gX0_takeStep_X0_blowOut : GoodIn wsX0_takeStep (wsV RX0 140 RX0 yX0_blowOut wsX0_blowOut) := goodIn_app (goodIn_of _ (by decide +kernel)) ggX0_takeStep_X0_blowOut
set_option maxRecDepth 20000 in
theorem ggX0_takeStep_X0_lightEachOther : GoodIn wsX0_takeStep wsX0_lightEachOther := goodIn_r _ [37, 14, 38, 1, 13, 15, 16, 39, 40, 11, 41, 42, 43, 44, 45, 29, 30, 31, 32, 33, 136, 137, 138, 139, 140, 141, 142, 143, 144, 145, 146, 147, 148, 149, 150, 151, 152, 153, 154, 155, 156, 157, 158, 159, 160, 161, 162, 163] (by decide +kernel) (by decide +kernel)
set_option maxRecDepth 20000 in
theorem gX0_takeStep_X0_lightEachOther : GoodIn wsX0_takeStep (wsV RX0 143 RX0 yX0_lightEachOther wsX0_lightEachOther) := goodIn_app (goodIn_of _ (by decide +kernel)) ggX0_takeStep_X0_lightEachOther
set_option maxRecDepth 20000 in
theorem ggX0_takeStep_X0_singToEachOther : GoodIn wsX0_takeStep wsX0_singToEachOther := goodIn_r _ [49, 50, 51, 1, 13, 15, 52, 53, 11, 54, 55, 56, 19, 57, 58, 59, 60, 61, 62, 63, 64, 65, 66, 67, 68, 69, 70, 29, 30, 31, 32, 33, 71, 72, 73, 74, 75, 14, 76, 77, 78, 79, 80, 136, 137, 138, 139, 140, 141, 142, 143, 144, 145, 146, 147, 148, 149, 150, 151, 152, 153, 154, 155, 156, 157, 158, 159, 160, 161, 162, 163] (by decide +kernel) (by decide +kernel)
set_option maxRecDepth 20000 in
theorem gX0_takeStep_X0_singToEachOther : GoodIn wsX0_takeStep (wsV RX0 146 RX0 yX0_singToEachOther wsX0_singToEachOther) := goodIn_app (goodIn_of _ (by decide +kernel)) ggX0_takeStep_X0_singToEachOther
set_option maxRecDepth 20000 in
theorem ggX0_takeStep_X0_goOn : GoodIn wsX0_takeStep wsX0_goOn := goodIn_r _ [84, 1, 85, 86, 13, 87, 88, 89, 90, 11, 91, 92, 93, 94, 95, 96, 97, 15, 33, 98, 99, 100, 101, 102, 14, 103, 17, 18, 19, 20, 104, 105, 106, 107, 108, 109, 110, 111, 112, 113, 114, 115, 116, 117, 118, 119, 120, 121, 122, 123, 124, 125, 126, 127, 128, 129, 130, 131, 3, 136, 137, 138, 139, 140, 141, 142, 143, 144, 145, 146, 147, 148, 149, 150, 151, 152, 153, 154, 155, 156, 157, 158, 159, 160, 161, 162, 163] (by decide +kernel) (by decide +kernel)
set_option maxRecDepth 20000 in
theorem gX0_takeStep_X0_goOn : GoodIn wsX0_takeStep (wsV RX0 149 RX0 yX0_goOn wsX0_goOn) := goodIn_app (goodIn_of _ (by decide +kernel)) ggX0_takeStep_X0_goOn
set_option maxRecDepth 20000 in
theorem ggX0_takeStep_X0_start : GoodIn wsX0_takeStep wsX0_start := goodIn_r _ [135, 1, 13, 15, 33, 109, 110, 111, 11, 112, 136, 137, 138, 139, 140, 141, 142, 143, 144, 145, 146, 147, 148, 149, 150, 151, 152, 153, 154, 155, 156, 157, 158, 159, 160, 161, 162, 163] (by decide +kernel) (by decide +kernel)
set_option maxRecDepth 20000 in
theorem gX0_takeStep_X0_start : GoodIn wsX0_takeStep (wsV RX0 152 RX0 yX0_start wsX0_start) := goodIn_app (goodIn_of _ (by decide +kernel)) ggX0_takeStep_X0_start
theorem dX0_takeStep_0 : decode cX0_takeStep 0 = .ok (.aload_n 0, 1) := by decide +kernel
theorem dX0_takeStep_1 : decode cX0_takeStep 1 = .ok (.getfield 58, 3) := by decide +kernel
theorem dX0_takeStep_4 : decode cX0_takeStep 4 = .ok (.getfield 130, 3) := by decide +kernel
theorem dX0_takeStep_7 : decode cX0_takeStep 7 = .ok (.aload_n 0, 1) := by decide +kernel
theorem dX0_takeStep_8 : decode cX0_takeStep 8 = .ok (.getfield 68, 3) := by decide +kernel
theorem dX0_takeStep_11 : decode cX0_takeStep 11 = .ok (.bipush 10, 2) := by decide +kernel
theorem dX0_takeStep_13 : decode cX0_takeStep 13 = .ok (.invokestatic 133, 3) := by decide +kernel
theorem dX0_takeStep_16 : decode cX0_takeStep 16 = .ok (.iaload, 1) := by decide +kernel
theorem dX0_takeStep_17 : decode cX0_takeStep 17 = .ok (.istore_n 1, 1) := by decide +kernel
theorem dX0_takeStep_18 : decode cX0_takeStep 18 = .ok (.aload_n 0, 1) := by decide +kernel
theorem dX0_takeStep_19 : decode cX0_takeStep 19 = .ok (.iload_n 1, 1) := by decide +kernel
theorem dX0_takeStep_20 : decode cX0_takeStep 20 = .ok (.invokevirtual 136, 3) := by decide +kernel
theorem dX0_takeStep_23 : decode cX0_takeStep 23 = .ok (.aload_n 0, 1) := by decide +kernel
theorem dX0_takeStep_24 : decode cX0_takeStep 24 = .ok (.iload_n 1, 1) := by decide +kernel
theorem dX0_takeStep_25 : decode cX0_takeStep 25 = .ok (.invokevirtual 140, 3) := by decide +kernel
theorem dX0_takeStep_28 : decode cX0_takeStep 28 = .ok (.aload_n 0, 1) := by decide +kernel
theorem dX0_takeStep_29 : decode cX0_takeStep 29 = .ok (.invokevirtual 143, 3) := by decide +kernel
theorem dX0_takeStep_32 : decode cX0_takeStep 32 = .ok (.aload_n 0, 1) := by decide +kernel
theorem dX0_takeStep_33 : decode cX0_takeStep 33 = .ok (.invokevirtual 146, 3) := by decide +kernel
theorem dX0_takeStep_36 : decode cX0_takeStep 36 = .ok (.aload_n 0, 1) := by decide +kernel
theorem dX0_takeStep_37 : decode cX0_takeStep 37 = .ok (.invokevirtual 149, 3) := by decide +kernel
theorem dX0_takeStep_40 : decode cX0_takeStep 40 = .ok (.aload_n 0, 1) := by decide +kernel
theorem dX0_takeStep_41 : decode cX0_takeStep 41 = .ok (.invokevirtual 152, 3) := by decide +kernel
theorem dX0_takeStep_44 : decode cX0_takeStep 44 = .ok (.aload_n 0, 1) := by decide +kernel
theorem dX0_takeStep_45 : decode cX0_takeStep 45 = .ok (.dup, 1) := by decide +kernel
theorem dX0_takeStep_46 : decode cX0_takeStep 46 = .ok (.getfield 68, 3) := by decide +kernel
theorem dX0_takeStep_49 : decode cX0_takeStep 49 = .ok (.iconst 1, 1) := by decide +kernel
theorem dX0_takeStep_50 : decode cX0_takeStep 50 = .ok (.iadd, 1) := by decide +kernel
theorem dX0_takeStep_51 : decode cX0_takeStep 51 = .ok (.putfield 68, 3) := by decide +kernel
theorem dX0_takeStep_54 : decode cX0_takeStep 54 = .ok (.return_, 1) := by decide +kernel
theorem dX0_burnDown_0 : decode cX0_burnDown 0 = .ok (.iload_n 1, 1) := by decide +kernel
theorem dX0_burnDown_1 : decode cX0_burnDown 1 = .ok (.bipush 6, 2) := by decide +kernel
theorem dX0_burnDown_3 : decode cX0_burnDown 3 = .ok (.if_icmp .lt 7, 3) := by decide +kernel
theorem dX0_burnDown_6 : decode cX0_burnDown 6 = .ok (.iconst 2, 1) := by decide +kernel
theorem dX0_burnDown_7 : decode cX0_burnDown 7 = .ok (.goto 4, 3) := by decide +kernel
theorem dX0_burnDown_10 : decode cX0_burnDown 10 = .ok (.iconst 1, 1) := by decide +kernel
theorem dX0_burnDown_11 : decode cX0_burnDown 11 = .ok (.istore_n 2, 1) := by decide +kernel
theorem dX0_burnDown_12 : decode cX0_burnDown 12 = .ok (.iconst 0, 1) := by decide +kernel
theorem dX0_burnDown_13 : decode cX0_burnDown 13 = .ok (.istore_n 3, 1) := by decide +kernel
theorem dX0_burnDown_14 : decode cX0_burnDown 14 = .ok (.iload_n 3, 1) := by decide +kernel
theorem dX0_burnDown_15 : decode cX0_burnDown 15 = .ok (.aload_n 0, 1) := by decide +kernel
theorem dX0_burnDown_16 : decode cX0_burnDown 16 = .ok (.getfield 58, 3) := by decide +kernel
theorem dX0_burnDown_19 : decode cX0_burnDown 19 = .ok (.getfield 92, 3) := by decide +kernel
theorem dX0_burnDown_22 : decode cX0_burnDown 22 = .ok (.if_icmp .ge 66, 3) := by decide +kernel
theorem dX0_burnDown_25 : decode cX0_burnDown 25 = .ok (.aload_n 0, 1) := by decide +kernel
theorem dX0_burnDown_26 : decode cX0_burnDown 26 = .ok (.getfield 24, 3) := by decide +kernel
theorem dX0_burnDown_29 : decode cX0_burnDown 29 = .ok (.iload_n 3, 1) := by decide +kernel
theorem dX0_burnDown_30 : decode cX0_burnDown 30 = .ok (.baload, 1) := by decide +kernel
theorem dX0_burnDown_31 : decode cX0_burnDown 31 = .ok (.ifCond .eq 51, 3) := by decide +kernel
theorem dX0_burnDown_34 : decode cX0_burnDown 34 = .ok (.aload_n 0, 1) := by decide +kernel
theorem dX0_burnDown_35 : decode cX0_burnDown 35 = .ok (.getfield 28, 3) := by decide +kernel
theorem dX0_burnDown_38 : decode cX0_burnDown 38 = .ok (.iload_n 3, 1) := by decide +kernel
theorem dX0_burnDown_39 : decode cX0_burnDown 39 = .ok (.iaload, 1) := by decide +kernel
theorem dX0_burnDown_40 : decode cX0_burnDown 40 = .ok (.iconst 2, 1) := by decide +kernel
theorem dX0_burnDown_41 : decode cX0_burnDown 41 = .ok (.if_icmp .eq 41, 3) := by decide +kernel
theorem dX0_burnDown_44 : decode cX0_burnDown 44 = .ok (.aload_n 0, 1) := by decide +kernel
theorem dX0_burnDown_45 : decode cX0_burnDown 45 = .ok (.getfield 21, 3) := by decide +kernel
theorem dX0_burnDown_48 : decode cX0_burnDown 48 = .ok (.iload_n 3, 1) := by decide +kernel
theorem dX0_burnDown_49 : decode cX0_burnDown 49 = .ok (.iconst 0, 1) := by decide +kernel
theorem dX0_burnDown_50 : decode cX0_burnDown 50 = .ok (.aload_n 0, 1) := by decide +kernel
theorem dX0_burnDown_51 : decode cX0_burnDown 51 = .ok (.getfield 21, 3) := by decide +kernel
theorem dX0_burnDown_54 : decode cX0_burnDown 54 = .ok (.iload_n 3, 1) := by decide +kernel
theorem dX0_burnDown_55 : decode cX0_burnDown 55 = .ok (.iaload, 1) := by decide +kernel
theorem dX0_burnDown_56 : decode cX0_burnDown 56 = .ok (.iload_n 2, 1) := by decide +kernel
theorem dX0_burnDown_57 : decode cX0_burnDown 57 = .ok (.isub, 1) := by decide +kernel
theorem dX0_burnDown_58 : decode cX0_burnDown 58 = .ok (.invokestatic 155, 3) := by decide +kernel
theorem dX0_burnDown_61 : decode cX0_burnDown 61 = .ok (.iastore, 1) := by decide +kernel
theorem dX0_burnDown_62 : decode cX0_burnDown 62 = .ok (.aload_n 0, 1) := by decide +kernel
theorem dX0_burnDown_63 : decode cX0_burnDown 63 = .ok (.getfield 24, 3) := by decide +kernel
theorem dX0_burnDown_66 : decode cX0_burnDown 66 = .ok (.iload_n 3, 1) := by decide +kernel
theorem dX0_burnDown_67 : decode cX0_burnDown 67 = .ok (.aload_n 0, 1) := by decide +kernel
theorem dX0_burnDown_68 : decode cX0_burnDown 68 = .ok (.getfield 21, 3) := by decide +kernel
theorem dX0_burnDown_71 : decode cX0_burnDown 71 = .ok (.iload_n 3, 1) := by decide +kernel
theorem dX0_burnDown_72 : decode cX0_burnDown 72 = .ok (.iaload, 1) := by decide +kernel
theorem dX0_burnDown_73 : decode cX0_burnDown 73 = .ok (.ifCond .le 7, 3) := by decide +kernel
theorem dX0_burnDown_76 : decode cX0_burnDown 76 = .ok (.iconst 1, 1) := by decide +kernel
theorem dX0_burnDown_77 : decode cX0_burnDown 77 = .ok (.goto 4, 3) := by decide +kernel
theorem dX0_burnDown_80 : decode cX0_burnDown 80 = .ok (.iconst 0, 1) := by decide +kernel
theorem dX0_burnDown_81 : decode cX0_burnDown 81 = .ok (.bastore, 1) := by decide +kernel
theorem dX0_burnDown_82 : decode cX0_burnDown 82 = .ok (.iinc 3 1, 3) := by decide +kernel
theorem dX0_burnDown_85 : decode cX0_burnDown 85 = .ok (.goto (-71), 3) := by decide +kernel
theorem dX0_burnDown_88 : decode cX0_burnDown 88 = .ok (.return_, 1) := by decide +kernel
set_option maxRecDepth 20000 in
theorem ggX0_blowOut_X0_neighboursOf : GoodIn wsX0_blowOut wsX0_neighboursOf := goodIn_r _ [9, 1, 2, 10, 11, 12, 8, 13, 3, 14, 15, 16, 17, 18, 19, 20, 21, 22, 23, 24, 25, 26, 27, 28, 29, 30, 31, 32, 33, 34, 35, 36, 37, 38, 39, 40, 41, 42] (by decide +kernel) (by decide +kernel)
set_option maxRecDepth 20000 in
theorem gX0_blowOut_X0_neighboursOf : GoodIn wsX0_blowOut (wsV RX0 158 RX0 yX0_neighboursOf wsX0_neighboursOf) := goodIn_app (goodIn_of _ (by decide +kernel)) ggX0_blowOut_X0_neighboursOf
theorem dX0_blowOut_0 : decode cX0_blowOut 0 = .ok (.iload_n 1, 1) := by decide +kernel
theorem dX0_blowOut_1 : decode cX0_blowOut 1 = .ok (.bipush 8, 2) := by decide +kernel
theorem dX0_blowOut_3 : decode cX0_blowOut 3 = .ok (.if_icmp .ge 4, 3) := by decide +kernel
theorem dX0_blowOut_6 : decode cX0_blowOut 6 = .ok (.return_, 1) := by decide +kernel
theorem dX0_blowOut_7 : decode cX0_blowOut 7 = .ok (.iconst 0, 1) := by decide +kernel
theorem dX0_blowOut_8 : decode cX0_blowOut 8 = .ok (.istore_n 2, 1) := by decide +kernel
theorem dX0_blowOut_9 : decode cX0_blowOut 9 = .ok (.iload_n 2, 1) := by decide +kernel
theorem dX0_blowOut_10 : decode cX0_blowOut 10 = .ok (.aload_n 0, 1) := by decide +kernel
theorem dX0_blowOut_11 : decode cX0_blowOut 11 = .ok (.getfield 58, 3) := by decide +kernel
theorem dX0_blowOut_14 : decode cX0_blowOut 14 = .ok (.getfield 92, 3) := by decide +kernel
theorem dX0_blowOut_17 : decode cX0_blowOut 17 = .ok (.if_icmp .ge 35, 3) := by decide +kernel
theorem dX0_blowOut_20 : decode cX0_blowOut 20 = .ok (.aload_n 0, 1) := by decide +kernel
theorem dX0_blowOut_21 : decode cX0_blowOut 21 = .ok (.getfield 28, 3) := by decide +kernel
theorem dX0_blowOut_24 : decode cX0_blowOut 24 = .ok (.iload_n 2, 1) := by decide +kernel
theorem dX0_blowOut_25 : decode cX0_blowOut 25 = .ok (.iaload, 1) := by decide +kernel
theorem dX0_blowOut_26 : decode cX0_blowOut 26 = .ok (.iconst 1, 1) := by decide +kernel
theorem dX0_blowOut_27 : decode cX0_blowOut 27 = .ok (.if_icmp .ne 19, 3) := by decide +kernel
theorem dX0_blowOut_30 : decode cX0_blowOut 30 = .ok (.aload_n 0, 1) := by decide +kernel
theorem dX0_blowOut_31 : decode cX0_blowOut 31 = .ok (.iload_n 2, 1) := by decide +kernel
theorem dX0_blowOut_32 : decode cX0_blowOut 32 = .ok (.invokevirtual 158, 3) := by decide +kernel
theorem dX0_blowOut_35 : decode cX0_blowOut 35 = .ok (.iconst 2, 1) := by decide +kernel
theorem dX0_blowOut_36 : decode cX0_blowOut 36 = .ok (.if_icmp .ge 10, 3) := by decide +kernel
theorem dX0_blowOut_39 : decode cX0_blowOut 39 = .ok (.aload_n 0, 1) := by decide +kernel
theorem dX0_blowOut_40 : decode cX0_blowOut 40 = .ok (.getfield 24, 3) := by decide +kernel
theorem dX0_blowOut_43 : decode cX0_blowOut 43 = .ok (.iload_n 2, 1) := by decide +kernel
theorem dX0_blowOut_44 : decode cX0_blowOut 44 = .ok (.iconst 0, 1) := by decide +kernel
theorem dX0_blowOut_45 : decode cX0_blowOut 45 = .ok (.bastore, 1) := by decide +kernel
theorem dX0_blowOut_46 : decode cX0_blowOut 46 = .ok (.iinc 2 1, 3) := by decide +kernel
theorem dX0_blowOut_49 : decode cX0_blowOut 49 = .ok (.goto (-40), 3) := by decide +kernel
theorem dX0_blowOut_52 : decode cX0_blowOut 52 = .ok (.return_, 1) := by decide +kernel
set_option maxRecDepth 20000 in
theorem ggX0_lightEachOther_X0_copyFlags : GoodIn wsX0_lightEachOther wsX0_copyFlags := goodIn_r _ [10] (by decide +kernel) (by decide +kernel)
set_option maxRecDepth 20000 in
theorem gX0_lightEachOther_X0_copyFlags : GoodIn wsX0_lightEachOther (va_wsS RX0 76 yX0_copyFlags wsX0_copyFlags) := goodIn_app (goodIn_of _ (by decide +kernel)) ggX0_lightEachOther_X0_copyFlags
set_option maxRecDepth 20000 in
theorem ggX0_lightEachOther_X0_isBesideBurning : GoodIn wsX0_lightEachOther wsX0_isBesideBurning := goodIn_r _ [14, 3, 4, 2, 15, 16, 17, 9, 18, 5, 19, 20, 21, 22, 23, 24, 25, 26, 27, 28, 29, 30, 31, 32, 33, 34, 35, 36, 37, 38, 39, 40, 41, 42, 43, 44, 45, 46, 47] (by decide +kernel) (by decide +kernel)
set_option maxRecDepth 20000 in
theorem gX0_lightEachOther_X0_isBesideBurning : GoodIn wsX0_lightEachOther (wsV RX0 161 RX0 yX0_isBesideBurning wsX0_isBesideBurning) := goodIn_app (goodIn_of _ (by decide +kernel)) ggX0_lightEachOther_X0_isBesideBurning
theorem dX0_lightEachOther_0 : decode cX0_lightEachOther 0 = .ok (.aload_n 0, 1) := by decide +kernel
theorem dX0_lightEachOther_1 : decode cX0_lightEachOther 1 = .ok (.getfield 24, 3) := by decide +kernel
theorem dX0_lightEachOther_4 : decode cX0_lightEachOther 4 = .ok (.aload_n 0, 1) := by decide +kernel
theorem dX0_lightEachOther_5 : decode cX0_lightEachOther 5 = .ok (.getfield 43, 3) := by decide +kernel
theorem dX0_lightEachOther_8 : decode cX0_lightEachOther 8 = .ok (.invokestatic 76, 3) := by decide +kernel
theorem dX0_lightEachOther_11 : decode cX0_lightEachOther 11 = .ok (.iconst 0, 1) := by decide +kernel
theorem dX0_lightEachOther_12 : decode cX0_lightEachOther 12 = .ok (.istore_n 1, 1) := by decide +kernel
theorem dX0_lightEachOther_13 : decode cX0_lightEachOther 13 = .ok (.iload_n 1, 1) := by decide +kernel
theorem dX0_lightEachOther_14 : decode cX0_lightEachOther 14 = .ok (.aload_n 0, 1) := by decide +kernel
theorem dX0_lightEachOther_15 : decode cX0_lightEachOther 15 = .ok (.getfield 58, 3) := by decide +kernel
theorem dX0_lightEachOther_18 : decode cX0_lightEachOther 18 = .ok (.getfield 92, 3) := by decide +kernel
theorem dX0_lightEachOther_21 : decode cX0_lightEachOther 21 = .ok (.if_icmp .ge 43, 3) := by decide +kernel
theorem dX0_lightEachOther_24 : decode cX0_lightEachOther 24 = .ok (.aload_n 0, 1) := by decide +kernel
theorem dX0_lightEachOther_25 : decode cX0_lightEachOther 25 = .ok (.getfield 28, 3) := by decide +kernel
theorem dX0_lightEachOther_28 : decode cX0_lightEachOther 28 = .ok (.iload_n 1, 1) := by decide +kernel
theorem dX0_lightEachOther_29 : decode cX0_lightEachOther 29 = .ok (.iaload, 1) := by decide +kernel
theorem dX0_lightEachOther_30 : decode cX0_lightEachOther 30 = .ok (.iconst 1, 1) := by decide +kernel
theorem dX0_lightEachOther_31 : decode cX0_lightEachOther 31 = .ok (.if_icmp .ne 27, 3) := by decide +kernel
theorem dX0_lightEachOther_34 : decode cX0_lightEachOther 34 = .ok (.aload_n 0, 1) := by decide +kernel
theorem dX0_lightEachOther_35 : decode cX0_lightEachOther 35 = .ok (.getfield 21, 3) := by decide +kernel
theorem dX0_lightEachOther_38 : decode cX0_lightEachOther 38 = .ok (.iload_n 1, 1) := by decide +kernel
theorem dX0_lightEachOther_39 : decode cX0_lightEachOther 39 = .ok (.iaload, 1) := by decide +kernel
theorem dX0_lightEachOther_40 : decode cX0_lightEachOther 40 = .ok (.ifCond .le 18, 3) := by decide +kernel
theorem dX0_lightEachOther_43 : decode cX0_lightEachOther 43 = .ok (.aload_n 0, 1) := by decide +kernel
theorem dX0_lightEachOther_44 : decode cX0_lightEachOther 44 = .ok (.iload_n 1, 1) := by decide +kernel
theorem dX0_lightEachOther_45 : decode cX0_lightEachOther 45 = .ok (.invokevirtual 161, 3) := by decide +kernel
theorem dX0_lightEachOther_48 : decode cX0_lightEachOther 48 = .ok (.ifCond .eq 10, 3) := by decide +kernel
theorem dX0_lightEachOther_51 : decode cX0_lightEachOther 51 = .ok (.aload_n 0, 1) := by decide +kernel
theorem dX0_lightEachOther_52 : decode cX0_lightEachOther 52 = .ok (.getfield 24, 3) := by decide +kernel
theorem dX0_lightEachOther_55 : decode cX0_lightEachOther 55 = .ok (.iload_n 1, 1) := by decide +kernel
theorem dX0_lightEachOther_56 : decode cX0_lightEachOther 56 = .ok (.iconst 1, 1) := by decide +kernel
theorem dX0_lightEachOther_57 : decode cX0_lightEachOther 57 = .ok (.bastore, 1) := by decide +kernel
theorem dX0_lightEachOther_58 : decode cX0_lightEachOther 58 = .ok (.iinc 1 1, 3) := by decide +kernel
theorem dX0_lightEachOther_61 : decode cX0_lightEachOther 61 = .ok (.goto (-48), 3) := by decide +kernel
theorem dX0_lightEachOther_64 : decode cX0_lightEachOther 64 = .ok (.return_, 1) := by decide +kernel
set_option maxRecDepth 20000 in
theorem ggX0_isBesideBurning_X0_areNeighbours : GoodIn wsX0_isBesideBurning wsX0_areNeighbours := goodIn_r _ [8, 9, 10, 11, 12, 13, 14, 15, 16, 17, 18, 19, 20, 21, 22, 23, 24, 25, 26, 27] (by decide +kernel) (by decide +kernel)
set_option maxRecDepth 20000 in
theorem gX0_isBesideBurning_X0_areNeighbours : GoodIn wsX0_isBesideBurning (wsV RX0 119 RX0 yX0_areNeighbours wsX0_areNeighbours) := goodIn_app (goodIn_of _ (by decide +kernel)) ggX0_isBesideBurning_X0_areNeighbours
theorem dX0_isBesideBurning_0 : decode cX0_isBesideBurning 0 = .ok (.iconst 0, 1) := by decide +kernel
theorem dX0_isBesideBurning_1 : decode cX0_isBesideBurning 1 = .ok (.istore_n 2, 1) := by decide +kernel
theorem dX0_isBesideBurning_2 : decode cX0_isBesideBurning 2 = .ok (.iload_n 2, 1) := by decide +kernel
theorem dX0_isBesideBurning_3 : decode cX0_isBesideBurning 3 = .ok (.aload_n 0, 1) := by decide +kernel
theorem dX0_isBesideBurning_4 : decode cX0_isBesideBurning 4 = .ok (.getfield 58, 3) := by decide +kernel
theorem dX0_isBesideBurning_7 : decode cX0_isBesideBurning 7 = .ok (.getfield 92, 3) := by decide +kernel
theorem dX0_isBesideBurning_10 : decode cX0_isBesideBurning 10 = .ok (.if_icmp .ge 29, 3) := by decide +kernel
theorem dX0_isBesideBurning_13 : decode cX0_isBesideBurning 13 = .ok (.aload_n 0, 1) := by decide +kernel
theorem dX0_isBesideBurning_14 : decode cX0_isBesideBurning 14 = .ok (.getfield 43, 3) := by decide +kernel
theorem dX0_isBesideBurning_17 : decode cX0_isBesideBurning 17 = .ok (.iload_n 2, 1) := by decide +kernel
theorem dX0_isBesideBurning_18 : decode cX0_isBesideBurning 18 = .ok (.baload, 1) := by decide +kernel
theorem dX0_isBesideBurning_19 : decode cX0_isBesideBurning 19 = .ok (.ifCond .eq 14, 3) := by decide +kernel
theorem dX0_isBesideBurning_22 : decode cX0_isBesideBurning 22 = .ok (.aload_n 0, 1) := by decide +kernel
theorem dX0_isBesideBurning_23 : decode cX0_isBesideBurning 23 = .ok (.iload_n 1, 1) := by decide +kernel
theorem dX0_isBesideBurning_24 : decode cX0_isBesideBurning 24 = .ok (.iload_n 2, 1) := by decide +kernel
theorem dX0_isBesideBurning_25 : decode cX0_isBesideBurning 25 = .ok (.invokevirtual 119, 3) := by decide +kernel
theorem dX0_isBesideBurning_28 : decode cX0_isBesideBurning 28 = .ok (.ifCond .eq 5, 3) := by decide +kernel
theorem dX0_isBesideBurning_31 : decode cX0_isBesideBurning 31 = .ok (.iconst 1, 1) := by decide +kernel
theorem dX0_isBesideBurning_32 : decode cX0_isBesideBurning 32 = .ok (.ireturn, 1) := by decide +kernel
theorem dX0_isBesideBurning_33 : decode cX0_isBesideBurning 33 = .ok (.iinc 2 1, 3) := by decide +kernel
theorem dX0_isBesideBurning_36 : decode cX0_isBesideBurning 36 = .ok (.goto (-34), 3) := by decide +kernel
theorem dX0_isBesideBurning_39 : decode cX0_isBesideBurning 39 = .ok (.iconst 0, 1) := by decide +kernel
theorem dX0_isBesideBurning_40 : decode cX0_isBesideBurning 40 = .ok (.ireturn, 1) := by decide +kernel
set_option maxRecDepth 20000 in
theorem ggX0_singToEachOther_X0_copyNumbers : GoodIn wsX0_singToEachOther wsX0_copyNumbers := goodIn_r _ [9, 10, 11, 12, 13, 14, 15, 16, 17] (by decide +kernel) (by decide +kernel)
set_option maxRecDepth 20000 in
theorem gX0_singToEachOther_X0_copyNumbers : GoodIn wsX0_singToEachOther (va_wsS RX0 72 yX0_copyNumbers wsX0_copyNumbers) := goodIn_app (goodIn_of _ (by decide +kernel)) ggX0_singToEachOther_X0_copyNumbers
set_option maxRecDepth 20000 in
theorem ggX0_singToEachOther_X0_listenAround : GoodIn wsX0_singToEachOther wsX0_listenAround := goodIn_r _ [21, 22, 3, 4, 23, 24, 25, 26, 27, 28, 29, 8, 30, 5, 31, 32, 33, 34, 35, 36, 37, 38, 2, 39, 1, 40, 41, 42, 43, 44, 45, 46, 47, 48, 49, 50, 51, 52, 53, 54, 55, 56, 57, 58, 59, 60, 61, 62, 63, 64, 65, 66, 67, 68, 69, 70] (by decide +kernel) (by decide +kernel)
set_option maxRecDepth 20000 in
theorem gX0_singToEachOther_X0_listenAround : GoodIn wsX0_singToEachOther (wsV RX0 165 RX0 yX0_listenAround wsX0_listenAround) := goodIn_app (goodIn_of _ (by decide +kernel)) ggX0_singToEachOther_X0_listenAround
theorem dX0_singToEachOther_0 : decode cX0_singToEachOther 0 = .ok (.aload_n 0, 1) := by decide +kernel
theorem dX0_singToEachOther_1 : decode cX0_singToEachOther 1 = .ok (.getfield 40, 3) := by decide +kernel
theorem dX0_singToEachOther_4 : decode cX0_singToEachOther 4 = .ok (.aload_n 0, 1) := by decide +kernel
theorem dX0_singToEachOther_5 : decode cX0_singToEachOther 5 = .ok (.getfield 46, 3) := by decide +kernel
theorem dX0_singToEachOther_8 : decode cX0_singToEachOther 8 = .ok (.invokestatic 72, 3) := by decide +kernel
theorem dX0_singToEachOther_11 : decode cX0_singToEachOther 11 = .ok (.iconst 0, 1) := by decide +kernel
theorem dX0_singToEachOther_12 : decode cX0_singToEachOther 12 = .ok (.istore_n 1, 1) := by decide +kernel
theorem dX0_singToEachOther_13 : decode cX0_singToEachOther 13 = .ok (.iload_n 1, 1) := by decide +kernel
theorem dX0_singToEachOther_14 : decode cX0_singToEachOther 14 = .ok (.aload_n 0, 1) := by decide +kernel
theorem dX0_singToEachOther_15 : decode cX0_singToEachOther 15 = .ok (.getfield 58, 3) := by decide +kernel
theorem dX0_singToEachOther_18 : decode cX0_singToEachOther 18 = .ok (.getfield 92, 3) := by decide +kernel
theorem dX0_singToEachOther_21 : decode cX0_singToEachOther 21 = .ok (.if_icmp .ge 24, 3) := by decide +kernel
theorem dX0_singToEachOther_24 : decode cX0_singToEachOther 24 = .ok (.aload_n 0, 1) := by decide +kernel
theorem dX0_singToEachOther_25 : decode cX0_singToEachOther 25 = .ok (.getfield 28, 3) := by decide +kernel
theorem dX0_singToEachOther_28 : decode cX0_singToEachOther 28 = .ok (.iload_n 1, 1) := by decide +kernel
theorem dX0_singToEachOther_29 : decode cX0_singToEachOther 29 = .ok (.iaload, 1) := by decide +kernel
theorem dX0_singToEachOther_30 : decode cX0_singToEachOther 30 = .ok (.iconst 1, 1) := by decide +kernel
theorem dX0_singToEachOther_31 : decode cX0_singToEachOther 31 = .ok (.if_icmp .ne 8, 3) := by decide +kernel
theorem dX0_singToEachOther_34 : decode cX0_singToEachOther 34 = .ok (.aload_n 0, 1) := by decide +kernel
theorem dX0_singToEachOther_35 : decode cX0_singToEachOther 35 = .ok (.iload_n 1, 1) := by decide +kernel
theorem dX0_singToEachOther_36 : decode cX0_singToEachOther 36 = .ok (.invokevirtual 165, 3) := by decide +kernel
theorem dX0_singToEachOther_39 : decode cX0_singToEachOther 39 = .ok (.iinc 1 1, 3) := by decide +kernel
theorem dX0_singToEachOther_42 : decode cX0_singToEachOther 42 = .ok (.goto (-29), 3) := by decide +kernel
theorem dX0_singToEachOther_45 : decode cX0_singToEachOther 45 = .ok (.return_, 1) := by decide +kernel
set_option maxRecDepth 20000 in
theorem ggX0_listenAround_J7_fill_53178 : GoodIn wsX0_listenAround wsJ7_fill_53178 := goodIn_r _ [7] (by decide +kernel) (by decide +kernel)
set_option maxRecDepth 20000 in
theorem gX0_listenAround_J7_fill_53178 : GoodIn wsX0_listenAround (va_wsS RX0 62 yJ7_fill_53178 wsJ7_fill_53178) := goodIn_app (goodIn_of _ (by decide +kernel)) ggX0_listenAround_J7_fill_53178
set_option maxRecDepth 20000 in
theorem ggX0_listenAround_X0_areNeighbours : GoodIn wsX0_listenAround wsX0_areNeighbours := goodIn_r _ [12, 13, 14, 28, 29, 30, 31, 32, 33, 34, 35, 36, 37, 38, 39, 40, 41, 42, 43, 44] (by decide +kernel) (by decide +kernel)
set_option maxRecDepth 20000 in
theorem gX0_listenAround_X0_areNeighbours : GoodIn wsX0_listenAround (wsV RX0 119 RX0 yX0_areNeighbours wsX0_areNeighbours) := goodIn_app (goodIn_of _ (by decide +kernel)) ggX0_listenAround_X0_areNeighbours
set_option maxRecDepth 20000 in
theorem ggX0_listenAround_X0_listenTo : GoodIn wsX0_listenAround wsX0_listenTo := goodIn_r _ [18, 2, 19, 20, 21, 22, 1, 23, 24, 25, 26, 27, 28, 29, 30, 31, 32, 33, 34, 35, 36, 37, 38, 39, 40, 41, 42, 43, 44, 45, 46, 47, 48, 49, 50, 51, 52, 53, 54, 55] (by decide +kernel) (by decide +kernel)
set_option maxRecDepth 20000 in
theorem gX0_listenAround_X0_listenTo : GoodIn wsX0_listenAround (wsV RX0 168 RX0 yX0_listenTo wsX0_listenTo) := goodIn_app (goodIn_of _ (by decide +kernel)) ggX0_listenAround_X0_listenTo
theorem dX0_listenAround_0 : decode cX0_listenAround 0 = .ok (.aload_n 0, 1) := by decide +kernel
theorem dX0_listenAround_1 : decode cX0_listenAround 1 = .ok (.getfield 49, 3) := by decide +kernel
theorem dX0_listenAround_4 : decode cX0_listenAround 4 = .ok (.iconst (-1), 1) := by decide +kernel
theorem dX0_listenAround_5 : decode cX0_listenAround 5 = .ok (.invokestatic 62, 3) := by decide +kernel
theorem dX0_listenAround_8 : decode cX0_listenAround 8 = .ok (.iconst 0, 1) := by decide +kernel
theorem dX0_listenAround_9 : decode cX0_listenAround 9 = .ok (.istore_n 2, 1) := by decide +kernel
theorem dX0_listenAround_10 : decode cX0_listenAround 10 = .ok (.iload_n 2, 1) := by decide +kernel
theorem dX0_listenAround_11 : decode cX0_listenAround 11 = .ok (.aload_n 0, 1) := by decide +kernel
theorem dX0_listenAround_12 : decode cX0_listenAround 12 = .ok (.getfield 58, 3) := by decide +kernel
theorem dX0_listenAround_15 : decode cX0_listenAround 15 = .ok (.getfield 92, 3) := by decide +kernel
theorem dX0_listenAround_18 : decode cX0_listenAround 18 = .ok (.if_icmp .ge 24, 3) := by decide +kernel
theorem dX0_listenAround_21 : decode cX0_listenAround 21 = .ok (.aload_n 0, 1) := by decide +kernel
theorem dX0_listenAround_22 : decode cX0_listenAround 22 = .ok (.iload_n 1, 1) := by decide +kernel
theorem dX0_listenAround_23 : decode cX0_listenAround 23 = .ok (.iload_n 2, 1) := by decide +kernel
theorem dX0_listenAround_24 : decode cX0_listenAround 24 = .ok (.invokevirtual 119, 3) := by decide +kernel
theorem dX0_listenAround_27 : decode cX0_listenAround 27 = .ok (.ifCond .eq 9, 3) := by decide +kernel
theorem dX0_listenAround_30 : decode cX0_listenAround 30 = .ok (.aload_n 0, 1) := by decide +kernel
theorem dX0_listenAround_31 : decode cX0_listenAround 31 = .ok (.iload_n 2, 1) := by decide +kernel
theorem dX0_listenAround_32 : decode cX0_listenAround 32 = .ok (.iload_n 1, 1) := by decide +kernel
theorem dX0_listenAround_33 : decode cX0_listenAround 33 = .ok (.invokevirtual 168, 3) := by decide +kernel
theorem dX0_listenAround_36 : decode cX0_listenAround 36 = .ok (.iinc 2 1, 3) := by decide +kernel
theorem dX0_listenAround_39 : decode cX0_listenAround 39 = .ok (.goto (-29), 3) := by decide +kernel
theorem dX0_listenAround_42 : decode cX0_listenAround 42 = .ok (.return_, 1) := by decide +kernel
set_option maxRecDepth 20000 in
theorem ggX0_listenTo_X2_cellOf : GoodIn wsX0_listenTo wsX2_cellOf := goodIn_r _ [11] (by decide +kernel) (by decide +kernel)
set_option maxRecDepth 20000 in
theorem gX0_listenTo_X2_cellOf_n104 : GoodIn wsX0_listenTo (wsX2_cellOf) := ggX0_listenTo_X2_cellOf
theorem dX0_listenTo_0 : decode cX0_listenTo 0 = .ok (.aload_n 0, 1) := by decide +kernel
theorem dX0_listenTo_1 : decode cX0_listenTo 1 = .ok (.getfield 58, 3) := by decide +kernel
theorem dX0_listenTo_4 : decode cX0_listenTo 4 = .ok (.getfield 172, 3) := by decide +kernel
theorem dX0_listenTo_7 : decode cX0_listenTo 7 = .ok (.iload_n 1, 1) := by decide +kernel
theorem dX0_listenTo_8 : decode cX0_listenTo 8 = .ok (.iaload, 1) := by decide +kernel
theorem dX0_listenTo_9 : decode cX0_listenTo 9 = .ok (.istore_n 3, 1) := by decide +kernel
theorem dX0_listenTo_10 : decode cX0_listenTo 10 = .ok (.aload_n 0, 1) := by decide +kernel
theorem dX0_listenTo_11 : decode cX0_listenTo 11 = .ok (.getfield 24, 3) := by decide +kernel
theorem dX0_listenTo_14 : decode cX0_listenTo 14 = .ok (.iload_n 2, 1) := by decide +kernel
theorem dX0_listenTo_15 : decode cX0_listenTo 15 = .ok (.baload, 1) := by decide +kernel
theorem dX0_listenTo_16 : decode cX0_listenTo 16 = .ok (.ifCond .eq 7, 3) := by decide +kernel
theorem dX0_listenTo_19 : decode cX0_listenTo 19 = .ok (.iload_n 3, 1) := by decide +kernel
theorem dX0_listenTo_20 : decode cX0_listenTo 20 = .ok (.goto 6, 3) := by decide +kernel
theorem dX0_listenTo_23 : decode cX0_listenTo 23 = .ok (.iload_n 3, 1) := by decide +kernel
theorem dX0_listenTo_24 : decode cX0_listenTo 24 = .ok (.iconst 3, 1) := by decide +kernel
theorem dX0_listenTo_25 : decode cX0_listenTo 25 = .ok (.iadd, 1) := by decide +kernel
theorem dX0_listenTo_26 : decode cX0_listenTo 26 = .ok (.istore 4, 2) := by decide +kernel
theorem dX0_listenTo_28 : decode cX0_listenTo 28 = .ok (.aload_n 0, 1) := by decide +kernel
theorem dX0_listenTo_29 : decode cX0_listenTo 29 = .ok (.getfield 24, 3) := by decide +kernel
theorem dX0_listenTo_32 : decode cX0_listenTo 32 = .ok (.iload_n 2, 1) := by decide +kernel
theorem dX0_listenTo_33 : decode cX0_listenTo 33 = .ok (.baload, 1) := by decide +kernel
theorem dX0_listenTo_34 : decode cX0_listenTo 34 = .ok (.ifCond .eq 16, 3) := by decide +kernel
theorem dX0_listenTo_37 : decode cX0_listenTo 37 = .ok (.aload_n 0, 1) := by decide +kernel
theorem dX0_listenTo_38 : decode cX0_listenTo 38 = .ok (.getfield 24, 3) := by decide +kernel
theorem dX0_listenTo_41 : decode cX0_listenTo 41 = .ok (.iload_n 1, 1) := by decide +kernel
theorem dX0_listenTo_42 : decode cX0_listenTo 42 = .ok (.baload, 1) := by decide +kernel
theorem dX0_listenTo_43 : decode cX0_listenTo 43 = .ok (.ifCond .eq 7, 3) := by decide +kernel
theorem dX0_listenTo_46 : decode cX0_listenTo 46 = .ok (.iconst 1, 1) := by decide +kernel
theorem dX0_listenTo_47 : decode cX0_listenTo 47 = .ok (.goto 4, 3) := by decide +kernel
theorem dX0_listenTo_50 : decode cX0_listenTo 50 = .ok (.iconst 0, 1) := by decide +kernel
theorem dX0_listenTo_51 : decode cX0_listenTo 51 = .ok (.istore 5, 2) := by decide +kernel
theorem dX0_listenTo_53 : decode cX0_listenTo 53 = .ok (.iconst 0, 1) := by decide +kernel
theorem dX0_listenTo_54 : decode cX0_listenTo 54 = .ok (.istore 6, 2) := by decide +kernel
theorem dX0_listenTo_56 : decode cX0_listenTo 56 = .ok (.iload 6, 2) := by decide +kernel
theorem dX0_listenTo_58 : decode cX0_listenTo 58 = .ok (.aload_n 0, 1) := by decide +kernel
theorem dX0_listenTo_59 : decode cX0_listenTo 59 = .ok (.getfield 58, 3) := by decide +kernel
theorem dX0_listenTo_62 : decode cX0_listenTo 62 = .ok (.getfield 97, 3) := by decide +kernel
theorem dX0_listenTo_65 : decode cX0_listenTo 65 = .ok (.if_icmp .ge 103, 3) := by decide +kernel
theorem dX0_listenTo_68 : decode cX0_listenTo 68 = .ok (.iload_n 2, 1) := by decide +kernel
theorem dX0_listenTo_69 : decode cX0_listenTo 69 = .ok (.iload 6, 2) := by decide +kernel
theorem dX0_listenTo_71 : decode cX0_listenTo 71 = .ok (.invokestatic 104, 3) := by decide +kernel
theorem dX0_listenTo_74 : decode cX0_listenTo 74 = .ok (.istore 7, 2) := by decide +kernel
theorem dX0_listenTo_76 : decode cX0_listenTo 76 = .ok (.aload_n 0, 1) := by decide +kernel
theorem dX0_listenTo_77 : decode cX0_listenTo 77 = .ok (.getfield 46, 3) := by decide +kernel
theorem dX0_listenTo_80 : decode cX0_listenTo 80 = .ok (.iload_n 1, 1) := by decide +kernel
theorem dX0_listenTo_81 : decode cX0_listenTo 81 = .ok (.iload 6, 2) := by decide +kernel
theorem dX0_listenTo_83 : decode cX0_listenTo 83 = .ok (.invokestatic 104, 3) := by decide +kernel
theorem dX0_listenTo_86 : decode cX0_listenTo 86 = .ok (.iaload, 1) := by decide +kernel
theorem dX0_listenTo_87 : decode cX0_listenTo 87 = .ok (.istore 8, 2) := by decide +kernel
theorem dX0_listenTo_89 : decode cX0_listenTo 89 = .ok (.aload_n 0, 1) := by decide +kernel
theorem dX0_listenTo_90 : decode cX0_listenTo 90 = .ok (.getfield 46, 3) := by decide +kernel
theorem dX0_listenTo_93 : decode cX0_listenTo 93 = .ok (.iload 7, 2) := by decide +kernel
theorem dX0_listenTo_95 : decode cX0_listenTo 95 = .ok (.iaload, 1) := by decide +kernel
theorem dX0_listenTo_96 : decode cX0_listenTo 96 = .ok (.ifCond .ne 66, 3) := by decide +kernel
theorem dX0_listenTo_99 : decode cX0_listenTo 99 = .ok (.iload 8, 2) := by decide +kernel
theorem dX0_listenTo_101 : decode cX0_listenTo 101 = .ok (.ifCond .eq 61, 3) := by decide +kernel
theorem dX0_listenTo_104 : decode cX0_listenTo 104 = .ok (.iload_n 3, 1) := by decide +kernel
theorem dX0_listenTo_105 : decode cX0_listenTo 105 = .ok (.aload_n 0, 1) := by decide +kernel
theorem dX0_listenTo_106 : decode cX0_listenTo 106 = .ok (.getfield 49, 3) := by decide +kernel
theorem dX0_listenTo_109 : decode cX0_listenTo 109 = .ok (.iload 6, 2) := by decide +kernel
theorem dX0_listenTo_111 : decode cX0_listenTo 111 = .ok (.iaload, 1) := by decide +kernel
theorem dX0_listenTo_112 : decode cX0_listenTo 112 = .ok (.if_icmp .le 50, 3) := by decide +kernel
theorem dX0_listenTo_115 : decode cX0_listenTo 115 = .ok (.aload_n 0, 1) := by decide +kernel
theorem dX0_listenTo_116 : decode cX0_listenTo 116 = .ok (.getfield 49, 3) := by decide +kernel
theorem dX0_listenTo_119 : decode cX0_listenTo 119 = .ok (.iload 6, 2) := by decide +kernel
theorem dX0_listenTo_121 : decode cX0_listenTo 121 = .ok (.iload_n 3, 1) := by decide +kernel
theorem dX0_listenTo_122 : decode cX0_listenTo 122 = .ok (.iastore, 1) := by decide +kernel
theorem dX0_listenTo_123 : decode cX0_listenTo 123 = .ok (.iload 4, 2) := by decide +kernel
theorem dX0_listenTo_125 : decode cX0_listenTo 125 = .ok (.aload_n 0, 1) := by decide +kernel
theorem dX0_listenTo_126 : decode cX0_listenTo 126 = .ok (.getfield 58, 3) := by decide +kernel
theorem dX0_listenTo_129 : decode cX0_listenTo 129 = .ok (.getfield 175, 3) := by decide +kernel
theorem dX0_listenTo_132 : decode cX0_listenTo 132 = .ok (.iload 6, 2) := by decide +kernel
theorem dX0_listenTo_134 : decode cX0_listenTo 134 = .ok (.iaload, 1) := by decide +kernel
theorem dX0_listenTo_135 : decode cX0_listenTo 135 = .ok (.if_icmp .lt 27, 3) := by decide +kernel
theorem dX0_listenTo_138 : decode cX0_listenTo 138 = .ok (.aload_n 0, 1) := by decide +kernel
theorem dX0_listenTo_139 : decode cX0_listenTo 139 = .ok (.getfield 40, 3) := by decide +kernel
theorem dX0_listenTo_142 : decode cX0_listenTo 142 = .ok (.iload 7, 2) := by decide +kernel
theorem dX0_listenTo_144 : decode cX0_listenTo 144 = .ok (.iload 5, 2) := by decide +kernel
theorem dX0_listenTo_146 : decode cX0_listenTo 146 = .ok (.ifCond .eq 13, 3) := by decide +kernel
theorem dX0_listenTo_149 : decode cX0_listenTo 149 = .ok (.iload 8, 2) := by decide +kernel
theorem dX0_listenTo_151 : decode cX0_listenTo 151 = .ok (.bipush 99, 2) := by decide +kernel
theorem dX0_listenTo_153 : decode cX0_listenTo 153 = .ok (.irem, 1) := by decide +kernel
theorem dX0_listenTo_154 : decode cX0_listenTo 154 = .ok (.iconst 1, 1) := by decide +kernel
theorem dX0_listenTo_155 : decode cX0_listenTo 155 = .ok (.iadd, 1) := by decide +kernel
theorem dX0_listenTo_156 : decode cX0_listenTo 156 = .ok (.goto 5, 3) := by decide +kernel
theorem dX0_listenTo_159 : decode cX0_listenTo 159 = .ok (.iload 8, 2) := by decide +kernel
theorem dX0_listenTo_161 : decode cX0_listenTo 161 = .ok (.iastore, 1) := by decide +kernel
theorem dX0_listenTo_162 : decode cX0_listenTo 162 = .ok (.iinc 6 1, 3) := by decide +kernel
theorem dX0_listenTo_165 : decode cX0_listenTo 165 = .ok (.goto (-109), 3) := by decide +kernel
theorem dX0_listenTo_168 : decode cX0_listenTo 168 = .ok (.return_, 1) := by decide +kernel
set_option maxRecDepth 20000 in
theorem ggX0_goOn_X0_letsThrough : GoodIn wsX0_goOn wsX0_letsThrough := goodIn_r _ [10, 1, 11, 12, 59, 60, 61, 62, 63, 64, 65, 66, 67, 68, 69, 70, 71, 72, 73, 74, 75, 76, 77, 78, 79, 80, 81, 82, 83, 84, 85, 86] (by decide +kernel) (by decide +kernel)
set_option maxRecDepth 20000 in
theorem gX0_goOn_X0_letsThrough : GoodIn wsX0_goOn (wsV RX0 181 RX0 yX0_letsThrough wsX0_letsThrough) := goodIn_app (goodIn_of _ (by decide +kernel)) ggX0_goOn_X0_letsThrough
set_option maxRecDepth 20000 in
theorem ggX0_goOn_X0_foremostToGo : GoodIn wsX0_goOn wsX0_foremostToGo := goodIn_r _ [16, 1, 4, 17, 5, 18, 59, 60, 61, 62, 63, 64, 65, 66, 67, 68, 69, 70, 71, 72, 73, 74, 75, 76, 77, 78, 79, 80, 81, 82, 83, 84, 85, 86] (by decide +kernel) (by decide +kernel)
set_option maxRecDepth 20000 in
theorem gX0_goOn_X0_foremostToGo : GoodIn wsX0_goOn (wsV RX0 184 RX0 yX0_foremostToGo wsX0_foremostToGo) := goodIn_app (goodIn_of _ (by decide +kernel)) ggX0_goOn_X0_foremostToGo
set_option maxRecDepth 20000 in
theorem ggX0_goOn_X0_walkOn : GoodIn wsX0_goOn wsX0_walkOn := goodIn_r _ [22, 1, 23, 24, 25, 26, 27, 28, 29, 30, 31, 32, 9, 33, 18, 34, 35, 36, 37, 38, 4, 17, 39, 40, 41, 42, 43, 44, 45, 46, 47, 48, 49, 50, 3, 51, 52, 53, 54, 55, 56, 57, 58, 59, 60, 61, 62, 63, 64, 65, 66, 67, 68, 69, 70, 71, 72, 73, 74, 75, 76, 77, 78, 79, 80, 81, 82, 83, 84, 85, 86] (by decide +kernel) (by decide +kernel)
set_option maxRecDepth 20000 in
theorem gX0_goOn_X0_walkOn : GoodIn wsX0_goOn (wsV RX0 187 RX0 yX0_walkOn wsX0_walkOn) := goodIn_app (goodIn_of _ (by decide +kernel)) ggX0_goOn_X0_walkOn
theorem dX0_goOn_0 : decode cX0_goOn 0 = .ok (.iconst 0, 1) := by decide +kernel
theorem dX0_goOn_1 : decode cX0_goOn 1 = .ok (.istore_n 1, 1) := by decide +kernel
theorem dX0_goOn_2 : decode cX0_goOn 2 = .ok (.iload_n 1, 1) := by decide +kernel
theorem dX0_goOn_3 : decode cX0_goOn 3 = .ok (.aload_n 0, 1) := by decide +kernel
theorem dX0_goOn_4 : decode cX0_goOn 4 = .ok (.getfield 58, 3) := by decide +kernel
theorem dX0_goOn_7 : decode cX0_goOn 7 = .ok (.getfield 178, 3) := by decide +kernel
theorem dX0_goOn_10 : decode cX0_goOn 10 = .ok (.if_icmp .ge 20, 3) := by decide +kernel
theorem dX0_goOn_13 : decode cX0_goOn 13 = .ok (.aload_n 0, 1) := by decide +kernel
theorem dX0_goOn_14 : decode cX0_goOn 14 = .ok (.getfield 52, 3) := by decide +kernel
theorem dX0_goOn_17 : decode cX0_goOn 17 = .ok (.iload_n 1, 1) := by decide +kernel
theorem dX0_goOn_18 : decode cX0_goOn 18 = .ok (.aload_n 0, 1) := by decide +kernel
theorem dX0_goOn_19 : decode cX0_goOn 19 = .ok (.iload_n 1, 1) := by decide +kernel
theorem dX0_goOn_20 : decode cX0_goOn 20 = .ok (.invokevirtual 181, 3) := by decide +kernel
theorem dX0_goOn_23 : decode cX0_goOn 23 = .ok (.iastore, 1) := by decide +kernel
theorem dX0_goOn_24 : decode cX0_goOn 24 = .ok (.iinc 1 1, 3) := by decide +kernel
theorem dX0_goOn_27 : decode cX0_goOn 27 = .ok (.goto (-25), 3) := by decide +kernel
theorem dX0_goOn_30 : decode cX0_goOn 30 = .ok (.iconst 0, 1) := by decide +kernel
theorem dX0_goOn_31 : decode cX0_goOn 31 = .ok (.istore_n 1, 1) := by decide +kernel
theorem dX0_goOn_32 : decode cX0_goOn 32 = .ok (.iload_n 1, 1) := by decide +kernel
theorem dX0_goOn_33 : decode cX0_goOn 33 = .ok (.aload_n 0, 1) := by decide +kernel
theorem dX0_goOn_34 : decode cX0_goOn 34 = .ok (.getfield 58, 3) := by decide +kernel
theorem dX0_goOn_37 : decode cX0_goOn 37 = .ok (.getfield 92, 3) := by decide +kernel
theorem dX0_goOn_40 : decode cX0_goOn 40 = .ok (.if_icmp .ge 16, 3) := by decide +kernel
theorem dX0_goOn_43 : decode cX0_goOn 43 = .ok (.aload_n 0, 1) := by decide +kernel
theorem dX0_goOn_44 : decode cX0_goOn 44 = .ok (.getfield 55, 3) := by decide +kernel
theorem dX0_goOn_47 : decode cX0_goOn 47 = .ok (.iload_n 1, 1) := by decide +kernel
theorem dX0_goOn_48 : decode cX0_goOn 48 = .ok (.iconst 0, 1) := by decide +kernel
theorem dX0_goOn_49 : decode cX0_goOn 49 = .ok (.bastore, 1) := by decide +kernel
theorem dX0_goOn_50 : decode cX0_goOn 50 = .ok (.iinc 1 1, 3) := by decide +kernel
theorem dX0_goOn_53 : decode cX0_goOn 53 = .ok (.goto (-21), 3) := by decide +kernel
theorem dX0_goOn_56 : decode cX0_goOn 56 = .ok (.iconst 0, 1) := by decide +kernel
theorem dX0_goOn_57 : decode cX0_goOn 57 = .ok (.istore_n 1, 1) := by decide +kernel
theorem dX0_goOn_58 : decode cX0_goOn 58 = .ok (.iload_n 1, 1) := by decide +kernel
theorem dX0_goOn_59 : decode cX0_goOn 59 = .ok (.aload_n 0, 1) := by decide +kernel
theorem dX0_goOn_60 : decode cX0_goOn 60 = .ok (.getfield 58, 3) := by decide +kernel
theorem dX0_goOn_63 : decode cX0_goOn 63 = .ok (.getfield 92, 3) := by decide +kernel
theorem dX0_goOn_66 : decode cX0_goOn 66 = .ok (.if_icmp .ge 32, 3) := by decide +kernel
theorem dX0_goOn_69 : decode cX0_goOn 69 = .ok (.aload_n 0, 1) := by decide +kernel
theorem dX0_goOn_70 : decode cX0_goOn 70 = .ok (.invokevirtual 184, 3) := by decide +kernel
theorem dX0_goOn_73 : decode cX0_goOn 73 = .ok (.istore_n 2, 1) := by decide +kernel
theorem dX0_goOn_74 : decode cX0_goOn 74 = .ok (.iload_n 2, 1) := by decide +kernel
theorem dX0_goOn_75 : decode cX0_goOn 75 = .ok (.iconst (-1), 1) := by decide +kernel
theorem dX0_goOn_76 : decode cX0_goOn 76 = .ok (.if_icmp .ne 4, 3) := by decide +kernel
theorem dX0_goOn_79 : decode cX0_goOn 79 = .ok (.return_, 1) := by decide +kernel
theorem dX0_goOn_80 : decode cX0_goOn 80 = .ok (.aload_n 0, 1) := by decide +kernel
theorem dX0_goOn_81 : decode cX0_goOn 81 = .ok (.getfield 55, 3) := by decide +kernel
theorem dX0_goOn_84 : decode cX0_goOn 84 = .ok (.iload_n 2, 1) := by decide +kernel
theorem dX0_goOn_85 : decode cX0_goOn 85 = .ok (.iconst 1, 1) := by decide +kernel
theorem dX0_goOn_86 : decode cX0_goOn 86 = .ok (.bastore, 1) := by decide +kernel
theorem dX0_goOn_87 : decode cX0_goOn 87 = .ok (.aload_n 0, 1) := by decide +kernel
theorem dX0_goOn_88 : decode cX0_goOn 88 = .ok (.iload_n 2, 1) := by decide +kernel
theorem dX0_goOn_89 : decode cX0_goOn 89 = .ok (.invokevirtual 187, 3) := by decide +kernel
theorem dX0_goOn_92 : decode cX0_goOn 92 = .ok (.iinc 1 1, 3) := by decide +kernel
theorem dX0_goOn_95 : decode cX0_goOn 95 = .ok (.goto (-37), 3) := by decide +kernel
theorem dX0_goOn_98 : decode cX0_goOn 98 = .ok (.return_, 1) := by decide +kernel
theorem dX0_foremostToGo_0 : decode cX0_foremostToGo 0 = .ok (.iconst (-1), 1) := by decide +kernel
theorem dX0_foremostToGo_1 : decode cX0_foremostToGo 1 = .ok (.istore_n 1, 1) := by decide +kernel
theorem dX0_foremostToGo_2 : decode cX0_foremostToGo 2 = .ok (.iconst (-1), 1) := by decide +kernel
theorem dX0_foremostToGo_3 : decode cX0_foremostToGo 3 = .ok (.istore_n 2, 1) := by decide +kernel
theorem dX0_foremostToGo_4 : decode cX0_foremostToGo 4 = .ok (.iconst 0, 1) := by decide +kernel
theorem dX0_foremostToGo_5 : decode cX0_foremostToGo 5 = .ok (.istore_n 3, 1) := by decide +kernel
theorem dX0_foremostToGo_6 : decode cX0_foremostToGo 6 = .ok (.iload_n 3, 1) := by decide +kernel
theorem dX0_foremostToGo_7 : decode cX0_foremostToGo 7 = .ok (.aload_n 0, 1) := by decide +kernel
theorem dX0_foremostToGo_8 : decode cX0_foremostToGo 8 = .ok (.getfield 58, 3) := by decide +kernel
theorem dX0_foremostToGo_11 : decode cX0_foremostToGo 11 = .ok (.getfield 92, 3) := by decide +kernel
theorem dX0_foremostToGo_14 : decode cX0_foremostToGo 14 = .ok (.if_icmp .ge 47, 3) := by decide +kernel
theorem dX0_foremostToGo_17 : decode cX0_foremostToGo 17 = .ok (.aload_n 0, 1) := by decide +kernel
theorem dX0_foremostToGo_18 : decode cX0_foremostToGo 18 = .ok (.getfield 28, 3) := by decide +kernel
theorem dX0_foremostToGo_21 : decode cX0_foremostToGo 21 = .ok (.iload_n 3, 1) := by decide +kernel
theorem dX0_foremostToGo_22 : decode cX0_foremostToGo 22 = .ok (.iaload, 1) := by decide +kernel
theorem dX0_foremostToGo_23 : decode cX0_foremostToGo 23 = .ok (.iconst 1, 1) := by decide +kernel
theorem dX0_foremostToGo_24 : decode cX0_foremostToGo 24 = .ok (.if_icmp .ne 31, 3) := by decide +kernel
theorem dX0_foremostToGo_27 : decode cX0_foremostToGo 27 = .ok (.aload_n 0, 1) := by decide +kernel
theorem dX0_foremostToGo_28 : decode cX0_foremostToGo 28 = .ok (.getfield 55, 3) := by decide +kernel
theorem dX0_foremostToGo_31 : decode cX0_foremostToGo 31 = .ok (.iload_n 3, 1) := by decide +kernel
theorem dX0_foremostToGo_32 : decode cX0_foremostToGo 32 = .ok (.baload, 1) := by decide +kernel
theorem dX0_foremostToGo_33 : decode cX0_foremostToGo 33 = .ok (.ifCond .ne 22, 3) := by decide +kernel
theorem dX0_foremostToGo_36 : decode cX0_foremostToGo 36 = .ok (.aload_n 0, 1) := by decide +kernel
theorem dX0_foremostToGo_37 : decode cX0_foremostToGo 37 = .ok (.getfield 31, 3) := by decide +kernel
theorem dX0_foremostToGo_40 : decode cX0_foremostToGo 40 = .ok (.iload_n 3, 1) := by decide +kernel
theorem dX0_foremostToGo_41 : decode cX0_foremostToGo 41 = .ok (.iaload, 1) := by decide +kernel
theorem dX0_foremostToGo_42 : decode cX0_foremostToGo 42 = .ok (.iload_n 2, 1) := by decide +kernel
theorem dX0_foremostToGo_43 : decode cX0_foremostToGo 43 = .ok (.if_icmp .le 12, 3) := by decide +kernel
theorem dX0_foremostToGo_46 : decode cX0_foremostToGo 46 = .ok (.aload_n 0, 1) := by decide +kernel
theorem dX0_foremostToGo_47 : decode cX0_foremostToGo 47 = .ok (.getfield 31, 3) := by decide +kernel
theorem dX0_foremostToGo_50 : decode cX0_foremostToGo 50 = .ok (.iload_n 3, 1) := by decide +kernel
theorem dX0_foremostToGo_51 : decode cX0_foremostToGo 51 = .ok (.iaload, 1) := by decide +kernel
theorem dX0_foremostToGo_52 : decode cX0_foremostToGo 52 = .ok (.istore_n 2, 1) := by decide +kernel
theorem dX0_foremostToGo_53 : decode cX0_foremostToGo 53 = .ok (.iload_n 3, 1) := by decide +kernel
theorem dX0_foremostToGo_54 : decode cX0_foremostToGo 54 = .ok (.istore_n 1, 1) := by decide +kernel
theorem dX0_foremostToGo_55 : decode cX0_foremostToGo 55 = .ok (.iinc 3 1, 3) := by decide +kernel
theorem dX0_foremostToGo_58 : decode cX0_foremostToGo 58 = .ok (.goto (-52), 3) := by decide +kernel
theorem dX0_foremostToGo_61 : decode cX0_foremostToGo 61 = .ok (.iload_n 1, 1) := by decide +kernel
theorem dX0_foremostToGo_62 : decode cX0_foremostToGo 62 = .ok (.ireturn, 1) := by decide +kernel
set_option maxRecDepth 20000 in
theorem ggX0_walkOn_X0_goOnePlace : GoodIn wsX0_walkOn wsX0_goOnePlace := goodIn_r _ [13, 14, 1, 15, 16, 17, 18, 12, 19, 20, 21, 22, 23, 24, 25, 26, 27, 28, 29, 30, 31, 32, 33, 34, 35, 36, 37, 38, 39, 40, 41, 42, 43, 44, 45, 46, 47, 48, 49, 50, 51, 52, 53, 54, 55, 56, 57, 58, 59, 60, 61, 62, 63, 64, 65, 66, 67, 68, 69, 70] (by decide +kernel) (by decide +kernel)
set_option maxRecDepth 20000 in
theorem gX0_walkOn_X0_goOnePlace : GoodIn wsX0_walkOn (wsV RX0 193 RX0 yX0_goOnePlace wsX0_goOnePlace) := goodIn_app (goodIn_of _ (by decide +kernel)) ggX0_walkOn_X0_goOnePlace
theorem dX0_walkOn_0 : decode cX0_walkOn 0 = .ok (.aload_n 0, 1) := by decide +kernel
theorem dX0_walkOn_1 : decode cX0_walkOn 1 = .ok (.getfield 58, 3) := by decide +kernel
theorem dX0_walkOn_4 : decode cX0_walkOn 4 = .ok (.getfield 190, 3) := by decide +kernel
theorem dX0_walkOn_7 : decode cX0_walkOn 7 = .ok (.iload_n 1, 1) := by decide +kernel
theorem dX0_walkOn_8 : decode cX0_walkOn 8 = .ok (.iaload, 1) := by decide +kernel
theorem dX0_walkOn_9 : decode cX0_walkOn 9 = .ok (.istore_n 2, 1) := by decide +kernel
theorem dX0_walkOn_10 : decode cX0_walkOn 10 = .ok (.aload_n 0, 1) := by decide +kernel
theorem dX0_walkOn_11 : decode cX0_walkOn 11 = .ok (.getfield 24, 3) := by decide +kernel
theorem dX0_walkOn_14 : decode cX0_walkOn 14 = .ok (.iload_n 1, 1) := by decide +kernel
theorem dX0_walkOn_15 : decode cX0_walkOn 15 = .ok (.baload, 1) := by decide +kernel
theorem dX0_walkOn_16 : decode cX0_walkOn 16 = .ok (.ifCond .ne 21, 3) := by decide +kernel
theorem dX0_walkOn_19 : decode cX0_walkOn 19 = .ok (.aload_n 0, 1) := by decide +kernel
theorem dX0_walkOn_20 : decode cX0_walkOn 20 = .ok (.getfield 34, 3) := by decide +kernel
theorem dX0_walkOn_23 : decode cX0_walkOn 23 = .ok (.iload_n 1, 1) := by decide +kernel
theorem dX0_walkOn_24 : decode cX0_walkOn 24 = .ok (.dup2, 1) := by decide +kernel
theorem dX0_walkOn_25 : decode cX0_walkOn 25 = .ok (.iaload, 1) := by decide +kernel
theorem dX0_walkOn_26 : decode cX0_walkOn 26 = .ok (.iconst 1, 1) := by decide +kernel
theorem dX0_walkOn_27 : decode cX0_walkOn 27 = .ok (.iadd, 1) := by decide +kernel
theorem dX0_walkOn_28 : decode cX0_walkOn 28 = .ok (.iastore, 1) := by decide +kernel
theorem dX0_walkOn_29 : decode cX0_walkOn 29 = .ok (.iconst 1, 1) := by decide +kernel
theorem dX0_walkOn_30 : decode cX0_walkOn 30 = .ok (.iload_n 2, 1) := by decide +kernel
theorem dX0_walkOn_31 : decode cX0_walkOn 31 = .ok (.iconst 1, 1) := by decide +kernel
theorem dX0_walkOn_32 : decode cX0_walkOn 32 = .ok (.isub, 1) := by decide +kernel
theorem dX0_walkOn_33 : decode cX0_walkOn 33 = .ok (.invokestatic 155, 3) := by decide +kernel
theorem dX0_walkOn_36 : decode cX0_walkOn 36 = .ok (.istore_n 2, 1) := by decide +kernel
theorem dX0_walkOn_37 : decode cX0_walkOn 37 = .ok (.iconst 1, 1) := by decide +kernel
theorem dX0_walkOn_38 : decode cX0_walkOn 38 = .ok (.istore_n 3, 1) := by decide +kernel
theorem dX0_walkOn_39 : decode cX0_walkOn 39 = .ok (.iconst 0, 1) := by decide +kernel
theorem dX0_walkOn_40 : decode cX0_walkOn 40 = .ok (.istore 4, 2) := by decide +kernel
theorem dX0_walkOn_42 : decode cX0_walkOn 42 = .ok (.iload 4, 2) := by decide +kernel
theorem dX0_walkOn_44 : decode cX0_walkOn 44 = .ok (.iload_n 2, 1) := by decide +kernel
theorem dX0_walkOn_45 : decode cX0_walkOn 45 = .ok (.if_icmp .ge 19, 3) := by decide +kernel
theorem dX0_walkOn_48 : decode cX0_walkOn 48 = .ok (.iload_n 3, 1) := by decide +kernel
theorem dX0_walkOn_49 : decode cX0_walkOn 49 = .ok (.ifCond .eq 15, 3) := by decide +kernel
theorem dX0_walkOn_52 : decode cX0_walkOn 52 = .ok (.aload_n 0, 1) := by decide +kernel
theorem dX0_walkOn_53 : decode cX0_walkOn 53 = .ok (.iload_n 1, 1) := by decide +kernel
theorem dX0_walkOn_54 : decode cX0_walkOn 54 = .ok (.invokevirtual 193, 3) := by decide +kernel
theorem dX0_walkOn_57 : decode cX0_walkOn 57 = .ok (.istore_n 3, 1) := by decide +kernel
theorem dX0_walkOn_58 : decode cX0_walkOn 58 = .ok (.iinc 4 1, 3) := by decide +kernel
theorem dX0_walkOn_61 : decode cX0_walkOn 61 = .ok (.goto (-19), 3) := by decide +kernel
theorem dX0_walkOn_64 : decode cX0_walkOn 64 = .ok (.return_, 1) := by decide +kernel
set_option maxRecDepth 20000 in
theorem ggX0_goOnePlace_X0_walkersAt : GoodIn wsX0_goOnePlace wsX0_walkersAt := goodIn_r _ [8, 2, 9, 10, 1, 32, 33, 34, 35, 36, 37, 38, 39, 40, 41, 42, 43, 44, 45, 46, 47, 48, 49, 50, 51, 52, 53, 54, 55, 56, 57, 58, 59] (by decide +kernel) (by decide +kernel)
set_option maxRecDepth 20000 in
theorem gX0_goOnePlace_X0_walkersAt : GoodIn wsX0_goOnePlace (wsV RX0 196 RX0 yX0_walkersAt wsX0_walkersAt) := goodIn_app (goodIn_of _ (by decide +kernel)) ggX0_goOnePlace_X0_walkersAt
set_option maxRecDepth 20000 in
theorem ggX0_goOnePlace_X1_stretchEndingAt : GoodIn wsX0_goOnePlace wsX1_stretchEndingAt := goodIn_r _ [15, 16, 17, 18, 49, 50, 51, 52, 53, 54, 55, 56, 57, 58, 59] (by decide +kernel) (by decide +kernel)
set_option maxRecDepth 20000 in
theorem gX0_goOnePlace_X1_stretchEndingAt : GoodIn wsX0_goOnePlace (wsV RX0 199 RX1 yX1_stretchEndingAt wsX1_stretchEndingAt) := goodIn_app (goodIn_of _ (by decide +kernel)) ggX0_goOnePlace_X1_stretchEndingAt
set_option maxRecDepth 20000 in
theorem ggX0_goOnePlace_X0_passCorner : GoodIn wsX0_goOnePlace wsX0_passCorner := goodIn_r _ [22, 23, 24, 25, 32, 33, 34, 35, 36, 37, 38, 39, 40, 41, 42, 43, 44, 45, 46, 47, 48] (by decide +kernel) (by decide +kernel)
set_option maxRecDepth 20000 in
theorem gX0_goOnePlace_X0_passCorner : GoodIn wsX0_goOnePlace (wsV RX0 202 RX0 yX0_passCorner wsX0_passCorner) := goodIn_app (goodIn_of _ (by decide +kernel)) ggX0_goOnePlace_X0_passCorner
set_option maxRecDepth 20000 in
theorem ggX0_goOnePlace_X0_comeHome : GoodIn wsX0_goOnePlace wsX0_comeHome := goodIn_r _ [29, 10, 1, 30, 31, 32, 33, 34, 35, 36, 37, 38, 39, 40, 41, 42, 43, 44, 45, 46, 47, 48] (by decide +kernel) (by decide +kernel)
set_option maxRecDepth 20000 in
theorem gX0_goOnePlace_X0_comeHome : GoodIn wsX0_goOnePlace (wsV RX0 208 RX0 yX0_comeHome wsX0_comeHome) := goodIn_app (goodIn_of _ (by decide +kernel)) ggX0_goOnePlace_X0_comeHome
theorem dX0_goOnePlace_0 : decode cX0_goOnePlace 0 = .ok (.aload_n 0, 1) := by decide +kernel
theorem dX0_goOnePlace_1 : decode cX0_goOnePlace 1 = .ok (.getfield 31, 3) := by decide +kernel
theorem dX0_goOnePlace_4 : decode cX0_goOnePlace 4 = .ok (.iload_n 1, 1) := by decide +kernel
theorem dX0_goOnePlace_5 : decode cX0_goOnePlace 5 = .ok (.iaload, 1) := by decide +kernel
theorem dX0_goOnePlace_6 : decode cX0_goOnePlace 6 = .ok (.iconst 1, 1) := by decide +kernel
theorem dX0_goOnePlace_7 : decode cX0_goOnePlace 7 = .ok (.iadd, 1) := by decide +kernel
theorem dX0_goOnePlace_8 : decode cX0_goOnePlace 8 = .ok (.istore_n 2, 1) := by decide +kernel
theorem dX0_goOnePlace_9 : decode cX0_goOnePlace 9 = .ok (.aload_n 0, 1) := by decide +kernel
theorem dX0_goOnePlace_10 : decode cX0_goOnePlace 10 = .ok (.iload_n 2, 1) := by decide +kernel
theorem dX0_goOnePlace_11 : decode cX0_goOnePlace 11 = .ok (.invokevirtual 196, 3) := by decide +kernel
theorem dX0_goOnePlace_14 : decode cX0_goOnePlace 14 = .ok (.iconst 2, 1) := by decide +kernel
theorem dX0_goOnePlace_15 : decode cX0_goOnePlace 15 = .ok (.if_icmp .lt 5, 3) := by decide +kernel
theorem dX0_goOnePlace_18 : decode cX0_goOnePlace 18 = .ok (.iconst 0, 1) := by decide +kernel
theorem dX0_goOnePlace_19 : decode cX0_goOnePlace 19 = .ok (.ireturn, 1) := by decide +kernel
theorem dX0_goOnePlace_20 : decode cX0_goOnePlace 20 = .ok (.aload_n 0, 1) := by decide +kernel
theorem dX0_goOnePlace_21 : decode cX0_goOnePlace 21 = .ok (.getfield 58, 3) := by decide +kernel
theorem dX0_goOnePlace_24 : decode cX0_goOnePlace 24 = .ok (.aload_n 0, 1) := by decide +kernel
theorem dX0_goOnePlace_25 : decode cX0_goOnePlace 25 = .ok (.getfield 31, 3) := by decide +kernel
theorem dX0_goOnePlace_28 : decode cX0_goOnePlace 28 = .ok (.iload_n 1, 1) := by decide +kernel
theorem dX0_goOnePlace_29 : decode cX0_goOnePlace 29 = .ok (.iaload, 1) := by decide +kernel
theorem dX0_goOnePlace_30 : decode cX0_goOnePlace 30 = .ok (.invokevirtual 199, 3) := by decide +kernel
theorem dX0_goOnePlace_33 : decode cX0_goOnePlace 33 = .ok (.istore_n 3, 1) := by decide +kernel
theorem dX0_goOnePlace_34 : decode cX0_goOnePlace 34 = .ok (.iload_n 3, 1) := by decide +kernel
theorem dX0_goOnePlace_35 : decode cX0_goOnePlace 35 = .ok (.iconst (-1), 1) := by decide +kernel
theorem dX0_goOnePlace_36 : decode cX0_goOnePlace 36 = .ok (.if_icmp .eq 13, 3) := by decide +kernel
theorem dX0_goOnePlace_39 : decode cX0_goOnePlace 39 = .ok (.aload_n 0, 1) := by decide +kernel
theorem dX0_goOnePlace_40 : decode cX0_goOnePlace 40 = .ok (.iload_n 3, 1) := by decide +kernel
theorem dX0_goOnePlace_41 : decode cX0_goOnePlace 41 = .ok (.invokevirtual 202, 3) := by decide +kernel
theorem dX0_goOnePlace_44 : decode cX0_goOnePlace 44 = .ok (.ifCond .ne 5, 3) := by decide +kernel
theorem dX0_goOnePlace_47 : decode cX0_goOnePlace 47 = .ok (.iconst 0, 1) := by decide +kernel
theorem dX0_goOnePlace_48 : decode cX0_goOnePlace 48 = .ok (.ireturn, 1) := by decide +kernel
theorem dX0_goOnePlace_49 : decode cX0_goOnePlace 49 = .ok (.iload_n 2, 1) := by decide +kernel
theorem dX0_goOnePlace_50 : decode cX0_goOnePlace 50 = .ok (.aload_n 0, 1) := by decide +kernel
theorem dX0_goOnePlace_51 : decode cX0_goOnePlace 51 = .ok (.getfield 58, 3) := by decide +kernel
theorem dX0_goOnePlace_54 : decode cX0_goOnePlace 54 = .ok (.getfield 205, 3) := by decide +kernel
theorem dX0_goOnePlace_57 : decode cX0_goOnePlace 57 = .ok (.if_icmp .lt 10, 3) := by decide +kernel
theorem dX0_goOnePlace_60 : decode cX0_goOnePlace 60 = .ok (.aload_n 0, 1) := by decide +kernel
theorem dX0_goOnePlace_61 : decode cX0_goOnePlace 61 = .ok (.iload_n 1, 1) := by decide +kernel
theorem dX0_goOnePlace_62 : decode cX0_goOnePlace 62 = .ok (.invokevirtual 208, 3) := by decide +kernel
theorem dX0_goOnePlace_65 : decode cX0_goOnePlace 65 = .ok (.iconst 0, 1) := by decide +kernel
theorem dX0_goOnePlace_66 : decode cX0_goOnePlace 66 = .ok (.ireturn, 1) := by decide +kernel
theorem dX0_goOnePlace_67 : decode cX0_goOnePlace 67 = .ok (.aload_n 0, 1) := by decide +kernel
theorem dX0_goOnePlace_68 : decode cX0_goOnePlace 68 = .ok (.getfield 31, 3) := by decide +kernel
theorem dX0_goOnePlace_71 : decode cX0_goOnePlace 71 = .ok (.iload_n 1, 1) := by decide +kernel
theorem dX0_goOnePlace_72 : decode cX0_goOnePlace 72 = .ok (.iload_n 2, 1) := by decide +kernel
theorem dX0_goOnePlace_73 : decode cX0_goOnePlace 73 = .ok (.iastore, 1) := by decide +kernel
theorem dX0_goOnePlace_74 : decode cX0_goOnePlace 74 = .ok (.iconst 1, 1) := by decide +kernel
theorem dX0_goOnePlace_75 : decode cX0_goOnePlace 75 = .ok (.ireturn, 1) := by decide +kernel
theorem dX0_passCorner_0 : decode cX0_passCorner 0 = .ok (.aload_n 0, 1) := by decide +kernel
theorem dX0_passCorner_1 : decode cX0_passCorner 1 = .ok (.getfield 52, 3) := by decide +kernel
theorem dX0_passCorner_4 : decode cX0_passCorner 4 = .ok (.iload_n 1, 1) := by decide +kernel
theorem dX0_passCorner_5 : decode cX0_passCorner 5 = .ok (.iaload, 1) := by decide +kernel
theorem dX0_passCorner_6 : decode cX0_passCorner 6 = .ok (.ifCond .gt 15, 3) := by decide +kernel
theorem dX0_passCorner_9 : decode cX0_passCorner 9 = .ok (.aload_n 0, 1) := by decide +kernel
theorem dX0_passCorner_10 : decode cX0_passCorner 10 = .ok (.getfield 18, 3) := by decide +kernel
theorem dX0_passCorner_13 : decode cX0_passCorner 13 = .ok (.iload_n 1, 1) := by decide +kernel
theorem dX0_passCorner_14 : decode cX0_passCorner 14 = .ok (.dup2, 1) := by decide +kernel
theorem dX0_passCorner_15 : decode cX0_passCorner 15 = .ok (.iaload, 1) := by decide +kernel
theorem dX0_passCorner_16 : decode cX0_passCorner 16 = .ok (.iconst 1, 1) := by decide +kernel
theorem dX0_passCorner_17 : decode cX0_passCorner 17 = .ok (.iadd, 1) := by decide +kernel
theorem dX0_passCorner_18 : decode cX0_passCorner 18 = .ok (.iastore, 1) := by decide +kernel
theorem dX0_passCorner_19 : decode cX0_passCorner 19 = .ok (.iconst 0, 1) := by decide +kernel
theorem dX0_passCorner_20 : decode cX0_passCorner 20 = .ok (.ireturn, 1) := by decide +kernel
theorem dX0_passCorner_21 : decode cX0_passCorner 21 = .ok (.aload_n 0, 1) := by decide +kernel
theorem dX0_passCorner_22 : decode cX0_passCorner 22 = .ok (.getfield 52, 3) := by decide +kernel
theorem dX0_passCorner_25 : decode cX0_passCorner 25 = .ok (.iload_n 1, 1) := by decide +kernel
theorem dX0_passCorner_26 : decode cX0_passCorner 26 = .ok (.dup2, 1) := by decide +kernel
theorem dX0_passCorner_27 : decode cX0_passCorner 27 = .ok (.iaload, 1) := by decide +kernel
theorem dX0_passCorner_28 : decode cX0_passCorner 28 = .ok (.iconst 1, 1) := by decide +kernel
theorem dX0_passCorner_29 : decode cX0_passCorner 29 = .ok (.isub, 1) := by decide +kernel
theorem dX0_passCorner_30 : decode cX0_passCorner 30 = .ok (.iastore, 1) := by decide +kernel
theorem dX0_passCorner_31 : decode cX0_passCorner 31 = .ok (.aload_n 0, 1) := by decide +kernel
theorem dX0_passCorner_32 : decode cX0_passCorner 32 = .ok (.getfield 15, 3) := by decide +kernel
theorem dX0_passCorner_35 : decode cX0_passCorner 35 = .ok (.iload_n 1, 1) := by decide +kernel
theorem dX0_passCorner_36 : decode cX0_passCorner 36 = .ok (.dup2, 1) := by decide +kernel
theorem dX0_passCorner_37 : decode cX0_passCorner 37 = .ok (.iaload, 1) := by decide +kernel
theorem dX0_passCorner_38 : decode cX0_passCorner 38 = .ok (.iconst 1, 1) := by decide +kernel
theorem dX0_passCorner_39 : decode cX0_passCorner 39 = .ok (.iadd, 1) := by decide +kernel
theorem dX0_passCorner_40 : decode cX0_passCorner 40 = .ok (.iastore, 1) := by decide +kernel
theorem dX0_passCorner_41 : decode cX0_passCorner 41 = .ok (.iconst 1, 1) := by decide +kernel
theorem dX0_passCorner_42 : decode cX0_passCorner 42 = .ok (.ireturn, 1) := by decide +kernel
theorem dX0_comeHome_0 : decode cX0_comeHome 0 = .ok (.aload_n 0, 1) := by decide +kernel
theorem dX0_comeHome_1 : decode cX0_comeHome 1 = .ok (.getfield 28, 3) := by decide +kernel
theorem dX0_comeHome_4 : decode cX0_comeHome 4 = .ok (.iload_n 1, 1) := by decide +kernel
theorem dX0_comeHome_5 : decode cX0_comeHome 5 = .ok (.iconst 2, 1) := by decide +kernel
theorem dX0_comeHome_6 : decode cX0_comeHome 6 = .ok (.iastore, 1) := by decide +kernel
theorem dX0_comeHome_7 : decode cX0_comeHome 7 = .ok (.aload_n 0, 1) := by decide +kernel
theorem dX0_comeHome_8 : decode cX0_comeHome 8 = .ok (.getfield 31, 3) := by decide +kernel
theorem dX0_comeHome_11 : decode cX0_comeHome 11 = .ok (.iload_n 1, 1) := by decide +kernel
theorem dX0_comeHome_12 : decode cX0_comeHome 12 = .ok (.iconst (-1), 1) := by decide +kernel
theorem dX0_comeHome_13 : decode cX0_comeHome 13 = .ok (.iastore, 1) := by decide +kernel
theorem dX0_comeHome_14 : decode cX0_comeHome 14 = .ok (.aload_n 0, 1) := by decide +kernel
theorem dX0_comeHome_15 : decode cX0_comeHome 15 = .ok (.getfield 37, 3) := by decide +kernel
theorem dX0_comeHome_18 : decode cX0_comeHome 18 = .ok (.iload_n 1, 1) := by decide +kernel
theorem dX0_comeHome_19 : decode cX0_comeHome 19 = .ok (.aload_n 0, 1) := by decide +kernel
theorem dX0_comeHome_20 : decode cX0_comeHome 20 = .ok (.getfield 68, 3) := by decide +kernel
theorem dX0_comeHome_23 : decode cX0_comeHome 23 = .ok (.iastore, 1) := by decide +kernel
theorem dX0_comeHome_24 : decode cX0_comeHome 24 = .ok (.return_, 1) := by decide +kernel
set_option maxRecDepth 20000 in
theorem ggX0_start_X0_walkersAt : GoodIn wsX0_start wsX0_walkersAt := goodIn_r _ [9, 1, 2, 3, 4, 10, 11, 12, 13, 14, 15, 16, 17, 18, 19, 20, 21, 22, 23, 24, 25, 26, 27, 28, 29, 30, 31, 32, 33, 34, 35, 36, 37] (by decide +kernel) (by decide +kernel)
set_option maxRecDepth 20000 in
theorem gX0_start_X0_walkersAt : GoodIn wsX0_start (wsV RX0 196 RX0 yX0_walkersAt wsX0_walkersAt) := goodIn_app (goodIn_of _ (by decide +kernel)) ggX0_start_X0_walkersAt
theorem dX0_start_0 : decode cX0_start 0 = .ok (.iconst 0, 1) := by decide +kernel
theorem dX0_start_1 : decode cX0_start 1 = .ok (.istore_n 1, 1) := by decide +kernel
theorem dX0_start_2 : decode cX0_start 2 = .ok (.iload_n 1, 1) := by decide +kernel
theorem dX0_start_3 : decode cX0_start 3 = .ok (.aload_n 0, 1) := by decide +kernel
theorem dX0_start_4 : decode cX0_start 4 = .ok (.getfield 58, 3) := by decide +kernel
theorem dX0_start_7 : decode cX0_start 7 = .ok (.getfield 92, 3) := by decide +kernel
theorem dX0_start_10 : decode cX0_start 10 = .ok (.if_icmp .ge 41, 3) := by decide +kernel
theorem dX0_start_13 : decode cX0_start 13 = .ok (.aload_n 0, 1) := by decide +kernel
theorem dX0_start_14 : decode cX0_start 14 = .ok (.getfield 28, 3) := by decide +kernel
theorem dX0_start_17 : decode cX0_start 17 = .ok (.iload_n 1, 1) := by decide +kernel
theorem dX0_start_18 : decode cX0_start 18 = .ok (.iaload, 1) := by decide +kernel
theorem dX0_start_19 : decode cX0_start 19 = .ok (.ifCond .ne 26, 3) := by decide +kernel
theorem dX0_start_22 : decode cX0_start 22 = .ok (.aload_n 0, 1) := by decide +kernel
theorem dX0_start_23 : decode cX0_start 23 = .ok (.iconst 0, 1) := by decide +kernel
theorem dX0_start_24 : decode cX0_start 24 = .ok (.invokevirtual 196, 3) := by decide +kernel
theorem dX0_start_27 : decode cX0_start 27 = .ok (.iconst 2, 1) := by decide +kernel
theorem dX0_start_28 : decode cX0_start 28 = .ok (.if_icmp .ge 17, 3) := by decide +kernel
theorem dX0_start_31 : decode cX0_start 31 = .ok (.aload_n 0, 1) := by decide +kernel
theorem dX0_start_32 : decode cX0_start 32 = .ok (.getfield 28, 3) := by decide +kernel
theorem dX0_start_35 : decode cX0_start 35 = .ok (.iload_n 1, 1) := by decide +kernel
theorem dX0_start_36 : decode cX0_start 36 = .ok (.iconst 1, 1) := by decide +kernel
theorem dX0_start_37 : decode cX0_start 37 = .ok (.iastore, 1) := by decide +kernel
theorem dX0_start_38 : decode cX0_start 38 = .ok (.aload_n 0, 1) := by decide +kernel
theorem dX0_start_39 : decode cX0_start 39 = .ok (.getfield 31, 3) := by decide +kernel
theorem dX0_start_42 : decode cX0_start 42 = .ok (.iload_n 1, 1) := by decide +kernel
theorem dX0_start_43 : decode cX0_start 43 = .ok (.iconst 0, 1) := by decide +kernel
theorem dX0_start_44 : decode cX0_start 44 = .ok (.iastore, 1) := by decide +kernel
theorem dX0_start_45 : decode cX0_start 45 = .ok (.iinc 1 1, 3) := by decide +kernel
theorem dX0_start_48 : decode cX0_start 48 = .ok (.goto (-46), 3) := by decide +kernel
theorem dX0_start_51 : decode cX0_start 51 = .ok (.return_, 1) := by decide +kernel
theorem dX1_init_0 : decode cX1_init 0 = .ok (.aload_n 0, 1) := by decide +kernel
theorem dX1_init_1 : decode cX1_init 1 = .ok (.invokespecial 3, 3) := by decide +kernel
theorem dX1_init_4 : decode cX1_init 4 = .ok (.aload_n 0, 1) := by decide +kernel
theorem dX1_init_5 : decode cX1_init 5 = .ok (.bipush 10, 2) := by decide +kernel
theorem dX1_init_7 : decode cX1_init 7 = .ok (.newarray .int, 2) := by decide +kernel
theorem dX1_init_9 : decode cX1_init 9 = .ok (.putfield 9, 3) := by decide +kernel
theorem dX1_init_12 : decode cX1_init 12 = .ok (.aload_n 0, 1) := by decide +kernel
theorem dX1_init_13 : decode cX1_init 13 = .ok (.bipush 10, 2) := by decide +kernel
theorem dX1_init_15 : decode cX1_init 15 = .ok (.newarray .int, 2) := by decide +kernel
theorem dX1_init_17 : decode cX1_init 17 = .ok (.putfield 15, 3) := by decide +kernel
theorem dX1_init_20 : decode cX1_init 20 = .ok (.aload_n 0, 1) := by decide +kernel
theorem dX1_init_21 : decode cX1_init 21 = .ok (.bipush 10, 2) := by decide +kernel
theorem dX1_init_23 : decode cX1_init 23 = .ok (.newarray .int, 2) := by decide +kernel
theorem dX1_init_25 : decode cX1_init 25 = .ok (.putfield 18, 3) := by decide +kernel
theorem dX1_init_28 : decode cX1_init 28 = .ok (.aload_n 0, 1) := by decide +kernel
theorem dX1_init_29 : decode cX1_init 29 = .ok (.bipush 10, 2) := by decide +kernel
theorem dX1_init_31 : decode cX1_init 31 = .ok (.newarray .int, 2) := by decide +kernel
theorem dX1_init_33 : decode cX1_init 33 = .ok (.putfield 21, 3) := by decide +kernel
theorem dX1_init_36 : decode cX1_init 36 = .ok (.aload_n 0, 1) := by decide +kernel
theorem dX1_init_37 : decode cX1_init 37 = .ok (.bipush 20, 2) := by decide +kernel
theorem dX1_init_39 : decode cX1_init 39 = .ok (.newarray .int, 2) := by decide +kernel
theorem dX1_init_41 : decode cX1_init 41 = .ok (.putfield 24, 3) := by decide +kernel
theorem dX1_init_44 : decode cX1_init 44 = .ok (.aload_n 0, 1) := by decide +kernel
theorem dX1_init_45 : decode cX1_init 45 = .ok (.bipush 20, 2) := by decide +kernel
theorem dX1_init_47 : decode cX1_init 47 = .ok (.newarray .int, 2) := by decide +kernel
theorem dX1_init_49 : decode cX1_init 49 = .ok (.putfield 27, 3) := by decide +kernel
theorem dX1_init_52 : decode cX1_init 52 = .ok (.aload_n 0, 1) := by decide +kernel
theorem dX1_init_53 : decode cX1_init 53 = .ok (.bipush 6, 2) := by decide +kernel
theorem dX1_init_55 : decode cX1_init 55 = .ok (.newarray .int, 2) := by decide +kernel
theorem dX1_init_57 : decode cX1_init 57 = .ok (.putfield 30, 3) := by decide +kernel
theorem dX1_init_60 : decode cX1_init 60 = .ok (.return_, 1) := by decide +kernel
theorem dX1_hasStretch_0 : decode cX1_hasStretch 0 = .ok (.iload_n 1, 1) := by decide +kernel
theorem dX1_hasStretch_1 : decode cX1_hasStretch 1 = .ok (.ifCond .lt 15, 3) := by decide +kernel
theorem dX1_hasStretch_4 : decode cX1_hasStretch 4 = .ok (.iload_n 1, 1) := by decide +kernel
theorem dX1_hasStretch_5 : decode cX1_hasStretch 5 = .ok (.aload_n 0, 1) := by decide +kernel
theorem dX1_hasStretch_6 : decode cX1_hasStretch 6 = .ok (.getfield 33, 3) := by decide +kernel
theorem dX1_hasStretch_9 : decode cX1_hasStretch 9 = .ok (.if_icmp .ge 7, 3) := by decide +kernel
theorem dX1_hasStretch_12 : decode cX1_hasStretch 12 = .ok (.iconst 1, 1) := by decide +kernel
theorem dX1_hasStretch_13 : decode cX1_hasStretch 13 = .ok (.goto 4, 3) := by decide +kernel
theorem dX1_hasStretch_16 : decode cX1_hasStretch 16 = .ok (.iconst 0, 1) := by decide +kernel
theorem dX1_hasStretch_17 : decode cX1_hasStretch 17 = .ok (.ireturn, 1) := by decide +kernel
theorem dX1_hasWalker_0 : decode cX1_hasWalker 0 = .ok (.iload_n 1, 1) := by decide +kernel
theorem dX1_hasWalker_1 : decode cX1_hasWalker 1 = .ok (.ifCond .lt 15, 3) := by decide +kernel
theorem dX1_hasWalker_4 : decode cX1_hasWalker 4 = .ok (.iload_n 1, 1) := by decide +kernel
theorem dX1_hasWalker_5 : decode cX1_hasWalker 5 = .ok (.aload_n 0, 1) := by decide +kernel
theorem dX1_hasWalker_6 : decode cX1_hasWalker 6 = .ok (.getfield 37, 3) := by decide +kernel
theorem dX1_hasWalker_9 : decode cX1_hasWalker 9 = .ok (.if_icmp .ge 7, 3) := by decide +kernel
theorem dX1_hasWalker_12 : decode cX1_hasWalker 12 = .ok (.iconst 1, 1) := by decide +kernel
theorem dX1_hasWalker_13 : decode cX1_hasWalker 13 = .ok (.goto 4, 3) := by decide +kernel
theorem dX1_hasWalker_16 : decode cX1_hasWalker 16 = .ok (.iconst 0, 1) := by decide +kernel
theorem dX1_hasWalker_17 : decode cX1_hasWalker 17 = .ok (.ireturn, 1) := by decide +kernel
theorem dX1_hasSong_0 : decode cX1_hasSong 0 = .ok (.iload_n 1, 1) := by decide +kernel
theorem dX1_hasSong_1 : decode cX1_hasSong 1 = .ok (.ifCond .lt 15, 3) := by decide +kernel
theorem dX1_hasSong_4 : decode cX1_hasSong 4 = .ok (.iload_n 1, 1) := by decide +kernel
theorem dX1_hasSong_5 : decode cX1_hasSong 5 = .ok (.aload_n 0, 1) := by decide +kernel
theorem dX1_hasSong_6 : decode cX1_hasSong 6 = .ok (.getfield 40, 3) := by decide +kernel
theorem dX1_hasSong_9 : decode cX1_hasSong 9 = .ok (.if_icmp .ge 7, 3) := by decide +kernel
theorem dX1_hasSong_12 : decode cX1_hasSong 12 = .ok (.iconst 1, 1) := by decide +kernel
theorem dX1_hasSong_13 : decode cX1_hasSong 13 = .ok (.goto 4, 3) := by decide +kernel
theorem dX1_hasSong_16 : decode cX1_hasSong 16 = .ok (.iconst 0, 1) := by decide +kernel
theorem dX1_hasSong_17 : decode cX1_hasSong 17 = .ok (.ireturn, 1) := by decide +kernel
theorem dX1_appendStretch_0 : decode cX1_appendStretch 0 = .ok (.aload_n 0, 1) := by decide +kernel
theorem dX1_appendStretch_1 : decode cX1_appendStretch 1 = .ok (.getfield 33, 3) := by decide +kernel
theorem dX1_appendStretch_4 : decode cX1_appendStretch 4 = .ok (.istore_n 3, 1) := by decide +kernel
theorem dX1_appendStretch_5 : decode cX1_appendStretch 5 = .ok (.aload_n 0, 1) := by decide +kernel
theorem dX1_appendStretch_6 : decode cX1_appendStretch 6 = .ok (.getfield 9, 3) := by decide +kernel
theorem dX1_appendStretch_9 : decode cX1_appendStretch 9 = .ok (.iload_n 3, 1) := by decide +kernel
theorem dX1_appendStretch_10 : decode cX1_appendStretch 10 = .ok (.iload_n 1, 1) := by decide +kernel
theorem dX1_appendStretch_11 : decode cX1_appendStretch 11 = .ok (.iastore, 1) := by decide +kernel
theorem dX1_appendStretch_12 : decode cX1_appendStretch 12 = .ok (.aload_n 0, 1) := by decide +kernel
theorem dX1_appendStretch_13 : decode cX1_appendStretch 13 = .ok (.getfield 15, 3) := by decide +kernel
theorem dX1_appendStretch_16 : decode cX1_appendStretch 16 = .ok (.iload_n 3, 1) := by decide +kernel
theorem dX1_appendStretch_17 : decode cX1_appendStretch 17 = .ok (.iload_n 2, 1) := by decide +kernel
theorem dX1_appendStretch_18 : decode cX1_appendStretch 18 = .ok (.iastore, 1) := by decide +kernel
theorem dX1_appendStretch_19 : decode cX1_appendStretch 19 = .ok (.aload_n 0, 1) := by decide +kernel
theorem dX1_appendStretch_20 : decode cX1_appendStretch 20 = .ok (.getfield 18, 3) := by decide +kernel
theorem dX1_appendStretch_23 : decode cX1_appendStretch 23 = .ok (.iload_n 3, 1) := by decide +kernel
theorem dX1_appendStretch_24 : decode cX1_appendStretch 24 = .ok (.aload_n 0, 1) := by decide +kernel
theorem dX1_appendStretch_25 : decode cX1_appendStretch 25 = .ok (.getfield 43, 3) := by decide +kernel
theorem dX1_appendStretch_28 : decode cX1_appendStretch 28 = .ok (.iastore, 1) := by decide +kernel
theorem dX1_appendStretch_29 : decode cX1_appendStretch 29 = .ok (.aload_n 0, 1) := by decide +kernel
theorem dX1_appendStretch_30 : decode cX1_appendStretch 30 = .ok (.dup, 1) := by decide +kernel
theorem dX1_appendStretch_31 : decode cX1_appendStretch 31 = .ok (.getfield 43, 3) := by decide +kernel
theorem dX1_appendStretch_34 : decode cX1_appendStretch 34 = .ok (.iload_n 1, 1) := by decide +kernel
theorem dX1_appendStretch_35 : decode cX1_appendStretch 35 = .ok (.iadd, 1) := by decide +kernel
theorem dX1_appendStretch_36 : decode cX1_appendStretch 36 = .ok (.putfield 43, 3) := by decide +kernel
theorem dX1_appendStretch_39 : decode cX1_appendStretch 39 = .ok (.aload_n 0, 1) := by decide +kernel
theorem dX1_appendStretch_40 : decode cX1_appendStretch 40 = .ok (.dup, 1) := by decide +kernel
theorem dX1_appendStretch_41 : decode cX1_appendStretch 41 = .ok (.getfield 33, 3) := by decide +kernel
theorem dX1_appendStretch_44 : decode cX1_appendStretch 44 = .ok (.iconst 1, 1) := by decide +kernel
theorem dX1_appendStretch_45 : decode cX1_appendStretch 45 = .ok (.iadd, 1) := by decide +kernel
theorem dX1_appendStretch_46 : decode cX1_appendStretch 46 = .ok (.putfield 33, 3) := by decide +kernel
theorem dX1_appendStretch_49 : decode cX1_appendStretch 49 = .ok (.iload_n 3, 1) := by decide +kernel
theorem dX1_appendStretch_50 : decode cX1_appendStretch 50 = .ok (.ireturn, 1) := by decide +kernel
theorem dX1_appendWalker_0 : decode cX1_appendWalker 0 = .ok (.aload_n 0, 1) := by decide +kernel
theorem dX1_appendWalker_1 : decode cX1_appendWalker 1 = .ok (.getfield 37, 3) := by decide +kernel
theorem dX1_appendWalker_4 : decode cX1_appendWalker 4 = .ok (.istore_n 3, 1) := by decide +kernel
theorem dX1_appendWalker_5 : decode cX1_appendWalker 5 = .ok (.aload_n 0, 1) := by decide +kernel
theorem dX1_appendWalker_6 : decode cX1_appendWalker 6 = .ok (.getfield 24, 3) := by decide +kernel
theorem dX1_appendWalker_9 : decode cX1_appendWalker 9 = .ok (.iload_n 3, 1) := by decide +kernel
theorem dX1_appendWalker_10 : decode cX1_appendWalker 10 = .ok (.iload_n 1, 1) := by decide +kernel
theorem dX1_appendWalker_11 : decode cX1_appendWalker 11 = .ok (.iastore, 1) := by decide +kernel
theorem dX1_appendWalker_12 : decode cX1_appendWalker 12 = .ok (.aload_n 0, 1) := by decide +kernel
theorem dX1_appendWalker_13 : decode cX1_appendWalker 13 = .ok (.getfield 27, 3) := by decide +kernel
theorem dX1_appendWalker_16 : decode cX1_appendWalker 16 = .ok (.iload_n 3, 1) := by decide +kernel
theorem dX1_appendWalker_17 : decode cX1_appendWalker 17 = .ok (.iload_n 2, 1) := by decide +kernel
theorem dX1_appendWalker_18 : decode cX1_appendWalker 18 = .ok (.iastore, 1) := by decide +kernel
theorem dX1_appendWalker_19 : decode cX1_appendWalker 19 = .ok (.aload_n 0, 1) := by decide +kernel
theorem dX1_appendWalker_20 : decode cX1_appendWalker 20 = .ok (.dup, 1) := by decide +kernel
theorem dX1_appendWalker_21 : decode cX1_appendWalker 21 = .ok (.getfield 37, 3) := by decide +kernel
theorem dX1_appendWalker_24 : decode cX1_appendWalker 24 = .ok (.iconst 1, 1) := by decide +kernel
theorem dX1_appendWalker_25 : decode cX1_appendWalker 25 = .ok (.iadd, 1) := by decide +kernel
theorem dX1_appendWalker_26 : decode cX1_appendWalker 26 = .ok (.putfield 37, 3) := by decide +kernel
theorem dX1_appendWalker_29 : decode cX1_appendWalker 29 = .ok (.iload_n 3, 1) := by decide +kernel
theorem dX1_appendWalker_30 : decode cX1_appendWalker 30 = .ok (.ireturn, 1) := by decide +kernel
theorem dX1_appendSong_0 : decode cX1_appendSong 0 = .ok (.aload_n 0, 1) := by decide +kernel
theorem dX1_appendSong_1 : decode cX1_appendSong 1 = .ok (.getfield 40, 3) := by decide +kernel
theorem dX1_appendSong_4 : decode cX1_appendSong 4 = .ok (.istore_n 2, 1) := by decide +kernel
theorem dX1_appendSong_5 : decode cX1_appendSong 5 = .ok (.aload_n 0, 1) := by decide +kernel
theorem dX1_appendSong_6 : decode cX1_appendSong 6 = .ok (.getfield 30, 3) := by decide +kernel
theorem dX1_appendSong_9 : decode cX1_appendSong 9 = .ok (.iload_n 2, 1) := by decide +kernel
theorem dX1_appendSong_10 : decode cX1_appendSong 10 = .ok (.iload_n 1, 1) := by decide +kernel
theorem dX1_appendSong_11 : decode cX1_appendSong 11 = .ok (.iastore, 1) := by decide +kernel
theorem dX1_appendSong_12 : decode cX1_appendSong 12 = .ok (.aload_n 0, 1) := by decide +kernel
theorem dX1_appendSong_13 : decode cX1_appendSong 13 = .ok (.dup, 1) := by decide +kernel
theorem dX1_appendSong_14 : decode cX1_appendSong 14 = .ok (.getfield 40, 3) := by decide +kernel
theorem dX1_appendSong_17 : decode cX1_appendSong 17 = .ok (.iconst 1, 1) := by decide +kernel
theorem dX1_appendSong_18 : decode cX1_appendSong 18 = .ok (.iadd, 1) := by decide +kernel
theorem dX1_appendSong_19 : decode cX1_appendSong 19 = .ok (.putfield 40, 3) := by decide +kernel
theorem dX1_appendSong_22 : decode cX1_appendSong 22 = .ok (.iload_n 2, 1) := by decide +kernel
theorem dX1_appendSong_23 : decode cX1_appendSong 23 = .ok (.ireturn, 1) := by decide +kernel
theorem dX1_stretchEndingAt_0 : decode cX1_stretchEndingAt 0 = .ok (.iconst 0, 1) := by decide +kernel
theorem dX1_stretchEndingAt_1 : decode cX1_stretchEndingAt 1 = .ok (.istore_n 2, 1) := by decide +kernel
theorem dX1_stretchEndingAt_2 : decode cX1_stretchEndingAt 2 = .ok (.iload_n 2, 1) := by decide +kernel
theorem dX1_stretchEndingAt_3 : decode cX1_stretchEndingAt 3 = .ok (.aload_n 0, 1) := by decide +kernel
theorem dX1_stretchEndingAt_4 : decode cX1_stretchEndingAt 4 = .ok (.getfield 33, 3) := by decide +kernel
theorem dX1_stretchEndingAt_7 : decode cX1_stretchEndingAt 7 = .ok (.if_icmp .ge 30, 3) := by decide +kernel
theorem dX1_stretchEndingAt_10 : decode cX1_stretchEndingAt 10 = .ok (.aload_n 0, 1) := by decide +kernel
theorem dX1_stretchEndingAt_11 : decode cX1_stretchEndingAt 11 = .ok (.getfield 18, 3) := by decide +kernel
theorem dX1_stretchEndingAt_14 : decode cX1_stretchEndingAt 14 = .ok (.iload_n 2, 1) := by decide +kernel
theorem dX1_stretchEndingAt_15 : decode cX1_stretchEndingAt 15 = .ok (.iaload, 1) := by decide +kernel
theorem dX1_stretchEndingAt_16 : decode cX1_stretchEndingAt 16 = .ok (.aload_n 0, 1) := by decide +kernel
theorem dX1_stretchEndingAt_17 : decode cX1_stretchEndingAt 17 = .ok (.getfield 9, 3) := by decide +kernel
theorem dX1_stretchEndingAt_20 : decode cX1_stretchEndingAt 20 = .ok (.iload_n 2, 1) := by decide +kernel
theorem dX1_stretchEndingAt_21 : decode cX1_stretchEndingAt 21 = .ok (.iaload, 1) := by decide +kernel
theorem dX1_stretchEndingAt_22 : decode cX1_stretchEndingAt 22 = .ok (.iadd, 1) := by decide +kernel
theorem dX1_stretchEndingAt_23 : decode cX1_stretchEndingAt 23 = .ok (.iconst 1, 1) := by decide +kernel
theorem dX1_stretchEndingAt_24 : decode cX1_stretchEndingAt 24 = .ok (.isub, 1) := by decide +kernel
theorem dX1_stretchEndingAt_25 : decode cX1_stretchEndingAt 25 = .ok (.iload_n 1, 1) := by decide +kernel
theorem dX1_stretchEndingAt_26 : decode cX1_stretchEndingAt 26 = .ok (.if_icmp .ne 5, 3) := by decide +kernel
theorem dX1_stretchEndingAt_29 : decode cX1_stretchEndingAt 29 = .ok (.iload_n 2, 1) := by decide +kernel
theorem dX1_stretchEndingAt_30 : decode cX1_stretchEndingAt 30 = .ok (.ireturn, 1) := by decide +kernel
theorem dX1_stretchEndingAt_31 : decode cX1_stretchEndingAt 31 = .ok (.iinc 2 1, 3) := by decide +kernel
theorem dX1_stretchEndingAt_34 : decode cX1_stretchEndingAt 34 = .ok (.goto (-32), 3) := by decide +kernel
theorem dX1_stretchEndingAt_37 : decode cX1_stretchEndingAt 37 = .ok (.iconst (-1), 1) := by decide +kernel
theorem dX1_stretchEndingAt_38 : decode cX1_stretchEndingAt 38 = .ok (.ireturn, 1) := by decide +kernel
theorem dJ9_floorMod_7cf53_0 : decode cJ9_floorMod_7cf53 0 = .ok (.iload_n 0, 1) := by decide +kernel
theorem dJ9_floorMod_7cf53_1 : decode cJ9_floorMod_7cf53 1 = .ok (.iload_n 1, 1) := by decide +kernel
theorem dJ9_floorMod_7cf53_2 : decode cJ9_floorMod_7cf53 2 = .ok (.irem, 1) := by decide +kernel
theorem dJ9_floorMod_7cf53_3 : decode cJ9_floorMod_7cf53 3 = .ok (.istore_n 2, 1) := by decide +kernel
theorem dJ9_floorMod_7cf53_4 : decode cJ9_floorMod_7cf53 4 = .ok (.iload_n 0, 1) := by decide +kernel
theorem dJ9_floorMod_7cf53_5 : decode cJ9_floorMod_7cf53 5 = .ok (.iload_n 1, 1) := by decide +kernel
theorem dJ9_floorMod_7cf53_6 : decode cJ9_floorMod_7cf53 6 = .ok (.ixor, 1) := by decide +kernel
theorem dJ9_floorMod_7cf53_7 : decode cJ9_floorMod_7cf53 7 = .ok (.ifCond .ge 11, 3) := by decide +kernel
theorem dJ9_floorMod_7cf53_10 : decode cJ9_floorMod_7cf53 10 = .ok (.iload_n 2, 1) := by decide +kernel
theorem dJ9_floorMod_7cf53_11 : decode cJ9_floorMod_7cf53 11 = .ok (.ifCond .eq 7, 3) := by decide +kernel
theorem dJ9_floorMod_7cf53_14 : decode cJ9_floorMod_7cf53 14 = .ok (.iload_n 2, 1) := by decide +kernel
theorem dJ9_floorMod_7cf53_15 : decode cJ9_floorMod_7cf53 15 = .ok (.iload_n 1, 1) := by decide +kernel
theorem dJ9_floorMod_7cf53_16 : decode cJ9_floorMod_7cf53 16 = .ok (.iadd, 1) := by decide +kernel
theorem dJ9_floorMod_7cf53_17 : decode cJ9_floorMod_7cf53 17 = .ok (.ireturn, 1) := by decide +kernel
theorem dJ9_floorMod_7cf53_18 : decode cJ9_floorMod_7cf53 18 = .ok (.iload_n 2, 1) := by decide +kernel
theorem dJ9_floorMod_7cf53_19 : decode cJ9_floorMod_7cf53 19 = .ok (.ireturn, 1) := by decide +kernel
theorem dJ9_abs_0f7a4_0 : decode cJ9_abs_0f7a4 0 = .ok (.iload_n 0, 1) := by decide +kernel
theorem dJ9_abs_0f7a4_1 : decode cJ9_abs_0f7a4 1 = .ok (.ifCond .ge 8, 3) := by decide +kernel
theorem dJ9_abs_0f7a4_4 : decode cJ9_abs_0f7a4 4 = .ok (.iload_n 0, 1) := by decide +kernel
theorem dJ9_abs_0f7a4_5 : decode cJ9_abs_0f7a4 5 = .ok (.ineg, 1) := by decide +kernel
theorem dJ9_abs_0f7a4_6 : decode cJ9_abs_0f7a4 6 = .ok (.goto 4, 3) := by decide +kernel
theorem dJ9_abs_0f7a4_9 : decode cJ9_abs_0f7a4 9 = .ok (.iload_n 0, 1) := by decide +kernel
theorem dJ9_abs_0f7a4_10 : decode cJ9_abs_0f7a4 10 = .ok (.ireturn, 1) := by decide +kernel
theorem dJ9_max_7cf53_0 : decode cJ9_max_7cf53 0 = .ok (.iload_n 0, 1) := by decide +kernel
theorem dJ9_max_7cf53_1 : decode cJ9_max_7cf53 1 = .ok (.iload_n 1, 1) := by decide +kernel
theorem dJ9_max_7cf53_2 : decode cJ9_max_7cf53 2 = .ok (.if_icmp .lt 7, 3) := by decide +kernel
theorem dJ9_max_7cf53_5 : decode cJ9_max_7cf53 5 = .ok (.iload_n 0, 1) := by decide +kernel
theorem dJ9_max_7cf53_6 : decode cJ9_max_7cf53 6 = .ok (.goto 4, 3) := by decide +kernel
theorem dJ9_max_7cf53_9 : decode cJ9_max_7cf53 9 = .ok (.iload_n 1, 1) := by decide +kernel
theorem dJ9_max_7cf53_10 : decode cJ9_max_7cf53 10 = .ok (.ireturn, 1) := by decide +kernel
theorem dJ9_min_7cf53_0 : decode cJ9_min_7cf53 0 = .ok (.iload_n 0, 1) := by decide +kernel
theorem dJ9_min_7cf53_1 : decode cJ9_min_7cf53 1 = .ok (.iload_n 1, 1) := by decide +kernel
theorem dJ9_min_7cf53_2 : decode cJ9_min_7cf53 2 = .ok (.if_icmp .gt 7, 3) := by decide +kernel
theorem dJ9_min_7cf53_5 : decode cJ9_min_7cf53 5 = .ok (.iload_n 0, 1) := by decide +kernel
theorem dJ9_min_7cf53_6 : decode cJ9_min_7cf53 6 = .ok (.goto 4, 3) := by decide +kernel
theorem dJ9_min_7cf53_9 : decode cJ9_min_7cf53 9 = .ok (.iload_n 1, 1) := by decide +kernel
theorem dJ9_min_7cf53_10 : decode cJ9_min_7cf53 10 = .ok (.ireturn, 1) := by decide +kernel
theorem dJ7_fill_53178_0 : decode cJ7_fill_53178 0 = .ok (.iconst 0, 1) := by decide +kernel
theorem dJ7_fill_53178_1 : decode cJ7_fill_53178 1 = .ok (.istore_n 2, 1) := by decide +kernel
theorem dJ7_fill_53178_2 : decode cJ7_fill_53178 2 = .ok (.aload_n 0, 1) := by decide +kernel
theorem dJ7_fill_53178_3 : decode cJ7_fill_53178 3 = .ok (.arraylength, 1) := by decide +kernel
theorem dJ7_fill_53178_4 : decode cJ7_fill_53178 4 = .ok (.istore_n 3, 1) := by decide +kernel
theorem dJ7_fill_53178_5 : decode cJ7_fill_53178 5 = .ok (.iload_n 2, 1) := by decide +kernel
theorem dJ7_fill_53178_6 : decode cJ7_fill_53178 6 = .ok (.iload_n 3, 1) := by decide +kernel
theorem dJ7_fill_53178_7 : decode cJ7_fill_53178 7 = .ok (.if_icmp .ge 13, 3) := by decide +kernel
theorem dJ7_fill_53178_10 : decode cJ7_fill_53178 10 = .ok (.aload_n 0, 1) := by decide +kernel
theorem dJ7_fill_53178_11 : decode cJ7_fill_53178 11 = .ok (.iload_n 2, 1) := by decide +kernel
theorem dJ7_fill_53178_12 : decode cJ7_fill_53178 12 = .ok (.iload_n 1, 1) := by decide +kernel
theorem dJ7_fill_53178_13 : decode cJ7_fill_53178 13 = .ok (.iastore, 1) := by decide +kernel
theorem dJ7_fill_53178_14 : decode cJ7_fill_53178 14 = .ok (.iinc 2 1, 3) := by decide +kernel
theorem dJ7_fill_53178_17 : decode cJ7_fill_53178 17 = .ok (.goto (-12), 3) := by decide +kernel
theorem dJ7_fill_53178_20 : decode cJ7_fill_53178 20 = .ok (.return_, 1) := by decide +kernel
