theorem dX3_pass_0 : decode cX3_pass 0 = .ok (.aload_n 0, 1) := by decide +kernel
theorem dX3_pass_1 : decode cX3_pass 1 = .ok (.iconst 0, 1) := by decide +kernel
theorem dX3_pass_2 : decode cX3_pass 2 = .ok (.putfield 47, 3) := by decide +kernel
theorem dX3_pass_5 : decode cX3_pass 5 = .ok (.iload_n 1, 1) := by decide +kernel
theorem dX3_pass_6 : decode cX3_pass 6 = .ok (.iconst 1, 1) := by decide +kernel
theorem dX3_pass_7 : decode cX3_pass 7 = .ok (.sipush 200, 3) := by decide +kernel
theorem dX3_pass_10 : decode cX3_pass 10 = .ok (.invokestatic 54, 3) := by decide +kernel
theorem dX3_pass_13 : decode cX3_pass 13 = .ok (.ifCond .ne 9, 3) := by decide +kernel
theorem dX3_pass_16 : decode cX3_pass 16 = .ok (.aload_n 0, 1) := by decide +kernel
theorem dX3_pass_17 : decode cX3_pass 17 = .ok (.iconst 1, 1) := by decide +kernel
theorem dX3_pass_18 : decode cX3_pass 18 = .ok (.invokevirtual 68, 3) := by decide +kernel
theorem dX3_pass_21 : decode cX3_pass 21 = .ok (.ireturn, 1) := by decide +kernel
theorem dX3_pass_22 : decode cX3_pass 22 = .ok (.aload_n 0, 1) := by decide +kernel
theorem dX3_pass_23 : decode cX3_pass 23 = .ok (.getfield 51, 3) := by decide +kernel
theorem dX3_pass_26 : decode cX3_pass 26 = .ok (.ifCond .ne 9, 3) := by decide +kernel
theorem dX3_pass_29 : decode cX3_pass 29 = .ok (.aload_n 0, 1) := by decide +kernel
theorem dX3_pass_30 : decode cX3_pass 30 = .ok (.iconst 2, 1) := by decide +kernel
theorem dX3_pass_31 : decode cX3_pass 31 = .ok (.invokevirtual 68, 3) := by decide +kernel
theorem dX3_pass_34 : decode cX3_pass 34 = .ok (.ireturn, 1) := by decide +kernel
theorem dX3_pass_35 : decode cX3_pass 35 = .ok (.iconst 0, 1) := by decide +kernel
theorem dX3_pass_36 : decode cX3_pass 36 = .ok (.istore_n 2, 1) := by decide +kernel
theorem dX3_pass_37 : decode cX3_pass 37 = .ok (.iconst 0, 1) := by decide +kernel
theorem dX3_pass_38 : decode cX3_pass 38 = .ok (.istore_n 3, 1) := by decide +kernel
theorem dX3_pass_39 : decode cX3_pass 39 = .ok (.iload_n 3, 1) := by decide +kernel
theorem dX3_pass_40 : decode cX3_pass 40 = .ok (.iload_n 1, 1) := by decide +kernel
theorem dX3_pass_41 : decode cX3_pass 41 = .ok (.if_icmp .ge 16, 3) := by decide +kernel
theorem dX3_pass_44 : decode cX3_pass 44 = .ok (.iload_n 2, 1) := by decide +kernel
theorem dX3_pass_45 : decode cX3_pass 45 = .ok (.aload_n 0, 1) := by decide +kernel
theorem dX3_pass_46 : decode cX3_pass 46 = .ok (.invokevirtual 157, 3) := by decide +kernel
theorem dX3_pass_49 : decode cX3_pass 49 = .ok (.iadd, 1) := by decide +kernel
theorem dX3_pass_50 : decode cX3_pass 50 = .ok (.istore_n 2, 1) := by decide +kernel
theorem dX3_pass_51 : decode cX3_pass 51 = .ok (.iinc 3 1, 3) := by decide +kernel
theorem dX3_pass_54 : decode cX3_pass 54 = .ok (.goto (-15), 3) := by decide +kernel
theorem dX3_pass_57 : decode cX3_pass 57 = .ok (.iload_n 2, 1) := by decide +kernel
theorem dX3_pass_58 : decode cX3_pass 58 = .ok (.ireturn, 1) := by decide +kernel
set_option maxRecDepth 20000 in
theorem ggX3_inState_X3_pe : GoodIn wsX3_inState wsX3_pe := goodIn_r _ [6, 7, 8, 9, 10, 11, 12, 13, 14, 15, 16, 17, 18, 19, 20, 21, 22, 23] (by decide +kernel) (by decide +kernel)
set_option maxRecDepth 20000 in
theorem gX3_inState_X3_pe : GoodIn wsX3_inState (wsV RX3 89 RX3 yX3_pe wsX3_pe) := goodIn_app (goodIn_of _ (by decide +kernel)) ggX3_inState_X3_pe
theorem dX3_inState_0 : decode cX3_inState 0 = .ok (.iconst 0, 1) := by decide +kernel
theorem dX3_inState_1 : decode cX3_inState 1 = .ok (.istore_n 2, 1) := by decide +kernel
theorem dX3_inState_2 : decode cX3_inState 2 = .ok (.iconst 0, 1) := by decide +kernel
theorem dX3_inState_3 : decode cX3_inState 3 = .ok (.istore_n 3, 1) := by decide +kernel
theorem dX3_inState_4 : decode cX3_inState 4 = .ok (.iload_n 3, 1) := by decide +kernel
theorem dX3_inState_5 : decode cX3_inState 5 = .ok (.aload_n 0, 1) := by decide +kernel
theorem dX3_inState_6 : decode cX3_inState 6 = .ok (.getfield 58, 3) := by decide +kernel
theorem dX3_inState_9 : decode cX3_inState 9 = .ok (.if_icmp .ge 27, 3) := by decide +kernel
theorem dX3_inState_12 : decode cX3_inState 12 = .ok (.iload_n 2, 1) := by decide +kernel
theorem dX3_inState_13 : decode cX3_inState 13 = .ok (.aload_n 0, 1) := by decide +kernel
theorem dX3_inState_14 : decode cX3_inState 14 = .ok (.iload_n 3, 1) := by decide +kernel
theorem dX3_inState_15 : decode cX3_inState 15 = .ok (.iconst 4, 1) := by decide +kernel
theorem dX3_inState_16 : decode cX3_inState 16 = .ok (.invokevirtual 89, 3) := by decide +kernel
theorem dX3_inState_19 : decode cX3_inState 19 = .ok (.iload_n 1, 1) := by decide +kernel
theorem dX3_inState_20 : decode cX3_inState 20 = .ok (.if_icmp .ne 7, 3) := by decide +kernel
theorem dX3_inState_23 : decode cX3_inState 23 = .ok (.iconst 1, 1) := by decide +kernel
theorem dX3_inState_24 : decode cX3_inState 24 = .ok (.goto 4, 3) := by decide +kernel
theorem dX3_inState_27 : decode cX3_inState 27 = .ok (.iconst 0, 1) := by decide +kernel
theorem dX3_inState_28 : decode cX3_inState 28 = .ok (.iadd, 1) := by decide +kernel
theorem dX3_inState_29 : decode cX3_inState 29 = .ok (.istore_n 2, 1) := by decide +kernel
theorem dX3_inState_30 : decode cX3_inState 30 = .ok (.iinc 3 1, 3) := by decide +kernel
theorem dX3_inState_33 : decode cX3_inState 33 = .ok (.goto (-29), 3) := by decide +kernel
theorem dX3_inState_36 : decode cX3_inState 36 = .ok (.iload_n 2, 1) := by decide +kernel
theorem dX3_inState_37 : decode cX3_inState 37 = .ok (.ireturn, 1) := by decide +kernel
set_option maxRecDepth 20000 in
theorem ggX3_burning_X3_walks : GoodIn wsX3_burning wsX3_walks := goodIn_r _ [6, 7, 8, 9, 5, 10, 11, 12, 13, 14, 15, 16, 17, 18, 19, 20, 21, 22, 23, 24, 25, 26, 27] (by decide +kernel) (by decide +kernel)
set_option maxRecDepth 20000 in
theorem gX3_burning_X3_walks : GoodIn wsX3_burning (wsV RX3 104 RX3 yX3_walks wsX3_walks) := goodIn_app (goodIn_of _ (by decide +kernel)) ggX3_burning_X3_walks
set_option maxRecDepth 20000 in
theorem ggX3_burning_X3_pe : GoodIn wsX3_burning wsX3_pe := goodIn_r _ [10, 11, 12, 13, 14, 15, 16, 17, 18, 19, 20, 21, 22, 23, 24, 25, 26, 27] (by decide +kernel) (by decide +kernel)
set_option maxRecDepth 20000 in
theorem gX3_burning_X3_pe : GoodIn wsX3_burning (wsV RX3 89 RX3 yX3_pe wsX3_pe) := goodIn_app (goodIn_of _ (by decide +kernel)) ggX3_burning_X3_pe
theorem dX3_burning_0 : decode cX3_burning 0 = .ok (.iconst 0, 1) := by decide +kernel
theorem dX3_burning_1 : decode cX3_burning 1 = .ok (.istore_n 1, 1) := by decide +kernel
theorem dX3_burning_2 : decode cX3_burning 2 = .ok (.iconst 0, 1) := by decide +kernel
theorem dX3_burning_3 : decode cX3_burning 3 = .ok (.istore_n 2, 1) := by decide +kernel
theorem dX3_burning_4 : decode cX3_burning 4 = .ok (.iload_n 2, 1) := by decide +kernel
theorem dX3_burning_5 : decode cX3_burning 5 = .ok (.aload_n 0, 1) := by decide +kernel
theorem dX3_burning_6 : decode cX3_burning 6 = .ok (.getfield 58, 3) := by decide +kernel
theorem dX3_burning_9 : decode cX3_burning 9 = .ok (.if_icmp .ge 30, 3) := by decide +kernel
theorem dX3_burning_12 : decode cX3_burning 12 = .ok (.iload_n 1, 1) := by decide +kernel
theorem dX3_burning_13 : decode cX3_burning 13 = .ok (.aload_n 0, 1) := by decide +kernel
theorem dX3_burning_14 : decode cX3_burning 14 = .ok (.iload_n 2, 1) := by decide +kernel
theorem dX3_burning_15 : decode cX3_burning 15 = .ok (.invokevirtual 104, 3) := by decide +kernel
theorem dX3_burning_18 : decode cX3_burning 18 = .ok (.ifCond .eq 12, 3) := by decide +kernel
theorem dX3_burning_21 : decode cX3_burning 21 = .ok (.aload_n 0, 1) := by decide +kernel
theorem dX3_burning_22 : decode cX3_burning 22 = .ok (.iload_n 2, 1) := by decide +kernel
theorem dX3_burning_23 : decode cX3_burning 23 = .ok (.iconst 3, 1) := by decide +kernel
theorem dX3_burning_24 : decode cX3_burning 24 = .ok (.invokevirtual 89, 3) := by decide +kernel
theorem dX3_burning_27 : decode cX3_burning 27 = .ok (.goto 4, 3) := by decide +kernel
theorem dX3_burning_30 : decode cX3_burning 30 = .ok (.iconst 0, 1) := by decide +kernel
theorem dX3_burning_31 : decode cX3_burning 31 = .ok (.iadd, 1) := by decide +kernel
theorem dX3_burning_32 : decode cX3_burning 32 = .ok (.istore_n 1, 1) := by decide +kernel
theorem dX3_burning_33 : decode cX3_burning 33 = .ok (.iinc 2 1, 3) := by decide +kernel
theorem dX3_burning_36 : decode cX3_burning 36 = .ok (.goto (-32), 3) := by decide +kernel
theorem dX3_burning_39 : decode cX3_burning 39 = .ok (.iload_n 1, 1) := by decide +kernel
theorem dX3_burning_40 : decode cX3_burning 40 = .ok (.ireturn, 1) := by decide +kernel
set_option maxRecDepth 20000 in
theorem ggX3_end_X3_walks : GoodIn wsX3_end wsX3_walks := goodIn_r _ [6, 7, 8, 9, 5, 10, 11, 12, 13, 14, 15, 16, 17, 18, 19, 20, 21, 22, 23, 24, 25, 26, 27] (by decide +kernel) (by decide +kernel)
set_option maxRecDepth 20000 in
theorem gX3_end_X3_walks : GoodIn wsX3_end (wsV RX3 104 RX3 yX3_walks wsX3_walks) := goodIn_app (goodIn_of _ (by decide +kernel)) ggX3_end_X3_walks
set_option maxRecDepth 20000 in
theorem ggX3_end_X3_pe : GoodIn wsX3_end wsX3_pe := goodIn_r _ [10, 11, 12, 13, 14, 15, 16, 17, 18, 19, 20, 21, 22, 23, 24, 25, 26, 27] (by decide +kernel) (by decide +kernel)
set_option maxRecDepth 20000 in
theorem gX3_end_X3_pe : GoodIn wsX3_end (wsV RX3 89 RX3 yX3_pe wsX3_pe) := goodIn_app (goodIn_of _ (by decide +kernel)) ggX3_end_X3_pe
theorem dX3_end_0 : decode cX3_end 0 = .ok (.iconst (-1), 1) := by decide +kernel
theorem dX3_end_1 : decode cX3_end 1 = .ok (.istore_n 2, 1) := by decide +kernel
theorem dX3_end_2 : decode cX3_end 2 = .ok (.iconst 0, 1) := by decide +kernel
theorem dX3_end_3 : decode cX3_end 3 = .ok (.istore_n 3, 1) := by decide +kernel
theorem dX3_end_4 : decode cX3_end 4 = .ok (.iload_n 3, 1) := by decide +kernel
theorem dX3_end_5 : decode cX3_end 5 = .ok (.aload_n 0, 1) := by decide +kernel
theorem dX3_end_6 : decode cX3_end 6 = .ok (.getfield 58, 3) := by decide +kernel
theorem dX3_end_9 : decode cX3_end 9 = .ok (.if_icmp .ge 48, 3) := by decide +kernel
theorem dX3_end_12 : decode cX3_end 12 = .ok (.aload_n 0, 1) := by decide +kernel
theorem dX3_end_13 : decode cX3_end 13 = .ok (.iload_n 3, 1) := by decide +kernel
theorem dX3_end_14 : decode cX3_end 14 = .ok (.invokevirtual 104, 3) := by decide +kernel
theorem dX3_end_17 : decode cX3_end 17 = .ok (.ifCond .eq 34, 3) := by decide +kernel
theorem dX3_end_20 : decode cX3_end 20 = .ok (.iload_n 2, 1) := by decide +kernel
theorem dX3_end_21 : decode cX3_end 21 = .ok (.iconst (-1), 1) := by decide +kernel
theorem dX3_end_22 : decode cX3_end 22 = .ok (.if_icmp .eq 22, 3) := by decide +kernel
theorem dX3_end_25 : decode cX3_end 25 = .ok (.iload_n 1, 1) := by decide +kernel
theorem dX3_end_26 : decode cX3_end 26 = .ok (.aload_n 0, 1) := by decide +kernel
theorem dX3_end_27 : decode cX3_end 27 = .ok (.iload_n 3, 1) := by decide +kernel
theorem dX3_end_28 : decode cX3_end 28 = .ok (.iconst 5, 1) := by decide +kernel
theorem dX3_end_29 : decode cX3_end 29 = .ok (.invokevirtual 89, 3) := by decide +kernel
theorem dX3_end_32 : decode cX3_end 32 = .ok (.iload_n 2, 1) := by decide +kernel
theorem dX3_end_33 : decode cX3_end 33 = .ok (.if_icmp .le 7, 3) := by decide +kernel
theorem dX3_end_36 : decode cX3_end 36 = .ok (.iconst 1, 1) := by decide +kernel
theorem dX3_end_37 : decode cX3_end 37 = .ok (.goto 4, 3) := by decide +kernel
theorem dX3_end_40 : decode cX3_end 40 = .ok (.iconst 0, 1) := by decide +kernel
theorem dX3_end_41 : decode cX3_end 41 = .ok (.if_icmp .ne 10, 3) := by decide +kernel
theorem dX3_end_44 : decode cX3_end 44 = .ok (.aload_n 0, 1) := by decide +kernel
theorem dX3_end_45 : decode cX3_end 45 = .ok (.iload_n 3, 1) := by decide +kernel
theorem dX3_end_46 : decode cX3_end 46 = .ok (.iconst 5, 1) := by decide +kernel
theorem dX3_end_47 : decode cX3_end 47 = .ok (.invokevirtual 89, 3) := by decide +kernel
theorem dX3_end_50 : decode cX3_end 50 = .ok (.istore_n 2, 1) := by decide +kernel
theorem dX3_end_51 : decode cX3_end 51 = .ok (.iinc 3 1, 3) := by decide +kernel
theorem dX3_end_54 : decode cX3_end 54 = .ok (.goto (-50), 3) := by decide +kernel
theorem dX3_end_57 : decode cX3_end 57 = .ok (.iload_n 2, 1) := by decide +kernel
theorem dX3_end_58 : decode cX3_end 58 = .ok (.ireturn, 1) := by decide +kernel
set_option maxRecDepth 20000 in
theorem ggX3_counted_X3_places : GoodIn wsX3_counted wsX3_places := goodIn_r _ [9, 2, 10, 11, 12, 8, 13, 14, 36, 37, 38, 39, 40, 41, 42, 43, 44, 45, 46, 47, 48, 49, 50, 51] (by decide +kernel) (by decide +kernel)
set_option maxRecDepth 20000 in
theorem gX3_counted_X3_places : GoodIn wsX3_counted (wsV RX3 72 RX3 yX3_places wsX3_places) := goodIn_app (goodIn_of _ (by decide +kernel)) ggX3_counted_X3_places
set_option maxRecDepth 20000 in
theorem ggX3_counted_X3_inState : GoodIn wsX3_counted wsX3_inState := goodIn_r _ [18, 3, 19, 20, 21, 8, 22, 23, 36, 37, 38, 39, 40, 41, 42, 43, 44, 45, 46, 47, 48, 49, 50, 51] (by decide +kernel) (by decide +kernel)
set_option maxRecDepth 20000 in
theorem gX3_counted_X3_inState : GoodIn wsX3_counted (wsV RX3 144 RX3 yX3_inState wsX3_inState) := goodIn_app (goodIn_of _ (by decide +kernel)) ggX3_counted_X3_inState
set_option maxRecDepth 20000 in
theorem ggX3_counted_X3_burning : GoodIn wsX3_counted wsX3_burning := goodIn_r _ [27, 3, 28, 29, 30, 8, 31, 19, 20, 21, 22, 23, 36, 37, 38, 39, 40, 41, 42, 43, 44, 45, 46, 47, 48, 49, 50, 51] (by decide +kernel) (by decide +kernel)
set_option maxRecDepth 20000 in
theorem gX3_counted_X3_burning : GoodIn wsX3_counted (wsV RX3 160 RX3 yX3_burning wsX3_burning) := goodIn_app (goodIn_of _ (by decide +kernel)) ggX3_counted_X3_burning
set_option maxRecDepth 20000 in
theorem ggX3_counted_X3_end : GoodIn wsX3_counted wsX3_end := goodIn_r _ [35, 3, 28, 29, 30, 8, 31, 19, 20, 21, 22, 23, 36, 37, 38, 39, 40, 41, 42, 43, 44, 45, 46, 47, 48, 49, 50, 51] (by decide +kernel) (by decide +kernel)
set_option maxRecDepth 20000 in
theorem gX3_counted_X3_end : GoodIn wsX3_counted (wsV RX3 163 RX3 yX3_end wsX3_end) := goodIn_app (goodIn_of _ (by decide +kernel)) ggX3_counted_X3_end
theorem dX3_counted_0 : decode cX3_counted 0 = .ok (.iload_n 1, 1) := by decide +kernel
theorem dX3_counted_1 : decode cX3_counted 1 = .ok (.tableswitch 101 0 9 #[55, 62, 67, 72, 77, 77, 77, 85, 90, 95], 55) := by decide +kernel
theorem dX3_counted_56 : decode cX3_counted 56 = .ok (.aload_n 0, 1) := by decide +kernel
theorem dX3_counted_57 : decode cX3_counted 57 = .ok (.getfield 28, 3) := by decide +kernel
theorem dX3_counted_60 : decode cX3_counted 60 = .ok (.iconst 0, 1) := by decide +kernel
theorem dX3_counted_61 : decode cX3_counted 61 = .ok (.iaload, 1) := by decide +kernel
theorem dX3_counted_62 : decode cX3_counted 62 = .ok (.ireturn, 1) := by decide +kernel
theorem dX3_counted_63 : decode cX3_counted 63 = .ok (.aload_n 0, 1) := by decide +kernel
theorem dX3_counted_64 : decode cX3_counted 64 = .ok (.getfield 51, 3) := by decide +kernel
theorem dX3_counted_67 : decode cX3_counted 67 = .ok (.ireturn, 1) := by decide +kernel
theorem dX3_counted_68 : decode cX3_counted 68 = .ok (.aload_n 0, 1) := by decide +kernel
theorem dX3_counted_69 : decode cX3_counted 69 = .ok (.invokevirtual 72, 3) := by decide +kernel
theorem dX3_counted_72 : decode cX3_counted 72 = .ok (.ireturn, 1) := by decide +kernel
theorem dX3_counted_73 : decode cX3_counted 73 = .ok (.aload_n 0, 1) := by decide +kernel
theorem dX3_counted_74 : decode cX3_counted 74 = .ok (.getfield 58, 3) := by decide +kernel
theorem dX3_counted_77 : decode cX3_counted 77 = .ok (.ireturn, 1) := by decide +kernel
theorem dX3_counted_78 : decode cX3_counted 78 = .ok (.aload_n 0, 1) := by decide +kernel
theorem dX3_counted_79 : decode cX3_counted 79 = .ok (.iload_n 1, 1) := by decide +kernel
theorem dX3_counted_80 : decode cX3_counted 80 = .ok (.iconst 4, 1) := by decide +kernel
theorem dX3_counted_81 : decode cX3_counted 81 = .ok (.isub, 1) := by decide +kernel
theorem dX3_counted_82 : decode cX3_counted 82 = .ok (.invokevirtual 144, 3) := by decide +kernel
theorem dX3_counted_85 : decode cX3_counted 85 = .ok (.ireturn, 1) := by decide +kernel
theorem dX3_counted_86 : decode cX3_counted 86 = .ok (.aload_n 0, 1) := by decide +kernel
theorem dX3_counted_87 : decode cX3_counted 87 = .ok (.invokevirtual 160, 3) := by decide +kernel
theorem dX3_counted_90 : decode cX3_counted 90 = .ok (.ireturn, 1) := by decide +kernel
theorem dX3_counted_91 : decode cX3_counted 91 = .ok (.aload_n 0, 1) := by decide +kernel
theorem dX3_counted_92 : decode cX3_counted 92 = .ok (.getfield 61, 3) := by decide +kernel
theorem dX3_counted_95 : decode cX3_counted 95 = .ok (.ireturn, 1) := by decide +kernel
theorem dX3_counted_96 : decode cX3_counted 96 = .ok (.aload_n 0, 1) := by decide +kernel
theorem dX3_counted_97 : decode cX3_counted 97 = .ok (.iconst 1, 1) := by decide +kernel
theorem dX3_counted_98 : decode cX3_counted 98 = .ok (.invokevirtual 163, 3) := by decide +kernel
theorem dX3_counted_101 : decode cX3_counted 101 = .ok (.ireturn, 1) := by decide +kernel
theorem dX3_counted_102 : decode cX3_counted 102 = .ok (.aload_n 0, 1) := by decide +kernel
theorem dX3_counted_103 : decode cX3_counted 103 = .ok (.iconst 1, 1) := by decide +kernel
theorem dX3_counted_104 : decode cX3_counted 104 = .ok (.invokevirtual 163, 3) := by decide +kernel
theorem dX3_counted_107 : decode cX3_counted 107 = .ok (.aload_n 0, 1) := by decide +kernel
theorem dX3_counted_108 : decode cX3_counted 108 = .ok (.iconst 0, 1) := by decide +kernel
theorem dX3_counted_109 : decode cX3_counted 109 = .ok (.invokevirtual 163, 3) := by decide +kernel
theorem dX3_counted_112 : decode cX3_counted 112 = .ok (.isub, 1) := by decide +kernel
theorem dX3_counted_113 : decode cX3_counted 113 = .ok (.ireturn, 1) := by decide +kernel
set_option maxRecDepth 20000 in
theorem ggX3_count_X3_isIn : GoodIn wsX3_count wsX3_isIn := goodIn_r _ [5] (by decide +kernel) (by decide +kernel)
set_option maxRecDepth 20000 in
theorem gX3_count_X3_isIn : GoodIn wsX3_count (va_wsS RX3 54 yX3_isIn wsX3_isIn) := goodIn_app (goodIn_of _ (by decide +kernel)) ggX3_count_X3_isIn
set_option maxRecDepth 20000 in
theorem ggX3_count_X3_counted : GoodIn wsX3_count wsX3_counted := goodIn_r _ [9, 10, 11, 12, 13, 14, 15, 16, 4, 17, 18, 19, 20, 21, 22, 23, 24, 25, 26, 27, 28, 29, 30, 31, 32, 33, 34, 35, 36, 37, 38, 39, 40, 41, 42, 43, 48, 49, 50, 51, 52, 53, 54, 55, 56, 57, 58, 59, 60, 61, 62, 63] (by decide +kernel) (by decide +kernel)
set_option maxRecDepth 20000 in
theorem gX3_count_X3_counted : GoodIn wsX3_count (wsV RX3 167 RX3 yX3_counted wsX3_counted) := goodIn_app (goodIn_of _ (by decide +kernel)) ggX3_count_X3_counted
set_option maxRecDepth 20000 in
theorem ggX3_count_X3_fail : GoodIn wsX3_count wsX3_fail := goodIn_r _ [47, 1, 48, 49, 50, 51, 52, 53, 54, 55, 56, 57, 58, 59, 60, 61, 62, 63] (by decide +kernel) (by decide +kernel)
set_option maxRecDepth 20000 in
theorem gX3_count_X3_fail : GoodIn wsX3_count (wsV RX3 68 RX3 yX3_fail wsX3_fail) := goodIn_app (goodIn_of _ (by decide +kernel)) ggX3_count_X3_fail
theorem dX3_count_0 : decode cX3_count 0 = .ok (.aload_n 0, 1) := by decide +kernel
theorem dX3_count_1 : decode cX3_count 1 = .ok (.iconst 0, 1) := by decide +kernel
theorem dX3_count_2 : decode cX3_count 2 = .ok (.putfield 47, 3) := by decide +kernel
theorem dX3_count_5 : decode cX3_count 5 = .ok (.iload_n 1, 1) := by decide +kernel
theorem dX3_count_6 : decode cX3_count 6 = .ok (.iconst 0, 1) := by decide +kernel
theorem dX3_count_7 : decode cX3_count 7 = .ok (.bipush 10, 2) := by decide +kernel
theorem dX3_count_9 : decode cX3_count 9 = .ok (.invokestatic 54, 3) := by decide +kernel
theorem dX3_count_12 : decode cX3_count 12 = .ok (.ifCond .eq 11, 3) := by decide +kernel
theorem dX3_count_15 : decode cX3_count 15 = .ok (.aload_n 0, 1) := by decide +kernel
theorem dX3_count_16 : decode cX3_count 16 = .ok (.iload_n 1, 1) := by decide +kernel
theorem dX3_count_17 : decode cX3_count 17 = .ok (.invokevirtual 167, 3) := by decide +kernel
theorem dX3_count_20 : decode cX3_count 20 = .ok (.goto 8, 3) := by decide +kernel
theorem dX3_count_23 : decode cX3_count 23 = .ok (.aload_n 0, 1) := by decide +kernel
theorem dX3_count_24 : decode cX3_count 24 = .ok (.iconst 1, 1) := by decide +kernel
theorem dX3_count_25 : decode cX3_count 25 = .ok (.invokevirtual 68, 3) := by decide +kernel
theorem dX3_count_28 : decode cX3_count 28 = .ok (.ireturn, 1) := by decide +kernel
theorem dX3_kept_0 : decode cX3_kept 0 = .ok (.iconst 5, 1) := by decide +kernel
theorem dX3_kept_1 : decode cX3_kept 1 = .ok (.anewarray 170, 3) := by decide +kernel
theorem dX3_kept_4 : decode cX3_kept 4 = .ok (.dup, 1) := by decide +kernel
theorem dX3_kept_5 : decode cX3_kept 5 = .ok (.iconst 0, 1) := by decide +kernel
theorem dX3_kept_6 : decode cX3_kept 6 = .ok (.aload_n 0, 1) := by decide +kernel
theorem dX3_kept_7 : decode cX3_kept 7 = .ok (.getfield 9, 3) := by decide +kernel
theorem dX3_kept_10 : decode cX3_kept 10 = .ok (.invokevirtual 171, 3) := by decide +kernel
theorem dX3_kept_13 : decode cX3_kept 13 = .ok (.checkcast 170, 3) := by decide +kernel
theorem dX3_kept_16 : decode cX3_kept 16 = .ok (.aastore, 1) := by decide +kernel
theorem dX3_kept_17 : decode cX3_kept 17 = .ok (.dup, 1) := by decide +kernel
theorem dX3_kept_18 : decode cX3_kept 18 = .ok (.iconst 1, 1) := by decide +kernel
theorem dX3_kept_19 : decode cX3_kept 19 = .ok (.aload_n 0, 1) := by decide +kernel
theorem dX3_kept_20 : decode cX3_kept 20 = .ok (.getfield 13, 3) := by decide +kernel
theorem dX3_kept_23 : decode cX3_kept 23 = .ok (.invokevirtual 171, 3) := by decide +kernel
theorem dX3_kept_26 : decode cX3_kept 26 = .ok (.checkcast 170, 3) := by decide +kernel
theorem dX3_kept_29 : decode cX3_kept 29 = .ok (.aastore, 1) := by decide +kernel
theorem dX3_kept_30 : decode cX3_kept 30 = .ok (.dup, 1) := by decide +kernel
theorem dX3_kept_31 : decode cX3_kept 31 = .ok (.iconst 2, 1) := by decide +kernel
theorem dX3_kept_32 : decode cX3_kept 32 = .ok (.aload_n 0, 1) := by decide +kernel
theorem dX3_kept_33 : decode cX3_kept 33 = .ok (.getfield 19, 3) := by decide +kernel
theorem dX3_kept_36 : decode cX3_kept 36 = .ok (.invokevirtual 171, 3) := by decide +kernel
theorem dX3_kept_39 : decode cX3_kept 39 = .ok (.checkcast 170, 3) := by decide +kernel
theorem dX3_kept_42 : decode cX3_kept 42 = .ok (.aastore, 1) := by decide +kernel
theorem dX3_kept_43 : decode cX3_kept 43 = .ok (.dup, 1) := by decide +kernel
theorem dX3_kept_44 : decode cX3_kept 44 = .ok (.iconst 3, 1) := by decide +kernel
theorem dX3_kept_45 : decode cX3_kept 45 = .ok (.aload_n 0, 1) := by decide +kernel
theorem dX3_kept_46 : decode cX3_kept 46 = .ok (.getfield 25, 3) := by decide +kernel
theorem dX3_kept_49 : decode cX3_kept 49 = .ok (.invokevirtual 171, 3) := by decide +kernel
theorem dX3_kept_52 : decode cX3_kept 52 = .ok (.checkcast 170, 3) := by decide +kernel
theorem dX3_kept_55 : decode cX3_kept 55 = .ok (.aastore, 1) := by decide +kernel
theorem dX3_kept_56 : decode cX3_kept 56 = .ok (.dup, 1) := by decide +kernel
theorem dX3_kept_57 : decode cX3_kept 57 = .ok (.iconst 4, 1) := by decide +kernel
theorem dX3_kept_58 : decode cX3_kept 58 = .ok (.aload_n 0, 1) := by decide +kernel
theorem dX3_kept_59 : decode cX3_kept 59 = .ok (.getfield 28, 3) := by decide +kernel
theorem dX3_kept_62 : decode cX3_kept 62 = .ok (.invokevirtual 171, 3) := by decide +kernel
theorem dX3_kept_65 : decode cX3_kept 65 = .ok (.checkcast 170, 3) := by decide +kernel
theorem dX3_kept_68 : decode cX3_kept 68 = .ok (.aastore, 1) := by decide +kernel
theorem dX3_kept_69 : decode cX3_kept 69 = .ok (.areturn, 1) := by decide +kernel
theorem dX3_bringBack_0 : decode cX3_bringBack 0 = .ok (.iconst 5, 1) := by decide +kernel
theorem dX3_bringBack_1 : decode cX3_bringBack 1 = .ok (.anewarray 170, 3) := by decide +kernel
theorem dX3_bringBack_4 : decode cX3_bringBack 4 = .ok (.dup, 1) := by decide +kernel
theorem dX3_bringBack_5 : decode cX3_bringBack 5 = .ok (.iconst 0, 1) := by decide +kernel
theorem dX3_bringBack_6 : decode cX3_bringBack 6 = .ok (.aload_n 0, 1) := by decide +kernel
theorem dX3_bringBack_7 : decode cX3_bringBack 7 = .ok (.getfield 9, 3) := by decide +kernel
theorem dX3_bringBack_10 : decode cX3_bringBack 10 = .ok (.aastore, 1) := by decide +kernel
theorem dX3_bringBack_11 : decode cX3_bringBack 11 = .ok (.dup, 1) := by decide +kernel
theorem dX3_bringBack_12 : decode cX3_bringBack 12 = .ok (.iconst 1, 1) := by decide +kernel
theorem dX3_bringBack_13 : decode cX3_bringBack 13 = .ok (.aload_n 0, 1) := by decide +kernel
theorem dX3_bringBack_14 : decode cX3_bringBack 14 = .ok (.getfield 13, 3) := by decide +kernel
theorem dX3_bringBack_17 : decode cX3_bringBack 17 = .ok (.aastore, 1) := by decide +kernel
theorem dX3_bringBack_18 : decode cX3_bringBack 18 = .ok (.dup, 1) := by decide +kernel
theorem dX3_bringBack_19 : decode cX3_bringBack 19 = .ok (.iconst 2, 1) := by decide +kernel
theorem dX3_bringBack_20 : decode cX3_bringBack 20 = .ok (.aload_n 0, 1) := by decide +kernel
theorem dX3_bringBack_21 : decode cX3_bringBack 21 = .ok (.getfield 19, 3) := by decide +kernel
theorem dX3_bringBack_24 : decode cX3_bringBack 24 = .ok (.aastore, 1) := by decide +kernel
theorem dX3_bringBack_25 : decode cX3_bringBack 25 = .ok (.dup, 1) := by decide +kernel
theorem dX3_bringBack_26 : decode cX3_bringBack 26 = .ok (.iconst 3, 1) := by decide +kernel
theorem dX3_bringBack_27 : decode cX3_bringBack 27 = .ok (.aload_n 0, 1) := by decide +kernel
theorem dX3_bringBack_28 : decode cX3_bringBack 28 = .ok (.getfield 25, 3) := by decide +kernel
theorem dX3_bringBack_31 : decode cX3_bringBack 31 = .ok (.aastore, 1) := by decide +kernel
theorem dX3_bringBack_32 : decode cX3_bringBack 32 = .ok (.dup, 1) := by decide +kernel
theorem dX3_bringBack_33 : decode cX3_bringBack 33 = .ok (.iconst 4, 1) := by decide +kernel
theorem dX3_bringBack_34 : decode cX3_bringBack 34 = .ok (.aload_n 0, 1) := by decide +kernel
theorem dX3_bringBack_35 : decode cX3_bringBack 35 = .ok (.getfield 28, 3) := by decide +kernel
theorem dX3_bringBack_38 : decode cX3_bringBack 38 = .ok (.aastore, 1) := by decide +kernel
theorem dX3_bringBack_39 : decode cX3_bringBack 39 = .ok (.astore_n 2, 1) := by decide +kernel
theorem dX3_bringBack_40 : decode cX3_bringBack 40 = .ok (.iconst 0, 1) := by decide +kernel
theorem dX3_bringBack_41 : decode cX3_bringBack 41 = .ok (.istore_n 3, 1) := by decide +kernel
theorem dX3_bringBack_42 : decode cX3_bringBack 42 = .ok (.iload_n 3, 1) := by decide +kernel
theorem dX3_bringBack_43 : decode cX3_bringBack 43 = .ok (.aload_n 2, 1) := by decide +kernel
theorem dX3_bringBack_44 : decode cX3_bringBack 44 = .ok (.arraylength, 1) := by decide +kernel
theorem dX3_bringBack_45 : decode cX3_bringBack 45 = .ok (.if_icmp .ge 24, 3) := by decide +kernel
theorem dX3_bringBack_48 : decode cX3_bringBack 48 = .ok (.aload_n 1, 1) := by decide +kernel
theorem dX3_bringBack_49 : decode cX3_bringBack 49 = .ok (.iload_n 3, 1) := by decide +kernel
theorem dX3_bringBack_50 : decode cX3_bringBack 50 = .ok (.aaload, 1) := by decide +kernel
theorem dX3_bringBack_51 : decode cX3_bringBack 51 = .ok (.iconst 0, 1) := by decide +kernel
theorem dX3_bringBack_52 : decode cX3_bringBack 52 = .ok (.aload_n 2, 1) := by decide +kernel
theorem dX3_bringBack_53 : decode cX3_bringBack 53 = .ok (.iload_n 3, 1) := by decide +kernel
theorem dX3_bringBack_54 : decode cX3_bringBack 54 = .ok (.aaload, 1) := by decide +kernel
theorem dX3_bringBack_55 : decode cX3_bringBack 55 = .ok (.iconst 0, 1) := by decide +kernel
theorem dX3_bringBack_56 : decode cX3_bringBack 56 = .ok (.aload_n 2, 1) := by decide +kernel
theorem dX3_bringBack_57 : decode cX3_bringBack 57 = .ok (.iload_n 3, 1) := by decide +kernel
theorem dX3_bringBack_58 : decode cX3_bringBack 58 = .ok (.aaload, 1) := by decide +kernel
theorem dX3_bringBack_59 : decode cX3_bringBack 59 = .ok (.arraylength, 1) := by decide +kernel
theorem dX3_bringBack_60 : decode cX3_bringBack 60 = .ok (.invokestatic 76, 3) := by decide +kernel
theorem dX3_bringBack_63 : decode cX3_bringBack 63 = .ok (.iinc 3 1, 3) := by decide +kernel
theorem dX3_bringBack_66 : decode cX3_bringBack 66 = .ok (.goto (-24), 3) := by decide +kernel
theorem dX3_bringBack_69 : decode cX3_bringBack 69 = .ok (.return_, 1) := by decide +kernel
theorem dX3_pairs_0 : decode cX3_pairs 0 = .ok (.iconst 0, 1) := by decide +kernel
theorem dX3_pairs_1 : decode cX3_pairs 1 = .ok (.istore_n 1, 1) := by decide +kernel
theorem dX3_pairs_2 : decode cX3_pairs 2 = .ok (.aload_n 0, 1) := by decide +kernel
theorem dX3_pairs_3 : decode cX3_pairs 3 = .ok (.getfield 25, 3) := by decide +kernel
theorem dX3_pairs_6 : decode cX3_pairs 6 = .ok (.astore_n 2, 1) := by decide +kernel
theorem dX3_pairs_7 : decode cX3_pairs 7 = .ok (.aload_n 2, 1) := by decide +kernel
theorem dX3_pairs_8 : decode cX3_pairs 8 = .ok (.arraylength, 1) := by decide +kernel
theorem dX3_pairs_9 : decode cX3_pairs 9 = .ok (.istore_n 3, 1) := by decide +kernel
theorem dX3_pairs_10 : decode cX3_pairs 10 = .ok (.iconst 0, 1) := by decide +kernel
theorem dX3_pairs_11 : decode cX3_pairs 11 = .ok (.istore 4, 2) := by decide +kernel
theorem dX3_pairs_13 : decode cX3_pairs 13 = .ok (.iload 4, 2) := by decide +kernel
theorem dX3_pairs_15 : decode cX3_pairs 15 = .ok (.iload_n 3, 1) := by decide +kernel
theorem dX3_pairs_16 : decode cX3_pairs 16 = .ok (.if_icmp .ge 28, 3) := by decide +kernel
theorem dX3_pairs_19 : decode cX3_pairs 19 = .ok (.aload_n 2, 1) := by decide +kernel
theorem dX3_pairs_20 : decode cX3_pairs 20 = .ok (.iload 4, 2) := by decide +kernel
theorem dX3_pairs_22 : decode cX3_pairs 22 = .ok (.iaload, 1) := by decide +kernel
theorem dX3_pairs_23 : decode cX3_pairs 23 = .ok (.istore 5, 2) := by decide +kernel
theorem dX3_pairs_25 : decode cX3_pairs 25 = .ok (.iload_n 1, 1) := by decide +kernel
theorem dX3_pairs_26 : decode cX3_pairs 26 = .ok (.iload 5, 2) := by decide +kernel
theorem dX3_pairs_28 : decode cX3_pairs 28 = .ok (.ifCond .le 7, 3) := by decide +kernel
theorem dX3_pairs_31 : decode cX3_pairs 31 = .ok (.iconst 1, 1) := by decide +kernel
theorem dX3_pairs_32 : decode cX3_pairs 32 = .ok (.goto 4, 3) := by decide +kernel
theorem dX3_pairs_35 : decode cX3_pairs 35 = .ok (.iconst 0, 1) := by decide +kernel
theorem dX3_pairs_36 : decode cX3_pairs 36 = .ok (.iadd, 1) := by decide +kernel
theorem dX3_pairs_37 : decode cX3_pairs 37 = .ok (.istore_n 1, 1) := by decide +kernel
theorem dX3_pairs_38 : decode cX3_pairs 38 = .ok (.iinc 4 1, 3) := by decide +kernel
theorem dX3_pairs_41 : decode cX3_pairs 41 = .ok (.goto (-28), 3) := by decide +kernel
theorem dX3_pairs_44 : decode cX3_pairs 44 = .ok (.iload_n 1, 1) := by decide +kernel
theorem dX3_pairs_45 : decode cX3_pairs 45 = .ok (.ireturn, 1) := by decide +kernel
set_option maxRecDepth 20000 in
theorem ggX3_foresee_X3_isIn : GoodIn wsX3_foresee wsX3_isIn := goodIn_r _ [6] (by decide +kernel) (by decide +kernel)
set_option maxRecDepth 20000 in
theorem gX3_foresee_X3_isIn : GoodIn wsX3_foresee (va_wsS RX3 54 yX3_isIn wsX3_isIn) := goodIn_app (goodIn_of _ (by decide +kernel)) ggX3_foresee_X3_isIn
set_option maxRecDepth 20000 in
theorem ggX3_foresee_X3_fail : GoodIn wsX3_foresee wsX3_fail := goodIn_r _ [10, 1, 122, 123, 124, 125, 126, 127, 128, 129, 130, 131, 132, 133, 134, 135, 136, 137] (by decide +kernel) (by decide +kernel)
set_option maxRecDepth 20000 in
theorem gX3_foresee_X3_fail : GoodIn wsX3_foresee (wsV RX3 68 RX3 yX3_fail wsX3_fail) := goodIn_app (goodIn_of _ (by decide +kernel)) ggX3_foresee_X3_fail
set_option maxRecDepth 20000 in
theorem ggX3_foresee_X3_kept : GoodIn wsX3_foresee wsX3_kept := goodIn_r _ [14, 15, 16, 17, 18, 19, 20, 21, 22, 23, 24, 25, 122, 123, 124, 125, 126, 127, 128, 129, 130, 131, 132, 133, 134, 135, 136, 137] (by decide +kernel) (by decide +kernel)
set_option maxRecDepth 20000 in
theorem gX3_foresee_X3_kept : GoodIn wsX3_foresee (wsV RX3 175 RX3 yX3_kept wsX3_kept) := goodIn_app (goodIn_of _ (by decide +kernel)) ggX3_foresee_X3_kept
set_option maxRecDepth 20000 in
theorem ggX3_foresee_X3_stepOn : GoodIn wsX3_foresee wsX3_stepOn := goodIn_r _ [29, 30, 25, 31, 32, 33, 34, 35, 36, 37, 5, 38, 39, 40, 41, 42, 23, 43, 44, 45, 46, 47, 48, 49, 50, 51, 52, 53, 54, 55, 56, 57, 58, 59, 60, 61, 62, 63, 64, 65, 66, 67, 68, 69, 70, 71, 72, 73, 74, 75, 76, 24, 77, 78, 79, 80, 81, 82, 83, 84, 85, 16, 86, 87, 88, 89, 90, 91, 92, 93, 94, 95, 96, 97, 2, 98, 99, 100, 101, 102, 103, 104, 105, 22, 122, 123, 124, 125, 126, 127, 128, 129, 130, 131, 132, 133, 134, 135, 136, 137] (by decide +kernel) (by decide +kernel)
set_option maxRecDepth 20000 in
theorem gX3_foresee_X3_stepOn : GoodIn wsX3_foresee (wsV RX3 157 RX3 yX3_stepOn wsX3_stepOn) := goodIn_app (goodIn_of _ (by decide +kernel)) ggX3_foresee_X3_stepOn
set_option maxRecDepth 20000 in
theorem ggX3_foresee_X3_inState : GoodIn wsX3_foresee wsX3_inState := goodIn_r _ [38, 32, 39, 40, 41, 5, 42, 23, 122, 123, 124, 125, 126, 127, 128, 129, 130, 131, 132, 133, 134, 135, 136, 137] (by decide +kernel) (by decide +kernel)
set_option maxRecDepth 20000 in
theorem gX3_foresee_X3_inState : GoodIn wsX3_foresee (wsV RX3 144 RX3 yX3_inState wsX3_inState) := goodIn_app (goodIn_of _ (by decide +kernel)) ggX3_foresee_X3_inState
set_option maxRecDepth 20000 in
theorem ggX3_foresee_X3_burning : GoodIn wsX3_foresee wsX3_burning := goodIn_r _ [109, 32, 56, 57, 58, 5, 59, 39, 40, 41, 42, 23, 122, 123, 124, 125, 126, 127, 128, 129, 130, 131, 132, 133, 134, 135, 136, 137] (by decide +kernel) (by decide +kernel)
set_option maxRecDepth 20000 in
theorem gX3_foresee_X3_burning : GoodIn wsX3_foresee (wsV RX3 160 RX3 yX3_burning wsX3_burning) := goodIn_app (goodIn_of _ (by decide +kernel)) ggX3_foresee_X3_burning
set_option maxRecDepth 20000 in
theorem ggX3_foresee_X3_pairs : GoodIn wsX3_foresee wsX3_pairs := goodIn_r _ [113, 24, 122, 123, 124, 125, 126, 127, 128, 129, 130, 131, 132, 133, 134, 135, 136, 137] (by decide +kernel) (by decide +kernel)
set_option maxRecDepth 20000 in
theorem gX3_foresee_X3_pairs : GoodIn wsX3_foresee (wsV RX3 179 RX3 yX3_pairs wsX3_pairs) := goodIn_app (goodIn_of _ (by decide +kernel)) ggX3_foresee_X3_pairs
set_option maxRecDepth 20000 in
theorem ggX3_foresee_X3_bringBack : GoodIn wsX3_foresee wsX3_bringBack := goodIn_r _ [117, 15, 16, 22, 23, 24, 25, 118, 119, 120, 121, 122, 123, 124, 125, 126, 127, 128, 129, 130, 131, 132, 133, 134, 135, 136, 137] (by decide +kernel) (by decide +kernel)
set_option maxRecDepth 20000 in
theorem gX3_foresee_X3_bringBack : GoodIn wsX3_foresee (wsV RX3 182 RX3 yX3_bringBack wsX3_bringBack) := goodIn_app (goodIn_of _ (by decide +kernel)) ggX3_foresee_X3_bringBack
theorem dX3_foresee_0 : decode cX3_foresee 0 = .ok (.aload_n 0, 1) := by decide +kernel
theorem dX3_foresee_1 : decode cX3_foresee 1 = .ok (.iconst 0, 1) := by decide +kernel
theorem dX3_foresee_2 : decode cX3_foresee 2 = .ok (.putfield 47, 3) := by decide +kernel
theorem dX3_foresee_5 : decode cX3_foresee 5 = .ok (.iload_n 1, 1) := by decide +kernel
theorem dX3_foresee_6 : decode cX3_foresee 6 = .ok (.iconst 1, 1) := by decide +kernel
theorem dX3_foresee_7 : decode cX3_foresee 7 = .ok (.sipush 150, 3) := by decide +kernel
theorem dX3_foresee_10 : decode cX3_foresee 10 = .ok (.invokestatic 54, 3) := by decide +kernel
theorem dX3_foresee_13 : decode cX3_foresee 13 = .ok (.ifCond .ne 9, 3) := by decide +kernel
theorem dX3_foresee_16 : decode cX3_foresee 16 = .ok (.aload_n 0, 1) := by decide +kernel
theorem dX3_foresee_17 : decode cX3_foresee 17 = .ok (.iconst 1, 1) := by decide +kernel
theorem dX3_foresee_18 : decode cX3_foresee 18 = .ok (.invokevirtual 68, 3) := by decide +kernel
theorem dX3_foresee_21 : decode cX3_foresee 21 = .ok (.ireturn, 1) := by decide +kernel
theorem dX3_foresee_22 : decode cX3_foresee 22 = .ok (.iload_n 2, 1) := by decide +kernel
theorem dX3_foresee_23 : decode cX3_foresee 23 = .ok (.iconst 0, 1) := by decide +kernel
theorem dX3_foresee_24 : decode cX3_foresee 24 = .ok (.iconst 2, 1) := by decide +kernel
theorem dX3_foresee_25 : decode cX3_foresee 25 = .ok (.invokestatic 54, 3) := by decide +kernel
theorem dX3_foresee_28 : decode cX3_foresee 28 = .ok (.ifCond .ne 9, 3) := by decide +kernel
theorem dX3_foresee_31 : decode cX3_foresee 31 = .ok (.aload_n 0, 1) := by decide +kernel
theorem dX3_foresee_32 : decode cX3_foresee 32 = .ok (.iconst 2, 1) := by decide +kernel
theorem dX3_foresee_33 : decode cX3_foresee 33 = .ok (.invokevirtual 68, 3) := by decide +kernel
theorem dX3_foresee_36 : decode cX3_foresee 36 = .ok (.ireturn, 1) := by decide +kernel
theorem dX3_foresee_37 : decode cX3_foresee 37 = .ok (.aload_n 0, 1) := by decide +kernel
theorem dX3_foresee_38 : decode cX3_foresee 38 = .ok (.getfield 51, 3) := by decide +kernel
theorem dX3_foresee_41 : decode cX3_foresee 41 = .ok (.ifCond .ne 9, 3) := by decide +kernel
theorem dX3_foresee_44 : decode cX3_foresee 44 = .ok (.aload_n 0, 1) := by decide +kernel
theorem dX3_foresee_45 : decode cX3_foresee 45 = .ok (.iconst 3, 1) := by decide +kernel
theorem dX3_foresee_46 : decode cX3_foresee 46 = .ok (.invokevirtual 68, 3) := by decide +kernel
theorem dX3_foresee_49 : decode cX3_foresee 49 = .ok (.ireturn, 1) := by decide +kernel
theorem dX3_foresee_50 : decode cX3_foresee 50 = .ok (.aload_n 0, 1) := by decide +kernel
theorem dX3_foresee_51 : decode cX3_foresee 51 = .ok (.invokevirtual 175, 3) := by decide +kernel
theorem dX3_foresee_54 : decode cX3_foresee 54 = .ok (.astore_n 3, 1) := by decide +kernel
theorem dX3_foresee_55 : decode cX3_foresee 55 = .ok (.iconst 0, 1) := by decide +kernel
theorem dX3_foresee_56 : decode cX3_foresee 56 = .ok (.istore 4, 2) := by decide +kernel
theorem dX3_foresee_58 : decode cX3_foresee 58 = .ok (.iload 4, 2) := by decide +kernel
theorem dX3_foresee_60 : decode cX3_foresee 60 = .ok (.iload_n 1, 1) := by decide +kernel
theorem dX3_foresee_61 : decode cX3_foresee 61 = .ok (.if_icmp .ge 14, 3) := by decide +kernel
theorem dX3_foresee_64 : decode cX3_foresee 64 = .ok (.aload_n 0, 1) := by decide +kernel
theorem dX3_foresee_65 : decode cX3_foresee 65 = .ok (.invokevirtual 157, 3) := by decide +kernel
theorem dX3_foresee_68 : decode cX3_foresee 68 = .ok (.pop, 1) := by decide +kernel
theorem dX3_foresee_69 : decode cX3_foresee 69 = .ok (.iinc 4 1, 3) := by decide +kernel
theorem dX3_foresee_72 : decode cX3_foresee 72 = .ok (.goto (-14), 3) := by decide +kernel
theorem dX3_foresee_75 : decode cX3_foresee 75 = .ok (.iload_n 2, 1) := by decide +kernel
theorem dX3_foresee_76 : decode cX3_foresee 76 = .ok (.ifCond .ne 11, 3) := by decide +kernel
theorem dX3_foresee_79 : decode cX3_foresee 79 = .ok (.aload_n 0, 1) := by decide +kernel
theorem dX3_foresee_80 : decode cX3_foresee 80 = .ok (.iconst 2, 1) := by decide +kernel
theorem dX3_foresee_81 : decode cX3_foresee 81 = .ok (.invokevirtual 144, 3) := by decide +kernel
theorem dX3_foresee_84 : decode cX3_foresee 84 = .ok (.goto 19, 3) := by decide +kernel
theorem dX3_foresee_87 : decode cX3_foresee 87 = .ok (.iload_n 2, 1) := by decide +kernel
theorem dX3_foresee_88 : decode cX3_foresee 88 = .ok (.iconst 1, 1) := by decide +kernel
theorem dX3_foresee_89 : decode cX3_foresee 89 = .ok (.if_icmp .ne 10, 3) := by decide +kernel
theorem dX3_foresee_92 : decode cX3_foresee 92 = .ok (.aload_n 0, 1) := by decide +kernel
theorem dX3_foresee_93 : decode cX3_foresee 93 = .ok (.invokevirtual 160, 3) := by decide +kernel
theorem dX3_foresee_96 : decode cX3_foresee 96 = .ok (.goto 7, 3) := by decide +kernel
theorem dX3_foresee_99 : decode cX3_foresee 99 = .ok (.aload_n 0, 1) := by decide +kernel
theorem dX3_foresee_100 : decode cX3_foresee 100 = .ok (.invokevirtual 179, 3) := by decide +kernel
theorem dX3_foresee_103 : decode cX3_foresee 103 = .ok (.istore 4, 2) := by decide +kernel
theorem dX3_foresee_105 : decode cX3_foresee 105 = .ok (.aload_n 0, 1) := by decide +kernel
theorem dX3_foresee_106 : decode cX3_foresee 106 = .ok (.aload_n 3, 1) := by decide +kernel
theorem dX3_foresee_107 : decode cX3_foresee 107 = .ok (.invokevirtual 182, 3) := by decide +kernel
theorem dX3_foresee_110 : decode cX3_foresee 110 = .ok (.iload 4, 2) := by decide +kernel
theorem dX3_foresee_112 : decode cX3_foresee 112 = .ok (.ireturn, 1) := by decide +kernel
set_option maxRecDepth 20000 in
theorem ggX3_home_X3_isWalker : GoodIn wsX3_home wsX3_isWalker := goodIn_r _ [7, 8, 9, 10, 6, 11, 118, 119, 120, 121, 122, 123, 124, 125, 126, 127, 128, 129, 130, 131, 132, 133] (by decide +kernel) (by decide +kernel)
set_option maxRecDepth 20000 in
theorem gX3_home_X3_isWalker : GoodIn wsX3_home (wsV RX3 86 RX3 yX3_isWalker wsX3_isWalker) := goodIn_app (goodIn_of _ (by decide +kernel)) ggX3_home_X3_isWalker
set_option maxRecDepth 20000 in
theorem ggX3_home_X3_fail : GoodIn wsX3_home wsX3_fail := goodIn_r _ [15, 1, 118, 119, 120, 121, 122, 123, 124, 125, 126, 127, 128, 129, 130, 131, 132, 133] (by decide +kernel) (by decide +kernel)
set_option maxRecDepth 20000 in
theorem gX3_home_X3_fail : GoodIn wsX3_home (wsV RX3 68 RX3 yX3_fail wsX3_fail) := goodIn_app (goodIn_of _ (by decide +kernel)) ggX3_home_X3_fail
set_option maxRecDepth 20000 in
theorem ggX3_home_X3_pe : GoodIn wsX3_home wsX3_pe := goodIn_r _ [19, 20, 118, 119, 120, 121, 122, 123, 124, 125, 126, 127, 128, 129, 130, 131, 132, 133] (by decide +kernel) (by decide +kernel)
set_option maxRecDepth 20000 in
theorem gX3_home_X3_pe : GoodIn wsX3_home (wsV RX3 89 RX3 yX3_pe wsX3_pe) := goodIn_app (goodIn_of _ (by decide +kernel)) ggX3_home_X3_pe
set_option maxRecDepth 20000 in
theorem ggX3_home_X3_kept : GoodIn wsX3_home wsX3_kept := goodIn_r _ [24, 25, 26, 27, 28, 29, 30, 31, 32, 20, 33, 34, 118, 119, 120, 121, 122, 123, 124, 125, 126, 127, 128, 129, 130, 131, 132, 133] (by decide +kernel) (by decide +kernel)
set_option maxRecDepth 20000 in
theorem gX3_home_X3_kept : GoodIn wsX3_home (wsV RX3 175 RX3 yX3_kept wsX3_kept) := goodIn_app (goodIn_of _ (by decide +kernel)) ggX3_home_X3_kept
set_option maxRecDepth 20000 in
theorem ggX3_home_X3_stepOn : GoodIn wsX3_home wsX3_stepOn := goodIn_r _ [38, 39, 34, 40, 8, 41, 42, 43, 44, 45, 6, 46, 16, 17, 18, 19, 20, 47, 48, 49, 50, 51, 52, 53, 54, 55, 56, 57, 58, 59, 60, 61, 62, 63, 64, 65, 66, 67, 68, 69, 70, 71, 72, 73, 74, 75, 76, 77, 78, 79, 80, 33, 81, 82, 83, 84, 85, 86, 87, 88, 89, 26, 90, 91, 92, 93, 94, 95, 96, 97, 98, 99, 100, 101, 2, 102, 103, 104, 105, 106, 107, 108, 109, 32, 118, 119, 120, 121, 122, 123, 124, 125, 126, 127, 128, 129, 130, 131, 132, 133] (by decide +kernel) (by decide +kernel)
set_option maxRecDepth 20000 in
theorem gX3_home_X3_stepOn : GoodIn wsX3_home (wsV RX3 157 RX3 yX3_stepOn wsX3_stepOn) := goodIn_app (goodIn_of _ (by decide +kernel)) ggX3_home_X3_stepOn
set_option maxRecDepth 20000 in
theorem ggX3_home_X3_bringBack : GoodIn wsX3_home wsX3_bringBack := goodIn_r _ [113, 25, 26, 32, 20, 33, 34, 114, 115, 116, 117, 118, 119, 120, 121, 122, 123, 124, 125, 126, 127, 128, 129, 130, 131, 132, 133] (by decide +kernel) (by decide +kernel)
set_option maxRecDepth 20000 in
theorem gX3_home_X3_bringBack : GoodIn wsX3_home (wsV RX3 182 RX3 yX3_bringBack wsX3_bringBack) := goodIn_app (goodIn_of _ (by decide +kernel)) ggX3_home_X3_bringBack
theorem dX3_home_0 : decode cX3_home 0 = .ok (.aload_n 0, 1) := by decide +kernel
theorem dX3_home_1 : decode cX3_home 1 = .ok (.iconst 0, 1) := by decide +kernel
theorem dX3_home_2 : decode cX3_home 2 = .ok (.putfield 47, 3) := by decide +kernel
theorem dX3_home_5 : decode cX3_home 5 = .ok (.aload_n 0, 1) := by decide +kernel
theorem dX3_home_6 : decode cX3_home 6 = .ok (.iload_n 1, 1) := by decide +kernel
theorem dX3_home_7 : decode cX3_home 7 = .ok (.invokevirtual 86, 3) := by decide +kernel
theorem dX3_home_10 : decode cX3_home 10 = .ok (.ifCond .ne 9, 3) := by decide +kernel
theorem dX3_home_13 : decode cX3_home 13 = .ok (.aload_n 0, 1) := by decide +kernel
theorem dX3_home_14 : decode cX3_home 14 = .ok (.iconst 1, 1) := by decide +kernel
theorem dX3_home_15 : decode cX3_home 15 = .ok (.invokevirtual 68, 3) := by decide +kernel
theorem dX3_home_18 : decode cX3_home 18 = .ok (.ireturn, 1) := by decide +kernel
theorem dX3_home_19 : decode cX3_home 19 = .ok (.aload_n 0, 1) := by decide +kernel
theorem dX3_home_20 : decode cX3_home 20 = .ok (.iload_n 1, 1) := by decide +kernel
theorem dX3_home_21 : decode cX3_home 21 = .ok (.iconst 4, 1) := by decide +kernel
theorem dX3_home_22 : decode cX3_home 22 = .ok (.invokevirtual 89, 3) := by decide +kernel
theorem dX3_home_25 : decode cX3_home 25 = .ok (.iconst 2, 1) := by decide +kernel
theorem dX3_home_26 : decode cX3_home 26 = .ok (.if_icmp .ne 5, 3) := by decide +kernel
theorem dX3_home_29 : decode cX3_home 29 = .ok (.iconst 0, 1) := by decide +kernel
theorem dX3_home_30 : decode cX3_home 30 = .ok (.ireturn, 1) := by decide +kernel
theorem dX3_home_31 : decode cX3_home 31 = .ok (.aload_n 0, 1) := by decide +kernel
theorem dX3_home_32 : decode cX3_home 32 = .ok (.getfield 51, 3) := by decide +kernel
theorem dX3_home_35 : decode cX3_home 35 = .ok (.ifCond .ne 5, 3) := by decide +kernel
theorem dX3_home_38 : decode cX3_home 38 = .ok (.iconst (-1), 1) := by decide +kernel
theorem dX3_home_39 : decode cX3_home 39 = .ok (.ireturn, 1) := by decide +kernel
theorem dX3_home_40 : decode cX3_home 40 = .ok (.aload_n 0, 1) := by decide +kernel
theorem dX3_home_41 : decode cX3_home 41 = .ok (.invokevirtual 175, 3) := by decide +kernel
theorem dX3_home_44 : decode cX3_home 44 = .ok (.astore_n 2, 1) := by decide +kernel
theorem dX3_home_45 : decode cX3_home 45 = .ok (.iconst 0, 1) := by decide +kernel
theorem dX3_home_46 : decode cX3_home 46 = .ok (.istore_n 3, 1) := by decide +kernel
theorem dX3_home_47 : decode cX3_home 47 = .ok (.iload_n 3, 1) := by decide +kernel
theorem dX3_home_48 : decode cX3_home 48 = .ok (.sipush 300, 3) := by decide +kernel
theorem dX3_home_51 : decode cX3_home 51 = .ok (.if_icmp .ge 24, 3) := by decide +kernel
theorem dX3_home_54 : decode cX3_home 54 = .ok (.aload_n 0, 1) := by decide +kernel
theorem dX3_home_55 : decode cX3_home 55 = .ok (.iload_n 1, 1) := by decide +kernel
theorem dX3_home_56 : decode cX3_home 56 = .ok (.iconst 4, 1) := by decide +kernel
theorem dX3_home_57 : decode cX3_home 57 = .ok (.invokevirtual 89, 3) := by decide +kernel
theorem dX3_home_60 : decode cX3_home 60 = .ok (.iconst 2, 1) := by decide +kernel
theorem dX3_home_61 : decode cX3_home 61 = .ok (.if_icmp .eq 14, 3) := by decide +kernel
theorem dX3_home_64 : decode cX3_home 64 = .ok (.aload_n 0, 1) := by decide +kernel
theorem dX3_home_65 : decode cX3_home 65 = .ok (.invokevirtual 157, 3) := by decide +kernel
theorem dX3_home_68 : decode cX3_home 68 = .ok (.pop, 1) := by decide +kernel
theorem dX3_home_69 : decode cX3_home 69 = .ok (.iinc 3 1, 3) := by decide +kernel
theorem dX3_home_72 : decode cX3_home 72 = .ok (.goto (-25), 3) := by decide +kernel
theorem dX3_home_75 : decode cX3_home 75 = .ok (.aload_n 0, 1) := by decide +kernel
theorem dX3_home_76 : decode cX3_home 76 = .ok (.iload_n 1, 1) := by decide +kernel
theorem dX3_home_77 : decode cX3_home 77 = .ok (.iconst 4, 1) := by decide +kernel
theorem dX3_home_78 : decode cX3_home 78 = .ok (.invokevirtual 89, 3) := by decide +kernel
theorem dX3_home_81 : decode cX3_home 81 = .ok (.iconst 2, 1) := by decide +kernel
theorem dX3_home_82 : decode cX3_home 82 = .ok (.if_icmp .eq 5, 3) := by decide +kernel
theorem dX3_home_85 : decode cX3_home 85 = .ok (.iconst (-1), 1) := by decide +kernel
theorem dX3_home_86 : decode cX3_home 86 = .ok (.istore_n 3, 1) := by decide +kernel
theorem dX3_home_87 : decode cX3_home 87 = .ok (.aload_n 0, 1) := by decide +kernel
theorem dX3_home_88 : decode cX3_home 88 = .ok (.aload_n 2, 1) := by decide +kernel
theorem dX3_home_89 : decode cX3_home 89 = .ok (.invokevirtual 182, 3) := by decide +kernel
theorem dX3_home_92 : decode cX3_home 92 = .ok (.iload_n 3, 1) := by decide +kernel
theorem dX3_home_93 : decode cX3_home 93 = .ok (.ireturn, 1) := by decide +kernel
set_option maxRecDepth 20000 in
theorem ggX3_hears_X3_isWalker : GoodIn wsX3_hears wsX3_isWalker := goodIn_r _ [8, 9, 10, 11, 7, 12, 122, 123, 124, 125, 126, 127, 128, 129, 130, 131, 132, 133, 134, 135, 136, 137] (by decide +kernel) (by decide +kernel)
set_option maxRecDepth 20000 in
theorem gX3_hears_X3_isWalker : GoodIn wsX3_hears (wsV RX3 86 RX3 yX3_isWalker wsX3_isWalker) := goodIn_app (goodIn_of _ (by decide +kernel)) ggX3_hears_X3_isWalker
set_option maxRecDepth 20000 in
theorem ggX3_hears_X3_isSong : GoodIn wsX3_hears wsX3_isSong := goodIn_r _ [16, 17, 10, 11, 7, 12, 122, 123, 124, 125, 126, 127, 128, 129, 130, 131, 132, 133, 134, 135, 136, 137] (by decide +kernel) (by decide +kernel)
set_option maxRecDepth 20000 in
theorem gX3_hears_X3_isSong : GoodIn wsX3_hears (wsV RX3 101 RX3 yX3_isSong wsX3_isSong) := goodIn_app (goodIn_of _ (by decide +kernel)) ggX3_hears_X3_isSong
set_option maxRecDepth 20000 in
theorem ggX3_hears_X3_fail : GoodIn wsX3_hears wsX3_fail := goodIn_r _ [21, 1, 122, 123, 124, 125, 126, 127, 128, 129, 130, 131, 132, 133, 134, 135, 136, 137] (by decide +kernel) (by decide +kernel)
set_option maxRecDepth 20000 in
theorem gX3_hears_X3_fail : GoodIn wsX3_hears (wsV RX3 68 RX3 yX3_fail wsX3_fail) := goodIn_app (goodIn_of _ (by decide +kernel)) ggX3_hears_X3_fail
set_option maxRecDepth 20000 in
theorem ggX3_hears_X3_kept : GoodIn wsX3_hears wsX3_kept := goodIn_r _ [25, 26, 27, 28, 29, 30, 31, 32, 33, 34, 2, 35, 122, 123, 124, 125, 126, 127, 128, 129, 130, 131, 132, 133, 134, 135, 136, 137] (by decide +kernel) (by decide +kernel)
set_option maxRecDepth 20000 in
theorem gX3_hears_X3_kept : GoodIn wsX3_hears (wsV RX3 175 RX3 yX3_kept wsX3_kept) := goodIn_app (goodIn_of _ (by decide +kernel)) ggX3_hears_X3_kept
set_option maxRecDepth 20000 in
theorem ggX3_hears_X3_stepOn : GoodIn wsX3_hears wsX3_stepOn := goodIn_r _ [39, 40, 35, 41, 9, 42, 43, 44, 45, 46, 7, 47, 48, 49, 50, 51, 34, 52, 53, 54, 55, 56, 57, 58, 59, 60, 61, 62, 63, 64, 65, 66, 67, 68, 69, 70, 71, 72, 73, 74, 75, 76, 77, 78, 79, 80, 81, 82, 83, 17, 84, 2, 85, 86, 87, 88, 89, 90, 91, 92, 93, 27, 94, 95, 96, 97, 98, 99, 100, 101, 102, 103, 104, 105, 3, 106, 107, 108, 109, 110, 111, 112, 113, 33, 122, 123, 124, 125, 126, 127, 128, 129, 130, 131, 132, 133, 134, 135, 136, 137] (by decide +kernel) (by decide +kernel)
set_option maxRecDepth 20000 in
theorem gX3_hears_X3_stepOn : GoodIn wsX3_hears (wsV RX3 157 RX3 yX3_stepOn wsX3_stepOn) := goodIn_app (goodIn_of _ (by decide +kernel)) ggX3_hears_X3_stepOn
set_option maxRecDepth 20000 in
theorem ggX3_hears_X3_bringBack : GoodIn wsX3_hears wsX3_bringBack := goodIn_r _ [117, 26, 27, 33, 34, 2, 35, 118, 119, 120, 121, 122, 123, 124, 125, 126, 127, 128, 129, 130, 131, 132, 133, 134, 135, 136, 137] (by decide +kernel) (by decide +kernel)
set_option maxRecDepth 20000 in
theorem gX3_hears_X3_bringBack : GoodIn wsX3_hears (wsV RX3 182 RX3 yX3_bringBack wsX3_bringBack) := goodIn_app (goodIn_of _ (by decide +kernel)) ggX3_hears_X3_bringBack
theorem dX3_hears_0 : decode cX3_hears 0 = .ok (.aload_n 0, 1) := by decide +kernel
theorem dX3_hears_1 : decode cX3_hears 1 = .ok (.iconst 0, 1) := by decide +kernel
theorem dX3_hears_2 : decode cX3_hears 2 = .ok (.putfield 47, 3) := by decide +kernel
theorem dX3_hears_5 : decode cX3_hears 5 = .ok (.aload_n 0, 1) := by decide +kernel
theorem dX3_hears_6 : decode cX3_hears 6 = .ok (.iload_n 1, 1) := by decide +kernel
theorem dX3_hears_7 : decode cX3_hears 7 = .ok (.invokevirtual 86, 3) := by decide +kernel
theorem dX3_hears_10 : decode cX3_hears 10 = .ok (.ifCond .eq 11, 3) := by decide +kernel
theorem dX3_hears_13 : decode cX3_hears 13 = .ok (.aload_n 0, 1) := by decide +kernel
theorem dX3_hears_14 : decode cX3_hears 14 = .ok (.iload_n 2, 1) := by decide +kernel
theorem dX3_hears_15 : decode cX3_hears 15 = .ok (.invokevirtual 101, 3) := by decide +kernel
theorem dX3_hears_18 : decode cX3_hears 18 = .ok (.ifCond .ne 9, 3) := by decide +kernel
theorem dX3_hears_21 : decode cX3_hears 21 = .ok (.aload_n 0, 1) := by decide +kernel
theorem dX3_hears_22 : decode cX3_hears 22 = .ok (.iconst 1, 1) := by decide +kernel
theorem dX3_hears_23 : decode cX3_hears 23 = .ok (.invokevirtual 68, 3) := by decide +kernel
theorem dX3_hears_26 : decode cX3_hears 26 = .ok (.ireturn, 1) := by decide +kernel
theorem dX3_hears_27 : decode cX3_hears 27 = .ok (.bipush 6, 2) := by decide +kernel
theorem dX3_hears_29 : decode cX3_hears 29 = .ok (.iload_n 1, 1) := by decide +kernel
theorem dX3_hears_30 : decode cX3_hears 30 = .ok (.imul, 1) := by decide +kernel
theorem dX3_hears_31 : decode cX3_hears 31 = .ok (.iload_n 2, 1) := by decide +kernel
theorem dX3_hears_32 : decode cX3_hears 32 = .ok (.iadd, 1) := by decide +kernel
theorem dX3_hears_33 : decode cX3_hears 33 = .ok (.istore_n 3, 1) := by decide +kernel
theorem dX3_hears_34 : decode cX3_hears 34 = .ok (.aload_n 0, 1) := by decide +kernel
theorem dX3_hears_35 : decode cX3_hears 35 = .ok (.getfield 25, 3) := by decide +kernel
theorem dX3_hears_38 : decode cX3_hears 38 = .ok (.iload_n 3, 1) := by decide +kernel
theorem dX3_hears_39 : decode cX3_hears 39 = .ok (.iaload, 1) := by decide +kernel
theorem dX3_hears_40 : decode cX3_hears 40 = .ok (.ifCond .le 5, 3) := by decide +kernel
theorem dX3_hears_43 : decode cX3_hears 43 = .ok (.iconst 0, 1) := by decide +kernel
theorem dX3_hears_44 : decode cX3_hears 44 = .ok (.ireturn, 1) := by decide +kernel
theorem dX3_hears_45 : decode cX3_hears 45 = .ok (.aload_n 0, 1) := by decide +kernel
theorem dX3_hears_46 : decode cX3_hears 46 = .ok (.getfield 51, 3) := by decide +kernel
theorem dX3_hears_49 : decode cX3_hears 49 = .ok (.ifCond .ne 5, 3) := by decide +kernel
theorem dX3_hears_52 : decode cX3_hears 52 = .ok (.iconst (-1), 1) := by decide +kernel
theorem dX3_hears_53 : decode cX3_hears 53 = .ok (.ireturn, 1) := by decide +kernel
theorem dX3_hears_54 : decode cX3_hears 54 = .ok (.aload_n 0, 1) := by decide +kernel
theorem dX3_hears_55 : decode cX3_hears 55 = .ok (.invokevirtual 175, 3) := by decide +kernel
theorem dX3_hears_58 : decode cX3_hears 58 = .ok (.astore 4, 2) := by decide +kernel
theorem dX3_hears_60 : decode cX3_hears 60 = .ok (.iconst 0, 1) := by decide +kernel
theorem dX3_hears_61 : decode cX3_hears 61 = .ok (.istore 5, 2) := by decide +kernel
theorem dX3_hears_63 : decode cX3_hears 63 = .ok (.iload 5, 2) := by decide +kernel
theorem dX3_hears_65 : decode cX3_hears 65 = .ok (.sipush 150, 3) := by decide +kernel
theorem dX3_hears_68 : decode cX3_hears 68 = .ok (.if_icmp .ge 23, 3) := by decide +kernel
theorem dX3_hears_71 : decode cX3_hears 71 = .ok (.aload_n 0, 1) := by decide +kernel
theorem dX3_hears_72 : decode cX3_hears 72 = .ok (.getfield 25, 3) := by decide +kernel
theorem dX3_hears_75 : decode cX3_hears 75 = .ok (.iload_n 3, 1) := by decide +kernel
theorem dX3_hears_76 : decode cX3_hears 76 = .ok (.iaload, 1) := by decide +kernel
theorem dX3_hears_77 : decode cX3_hears 77 = .ok (.ifCond .ne 14, 3) := by decide +kernel
theorem dX3_hears_80 : decode cX3_hears 80 = .ok (.aload_n 0, 1) := by decide +kernel
theorem dX3_hears_81 : decode cX3_hears 81 = .ok (.invokevirtual 157, 3) := by decide +kernel
theorem dX3_hears_84 : decode cX3_hears 84 = .ok (.pop, 1) := by decide +kernel
theorem dX3_hears_85 : decode cX3_hears 85 = .ok (.iinc 5 1, 3) := by decide +kernel
theorem dX3_hears_88 : decode cX3_hears 88 = .ok (.goto (-25), 3) := by decide +kernel
theorem dX3_hears_91 : decode cX3_hears 91 = .ok (.aload_n 0, 1) := by decide +kernel
theorem dX3_hears_92 : decode cX3_hears 92 = .ok (.getfield 25, 3) := by decide +kernel
theorem dX3_hears_95 : decode cX3_hears 95 = .ok (.iload_n 3, 1) := by decide +kernel
theorem dX3_hears_96 : decode cX3_hears 96 = .ok (.iaload, 1) := by decide +kernel
theorem dX3_hears_97 : decode cX3_hears 97 = .ok (.ifCond .ne 6, 3) := by decide +kernel
theorem dX3_hears_100 : decode cX3_hears 100 = .ok (.iconst (-1), 1) := by decide +kernel
theorem dX3_hears_101 : decode cX3_hears 101 = .ok (.istore 5, 2) := by decide +kernel
theorem dX3_hears_103 : decode cX3_hears 103 = .ok (.aload_n 0, 1) := by decide +kernel
theorem dX3_hears_104 : decode cX3_hears 104 = .ok (.aload 4, 2) := by decide +kernel
theorem dX3_hears_106 : decode cX3_hears 106 = .ok (.invokevirtual 182, 3) := by decide +kernel
theorem dX3_hears_109 : decode cX3_hears 109 = .ok (.iload 5, 2) := by decide +kernel
theorem dX3_hears_111 : decode cX3_hears 111 = .ok (.ireturn, 1) := by decide +kernel
set_option maxRecDepth 20000 in
theorem ggX3_advise_X3_isIn : GoodIn wsX3_advise wsX3_isIn := goodIn_r _ [7] (by decide +kernel) (by decide +kernel)
set_option maxRecDepth 20000 in
theorem gX3_advise_X3_isIn : GoodIn wsX3_advise (va_wsS RX3 54 yX3_isIn wsX3_isIn) := goodIn_app (goodIn_of _ (by decide +kernel)) ggX3_advise_X3_isIn
set_option maxRecDepth 20000 in
theorem ggX3_advise_X3_fail : GoodIn wsX3_advise wsX3_fail := goodIn_r _ [11, 1, 114, 115, 116, 117, 118, 119, 120, 121, 122, 123, 124, 125, 126, 127, 128, 129] (by decide +kernel) (by decide +kernel)
set_option maxRecDepth 20000 in
theorem gX3_advise_X3_fail : GoodIn wsX3_advise (wsV RX3 68 RX3 yX3_fail wsX3_fail) := goodIn_app (goodIn_of _ (by decide +kernel)) ggX3_advise_X3_fail
set_option maxRecDepth 20000 in
theorem ggX3_advise_X3_kept : GoodIn wsX3_advise wsX3_kept := goodIn_r _ [15, 16, 17, 18, 19, 20, 21, 22, 3, 23, 24, 25, 114, 115, 116, 117, 118, 119, 120, 121, 122, 123, 124, 125, 126, 127, 128, 129] (by decide +kernel) (by decide +kernel)
set_option maxRecDepth 20000 in
theorem gX3_advise_X3_kept : GoodIn wsX3_advise (wsV RX3 175 RX3 yX3_kept wsX3_kept) := goodIn_app (goodIn_of _ (by decide +kernel)) ggX3_advise_X3_kept
set_option maxRecDepth 20000 in
theorem ggX3_advise_X3_stepOn : GoodIn wsX3_advise wsX3_stepOn := goodIn_r _ [29, 30, 25, 31, 32, 33, 34, 35, 36, 37, 6, 38, 39, 40, 41, 42, 23, 43, 44, 45, 46, 47, 48, 49, 50, 51, 52, 53, 54, 55, 56, 57, 58, 59, 60, 61, 62, 63, 64, 65, 66, 67, 68, 69, 70, 71, 72, 73, 74, 75, 76, 24, 77, 78, 79, 80, 81, 82, 83, 84, 85, 17, 86, 87, 88, 89, 90, 91, 92, 93, 94, 95, 96, 97, 2, 98, 99, 100, 101, 102, 103, 104, 105, 3, 114, 115, 116, 117, 118, 119, 120, 121, 122, 123, 124, 125, 126, 127, 128, 129] (by decide +kernel) (by decide +kernel)
set_option maxRecDepth 20000 in
theorem gX3_advise_X3_stepOn : GoodIn wsX3_advise (wsV RX3 157 RX3 yX3_stepOn wsX3_stepOn) := goodIn_app (goodIn_of _ (by decide +kernel)) ggX3_advise_X3_stepOn
set_option maxRecDepth 20000 in
theorem ggX3_advise_X3_inState : GoodIn wsX3_advise wsX3_inState := goodIn_r _ [38, 32, 39, 40, 41, 6, 42, 23, 114, 115, 116, 117, 118, 119, 120, 121, 122, 123, 124, 125, 126, 127, 128, 129] (by decide +kernel) (by decide +kernel)
set_option maxRecDepth 20000 in
theorem gX3_advise_X3_inState : GoodIn wsX3_advise (wsV RX3 144 RX3 yX3_inState wsX3_inState) := goodIn_app (goodIn_of _ (by decide +kernel)) ggX3_advise_X3_inState
set_option maxRecDepth 20000 in
theorem ggX3_advise_X3_bringBack : GoodIn wsX3_advise wsX3_bringBack := goodIn_r _ [109, 16, 17, 3, 23, 24, 25, 110, 111, 112, 113, 114, 115, 116, 117, 118, 119, 120, 121, 122, 123, 124, 125, 126, 127, 128, 129] (by decide +kernel) (by decide +kernel)
set_option maxRecDepth 20000 in
theorem gX3_advise_X3_bringBack : GoodIn wsX3_advise (wsV RX3 182 RX3 yX3_bringBack wsX3_bringBack) := goodIn_app (goodIn_of _ (by decide +kernel)) ggX3_advise_X3_bringBack
theorem dX3_advise_0 : decode cX3_advise 0 = .ok (.aload_n 0, 1) := by decide +kernel
theorem dX3_advise_1 : decode cX3_advise 1 = .ok (.iconst 0, 1) := by decide +kernel
theorem dX3_advise_2 : decode cX3_advise 2 = .ok (.putfield 47, 3) := by decide +kernel
theorem dX3_advise_5 : decode cX3_advise 5 = .ok (.iload_n 1, 1) := by decide +kernel
theorem dX3_advise_6 : decode cX3_advise 6 = .ok (.iconst 0, 1) := by decide +kernel
theorem dX3_advise_7 : decode cX3_advise 7 = .ok (.iconst 1, 1) := by decide +kernel
theorem dX3_advise_8 : decode cX3_advise 8 = .ok (.invokestatic 54, 3) := by decide +kernel
theorem dX3_advise_11 : decode cX3_advise 11 = .ok (.ifCond .ne 9, 3) := by decide +kernel
theorem dX3_advise_14 : decode cX3_advise 14 = .ok (.aload_n 0, 1) := by decide +kernel
theorem dX3_advise_15 : decode cX3_advise 15 = .ok (.iconst 1, 1) := by decide +kernel
theorem dX3_advise_16 : decode cX3_advise 16 = .ok (.invokevirtual 68, 3) := by decide +kernel
theorem dX3_advise_19 : decode cX3_advise 19 = .ok (.ireturn, 1) := by decide +kernel
theorem dX3_advise_20 : decode cX3_advise 20 = .ok (.iload_n 2, 1) := by decide +kernel
theorem dX3_advise_21 : decode cX3_advise 21 = .ok (.iconst 1, 1) := by decide +kernel
theorem dX3_advise_22 : decode cX3_advise 22 = .ok (.bipush 100, 2) := by decide +kernel
theorem dX3_advise_24 : decode cX3_advise 24 = .ok (.invokestatic 54, 3) := by decide +kernel
theorem dX3_advise_27 : decode cX3_advise 27 = .ok (.ifCond .ne 9, 3) := by decide +kernel
theorem dX3_advise_30 : decode cX3_advise 30 = .ok (.aload_n 0, 1) := by decide +kernel
theorem dX3_advise_31 : decode cX3_advise 31 = .ok (.iconst 2, 1) := by decide +kernel
theorem dX3_advise_32 : decode cX3_advise 32 = .ok (.invokevirtual 68, 3) := by decide +kernel
theorem dX3_advise_35 : decode cX3_advise 35 = .ok (.ireturn, 1) := by decide +kernel
theorem dX3_advise_36 : decode cX3_advise 36 = .ok (.aload_n 0, 1) := by decide +kernel
theorem dX3_advise_37 : decode cX3_advise 37 = .ok (.getfield 51, 3) := by decide +kernel
theorem dX3_advise_40 : decode cX3_advise 40 = .ok (.ifCond .ne 9, 3) := by decide +kernel
theorem dX3_advise_43 : decode cX3_advise 43 = .ok (.aload_n 0, 1) := by decide +kernel
theorem dX3_advise_44 : decode cX3_advise 44 = .ok (.iconst 3, 1) := by decide +kernel
theorem dX3_advise_45 : decode cX3_advise 45 = .ok (.invokevirtual 68, 3) := by decide +kernel
theorem dX3_advise_48 : decode cX3_advise 48 = .ok (.ireturn, 1) := by decide +kernel
theorem dX3_advise_49 : decode cX3_advise 49 = .ok (.aload_n 0, 1) := by decide +kernel
theorem dX3_advise_50 : decode cX3_advise 50 = .ok (.invokevirtual 175, 3) := by decide +kernel
theorem dX3_advise_53 : decode cX3_advise 53 = .ok (.astore_n 3, 1) := by decide +kernel
theorem dX3_advise_54 : decode cX3_advise 54 = .ok (.iconst (-1), 1) := by decide +kernel
theorem dX3_advise_55 : decode cX3_advise 55 = .ok (.istore 4, 2) := by decide +kernel
theorem dX3_advise_57 : decode cX3_advise 57 = .ok (.iconst (-1), 1) := by decide +kernel
theorem dX3_advise_58 : decode cX3_advise 58 = .ok (.istore 5, 2) := by decide +kernel
theorem dX3_advise_60 : decode cX3_advise 60 = .ok (.iconst (-1), 1) := by decide +kernel
theorem dX3_advise_61 : decode cX3_advise 61 = .ok (.istore 6, 2) := by decide +kernel
theorem dX3_advise_63 : decode cX3_advise 63 = .ok (.iload 6, 2) := by decide +kernel
theorem dX3_advise_65 : decode cX3_advise 65 = .ok (.aload_n 0, 1) := by decide +kernel
theorem dX3_advise_66 : decode cX3_advise 66 = .ok (.getfield 51, 3) := by decide +kernel
theorem dX3_advise_69 : decode cX3_advise 69 = .ok (.if_icmp .ge 67, 3) := by decide +kernel
theorem dX3_advise_72 : decode cX3_advise 72 = .ok (.aload_n 0, 1) := by decide +kernel
theorem dX3_advise_73 : decode cX3_advise 73 = .ok (.getfield 13, 3) := by decide +kernel
theorem dX3_advise_76 : decode cX3_advise 76 = .ok (.iload_n 1, 1) := by decide +kernel
theorem dX3_advise_77 : decode cX3_advise 77 = .ok (.iload 6, 2) := by decide +kernel
theorem dX3_advise_79 : decode cX3_advise 79 = .ok (.iastore, 1) := by decide +kernel
theorem dX3_advise_80 : decode cX3_advise 80 = .ok (.iconst 0, 1) := by decide +kernel
theorem dX3_advise_81 : decode cX3_advise 81 = .ok (.istore 7, 2) := by decide +kernel
theorem dX3_advise_83 : decode cX3_advise 83 = .ok (.iload 7, 2) := by decide +kernel
theorem dX3_advise_85 : decode cX3_advise 85 = .ok (.iload_n 2, 1) := by decide +kernel
theorem dX3_advise_86 : decode cX3_advise 86 = .ok (.if_icmp .ge 14, 3) := by decide +kernel
theorem dX3_advise_89 : decode cX3_advise 89 = .ok (.aload_n 0, 1) := by decide +kernel
theorem dX3_advise_90 : decode cX3_advise 90 = .ok (.invokevirtual 157, 3) := by decide +kernel
theorem dX3_advise_93 : decode cX3_advise 93 = .ok (.pop, 1) := by decide +kernel
theorem dX3_advise_94 : decode cX3_advise 94 = .ok (.iinc 7 1, 3) := by decide +kernel
theorem dX3_advise_97 : decode cX3_advise 97 = .ok (.goto (-14), 3) := by decide +kernel
theorem dX3_advise_100 : decode cX3_advise 100 = .ok (.aload_n 0, 1) := by decide +kernel
theorem dX3_advise_101 : decode cX3_advise 101 = .ok (.iconst 2, 1) := by decide +kernel
theorem dX3_advise_102 : decode cX3_advise 102 = .ok (.invokevirtual 144, 3) := by decide +kernel
theorem dX3_advise_105 : decode cX3_advise 105 = .ok (.istore 7, 2) := by decide +kernel
theorem dX3_advise_107 : decode cX3_advise 107 = .ok (.aload_n 0, 1) := by decide +kernel
theorem dX3_advise_108 : decode cX3_advise 108 = .ok (.aload_n 3, 1) := by decide +kernel
theorem dX3_advise_109 : decode cX3_advise 109 = .ok (.invokevirtual 182, 3) := by decide +kernel
theorem dX3_advise_112 : decode cX3_advise 112 = .ok (.iload 7, 2) := by decide +kernel
theorem dX3_advise_114 : decode cX3_advise 114 = .ok (.iload 5, 2) := by decide +kernel
theorem dX3_advise_116 : decode cX3_advise 116 = .ok (.if_icmp .gt 6, 3) := by decide +kernel
theorem dX3_advise_119 : decode cX3_advise 119 = .ok (.goto 11, 3) := by decide +kernel
theorem dX3_advise_122 : decode cX3_advise 122 = .ok (.iload 6, 2) := by decide +kernel
theorem dX3_advise_124 : decode cX3_advise 124 = .ok (.istore 4, 2) := by decide +kernel
theorem dX3_advise_126 : decode cX3_advise 126 = .ok (.iload 7, 2) := by decide +kernel
theorem dX3_advise_128 : decode cX3_advise 128 = .ok (.istore 5, 2) := by decide +kernel
theorem dX3_advise_130 : decode cX3_advise 130 = .ok (.iinc 6 1, 3) := by decide +kernel
theorem dX3_advise_133 : decode cX3_advise 133 = .ok (.goto (-70), 3) := by decide +kernel
theorem dX3_advise_136 : decode cX3_advise 136 = .ok (.iload 4, 2) := by decide +kernel
theorem dX3_advise_138 : decode cX3_advise 138 = .ok (.ireturn, 1) := by decide +kernel
set_option maxRecDepth 20000 in
theorem ggX3_light_X3_inState : GoodIn wsX3_light wsX3_inState := goodIn_r _ [6, 7, 8, 9, 10, 5, 11, 12, 21, 22, 23, 24, 25, 26, 27, 28, 29, 30, 31, 32, 33, 34, 35, 36] (by decide +kernel) (by decide +kernel)
set_option maxRecDepth 20000 in
theorem gX3_light_X3_inState : GoodIn wsX3_light (wsV RX3 144 RX3 yX3_inState wsX3_inState) := goodIn_app (goodIn_of _ (by decide +kernel)) ggX3_light_X3_inState
set_option maxRecDepth 20000 in
theorem ggX3_light_X3_burning : GoodIn wsX3_light wsX3_burning := goodIn_r _ [16, 7, 17, 18, 19, 5, 20, 8, 9, 10, 11, 12, 21, 22, 23, 24, 25, 26, 27, 28, 29, 30, 31, 32, 33, 34, 35, 36] (by decide +kernel) (by decide +kernel)
set_option maxRecDepth 20000 in
theorem gX3_light_X3_burning : GoodIn wsX3_light (wsV RX3 160 RX3 yX3_burning wsX3_burning) := goodIn_app (goodIn_of _ (by decide +kernel)) ggX3_light_X3_burning
theorem dX3_light_0 : decode cX3_light 0 = .ok (.aload_n 0, 1) := by decide +kernel
theorem dX3_light_1 : decode cX3_light 1 = .ok (.iconst 0, 1) := by decide +kernel
theorem dX3_light_2 : decode cX3_light 2 = .ok (.putfield 47, 3) := by decide +kernel
theorem dX3_light_5 : decode cX3_light 5 = .ok (.aload_n 0, 1) := by decide +kernel
theorem dX3_light_6 : decode cX3_light 6 = .ok (.iconst 1, 1) := by decide +kernel
theorem dX3_light_7 : decode cX3_light 7 = .ok (.invokevirtual 144, 3) := by decide +kernel
theorem dX3_light_10 : decode cX3_light 10 = .ok (.ifCond .ne 7, 3) := by decide +kernel
theorem dX3_light_13 : decode cX3_light 13 = .ok (.dconst 0, 1) := by decide +kernel
theorem dX3_light_14 : decode cX3_light 14 = .ok (.goto 15, 3) := by decide +kernel
theorem dX3_light_17 : decode cX3_light 17 = .ok (.aload_n 0, 1) := by decide +kernel
theorem dX3_light_18 : decode cX3_light 18 = .ok (.invokevirtual 160, 3) := by decide +kernel
theorem dX3_light_21 : decode cX3_light 21 = .ok (.i2d, 1) := by decide +kernel
theorem dX3_light_22 : decode cX3_light 22 = .ok (.aload_n 0, 1) := by decide +kernel
theorem dX3_light_23 : decode cX3_light 23 = .ok (.iconst 1, 1) := by decide +kernel
theorem dX3_light_24 : decode cX3_light 24 = .ok (.invokevirtual 144, 3) := by decide +kernel
theorem dX3_light_27 : decode cX3_light 27 = .ok (.i2d, 1) := by decide +kernel
theorem dX3_light_28 : decode cX3_light 28 = .ok (.ddiv, 1) := by decide +kernel
theorem dX3_light_29 : decode cX3_light 29 = .ok (.dreturn, 1) := by decide +kernel
set_option maxRecDepth 20000 in
theorem ggX3_digest_X3_counted : GoodIn wsX3_digest wsX3_counted := goodIn_r _ [14, 15, 5, 6, 7, 16, 17, 18, 13, 19, 20, 21, 22, 23, 24, 25, 26, 27, 28, 29, 30, 31, 32, 33, 34, 35, 36, 37, 38, 39, 40, 41, 42, 43, 44, 45, 75, 76, 77, 78, 79, 80, 81, 82, 83, 84, 85, 86, 87, 88, 89, 90] (by decide +kernel) (by decide +kernel)
set_option maxRecDepth 20000 in
theorem gX3_digest_X3_counted : GoodIn wsX3_digest (wsV RX3 167 RX3 yX3_counted wsX3_counted) := goodIn_app (goodIn_of _ (by decide +kernel)) ggX3_digest_X3_counted
set_option maxRecDepth 20000 in
theorem ggX3_digest_X3_stretchTold : GoodIn wsX3_digest wsX3_stretchTold := goodIn_r _ [49, 6, 20, 21, 22, 13, 23, 24, 50, 51, 52, 53, 54, 38, 39, 40, 41, 29, 30, 31, 32, 33, 55, 56, 57, 58, 75, 76, 77, 78, 79, 80, 81, 82, 83, 84, 85, 86, 87, 88, 89, 90] (by decide +kernel) (by decide +kernel)
set_option maxRecDepth 20000 in
theorem gX3_digest_X3_stretchTold : GoodIn wsX3_digest (wsV RX3 113 RX3 yX3_stretchTold wsX3_stretchTold) := goodIn_app (goodIn_of _ (by decide +kernel)) ggX3_digest_X3_stretchTold
set_option maxRecDepth 20000 in
theorem ggX3_digest_X3_walkerTold : GoodIn wsX3_digest wsX3_walkerTold := goodIn_r _ [62, 29, 30, 31, 13, 32, 33, 63, 64, 65, 66, 6, 67, 68, 69, 70, 71, 72, 73, 74, 38, 39, 40, 41, 75, 76, 77, 78, 79, 80, 81, 82, 83, 84, 85, 86, 87, 88, 89, 90] (by decide +kernel) (by decide +kernel)
set_option maxRecDepth 20000 in
theorem gX3_digest_X3_walkerTold : GoodIn wsX3_digest (wsV RX3 126 RX3 yX3_walkerTold wsX3_walkerTold) := goodIn_app (goodIn_of _ (by decide +kernel)) ggX3_digest_X3_walkerTold
theorem dX3_digest_0 : decode cX3_digest 0 = .ok (.aload_n 0, 1) := by decide +kernel
theorem dX3_digest_1 : decode cX3_digest 1 = .ok (.iconst 0, 1) := by decide +kernel
theorem dX3_digest_2 : decode cX3_digest 2 = .ok (.putfield 47, 3) := by decide +kernel
theorem dX3_digest_5 : decode cX3_digest 5 = .ok (.ldc2_w 186, 3) := by decide +kernel
theorem dX3_digest_8 : decode cX3_digest 8 = .ok (.lstore_n 1, 1) := by decide +kernel
theorem dX3_digest_9 : decode cX3_digest 9 = .ok (.iconst 0, 1) := by decide +kernel
theorem dX3_digest_10 : decode cX3_digest 10 = .ok (.istore_n 3, 1) := by decide +kernel
theorem dX3_digest_11 : decode cX3_digest 11 = .ok (.iload_n 3, 1) := by decide +kernel
theorem dX3_digest_12 : decode cX3_digest 12 = .ok (.bipush 11, 2) := by decide +kernel
theorem dX3_digest_14 : decode cX3_digest 14 = .ok (.if_icmp .ge 22, 3) := by decide +kernel
theorem dX3_digest_17 : decode cX3_digest 17 = .ok (.lload_n 1, 1) := by decide +kernel
theorem dX3_digest_18 : decode cX3_digest 18 = .ok (.ldc2_w 188, 3) := by decide +kernel
theorem dX3_digest_21 : decode cX3_digest 21 = .ok (.lmul, 1) := by decide +kernel
theorem dX3_digest_22 : decode cX3_digest 22 = .ok (.aload_n 0, 1) := by decide +kernel
theorem dX3_digest_23 : decode cX3_digest 23 = .ok (.iload_n 3, 1) := by decide +kernel
theorem dX3_digest_24 : decode cX3_digest 24 = .ok (.invokevirtual 167, 3) := by decide +kernel
theorem dX3_digest_27 : decode cX3_digest 27 = .ok (.i2l, 1) := by decide +kernel
theorem dX3_digest_28 : decode cX3_digest 28 = .ok (.ladd, 1) := by decide +kernel
theorem dX3_digest_29 : decode cX3_digest 29 = .ok (.lstore_n 1, 1) := by decide +kernel
theorem dX3_digest_30 : decode cX3_digest 30 = .ok (.iinc 3 1, 3) := by decide +kernel
theorem dX3_digest_33 : decode cX3_digest 33 = .ok (.goto (-22), 3) := by decide +kernel
theorem dX3_digest_36 : decode cX3_digest 36 = .ok (.iconst 0, 1) := by decide +kernel
theorem dX3_digest_37 : decode cX3_digest 37 = .ok (.istore_n 3, 1) := by decide +kernel
theorem dX3_digest_38 : decode cX3_digest 38 = .ok (.iload_n 3, 1) := by decide +kernel
theorem dX3_digest_39 : decode cX3_digest 39 = .ok (.bipush 10, 2) := by decide +kernel
theorem dX3_digest_41 : decode cX3_digest 41 = .ok (.if_icmp .ge 23, 3) := by decide +kernel
theorem dX3_digest_44 : decode cX3_digest 44 = .ok (.lload_n 1, 1) := by decide +kernel
theorem dX3_digest_45 : decode cX3_digest 45 = .ok (.ldc2_w 188, 3) := by decide +kernel
theorem dX3_digest_48 : decode cX3_digest 48 = .ok (.lmul, 1) := by decide +kernel
theorem dX3_digest_49 : decode cX3_digest 49 = .ok (.aload_n 0, 1) := by decide +kernel
theorem dX3_digest_50 : decode cX3_digest 50 = .ok (.getfield 16, 3) := by decide +kernel
theorem dX3_digest_53 : decode cX3_digest 53 = .ok (.iload_n 3, 1) := by decide +kernel
theorem dX3_digest_54 : decode cX3_digest 54 = .ok (.iaload, 1) := by decide +kernel
theorem dX3_digest_55 : decode cX3_digest 55 = .ok (.i2l, 1) := by decide +kernel
theorem dX3_digest_56 : decode cX3_digest 56 = .ok (.ladd, 1) := by decide +kernel
theorem dX3_digest_57 : decode cX3_digest 57 = .ok (.lstore_n 1, 1) := by decide +kernel
theorem dX3_digest_58 : decode cX3_digest 58 = .ok (.iinc 3 1, 3) := by decide +kernel
theorem dX3_digest_61 : decode cX3_digest 61 = .ok (.goto (-23), 3) := by decide +kernel
theorem dX3_digest_64 : decode cX3_digest 64 = .ok (.iconst 0, 1) := by decide +kernel
theorem dX3_digest_65 : decode cX3_digest 65 = .ok (.istore_n 3, 1) := by decide +kernel
theorem dX3_digest_66 : decode cX3_digest 66 = .ok (.iload_n 3, 1) := by decide +kernel
theorem dX3_digest_67 : decode cX3_digest 67 = .ok (.aload_n 0, 1) := by decide +kernel
theorem dX3_digest_68 : decode cX3_digest 68 = .ok (.getfield 51, 3) := by decide +kernel
theorem dX3_digest_71 : decode cX3_digest 71 = .ok (.if_icmp .ge 40, 3) := by decide +kernel
theorem dX3_digest_74 : decode cX3_digest 74 = .ok (.iconst 0, 1) := by decide +kernel
theorem dX3_digest_75 : decode cX3_digest 75 = .ok (.istore 4, 2) := by decide +kernel
theorem dX3_digest_77 : decode cX3_digest 77 = .ok (.iload 4, 2) := by decide +kernel
theorem dX3_digest_79 : decode cX3_digest 79 = .ok (.bipush 6, 2) := by decide +kernel
theorem dX3_digest_81 : decode cX3_digest 81 = .ok (.if_icmp .ge 24, 3) := by decide +kernel
theorem dX3_digest_84 : decode cX3_digest 84 = .ok (.lload_n 1, 1) := by decide +kernel
theorem dX3_digest_85 : decode cX3_digest 85 = .ok (.ldc2_w 188, 3) := by decide +kernel
theorem dX3_digest_88 : decode cX3_digest 88 = .ok (.lmul, 1) := by decide +kernel
theorem dX3_digest_89 : decode cX3_digest 89 = .ok (.aload_n 0, 1) := by decide +kernel
theorem dX3_digest_90 : decode cX3_digest 90 = .ok (.iload_n 3, 1) := by decide +kernel
theorem dX3_digest_91 : decode cX3_digest 91 = .ok (.iload 4, 2) := by decide +kernel
theorem dX3_digest_93 : decode cX3_digest 93 = .ok (.invokevirtual 113, 3) := by decide +kernel
theorem dX3_digest_96 : decode cX3_digest 96 = .ok (.i2l, 1) := by decide +kernel
theorem dX3_digest_97 : decode cX3_digest 97 = .ok (.ladd, 1) := by decide +kernel
theorem dX3_digest_98 : decode cX3_digest 98 = .ok (.lstore_n 1, 1) := by decide +kernel
theorem dX3_digest_99 : decode cX3_digest 99 = .ok (.iinc 4 1, 3) := by decide +kernel
theorem dX3_digest_102 : decode cX3_digest 102 = .ok (.goto (-25), 3) := by decide +kernel
theorem dX3_digest_105 : decode cX3_digest 105 = .ok (.iinc 3 1, 3) := by decide +kernel
theorem dX3_digest_108 : decode cX3_digest 108 = .ok (.goto (-42), 3) := by decide +kernel
theorem dX3_digest_111 : decode cX3_digest 111 = .ok (.iconst 0, 1) := by decide +kernel
theorem dX3_digest_112 : decode cX3_digest 112 = .ok (.istore_n 3, 1) := by decide +kernel
theorem dX3_digest_113 : decode cX3_digest 113 = .ok (.iload_n 3, 1) := by decide +kernel
theorem dX3_digest_114 : decode cX3_digest 114 = .ok (.aload_n 0, 1) := by decide +kernel
theorem dX3_digest_115 : decode cX3_digest 115 = .ok (.getfield 58, 3) := by decide +kernel
theorem dX3_digest_118 : decode cX3_digest 118 = .ok (.if_icmp .ge 78, 3) := by decide +kernel
theorem dX3_digest_121 : decode cX3_digest 121 = .ok (.iconst 0, 1) := by decide +kernel
theorem dX3_digest_122 : decode cX3_digest 122 = .ok (.istore 4, 2) := by decide +kernel
theorem dX3_digest_124 : decode cX3_digest 124 = .ok (.iload 4, 2) := by decide +kernel
theorem dX3_digest_126 : decode cX3_digest 126 = .ok (.bipush 9, 2) := by decide +kernel
theorem dX3_digest_128 : decode cX3_digest 128 = .ok (.if_icmp .ge 24, 3) := by decide +kernel
theorem dX3_digest_131 : decode cX3_digest 131 = .ok (.lload_n 1, 1) := by decide +kernel
theorem dX3_digest_132 : decode cX3_digest 132 = .ok (.ldc2_w 188, 3) := by decide +kernel
theorem dX3_digest_135 : decode cX3_digest 135 = .ok (.lmul, 1) := by decide +kernel
theorem dX3_digest_136 : decode cX3_digest 136 = .ok (.aload_n 0, 1) := by decide +kernel
theorem dX3_digest_137 : decode cX3_digest 137 = .ok (.iload_n 3, 1) := by decide +kernel
theorem dX3_digest_138 : decode cX3_digest 138 = .ok (.iload 4, 2) := by decide +kernel
theorem dX3_digest_140 : decode cX3_digest 140 = .ok (.invokevirtual 126, 3) := by decide +kernel
theorem dX3_digest_143 : decode cX3_digest 143 = .ok (.i2l, 1) := by decide +kernel
theorem dX3_digest_144 : decode cX3_digest 144 = .ok (.ladd, 1) := by decide +kernel
theorem dX3_digest_145 : decode cX3_digest 145 = .ok (.lstore_n 1, 1) := by decide +kernel
theorem dX3_digest_146 : decode cX3_digest 146 = .ok (.iinc 4 1, 3) := by decide +kernel
theorem dX3_digest_149 : decode cX3_digest 149 = .ok (.goto (-25), 3) := by decide +kernel
theorem dX3_digest_152 : decode cX3_digest 152 = .ok (.iconst 0, 1) := by decide +kernel
theorem dX3_digest_153 : decode cX3_digest 153 = .ok (.istore 4, 2) := by decide +kernel
theorem dX3_digest_155 : decode cX3_digest 155 = .ok (.iload 4, 2) := by decide +kernel
theorem dX3_digest_157 : decode cX3_digest 157 = .ok (.aload_n 0, 1) := by decide +kernel
theorem dX3_digest_158 : decode cX3_digest 158 = .ok (.getfield 61, 3) := by decide +kernel
theorem dX3_digest_161 : decode cX3_digest 161 = .ok (.if_icmp .ge 29, 3) := by decide +kernel
theorem dX3_digest_164 : decode cX3_digest 164 = .ok (.lload_n 1, 1) := by decide +kernel
theorem dX3_digest_165 : decode cX3_digest 165 = .ok (.ldc2_w 188, 3) := by decide +kernel
theorem dX3_digest_168 : decode cX3_digest 168 = .ok (.lmul, 1) := by decide +kernel
theorem dX3_digest_169 : decode cX3_digest 169 = .ok (.aload_n 0, 1) := by decide +kernel
theorem dX3_digest_170 : decode cX3_digest 170 = .ok (.getfield 25, 3) := by decide +kernel
theorem dX3_digest_173 : decode cX3_digest 173 = .ok (.bipush 6, 2) := by decide +kernel
theorem dX3_digest_175 : decode cX3_digest 175 = .ok (.iload_n 3, 1) := by decide +kernel
theorem dX3_digest_176 : decode cX3_digest 176 = .ok (.imul, 1) := by decide +kernel
theorem dX3_digest_177 : decode cX3_digest 177 = .ok (.iload 4, 2) := by decide +kernel
theorem dX3_digest_179 : decode cX3_digest 179 = .ok (.iadd, 1) := by decide +kernel
theorem dX3_digest_180 : decode cX3_digest 180 = .ok (.iaload, 1) := by decide +kernel
theorem dX3_digest_181 : decode cX3_digest 181 = .ok (.i2l, 1) := by decide +kernel
theorem dX3_digest_182 : decode cX3_digest 182 = .ok (.ladd, 1) := by decide +kernel
theorem dX3_digest_183 : decode cX3_digest 183 = .ok (.lstore_n 1, 1) := by decide +kernel
theorem dX3_digest_184 : decode cX3_digest 184 = .ok (.iinc 4 1, 3) := by decide +kernel
theorem dX3_digest_187 : decode cX3_digest 187 = .ok (.goto (-32), 3) := by decide +kernel
theorem dX3_digest_190 : decode cX3_digest 190 = .ok (.iinc 3 1, 3) := by decide +kernel
theorem dX3_digest_193 : decode cX3_digest 193 = .ok (.goto (-80), 3) := by decide +kernel
theorem dX3_digest_196 : decode cX3_digest 196 = .ok (.iconst 0, 1) := by decide +kernel
theorem dX3_digest_197 : decode cX3_digest 197 = .ok (.istore_n 3, 1) := by decide +kernel
theorem dX3_digest_198 : decode cX3_digest 198 = .ok (.iload_n 3, 1) := by decide +kernel
theorem dX3_digest_199 : decode cX3_digest 199 = .ok (.aload_n 0, 1) := by decide +kernel
theorem dX3_digest_200 : decode cX3_digest 200 = .ok (.getfield 61, 3) := by decide +kernel
theorem dX3_digest_203 : decode cX3_digest 203 = .ok (.if_icmp .ge 23, 3) := by decide +kernel
theorem dX3_digest_206 : decode cX3_digest 206 = .ok (.lload_n 1, 1) := by decide +kernel
theorem dX3_digest_207 : decode cX3_digest 207 = .ok (.ldc2_w 188, 3) := by decide +kernel
theorem dX3_digest_210 : decode cX3_digest 210 = .ok (.lmul, 1) := by decide +kernel
theorem dX3_digest_211 : decode cX3_digest 211 = .ok (.aload_n 0, 1) := by decide +kernel
theorem dX3_digest_212 : decode cX3_digest 212 = .ok (.getfield 22, 3) := by decide +kernel
theorem dX3_digest_215 : decode cX3_digest 215 = .ok (.iload_n 3, 1) := by decide +kernel
theorem dX3_digest_216 : decode cX3_digest 216 = .ok (.iaload, 1) := by decide +kernel
theorem dX3_digest_217 : decode cX3_digest 217 = .ok (.i2l, 1) := by decide +kernel
theorem dX3_digest_218 : decode cX3_digest 218 = .ok (.ladd, 1) := by decide +kernel
theorem dX3_digest_219 : decode cX3_digest 219 = .ok (.lstore_n 1, 1) := by decide +kernel
theorem dX3_digest_220 : decode cX3_digest 220 = .ok (.iinc 3 1, 3) := by decide +kernel
theorem dX3_digest_223 : decode cX3_digest 223 = .ok (.goto (-25), 3) := by decide +kernel
theorem dX3_digest_226 : decode cX3_digest 226 = .ok (.lload_n 1, 1) := by decide +kernel
theorem dX3_digest_227 : decode cX3_digest 227 = .ok (.lreturn, 1) := by decide +kernel
