set_option maxRecDepth 20000 in
theorem ggX3_isSame_X3_beside : GoodIn wsX3_isSame wsX3_beside := goodIn_r _ [26, 1, 27, 28, 29, 30, 31, 32, 33, 190, 191, 192, 193, 194, 195, 196, 197, 198, 199, 200, 201, 202, 203, 204, 205, 206, 207, 208] (by decide +kernel) (by decide +kernel)
set_option maxRecDepth 20000 in
theorem gX3_isSame_X3_beside : GoodIn wsX3_isSame (wsV RX3 93 RX3 yX3_beside wsX3_beside) := goodIn_app (goodIn_of _ (by decide +kernel)) ggX3_isSame_X3_beside
set_option maxRecDepth 20000 in
theorem ggX3_isSame_X2_walker : GoodIn wsX3_isSame wsX2_walker := goodIn_ca (goodIn_r _ [38, 39, 40, 41, 42, 43, 44, 45, 46, 47, 48, 49, 50, 37, 51, 52, 53, 54, 55, 56, 57, 58, 59, 60, 61, 62, 63, 64, 65, 66, 67, 68, 69, 70, 71, 72, 73, 209, 210, 211, 212, 213, 214, 215, 216, 217, 218, 219, 220, 221, 222, 223, 224, 225, 226, 227, 228, 229, 230, 231, 232, 233, 234, 235, 236, 237, 238, 239] (by decide +kernel) (by decide +kernel)) (goodIn_sub (fun _ h => List.mem_cons_of_mem _ (List.mem_append_right _ h)) (by decide +kernel))
set_option maxRecDepth 20000 in
theorem gX3_isSame_X2_walker : GoodIn wsX3_isSame (wsV RX3 107 RX2 yX2_walker wsX2_walker) := goodIn_app (goodIn_of _ (by decide +kernel)) ggX3_isSame_X2_walker
set_option maxRecDepth 20000 in
theorem ggX3_isSame_X2_knows : GoodIn wsX3_isSame wsX2_knows := goodIn_ca (goodIn_r _ [77, 39, 40, 41, 53, 78, 42, 43, 44, 45, 46, 47, 79, 80, 81, 82, 83, 84, 85, 37, 86, 209, 210, 211, 223, 224, 225, 226, 227, 228, 229, 230, 231, 232, 233, 234, 235, 236, 237, 238, 239, 212, 213, 214, 215, 216, 217, 218, 219, 220, 221, 222] (by decide +kernel) (by decide +kernel)) (goodIn_sub (fun _ h => List.mem_cons_of_mem _ (List.mem_append_right _ h)) (by decide +kernel))
set_option maxRecDepth 20000 in
theorem gX3_isSame_X2_knows : GoodIn wsX3_isSame (wsV RX3 113 RX2 yX2_knows wsX2_knows) := goodIn_app (goodIn_of _ (by decide +kernel)) ggX3_isSame_X2_knows
set_option maxRecDepth 20000 in
theorem ggX3_isSame_X3_lets : GoodIn wsX3_isSame wsX3_lets := goodIn_r _ [90, 20, 91, 190, 191, 192, 193, 194, 195, 196, 197, 198, 199] (by decide +kernel) (by decide +kernel)
set_option maxRecDepth 20000 in
theorem gX3_isSame_X3_lets : GoodIn wsX3_isSame (wsV RX3 87 RX3 yX3_lets wsX3_lets) := goodIn_app (goodIn_of _ (by decide +kernel)) ggX3_isSame_X3_lets
set_option maxRecDepth 20000 in
theorem ggX3_isSame_X2_stretch : GoodIn wsX3_isSame wsX2_stretch := goodIn_ca (goodIn_r _ [95, 39, 40, 41, 96, 97, 98, 45, 99, 100, 101, 102, 103, 37, 104, 105, 53, 106, 107, 108, 109, 110, 111, 64, 112, 66, 113, 114, 115, 116, 117, 118, 119, 120, 67, 72, 73, 209, 210, 211, 212, 213, 214, 215, 216, 217, 218, 219, 220, 221, 222, 223, 224, 225, 226, 227, 228, 229, 230, 231, 232, 233, 234, 235, 236, 237, 238, 239] (by decide +kernel) (by decide +kernel)) (goodIn_sub (fun _ h => List.mem_cons_of_mem _ (List.mem_append_right _ h)) (by decide +kernel))
set_option maxRecDepth 20000 in
theorem gX3_isSame_X2_stretch : GoodIn wsX3_isSame (wsV RX3 123 RX2 yX2_stretch wsX2_stretch) := goodIn_app (goodIn_of _ (by decide +kernel)) ggX3_isSame_X2_stretch
set_option maxRecDepth 20000 in
theorem ggX3_isSame_X2_song : GoodIn wsX3_isSame wsX2_song := goodIn_ca (goodIn_r _ [124, 39, 40, 41, 125, 53, 79, 80, 81, 45, 82, 83, 126, 127, 128, 64, 129, 66, 67, 130, 85, 37, 86, 131, 132, 133, 134, 135, 136, 137, 138, 139, 140, 141, 142, 209, 210, 211, 212, 213, 214, 215, 216, 217, 218, 219, 220, 221, 222, 223, 224, 225, 226, 227, 228, 229, 230, 231, 232, 233, 234, 235, 236, 237, 238, 239] (by decide +kernel) (by decide +kernel)) (goodIn_sub (fun _ h => List.mem_cons_of_mem _ (List.mem_append_right _ h)) (by decide +kernel))
set_option maxRecDepth 20000 in
theorem gX3_isSame_X2_song : GoodIn wsX3_isSame (wsV RX3 126 RX2 yX2_song wsX2_song) := goodIn_app (goodIn_of _ (by decide +kernel)) ggX3_isSame_X2_song
set_option maxRecDepth 20000 in
theorem ggX3_isSame_X3_places : GoodIn wsX3_isSame wsX3_places := goodIn_r _ [146, 20, 190, 191, 192, 193, 194, 195, 196, 197, 198, 199] (by decide +kernel) (by decide +kernel)
set_option maxRecDepth 20000 in
theorem gX3_isSame_X3_places : GoodIn wsX3_isSame (wsV RX3 129 RX3 yX3_places wsX3_places) := goodIn_app (goodIn_of _ (by decide +kernel)) ggX3_isSame_X3_places
set_option maxRecDepth 20000 in
theorem ggX3_isSame_X3_in : GoodIn wsX3_isSame wsX3_in := goodIn_r _ [150, 1, 7, 190, 191, 192, 193, 194, 195, 196, 197, 198, 199, 200, 201, 202, 203, 204, 205, 206, 207, 208] (by decide +kernel) (by decide +kernel)
set_option maxRecDepth 20000 in
theorem gX3_isSame_X3_in : GoodIn wsX3_isSame (wsV RX3 133 RX3 yX3_in wsX3_in) := goodIn_app (goodIn_of _ (by decide +kernel)) ggX3_isSame_X3_in
set_option maxRecDepth 20000 in
theorem ggX3_isSame_X3_burning : GoodIn wsX3_isSame wsX3_burning := goodIn_r _ [154, 1, 7, 6, 190, 191, 192, 193, 194, 195, 196, 197, 198, 199, 200, 201, 202, 203, 204, 205, 206, 207, 208] (by decide +kernel) (by decide +kernel)
set_option maxRecDepth 20000 in
theorem gX3_isSame_X3_burning : GoodIn wsX3_isSame (wsV RX3 136 RX3 yX3_burning wsX3_burning) := goodIn_app (goodIn_of _ (by decide +kernel)) ggX3_isSame_X3_burning
set_option maxRecDepth 20000 in
theorem ggX3_isSame_X2_count : GoodIn wsX3_isSame wsX2_count := goodIn_ca (goodIn_r _ [158, 39, 40, 159, 160, 161, 37, 162, 53, 163, 41, 164, 165, 166, 167, 168, 169, 170, 64, 171, 66, 67, 72, 172, 173, 174, 175, 176, 177, 178, 179, 180, 73, 181, 182, 183, 184, 185, 209, 210, 211, 223, 224, 225, 226, 227, 228, 229, 230, 231, 232, 233, 234, 235, 236, 237, 238, 239, 212, 213, 214, 215, 216, 217, 218, 219, 220, 221, 222] (by decide +kernel) (by decide +kernel)) (goodIn_sub (fun _ h => List.mem_cons_of_mem _ (List.mem_append_right _ h)) (by decide +kernel))
set_option maxRecDepth 20000 in
theorem gX3_isSame_X2_count : GoodIn wsX3_isSame (wsV RX3 139 RX2 yX2_count wsX2_count) := goodIn_app (goodIn_of _ (by decide +kernel)) ggX3_isSame_X2_count
set_option maxRecDepth 20000 in
theorem ggX3_isSame_X2_light : GoodIn wsX3_isSame wsX2_light := goodIn_r _ [189, 53, 168, 169, 170, 64, 171, 66, 67, 72, 172, 173, 174, 175, 176, 209, 210, 211, 223, 224, 225, 226, 227, 228, 229, 230, 231, 232, 233, 234, 235, 236, 237, 238, 239, 212, 213, 214, 215, 216, 217, 218, 219, 220, 221, 222] (by decide +kernel) (by decide +kernel)
set_option maxRecDepth 20000 in
theorem gX3_isSame_X2_light : GoodIn wsX3_isSame (wsV RX3 142 RX2 yX2_light wsX2_light) := goodIn_app (goodIn_of _ (by decide +kernel)) ggX3_isSame_X2_light
theorem dX3_isSame_0 : decode cX3_isSame 0 = .ok (.iconst (-1), 1) := by decide +kernel
theorem dX3_isSame_1 : decode cX3_isSame 1 = .ok (.istore_n 2, 1) := by decide +kernel
theorem dX3_isSame_2 : decode cX3_isSame 2 = .ok (.sipush 999, 3) := by decide +kernel
theorem dX3_isSame_5 : decode cX3_isSame 5 = .ok (.istore_n 3, 1) := by decide +kernel
theorem dX3_isSame_6 : decode cX3_isSame 6 = .ok (.iconst 0, 1) := by decide +kernel
theorem dX3_isSame_7 : decode cX3_isSame 7 = .ok (.istore 4, 2) := by decide +kernel
theorem dX3_isSame_9 : decode cX3_isSame 9 = .ok (.iload 4, 2) := by decide +kernel
theorem dX3_isSame_11 : decode cX3_isSame 11 = .ok (.aload_n 0, 1) := by decide +kernel
theorem dX3_isSame_12 : decode cX3_isSame 12 = .ok (.getfield 23, 3) := by decide +kernel
theorem dX3_isSame_15 : decode cX3_isSame 15 = .ok (.arraylength, 1) := by decide +kernel
theorem dX3_isSame_16 : decode cX3_isSame 16 = .ok (.if_icmp .ge 214, 3) := by decide +kernel
theorem dX3_isSame_19 : decode cX3_isSame 19 = .ok (.aload_n 0, 1) := by decide +kernel
theorem dX3_isSame_20 : decode cX3_isSame 20 = .ok (.getfield 23, 3) := by decide +kernel
theorem dX3_isSame_23 : decode cX3_isSame 23 = .ok (.iload 4, 2) := by decide +kernel
theorem dX3_isSame_25 : decode cX3_isSame 25 = .ok (.aaload, 1) := by decide +kernel
theorem dX3_isSame_26 : decode cX3_isSame 26 = .ok (.astore 5, 2) := by decide +kernel
theorem dX3_isSame_28 : decode cX3_isSame 28 = .ok (.bipush 9, 2) := by decide +kernel
theorem dX3_isSame_30 : decode cX3_isSame 30 = .ok (.newarray .int, 2) := by decide +kernel
theorem dX3_isSame_32 : decode cX3_isSame 32 = .ok (.dup, 1) := by decide +kernel
theorem dX3_isSame_33 : decode cX3_isSame 33 = .ok (.iconst 0, 1) := by decide +kernel
theorem dX3_isSame_34 : decode cX3_isSame 34 = .ok (.aload 5, 2) := by decide +kernel
theorem dX3_isSame_36 : decode cX3_isSame 36 = .ok (.getfield 57, 3) := by decide +kernel
theorem dX3_isSame_39 : decode cX3_isSame 39 = .ok (.iastore, 1) := by decide +kernel
theorem dX3_isSame_40 : decode cX3_isSame 40 = .ok (.dup, 1) := by decide +kernel
theorem dX3_isSame_41 : decode cX3_isSame 41 = .ok (.iconst 1, 1) := by decide +kernel
theorem dX3_isSame_42 : decode cX3_isSame 42 = .ok (.aload 5, 2) := by decide +kernel
theorem dX3_isSame_44 : decode cX3_isSame 44 = .ok (.getfield 60, 3) := by decide +kernel
theorem dX3_isSame_47 : decode cX3_isSame 47 = .ok (.iastore, 1) := by decide +kernel
theorem dX3_isSame_48 : decode cX3_isSame 48 = .ok (.dup, 1) := by decide +kernel
theorem dX3_isSame_49 : decode cX3_isSame 49 = .ok (.iconst 2, 1) := by decide +kernel
theorem dX3_isSame_50 : decode cX3_isSame 50 = .ok (.aload 5, 2) := by decide +kernel
theorem dX3_isSame_52 : decode cX3_isSame 52 = .ok (.getfield 63, 3) := by decide +kernel
theorem dX3_isSame_55 : decode cX3_isSame 55 = .ok (.iastore, 1) := by decide +kernel
theorem dX3_isSame_56 : decode cX3_isSame 56 = .ok (.dup, 1) := by decide +kernel
theorem dX3_isSame_57 : decode cX3_isSame 57 = .ok (.iconst 3, 1) := by decide +kernel
theorem dX3_isSame_58 : decode cX3_isSame 58 = .ok (.aload 5, 2) := by decide +kernel
theorem dX3_isSame_60 : decode cX3_isSame 60 = .ok (.getfield 66, 3) := by decide +kernel
theorem dX3_isSame_63 : decode cX3_isSame 63 = .ok (.ifCond .eq 7, 3) := by decide +kernel
theorem dX3_isSame_66 : decode cX3_isSame 66 = .ok (.iconst 1, 1) := by decide +kernel
theorem dX3_isSame_67 : decode cX3_isSame 67 = .ok (.goto 4, 3) := by decide +kernel
theorem dX3_isSame_70 : decode cX3_isSame 70 = .ok (.iconst 0, 1) := by decide +kernel
theorem dX3_isSame_71 : decode cX3_isSame 71 = .ok (.iastore, 1) := by decide +kernel
theorem dX3_isSame_72 : decode cX3_isSame 72 = .ok (.dup, 1) := by decide +kernel
theorem dX3_isSame_73 : decode cX3_isSame 73 = .ok (.iconst 4, 1) := by decide +kernel
theorem dX3_isSame_74 : decode cX3_isSame 74 = .ok (.aload 5, 2) := by decide +kernel
theorem dX3_isSame_76 : decode cX3_isSame 76 = .ok (.getfield 74, 3) := by decide +kernel
theorem dX3_isSame_79 : decode cX3_isSame 79 = .ok (.iastore, 1) := by decide +kernel
theorem dX3_isSame_80 : decode cX3_isSame 80 = .ok (.dup, 1) := by decide +kernel
theorem dX3_isSame_81 : decode cX3_isSame 81 = .ok (.iconst 5, 1) := by decide +kernel
theorem dX3_isSame_82 : decode cX3_isSame 82 = .ok (.aload 5, 2) := by decide +kernel
theorem dX3_isSame_84 : decode cX3_isSame 84 = .ok (.getfield 77, 3) := by decide +kernel
theorem dX3_isSame_87 : decode cX3_isSame 87 = .ok (.iastore, 1) := by decide +kernel
theorem dX3_isSame_88 : decode cX3_isSame 88 = .ok (.dup, 1) := by decide +kernel
theorem dX3_isSame_89 : decode cX3_isSame 89 = .ok (.bipush 6, 2) := by decide +kernel
theorem dX3_isSame_91 : decode cX3_isSame 91 = .ok (.aload_n 0, 1) := by decide +kernel
theorem dX3_isSame_92 : decode cX3_isSame 92 = .ok (.aload 5, 2) := by decide +kernel
theorem dX3_isSame_94 : decode cX3_isSame 94 = .ok (.invokevirtual 93, 3) := by decide +kernel
theorem dX3_isSame_97 : decode cX3_isSame 97 = .ok (.iastore, 1) := by decide +kernel
theorem dX3_isSame_98 : decode cX3_isSame 98 = .ok (.dup, 1) := by decide +kernel
theorem dX3_isSame_99 : decode cX3_isSame 99 = .ok (.bipush 7, 2) := by decide +kernel
theorem dX3_isSame_101 : decode cX3_isSame 101 = .ok (.aload 5, 2) := by decide +kernel
theorem dX3_isSame_103 : decode cX3_isSame 103 = .ok (.getfield 100, 3) := by decide +kernel
theorem dX3_isSame_106 : decode cX3_isSame 106 = .ok (.iastore, 1) := by decide +kernel
theorem dX3_isSame_107 : decode cX3_isSame 107 = .ok (.dup, 1) := by decide +kernel
theorem dX3_isSame_108 : decode cX3_isSame 108 = .ok (.bipush 8, 2) := by decide +kernel
theorem dX3_isSame_110 : decode cX3_isSame 110 = .ok (.aload 5, 2) := by decide +kernel
theorem dX3_isSame_112 : decode cX3_isSame 112 = .ok (.getfield 90, 3) := by decide +kernel
theorem dX3_isSame_115 : decode cX3_isSame 115 = .ok (.iastore, 1) := by decide +kernel
theorem dX3_isSame_116 : decode cX3_isSame 116 = .ok (.astore 6, 2) := by decide +kernel
theorem dX3_isSame_118 : decode cX3_isSame 118 = .ok (.iconst 0, 1) := by decide +kernel
theorem dX3_isSame_119 : decode cX3_isSame 119 = .ok (.istore 7, 2) := by decide +kernel
theorem dX3_isSame_121 : decode cX3_isSame 121 = .ok (.iload 7, 2) := by decide +kernel
theorem dX3_isSame_123 : decode cX3_isSame 123 = .ok (.bipush 9, 2) := by decide +kernel
theorem dX3_isSame_125 : decode cX3_isSame 125 = .ok (.if_icmp .ge 27, 3) := by decide +kernel
theorem dX3_isSame_128 : decode cX3_isSame 128 = .ok (.aload_n 1, 1) := by decide +kernel
theorem dX3_isSame_129 : decode cX3_isSame 129 = .ok (.iload 4, 2) := by decide +kernel
theorem dX3_isSame_131 : decode cX3_isSame 131 = .ok (.iload 7, 2) := by decide +kernel
theorem dX3_isSame_133 : decode cX3_isSame 133 = .ok (.invokevirtual 107, 3) := by decide +kernel
theorem dX3_isSame_136 : decode cX3_isSame 136 = .ok (.aload 6, 2) := by decide +kernel
theorem dX3_isSame_138 : decode cX3_isSame 138 = .ok (.iload 7, 2) := by decide +kernel
theorem dX3_isSame_140 : decode cX3_isSame 140 = .ok (.iaload, 1) := by decide +kernel
theorem dX3_isSame_141 : decode cX3_isSame 141 = .ok (.if_icmp .eq 5, 3) := by decide +kernel
theorem dX3_isSame_144 : decode cX3_isSame 144 = .ok (.iconst 0, 1) := by decide +kernel
theorem dX3_isSame_145 : decode cX3_isSame 145 = .ok (.ireturn, 1) := by decide +kernel
theorem dX3_isSame_146 : decode cX3_isSame 146 = .ok (.iinc 7 1, 3) := by decide +kernel
theorem dX3_isSame_149 : decode cX3_isSame 149 = .ok (.goto (-28), 3) := by decide +kernel
theorem dX3_isSame_152 : decode cX3_isSame 152 = .ok (.iconst 0, 1) := by decide +kernel
theorem dX3_isSame_153 : decode cX3_isSame 153 = .ok (.istore 7, 2) := by decide +kernel
theorem dX3_isSame_155 : decode cX3_isSame 155 = .ok (.iload 7, 2) := by decide +kernel
theorem dX3_isSame_157 : decode cX3_isSame 157 = .ok (.aload_n 0, 1) := by decide +kernel
theorem dX3_isSame_158 : decode cX3_isSame 158 = .ok (.getfield 27, 3) := by decide +kernel
theorem dX3_isSame_161 : decode cX3_isSame 161 = .ok (.arraylength, 1) := by decide +kernel
theorem dX3_isSame_162 : decode cX3_isSame 162 = .ok (.if_icmp .ge 30, 3) := by decide +kernel
theorem dX3_isSame_165 : decode cX3_isSame 165 = .ok (.aload_n 1, 1) := by decide +kernel
theorem dX3_isSame_166 : decode cX3_isSame 166 = .ok (.iload 4, 2) := by decide +kernel
theorem dX3_isSame_168 : decode cX3_isSame 168 = .ok (.iload 7, 2) := by decide +kernel
theorem dX3_isSame_170 : decode cX3_isSame 170 = .ok (.invokevirtual 113, 3) := by decide +kernel
theorem dX3_isSame_173 : decode cX3_isSame 173 = .ok (.aload 5, 2) := by decide +kernel
theorem dX3_isSame_175 : decode cX3_isSame 175 = .ok (.getfield 97, 3) := by decide +kernel
theorem dX3_isSame_178 : decode cX3_isSame 178 = .ok (.iload 7, 2) := by decide +kernel
theorem dX3_isSame_180 : decode cX3_isSame 180 = .ok (.iaload, 1) := by decide +kernel
theorem dX3_isSame_181 : decode cX3_isSame 181 = .ok (.if_icmp .eq 5, 3) := by decide +kernel
theorem dX3_isSame_184 : decode cX3_isSame 184 = .ok (.iconst 0, 1) := by decide +kernel
theorem dX3_isSame_185 : decode cX3_isSame 185 = .ok (.ireturn, 1) := by decide +kernel
theorem dX3_isSame_186 : decode cX3_isSame 186 = .ok (.iinc 7 1, 3) := by decide +kernel
theorem dX3_isSame_189 : decode cX3_isSame 189 = .ok (.goto (-34), 3) := by decide +kernel
theorem dX3_isSame_192 : decode cX3_isSame 192 = .ok (.aload 5, 2) := by decide +kernel
theorem dX3_isSame_194 : decode cX3_isSame 194 = .ok (.getfield 74, 3) := by decide +kernel
theorem dX3_isSame_197 : decode cX3_isSame 197 = .ok (.iconst 1, 1) := by decide +kernel
theorem dX3_isSame_198 : decode cX3_isSame 198 = .ok (.if_icmp .eq 6, 3) := by decide +kernel
theorem dX3_isSame_201 : decode cX3_isSame 201 = .ok (.goto 23, 3) := by decide +kernel
theorem dX3_isSame_204 : decode cX3_isSame 204 = .ok (.iload_n 2, 1) := by decide +kernel
theorem dX3_isSame_205 : decode cX3_isSame 205 = .ok (.aload 5, 2) := by decide +kernel
theorem dX3_isSame_207 : decode cX3_isSame 207 = .ok (.getfield 77, 3) := by decide +kernel
theorem dX3_isSame_210 : decode cX3_isSame 210 = .ok (.invokestatic 115, 3) := by decide +kernel
theorem dX3_isSame_213 : decode cX3_isSame 213 = .ok (.istore_n 2, 1) := by decide +kernel
theorem dX3_isSame_214 : decode cX3_isSame 214 = .ok (.iload_n 3, 1) := by decide +kernel
theorem dX3_isSame_215 : decode cX3_isSame 215 = .ok (.aload 5, 2) := by decide +kernel
theorem dX3_isSame_217 : decode cX3_isSame 217 = .ok (.getfield 77, 3) := by decide +kernel
theorem dX3_isSame_220 : decode cX3_isSame 220 = .ok (.invokestatic 120, 3) := by decide +kernel
theorem dX3_isSame_223 : decode cX3_isSame 223 = .ok (.istore_n 3, 1) := by decide +kernel
theorem dX3_isSame_224 : decode cX3_isSame 224 = .ok (.iinc 4 1, 3) := by decide +kernel
theorem dX3_isSame_227 : decode cX3_isSame 227 = .ok (.goto (-218), 3) := by decide +kernel
theorem dX3_isSame_230 : decode cX3_isSame 230 = .ok (.iconst 0, 1) := by decide +kernel
theorem dX3_isSame_231 : decode cX3_isSame 231 = .ok (.istore 4, 2) := by decide +kernel
theorem dX3_isSame_233 : decode cX3_isSame 233 = .ok (.iload 4, 2) := by decide +kernel
theorem dX3_isSame_235 : decode cX3_isSame 235 = .ok (.aload_n 0, 1) := by decide +kernel
theorem dX3_isSame_236 : decode cX3_isSame 236 = .ok (.getfield 9, 3) := by decide +kernel
theorem dX3_isSame_239 : decode cX3_isSame 239 = .ok (.arraylength, 1) := by decide +kernel
theorem dX3_isSame_240 : decode cX3_isSame 240 = .ok (.if_icmp .ge 211, 3) := by decide +kernel
theorem dX3_isSame_243 : decode cX3_isSame 243 = .ok (.iconst 0, 1) := by decide +kernel
theorem dX3_isSame_244 : decode cX3_isSame 244 = .ok (.istore 5, 2) := by decide +kernel
theorem dX3_isSame_246 : decode cX3_isSame 246 = .ok (.aload_n 0, 1) := by decide +kernel
theorem dX3_isSame_247 : decode cX3_isSame 247 = .ok (.getfield 23, 3) := by decide +kernel
theorem dX3_isSame_250 : decode cX3_isSame 250 = .ok (.astore 6, 2) := by decide +kernel
theorem dX3_isSame_252 : decode cX3_isSame 252 = .ok (.aload 6, 2) := by decide +kernel
theorem dX3_isSame_254 : decode cX3_isSame 254 = .ok (.arraylength, 1) := by decide +kernel
theorem dX3_isSame_255 : decode cX3_isSame 255 = .ok (.istore 7, 2) := by decide +kernel
theorem dX3_isSame_257 : decode cX3_isSame 257 = .ok (.iconst 0, 1) := by decide +kernel
theorem dX3_isSame_258 : decode cX3_isSame 258 = .ok (.istore 8, 2) := by decide +kernel
theorem dX3_isSame_260 : decode cX3_isSame 260 = .ok (.iload 8, 2) := by decide +kernel
theorem dX3_isSame_262 : decode cX3_isSame 262 = .ok (.iload 7, 2) := by decide +kernel
theorem dX3_isSame_264 : decode cX3_isSame 264 = .ok (.if_icmp .ge 79, 3) := by decide +kernel
theorem dX3_isSame_267 : decode cX3_isSame 267 = .ok (.aload 6, 2) := by decide +kernel
theorem dX3_isSame_269 : decode cX3_isSame 269 = .ok (.iload 8, 2) := by decide +kernel
theorem dX3_isSame_271 : decode cX3_isSame 271 = .ok (.aaload, 1) := by decide +kernel
theorem dX3_isSame_272 : decode cX3_isSame 272 = .ok (.astore 9, 2) := by decide +kernel
theorem dX3_isSame_274 : decode cX3_isSame 274 = .ok (.iload 5, 2) := by decide +kernel
theorem dX3_isSame_276 : decode cX3_isSame 276 = .ok (.aload 9, 2) := by decide +kernel
theorem dX3_isSame_278 : decode cX3_isSame 278 = .ok (.getfield 74, 3) := by decide +kernel
theorem dX3_isSame_281 : decode cX3_isSame 281 = .ok (.iconst 1, 1) := by decide +kernel
theorem dX3_isSame_282 : decode cX3_isSame 282 = .ok (.if_icmp .ne 51, 3) := by decide +kernel
theorem dX3_isSame_285 : decode cX3_isSame 285 = .ok (.aload 9, 2) := by decide +kernel
theorem dX3_isSame_287 : decode cX3_isSame 287 = .ok (.getfield 77, 3) := by decide +kernel
theorem dX3_isSame_290 : decode cX3_isSame 290 = .ok (.aload_n 0, 1) := by decide +kernel
theorem dX3_isSame_291 : decode cX3_isSame 291 = .ok (.getfield 9, 3) := by decide +kernel
theorem dX3_isSame_294 : decode cX3_isSame 294 = .ok (.iload 4, 2) := by decide +kernel
theorem dX3_isSame_296 : decode cX3_isSame 296 = .ok (.aaload, 1) := by decide +kernel
theorem dX3_isSame_297 : decode cX3_isSame 297 = .ok (.iconst 2, 1) := by decide +kernel
theorem dX3_isSame_298 : decode cX3_isSame 298 = .ok (.iaload, 1) := by decide +kernel
theorem dX3_isSame_299 : decode cX3_isSame 299 = .ok (.if_icmp .lt 34, 3) := by decide +kernel
theorem dX3_isSame_302 : decode cX3_isSame 302 = .ok (.aload 9, 2) := by decide +kernel
theorem dX3_isSame_304 : decode cX3_isSame 304 = .ok (.getfield 77, 3) := by decide +kernel
theorem dX3_isSame_307 : decode cX3_isSame 307 = .ok (.aload_n 0, 1) := by decide +kernel
theorem dX3_isSame_308 : decode cX3_isSame 308 = .ok (.getfield 9, 3) := by decide +kernel
theorem dX3_isSame_311 : decode cX3_isSame 311 = .ok (.iload 4, 2) := by decide +kernel
theorem dX3_isSame_313 : decode cX3_isSame 313 = .ok (.aaload, 1) := by decide +kernel
theorem dX3_isSame_314 : decode cX3_isSame 314 = .ok (.iconst 2, 1) := by decide +kernel
theorem dX3_isSame_315 : decode cX3_isSame 315 = .ok (.iaload, 1) := by decide +kernel
theorem dX3_isSame_316 : decode cX3_isSame 316 = .ok (.aload_n 0, 1) := by decide +kernel
theorem dX3_isSame_317 : decode cX3_isSame 317 = .ok (.getfield 9, 3) := by decide +kernel
theorem dX3_isSame_320 : decode cX3_isSame 320 = .ok (.iload 4, 2) := by decide +kernel
theorem dX3_isSame_322 : decode cX3_isSame 322 = .ok (.aaload, 1) := by decide +kernel
theorem dX3_isSame_323 : decode cX3_isSame 323 = .ok (.iconst 0, 1) := by decide +kernel
theorem dX3_isSame_324 : decode cX3_isSame 324 = .ok (.iaload, 1) := by decide +kernel
theorem dX3_isSame_325 : decode cX3_isSame 325 = .ok (.iadd, 1) := by decide +kernel
theorem dX3_isSame_326 : decode cX3_isSame 326 = .ok (.if_icmp .ge 7, 3) := by decide +kernel
theorem dX3_isSame_329 : decode cX3_isSame 329 = .ok (.iconst 1, 1) := by decide +kernel
theorem dX3_isSame_330 : decode cX3_isSame 330 = .ok (.goto 4, 3) := by decide +kernel
theorem dX3_isSame_333 : decode cX3_isSame 333 = .ok (.iconst 0, 1) := by decide +kernel
theorem dX3_isSame_334 : decode cX3_isSame 334 = .ok (.iadd, 1) := by decide +kernel
theorem dX3_isSame_335 : decode cX3_isSame 335 = .ok (.istore 5, 2) := by decide +kernel
theorem dX3_isSame_337 : decode cX3_isSame 337 = .ok (.iinc 8 1, 3) := by decide +kernel
theorem dX3_isSame_340 : decode cX3_isSame 340 = .ok (.goto (-80), 3) := by decide +kernel
theorem dX3_isSame_343 : decode cX3_isSame 343 = .ok (.bipush 6, 2) := by decide +kernel
theorem dX3_isSame_345 : decode cX3_isSame 345 = .ok (.newarray .int, 2) := by decide +kernel
theorem dX3_isSame_347 : decode cX3_isSame 347 = .ok (.dup, 1) := by decide +kernel
theorem dX3_isSame_348 : decode cX3_isSame 348 = .ok (.iconst 0, 1) := by decide +kernel
theorem dX3_isSame_349 : decode cX3_isSame 349 = .ok (.aload_n 0, 1) := by decide +kernel
theorem dX3_isSame_350 : decode cX3_isSame 350 = .ok (.getfield 9, 3) := by decide +kernel
theorem dX3_isSame_353 : decode cX3_isSame 353 = .ok (.iload 4, 2) := by decide +kernel
theorem dX3_isSame_355 : decode cX3_isSame 355 = .ok (.aaload, 1) := by decide +kernel
theorem dX3_isSame_356 : decode cX3_isSame 356 = .ok (.iconst 0, 1) := by decide +kernel
theorem dX3_isSame_357 : decode cX3_isSame 357 = .ok (.iaload, 1) := by decide +kernel
theorem dX3_isSame_358 : decode cX3_isSame 358 = .ok (.iastore, 1) := by decide +kernel
theorem dX3_isSame_359 : decode cX3_isSame 359 = .ok (.dup, 1) := by decide +kernel
theorem dX3_isSame_360 : decode cX3_isSame 360 = .ok (.iconst 1, 1) := by decide +kernel
theorem dX3_isSame_361 : decode cX3_isSame 361 = .ok (.aload_n 0, 1) := by decide +kernel
theorem dX3_isSame_362 : decode cX3_isSame 362 = .ok (.iload 4, 2) := by decide +kernel
theorem dX3_isSame_364 : decode cX3_isSame 364 = .ok (.invokevirtual 87, 3) := by decide +kernel
theorem dX3_isSame_367 : decode cX3_isSame 367 = .ok (.iastore, 1) := by decide +kernel
theorem dX3_isSame_368 : decode cX3_isSame 368 = .ok (.dup, 1) := by decide +kernel
theorem dX3_isSame_369 : decode cX3_isSame 369 = .ok (.iconst 2, 1) := by decide +kernel
theorem dX3_isSame_370 : decode cX3_isSame 370 = .ok (.aload_n 0, 1) := by decide +kernel
theorem dX3_isSame_371 : decode cX3_isSame 371 = .ok (.getfield 9, 3) := by decide +kernel
theorem dX3_isSame_374 : decode cX3_isSame 374 = .ok (.iload 4, 2) := by decide +kernel
theorem dX3_isSame_376 : decode cX3_isSame 376 = .ok (.aaload, 1) := by decide +kernel
theorem dX3_isSame_377 : decode cX3_isSame 377 = .ok (.iconst 2, 1) := by decide +kernel
theorem dX3_isSame_378 : decode cX3_isSame 378 = .ok (.iaload, 1) := by decide +kernel
theorem dX3_isSame_379 : decode cX3_isSame 379 = .ok (.iastore, 1) := by decide +kernel
theorem dX3_isSame_380 : decode cX3_isSame 380 = .ok (.dup, 1) := by decide +kernel
theorem dX3_isSame_381 : decode cX3_isSame 381 = .ok (.iconst 3, 1) := by decide +kernel
theorem dX3_isSame_382 : decode cX3_isSame 382 = .ok (.iload 5, 2) := by decide +kernel
theorem dX3_isSame_384 : decode cX3_isSame 384 = .ok (.iastore, 1) := by decide +kernel
theorem dX3_isSame_385 : decode cX3_isSame 385 = .ok (.dup, 1) := by decide +kernel
theorem dX3_isSame_386 : decode cX3_isSame 386 = .ok (.iconst 4, 1) := by decide +kernel
theorem dX3_isSame_387 : decode cX3_isSame 387 = .ok (.aload_n 0, 1) := by decide +kernel
theorem dX3_isSame_388 : decode cX3_isSame 388 = .ok (.getfield 9, 3) := by decide +kernel
theorem dX3_isSame_391 : decode cX3_isSame 391 = .ok (.iload 4, 2) := by decide +kernel
theorem dX3_isSame_393 : decode cX3_isSame 393 = .ok (.aaload, 1) := by decide +kernel
theorem dX3_isSame_394 : decode cX3_isSame 394 = .ok (.iconst 3, 1) := by decide +kernel
theorem dX3_isSame_395 : decode cX3_isSame 395 = .ok (.iaload, 1) := by decide +kernel
theorem dX3_isSame_396 : decode cX3_isSame 396 = .ok (.iastore, 1) := by decide +kernel
theorem dX3_isSame_397 : decode cX3_isSame 397 = .ok (.dup, 1) := by decide +kernel
theorem dX3_isSame_398 : decode cX3_isSame 398 = .ok (.iconst 5, 1) := by decide +kernel
theorem dX3_isSame_399 : decode cX3_isSame 399 = .ok (.aload_n 0, 1) := by decide +kernel
theorem dX3_isSame_400 : decode cX3_isSame 400 = .ok (.getfield 9, 3) := by decide +kernel
theorem dX3_isSame_403 : decode cX3_isSame 403 = .ok (.iload 4, 2) := by decide +kernel
theorem dX3_isSame_405 : decode cX3_isSame 405 = .ok (.aaload, 1) := by decide +kernel
theorem dX3_isSame_406 : decode cX3_isSame 406 = .ok (.iconst 4, 1) := by decide +kernel
theorem dX3_isSame_407 : decode cX3_isSame 407 = .ok (.iaload, 1) := by decide +kernel
theorem dX3_isSame_408 : decode cX3_isSame 408 = .ok (.iastore, 1) := by decide +kernel
theorem dX3_isSame_409 : decode cX3_isSame 409 = .ok (.astore 6, 2) := by decide +kernel
theorem dX3_isSame_411 : decode cX3_isSame 411 = .ok (.iconst 0, 1) := by decide +kernel
theorem dX3_isSame_412 : decode cX3_isSame 412 = .ok (.istore 7, 2) := by decide +kernel
theorem dX3_isSame_414 : decode cX3_isSame 414 = .ok (.iload 7, 2) := by decide +kernel
theorem dX3_isSame_416 : decode cX3_isSame 416 = .ok (.bipush 6, 2) := by decide +kernel
theorem dX3_isSame_418 : decode cX3_isSame 418 = .ok (.if_icmp .ge 27, 3) := by decide +kernel
theorem dX3_isSame_421 : decode cX3_isSame 421 = .ok (.aload_n 1, 1) := by decide +kernel
theorem dX3_isSame_422 : decode cX3_isSame 422 = .ok (.iload 4, 2) := by decide +kernel
theorem dX3_isSame_424 : decode cX3_isSame 424 = .ok (.iload 7, 2) := by decide +kernel
theorem dX3_isSame_426 : decode cX3_isSame 426 = .ok (.invokevirtual 123, 3) := by decide +kernel
theorem dX3_isSame_429 : decode cX3_isSame 429 = .ok (.aload 6, 2) := by decide +kernel
theorem dX3_isSame_431 : decode cX3_isSame 431 = .ok (.iload 7, 2) := by decide +kernel
theorem dX3_isSame_433 : decode cX3_isSame 433 = .ok (.iaload, 1) := by decide +kernel
theorem dX3_isSame_434 : decode cX3_isSame 434 = .ok (.if_icmp .eq 5, 3) := by decide +kernel
theorem dX3_isSame_437 : decode cX3_isSame 437 = .ok (.iconst 0, 1) := by decide +kernel
theorem dX3_isSame_438 : decode cX3_isSame 438 = .ok (.ireturn, 1) := by decide +kernel
theorem dX3_isSame_439 : decode cX3_isSame 439 = .ok (.iinc 7 1, 3) := by decide +kernel
theorem dX3_isSame_442 : decode cX3_isSame 442 = .ok (.goto (-28), 3) := by decide +kernel
theorem dX3_isSame_445 : decode cX3_isSame 445 = .ok (.iinc 4 1, 3) := by decide +kernel
theorem dX3_isSame_448 : decode cX3_isSame 448 = .ok (.goto (-215), 3) := by decide +kernel
theorem dX3_isSame_451 : decode cX3_isSame 451 = .ok (.iconst 0, 1) := by decide +kernel
theorem dX3_isSame_452 : decode cX3_isSame 452 = .ok (.istore 4, 2) := by decide +kernel
theorem dX3_isSame_454 : decode cX3_isSame 454 = .ok (.iload 4, 2) := by decide +kernel
theorem dX3_isSame_456 : decode cX3_isSame 456 = .ok (.aload_n 0, 1) := by decide +kernel
theorem dX3_isSame_457 : decode cX3_isSame 457 = .ok (.getfield 27, 3) := by decide +kernel
theorem dX3_isSame_460 : decode cX3_isSame 460 = .ok (.arraylength, 1) := by decide +kernel
theorem dX3_isSame_461 : decode cX3_isSame 461 = .ok (.if_icmp .ge 196, 3) := by decide +kernel
theorem dX3_isSame_464 : decode cX3_isSame 464 = .ok (.bipush 100, 2) := by decide +kernel
theorem dX3_isSame_466 : decode cX3_isSame 466 = .ok (.newarray .int, 2) := by decide +kernel
theorem dX3_isSame_468 : decode cX3_isSame 468 = .ok (.astore 5, 2) := by decide +kernel
theorem dX3_isSame_470 : decode cX3_isSame 470 = .ok (.iconst 0, 1) := by decide +kernel
theorem dX3_isSame_471 : decode cX3_isSame 471 = .ok (.istore 6, 2) := by decide +kernel
theorem dX3_isSame_473 : decode cX3_isSame 473 = .ok (.iconst 0, 1) := by decide +kernel
theorem dX3_isSame_474 : decode cX3_isSame 474 = .ok (.istore 7, 2) := by decide +kernel
theorem dX3_isSame_476 : decode cX3_isSame 476 = .ok (.aload_n 0, 1) := by decide +kernel
theorem dX3_isSame_477 : decode cX3_isSame 477 = .ok (.getfield 23, 3) := by decide +kernel
theorem dX3_isSame_480 : decode cX3_isSame 480 = .ok (.astore 8, 2) := by decide +kernel
theorem dX3_isSame_482 : decode cX3_isSame 482 = .ok (.aload 8, 2) := by decide +kernel
theorem dX3_isSame_484 : decode cX3_isSame 484 = .ok (.arraylength, 1) := by decide +kernel
theorem dX3_isSame_485 : decode cX3_isSame 485 = .ok (.istore 9, 2) := by decide +kernel
theorem dX3_isSame_487 : decode cX3_isSame 487 = .ok (.iconst 0, 1) := by decide +kernel
theorem dX3_isSame_488 : decode cX3_isSame 488 = .ok (.istore 10, 2) := by decide +kernel
theorem dX3_isSame_490 : decode cX3_isSame 490 = .ok (.iload 10, 2) := by decide +kernel
theorem dX3_isSame_492 : decode cX3_isSame 492 = .ok (.iload 9, 2) := by decide +kernel
theorem dX3_isSame_494 : decode cX3_isSame 494 = .ok (.if_icmp .ge 31, 3) := by decide +kernel
theorem dX3_isSame_497 : decode cX3_isSame 497 = .ok (.aload 8, 2) := by decide +kernel
theorem dX3_isSame_499 : decode cX3_isSame 499 = .ok (.iload 10, 2) := by decide +kernel
theorem dX3_isSame_501 : decode cX3_isSame 501 = .ok (.aaload, 1) := by decide +kernel
theorem dX3_isSame_502 : decode cX3_isSame 502 = .ok (.astore 11, 2) := by decide +kernel
theorem dX3_isSame_504 : decode cX3_isSame 504 = .ok (.aload 5, 2) := by decide +kernel
theorem dX3_isSame_506 : decode cX3_isSame 506 = .ok (.aload 11, 2) := by decide +kernel
theorem dX3_isSame_508 : decode cX3_isSame 508 = .ok (.getfield 97, 3) := by decide +kernel
theorem dX3_isSame_511 : decode cX3_isSame 511 = .ok (.iload 4, 2) := by decide +kernel
theorem dX3_isSame_513 : decode cX3_isSame 513 = .ok (.iaload, 1) := by decide +kernel
theorem dX3_isSame_514 : decode cX3_isSame 514 = .ok (.dup2, 1) := by decide +kernel
theorem dX3_isSame_515 : decode cX3_isSame 515 = .ok (.iaload, 1) := by decide +kernel
theorem dX3_isSame_516 : decode cX3_isSame 516 = .ok (.iconst 1, 1) := by decide +kernel
theorem dX3_isSame_517 : decode cX3_isSame 517 = .ok (.iadd, 1) := by decide +kernel
theorem dX3_isSame_518 : decode cX3_isSame 518 = .ok (.iastore, 1) := by decide +kernel
theorem dX3_isSame_519 : decode cX3_isSame 519 = .ok (.iinc 10 1, 3) := by decide +kernel
theorem dX3_isSame_522 : decode cX3_isSame 522 = .ok (.goto (-32), 3) := by decide +kernel
theorem dX3_isSame_525 : decode cX3_isSame 525 = .ok (.bipush 99, 2) := by decide +kernel
theorem dX3_isSame_527 : decode cX3_isSame 527 = .ok (.istore 8, 2) := by decide +kernel
theorem dX3_isSame_529 : decode cX3_isSame 529 = .ok (.iload 8, 2) := by decide +kernel
theorem dX3_isSame_531 : decode cX3_isSame 531 = .ok (.ifCond .le 57, 3) := by decide +kernel
theorem dX3_isSame_534 : decode cX3_isSame 534 = .ok (.iload 7, 2) := by decide +kernel
theorem dX3_isSame_536 : decode cX3_isSame 536 = .ok (.aload 5, 2) := by decide +kernel
theorem dX3_isSame_538 : decode cX3_isSame 538 = .ok (.iload 8, 2) := by decide +kernel
theorem dX3_isSame_540 : decode cX3_isSame 540 = .ok (.iaload, 1) := by decide +kernel
theorem dX3_isSame_541 : decode cX3_isSame 541 = .ok (.ifCond .le 7, 3) := by decide +kernel
theorem dX3_isSame_544 : decode cX3_isSame 544 = .ok (.iconst 1, 1) := by decide +kernel
theorem dX3_isSame_545 : decode cX3_isSame 545 = .ok (.goto 4, 3) := by decide +kernel
theorem dX3_isSame_548 : decode cX3_isSame 548 = .ok (.iconst 0, 1) := by decide +kernel
theorem dX3_isSame_549 : decode cX3_isSame 549 = .ok (.iadd, 1) := by decide +kernel
theorem dX3_isSame_550 : decode cX3_isSame 550 = .ok (.istore 7, 2) := by decide +kernel
theorem dX3_isSame_552 : decode cX3_isSame 552 = .ok (.aload 5, 2) := by decide +kernel
theorem dX3_isSame_554 : decode cX3_isSame 554 = .ok (.iload 8, 2) := by decide +kernel
theorem dX3_isSame_556 : decode cX3_isSame 556 = .ok (.iaload, 1) := by decide +kernel
theorem dX3_isSame_557 : decode cX3_isSame 557 = .ok (.ifCond .le 25, 3) := by decide +kernel
theorem dX3_isSame_560 : decode cX3_isSame 560 = .ok (.iload 6, 2) := by decide +kernel
theorem dX3_isSame_562 : decode cX3_isSame 562 = .ok (.ifCond .eq 16, 3) := by decide +kernel
theorem dX3_isSame_565 : decode cX3_isSame 565 = .ok (.aload 5, 2) := by decide +kernel
theorem dX3_isSame_567 : decode cX3_isSame 567 = .ok (.iload 8, 2) := by decide +kernel
theorem dX3_isSame_569 : decode cX3_isSame 569 = .ok (.iaload, 1) := by decide +kernel
theorem dX3_isSame_570 : decode cX3_isSame 570 = .ok (.aload 5, 2) := by decide +kernel
theorem dX3_isSame_572 : decode cX3_isSame 572 = .ok (.iload 6, 2) := by decide +kernel
theorem dX3_isSame_574 : decode cX3_isSame 574 = .ok (.iaload, 1) := by decide +kernel
theorem dX3_isSame_575 : decode cX3_isSame 575 = .ok (.if_icmp .lt 7, 3) := by decide +kernel
theorem dX3_isSame_578 : decode cX3_isSame 578 = .ok (.iload 8, 2) := by decide +kernel
theorem dX3_isSame_580 : decode cX3_isSame 580 = .ok (.istore 6, 2) := by decide +kernel
theorem dX3_isSame_582 : decode cX3_isSame 582 = .ok (.iinc 8 (-1), 3) := by decide +kernel
theorem dX3_isSame_585 : decode cX3_isSame 585 = .ok (.goto (-56), 3) := by decide +kernel
theorem dX3_isSame_588 : decode cX3_isSame 588 = .ok (.aload_n 1, 1) := by decide +kernel
theorem dX3_isSame_589 : decode cX3_isSame 589 = .ok (.iload 4, 2) := by decide +kernel
theorem dX3_isSame_591 : decode cX3_isSame 591 = .ok (.iconst 0, 1) := by decide +kernel
theorem dX3_isSame_592 : decode cX3_isSame 592 = .ok (.invokevirtual 126, 3) := by decide +kernel
theorem dX3_isSame_595 : decode cX3_isSame 595 = .ok (.aload_n 0, 1) := by decide +kernel
theorem dX3_isSame_596 : decode cX3_isSame 596 = .ok (.getfield 27, 3) := by decide +kernel
theorem dX3_isSame_599 : decode cX3_isSame 599 = .ok (.iload 4, 2) := by decide +kernel
theorem dX3_isSame_601 : decode cX3_isSame 601 = .ok (.iaload, 1) := by decide +kernel
theorem dX3_isSame_602 : decode cX3_isSame 602 = .ok (.if_icmp .ne 47, 3) := by decide +kernel
theorem dX3_isSame_605 : decode cX3_isSame 605 = .ok (.aload_n 1, 1) := by decide +kernel
theorem dX3_isSame_606 : decode cX3_isSame 606 = .ok (.iload 4, 2) := by decide +kernel
theorem dX3_isSame_608 : decode cX3_isSame 608 = .ok (.iconst 1, 1) := by decide +kernel
theorem dX3_isSame_609 : decode cX3_isSame 609 = .ok (.invokevirtual 126, 3) := by decide +kernel
theorem dX3_isSame_612 : decode cX3_isSame 612 = .ok (.aload_n 0, 1) := by decide +kernel
theorem dX3_isSame_613 : decode cX3_isSame 613 = .ok (.getfield 23, 3) := by decide +kernel
theorem dX3_isSame_616 : decode cX3_isSame 616 = .ok (.arraylength, 1) := by decide +kernel
theorem dX3_isSame_617 : decode cX3_isSame 617 = .ok (.aload 5, 2) := by decide +kernel
theorem dX3_isSame_619 : decode cX3_isSame 619 = .ok (.iconst 0, 1) := by decide +kernel
theorem dX3_isSame_620 : decode cX3_isSame 620 = .ok (.iaload, 1) := by decide +kernel
theorem dX3_isSame_621 : decode cX3_isSame 621 = .ok (.isub, 1) := by decide +kernel
theorem dX3_isSame_622 : decode cX3_isSame 622 = .ok (.if_icmp .ne 27, 3) := by decide +kernel
theorem dX3_isSame_625 : decode cX3_isSame 625 = .ok (.aload_n 1, 1) := by decide +kernel
theorem dX3_isSame_626 : decode cX3_isSame 626 = .ok (.iload 4, 2) := by decide +kernel
theorem dX3_isSame_628 : decode cX3_isSame 628 = .ok (.iconst 2, 1) := by decide +kernel
theorem dX3_isSame_629 : decode cX3_isSame 629 = .ok (.invokevirtual 126, 3) := by decide +kernel
theorem dX3_isSame_632 : decode cX3_isSame 632 = .ok (.iload 7, 2) := by decide +kernel
theorem dX3_isSame_634 : decode cX3_isSame 634 = .ok (.if_icmp .ne 15, 3) := by decide +kernel
theorem dX3_isSame_637 : decode cX3_isSame 637 = .ok (.aload_n 1, 1) := by decide +kernel
theorem dX3_isSame_638 : decode cX3_isSame 638 = .ok (.iload 4, 2) := by decide +kernel
theorem dX3_isSame_640 : decode cX3_isSame 640 = .ok (.iconst 3, 1) := by decide +kernel
theorem dX3_isSame_641 : decode cX3_isSame 641 = .ok (.invokevirtual 126, 3) := by decide +kernel
theorem dX3_isSame_644 : decode cX3_isSame 644 = .ok (.iload 6, 2) := by decide +kernel
theorem dX3_isSame_646 : decode cX3_isSame 646 = .ok (.if_icmp .eq 5, 3) := by decide +kernel
theorem dX3_isSame_649 : decode cX3_isSame 649 = .ok (.iconst 0, 1) := by decide +kernel
theorem dX3_isSame_650 : decode cX3_isSame 650 = .ok (.ireturn, 1) := by decide +kernel
theorem dX3_isSame_651 : decode cX3_isSame 651 = .ok (.iinc 4 1, 3) := by decide +kernel
theorem dX3_isSame_654 : decode cX3_isSame 654 = .ok (.goto (-200), 3) := by decide +kernel
theorem dX3_isSame_657 : decode cX3_isSame 657 = .ok (.bipush 11, 2) := by decide +kernel
theorem dX3_isSame_659 : decode cX3_isSame 659 = .ok (.newarray .int, 2) := by decide +kernel
theorem dX3_isSame_661 : decode cX3_isSame 661 = .ok (.dup, 1) := by decide +kernel
theorem dX3_isSame_662 : decode cX3_isSame 662 = .ok (.iconst 0, 1) := by decide +kernel
theorem dX3_isSame_663 : decode cX3_isSame 663 = .ok (.aload_n 0, 1) := by decide +kernel
theorem dX3_isSame_664 : decode cX3_isSame 664 = .ok (.getfield 52, 3) := by decide +kernel
theorem dX3_isSame_667 : decode cX3_isSame 667 = .ok (.iastore, 1) := by decide +kernel
theorem dX3_isSame_668 : decode cX3_isSame 668 = .ok (.dup, 1) := by decide +kernel
theorem dX3_isSame_669 : decode cX3_isSame 669 = .ok (.iconst 1, 1) := by decide +kernel
theorem dX3_isSame_670 : decode cX3_isSame 670 = .ok (.aload_n 0, 1) := by decide +kernel
theorem dX3_isSame_671 : decode cX3_isSame 671 = .ok (.getfield 9, 3) := by decide +kernel
theorem dX3_isSame_674 : decode cX3_isSame 674 = .ok (.arraylength, 1) := by decide +kernel
theorem dX3_isSame_675 : decode cX3_isSame 675 = .ok (.iastore, 1) := by decide +kernel
theorem dX3_isSame_676 : decode cX3_isSame 676 = .ok (.dup, 1) := by decide +kernel
theorem dX3_isSame_677 : decode cX3_isSame 677 = .ok (.iconst 2, 1) := by decide +kernel
theorem dX3_isSame_678 : decode cX3_isSame 678 = .ok (.aload_n 0, 1) := by decide +kernel
theorem dX3_isSame_679 : decode cX3_isSame 679 = .ok (.invokevirtual 129, 3) := by decide +kernel
theorem dX3_isSame_682 : decode cX3_isSame 682 = .ok (.iastore, 1) := by decide +kernel
theorem dX3_isSame_683 : decode cX3_isSame 683 = .ok (.dup, 1) := by decide +kernel
theorem dX3_isSame_684 : decode cX3_isSame 684 = .ok (.iconst 3, 1) := by decide +kernel
theorem dX3_isSame_685 : decode cX3_isSame 685 = .ok (.aload_n 0, 1) := by decide +kernel
theorem dX3_isSame_686 : decode cX3_isSame 686 = .ok (.getfield 23, 3) := by decide +kernel
theorem dX3_isSame_689 : decode cX3_isSame 689 = .ok (.arraylength, 1) := by decide +kernel
theorem dX3_isSame_690 : decode cX3_isSame 690 = .ok (.iastore, 1) := by decide +kernel
theorem dX3_isSame_691 : decode cX3_isSame 691 = .ok (.dup, 1) := by decide +kernel
theorem dX3_isSame_692 : decode cX3_isSame 692 = .ok (.iconst 4, 1) := by decide +kernel
theorem dX3_isSame_693 : decode cX3_isSame 693 = .ok (.aload_n 0, 1) := by decide +kernel
theorem dX3_isSame_694 : decode cX3_isSame 694 = .ok (.iconst 0, 1) := by decide +kernel
theorem dX3_isSame_695 : decode cX3_isSame 695 = .ok (.invokevirtual 133, 3) := by decide +kernel
theorem dX3_isSame_698 : decode cX3_isSame 698 = .ok (.iastore, 1) := by decide +kernel
theorem dX3_isSame_699 : decode cX3_isSame 699 = .ok (.dup, 1) := by decide +kernel
theorem dX3_isSame_700 : decode cX3_isSame 700 = .ok (.iconst 5, 1) := by decide +kernel
theorem dX3_isSame_701 : decode cX3_isSame 701 = .ok (.aload_n 0, 1) := by decide +kernel
theorem dX3_isSame_702 : decode cX3_isSame 702 = .ok (.iconst 1, 1) := by decide +kernel
theorem dX3_isSame_703 : decode cX3_isSame 703 = .ok (.invokevirtual 133, 3) := by decide +kernel
theorem dX3_isSame_706 : decode cX3_isSame 706 = .ok (.iastore, 1) := by decide +kernel
theorem dX3_isSame_707 : decode cX3_isSame 707 = .ok (.dup, 1) := by decide +kernel
theorem dX3_isSame_708 : decode cX3_isSame 708 = .ok (.bipush 6, 2) := by decide +kernel
theorem dX3_isSame_710 : decode cX3_isSame 710 = .ok (.aload_n 0, 1) := by decide +kernel
theorem dX3_isSame_711 : decode cX3_isSame 711 = .ok (.iconst 2, 1) := by decide +kernel
theorem dX3_isSame_712 : decode cX3_isSame 712 = .ok (.invokevirtual 133, 3) := by decide +kernel
theorem dX3_isSame_715 : decode cX3_isSame 715 = .ok (.iastore, 1) := by decide +kernel
theorem dX3_isSame_716 : decode cX3_isSame 716 = .ok (.dup, 1) := by decide +kernel
theorem dX3_isSame_717 : decode cX3_isSame 717 = .ok (.bipush 7, 2) := by decide +kernel
theorem dX3_isSame_719 : decode cX3_isSame 719 = .ok (.aload_n 0, 1) := by decide +kernel
theorem dX3_isSame_720 : decode cX3_isSame 720 = .ok (.invokevirtual 136, 3) := by decide +kernel
theorem dX3_isSame_723 : decode cX3_isSame 723 = .ok (.iastore, 1) := by decide +kernel
theorem dX3_isSame_724 : decode cX3_isSame 724 = .ok (.dup, 1) := by decide +kernel
theorem dX3_isSame_725 : decode cX3_isSame 725 = .ok (.bipush 8, 2) := by decide +kernel
theorem dX3_isSame_727 : decode cX3_isSame 727 = .ok (.aload_n 0, 1) := by decide +kernel
theorem dX3_isSame_728 : decode cX3_isSame 728 = .ok (.getfield 27, 3) := by decide +kernel
theorem dX3_isSame_731 : decode cX3_isSame 731 = .ok (.arraylength, 1) := by decide +kernel
theorem dX3_isSame_732 : decode cX3_isSame 732 = .ok (.iastore, 1) := by decide +kernel
theorem dX3_isSame_733 : decode cX3_isSame 733 = .ok (.dup, 1) := by decide +kernel
theorem dX3_isSame_734 : decode cX3_isSame 734 = .ok (.bipush 9, 2) := by decide +kernel
theorem dX3_isSame_736 : decode cX3_isSame 736 = .ok (.iload_n 2, 1) := by decide +kernel
theorem dX3_isSame_737 : decode cX3_isSame 737 = .ok (.iastore, 1) := by decide +kernel
theorem dX3_isSame_738 : decode cX3_isSame 738 = .ok (.dup, 1) := by decide +kernel
theorem dX3_isSame_739 : decode cX3_isSame 739 = .ok (.bipush 10, 2) := by decide +kernel
theorem dX3_isSame_741 : decode cX3_isSame 741 = .ok (.iload_n 2, 1) := by decide +kernel
theorem dX3_isSame_742 : decode cX3_isSame 742 = .ok (.ifCond .ge 7, 3) := by decide +kernel
theorem dX3_isSame_745 : decode cX3_isSame 745 = .ok (.iconst 0, 1) := by decide +kernel
theorem dX3_isSame_746 : decode cX3_isSame 746 = .ok (.goto 6, 3) := by decide +kernel
theorem dX3_isSame_749 : decode cX3_isSame 749 = .ok (.iload_n 2, 1) := by decide +kernel
theorem dX3_isSame_750 : decode cX3_isSame 750 = .ok (.iload_n 3, 1) := by decide +kernel
theorem dX3_isSame_751 : decode cX3_isSame 751 = .ok (.isub, 1) := by decide +kernel
theorem dX3_isSame_752 : decode cX3_isSame 752 = .ok (.iastore, 1) := by decide +kernel
theorem dX3_isSame_753 : decode cX3_isSame 753 = .ok (.astore 4, 2) := by decide +kernel
theorem dX3_isSame_755 : decode cX3_isSame 755 = .ok (.iconst 0, 1) := by decide +kernel
theorem dX3_isSame_756 : decode cX3_isSame 756 = .ok (.istore 5, 2) := by decide +kernel
theorem dX3_isSame_758 : decode cX3_isSame 758 = .ok (.iload 5, 2) := by decide +kernel
theorem dX3_isSame_760 : decode cX3_isSame 760 = .ok (.bipush 11, 2) := by decide +kernel
theorem dX3_isSame_762 : decode cX3_isSame 762 = .ok (.if_icmp .ge 25, 3) := by decide +kernel
theorem dX3_isSame_765 : decode cX3_isSame 765 = .ok (.aload_n 1, 1) := by decide +kernel
theorem dX3_isSame_766 : decode cX3_isSame 766 = .ok (.iload 5, 2) := by decide +kernel
theorem dX3_isSame_768 : decode cX3_isSame 768 = .ok (.invokevirtual 139, 3) := by decide +kernel
theorem dX3_isSame_771 : decode cX3_isSame 771 = .ok (.aload 4, 2) := by decide +kernel
theorem dX3_isSame_773 : decode cX3_isSame 773 = .ok (.iload 5, 2) := by decide +kernel
theorem dX3_isSame_775 : decode cX3_isSame 775 = .ok (.iaload, 1) := by decide +kernel
theorem dX3_isSame_776 : decode cX3_isSame 776 = .ok (.if_icmp .eq 5, 3) := by decide +kernel
theorem dX3_isSame_779 : decode cX3_isSame 779 = .ok (.iconst 0, 1) := by decide +kernel
theorem dX3_isSame_780 : decode cX3_isSame 780 = .ok (.ireturn, 1) := by decide +kernel
theorem dX3_isSame_781 : decode cX3_isSame 781 = .ok (.iinc 5 1, 3) := by decide +kernel
theorem dX3_isSame_784 : decode cX3_isSame 784 = .ok (.goto (-26), 3) := by decide +kernel
theorem dX3_isSame_787 : decode cX3_isSame 787 = .ok (.aload_n 1, 1) := by decide +kernel
theorem dX3_isSame_788 : decode cX3_isSame 788 = .ok (.invokevirtual 142, 3) := by decide +kernel
theorem dX3_isSame_791 : decode cX3_isSame 791 = .ok (.aload_n 0, 1) := by decide +kernel
theorem dX3_isSame_792 : decode cX3_isSame 792 = .ok (.iconst 1, 1) := by decide +kernel
theorem dX3_isSame_793 : decode cX3_isSame 793 = .ok (.invokevirtual 133, 3) := by decide +kernel
theorem dX3_isSame_796 : decode cX3_isSame 796 = .ok (.ifCond .ne 7, 3) := by decide +kernel
theorem dX3_isSame_799 : decode cX3_isSame 799 = .ok (.dconst 0, 1) := by decide +kernel
theorem dX3_isSame_800 : decode cX3_isSame 800 = .ok (.goto 15, 3) := by decide +kernel
theorem dX3_isSame_803 : decode cX3_isSame 803 = .ok (.aload_n 0, 1) := by decide +kernel
theorem dX3_isSame_804 : decode cX3_isSame 804 = .ok (.invokevirtual 136, 3) := by decide +kernel
theorem dX3_isSame_807 : decode cX3_isSame 807 = .ok (.i2d, 1) := by decide +kernel
theorem dX3_isSame_808 : decode cX3_isSame 808 = .ok (.aload_n 0, 1) := by decide +kernel
theorem dX3_isSame_809 : decode cX3_isSame 809 = .ok (.iconst 1, 1) := by decide +kernel
theorem dX3_isSame_810 : decode cX3_isSame 810 = .ok (.invokevirtual 133, 3) := by decide +kernel
theorem dX3_isSame_813 : decode cX3_isSame 813 = .ok (.i2d, 1) := by decide +kernel
theorem dX3_isSame_814 : decode cX3_isSame 814 = .ok (.ddiv, 1) := by decide +kernel
theorem dX3_isSame_815 : decode cX3_isSame 815 = .ok (.dcmp .l, 1) := by decide +kernel
theorem dX3_isSame_816 : decode cX3_isSame 816 = .ok (.ifCond .ne 7, 3) := by decide +kernel
theorem dX3_isSame_819 : decode cX3_isSame 819 = .ok (.iconst 1, 1) := by decide +kernel
theorem dX3_isSame_820 : decode cX3_isSame 820 = .ok (.goto 4, 3) := by decide +kernel
theorem dX3_isSame_823 : decode cX3_isSame 823 = .ok (.iconst 0, 1) := by decide +kernel
theorem dX3_isSame_824 : decode cX3_isSame 824 = .ok (.ireturn, 1) := by decide +kernel
