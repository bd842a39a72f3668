theorem dL_below_0 : decode cL_below 0 = .ok (.iload_n 0, 1) := by decide +kernel
theorem dL_below_1 : decode cL_below 1 = .ok (.ldc 7, 2) := by decide +kernel
theorem dL_below_3 : decode cL_below 3 = .ok (.iand, 1) := by decide +kernel
theorem dL_below_4 : decode cL_below 4 = .ok (.iload_n 1, 1) := by decide +kernel
theorem dL_below_5 : decode cL_below 5 = .ok (.irem, 1) := by decide +kernel
theorem dL_below_6 : decode cL_below 6 = .ok (.ireturn, 1) := by decide +kernel
theorem dL_cell_0 : decode cL_cell 0 = .ok (.iload_n 1, 1) := by decide +kernel
theorem dL_cell_1 : decode cL_cell 1 = .ok (.aload_n 0, 1) := by decide +kernel
theorem dL_cell_2 : decode cL_cell 2 = .ok (.arraylength, 1) := by decide +kernel
theorem dL_cell_3 : decode cL_cell 3 = .ok (.if_icmp .ge 9, 3) := by decide +kernel
theorem dL_cell_6 : decode cL_cell 6 = .ok (.aload_n 0, 1) := by decide +kernel
theorem dL_cell_7 : decode cL_cell 7 = .ok (.iload_n 1, 1) := by decide +kernel
theorem dL_cell_8 : decode cL_cell 8 = .ok (.iaload, 1) := by decide +kernel
theorem dL_cell_9 : decode cL_cell 9 = .ok (.goto 9, 3) := by decide +kernel
theorem dL_cell_12 : decode cL_cell 12 = .ok (.ldc 8, 2) := by decide +kernel
theorem dL_cell_14 : decode cL_cell 14 = .ok (.iload_n 1, 1) := by decide +kernel
theorem dL_cell_15 : decode cL_cell 15 = .ok (.iconst 3, 1) := by decide +kernel
theorem dL_cell_16 : decode cL_cell 16 = .ok (.iadd, 1) := by decide +kernel
theorem dL_cell_17 : decode cL_cell 17 = .ok (.imul, 1) := by decide +kernel
theorem dL_cell_18 : decode cL_cell 18 = .ok (.ireturn, 1) := by decide +kernel
set_option maxRecDepth 20000 in
theorem ggL_build_X3_init : GoodIn wsL_build wsX3_init := goodIn_r _ [14, 15, 16, 17, 18, 19, 9, 20, 21, 22, 23, 24, 25, 26, 27, 28, 29, 130, 131, 132, 133, 134, 135, 136, 137, 138, 139] (by decide +kernel) (by decide +kernel)
set_option maxRecDepth 20000 in
theorem gL_build_X3_init_n11 : GoodIn wsL_build (wsX3_init) := ggL_build_X3_init
set_option maxRecDepth 20000 in
theorem ggL_build_L_cell : GoodIn wsL_build wsL_cell := goodIn_r _ [33, 34] (by decide +kernel) (by decide +kernel)
set_option maxRecDepth 20000 in
theorem gL_build_L_cell : GoodIn wsL_build (va_wsS RL 12 yL_cell wsL_cell) := goodIn_app (goodIn_of _ (by decide +kernel)) ggL_build_L_cell
set_option maxRecDepth 20000 in
theorem ggL_build_L_below : GoodIn wsL_build wsL_below := goodIn_r _ [37, 38] (by decide +kernel) (by decide +kernel)
set_option maxRecDepth 20000 in
theorem gL_build_L_below : GoodIn wsL_build (va_wsS RL 18 yL_below wsL_below) := goodIn_app (goodIn_of _ (by decide +kernel)) ggL_build_L_below
set_option maxRecDepth 20000 in
theorem ggL_build_X2_addStretch : GoodIn wsL_build wsX2_addStretch := goodIn_ca (goodIn_ca (goodIn_r _ [43, 44, 45, 46, 47, 48, 49, 50, 51, 52, 53, 54, 55, 56, 57, 58, 59, 60, 61, 149, 150, 151, 152, 153, 154, 155, 156, 157, 158, 159, 160, 161, 162, 163, 164, 165, 166, 167, 168, 169, 170, 171, 172, 173, 174, 175, 176, 177, 178, 179] (by decide +kernel) (by decide +kernel)) (goodIn_sub (fun _ h => List.mem_cons_of_mem _ (List.mem_append_left _ (List.mem_append_left _ (List.mem_append_right _ h)))) (by decide +kernel))) (goodIn_sub (fun _ h => List.mem_cons_of_mem _ (List.mem_append_left _ (List.mem_append_right _ h))) (by decide +kernel))
set_option maxRecDepth 20000 in
theorem gL_build_X2_addStretch : GoodIn wsL_build (wsV RL 27 RX2 yX2_addStretch wsX2_addStretch) := goodIn_app (goodIn_of _ (by decide +kernel)) ggL_build_X2_addStretch
set_option maxRecDepth 20000 in
theorem ggL_build_X3_stretch : GoodIn wsL_build wsX3_stretch := goodIn_r _ [65, 19, 18, 9, 130, 131, 132, 133, 134, 135, 136, 137, 138, 139] (by decide +kernel) (by decide +kernel)
set_option maxRecDepth 20000 in
theorem gL_build_X3_stretch : GoodIn wsL_build (wsV RL 32 RX3 yX3_stretch wsX3_stretch) := goodIn_app (goodIn_of _ (by decide +kernel)) ggL_build_X3_stretch
set_option maxRecDepth 20000 in
theorem ggL_build_X2_setWind : GoodIn wsL_build wsX2_setWind := goodIn_ca (goodIn_ca (goodIn_r _ [69, 70, 71, 44, 45, 48, 72, 149, 150, 151, 152, 153, 154, 155, 156, 157, 158, 159, 160, 161, 162] (by decide +kernel) (by decide +kernel)) (goodIn_sub (fun _ h => List.mem_cons_of_mem _ (List.mem_append_right _ h)) (by decide +kernel))) (goodIn_sub (fun _ h => List.mem_cons_of_mem _ (List.mem_append_left _ (List.mem_append_left _ (List.mem_append_right _ h)))) (by decide +kernel))
set_option maxRecDepth 20000 in
theorem gL_build_X2_setWind : GoodIn wsL_build (wsV RL 40 RX2 yX2_setWind wsX2_setWind) := goodIn_app (goodIn_of _ (by decide +kernel)) ggL_build_X2_setWind
set_option maxRecDepth 20000 in
theorem ggL_build_X2_come : GoodIn wsL_build wsX2_come := goodIn_ca (goodIn_ca (goodIn_r _ [76, 44, 45, 46, 47, 48, 77, 50, 78, 79, 80, 81, 82, 55, 83, 84, 85, 86, 149, 150, 151, 152, 153, 154, 155, 156, 157, 158, 159, 160, 161, 162, 163, 164, 165, 166, 167, 168, 169, 170, 171, 172, 173, 174, 175, 176, 177, 178, 179] (by decide +kernel) (by decide +kernel)) (goodIn_sub (fun _ h => List.mem_cons_of_mem _ (List.mem_append_left _ (List.mem_append_left _ (List.mem_append_right _ h)))) (by decide +kernel))) (goodIn_sub (fun _ h => List.mem_cons_of_mem _ (List.mem_append_left _ (List.mem_append_right _ h))) (by decide +kernel))
set_option maxRecDepth 20000 in
theorem gL_build_X2_come : GoodIn wsL_build (wsV RL 43 RX2 yX2_come wsX2_come) := goodIn_app (goodIn_of _ (by decide +kernel)) ggL_build_X2_come
set_option maxRecDepth 20000 in
theorem ggL_build_X3_come : GoodIn wsL_build wsX3_come := goodIn_r _ [90, 23, 22, 91, 92, 93, 94, 95, 96, 97, 98, 99, 16, 17, 100, 101, 9, 102, 130, 131, 132, 133, 134, 135, 136, 137, 138, 139, 140, 141, 142, 143, 144, 145, 146, 147, 148] (by decide +kernel) (by decide +kernel)
set_option maxRecDepth 20000 in
theorem gL_build_X3_come : GoodIn wsL_build (wsV RL 47 RX3 yX3_come wsX3_come) := goodIn_app (goodIn_of _ (by decide +kernel)) ggL_build_X3_come
set_option maxRecDepth 20000 in
theorem ggL_build_X2_addSong : GoodIn wsL_build wsX2_addSong := goodIn_ca (goodIn_ca (goodIn_r _ [106, 44, 45, 46, 47, 48, 107, 108, 109, 110, 55, 111, 112, 113, 149, 150, 151, 152, 153, 154, 155, 156, 157, 158, 159, 160, 161, 162] (by decide +kernel) (by decide +kernel)) (goodIn_sub (fun _ h => List.mem_cons_of_mem _ (List.mem_append_left _ (List.mem_append_left _ (List.mem_append_right _ h)))) (by decide +kernel))) (goodIn_sub (fun _ h => List.mem_cons_of_mem _ (List.mem_append_left _ (List.mem_append_right _ h))) (by decide +kernel))
set_option maxRecDepth 20000 in
theorem gL_build_X2_addSong : GoodIn wsL_build (wsV RL 53 RX2 yX2_addSong wsX2_addSong) := goodIn_app (goodIn_of _ (by decide +kernel)) ggL_build_X2_addSong
set_option maxRecDepth 20000 in
theorem ggL_build_X2_teach : GoodIn wsL_build wsX2_teach := goodIn_ca (goodIn_ca (goodIn_r _ [117, 70, 71, 44, 45, 48, 50, 118, 119, 120, 121, 55, 122, 84, 123, 124, 125, 126, 112, 127, 128, 42, 129, 149, 150, 151, 163, 164, 165, 166, 167, 168, 169, 170, 171, 172, 173, 174, 175, 176, 177, 178, 179, 152, 153, 154, 155, 156, 157, 158, 159, 160, 161, 162] (by decide +kernel) (by decide +kernel)) (goodIn_sub (fun _ h => List.mem_cons_of_mem _ (List.mem_append_right _ h)) (by decide +kernel))) (goodIn_sub (fun _ h => List.mem_cons_of_mem _ (List.mem_append_left _ (List.mem_append_left _ (List.mem_append_right _ h)))) (by decide +kernel))
set_option maxRecDepth 20000 in
theorem gL_build_X2_teach : GoodIn wsL_build (wsV RL 57 RX2 yX2_teach wsX2_teach) := goodIn_app (goodIn_of _ (by decide +kernel)) ggL_build_X2_teach
theorem dL_build_0 : decode cL_build 0 = .ok (.new 9, 3) := by decide +kernel
theorem dL_build_3 : decode cL_build 3 = .ok (.dup, 1) := by decide +kernel
theorem dL_build_4 : decode cL_build 4 = .ok (.invokespecial 11, 3) := by decide +kernel
theorem dL_build_7 : decode cL_build 7 = .ok (.astore_n 2, 1) := by decide +kernel
theorem dL_build_8 : decode cL_build 8 = .ok (.iconst 1, 1) := by decide +kernel
theorem dL_build_9 : decode cL_build 9 = .ok (.aload_n 1, 1) := by decide +kernel
theorem dL_build_10 : decode cL_build 10 = .ok (.iconst 0, 1) := by decide +kernel
theorem dL_build_11 : decode cL_build 11 = .ok (.invokestatic 12, 3) := by decide +kernel
theorem dL_build_14 : decode cL_build 14 = .ok (.bipush 6, 2) := by decide +kernel
theorem dL_build_16 : decode cL_build 16 = .ok (.invokestatic 18, 3) := by decide +kernel
theorem dL_build_19 : decode cL_build 19 = .ok (.iadd, 1) := by decide +kernel
theorem dL_build_20 : decode cL_build 20 = .ok (.istore_n 3, 1) := by decide +kernel
theorem dL_build_21 : decode cL_build 21 = .ok (.iconst 0, 1) := by decide +kernel
theorem dL_build_22 : decode cL_build 22 = .ok (.istore 4, 2) := by decide +kernel
theorem dL_build_24 : decode cL_build 24 = .ok (.iload 4, 2) := by decide +kernel
theorem dL_build_26 : decode cL_build 26 = .ok (.iload_n 3, 1) := by decide +kernel
theorem dL_build_27 : decode cL_build 27 = .ok (.if_icmp .ge 106, 3) := by decide +kernel
theorem dL_build_30 : decode cL_build 30 = .ok (.iconst 1, 1) := by decide +kernel
theorem dL_build_31 : decode cL_build 31 = .ok (.aload_n 1, 1) := by decide +kernel
theorem dL_build_32 : decode cL_build 32 = .ok (.iconst 1, 1) := by decide +kernel
theorem dL_build_33 : decode cL_build 33 = .ok (.invokestatic 12, 3) := by decide +kernel
theorem dL_build_36 : decode cL_build 36 = .ok (.iconst 2, 1) := by decide +kernel
theorem dL_build_37 : decode cL_build 37 = .ok (.iload 4, 2) := by decide +kernel
theorem dL_build_39 : decode cL_build 39 = .ok (.imul, 1) := by decide +kernel
theorem dL_build_40 : decode cL_build 40 = .ok (.ishr, 1) := by decide +kernel
theorem dL_build_41 : decode cL_build 41 = .ok (.aload_n 1, 1) := by decide +kernel
theorem dL_build_42 : decode cL_build 42 = .ok (.iconst 1, 1) := by decide +kernel
theorem dL_build_43 : decode cL_build 43 = .ok (.invokestatic 12, 3) := by decide +kernel
theorem dL_build_46 : decode cL_build 46 = .ok (.iconst 2, 1) := by decide +kernel
theorem dL_build_47 : decode cL_build 47 = .ok (.invokestatic 18, 3) := by decide +kernel
theorem dL_build_50 : decode cL_build 50 = .ok (.ifCond .ne 8, 3) := by decide +kernel
theorem dL_build_53 : decode cL_build 53 = .ok (.bipush 20, 2) := by decide +kernel
theorem dL_build_55 : decode cL_build 55 = .ok (.goto 4, 3) := by decide +kernel
theorem dL_build_58 : decode cL_build 58 = .ok (.iconst 5, 1) := by decide +kernel
theorem dL_build_59 : decode cL_build 59 = .ok (.invokestatic 18, 3) := by decide +kernel
theorem dL_build_62 : decode cL_build 62 = .ok (.iadd, 1) := by decide +kernel
theorem dL_build_63 : decode cL_build 63 = .ok (.istore 5, 2) := by decide +kernel
theorem dL_build_65 : decode cL_build 65 = .ok (.iconst 1, 1) := by decide +kernel
theorem dL_build_66 : decode cL_build 66 = .ok (.aload_n 1, 1) := by decide +kernel
theorem dL_build_67 : decode cL_build 67 = .ok (.iconst 2, 1) := by decide +kernel
theorem dL_build_68 : decode cL_build 68 = .ok (.invokestatic 12, 3) := by decide +kernel
theorem dL_build_71 : decode cL_build 71 = .ok (.iload 4, 2) := by decide +kernel
theorem dL_build_73 : decode cL_build 73 = .ok (.ishr, 1) := by decide +kernel
theorem dL_build_74 : decode cL_build 74 = .ok (.iconst 4, 1) := by decide +kernel
theorem dL_build_75 : decode cL_build 75 = .ok (.invokestatic 18, 3) := by decide +kernel
theorem dL_build_78 : decode cL_build 78 = .ok (.aload_n 1, 1) := by decide +kernel
theorem dL_build_79 : decode cL_build 79 = .ok (.iconst 2, 1) := by decide +kernel
theorem dL_build_80 : decode cL_build 80 = .ok (.invokestatic 12, 3) := by decide +kernel
theorem dL_build_83 : decode cL_build 83 = .ok (.iload 4, 2) := by decide +kernel
theorem dL_build_85 : decode cL_build 85 = .ok (.iconst 3, 1) := by decide +kernel
theorem dL_build_86 : decode cL_build 86 = .ok (.iadd, 1) := by decide +kernel
theorem dL_build_87 : decode cL_build 87 = .ok (.ishr, 1) := by decide +kernel
theorem dL_build_88 : decode cL_build 88 = .ok (.iconst 2, 1) := by decide +kernel
theorem dL_build_89 : decode cL_build 89 = .ok (.invokestatic 18, 3) := by decide +kernel
theorem dL_build_92 : decode cL_build 92 = .ok (.imul, 1) := by decide +kernel
theorem dL_build_93 : decode cL_build 93 = .ok (.iadd, 1) := by decide +kernel
theorem dL_build_94 : decode cL_build 94 = .ok (.istore 6, 2) := by decide +kernel
theorem dL_build_96 : decode cL_build 96 = .ok (.aload_n 0, 1) := by decide +kernel
theorem dL_build_97 : decode cL_build 97 = .ok (.iload 5, 2) := by decide +kernel
theorem dL_build_99 : decode cL_build 99 = .ok (.iconst 4, 1) := by decide +kernel
theorem dL_build_100 : decode cL_build 100 = .ok (.iload 6, 2) := by decide +kernel
theorem dL_build_102 : decode cL_build 102 = .ok (.invokestatic 22, 3) := by decide +kernel
theorem dL_build_105 : decode cL_build 105 = .ok (.invokevirtual 27, 3) := by decide +kernel
theorem dL_build_108 : decode cL_build 108 = .ok (.iload 4, 2) := by decide +kernel
theorem dL_build_110 : decode cL_build 110 = .ok (.if_icmp .eq 5, 3) := by decide +kernel
theorem dL_build_113 : decode cL_build 113 = .ok (.aconst_null, 1) := by decide +kernel
theorem dL_build_114 : decode cL_build 114 = .ok (.areturn, 1) := by decide +kernel
theorem dL_build_115 : decode cL_build 115 = .ok (.aload_n 2, 1) := by decide +kernel
theorem dL_build_116 : decode cL_build 116 = .ok (.iload 5, 2) := by decide +kernel
theorem dL_build_118 : decode cL_build 118 = .ok (.iconst 4, 1) := by decide +kernel
theorem dL_build_119 : decode cL_build 119 = .ok (.iload 6, 2) := by decide +kernel
theorem dL_build_121 : decode cL_build 121 = .ok (.invokestatic 22, 3) := by decide +kernel
theorem dL_build_124 : decode cL_build 124 = .ok (.invokevirtual 32, 3) := by decide +kernel
theorem dL_build_127 : decode cL_build 127 = .ok (.iinc 4 1, 3) := by decide +kernel
theorem dL_build_130 : decode cL_build 130 = .ok (.goto (-106), 3) := by decide +kernel
theorem dL_build_133 : decode cL_build 133 = .ok (.iconst 0, 1) := by decide +kernel
theorem dL_build_134 : decode cL_build 134 = .ok (.istore 4, 2) := by decide +kernel
theorem dL_build_136 : decode cL_build 136 = .ok (.iload 4, 2) := by decide +kernel
theorem dL_build_138 : decode cL_build 138 = .ok (.bipush 10, 2) := by decide +kernel
theorem dL_build_140 : decode cL_build 140 = .ok (.if_icmp .ge 49, 3) := by decide +kernel
theorem dL_build_143 : decode cL_build 143 = .ok (.aload_n 2, 1) := by decide +kernel
theorem dL_build_144 : decode cL_build 144 = .ok (.getfield 36, 3) := by decide +kernel
theorem dL_build_147 : decode cL_build 147 = .ok (.iload 4, 2) := by decide +kernel
theorem dL_build_149 : decode cL_build 149 = .ok (.aload_n 1, 1) := by decide +kernel
theorem dL_build_150 : decode cL_build 150 = .ok (.iconst 3, 1) := by decide +kernel
theorem dL_build_151 : decode cL_build 151 = .ok (.invokestatic 12, 3) := by decide +kernel
theorem dL_build_154 : decode cL_build 154 = .ok (.iconst 2, 1) := by decide +kernel
theorem dL_build_155 : decode cL_build 155 = .ok (.iload 4, 2) := by decide +kernel
theorem dL_build_157 : decode cL_build 157 = .ok (.imul, 1) := by decide +kernel
theorem dL_build_158 : decode cL_build 158 = .ok (.ishr, 1) := by decide +kernel
theorem dL_build_159 : decode cL_build 159 = .ok (.bipush 10, 2) := by decide +kernel
theorem dL_build_161 : decode cL_build 161 = .ok (.invokestatic 18, 3) := by decide +kernel
theorem dL_build_164 : decode cL_build 164 = .ok (.iastore, 1) := by decide +kernel
theorem dL_build_165 : decode cL_build 165 = .ok (.aload_n 0, 1) := by decide +kernel
theorem dL_build_166 : decode cL_build 166 = .ok (.iload 4, 2) := by decide +kernel
theorem dL_build_168 : decode cL_build 168 = .ok (.aload_n 2, 1) := by decide +kernel
theorem dL_build_169 : decode cL_build 169 = .ok (.getfield 36, 3) := by decide +kernel
theorem dL_build_172 : decode cL_build 172 = .ok (.iload 4, 2) := by decide +kernel
theorem dL_build_174 : decode cL_build 174 = .ok (.iaload, 1) := by decide +kernel
theorem dL_build_175 : decode cL_build 175 = .ok (.invokevirtual 40, 3) := by decide +kernel
theorem dL_build_178 : decode cL_build 178 = .ok (.ifCond .eq 5, 3) := by decide +kernel
theorem dL_build_181 : decode cL_build 181 = .ok (.aconst_null, 1) := by decide +kernel
theorem dL_build_182 : decode cL_build 182 = .ok (.areturn, 1) := by decide +kernel
theorem dL_build_183 : decode cL_build 183 = .ok (.iinc 4 1, 3) := by decide +kernel
theorem dL_build_186 : decode cL_build 186 = .ok (.goto (-50), 3) := by decide +kernel
theorem dL_build_189 : decode cL_build 189 = .ok (.iconst 2, 1) := by decide +kernel
theorem dL_build_190 : decode cL_build 190 = .ok (.aload_n 1, 1) := by decide +kernel
theorem dL_build_191 : decode cL_build 191 = .ok (.iconst 4, 1) := by decide +kernel
theorem dL_build_192 : decode cL_build 192 = .ok (.invokestatic 12, 3) := by decide +kernel
theorem dL_build_195 : decode cL_build 195 = .ok (.bipush 14, 2) := by decide +kernel
theorem dL_build_197 : decode cL_build 197 = .ok (.invokestatic 18, 3) := by decide +kernel
theorem dL_build_200 : decode cL_build 200 = .ok (.iadd, 1) := by decide +kernel
theorem dL_build_201 : decode cL_build 201 = .ok (.istore 4, 2) := by decide +kernel
theorem dL_build_203 : decode cL_build 203 = .ok (.iconst 0, 1) := by decide +kernel
theorem dL_build_204 : decode cL_build 204 = .ok (.istore 5, 2) := by decide +kernel
theorem dL_build_206 : decode cL_build 206 = .ok (.iload 5, 2) := by decide +kernel
theorem dL_build_208 : decode cL_build 208 = .ok (.iload 4, 2) := by decide +kernel
theorem dL_build_210 : decode cL_build 210 = .ok (.if_icmp .ge 122, 3) := by decide +kernel
theorem dL_build_213 : decode cL_build 213 = .ok (.aload_n 1, 1) := by decide +kernel
theorem dL_build_214 : decode cL_build 214 = .ok (.iconst 5, 1) := by decide +kernel
theorem dL_build_215 : decode cL_build 215 = .ok (.iload 5, 2) := by decide +kernel
theorem dL_build_217 : decode cL_build 217 = .ok (.iconst 3, 1) := by decide +kernel
theorem dL_build_218 : decode cL_build 218 = .ok (.irem, 1) := by decide +kernel
theorem dL_build_219 : decode cL_build 219 = .ok (.iadd, 1) := by decide +kernel
theorem dL_build_220 : decode cL_build 220 = .ok (.invokestatic 12, 3) := by decide +kernel
theorem dL_build_223 : decode cL_build 223 = .ok (.iload 5, 2) := by decide +kernel
theorem dL_build_225 : decode cL_build 225 = .ok (.ishr, 1) := by decide +kernel
theorem dL_build_226 : decode cL_build 226 = .ok (.bipush 19, 2) := by decide +kernel
theorem dL_build_228 : decode cL_build 228 = .ok (.iload 5, 2) := by decide +kernel
theorem dL_build_230 : decode cL_build 230 = .ok (.imul, 1) := by decide +kernel
theorem dL_build_231 : decode cL_build 231 = .ok (.iadd, 1) := by decide +kernel
theorem dL_build_232 : decode cL_build 232 = .ok (.istore 6, 2) := by decide +kernel
theorem dL_build_234 : decode cL_build 234 = .ok (.iconst 1, 1) := by decide +kernel
theorem dL_build_235 : decode cL_build 235 = .ok (.iload 6, 2) := by decide +kernel
theorem dL_build_237 : decode cL_build 237 = .ok (.iconst 3, 1) := by decide +kernel
theorem dL_build_238 : decode cL_build 238 = .ok (.invokestatic 18, 3) := by decide +kernel
theorem dL_build_241 : decode cL_build 241 = .ok (.iadd, 1) := by decide +kernel
theorem dL_build_242 : decode cL_build 242 = .ok (.istore 7, 2) := by decide +kernel
theorem dL_build_244 : decode cL_build 244 = .ok (.iload 6, 2) := by decide +kernel
theorem dL_build_246 : decode cL_build 246 = .ok (.iconst 2, 1) := by decide +kernel
theorem dL_build_247 : decode cL_build 247 = .ok (.ishr, 1) := by decide +kernel
theorem dL_build_248 : decode cL_build 248 = .ok (.iconst 5, 1) := by decide +kernel
theorem dL_build_249 : decode cL_build 249 = .ok (.invokestatic 18, 3) := by decide +kernel
theorem dL_build_252 : decode cL_build 252 = .ok (.ifCond .ne 7, 3) := by decide +kernel
theorem dL_build_255 : decode cL_build 255 = .ok (.iconst 0, 1) := by decide +kernel
theorem dL_build_256 : decode cL_build 256 = .ok (.goto 30, 3) := by decide +kernel
theorem dL_build_259 : decode cL_build 259 = .ok (.iload 6, 2) := by decide +kernel
theorem dL_build_261 : decode cL_build 261 = .ok (.iconst 3, 1) := by decide +kernel
theorem dL_build_262 : decode cL_build 262 = .ok (.ishr, 1) := by decide +kernel
theorem dL_build_263 : decode cL_build 263 = .ok (.iload 6, 2) := by decide +kernel
theorem dL_build_265 : decode cL_build 265 = .ok (.bipush 8, 2) := by decide +kernel
theorem dL_build_267 : decode cL_build 267 = .ok (.ishr, 1) := by decide +kernel
theorem dL_build_268 : decode cL_build 268 = .ok (.iconst 2, 1) := by decide +kernel
theorem dL_build_269 : decode cL_build 269 = .ok (.invokestatic 18, 3) := by decide +kernel
theorem dL_build_272 : decode cL_build 272 = .ok (.ifCond .ne 9, 3) := by decide +kernel
theorem dL_build_275 : decode cL_build 275 = .ok (.sipush 201, 3) := by decide +kernel
theorem dL_build_278 : decode cL_build 278 = .ok (.goto 5, 3) := by decide +kernel
theorem dL_build_281 : decode cL_build 281 = .ok (.bipush 30, 2) := by decide +kernel
theorem dL_build_283 : decode cL_build 283 = .ok (.invokestatic 18, 3) := by decide +kernel
theorem dL_build_286 : decode cL_build 286 = .ok (.istore 8, 2) := by decide +kernel
theorem dL_build_288 : decode cL_build 288 = .ok (.iload 6, 2) := by decide +kernel
theorem dL_build_290 : decode cL_build 290 = .ok (.iconst 5, 1) := by decide +kernel
theorem dL_build_291 : decode cL_build 291 = .ok (.ishr, 1) := by decide +kernel
theorem dL_build_292 : decode cL_build 292 = .ok (.bipush 10, 2) := by decide +kernel
theorem dL_build_294 : decode cL_build 294 = .ok (.invokestatic 18, 3) := by decide +kernel
theorem dL_build_297 : decode cL_build 297 = .ok (.istore 9, 2) := by decide +kernel
theorem dL_build_299 : decode cL_build 299 = .ok (.aload_n 0, 1) := by decide +kernel
theorem dL_build_300 : decode cL_build 300 = .ok (.iload 7, 2) := by decide +kernel
theorem dL_build_302 : decode cL_build 302 = .ok (.iload 8, 2) := by decide +kernel
theorem dL_build_304 : decode cL_build 304 = .ok (.iload 9, 2) := by decide +kernel
theorem dL_build_306 : decode cL_build 306 = .ok (.invokevirtual 43, 3) := by decide +kernel
theorem dL_build_309 : decode cL_build 309 = .ok (.iload 5, 2) := by decide +kernel
theorem dL_build_311 : decode cL_build 311 = .ok (.if_icmp .eq 5, 3) := by decide +kernel
theorem dL_build_314 : decode cL_build 314 = .ok (.aconst_null, 1) := by decide +kernel
theorem dL_build_315 : decode cL_build 315 = .ok (.areturn, 1) := by decide +kernel
theorem dL_build_316 : decode cL_build 316 = .ok (.aload_n 2, 1) := by decide +kernel
theorem dL_build_317 : decode cL_build 317 = .ok (.iload 7, 2) := by decide +kernel
theorem dL_build_319 : decode cL_build 319 = .ok (.iload 8, 2) := by decide +kernel
theorem dL_build_321 : decode cL_build 321 = .ok (.iload 9, 2) := by decide +kernel
theorem dL_build_323 : decode cL_build 323 = .ok (.invokevirtual 47, 3) := by decide +kernel
theorem dL_build_326 : decode cL_build 326 = .ok (.iinc 5 1, 3) := by decide +kernel
theorem dL_build_329 : decode cL_build 329 = .ok (.goto (-123), 3) := by decide +kernel
theorem dL_build_332 : decode cL_build 332 = .ok (.aload_n 1, 1) := by decide +kernel
theorem dL_build_333 : decode cL_build 333 = .ok (.bipush 8, 2) := by decide +kernel
theorem dL_build_335 : decode cL_build 335 = .ok (.invokestatic 12, 3) := by decide +kernel
theorem dL_build_338 : decode cL_build 338 = .ok (.iconst 5, 1) := by decide +kernel
theorem dL_build_339 : decode cL_build 339 = .ok (.invokestatic 18, 3) := by decide +kernel
theorem dL_build_342 : decode cL_build 342 = .ok (.istore 5, 2) := by decide +kernel
theorem dL_build_344 : decode cL_build 344 = .ok (.aload_n 2, 1) := by decide +kernel
theorem dL_build_345 : decode cL_build 345 = .ok (.iload 5, 2) := by decide +kernel
theorem dL_build_347 : decode cL_build 347 = .ok (.newarray .int, 2) := by decide +kernel
theorem dL_build_349 : decode cL_build 349 = .ok (.putfield 50, 3) := by decide +kernel
theorem dL_build_352 : decode cL_build 352 = .ok (.iconst 0, 1) := by decide +kernel
theorem dL_build_353 : decode cL_build 353 = .ok (.istore 6, 2) := by decide +kernel
theorem dL_build_355 : decode cL_build 355 = .ok (.iload 6, 2) := by decide +kernel
theorem dL_build_357 : decode cL_build 357 = .ok (.iload 5, 2) := by decide +kernel
theorem dL_build_359 : decode cL_build 359 = .ok (.if_icmp .ge 120, 3) := by decide +kernel
theorem dL_build_362 : decode cL_build 362 = .ok (.aload_n 2, 1) := by decide +kernel
theorem dL_build_363 : decode cL_build 363 = .ok (.getfield 50, 3) := by decide +kernel
theorem dL_build_366 : decode cL_build 366 = .ok (.iload 6, 2) := by decide +kernel
theorem dL_build_368 : decode cL_build 368 = .ok (.iconst 1, 1) := by decide +kernel
theorem dL_build_369 : decode cL_build 369 = .ok (.aload_n 1, 1) := by decide +kernel
theorem dL_build_370 : decode cL_build 370 = .ok (.bipush 9, 2) := by decide +kernel
theorem dL_build_372 : decode cL_build 372 = .ok (.invokestatic 12, 3) := by decide +kernel
theorem dL_build_375 : decode cL_build 375 = .ok (.iconst 3, 1) := by decide +kernel
theorem dL_build_376 : decode cL_build 376 = .ok (.iload 6, 2) := by decide +kernel
theorem dL_build_378 : decode cL_build 378 = .ok (.imul, 1) := by decide +kernel
theorem dL_build_379 : decode cL_build 379 = .ok (.ishr, 1) := by decide +kernel
theorem dL_build_380 : decode cL_build 380 = .ok (.bipush 9, 2) := by decide +kernel
theorem dL_build_382 : decode cL_build 382 = .ok (.invokestatic 18, 3) := by decide +kernel
theorem dL_build_385 : decode cL_build 385 = .ok (.iadd, 1) := by decide +kernel
theorem dL_build_386 : decode cL_build 386 = .ok (.iastore, 1) := by decide +kernel
theorem dL_build_387 : decode cL_build 387 = .ok (.aload_n 0, 1) := by decide +kernel
theorem dL_build_388 : decode cL_build 388 = .ok (.aload_n 2, 1) := by decide +kernel
theorem dL_build_389 : decode cL_build 389 = .ok (.getfield 50, 3) := by decide +kernel
theorem dL_build_392 : decode cL_build 392 = .ok (.iload 6, 2) := by decide +kernel
theorem dL_build_394 : decode cL_build 394 = .ok (.iaload, 1) := by decide +kernel
theorem dL_build_395 : decode cL_build 395 = .ok (.invokevirtual 53, 3) := by decide +kernel
theorem dL_build_398 : decode cL_build 398 = .ok (.iload 6, 2) := by decide +kernel
theorem dL_build_400 : decode cL_build 400 = .ok (.if_icmp .eq 5, 3) := by decide +kernel
theorem dL_build_403 : decode cL_build 403 = .ok (.aconst_null, 1) := by decide +kernel
theorem dL_build_404 : decode cL_build 404 = .ok (.areturn, 1) := by decide +kernel
theorem dL_build_405 : decode cL_build 405 = .ok (.aload_n 1, 1) := by decide +kernel
theorem dL_build_406 : decode cL_build 406 = .ok (.bipush 10, 2) := by decide +kernel
theorem dL_build_408 : decode cL_build 408 = .ok (.invokestatic 12, 3) := by decide +kernel
theorem dL_build_411 : decode cL_build 411 = .ok (.iconst 3, 1) := by decide +kernel
theorem dL_build_412 : decode cL_build 412 = .ok (.iload 6, 2) := by decide +kernel
theorem dL_build_414 : decode cL_build 414 = .ok (.imul, 1) := by decide +kernel
theorem dL_build_415 : decode cL_build 415 = .ok (.ishr, 1) := by decide +kernel
theorem dL_build_416 : decode cL_build 416 = .ok (.iload 4, 2) := by decide +kernel
theorem dL_build_418 : decode cL_build 418 = .ok (.invokestatic 18, 3) := by decide +kernel
theorem dL_build_421 : decode cL_build 421 = .ok (.istore 7, 2) := by decide +kernel
theorem dL_build_423 : decode cL_build 423 = .ok (.iconst 1, 1) := by decide +kernel
theorem dL_build_424 : decode cL_build 424 = .ok (.aload_n 1, 1) := by decide +kernel
theorem dL_build_425 : decode cL_build 425 = .ok (.bipush 11, 2) := by decide +kernel
theorem dL_build_427 : decode cL_build 427 = .ok (.invokestatic 12, 3) := by decide +kernel
theorem dL_build_430 : decode cL_build 430 = .ok (.iconst 4, 1) := by decide +kernel
theorem dL_build_431 : decode cL_build 431 = .ok (.iload 6, 2) := by decide +kernel
theorem dL_build_433 : decode cL_build 433 = .ok (.imul, 1) := by decide +kernel
theorem dL_build_434 : decode cL_build 434 = .ok (.ishr, 1) := by decide +kernel
theorem dL_build_435 : decode cL_build 435 = .ok (.bipush 99, 2) := by decide +kernel
theorem dL_build_437 : decode cL_build 437 = .ok (.invokestatic 18, 3) := by decide +kernel
theorem dL_build_440 : decode cL_build 440 = .ok (.iadd, 1) := by decide +kernel
theorem dL_build_441 : decode cL_build 441 = .ok (.istore 8, 2) := by decide +kernel
theorem dL_build_443 : decode cL_build 443 = .ok (.aload_n 0, 1) := by decide +kernel
theorem dL_build_444 : decode cL_build 444 = .ok (.iload 7, 2) := by decide +kernel
theorem dL_build_446 : decode cL_build 446 = .ok (.iload 6, 2) := by decide +kernel
theorem dL_build_448 : decode cL_build 448 = .ok (.iload 8, 2) := by decide +kernel
theorem dL_build_450 : decode cL_build 450 = .ok (.invokevirtual 57, 3) := by decide +kernel
theorem dL_build_453 : decode cL_build 453 = .ok (.ifCond .eq 5, 3) := by decide +kernel
theorem dL_build_456 : decode cL_build 456 = .ok (.aconst_null, 1) := by decide +kernel
theorem dL_build_457 : decode cL_build 457 = .ok (.areturn, 1) := by decide +kernel
theorem dL_build_458 : decode cL_build 458 = .ok (.aload_n 2, 1) := by decide +kernel
theorem dL_build_459 : decode cL_build 459 = .ok (.getfield 60, 3) := by decide +kernel
theorem dL_build_462 : decode cL_build 462 = .ok (.iload 7, 2) := by decide +kernel
theorem dL_build_464 : decode cL_build 464 = .ok (.aaload, 1) := by decide +kernel
theorem dL_build_465 : decode cL_build 465 = .ok (.getfield 64, 3) := by decide +kernel
theorem dL_build_468 : decode cL_build 468 = .ok (.iload 6, 2) := by decide +kernel
theorem dL_build_470 : decode cL_build 470 = .ok (.iload 8, 2) := by decide +kernel
theorem dL_build_472 : decode cL_build 472 = .ok (.iastore, 1) := by decide +kernel
theorem dL_build_473 : decode cL_build 473 = .ok (.iinc 6 1, 3) := by decide +kernel
theorem dL_build_476 : decode cL_build 476 = .ok (.goto (-121), 3) := by decide +kernel
theorem dL_build_479 : decode cL_build 479 = .ok (.aload_n 2, 1) := by decide +kernel
theorem dL_build_480 : decode cL_build 480 = .ok (.areturn, 1) := by decide +kernel
set_option maxRecDepth 20000 in
theorem ggL_act_L_below : GoodIn wsL_act wsL_below := goodIn_r _ [17, 18] (by decide +kernel) (by decide +kernel)
set_option maxRecDepth 20000 in
theorem gL_act_L_below : GoodIn wsL_act (va_wsS RL 18 yL_below wsL_below) := goodIn_app (goodIn_of _ (by decide +kernel)) ggL_act_L_below
set_option maxRecDepth 20000 in
theorem ggL_act_X2_trim : GoodIn wsL_act wsX2_trim := goodIn_ca (goodIn_ca (goodIn_ca (goodIn_r _ [23, 24, 25, 26, 27, 28, 29, 30, 31, 32, 33, 34, 5, 6, 7, 35, 36, 37, 38, 39, 40, 41, 122, 123, 124, 125, 126, 127, 128, 129, 130, 131, 132, 133, 134, 135, 136, 137, 138, 139, 140, 141, 142, 143, 144, 145, 146, 147, 148, 149, 150, 151, 152] (by decide +kernel) (by decide +kernel)) (goodIn_sub (fun _ h => List.mem_cons_of_mem _ (List.mem_append_left _ (List.mem_append_left _ (List.mem_append_right _ h)))) (by decide +kernel))) (goodIn_sub (fun _ h => List.mem_cons_of_mem _ (List.mem_append_left _ (List.mem_append_right _ h))) (by decide +kernel))) (goodIn_sub (fun _ h => List.mem_cons_of_mem _ (List.mem_append_right _ h)) (by decide +kernel))
set_option maxRecDepth 20000 in
theorem gL_act_X2_trim : GoodIn wsL_act (wsV RL 80 RX2 yX2_trim wsX2_trim) := goodIn_app (goodIn_of _ (by decide +kernel)) ggL_act_X2_trim
set_option maxRecDepth 20000 in
theorem ggL_act_X2_post : GoodIn wsL_act wsX2_post := goodIn_ca (goodIn_r _ [45, 24, 25, 30, 31, 46, 47, 48, 49, 39, 50, 51, 122, 123, 124, 125, 126, 127, 128, 129, 130, 131, 132, 133, 134, 135, 136, 137, 138, 139, 140, 141, 142, 143, 144, 145, 146, 147, 148, 149, 150, 151, 152] (by decide +kernel) (by decide +kernel)) (goodIn_sub (fun _ h => List.mem_cons_of_mem _ (List.mem_append_left _ (List.mem_append_left _ (List.mem_append_right _ h)))) (by decide +kernel))
set_option maxRecDepth 20000 in
theorem gL_act_X2_post : GoodIn wsL_act (wsV RL 90 RX2 yX2_post wsX2_post) := goodIn_app (goodIn_of _ (by decide +kernel)) ggL_act_X2_post
set_option maxRecDepth 20000 in
theorem ggL_act_X2_setWind : GoodIn wsL_act wsX2_setWind := goodIn_ca (goodIn_ca (goodIn_r _ [55, 24, 25, 26, 27, 30, 56, 122, 123, 124, 142, 143, 144, 145, 146, 147, 148, 149, 150, 151, 152] (by decide +kernel) (by decide +kernel)) (goodIn_sub (fun _ h => List.mem_cons_of_mem _ (List.mem_append_left _ (List.mem_append_left _ (List.mem_append_right _ h)))) (by decide +kernel))) (goodIn_sub (fun _ h => List.mem_cons_of_mem _ (List.mem_append_left _ (List.mem_append_right _ h))) (by decide +kernel))
set_option maxRecDepth 20000 in
theorem gL_act_X2_setWind : GoodIn wsL_act (wsV RL 40 RX2 yX2_setWind wsX2_setWind) := goodIn_app (goodIn_of _ (by decide +kernel)) ggL_act_X2_setWind
set_option maxRecDepth 20000 in
theorem ggL_act_X2_teach : GoodIn wsL_act wsX2_teach := goodIn_ca (goodIn_ca (goodIn_r _ [60, 24, 25, 26, 27, 30, 31, 61, 36, 37, 38, 39, 40, 41, 62, 63, 64, 65, 66, 67, 68, 22, 69, 122, 123, 124, 125, 126, 127, 128, 129, 130, 131, 132, 133, 134, 135, 136, 137, 138, 139, 140, 141, 142, 143, 144, 145, 146, 147, 148, 149, 150, 151, 152] (by decide +kernel) (by decide +kernel)) (goodIn_sub (fun _ h => List.mem_cons_of_mem _ (List.mem_append_left _ (List.mem_append_left _ (List.mem_append_right _ h)))) (by decide +kernel))) (goodIn_sub (fun _ h => List.mem_cons_of_mem _ (List.mem_append_left _ (List.mem_append_right _ h))) (by decide +kernel))
set_option maxRecDepth 20000 in
theorem gL_act_X2_teach : GoodIn wsL_act (wsV RL 57 RX2 yX2_teach wsX2_teach) := goodIn_app (goodIn_of _ (by decide +kernel)) ggL_act_X2_teach
set_option maxRecDepth 20000 in
theorem ggL_act_X3_come : GoodIn wsL_act wsX3_come := goodIn_r _ [74, 75, 76, 77, 78, 79, 80, 81, 82, 83, 84, 85, 86, 87, 88, 89, 90, 91, 103, 104, 105, 106, 107, 108, 109, 110, 111, 112, 113, 114, 115, 116, 117, 118, 119, 120, 121] (by decide +kernel) (by decide +kernel)
set_option maxRecDepth 20000 in
theorem gL_act_X3_come : GoodIn wsL_act (wsV RL 47 RX3 yX3_come wsX3_come) := goodIn_app (goodIn_of _ (by decide +kernel)) ggL_act_X3_come
set_option maxRecDepth 20000 in
theorem ggL_act_X2_come : GoodIn wsL_act wsX2_come := goodIn_ca (goodIn_ca (goodIn_r _ [95, 26, 27, 28, 29, 30, 96, 31, 33, 35, 97, 98, 99, 39, 100, 41, 101, 102, 122, 123, 124, 142, 143, 144, 145, 146, 147, 148, 149, 150, 151, 152, 125, 126, 127, 128, 129, 130, 131, 132, 133, 134, 135, 136, 137, 138, 139, 140, 141] (by decide +kernel) (by decide +kernel)) (goodIn_sub (fun _ h => List.mem_cons_of_mem _ (List.mem_append_left _ (List.mem_append_right _ h))) (by decide +kernel))) (goodIn_sub (fun _ h => List.mem_cons_of_mem _ (List.mem_append_right _ h)) (by decide +kernel))
set_option maxRecDepth 20000 in
theorem gL_act_X2_come : GoodIn wsL_act (wsV RL 43 RX2 yX2_come wsX2_come) := goodIn_app (goodIn_of _ (by decide +kernel)) ggL_act_X2_come
theorem dL_act_0 : decode cL_act 0 = .ok (.iload_n 2, 1) := by decide +kernel
theorem dL_act_1 : decode cL_act 1 = .ok (.aload_n 1, 1) := by decide +kernel
theorem dL_act_2 : decode cL_act 2 = .ok (.getfield 60, 3) := by decide +kernel
theorem dL_act_5 : decode cL_act 5 = .ok (.arraylength, 1) := by decide +kernel
theorem dL_act_6 : decode cL_act 6 = .ok (.invokestatic 18, 3) := by decide +kernel
theorem dL_act_9 : decode cL_act 9 = .ok (.istore_n 3, 1) := by decide +kernel
theorem dL_act_10 : decode cL_act 10 = .ok (.aload_n 1, 1) := by decide +kernel
theorem dL_act_11 : decode cL_act 11 = .ok (.getfield 60, 3) := by decide +kernel
theorem dL_act_14 : decode cL_act 14 = .ok (.iload_n 3, 1) := by decide +kernel
theorem dL_act_15 : decode cL_act 15 = .ok (.aaload, 1) := by decide +kernel
theorem dL_act_16 : decode cL_act 16 = .ok (.astore 4, 2) := by decide +kernel
theorem dL_act_18 : decode cL_act 18 = .ok (.iload_n 2, 1) := by decide +kernel
theorem dL_act_19 : decode cL_act 19 = .ok (.bipush 8, 2) := by decide +kernel
theorem dL_act_21 : decode cL_act 21 = .ok (.ishr, 1) := by decide +kernel
theorem dL_act_22 : decode cL_act 22 = .ok (.bipush 6, 2) := by decide +kernel
theorem dL_act_24 : decode cL_act 24 = .ok (.invokestatic 18, 3) := by decide +kernel
theorem dL_act_27 : decode cL_act 27 = .ok (.tableswitch 313 0 4 #[33, 102, 102, 166, 224], 33) := by decide +kernel
theorem dL_act_60 : decode cL_act 60 = .ok (.iconst 1, 1) := by decide +kernel
theorem dL_act_61 : decode cL_act 61 = .ok (.iload_n 2, 1) := by decide +kernel
theorem dL_act_62 : decode cL_act 62 = .ok (.iconst 3, 1) := by decide +kernel
theorem dL_act_63 : decode cL_act 63 = .ok (.ishr, 1) := by decide +kernel
theorem dL_act_64 : decode cL_act 64 = .ok (.bipush 40, 2) := by decide +kernel
theorem dL_act_66 : decode cL_act 66 = .ok (.invokestatic 18, 3) := by decide +kernel
theorem dL_act_69 : decode cL_act 69 = .ok (.iadd, 1) := by decide +kernel
theorem dL_act_70 : decode cL_act 70 = .ok (.istore 5, 2) := by decide +kernel
theorem dL_act_72 : decode cL_act 72 = .ok (.aload 4, 2) := by decide +kernel
theorem dL_act_74 : decode cL_act 74 = .ok (.getfield 69, 3) := by decide +kernel
theorem dL_act_77 : decode cL_act 77 = .ok (.iconst 2, 1) := by decide +kernel
theorem dL_act_78 : decode cL_act 78 = .ok (.if_icmp .ne 5, 3) := by decide +kernel
theorem dL_act_81 : decode cL_act 81 = .ok (.iconst 1, 1) := by decide +kernel
theorem dL_act_82 : decode cL_act 82 = .ok (.ireturn, 1) := by decide +kernel
theorem dL_act_83 : decode cL_act 83 = .ok (.aload 4, 2) := by decide +kernel
theorem dL_act_85 : decode cL_act 85 = .ok (.sipush 200, 3) := by decide +kernel
theorem dL_act_88 : decode cL_act 88 = .ok (.aload 4, 2) := by decide +kernel
theorem dL_act_90 : decode cL_act 90 = .ok (.getfield 73, 3) := by decide +kernel
theorem dL_act_93 : decode cL_act 93 = .ok (.iload 5, 2) := by decide +kernel
theorem dL_act_95 : decode cL_act 95 = .ok (.iadd, 1) := by decide +kernel
theorem dL_act_96 : decode cL_act 96 = .ok (.invokestatic 22, 3) := by decide +kernel
theorem dL_act_99 : decode cL_act 99 = .ok (.putfield 73, 3) := by decide +kernel
theorem dL_act_102 : decode cL_act 102 = .ok (.aload 4, 2) := by decide +kernel
theorem dL_act_104 : decode cL_act 104 = .ok (.iconst 1, 1) := by decide +kernel
theorem dL_act_105 : decode cL_act 105 = .ok (.putfield 76, 3) := by decide +kernel
theorem dL_act_108 : decode cL_act 108 = .ok (.aload_n 0, 1) := by decide +kernel
theorem dL_act_109 : decode cL_act 109 = .ok (.iload_n 3, 1) := by decide +kernel
theorem dL_act_110 : decode cL_act 110 = .ok (.iload 5, 2) := by decide +kernel
theorem dL_act_112 : decode cL_act 112 = .ok (.invokevirtual 80, 3) := by decide +kernel
theorem dL_act_115 : decode cL_act 115 = .ok (.aload 4, 2) := by decide +kernel
theorem dL_act_117 : decode cL_act 117 = .ok (.getfield 73, 3) := by decide +kernel
theorem dL_act_120 : decode cL_act 120 = .ok (.if_icmp .ne 7, 3) := by decide +kernel
theorem dL_act_123 : decode cL_act 123 = .ok (.iconst 1, 1) := by decide +kernel
theorem dL_act_124 : decode cL_act 124 = .ok (.goto 4, 3) := by decide +kernel
theorem dL_act_127 : decode cL_act 127 = .ok (.iconst 0, 1) := by decide +kernel
theorem dL_act_128 : decode cL_act 128 = .ok (.ireturn, 1) := by decide +kernel
theorem dL_act_129 : decode cL_act 129 = .ok (.iload_n 2, 1) := by decide +kernel
theorem dL_act_130 : decode cL_act 130 = .ok (.iconst 3, 1) := by decide +kernel
theorem dL_act_131 : decode cL_act 131 = .ok (.ishr, 1) := by decide +kernel
theorem dL_act_132 : decode cL_act 132 = .ok (.iconst 2, 1) := by decide +kernel
theorem dL_act_133 : decode cL_act 133 = .ok (.invokestatic 18, 3) := by decide +kernel
theorem dL_act_136 : decode cL_act 136 = .ok (.istore 6, 2) := by decide +kernel
theorem dL_act_138 : decode cL_act 138 = .ok (.aload_n 1, 1) := by decide +kernel
theorem dL_act_139 : decode cL_act 139 = .ok (.getfield 83, 3) := by decide +kernel
theorem dL_act_142 : decode cL_act 142 = .ok (.iload 6, 2) := by decide +kernel
theorem dL_act_144 : decode cL_act 144 = .ok (.iaload, 1) := by decide +kernel
theorem dL_act_145 : decode cL_act 145 = .ok (.istore 7, 2) := by decide +kernel
theorem dL_act_147 : decode cL_act 147 = .ok (.aload_n 1, 1) := by decide +kernel
theorem dL_act_148 : decode cL_act 148 = .ok (.getfield 83, 3) := by decide +kernel
theorem dL_act_151 : decode cL_act 151 = .ok (.iload 6, 2) := by decide +kernel
theorem dL_act_153 : decode cL_act 153 = .ok (.iload_n 2, 1) := by decide +kernel
theorem dL_act_154 : decode cL_act 154 = .ok (.iconst 4, 1) := by decide +kernel
theorem dL_act_155 : decode cL_act 155 = .ok (.ishr, 1) := by decide +kernel
theorem dL_act_156 : decode cL_act 156 = .ok (.aload_n 1, 1) := by decide +kernel
theorem dL_act_157 : decode cL_act 157 = .ok (.getfield 86, 3) := by decide +kernel
theorem dL_act_160 : decode cL_act 160 = .ok (.arraylength, 1) := by decide +kernel
theorem dL_act_161 : decode cL_act 161 = .ok (.iconst 1, 1) := by decide +kernel
theorem dL_act_162 : decode cL_act 162 = .ok (.iadd, 1) := by decide +kernel
theorem dL_act_163 : decode cL_act 163 = .ok (.invokestatic 18, 3) := by decide +kernel
theorem dL_act_166 : decode cL_act 166 = .ok (.iconst 1, 1) := by decide +kernel
theorem dL_act_167 : decode cL_act 167 = .ok (.isub, 1) := by decide +kernel
theorem dL_act_168 : decode cL_act 168 = .ok (.iastore, 1) := by decide +kernel
theorem dL_act_169 : decode cL_act 169 = .ok (.aload_n 0, 1) := by decide +kernel
theorem dL_act_170 : decode cL_act 170 = .ok (.iload 6, 2) := by decide +kernel
theorem dL_act_172 : decode cL_act 172 = .ok (.aload_n 1, 1) := by decide +kernel
theorem dL_act_173 : decode cL_act 173 = .ok (.getfield 83, 3) := by decide +kernel
theorem dL_act_176 : decode cL_act 176 = .ok (.iload 6, 2) := by decide +kernel
theorem dL_act_178 : decode cL_act 178 = .ok (.iaload, 1) := by decide +kernel
theorem dL_act_179 : decode cL_act 179 = .ok (.invokevirtual 90, 3) := by decide +kernel
theorem dL_act_182 : decode cL_act 182 = .ok (.iload 7, 2) := by decide +kernel
theorem dL_act_184 : decode cL_act 184 = .ok (.if_icmp .ne 7, 3) := by decide +kernel
theorem dL_act_187 : decode cL_act 187 = .ok (.iconst 1, 1) := by decide +kernel
theorem dL_act_188 : decode cL_act 188 = .ok (.goto 4, 3) := by decide +kernel
theorem dL_act_191 : decode cL_act 191 = .ok (.iconst 0, 1) := by decide +kernel
theorem dL_act_192 : decode cL_act 192 = .ok (.ireturn, 1) := by decide +kernel
theorem dL_act_193 : decode cL_act 193 = .ok (.iload_n 2, 1) := by decide +kernel
theorem dL_act_194 : decode cL_act 194 = .ok (.iconst 3, 1) := by decide +kernel
theorem dL_act_195 : decode cL_act 195 = .ok (.ishr, 1) := by decide +kernel
theorem dL_act_196 : decode cL_act 196 = .ok (.bipush 10, 2) := by decide +kernel
theorem dL_act_198 : decode cL_act 198 = .ok (.invokestatic 18, 3) := by decide +kernel
theorem dL_act_201 : decode cL_act 201 = .ok (.istore 8, 2) := by decide +kernel
theorem dL_act_203 : decode cL_act 203 = .ok (.aload_n 1, 1) := by decide +kernel
theorem dL_act_204 : decode cL_act 204 = .ok (.getfield 36, 3) := by decide +kernel
theorem dL_act_207 : decode cL_act 207 = .ok (.iload 8, 2) := by decide +kernel
theorem dL_act_209 : decode cL_act 209 = .ok (.iaload, 1) := by decide +kernel
theorem dL_act_210 : decode cL_act 210 = .ok (.istore 9, 2) := by decide +kernel
theorem dL_act_212 : decode cL_act 212 = .ok (.aload_n 1, 1) := by decide +kernel
theorem dL_act_213 : decode cL_act 213 = .ok (.getfield 36, 3) := by decide +kernel
theorem dL_act_216 : decode cL_act 216 = .ok (.iload 8, 2) := by decide +kernel
theorem dL_act_218 : decode cL_act 218 = .ok (.iload_n 2, 1) := by decide +kernel
theorem dL_act_219 : decode cL_act 219 = .ok (.iconst 5, 1) := by decide +kernel
theorem dL_act_220 : decode cL_act 220 = .ok (.ishr, 1) := by decide +kernel
theorem dL_act_221 : decode cL_act 221 = .ok (.bipush 10, 2) := by decide +kernel
theorem dL_act_223 : decode cL_act 223 = .ok (.invokestatic 18, 3) := by decide +kernel
theorem dL_act_226 : decode cL_act 226 = .ok (.iastore, 1) := by decide +kernel
theorem dL_act_227 : decode cL_act 227 = .ok (.aload_n 0, 1) := by decide +kernel
theorem dL_act_228 : decode cL_act 228 = .ok (.iload 8, 2) := by decide +kernel
theorem dL_act_230 : decode cL_act 230 = .ok (.aload_n 1, 1) := by decide +kernel
theorem dL_act_231 : decode cL_act 231 = .ok (.getfield 36, 3) := by decide +kernel
theorem dL_act_234 : decode cL_act 234 = .ok (.iload 8, 2) := by decide +kernel
theorem dL_act_236 : decode cL_act 236 = .ok (.iaload, 1) := by decide +kernel
theorem dL_act_237 : decode cL_act 237 = .ok (.invokevirtual 40, 3) := by decide +kernel
theorem dL_act_240 : decode cL_act 240 = .ok (.iload 9, 2) := by decide +kernel
theorem dL_act_242 : decode cL_act 242 = .ok (.if_icmp .ne 7, 3) := by decide +kernel
theorem dL_act_245 : decode cL_act 245 = .ok (.iconst 1, 1) := by decide +kernel
theorem dL_act_246 : decode cL_act 246 = .ok (.goto 4, 3) := by decide +kernel
theorem dL_act_249 : decode cL_act 249 = .ok (.iconst 0, 1) := by decide +kernel
theorem dL_act_250 : decode cL_act 250 = .ok (.ireturn, 1) := by decide +kernel
theorem dL_act_251 : decode cL_act 251 = .ok (.aload_n 1, 1) := by decide +kernel
theorem dL_act_252 : decode cL_act 252 = .ok (.getfield 50, 3) := by decide +kernel
theorem dL_act_255 : decode cL_act 255 = .ok (.arraylength, 1) := by decide +kernel
theorem dL_act_256 : decode cL_act 256 = .ok (.ifCond .ne 5, 3) := by decide +kernel
theorem dL_act_259 : decode cL_act 259 = .ok (.iconst 1, 1) := by decide +kernel
theorem dL_act_260 : decode cL_act 260 = .ok (.ireturn, 1) := by decide +kernel
theorem dL_act_261 : decode cL_act 261 = .ok (.iload_n 2, 1) := by decide +kernel
theorem dL_act_262 : decode cL_act 262 = .ok (.iconst 3, 1) := by decide +kernel
theorem dL_act_263 : decode cL_act 263 = .ok (.ishr, 1) := by decide +kernel
theorem dL_act_264 : decode cL_act 264 = .ok (.aload_n 1, 1) := by decide +kernel
theorem dL_act_265 : decode cL_act 265 = .ok (.getfield 50, 3) := by decide +kernel
theorem dL_act_268 : decode cL_act 268 = .ok (.arraylength, 1) := by decide +kernel
theorem dL_act_269 : decode cL_act 269 = .ok (.invokestatic 18, 3) := by decide +kernel
theorem dL_act_272 : decode cL_act 272 = .ok (.istore 10, 2) := by decide +kernel
theorem dL_act_274 : decode cL_act 274 = .ok (.aload 4, 2) := by decide +kernel
theorem dL_act_276 : decode cL_act 276 = .ok (.getfield 64, 3) := by decide +kernel
theorem dL_act_279 : decode cL_act 279 = .ok (.iload 10, 2) := by decide +kernel
theorem dL_act_281 : decode cL_act 281 = .ok (.iaload, 1) := by decide +kernel
theorem dL_act_282 : decode cL_act 282 = .ok (.istore 11, 2) := by decide +kernel
theorem dL_act_284 : decode cL_act 284 = .ok (.aload 4, 2) := by decide +kernel
theorem dL_act_286 : decode cL_act 286 = .ok (.getfield 64, 3) := by decide +kernel
theorem dL_act_289 : decode cL_act 289 = .ok (.iload 10, 2) := by decide +kernel
theorem dL_act_291 : decode cL_act 291 = .ok (.iload_n 2, 1) := by decide +kernel
theorem dL_act_292 : decode cL_act 292 = .ok (.iconst 4, 1) := by decide +kernel
theorem dL_act_293 : decode cL_act 293 = .ok (.ishr, 1) := by decide +kernel
theorem dL_act_294 : decode cL_act 294 = .ok (.iconst 3, 1) := by decide +kernel
theorem dL_act_295 : decode cL_act 295 = .ok (.invokestatic 18, 3) := by decide +kernel
theorem dL_act_298 : decode cL_act 298 = .ok (.ifCond .ne 7, 3) := by decide +kernel
theorem dL_act_301 : decode cL_act 301 = .ok (.iconst 0, 1) := by decide +kernel
theorem dL_act_302 : decode cL_act 302 = .ok (.goto 11, 3) := by decide +kernel
theorem dL_act_305 : decode cL_act 305 = .ok (.iload_n 2, 1) := by decide +kernel
theorem dL_act_306 : decode cL_act 306 = .ok (.iconst 2, 1) := by decide +kernel
theorem dL_act_307 : decode cL_act 307 = .ok (.ishr, 1) := by decide +kernel
theorem dL_act_308 : decode cL_act 308 = .ok (.bipush 100, 2) := by decide +kernel
theorem dL_act_310 : decode cL_act 310 = .ok (.invokestatic 18, 3) := by decide +kernel
theorem dL_act_313 : decode cL_act 313 = .ok (.iastore, 1) := by decide +kernel
theorem dL_act_314 : decode cL_act 314 = .ok (.aload_n 0, 1) := by decide +kernel
theorem dL_act_315 : decode cL_act 315 = .ok (.iload_n 3, 1) := by decide +kernel
theorem dL_act_316 : decode cL_act 316 = .ok (.iload 10, 2) := by decide +kernel
theorem dL_act_318 : decode cL_act 318 = .ok (.aload 4, 2) := by decide +kernel
theorem dL_act_320 : decode cL_act 320 = .ok (.getfield 64, 3) := by decide +kernel
theorem dL_act_323 : decode cL_act 323 = .ok (.iload 10, 2) := by decide +kernel
theorem dL_act_325 : decode cL_act 325 = .ok (.iaload, 1) := by decide +kernel
theorem dL_act_326 : decode cL_act 326 = .ok (.invokevirtual 57, 3) := by decide +kernel
theorem dL_act_329 : decode cL_act 329 = .ok (.iload 11, 2) := by decide +kernel
theorem dL_act_331 : decode cL_act 331 = .ok (.if_icmp .ne 7, 3) := by decide +kernel
theorem dL_act_334 : decode cL_act 334 = .ok (.iconst 1, 1) := by decide +kernel
theorem dL_act_335 : decode cL_act 335 = .ok (.goto 4, 3) := by decide +kernel
theorem dL_act_338 : decode cL_act 338 = .ok (.iconst 0, 1) := by decide +kernel
theorem dL_act_339 : decode cL_act 339 = .ok (.ireturn, 1) := by decide +kernel
theorem dL_act_340 : decode cL_act 340 = .ok (.aload_n 1, 1) := by decide +kernel
theorem dL_act_341 : decode cL_act 341 = .ok (.getfield 60, 3) := by decide +kernel
theorem dL_act_344 : decode cL_act 344 = .ok (.arraylength, 1) := by decide +kernel
theorem dL_act_345 : decode cL_act 345 = .ok (.bipush 20, 2) := by decide +kernel
theorem dL_act_347 : decode cL_act 347 = .ok (.if_icmp .ne 5, 3) := by decide +kernel
theorem dL_act_350 : decode cL_act 350 = .ok (.iconst 1, 1) := by decide +kernel
theorem dL_act_351 : decode cL_act 351 = .ok (.ireturn, 1) := by decide +kernel
theorem dL_act_352 : decode cL_act 352 = .ok (.aload_n 1, 1) := by decide +kernel
theorem dL_act_353 : decode cL_act 353 = .ok (.iconst 1, 1) := by decide +kernel
theorem dL_act_354 : decode cL_act 354 = .ok (.iload_n 2, 1) := by decide +kernel
theorem dL_act_355 : decode cL_act 355 = .ok (.iconst 3, 1) := by decide +kernel
theorem dL_act_356 : decode cL_act 356 = .ok (.invokestatic 18, 3) := by decide +kernel
theorem dL_act_359 : decode cL_act 359 = .ok (.iadd, 1) := by decide +kernel
theorem dL_act_360 : decode cL_act 360 = .ok (.iload_n 2, 1) := by decide +kernel
theorem dL_act_361 : decode cL_act 361 = .ok (.iconst 2, 1) := by decide +kernel
theorem dL_act_362 : decode cL_act 362 = .ok (.ishr, 1) := by decide +kernel
theorem dL_act_363 : decode cL_act 363 = .ok (.bipush 60, 2) := by decide +kernel
theorem dL_act_365 : decode cL_act 365 = .ok (.invokestatic 18, 3) := by decide +kernel
theorem dL_act_368 : decode cL_act 368 = .ok (.iload_n 2, 1) := by decide +kernel
theorem dL_act_369 : decode cL_act 369 = .ok (.iconst 4, 1) := by decide +kernel
theorem dL_act_370 : decode cL_act 370 = .ok (.ishr, 1) := by decide +kernel
theorem dL_act_371 : decode cL_act 371 = .ok (.bipush 10, 2) := by decide +kernel
theorem dL_act_373 : decode cL_act 373 = .ok (.invokestatic 18, 3) := by decide +kernel
theorem dL_act_376 : decode cL_act 376 = .ok (.invokevirtual 47, 3) := by decide +kernel
theorem dL_act_379 : decode cL_act 379 = .ok (.aload_n 0, 1) := by decide +kernel
theorem dL_act_380 : decode cL_act 380 = .ok (.iconst 1, 1) := by decide +kernel
theorem dL_act_381 : decode cL_act 381 = .ok (.iload_n 2, 1) := by decide +kernel
theorem dL_act_382 : decode cL_act 382 = .ok (.iconst 3, 1) := by decide +kernel
theorem dL_act_383 : decode cL_act 383 = .ok (.invokestatic 18, 3) := by decide +kernel
theorem dL_act_386 : decode cL_act 386 = .ok (.iadd, 1) := by decide +kernel
theorem dL_act_387 : decode cL_act 387 = .ok (.iload_n 2, 1) := by decide +kernel
theorem dL_act_388 : decode cL_act 388 = .ok (.iconst 2, 1) := by decide +kernel
theorem dL_act_389 : decode cL_act 389 = .ok (.ishr, 1) := by decide +kernel
theorem dL_act_390 : decode cL_act 390 = .ok (.bipush 60, 2) := by decide +kernel
theorem dL_act_392 : decode cL_act 392 = .ok (.invokestatic 18, 3) := by decide +kernel
theorem dL_act_395 : decode cL_act 395 = .ok (.iload_n 2, 1) := by decide +kernel
theorem dL_act_396 : decode cL_act 396 = .ok (.iconst 4, 1) := by decide +kernel
theorem dL_act_397 : decode cL_act 397 = .ok (.ishr, 1) := by decide +kernel
theorem dL_act_398 : decode cL_act 398 = .ok (.bipush 10, 2) := by decide +kernel
theorem dL_act_400 : decode cL_act 400 = .ok (.invokestatic 18, 3) := by decide +kernel
theorem dL_act_403 : decode cL_act 403 = .ok (.invokevirtual 43, 3) := by decide +kernel
theorem dL_act_406 : decode cL_act 406 = .ok (.aload_n 1, 1) := by decide +kernel
theorem dL_act_407 : decode cL_act 407 = .ok (.getfield 60, 3) := by decide +kernel
theorem dL_act_410 : decode cL_act 410 = .ok (.arraylength, 1) := by decide +kernel
theorem dL_act_411 : decode cL_act 411 = .ok (.iconst 1, 1) := by decide +kernel
theorem dL_act_412 : decode cL_act 412 = .ok (.isub, 1) := by decide +kernel
theorem dL_act_413 : decode cL_act 413 = .ok (.if_icmp .ne 7, 3) := by decide +kernel
theorem dL_act_416 : decode cL_act 416 = .ok (.iconst 1, 1) := by decide +kernel
theorem dL_act_417 : decode cL_act 417 = .ok (.goto 4, 3) := by decide +kernel
theorem dL_act_420 : decode cL_act 420 = .ok (.iconst 0, 1) := by decide +kernel
theorem dL_act_421 : decode cL_act 421 = .ok (.ireturn, 1) := by decide +kernel
