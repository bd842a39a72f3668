theorem dX3_burn_0 : decode cX3_burn 0 = .ok (.iconst 0, 1) := by decide +kernel
theorem dX3_burn_1 : decode cX3_burn 1 = .ok (.istore_n 2, 1) := by decide +kernel
theorem dX3_burn_2 : decode cX3_burn 2 = .ok (.iload_n 2, 1) := by decide +kernel
theorem dX3_burn_3 : decode cX3_burn 3 = .ok (.aload_n 0, 1) := by decide +kernel
theorem dX3_burn_4 : decode cX3_burn 4 = .ok (.getfield 58, 3) := by decide +kernel
theorem dX3_burn_7 : decode cX3_burn 7 = .ok (.if_icmp .ge 74, 3) := by decide +kernel
theorem dX3_burn_10 : decode cX3_burn 10 = .ok (.aload_n 0, 1) := by decide +kernel
theorem dX3_burn_11 : decode cX3_burn 11 = .ok (.iload_n 2, 1) := by decide +kernel
theorem dX3_burn_12 : decode cX3_burn 12 = .ok (.iconst 3, 1) := by decide +kernel
theorem dX3_burn_13 : decode cX3_burn 13 = .ok (.invokevirtual 89, 3) := by decide +kernel
theorem dX3_burn_16 : decode cX3_burn 16 = .ok (.ifCond .eq 59, 3) := by decide +kernel
theorem dX3_burn_19 : decode cX3_burn 19 = .ok (.aload_n 0, 1) := by decide +kernel
theorem dX3_burn_20 : decode cX3_burn 20 = .ok (.iload_n 2, 1) := by decide +kernel
theorem dX3_burn_21 : decode cX3_burn 21 = .ok (.iconst 4, 1) := by decide +kernel
theorem dX3_burn_22 : decode cX3_burn 22 = .ok (.invokevirtual 89, 3) := by decide +kernel
theorem dX3_burn_25 : decode cX3_burn 25 = .ok (.iconst 2, 1) := by decide +kernel
theorem dX3_burn_26 : decode cX3_burn 26 = .ok (.if_icmp .ne 6, 3) := by decide +kernel
theorem dX3_burn_29 : decode cX3_burn 29 = .ok (.goto 46, 3) := by decide +kernel
theorem dX3_burn_32 : decode cX3_burn 32 = .ok (.aload_n 0, 1) := by decide +kernel
theorem dX3_burn_33 : decode cX3_burn 33 = .ok (.iload_n 2, 1) := by decide +kernel
theorem dX3_burn_34 : decode cX3_burn 34 = .ok (.iconst 1, 1) := by decide +kernel
theorem dX3_burn_35 : decode cX3_burn 35 = .ok (.iconst 0, 1) := by decide +kernel
theorem dX3_burn_36 : decode cX3_burn 36 = .ok (.aload_n 0, 1) := by decide +kernel
theorem dX3_burn_37 : decode cX3_burn 37 = .ok (.iload_n 2, 1) := by decide +kernel
theorem dX3_burn_38 : decode cX3_burn 38 = .ok (.iconst 1, 1) := by decide +kernel
theorem dX3_burn_39 : decode cX3_burn 39 = .ok (.invokevirtual 89, 3) := by decide +kernel
theorem dX3_burn_42 : decode cX3_burn 42 = .ok (.iload_n 1, 1) := by decide +kernel
theorem dX3_burn_43 : decode cX3_burn 43 = .ok (.iconst 5, 1) := by decide +kernel
theorem dX3_burn_44 : decode cX3_burn 44 = .ok (.if_icmp .le 7, 3) := by decide +kernel
theorem dX3_burn_47 : decode cX3_burn 47 = .ok (.iconst 2, 1) := by decide +kernel
theorem dX3_burn_48 : decode cX3_burn 48 = .ok (.goto 4, 3) := by decide +kernel
theorem dX3_burn_51 : decode cX3_burn 51 = .ok (.iconst 1, 1) := by decide +kernel
theorem dX3_burn_52 : decode cX3_burn 52 = .ok (.isub, 1) := by decide +kernel
theorem dX3_burn_53 : decode cX3_burn 53 = .ok (.invokestatic 135, 3) := by decide +kernel
theorem dX3_burn_56 : decode cX3_burn 56 = .ok (.invokevirtual 97, 3) := by decide +kernel
theorem dX3_burn_59 : decode cX3_burn 59 = .ok (.aload_n 0, 1) := by decide +kernel
theorem dX3_burn_60 : decode cX3_burn 60 = .ok (.iload_n 2, 1) := by decide +kernel
theorem dX3_burn_61 : decode cX3_burn 61 = .ok (.iconst 1, 1) := by decide +kernel
theorem dX3_burn_62 : decode cX3_burn 62 = .ok (.invokevirtual 89, 3) := by decide +kernel
theorem dX3_burn_65 : decode cX3_burn 65 = .ok (.ifCond .ne 10, 3) := by decide +kernel
theorem dX3_burn_68 : decode cX3_burn 68 = .ok (.aload_n 0, 1) := by decide +kernel
theorem dX3_burn_69 : decode cX3_burn 69 = .ok (.iload_n 2, 1) := by decide +kernel
theorem dX3_burn_70 : decode cX3_burn 70 = .ok (.iconst 3, 1) := by decide +kernel
theorem dX3_burn_71 : decode cX3_burn 71 = .ok (.iconst 0, 1) := by decide +kernel
theorem dX3_burn_72 : decode cX3_burn 72 = .ok (.invokevirtual 97, 3) := by decide +kernel
theorem dX3_burn_75 : decode cX3_burn 75 = .ok (.iinc 2 1, 3) := by decide +kernel
theorem dX3_burn_78 : decode cX3_burn 78 = .ok (.goto (-76), 3) := by decide +kernel
theorem dX3_burn_81 : decode cX3_burn 81 = .ok (.iconst 0, 1) := by decide +kernel
theorem dX3_burn_82 : decode cX3_burn 82 = .ok (.istore_n 2, 1) := by decide +kernel
theorem dX3_burn_83 : decode cX3_burn 83 = .ok (.iload_n 2, 1) := by decide +kernel
theorem dX3_burn_84 : decode cX3_burn 84 = .ok (.aload_n 0, 1) := by decide +kernel
theorem dX3_burn_85 : decode cX3_burn 85 = .ok (.getfield 58, 3) := by decide +kernel
theorem dX3_burn_88 : decode cX3_burn 88 = .ok (.if_icmp .ge 39, 3) := by decide +kernel
theorem dX3_burn_91 : decode cX3_burn 91 = .ok (.iload_n 1, 1) := by decide +kernel
theorem dX3_burn_92 : decode cX3_burn 92 = .ok (.bipush 8, 2) := by decide +kernel
theorem dX3_burn_94 : decode cX3_burn 94 = .ok (.if_icmp .lt 33, 3) := by decide +kernel
theorem dX3_burn_97 : decode cX3_burn 97 = .ok (.aload_n 0, 1) := by decide +kernel
theorem dX3_burn_98 : decode cX3_burn 98 = .ok (.iload_n 2, 1) := by decide +kernel
theorem dX3_burn_99 : decode cX3_burn 99 = .ok (.invokevirtual 104, 3) := by decide +kernel
theorem dX3_burn_102 : decode cX3_burn 102 = .ok (.ifCond .eq 19, 3) := by decide +kernel
theorem dX3_burn_105 : decode cX3_burn 105 = .ok (.aload_n 0, 1) := by decide +kernel
theorem dX3_burn_106 : decode cX3_burn 106 = .ok (.iload_n 2, 1) := by decide +kernel
theorem dX3_burn_107 : decode cX3_burn 107 = .ok (.invokevirtual 123, 3) := by decide +kernel
theorem dX3_burn_110 : decode cX3_burn 110 = .ok (.iconst 2, 1) := by decide +kernel
theorem dX3_burn_111 : decode cX3_burn 111 = .ok (.if_icmp .ge 10, 3) := by decide +kernel
theorem dX3_burn_114 : decode cX3_burn 114 = .ok (.aload_n 0, 1) := by decide +kernel
theorem dX3_burn_115 : decode cX3_burn 115 = .ok (.iload_n 2, 1) := by decide +kernel
theorem dX3_burn_116 : decode cX3_burn 116 = .ok (.iconst 3, 1) := by decide +kernel
theorem dX3_burn_117 : decode cX3_burn 117 = .ok (.iconst 0, 1) := by decide +kernel
theorem dX3_burn_118 : decode cX3_burn 118 = .ok (.invokevirtual 97, 3) := by decide +kernel
theorem dX3_burn_121 : decode cX3_burn 121 = .ok (.iinc 2 1, 3) := by decide +kernel
theorem dX3_burn_124 : decode cX3_burn 124 = .ok (.goto (-41), 3) := by decide +kernel
theorem dX3_burn_127 : decode cX3_burn 127 = .ok (.iconst 0, 1) := by decide +kernel
theorem dX3_burn_128 : decode cX3_burn 128 = .ok (.istore_n 2, 1) := by decide +kernel
theorem dX3_burn_129 : decode cX3_burn 129 = .ok (.iload_n 2, 1) := by decide +kernel
theorem dX3_burn_130 : decode cX3_burn 130 = .ok (.aload_n 0, 1) := by decide +kernel
theorem dX3_burn_131 : decode cX3_burn 131 = .ok (.getfield 58, 3) := by decide +kernel
theorem dX3_burn_134 : decode cX3_burn 134 = .ok (.if_icmp .ge 91, 3) := by decide +kernel
theorem dX3_burn_137 : decode cX3_burn 137 = .ok (.aload_n 0, 1) := by decide +kernel
theorem dX3_burn_138 : decode cX3_burn 138 = .ok (.getfield 34, 3) := by decide +kernel
theorem dX3_burn_141 : decode cX3_burn 141 = .ok (.iload_n 2, 1) := by decide +kernel
theorem dX3_burn_142 : decode cX3_burn 142 = .ok (.iconst 0, 1) := by decide +kernel
theorem dX3_burn_143 : decode cX3_burn 143 = .ok (.bastore, 1) := by decide +kernel
theorem dX3_burn_144 : decode cX3_burn 144 = .ok (.aload_n 0, 1) := by decide +kernel
theorem dX3_burn_145 : decode cX3_burn 145 = .ok (.iload_n 2, 1) := by decide +kernel
theorem dX3_burn_146 : decode cX3_burn 146 = .ok (.invokevirtual 104, 3) := by decide +kernel
theorem dX3_burn_149 : decode cX3_burn 149 = .ok (.ifCond .eq 70, 3) := by decide +kernel
theorem dX3_burn_152 : decode cX3_burn 152 = .ok (.aload_n 0, 1) := by decide +kernel
theorem dX3_burn_153 : decode cX3_burn 153 = .ok (.iload_n 2, 1) := by decide +kernel
theorem dX3_burn_154 : decode cX3_burn 154 = .ok (.iconst 1, 1) := by decide +kernel
theorem dX3_burn_155 : decode cX3_burn 155 = .ok (.invokevirtual 89, 3) := by decide +kernel
theorem dX3_burn_158 : decode cX3_burn 158 = .ok (.ifCond .ne 6, 3) := by decide +kernel
theorem dX3_burn_161 : decode cX3_burn 161 = .ok (.goto 58, 3) := by decide +kernel
theorem dX3_burn_164 : decode cX3_burn 164 = .ok (.iconst 0, 1) := by decide +kernel
theorem dX3_burn_165 : decode cX3_burn 165 = .ok (.istore_n 3, 1) := by decide +kernel
theorem dX3_burn_166 : decode cX3_burn 166 = .ok (.iload_n 3, 1) := by decide +kernel
theorem dX3_burn_167 : decode cX3_burn 167 = .ok (.aload_n 0, 1) := by decide +kernel
theorem dX3_burn_168 : decode cX3_burn 168 = .ok (.getfield 58, 3) := by decide +kernel
theorem dX3_burn_171 : decode cX3_burn 171 = .ok (.if_icmp .ge 48, 3) := by decide +kernel
theorem dX3_burn_174 : decode cX3_burn 174 = .ok (.aload_n 0, 1) := by decide +kernel
theorem dX3_burn_175 : decode cX3_burn 175 = .ok (.getfield 34, 3) := by decide +kernel
theorem dX3_burn_178 : decode cX3_burn 178 = .ok (.iload_n 2, 1) := by decide +kernel
theorem dX3_burn_179 : decode cX3_burn 179 = .ok (.aload_n 0, 1) := by decide +kernel
theorem dX3_burn_180 : decode cX3_burn 180 = .ok (.getfield 34, 3) := by decide +kernel
theorem dX3_burn_183 : decode cX3_burn 183 = .ok (.iload_n 2, 1) := by decide +kernel
theorem dX3_burn_184 : decode cX3_burn 184 = .ok (.baload, 1) := by decide +kernel
theorem dX3_burn_185 : decode cX3_burn 185 = .ok (.ifCond .ne 22, 3) := by decide +kernel
theorem dX3_burn_188 : decode cX3_burn 188 = .ok (.aload_n 0, 1) := by decide +kernel
theorem dX3_burn_189 : decode cX3_burn 189 = .ok (.iload_n 2, 1) := by decide +kernel
theorem dX3_burn_190 : decode cX3_burn 190 = .ok (.iload_n 3, 1) := by decide +kernel
theorem dX3_burn_191 : decode cX3_burn 191 = .ok (.invokevirtual 119, 3) := by decide +kernel
theorem dX3_burn_194 : decode cX3_burn 194 = .ok (.ifCond .eq 17, 3) := by decide +kernel
theorem dX3_burn_197 : decode cX3_burn 197 = .ok (.aload_n 0, 1) := by decide +kernel
theorem dX3_burn_198 : decode cX3_burn 198 = .ok (.iload_n 3, 1) := by decide +kernel
theorem dX3_burn_199 : decode cX3_burn 199 = .ok (.iconst 3, 1) := by decide +kernel
theorem dX3_burn_200 : decode cX3_burn 200 = .ok (.invokevirtual 89, 3) := by decide +kernel
theorem dX3_burn_203 : decode cX3_burn 203 = .ok (.iconst 1, 1) := by decide +kernel
theorem dX3_burn_204 : decode cX3_burn 204 = .ok (.if_icmp .ne 7, 3) := by decide +kernel
theorem dX3_burn_207 : decode cX3_burn 207 = .ok (.iconst 1, 1) := by decide +kernel
theorem dX3_burn_208 : decode cX3_burn 208 = .ok (.goto 4, 3) := by decide +kernel
theorem dX3_burn_211 : decode cX3_burn 211 = .ok (.iconst 0, 1) := by decide +kernel
theorem dX3_burn_212 : decode cX3_burn 212 = .ok (.bastore, 1) := by decide +kernel
theorem dX3_burn_213 : decode cX3_burn 213 = .ok (.iinc 3 1, 3) := by decide +kernel
theorem dX3_burn_216 : decode cX3_burn 216 = .ok (.goto (-50), 3) := by decide +kernel
theorem dX3_burn_219 : decode cX3_burn 219 = .ok (.iinc 2 1, 3) := by decide +kernel
theorem dX3_burn_222 : decode cX3_burn 222 = .ok (.goto (-93), 3) := by decide +kernel
theorem dX3_burn_225 : decode cX3_burn 225 = .ok (.iconst 0, 1) := by decide +kernel
theorem dX3_burn_226 : decode cX3_burn 226 = .ok (.istore_n 2, 1) := by decide +kernel
theorem dX3_burn_227 : decode cX3_burn 227 = .ok (.iload_n 2, 1) := by decide +kernel
theorem dX3_burn_228 : decode cX3_burn 228 = .ok (.aload_n 0, 1) := by decide +kernel
theorem dX3_burn_229 : decode cX3_burn 229 = .ok (.getfield 58, 3) := by decide +kernel
theorem dX3_burn_232 : decode cX3_burn 232 = .ok (.if_icmp .ge 25, 3) := by decide +kernel
theorem dX3_burn_235 : decode cX3_burn 235 = .ok (.aload_n 0, 1) := by decide +kernel
theorem dX3_burn_236 : decode cX3_burn 236 = .ok (.getfield 34, 3) := by decide +kernel
theorem dX3_burn_239 : decode cX3_burn 239 = .ok (.iload_n 2, 1) := by decide +kernel
theorem dX3_burn_240 : decode cX3_burn 240 = .ok (.baload, 1) := by decide +kernel
theorem dX3_burn_241 : decode cX3_burn 241 = .ok (.ifCond .eq 10, 3) := by decide +kernel
theorem dX3_burn_244 : decode cX3_burn 244 = .ok (.aload_n 0, 1) := by decide +kernel
theorem dX3_burn_245 : decode cX3_burn 245 = .ok (.iload_n 2, 1) := by decide +kernel
theorem dX3_burn_246 : decode cX3_burn 246 = .ok (.iconst 3, 1) := by decide +kernel
theorem dX3_burn_247 : decode cX3_burn 247 = .ok (.iconst 1, 1) := by decide +kernel
theorem dX3_burn_248 : decode cX3_burn 248 = .ok (.invokevirtual 97, 3) := by decide +kernel
theorem dX3_burn_251 : decode cX3_burn 251 = .ok (.iinc 2 1, 3) := by decide +kernel
theorem dX3_burn_254 : decode cX3_burn 254 = .ok (.goto (-27), 3) := by decide +kernel
theorem dX3_burn_257 : decode cX3_burn 257 = .ok (.return_, 1) := by decide +kernel
set_option maxRecDepth 20000 in
theorem ggX3_learnt_X3_isNeighbour : GoodIn wsX3_learnt wsX3_isNeighbour := goodIn_r _ [8, 9, 10, 11, 12, 13, 14, 15, 7, 16, 17, 18, 19, 20, 21, 22, 23, 24, 25, 26, 27, 28, 29, 30, 31, 32, 33, 34, 35, 36, 37] (by decide +kernel) (by decide +kernel)
set_option maxRecDepth 20000 in
theorem gX3_learnt_X3_isNeighbour : GoodIn wsX3_learnt (wsV RX3 119 RX3 yX3_isNeighbour wsX3_isNeighbour) := goodIn_app (goodIn_of _ (by decide +kernel)) ggX3_learnt_X3_isNeighbour
set_option maxRecDepth 20000 in
theorem ggX3_learnt_X3_pe : GoodIn wsX3_learnt wsX3_pe := goodIn_r _ [20, 21, 22, 23, 24, 25, 26, 27, 28, 29, 30, 31, 32, 33, 34, 35, 36, 37] (by decide +kernel) (by decide +kernel)
set_option maxRecDepth 20000 in
theorem gX3_learnt_X3_pe : GoodIn wsX3_learnt (wsV RX3 89 RX3 yX3_pe wsX3_pe) := goodIn_app (goodIn_of _ (by decide +kernel)) ggX3_learnt_X3_pe
theorem dX3_learnt_0 : decode cX3_learnt 0 = .ok (.iconst (-1), 1) := by decide +kernel
theorem dX3_learnt_1 : decode cX3_learnt 1 = .ok (.istore_n 3, 1) := by decide +kernel
theorem dX3_learnt_2 : decode cX3_learnt 2 = .ok (.iconst 0, 1) := by decide +kernel
theorem dX3_learnt_3 : decode cX3_learnt 3 = .ok (.istore 4, 2) := by decide +kernel
theorem dX3_learnt_5 : decode cX3_learnt 5 = .ok (.iload 4, 2) := by decide +kernel
theorem dX3_learnt_7 : decode cX3_learnt 7 = .ok (.aload_n 0, 1) := by decide +kernel
theorem dX3_learnt_8 : decode cX3_learnt 8 = .ok (.getfield 58, 3) := by decide +kernel
theorem dX3_learnt_11 : decode cX3_learnt 11 = .ok (.if_icmp .ge 58, 3) := by decide +kernel
theorem dX3_learnt_14 : decode cX3_learnt 14 = .ok (.aload_n 0, 1) := by decide +kernel
theorem dX3_learnt_15 : decode cX3_learnt 15 = .ok (.iload_n 1, 1) := by decide +kernel
theorem dX3_learnt_16 : decode cX3_learnt 16 = .ok (.iload 4, 2) := by decide +kernel
theorem dX3_learnt_18 : decode cX3_learnt 18 = .ok (.invokevirtual 119, 3) := by decide +kernel
theorem dX3_learnt_21 : decode cX3_learnt 21 = .ok (.ifCond .eq 42, 3) := by decide +kernel
theorem dX3_learnt_24 : decode cX3_learnt 24 = .ok (.aload_n 0, 1) := by decide +kernel
theorem dX3_learnt_25 : decode cX3_learnt 25 = .ok (.getfield 25, 3) := by decide +kernel
theorem dX3_learnt_28 : decode cX3_learnt 28 = .ok (.bipush 6, 2) := by decide +kernel
theorem dX3_learnt_30 : decode cX3_learnt 30 = .ok (.iload 4, 2) := by decide +kernel
theorem dX3_learnt_32 : decode cX3_learnt 32 = .ok (.imul, 1) := by decide +kernel
theorem dX3_learnt_33 : decode cX3_learnt 33 = .ok (.iload_n 2, 1) := by decide +kernel
theorem dX3_learnt_34 : decode cX3_learnt 34 = .ok (.iadd, 1) := by decide +kernel
theorem dX3_learnt_35 : decode cX3_learnt 35 = .ok (.iaload, 1) := by decide +kernel
theorem dX3_learnt_36 : decode cX3_learnt 36 = .ok (.ifCond .le 27, 3) := by decide +kernel
theorem dX3_learnt_39 : decode cX3_learnt 39 = .ok (.iload_n 3, 1) := by decide +kernel
theorem dX3_learnt_40 : decode cX3_learnt 40 = .ok (.iconst (-1), 1) := by decide +kernel
theorem dX3_learnt_41 : decode cX3_learnt 41 = .ok (.if_icmp .eq 19, 3) := by decide +kernel
theorem dX3_learnt_44 : decode cX3_learnt 44 = .ok (.aload_n 0, 1) := by decide +kernel
theorem dX3_learnt_45 : decode cX3_learnt 45 = .ok (.iload 4, 2) := by decide +kernel
theorem dX3_learnt_47 : decode cX3_learnt 47 = .ok (.iconst 2, 1) := by decide +kernel
theorem dX3_learnt_48 : decode cX3_learnt 48 = .ok (.invokevirtual 89, 3) := by decide +kernel
theorem dX3_learnt_51 : decode cX3_learnt 51 = .ok (.aload_n 0, 1) := by decide +kernel
theorem dX3_learnt_52 : decode cX3_learnt 52 = .ok (.iload_n 3, 1) := by decide +kernel
theorem dX3_learnt_53 : decode cX3_learnt 53 = .ok (.iconst 2, 1) := by decide +kernel
theorem dX3_learnt_54 : decode cX3_learnt 54 = .ok (.invokevirtual 89, 3) := by decide +kernel
theorem dX3_learnt_57 : decode cX3_learnt 57 = .ok (.if_icmp .le 6, 3) := by decide +kernel
theorem dX3_learnt_60 : decode cX3_learnt 60 = .ok (.iload 4, 2) := by decide +kernel
theorem dX3_learnt_62 : decode cX3_learnt 62 = .ok (.istore_n 3, 1) := by decide +kernel
theorem dX3_learnt_63 : decode cX3_learnt 63 = .ok (.iinc 4 1, 3) := by decide +kernel
theorem dX3_learnt_66 : decode cX3_learnt 66 = .ok (.goto (-61), 3) := by decide +kernel
theorem dX3_learnt_69 : decode cX3_learnt 69 = .ok (.iload_n 3, 1) := by decide +kernel
theorem dX3_learnt_70 : decode cX3_learnt 70 = .ok (.iconst (-1), 1) := by decide +kernel
theorem dX3_learnt_71 : decode cX3_learnt 71 = .ok (.if_icmp .eq 33, 3) := by decide +kernel
theorem dX3_learnt_74 : decode cX3_learnt 74 = .ok (.aload_n 0, 1) := by decide +kernel
theorem dX3_learnt_75 : decode cX3_learnt 75 = .ok (.iload_n 3, 1) := by decide +kernel
theorem dX3_learnt_76 : decode cX3_learnt 76 = .ok (.iconst 2, 1) := by decide +kernel
theorem dX3_learnt_77 : decode cX3_learnt 77 = .ok (.invokevirtual 89, 3) := by decide +kernel
theorem dX3_learnt_80 : decode cX3_learnt 80 = .ok (.aload_n 0, 1) := by decide +kernel
theorem dX3_learnt_81 : decode cX3_learnt 81 = .ok (.iload_n 1, 1) := by decide +kernel
theorem dX3_learnt_82 : decode cX3_learnt 82 = .ok (.iconst 3, 1) := by decide +kernel
theorem dX3_learnt_83 : decode cX3_learnt 83 = .ok (.invokevirtual 89, 3) := by decide +kernel
theorem dX3_learnt_86 : decode cX3_learnt 86 = .ok (.ifCond .ne 7, 3) := by decide +kernel
theorem dX3_learnt_89 : decode cX3_learnt 89 = .ok (.iconst 3, 1) := by decide +kernel
theorem dX3_learnt_90 : decode cX3_learnt 90 = .ok (.goto 4, 3) := by decide +kernel
theorem dX3_learnt_93 : decode cX3_learnt 93 = .ok (.iconst 0, 1) := by decide +kernel
theorem dX3_learnt_94 : decode cX3_learnt 94 = .ok (.iadd, 1) := by decide +kernel
theorem dX3_learnt_95 : decode cX3_learnt 95 = .ok (.aload_n 0, 1) := by decide +kernel
theorem dX3_learnt_96 : decode cX3_learnt 96 = .ok (.getfield 22, 3) := by decide +kernel
theorem dX3_learnt_99 : decode cX3_learnt 99 = .ok (.iload_n 2, 1) := by decide +kernel
theorem dX3_learnt_100 : decode cX3_learnt 100 = .ok (.iaload, 1) := by decide +kernel
theorem dX3_learnt_101 : decode cX3_learnt 101 = .ok (.if_icmp .ge 5, 3) := by decide +kernel
theorem dX3_learnt_104 : decode cX3_learnt 104 = .ok (.iconst 0, 1) := by decide +kernel
theorem dX3_learnt_105 : decode cX3_learnt 105 = .ok (.ireturn, 1) := by decide +kernel
theorem dX3_learnt_106 : decode cX3_learnt 106 = .ok (.aload_n 0, 1) := by decide +kernel
theorem dX3_learnt_107 : decode cX3_learnt 107 = .ok (.getfield 25, 3) := by decide +kernel
theorem dX3_learnt_110 : decode cX3_learnt 110 = .ok (.bipush 6, 2) := by decide +kernel
theorem dX3_learnt_112 : decode cX3_learnt 112 = .ok (.iload_n 3, 1) := by decide +kernel
theorem dX3_learnt_113 : decode cX3_learnt 113 = .ok (.imul, 1) := by decide +kernel
theorem dX3_learnt_114 : decode cX3_learnt 114 = .ok (.iload_n 2, 1) := by decide +kernel
theorem dX3_learnt_115 : decode cX3_learnt 115 = .ok (.iadd, 1) := by decide +kernel
theorem dX3_learnt_116 : decode cX3_learnt 116 = .ok (.iaload, 1) := by decide +kernel
theorem dX3_learnt_117 : decode cX3_learnt 117 = .ok (.istore 4, 2) := by decide +kernel
theorem dX3_learnt_119 : decode cX3_learnt 119 = .ok (.aload_n 0, 1) := by decide +kernel
theorem dX3_learnt_120 : decode cX3_learnt 120 = .ok (.iload_n 1, 1) := by decide +kernel
theorem dX3_learnt_121 : decode cX3_learnt 121 = .ok (.iconst 3, 1) := by decide +kernel
theorem dX3_learnt_122 : decode cX3_learnt 122 = .ok (.invokevirtual 89, 3) := by decide +kernel
theorem dX3_learnt_125 : decode cX3_learnt 125 = .ok (.aload_n 0, 1) := by decide +kernel
theorem dX3_learnt_126 : decode cX3_learnt 126 = .ok (.iload_n 3, 1) := by decide +kernel
theorem dX3_learnt_127 : decode cX3_learnt 127 = .ok (.iconst 3, 1) := by decide +kernel
theorem dX3_learnt_128 : decode cX3_learnt 128 = .ok (.invokevirtual 89, 3) := by decide +kernel
theorem dX3_learnt_131 : decode cX3_learnt 131 = .ok (.iadd, 1) := by decide +kernel
theorem dX3_learnt_132 : decode cX3_learnt 132 = .ok (.iconst 2, 1) := by decide +kernel
theorem dX3_learnt_133 : decode cX3_learnt 133 = .ok (.if_icmp .ne 13, 3) := by decide +kernel
theorem dX3_learnt_136 : decode cX3_learnt 136 = .ok (.iload 4, 2) := by decide +kernel
theorem dX3_learnt_138 : decode cX3_learnt 138 = .ok (.bipush 99, 2) := by decide +kernel
theorem dX3_learnt_140 : decode cX3_learnt 140 = .ok (.irem, 1) := by decide +kernel
theorem dX3_learnt_141 : decode cX3_learnt 141 = .ok (.iconst 1, 1) := by decide +kernel
theorem dX3_learnt_142 : decode cX3_learnt 142 = .ok (.iadd, 1) := by decide +kernel
theorem dX3_learnt_143 : decode cX3_learnt 143 = .ok (.goto 5, 3) := by decide +kernel
theorem dX3_learnt_146 : decode cX3_learnt 146 = .ok (.iload 4, 2) := by decide +kernel
theorem dX3_learnt_148 : decode cX3_learnt 148 = .ok (.ireturn, 1) := by decide +kernel
set_option maxRecDepth 20000 in
theorem ggX3_sing_X3_walks : GoodIn wsX3_sing wsX3_walks := goodIn_r _ [9, 10, 11, 12, 8, 13, 14, 28, 29, 30, 31, 32, 33, 34, 35, 36, 37, 38, 39, 40, 41, 42, 43] (by decide +kernel) (by decide +kernel)
set_option maxRecDepth 20000 in
theorem gX3_sing_X3_walks : GoodIn wsX3_sing (wsV RX3 104 RX3 yX3_walks wsX3_walks) := goodIn_app (goodIn_of _ (by decide +kernel)) ggX3_sing_X3_walks
set_option maxRecDepth 20000 in
theorem ggX3_sing_X3_learnt : GoodIn wsX3_sing wsX3_learnt := goodIn_r _ [18, 1, 4, 19, 20, 21, 22, 8, 23, 24, 25, 26, 27, 5, 6, 7, 9, 10, 11, 12, 13, 14, 28, 29, 30, 31, 32, 33, 34, 35, 36, 37, 38, 39, 40, 41, 42, 43] (by decide +kernel) (by decide +kernel)
set_option maxRecDepth 20000 in
theorem gX3_sing_X3_learnt : GoodIn wsX3_sing (wsV RX3 138 RX3 yX3_learnt wsX3_learnt) := goodIn_app (goodIn_of _ (by decide +kernel)) ggX3_sing_X3_learnt
theorem dX3_sing_0 : decode cX3_sing 0 = .ok (.iconst 0, 1) := by decide +kernel
theorem dX3_sing_1 : decode cX3_sing 1 = .ok (.istore_n 1, 1) := by decide +kernel
theorem dX3_sing_2 : decode cX3_sing 2 = .ok (.iload_n 1, 1) := by decide +kernel
theorem dX3_sing_3 : decode cX3_sing 3 = .ok (.aload_n 0, 1) := by decide +kernel
theorem dX3_sing_4 : decode cX3_sing 4 = .ok (.getfield 58, 3) := by decide +kernel
theorem dX3_sing_7 : decode cX3_sing 7 = .ok (.if_icmp .ge 68, 3) := by decide +kernel
theorem dX3_sing_10 : decode cX3_sing 10 = .ok (.iconst 0, 1) := by decide +kernel
theorem dX3_sing_11 : decode cX3_sing 11 = .ok (.istore_n 2, 1) := by decide +kernel
theorem dX3_sing_12 : decode cX3_sing 12 = .ok (.iload_n 2, 1) := by decide +kernel
theorem dX3_sing_13 : decode cX3_sing 13 = .ok (.aload_n 0, 1) := by decide +kernel
theorem dX3_sing_14 : decode cX3_sing 14 = .ok (.getfield 61, 3) := by decide +kernel
theorem dX3_sing_17 : decode cX3_sing 17 = .ok (.if_icmp .ge 52, 3) := by decide +kernel
theorem dX3_sing_20 : decode cX3_sing 20 = .ok (.aload_n 0, 1) := by decide +kernel
theorem dX3_sing_21 : decode cX3_sing 21 = .ok (.getfield 31, 3) := by decide +kernel
theorem dX3_sing_24 : decode cX3_sing 24 = .ok (.bipush 6, 2) := by decide +kernel
theorem dX3_sing_26 : decode cX3_sing 26 = .ok (.iload_n 1, 1) := by decide +kernel
theorem dX3_sing_27 : decode cX3_sing 27 = .ok (.imul, 1) := by decide +kernel
theorem dX3_sing_28 : decode cX3_sing 28 = .ok (.iload_n 2, 1) := by decide +kernel
theorem dX3_sing_29 : decode cX3_sing 29 = .ok (.iadd, 1) := by decide +kernel
theorem dX3_sing_30 : decode cX3_sing 30 = .ok (.aload_n 0, 1) := by decide +kernel
theorem dX3_sing_31 : decode cX3_sing 31 = .ok (.iload_n 1, 1) := by decide +kernel
theorem dX3_sing_32 : decode cX3_sing 32 = .ok (.invokevirtual 104, 3) := by decide +kernel
theorem dX3_sing_35 : decode cX3_sing 35 = .ok (.ifCond .eq 26, 3) := by decide +kernel
theorem dX3_sing_38 : decode cX3_sing 38 = .ok (.aload_n 0, 1) := by decide +kernel
theorem dX3_sing_39 : decode cX3_sing 39 = .ok (.getfield 25, 3) := by decide +kernel
theorem dX3_sing_42 : decode cX3_sing 42 = .ok (.bipush 6, 2) := by decide +kernel
theorem dX3_sing_44 : decode cX3_sing 44 = .ok (.iload_n 1, 1) := by decide +kernel
theorem dX3_sing_45 : decode cX3_sing 45 = .ok (.imul, 1) := by decide +kernel
theorem dX3_sing_46 : decode cX3_sing 46 = .ok (.iload_n 2, 1) := by decide +kernel
theorem dX3_sing_47 : decode cX3_sing 47 = .ok (.iadd, 1) := by decide +kernel
theorem dX3_sing_48 : decode cX3_sing 48 = .ok (.iaload, 1) := by decide +kernel
theorem dX3_sing_49 : decode cX3_sing 49 = .ok (.ifCond .ne 12, 3) := by decide +kernel
theorem dX3_sing_52 : decode cX3_sing 52 = .ok (.aload_n 0, 1) := by decide +kernel
theorem dX3_sing_53 : decode cX3_sing 53 = .ok (.iload_n 1, 1) := by decide +kernel
theorem dX3_sing_54 : decode cX3_sing 54 = .ok (.iload_n 2, 1) := by decide +kernel
theorem dX3_sing_55 : decode cX3_sing 55 = .ok (.invokevirtual 138, 3) := by decide +kernel
theorem dX3_sing_58 : decode cX3_sing 58 = .ok (.goto 4, 3) := by decide +kernel
theorem dX3_sing_61 : decode cX3_sing 61 = .ok (.iconst 0, 1) := by decide +kernel
theorem dX3_sing_62 : decode cX3_sing 62 = .ok (.iastore, 1) := by decide +kernel
theorem dX3_sing_63 : decode cX3_sing 63 = .ok (.iinc 2 1, 3) := by decide +kernel
theorem dX3_sing_66 : decode cX3_sing 66 = .ok (.goto (-54), 3) := by decide +kernel
theorem dX3_sing_69 : decode cX3_sing 69 = .ok (.iinc 1 1, 3) := by decide +kernel
theorem dX3_sing_72 : decode cX3_sing 72 = .ok (.goto (-70), 3) := by decide +kernel
theorem dX3_sing_75 : decode cX3_sing 75 = .ok (.iconst 0, 1) := by decide +kernel
theorem dX3_sing_76 : decode cX3_sing 76 = .ok (.istore_n 1, 1) := by decide +kernel
theorem dX3_sing_77 : decode cX3_sing 77 = .ok (.iload_n 1, 1) := by decide +kernel
theorem dX3_sing_78 : decode cX3_sing 78 = .ok (.aload_n 0, 1) := by decide +kernel
theorem dX3_sing_79 : decode cX3_sing 79 = .ok (.getfield 25, 3) := by decide +kernel
theorem dX3_sing_82 : decode cX3_sing 82 = .ok (.arraylength, 1) := by decide +kernel
theorem dX3_sing_83 : decode cX3_sing 83 = .ok (.if_icmp .ge 30, 3) := by decide +kernel
theorem dX3_sing_86 : decode cX3_sing 86 = .ok (.aload_n 0, 1) := by decide +kernel
theorem dX3_sing_87 : decode cX3_sing 87 = .ok (.getfield 31, 3) := by decide +kernel
theorem dX3_sing_90 : decode cX3_sing 90 = .ok (.iload_n 1, 1) := by decide +kernel
theorem dX3_sing_91 : decode cX3_sing 91 = .ok (.iaload, 1) := by decide +kernel
theorem dX3_sing_92 : decode cX3_sing 92 = .ok (.ifCond .le 15, 3) := by decide +kernel
theorem dX3_sing_95 : decode cX3_sing 95 = .ok (.aload_n 0, 1) := by decide +kernel
theorem dX3_sing_96 : decode cX3_sing 96 = .ok (.getfield 25, 3) := by decide +kernel
theorem dX3_sing_99 : decode cX3_sing 99 = .ok (.iload_n 1, 1) := by decide +kernel
theorem dX3_sing_100 : decode cX3_sing 100 = .ok (.aload_n 0, 1) := by decide +kernel
theorem dX3_sing_101 : decode cX3_sing 101 = .ok (.getfield 31, 3) := by decide +kernel
theorem dX3_sing_104 : decode cX3_sing 104 = .ok (.iload_n 1, 1) := by decide +kernel
theorem dX3_sing_105 : decode cX3_sing 105 = .ok (.iaload, 1) := by decide +kernel
theorem dX3_sing_106 : decode cX3_sing 106 = .ok (.iastore, 1) := by decide +kernel
theorem dX3_sing_107 : decode cX3_sing 107 = .ok (.iinc 1 1, 3) := by decide +kernel
theorem dX3_sing_110 : decode cX3_sing 110 = .ok (.goto (-33), 3) := by decide +kernel
theorem dX3_sing_113 : decode cX3_sing 113 = .ok (.return_, 1) := by decide +kernel
set_option maxRecDepth 20000 in
theorem ggX3_go_X3_pe : GoodIn wsX3_go wsX3_pe := goodIn_r _ [12, 13, 45, 46, 47, 48, 49, 50, 51, 52, 53, 54, 55, 56, 57, 58, 59, 60] (by decide +kernel) (by decide +kernel)
set_option maxRecDepth 20000 in
theorem gX3_go_X3_pe : GoodIn wsX3_go (wsV RX3 89 RX3 yX3_pe wsX3_pe) := goodIn_app (goodIn_of _ (by decide +kernel)) ggX3_go_X3_pe
set_option maxRecDepth 20000 in
theorem ggX3_go_X3_walks : GoodIn wsX3_go wsX3_walks := goodIn_r _ [17, 8, 9, 10, 11, 12, 13, 45, 46, 47, 48, 49, 50, 51, 52, 53, 54, 55, 56, 57, 58, 59, 60] (by decide +kernel) (by decide +kernel)
set_option maxRecDepth 20000 in
theorem gX3_go_X3_walks : GoodIn wsX3_go (wsV RX3 104 RX3 yX3_walks wsX3_walks) := goodIn_app (goodIn_of _ (by decide +kernel)) ggX3_go_X3_walks
set_option maxRecDepth 20000 in
theorem ggX3_go_X3_stretchOf : GoodIn wsX3_go wsX3_stretchOf := goodIn_r _ [21, 22, 23, 24, 11, 25, 6, 45, 46, 47, 48, 49, 50, 51, 52, 53, 54, 55, 56, 57, 58, 59, 60] (by decide +kernel) (by decide +kernel)
set_option maxRecDepth 20000 in
theorem gX3_go_X3_stretchOf : GoodIn wsX3_go (wsV RX3 110 RX3 yX3_stretchOf wsX3_stretchOf) := goodIn_app (goodIn_of _ (by decide +kernel)) ggX3_go_X3_stretchOf
set_option maxRecDepth 20000 in
theorem ggX3_go_X3_ro : GoodIn wsX3_go wsX3_ro := goodIn_r _ [25, 6, 45, 46, 47, 48, 49, 50, 51, 52, 53, 54, 55, 56, 57, 58, 59, 60] (by decide +kernel) (by decide +kernel)
set_option maxRecDepth 20000 in
theorem gX3_go_X3_ro : GoodIn wsX3_go (wsV RX3 64 RX3 yX3_ro wsX3_ro) := goodIn_app (goodIn_of _ (by decide +kernel)) ggX3_go_X3_ro
set_option maxRecDepth 20000 in
theorem ggX3_go_X3_places : GoodIn wsX3_go wsX3_places := goodIn_r _ [29, 30, 22, 23, 24, 11, 25, 6, 45, 46, 47, 48, 49, 50, 51, 52, 53, 54, 55, 56, 57, 58, 59, 60] (by decide +kernel) (by decide +kernel)
set_option maxRecDepth 20000 in
theorem gX3_go_X3_places : GoodIn wsX3_go (wsV RX3 72 RX3 yX3_places wsX3_places) := goodIn_app (goodIn_of _ (by decide +kernel)) ggX3_go_X3_places
set_option maxRecDepth 20000 in
theorem ggX3_go_X3_at : GoodIn wsX3_go wsX3_at := goodIn_r _ [34, 35, 14, 15, 16, 11, 17, 8, 9, 10, 12, 13, 45, 46, 47, 48, 49, 50, 51, 52, 53, 54, 55, 56, 57, 58, 59, 60] (by decide +kernel) (by decide +kernel)
set_option maxRecDepth 20000 in
theorem gX3_go_X3_at : GoodIn wsX3_go (wsV RX3 141 RX3 yX3_at wsX3_at) := goodIn_app (goodIn_of _ (by decide +kernel)) ggX3_go_X3_at
set_option maxRecDepth 20000 in
theorem ggX3_go_X3_lets : GoodIn wsX3_go wsX3_lets := goodIn_r _ [39, 40, 22, 23, 24, 11, 25, 6, 45, 46, 47, 48, 49, 50, 51, 52, 53, 54, 55, 56, 57, 58, 59, 60] (by decide +kernel) (by decide +kernel)
set_option maxRecDepth 20000 in
theorem gX3_go_X3_lets : GoodIn wsX3_go (wsV RX3 107 RX3 yX3_lets wsX3_lets) := goodIn_app (goodIn_of _ (by decide +kernel)) ggX3_go_X3_lets
set_option maxRecDepth 20000 in
theorem ggX3_go_X3_set : GoodIn wsX3_go wsX3_set := goodIn_r _ [44, 13, 45, 46, 47, 48, 49, 50, 51, 52, 53, 54, 55, 56, 57, 58, 59, 60] (by decide +kernel) (by decide +kernel)
set_option maxRecDepth 20000 in
theorem gX3_go_X3_set : GoodIn wsX3_go (wsV RX3 97 RX3 yX3_set wsX3_set) := goodIn_app (goodIn_of _ (by decide +kernel)) ggX3_go_X3_set
theorem dX3_go_0 : decode cX3_go 0 = .ok (.aload_n 0, 1) := by decide +kernel
theorem dX3_go_1 : decode cX3_go 1 = .ok (.iload_n 1, 1) := by decide +kernel
theorem dX3_go_2 : decode cX3_go 2 = .ok (.iconst 3, 1) := by decide +kernel
theorem dX3_go_3 : decode cX3_go 3 = .ok (.invokevirtual 89, 3) := by decide +kernel
theorem dX3_go_6 : decode cX3_go 6 = .ok (.iconst 1, 1) := by decide +kernel
theorem dX3_go_7 : decode cX3_go 7 = .ok (.if_icmp .ne 12, 3) := by decide +kernel
theorem dX3_go_10 : decode cX3_go 10 = .ok (.aload_n 0, 1) := by decide +kernel
theorem dX3_go_11 : decode cX3_go 11 = .ok (.iload_n 1, 1) := by decide +kernel
theorem dX3_go_12 : decode cX3_go 12 = .ok (.iconst 0, 1) := by decide +kernel
theorem dX3_go_13 : decode cX3_go 13 = .ok (.invokevirtual 89, 3) := by decide +kernel
theorem dX3_go_16 : decode cX3_go 16 = .ok (.goto 15, 3) := by decide +kernel
theorem dX3_go_19 : decode cX3_go 19 = .ok (.iconst 1, 1) := by decide +kernel
theorem dX3_go_20 : decode cX3_go 20 = .ok (.aload_n 0, 1) := by decide +kernel
theorem dX3_go_21 : decode cX3_go 21 = .ok (.iload_n 1, 1) := by decide +kernel
theorem dX3_go_22 : decode cX3_go 22 = .ok (.iconst 0, 1) := by decide +kernel
theorem dX3_go_23 : decode cX3_go 23 = .ok (.invokevirtual 89, 3) := by decide +kernel
theorem dX3_go_26 : decode cX3_go 26 = .ok (.iconst 1, 1) := by decide +kernel
theorem dX3_go_27 : decode cX3_go 27 = .ok (.isub, 1) := by decide +kernel
theorem dX3_go_28 : decode cX3_go 28 = .ok (.invokestatic 135, 3) := by decide +kernel
theorem dX3_go_31 : decode cX3_go 31 = .ok (.istore_n 2, 1) := by decide +kernel
theorem dX3_go_32 : decode cX3_go 32 = .ok (.iload_n 2, 1) := by decide +kernel
theorem dX3_go_33 : decode cX3_go 33 = .ok (.ifCond .le 207, 3) := by decide +kernel
theorem dX3_go_36 : decode cX3_go 36 = .ok (.aload_n 0, 1) := by decide +kernel
theorem dX3_go_37 : decode cX3_go 37 = .ok (.iload_n 1, 1) := by decide +kernel
theorem dX3_go_38 : decode cX3_go 38 = .ok (.invokevirtual 104, 3) := by decide +kernel
theorem dX3_go_41 : decode cX3_go 41 = .ok (.ifCond .eq 199, 3) := by decide +kernel
theorem dX3_go_44 : decode cX3_go 44 = .ok (.aload_n 0, 1) := by decide +kernel
theorem dX3_go_45 : decode cX3_go 45 = .ok (.iload_n 1, 1) := by decide +kernel
theorem dX3_go_46 : decode cX3_go 46 = .ok (.iconst 5, 1) := by decide +kernel
theorem dX3_go_47 : decode cX3_go 47 = .ok (.invokevirtual 89, 3) := by decide +kernel
theorem dX3_go_50 : decode cX3_go 50 = .ok (.istore_n 3, 1) := by decide +kernel
theorem dX3_go_51 : decode cX3_go 51 = .ok (.aload_n 0, 1) := by decide +kernel
theorem dX3_go_52 : decode cX3_go 52 = .ok (.iload_n 3, 1) := by decide +kernel
theorem dX3_go_53 : decode cX3_go 53 = .ok (.invokevirtual 110, 3) := by decide +kernel
theorem dX3_go_56 : decode cX3_go 56 = .ok (.istore 4, 2) := by decide +kernel
theorem dX3_go_58 : decode cX3_go 58 = .ok (.iload_n 3, 1) := by decide +kernel
theorem dX3_go_59 : decode cX3_go 59 = .ok (.aload_n 0, 1) := by decide +kernel
theorem dX3_go_60 : decode cX3_go 60 = .ok (.iload 4, 2) := by decide +kernel
theorem dX3_go_62 : decode cX3_go 62 = .ok (.iconst 2, 1) := by decide +kernel
theorem dX3_go_63 : decode cX3_go 63 = .ok (.invokevirtual 64, 3) := by decide +kernel
theorem dX3_go_66 : decode cX3_go 66 = .ok (.aload_n 0, 1) := by decide +kernel
theorem dX3_go_67 : decode cX3_go 67 = .ok (.iload 4, 2) := by decide +kernel
theorem dX3_go_69 : decode cX3_go 69 = .ok (.iconst 0, 1) := by decide +kernel
theorem dX3_go_70 : decode cX3_go 70 = .ok (.invokevirtual 64, 3) := by decide +kernel
theorem dX3_go_73 : decode cX3_go 73 = .ok (.iadd, 1) := by decide +kernel
theorem dX3_go_74 : decode cX3_go 74 = .ok (.iconst 1, 1) := by decide +kernel
theorem dX3_go_75 : decode cX3_go 75 = .ok (.isub, 1) := by decide +kernel
theorem dX3_go_76 : decode cX3_go 76 = .ok (.if_icmp .ne 7, 3) := by decide +kernel
theorem dX3_go_79 : decode cX3_go 79 = .ok (.iconst 1, 1) := by decide +kernel
theorem dX3_go_80 : decode cX3_go 80 = .ok (.goto 4, 3) := by decide +kernel
theorem dX3_go_83 : decode cX3_go 83 = .ok (.iconst 0, 1) := by decide +kernel
theorem dX3_go_84 : decode cX3_go 84 = .ok (.istore 5, 2) := by decide +kernel
theorem dX3_go_86 : decode cX3_go 86 = .ok (.iload_n 3, 1) := by decide +kernel
theorem dX3_go_87 : decode cX3_go 87 = .ok (.aload_n 0, 1) := by decide +kernel
theorem dX3_go_88 : decode cX3_go 88 = .ok (.invokevirtual 72, 3) := by decide +kernel
theorem dX3_go_91 : decode cX3_go 91 = .ok (.iconst 1, 1) := by decide +kernel
theorem dX3_go_92 : decode cX3_go 92 = .ok (.isub, 1) := by decide +kernel
theorem dX3_go_93 : decode cX3_go 93 = .ok (.if_icmp .ne 7, 3) := by decide +kernel
theorem dX3_go_96 : decode cX3_go 96 = .ok (.iconst 1, 1) := by decide +kernel
theorem dX3_go_97 : decode cX3_go 97 = .ok (.goto 4, 3) := by decide +kernel
theorem dX3_go_100 : decode cX3_go 100 = .ok (.iconst 0, 1) := by decide +kernel
theorem dX3_go_101 : decode cX3_go 101 = .ok (.istore 6, 2) := by decide +kernel
theorem dX3_go_103 : decode cX3_go 103 = .ok (.iload 6, 2) := by decide +kernel
theorem dX3_go_105 : decode cX3_go 105 = .ok (.ifCond .ne 15, 3) := by decide +kernel
theorem dX3_go_108 : decode cX3_go 108 = .ok (.aload_n 0, 1) := by decide +kernel
theorem dX3_go_109 : decode cX3_go 109 = .ok (.iload_n 3, 1) := by decide +kernel
theorem dX3_go_110 : decode cX3_go 110 = .ok (.iconst 1, 1) := by decide +kernel
theorem dX3_go_111 : decode cX3_go 111 = .ok (.iadd, 1) := by decide +kernel
theorem dX3_go_112 : decode cX3_go 112 = .ok (.invokevirtual 141, 3) := by decide +kernel
theorem dX3_go_115 : decode cX3_go 115 = .ok (.iconst 1, 1) := by decide +kernel
theorem dX3_go_116 : decode cX3_go 116 = .ok (.if_icmp .le 4, 3) := by decide +kernel
theorem dX3_go_119 : decode cX3_go 119 = .ok (.return_, 1) := by decide +kernel
theorem dX3_go_120 : decode cX3_go 120 = .ok (.iload 5, 2) := by decide +kernel
theorem dX3_go_122 : decode cX3_go 122 = .ok (.ifCond .eq 35, 3) := by decide +kernel
theorem dX3_go_125 : decode cX3_go 125 = .ok (.aload_n 0, 1) := by decide +kernel
theorem dX3_go_126 : decode cX3_go 126 = .ok (.getfield 38, 3) := by decide +kernel
theorem dX3_go_129 : decode cX3_go 129 = .ok (.iload 4, 2) := by decide +kernel
theorem dX3_go_131 : decode cX3_go 131 = .ok (.iaload, 1) := by decide +kernel
theorem dX3_go_132 : decode cX3_go 132 = .ok (.aload_n 0, 1) := by decide +kernel
theorem dX3_go_133 : decode cX3_go 133 = .ok (.iload 4, 2) := by decide +kernel
theorem dX3_go_135 : decode cX3_go 135 = .ok (.invokevirtual 107, 3) := by decide +kernel
theorem dX3_go_138 : decode cX3_go 138 = .ok (.if_icmp .ne 19, 3) := by decide +kernel
theorem dX3_go_141 : decode cX3_go 141 = .ok (.aload_n 0, 1) := by decide +kernel
theorem dX3_go_142 : decode cX3_go 142 = .ok (.getfield 9, 3) := by decide +kernel
theorem dX3_go_145 : decode cX3_go 145 = .ok (.iconst 5, 1) := by decide +kernel
theorem dX3_go_146 : decode cX3_go 146 = .ok (.iload 4, 2) := by decide +kernel
theorem dX3_go_148 : decode cX3_go 148 = .ok (.imul, 1) := by decide +kernel
theorem dX3_go_149 : decode cX3_go 149 = .ok (.iconst 4, 1) := by decide +kernel
theorem dX3_go_150 : decode cX3_go 150 = .ok (.iadd, 1) := by decide +kernel
theorem dX3_go_151 : decode cX3_go 151 = .ok (.dup2, 1) := by decide +kernel
theorem dX3_go_152 : decode cX3_go 152 = .ok (.iaload, 1) := by decide +kernel
theorem dX3_go_153 : decode cX3_go 153 = .ok (.iconst 1, 1) := by decide +kernel
theorem dX3_go_154 : decode cX3_go 154 = .ok (.iadd, 1) := by decide +kernel
theorem dX3_go_155 : decode cX3_go 155 = .ok (.iastore, 1) := by decide +kernel
theorem dX3_go_156 : decode cX3_go 156 = .ok (.return_, 1) := by decide +kernel
theorem dX3_go_157 : decode cX3_go 157 = .ok (.iload 5, 2) := by decide +kernel
theorem dX3_go_159 : decode cX3_go 159 = .ok (.ifCond .eq 29, 3) := by decide +kernel
theorem dX3_go_162 : decode cX3_go 162 = .ok (.aload_n 0, 1) := by decide +kernel
theorem dX3_go_163 : decode cX3_go 163 = .ok (.getfield 38, 3) := by decide +kernel
theorem dX3_go_166 : decode cX3_go 166 = .ok (.iload 4, 2) := by decide +kernel
theorem dX3_go_168 : decode cX3_go 168 = .ok (.dup2, 1) := by decide +kernel
theorem dX3_go_169 : decode cX3_go 169 = .ok (.iaload, 1) := by decide +kernel
theorem dX3_go_170 : decode cX3_go 170 = .ok (.iconst 1, 1) := by decide +kernel
theorem dX3_go_171 : decode cX3_go 171 = .ok (.iadd, 1) := by decide +kernel
theorem dX3_go_172 : decode cX3_go 172 = .ok (.iastore, 1) := by decide +kernel
theorem dX3_go_173 : decode cX3_go 173 = .ok (.aload_n 0, 1) := by decide +kernel
theorem dX3_go_174 : decode cX3_go 174 = .ok (.getfield 9, 3) := by decide +kernel
theorem dX3_go_177 : decode cX3_go 177 = .ok (.iconst 5, 1) := by decide +kernel
theorem dX3_go_178 : decode cX3_go 178 = .ok (.iload 4, 2) := by decide +kernel
theorem dX3_go_180 : decode cX3_go 180 = .ok (.imul, 1) := by decide +kernel
theorem dX3_go_181 : decode cX3_go 181 = .ok (.iconst 3, 1) := by decide +kernel
theorem dX3_go_182 : decode cX3_go 182 = .ok (.iadd, 1) := by decide +kernel
theorem dX3_go_183 : decode cX3_go 183 = .ok (.dup2, 1) := by decide +kernel
theorem dX3_go_184 : decode cX3_go 184 = .ok (.iaload, 1) := by decide +kernel
theorem dX3_go_185 : decode cX3_go 185 = .ok (.iconst 1, 1) := by decide +kernel
theorem dX3_go_186 : decode cX3_go 186 = .ok (.iadd, 1) := by decide +kernel
theorem dX3_go_187 : decode cX3_go 187 = .ok (.iastore, 1) := by decide +kernel
theorem dX3_go_188 : decode cX3_go 188 = .ok (.aload_n 0, 1) := by decide +kernel
theorem dX3_go_189 : decode cX3_go 189 = .ok (.iload_n 1, 1) := by decide +kernel
theorem dX3_go_190 : decode cX3_go 190 = .ok (.iconst 5, 1) := by decide +kernel
theorem dX3_go_191 : decode cX3_go 191 = .ok (.iload 6, 2) := by decide +kernel
theorem dX3_go_193 : decode cX3_go 193 = .ok (.ifCond .eq 7, 3) := by decide +kernel
theorem dX3_go_196 : decode cX3_go 196 = .ok (.iconst (-1), 1) := by decide +kernel
theorem dX3_go_197 : decode cX3_go 197 = .ok (.goto 6, 3) := by decide +kernel
theorem dX3_go_200 : decode cX3_go 200 = .ok (.iload_n 3, 1) := by decide +kernel
theorem dX3_go_201 : decode cX3_go 201 = .ok (.iconst 1, 1) := by decide +kernel
theorem dX3_go_202 : decode cX3_go 202 = .ok (.iadd, 1) := by decide +kernel
theorem dX3_go_203 : decode cX3_go 203 = .ok (.invokevirtual 97, 3) := by decide +kernel
theorem dX3_go_206 : decode cX3_go 206 = .ok (.iload 6, 2) := by decide +kernel
theorem dX3_go_208 : decode cX3_go 208 = .ok (.ifCond .ne 6, 3) := by decide +kernel
theorem dX3_go_211 : decode cX3_go 211 = .ok (.goto 23, 3) := by decide +kernel
theorem dX3_go_214 : decode cX3_go 214 = .ok (.aload_n 0, 1) := by decide +kernel
theorem dX3_go_215 : decode cX3_go 215 = .ok (.iload_n 1, 1) := by decide +kernel
theorem dX3_go_216 : decode cX3_go 216 = .ok (.iconst 4, 1) := by decide +kernel
theorem dX3_go_217 : decode cX3_go 217 = .ok (.iconst 2, 1) := by decide +kernel
theorem dX3_go_218 : decode cX3_go 218 = .ok (.invokevirtual 97, 3) := by decide +kernel
theorem dX3_go_221 : decode cX3_go 221 = .ok (.aload_n 0, 1) := by decide +kernel
theorem dX3_go_222 : decode cX3_go 222 = .ok (.iload_n 1, 1) := by decide +kernel
theorem dX3_go_223 : decode cX3_go 223 = .ok (.bipush 7, 2) := by decide +kernel
theorem dX3_go_225 : decode cX3_go 225 = .ok (.aload_n 0, 1) := by decide +kernel
theorem dX3_go_226 : decode cX3_go 226 = .ok (.getfield 28, 3) := by decide +kernel
theorem dX3_go_229 : decode cX3_go 229 = .ok (.iconst 0, 1) := by decide +kernel
theorem dX3_go_230 : decode cX3_go 230 = .ok (.iaload, 1) := by decide +kernel
theorem dX3_go_231 : decode cX3_go 231 = .ok (.invokevirtual 97, 3) := by decide +kernel
theorem dX3_go_234 : decode cX3_go 234 = .ok (.iinc 2 (-1), 3) := by decide +kernel
theorem dX3_go_237 : decode cX3_go 237 = .ok (.goto (-205), 3) := by decide +kernel
theorem dX3_go_240 : decode cX3_go 240 = .ok (.return_, 1) := by decide +kernel
set_option maxRecDepth 20000 in
theorem ggX3_stepOn_X3_inState : GoodIn wsX3_stepOn wsX3_inState := goodIn_r _ [11, 4, 12, 13, 14, 10, 15, 16, 84, 85, 86, 87, 88, 89, 90, 91, 92, 93, 94, 95, 96, 97, 98, 99] (by decide +kernel) (by decide +kernel)
set_option maxRecDepth 20000 in
theorem gX3_stepOn_X3_inState : GoodIn wsX3_stepOn (wsV RX3 144 RX3 yX3_inState wsX3_inState) := goodIn_app (goodIn_of _ (by decide +kernel)) ggX3_stepOn_X3_inState
set_option maxRecDepth 20000 in
theorem ggX3_stepOn_X3_burn : GoodIn wsX3_stepOn wsX3_burn := goodIn_r _ [20, 4, 21, 22, 23, 24, 25, 12, 13, 14, 10, 15, 16, 26, 27, 28, 29, 30, 31, 32, 33, 34, 35, 36, 37, 38, 39, 40, 41, 42, 43, 44, 84, 85, 86, 87, 88, 89, 90, 91, 92, 93, 94, 95, 96, 97, 98, 99] (by decide +kernel) (by decide +kernel)
set_option maxRecDepth 20000 in
theorem gX3_stepOn_X3_burn : GoodIn wsX3_stepOn (wsV RX3 147 RX3 yX3_burn wsX3_burn) := goodIn_app (goodIn_of _ (by decide +kernel)) ggX3_stepOn_X3_burn
set_option maxRecDepth 20000 in
theorem ggX3_stepOn_X3_sing : GoodIn wsX3_stepOn wsX3_sing := goodIn_r _ [48, 4, 49, 50, 51, 30, 31, 32, 10, 33, 12, 13, 14, 15, 16, 52, 53, 54, 55, 56, 38, 39, 40, 41, 42, 43, 23, 44, 84, 85, 86, 87, 88, 89, 90, 91, 92, 93, 94, 95, 96, 97, 98, 99] (by decide +kernel) (by decide +kernel)
set_option maxRecDepth 20000 in
theorem gX3_stepOn_X3_sing : GoodIn wsX3_stepOn (wsV RX3 151 RX3 yX3_sing wsX3_sing) := goodIn_app (goodIn_of _ (by decide +kernel)) ggX3_stepOn_X3_sing
set_option maxRecDepth 20000 in
theorem ggX3_stepOn_X3_walks : GoodIn wsX3_stepOn wsX3_walks := goodIn_r _ [33, 12, 13, 14, 10, 15, 16, 84, 85, 86, 87, 88, 89, 90, 91, 92, 93, 94, 95, 96, 97, 98, 99] (by decide +kernel) (by decide +kernel)
set_option maxRecDepth 20000 in
theorem gX3_stepOn_X3_walks : GoodIn wsX3_stepOn (wsV RX3 104 RX3 yX3_walks wsX3_walks) := goodIn_app (goodIn_of _ (by decide +kernel)) ggX3_stepOn_X3_walks
set_option maxRecDepth 20000 in
theorem ggX3_stepOn_X3_pe : GoodIn wsX3_stepOn wsX3_pe := goodIn_r _ [15, 16, 84, 85, 86, 87, 88, 89, 90, 91, 92, 93, 94, 95, 96, 97, 98, 99] (by decide +kernel) (by decide +kernel)
set_option maxRecDepth 20000 in
theorem gX3_stepOn_X3_pe : GoodIn wsX3_stepOn (wsV RX3 89 RX3 yX3_pe wsX3_pe) := goodIn_app (goodIn_of _ (by decide +kernel)) ggX3_stepOn_X3_pe
set_option maxRecDepth 20000 in
theorem ggX3_stepOn_X3_set : GoodIn wsX3_stepOn wsX3_set := goodIn_r _ [29, 16, 84, 85, 86, 87, 88, 89, 90, 91, 92, 93, 94, 95, 96, 97, 98, 99] (by decide +kernel) (by decide +kernel)
set_option maxRecDepth 20000 in
theorem gX3_stepOn_X3_set : GoodIn wsX3_stepOn (wsV RX3 97 RX3 yX3_set wsX3_set) := goodIn_app (goodIn_of _ (by decide +kernel)) ggX3_stepOn_X3_set
set_option maxRecDepth 20000 in
theorem ggX3_stepOn_X3_go : GoodIn wsX3_stepOn wsX3_go := goodIn_r _ [60, 21, 22, 23, 24, 3, 61, 2, 12, 13, 14, 10, 15, 16, 30, 31, 32, 33, 62, 63, 64, 65, 66, 67, 68, 69, 70, 71, 72, 73, 74, 75, 76, 77, 78, 4, 79, 80, 81, 82, 83, 26, 27, 28, 29, 84, 85, 86, 87, 88, 89, 90, 91, 92, 93, 94, 95, 96, 97, 98, 99] (by decide +kernel) (by decide +kernel)
set_option maxRecDepth 20000 in
theorem gX3_stepOn_X3_go : GoodIn wsX3_stepOn (wsV RX3 154 RX3 yX3_go wsX3_go) := goodIn_app (goodIn_of _ (by decide +kernel)) ggX3_stepOn_X3_go
set_option maxRecDepth 20000 in
theorem ggX3_stepOn_X3_at : GoodIn wsX3_stepOn wsX3_at := goodIn_r _ [78, 4, 30, 31, 32, 10, 33, 12, 13, 14, 15, 16, 84, 85, 86, 87, 88, 89, 90, 91, 92, 93, 94, 95, 96, 97, 98, 99] (by decide +kernel) (by decide +kernel)
set_option maxRecDepth 20000 in
theorem gX3_stepOn_X3_at : GoodIn wsX3_stepOn (wsV RX3 141 RX3 yX3_at wsX3_at) := goodIn_app (goodIn_of _ (by decide +kernel)) ggX3_stepOn_X3_at
theorem dX3_stepOn_0 : decode cX3_stepOn 0 = .ok (.aload_n 0, 1) := by decide +kernel
theorem dX3_stepOn_1 : decode cX3_stepOn 1 = .ok (.iconst 2, 1) := by decide +kernel
theorem dX3_stepOn_2 : decode cX3_stepOn 2 = .ok (.invokevirtual 144, 3) := by decide +kernel
theorem dX3_stepOn_5 : decode cX3_stepOn 5 = .ok (.istore_n 1, 1) := by decide +kernel
theorem dX3_stepOn_6 : decode cX3_stepOn 6 = .ok (.aload_n 0, 1) := by decide +kernel
theorem dX3_stepOn_7 : decode cX3_stepOn 7 = .ok (.aload_n 0, 1) := by decide +kernel
theorem dX3_stepOn_8 : decode cX3_stepOn 8 = .ok (.getfield 16, 3) := by decide +kernel
theorem dX3_stepOn_11 : decode cX3_stepOn 11 = .ok (.aload_n 0, 1) := by decide +kernel
theorem dX3_stepOn_12 : decode cX3_stepOn 12 = .ok (.getfield 28, 3) := by decide +kernel
theorem dX3_stepOn_15 : decode cX3_stepOn 15 = .ok (.iconst 0, 1) := by decide +kernel
theorem dX3_stepOn_16 : decode cX3_stepOn 16 = .ok (.iaload, 1) := by decide +kernel
theorem dX3_stepOn_17 : decode cX3_stepOn 17 = .ok (.bipush 10, 2) := by decide +kernel
theorem dX3_stepOn_19 : decode cX3_stepOn 19 = .ok (.irem, 1) := by decide +kernel
theorem dX3_stepOn_20 : decode cX3_stepOn 20 = .ok (.iaload, 1) := by decide +kernel
theorem dX3_stepOn_21 : decode cX3_stepOn 21 = .ok (.invokevirtual 147, 3) := by decide +kernel
theorem dX3_stepOn_24 : decode cX3_stepOn 24 = .ok (.aload_n 0, 1) := by decide +kernel
theorem dX3_stepOn_25 : decode cX3_stepOn 25 = .ok (.invokevirtual 151, 3) := by decide +kernel
theorem dX3_stepOn_28 : decode cX3_stepOn 28 = .ok (.iconst 0, 1) := by decide +kernel
theorem dX3_stepOn_29 : decode cX3_stepOn 29 = .ok (.istore_n 2, 1) := by decide +kernel
theorem dX3_stepOn_30 : decode cX3_stepOn 30 = .ok (.iload_n 2, 1) := by decide +kernel
theorem dX3_stepOn_31 : decode cX3_stepOn 31 = .ok (.bipush 10, 2) := by decide +kernel
theorem dX3_stepOn_33 : decode cX3_stepOn 33 = .ok (.if_icmp .ge 16, 3) := by decide +kernel
theorem dX3_stepOn_36 : decode cX3_stepOn 36 = .ok (.aload_n 0, 1) := by decide +kernel
theorem dX3_stepOn_37 : decode cX3_stepOn 37 = .ok (.getfield 38, 3) := by decide +kernel
theorem dX3_stepOn_40 : decode cX3_stepOn 40 = .ok (.iload_n 2, 1) := by decide +kernel
theorem dX3_stepOn_41 : decode cX3_stepOn 41 = .ok (.iconst 0, 1) := by decide +kernel
theorem dX3_stepOn_42 : decode cX3_stepOn 42 = .ok (.iastore, 1) := by decide +kernel
theorem dX3_stepOn_43 : decode cX3_stepOn 43 = .ok (.iinc 2 1, 3) := by decide +kernel
theorem dX3_stepOn_46 : decode cX3_stepOn 46 = .ok (.goto (-16), 3) := by decide +kernel
theorem dX3_stepOn_49 : decode cX3_stepOn 49 = .ok (.iconst 0, 1) := by decide +kernel
theorem dX3_stepOn_50 : decode cX3_stepOn 50 = .ok (.istore_n 2, 1) := by decide +kernel
theorem dX3_stepOn_51 : decode cX3_stepOn 51 = .ok (.iload_n 2, 1) := by decide +kernel
theorem dX3_stepOn_52 : decode cX3_stepOn 52 = .ok (.aload_n 0, 1) := by decide +kernel
theorem dX3_stepOn_53 : decode cX3_stepOn 53 = .ok (.getfield 58, 3) := by decide +kernel
theorem dX3_stepOn_56 : decode cX3_stepOn 56 = .ok (.if_icmp .ge 73, 3) := by decide +kernel
theorem dX3_stepOn_59 : decode cX3_stepOn 59 = .ok (.aload_n 0, 1) := by decide +kernel
theorem dX3_stepOn_60 : decode cX3_stepOn 60 = .ok (.getfield 41, 3) := by decide +kernel
theorem dX3_stepOn_63 : decode cX3_stepOn 63 = .ok (.iload_n 2, 1) := by decide +kernel
theorem dX3_stepOn_64 : decode cX3_stepOn 64 = .ok (.aload_n 0, 1) := by decide +kernel
theorem dX3_stepOn_65 : decode cX3_stepOn 65 = .ok (.iload_n 2, 1) := by decide +kernel
theorem dX3_stepOn_66 : decode cX3_stepOn 66 = .ok (.invokevirtual 104, 3) := by decide +kernel
theorem dX3_stepOn_69 : decode cX3_stepOn 69 = .ok (.ifCond .ne 7, 3) := by decide +kernel
theorem dX3_stepOn_72 : decode cX3_stepOn 72 = .ok (.iconst 1, 1) := by decide +kernel
theorem dX3_stepOn_73 : decode cX3_stepOn 73 = .ok (.goto 4, 3) := by decide +kernel
theorem dX3_stepOn_76 : decode cX3_stepOn 76 = .ok (.iconst 0, 1) := by decide +kernel
theorem dX3_stepOn_77 : decode cX3_stepOn 77 = .ok (.bastore, 1) := by decide +kernel
theorem dX3_stepOn_78 : decode cX3_stepOn 78 = .ok (.aload_n 0, 1) := by decide +kernel
theorem dX3_stepOn_79 : decode cX3_stepOn 79 = .ok (.getfield 44, 3) := by decide +kernel
theorem dX3_stepOn_82 : decode cX3_stepOn 82 = .ok (.iload_n 2, 1) := by decide +kernel
theorem dX3_stepOn_83 : decode cX3_stepOn 83 = .ok (.aload_n 0, 1) := by decide +kernel
theorem dX3_stepOn_84 : decode cX3_stepOn 84 = .ok (.iload_n 2, 1) := by decide +kernel
theorem dX3_stepOn_85 : decode cX3_stepOn 85 = .ok (.iconst 5, 1) := by decide +kernel
theorem dX3_stepOn_86 : decode cX3_stepOn 86 = .ok (.invokevirtual 89, 3) := by decide +kernel
theorem dX3_stepOn_89 : decode cX3_stepOn 89 = .ok (.iastore, 1) := by decide +kernel
theorem dX3_stepOn_90 : decode cX3_stepOn 90 = .ok (.aload_n 0, 1) := by decide +kernel
theorem dX3_stepOn_91 : decode cX3_stepOn 91 = .ok (.iload_n 2, 1) := by decide +kernel
theorem dX3_stepOn_92 : decode cX3_stepOn 92 = .ok (.invokevirtual 104, 3) := by decide +kernel
theorem dX3_stepOn_95 : decode cX3_stepOn 95 = .ok (.ifCond .eq 28, 3) := by decide +kernel
theorem dX3_stepOn_98 : decode cX3_stepOn 98 = .ok (.aload_n 0, 1) := by decide +kernel
theorem dX3_stepOn_99 : decode cX3_stepOn 99 = .ok (.iload_n 2, 1) := by decide +kernel
theorem dX3_stepOn_100 : decode cX3_stepOn 100 = .ok (.iconst 3, 1) := by decide +kernel
theorem dX3_stepOn_101 : decode cX3_stepOn 101 = .ok (.invokevirtual 89, 3) := by decide +kernel
theorem dX3_stepOn_104 : decode cX3_stepOn 104 = .ok (.ifCond .ne 19, 3) := by decide +kernel
theorem dX3_stepOn_107 : decode cX3_stepOn 107 = .ok (.aload_n 0, 1) := by decide +kernel
theorem dX3_stepOn_108 : decode cX3_stepOn 108 = .ok (.iload_n 2, 1) := by decide +kernel
theorem dX3_stepOn_109 : decode cX3_stepOn 109 = .ok (.bipush 6, 2) := by decide +kernel
theorem dX3_stepOn_111 : decode cX3_stepOn 111 = .ok (.aload_n 0, 1) := by decide +kernel
theorem dX3_stepOn_112 : decode cX3_stepOn 112 = .ok (.iload_n 2, 1) := by decide +kernel
theorem dX3_stepOn_113 : decode cX3_stepOn 113 = .ok (.bipush 6, 2) := by decide +kernel
theorem dX3_stepOn_115 : decode cX3_stepOn 115 = .ok (.invokevirtual 89, 3) := by decide +kernel
theorem dX3_stepOn_118 : decode cX3_stepOn 118 = .ok (.iconst 1, 1) := by decide +kernel
theorem dX3_stepOn_119 : decode cX3_stepOn 119 = .ok (.iadd, 1) := by decide +kernel
theorem dX3_stepOn_120 : decode cX3_stepOn 120 = .ok (.invokevirtual 97, 3) := by decide +kernel
theorem dX3_stepOn_123 : decode cX3_stepOn 123 = .ok (.iinc 2 1, 3) := by decide +kernel
theorem dX3_stepOn_126 : decode cX3_stepOn 126 = .ok (.goto (-75), 3) := by decide +kernel
theorem dX3_stepOn_129 : decode cX3_stepOn 129 = .ok (.iconst 0, 1) := by decide +kernel
theorem dX3_stepOn_130 : decode cX3_stepOn 130 = .ok (.istore_n 2, 1) := by decide +kernel
theorem dX3_stepOn_131 : decode cX3_stepOn 131 = .ok (.iload_n 2, 1) := by decide +kernel
theorem dX3_stepOn_132 : decode cX3_stepOn 132 = .ok (.aload_n 0, 1) := by decide +kernel
theorem dX3_stepOn_133 : decode cX3_stepOn 133 = .ok (.getfield 58, 3) := by decide +kernel
theorem dX3_stepOn_136 : decode cX3_stepOn 136 = .ok (.if_icmp .ge 83, 3) := by decide +kernel
theorem dX3_stepOn_139 : decode cX3_stepOn 139 = .ok (.iconst (-1), 1) := by decide +kernel
theorem dX3_stepOn_140 : decode cX3_stepOn 140 = .ok (.istore_n 3, 1) := by decide +kernel
theorem dX3_stepOn_141 : decode cX3_stepOn 141 = .ok (.iconst 0, 1) := by decide +kernel
theorem dX3_stepOn_142 : decode cX3_stepOn 142 = .ok (.istore 4, 2) := by decide +kernel
theorem dX3_stepOn_144 : decode cX3_stepOn 144 = .ok (.iload 4, 2) := by decide +kernel
theorem dX3_stepOn_146 : decode cX3_stepOn 146 = .ok (.aload_n 0, 1) := by decide +kernel
theorem dX3_stepOn_147 : decode cX3_stepOn 147 = .ok (.getfield 58, 3) := by decide +kernel
theorem dX3_stepOn_150 : decode cX3_stepOn 150 = .ok (.if_icmp .ge 43, 3) := by decide +kernel
theorem dX3_stepOn_153 : decode cX3_stepOn 153 = .ok (.aload_n 0, 1) := by decide +kernel
theorem dX3_stepOn_154 : decode cX3_stepOn 154 = .ok (.getfield 41, 3) := by decide +kernel
theorem dX3_stepOn_157 : decode cX3_stepOn 157 = .ok (.iload 4, 2) := by decide +kernel
theorem dX3_stepOn_159 : decode cX3_stepOn 159 = .ok (.baload, 1) := by decide +kernel
theorem dX3_stepOn_160 : decode cX3_stepOn 160 = .ok (.ifCond .ne 27, 3) := by decide +kernel
theorem dX3_stepOn_163 : decode cX3_stepOn 163 = .ok (.iload_n 3, 1) := by decide +kernel
theorem dX3_stepOn_164 : decode cX3_stepOn 164 = .ok (.iconst (-1), 1) := by decide +kernel
theorem dX3_stepOn_165 : decode cX3_stepOn 165 = .ok (.if_icmp .eq 19, 3) := by decide +kernel
theorem dX3_stepOn_168 : decode cX3_stepOn 168 = .ok (.aload_n 0, 1) := by decide +kernel
theorem dX3_stepOn_169 : decode cX3_stepOn 169 = .ok (.getfield 44, 3) := by decide +kernel
theorem dX3_stepOn_172 : decode cX3_stepOn 172 = .ok (.iload 4, 2) := by decide +kernel
theorem dX3_stepOn_174 : decode cX3_stepOn 174 = .ok (.iaload, 1) := by decide +kernel
theorem dX3_stepOn_175 : decode cX3_stepOn 175 = .ok (.aload_n 0, 1) := by decide +kernel
theorem dX3_stepOn_176 : decode cX3_stepOn 176 = .ok (.getfield 44, 3) := by decide +kernel
theorem dX3_stepOn_179 : decode cX3_stepOn 179 = .ok (.iload_n 3, 1) := by decide +kernel
theorem dX3_stepOn_180 : decode cX3_stepOn 180 = .ok (.iaload, 1) := by decide +kernel
theorem dX3_stepOn_181 : decode cX3_stepOn 181 = .ok (.if_icmp .le 6, 3) := by decide +kernel
theorem dX3_stepOn_184 : decode cX3_stepOn 184 = .ok (.iload 4, 2) := by decide +kernel
theorem dX3_stepOn_186 : decode cX3_stepOn 186 = .ok (.istore_n 3, 1) := by decide +kernel
theorem dX3_stepOn_187 : decode cX3_stepOn 187 = .ok (.iinc 4 1, 3) := by decide +kernel
theorem dX3_stepOn_190 : decode cX3_stepOn 190 = .ok (.goto (-46), 3) := by decide +kernel
theorem dX3_stepOn_193 : decode cX3_stepOn 193 = .ok (.iload_n 3, 1) := by decide +kernel
theorem dX3_stepOn_194 : decode cX3_stepOn 194 = .ok (.iconst (-1), 1) := by decide +kernel
theorem dX3_stepOn_195 : decode cX3_stepOn 195 = .ok (.if_icmp .ne 6, 3) := by decide +kernel
theorem dX3_stepOn_198 : decode cX3_stepOn 198 = .ok (.goto 21, 3) := by decide +kernel
theorem dX3_stepOn_201 : decode cX3_stepOn 201 = .ok (.aload_n 0, 1) := by decide +kernel
theorem dX3_stepOn_202 : decode cX3_stepOn 202 = .ok (.getfield 41, 3) := by decide +kernel
theorem dX3_stepOn_205 : decode cX3_stepOn 205 = .ok (.iload_n 3, 1) := by decide +kernel
theorem dX3_stepOn_206 : decode cX3_stepOn 206 = .ok (.iconst 1, 1) := by decide +kernel
theorem dX3_stepOn_207 : decode cX3_stepOn 207 = .ok (.bastore, 1) := by decide +kernel
theorem dX3_stepOn_208 : decode cX3_stepOn 208 = .ok (.aload_n 0, 1) := by decide +kernel
theorem dX3_stepOn_209 : decode cX3_stepOn 209 = .ok (.iload_n 3, 1) := by decide +kernel
theorem dX3_stepOn_210 : decode cX3_stepOn 210 = .ok (.invokevirtual 154, 3) := by decide +kernel
theorem dX3_stepOn_213 : decode cX3_stepOn 213 = .ok (.iinc 2 1, 3) := by decide +kernel
theorem dX3_stepOn_216 : decode cX3_stepOn 216 = .ok (.goto (-85), 3) := by decide +kernel
theorem dX3_stepOn_219 : decode cX3_stepOn 219 = .ok (.iconst 0, 1) := by decide +kernel
theorem dX3_stepOn_220 : decode cX3_stepOn 220 = .ok (.istore_n 2, 1) := by decide +kernel
theorem dX3_stepOn_221 : decode cX3_stepOn 221 = .ok (.iload_n 2, 1) := by decide +kernel
theorem dX3_stepOn_222 : decode cX3_stepOn 222 = .ok (.aload_n 0, 1) := by decide +kernel
theorem dX3_stepOn_223 : decode cX3_stepOn 223 = .ok (.getfield 58, 3) := by decide +kernel
theorem dX3_stepOn_226 : decode cX3_stepOn 226 = .ok (.if_icmp .ge 44, 3) := by decide +kernel
theorem dX3_stepOn_229 : decode cX3_stepOn 229 = .ok (.aload_n 0, 1) := by decide +kernel
theorem dX3_stepOn_230 : decode cX3_stepOn 230 = .ok (.iload_n 2, 1) := by decide +kernel
theorem dX3_stepOn_231 : decode cX3_stepOn 231 = .ok (.iconst 4, 1) := by decide +kernel
theorem dX3_stepOn_232 : decode cX3_stepOn 232 = .ok (.invokevirtual 89, 3) := by decide +kernel
theorem dX3_stepOn_235 : decode cX3_stepOn 235 = .ok (.ifCond .ne 29, 3) := by decide +kernel
theorem dX3_stepOn_238 : decode cX3_stepOn 238 = .ok (.aload_n 0, 1) := by decide +kernel
theorem dX3_stepOn_239 : decode cX3_stepOn 239 = .ok (.iconst 0, 1) := by decide +kernel
theorem dX3_stepOn_240 : decode cX3_stepOn 240 = .ok (.invokevirtual 141, 3) := by decide +kernel
theorem dX3_stepOn_243 : decode cX3_stepOn 243 = .ok (.iconst 1, 1) := by decide +kernel
theorem dX3_stepOn_244 : decode cX3_stepOn 244 = .ok (.if_icmp .le 6, 3) := by decide +kernel
theorem dX3_stepOn_247 : decode cX3_stepOn 247 = .ok (.goto 17, 3) := by decide +kernel
theorem dX3_stepOn_250 : decode cX3_stepOn 250 = .ok (.aload_n 0, 1) := by decide +kernel
theorem dX3_stepOn_251 : decode cX3_stepOn 251 = .ok (.iload_n 2, 1) := by decide +kernel
theorem dX3_stepOn_252 : decode cX3_stepOn 252 = .ok (.iconst 4, 1) := by decide +kernel
theorem dX3_stepOn_253 : decode cX3_stepOn 253 = .ok (.iconst 1, 1) := by decide +kernel
theorem dX3_stepOn_254 : decode cX3_stepOn 254 = .ok (.invokevirtual 97, 3) := by decide +kernel
theorem dX3_stepOn_257 : decode cX3_stepOn 257 = .ok (.aload_n 0, 1) := by decide +kernel
theorem dX3_stepOn_258 : decode cX3_stepOn 258 = .ok (.iload_n 2, 1) := by decide +kernel
theorem dX3_stepOn_259 : decode cX3_stepOn 259 = .ok (.iconst 5, 1) := by decide +kernel
theorem dX3_stepOn_260 : decode cX3_stepOn 260 = .ok (.iconst 0, 1) := by decide +kernel
theorem dX3_stepOn_261 : decode cX3_stepOn 261 = .ok (.invokevirtual 97, 3) := by decide +kernel
theorem dX3_stepOn_264 : decode cX3_stepOn 264 = .ok (.iinc 2 1, 3) := by decide +kernel
theorem dX3_stepOn_267 : decode cX3_stepOn 267 = .ok (.goto (-46), 3) := by decide +kernel
theorem dX3_stepOn_270 : decode cX3_stepOn 270 = .ok (.aload_n 0, 1) := by decide +kernel
theorem dX3_stepOn_271 : decode cX3_stepOn 271 = .ok (.getfield 28, 3) := by decide +kernel
theorem dX3_stepOn_274 : decode cX3_stepOn 274 = .ok (.iconst 0, 1) := by decide +kernel
theorem dX3_stepOn_275 : decode cX3_stepOn 275 = .ok (.dup2, 1) := by decide +kernel
theorem dX3_stepOn_276 : decode cX3_stepOn 276 = .ok (.iaload, 1) := by decide +kernel
theorem dX3_stepOn_277 : decode cX3_stepOn 277 = .ok (.iconst 1, 1) := by decide +kernel
theorem dX3_stepOn_278 : decode cX3_stepOn 278 = .ok (.iadd, 1) := by decide +kernel
theorem dX3_stepOn_279 : decode cX3_stepOn 279 = .ok (.iastore, 1) := by decide +kernel
theorem dX3_stepOn_280 : decode cX3_stepOn 280 = .ok (.aload_n 0, 1) := by decide +kernel
theorem dX3_stepOn_281 : decode cX3_stepOn 281 = .ok (.iconst 2, 1) := by decide +kernel
theorem dX3_stepOn_282 : decode cX3_stepOn 282 = .ok (.invokevirtual 144, 3) := by decide +kernel
theorem dX3_stepOn_285 : decode cX3_stepOn 285 = .ok (.iload_n 1, 1) := by decide +kernel
theorem dX3_stepOn_286 : decode cX3_stepOn 286 = .ok (.isub, 1) := by decide +kernel
theorem dX3_stepOn_287 : decode cX3_stepOn 287 = .ok (.ireturn, 1) := by decide +kernel
set_option maxRecDepth 20000 in
theorem ggX3_pass_X3_isIn : GoodIn wsX3_pass wsX3_isIn := goodIn_r _ [6] (by decide +kernel) (by decide +kernel)
set_option maxRecDepth 20000 in
theorem gX3_pass_X3_isIn : GoodIn wsX3_pass (va_wsS RX3 54 yX3_isIn wsX3_isIn) := goodIn_app (goodIn_of _ (by decide +kernel)) ggX3_pass_X3_isIn
set_option maxRecDepth 20000 in
theorem ggX3_pass_X3_fail : GoodIn wsX3_pass wsX3_fail := goodIn_r _ [10, 1, 96, 97, 98, 99, 100, 101, 102, 103, 104, 105, 106, 107, 108, 109, 110, 111] (by decide +kernel) (by decide +kernel)
set_option maxRecDepth 20000 in
theorem gX3_pass_X3_fail : GoodIn wsX3_pass (wsV RX3 68 RX3 yX3_fail wsX3_fail) := goodIn_app (goodIn_of _ (by decide +kernel)) ggX3_pass_X3_fail
set_option maxRecDepth 20000 in
theorem ggX3_pass_X3_stepOn : GoodIn wsX3_pass wsX3_stepOn := goodIn_r _ [14, 15, 16, 17, 18, 19, 20, 21, 22, 23, 5, 24, 25, 26, 27, 28, 29, 30, 31, 32, 33, 34, 35, 36, 37, 38, 39, 40, 41, 42, 43, 44, 45, 46, 47, 48, 49, 50, 51, 52, 53, 54, 55, 56, 57, 58, 59, 60, 61, 62, 63, 64, 65, 66, 67, 68, 69, 70, 71, 72, 73, 74, 75, 76, 77, 78, 79, 80, 81, 82, 83, 84, 85, 86, 2, 87, 88, 89, 90, 91, 92, 93, 94, 95, 96, 97, 98, 99, 100, 101, 102, 103, 104, 105, 106, 107, 108, 109, 110, 111] (by decide +kernel) (by decide +kernel)
set_option maxRecDepth 20000 in
theorem gX3_pass_X3_stepOn : GoodIn wsX3_pass (wsV RX3 157 RX3 yX3_stepOn wsX3_stepOn) := goodIn_app (goodIn_of _ (by decide +kernel)) ggX3_pass_X3_stepOn
