set_option maxRecDepth 20000 in
theorem ggX3_pass_X3_beside : GoodIn wsX3_pass wsX3_beside := goodIn_r _ [20, 3, 21, 22, 23, 24, 25, 26, 27, 48, 49, 50, 51, 52, 53, 54, 55, 56, 57, 58, 59, 60, 61, 62, 63, 64, 65, 66] (by decide +kernel) (by decide +kernel)
set_option maxRecDepth 20000 in
theorem gX3_pass_X3_beside : GoodIn wsX3_pass (wsV RX3 93 RX3 yX3_beside wsX3_beside) := goodIn_app (goodIn_of _ (by decide +kernel)) ggX3_pass_X3_beside
set_option maxRecDepth 20000 in
theorem ggX3_pass_X4_isBeside : GoodIn wsX3_pass wsX4_isBeside := goodIn_r _ [25, 26, 27, 58, 59, 60, 61, 62, 63, 64, 65, 66] (by decide +kernel) (by decide +kernel)
set_option maxRecDepth 20000 in
theorem gX3_pass_X4_isBeside : GoodIn wsX3_pass (wsV RX3 70 RX4 yX4_isBeside wsX4_isBeside) := goodIn_app (goodIn_of _ (by decide +kernel)) ggX3_pass_X4_isBeside
set_option maxRecDepth 20000 in
theorem ggX3_pass_X3_go : GoodIn wsX3_pass wsX3_go := goodIn_r _ [31, 4, 32, 15, 33, 12, 5, 2, 34, 35, 36, 37, 19, 38, 39, 40, 41, 42, 3, 43, 44, 45, 46, 47, 58, 59, 60, 61, 62, 63, 64, 65, 66, 48, 49, 50, 51, 52, 53, 54, 55, 56, 57] (by decide +kernel) (by decide +kernel)
set_option maxRecDepth 20000 in
theorem gX3_pass_X3_go : GoodIn wsX3_pass (wsV RX3 103 RX3 yX3_go wsX3_go) := goodIn_app (goodIn_of _ (by decide +kernel)) ggX3_pass_X3_go
set_option maxRecDepth 20000 in
theorem ggX3_pass_X3_on : GoodIn wsX3_pass wsX3_on := goodIn_r _ [42, 3, 5, 15, 48, 49, 50, 51, 52, 53, 54, 55, 56, 57, 58, 59, 60, 61, 62, 63, 64, 65, 66] (by decide +kernel) (by decide +kernel)
set_option maxRecDepth 20000 in
theorem gX3_pass_X3_on : GoodIn wsX3_pass (wsV RX3 84 RX3 yX3_on wsX3_on) := goodIn_app (goodIn_of _ (by decide +kernel)) ggX3_pass_X3_on
theorem dX3_pass_0 : decode cX3_pass 0 = .ok (.aload_n 0, 1) := by decide +kernel
theorem dX3_pass_1 : decode cX3_pass 1 = .ok (.getfield 18, 3) := by decide +kernel
theorem dX3_pass_4 : decode cX3_pass 4 = .ok (.aload_n 0, 1) := by decide +kernel
theorem dX3_pass_5 : decode cX3_pass 5 = .ok (.getfield 52, 3) := by decide +kernel
theorem dX3_pass_8 : decode cX3_pass 8 = .ok (.bipush 10, 2) := by decide +kernel
theorem dX3_pass_10 : decode cX3_pass 10 = .ok (.irem, 1) := by decide +kernel
theorem dX3_pass_11 : decode cX3_pass 11 = .ok (.iaload, 1) := by decide +kernel
theorem dX3_pass_12 : decode cX3_pass 12 = .ok (.istore_n 1, 1) := by decide +kernel
theorem dX3_pass_13 : decode cX3_pass 13 = .ok (.aload_n 0, 1) := by decide +kernel
theorem dX3_pass_14 : decode cX3_pass 14 = .ok (.getfield 23, 3) := by decide +kernel
theorem dX3_pass_17 : decode cX3_pass 17 = .ok (.astore_n 2, 1) := by decide +kernel
theorem dX3_pass_18 : decode cX3_pass 18 = .ok (.aload_n 2, 1) := by decide +kernel
theorem dX3_pass_19 : decode cX3_pass 19 = .ok (.arraylength, 1) := by decide +kernel
theorem dX3_pass_20 : decode cX3_pass 20 = .ok (.istore_n 3, 1) := by decide +kernel
theorem dX3_pass_21 : decode cX3_pass 21 = .ok (.iconst 0, 1) := by decide +kernel
theorem dX3_pass_22 : decode cX3_pass 22 = .ok (.istore 4, 2) := by decide +kernel
theorem dX3_pass_24 : decode cX3_pass 24 = .ok (.iload 4, 2) := by decide +kernel
theorem dX3_pass_26 : decode cX3_pass 26 = .ok (.iload_n 3, 1) := by decide +kernel
theorem dX3_pass_27 : decode cX3_pass 27 = .ok (.if_icmp .ge 87, 3) := by decide +kernel
theorem dX3_pass_30 : decode cX3_pass 30 = .ok (.aload_n 2, 1) := by decide +kernel
theorem dX3_pass_31 : decode cX3_pass 31 = .ok (.iload 4, 2) := by decide +kernel
theorem dX3_pass_33 : decode cX3_pass 33 = .ok (.aaload, 1) := by decide +kernel
theorem dX3_pass_34 : decode cX3_pass 34 = .ok (.astore 5, 2) := by decide +kernel
theorem dX3_pass_36 : decode cX3_pass 36 = .ok (.aload 5, 2) := by decide +kernel
theorem dX3_pass_38 : decode cX3_pass 38 = .ok (.getfield 66, 3) := by decide +kernel
theorem dX3_pass_41 : decode cX3_pass 41 = .ok (.ifCond .eq 67, 3) := by decide +kernel
theorem dX3_pass_44 : decode cX3_pass 44 = .ok (.aload 5, 2) := by decide +kernel
theorem dX3_pass_46 : decode cX3_pass 46 = .ok (.getfield 74, 3) := by decide +kernel
theorem dX3_pass_49 : decode cX3_pass 49 = .ok (.iconst 2, 1) := by decide +kernel
theorem dX3_pass_50 : decode cX3_pass 50 = .ok (.if_icmp .ne 6, 3) := by decide +kernel
theorem dX3_pass_53 : decode cX3_pass 53 = .ok (.goto 55, 3) := by decide +kernel
theorem dX3_pass_56 : decode cX3_pass 56 = .ok (.aload 5, 2) := by decide +kernel
theorem dX3_pass_58 : decode cX3_pass 58 = .ok (.dup, 1) := by decide +kernel
theorem dX3_pass_59 : decode cX3_pass 59 = .ok (.getfield 60, 3) := by decide +kernel
theorem dX3_pass_62 : decode cX3_pass 62 = .ok (.iload_n 1, 1) := by decide +kernel
theorem dX3_pass_63 : decode cX3_pass 63 = .ok (.iconst 5, 1) := by decide +kernel
theorem dX3_pass_64 : decode cX3_pass 64 = .ok (.if_icmp .le 7, 3) := by decide +kernel
theorem dX3_pass_67 : decode cX3_pass 67 = .ok (.iconst 2, 1) := by decide +kernel
theorem dX3_pass_68 : decode cX3_pass 68 = .ok (.goto 4, 3) := by decide +kernel
theorem dX3_pass_71 : decode cX3_pass 71 = .ok (.iconst 1, 1) := by decide +kernel
theorem dX3_pass_72 : decode cX3_pass 72 = .ok (.isub, 1) := by decide +kernel
theorem dX3_pass_73 : decode cX3_pass 73 = .ok (.putfield 60, 3) := by decide +kernel
theorem dX3_pass_76 : decode cX3_pass 76 = .ok (.aload 5, 2) := by decide +kernel
theorem dX3_pass_78 : decode cX3_pass 78 = .ok (.getfield 60, 3) := by decide +kernel
theorem dX3_pass_81 : decode cX3_pass 81 = .ok (.ifCond .ge 9, 3) := by decide +kernel
theorem dX3_pass_84 : decode cX3_pass 84 = .ok (.aload 5, 2) := by decide +kernel
theorem dX3_pass_86 : decode cX3_pass 86 = .ok (.iconst 0, 1) := by decide +kernel
theorem dX3_pass_87 : decode cX3_pass 87 = .ok (.putfield 60, 3) := by decide +kernel
theorem dX3_pass_90 : decode cX3_pass 90 = .ok (.aload 5, 2) := by decide +kernel
theorem dX3_pass_92 : decode cX3_pass 92 = .ok (.aload 5, 2) := by decide +kernel
theorem dX3_pass_94 : decode cX3_pass 94 = .ok (.getfield 60, 3) := by decide +kernel
theorem dX3_pass_97 : decode cX3_pass 97 = .ok (.ifCond .le 7, 3) := by decide +kernel
theorem dX3_pass_100 : decode cX3_pass 100 = .ok (.iconst 1, 1) := by decide +kernel
theorem dX3_pass_101 : decode cX3_pass 101 = .ok (.goto 4, 3) := by decide +kernel
theorem dX3_pass_104 : decode cX3_pass 104 = .ok (.iconst 0, 1) := by decide +kernel
theorem dX3_pass_105 : decode cX3_pass 105 = .ok (.putfield 66, 3) := by decide +kernel
theorem dX3_pass_108 : decode cX3_pass 108 = .ok (.iinc 4 1, 3) := by decide +kernel
theorem dX3_pass_111 : decode cX3_pass 111 = .ok (.goto (-87), 3) := by decide +kernel
theorem dX3_pass_114 : decode cX3_pass 114 = .ok (.iload_n 1, 1) := by decide +kernel
theorem dX3_pass_115 : decode cX3_pass 115 = .ok (.bipush 7, 2) := by decide +kernel
theorem dX3_pass_117 : decode cX3_pass 117 = .ok (.if_icmp .le 57, 3) := by decide +kernel
theorem dX3_pass_120 : decode cX3_pass 120 = .ok (.aload_n 0, 1) := by decide +kernel
theorem dX3_pass_121 : decode cX3_pass 121 = .ok (.getfield 23, 3) := by decide +kernel
theorem dX3_pass_124 : decode cX3_pass 124 = .ok (.astore_n 2, 1) := by decide +kernel
theorem dX3_pass_125 : decode cX3_pass 125 = .ok (.aload_n 2, 1) := by decide +kernel
theorem dX3_pass_126 : decode cX3_pass 126 = .ok (.arraylength, 1) := by decide +kernel
theorem dX3_pass_127 : decode cX3_pass 127 = .ok (.istore_n 3, 1) := by decide +kernel
theorem dX3_pass_128 : decode cX3_pass 128 = .ok (.iconst 0, 1) := by decide +kernel
theorem dX3_pass_129 : decode cX3_pass 129 = .ok (.istore 4, 2) := by decide +kernel
theorem dX3_pass_131 : decode cX3_pass 131 = .ok (.iload 4, 2) := by decide +kernel
theorem dX3_pass_133 : decode cX3_pass 133 = .ok (.iload_n 3, 1) := by decide +kernel
theorem dX3_pass_134 : decode cX3_pass 134 = .ok (.if_icmp .ge 40, 3) := by decide +kernel
theorem dX3_pass_137 : decode cX3_pass 137 = .ok (.aload_n 2, 1) := by decide +kernel
theorem dX3_pass_138 : decode cX3_pass 138 = .ok (.iload 4, 2) := by decide +kernel
theorem dX3_pass_140 : decode cX3_pass 140 = .ok (.aaload, 1) := by decide +kernel
theorem dX3_pass_141 : decode cX3_pass 141 = .ok (.astore 5, 2) := by decide +kernel
theorem dX3_pass_143 : decode cX3_pass 143 = .ok (.aload 5, 2) := by decide +kernel
theorem dX3_pass_145 : decode cX3_pass 145 = .ok (.getfield 74, 3) := by decide +kernel
theorem dX3_pass_148 : decode cX3_pass 148 = .ok (.iconst 1, 1) := by decide +kernel
theorem dX3_pass_149 : decode cX3_pass 149 = .ok (.if_icmp .ne 19, 3) := by decide +kernel
theorem dX3_pass_152 : decode cX3_pass 152 = .ok (.aload_n 0, 1) := by decide +kernel
theorem dX3_pass_153 : decode cX3_pass 153 = .ok (.aload 5, 2) := by decide +kernel
theorem dX3_pass_155 : decode cX3_pass 155 = .ok (.invokevirtual 93, 3) := by decide +kernel
theorem dX3_pass_158 : decode cX3_pass 158 = .ok (.iconst 2, 1) := by decide +kernel
theorem dX3_pass_159 : decode cX3_pass 159 = .ok (.if_icmp .ge 9, 3) := by decide +kernel
theorem dX3_pass_162 : decode cX3_pass 162 = .ok (.aload 5, 2) := by decide +kernel
theorem dX3_pass_164 : decode cX3_pass 164 = .ok (.iconst 0, 1) := by decide +kernel
theorem dX3_pass_165 : decode cX3_pass 165 = .ok (.putfield 66, 3) := by decide +kernel
theorem dX3_pass_168 : decode cX3_pass 168 = .ok (.iinc 4 1, 3) := by decide +kernel
theorem dX3_pass_171 : decode cX3_pass 171 = .ok (.goto (-40), 3) := by decide +kernel
theorem dX3_pass_174 : decode cX3_pass 174 = .ok (.iconst 0, 1) := by decide +kernel
theorem dX3_pass_175 : decode cX3_pass 175 = .ok (.istore_n 2, 1) := by decide +kernel
theorem dX3_pass_176 : decode cX3_pass 176 = .ok (.iload_n 2, 1) := by decide +kernel
theorem dX3_pass_177 : decode cX3_pass 177 = .ok (.aload_n 0, 1) := by decide +kernel
theorem dX3_pass_178 : decode cX3_pass 178 = .ok (.getfield 23, 3) := by decide +kernel
theorem dX3_pass_181 : decode cX3_pass 181 = .ok (.arraylength, 1) := by decide +kernel
theorem dX3_pass_182 : decode cX3_pass 182 = .ok (.if_icmp .ge 95, 3) := by decide +kernel
theorem dX3_pass_185 : decode cX3_pass 185 = .ok (.aload_n 0, 1) := by decide +kernel
theorem dX3_pass_186 : decode cX3_pass 186 = .ok (.getfield 30, 3) := by decide +kernel
theorem dX3_pass_189 : decode cX3_pass 189 = .ok (.iload_n 2, 1) := by decide +kernel
theorem dX3_pass_190 : decode cX3_pass 190 = .ok (.iconst 0, 1) := by decide +kernel
theorem dX3_pass_191 : decode cX3_pass 191 = .ok (.bastore, 1) := by decide +kernel
theorem dX3_pass_192 : decode cX3_pass 192 = .ok (.aload_n 0, 1) := by decide +kernel
theorem dX3_pass_193 : decode cX3_pass 193 = .ok (.getfield 23, 3) := by decide +kernel
theorem dX3_pass_196 : decode cX3_pass 196 = .ok (.astore_n 3, 1) := by decide +kernel
theorem dX3_pass_197 : decode cX3_pass 197 = .ok (.aload_n 3, 1) := by decide +kernel
theorem dX3_pass_198 : decode cX3_pass 198 = .ok (.arraylength, 1) := by decide +kernel
theorem dX3_pass_199 : decode cX3_pass 199 = .ok (.istore 4, 2) := by decide +kernel
theorem dX3_pass_201 : decode cX3_pass 201 = .ok (.iconst 0, 1) := by decide +kernel
theorem dX3_pass_202 : decode cX3_pass 202 = .ok (.istore 5, 2) := by decide +kernel
theorem dX3_pass_204 : decode cX3_pass 204 = .ok (.iload 5, 2) := by decide +kernel
theorem dX3_pass_206 : decode cX3_pass 206 = .ok (.iload 4, 2) := by decide +kernel
theorem dX3_pass_208 : decode cX3_pass 208 = .ok (.if_icmp .ge 63, 3) := by decide +kernel
theorem dX3_pass_211 : decode cX3_pass 211 = .ok (.aload_n 3, 1) := by decide +kernel
theorem dX3_pass_212 : decode cX3_pass 212 = .ok (.iload 5, 2) := by decide +kernel
theorem dX3_pass_214 : decode cX3_pass 214 = .ok (.aaload, 1) := by decide +kernel
theorem dX3_pass_215 : decode cX3_pass 215 = .ok (.astore 6, 2) := by decide +kernel
theorem dX3_pass_217 : decode cX3_pass 217 = .ok (.aload_n 0, 1) := by decide +kernel
theorem dX3_pass_218 : decode cX3_pass 218 = .ok (.getfield 30, 3) := by decide +kernel
theorem dX3_pass_221 : decode cX3_pass 221 = .ok (.iload_n 2, 1) := by decide +kernel
theorem dX3_pass_222 : decode cX3_pass 222 = .ok (.dup2, 1) := by decide +kernel
theorem dX3_pass_223 : decode cX3_pass 223 = .ok (.baload, 1) := by decide +kernel
theorem dX3_pass_224 : decode cX3_pass 224 = .ok (.aload_n 0, 1) := by decide +kernel
theorem dX3_pass_225 : decode cX3_pass 225 = .ok (.getfield 23, 3) := by decide +kernel
theorem dX3_pass_228 : decode cX3_pass 228 = .ok (.iload_n 2, 1) := by decide +kernel
theorem dX3_pass_229 : decode cX3_pass 229 = .ok (.aaload, 1) := by decide +kernel
theorem dX3_pass_230 : decode cX3_pass 230 = .ok (.aload 6, 2) := by decide +kernel
theorem dX3_pass_232 : decode cX3_pass 232 = .ok (.invokevirtual 70, 3) := by decide +kernel
theorem dX3_pass_235 : decode cX3_pass 235 = .ok (.ifCond .eq 27, 3) := by decide +kernel
theorem dX3_pass_238 : decode cX3_pass 238 = .ok (.aload 6, 2) := by decide +kernel
theorem dX3_pass_240 : decode cX3_pass 240 = .ok (.getfield 66, 3) := by decide +kernel
theorem dX3_pass_243 : decode cX3_pass 243 = .ok (.ifCond .eq 19, 3) := by decide +kernel
theorem dX3_pass_246 : decode cX3_pass 246 = .ok (.aload_n 0, 1) := by decide +kernel
theorem dX3_pass_247 : decode cX3_pass 247 = .ok (.getfield 23, 3) := by decide +kernel
theorem dX3_pass_250 : decode cX3_pass 250 = .ok (.iload_n 2, 1) := by decide +kernel
theorem dX3_pass_251 : decode cX3_pass 251 = .ok (.aaload, 1) := by decide +kernel
theorem dX3_pass_252 : decode cX3_pass 252 = .ok (.getfield 60, 3) := by decide +kernel
theorem dX3_pass_255 : decode cX3_pass 255 = .ok (.ifCond .le 7, 3) := by decide +kernel
theorem dX3_pass_258 : decode cX3_pass 258 = .ok (.iconst 1, 1) := by decide +kernel
theorem dX3_pass_259 : decode cX3_pass 259 = .ok (.goto 4, 3) := by decide +kernel
theorem dX3_pass_262 : decode cX3_pass 262 = .ok (.iconst 0, 1) := by decide +kernel
theorem dX3_pass_263 : decode cX3_pass 263 = .ok (.ior, 1) := by decide +kernel
theorem dX3_pass_264 : decode cX3_pass 264 = .ok (.bastore, 1) := by decide +kernel
theorem dX3_pass_265 : decode cX3_pass 265 = .ok (.iinc 5 1, 3) := by decide +kernel
theorem dX3_pass_268 : decode cX3_pass 268 = .ok (.goto (-64), 3) := by decide +kernel
theorem dX3_pass_271 : decode cX3_pass 271 = .ok (.iinc 2 1, 3) := by decide +kernel
theorem dX3_pass_274 : decode cX3_pass 274 = .ok (.goto (-98), 3) := by decide +kernel
theorem dX3_pass_277 : decode cX3_pass 277 = .ok (.iconst 0, 1) := by decide +kernel
theorem dX3_pass_278 : decode cX3_pass 278 = .ok (.istore_n 2, 1) := by decide +kernel
theorem dX3_pass_279 : decode cX3_pass 279 = .ok (.iload_n 2, 1) := by decide +kernel
theorem dX3_pass_280 : decode cX3_pass 280 = .ok (.aload_n 0, 1) := by decide +kernel
theorem dX3_pass_281 : decode cX3_pass 281 = .ok (.getfield 23, 3) := by decide +kernel
theorem dX3_pass_284 : decode cX3_pass 284 = .ok (.arraylength, 1) := by decide +kernel
theorem dX3_pass_285 : decode cX3_pass 285 = .ok (.if_icmp .ge 29, 3) := by decide +kernel
theorem dX3_pass_288 : decode cX3_pass 288 = .ok (.aload_n 0, 1) := by decide +kernel
theorem dX3_pass_289 : decode cX3_pass 289 = .ok (.getfield 23, 3) := by decide +kernel
theorem dX3_pass_292 : decode cX3_pass 292 = .ok (.iload_n 2, 1) := by decide +kernel
theorem dX3_pass_293 : decode cX3_pass 293 = .ok (.aaload, 1) := by decide +kernel
theorem dX3_pass_294 : decode cX3_pass 294 = .ok (.dup, 1) := by decide +kernel
theorem dX3_pass_295 : decode cX3_pass 295 = .ok (.getfield 66, 3) := by decide +kernel
theorem dX3_pass_298 : decode cX3_pass 298 = .ok (.aload_n 0, 1) := by decide +kernel
theorem dX3_pass_299 : decode cX3_pass 299 = .ok (.getfield 30, 3) := by decide +kernel
theorem dX3_pass_302 : decode cX3_pass 302 = .ok (.iload_n 2, 1) := by decide +kernel
theorem dX3_pass_303 : decode cX3_pass 303 = .ok (.baload, 1) := by decide +kernel
theorem dX3_pass_304 : decode cX3_pass 304 = .ok (.ior, 1) := by decide +kernel
theorem dX3_pass_305 : decode cX3_pass 305 = .ok (.putfield 66, 3) := by decide +kernel
theorem dX3_pass_308 : decode cX3_pass 308 = .ok (.iinc 2 1, 3) := by decide +kernel
theorem dX3_pass_311 : decode cX3_pass 311 = .ok (.goto (-32), 3) := by decide +kernel
theorem dX3_pass_314 : decode cX3_pass 314 = .ok (.iconst 0, 1) := by decide +kernel
theorem dX3_pass_315 : decode cX3_pass 315 = .ok (.istore_n 2, 1) := by decide +kernel
theorem dX3_pass_316 : decode cX3_pass 316 = .ok (.iload_n 2, 1) := by decide +kernel
theorem dX3_pass_317 : decode cX3_pass 317 = .ok (.aload_n 0, 1) := by decide +kernel
theorem dX3_pass_318 : decode cX3_pass 318 = .ok (.getfield 23, 3) := by decide +kernel
theorem dX3_pass_321 : decode cX3_pass 321 = .ok (.arraylength, 1) := by decide +kernel
theorem dX3_pass_322 : decode cX3_pass 322 = .ok (.if_icmp .ge 239, 3) := by decide +kernel
theorem dX3_pass_325 : decode cX3_pass 325 = .ok (.aload_n 0, 1) := by decide +kernel
theorem dX3_pass_326 : decode cX3_pass 326 = .ok (.getfield 23, 3) := by decide +kernel
theorem dX3_pass_329 : decode cX3_pass 329 = .ok (.iload_n 2, 1) := by decide +kernel
theorem dX3_pass_330 : decode cX3_pass 330 = .ok (.aaload, 1) := by decide +kernel
theorem dX3_pass_331 : decode cX3_pass 331 = .ok (.astore_n 3, 1) := by decide +kernel
theorem dX3_pass_332 : decode cX3_pass 332 = .ok (.iconst 0, 1) := by decide +kernel
theorem dX3_pass_333 : decode cX3_pass 333 = .ok (.istore 4, 2) := by decide +kernel
theorem dX3_pass_335 : decode cX3_pass 335 = .ok (.iload 4, 2) := by decide +kernel
theorem dX3_pass_337 : decode cX3_pass 337 = .ok (.aload_n 0, 1) := by decide +kernel
theorem dX3_pass_338 : decode cX3_pass 338 = .ok (.getfield 27, 3) := by decide +kernel
theorem dX3_pass_341 : decode cX3_pass 341 = .ok (.arraylength, 1) := by decide +kernel
theorem dX3_pass_342 : decode cX3_pass 342 = .ok (.if_icmp .ge 213, 3) := by decide +kernel
theorem dX3_pass_345 : decode cX3_pass 345 = .ok (.aload_n 0, 1) := by decide +kernel
theorem dX3_pass_346 : decode cX3_pass 346 = .ok (.getfield 34, 3) := by decide +kernel
theorem dX3_pass_349 : decode cX3_pass 349 = .ok (.bipush 6, 2) := by decide +kernel
theorem dX3_pass_351 : decode cX3_pass 351 = .ok (.iload_n 2, 1) := by decide +kernel
theorem dX3_pass_352 : decode cX3_pass 352 = .ok (.imul, 1) := by decide +kernel
theorem dX3_pass_353 : decode cX3_pass 353 = .ok (.iload 4, 2) := by decide +kernel
theorem dX3_pass_355 : decode cX3_pass 355 = .ok (.iadd, 1) := by decide +kernel
theorem dX3_pass_356 : decode cX3_pass 356 = .ok (.iconst 0, 1) := by decide +kernel
theorem dX3_pass_357 : decode cX3_pass 357 = .ok (.iastore, 1) := by decide +kernel
theorem dX3_pass_358 : decode cX3_pass 358 = .ok (.aload_n 3, 1) := by decide +kernel
theorem dX3_pass_359 : decode cX3_pass 359 = .ok (.getfield 74, 3) := by decide +kernel
theorem dX3_pass_362 : decode cX3_pass 362 = .ok (.iconst 1, 1) := by decide +kernel
theorem dX3_pass_363 : decode cX3_pass 363 = .ok (.if_icmp .ne 186, 3) := by decide +kernel
theorem dX3_pass_366 : decode cX3_pass 366 = .ok (.aload_n 3, 1) := by decide +kernel
theorem dX3_pass_367 : decode cX3_pass 367 = .ok (.getfield 97, 3) := by decide +kernel
theorem dX3_pass_370 : decode cX3_pass 370 = .ok (.iload 4, 2) := by decide +kernel
theorem dX3_pass_372 : decode cX3_pass 372 = .ok (.iaload, 1) := by decide +kernel
theorem dX3_pass_373 : decode cX3_pass 373 = .ok (.ifCond .le 6, 3) := by decide +kernel
theorem dX3_pass_376 : decode cX3_pass 376 = .ok (.goto 173, 3) := by decide +kernel
theorem dX3_pass_379 : decode cX3_pass 379 = .ok (.aconst_null, 1) := by decide +kernel
theorem dX3_pass_380 : decode cX3_pass 380 = .ok (.astore 5, 2) := by decide +kernel
theorem dX3_pass_382 : decode cX3_pass 382 = .ok (.aload_n 0, 1) := by decide +kernel
theorem dX3_pass_383 : decode cX3_pass 383 = .ok (.getfield 23, 3) := by decide +kernel
theorem dX3_pass_386 : decode cX3_pass 386 = .ok (.astore 6, 2) := by decide +kernel
theorem dX3_pass_388 : decode cX3_pass 388 = .ok (.aload 6, 2) := by decide +kernel
theorem dX3_pass_390 : decode cX3_pass 390 = .ok (.arraylength, 1) := by decide +kernel
theorem dX3_pass_391 : decode cX3_pass 391 = .ok (.istore 7, 2) := by decide +kernel
theorem dX3_pass_393 : decode cX3_pass 393 = .ok (.iconst 0, 1) := by decide +kernel
theorem dX3_pass_394 : decode cX3_pass 394 = .ok (.istore 8, 2) := by decide +kernel
theorem dX3_pass_396 : decode cX3_pass 396 = .ok (.iload 8, 2) := by decide +kernel
theorem dX3_pass_398 : decode cX3_pass 398 = .ok (.iload 7, 2) := by decide +kernel
theorem dX3_pass_400 : decode cX3_pass 400 = .ok (.if_icmp .ge 58, 3) := by decide +kernel
theorem dX3_pass_403 : decode cX3_pass 403 = .ok (.aload 6, 2) := by decide +kernel
theorem dX3_pass_405 : decode cX3_pass 405 = .ok (.iload 8, 2) := by decide +kernel
theorem dX3_pass_407 : decode cX3_pass 407 = .ok (.aaload, 1) := by decide +kernel
theorem dX3_pass_408 : decode cX3_pass 408 = .ok (.astore 9, 2) := by decide +kernel
theorem dX3_pass_410 : decode cX3_pass 410 = .ok (.aload_n 3, 1) := by decide +kernel
theorem dX3_pass_411 : decode cX3_pass 411 = .ok (.aload 9, 2) := by decide +kernel
theorem dX3_pass_413 : decode cX3_pass 413 = .ok (.invokevirtual 70, 3) := by decide +kernel
theorem dX3_pass_416 : decode cX3_pass 416 = .ok (.ifCond .eq 36, 3) := by decide +kernel
theorem dX3_pass_419 : decode cX3_pass 419 = .ok (.aload 9, 2) := by decide +kernel
theorem dX3_pass_421 : decode cX3_pass 421 = .ok (.getfield 97, 3) := by decide +kernel
theorem dX3_pass_424 : decode cX3_pass 424 = .ok (.iload 4, 2) := by decide +kernel
theorem dX3_pass_426 : decode cX3_pass 426 = .ok (.iaload, 1) := by decide +kernel
theorem dX3_pass_427 : decode cX3_pass 427 = .ok (.ifCond .le 25, 3) := by decide +kernel
theorem dX3_pass_430 : decode cX3_pass 430 = .ok (.aload 5, 2) := by decide +kernel
theorem dX3_pass_432 : decode cX3_pass 432 = .ok (.ifnull 16, 3) := by decide +kernel
theorem dX3_pass_435 : decode cX3_pass 435 = .ok (.aload 9, 2) := by decide +kernel
theorem dX3_pass_437 : decode cX3_pass 437 = .ok (.getfield 63, 3) := by decide +kernel
theorem dX3_pass_440 : decode cX3_pass 440 = .ok (.aload 5, 2) := by decide +kernel
theorem dX3_pass_442 : decode cX3_pass 442 = .ok (.getfield 63, 3) := by decide +kernel
theorem dX3_pass_445 : decode cX3_pass 445 = .ok (.if_icmp .le 7, 3) := by decide +kernel
theorem dX3_pass_448 : decode cX3_pass 448 = .ok (.aload 9, 2) := by decide +kernel
theorem dX3_pass_450 : decode cX3_pass 450 = .ok (.astore 5, 2) := by decide +kernel
theorem dX3_pass_452 : decode cX3_pass 452 = .ok (.iinc 8 1, 3) := by decide +kernel
theorem dX3_pass_455 : decode cX3_pass 455 = .ok (.goto (-59), 3) := by decide +kernel
theorem dX3_pass_458 : decode cX3_pass 458 = .ok (.aload 5, 2) := by decide +kernel
theorem dX3_pass_460 : decode cX3_pass 460 = .ok (.ifnonnull 6, 3) := by decide +kernel
theorem dX3_pass_463 : decode cX3_pass 463 = .ok (.goto 86, 3) := by decide +kernel
theorem dX3_pass_466 : decode cX3_pass 466 = .ok (.aload 5, 2) := by decide +kernel
theorem dX3_pass_468 : decode cX3_pass 468 = .ok (.getfield 63, 3) := by decide +kernel
theorem dX3_pass_471 : decode cX3_pass 471 = .ok (.aload_n 3, 1) := by decide +kernel
theorem dX3_pass_472 : decode cX3_pass 472 = .ok (.getfield 66, 3) := by decide +kernel
theorem dX3_pass_475 : decode cX3_pass 475 = .ok (.ifCond .eq 7, 3) := by decide +kernel
theorem dX3_pass_478 : decode cX3_pass 478 = .ok (.iconst 0, 1) := by decide +kernel
theorem dX3_pass_479 : decode cX3_pass 479 = .ok (.goto 4, 3) := by decide +kernel
theorem dX3_pass_482 : decode cX3_pass 482 = .ok (.iconst 3, 1) := by decide +kernel
theorem dX3_pass_483 : decode cX3_pass 483 = .ok (.iadd, 1) := by decide +kernel
theorem dX3_pass_484 : decode cX3_pass 484 = .ok (.istore 6, 2) := by decide +kernel
theorem dX3_pass_486 : decode cX3_pass 486 = .ok (.iload 6, 2) := by decide +kernel
theorem dX3_pass_488 : decode cX3_pass 488 = .ok (.aload_n 0, 1) := by decide +kernel
theorem dX3_pass_489 : decode cX3_pass 489 = .ok (.getfield 27, 3) := by decide +kernel
theorem dX3_pass_492 : decode cX3_pass 492 = .ok (.iload 4, 2) := by decide +kernel
theorem dX3_pass_494 : decode cX3_pass 494 = .ok (.iaload, 1) := by decide +kernel
theorem dX3_pass_495 : decode cX3_pass 495 = .ok (.if_icmp .lt 54, 3) := by decide +kernel
theorem dX3_pass_498 : decode cX3_pass 498 = .ok (.aload_n 0, 1) := by decide +kernel
theorem dX3_pass_499 : decode cX3_pass 499 = .ok (.getfield 34, 3) := by decide +kernel
theorem dX3_pass_502 : decode cX3_pass 502 = .ok (.bipush 6, 2) := by decide +kernel
theorem dX3_pass_504 : decode cX3_pass 504 = .ok (.iload_n 2, 1) := by decide +kernel
theorem dX3_pass_505 : decode cX3_pass 505 = .ok (.imul, 1) := by decide +kernel
theorem dX3_pass_506 : decode cX3_pass 506 = .ok (.iload 4, 2) := by decide +kernel
theorem dX3_pass_508 : decode cX3_pass 508 = .ok (.iadd, 1) := by decide +kernel
theorem dX3_pass_509 : decode cX3_pass 509 = .ok (.aload_n 3, 1) := by decide +kernel
theorem dX3_pass_510 : decode cX3_pass 510 = .ok (.getfield 66, 3) := by decide +kernel
theorem dX3_pass_513 : decode cX3_pass 513 = .ok (.ifCond .eq 27, 3) := by decide +kernel
theorem dX3_pass_516 : decode cX3_pass 516 = .ok (.aload 5, 2) := by decide +kernel
theorem dX3_pass_518 : decode cX3_pass 518 = .ok (.getfield 66, 3) := by decide +kernel
theorem dX3_pass_521 : decode cX3_pass 521 = .ok (.ifCond .eq 19, 3) := by decide +kernel
theorem dX3_pass_524 : decode cX3_pass 524 = .ok (.aload 5, 2) := by decide +kernel
theorem dX3_pass_526 : decode cX3_pass 526 = .ok (.getfield 97, 3) := by decide +kernel
theorem dX3_pass_529 : decode cX3_pass 529 = .ok (.iload 4, 2) := by decide +kernel
theorem dX3_pass_531 : decode cX3_pass 531 = .ok (.iaload, 1) := by decide +kernel
theorem dX3_pass_532 : decode cX3_pass 532 = .ok (.bipush 99, 2) := by decide +kernel
theorem dX3_pass_534 : decode cX3_pass 534 = .ok (.irem, 1) := by decide +kernel
theorem dX3_pass_535 : decode cX3_pass 535 = .ok (.iconst 1, 1) := by decide +kernel
theorem dX3_pass_536 : decode cX3_pass 536 = .ok (.iadd, 1) := by decide +kernel
theorem dX3_pass_537 : decode cX3_pass 537 = .ok (.goto 11, 3) := by decide +kernel
theorem dX3_pass_540 : decode cX3_pass 540 = .ok (.aload 5, 2) := by decide +kernel
theorem dX3_pass_542 : decode cX3_pass 542 = .ok (.getfield 97, 3) := by decide +kernel
theorem dX3_pass_545 : decode cX3_pass 545 = .ok (.iload 4, 2) := by decide +kernel
theorem dX3_pass_547 : decode cX3_pass 547 = .ok (.iaload, 1) := by decide +kernel
theorem dX3_pass_548 : decode cX3_pass 548 = .ok (.iastore, 1) := by decide +kernel
theorem dX3_pass_549 : decode cX3_pass 549 = .ok (.iinc 4 1, 3) := by decide +kernel
theorem dX3_pass_552 : decode cX3_pass 552 = .ok (.goto (-217), 3) := by decide +kernel
theorem dX3_pass_555 : decode cX3_pass 555 = .ok (.iinc 2 1, 3) := by decide +kernel
theorem dX3_pass_558 : decode cX3_pass 558 = .ok (.goto (-242), 3) := by decide +kernel
theorem dX3_pass_561 : decode cX3_pass 561 = .ok (.iconst 0, 1) := by decide +kernel
theorem dX3_pass_562 : decode cX3_pass 562 = .ok (.istore_n 2, 1) := by decide +kernel
theorem dX3_pass_563 : decode cX3_pass 563 = .ok (.iload_n 2, 1) := by decide +kernel
theorem dX3_pass_564 : decode cX3_pass 564 = .ok (.aload_n 0, 1) := by decide +kernel
theorem dX3_pass_565 : decode cX3_pass 565 = .ok (.getfield 23, 3) := by decide +kernel
theorem dX3_pass_568 : decode cX3_pass 568 = .ok (.arraylength, 1) := by decide +kernel
theorem dX3_pass_569 : decode cX3_pass 569 = .ok (.if_icmp .ge 62, 3) := by decide +kernel
theorem dX3_pass_572 : decode cX3_pass 572 = .ok (.iconst 0, 1) := by decide +kernel
theorem dX3_pass_573 : decode cX3_pass 573 = .ok (.istore_n 3, 1) := by decide +kernel
theorem dX3_pass_574 : decode cX3_pass 574 = .ok (.iload_n 3, 1) := by decide +kernel
theorem dX3_pass_575 : decode cX3_pass 575 = .ok (.aload_n 0, 1) := by decide +kernel
theorem dX3_pass_576 : decode cX3_pass 576 = .ok (.getfield 27, 3) := by decide +kernel
theorem dX3_pass_579 : decode cX3_pass 579 = .ok (.arraylength, 1) := by decide +kernel
theorem dX3_pass_580 : decode cX3_pass 580 = .ok (.if_icmp .ge 45, 3) := by decide +kernel
theorem dX3_pass_583 : decode cX3_pass 583 = .ok (.aload_n 0, 1) := by decide +kernel
theorem dX3_pass_584 : decode cX3_pass 584 = .ok (.getfield 34, 3) := by decide +kernel
theorem dX3_pass_587 : decode cX3_pass 587 = .ok (.bipush 6, 2) := by decide +kernel
theorem dX3_pass_589 : decode cX3_pass 589 = .ok (.iload_n 2, 1) := by decide +kernel
theorem dX3_pass_590 : decode cX3_pass 590 = .ok (.imul, 1) := by decide +kernel
theorem dX3_pass_591 : decode cX3_pass 591 = .ok (.iload_n 3, 1) := by decide +kernel
theorem dX3_pass_592 : decode cX3_pass 592 = .ok (.iadd, 1) := by decide +kernel
theorem dX3_pass_593 : decode cX3_pass 593 = .ok (.iaload, 1) := by decide +kernel
theorem dX3_pass_594 : decode cX3_pass 594 = .ok (.ifCond .le 25, 3) := by decide +kernel
theorem dX3_pass_597 : decode cX3_pass 597 = .ok (.aload_n 0, 1) := by decide +kernel
theorem dX3_pass_598 : decode cX3_pass 598 = .ok (.getfield 23, 3) := by decide +kernel
theorem dX3_pass_601 : decode cX3_pass 601 = .ok (.iload_n 2, 1) := by decide +kernel
theorem dX3_pass_602 : decode cX3_pass 602 = .ok (.aaload, 1) := by decide +kernel
theorem dX3_pass_603 : decode cX3_pass 603 = .ok (.getfield 97, 3) := by decide +kernel
theorem dX3_pass_606 : decode cX3_pass 606 = .ok (.iload_n 3, 1) := by decide +kernel
theorem dX3_pass_607 : decode cX3_pass 607 = .ok (.aload_n 0, 1) := by decide +kernel
theorem dX3_pass_608 : decode cX3_pass 608 = .ok (.getfield 34, 3) := by decide +kernel
theorem dX3_pass_611 : decode cX3_pass 611 = .ok (.bipush 6, 2) := by decide +kernel
theorem dX3_pass_613 : decode cX3_pass 613 = .ok (.iload_n 2, 1) := by decide +kernel
theorem dX3_pass_614 : decode cX3_pass 614 = .ok (.imul, 1) := by decide +kernel
theorem dX3_pass_615 : decode cX3_pass 615 = .ok (.iload_n 3, 1) := by decide +kernel
theorem dX3_pass_616 : decode cX3_pass 616 = .ok (.iadd, 1) := by decide +kernel
theorem dX3_pass_617 : decode cX3_pass 617 = .ok (.iaload, 1) := by decide +kernel
theorem dX3_pass_618 : decode cX3_pass 618 = .ok (.iastore, 1) := by decide +kernel
theorem dX3_pass_619 : decode cX3_pass 619 = .ok (.iinc 3 1, 3) := by decide +kernel
theorem dX3_pass_622 : decode cX3_pass 622 = .ok (.goto (-48), 3) := by decide +kernel
theorem dX3_pass_625 : decode cX3_pass 625 = .ok (.iinc 2 1, 3) := by decide +kernel
theorem dX3_pass_628 : decode cX3_pass 628 = .ok (.goto (-65), 3) := by decide +kernel
theorem dX3_pass_631 : decode cX3_pass 631 = .ok (.iconst 0, 1) := by decide +kernel
theorem dX3_pass_632 : decode cX3_pass 632 = .ok (.istore_n 2, 1) := by decide +kernel
theorem dX3_pass_633 : decode cX3_pass 633 = .ok (.iconst 0, 1) := by decide +kernel
theorem dX3_pass_634 : decode cX3_pass 634 = .ok (.istore_n 3, 1) := by decide +kernel
theorem dX3_pass_635 : decode cX3_pass 635 = .ok (.iload_n 3, 1) := by decide +kernel
theorem dX3_pass_636 : decode cX3_pass 636 = .ok (.bipush 10, 2) := by decide +kernel
theorem dX3_pass_638 : decode cX3_pass 638 = .ok (.if_icmp .ge 16, 3) := by decide +kernel
theorem dX3_pass_641 : decode cX3_pass 641 = .ok (.aload_n 0, 1) := by decide +kernel
theorem dX3_pass_642 : decode cX3_pass 642 = .ok (.getfield 37, 3) := by decide +kernel
theorem dX3_pass_645 : decode cX3_pass 645 = .ok (.iload_n 3, 1) := by decide +kernel
theorem dX3_pass_646 : decode cX3_pass 646 = .ok (.iconst 0, 1) := by decide +kernel
theorem dX3_pass_647 : decode cX3_pass 647 = .ok (.iastore, 1) := by decide +kernel
theorem dX3_pass_648 : decode cX3_pass 648 = .ok (.iinc 3 1, 3) := by decide +kernel
theorem dX3_pass_651 : decode cX3_pass 651 = .ok (.goto (-16), 3) := by decide +kernel
theorem dX3_pass_654 : decode cX3_pass 654 = .ok (.iconst 0, 1) := by decide +kernel
theorem dX3_pass_655 : decode cX3_pass 655 = .ok (.istore_n 3, 1) := by decide +kernel
theorem dX3_pass_656 : decode cX3_pass 656 = .ok (.iconst 0, 1) := by decide +kernel
theorem dX3_pass_657 : decode cX3_pass 657 = .ok (.istore 4, 2) := by decide +kernel
theorem dX3_pass_659 : decode cX3_pass 659 = .ok (.iload 4, 2) := by decide +kernel
theorem dX3_pass_661 : decode cX3_pass 661 = .ok (.aload_n 0, 1) := by decide +kernel
theorem dX3_pass_662 : decode cX3_pass 662 = .ok (.getfield 23, 3) := by decide +kernel
theorem dX3_pass_665 : decode cX3_pass 665 = .ok (.arraylength, 1) := by decide +kernel
theorem dX3_pass_666 : decode cX3_pass 666 = .ok (.if_icmp .ge 131, 3) := by decide +kernel
theorem dX3_pass_669 : decode cX3_pass 669 = .ok (.aload_n 0, 1) := by decide +kernel
theorem dX3_pass_670 : decode cX3_pass 670 = .ok (.getfield 23, 3) := by decide +kernel
theorem dX3_pass_673 : decode cX3_pass 673 = .ok (.iload 4, 2) := by decide +kernel
theorem dX3_pass_675 : decode cX3_pass 675 = .ok (.aaload, 1) := by decide +kernel
theorem dX3_pass_676 : decode cX3_pass 676 = .ok (.getfield 74, 3) := by decide +kernel
theorem dX3_pass_679 : decode cX3_pass 679 = .ok (.iconst 1, 1) := by decide +kernel
theorem dX3_pass_680 : decode cX3_pass 680 = .ok (.if_icmp .eq 6, 3) := by decide +kernel
theorem dX3_pass_683 : decode cX3_pass 683 = .ok (.goto 108, 3) := by decide +kernel
theorem dX3_pass_686 : decode cX3_pass 686 = .ok (.aload_n 0, 1) := by decide +kernel
theorem dX3_pass_687 : decode cX3_pass 687 = .ok (.getfield 23, 3) := by decide +kernel
theorem dX3_pass_690 : decode cX3_pass 690 = .ok (.iload 4, 2) := by decide +kernel
theorem dX3_pass_692 : decode cX3_pass 692 = .ok (.aaload, 1) := by decide +kernel
theorem dX3_pass_693 : decode cX3_pass 693 = .ok (.dup, 1) := by decide +kernel
theorem dX3_pass_694 : decode cX3_pass 694 = .ok (.getfield 100, 3) := by decide +kernel
theorem dX3_pass_697 : decode cX3_pass 697 = .ok (.aload_n 0, 1) := by decide +kernel
theorem dX3_pass_698 : decode cX3_pass 698 = .ok (.getfield 23, 3) := by decide +kernel
theorem dX3_pass_701 : decode cX3_pass 701 = .ok (.iload 4, 2) := by decide +kernel
theorem dX3_pass_703 : decode cX3_pass 703 = .ok (.aaload, 1) := by decide +kernel
theorem dX3_pass_704 : decode cX3_pass 704 = .ok (.getfield 66, 3) := by decide +kernel
theorem dX3_pass_707 : decode cX3_pass 707 = .ok (.ifCond .eq 7, 3) := by decide +kernel
theorem dX3_pass_710 : decode cX3_pass 710 = .ok (.iconst 0, 1) := by decide +kernel
theorem dX3_pass_711 : decode cX3_pass 711 = .ok (.goto 4, 3) := by decide +kernel
theorem dX3_pass_714 : decode cX3_pass 714 = .ok (.iconst 1, 1) := by decide +kernel
theorem dX3_pass_715 : decode cX3_pass 715 = .ok (.iadd, 1) := by decide +kernel
theorem dX3_pass_716 : decode cX3_pass 716 = .ok (.putfield 100, 3) := by decide +kernel
theorem dX3_pass_719 : decode cX3_pass 719 = .ok (.iload_n 3, 1) := by decide +kernel
theorem dX3_pass_720 : decode cX3_pass 720 = .ok (.istore 5, 2) := by decide +kernel
theorem dX3_pass_722 : decode cX3_pass 722 = .ok (.iload 5, 2) := by decide +kernel
theorem dX3_pass_724 : decode cX3_pass 724 = .ok (.ifCond .le 55, 3) := by decide +kernel
theorem dX3_pass_727 : decode cX3_pass 727 = .ok (.aload_n 0, 1) := by decide +kernel
theorem dX3_pass_728 : decode cX3_pass 728 = .ok (.getfield 23, 3) := by decide +kernel
theorem dX3_pass_731 : decode cX3_pass 731 = .ok (.aload_n 0, 1) := by decide +kernel
theorem dX3_pass_732 : decode cX3_pass 732 = .ok (.getfield 40, 3) := by decide +kernel
theorem dX3_pass_735 : decode cX3_pass 735 = .ok (.iload 5, 2) := by decide +kernel
theorem dX3_pass_737 : decode cX3_pass 737 = .ok (.iconst 1, 1) := by decide +kernel
theorem dX3_pass_738 : decode cX3_pass 738 = .ok (.isub, 1) := by decide +kernel
theorem dX3_pass_739 : decode cX3_pass 739 = .ok (.iaload, 1) := by decide +kernel
theorem dX3_pass_740 : decode cX3_pass 740 = .ok (.aaload, 1) := by decide +kernel
theorem dX3_pass_741 : decode cX3_pass 741 = .ok (.getfield 77, 3) := by decide +kernel
theorem dX3_pass_744 : decode cX3_pass 744 = .ok (.aload_n 0, 1) := by decide +kernel
theorem dX3_pass_745 : decode cX3_pass 745 = .ok (.getfield 23, 3) := by decide +kernel
theorem dX3_pass_748 : decode cX3_pass 748 = .ok (.iload 4, 2) := by decide +kernel
theorem dX3_pass_750 : decode cX3_pass 750 = .ok (.aaload, 1) := by decide +kernel
theorem dX3_pass_751 : decode cX3_pass 751 = .ok (.getfield 77, 3) := by decide +kernel
theorem dX3_pass_754 : decode cX3_pass 754 = .ok (.if_icmp .ge 25, 3) := by decide +kernel
theorem dX3_pass_757 : decode cX3_pass 757 = .ok (.aload_n 0, 1) := by decide +kernel
theorem dX3_pass_758 : decode cX3_pass 758 = .ok (.getfield 40, 3) := by decide +kernel
theorem dX3_pass_761 : decode cX3_pass 761 = .ok (.iload 5, 2) := by decide +kernel
theorem dX3_pass_763 : decode cX3_pass 763 = .ok (.aload_n 0, 1) := by decide +kernel
theorem dX3_pass_764 : decode cX3_pass 764 = .ok (.getfield 40, 3) := by decide +kernel
theorem dX3_pass_767 : decode cX3_pass 767 = .ok (.iload 5, 2) := by decide +kernel
theorem dX3_pass_769 : decode cX3_pass 769 = .ok (.iconst 1, 1) := by decide +kernel
theorem dX3_pass_770 : decode cX3_pass 770 = .ok (.isub, 1) := by decide +kernel
theorem dX3_pass_771 : decode cX3_pass 771 = .ok (.iaload, 1) := by decide +kernel
theorem dX3_pass_772 : decode cX3_pass 772 = .ok (.iastore, 1) := by decide +kernel
theorem dX3_pass_773 : decode cX3_pass 773 = .ok (.iinc 5 (-1), 3) := by decide +kernel
theorem dX3_pass_776 : decode cX3_pass 776 = .ok (.goto (-54), 3) := by decide +kernel
theorem dX3_pass_779 : decode cX3_pass 779 = .ok (.aload_n 0, 1) := by decide +kernel
theorem dX3_pass_780 : decode cX3_pass 780 = .ok (.getfield 40, 3) := by decide +kernel
theorem dX3_pass_783 : decode cX3_pass 783 = .ok (.iload 5, 2) := by decide +kernel
theorem dX3_pass_785 : decode cX3_pass 785 = .ok (.iload 4, 2) := by decide +kernel
theorem dX3_pass_787 : decode cX3_pass 787 = .ok (.iastore, 1) := by decide +kernel
theorem dX3_pass_788 : decode cX3_pass 788 = .ok (.iinc 3 1, 3) := by decide +kernel
theorem dX3_pass_791 : decode cX3_pass 791 = .ok (.iinc 4 1, 3) := by decide +kernel
theorem dX3_pass_794 : decode cX3_pass 794 = .ok (.goto (-135), 3) := by decide +kernel
theorem dX3_pass_797 : decode cX3_pass 797 = .ok (.iconst 0, 1) := by decide +kernel
theorem dX3_pass_798 : decode cX3_pass 798 = .ok (.istore 4, 2) := by decide +kernel
theorem dX3_pass_800 : decode cX3_pass 800 = .ok (.iload 4, 2) := by decide +kernel
theorem dX3_pass_802 : decode cX3_pass 802 = .ok (.iload_n 3, 1) := by decide +kernel
theorem dX3_pass_803 : decode cX3_pass 803 = .ok (.if_icmp .ge 52, 3) := by decide +kernel
theorem dX3_pass_806 : decode cX3_pass 806 = .ok (.aload_n 0, 1) := by decide +kernel
theorem dX3_pass_807 : decode cX3_pass 807 = .ok (.aload_n 0, 1) := by decide +kernel
theorem dX3_pass_808 : decode cX3_pass 808 = .ok (.getfield 23, 3) := by decide +kernel
theorem dX3_pass_811 : decode cX3_pass 811 = .ok (.aload_n 0, 1) := by decide +kernel
theorem dX3_pass_812 : decode cX3_pass 812 = .ok (.getfield 40, 3) := by decide +kernel
theorem dX3_pass_815 : decode cX3_pass 815 = .ok (.iload 4, 2) := by decide +kernel
theorem dX3_pass_817 : decode cX3_pass 817 = .ok (.iaload, 1) := by decide +kernel
theorem dX3_pass_818 : decode cX3_pass 818 = .ok (.aaload, 1) := by decide +kernel
theorem dX3_pass_819 : decode cX3_pass 819 = .ok (.invokevirtual 103, 3) := by decide +kernel
theorem dX3_pass_822 : decode cX3_pass 822 = .ok (.iload_n 2, 1) := by decide +kernel
theorem dX3_pass_823 : decode cX3_pass 823 = .ok (.aload_n 0, 1) := by decide +kernel
theorem dX3_pass_824 : decode cX3_pass 824 = .ok (.getfield 23, 3) := by decide +kernel
theorem dX3_pass_827 : decode cX3_pass 827 = .ok (.aload_n 0, 1) := by decide +kernel
theorem dX3_pass_828 : decode cX3_pass 828 = .ok (.getfield 40, 3) := by decide +kernel
theorem dX3_pass_831 : decode cX3_pass 831 = .ok (.iload 4, 2) := by decide +kernel
theorem dX3_pass_833 : decode cX3_pass 833 = .ok (.iaload, 1) := by decide +kernel
theorem dX3_pass_834 : decode cX3_pass 834 = .ok (.aaload, 1) := by decide +kernel
theorem dX3_pass_835 : decode cX3_pass 835 = .ok (.getfield 74, 3) := by decide +kernel
theorem dX3_pass_838 : decode cX3_pass 838 = .ok (.iconst 2, 1) := by decide +kernel
theorem dX3_pass_839 : decode cX3_pass 839 = .ok (.if_icmp .ne 7, 3) := by decide +kernel
theorem dX3_pass_842 : decode cX3_pass 842 = .ok (.iconst 1, 1) := by decide +kernel
theorem dX3_pass_843 : decode cX3_pass 843 = .ok (.goto 4, 3) := by decide +kernel
theorem dX3_pass_846 : decode cX3_pass 846 = .ok (.iconst 0, 1) := by decide +kernel
theorem dX3_pass_847 : decode cX3_pass 847 = .ok (.iadd, 1) := by decide +kernel
theorem dX3_pass_848 : decode cX3_pass 848 = .ok (.istore_n 2, 1) := by decide +kernel
theorem dX3_pass_849 : decode cX3_pass 849 = .ok (.iinc 4 1, 3) := by decide +kernel
theorem dX3_pass_852 : decode cX3_pass 852 = .ok (.goto (-52), 3) := by decide +kernel
theorem dX3_pass_855 : decode cX3_pass 855 = .ok (.aload_n 0, 1) := by decide +kernel
theorem dX3_pass_856 : decode cX3_pass 856 = .ok (.getfield 23, 3) := by decide +kernel
theorem dX3_pass_859 : decode cX3_pass 859 = .ok (.astore 4, 2) := by decide +kernel
theorem dX3_pass_861 : decode cX3_pass 861 = .ok (.aload 4, 2) := by decide +kernel
theorem dX3_pass_863 : decode cX3_pass 863 = .ok (.arraylength, 1) := by decide +kernel
theorem dX3_pass_864 : decode cX3_pass 864 = .ok (.istore 5, 2) := by decide +kernel
theorem dX3_pass_866 : decode cX3_pass 866 = .ok (.iconst 0, 1) := by decide +kernel
theorem dX3_pass_867 : decode cX3_pass 867 = .ok (.istore 6, 2) := by decide +kernel
theorem dX3_pass_869 : decode cX3_pass 869 = .ok (.iload 6, 2) := by decide +kernel
theorem dX3_pass_871 : decode cX3_pass 871 = .ok (.iload 5, 2) := by decide +kernel
theorem dX3_pass_873 : decode cX3_pass 873 = .ok (.if_icmp .ge 48, 3) := by decide +kernel
theorem dX3_pass_876 : decode cX3_pass 876 = .ok (.aload 4, 2) := by decide +kernel
theorem dX3_pass_878 : decode cX3_pass 878 = .ok (.iload 6, 2) := by decide +kernel
theorem dX3_pass_880 : decode cX3_pass 880 = .ok (.aaload, 1) := by decide +kernel
theorem dX3_pass_881 : decode cX3_pass 881 = .ok (.astore 7, 2) := by decide +kernel
theorem dX3_pass_883 : decode cX3_pass 883 = .ok (.aload 7, 2) := by decide +kernel
theorem dX3_pass_885 : decode cX3_pass 885 = .ok (.getfield 74, 3) := by decide +kernel
theorem dX3_pass_888 : decode cX3_pass 888 = .ok (.ifCond .gt 27, 3) := by decide +kernel
theorem dX3_pass_891 : decode cX3_pass 891 = .ok (.aload_n 0, 1) := by decide +kernel
theorem dX3_pass_892 : decode cX3_pass 892 = .ok (.iconst 0, 1) := by decide +kernel
theorem dX3_pass_893 : decode cX3_pass 893 = .ok (.invokevirtual 84, 3) := by decide +kernel
theorem dX3_pass_896 : decode cX3_pass 896 = .ok (.iconst 2, 1) := by decide +kernel
theorem dX3_pass_897 : decode cX3_pass 897 = .ok (.if_icmp .lt 6, 3) := by decide +kernel
theorem dX3_pass_900 : decode cX3_pass 900 = .ok (.goto 15, 3) := by decide +kernel
theorem dX3_pass_903 : decode cX3_pass 903 = .ok (.aload 7, 2) := by decide +kernel
theorem dX3_pass_905 : decode cX3_pass 905 = .ok (.iconst 1, 1) := by decide +kernel
theorem dX3_pass_906 : decode cX3_pass 906 = .ok (.putfield 74, 3) := by decide +kernel
theorem dX3_pass_909 : decode cX3_pass 909 = .ok (.aload 7, 2) := by decide +kernel
theorem dX3_pass_911 : decode cX3_pass 911 = .ok (.iconst 0, 1) := by decide +kernel
theorem dX3_pass_912 : decode cX3_pass 912 = .ok (.putfield 77, 3) := by decide +kernel
theorem dX3_pass_915 : decode cX3_pass 915 = .ok (.iinc 6 1, 3) := by decide +kernel
theorem dX3_pass_918 : decode cX3_pass 918 = .ok (.goto (-49), 3) := by decide +kernel
theorem dX3_pass_921 : decode cX3_pass 921 = .ok (.aload_n 0, 1) := by decide +kernel
theorem dX3_pass_922 : decode cX3_pass 922 = .ok (.dup, 1) := by decide +kernel
theorem dX3_pass_923 : decode cX3_pass 923 = .ok (.getfield 52, 3) := by decide +kernel
theorem dX3_pass_926 : decode cX3_pass 926 = .ok (.iconst 1, 1) := by decide +kernel
theorem dX3_pass_927 : decode cX3_pass 927 = .ok (.iadd, 1) := by decide +kernel
theorem dX3_pass_928 : decode cX3_pass 928 = .ok (.putfield 52, 3) := by decide +kernel
theorem dX3_pass_931 : decode cX3_pass 931 = .ok (.iload_n 2, 1) := by decide +kernel
theorem dX3_pass_932 : decode cX3_pass 932 = .ok (.ireturn, 1) := by decide +kernel
