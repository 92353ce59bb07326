theorem dX11_small_266 : decode cX11_small 266 = .ok (.istore 5, 2) := by decide +kernel
theorem dX11_small_268 : decode cX11_small 268 = .ok (.iload 10, 2) := by decide +kernel
theorem dX11_small_270 : decode cX11_small 270 = .ok (.istore 4, 2) := by decide +kernel
theorem dX11_small_272 : decode cX11_small 272 = .ok (.iinc 7 1, 3) := by decide +kernel
theorem dX11_small_275 : decode cX11_small 275 = .ok (.goto (-190), 3) := by decide +kernel
theorem dX11_small_278 : decode cX11_small 278 = .ok (.aload_n 0, 1) := by decide +kernel
theorem dX11_small_279 : decode cX11_small 279 = .ok (.getfield 49, 3) := by decide +kernel
theorem dX11_small_282 : decode cX11_small 282 = .ok (.iconst 0, 1) := by decide +kernel
theorem dX11_small_283 : decode cX11_small 283 = .ok (.dup2, 1) := by decide +kernel
theorem dX11_small_284 : decode cX11_small 284 = .ok (.iaload, 1) := by decide +kernel
theorem dX11_small_285 : decode cX11_small 285 = .ok (.iload_n 3, 1) := by decide +kernel
theorem dX11_small_286 : decode cX11_small 286 = .ok (.iadd, 1) := by decide +kernel
theorem dX11_small_287 : decode cX11_small 287 = .ok (.iastore, 1) := by decide +kernel
theorem dX11_small_288 : decode cX11_small 288 = .ok (.aload_n 0, 1) := by decide +kernel
theorem dX11_small_289 : decode cX11_small 289 = .ok (.getfield 49, 3) := by decide +kernel
theorem dX11_small_292 : decode cX11_small 292 = .ok (.iconst 1, 1) := by decide +kernel
theorem dX11_small_293 : decode cX11_small 293 = .ok (.dup2, 1) := by decide +kernel
theorem dX11_small_294 : decode cX11_small 294 = .ok (.iaload, 1) := by decide +kernel
theorem dX11_small_295 : decode cX11_small 295 = .ok (.iload 4, 2) := by decide +kernel
theorem dX11_small_297 : decode cX11_small 297 = .ok (.iadd, 1) := by decide +kernel
theorem dX11_small_298 : decode cX11_small 298 = .ok (.iastore, 1) := by decide +kernel
theorem dX11_small_299 : decode cX11_small 299 = .ok (.aload_n 0, 1) := by decide +kernel
theorem dX11_small_300 : decode cX11_small 300 = .ok (.getfield 49, 3) := by decide +kernel
theorem dX11_small_303 : decode cX11_small 303 = .ok (.iconst 2, 1) := by decide +kernel
theorem dX11_small_304 : decode cX11_small 304 = .ok (.dup2, 1) := by decide +kernel
theorem dX11_small_305 : decode cX11_small 305 = .ok (.iaload, 1) := by decide +kernel
theorem dX11_small_306 : decode cX11_small 306 = .ok (.iload 5, 2) := by decide +kernel
theorem dX11_small_308 : decode cX11_small 308 = .ok (.iadd, 1) := by decide +kernel
theorem dX11_small_309 : decode cX11_small 309 = .ok (.iastore, 1) := by decide +kernel
theorem dX11_small_310 : decode cX11_small 310 = .ok (.aload_n 0, 1) := by decide +kernel
theorem dX11_small_311 : decode cX11_small 311 = .ok (.getfield 49, 3) := by decide +kernel
theorem dX11_small_314 : decode cX11_small 314 = .ok (.iconst 3, 1) := by decide +kernel
theorem dX11_small_315 : decode cX11_small 315 = .ok (.dup2, 1) := by decide +kernel
theorem dX11_small_316 : decode cX11_small 316 = .ok (.iaload, 1) := by decide +kernel
theorem dX11_small_317 : decode cX11_small 317 = .ok (.iload 6, 2) := by decide +kernel
theorem dX11_small_319 : decode cX11_small 319 = .ok (.iadd, 1) := by decide +kernel
theorem dX11_small_320 : decode cX11_small 320 = .ok (.iastore, 1) := by decide +kernel
theorem dX11_small_321 : decode cX11_small 321 = .ok (.iinc 2 1, 3) := by decide +kernel
theorem dX11_small_324 : decode cX11_small 324 = .ok (.goto (-284), 3) := by decide +kernel
theorem dX11_small_327 : decode cX11_small 327 = .ok (.aload_n 0, 1) := by decide +kernel
theorem dX11_small_328 : decode cX11_small 328 = .ok (.iconst 4, 1) := by decide +kernel
theorem dX11_small_329 : decode cX11_small 329 = .ok (.iconst 1, 1) := by decide +kernel
theorem dX11_small_330 : decode cX11_small 330 = .ok (.invokevirtual 259, 3) := by decide +kernel
theorem dX11_small_333 : decode cX11_small 333 = .ok (.return_, 1) := by decide +kernel
set_option maxRecDepth 20000 in
theorem ggX11_great_X11_close : GoodIn wsX11_great wsX11_close := goodIn_ca (goodIn_r _ [17, 18, 19, 20, 21, 16, 22, 23, 36, 37, 38, 39, 40, 41, 42, 43, 44, 45, 46, 47, 48, 49, 50, 51, 52, 53, 54, 55, 56, 57, 58, 59, 60, 61, 62, 63, 64, 65, 66, 67, 68, 69, 70, 71, 72, 73, 74, 75, 76, 77, 78, 79, 80] (by decide +kernel) (by decide +kernel)) (goodIn_sub (fun _ h => List.mem_cons_of_mem _ (List.mem_append_right _ h)) (by decide +kernel))
set_option maxRecDepth 20000 in
theorem gX11_great_X11_close : GoodIn wsX11_great (wsV RX11 240 RX11 yX11_close wsX11_close) := goodIn_app (goodIn_of _ (by decide +kernel)) ggX11_great_X11_close
set_option maxRecDepth 20000 in
theorem ggX11_great_X11_readWords : GoodIn wsX11_great wsX11_readWords := goodIn_ca (goodIn_r _ [27, 10, 23, 36, 37, 38, 39, 40, 41, 42, 43, 44, 45, 46, 47, 48, 49, 50, 51, 52, 53, 54, 55, 56, 57, 58, 59, 60, 61, 62, 63, 64, 65, 66, 67, 68, 69, 70, 71, 72, 73, 74, 75, 76, 77, 78, 79, 80] (by decide +kernel) (by decide +kernel)) (goodIn_sub (fun _ h => List.mem_cons_of_mem _ (List.mem_append_right _ h)) (by decide +kernel))
set_option maxRecDepth 20000 in
theorem gX11_great_X11_readWords : GoodIn wsX11_great (wsV RX11 248 RX11 yX11_readWords wsX11_readWords) := goodIn_app (goodIn_of _ (by decide +kernel)) ggX11_great_X11_readWords
set_option maxRecDepth 20000 in
theorem ggX11_great_X11_left : GoodIn wsX11_great wsX11_left := goodIn_r _ [30] (by decide +kernel) (by decide +kernel)
set_option maxRecDepth 20000 in
theorem gX11_great_X11_left : GoodIn wsX11_great (va_wsS RX11 256 yX11_left wsX11_left) := goodIn_app (goodIn_of _ (by decide +kernel)) ggX11_great_X11_left
set_option maxRecDepth 20000 in
theorem ggX11_great_X11_keep : GoodIn wsX11_great wsX11_keep := goodIn_ca (goodIn_r _ [34, 35, 1, 36, 37, 38, 39, 40, 41, 42, 43, 44, 45, 46, 47, 48, 49, 50, 51, 52, 53, 54, 55, 56, 57, 58, 59, 60, 61, 62, 63, 64, 65, 66, 67, 68, 69, 70, 71, 72, 73, 74, 75, 76, 77, 78, 79, 80] (by decide +kernel) (by decide +kernel)) (goodIn_sub (fun _ h => List.mem_cons_of_mem _ (List.mem_append_right _ h)) (by decide +kernel))
set_option maxRecDepth 20000 in
theorem gX11_great_X11_keep : GoodIn wsX11_great (wsV RX11 259 RX11 yX11_keep wsX11_keep) := goodIn_app (goodIn_of _ (by decide +kernel)) ggX11_great_X11_keep
theorem dX11_great_0 : decode cX11_great 0 = .ok (.aload_n 0, 1) := by decide +kernel
theorem dX11_great_1 : decode cX11_great 1 = .ok (.iconst 0, 1) := by decide +kernel
theorem dX11_great_2 : decode cX11_great 2 = .ok (.invokevirtual 240, 3) := by decide +kernel
theorem dX11_great_5 : decode cX11_great 5 = .ok (.istore_n 1, 1) := by decide +kernel
theorem dX11_great_6 : decode cX11_great 6 = .ok (.aload_n 0, 1) := by decide +kernel
theorem dX11_great_7 : decode cX11_great 7 = .ok (.getfield 49, 3) := by decide +kernel
theorem dX11_great_10 : decode cX11_great 10 = .ok (.iconst 0, 1) := by decide +kernel
theorem dX11_great_11 : decode cX11_great 11 = .ok (.ldc_w 262, 3) := by decide +kernel
theorem dX11_great_14 : decode cX11_great 14 = .ok (.iastore, 1) := by decide +kernel
theorem dX11_great_15 : decode cX11_great 15 = .ok (.aload_n 0, 1) := by decide +kernel
theorem dX11_great_16 : decode cX11_great 16 = .ok (.getfield 49, 3) := by decide +kernel
theorem dX11_great_19 : decode cX11_great 19 = .ok (.iconst 1, 1) := by decide +kernel
theorem dX11_great_20 : decode cX11_great 20 = .ok (.ldc_w 263, 3) := by decide +kernel
theorem dX11_great_23 : decode cX11_great 23 = .ok (.iastore, 1) := by decide +kernel
theorem dX11_great_24 : decode cX11_great 24 = .ok (.aload_n 0, 1) := by decide +kernel
theorem dX11_great_25 : decode cX11_great 25 = .ok (.getfield 49, 3) := by decide +kernel
theorem dX11_great_28 : decode cX11_great 28 = .ok (.iconst 2, 1) := by decide +kernel
theorem dX11_great_29 : decode cX11_great 29 = .ok (.ldc_w 264, 3) := by decide +kernel
theorem dX11_great_32 : decode cX11_great 32 = .ok (.iastore, 1) := by decide +kernel
theorem dX11_great_33 : decode cX11_great 33 = .ok (.aload_n 0, 1) := by decide +kernel
theorem dX11_great_34 : decode cX11_great 34 = .ok (.getfield 49, 3) := by decide +kernel
theorem dX11_great_37 : decode cX11_great 37 = .ok (.iconst 3, 1) := by decide +kernel
theorem dX11_great_38 : decode cX11_great 38 = .ok (.ldc_w 265, 3) := by decide +kernel
theorem dX11_great_41 : decode cX11_great 41 = .ok (.iastore, 1) := by decide +kernel
theorem dX11_great_42 : decode cX11_great 42 = .ok (.aload_n 0, 1) := by decide +kernel
theorem dX11_great_43 : decode cX11_great 43 = .ok (.getfield 49, 3) := by decide +kernel
theorem dX11_great_46 : decode cX11_great 46 = .ok (.iconst 4, 1) := by decide +kernel
theorem dX11_great_47 : decode cX11_great 47 = .ok (.ldc_w 266, 3) := by decide +kernel
theorem dX11_great_50 : decode cX11_great 50 = .ok (.iastore, 1) := by decide +kernel
theorem dX11_great_51 : decode cX11_great 51 = .ok (.aload_n 0, 1) := by decide +kernel
theorem dX11_great_52 : decode cX11_great 52 = .ok (.getfield 49, 3) := by decide +kernel
theorem dX11_great_55 : decode cX11_great 55 = .ok (.iconst 5, 1) := by decide +kernel
theorem dX11_great_56 : decode cX11_great 56 = .ok (.ldc_w 267, 3) := by decide +kernel
theorem dX11_great_59 : decode cX11_great 59 = .ok (.iastore, 1) := by decide +kernel
theorem dX11_great_60 : decode cX11_great 60 = .ok (.aload_n 0, 1) := by decide +kernel
theorem dX11_great_61 : decode cX11_great 61 = .ok (.getfield 49, 3) := by decide +kernel
theorem dX11_great_64 : decode cX11_great 64 = .ok (.bipush 6, 2) := by decide +kernel
theorem dX11_great_66 : decode cX11_great 66 = .ok (.ldc_w 268, 3) := by decide +kernel
theorem dX11_great_69 : decode cX11_great 69 = .ok (.iastore, 1) := by decide +kernel
theorem dX11_great_70 : decode cX11_great 70 = .ok (.aload_n 0, 1) := by decide +kernel
theorem dX11_great_71 : decode cX11_great 71 = .ok (.getfield 49, 3) := by decide +kernel
theorem dX11_great_74 : decode cX11_great 74 = .ok (.bipush 7, 2) := by decide +kernel
theorem dX11_great_76 : decode cX11_great 76 = .ok (.ldc_w 269, 3) := by decide +kernel
theorem dX11_great_79 : decode cX11_great 79 = .ok (.iastore, 1) := by decide +kernel
theorem dX11_great_80 : decode cX11_great 80 = .ok (.iconst 0, 1) := by decide +kernel
theorem dX11_great_81 : decode cX11_great 81 = .ok (.istore_n 2, 1) := by decide +kernel
theorem dX11_great_82 : decode cX11_great 82 = .ok (.iload_n 2, 1) := by decide +kernel
theorem dX11_great_83 : decode cX11_great 83 = .ok (.iload_n 1, 1) := by decide +kernel
theorem dX11_great_84 : decode cX11_great 84 = .ok (.if_icmp .ge 382, 3) := by decide +kernel
theorem dX11_great_87 : decode cX11_great 87 = .ok (.aload_n 0, 1) := by decide +kernel
theorem dX11_great_88 : decode cX11_great 88 = .ok (.iload_n 2, 1) := by decide +kernel
theorem dX11_great_89 : decode cX11_great 89 = .ok (.iconst 0, 1) := by decide +kernel
theorem dX11_great_90 : decode cX11_great 90 = .ok (.invokevirtual 248, 3) := by decide +kernel
theorem dX11_great_93 : decode cX11_great 93 = .ok (.bipush 16, 2) := by decide +kernel
theorem dX11_great_95 : decode cX11_great 95 = .ok (.istore_n 3, 1) := by decide +kernel
theorem dX11_great_96 : decode cX11_great 96 = .ok (.iload_n 3, 1) := by decide +kernel
theorem dX11_great_97 : decode cX11_great 97 = .ok (.bipush 64, 2) := by decide +kernel
theorem dX11_great_99 : decode cX11_great 99 = .ok (.if_icmp .ge 98, 3) := by decide +kernel
theorem dX11_great_102 : decode cX11_great 102 = .ok (.aload_n 0, 1) := by decide +kernel
theorem dX11_great_103 : decode cX11_great 103 = .ok (.getfield 46, 3) := by decide +kernel
theorem dX11_great_106 : decode cX11_great 106 = .ok (.iload_n 3, 1) := by decide +kernel
theorem dX11_great_107 : decode cX11_great 107 = .ok (.bipush 15, 2) := by decide +kernel
theorem dX11_great_109 : decode cX11_great 109 = .ok (.isub, 1) := by decide +kernel
theorem dX11_great_110 : decode cX11_great 110 = .ok (.iaload, 1) := by decide +kernel
theorem dX11_great_111 : decode cX11_great 111 = .ok (.istore 4, 2) := by decide +kernel
theorem dX11_great_113 : decode cX11_great 113 = .ok (.aload_n 0, 1) := by decide +kernel
theorem dX11_great_114 : decode cX11_great 114 = .ok (.getfield 46, 3) := by decide +kernel
theorem dX11_great_117 : decode cX11_great 117 = .ok (.iload_n 3, 1) := by decide +kernel
theorem dX11_great_118 : decode cX11_great 118 = .ok (.iconst 2, 1) := by decide +kernel
theorem dX11_great_119 : decode cX11_great 119 = .ok (.isub, 1) := by decide +kernel
theorem dX11_great_120 : decode cX11_great 120 = .ok (.iaload, 1) := by decide +kernel
theorem dX11_great_121 : decode cX11_great 121 = .ok (.istore 5, 2) := by decide +kernel
theorem dX11_great_123 : decode cX11_great 123 = .ok (.aload_n 0, 1) := by decide +kernel
theorem dX11_great_124 : decode cX11_great 124 = .ok (.getfield 46, 3) := by decide +kernel
theorem dX11_great_127 : decode cX11_great 127 = .ok (.iload_n 3, 1) := by decide +kernel
theorem dX11_great_128 : decode cX11_great 128 = .ok (.aload_n 0, 1) := by decide +kernel
theorem dX11_great_129 : decode cX11_great 129 = .ok (.getfield 46, 3) := by decide +kernel
theorem dX11_great_132 : decode cX11_great 132 = .ok (.iload_n 3, 1) := by decide +kernel
theorem dX11_great_133 : decode cX11_great 133 = .ok (.bipush 16, 2) := by decide +kernel
theorem dX11_great_135 : decode cX11_great 135 = .ok (.isub, 1) := by decide +kernel
theorem dX11_great_136 : decode cX11_great 136 = .ok (.iaload, 1) := by decide +kernel
theorem dX11_great_137 : decode cX11_great 137 = .ok (.aload_n 0, 1) := by decide +kernel
theorem dX11_great_138 : decode cX11_great 138 = .ok (.getfield 46, 3) := by decide +kernel
theorem dX11_great_141 : decode cX11_great 141 = .ok (.iload_n 3, 1) := by decide +kernel
theorem dX11_great_142 : decode cX11_great 142 = .ok (.bipush 7, 2) := by decide +kernel
theorem dX11_great_144 : decode cX11_great 144 = .ok (.isub, 1) := by decide +kernel
theorem dX11_great_145 : decode cX11_great 145 = .ok (.iaload, 1) := by decide +kernel
theorem dX11_great_146 : decode cX11_great 146 = .ok (.iadd, 1) := by decide +kernel
theorem dX11_great_147 : decode cX11_great 147 = .ok (.iload 4, 2) := by decide +kernel
theorem dX11_great_149 : decode cX11_great 149 = .ok (.bipush 25, 2) := by decide +kernel
theorem dX11_great_151 : decode cX11_great 151 = .ok (.invokestatic 256, 3) := by decide +kernel
theorem dX11_great_154 : decode cX11_great 154 = .ok (.iload 4, 2) := by decide +kernel
theorem dX11_great_156 : decode cX11_great 156 = .ok (.bipush 14, 2) := by decide +kernel
theorem dX11_great_158 : decode cX11_great 158 = .ok (.invokestatic 256, 3) := by decide +kernel
theorem dX11_great_161 : decode cX11_great 161 = .ok (.ixor, 1) := by decide +kernel
theorem dX11_great_162 : decode cX11_great 162 = .ok (.iload 4, 2) := by decide +kernel
theorem dX11_great_164 : decode cX11_great 164 = .ok (.iconst 3, 1) := by decide +kernel
theorem dX11_great_165 : decode cX11_great 165 = .ok (.iushr, 1) := by decide +kernel
theorem dX11_great_166 : decode cX11_great 166 = .ok (.ixor, 1) := by decide +kernel
theorem dX11_great_167 : decode cX11_great 167 = .ok (.iadd, 1) := by decide +kernel
theorem dX11_great_168 : decode cX11_great 168 = .ok (.iload 5, 2) := by decide +kernel
theorem dX11_great_170 : decode cX11_great 170 = .ok (.bipush 15, 2) := by decide +kernel
theorem dX11_great_172 : decode cX11_great 172 = .ok (.invokestatic 256, 3) := by decide +kernel
theorem dX11_great_175 : decode cX11_great 175 = .ok (.iload 5, 2) := by decide +kernel
theorem dX11_great_177 : decode cX11_great 177 = .ok (.bipush 13, 2) := by decide +kernel
theorem dX11_great_179 : decode cX11_great 179 = .ok (.invokestatic 256, 3) := by decide +kernel
theorem dX11_great_182 : decode cX11_great 182 = .ok (.ixor, 1) := by decide +kernel
theorem dX11_great_183 : decode cX11_great 183 = .ok (.iload 5, 2) := by decide +kernel
theorem dX11_great_185 : decode cX11_great 185 = .ok (.bipush 10, 2) := by decide +kernel
theorem dX11_great_187 : decode cX11_great 187 = .ok (.iushr, 1) := by decide +kernel
theorem dX11_great_188 : decode cX11_great 188 = .ok (.ixor, 1) := by decide +kernel
theorem dX11_great_189 : decode cX11_great 189 = .ok (.iadd, 1) := by decide +kernel
theorem dX11_great_190 : decode cX11_great 190 = .ok (.iastore, 1) := by decide +kernel
theorem dX11_great_191 : decode cX11_great 191 = .ok (.iinc 3 1, 3) := by decide +kernel
theorem dX11_great_194 : decode cX11_great 194 = .ok (.goto (-98), 3) := by decide +kernel
theorem dX11_great_197 : decode cX11_great 197 = .ok (.iconst 0, 1) := by decide +kernel
theorem dX11_great_198 : decode cX11_great 198 = .ok (.istore_n 3, 1) := by decide +kernel
theorem dX11_great_199 : decode cX11_great 199 = .ok (.iload_n 3, 1) := by decide +kernel
theorem dX11_great_200 : decode cX11_great 200 = .ok (.bipush 8, 2) := by decide +kernel
theorem dX11_great_202 : decode cX11_great 202 = .ok (.if_icmp .ge 21, 3) := by decide +kernel
theorem dX11_great_205 : decode cX11_great 205 = .ok (.aload_n 0, 1) := by decide +kernel
theorem dX11_great_206 : decode cX11_great 206 = .ok (.getfield 52, 3) := by decide +kernel
theorem dX11_great_209 : decode cX11_great 209 = .ok (.iload_n 3, 1) := by decide +kernel
theorem dX11_great_210 : decode cX11_great 210 = .ok (.aload_n 0, 1) := by decide +kernel
theorem dX11_great_211 : decode cX11_great 211 = .ok (.getfield 49, 3) := by decide +kernel
theorem dX11_great_214 : decode cX11_great 214 = .ok (.iload_n 3, 1) := by decide +kernel
theorem dX11_great_215 : decode cX11_great 215 = .ok (.iaload, 1) := by decide +kernel
theorem dX11_great_216 : decode cX11_great 216 = .ok (.iastore, 1) := by decide +kernel
theorem dX11_great_217 : decode cX11_great 217 = .ok (.iinc 3 1, 3) := by decide +kernel
theorem dX11_great_220 : decode cX11_great 220 = .ok (.goto (-21), 3) := by decide +kernel
theorem dX11_great_223 : decode cX11_great 223 = .ok (.iconst 0, 1) := by decide +kernel
theorem dX11_great_224 : decode cX11_great 224 = .ok (.istore_n 3, 1) := by decide +kernel
theorem dX11_great_225 : decode cX11_great 225 = .ok (.iload_n 3, 1) := by decide +kernel
theorem dX11_great_226 : decode cX11_great 226 = .ok (.bipush 64, 2) := by decide +kernel
theorem dX11_great_228 : decode cX11_great 228 = .ok (.if_icmp .ge 203, 3) := by decide +kernel
theorem dX11_great_231 : decode cX11_great 231 = .ok (.aload_n 0, 1) := by decide +kernel
theorem dX11_great_232 : decode cX11_great 232 = .ok (.getfield 52, 3) := by decide +kernel
theorem dX11_great_235 : decode cX11_great 235 = .ok (.iconst 4, 1) := by decide +kernel
theorem dX11_great_236 : decode cX11_great 236 = .ok (.iaload, 1) := by decide +kernel
theorem dX11_great_237 : decode cX11_great 237 = .ok (.istore 4, 2) := by decide +kernel
theorem dX11_great_239 : decode cX11_great 239 = .ok (.aload_n 0, 1) := by decide +kernel
theorem dX11_great_240 : decode cX11_great 240 = .ok (.getfield 52, 3) := by decide +kernel
theorem dX11_great_243 : decode cX11_great 243 = .ok (.iconst 0, 1) := by decide +kernel
theorem dX11_great_244 : decode cX11_great 244 = .ok (.iaload, 1) := by decide +kernel
theorem dX11_great_245 : decode cX11_great 245 = .ok (.istore 5, 2) := by decide +kernel
theorem dX11_great_247 : decode cX11_great 247 = .ok (.aload_n 0, 1) := by decide +kernel
theorem dX11_great_248 : decode cX11_great 248 = .ok (.getfield 52, 3) := by decide +kernel
theorem dX11_great_251 : decode cX11_great 251 = .ok (.bipush 7, 2) := by decide +kernel
theorem dX11_great_253 : decode cX11_great 253 = .ok (.iaload, 1) := by decide +kernel
theorem dX11_great_254 : decode cX11_great 254 = .ok (.iload 4, 2) := by decide +kernel
theorem dX11_great_256 : decode cX11_great 256 = .ok (.bipush 26, 2) := by decide +kernel
theorem dX11_great_258 : decode cX11_great 258 = .ok (.invokestatic 256, 3) := by decide +kernel
theorem dX11_great_261 : decode cX11_great 261 = .ok (.iload 4, 2) := by decide +kernel
theorem dX11_great_263 : decode cX11_great 263 = .ok (.bipush 21, 2) := by decide +kernel
theorem dX11_great_265 : decode cX11_great 265 = .ok (.invokestatic 256, 3) := by decide +kernel
theorem dX11_great_268 : decode cX11_great 268 = .ok (.ixor, 1) := by decide +kernel
theorem dX11_great_269 : decode cX11_great 269 = .ok (.iload 4, 2) := by decide +kernel
theorem dX11_great_271 : decode cX11_great 271 = .ok (.bipush 7, 2) := by decide +kernel
theorem dX11_great_273 : decode cX11_great 273 = .ok (.invokestatic 256, 3) := by decide +kernel
theorem dX11_great_276 : decode cX11_great 276 = .ok (.ixor, 1) := by decide +kernel
theorem dX11_great_277 : decode cX11_great 277 = .ok (.iadd, 1) := by decide +kernel
theorem dX11_great_278 : decode cX11_great 278 = .ok (.aload_n 0, 1) := by decide +kernel
theorem dX11_great_279 : decode cX11_great 279 = .ok (.getfield 52, 3) := by decide +kernel
theorem dX11_great_282 : decode cX11_great 282 = .ok (.bipush 6, 2) := by decide +kernel
theorem dX11_great_284 : decode cX11_great 284 = .ok (.iaload, 1) := by decide +kernel
theorem dX11_great_285 : decode cX11_great 285 = .ok (.iload 4, 2) := by decide +kernel
theorem dX11_great_287 : decode cX11_great 287 = .ok (.aload_n 0, 1) := by decide +kernel
theorem dX11_great_288 : decode cX11_great 288 = .ok (.getfield 52, 3) := by decide +kernel
theorem dX11_great_291 : decode cX11_great 291 = .ok (.iconst 5, 1) := by decide +kernel
theorem dX11_great_292 : decode cX11_great 292 = .ok (.iaload, 1) := by decide +kernel
theorem dX11_great_293 : decode cX11_great 293 = .ok (.aload_n 0, 1) := by decide +kernel
theorem dX11_great_294 : decode cX11_great 294 = .ok (.getfield 52, 3) := by decide +kernel
theorem dX11_great_297 : decode cX11_great 297 = .ok (.bipush 6, 2) := by decide +kernel
theorem dX11_great_299 : decode cX11_great 299 = .ok (.iaload, 1) := by decide +kernel
theorem dX11_great_300 : decode cX11_great 300 = .ok (.ixor, 1) := by decide +kernel
theorem dX11_great_301 : decode cX11_great 301 = .ok (.iand, 1) := by decide +kernel
theorem dX11_great_302 : decode cX11_great 302 = .ok (.ixor, 1) := by decide +kernel
theorem dX11_great_303 : decode cX11_great 303 = .ok (.iadd, 1) := by decide +kernel
theorem dX11_great_304 : decode cX11_great 304 = .ok (.aload_n 0, 1) := by decide +kernel
theorem dX11_great_305 : decode cX11_great 305 = .ok (.getfield 189, 3) := by decide +kernel
theorem dX11_great_308 : decode cX11_great 308 = .ok (.iload_n 3, 1) := by decide +kernel
theorem dX11_great_309 : decode cX11_great 309 = .ok (.iaload, 1) := by decide +kernel
theorem dX11_great_310 : decode cX11_great 310 = .ok (.iadd, 1) := by decide +kernel
theorem dX11_great_311 : decode cX11_great 311 = .ok (.aload_n 0, 1) := by decide +kernel
theorem dX11_great_312 : decode cX11_great 312 = .ok (.getfield 46, 3) := by decide +kernel
theorem dX11_great_315 : decode cX11_great 315 = .ok (.iload_n 3, 1) := by decide +kernel
theorem dX11_great_316 : decode cX11_great 316 = .ok (.iaload, 1) := by decide +kernel
theorem dX11_great_317 : decode cX11_great 317 = .ok (.iadd, 1) := by decide +kernel
theorem dX11_great_318 : decode cX11_great 318 = .ok (.istore 6, 2) := by decide +kernel
theorem dX11_great_320 : decode cX11_great 320 = .ok (.iload 5, 2) := by decide +kernel
theorem dX11_great_322 : decode cX11_great 322 = .ok (.bipush 30, 2) := by decide +kernel
theorem dX11_great_324 : decode cX11_great 324 = .ok (.invokestatic 256, 3) := by decide +kernel
theorem dX11_great_327 : decode cX11_great 327 = .ok (.iload 5, 2) := by decide +kernel
theorem dX11_great_329 : decode cX11_great 329 = .ok (.bipush 19, 2) := by decide +kernel
theorem dX11_great_331 : decode cX11_great 331 = .ok (.invokestatic 256, 3) := by decide +kernel
theorem dX11_great_334 : decode cX11_great 334 = .ok (.ixor, 1) := by decide +kernel
theorem dX11_great_335 : decode cX11_great 335 = .ok (.iload 5, 2) := by decide +kernel
theorem dX11_great_337 : decode cX11_great 337 = .ok (.bipush 10, 2) := by decide +kernel
theorem dX11_great_339 : decode cX11_great 339 = .ok (.invokestatic 256, 3) := by decide +kernel
theorem dX11_great_342 : decode cX11_great 342 = .ok (.ixor, 1) := by decide +kernel
theorem dX11_great_343 : decode cX11_great 343 = .ok (.iload 5, 2) := by decide +kernel
theorem dX11_great_345 : decode cX11_great 345 = .ok (.aload_n 0, 1) := by decide +kernel
theorem dX11_great_346 : decode cX11_great 346 = .ok (.getfield 52, 3) := by decide +kernel
theorem dX11_great_349 : decode cX11_great 349 = .ok (.iconst 1, 1) := by decide +kernel
theorem dX11_great_350 : decode cX11_great 350 = .ok (.iaload, 1) := by decide +kernel
theorem dX11_great_351 : decode cX11_great 351 = .ok (.iand, 1) := by decide +kernel
theorem dX11_great_352 : decode cX11_great 352 = .ok (.aload_n 0, 1) := by decide +kernel
theorem dX11_great_353 : decode cX11_great 353 = .ok (.getfield 52, 3) := by decide +kernel
theorem dX11_great_356 : decode cX11_great 356 = .ok (.iconst 2, 1) := by decide +kernel
theorem dX11_great_357 : decode cX11_great 357 = .ok (.iaload, 1) := by decide +kernel
theorem dX11_great_358 : decode cX11_great 358 = .ok (.iload 5, 2) := by decide +kernel
theorem dX11_great_360 : decode cX11_great 360 = .ok (.aload_n 0, 1) := by decide +kernel
theorem dX11_great_361 : decode cX11_great 361 = .ok (.getfield 52, 3) := by decide +kernel
theorem dX11_great_364 : decode cX11_great 364 = .ok (.iconst 1, 1) := by decide +kernel
theorem dX11_great_365 : decode cX11_great 365 = .ok (.iaload, 1) := by decide +kernel
theorem dX11_great_366 : decode cX11_great 366 = .ok (.ior, 1) := by decide +kernel
theorem dX11_great_367 : decode cX11_great 367 = .ok (.iand, 1) := by decide +kernel
theorem dX11_great_368 : decode cX11_great 368 = .ok (.ior, 1) := by decide +kernel
theorem dX11_great_369 : decode cX11_great 369 = .ok (.iadd, 1) := by decide +kernel
theorem dX11_great_370 : decode cX11_great 370 = .ok (.istore 7, 2) := by decide +kernel
theorem dX11_great_372 : decode cX11_great 372 = .ok (.bipush 7, 2) := by decide +kernel
theorem dX11_great_374 : decode cX11_great 374 = .ok (.istore 8, 2) := by decide +kernel
theorem dX11_great_376 : decode cX11_great 376 = .ok (.iload 8, 2) := by decide +kernel
theorem dX11_great_378 : decode cX11_great 378 = .ok (.ifCond .le 25, 3) := by decide +kernel
theorem dX11_great_381 : decode cX11_great 381 = .ok (.aload_n 0, 1) := by decide +kernel
theorem dX11_great_382 : decode cX11_great 382 = .ok (.getfield 52, 3) := by decide +kernel
theorem dX11_great_385 : decode cX11_great 385 = .ok (.iload 8, 2) := by decide +kernel
theorem dX11_great_387 : decode cX11_great 387 = .ok (.aload_n 0, 1) := by decide +kernel
theorem dX11_great_388 : decode cX11_great 388 = .ok (.getfield 52, 3) := by decide +kernel
theorem dX11_great_391 : decode cX11_great 391 = .ok (.iload 8, 2) := by decide +kernel
theorem dX11_great_393 : decode cX11_great 393 = .ok (.iconst 1, 1) := by decide +kernel
theorem dX11_great_394 : decode cX11_great 394 = .ok (.isub, 1) := by decide +kernel
theorem dX11_great_395 : decode cX11_great 395 = .ok (.iaload, 1) := by decide +kernel
theorem dX11_great_396 : decode cX11_great 396 = .ok (.iastore, 1) := by decide +kernel
theorem dX11_great_397 : decode cX11_great 397 = .ok (.iinc 8 (-1), 3) := by decide +kernel
theorem dX11_great_400 : decode cX11_great 400 = .ok (.goto (-24), 3) := by decide +kernel
theorem dX11_great_403 : decode cX11_great 403 = .ok (.aload_n 0, 1) := by decide +kernel
theorem dX11_great_404 : decode cX11_great 404 = .ok (.getfield 52, 3) := by decide +kernel
theorem dX11_great_407 : decode cX11_great 407 = .ok (.iconst 4, 1) := by decide +kernel
theorem dX11_great_408 : decode cX11_great 408 = .ok (.dup2, 1) := by decide +kernel
theorem dX11_great_409 : decode cX11_great 409 = .ok (.iaload, 1) := by decide +kernel
theorem dX11_great_410 : decode cX11_great 410 = .ok (.iload 6, 2) := by decide +kernel
theorem dX11_great_412 : decode cX11_great 412 = .ok (.iadd, 1) := by decide +kernel
theorem dX11_great_413 : decode cX11_great 413 = .ok (.iastore, 1) := by decide +kernel
theorem dX11_great_414 : decode cX11_great 414 = .ok (.aload_n 0, 1) := by decide +kernel
theorem dX11_great_415 : decode cX11_great 415 = .ok (.getfield 52, 3) := by decide +kernel
theorem dX11_great_418 : decode cX11_great 418 = .ok (.iconst 0, 1) := by decide +kernel
theorem dX11_great_419 : decode cX11_great 419 = .ok (.iload 6, 2) := by decide +kernel
theorem dX11_great_421 : decode cX11_great 421 = .ok (.iload 7, 2) := by decide +kernel
theorem dX11_great_423 : decode cX11_great 423 = .ok (.iadd, 1) := by decide +kernel
theorem dX11_great_424 : decode cX11_great 424 = .ok (.iastore, 1) := by decide +kernel
theorem dX11_great_425 : decode cX11_great 425 = .ok (.iinc 3 1, 3) := by decide +kernel
theorem dX11_great_428 : decode cX11_great 428 = .ok (.goto (-203), 3) := by decide +kernel
theorem dX11_great_431 : decode cX11_great 431 = .ok (.iconst 0, 1) := by decide +kernel
theorem dX11_great_432 : decode cX11_great 432 = .ok (.istore_n 3, 1) := by decide +kernel
theorem dX11_great_433 : decode cX11_great 433 = .ok (.iload_n 3, 1) := by decide +kernel
theorem dX11_great_434 : decode cX11_great 434 = .ok (.bipush 8, 2) := by decide +kernel
theorem dX11_great_436 : decode cX11_great 436 = .ok (.if_icmp .ge 24, 3) := by decide +kernel
theorem dX11_great_439 : decode cX11_great 439 = .ok (.aload_n 0, 1) := by decide +kernel
theorem dX11_great_440 : decode cX11_great 440 = .ok (.getfield 49, 3) := by decide +kernel
theorem dX11_great_443 : decode cX11_great 443 = .ok (.iload_n 3, 1) := by decide +kernel
theorem dX11_great_444 : decode cX11_great 444 = .ok (.dup2, 1) := by decide +kernel
theorem dX11_great_445 : decode cX11_great 445 = .ok (.iaload, 1) := by decide +kernel
theorem dX11_great_446 : decode cX11_great 446 = .ok (.aload_n 0, 1) := by decide +kernel
theorem dX11_great_447 : decode cX11_great 447 = .ok (.getfield 52, 3) := by decide +kernel
theorem dX11_great_450 : decode cX11_great 450 = .ok (.iload_n 3, 1) := by decide +kernel
theorem dX11_great_451 : decode cX11_great 451 = .ok (.iaload, 1) := by decide +kernel
theorem dX11_great_452 : decode cX11_great 452 = .ok (.iadd, 1) := by decide +kernel
theorem dX11_great_453 : decode cX11_great 453 = .ok (.iastore, 1) := by decide +kernel
theorem dX11_great_454 : decode cX11_great 454 = .ok (.iinc 3 1, 3) := by decide +kernel
theorem dX11_great_457 : decode cX11_great 457 = .ok (.goto (-24), 3) := by decide +kernel
theorem dX11_great_460 : decode cX11_great 460 = .ok (.iinc 2 1, 3) := by decide +kernel
theorem dX11_great_463 : decode cX11_great 463 = .ok (.goto (-381), 3) := by decide +kernel
theorem dX11_great_466 : decode cX11_great 466 = .ok (.aload_n 0, 1) := by decide +kernel
theorem dX11_great_467 : decode cX11_great 467 = .ok (.bipush 8, 2) := by decide +kernel
theorem dX11_great_469 : decode cX11_great 469 = .ok (.iconst 0, 1) := by decide +kernel
theorem dX11_great_470 : decode cX11_great 470 = .ok (.invokevirtual 259, 3) := by decide +kernel
theorem dX11_great_473 : decode cX11_great 473 = .ok (.return_, 1) := by decide +kernel
theorem dX11_throughStream_0 : decode cX11_throughStream 0 = .ok (.iconst 0, 1) := by decide +kernel
theorem dX11_throughStream_1 : decode cX11_throughStream 1 = .ok (.istore 7, 2) := by decide +kernel
theorem dX11_throughStream_3 : decode cX11_throughStream 3 = .ok (.iload 7, 2) := by decide +kernel
theorem dX11_throughStream_5 : decode cX11_throughStream 5 = .ok (.sipush 256, 3) := by decide +kernel
theorem dX11_throughStream_8 : decode cX11_throughStream 8 = .ok (.if_icmp .ge 18, 3) := by decide +kernel
theorem dX11_throughStream_11 : decode cX11_throughStream 11 = .ok (.aload_n 0, 1) := by decide +kernel
theorem dX11_throughStream_12 : decode cX11_throughStream 12 = .ok (.getfield 207, 3) := by decide +kernel
theorem dX11_throughStream_15 : decode cX11_throughStream 15 = .ok (.iload 7, 2) := by decide +kernel
theorem dX11_throughStream_17 : decode cX11_throughStream 17 = .ok (.iload 7, 2) := by decide +kernel
theorem dX11_throughStream_19 : decode cX11_throughStream 19 = .ok (.iastore, 1) := by decide +kernel
theorem dX11_throughStream_20 : decode cX11_throughStream 20 = .ok (.iinc 7 1, 3) := by decide +kernel
theorem dX11_throughStream_23 : decode cX11_throughStream 23 = .ok (.goto (-20), 3) := by decide +kernel
theorem dX11_throughStream_26 : decode cX11_throughStream 26 = .ok (.iconst 0, 1) := by decide +kernel
theorem dX11_throughStream_27 : decode cX11_throughStream 27 = .ok (.istore 7, 2) := by decide +kernel
theorem dX11_throughStream_29 : decode cX11_throughStream 29 = .ok (.iconst 0, 1) := by decide +kernel
theorem dX11_throughStream_30 : decode cX11_throughStream 30 = .ok (.istore 8, 2) := by decide +kernel
theorem dX11_throughStream_32 : decode cX11_throughStream 32 = .ok (.iload 8, 2) := by decide +kernel
theorem dX11_throughStream_34 : decode cX11_throughStream 34 = .ok (.sipush 256, 3) := by decide +kernel
theorem dX11_throughStream_37 : decode cX11_throughStream 37 = .ok (.if_icmp .ge 66, 3) := by decide +kernel
theorem dX11_throughStream_40 : decode cX11_throughStream 40 = .ok (.iload 7, 2) := by decide +kernel
theorem dX11_throughStream_42 : decode cX11_throughStream 42 = .ok (.aload_n 0, 1) := by decide +kernel
theorem dX11_throughStream_43 : decode cX11_throughStream 43 = .ok (.getfield 207, 3) := by decide +kernel
theorem dX11_throughStream_46 : decode cX11_throughStream 46 = .ok (.iload 8, 2) := by decide +kernel
theorem dX11_throughStream_48 : decode cX11_throughStream 48 = .ok (.iaload, 1) := by decide +kernel
theorem dX11_throughStream_49 : decode cX11_throughStream 49 = .ok (.iadd, 1) := by decide +kernel
theorem dX11_throughStream_50 : decode cX11_throughStream 50 = .ok (.aload_n 1, 1) := by decide +kernel
theorem dX11_throughStream_51 : decode cX11_throughStream 51 = .ok (.iload 8, 2) := by decide +kernel
theorem dX11_throughStream_53 : decode cX11_throughStream 53 = .ok (.iload_n 2, 1) := by decide +kernel
theorem dX11_throughStream_54 : decode cX11_throughStream 54 = .ok (.irem, 1) := by decide +kernel
theorem dX11_throughStream_55 : decode cX11_throughStream 55 = .ok (.iaload, 1) := by decide +kernel
theorem dX11_throughStream_56 : decode cX11_throughStream 56 = .ok (.iload_n 3, 1) := by decide +kernel
theorem dX11_throughStream_57 : decode cX11_throughStream 57 = .ok (.ixor, 1) := by decide +kernel
theorem dX11_throughStream_58 : decode cX11_throughStream 58 = .ok (.iadd, 1) := by decide +kernel
theorem dX11_throughStream_59 : decode cX11_throughStream 59 = .ok (.sipush 256, 3) := by decide +kernel
theorem dX11_throughStream_62 : decode cX11_throughStream 62 = .ok (.irem, 1) := by decide +kernel
theorem dX11_throughStream_63 : decode cX11_throughStream 63 = .ok (.istore 7, 2) := by decide +kernel
theorem dX11_throughStream_65 : decode cX11_throughStream 65 = .ok (.aload_n 0, 1) := by decide +kernel
theorem dX11_throughStream_66 : decode cX11_throughStream 66 = .ok (.getfield 207, 3) := by decide +kernel
theorem dX11_throughStream_69 : decode cX11_throughStream 69 = .ok (.iload 8, 2) := by decide +kernel
theorem dX11_throughStream_71 : decode cX11_throughStream 71 = .ok (.iaload, 1) := by decide +kernel
theorem dX11_throughStream_72 : decode cX11_throughStream 72 = .ok (.istore 9, 2) := by decide +kernel
theorem dX11_throughStream_74 : decode cX11_throughStream 74 = .ok (.aload_n 0, 1) := by decide +kernel
theorem dX11_throughStream_75 : decode cX11_throughStream 75 = .ok (.getfield 207, 3) := by decide +kernel
theorem dX11_throughStream_78 : decode cX11_throughStream 78 = .ok (.iload 8, 2) := by decide +kernel
theorem dX11_throughStream_80 : decode cX11_throughStream 80 = .ok (.aload_n 0, 1) := by decide +kernel
theorem dX11_throughStream_81 : decode cX11_throughStream 81 = .ok (.getfield 207, 3) := by decide +kernel
theorem dX11_throughStream_84 : decode cX11_throughStream 84 = .ok (.iload 7, 2) := by decide +kernel
theorem dX11_throughStream_86 : decode cX11_throughStream 86 = .ok (.iaload, 1) := by decide +kernel
theorem dX11_throughStream_87 : decode cX11_throughStream 87 = .ok (.iastore, 1) := by decide +kernel
theorem dX11_throughStream_88 : decode cX11_throughStream 88 = .ok (.aload_n 0, 1) := by decide +kernel
theorem dX11_throughStream_89 : decode cX11_throughStream 89 = .ok (.getfield 207, 3) := by decide +kernel
theorem dX11_throughStream_92 : decode cX11_throughStream 92 = .ok (.iload 7, 2) := by decide +kernel
theorem dX11_throughStream_94 : decode cX11_throughStream 94 = .ok (.iload 9, 2) := by decide +kernel
theorem dX11_throughStream_96 : decode cX11_throughStream 96 = .ok (.iastore, 1) := by decide +kernel
theorem dX11_throughStream_97 : decode cX11_throughStream 97 = .ok (.iinc 8 1, 3) := by decide +kernel
theorem dX11_throughStream_100 : decode cX11_throughStream 100 = .ok (.goto (-68), 3) := by decide +kernel
theorem dX11_throughStream_103 : decode cX11_throughStream 103 = .ok (.iconst 0, 1) := by decide +kernel
theorem dX11_throughStream_104 : decode cX11_throughStream 104 = .ok (.istore 7, 2) := by decide +kernel
theorem dX11_throughStream_106 : decode cX11_throughStream 106 = .ok (.iconst 0, 1) := by decide +kernel
theorem dX11_throughStream_107 : decode cX11_throughStream 107 = .ok (.istore 8, 2) := by decide +kernel
theorem dX11_throughStream_109 : decode cX11_throughStream 109 = .ok (.iload 8, 2) := by decide +kernel
theorem dX11_throughStream_111 : decode cX11_throughStream 111 = .ok (.iload 6, 2) := by decide +kernel
theorem dX11_throughStream_113 : decode cX11_throughStream 113 = .ok (.if_icmp .ge 108, 3) := by decide +kernel
theorem dX11_throughStream_116 : decode cX11_throughStream 116 = .ok (.iload 8, 2) := by decide +kernel
theorem dX11_throughStream_118 : decode cX11_throughStream 118 = .ok (.iconst 1, 1) := by decide +kernel
theorem dX11_throughStream_119 : decode cX11_throughStream 119 = .ok (.iadd, 1) := by decide +kernel
theorem dX11_throughStream_120 : decode cX11_throughStream 120 = .ok (.sipush 256, 3) := by decide +kernel
theorem dX11_throughStream_123 : decode cX11_throughStream 123 = .ok (.irem, 1) := by decide +kernel
theorem dX11_throughStream_124 : decode cX11_throughStream 124 = .ok (.istore 9, 2) := by decide +kernel
theorem dX11_throughStream_126 : decode cX11_throughStream 126 = .ok (.iload 7, 2) := by decide +kernel
theorem dX11_throughStream_128 : decode cX11_throughStream 128 = .ok (.aload_n 0, 1) := by decide +kernel
theorem dX11_throughStream_129 : decode cX11_throughStream 129 = .ok (.getfield 207, 3) := by decide +kernel
theorem dX11_throughStream_132 : decode cX11_throughStream 132 = .ok (.iload 9, 2) := by decide +kernel
theorem dX11_throughStream_134 : decode cX11_throughStream 134 = .ok (.iaload, 1) := by decide +kernel
theorem dX11_throughStream_135 : decode cX11_throughStream 135 = .ok (.iadd, 1) := by decide +kernel
theorem dX11_throughStream_136 : decode cX11_throughStream 136 = .ok (.sipush 256, 3) := by decide +kernel
theorem dX11_throughStream_139 : decode cX11_throughStream 139 = .ok (.irem, 1) := by decide +kernel
theorem dX11_throughStream_140 : decode cX11_throughStream 140 = .ok (.istore 7, 2) := by decide +kernel
theorem dX11_throughStream_142 : decode cX11_throughStream 142 = .ok (.aload_n 0, 1) := by decide +kernel
theorem dX11_throughStream_143 : decode cX11_throughStream 143 = .ok (.getfield 207, 3) := by decide +kernel
theorem dX11_throughStream_146 : decode cX11_throughStream 146 = .ok (.iload 9, 2) := by decide +kernel
theorem dX11_throughStream_148 : decode cX11_throughStream 148 = .ok (.iaload, 1) := by decide +kernel
theorem dX11_throughStream_149 : decode cX11_throughStream 149 = .ok (.istore 10, 2) := by decide +kernel
theorem dX11_throughStream_151 : decode cX11_throughStream 151 = .ok (.aload_n 0, 1) := by decide +kernel
theorem dX11_throughStream_152 : decode cX11_throughStream 152 = .ok (.getfield 207, 3) := by decide +kernel
theorem dX11_throughStream_155 : decode cX11_throughStream 155 = .ok (.iload 9, 2) := by decide +kernel
theorem dX11_throughStream_157 : decode cX11_throughStream 157 = .ok (.aload_n 0, 1) := by decide +kernel
theorem dX11_throughStream_158 : decode cX11_throughStream 158 = .ok (.getfield 207, 3) := by decide +kernel
theorem dX11_throughStream_161 : decode cX11_throughStream 161 = .ok (.iload 7, 2) := by decide +kernel
theorem dX11_throughStream_163 : decode cX11_throughStream 163 = .ok (.iaload, 1) := by decide +kernel
theorem dX11_throughStream_164 : decode cX11_throughStream 164 = .ok (.iastore, 1) := by decide +kernel
theorem dX11_throughStream_165 : decode cX11_throughStream 165 = .ok (.aload_n 0, 1) := by decide +kernel
theorem dX11_throughStream_166 : decode cX11_throughStream 166 = .ok (.getfield 207, 3) := by decide +kernel
theorem dX11_throughStream_169 : decode cX11_throughStream 169 = .ok (.iload 7, 2) := by decide +kernel
theorem dX11_throughStream_171 : decode cX11_throughStream 171 = .ok (.iload 10, 2) := by decide +kernel
theorem dX11_throughStream_173 : decode cX11_throughStream 173 = .ok (.iastore, 1) := by decide +kernel
theorem dX11_throughStream_174 : decode cX11_throughStream 174 = .ok (.aload 4, 2) := by decide +kernel
theorem dX11_throughStream_176 : decode cX11_throughStream 176 = .ok (.iload 5, 2) := by decide +kernel
theorem dX11_throughStream_178 : decode cX11_throughStream 178 = .ok (.iload 8, 2) := by decide +kernel
theorem dX11_throughStream_180 : decode cX11_throughStream 180 = .ok (.iadd, 1) := by decide +kernel
theorem dX11_throughStream_181 : decode cX11_throughStream 181 = .ok (.aload 4, 2) := by decide +kernel
theorem dX11_throughStream_183 : decode cX11_throughStream 183 = .ok (.iload 5, 2) := by decide +kernel
theorem dX11_throughStream_185 : decode cX11_throughStream 185 = .ok (.iload 8, 2) := by decide +kernel
theorem dX11_throughStream_187 : decode cX11_throughStream 187 = .ok (.iadd, 1) := by decide +kernel
theorem dX11_throughStream_188 : decode cX11_throughStream 188 = .ok (.iaload, 1) := by decide +kernel
theorem dX11_throughStream_189 : decode cX11_throughStream 189 = .ok (.aload_n 0, 1) := by decide +kernel
theorem dX11_throughStream_190 : decode cX11_throughStream 190 = .ok (.getfield 207, 3) := by decide +kernel
theorem dX11_throughStream_193 : decode cX11_throughStream 193 = .ok (.aload_n 0, 1) := by decide +kernel
theorem dX11_throughStream_194 : decode cX11_throughStream 194 = .ok (.getfield 207, 3) := by decide +kernel
theorem dX11_throughStream_197 : decode cX11_throughStream 197 = .ok (.iload 9, 2) := by decide +kernel
theorem dX11_throughStream_199 : decode cX11_throughStream 199 = .ok (.iaload, 1) := by decide +kernel
theorem dX11_throughStream_200 : decode cX11_throughStream 200 = .ok (.aload_n 0, 1) := by decide +kernel
theorem dX11_throughStream_201 : decode cX11_throughStream 201 = .ok (.getfield 207, 3) := by decide +kernel
theorem dX11_throughStream_204 : decode cX11_throughStream 204 = .ok (.iload 7, 2) := by decide +kernel
theorem dX11_throughStream_206 : decode cX11_throughStream 206 = .ok (.iaload, 1) := by decide +kernel
theorem dX11_throughStream_207 : decode cX11_throughStream 207 = .ok (.iadd, 1) := by decide +kernel
theorem dX11_throughStream_208 : decode cX11_throughStream 208 = .ok (.sipush 256, 3) := by decide +kernel
theorem dX11_throughStream_211 : decode cX11_throughStream 211 = .ok (.irem, 1) := by decide +kernel
theorem dX11_throughStream_212 : decode cX11_throughStream 212 = .ok (.iaload, 1) := by decide +kernel
theorem dX11_throughStream_213 : decode cX11_throughStream 213 = .ok (.ixor, 1) := by decide +kernel
theorem dX11_throughStream_214 : decode cX11_throughStream 214 = .ok (.iastore, 1) := by decide +kernel
theorem dX11_throughStream_215 : decode cX11_throughStream 215 = .ok (.iinc 8 1, 3) := by decide +kernel
theorem dX11_throughStream_218 : decode cX11_throughStream 218 = .ok (.goto (-109), 3) := by decide +kernel
theorem dX11_throughStream_221 : decode cX11_throughStream 221 = .ok (.return_, 1) := by decide +kernel
theorem dX11_times_0 : decode cX11_times 0 = .ok (.iconst 0, 1) := by decide +kernel
theorem dX11_times_1 : decode cX11_times 1 = .ok (.istore_n 2, 1) := by decide +kernel
theorem dX11_times_2 : decode cX11_times 2 = .ok (.bipush 7, 2) := by decide +kernel
theorem dX11_times_4 : decode cX11_times 4 = .ok (.istore_n 3, 1) := by decide +kernel
theorem dX11_times_5 : decode cX11_times 5 = .ok (.iload_n 3, 1) := by decide +kernel
theorem dX11_times_6 : decode cX11_times 6 = .ok (.ifCond .lt 47, 3) := by decide +kernel
theorem dX11_times_9 : decode cX11_times 9 = .ok (.iconst 2, 1) := by decide +kernel
theorem dX11_times_10 : decode cX11_times 10 = .ok (.iload_n 2, 1) := by decide +kernel
theorem dX11_times_11 : decode cX11_times 11 = .ok (.imul, 1) := by decide +kernel
theorem dX11_times_12 : decode cX11_times 12 = .ok (.istore_n 2, 1) := by decide +kernel
theorem dX11_times_13 : decode cX11_times 13 = .ok (.iload_n 2, 1) := by decide +kernel
theorem dX11_times_14 : decode cX11_times 14 = .ok (.sipush 255, 3) := by decide +kernel
theorem dX11_times_17 : decode cX11_times 17 = .ok (.if_icmp .le 11, 3) := by decide +kernel
theorem dX11_times_20 : decode cX11_times 20 = .ok (.iload_n 2, 1) := by decide +kernel
theorem dX11_times_21 : decode cX11_times 21 = .ok (.sipush 283, 3) := by decide +kernel
theorem dX11_times_24 : decode cX11_times 24 = .ok (.ixor, 1) := by decide +kernel
theorem dX11_times_25 : decode cX11_times 25 = .ok (.goto 4, 3) := by decide +kernel
theorem dX11_times_28 : decode cX11_times 28 = .ok (.iload_n 2, 1) := by decide +kernel
theorem dX11_times_29 : decode cX11_times 29 = .ok (.istore_n 2, 1) := by decide +kernel
theorem dX11_times_30 : decode cX11_times 30 = .ok (.iload_n 1, 1) := by decide +kernel
theorem dX11_times_31 : decode cX11_times 31 = .ok (.iload_n 3, 1) := by decide +kernel
theorem dX11_times_32 : decode cX11_times 32 = .ok (.ishr, 1) := by decide +kernel
theorem dX11_times_33 : decode cX11_times 33 = .ok (.iconst 1, 1) := by decide +kernel
theorem dX11_times_34 : decode cX11_times 34 = .ok (.iand, 1) := by decide +kernel
theorem dX11_times_35 : decode cX11_times 35 = .ok (.iconst 1, 1) := by decide +kernel
theorem dX11_times_36 : decode cX11_times 36 = .ok (.if_icmp .ne 9, 3) := by decide +kernel
theorem dX11_times_39 : decode cX11_times 39 = .ok (.iload_n 2, 1) := by decide +kernel
theorem dX11_times_40 : decode cX11_times 40 = .ok (.iload_n 0, 1) := by decide +kernel
theorem dX11_times_41 : decode cX11_times 41 = .ok (.ixor, 1) := by decide +kernel
theorem dX11_times_42 : decode cX11_times 42 = .ok (.goto 4, 3) := by decide +kernel
theorem dX11_times_45 : decode cX11_times 45 = .ok (.iload_n 2, 1) := by decide +kernel
theorem dX11_times_46 : decode cX11_times 46 = .ok (.istore_n 2, 1) := by decide +kernel
theorem dX11_times_47 : decode cX11_times 47 = .ok (.iinc 3 (-1), 3) := by decide +kernel
theorem dX11_times_50 : decode cX11_times 50 = .ok (.goto (-45), 3) := by decide +kernel
theorem dX11_times_53 : decode cX11_times 53 = .ok (.iload_n 2, 1) := by decide +kernel
theorem dX11_times_54 : decode cX11_times 54 = .ok (.ireturn, 1) := by decide +kernel
set_option maxRecDepth 20000 in
theorem ggX11_setKey_X11_times : GoodIn wsX11_setKey wsX11_times := goodIn_r _ [7] (by decide +kernel) (by decide +kernel)
set_option maxRecDepth 20000 in
theorem gX11_setKey_X11_times : GoodIn wsX11_setKey (va_wsS RX11 226 yX11_times wsX11_times) := goodIn_app (goodIn_of _ (by decide +kernel)) ggX11_setKey_X11_times
theorem dX11_setKey_0 : decode cX11_setKey 0 = .ok (.aload_n 0, 1) := by decide +kernel
theorem dX11_setKey_1 : decode cX11_setKey 1 = .ok (.iload_n 2, 1) := by decide +kernel
theorem dX11_setKey_2 : decode cX11_setKey 2 = .ok (.iconst 4, 1) := by decide +kernel
theorem dX11_setKey_3 : decode cX11_setKey 3 = .ok (.idiv, 1) := by decide +kernel
theorem dX11_setKey_4 : decode cX11_setKey 4 = .ok (.bipush 6, 2) := by decide +kernel
theorem dX11_setKey_6 : decode cX11_setKey 6 = .ok (.iadd, 1) := by decide +kernel
theorem dX11_setKey_7 : decode cX11_setKey 7 = .ok (.putfield 270, 3) := by decide +kernel
theorem dX11_setKey_10 : decode cX11_setKey 10 = .ok (.iconst 1, 1) := by decide +kernel
theorem dX11_setKey_11 : decode cX11_setKey 11 = .ok (.istore_n 3, 1) := by decide +kernel
theorem dX11_setKey_12 : decode cX11_setKey 12 = .ok (.iconst 0, 1) := by decide +kernel
theorem dX11_setKey_13 : decode cX11_setKey 13 = .ok (.istore 4, 2) := by decide +kernel
theorem dX11_setKey_15 : decode cX11_setKey 15 = .ok (.iload 4, 2) := by decide +kernel
theorem dX11_setKey_17 : decode cX11_setKey 17 = .ok (.iconst 4, 1) := by decide +kernel
theorem dX11_setKey_18 : decode cX11_setKey 18 = .ok (.aload_n 0, 1) := by decide +kernel
theorem dX11_setKey_19 : decode cX11_setKey 19 = .ok (.getfield 270, 3) := by decide +kernel
theorem dX11_setKey_22 : decode cX11_setKey 22 = .ok (.imul, 1) := by decide +kernel
theorem dX11_setKey_23 : decode cX11_setKey 23 = .ok (.iconst 4, 1) := by decide +kernel
theorem dX11_setKey_24 : decode cX11_setKey 24 = .ok (.iadd, 1) := by decide +kernel
theorem dX11_setKey_25 : decode cX11_setKey 25 = .ok (.if_icmp .ge 196, 3) := by decide +kernel
theorem dX11_setKey_28 : decode cX11_setKey 28 = .ok (.iconst 0, 1) := by decide +kernel
theorem dX11_setKey_29 : decode cX11_setKey 29 = .ok (.istore 5, 2) := by decide +kernel
theorem dX11_setKey_31 : decode cX11_setKey 31 = .ok (.iload 5, 2) := by decide +kernel
theorem dX11_setKey_33 : decode cX11_setKey 33 = .ok (.iconst 4, 1) := by decide +kernel
theorem dX11_setKey_34 : decode cX11_setKey 34 = .ok (.if_icmp .ge 158, 3) := by decide +kernel
theorem dX11_setKey_37 : decode cX11_setKey 37 = .ok (.iconst 4, 1) := by decide +kernel
theorem dX11_setKey_38 : decode cX11_setKey 38 = .ok (.iload 4, 2) := by decide +kernel
theorem dX11_setKey_40 : decode cX11_setKey 40 = .ok (.imul, 1) := by decide +kernel
theorem dX11_setKey_41 : decode cX11_setKey 41 = .ok (.iload 5, 2) := by decide +kernel
theorem dX11_setKey_43 : decode cX11_setKey 43 = .ok (.iadd, 1) := by decide +kernel
theorem dX11_setKey_44 : decode cX11_setKey 44 = .ok (.istore 6, 2) := by decide +kernel
theorem dX11_setKey_46 : decode cX11_setKey 46 = .ok (.iload 6, 2) := by decide +kernel
theorem dX11_setKey_48 : decode cX11_setKey 48 = .ok (.iload_n 2, 1) := by decide +kernel
theorem dX11_setKey_49 : decode cX11_setKey 49 = .ok (.if_icmp .ge 17, 3) := by decide +kernel
theorem dX11_setKey_52 : decode cX11_setKey 52 = .ok (.aload_n 0, 1) := by decide +kernel
theorem dX11_setKey_53 : decode cX11_setKey 53 = .ok (.getfield 198, 3) := by decide +kernel
theorem dX11_setKey_56 : decode cX11_setKey 56 = .ok (.iload 6, 2) := by decide +kernel
theorem dX11_setKey_58 : decode cX11_setKey 58 = .ok (.aload_n 1, 1) := by decide +kernel
theorem dX11_setKey_59 : decode cX11_setKey 59 = .ok (.iload 6, 2) := by decide +kernel
theorem dX11_setKey_61 : decode cX11_setKey 61 = .ok (.iaload, 1) := by decide +kernel
theorem dX11_setKey_62 : decode cX11_setKey 62 = .ok (.iastore, 1) := by decide +kernel
theorem dX11_setKey_63 : decode cX11_setKey 63 = .ok (.goto 123, 3) := by decide +kernel
theorem dX11_setKey_66 : decode cX11_setKey 66 = .ok (.iconst 4, 1) := by decide +kernel
theorem dX11_setKey_67 : decode cX11_setKey 67 = .ok (.iload 4, 2) := by decide +kernel
theorem dX11_setKey_69 : decode cX11_setKey 69 = .ok (.imul, 1) := by decide +kernel
theorem dX11_setKey_70 : decode cX11_setKey 70 = .ok (.iload_n 2, 1) := by decide +kernel
theorem dX11_setKey_71 : decode cX11_setKey 71 = .ok (.irem, 1) := by decide +kernel
theorem dX11_setKey_72 : decode cX11_setKey 72 = .ok (.ifCond .ne 7, 3) := by decide +kernel
theorem dX11_setKey_75 : decode cX11_setKey 75 = .ok (.iconst 1, 1) := by decide +kernel
theorem dX11_setKey_76 : decode cX11_setKey 76 = .ok (.goto 4, 3) := by decide +kernel
theorem dX11_setKey_79 : decode cX11_setKey 79 = .ok (.iconst 0, 1) := by decide +kernel
theorem dX11_setKey_80 : decode cX11_setKey 80 = .ok (.istore 7, 2) := by decide +kernel
theorem dX11_setKey_82 : decode cX11_setKey 82 = .ok (.aload_n 0, 1) := by decide +kernel
theorem dX11_setKey_83 : decode cX11_setKey 83 = .ok (.getfield 198, 3) := by decide +kernel
theorem dX11_setKey_86 : decode cX11_setKey 86 = .ok (.iconst 4, 1) := by decide +kernel
theorem dX11_setKey_87 : decode cX11_setKey 87 = .ok (.iload 4, 2) := by decide +kernel
theorem dX11_setKey_89 : decode cX11_setKey 89 = .ok (.imul, 1) := by decide +kernel
theorem dX11_setKey_90 : decode cX11_setKey 90 = .ok (.iconst 4, 1) := by decide +kernel
theorem dX11_setKey_91 : decode cX11_setKey 91 = .ok (.isub, 1) := by decide +kernel
theorem dX11_setKey_92 : decode cX11_setKey 92 = .ok (.iload 7, 2) := by decide +kernel
theorem dX11_setKey_94 : decode cX11_setKey 94 = .ok (.ifCond .eq 12, 3) := by decide +kernel
theorem dX11_setKey_97 : decode cX11_setKey 97 = .ok (.iload 5, 2) := by decide +kernel
theorem dX11_setKey_99 : decode cX11_setKey 99 = .ok (.iconst 1, 1) := by decide +kernel
theorem dX11_setKey_100 : decode cX11_setKey 100 = .ok (.iadd, 1) := by decide +kernel
theorem dX11_setKey_101 : decode cX11_setKey 101 = .ok (.iconst 4, 1) := by decide +kernel
theorem dX11_setKey_102 : decode cX11_setKey 102 = .ok (.irem, 1) := by decide +kernel
theorem dX11_setKey_103 : decode cX11_setKey 103 = .ok (.goto 5, 3) := by decide +kernel
theorem dX11_setKey_106 : decode cX11_setKey 106 = .ok (.iload 5, 2) := by decide +kernel
theorem dX11_setKey_108 : decode cX11_setKey 108 = .ok (.iadd, 1) := by decide +kernel
theorem dX11_setKey_109 : decode cX11_setKey 109 = .ok (.iaload, 1) := by decide +kernel
theorem dX11_setKey_110 : decode cX11_setKey 110 = .ok (.istore 8, 2) := by decide +kernel
theorem dX11_setKey_112 : decode cX11_setKey 112 = .ok (.iload 7, 2) := by decide +kernel
theorem dX11_setKey_114 : decode cX11_setKey 114 = .ok (.ifCond .ne 18, 3) := by decide +kernel
theorem dX11_setKey_117 : decode cX11_setKey 117 = .ok (.iload_n 2, 1) := by decide +kernel
theorem dX11_setKey_118 : decode cX11_setKey 118 = .ok (.bipush 32, 2) := by decide +kernel
theorem dX11_setKey_120 : decode cX11_setKey 120 = .ok (.if_icmp .ne 22, 3) := by decide +kernel
theorem dX11_setKey_123 : decode cX11_setKey 123 = .ok (.iload 4, 2) := by decide +kernel
theorem dX11_setKey_125 : decode cX11_setKey 125 = .ok (.bipush 8, 2) := by decide +kernel
theorem dX11_setKey_127 : decode cX11_setKey 127 = .ok (.irem, 1) := by decide +kernel
theorem dX11_setKey_128 : decode cX11_setKey 128 = .ok (.iconst 4, 1) := by decide +kernel
theorem dX11_setKey_129 : decode cX11_setKey 129 = .ok (.if_icmp .ne 13, 3) := by decide +kernel
theorem dX11_setKey_132 : decode cX11_setKey 132 = .ok (.aload_n 0, 1) := by decide +kernel
theorem dX11_setKey_133 : decode cX11_setKey 133 = .ok (.getfield 192, 3) := by decide +kernel
theorem dX11_setKey_136 : decode cX11_setKey 136 = .ok (.iload 8, 2) := by decide +kernel
theorem dX11_setKey_138 : decode cX11_setKey 138 = .ok (.iaload, 1) := by decide +kernel
theorem dX11_setKey_139 : decode cX11_setKey 139 = .ok (.goto 5, 3) := by decide +kernel
theorem dX11_setKey_142 : decode cX11_setKey 142 = .ok (.iload 8, 2) := by decide +kernel
theorem dX11_setKey_144 : decode cX11_setKey 144 = .ok (.istore 8, 2) := by decide +kernel
theorem dX11_setKey_146 : decode cX11_setKey 146 = .ok (.iload 7, 2) := by decide +kernel
theorem dX11_setKey_148 : decode cX11_setKey 148 = .ok (.ifCond .eq 15, 3) := by decide +kernel
theorem dX11_setKey_151 : decode cX11_setKey 151 = .ok (.iload 5, 2) := by decide +kernel
theorem dX11_setKey_153 : decode cX11_setKey 153 = .ok (.ifCond .ne 10, 3) := by decide +kernel
theorem dX11_setKey_156 : decode cX11_setKey 156 = .ok (.iload 8, 2) := by decide +kernel
theorem dX11_setKey_158 : decode cX11_setKey 158 = .ok (.iload_n 3, 1) := by decide +kernel
theorem dX11_setKey_159 : decode cX11_setKey 159 = .ok (.ixor, 1) := by decide +kernel
theorem dX11_setKey_160 : decode cX11_setKey 160 = .ok (.goto 5, 3) := by decide +kernel
theorem dX11_setKey_163 : decode cX11_setKey 163 = .ok (.iload 8, 2) := by decide +kernel
theorem dX11_setKey_165 : decode cX11_setKey 165 = .ok (.istore 8, 2) := by decide +kernel
theorem dX11_setKey_167 : decode cX11_setKey 167 = .ok (.aload_n 0, 1) := by decide +kernel
theorem dX11_setKey_168 : decode cX11_setKey 168 = .ok (.getfield 198, 3) := by decide +kernel
theorem dX11_setKey_171 : decode cX11_setKey 171 = .ok (.iload 6, 2) := by decide +kernel
theorem dX11_setKey_173 : decode cX11_setKey 173 = .ok (.aload_n 0, 1) := by decide +kernel
theorem dX11_setKey_174 : decode cX11_setKey 174 = .ok (.getfield 198, 3) := by decide +kernel
theorem dX11_setKey_177 : decode cX11_setKey 177 = .ok (.iload 6, 2) := by decide +kernel
theorem dX11_setKey_179 : decode cX11_setKey 179 = .ok (.iload_n 2, 1) := by decide +kernel
theorem dX11_setKey_180 : decode cX11_setKey 180 = .ok (.isub, 1) := by decide +kernel
theorem dX11_setKey_181 : decode cX11_setKey 181 = .ok (.iaload, 1) := by decide +kernel
theorem dX11_setKey_182 : decode cX11_setKey 182 = .ok (.iload 8, 2) := by decide +kernel
theorem dX11_setKey_184 : decode cX11_setKey 184 = .ok (.ixor, 1) := by decide +kernel
theorem dX11_setKey_185 : decode cX11_setKey 185 = .ok (.iastore, 1) := by decide +kernel
theorem dX11_setKey_186 : decode cX11_setKey 186 = .ok (.iinc 5 1, 3) := by decide +kernel
theorem dX11_setKey_189 : decode cX11_setKey 189 = .ok (.goto (-158), 3) := by decide +kernel
theorem dX11_setKey_192 : decode cX11_setKey 192 = .ok (.iconst 4, 1) := by decide +kernel
theorem dX11_setKey_193 : decode cX11_setKey 193 = .ok (.iload 4, 2) := by decide +kernel
theorem dX11_setKey_195 : decode cX11_setKey 195 = .ok (.imul, 1) := by decide +kernel
theorem dX11_setKey_196 : decode cX11_setKey 196 = .ok (.iload_n 2, 1) := by decide +kernel
theorem dX11_setKey_197 : decode cX11_setKey 197 = .ok (.if_icmp .lt 18, 3) := by decide +kernel
theorem dX11_setKey_200 : decode cX11_setKey 200 = .ok (.iconst 4, 1) := by decide +kernel
theorem dX11_setKey_201 : decode cX11_setKey 201 = .ok (.iload 4, 2) := by decide +kernel
theorem dX11_setKey_203 : decode cX11_setKey 203 = .ok (.imul, 1) := by decide +kernel
theorem dX11_setKey_204 : decode cX11_setKey 204 = .ok (.iload_n 2, 1) := by decide +kernel
theorem dX11_setKey_205 : decode cX11_setKey 205 = .ok (.irem, 1) := by decide +kernel
theorem dX11_setKey_206 : decode cX11_setKey 206 = .ok (.ifCond .ne 9, 3) := by decide +kernel
theorem dX11_setKey_209 : decode cX11_setKey 209 = .ok (.iload_n 3, 1) := by decide +kernel
theorem dX11_setKey_210 : decode cX11_setKey 210 = .ok (.iconst 2, 1) := by decide +kernel
theorem dX11_setKey_211 : decode cX11_setKey 211 = .ok (.invokestatic 226, 3) := by decide +kernel
theorem dX11_setKey_214 : decode cX11_setKey 214 = .ok (.istore_n 3, 1) := by decide +kernel
theorem dX11_setKey_215 : decode cX11_setKey 215 = .ok (.iinc 4 1, 3) := by decide +kernel
theorem dX11_setKey_218 : decode cX11_setKey 218 = .ok (.goto (-203), 3) := by decide +kernel
theorem dX11_setKey_221 : decode cX11_setKey 221 = .ok (.return_, 1) := by decide +kernel
theorem dX11_addRound_0 : decode cX11_addRound 0 = .ok (.iconst 0, 1) := by decide +kernel
theorem dX11_addRound_1 : decode cX11_addRound 1 = .ok (.istore_n 2, 1) := by decide +kernel
theorem dX11_addRound_2 : decode cX11_addRound 2 = .ok (.iload_n 2, 1) := by decide +kernel
theorem dX11_addRound_3 : decode cX11_addRound 3 = .ok (.bipush 16, 2) := by decide +kernel
theorem dX11_addRound_5 : decode cX11_addRound 5 = .ok (.if_icmp .ge 33, 3) := by decide +kernel
theorem dX11_addRound_8 : decode cX11_addRound 8 = .ok (.aload_n 0, 1) := by decide +kernel
theorem dX11_addRound_9 : decode cX11_addRound 9 = .ok (.getfield 201, 3) := by decide +kernel
theorem dX11_addRound_12 : decode cX11_addRound 12 = .ok (.iload_n 2, 1) := by decide +kernel
theorem dX11_addRound_13 : decode cX11_addRound 13 = .ok (.aload_n 0, 1) := by decide +kernel
theorem dX11_addRound_14 : decode cX11_addRound 14 = .ok (.getfield 201, 3) := by decide +kernel
theorem dX11_addRound_17 : decode cX11_addRound 17 = .ok (.iload_n 2, 1) := by decide +kernel
theorem dX11_addRound_18 : decode cX11_addRound 18 = .ok (.iaload, 1) := by decide +kernel
theorem dX11_addRound_19 : decode cX11_addRound 19 = .ok (.aload_n 0, 1) := by decide +kernel
theorem dX11_addRound_20 : decode cX11_addRound 20 = .ok (.getfield 198, 3) := by decide +kernel
theorem dX11_addRound_23 : decode cX11_addRound 23 = .ok (.bipush 16, 2) := by decide +kernel
theorem dX11_addRound_25 : decode cX11_addRound 25 = .ok (.iload_n 1, 1) := by decide +kernel
theorem dX11_addRound_26 : decode cX11_addRound 26 = .ok (.imul, 1) := by decide +kernel
theorem dX11_addRound_27 : decode cX11_addRound 27 = .ok (.iload_n 2, 1) := by decide +kernel
theorem dX11_addRound_28 : decode cX11_addRound 28 = .ok (.iadd, 1) := by decide +kernel
theorem dX11_addRound_29 : decode cX11_addRound 29 = .ok (.iaload, 1) := by decide +kernel
theorem dX11_addRound_30 : decode cX11_addRound 30 = .ok (.ixor, 1) := by decide +kernel
theorem dX11_addRound_31 : decode cX11_addRound 31 = .ok (.iastore, 1) := by decide +kernel
theorem dX11_addRound_32 : decode cX11_addRound 32 = .ok (.iinc 2 1, 3) := by decide +kernel
theorem dX11_addRound_35 : decode cX11_addRound 35 = .ok (.goto (-33), 3) := by decide +kernel
theorem dX11_addRound_38 : decode cX11_addRound 38 = .ok (.return_, 1) := by decide +kernel
set_option maxRecDepth 20000 in
theorem ggX11_mix_X11_times : GoodIn wsX11_mix wsX11_times := goodIn_r _ [6] (by decide +kernel) (by decide +kernel)
set_option maxRecDepth 20000 in
theorem gX11_mix_X11_times : GoodIn wsX11_mix (va_wsS RX11 226 yX11_times wsX11_times) := goodIn_app (goodIn_of _ (by decide +kernel)) ggX11_mix_X11_times
theorem dX11_mix_0 : decode cX11_mix 0 = .ok (.iconst 0, 1) := by decide +kernel
theorem dX11_mix_1 : decode cX11_mix 1 = .ok (.istore 5, 2) := by decide +kernel
theorem dX11_mix_3 : decode cX11_mix 3 = .ok (.iload 5, 2) := by decide +kernel
theorem dX11_mix_5 : decode cX11_mix 5 = .ok (.bipush 16, 2) := by decide +kernel
theorem dX11_mix_7 : decode cX11_mix 7 = .ok (.if_icmp .ge 94, 3) := by decide +kernel
theorem dX11_mix_10 : decode cX11_mix 10 = .ok (.iload 5, 2) := by decide +kernel
theorem dX11_mix_12 : decode cX11_mix 12 = .ok (.iload 5, 2) := by decide +kernel
theorem dX11_mix_14 : decode cX11_mix 14 = .ok (.iconst 4, 1) := by decide +kernel
theorem dX11_mix_15 : decode cX11_mix 15 = .ok (.irem, 1) := by decide +kernel
theorem dX11_mix_16 : decode cX11_mix 16 = .ok (.isub, 1) := by decide +kernel
theorem dX11_mix_17 : decode cX11_mix 17 = .ok (.istore 6, 2) := by decide +kernel
theorem dX11_mix_19 : decode cX11_mix 19 = .ok (.aload_n 0, 1) := by decide +kernel
theorem dX11_mix_20 : decode cX11_mix 20 = .ok (.getfield 204, 3) := by decide +kernel
theorem dX11_mix_23 : decode cX11_mix 23 = .ok (.iload 5, 2) := by decide +kernel
theorem dX11_mix_25 : decode cX11_mix 25 = .ok (.iload_n 1, 1) := by decide +kernel
theorem dX11_mix_26 : decode cX11_mix 26 = .ok (.aload_n 0, 1) := by decide +kernel
theorem dX11_mix_27 : decode cX11_mix 27 = .ok (.getfield 201, 3) := by decide +kernel
theorem dX11_mix_30 : decode cX11_mix 30 = .ok (.iload 5, 2) := by decide +kernel
theorem dX11_mix_32 : decode cX11_mix 32 = .ok (.iaload, 1) := by decide +kernel
theorem dX11_mix_33 : decode cX11_mix 33 = .ok (.invokestatic 226, 3) := by decide +kernel
theorem dX11_mix_36 : decode cX11_mix 36 = .ok (.iload_n 2, 1) := by decide +kernel
theorem dX11_mix_37 : decode cX11_mix 37 = .ok (.aload_n 0, 1) := by decide +kernel
theorem dX11_mix_38 : decode cX11_mix 38 = .ok (.getfield 201, 3) := by decide +kernel
theorem dX11_mix_41 : decode cX11_mix 41 = .ok (.iload 6, 2) := by decide +kernel
theorem dX11_mix_43 : decode cX11_mix 43 = .ok (.iload 5, 2) := by decide +kernel
theorem dX11_mix_45 : decode cX11_mix 45 = .ok (.iconst 1, 1) := by decide +kernel
theorem dX11_mix_46 : decode cX11_mix 46 = .ok (.iadd, 1) := by decide +kernel
theorem dX11_mix_47 : decode cX11_mix 47 = .ok (.iconst 4, 1) := by decide +kernel
theorem dX11_mix_48 : decode cX11_mix 48 = .ok (.irem, 1) := by decide +kernel
theorem dX11_mix_49 : decode cX11_mix 49 = .ok (.iadd, 1) := by decide +kernel
theorem dX11_mix_50 : decode cX11_mix 50 = .ok (.iaload, 1) := by decide +kernel
theorem dX11_mix_51 : decode cX11_mix 51 = .ok (.invokestatic 226, 3) := by decide +kernel
theorem dX11_mix_54 : decode cX11_mix 54 = .ok (.ixor, 1) := by decide +kernel
theorem dX11_mix_55 : decode cX11_mix 55 = .ok (.iload_n 3, 1) := by decide +kernel
theorem dX11_mix_56 : decode cX11_mix 56 = .ok (.aload_n 0, 1) := by decide +kernel
theorem dX11_mix_57 : decode cX11_mix 57 = .ok (.getfield 201, 3) := by decide +kernel
theorem dX11_mix_60 : decode cX11_mix 60 = .ok (.iload 6, 2) := by decide +kernel
theorem dX11_mix_62 : decode cX11_mix 62 = .ok (.iload 5, 2) := by decide +kernel
theorem dX11_mix_64 : decode cX11_mix 64 = .ok (.iconst 2, 1) := by decide +kernel
theorem dX11_mix_65 : decode cX11_mix 65 = .ok (.iadd, 1) := by decide +kernel
theorem dX11_mix_66 : decode cX11_mix 66 = .ok (.iconst 4, 1) := by decide +kernel
theorem dX11_mix_67 : decode cX11_mix 67 = .ok (.irem, 1) := by decide +kernel
theorem dX11_mix_68 : decode cX11_mix 68 = .ok (.iadd, 1) := by decide +kernel
theorem dX11_mix_69 : decode cX11_mix 69 = .ok (.iaload, 1) := by decide +kernel
theorem dX11_mix_70 : decode cX11_mix 70 = .ok (.invokestatic 226, 3) := by decide +kernel
theorem dX11_mix_73 : decode cX11_mix 73 = .ok (.ixor, 1) := by decide +kernel
theorem dX11_mix_74 : decode cX11_mix 74 = .ok (.iload 4, 2) := by decide +kernel
theorem dX11_mix_76 : decode cX11_mix 76 = .ok (.aload_n 0, 1) := by decide +kernel
theorem dX11_mix_77 : decode cX11_mix 77 = .ok (.getfield 201, 3) := by decide +kernel
theorem dX11_mix_80 : decode cX11_mix 80 = .ok (.iload 6, 2) := by decide +kernel
theorem dX11_mix_82 : decode cX11_mix 82 = .ok (.iload 5, 2) := by decide +kernel
theorem dX11_mix_84 : decode cX11_mix 84 = .ok (.iconst 3, 1) := by decide +kernel
theorem dX11_mix_85 : decode cX11_mix 85 = .ok (.iadd, 1) := by decide +kernel
theorem dX11_mix_86 : decode cX11_mix 86 = .ok (.iconst 4, 1) := by decide +kernel
theorem dX11_mix_87 : decode cX11_mix 87 = .ok (.irem, 1) := by decide +kernel
theorem dX11_mix_88 : decode cX11_mix 88 = .ok (.iadd, 1) := by decide +kernel
theorem dX11_mix_89 : decode cX11_mix 89 = .ok (.iaload, 1) := by decide +kernel
theorem dX11_mix_90 : decode cX11_mix 90 = .ok (.invokestatic 226, 3) := by decide +kernel
theorem dX11_mix_93 : decode cX11_mix 93 = .ok (.ixor, 1) := by decide +kernel
theorem dX11_mix_94 : decode cX11_mix 94 = .ok (.iastore, 1) := by decide +kernel
theorem dX11_mix_95 : decode cX11_mix 95 = .ok (.iinc 5 1, 3) := by decide +kernel
theorem dX11_mix_98 : decode cX11_mix 98 = .ok (.goto (-95), 3) := by decide +kernel
theorem dX11_mix_101 : decode cX11_mix 101 = .ok (.iconst 0, 1) := by decide +kernel
theorem dX11_mix_102 : decode cX11_mix 102 = .ok (.istore 5, 2) := by decide +kernel
theorem dX11_mix_104 : decode cX11_mix 104 = .ok (.iload 5, 2) := by decide +kernel
theorem dX11_mix_106 : decode cX11_mix 106 = .ok (.bipush 16, 2) := by decide +kernel
theorem dX11_mix_108 : decode cX11_mix 108 = .ok (.if_icmp .ge 23, 3) := by decide +kernel
theorem dX11_mix_111 : decode cX11_mix 111 = .ok (.aload_n 0, 1) := by decide +kernel
theorem dX11_mix_112 : decode cX11_mix 112 = .ok (.getfield 201, 3) := by decide +kernel
theorem dX11_mix_115 : decode cX11_mix 115 = .ok (.iload 5, 2) := by decide +kernel
theorem dX11_mix_117 : decode cX11_mix 117 = .ok (.aload_n 0, 1) := by decide +kernel
theorem dX11_mix_118 : decode cX11_mix 118 = .ok (.getfield 204, 3) := by decide +kernel
theorem dX11_mix_121 : decode cX11_mix 121 = .ok (.iload 5, 2) := by decide +kernel
theorem dX11_mix_123 : decode cX11_mix 123 = .ok (.iaload, 1) := by decide +kernel
theorem dX11_mix_124 : decode cX11_mix 124 = .ok (.iastore, 1) := by decide +kernel
theorem dX11_mix_125 : decode cX11_mix 125 = .ok (.iinc 5 1, 3) := by decide +kernel
theorem dX11_mix_128 : decode cX11_mix 128 = .ok (.goto (-24), 3) := by decide +kernel
theorem dX11_mix_131 : decode cX11_mix 131 = .ok (.return_, 1) := by decide +kernel
theorem dX11_substitute_0 : decode cX11_substitute 0 = .ok (.iconst 0, 1) := by decide +kernel
theorem dX11_substitute_1 : decode cX11_substitute 1 = .ok (.istore_n 2, 1) := by decide +kernel
theorem dX11_substitute_2 : decode cX11_substitute 2 = .ok (.iload_n 2, 1) := by decide +kernel
theorem dX11_substitute_3 : decode cX11_substitute 3 = .ok (.iconst 4, 1) := by decide +kernel
theorem dX11_substitute_4 : decode cX11_substitute 4 = .ok (.if_icmp .ge 92, 3) := by decide +kernel
theorem dX11_substitute_7 : decode cX11_substitute 7 = .ok (.iconst 0, 1) := by decide +kernel
theorem dX11_substitute_8 : decode cX11_substitute 8 = .ok (.istore_n 3, 1) := by decide +kernel
theorem dX11_substitute_9 : decode cX11_substitute 9 = .ok (.iload_n 3, 1) := by decide +kernel
theorem dX11_substitute_10 : decode cX11_substitute 10 = .ok (.iconst 4, 1) := by decide +kernel
theorem dX11_substitute_11 : decode cX11_substitute 11 = .ok (.if_icmp .ge 79, 3) := by decide +kernel
theorem dX11_substitute_14 : decode cX11_substitute 14 = .ok (.iload_n 1, 1) := by decide +kernel
theorem dX11_substitute_15 : decode cX11_substitute 15 = .ok (.ifCond .eq 13, 3) := by decide +kernel
theorem dX11_substitute_18 : decode cX11_substitute 18 = .ok (.iload_n 2, 1) := by decide +kernel
theorem dX11_substitute_19 : decode cX11_substitute 19 = .ok (.iconst 4, 1) := by decide +kernel
theorem dX11_substitute_20 : decode cX11_substitute 20 = .ok (.iadd, 1) := by decide +kernel
theorem dX11_substitute_21 : decode cX11_substitute 21 = .ok (.iload_n 3, 1) := by decide +kernel
theorem dX11_substitute_22 : decode cX11_substitute 22 = .ok (.isub, 1) := by decide +kernel
theorem dX11_substitute_23 : decode cX11_substitute 23 = .ok (.iconst 4, 1) := by decide +kernel
theorem dX11_substitute_24 : decode cX11_substitute 24 = .ok (.irem, 1) := by decide +kernel
theorem dX11_substitute_25 : decode cX11_substitute 25 = .ok (.goto 8, 3) := by decide +kernel
theorem dX11_substitute_28 : decode cX11_substitute 28 = .ok (.iload_n 2, 1) := by decide +kernel
theorem dX11_substitute_29 : decode cX11_substitute 29 = .ok (.iload_n 3, 1) := by decide +kernel
theorem dX11_substitute_30 : decode cX11_substitute 30 = .ok (.iadd, 1) := by decide +kernel
theorem dX11_substitute_31 : decode cX11_substitute 31 = .ok (.iconst 4, 1) := by decide +kernel
theorem dX11_substitute_32 : decode cX11_substitute 32 = .ok (.irem, 1) := by decide +kernel
theorem dX11_substitute_33 : decode cX11_substitute 33 = .ok (.istore 4, 2) := by decide +kernel
theorem dX11_substitute_35 : decode cX11_substitute 35 = .ok (.aload_n 0, 1) := by decide +kernel
theorem dX11_substitute_36 : decode cX11_substitute 36 = .ok (.getfield 204, 3) := by decide +kernel
theorem dX11_substitute_39 : decode cX11_substitute 39 = .ok (.iconst 4, 1) := by decide +kernel
theorem dX11_substitute_40 : decode cX11_substitute 40 = .ok (.iload_n 2, 1) := by decide +kernel
theorem dX11_substitute_41 : decode cX11_substitute 41 = .ok (.imul, 1) := by decide +kernel
theorem dX11_substitute_42 : decode cX11_substitute 42 = .ok (.iload_n 3, 1) := by decide +kernel
theorem dX11_substitute_43 : decode cX11_substitute 43 = .ok (.iadd, 1) := by decide +kernel
theorem dX11_substitute_44 : decode cX11_substitute 44 = .ok (.iload_n 1, 1) := by decide +kernel
theorem dX11_substitute_45 : decode cX11_substitute 45 = .ok (.ifCond .eq 22, 3) := by decide +kernel
theorem dX11_substitute_48 : decode cX11_substitute 48 = .ok (.aload_n 0, 1) := by decide +kernel
theorem dX11_substitute_49 : decode cX11_substitute 49 = .ok (.getfield 195, 3) := by decide +kernel
theorem dX11_substitute_52 : decode cX11_substitute 52 = .ok (.aload_n 0, 1) := by decide +kernel
theorem dX11_substitute_53 : decode cX11_substitute 53 = .ok (.getfield 201, 3) := by decide +kernel
theorem dX11_substitute_56 : decode cX11_substitute 56 = .ok (.iconst 4, 1) := by decide +kernel
theorem dX11_substitute_57 : decode cX11_substitute 57 = .ok (.iload 4, 2) := by decide +kernel
theorem dX11_substitute_59 : decode cX11_substitute 59 = .ok (.imul, 1) := by decide +kernel
theorem dX11_substitute_60 : decode cX11_substitute 60 = .ok (.iload_n 3, 1) := by decide +kernel
theorem dX11_substitute_61 : decode cX11_substitute 61 = .ok (.iadd, 1) := by decide +kernel
theorem dX11_substitute_62 : decode cX11_substitute 62 = .ok (.iaload, 1) := by decide +kernel
theorem dX11_substitute_63 : decode cX11_substitute 63 = .ok (.iaload, 1) := by decide +kernel
theorem dX11_substitute_64 : decode cX11_substitute 64 = .ok (.goto 19, 3) := by decide +kernel
theorem dX11_substitute_67 : decode cX11_substitute 67 = .ok (.aload_n 0, 1) := by decide +kernel
theorem dX11_substitute_68 : decode cX11_substitute 68 = .ok (.getfield 192, 3) := by decide +kernel
theorem dX11_substitute_71 : decode cX11_substitute 71 = .ok (.aload_n 0, 1) := by decide +kernel
theorem dX11_substitute_72 : decode cX11_substitute 72 = .ok (.getfield 201, 3) := by decide +kernel
theorem dX11_substitute_75 : decode cX11_substitute 75 = .ok (.iconst 4, 1) := by decide +kernel
theorem dX11_substitute_76 : decode cX11_substitute 76 = .ok (.iload 4, 2) := by decide +kernel
theorem dX11_substitute_78 : decode cX11_substitute 78 = .ok (.imul, 1) := by decide +kernel
theorem dX11_substitute_79 : decode cX11_substitute 79 = .ok (.iload_n 3, 1) := by decide +kernel
theorem dX11_substitute_80 : decode cX11_substitute 80 = .ok (.iadd, 1) := by decide +kernel
theorem dX11_substitute_81 : decode cX11_substitute 81 = .ok (.iaload, 1) := by decide +kernel
theorem dX11_substitute_82 : decode cX11_substitute 82 = .ok (.iaload, 1) := by decide +kernel
theorem dX11_substitute_83 : decode cX11_substitute 83 = .ok (.iastore, 1) := by decide +kernel
theorem dX11_substitute_84 : decode cX11_substitute 84 = .ok (.iinc 3 1, 3) := by decide +kernel
theorem dX11_substitute_87 : decode cX11_substitute 87 = .ok (.goto (-78), 3) := by decide +kernel
theorem dX11_substitute_90 : decode cX11_substitute 90 = .ok (.iinc 2 1, 3) := by decide +kernel
theorem dX11_substitute_93 : decode cX11_substitute 93 = .ok (.goto (-91), 3) := by decide +kernel
theorem dX11_substitute_96 : decode cX11_substitute 96 = .ok (.iconst 0, 1) := by decide +kernel
theorem dX11_substitute_97 : decode cX11_substitute 97 = .ok (.istore_n 2, 1) := by decide +kernel
theorem dX11_substitute_98 : decode cX11_substitute 98 = .ok (.iload_n 2, 1) := by decide +kernel
theorem dX11_substitute_99 : decode cX11_substitute 99 = .ok (.bipush 16, 2) := by decide +kernel
theorem dX11_substitute_101 : decode cX11_substitute 101 = .ok (.if_icmp .ge 21, 3) := by decide +kernel
theorem dX11_substitute_104 : decode cX11_substitute 104 = .ok (.aload_n 0, 1) := by decide +kernel
theorem dX11_substitute_105 : decode cX11_substitute 105 = .ok (.getfield 201, 3) := by decide +kernel
theorem dX11_substitute_108 : decode cX11_substitute 108 = .ok (.iload_n 2, 1) := by decide +kernel
theorem dX11_substitute_109 : decode cX11_substitute 109 = .ok (.aload_n 0, 1) := by decide +kernel
theorem dX11_substitute_110 : decode cX11_substitute 110 = .ok (.getfield 204, 3) := by decide +kernel
theorem dX11_substitute_113 : decode cX11_substitute 113 = .ok (.iload_n 2, 1) := by decide +kernel
theorem dX11_substitute_114 : decode cX11_substitute 114 = .ok (.iaload, 1) := by decide +kernel
theorem dX11_substitute_115 : decode cX11_substitute 115 = .ok (.iastore, 1) := by decide +kernel
theorem dX11_substitute_116 : decode cX11_substitute 116 = .ok (.iinc 2 1, 3) := by decide +kernel
theorem dX11_substitute_119 : decode cX11_substitute 119 = .ok (.goto (-21), 3) := by decide +kernel
theorem dX11_substitute_122 : decode cX11_substitute 122 = .ok (.return_, 1) := by decide +kernel
set_option maxRecDepth 20000 in
theorem ggX11_block_X11_addRound : GoodIn wsX11_block wsX11_addRound := goodIn_ca (goodIn_r _ [7, 1, 8, 23, 24, 25, 26, 27, 28, 29, 30, 31, 32, 33, 34, 35, 36, 37, 38, 39, 40, 41, 42, 43, 44, 45, 46, 47, 48, 49, 50, 51, 52, 53, 54, 55, 56, 57, 58, 59, 60, 61, 62, 63, 64, 65, 66, 67] (by decide +kernel) (by decide +kernel)) (goodIn_sub (fun _ h => List.mem_cons_of_mem _ (List.mem_append_right _ h)) (by decide +kernel))
set_option maxRecDepth 20000 in
theorem gX11_block_X11_addRound : GoodIn wsX11_block (wsV RX11 273 RX11 yX11_addRound wsX11_addRound) := goodIn_app (goodIn_of _ (by decide +kernel)) ggX11_block_X11_addRound
set_option maxRecDepth 20000 in
theorem ggX11_block_X11_mix : GoodIn wsX11_block wsX11_mix := goodIn_ca (goodIn_r _ [12, 13, 1, 14, 15, 6, 16, 23, 24, 25, 26, 27, 28, 29, 30, 31, 32, 33, 34, 35, 36, 37, 38, 39, 40, 41, 42, 43, 44, 45, 46, 47, 48, 49, 50, 51, 52, 53, 54, 55, 56, 57, 58, 59, 60, 61, 62, 63, 64, 65, 66, 67] (by decide +kernel) (by decide +kernel)) (goodIn_sub (fun _ h => List.mem_cons_of_mem _ (List.mem_append_right _ h)) (by decide +kernel))
set_option maxRecDepth 20000 in
theorem gX11_block_X11_mix : GoodIn wsX11_block (wsV RX11 276 RX11 yX11_mix wsX11_mix) := goodIn_app (goodIn_of _ (by decide +kernel)) ggX11_block_X11_mix
set_option maxRecDepth 20000 in
theorem ggX11_block_X11_substitute : GoodIn wsX11_block wsX11_substitute := goodIn_ca (goodIn_r _ [20, 13, 21, 1, 22, 23, 24, 25, 26, 27, 28, 29, 30, 31, 32, 33, 34, 35, 36, 37, 38, 39, 40, 41, 42, 43, 44, 45, 46, 47, 48, 49, 50, 51, 52, 53, 54, 55, 56, 57, 58, 59, 60, 61, 62, 63, 64, 65, 66, 67] (by decide +kernel) (by decide +kernel)) (goodIn_sub (fun _ h => List.mem_cons_of_mem _ (List.mem_append_right _ h)) (by decide +kernel))
set_option maxRecDepth 20000 in
theorem gX11_block_X11_substitute : GoodIn wsX11_block (wsV RX11 280 RX11 yX11_substitute wsX11_substitute) := goodIn_app (goodIn_of _ (by decide +kernel)) ggX11_block_X11_substitute
theorem dX11_block_0 : decode cX11_block 0 = .ok (.iconst 0, 1) := by decide +kernel
theorem dX11_block_1 : decode cX11_block 1 = .ok (.istore 4, 2) := by decide +kernel
theorem dX11_block_3 : decode cX11_block 3 = .ok (.iload 4, 2) := by decide +kernel
theorem dX11_block_5 : decode cX11_block 5 = .ok (.bipush 16, 2) := by decide +kernel
theorem dX11_block_7 : decode cX11_block 7 = .ok (.if_icmp .ge 22, 3) := by decide +kernel
theorem dX11_block_10 : decode cX11_block 10 = .ok (.aload_n 0, 1) := by decide +kernel
theorem dX11_block_11 : decode cX11_block 11 = .ok (.getfield 201, 3) := by decide +kernel
theorem dX11_block_14 : decode cX11_block 14 = .ok (.iload 4, 2) := by decide +kernel
theorem dX11_block_16 : decode cX11_block 16 = .ok (.aload_n 1, 1) := by decide +kernel
theorem dX11_block_17 : decode cX11_block 17 = .ok (.iload_n 2, 1) := by decide +kernel
theorem dX11_block_18 : decode cX11_block 18 = .ok (.iload 4, 2) := by decide +kernel
theorem dX11_block_20 : decode cX11_block 20 = .ok (.iadd, 1) := by decide +kernel
theorem dX11_block_21 : decode cX11_block 21 = .ok (.iaload, 1) := by decide +kernel
theorem dX11_block_22 : decode cX11_block 22 = .ok (.iastore, 1) := by decide +kernel
theorem dX11_block_23 : decode cX11_block 23 = .ok (.iinc 4 1, 3) := by decide +kernel
theorem dX11_block_26 : decode cX11_block 26 = .ok (.goto (-23), 3) := by decide +kernel
theorem dX11_block_29 : decode cX11_block 29 = .ok (.iload_n 3, 1) := by decide +kernel
theorem dX11_block_30 : decode cX11_block 30 = .ok (.ifCond .eq 60, 3) := by decide +kernel
theorem dX11_block_33 : decode cX11_block 33 = .ok (.aload_n 0, 1) := by decide +kernel
theorem dX11_block_34 : decode cX11_block 34 = .ok (.getfield 270, 3) := by decide +kernel
theorem dX11_block_37 : decode cX11_block 37 = .ok (.istore 4, 2) := by decide +kernel
theorem dX11_block_39 : decode cX11_block 39 = .ok (.iload 4, 2) := by decide +kernel
theorem dX11_block_41 : decode cX11_block 41 = .ok (.ifCond .le 41, 3) := by decide +kernel
theorem dX11_block_44 : decode cX11_block 44 = .ok (.aload_n 0, 1) := by decide +kernel
theorem dX11_block_45 : decode cX11_block 45 = .ok (.iload 4, 2) := by decide +kernel
theorem dX11_block_47 : decode cX11_block 47 = .ok (.invokevirtual 273, 3) := by decide +kernel
theorem dX11_block_50 : decode cX11_block 50 = .ok (.iload 4, 2) := by decide +kernel
theorem dX11_block_52 : decode cX11_block 52 = .ok (.aload_n 0, 1) := by decide +kernel
theorem dX11_block_53 : decode cX11_block 53 = .ok (.getfield 270, 3) := by decide +kernel
theorem dX11_block_56 : decode cX11_block 56 = .ok (.if_icmp .ge 15, 3) := by decide +kernel
theorem dX11_block_59 : decode cX11_block 59 = .ok (.aload_n 0, 1) := by decide +kernel
theorem dX11_block_60 : decode cX11_block 60 = .ok (.bipush 14, 2) := by decide +kernel
theorem dX11_block_62 : decode cX11_block 62 = .ok (.bipush 11, 2) := by decide +kernel
theorem dX11_block_64 : decode cX11_block 64 = .ok (.bipush 13, 2) := by decide +kernel
theorem dX11_block_66 : decode cX11_block 66 = .ok (.bipush 9, 2) := by decide +kernel
theorem dX11_block_68 : decode cX11_block 68 = .ok (.invokevirtual 276, 3) := by decide +kernel
theorem dX11_block_71 : decode cX11_block 71 = .ok (.aload_n 0, 1) := by decide +kernel
theorem dX11_block_72 : decode cX11_block 72 = .ok (.iconst 1, 1) := by decide +kernel
theorem dX11_block_73 : decode cX11_block 73 = .ok (.invokevirtual 280, 3) := by decide +kernel
theorem dX11_block_76 : decode cX11_block 76 = .ok (.iinc 4 (-1), 3) := by decide +kernel
theorem dX11_block_79 : decode cX11_block 79 = .ok (.goto (-40), 3) := by decide +kernel
theorem dX11_block_82 : decode cX11_block 82 = .ok (.aload_n 0, 1) := by decide +kernel
theorem dX11_block_83 : decode cX11_block 83 = .ok (.iconst 0, 1) := by decide +kernel
theorem dX11_block_84 : decode cX11_block 84 = .ok (.invokevirtual 273, 3) := by decide +kernel
theorem dX11_block_87 : decode cX11_block 87 = .ok (.goto 54, 3) := by decide +kernel
theorem dX11_block_90 : decode cX11_block 90 = .ok (.aload_n 0, 1) := by decide +kernel
theorem dX11_block_91 : decode cX11_block 91 = .ok (.iconst 0, 1) := by decide +kernel
theorem dX11_block_92 : decode cX11_block 92 = .ok (.invokevirtual 273, 3) := by decide +kernel
theorem dX11_block_95 : decode cX11_block 95 = .ok (.iconst 1, 1) := by decide +kernel
theorem dX11_block_96 : decode cX11_block 96 = .ok (.istore 4, 2) := by decide +kernel
theorem dX11_block_98 : decode cX11_block 98 = .ok (.iload 4, 2) := by decide +kernel
theorem dX11_block_100 : decode cX11_block 100 = .ok (.aload_n 0, 1) := by decide +kernel
theorem dX11_block_101 : decode cX11_block 101 = .ok (.getfield 270, 3) := by decide +kernel
theorem dX11_block_104 : decode cX11_block 104 = .ok (.if_icmp .gt 37, 3) := by decide +kernel
theorem dX11_block_107 : decode cX11_block 107 = .ok (.aload_n 0, 1) := by decide +kernel
theorem dX11_block_108 : decode cX11_block 108 = .ok (.iconst 0, 1) := by decide +kernel
theorem dX11_block_109 : decode cX11_block 109 = .ok (.invokevirtual 280, 3) := by decide +kernel
theorem dX11_block_112 : decode cX11_block 112 = .ok (.iload 4, 2) := by decide +kernel
theorem dX11_block_114 : decode cX11_block 114 = .ok (.aload_n 0, 1) := by decide +kernel
theorem dX11_block_115 : decode cX11_block 115 = .ok (.getfield 270, 3) := by decide +kernel
theorem dX11_block_118 : decode cX11_block 118 = .ok (.if_icmp .ge 11, 3) := by decide +kernel
theorem dX11_block_121 : decode cX11_block 121 = .ok (.aload_n 0, 1) := by decide +kernel
theorem dX11_block_122 : decode cX11_block 122 = .ok (.iconst 2, 1) := by decide +kernel
theorem dX11_block_123 : decode cX11_block 123 = .ok (.iconst 3, 1) := by decide +kernel
theorem dX11_block_124 : decode cX11_block 124 = .ok (.iconst 1, 1) := by decide +kernel
theorem dX11_block_125 : decode cX11_block 125 = .ok (.iconst 1, 1) := by decide +kernel
theorem dX11_block_126 : decode cX11_block 126 = .ok (.invokevirtual 276, 3) := by decide +kernel
theorem dX11_block_129 : decode cX11_block 129 = .ok (.aload_n 0, 1) := by decide +kernel
theorem dX11_block_130 : decode cX11_block 130 = .ok (.iload 4, 2) := by decide +kernel
theorem dX11_block_132 : decode cX11_block 132 = .ok (.invokevirtual 273, 3) := by decide +kernel
theorem dX11_block_135 : decode cX11_block 135 = .ok (.iinc 4 1, 3) := by decide +kernel
theorem dX11_block_138 : decode cX11_block 138 = .ok (.goto (-40), 3) := by decide +kernel
theorem dX11_block_141 : decode cX11_block 141 = .ok (.iconst 0, 1) := by decide +kernel
theorem dX11_block_142 : decode cX11_block 142 = .ok (.istore 4, 2) := by decide +kernel
theorem dX11_block_144 : decode cX11_block 144 = .ok (.iload 4, 2) := by decide +kernel
theorem dX11_block_146 : decode cX11_block 146 = .ok (.bipush 16, 2) := by decide +kernel
theorem dX11_block_148 : decode cX11_block 148 = .ok (.if_icmp .ge 22, 3) := by decide +kernel
theorem dX11_block_151 : decode cX11_block 151 = .ok (.aload_n 1, 1) := by decide +kernel
theorem dX11_block_152 : decode cX11_block 152 = .ok (.iload_n 2, 1) := by decide +kernel
theorem dX11_block_153 : decode cX11_block 153 = .ok (.iload 4, 2) := by decide +kernel
theorem dX11_block_155 : decode cX11_block 155 = .ok (.iadd, 1) := by decide +kernel
theorem dX11_block_156 : decode cX11_block 156 = .ok (.aload_n 0, 1) := by decide +kernel
theorem dX11_block_157 : decode cX11_block 157 = .ok (.getfield 201, 3) := by decide +kernel
theorem dX11_block_160 : decode cX11_block 160 = .ok (.iload 4, 2) := by decide +kernel
theorem dX11_block_162 : decode cX11_block 162 = .ok (.iaload, 1) := by decide +kernel
theorem dX11_block_163 : decode cX11_block 163 = .ok (.iastore, 1) := by decide +kernel
theorem dX11_block_164 : decode cX11_block 164 = .ok (.iinc 4 1, 3) := by decide +kernel
theorem dX11_block_167 : decode cX11_block 167 = .ok (.goto (-23), 3) := by decide +kernel
theorem dX11_block_170 : decode cX11_block 170 = .ok (.return_, 1) := by decide +kernel
set_option maxRecDepth 20000 in
theorem ggX11_chain_X11_block : GoodIn wsX11_chain wsX11_block := goodIn_ca (goodIn_r _ [6, 7, 8, 9, 10, 11, 5, 12, 13, 14, 15, 16, 17, 18, 19, 20, 21, 22, 23, 24, 25, 26, 27, 28, 29, 30, 31, 32, 33, 34, 35, 36, 37, 38, 39, 40, 41, 42, 43, 44, 45, 46, 47, 48, 49, 50, 51, 52, 53, 54, 55, 56, 57, 58, 59, 60, 61, 62, 63, 64, 65, 66, 67, 68, 69, 70, 71, 72] (by decide +kernel) (by decide +kernel)) (goodIn_sub (fun _ h => List.mem_cons_of_mem _ (List.mem_append_right _ h)) (by decide +kernel))
set_option maxRecDepth 20000 in
theorem gX11_chain_X11_block : GoodIn wsX11_chain (wsV RX11 284 RX11 yX11_block wsX11_block) := goodIn_app (goodIn_of _ (by decide +kernel)) ggX11_chain_X11_block
theorem dX11_chain_0 : decode cX11_chain 0 = .ok (.iconst 0, 1) := by decide +kernel
theorem dX11_chain_1 : decode cX11_chain 1 = .ok (.istore_n 3, 1) := by decide +kernel
theorem dX11_chain_2 : decode cX11_chain 2 = .ok (.iload_n 3, 1) := by decide +kernel
theorem dX11_chain_3 : decode cX11_chain 3 = .ok (.iload_n 1, 1) := by decide +kernel
theorem dX11_chain_4 : decode cX11_chain 4 = .ok (.if_icmp .ge 150, 3) := by decide +kernel
theorem dX11_chain_7 : decode cX11_chain 7 = .ok (.iload_n 2, 1) := by decide +kernel
theorem dX11_chain_8 : decode cX11_chain 8 = .ok (.ifCond .eq 12, 3) := by decide +kernel
theorem dX11_chain_11 : decode cX11_chain 11 = .ok (.bipush 16, 2) := by decide +kernel
theorem dX11_chain_13 : decode cX11_chain 13 = .ok (.iload_n 1, 1) := by decide +kernel
theorem dX11_chain_14 : decode cX11_chain 14 = .ok (.iload_n 3, 1) := by decide +kernel
theorem dX11_chain_15 : decode cX11_chain 15 = .ok (.isub, 1) := by decide +kernel
theorem dX11_chain_16 : decode cX11_chain 16 = .ok (.imul, 1) := by decide +kernel
theorem dX11_chain_17 : decode cX11_chain 17 = .ok (.goto 10, 3) := by decide +kernel
theorem dX11_chain_20 : decode cX11_chain 20 = .ok (.bipush 16, 2) := by decide +kernel
theorem dX11_chain_22 : decode cX11_chain 22 = .ok (.iload_n 3, 1) := by decide +kernel
theorem dX11_chain_23 : decode cX11_chain 23 = .ok (.imul, 1) := by decide +kernel
theorem dX11_chain_24 : decode cX11_chain 24 = .ok (.bipush 16, 2) := by decide +kernel
theorem dX11_chain_26 : decode cX11_chain 26 = .ok (.iadd, 1) := by decide +kernel
theorem dX11_chain_27 : decode cX11_chain 27 = .ok (.istore 4, 2) := by decide +kernel
theorem dX11_chain_29 : decode cX11_chain 29 = .ok (.iconst 0, 1) := by decide +kernel
theorem dX11_chain_30 : decode cX11_chain 30 = .ok (.istore 5, 2) := by decide +kernel
theorem dX11_chain_32 : decode cX11_chain 32 = .ok (.iload 5, 2) := by decide +kernel
theorem dX11_chain_34 : decode cX11_chain 34 = .ok (.bipush 16, 2) := by decide +kernel
theorem dX11_chain_36 : decode cX11_chain 36 = .ok (.if_icmp .ge 47, 3) := by decide +kernel
theorem dX11_chain_39 : decode cX11_chain 39 = .ok (.iload_n 2, 1) := by decide +kernel
theorem dX11_chain_40 : decode cX11_chain 40 = .ok (.ifCond .ne 43, 3) := by decide +kernel
theorem dX11_chain_43 : decode cX11_chain 43 = .ok (.aload_n 0, 1) := by decide +kernel
theorem dX11_chain_44 : decode cX11_chain 44 = .ok (.getfield 210, 3) := by decide +kernel
theorem dX11_chain_47 : decode cX11_chain 47 = .ok (.iload 4, 2) := by decide +kernel
theorem dX11_chain_49 : decode cX11_chain 49 = .ok (.iload 5, 2) := by decide +kernel
theorem dX11_chain_51 : decode cX11_chain 51 = .ok (.iadd, 1) := by decide +kernel
theorem dX11_chain_52 : decode cX11_chain 52 = .ok (.aload_n 0, 1) := by decide +kernel
theorem dX11_chain_53 : decode cX11_chain 53 = .ok (.getfield 210, 3) := by decide +kernel
theorem dX11_chain_56 : decode cX11_chain 56 = .ok (.iload 4, 2) := by decide +kernel
theorem dX11_chain_58 : decode cX11_chain 58 = .ok (.iload 5, 2) := by decide +kernel
theorem dX11_chain_60 : decode cX11_chain 60 = .ok (.iadd, 1) := by decide +kernel
theorem dX11_chain_61 : decode cX11_chain 61 = .ok (.iaload, 1) := by decide +kernel
theorem dX11_chain_62 : decode cX11_chain 62 = .ok (.aload_n 0, 1) := by decide +kernel
theorem dX11_chain_63 : decode cX11_chain 63 = .ok (.getfield 210, 3) := by decide +kernel
theorem dX11_chain_66 : decode cX11_chain 66 = .ok (.iload 4, 2) := by decide +kernel
theorem dX11_chain_68 : decode cX11_chain 68 = .ok (.iload 5, 2) := by decide +kernel
theorem dX11_chain_70 : decode cX11_chain 70 = .ok (.iadd, 1) := by decide +kernel
theorem dX11_chain_71 : decode cX11_chain 71 = .ok (.bipush 16, 2) := by decide +kernel
theorem dX11_chain_73 : decode cX11_chain 73 = .ok (.isub, 1) := by decide +kernel
theorem dX11_chain_74 : decode cX11_chain 74 = .ok (.iaload, 1) := by decide +kernel
theorem dX11_chain_75 : decode cX11_chain 75 = .ok (.ixor, 1) := by decide +kernel
theorem dX11_chain_76 : decode cX11_chain 76 = .ok (.iastore, 1) := by decide +kernel
theorem dX11_chain_77 : decode cX11_chain 77 = .ok (.iinc 5 1, 3) := by decide +kernel
theorem dX11_chain_80 : decode cX11_chain 80 = .ok (.goto (-48), 3) := by decide +kernel
theorem dX11_chain_83 : decode cX11_chain 83 = .ok (.aload_n 0, 1) := by decide +kernel
theorem dX11_chain_84 : decode cX11_chain 84 = .ok (.aload_n 0, 1) := by decide +kernel
theorem dX11_chain_85 : decode cX11_chain 85 = .ok (.getfield 210, 3) := by decide +kernel
theorem dX11_chain_88 : decode cX11_chain 88 = .ok (.iload 4, 2) := by decide +kernel
theorem dX11_chain_90 : decode cX11_chain 90 = .ok (.iload_n 2, 1) := by decide +kernel
theorem dX11_chain_91 : decode cX11_chain 91 = .ok (.invokevirtual 284, 3) := by decide +kernel
theorem dX11_chain_94 : decode cX11_chain 94 = .ok (.iconst 0, 1) := by decide +kernel
theorem dX11_chain_95 : decode cX11_chain 95 = .ok (.istore 5, 2) := by decide +kernel
theorem dX11_chain_97 : decode cX11_chain 97 = .ok (.iload 5, 2) := by decide +kernel
theorem dX11_chain_99 : decode cX11_chain 99 = .ok (.bipush 16, 2) := by decide +kernel
theorem dX11_chain_101 : decode cX11_chain 101 = .ok (.if_icmp .ge 47, 3) := by decide +kernel
theorem dX11_chain_104 : decode cX11_chain 104 = .ok (.iload_n 2, 1) := by decide +kernel
theorem dX11_chain_105 : decode cX11_chain 105 = .ok (.ifCond .eq 43, 3) := by decide +kernel
theorem dX11_chain_108 : decode cX11_chain 108 = .ok (.aload_n 0, 1) := by decide +kernel
theorem dX11_chain_109 : decode cX11_chain 109 = .ok (.getfield 210, 3) := by decide +kernel
theorem dX11_chain_112 : decode cX11_chain 112 = .ok (.iload 4, 2) := by decide +kernel
theorem dX11_chain_114 : decode cX11_chain 114 = .ok (.iload 5, 2) := by decide +kernel
theorem dX11_chain_116 : decode cX11_chain 116 = .ok (.iadd, 1) := by decide +kernel
theorem dX11_chain_117 : decode cX11_chain 117 = .ok (.aload_n 0, 1) := by decide +kernel
theorem dX11_chain_118 : decode cX11_chain 118 = .ok (.getfield 210, 3) := by decide +kernel
theorem dX11_chain_121 : decode cX11_chain 121 = .ok (.iload 4, 2) := by decide +kernel
theorem dX11_chain_123 : decode cX11_chain 123 = .ok (.iload 5, 2) := by decide +kernel
theorem dX11_chain_125 : decode cX11_chain 125 = .ok (.iadd, 1) := by decide +kernel
theorem dX11_chain_126 : decode cX11_chain 126 = .ok (.iaload, 1) := by decide +kernel
theorem dX11_chain_127 : decode cX11_chain 127 = .ok (.aload_n 0, 1) := by decide +kernel
theorem dX11_chain_128 : decode cX11_chain 128 = .ok (.getfield 210, 3) := by decide +kernel
theorem dX11_chain_131 : decode cX11_chain 131 = .ok (.iload 4, 2) := by decide +kernel
theorem dX11_chain_133 : decode cX11_chain 133 = .ok (.iload 5, 2) := by decide +kernel
theorem dX11_chain_135 : decode cX11_chain 135 = .ok (.iadd, 1) := by decide +kernel
theorem dX11_chain_136 : decode cX11_chain 136 = .ok (.bipush 16, 2) := by decide +kernel
theorem dX11_chain_138 : decode cX11_chain 138 = .ok (.isub, 1) := by decide +kernel
theorem dX11_chain_139 : decode cX11_chain 139 = .ok (.iaload, 1) := by decide +kernel
theorem dX11_chain_140 : decode cX11_chain 140 = .ok (.ixor, 1) := by decide +kernel
theorem dX11_chain_141 : decode cX11_chain 141 = .ok (.iastore, 1) := by decide +kernel
theorem dX11_chain_142 : decode cX11_chain 142 = .ok (.iinc 5 1, 3) := by decide +kernel
theorem dX11_chain_145 : decode cX11_chain 145 = .ok (.goto (-48), 3) := by decide +kernel
theorem dX11_chain_148 : decode cX11_chain 148 = .ok (.iinc 3 1, 3) := by decide +kernel
theorem dX11_chain_151 : decode cX11_chain 151 = .ok (.goto (-149), 3) := by decide +kernel
theorem dX11_chain_154 : decode cX11_chain 154 = .ok (.return_, 1) := by decide +kernel
theorem dX11_keySize_0 : decode cX11_keySize 0 = .ok (.aload_n 0, 1) := by decide +kernel
theorem dX11_keySize_1 : decode cX11_keySize 1 = .ok (.getfield 219, 3) := by decide +kernel
theorem dX11_keySize_4 : decode cX11_keySize 4 = .ok (.iconst 2, 1) := by decide +kernel
theorem dX11_keySize_5 : decode cX11_keySize 5 = .ok (.if_icmp .ne 7, 3) := by decide +kernel
theorem dX11_keySize_8 : decode cX11_keySize 8 = .ok (.iconst 5, 1) := by decide +kernel
theorem dX11_keySize_9 : decode cX11_keySize 9 = .ok (.goto 18, 3) := by decide +kernel
theorem dX11_keySize_12 : decode cX11_keySize 12 = .ok (.aload_n 0, 1) := by decide +kernel
theorem dX11_keySize_13 : decode cX11_keySize 13 = .ok (.getfield 219, 3) := by decide +kernel
theorem dX11_keySize_16 : decode cX11_keySize 16 = .ok (.iconst 5, 1) := by decide +kernel
theorem dX11_keySize_17 : decode cX11_keySize 17 = .ok (.if_icmp .ne 8, 3) := by decide +kernel
theorem dX11_keySize_20 : decode cX11_keySize 20 = .ok (.bipush 32, 2) := by decide +kernel
theorem dX11_keySize_22 : decode cX11_keySize 22 = .ok (.goto 5, 3) := by decide +kernel
theorem dX11_keySize_25 : decode cX11_keySize 25 = .ok (.bipush 16, 2) := by decide +kernel
theorem dX11_keySize_27 : decode cX11_keySize 27 = .ok (.ireturn, 1) := by decide +kernel
theorem dX11_pad_0 : decode cX11_pad 0 = .ok (.iconst 0, 1) := by decide +kernel
theorem dX11_pad_1 : decode cX11_pad 1 = .ok (.istore_n 3, 1) := by decide +kernel
theorem dX11_pad_2 : decode cX11_pad 2 = .ok (.iload_n 3, 1) := by decide +kernel
theorem dX11_pad_3 : decode cX11_pad 3 = .ok (.bipush 32, 2) := by decide +kernel
theorem dX11_pad_5 : decode cX11_pad 5 = .ok (.if_icmp .ge 34, 3) := by decide +kernel
theorem dX11_pad_8 : decode cX11_pad 8 = .ok (.aload_n 0, 1) := by decide +kernel
theorem dX11_pad_9 : decode cX11_pad 9 = .ok (.getfield 213, 3) := by decide +kernel
theorem dX11_pad_12 : decode cX11_pad 12 = .ok (.iload_n 3, 1) := by decide +kernel
theorem dX11_pad_13 : decode cX11_pad 13 = .ok (.iload_n 3, 1) := by decide +kernel
theorem dX11_pad_14 : decode cX11_pad 14 = .ok (.iload_n 2, 1) := by decide +kernel
theorem dX11_pad_15 : decode cX11_pad 15 = .ok (.if_icmp .ge 9, 3) := by decide +kernel
theorem dX11_pad_18 : decode cX11_pad 18 = .ok (.aload_n 1, 1) := by decide +kernel
theorem dX11_pad_19 : decode cX11_pad 19 = .ok (.iload_n 3, 1) := by decide +kernel
theorem dX11_pad_20 : decode cX11_pad 20 = .ok (.iaload, 1) := by decide +kernel
theorem dX11_pad_21 : decode cX11_pad 21 = .ok (.goto 11, 3) := by decide +kernel
theorem dX11_pad_24 : decode cX11_pad 24 = .ok (.aload_n 0, 1) := by decide +kernel
theorem dX11_pad_25 : decode cX11_pad 25 = .ok (.getfield 55, 3) := by decide +kernel
theorem dX11_pad_28 : decode cX11_pad 28 = .ok (.iload_n 3, 1) := by decide +kernel
theorem dX11_pad_29 : decode cX11_pad 29 = .ok (.iload_n 2, 1) := by decide +kernel
theorem dX11_pad_30 : decode cX11_pad 30 = .ok (.isub, 1) := by decide +kernel
theorem dX11_pad_31 : decode cX11_pad 31 = .ok (.iaload, 1) := by decide +kernel
theorem dX11_pad_32 : decode cX11_pad 32 = .ok (.iastore, 1) := by decide +kernel
theorem dX11_pad_33 : decode cX11_pad 33 = .ok (.iinc 3 1, 3) := by decide +kernel
theorem dX11_pad_36 : decode cX11_pad 36 = .ok (.goto (-34), 3) := by decide +kernel
theorem dX11_pad_39 : decode cX11_pad 39 = .ok (.return_, 1) := by decide +kernel
set_option maxRecDepth 20000 in
theorem ggX11_smallAgain_X11_keySize : GoodIn wsX11_smallAgain wsX11_keySize := goodIn_r _ [8, 1, 47, 48, 49, 50, 51, 52, 53, 54, 55, 56, 57, 58, 59, 60, 61, 62, 63, 64, 65, 66, 67, 68, 69, 70, 71, 72, 73, 74, 75, 76, 77, 78, 79, 80, 81, 82, 83, 84, 85, 86, 87, 88, 89, 90, 91] (by decide +kernel) (by decide +kernel)
set_option maxRecDepth 20000 in
theorem gX11_smallAgain_X11_keySize : GoodIn wsX11_smallAgain (wsV RX11 288 RX11 yX11_keySize wsX11_keySize) := goodIn_app (goodIn_of _ (by decide +kernel)) ggX11_smallAgain_X11_keySize
set_option maxRecDepth 20000 in
theorem ggX11_smallAgain_X11_sayRow : GoodIn wsX11_smallAgain wsX11_sayRow := goodIn_ca (goodIn_r _ [12, 13, 14, 15, 7, 16, 17, 2, 47, 48, 49, 50, 51, 52, 53, 54, 55, 56, 57, 58, 59, 60, 61, 62, 63, 64, 65, 66, 67, 68, 69, 70, 71, 72, 73, 74, 75, 76, 77, 78, 79, 80, 81, 82, 83, 84, 85, 86, 87, 88, 89, 90, 91] (by decide +kernel) (by decide +kernel)) (goodIn_sub (fun _ h => List.mem_cons_of_mem _ (List.mem_append_right _ h)) (by decide +kernel))
set_option maxRecDepth 20000 in
theorem gX11_smallAgain_X11_sayRow : GoodIn wsX11_smallAgain (wsV RX11 292 RX11 yX11_sayRow wsX11_sayRow) := goodIn_app (goodIn_of _ (by decide +kernel)) ggX11_smallAgain_X11_sayRow
set_option maxRecDepth 20000 in
theorem ggX11_smallAgain_X11_small : GoodIn wsX11_smallAgain wsX11_small := goodIn_ca (goodIn_r _ [21, 22, 23, 24, 25, 26, 27, 28, 29, 30, 31, 7, 32, 2, 13, 14, 15, 16, 17, 33, 34, 35, 36, 37, 38, 39, 40, 41, 42, 43, 44, 45, 46, 3, 47, 48, 49, 50, 51, 52, 53, 54, 55, 56, 57, 58, 59, 60, 61, 62, 63, 64, 65, 66, 67, 68, 69, 70, 71, 72, 73, 74, 75, 76, 77, 78, 79, 80, 81, 82, 83, 84, 85, 86, 87, 88, 89, 90, 91] (by decide +kernel) (by decide +kernel)) (goodIn_sub (fun _ h => List.mem_cons_of_mem _ (List.mem_append_right _ h)) (by decide +kernel))
set_option maxRecDepth 20000 in
theorem gX11_smallAgain_X11_small : GoodIn wsX11_smallAgain (wsV RX11 296 RX11 yX11_small wsX11_small) := goodIn_app (goodIn_of _ (by decide +kernel)) ggX11_smallAgain_X11_small
theorem dX11_smallAgain_0 : decode cX11_smallAgain 0 = .ok (.iconst 0, 1) := by decide +kernel
theorem dX11_smallAgain_1 : decode cX11_smallAgain 1 = .ok (.istore_n 1, 1) := by decide +kernel
theorem dX11_smallAgain_2 : decode cX11_smallAgain 2 = .ok (.iload_n 1, 1) := by decide +kernel
theorem dX11_smallAgain_3 : decode cX11_smallAgain 3 = .ok (.bipush 50, 2) := by decide +kernel
theorem dX11_smallAgain_5 : decode cX11_smallAgain 5 = .ok (.if_icmp .ge 39, 3) := by decide +kernel
theorem dX11_smallAgain_8 : decode cX11_smallAgain 8 = .ok (.aload_n 0, 1) := by decide +kernel
theorem dX11_smallAgain_9 : decode cX11_smallAgain 9 = .ok (.getfield 219, 3) := by decide +kernel
theorem dX11_smallAgain_12 : decode cX11_smallAgain 12 = .ok (.iconst 2, 1) := by decide +kernel
theorem dX11_smallAgain_13 : decode cX11_smallAgain 13 = .ok (.if_icmp .le 31, 3) := by decide +kernel
theorem dX11_smallAgain_16 : decode cX11_smallAgain 16 = .ok (.aload_n 0, 1) := by decide +kernel
theorem dX11_smallAgain_17 : decode cX11_smallAgain 17 = .ok (.iconst 0, 1) := by decide +kernel
theorem dX11_smallAgain_18 : decode cX11_smallAgain 18 = .ok (.putfield 233, 3) := by decide +kernel
theorem dX11_smallAgain_21 : decode cX11_smallAgain 21 = .ok (.aload_n 0, 1) := by decide +kernel
theorem dX11_smallAgain_22 : decode cX11_smallAgain 22 = .ok (.aload_n 0, 1) := by decide +kernel
theorem dX11_smallAgain_23 : decode cX11_smallAgain 23 = .ok (.getfield 43, 3) := by decide +kernel
theorem dX11_smallAgain_26 : decode cX11_smallAgain 26 = .ok (.iconst 0, 1) := by decide +kernel
theorem dX11_smallAgain_27 : decode cX11_smallAgain 27 = .ok (.aload_n 0, 1) := by decide +kernel
theorem dX11_smallAgain_28 : decode cX11_smallAgain 28 = .ok (.invokevirtual 288, 3) := by decide +kernel
theorem dX11_smallAgain_31 : decode cX11_smallAgain 31 = .ok (.invokevirtual 292, 3) := by decide +kernel
theorem dX11_smallAgain_34 : decode cX11_smallAgain 34 = .ok (.aload_n 0, 1) := by decide +kernel
theorem dX11_smallAgain_35 : decode cX11_smallAgain 35 = .ok (.invokevirtual 296, 3) := by decide +kernel
theorem dX11_smallAgain_38 : decode cX11_smallAgain 38 = .ok (.iinc 1 1, 3) := by decide +kernel
theorem dX11_smallAgain_41 : decode cX11_smallAgain 41 = .ok (.goto (-39), 3) := by decide +kernel
theorem dX11_smallAgain_44 : decode cX11_smallAgain 44 = .ok (.return_, 1) := by decide +kernel
set_option maxRecDepth 20000 in
theorem ggX11_makeOwnerKey_X11_sayRow : GoodIn wsX11_makeOwnerKey wsX11_sayRow := goodIn_ca (goodIn_r _ [9, 10, 11, 12, 8, 13, 14, 1, 53, 54, 55, 56, 57, 58, 59, 60, 61, 62, 63, 64, 65, 66, 67, 68, 69, 70, 71, 72, 73, 74, 75, 76, 77, 78, 79, 80, 81, 82, 83, 84, 85, 86, 87, 88, 89, 90, 91, 92, 93, 94, 95, 96, 97] (by decide +kernel) (by decide +kernel)) (goodIn_sub (fun _ h => List.mem_cons_of_mem _ (List.mem_append_right _ h)) (by decide +kernel))
set_option maxRecDepth 20000 in
theorem gX11_makeOwnerKey_X11_sayRow : GoodIn wsX11_makeOwnerKey (wsV RX11 292 RX11 yX11_sayRow wsX11_sayRow) := goodIn_app (goodIn_of _ (by decide +kernel)) ggX11_makeOwnerKey_X11_sayRow
set_option maxRecDepth 20000 in
theorem ggX11_makeOwnerKey_X11_small : GoodIn wsX11_makeOwnerKey wsX11_small := goodIn_ca (goodIn_r _ [18, 19, 20, 21, 22, 23, 24, 25, 26, 27, 28, 8, 29, 1, 10, 11, 12, 13, 14, 30, 31, 32, 33, 34, 35, 36, 37, 38, 39, 40, 41, 42, 43, 4, 53, 54, 55, 56, 57, 58, 59, 60, 61, 62, 63, 64, 65, 66, 67, 68, 69, 70, 71, 72, 73, 74, 75, 76, 77, 78, 79, 80, 81, 82, 83, 84, 85, 86, 87, 88, 89, 90, 91, 92, 93, 94, 95, 96, 97] (by decide +kernel) (by decide +kernel)) (goodIn_sub (fun _ h => List.mem_cons_of_mem _ (List.mem_append_right _ h)) (by decide +kernel))
set_option maxRecDepth 20000 in
theorem gX11_makeOwnerKey_X11_small : GoodIn wsX11_makeOwnerKey (wsV RX11 296 RX11 yX11_small wsX11_small) := goodIn_app (goodIn_of _ (by decide +kernel)) ggX11_makeOwnerKey_X11_small
set_option maxRecDepth 20000 in
theorem ggX11_makeOwnerKey_X11_smallAgain : GoodIn wsX11_makeOwnerKey wsX11_smallAgain := goodIn_ca (goodIn_r _ [47, 48, 1, 4, 49, 50, 51, 8, 52, 5, 6, 7, 9, 10, 11, 12, 13, 14, 15, 16, 17, 18, 19, 20, 21, 22, 23, 24, 25, 26, 27, 28, 29, 30, 31, 32, 33, 34, 35, 36, 37, 38, 39, 40, 41, 42, 43, 53, 54, 55, 56, 57, 58, 59, 60, 61, 62, 63, 64, 65, 66, 67, 68, 69, 70, 71, 72, 73, 74, 75, 76, 77, 78, 79, 80, 81, 82, 83, 84, 85, 86, 87, 88, 89, 90, 91, 92, 93, 94, 95, 96, 97] (by decide +kernel) (by decide +kernel)) (goodIn_sub (fun _ h => List.mem_cons_of_mem _ (List.mem_append_right _ h)) (by decide +kernel))
set_option maxRecDepth 20000 in
theorem gX11_makeOwnerKey_X11_smallAgain : GoodIn wsX11_makeOwnerKey (wsV RX11 299 RX11 yX11_smallAgain wsX11_smallAgain) := goodIn_app (goodIn_of _ (by decide +kernel)) ggX11_makeOwnerKey_X11_smallAgain
set_option maxRecDepth 20000 in
theorem ggX11_makeOwnerKey_X11_keySize : GoodIn wsX11_makeOwnerKey wsX11_keySize := goodIn_r _ [52, 48, 53, 54, 55, 56, 57, 58, 59, 60, 61, 62, 63, 64, 65, 66, 67, 68, 69, 70, 71, 72, 73, 74, 75, 76, 77, 78, 79, 80, 81, 82, 83, 84, 85, 86, 87, 88, 89, 90, 91, 92, 93, 94, 95, 96, 97] (by decide +kernel) (by decide +kernel)
set_option maxRecDepth 20000 in
theorem gX11_makeOwnerKey_X11_keySize : GoodIn wsX11_makeOwnerKey (wsV RX11 288 RX11 yX11_keySize wsX11_keySize) := goodIn_app (goodIn_of _ (by decide +kernel)) ggX11_makeOwnerKey_X11_keySize
theorem dX11_makeOwnerKey_0 : decode cX11_makeOwnerKey 0 = .ok (.aload_n 0, 1) := by decide +kernel
theorem dX11_makeOwnerKey_1 : decode cX11_makeOwnerKey 1 = .ok (.iconst 0, 1) := by decide +kernel
theorem dX11_makeOwnerKey_2 : decode cX11_makeOwnerKey 2 = .ok (.putfield 233, 3) := by decide +kernel
theorem dX11_makeOwnerKey_5 : decode cX11_makeOwnerKey 5 = .ok (.aload_n 0, 1) := by decide +kernel
theorem dX11_makeOwnerKey_6 : decode cX11_makeOwnerKey 6 = .ok (.aload_n 0, 1) := by decide +kernel
theorem dX11_makeOwnerKey_7 : decode cX11_makeOwnerKey 7 = .ok (.getfield 213, 3) := by decide +kernel
theorem dX11_makeOwnerKey_10 : decode cX11_makeOwnerKey 10 = .ok (.iconst 0, 1) := by decide +kernel
theorem dX11_makeOwnerKey_11 : decode cX11_makeOwnerKey 11 = .ok (.bipush 32, 2) := by decide +kernel
theorem dX11_makeOwnerKey_13 : decode cX11_makeOwnerKey 13 = .ok (.invokevirtual 292, 3) := by decide +kernel
theorem dX11_makeOwnerKey_16 : decode cX11_makeOwnerKey 16 = .ok (.aload_n 0, 1) := by decide +kernel
theorem dX11_makeOwnerKey_17 : decode cX11_makeOwnerKey 17 = .ok (.invokevirtual 296, 3) := by decide +kernel
theorem dX11_makeOwnerKey_20 : decode cX11_makeOwnerKey 20 = .ok (.aload_n 0, 1) := by decide +kernel
theorem dX11_makeOwnerKey_21 : decode cX11_makeOwnerKey 21 = .ok (.invokevirtual 299, 3) := by decide +kernel
theorem dX11_makeOwnerKey_24 : decode cX11_makeOwnerKey 24 = .ok (.iconst 0, 1) := by decide +kernel
theorem dX11_makeOwnerKey_25 : decode cX11_makeOwnerKey 25 = .ok (.istore_n 1, 1) := by decide +kernel
theorem dX11_makeOwnerKey_26 : decode cX11_makeOwnerKey 26 = .ok (.iload_n 1, 1) := by decide +kernel
theorem dX11_makeOwnerKey_27 : decode cX11_makeOwnerKey 27 = .ok (.aload_n 0, 1) := by decide +kernel
theorem dX11_makeOwnerKey_28 : decode cX11_makeOwnerKey 28 = .ok (.invokevirtual 288, 3) := by decide +kernel
theorem dX11_makeOwnerKey_31 : decode cX11_makeOwnerKey 31 = .ok (.if_icmp .ge 21, 3) := by decide +kernel
theorem dX11_makeOwnerKey_34 : decode cX11_makeOwnerKey 34 = .ok (.aload_n 0, 1) := by decide +kernel
theorem dX11_makeOwnerKey_35 : decode cX11_makeOwnerKey 35 = .ok (.getfield 216, 3) := by decide +kernel
theorem dX11_makeOwnerKey_38 : decode cX11_makeOwnerKey 38 = .ok (.iload_n 1, 1) := by decide +kernel
theorem dX11_makeOwnerKey_39 : decode cX11_makeOwnerKey 39 = .ok (.aload_n 0, 1) := by decide +kernel
theorem dX11_makeOwnerKey_40 : decode cX11_makeOwnerKey 40 = .ok (.getfield 43, 3) := by decide +kernel
theorem dX11_makeOwnerKey_43 : decode cX11_makeOwnerKey 43 = .ok (.iload_n 1, 1) := by decide +kernel
theorem dX11_makeOwnerKey_44 : decode cX11_makeOwnerKey 44 = .ok (.iaload, 1) := by decide +kernel
theorem dX11_makeOwnerKey_45 : decode cX11_makeOwnerKey 45 = .ok (.iastore, 1) := by decide +kernel
theorem dX11_makeOwnerKey_46 : decode cX11_makeOwnerKey 46 = .ok (.iinc 1 1, 3) := by decide +kernel
theorem dX11_makeOwnerKey_49 : decode cX11_makeOwnerKey 49 = .ok (.goto (-23), 3) := by decide +kernel
theorem dX11_makeOwnerKey_52 : decode cX11_makeOwnerKey 52 = .ok (.return_, 1) := by decide +kernel
set_option maxRecDepth 20000 in
theorem ggX11_makeKey_X11_sayRow : GoodIn wsX11_makeKey wsX11_sayRow := goodIn_ca (goodIn_r _ [15, 16, 17, 18, 14, 19, 20, 1, 62, 63, 64, 65, 66, 67, 68, 69, 70, 71, 72, 73, 74, 75, 76, 77, 78, 79, 80, 81, 82, 83, 84, 85, 86, 87, 88, 89, 90, 91, 92, 93, 94, 95, 96, 97, 98, 99, 100, 101, 102, 103, 104, 105, 106] (by decide +kernel) (by decide +kernel)) (goodIn_sub (fun _ h => List.mem_cons_of_mem _ (List.mem_append_right _ h)) (by decide +kernel))
set_option maxRecDepth 20000 in
theorem gX11_makeKey_X11_sayRow : GoodIn wsX11_makeKey (wsV RX11 292 RX11 yX11_sayRow wsX11_sayRow) := goodIn_app (goodIn_of _ (by decide +kernel)) ggX11_makeKey_X11_sayRow
set_option maxRecDepth 20000 in
theorem ggX11_makeKey_X11_sayLow : GoodIn wsX11_makeKey wsX11_sayLow := goodIn_ca (goodIn_r _ [24, 16, 17, 18, 14, 19, 20, 1, 62, 63, 64, 65, 66, 67, 68, 69, 70, 71, 72, 73, 74, 75, 76, 77, 78, 79, 80, 81, 82, 83, 84, 85, 86, 87, 88, 89, 90, 91, 92, 93, 94, 95, 96, 97, 98, 99, 100, 101, 102, 103, 104, 105, 106] (by decide +kernel) (by decide +kernel)) (goodIn_sub (fun _ h => List.mem_cons_of_mem _ (List.mem_append_right _ h)) (by decide +kernel))
set_option maxRecDepth 20000 in
theorem gX11_makeKey_X11_sayLow : GoodIn wsX11_makeKey (wsV RX11 305 RX11 yX11_sayLow wsX11_sayLow) := goodIn_app (goodIn_of _ (by decide +kernel)) ggX11_makeKey_X11_sayLow
set_option maxRecDepth 20000 in
theorem ggX11_makeKey_X11_small : GoodIn wsX11_makeKey wsX11_small := goodIn_ca (goodIn_r _ [28, 29, 30, 31, 32, 33, 34, 35, 36, 37, 38, 14, 39, 1, 16, 17, 18, 19, 20, 40, 41, 42, 43, 44, 45, 46, 47, 48, 49, 50, 51, 52, 53, 10, 62, 63, 64, 65, 66, 67, 68, 69, 70, 71, 72, 73, 74, 75, 76, 77, 78, 79, 80, 81, 82, 83, 84, 85, 86, 87, 88, 89, 90, 91, 92, 93, 94, 95, 96, 97, 98, 99, 100, 101, 102, 103, 104, 105, 106] (by decide +kernel) (by decide +kernel)) (goodIn_sub (fun _ h => List.mem_cons_of_mem _ (List.mem_append_right _ h)) (by decide +kernel))
set_option maxRecDepth 20000 in
theorem gX11_makeKey_X11_small : GoodIn wsX11_makeKey (wsV RX11 296 RX11 yX11_small wsX11_small) := goodIn_app (goodIn_of _ (by decide +kernel)) ggX11_makeKey_X11_small
set_option maxRecDepth 20000 in
theorem ggX11_makeKey_X11_smallAgain : GoodIn wsX11_makeKey wsX11_smallAgain := goodIn_ca (goodIn_r _ [57, 7, 1, 10, 58, 59, 60, 14, 61, 11, 12, 13, 15, 16, 17, 18, 19, 20, 25, 26, 27, 28, 29, 30, 31, 32, 33, 34, 35, 36, 37, 38, 39, 40, 41, 42, 43, 44, 45, 46, 47, 48, 49, 50, 51, 52, 53, 62, 63, 64, 65, 66, 67, 68, 69, 70, 71, 72, 73, 74, 75, 76, 77, 78, 79, 80, 81, 82, 83, 84, 85, 86, 87, 88, 89, 90, 91, 92, 93, 94, 95, 96, 97, 98, 99, 100, 101, 102, 103, 104, 105, 106] (by decide +kernel) (by decide +kernel)) (goodIn_sub (fun _ h => List.mem_cons_of_mem _ (List.mem_append_right _ h)) (by decide +kernel))
set_option maxRecDepth 20000 in
theorem gX11_makeKey_X11_smallAgain : GoodIn wsX11_makeKey (wsV RX11 299 RX11 yX11_smallAgain wsX11_smallAgain) := goodIn_app (goodIn_of _ (by decide +kernel)) ggX11_makeKey_X11_smallAgain
set_option maxRecDepth 20000 in
theorem ggX11_makeKey_X11_keySize : GoodIn wsX11_makeKey wsX11_keySize := goodIn_r _ [61, 7, 62, 63, 64, 65, 66, 67, 68, 69, 70, 71, 72, 73, 74, 75, 76, 77, 78, 79, 80, 81, 82, 83, 84, 85, 86, 87, 88, 89, 90, 91, 92, 93, 94, 95, 96, 97, 98, 99, 100, 101, 102, 103, 104, 105, 106] (by decide +kernel) (by decide +kernel)
set_option maxRecDepth 20000 in
theorem gX11_makeKey_X11_keySize : GoodIn wsX11_makeKey (wsV RX11 288 RX11 yX11_keySize wsX11_keySize) := goodIn_app (goodIn_of _ (by decide +kernel)) ggX11_makeKey_X11_keySize
theorem dX11_makeKey_0 : decode cX11_makeKey 0 = .ok (.aload_n 0, 1) := by decide +kernel
theorem dX11_makeKey_1 : decode cX11_makeKey 1 = .ok (.iconst 0, 1) := by decide +kernel
theorem dX11_makeKey_2 : decode cX11_makeKey 2 = .ok (.putfield 233, 3) := by decide +kernel
theorem dX11_makeKey_5 : decode cX11_makeKey 5 = .ok (.aload_n 0, 1) := by decide +kernel
theorem dX11_makeKey_6 : decode cX11_makeKey 6 = .ok (.aload_n 0, 1) := by decide +kernel
theorem dX11_makeKey_7 : decode cX11_makeKey 7 = .ok (.getfield 213, 3) := by decide +kernel
theorem dX11_makeKey_10 : decode cX11_makeKey 10 = .ok (.iconst 0, 1) := by decide +kernel
theorem dX11_makeKey_11 : decode cX11_makeKey 11 = .ok (.bipush 32, 2) := by decide +kernel
theorem dX11_makeKey_13 : decode cX11_makeKey 13 = .ok (.invokevirtual 292, 3) := by decide +kernel
theorem dX11_makeKey_16 : decode cX11_makeKey 16 = .ok (.aload_n 0, 1) := by decide +kernel
theorem dX11_makeKey_17 : decode cX11_makeKey 17 = .ok (.aload_n 0, 1) := by decide +kernel
theorem dX11_makeKey_18 : decode cX11_makeKey 18 = .ok (.getfield 25, 3) := by decide +kernel
theorem dX11_makeKey_21 : decode cX11_makeKey 21 = .ok (.iconst 0, 1) := by decide +kernel
theorem dX11_makeKey_22 : decode cX11_makeKey 22 = .ok (.bipush 32, 2) := by decide +kernel
theorem dX11_makeKey_24 : decode cX11_makeKey 24 = .ok (.invokevirtual 292, 3) := by decide +kernel
theorem dX11_makeKey_27 : decode cX11_makeKey 27 = .ok (.aload_n 0, 1) := by decide +kernel
theorem dX11_makeKey_28 : decode cX11_makeKey 28 = .ok (.aload_n 0, 1) := by decide +kernel
theorem dX11_makeKey_29 : decode cX11_makeKey 29 = .ok (.getfield 302, 3) := by decide +kernel
theorem dX11_makeKey_32 : decode cX11_makeKey 32 = .ok (.iconst 4, 1) := by decide +kernel
theorem dX11_makeKey_33 : decode cX11_makeKey 33 = .ok (.invokevirtual 305, 3) := by decide +kernel
theorem dX11_makeKey_36 : decode cX11_makeKey 36 = .ok (.aload_n 0, 1) := by decide +kernel
theorem dX11_makeKey_37 : decode cX11_makeKey 37 = .ok (.aload_n 0, 1) := by decide +kernel
theorem dX11_makeKey_38 : decode cX11_makeKey 38 = .ok (.getfield 19, 3) := by decide +kernel
theorem dX11_makeKey_41 : decode cX11_makeKey 41 = .ok (.iconst 0, 1) := by decide +kernel
theorem dX11_makeKey_42 : decode cX11_makeKey 42 = .ok (.aload_n 0, 1) := by decide +kernel
theorem dX11_makeKey_43 : decode cX11_makeKey 43 = .ok (.getfield 309, 3) := by decide +kernel
theorem dX11_makeKey_46 : decode cX11_makeKey 46 = .ok (.invokevirtual 292, 3) := by decide +kernel
theorem dX11_makeKey_49 : decode cX11_makeKey 49 = .ok (.aload_n 0, 1) := by decide +kernel
theorem dX11_makeKey_50 : decode cX11_makeKey 50 = .ok (.getfield 219, 3) := by decide +kernel
theorem dX11_makeKey_53 : decode cX11_makeKey 53 = .ok (.iconst 4, 1) := by decide +kernel
theorem dX11_makeKey_54 : decode cX11_makeKey 54 = .ok (.if_icmp .ne 16, 3) := by decide +kernel
theorem dX11_makeKey_57 : decode cX11_makeKey 57 = .ok (.aload_n 0, 1) := by decide +kernel
theorem dX11_makeKey_58 : decode cX11_makeKey 58 = .ok (.getfield 312, 3) := by decide +kernel
theorem dX11_makeKey_61 : decode cX11_makeKey 61 = .ok (.ifCond .eq 9, 3) := by decide +kernel
theorem dX11_makeKey_64 : decode cX11_makeKey 64 = .ok (.aload_n 0, 1) := by decide +kernel
theorem dX11_makeKey_65 : decode cX11_makeKey 65 = .ok (.iconst (-1), 1) := by decide +kernel
theorem dX11_makeKey_66 : decode cX11_makeKey 66 = .ok (.iconst 4, 1) := by decide +kernel
theorem dX11_makeKey_67 : decode cX11_makeKey 67 = .ok (.invokevirtual 305, 3) := by decide +kernel
theorem dX11_makeKey_70 : decode cX11_makeKey 70 = .ok (.aload_n 0, 1) := by decide +kernel
theorem dX11_makeKey_71 : decode cX11_makeKey 71 = .ok (.invokevirtual 296, 3) := by decide +kernel
theorem dX11_makeKey_74 : decode cX11_makeKey 74 = .ok (.aload_n 0, 1) := by decide +kernel
theorem dX11_makeKey_75 : decode cX11_makeKey 75 = .ok (.invokevirtual 299, 3) := by decide +kernel
theorem dX11_makeKey_78 : decode cX11_makeKey 78 = .ok (.iconst 0, 1) := by decide +kernel
theorem dX11_makeKey_79 : decode cX11_makeKey 79 = .ok (.istore_n 1, 1) := by decide +kernel
theorem dX11_makeKey_80 : decode cX11_makeKey 80 = .ok (.iload_n 1, 1) := by decide +kernel
theorem dX11_makeKey_81 : decode cX11_makeKey 81 = .ok (.aload_n 0, 1) := by decide +kernel
theorem dX11_makeKey_82 : decode cX11_makeKey 82 = .ok (.invokevirtual 288, 3) := by decide +kernel
theorem dX11_makeKey_85 : decode cX11_makeKey 85 = .ok (.if_icmp .ge 21, 3) := by decide +kernel
theorem dX11_makeKey_88 : decode cX11_makeKey 88 = .ok (.aload_n 0, 1) := by decide +kernel
theorem dX11_makeKey_89 : decode cX11_makeKey 89 = .ok (.getfield 31, 3) := by decide +kernel
theorem dX11_makeKey_92 : decode cX11_makeKey 92 = .ok (.iload_n 1, 1) := by decide +kernel
theorem dX11_makeKey_93 : decode cX11_makeKey 93 = .ok (.aload_n 0, 1) := by decide +kernel
theorem dX11_makeKey_94 : decode cX11_makeKey 94 = .ok (.getfield 43, 3) := by decide +kernel
theorem dX11_makeKey_97 : decode cX11_makeKey 97 = .ok (.iload_n 1, 1) := by decide +kernel
theorem dX11_makeKey_98 : decode cX11_makeKey 98 = .ok (.iaload, 1) := by decide +kernel
theorem dX11_makeKey_99 : decode cX11_makeKey 99 = .ok (.iastore, 1) := by decide +kernel
theorem dX11_makeKey_100 : decode cX11_makeKey 100 = .ok (.iinc 1 1, 3) := by decide +kernel
theorem dX11_makeKey_103 : decode cX11_makeKey 103 = .ok (.goto (-23), 3) := by decide +kernel
theorem dX11_makeKey_106 : decode cX11_makeKey 106 = .ok (.return_, 1) := by decide +kernel
set_option maxRecDepth 20000 in
theorem ggX11_check_X11_throughStream : GoodIn wsX11_check wsX11_throughStream := goodIn_ca (goodIn_r _ [12, 13, 52, 53, 54, 55, 56, 57, 58, 59, 60, 61, 62, 63, 64, 65, 66, 67, 68, 69, 70, 71, 72, 73, 74, 75, 76, 77, 78, 79, 80, 81, 82, 83, 84, 85, 86, 87, 88, 89, 90, 91, 92, 93, 94, 95, 96] (by decide +kernel) (by decide +kernel)) (goodIn_sub (fun _ h => List.mem_cons_of_mem _ (List.mem_append_right _ h)) (by decide +kernel))
set_option maxRecDepth 20000 in
theorem gX11_check_X11_throughStream : GoodIn wsX11_check (wsV RX11 316 RX11 yX11_throughStream wsX11_throughStream) := goodIn_app (goodIn_of _ (by decide +kernel)) ggX11_check_X11_throughStream
set_option maxRecDepth 20000 in
theorem ggX11_check_X11_sayRow : GoodIn wsX11_check wsX11_sayRow := goodIn_ca (goodIn_r _ [17, 18, 19, 20, 11, 21, 22, 4, 52, 53, 54, 55, 56, 57, 58, 59, 60, 61, 62, 63, 64, 65, 66, 67, 68, 69, 70, 71, 72, 73, 74, 75, 76, 77, 78, 79, 80, 81, 82, 83, 84, 85, 86, 87, 88, 89, 90, 91, 92, 93, 94, 95, 96] (by decide +kernel) (by decide +kernel)) (goodIn_sub (fun _ h => List.mem_cons_of_mem _ (List.mem_append_right _ h)) (by decide +kernel))
set_option maxRecDepth 20000 in
theorem gX11_check_X11_sayRow : GoodIn wsX11_check (wsV RX11 292 RX11 yX11_sayRow wsX11_sayRow) := goodIn_app (goodIn_of _ (by decide +kernel)) ggX11_check_X11_sayRow
set_option maxRecDepth 20000 in
theorem ggX11_check_X11_small : GoodIn wsX11_check wsX11_small := goodIn_ca (goodIn_r _ [26, 27, 28, 29, 30, 31, 32, 33, 34, 35, 36, 11, 37, 4, 18, 19, 20, 21, 22, 38, 39, 40, 41, 42, 43, 44, 45, 46, 47, 48, 49, 50, 51, 7, 52, 53, 54, 55, 56, 57, 58, 59, 60, 61, 62, 63, 64, 65, 66, 67, 68, 69, 70, 71, 72, 73, 74, 75, 76, 77, 78, 79, 80, 81, 82, 83, 84, 85, 86, 87, 88, 89, 90, 91, 92, 93, 94, 95, 96] (by decide +kernel) (by decide +kernel)) (goodIn_sub (fun _ h => List.mem_cons_of_mem _ (List.mem_append_right _ h)) (by decide +kernel))
set_option maxRecDepth 20000 in
theorem gX11_check_X11_small : GoodIn wsX11_check (wsV RX11 296 RX11 yX11_small wsX11_small) := goodIn_app (goodIn_of _ (by decide +kernel)) ggX11_check_X11_small
theorem dX11_check_0 : decode cX11_check 0 = .ok (.aload_n 0, 1) := by decide +kernel
theorem dX11_check_1 : decode cX11_check 1 = .ok (.getfield 219, 3) := by decide +kernel
theorem dX11_check_4 : decode cX11_check 4 = .ok (.iconst 2, 1) := by decide +kernel
theorem dX11_check_5 : decode cX11_check 5 = .ok (.if_icmp .ne 43, 3) := by decide +kernel
theorem dX11_check_8 : decode cX11_check 8 = .ok (.iconst 0, 1) := by decide +kernel
theorem dX11_check_9 : decode cX11_check 9 = .ok (.istore_n 3, 1) := by decide +kernel
theorem dX11_check_10 : decode cX11_check 10 = .ok (.iload_n 3, 1) := by decide +kernel
theorem dX11_check_11 : decode cX11_check 11 = .ok (.bipush 32, 2) := by decide +kernel
theorem dX11_check_13 : decode cX11_check 13 = .ok (.if_icmp .ge 20, 3) := by decide +kernel
theorem dX11_check_16 : decode cX11_check 16 = .ok (.aload_n 1, 1) := by decide +kernel
theorem dX11_check_17 : decode cX11_check 17 = .ok (.iload_n 2, 1) := by decide +kernel
theorem dX11_check_18 : decode cX11_check 18 = .ok (.iload_n 3, 1) := by decide +kernel
theorem dX11_check_19 : decode cX11_check 19 = .ok (.iadd, 1) := by decide +kernel
theorem dX11_check_20 : decode cX11_check 20 = .ok (.aload_n 0, 1) := by decide +kernel
theorem dX11_check_21 : decode cX11_check 21 = .ok (.getfield 55, 3) := by decide +kernel
theorem dX11_check_24 : decode cX11_check 24 = .ok (.iload_n 3, 1) := by decide +kernel
theorem dX11_check_25 : decode cX11_check 25 = .ok (.iaload, 1) := by decide +kernel
theorem dX11_check_26 : decode cX11_check 26 = .ok (.iastore, 1) := by decide +kernel
theorem dX11_check_27 : decode cX11_check 27 = .ok (.iinc 3 1, 3) := by decide +kernel
theorem dX11_check_30 : decode cX11_check 30 = .ok (.goto (-20), 3) := by decide +kernel
theorem dX11_check_33 : decode cX11_check 33 = .ok (.aload_n 0, 1) := by decide +kernel
theorem dX11_check_34 : decode cX11_check 34 = .ok (.aload_n 0, 1) := by decide +kernel
theorem dX11_check_35 : decode cX11_check 35 = .ok (.getfield 31, 3) := by decide +kernel
theorem dX11_check_38 : decode cX11_check 38 = .ok (.iconst 5, 1) := by decide +kernel
theorem dX11_check_39 : decode cX11_check 39 = .ok (.iconst 0, 1) := by decide +kernel
theorem dX11_check_40 : decode cX11_check 40 = .ok (.aload_n 1, 1) := by decide +kernel
theorem dX11_check_41 : decode cX11_check 41 = .ok (.iload_n 2, 1) := by decide +kernel
theorem dX11_check_42 : decode cX11_check 42 = .ok (.bipush 32, 2) := by decide +kernel
theorem dX11_check_44 : decode cX11_check 44 = .ok (.invokevirtual 316, 3) := by decide +kernel
theorem dX11_check_47 : decode cX11_check 47 = .ok (.return_, 1) := by decide +kernel
theorem dX11_check_48 : decode cX11_check 48 = .ok (.aload_n 0, 1) := by decide +kernel
theorem dX11_check_49 : decode cX11_check 49 = .ok (.iconst 0, 1) := by decide +kernel
theorem dX11_check_50 : decode cX11_check 50 = .ok (.putfield 233, 3) := by decide +kernel
theorem dX11_check_53 : decode cX11_check 53 = .ok (.aload_n 0, 1) := by decide +kernel
theorem dX11_check_54 : decode cX11_check 54 = .ok (.aload_n 0, 1) := by decide +kernel
theorem dX11_check_55 : decode cX11_check 55 = .ok (.getfield 55, 3) := by decide +kernel
theorem dX11_check_58 : decode cX11_check 58 = .ok (.iconst 0, 1) := by decide +kernel
theorem dX11_check_59 : decode cX11_check 59 = .ok (.bipush 32, 2) := by decide +kernel
theorem dX11_check_61 : decode cX11_check 61 = .ok (.invokevirtual 292, 3) := by decide +kernel
theorem dX11_check_64 : decode cX11_check 64 = .ok (.aload_n 0, 1) := by decide +kernel
theorem dX11_check_65 : decode cX11_check 65 = .ok (.aload_n 0, 1) := by decide +kernel
theorem dX11_check_66 : decode cX11_check 66 = .ok (.getfield 19, 3) := by decide +kernel
theorem dX11_check_69 : decode cX11_check 69 = .ok (.iconst 0, 1) := by decide +kernel
theorem dX11_check_70 : decode cX11_check 70 = .ok (.aload_n 0, 1) := by decide +kernel
theorem dX11_check_71 : decode cX11_check 71 = .ok (.getfield 309, 3) := by decide +kernel
theorem dX11_check_74 : decode cX11_check 74 = .ok (.invokevirtual 292, 3) := by decide +kernel
theorem dX11_check_77 : decode cX11_check 77 = .ok (.aload_n 0, 1) := by decide +kernel
theorem dX11_check_78 : decode cX11_check 78 = .ok (.invokevirtual 296, 3) := by decide +kernel
theorem dX11_check_81 : decode cX11_check 81 = .ok (.iconst 0, 1) := by decide +kernel
theorem dX11_check_82 : decode cX11_check 82 = .ok (.istore_n 3, 1) := by decide +kernel
theorem dX11_check_83 : decode cX11_check 83 = .ok (.iload_n 3, 1) := by decide +kernel
theorem dX11_check_84 : decode cX11_check 84 = .ok (.bipush 32, 2) := by decide +kernel
theorem dX11_check_86 : decode cX11_check 86 = .ok (.if_icmp .ge 30, 3) := by decide +kernel
theorem dX11_check_89 : decode cX11_check 89 = .ok (.aload_n 1, 1) := by decide +kernel
theorem dX11_check_90 : decode cX11_check 90 = .ok (.iload_n 2, 1) := by decide +kernel
theorem dX11_check_91 : decode cX11_check 91 = .ok (.iload_n 3, 1) := by decide +kernel
theorem dX11_check_92 : decode cX11_check 92 = .ok (.iadd, 1) := by decide +kernel
theorem dX11_check_93 : decode cX11_check 93 = .ok (.iload_n 3, 1) := by decide +kernel
theorem dX11_check_94 : decode cX11_check 94 = .ok (.bipush 16, 2) := by decide +kernel
theorem dX11_check_96 : decode cX11_check 96 = .ok (.if_icmp .ge 12, 3) := by decide +kernel
theorem dX11_check_99 : decode cX11_check 99 = .ok (.aload_n 0, 1) := by decide +kernel
theorem dX11_check_100 : decode cX11_check 100 = .ok (.getfield 43, 3) := by decide +kernel
theorem dX11_check_103 : decode cX11_check 103 = .ok (.iload_n 3, 1) := by decide +kernel
theorem dX11_check_104 : decode cX11_check 104 = .ok (.iaload, 1) := by decide +kernel
theorem dX11_check_105 : decode cX11_check 105 = .ok (.goto 4, 3) := by decide +kernel
theorem dX11_check_108 : decode cX11_check 108 = .ok (.iconst 0, 1) := by decide +kernel
theorem dX11_check_109 : decode cX11_check 109 = .ok (.iastore, 1) := by decide +kernel
theorem dX11_check_110 : decode cX11_check 110 = .ok (.iinc 3 1, 3) := by decide +kernel
theorem dX11_check_113 : decode cX11_check 113 = .ok (.goto (-30), 3) := by decide +kernel
theorem dX11_check_116 : decode cX11_check 116 = .ok (.iconst 0, 1) := by decide +kernel
theorem dX11_check_117 : decode cX11_check 117 = .ok (.istore_n 3, 1) := by decide +kernel
theorem dX11_check_118 : decode cX11_check 118 = .ok (.iload_n 3, 1) := by decide +kernel
theorem dX11_check_119 : decode cX11_check 119 = .ok (.bipush 20, 2) := by decide +kernel
theorem dX11_check_121 : decode cX11_check 121 = .ok (.if_icmp .ge 24, 3) := by decide +kernel
theorem dX11_check_124 : decode cX11_check 124 = .ok (.aload_n 0, 1) := by decide +kernel
theorem dX11_check_125 : decode cX11_check 125 = .ok (.aload_n 0, 1) := by decide +kernel
theorem dX11_check_126 : decode cX11_check 126 = .ok (.getfield 31, 3) := by decide +kernel
theorem dX11_check_129 : decode cX11_check 129 = .ok (.bipush 16, 2) := by decide +kernel
theorem dX11_check_131 : decode cX11_check 131 = .ok (.iload_n 3, 1) := by decide +kernel
theorem dX11_check_132 : decode cX11_check 132 = .ok (.aload_n 1, 1) := by decide +kernel
theorem dX11_check_133 : decode cX11_check 133 = .ok (.iload_n 2, 1) := by decide +kernel
theorem dX11_check_134 : decode cX11_check 134 = .ok (.bipush 16, 2) := by decide +kernel
theorem dX11_check_136 : decode cX11_check 136 = .ok (.invokevirtual 316, 3) := by decide +kernel
theorem dX11_check_139 : decode cX11_check 139 = .ok (.iinc 3 1, 3) := by decide +kernel
theorem dX11_check_142 : decode cX11_check 142 = .ok (.goto (-24), 3) := by decide +kernel
theorem dX11_check_145 : decode cX11_check 145 = .ok (.return_, 1) := by decide +kernel
set_option maxRecDepth 20000 in
theorem ggX11_makeEarly_X11_pad : GoodIn wsX11_makeEarly wsX11_pad := goodIn_ca (goodIn_r _ [14, 7, 15, 90, 91, 92, 93, 94, 95, 96, 97, 98, 99, 100, 101, 102, 103, 104, 105, 106, 107, 108, 109, 110, 111, 112, 113, 114, 115, 116, 117, 118, 119, 120, 121, 122, 123, 124, 125, 126, 127, 128, 129, 130, 131, 132, 133, 134] (by decide +kernel) (by decide +kernel)) (goodIn_sub (fun _ h => List.mem_cons_of_mem _ (List.mem_append_right _ h)) (by decide +kernel))
set_option maxRecDepth 20000 in
theorem gX11_makeEarly_X11_pad : GoodIn wsX11_makeEarly (wsV RX11 326 RX11 yX11_pad wsX11_pad) := goodIn_app (goodIn_of _ (by decide +kernel)) ggX11_makeEarly_X11_pad
set_option maxRecDepth 20000 in
theorem ggX11_makeEarly_X11_makeOwnerKey : GoodIn wsX11_makeEarly wsX11_makeOwnerKey := goodIn_ca (goodIn_r _ [19, 20, 7, 9, 21, 22, 23, 24, 13, 25, 26, 27, 28, 29, 30, 31, 32, 33, 34, 35, 36, 37, 38, 39, 40, 41, 42, 43, 44, 45, 46, 47, 48, 49, 50, 51, 52, 53, 54, 55, 56, 57, 58, 59, 60, 61, 62, 63, 8, 64, 65, 66, 67, 90, 91, 92, 93, 94, 95, 96, 97, 98, 99, 100, 101, 102, 103, 104, 105, 106, 107, 108, 109, 110, 111, 112, 113, 114, 115, 116, 117, 118, 119, 120, 121, 122, 123, 124, 125, 126, 127, 128, 129, 130, 131, 132, 133, 134] (by decide +kernel) (by decide +kernel)) (goodIn_sub (fun _ h => List.mem_cons_of_mem _ (List.mem_append_right _ h)) (by decide +kernel))
set_option maxRecDepth 20000 in
theorem gX11_makeEarly_X11_makeOwnerKey : GoodIn wsX11_makeEarly (wsV RX11 330 RX11 yX11_makeOwnerKey wsX11_makeOwnerKey) := goodIn_app (goodIn_of _ (by decide +kernel)) ggX11_makeEarly_X11_makeOwnerKey
set_option maxRecDepth 20000 in
theorem ggX11_makeEarly_X11_keySize : GoodIn wsX11_makeEarly wsX11_keySize := goodIn_r _ [67, 8, 90, 91, 92, 93, 94, 95, 96, 97, 98, 99, 100, 101, 102, 103, 104, 105, 106, 107, 108, 109, 110, 111, 112, 113, 114, 115, 116, 117, 118, 119, 120, 121, 122, 123, 124, 125, 126, 127, 128, 129, 130, 131, 132, 133, 134] (by decide +kernel) (by decide +kernel)
set_option maxRecDepth 20000 in
theorem gX11_makeEarly_X11_keySize : GoodIn wsX11_makeEarly (wsV RX11 288 RX11 yX11_keySize wsX11_keySize) := goodIn_app (goodIn_of _ (by decide +kernel)) ggX11_makeEarly_X11_keySize
set_option maxRecDepth 20000 in
theorem ggX11_makeEarly_X11_throughStream : GoodIn wsX11_makeEarly wsX11_throughStream := goodIn_ca (goodIn_r _ [71, 72, 90, 91, 92, 93, 94, 95, 96, 97, 98, 99, 100, 101, 102, 103, 104, 105, 106, 107, 108, 109, 110, 111, 112, 113, 114, 115, 116, 117, 118, 119, 120, 121, 122, 123, 124, 125, 126, 127, 128, 129, 130, 131, 132, 133, 134] (by decide +kernel) (by decide +kernel)) (goodIn_sub (fun _ h => List.mem_cons_of_mem _ (List.mem_append_right _ h)) (by decide +kernel))
set_option maxRecDepth 20000 in
theorem gX11_makeEarly_X11_throughStream : GoodIn wsX11_makeEarly (wsV RX11 316 RX11 yX11_throughStream wsX11_throughStream) := goodIn_app (goodIn_of _ (by decide +kernel)) ggX11_makeEarly_X11_throughStream
set_option maxRecDepth 20000 in
theorem ggX11_makeEarly_X11_makeKey : GoodIn wsX11_makeEarly wsX11_makeKey := goodIn_ca (goodIn_r _ [76, 20, 7, 6, 77, 78, 79, 8, 80, 81, 21, 22, 23, 24, 13, 25, 26, 27, 28, 29, 30, 82, 83, 84, 85, 31, 32, 33, 34, 35, 36, 37, 38, 39, 40, 41, 42, 43, 44, 45, 46, 47, 48, 49, 50, 51, 52, 53, 54, 55, 56, 57, 58, 59, 60, 61, 62, 63, 64, 65, 66, 67, 90, 91, 92, 93, 94, 95, 96, 97, 98, 99, 100, 101, 102, 103, 104, 105, 106, 107, 108, 109, 110, 111, 112, 113, 114, 115, 116, 117, 118, 119, 120, 121, 122, 123, 124, 125, 126, 127, 128, 129, 130, 131, 132, 133, 134] (by decide +kernel) (by decide +kernel)) (goodIn_sub (fun _ h => List.mem_cons_of_mem _ (List.mem_append_right _ h)) (by decide +kernel))
set_option maxRecDepth 20000 in
theorem gX11_makeEarly_X11_makeKey : GoodIn wsX11_makeEarly (wsV RX11 333 RX11 yX11_makeKey wsX11_makeKey) := goodIn_app (goodIn_of _ (by decide +kernel)) ggX11_makeEarly_X11_makeKey
set_option maxRecDepth 20000 in
theorem ggX11_makeEarly_X11_check : GoodIn wsX11_makeEarly wsX11_check := goodIn_ca (goodIn_r _ [89, 8, 15, 81, 20, 78, 79, 21, 68, 69, 70, 13, 71, 72, 22, 23, 24, 25, 26, 27, 28, 29, 30, 31, 32, 33, 34, 35, 36, 37, 38, 39, 40, 41, 42, 43, 44, 45, 46, 47, 48, 49, 50, 51, 52, 53, 54, 55, 56, 57, 58, 59, 90, 91, 92, 93, 94, 95, 96, 97, 98, 99, 100, 101, 102, 103, 104, 105, 106, 107, 108, 109, 110, 111, 112, 113, 114, 115, 116, 117, 118, 119, 120, 121, 122, 123, 124, 125, 126, 127, 128, 129, 130, 131, 132, 133, 134] (by decide +kernel) (by decide +kernel)) (goodIn_sub (fun _ h => List.mem_cons_of_mem _ (List.mem_append_right _ h)) (by decide +kernel))
set_option maxRecDepth 20000 in
theorem gX11_makeEarly_X11_check : GoodIn wsX11_makeEarly (wsV RX11 336 RX11 yX11_check wsX11_check) := goodIn_app (goodIn_of _ (by decide +kernel)) ggX11_makeEarly_X11_check
theorem dX11_makeEarly_0 : decode cX11_makeEarly 0 = .ok (.aload_n 0, 1) := by decide +kernel
theorem dX11_makeEarly_1 : decode cX11_makeEarly 1 = .ok (.getfield 28, 3) := by decide +kernel
theorem dX11_makeEarly_4 : decode cX11_makeEarly 4 = .ok (.iconst 0, 1) := by decide +kernel
theorem dX11_makeEarly_5 : decode cX11_makeEarly 5 = .ok (.bipush 32, 2) := by decide +kernel
theorem dX11_makeEarly_7 : decode cX11_makeEarly 7 = .ok (.iastore, 1) := by decide +kernel
theorem dX11_makeEarly_8 : decode cX11_makeEarly 8 = .ok (.aload_n 0, 1) := by decide +kernel
theorem dX11_makeEarly_9 : decode cX11_makeEarly 9 = .ok (.getfield 28, 3) := by decide +kernel
theorem dX11_makeEarly_12 : decode cX11_makeEarly 12 = .ok (.iconst 1, 1) := by decide +kernel
theorem dX11_makeEarly_13 : decode cX11_makeEarly 13 = .ok (.bipush 32, 2) := by decide +kernel
theorem dX11_makeEarly_15 : decode cX11_makeEarly 15 = .ok (.iastore, 1) := by decide +kernel
theorem dX11_makeEarly_16 : decode cX11_makeEarly 16 = .ok (.aload_n 0, 1) := by decide +kernel
theorem dX11_makeEarly_17 : decode cX11_makeEarly 17 = .ok (.getfield 320, 3) := by decide +kernel
theorem dX11_makeEarly_20 : decode cX11_makeEarly 20 = .ok (.ifCond .ne 18, 3) := by decide +kernel
theorem dX11_makeEarly_23 : decode cX11_makeEarly 23 = .ok (.aload_n 0, 1) := by decide +kernel
theorem dX11_makeEarly_24 : decode cX11_makeEarly 24 = .ok (.aload_n 0, 1) := by decide +kernel
theorem dX11_makeEarly_25 : decode cX11_makeEarly 25 = .ok (.getfield 7, 3) := by decide +kernel
theorem dX11_makeEarly_28 : decode cX11_makeEarly 28 = .ok (.aload_n 0, 1) := by decide +kernel
theorem dX11_makeEarly_29 : decode cX11_makeEarly 29 = .ok (.getfield 323, 3) := by decide +kernel
theorem dX11_makeEarly_32 : decode cX11_makeEarly 32 = .ok (.invokevirtual 326, 3) := by decide +kernel
theorem dX11_makeEarly_35 : decode cX11_makeEarly 35 = .ok (.goto 15, 3) := by decide +kernel
theorem dX11_makeEarly_38 : decode cX11_makeEarly 38 = .ok (.aload_n 0, 1) := by decide +kernel
theorem dX11_makeEarly_39 : decode cX11_makeEarly 39 = .ok (.aload_n 0, 1) := by decide +kernel
theorem dX11_makeEarly_40 : decode cX11_makeEarly 40 = .ok (.getfield 13, 3) := by decide +kernel
theorem dX11_makeEarly_43 : decode cX11_makeEarly 43 = .ok (.aload_n 0, 1) := by decide +kernel
theorem dX11_makeEarly_44 : decode cX11_makeEarly 44 = .ok (.getfield 320, 3) := by decide +kernel
theorem dX11_makeEarly_47 : decode cX11_makeEarly 47 = .ok (.invokevirtual 326, 3) := by decide +kernel
theorem dX11_makeEarly_50 : decode cX11_makeEarly 50 = .ok (.aload_n 0, 1) := by decide +kernel
theorem dX11_makeEarly_51 : decode cX11_makeEarly 51 = .ok (.invokevirtual 330, 3) := by decide +kernel
theorem dX11_makeEarly_54 : decode cX11_makeEarly 54 = .ok (.aload_n 0, 1) := by decide +kernel
theorem dX11_makeEarly_55 : decode cX11_makeEarly 55 = .ok (.aload_n 0, 1) := by decide +kernel
theorem dX11_makeEarly_56 : decode cX11_makeEarly 56 = .ok (.getfield 7, 3) := by decide +kernel
theorem dX11_makeEarly_59 : decode cX11_makeEarly 59 = .ok (.aload_n 0, 1) := by decide +kernel
theorem dX11_makeEarly_60 : decode cX11_makeEarly 60 = .ok (.getfield 323, 3) := by decide +kernel
theorem dX11_makeEarly_63 : decode cX11_makeEarly 63 = .ok (.invokevirtual 326, 3) := by decide +kernel
theorem dX11_makeEarly_66 : decode cX11_makeEarly 66 = .ok (.iconst 0, 1) := by decide +kernel
theorem dX11_makeEarly_67 : decode cX11_makeEarly 67 = .ok (.istore_n 1, 1) := by decide +kernel
theorem dX11_makeEarly_68 : decode cX11_makeEarly 68 = .ok (.iload_n 1, 1) := by decide +kernel
theorem dX11_makeEarly_69 : decode cX11_makeEarly 69 = .ok (.bipush 32, 2) := by decide +kernel
theorem dX11_makeEarly_71 : decode cX11_makeEarly 71 = .ok (.if_icmp .ge 21, 3) := by decide +kernel
theorem dX11_makeEarly_74 : decode cX11_makeEarly 74 = .ok (.aload_n 0, 1) := by decide +kernel
theorem dX11_makeEarly_75 : decode cX11_makeEarly 75 = .ok (.getfield 25, 3) := by decide +kernel
theorem dX11_makeEarly_78 : decode cX11_makeEarly 78 = .ok (.iload_n 1, 1) := by decide +kernel
theorem dX11_makeEarly_79 : decode cX11_makeEarly 79 = .ok (.aload_n 0, 1) := by decide +kernel
theorem dX11_makeEarly_80 : decode cX11_makeEarly 80 = .ok (.getfield 213, 3) := by decide +kernel
theorem dX11_makeEarly_83 : decode cX11_makeEarly 83 = .ok (.iload_n 1, 1) := by decide +kernel
theorem dX11_makeEarly_84 : decode cX11_makeEarly 84 = .ok (.iaload, 1) := by decide +kernel
theorem dX11_makeEarly_85 : decode cX11_makeEarly 85 = .ok (.iastore, 1) := by decide +kernel
theorem dX11_makeEarly_86 : decode cX11_makeEarly 86 = .ok (.iinc 1 1, 3) := by decide +kernel
theorem dX11_makeEarly_89 : decode cX11_makeEarly 89 = .ok (.goto (-21), 3) := by decide +kernel
theorem dX11_makeEarly_92 : decode cX11_makeEarly 92 = .ok (.iconst 0, 1) := by decide +kernel
theorem dX11_makeEarly_93 : decode cX11_makeEarly 93 = .ok (.istore_n 1, 1) := by decide +kernel
theorem dX11_makeEarly_94 : decode cX11_makeEarly 94 = .ok (.iload_n 1, 1) := by decide +kernel
theorem dX11_makeEarly_95 : decode cX11_makeEarly 95 = .ok (.bipush 20, 2) := by decide +kernel
theorem dX11_makeEarly_97 : decode cX11_makeEarly 97 = .ok (.if_icmp .ge 41, 3) := by decide +kernel
theorem dX11_makeEarly_100 : decode cX11_makeEarly 100 = .ok (.iload_n 1, 1) := by decide +kernel
theorem dX11_makeEarly_101 : decode cX11_makeEarly 101 = .ok (.ifCond .eq 11, 3) := by decide +kernel
theorem dX11_makeEarly_104 : decode cX11_makeEarly 104 = .ok (.aload_n 0, 1) := by decide +kernel
theorem dX11_makeEarly_105 : decode cX11_makeEarly 105 = .ok (.getfield 219, 3) := by decide +kernel
theorem dX11_makeEarly_108 : decode cX11_makeEarly 108 = .ok (.iconst 2, 1) := by decide +kernel
theorem dX11_makeEarly_109 : decode cX11_makeEarly 109 = .ok (.if_icmp .le 23, 3) := by decide +kernel
theorem dX11_makeEarly_112 : decode cX11_makeEarly 112 = .ok (.aload_n 0, 1) := by decide +kernel
theorem dX11_makeEarly_113 : decode cX11_makeEarly 113 = .ok (.aload_n 0, 1) := by decide +kernel
theorem dX11_makeEarly_114 : decode cX11_makeEarly 114 = .ok (.getfield 216, 3) := by decide +kernel
theorem dX11_makeEarly_117 : decode cX11_makeEarly 117 = .ok (.aload_n 0, 1) := by decide +kernel
theorem dX11_makeEarly_118 : decode cX11_makeEarly 118 = .ok (.invokevirtual 288, 3) := by decide +kernel
theorem dX11_makeEarly_121 : decode cX11_makeEarly 121 = .ok (.iload_n 1, 1) := by decide +kernel
theorem dX11_makeEarly_122 : decode cX11_makeEarly 122 = .ok (.aload_n 0, 1) := by decide +kernel
theorem dX11_makeEarly_123 : decode cX11_makeEarly 123 = .ok (.getfield 25, 3) := by decide +kernel
theorem dX11_makeEarly_126 : decode cX11_makeEarly 126 = .ok (.iconst 0, 1) := by decide +kernel
theorem dX11_makeEarly_127 : decode cX11_makeEarly 127 = .ok (.bipush 32, 2) := by decide +kernel
theorem dX11_makeEarly_129 : decode cX11_makeEarly 129 = .ok (.invokevirtual 316, 3) := by decide +kernel
theorem dX11_makeEarly_132 : decode cX11_makeEarly 132 = .ok (.iinc 1 1, 3) := by decide +kernel
theorem dX11_makeEarly_135 : decode cX11_makeEarly 135 = .ok (.goto (-41), 3) := by decide +kernel
theorem dX11_makeEarly_138 : decode cX11_makeEarly 138 = .ok (.aload_n 0, 1) := by decide +kernel
theorem dX11_makeEarly_139 : decode cX11_makeEarly 139 = .ok (.invokevirtual 333, 3) := by decide +kernel
theorem dX11_makeEarly_142 : decode cX11_makeEarly 142 = .ok (.aload_n 0, 1) := by decide +kernel
theorem dX11_makeEarly_143 : decode cX11_makeEarly 143 = .ok (.aload_n 0, 1) := by decide +kernel
theorem dX11_makeEarly_144 : decode cX11_makeEarly 144 = .ok (.getfield 25, 3) := by decide +kernel
theorem dX11_makeEarly_147 : decode cX11_makeEarly 147 = .ok (.bipush 48, 2) := by decide +kernel
theorem dX11_makeEarly_149 : decode cX11_makeEarly 149 = .ok (.invokevirtual 336, 3) := by decide +kernel
theorem dX11_makeEarly_152 : decode cX11_makeEarly 152 = .ok (.iconst 2, 1) := by decide +kernel
theorem dX11_makeEarly_153 : decode cX11_makeEarly 153 = .ok (.ireturn, 1) := by decide +kernel
set_option maxRecDepth 20000 in
theorem ggX11_opensEarly_X11_makeKey : GoodIn wsX11_opensEarly wsX11_makeKey := goodIn_ca (goodIn_r _ [8, 9, 10, 3, 11, 12, 13, 2, 14, 15, 16, 17, 18, 19, 7, 20, 21, 22, 23, 24, 25, 26, 27, 28, 29, 30, 31, 32, 33, 34, 35, 36, 37, 38, 39, 40, 41, 42, 43, 44, 45, 46, 47, 48, 49, 50, 51, 52, 53, 54, 55, 56, 57, 58, 59, 60, 61, 62, 63, 64, 65, 66, 77, 78, 79, 80, 81, 82, 83, 84, 85, 86, 87, 88, 89, 90, 91, 92, 93, 94, 95, 96, 97, 98, 99, 100, 101, 102, 103, 104, 105, 106, 107, 108, 109, 110, 111, 112, 113, 114, 115, 116, 117, 118, 119, 120, 121] (by decide +kernel) (by decide +kernel)) (goodIn_sub (fun _ h => List.mem_cons_of_mem _ (List.mem_append_right _ h)) (by decide +kernel))
set_option maxRecDepth 20000 in
theorem gX11_opensEarly_X11_makeKey : GoodIn wsX11_opensEarly (wsV RX11 333 RX11 yX11_makeKey wsX11_makeKey) := goodIn_app (goodIn_of _ (by decide +kernel)) ggX11_opensEarly_X11_makeKey
set_option maxRecDepth 20000 in
theorem ggX11_opensEarly_X11_check : GoodIn wsX11_opensEarly wsX11_check := goodIn_ca (goodIn_r _ [70, 2, 71, 15, 9, 12, 13, 16, 72, 73, 74, 7, 75, 76, 17, 18, 19, 20, 21, 22, 23, 24, 25, 30, 31, 32, 33, 34, 35, 36, 37, 38, 39, 40, 41, 42, 43, 44, 45, 46, 47, 48, 49, 50, 51, 52, 53, 54, 55, 56, 57, 58, 77, 78, 79, 80, 81, 82, 83, 84, 85, 86, 87, 88, 89, 90, 91, 92, 93, 94, 95, 96, 97, 98, 99, 100, 101, 102, 103, 104, 105, 106, 107, 108, 109, 110, 111, 112, 113, 114, 115, 116, 117, 118, 119, 120, 121] (by decide +kernel) (by decide +kernel)) (goodIn_sub (fun _ h => List.mem_cons_of_mem _ (List.mem_append_right _ h)) (by decide +kernel))
set_option maxRecDepth 20000 in
theorem gX11_opensEarly_X11_check : GoodIn wsX11_opensEarly (wsV RX11 336 RX11 yX11_check wsX11_check) := goodIn_app (goodIn_of _ (by decide +kernel)) ggX11_opensEarly_X11_check
theorem dX11_opensEarly_0 : decode cX11_opensEarly 0 = .ok (.aload_n 0, 1) := by decide +kernel
theorem dX11_opensEarly_1 : decode cX11_opensEarly 1 = .ok (.invokevirtual 333, 3) := by decide +kernel
theorem dX11_opensEarly_4 : decode cX11_opensEarly 4 = .ok (.aload_n 0, 1) := by decide +kernel
theorem dX11_opensEarly_5 : decode cX11_opensEarly 5 = .ok (.aload_n 0, 1) := by decide +kernel
theorem dX11_opensEarly_6 : decode cX11_opensEarly 6 = .ok (.getfield 210, 3) := by decide +kernel
theorem dX11_opensEarly_9 : decode cX11_opensEarly 9 = .ok (.iconst 0, 1) := by decide +kernel
theorem dX11_opensEarly_10 : decode cX11_opensEarly 10 = .ok (.invokevirtual 336, 3) := by decide +kernel
theorem dX11_opensEarly_13 : decode cX11_opensEarly 13 = .ok (.iconst 1, 1) := by decide +kernel
theorem dX11_opensEarly_14 : decode cX11_opensEarly 14 = .ok (.istore_n 1, 1) := by decide +kernel
theorem dX11_opensEarly_15 : decode cX11_opensEarly 15 = .ok (.iconst 0, 1) := by decide +kernel
theorem dX11_opensEarly_16 : decode cX11_opensEarly 16 = .ok (.istore_n 2, 1) := by decide +kernel
theorem dX11_opensEarly_17 : decode cX11_opensEarly 17 = .ok (.iload_n 2, 1) := by decide +kernel
theorem dX11_opensEarly_18 : decode cX11_opensEarly 18 = .ok (.aload_n 0, 1) := by decide +kernel
theorem dX11_opensEarly_19 : decode cX11_opensEarly 19 = .ok (.getfield 219, 3) := by decide +kernel
theorem dX11_opensEarly_22 : decode cX11_opensEarly 22 = .ok (.iconst 2, 1) := by decide +kernel
theorem dX11_opensEarly_23 : decode cX11_opensEarly 23 = .ok (.if_icmp .ne 8, 3) := by decide +kernel
theorem dX11_opensEarly_26 : decode cX11_opensEarly 26 = .ok (.bipush 32, 2) := by decide +kernel
theorem dX11_opensEarly_28 : decode cX11_opensEarly 28 = .ok (.goto 5, 3) := by decide +kernel
theorem dX11_opensEarly_31 : decode cX11_opensEarly 31 = .ok (.bipush 16, 2) := by decide +kernel
theorem dX11_opensEarly_33 : decode cX11_opensEarly 33 = .ok (.if_icmp .ge 37, 3) := by decide +kernel
theorem dX11_opensEarly_36 : decode cX11_opensEarly 36 = .ok (.iload_n 1, 1) := by decide +kernel
theorem dX11_opensEarly_37 : decode cX11_opensEarly 37 = .ok (.ifCond .eq 25, 3) := by decide +kernel
theorem dX11_opensEarly_40 : decode cX11_opensEarly 40 = .ok (.aload_n 0, 1) := by decide +kernel
theorem dX11_opensEarly_41 : decode cX11_opensEarly 41 = .ok (.getfield 210, 3) := by decide +kernel
theorem dX11_opensEarly_44 : decode cX11_opensEarly 44 = .ok (.iload_n 2, 1) := by decide +kernel
theorem dX11_opensEarly_45 : decode cX11_opensEarly 45 = .ok (.iaload, 1) := by decide +kernel
theorem dX11_opensEarly_46 : decode cX11_opensEarly 46 = .ok (.aload_n 0, 1) := by decide +kernel
theorem dX11_opensEarly_47 : decode cX11_opensEarly 47 = .ok (.getfield 25, 3) := by decide +kernel
theorem dX11_opensEarly_50 : decode cX11_opensEarly 50 = .ok (.bipush 48, 2) := by decide +kernel
theorem dX11_opensEarly_52 : decode cX11_opensEarly 52 = .ok (.iload_n 2, 1) := by decide +kernel
theorem dX11_opensEarly_53 : decode cX11_opensEarly 53 = .ok (.iadd, 1) := by decide +kernel
theorem dX11_opensEarly_54 : decode cX11_opensEarly 54 = .ok (.iaload, 1) := by decide +kernel
theorem dX11_opensEarly_55 : decode cX11_opensEarly 55 = .ok (.if_icmp .ne 7, 3) := by decide +kernel
theorem dX11_opensEarly_58 : decode cX11_opensEarly 58 = .ok (.iconst 1, 1) := by decide +kernel
theorem dX11_opensEarly_59 : decode cX11_opensEarly 59 = .ok (.goto 4, 3) := by decide +kernel
theorem dX11_opensEarly_62 : decode cX11_opensEarly 62 = .ok (.iconst 0, 1) := by decide +kernel
theorem dX11_opensEarly_63 : decode cX11_opensEarly 63 = .ok (.istore_n 1, 1) := by decide +kernel
theorem dX11_opensEarly_64 : decode cX11_opensEarly 64 = .ok (.iinc 2 1, 3) := by decide +kernel
theorem dX11_opensEarly_67 : decode cX11_opensEarly 67 = .ok (.goto (-50), 3) := by decide +kernel
theorem dX11_opensEarly_70 : decode cX11_opensEarly 70 = .ok (.iload_n 1, 1) := by decide +kernel
theorem dX11_opensEarly_71 : decode cX11_opensEarly 71 = .ok (.ireturn, 1) := by decide +kernel
set_option maxRecDepth 20000 in
theorem ggX11_openEarly_X11_pad : GoodIn wsX11_openEarly wsX11_pad := goodIn_ca (goodIn_r _ [11, 3, 12, 92, 93, 94, 95, 96, 97, 98, 99, 100, 101, 102, 103, 104, 105, 106, 107, 108, 109, 110, 111, 112, 113, 114, 115, 116, 117, 118, 119, 120, 121, 122, 123, 124, 125, 126, 127, 128, 129, 130, 131, 132, 133, 134, 135, 136] (by decide +kernel) (by decide +kernel)) (goodIn_sub (fun _ h => List.mem_cons_of_mem _ (List.mem_append_right _ h)) (by decide +kernel))
set_option maxRecDepth 20000 in
theorem gX11_openEarly_X11_pad : GoodIn wsX11_openEarly (wsV RX11 326 RX11 yX11_pad wsX11_pad) := goodIn_app (goodIn_of _ (by decide +kernel)) ggX11_openEarly_X11_pad
set_option maxRecDepth 20000 in
theorem ggX11_openEarly_X11_opensEarly : GoodIn wsX11_openEarly wsX11_opensEarly := goodIn_ca (goodIn_r _ [16, 17, 5, 4, 18, 19, 20, 10, 21, 22, 3, 23, 24, 25, 26, 27, 28, 29, 30, 31, 32, 33, 34, 35, 36, 37, 38, 39, 40, 41, 42, 43, 44, 45, 46, 47, 48, 49, 50, 51, 52, 53, 54, 55, 56, 57, 58, 59, 60, 61, 62, 63, 64, 65, 66, 67, 68, 69, 70, 71, 72, 73, 74, 75, 76, 77, 78, 79, 80, 81, 82, 12, 83, 84, 85, 86, 87, 92, 93, 94, 95, 96, 97, 98, 99, 100, 101, 102, 103, 104, 105, 106, 107, 108, 109, 110, 111, 112, 113, 114, 115, 116, 117, 118, 119, 120, 121, 122, 123, 124, 125, 126, 127, 128, 129, 130, 131, 132, 133, 134, 135, 136] (by decide +kernel) (by decide +kernel)) (goodIn_sub (fun _ h => List.mem_cons_of_mem _ (List.mem_append_right _ h)) (by decide +kernel))
set_option maxRecDepth 20000 in
theorem gX11_openEarly_X11_opensEarly : GoodIn wsX11_openEarly (wsV RX11 342 RX11 yX11_opensEarly wsX11_opensEarly) := goodIn_app (goodIn_of _ (by decide +kernel)) ggX11_openEarly_X11_opensEarly
set_option maxRecDepth 20000 in
theorem ggX11_openEarly_X11_makeOwnerKey : GoodIn wsX11_openEarly wsX11_makeOwnerKey := goodIn_ca (goodIn_r _ [91, 22, 3, 6, 28, 29, 30, 31, 10, 32, 33, 34, 35, 36, 37, 42, 43, 44, 45, 46, 47, 48, 49, 50, 51, 52, 53, 54, 55, 56, 57, 58, 59, 60, 61, 62, 63, 64, 65, 66, 67, 68, 69, 70, 71, 72, 73, 74, 5, 75, 76, 77, 78, 92, 93, 94, 95, 96, 97, 98, 99, 100, 101, 102, 103, 104, 105, 106, 107, 108, 109, 110, 111, 112, 113, 114, 115, 116, 117, 118, 119, 120, 121, 122, 123, 124, 125, 126, 127, 128, 129, 130, 131, 132, 133, 134, 135, 136] (by decide +kernel) (by decide +kernel)) (goodIn_sub (fun _ h => List.mem_cons_of_mem _ (List.mem_append_right _ h)) (by decide +kernel))
set_option maxRecDepth 20000 in
theorem gX11_openEarly_X11_makeOwnerKey : GoodIn wsX11_openEarly (wsV RX11 330 RX11 yX11_makeOwnerKey wsX11_makeOwnerKey) := goodIn_app (goodIn_of _ (by decide +kernel)) ggX11_openEarly_X11_makeOwnerKey
set_option maxRecDepth 20000 in
theorem ggX11_openEarly_X11_keySize : GoodIn wsX11_openEarly wsX11_keySize := goodIn_r _ [78, 5, 92, 93, 94, 95, 96, 97, 98, 99, 100, 101, 102, 103, 104, 105, 106, 107, 108, 109, 110, 111, 112, 113, 114, 115, 116, 117, 118, 119, 120, 121, 122, 123, 124, 125, 126, 127, 128, 129, 130, 131, 132, 133, 134, 135, 136] (by decide +kernel) (by decide +kernel)
set_option maxRecDepth 20000 in
theorem gX11_openEarly_X11_keySize : GoodIn wsX11_openEarly (wsV RX11 288 RX11 yX11_keySize wsX11_keySize) := goodIn_app (goodIn_of _ (by decide +kernel)) ggX11_openEarly_X11_keySize
set_option maxRecDepth 20000 in
theorem ggX11_openEarly_X11_throughStream : GoodIn wsX11_openEarly wsX11_throughStream := goodIn_ca (goodIn_r _ [86, 87, 92, 93, 94, 95, 96, 97, 98, 99, 100, 101, 102, 103, 104, 105, 106, 107, 108, 109, 110, 111, 112, 113, 114, 115, 116, 117, 118, 119, 120, 121, 122, 123, 124, 125, 126, 127, 128, 129, 130, 131, 132, 133, 134, 135, 136] (by decide +kernel) (by decide +kernel)) (goodIn_sub (fun _ h => List.mem_cons_of_mem _ (List.mem_append_right _ h)) (by decide +kernel))
set_option maxRecDepth 20000 in
theorem gX11_openEarly_X11_throughStream : GoodIn wsX11_openEarly (wsV RX11 316 RX11 yX11_throughStream wsX11_throughStream) := goodIn_app (goodIn_of _ (by decide +kernel)) ggX11_openEarly_X11_throughStream
theorem dX11_openEarly_0 : decode cX11_openEarly 0 = .ok (.aload_n 0, 1) := by decide +kernel
theorem dX11_openEarly_1 : decode cX11_openEarly 1 = .ok (.aload_n 0, 1) := by decide +kernel
theorem dX11_openEarly_2 : decode cX11_openEarly 2 = .ok (.getfield 16, 3) := by decide +kernel
theorem dX11_openEarly_5 : decode cX11_openEarly 5 = .ok (.aload_n 0, 1) := by decide +kernel
theorem dX11_openEarly_6 : decode cX11_openEarly 6 = .ok (.getfield 339, 3) := by decide +kernel
theorem dX11_openEarly_9 : decode cX11_openEarly 9 = .ok (.invokevirtual 326, 3) := by decide +kernel
theorem dX11_openEarly_12 : decode cX11_openEarly 12 = .ok (.aload_n 0, 1) := by decide +kernel
theorem dX11_openEarly_13 : decode cX11_openEarly 13 = .ok (.invokevirtual 342, 3) := by decide +kernel
theorem dX11_openEarly_16 : decode cX11_openEarly 16 = .ok (.ifCond .eq 5, 3) := by decide +kernel
theorem dX11_openEarly_19 : decode cX11_openEarly 19 = .ok (.iconst 1, 1) := by decide +kernel
theorem dX11_openEarly_20 : decode cX11_openEarly 20 = .ok (.ireturn, 1) := by decide +kernel
theorem dX11_openEarly_21 : decode cX11_openEarly 21 = .ok (.aload_n 0, 1) := by decide +kernel
theorem dX11_openEarly_22 : decode cX11_openEarly 22 = .ok (.aload_n 0, 1) := by decide +kernel
theorem dX11_openEarly_23 : decode cX11_openEarly 23 = .ok (.getfield 16, 3) := by decide +kernel
theorem dX11_openEarly_26 : decode cX11_openEarly 26 = .ok (.aload_n 0, 1) := by decide +kernel
theorem dX11_openEarly_27 : decode cX11_openEarly 27 = .ok (.getfield 339, 3) := by decide +kernel
theorem dX11_openEarly_30 : decode cX11_openEarly 30 = .ok (.invokevirtual 326, 3) := by decide +kernel
theorem dX11_openEarly_33 : decode cX11_openEarly 33 = .ok (.aload_n 0, 1) := by decide +kernel
theorem dX11_openEarly_34 : decode cX11_openEarly 34 = .ok (.invokevirtual 330, 3) := by decide +kernel
theorem dX11_openEarly_37 : decode cX11_openEarly 37 = .ok (.iconst 0, 1) := by decide +kernel
theorem dX11_openEarly_38 : decode cX11_openEarly 38 = .ok (.istore_n 1, 1) := by decide +kernel
theorem dX11_openEarly_39 : decode cX11_openEarly 39 = .ok (.iload_n 1, 1) := by decide +kernel
theorem dX11_openEarly_40 : decode cX11_openEarly 40 = .ok (.bipush 32, 2) := by decide +kernel
theorem dX11_openEarly_42 : decode cX11_openEarly 42 = .ok (.if_icmp .ge 21, 3) := by decide +kernel
theorem dX11_openEarly_45 : decode cX11_openEarly 45 = .ok (.aload_n 0, 1) := by decide +kernel
theorem dX11_openEarly_46 : decode cX11_openEarly 46 = .ok (.getfield 213, 3) := by decide +kernel
theorem dX11_openEarly_49 : decode cX11_openEarly 49 = .ok (.iload_n 1, 1) := by decide +kernel
theorem dX11_openEarly_50 : decode cX11_openEarly 50 = .ok (.aload_n 0, 1) := by decide +kernel
theorem dX11_openEarly_51 : decode cX11_openEarly 51 = .ok (.getfield 25, 3) := by decide +kernel
theorem dX11_openEarly_54 : decode cX11_openEarly 54 = .ok (.iload_n 1, 1) := by decide +kernel
theorem dX11_openEarly_55 : decode cX11_openEarly 55 = .ok (.iaload, 1) := by decide +kernel
theorem dX11_openEarly_56 : decode cX11_openEarly 56 = .ok (.iastore, 1) := by decide +kernel
theorem dX11_openEarly_57 : decode cX11_openEarly 57 = .ok (.iinc 1 1, 3) := by decide +kernel
theorem dX11_openEarly_60 : decode cX11_openEarly 60 = .ok (.goto (-21), 3) := by decide +kernel
theorem dX11_openEarly_63 : decode cX11_openEarly 63 = .ok (.bipush 19, 2) := by decide +kernel
theorem dX11_openEarly_65 : decode cX11_openEarly 65 = .ok (.istore_n 1, 1) := by decide +kernel
theorem dX11_openEarly_66 : decode cX11_openEarly 66 = .ok (.iload_n 1, 1) := by decide +kernel
theorem dX11_openEarly_67 : decode cX11_openEarly 67 = .ok (.ifCond .lt 41, 3) := by decide +kernel
theorem dX11_openEarly_70 : decode cX11_openEarly 70 = .ok (.iload_n 1, 1) := by decide +kernel
theorem dX11_openEarly_71 : decode cX11_openEarly 71 = .ok (.ifCond .eq 11, 3) := by decide +kernel
theorem dX11_openEarly_74 : decode cX11_openEarly 74 = .ok (.aload_n 0, 1) := by decide +kernel
theorem dX11_openEarly_75 : decode cX11_openEarly 75 = .ok (.getfield 219, 3) := by decide +kernel
theorem dX11_openEarly_78 : decode cX11_openEarly 78 = .ok (.iconst 2, 1) := by decide +kernel
theorem dX11_openEarly_79 : decode cX11_openEarly 79 = .ok (.if_icmp .le 23, 3) := by decide +kernel
theorem dX11_openEarly_82 : decode cX11_openEarly 82 = .ok (.aload_n 0, 1) := by decide +kernel
theorem dX11_openEarly_83 : decode cX11_openEarly 83 = .ok (.aload_n 0, 1) := by decide +kernel
theorem dX11_openEarly_84 : decode cX11_openEarly 84 = .ok (.getfield 216, 3) := by decide +kernel
theorem dX11_openEarly_87 : decode cX11_openEarly 87 = .ok (.aload_n 0, 1) := by decide +kernel
theorem dX11_openEarly_88 : decode cX11_openEarly 88 = .ok (.invokevirtual 288, 3) := by decide +kernel
theorem dX11_openEarly_91 : decode cX11_openEarly 91 = .ok (.iload_n 1, 1) := by decide +kernel
theorem dX11_openEarly_92 : decode cX11_openEarly 92 = .ok (.aload_n 0, 1) := by decide +kernel
theorem dX11_openEarly_93 : decode cX11_openEarly 93 = .ok (.getfield 213, 3) := by decide +kernel
theorem dX11_openEarly_96 : decode cX11_openEarly 96 = .ok (.iconst 0, 1) := by decide +kernel
theorem dX11_openEarly_97 : decode cX11_openEarly 97 = .ok (.bipush 32, 2) := by decide +kernel
theorem dX11_openEarly_99 : decode cX11_openEarly 99 = .ok (.invokevirtual 316, 3) := by decide +kernel
theorem dX11_openEarly_102 : decode cX11_openEarly 102 = .ok (.iinc 1 (-1), 3) := by decide +kernel
theorem dX11_openEarly_105 : decode cX11_openEarly 105 = .ok (.goto (-39), 3) := by decide +kernel
theorem dX11_openEarly_108 : decode cX11_openEarly 108 = .ok (.aload_n 0, 1) := by decide +kernel
theorem dX11_openEarly_109 : decode cX11_openEarly 109 = .ok (.invokevirtual 342, 3) := by decide +kernel
theorem dX11_openEarly_112 : decode cX11_openEarly 112 = .ok (.ifCond .eq 7, 3) := by decide +kernel
theorem dX11_openEarly_115 : decode cX11_openEarly 115 = .ok (.iconst 2, 1) := by decide +kernel
theorem dX11_openEarly_116 : decode cX11_openEarly 116 = .ok (.goto 4, 3) := by decide +kernel
theorem dX11_openEarly_119 : decode cX11_openEarly 119 = .ok (.iconst 0, 1) := by decide +kernel
theorem dX11_openEarly_120 : decode cX11_openEarly 120 = .ok (.ireturn, 1) := by decide +kernel
theorem dX11_nextByte_0 : decode cX11_nextByte 0 = .ok (.aload_n 0, 1) := by decide +kernel
theorem dX11_nextByte_1 : decode cX11_nextByte 1 = .ok (.dup, 1) := by decide +kernel
theorem dX11_nextByte_2 : decode cX11_nextByte 2 = .ok (.getfield 346, 3) := by decide +kernel
theorem dX11_nextByte_5 : decode cX11_nextByte 5 = .ok (.iconst 1, 1) := by decide +kernel
theorem dX11_nextByte_6 : decode cX11_nextByte 6 = .ok (.iadd, 1) := by decide +kernel
theorem dX11_nextByte_7 : decode cX11_nextByte 7 = .ok (.putfield 346, 3) := by decide +kernel
theorem dX11_nextByte_10 : decode cX11_nextByte 10 = .ok (.aload_n 0, 1) := by decide +kernel
theorem dX11_nextByte_11 : decode cX11_nextByte 11 = .ok (.getfield 22, 3) := by decide +kernel
theorem dX11_nextByte_14 : decode cX11_nextByte 14 = .ok (.aload_n 0, 1) := by decide +kernel
theorem dX11_nextByte_15 : decode cX11_nextByte 15 = .ok (.getfield 346, 3) := by decide +kernel
theorem dX11_nextByte_18 : decode cX11_nextByte 18 = .ok (.iconst 1, 1) := by decide +kernel
theorem dX11_nextByte_19 : decode cX11_nextByte 19 = .ok (.isub, 1) := by decide +kernel
theorem dX11_nextByte_20 : decode cX11_nextByte 20 = .ok (.iaload, 1) := by decide +kernel
theorem dX11_nextByte_21 : decode cX11_nextByte 21 = .ok (.ireturn, 1) := by decide +kernel
set_option maxRecDepth 20000 in
theorem ggX11_hashWord_X11_sayRow : GoodIn wsX11_hashWord wsX11_sayRow := goodIn_ca (goodIn_r _ [7, 8, 9, 10, 6, 11, 12, 1, 45, 46, 47, 48, 49, 50, 51, 52, 53, 54, 55, 56, 57, 58, 59, 60, 61, 62, 63, 64, 65, 66, 67, 68, 69, 70, 71, 72, 73, 74, 75, 76, 77, 78, 79, 80, 81, 82, 83, 84, 85, 86, 87, 88, 89] (by decide +kernel) (by decide +kernel)) (goodIn_sub (fun _ h => List.mem_cons_of_mem _ (List.mem_append_right _ h)) (by decide +kernel))
set_option maxRecDepth 20000 in
theorem gX11_hashWord_X11_sayRow : GoodIn wsX11_hashWord (wsV RX11 292 RX11 yX11_sayRow wsX11_sayRow) := goodIn_app (goodIn_of _ (by decide +kernel)) ggX11_hashWord_X11_sayRow
set_option maxRecDepth 20000 in
theorem ggX11_hashWord_X11_great : GoodIn wsX11_hashWord wsX11_great := goodIn_ca (goodIn_r _ [16, 17, 18, 19, 20, 21, 22, 23, 24, 25, 26, 27, 28, 29, 30, 31, 6, 32, 1, 8, 9, 10, 11, 12, 33, 34, 35, 36, 37, 38, 39, 40, 41, 42, 43, 44, 45, 46, 47, 48, 49, 50, 51, 52, 53, 54, 55, 56, 57, 58, 59, 60, 61, 62, 63, 64, 65, 66, 67, 68, 69, 70, 71, 72, 73, 74, 75, 76, 77, 78, 79, 80, 81, 82, 83, 84, 85, 86, 87, 88, 89] (by decide +kernel) (by decide +kernel)) (goodIn_sub (fun _ h => List.mem_cons_of_mem _ (List.mem_append_right _ h)) (by decide +kernel))
set_option maxRecDepth 20000 in
theorem gX11_hashWord_X11_great : GoodIn wsX11_hashWord (wsV RX11 349 RX11 yX11_great wsX11_great) := goodIn_app (goodIn_of _ (by decide +kernel)) ggX11_hashWord_X11_great
theorem dX11_hashWord_0 : decode cX11_hashWord 0 = .ok (.aload_n 0, 1) := by decide +kernel
theorem dX11_hashWord_1 : decode cX11_hashWord 1 = .ok (.iconst 0, 1) := by decide +kernel
theorem dX11_hashWord_2 : decode cX11_hashWord 2 = .ok (.putfield 233, 3) := by decide +kernel
theorem dX11_hashWord_5 : decode cX11_hashWord 5 = .ok (.aload_n 0, 1) := by decide +kernel
theorem dX11_hashWord_6 : decode cX11_hashWord 6 = .ok (.aload_n 1, 1) := by decide +kernel
theorem dX11_hashWord_7 : decode cX11_hashWord 7 = .ok (.iconst 0, 1) := by decide +kernel
theorem dX11_hashWord_8 : decode cX11_hashWord 8 = .ok (.iload_n 2, 1) := by decide +kernel
theorem dX11_hashWord_9 : decode cX11_hashWord 9 = .ok (.invokevirtual 292, 3) := by decide +kernel
theorem dX11_hashWord_12 : decode cX11_hashWord 12 = .ok (.aload_n 0, 1) := by decide +kernel
theorem dX11_hashWord_13 : decode cX11_hashWord 13 = .ok (.aload_n 0, 1) := by decide +kernel
theorem dX11_hashWord_14 : decode cX11_hashWord 14 = .ok (.getfield 25, 3) := by decide +kernel
theorem dX11_hashWord_17 : decode cX11_hashWord 17 = .ok (.iload_n 3, 1) := by decide +kernel
theorem dX11_hashWord_18 : decode cX11_hashWord 18 = .ok (.bipush 8, 2) := by decide +kernel
theorem dX11_hashWord_20 : decode cX11_hashWord 20 = .ok (.invokevirtual 292, 3) := by decide +kernel
theorem dX11_hashWord_23 : decode cX11_hashWord 23 = .ok (.iload 4, 2) := by decide +kernel
theorem dX11_hashWord_25 : decode cX11_hashWord 25 = .ok (.ifCond .eq 15, 3) := by decide +kernel
theorem dX11_hashWord_28 : decode cX11_hashWord 28 = .ok (.aload_n 0, 1) := by decide +kernel
theorem dX11_hashWord_29 : decode cX11_hashWord 29 = .ok (.aload_n 0, 1) := by decide +kernel
theorem dX11_hashWord_30 : decode cX11_hashWord 30 = .ok (.getfield 25, 3) := by decide +kernel
theorem dX11_hashWord_33 : decode cX11_hashWord 33 = .ok (.bipush 48, 2) := by decide +kernel
theorem dX11_hashWord_35 : decode cX11_hashWord 35 = .ok (.bipush 48, 2) := by decide +kernel
theorem dX11_hashWord_37 : decode cX11_hashWord 37 = .ok (.invokevirtual 292, 3) := by decide +kernel
theorem dX11_hashWord_40 : decode cX11_hashWord 40 = .ok (.aload_n 0, 1) := by decide +kernel
theorem dX11_hashWord_41 : decode cX11_hashWord 41 = .ok (.invokevirtual 349, 3) := by decide +kernel
theorem dX11_hashWord_44 : decode cX11_hashWord 44 = .ok (.return_, 1) := by decide +kernel
set_option maxRecDepth 20000 in
theorem ggX11_shut_X11_nextByte : GoodIn wsX11_shut wsX11_nextByte := goodIn_ca (goodIn_r _ [9, 10, 11, 90, 91, 92, 93, 94, 95, 96, 97, 98, 99, 100, 101, 102, 103, 104, 105, 106, 107, 108, 109, 110, 111, 112, 113, 114, 115, 116, 117, 118, 119, 120, 121, 122, 123, 124, 125, 126, 127, 128, 129, 130, 131, 132, 133, 134] (by decide +kernel) (by decide +kernel)) (goodIn_sub (fun _ h => List.mem_cons_of_mem _ (List.mem_append_right _ h)) (by decide +kernel))
set_option maxRecDepth 20000 in
theorem gX11_shut_X11_nextByte : GoodIn wsX11_shut (wsV RX11 352 RX11 yX11_nextByte wsX11_nextByte) := goodIn_app (goodIn_of _ (by decide +kernel)) ggX11_shut_X11_nextByte
set_option maxRecDepth 20000 in
theorem ggX11_shut_X11_hashWord : GoodIn wsX11_shut wsX11_hashWord := goodIn_ca (goodIn_r _ [15, 16, 1, 17, 18, 19, 8, 20, 21, 22, 23, 24, 25, 26, 27, 28, 29, 30, 31, 32, 33, 34, 35, 36, 37, 38, 39, 40, 41, 42, 43, 44, 45, 46, 47, 48, 49, 50, 51, 52, 53, 54, 55, 56, 2, 90, 91, 92, 93, 94, 95, 96, 97, 98, 99, 100, 101, 102, 103, 104, 105, 106, 107, 108, 109, 110, 111, 112, 113, 114, 115, 116, 117, 118, 119, 120, 121, 122, 123, 124, 125, 126, 127, 128, 129, 130, 131, 132, 133, 134] (by decide +kernel) (by decide +kernel)) (goodIn_sub (fun _ h => List.mem_cons_of_mem _ (List.mem_append_right _ h)) (by decide +kernel))
set_option maxRecDepth 20000 in
theorem gX11_shut_X11_hashWord : GoodIn wsX11_shut (wsV RX11 355 RX11 yX11_hashWord wsX11_hashWord) := goodIn_app (goodIn_of _ (by decide +kernel)) ggX11_shut_X11_hashWord
set_option maxRecDepth 20000 in
theorem ggX11_shut_X11_setKey : GoodIn wsX11_shut wsX11_setKey := goodIn_ca (goodIn_r _ [60, 61, 62, 63, 64, 65, 8, 66, 90, 91, 92, 93, 94, 95, 96, 97, 98, 99, 100, 101, 102, 103, 104, 105, 106, 107, 108, 109, 110, 111, 112, 113, 114, 115, 116, 117, 118, 119, 120, 121, 122, 123, 124, 125, 126, 127, 128, 129, 130, 131, 132, 133, 134] (by decide +kernel) (by decide +kernel)) (goodIn_sub (fun _ h => List.mem_cons_of_mem _ (List.mem_append_right _ h)) (by decide +kernel))
set_option maxRecDepth 20000 in
theorem gX11_shut_X11_setKey : GoodIn wsX11_shut (wsV RX11 359 RX11 yX11_setKey wsX11_setKey) := goodIn_app (goodIn_of _ (by decide +kernel)) ggX11_shut_X11_setKey
set_option maxRecDepth 20000 in
theorem ggX11_shut_X11_chain : GoodIn wsX11_shut wsX11_chain := goodIn_ca (goodIn_r _ [70, 3, 71, 72, 73, 8, 74, 75, 61, 76, 77, 78, 79, 62, 80, 81, 82, 83, 84, 64, 65, 66, 85, 86, 87, 88, 89, 63, 90, 91, 92, 93, 94, 95, 96, 97, 98, 99, 100, 101, 102, 103, 104, 105, 106, 107, 108, 109, 110, 111, 112, 113, 114, 115, 116, 117, 118, 119, 120, 121, 122, 123, 124, 125, 126, 127, 128, 129, 130, 131, 132, 133, 134] (by decide +kernel) (by decide +kernel)) (goodIn_sub (fun _ h => List.mem_cons_of_mem _ (List.mem_append_right _ h)) (by decide +kernel))
set_option maxRecDepth 20000 in
theorem gX11_shut_X11_chain : GoodIn wsX11_shut (wsV RX11 362 RX11 yX11_chain wsX11_chain) := goodIn_app (goodIn_of _ (by decide +kernel)) ggX11_shut_X11_chain
theorem dX11_shut_0 : decode cX11_shut 0 = .ok (.bipush 48, 2) := by decide +kernel
theorem dX11_shut_2 : decode cX11_shut 2 = .ok (.iload_n 3, 1) := by decide +kernel
theorem dX11_shut_3 : decode cX11_shut 3 = .ok (.imul, 1) := by decide +kernel
theorem dX11_shut_4 : decode cX11_shut 4 = .ok (.istore 6, 2) := by decide +kernel
theorem dX11_shut_6 : decode cX11_shut 6 = .ok (.bipush 32, 2) := by decide +kernel
theorem dX11_shut_8 : decode cX11_shut 8 = .ok (.istore 7, 2) := by decide +kernel
theorem dX11_shut_10 : decode cX11_shut 10 = .ok (.iload 7, 2) := by decide +kernel
theorem dX11_shut_12 : decode cX11_shut 12 = .ok (.bipush 48, 2) := by decide +kernel
theorem dX11_shut_14 : decode cX11_shut 14 = .ok (.if_icmp .ge 23, 3) := by decide +kernel
theorem dX11_shut_17 : decode cX11_shut 17 = .ok (.aload_n 0, 1) := by decide +kernel
theorem dX11_shut_18 : decode cX11_shut 18 = .ok (.getfield 25, 3) := by decide +kernel
theorem dX11_shut_21 : decode cX11_shut 21 = .ok (.iload 6, 2) := by decide +kernel
theorem dX11_shut_23 : decode cX11_shut 23 = .ok (.iload 7, 2) := by decide +kernel
theorem dX11_shut_25 : decode cX11_shut 25 = .ok (.iadd, 1) := by decide +kernel
theorem dX11_shut_26 : decode cX11_shut 26 = .ok (.aload_n 0, 1) := by decide +kernel
theorem dX11_shut_27 : decode cX11_shut 27 = .ok (.invokevirtual 352, 3) := by decide +kernel
theorem dX11_shut_30 : decode cX11_shut 30 = .ok (.iastore, 1) := by decide +kernel
theorem dX11_shut_31 : decode cX11_shut 31 = .ok (.iinc 7 1, 3) := by decide +kernel
theorem dX11_shut_34 : decode cX11_shut 34 = .ok (.goto (-24), 3) := by decide +kernel
theorem dX11_shut_37 : decode cX11_shut 37 = .ok (.aload_n 0, 1) := by decide +kernel
theorem dX11_shut_38 : decode cX11_shut 38 = .ok (.aload_n 1, 1) := by decide +kernel
theorem dX11_shut_39 : decode cX11_shut 39 = .ok (.iload_n 2, 1) := by decide +kernel
theorem dX11_shut_40 : decode cX11_shut 40 = .ok (.iload 6, 2) := by decide +kernel
theorem dX11_shut_42 : decode cX11_shut 42 = .ok (.bipush 32, 2) := by decide +kernel
theorem dX11_shut_44 : decode cX11_shut 44 = .ok (.iadd, 1) := by decide +kernel
theorem dX11_shut_45 : decode cX11_shut 45 = .ok (.iload 5, 2) := by decide +kernel
theorem dX11_shut_47 : decode cX11_shut 47 = .ok (.invokevirtual 355, 3) := by decide +kernel
theorem dX11_shut_50 : decode cX11_shut 50 = .ok (.iconst 0, 1) := by decide +kernel
theorem dX11_shut_51 : decode cX11_shut 51 = .ok (.istore 7, 2) := by decide +kernel
theorem dX11_shut_53 : decode cX11_shut 53 = .ok (.iload 7, 2) := by decide +kernel
theorem dX11_shut_55 : decode cX11_shut 55 = .ok (.bipush 32, 2) := by decide +kernel
theorem dX11_shut_57 : decode cX11_shut 57 = .ok (.if_icmp .ge 26, 3) := by decide +kernel
theorem dX11_shut_60 : decode cX11_shut 60 = .ok (.aload_n 0, 1) := by decide +kernel
theorem dX11_shut_61 : decode cX11_shut 61 = .ok (.getfield 25, 3) := by decide +kernel
theorem dX11_shut_64 : decode cX11_shut 64 = .ok (.iload 6, 2) := by decide +kernel
theorem dX11_shut_66 : decode cX11_shut 66 = .ok (.iload 7, 2) := by decide +kernel
theorem dX11_shut_68 : decode cX11_shut 68 = .ok (.iadd, 1) := by decide +kernel
theorem dX11_shut_69 : decode cX11_shut 69 = .ok (.aload_n 0, 1) := by decide +kernel
theorem dX11_shut_70 : decode cX11_shut 70 = .ok (.getfield 43, 3) := by decide +kernel
theorem dX11_shut_73 : decode cX11_shut 73 = .ok (.iload 7, 2) := by decide +kernel
theorem dX11_shut_75 : decode cX11_shut 75 = .ok (.iaload, 1) := by decide +kernel
theorem dX11_shut_76 : decode cX11_shut 76 = .ok (.iastore, 1) := by decide +kernel
theorem dX11_shut_77 : decode cX11_shut 77 = .ok (.iinc 7 1, 3) := by decide +kernel
theorem dX11_shut_80 : decode cX11_shut 80 = .ok (.goto (-27), 3) := by decide +kernel
theorem dX11_shut_83 : decode cX11_shut 83 = .ok (.aload_n 0, 1) := by decide +kernel
theorem dX11_shut_84 : decode cX11_shut 84 = .ok (.aload_n 1, 1) := by decide +kernel
theorem dX11_shut_85 : decode cX11_shut 85 = .ok (.iload_n 2, 1) := by decide +kernel
theorem dX11_shut_86 : decode cX11_shut 86 = .ok (.iload 6, 2) := by decide +kernel
theorem dX11_shut_88 : decode cX11_shut 88 = .ok (.bipush 40, 2) := by decide +kernel
theorem dX11_shut_90 : decode cX11_shut 90 = .ok (.iadd, 1) := by decide +kernel
theorem dX11_shut_91 : decode cX11_shut 91 = .ok (.iload 5, 2) := by decide +kernel
theorem dX11_shut_93 : decode cX11_shut 93 = .ok (.invokevirtual 355, 3) := by decide +kernel
theorem dX11_shut_96 : decode cX11_shut 96 = .ok (.aload_n 0, 1) := by decide +kernel
theorem dX11_shut_97 : decode cX11_shut 97 = .ok (.aload_n 0, 1) := by decide +kernel
theorem dX11_shut_98 : decode cX11_shut 98 = .ok (.getfield 43, 3) := by decide +kernel
theorem dX11_shut_101 : decode cX11_shut 101 = .ok (.bipush 32, 2) := by decide +kernel
theorem dX11_shut_103 : decode cX11_shut 103 = .ok (.invokevirtual 359, 3) := by decide +kernel
theorem dX11_shut_106 : decode cX11_shut 106 = .ok (.iconst 0, 1) := by decide +kernel
theorem dX11_shut_107 : decode cX11_shut 107 = .ok (.istore 7, 2) := by decide +kernel
theorem dX11_shut_109 : decode cX11_shut 109 = .ok (.iload 7, 2) := by decide +kernel
theorem dX11_shut_111 : decode cX11_shut 111 = .ok (.bipush 48, 2) := by decide +kernel
theorem dX11_shut_113 : decode cX11_shut 113 = .ok (.if_icmp .ge 37, 3) := by decide +kernel
theorem dX11_shut_116 : decode cX11_shut 116 = .ok (.aload_n 0, 1) := by decide +kernel
theorem dX11_shut_117 : decode cX11_shut 117 = .ok (.getfield 210, 3) := by decide +kernel
theorem dX11_shut_120 : decode cX11_shut 120 = .ok (.iload 7, 2) := by decide +kernel
theorem dX11_shut_122 : decode cX11_shut 122 = .ok (.iload 7, 2) := by decide +kernel
theorem dX11_shut_124 : decode cX11_shut 124 = .ok (.bipush 16, 2) := by decide +kernel
theorem dX11_shut_126 : decode cX11_shut 126 = .ok (.if_icmp .ge 7, 3) := by decide +kernel
theorem dX11_shut_129 : decode cX11_shut 129 = .ok (.iconst 0, 1) := by decide +kernel
theorem dX11_shut_130 : decode cX11_shut 130 = .ok (.goto 13, 3) := by decide +kernel
theorem dX11_shut_133 : decode cX11_shut 133 = .ok (.aload_n 0, 1) := by decide +kernel
theorem dX11_shut_134 : decode cX11_shut 134 = .ok (.getfield 31, 3) := by decide +kernel
theorem dX11_shut_137 : decode cX11_shut 137 = .ok (.iload 7, 2) := by decide +kernel
theorem dX11_shut_139 : decode cX11_shut 139 = .ok (.bipush 16, 2) := by decide +kernel
theorem dX11_shut_141 : decode cX11_shut 141 = .ok (.isub, 1) := by decide +kernel
theorem dX11_shut_142 : decode cX11_shut 142 = .ok (.iaload, 1) := by decide +kernel
theorem dX11_shut_143 : decode cX11_shut 143 = .ok (.iastore, 1) := by decide +kernel
theorem dX11_shut_144 : decode cX11_shut 144 = .ok (.iinc 7 1, 3) := by decide +kernel
theorem dX11_shut_147 : decode cX11_shut 147 = .ok (.goto (-38), 3) := by decide +kernel
theorem dX11_shut_150 : decode cX11_shut 150 = .ok (.aload_n 0, 1) := by decide +kernel
theorem dX11_shut_151 : decode cX11_shut 151 = .ok (.iconst 2, 1) := by decide +kernel
theorem dX11_shut_152 : decode cX11_shut 152 = .ok (.iconst 0, 1) := by decide +kernel
theorem dX11_shut_153 : decode cX11_shut 153 = .ok (.invokevirtual 362, 3) := by decide +kernel
theorem dX11_shut_156 : decode cX11_shut 156 = .ok (.iconst 0, 1) := by decide +kernel
theorem dX11_shut_157 : decode cX11_shut 157 = .ok (.istore 7, 2) := by decide +kernel
theorem dX11_shut_159 : decode cX11_shut 159 = .ok (.iload 7, 2) := by decide +kernel
theorem dX11_shut_161 : decode cX11_shut 161 = .ok (.bipush 32, 2) := by decide +kernel
theorem dX11_shut_163 : decode cX11_shut 163 = .ok (.if_icmp .ge 32, 3) := by decide +kernel
theorem dX11_shut_166 : decode cX11_shut 166 = .ok (.aload_n 0, 1) := by decide +kernel
theorem dX11_shut_167 : decode cX11_shut 167 = .ok (.getfield 25, 3) := by decide +kernel
theorem dX11_shut_170 : decode cX11_shut 170 = .ok (.bipush 48, 2) := by decide +kernel
theorem dX11_shut_172 : decode cX11_shut 172 = .ok (.iload 4, 2) := by decide +kernel
theorem dX11_shut_174 : decode cX11_shut 174 = .ok (.imul, 1) := by decide +kernel
theorem dX11_shut_175 : decode cX11_shut 175 = .ok (.iload 7, 2) := by decide +kernel
theorem dX11_shut_177 : decode cX11_shut 177 = .ok (.iadd, 1) := by decide +kernel
theorem dX11_shut_178 : decode cX11_shut 178 = .ok (.aload_n 0, 1) := by decide +kernel
theorem dX11_shut_179 : decode cX11_shut 179 = .ok (.getfield 210, 3) := by decide +kernel
theorem dX11_shut_182 : decode cX11_shut 182 = .ok (.bipush 16, 2) := by decide +kernel
theorem dX11_shut_184 : decode cX11_shut 184 = .ok (.iload 7, 2) := by decide +kernel
theorem dX11_shut_186 : decode cX11_shut 186 = .ok (.iadd, 1) := by decide +kernel
theorem dX11_shut_187 : decode cX11_shut 187 = .ok (.iaload, 1) := by decide +kernel
theorem dX11_shut_188 : decode cX11_shut 188 = .ok (.iastore, 1) := by decide +kernel
theorem dX11_shut_189 : decode cX11_shut 189 = .ok (.iinc 7 1, 3) := by decide +kernel
theorem dX11_shut_192 : decode cX11_shut 192 = .ok (.goto (-33), 3) := by decide +kernel
theorem dX11_shut_195 : decode cX11_shut 195 = .ok (.return_, 1) := by decide +kernel
set_option maxRecDepth 20000 in
theorem ggX11_makeLate_X11_nextByte : GoodIn wsX11_makeLate wsX11_nextByte := goodIn_ca (goodIn_r _ [14, 15, 16, 101, 102, 103, 104, 105, 106, 107, 108, 109, 110, 111, 112, 113, 114, 115, 116, 117, 118, 119, 120, 121, 122, 123, 124, 125, 126, 127, 128, 129, 130, 131, 132, 133, 134, 135, 136, 137, 138, 139, 140, 141, 142, 143, 144, 145] (by decide +kernel) (by decide +kernel)) (goodIn_sub (fun _ h => List.mem_cons_of_mem _ (List.mem_append_right _ h)) (by decide +kernel))
set_option maxRecDepth 20000 in
theorem gX11_makeLate_X11_nextByte : GoodIn wsX11_makeLate (wsV RX11 352 RX11 yX11_nextByte wsX11_nextByte) := goodIn_app (goodIn_of _ (by decide +kernel)) ggX11_makeLate_X11_nextByte
set_option maxRecDepth 20000 in
theorem ggX11_makeLate_X11_shut : GoodIn wsX11_makeLate wsX11_shut := goodIn_ca (goodIn_r _ [20, 7, 21, 22, 2, 10, 11, 12, 13, 14, 15, 16, 23, 24, 25, 26, 27, 28, 29, 30, 31, 32, 33, 34, 35, 36, 37, 38, 39, 40, 41, 42, 43, 44, 45, 46, 47, 48, 49, 50, 51, 52, 53, 54, 55, 56, 57, 58, 59, 60, 61, 62, 63, 64, 65, 66, 67, 68, 69, 70, 71, 72, 73, 74, 75, 76, 77, 78, 79, 80, 81, 82, 83, 84, 85, 86, 87, 88, 89, 90, 91, 92, 93, 94, 95, 96, 97, 98, 99, 100, 101, 102, 103, 104, 105, 106, 107, 108, 109, 110, 111, 112, 113, 114, 115, 116, 117, 118, 119, 120, 121, 122, 123, 124, 125, 126, 127, 128, 129, 130, 131, 132, 133, 134, 135, 136, 137, 138, 139, 140, 141, 142, 143, 144, 145] (by decide +kernel) (by decide +kernel)) (goodIn_sub (fun _ h => List.mem_cons_of_mem _ (List.mem_append_right _ h)) (by decide +kernel))
set_option maxRecDepth 20000 in
theorem gX11_makeLate_X11_shut : GoodIn wsX11_makeLate (wsV RX11 365 RX11 yX11_shut wsX11_shut) := goodIn_app (goodIn_of _ (by decide +kernel)) ggX11_makeLate_X11_shut
set_option maxRecDepth 20000 in
theorem ggX11_makeLate_X11_setKey : GoodIn wsX11_makeLate wsX11_setKey := goodIn_ca (goodIn_r _ [71, 72, 73, 74, 75, 76, 13, 77, 101, 102, 103, 104, 105, 106, 107, 108, 109, 110, 111, 112, 113, 114, 115, 116, 117, 118, 119, 120, 121, 122, 123, 124, 125, 126, 127, 128, 129, 130, 131, 132, 133, 134, 135, 136, 137, 138, 139, 140, 141, 142, 143, 144, 145] (by decide +kernel) (by decide +kernel)) (goodIn_sub (fun _ h => List.mem_cons_of_mem _ (List.mem_append_right _ h)) (by decide +kernel))
set_option maxRecDepth 20000 in
theorem gX11_makeLate_X11_setKey : GoodIn wsX11_makeLate (wsV RX11 359 RX11 yX11_setKey wsX11_setKey) := goodIn_app (goodIn_of _ (by decide +kernel)) ggX11_makeLate_X11_setKey
set_option maxRecDepth 20000 in
theorem ggX11_makeLate_X11_block : GoodIn wsX11_makeLate wsX11_block := goodIn_ca (goodIn_r _ [85, 86, 72, 87, 88, 89, 13, 90, 73, 91, 92, 93, 94, 95, 75, 76, 77, 96, 97, 98, 99, 100, 74, 101, 102, 103, 104, 105, 106, 107, 108, 109, 110, 111, 112, 113, 114, 115, 116, 117, 118, 119, 120, 121, 122, 123, 124, 125, 126, 127, 128, 129, 130, 131, 132, 133, 134, 135, 136, 137, 138, 139, 140, 141, 142, 143, 144, 145] (by decide +kernel) (by decide +kernel)) (goodIn_sub (fun _ h => List.mem_cons_of_mem _ (List.mem_append_right _ h)) (by decide +kernel))
set_option maxRecDepth 20000 in
theorem gX11_makeLate_X11_block : GoodIn wsX11_makeLate (wsV RX11 284 RX11 yX11_block wsX11_block) := goodIn_app (goodIn_of _ (by decide +kernel)) ggX11_makeLate_X11_block
theorem dX11_makeLate_0 : decode cX11_makeLate 0 = .ok (.iconst 0, 1) := by decide +kernel
theorem dX11_makeLate_1 : decode cX11_makeLate 1 = .ok (.istore_n 1, 1) := by decide +kernel
theorem dX11_makeLate_2 : decode cX11_makeLate 2 = .ok (.iload_n 1, 1) := by decide +kernel
theorem dX11_makeLate_3 : decode cX11_makeLate 3 = .ok (.iconst 5, 1) := by decide +kernel
theorem dX11_makeLate_4 : decode cX11_makeLate 4 = .ok (.if_icmp .ge 37, 3) := by decide +kernel
theorem dX11_makeLate_7 : decode cX11_makeLate 7 = .ok (.aload_n 0, 1) := by decide +kernel
theorem dX11_makeLate_8 : decode cX11_makeLate 8 = .ok (.getfield 28, 3) := by decide +kernel
theorem dX11_makeLate_11 : decode cX11_makeLate 11 = .ok (.iload_n 1, 1) := by decide +kernel
theorem dX11_makeLate_12 : decode cX11_makeLate 12 = .ok (.iload_n 1, 1) := by decide +kernel
theorem dX11_makeLate_13 : decode cX11_makeLate 13 = .ok (.iconst 2, 1) := by decide +kernel
theorem dX11_makeLate_14 : decode cX11_makeLate 14 = .ok (.if_icmp .ge 8, 3) := by decide +kernel
theorem dX11_makeLate_17 : decode cX11_makeLate 17 = .ok (.bipush 48, 2) := by decide +kernel
theorem dX11_makeLate_19 : decode cX11_makeLate 19 = .ok (.goto 15, 3) := by decide +kernel
theorem dX11_makeLate_22 : decode cX11_makeLate 22 = .ok (.iload_n 1, 1) := by decide +kernel
theorem dX11_makeLate_23 : decode cX11_makeLate 23 = .ok (.iconst 4, 1) := by decide +kernel
theorem dX11_makeLate_24 : decode cX11_makeLate 24 = .ok (.if_icmp .ge 8, 3) := by decide +kernel
theorem dX11_makeLate_27 : decode cX11_makeLate 27 = .ok (.bipush 32, 2) := by decide +kernel
theorem dX11_makeLate_29 : decode cX11_makeLate 29 = .ok (.goto 5, 3) := by decide +kernel
theorem dX11_makeLate_32 : decode cX11_makeLate 32 = .ok (.bipush 16, 2) := by decide +kernel
theorem dX11_makeLate_34 : decode cX11_makeLate 34 = .ok (.iastore, 1) := by decide +kernel
theorem dX11_makeLate_35 : decode cX11_makeLate 35 = .ok (.iinc 1 1, 3) := by decide +kernel
theorem dX11_makeLate_38 : decode cX11_makeLate 38 = .ok (.goto (-36), 3) := by decide +kernel
theorem dX11_makeLate_41 : decode cX11_makeLate 41 = .ok (.iconst 0, 1) := by decide +kernel
theorem dX11_makeLate_42 : decode cX11_makeLate 42 = .ok (.istore_n 1, 1) := by decide +kernel
theorem dX11_makeLate_43 : decode cX11_makeLate 43 = .ok (.iload_n 1, 1) := by decide +kernel
theorem dX11_makeLate_44 : decode cX11_makeLate 44 = .ok (.bipush 32, 2) := by decide +kernel
theorem dX11_makeLate_46 : decode cX11_makeLate 46 = .ok (.if_icmp .ge 19, 3) := by decide +kernel
theorem dX11_makeLate_49 : decode cX11_makeLate 49 = .ok (.aload_n 0, 1) := by decide +kernel
theorem dX11_makeLate_50 : decode cX11_makeLate 50 = .ok (.getfield 31, 3) := by decide +kernel
theorem dX11_makeLate_53 : decode cX11_makeLate 53 = .ok (.iload_n 1, 1) := by decide +kernel
theorem dX11_makeLate_54 : decode cX11_makeLate 54 = .ok (.aload_n 0, 1) := by decide +kernel
theorem dX11_makeLate_55 : decode cX11_makeLate 55 = .ok (.invokevirtual 352, 3) := by decide +kernel
theorem dX11_makeLate_58 : decode cX11_makeLate 58 = .ok (.iastore, 1) := by decide +kernel
theorem dX11_makeLate_59 : decode cX11_makeLate 59 = .ok (.iinc 1 1, 3) := by decide +kernel
theorem dX11_makeLate_62 : decode cX11_makeLate 62 = .ok (.goto (-19), 3) := by decide +kernel
theorem dX11_makeLate_65 : decode cX11_makeLate 65 = .ok (.aload_n 0, 1) := by decide +kernel
theorem dX11_makeLate_66 : decode cX11_makeLate 66 = .ok (.aload_n 0, 1) := by decide +kernel
theorem dX11_makeLate_67 : decode cX11_makeLate 67 = .ok (.getfield 7, 3) := by decide +kernel
theorem dX11_makeLate_70 : decode cX11_makeLate 70 = .ok (.aload_n 0, 1) := by decide +kernel
theorem dX11_makeLate_71 : decode cX11_makeLate 71 = .ok (.getfield 323, 3) := by decide +kernel
theorem dX11_makeLate_74 : decode cX11_makeLate 74 = .ok (.iconst 1, 1) := by decide +kernel
theorem dX11_makeLate_75 : decode cX11_makeLate 75 = .ok (.iconst 3, 1) := by decide +kernel
theorem dX11_makeLate_76 : decode cX11_makeLate 76 = .ok (.iconst 0, 1) := by decide +kernel
theorem dX11_makeLate_77 : decode cX11_makeLate 77 = .ok (.invokevirtual 365, 3) := by decide +kernel
theorem dX11_makeLate_80 : decode cX11_makeLate 80 = .ok (.aload_n 0, 1) := by decide +kernel
theorem dX11_makeLate_81 : decode cX11_makeLate 81 = .ok (.aload_n 0, 1) := by decide +kernel
theorem dX11_makeLate_82 : decode cX11_makeLate 82 = .ok (.getfield 13, 3) := by decide +kernel
theorem dX11_makeLate_85 : decode cX11_makeLate 85 = .ok (.aload_n 0, 1) := by decide +kernel
theorem dX11_makeLate_86 : decode cX11_makeLate 86 = .ok (.getfield 320, 3) := by decide +kernel
theorem dX11_makeLate_89 : decode cX11_makeLate 89 = .ok (.iconst 0, 1) := by decide +kernel
theorem dX11_makeLate_90 : decode cX11_makeLate 90 = .ok (.iconst 2, 1) := by decide +kernel
theorem dX11_makeLate_91 : decode cX11_makeLate 91 = .ok (.iconst 1, 1) := by decide +kernel
theorem dX11_makeLate_92 : decode cX11_makeLate 92 = .ok (.invokevirtual 365, 3) := by decide +kernel
theorem dX11_makeLate_95 : decode cX11_makeLate 95 = .ok (.sipush 192, 3) := by decide +kernel
theorem dX11_makeLate_98 : decode cX11_makeLate 98 = .ok (.istore_n 1, 1) := by decide +kernel
theorem dX11_makeLate_99 : decode cX11_makeLate 99 = .ok (.iconst 0, 1) := by decide +kernel
theorem dX11_makeLate_100 : decode cX11_makeLate 100 = .ok (.istore_n 2, 1) := by decide +kernel
theorem dX11_makeLate_101 : decode cX11_makeLate 101 = .ok (.iload_n 2, 1) := by decide +kernel
theorem dX11_makeLate_102 : decode cX11_makeLate 102 = .ok (.iconst 4, 1) := by decide +kernel
theorem dX11_makeLate_103 : decode cX11_makeLate 103 = .ok (.if_icmp .ge 43, 3) := by decide +kernel
theorem dX11_makeLate_106 : decode cX11_makeLate 106 = .ok (.aload_n 0, 1) := by decide +kernel
theorem dX11_makeLate_107 : decode cX11_makeLate 107 = .ok (.getfield 25, 3) := by decide +kernel
theorem dX11_makeLate_110 : decode cX11_makeLate 110 = .ok (.iload_n 1, 1) := by decide +kernel
theorem dX11_makeLate_111 : decode cX11_makeLate 111 = .ok (.iload_n 2, 1) := by decide +kernel
theorem dX11_makeLate_112 : decode cX11_makeLate 112 = .ok (.iadd, 1) := by decide +kernel
theorem dX11_makeLate_113 : decode cX11_makeLate 113 = .ok (.aload_n 0, 1) := by decide +kernel
theorem dX11_makeLate_114 : decode cX11_makeLate 114 = .ok (.getfield 302, 3) := by decide +kernel
theorem dX11_makeLate_117 : decode cX11_makeLate 117 = .ok (.bipush 8, 2) := by decide +kernel
theorem dX11_makeLate_119 : decode cX11_makeLate 119 = .ok (.iload_n 2, 1) := by decide +kernel
theorem dX11_makeLate_120 : decode cX11_makeLate 120 = .ok (.imul, 1) := by decide +kernel
theorem dX11_makeLate_121 : decode cX11_makeLate 121 = .ok (.ishr, 1) := by decide +kernel
theorem dX11_makeLate_122 : decode cX11_makeLate 122 = .ok (.sipush 255, 3) := by decide +kernel
theorem dX11_makeLate_125 : decode cX11_makeLate 125 = .ok (.iand, 1) := by decide +kernel
theorem dX11_makeLate_126 : decode cX11_makeLate 126 = .ok (.iastore, 1) := by decide +kernel
theorem dX11_makeLate_127 : decode cX11_makeLate 127 = .ok (.aload_n 0, 1) := by decide +kernel
theorem dX11_makeLate_128 : decode cX11_makeLate 128 = .ok (.getfield 25, 3) := by decide +kernel
theorem dX11_makeLate_131 : decode cX11_makeLate 131 = .ok (.iload_n 1, 1) := by decide +kernel
theorem dX11_makeLate_132 : decode cX11_makeLate 132 = .ok (.iconst 4, 1) := by decide +kernel
theorem dX11_makeLate_133 : decode cX11_makeLate 133 = .ok (.iadd, 1) := by decide +kernel
theorem dX11_makeLate_134 : decode cX11_makeLate 134 = .ok (.iload_n 2, 1) := by decide +kernel
theorem dX11_makeLate_135 : decode cX11_makeLate 135 = .ok (.iadd, 1) := by decide +kernel
theorem dX11_makeLate_136 : decode cX11_makeLate 136 = .ok (.sipush 255, 3) := by decide +kernel
theorem dX11_makeLate_139 : decode cX11_makeLate 139 = .ok (.iastore, 1) := by decide +kernel
theorem dX11_makeLate_140 : decode cX11_makeLate 140 = .ok (.iinc 2 1, 3) := by decide +kernel
theorem dX11_makeLate_143 : decode cX11_makeLate 143 = .ok (.goto (-42), 3) := by decide +kernel
theorem dX11_makeLate_146 : decode cX11_makeLate 146 = .ok (.aload_n 0, 1) := by decide +kernel
theorem dX11_makeLate_147 : decode cX11_makeLate 147 = .ok (.getfield 25, 3) := by decide +kernel
theorem dX11_makeLate_150 : decode cX11_makeLate 150 = .ok (.iload_n 1, 1) := by decide +kernel
theorem dX11_makeLate_151 : decode cX11_makeLate 151 = .ok (.bipush 8, 2) := by decide +kernel
theorem dX11_makeLate_153 : decode cX11_makeLate 153 = .ok (.iadd, 1) := by decide +kernel
theorem dX11_makeLate_154 : decode cX11_makeLate 154 = .ok (.aload_n 0, 1) := by decide +kernel
theorem dX11_makeLate_155 : decode cX11_makeLate 155 = .ok (.getfield 312, 3) := by decide +kernel
theorem dX11_makeLate_158 : decode cX11_makeLate 158 = .ok (.ifCond .eq 8, 3) := by decide +kernel
theorem dX11_makeLate_161 : decode cX11_makeLate 161 = .ok (.bipush 70, 2) := by decide +kernel
theorem dX11_makeLate_163 : decode cX11_makeLate 163 = .ok (.goto 5, 3) := by decide +kernel
theorem dX11_makeLate_166 : decode cX11_makeLate 166 = .ok (.bipush 84, 2) := by decide +kernel
theorem dX11_makeLate_168 : decode cX11_makeLate 168 = .ok (.iastore, 1) := by decide +kernel
theorem dX11_makeLate_169 : decode cX11_makeLate 169 = .ok (.aload_n 0, 1) := by decide +kernel
theorem dX11_makeLate_170 : decode cX11_makeLate 170 = .ok (.getfield 25, 3) := by decide +kernel
theorem dX11_makeLate_173 : decode cX11_makeLate 173 = .ok (.iload_n 1, 1) := by decide +kernel
theorem dX11_makeLate_174 : decode cX11_makeLate 174 = .ok (.bipush 9, 2) := by decide +kernel
theorem dX11_makeLate_176 : decode cX11_makeLate 176 = .ok (.iadd, 1) := by decide +kernel
theorem dX11_makeLate_177 : decode cX11_makeLate 177 = .ok (.bipush 97, 2) := by decide +kernel
theorem dX11_makeLate_179 : decode cX11_makeLate 179 = .ok (.iastore, 1) := by decide +kernel
theorem dX11_makeLate_180 : decode cX11_makeLate 180 = .ok (.aload_n 0, 1) := by decide +kernel
theorem dX11_makeLate_181 : decode cX11_makeLate 181 = .ok (.getfield 25, 3) := by decide +kernel
theorem dX11_makeLate_184 : decode cX11_makeLate 184 = .ok (.iload_n 1, 1) := by decide +kernel
theorem dX11_makeLate_185 : decode cX11_makeLate 185 = .ok (.bipush 10, 2) := by decide +kernel
theorem dX11_makeLate_187 : decode cX11_makeLate 187 = .ok (.iadd, 1) := by decide +kernel
theorem dX11_makeLate_188 : decode cX11_makeLate 188 = .ok (.bipush 100, 2) := by decide +kernel
theorem dX11_makeLate_190 : decode cX11_makeLate 190 = .ok (.iastore, 1) := by decide +kernel
theorem dX11_makeLate_191 : decode cX11_makeLate 191 = .ok (.aload_n 0, 1) := by decide +kernel
theorem dX11_makeLate_192 : decode cX11_makeLate 192 = .ok (.getfield 25, 3) := by decide +kernel
theorem dX11_makeLate_195 : decode cX11_makeLate 195 = .ok (.iload_n 1, 1) := by decide +kernel
theorem dX11_makeLate_196 : decode cX11_makeLate 196 = .ok (.bipush 11, 2) := by decide +kernel
theorem dX11_makeLate_198 : decode cX11_makeLate 198 = .ok (.iadd, 1) := by decide +kernel
theorem dX11_makeLate_199 : decode cX11_makeLate 199 = .ok (.bipush 98, 2) := by decide +kernel
theorem dX11_makeLate_201 : decode cX11_makeLate 201 = .ok (.iastore, 1) := by decide +kernel
theorem dX11_makeLate_202 : decode cX11_makeLate 202 = .ok (.bipush 12, 2) := by decide +kernel
theorem dX11_makeLate_204 : decode cX11_makeLate 204 = .ok (.istore_n 2, 1) := by decide +kernel
theorem dX11_makeLate_205 : decode cX11_makeLate 205 = .ok (.iload_n 2, 1) := by decide +kernel
theorem dX11_makeLate_206 : decode cX11_makeLate 206 = .ok (.bipush 16, 2) := by decide +kernel
theorem dX11_makeLate_208 : decode cX11_makeLate 208 = .ok (.if_icmp .ge 21, 3) := by decide +kernel
theorem dX11_makeLate_211 : decode cX11_makeLate 211 = .ok (.aload_n 0, 1) := by decide +kernel
theorem dX11_makeLate_212 : decode cX11_makeLate 212 = .ok (.getfield 25, 3) := by decide +kernel
theorem dX11_makeLate_215 : decode cX11_makeLate 215 = .ok (.iload_n 1, 1) := by decide +kernel
theorem dX11_makeLate_216 : decode cX11_makeLate 216 = .ok (.iload_n 2, 1) := by decide +kernel
theorem dX11_makeLate_217 : decode cX11_makeLate 217 = .ok (.iadd, 1) := by decide +kernel
theorem dX11_makeLate_218 : decode cX11_makeLate 218 = .ok (.aload_n 0, 1) := by decide +kernel
theorem dX11_makeLate_219 : decode cX11_makeLate 219 = .ok (.invokevirtual 352, 3) := by decide +kernel
theorem dX11_makeLate_222 : decode cX11_makeLate 222 = .ok (.iastore, 1) := by decide +kernel
theorem dX11_makeLate_223 : decode cX11_makeLate 223 = .ok (.iinc 2 1, 3) := by decide +kernel
theorem dX11_makeLate_226 : decode cX11_makeLate 226 = .ok (.goto (-21), 3) := by decide +kernel
theorem dX11_makeLate_229 : decode cX11_makeLate 229 = .ok (.aload_n 0, 1) := by decide +kernel
theorem dX11_makeLate_230 : decode cX11_makeLate 230 = .ok (.aload_n 0, 1) := by decide +kernel
theorem dX11_makeLate_231 : decode cX11_makeLate 231 = .ok (.getfield 31, 3) := by decide +kernel
theorem dX11_makeLate_234 : decode cX11_makeLate 234 = .ok (.bipush 32, 2) := by decide +kernel
theorem dX11_makeLate_236 : decode cX11_makeLate 236 = .ok (.invokevirtual 359, 3) := by decide +kernel
theorem dX11_makeLate_239 : decode cX11_makeLate 239 = .ok (.aload_n 0, 1) := by decide +kernel
theorem dX11_makeLate_240 : decode cX11_makeLate 240 = .ok (.aload_n 0, 1) := by decide +kernel
theorem dX11_makeLate_241 : decode cX11_makeLate 241 = .ok (.getfield 25, 3) := by decide +kernel
theorem dX11_makeLate_244 : decode cX11_makeLate 244 = .ok (.iload_n 1, 1) := by decide +kernel
theorem dX11_makeLate_245 : decode cX11_makeLate 245 = .ok (.iconst 0, 1) := by decide +kernel
theorem dX11_makeLate_246 : decode cX11_makeLate 246 = .ok (.invokevirtual 284, 3) := by decide +kernel
theorem dX11_makeLate_249 : decode cX11_makeLate 249 = .ok (.iconst 5, 1) := by decide +kernel
theorem dX11_makeLate_250 : decode cX11_makeLate 250 = .ok (.ireturn, 1) := by decide +kernel
set_option maxRecDepth 20000 in
theorem ggX11_opensLate_X11_hashWord : GoodIn wsX11_opensLate wsX11_hashWord := goodIn_ca (goodIn_r _ [11, 12, 4, 13, 14, 15, 10, 16, 17, 18, 19, 20, 21, 22, 23, 24, 25, 26, 27, 28, 29, 30, 31, 32, 33, 34, 35, 36, 37, 38, 39, 40, 41, 42, 43, 44, 45, 46, 47, 48, 49, 50, 51, 52, 3, 86, 87, 88, 89, 90, 91, 92, 93, 94, 95, 96, 97, 98, 99, 100, 101, 102, 103, 104, 105, 106, 107, 108, 109, 110, 111, 112, 113, 114, 115, 116, 117, 118, 119, 120, 121, 122, 123, 124, 125, 126, 127, 128, 129, 130] (by decide +kernel) (by decide +kernel)) (goodIn_sub (fun _ h => List.mem_cons_of_mem _ (List.mem_append_right _ h)) (by decide +kernel))
set_option maxRecDepth 20000 in
theorem gX11_opensLate_X11_hashWord : GoodIn wsX11_opensLate (wsV RX11 355 RX11 yX11_hashWord wsX11_hashWord) := goodIn_app (goodIn_of _ (by decide +kernel)) ggX11_opensLate_X11_hashWord
set_option maxRecDepth 20000 in
theorem ggX11_opensLate_X11_setKey : GoodIn wsX11_opensLate wsX11_setKey := goodIn_ca (goodIn_r _ [56, 57, 58, 59, 60, 61, 10, 62, 86, 87, 88, 89, 90, 91, 92, 93, 94, 95, 96, 97, 98, 99, 100, 101, 102, 103, 104, 105, 106, 107, 108, 109, 110, 111, 112, 113, 114, 115, 116, 117, 118, 119, 120, 121, 122, 123, 124, 125, 126, 127, 128, 129, 130] (by decide +kernel) (by decide +kernel)) (goodIn_sub (fun _ h => List.mem_cons_of_mem _ (List.mem_append_right _ h)) (by decide +kernel))
set_option maxRecDepth 20000 in
theorem gX11_opensLate_X11_setKey : GoodIn wsX11_opensLate (wsV RX11 359 RX11 yX11_setKey wsX11_setKey) := goodIn_app (goodIn_of _ (by decide +kernel)) ggX11_opensLate_X11_setKey
set_option maxRecDepth 20000 in
theorem ggX11_opensLate_X11_chain : GoodIn wsX11_opensLate wsX11_chain := goodIn_ca (goodIn_r _ [66, 5, 67, 68, 69, 10, 70, 71, 57, 72, 73, 74, 75, 58, 76, 77, 78, 79, 80, 60, 61, 62, 81, 82, 83, 84, 85, 59, 86, 87, 88, 89, 90, 91, 92, 93, 94, 95, 96, 97, 98, 99, 100, 101, 102, 103, 104, 105, 106, 107, 108, 109, 110, 111, 112, 113, 114, 115, 116, 117, 118, 119, 120, 121, 122, 123, 124, 125, 126, 127, 128, 129, 130] (by decide +kernel) (by decide +kernel)) (goodIn_sub (fun _ h => List.mem_cons_of_mem _ (List.mem_append_right _ h)) (by decide +kernel))
set_option maxRecDepth 20000 in
theorem gX11_opensLate_X11_chain : GoodIn wsX11_opensLate (wsV RX11 362 RX11 yX11_chain wsX11_chain) := goodIn_app (goodIn_of _ (by decide +kernel)) ggX11_opensLate_X11_chain
theorem dX11_opensLate_0 : decode cX11_opensLate 0 = .ok (.bipush 48, 2) := by decide +kernel
theorem dX11_opensLate_2 : decode cX11_opensLate 2 = .ok (.iload_n 1, 1) := by decide +kernel
theorem dX11_opensLate_3 : decode cX11_opensLate 3 = .ok (.imul, 1) := by decide +kernel
theorem dX11_opensLate_4 : decode cX11_opensLate 4 = .ok (.istore 4, 2) := by decide +kernel
theorem dX11_opensLate_6 : decode cX11_opensLate 6 = .ok (.aload_n 0, 1) := by decide +kernel
theorem dX11_opensLate_7 : decode cX11_opensLate 7 = .ok (.aload_n 0, 1) := by decide +kernel
theorem dX11_opensLate_8 : decode cX11_opensLate 8 = .ok (.getfield 16, 3) := by decide +kernel
theorem dX11_opensLate_11 : decode cX11_opensLate 11 = .ok (.aload_n 0, 1) := by decide +kernel
theorem dX11_opensLate_12 : decode cX11_opensLate 12 = .ok (.getfield 339, 3) := by decide +kernel
theorem dX11_opensLate_15 : decode cX11_opensLate 15 = .ok (.iload 4, 2) := by decide +kernel
theorem dX11_opensLate_17 : decode cX11_opensLate 17 = .ok (.bipush 32, 2) := by decide +kernel
theorem dX11_opensLate_19 : decode cX11_opensLate 19 = .ok (.iadd, 1) := by decide +kernel
theorem dX11_opensLate_20 : decode cX11_opensLate 20 = .ok (.iload_n 3, 1) := by decide +kernel
theorem dX11_opensLate_21 : decode cX11_opensLate 21 = .ok (.invokevirtual 355, 3) := by decide +kernel
theorem dX11_opensLate_24 : decode cX11_opensLate 24 = .ok (.iconst 0, 1) := by decide +kernel
theorem dX11_opensLate_25 : decode cX11_opensLate 25 = .ok (.istore 5, 2) := by decide +kernel
theorem dX11_opensLate_27 : decode cX11_opensLate 27 = .ok (.iload 5, 2) := by decide +kernel
theorem dX11_opensLate_29 : decode cX11_opensLate 29 = .ok (.bipush 32, 2) := by decide +kernel
theorem dX11_opensLate_31 : decode cX11_opensLate 31 = .ok (.if_icmp .ge 31, 3) := by decide +kernel
theorem dX11_opensLate_34 : decode cX11_opensLate 34 = .ok (.aload_n 0, 1) := by decide +kernel
theorem dX11_opensLate_35 : decode cX11_opensLate 35 = .ok (.getfield 43, 3) := by decide +kernel
theorem dX11_opensLate_38 : decode cX11_opensLate 38 = .ok (.iload 5, 2) := by decide +kernel
theorem dX11_opensLate_40 : decode cX11_opensLate 40 = .ok (.iaload, 1) := by decide +kernel
theorem dX11_opensLate_41 : decode cX11_opensLate 41 = .ok (.aload_n 0, 1) := by decide +kernel
theorem dX11_opensLate_42 : decode cX11_opensLate 42 = .ok (.getfield 25, 3) := by decide +kernel
theorem dX11_opensLate_45 : decode cX11_opensLate 45 = .ok (.iload 4, 2) := by decide +kernel
theorem dX11_opensLate_47 : decode cX11_opensLate 47 = .ok (.iload 5, 2) := by decide +kernel
theorem dX11_opensLate_49 : decode cX11_opensLate 49 = .ok (.iadd, 1) := by decide +kernel
theorem dX11_opensLate_50 : decode cX11_opensLate 50 = .ok (.iaload, 1) := by decide +kernel
theorem dX11_opensLate_51 : decode cX11_opensLate 51 = .ok (.if_icmp .eq 5, 3) := by decide +kernel
theorem dX11_opensLate_54 : decode cX11_opensLate 54 = .ok (.iconst 0, 1) := by decide +kernel
theorem dX11_opensLate_55 : decode cX11_opensLate 55 = .ok (.ireturn, 1) := by decide +kernel
theorem dX11_opensLate_56 : decode cX11_opensLate 56 = .ok (.iinc 5 1, 3) := by decide +kernel
theorem dX11_opensLate_59 : decode cX11_opensLate 59 = .ok (.goto (-32), 3) := by decide +kernel
theorem dX11_opensLate_62 : decode cX11_opensLate 62 = .ok (.aload_n 0, 1) := by decide +kernel
theorem dX11_opensLate_63 : decode cX11_opensLate 63 = .ok (.aload_n 0, 1) := by decide +kernel
theorem dX11_opensLate_64 : decode cX11_opensLate 64 = .ok (.getfield 16, 3) := by decide +kernel
theorem dX11_opensLate_67 : decode cX11_opensLate 67 = .ok (.aload_n 0, 1) := by decide +kernel
theorem dX11_opensLate_68 : decode cX11_opensLate 68 = .ok (.getfield 339, 3) := by decide +kernel
theorem dX11_opensLate_71 : decode cX11_opensLate 71 = .ok (.iload 4, 2) := by decide +kernel
theorem dX11_opensLate_73 : decode cX11_opensLate 73 = .ok (.bipush 40, 2) := by decide +kernel
theorem dX11_opensLate_75 : decode cX11_opensLate 75 = .ok (.iadd, 1) := by decide +kernel
theorem dX11_opensLate_76 : decode cX11_opensLate 76 = .ok (.iload_n 3, 1) := by decide +kernel
theorem dX11_opensLate_77 : decode cX11_opensLate 77 = .ok (.invokevirtual 355, 3) := by decide +kernel
theorem dX11_opensLate_80 : decode cX11_opensLate 80 = .ok (.aload_n 0, 1) := by decide +kernel
theorem dX11_opensLate_81 : decode cX11_opensLate 81 = .ok (.aload_n 0, 1) := by decide +kernel
theorem dX11_opensLate_82 : decode cX11_opensLate 82 = .ok (.getfield 43, 3) := by decide +kernel
theorem dX11_opensLate_85 : decode cX11_opensLate 85 = .ok (.bipush 32, 2) := by decide +kernel
theorem dX11_opensLate_87 : decode cX11_opensLate 87 = .ok (.invokevirtual 359, 3) := by decide +kernel
theorem dX11_opensLate_90 : decode cX11_opensLate 90 = .ok (.iconst 0, 1) := by decide +kernel
theorem dX11_opensLate_91 : decode cX11_opensLate 91 = .ok (.istore 5, 2) := by decide +kernel
theorem dX11_opensLate_93 : decode cX11_opensLate 93 = .ok (.iload 5, 2) := by decide +kernel
theorem dX11_opensLate_95 : decode cX11_opensLate 95 = .ok (.bipush 48, 2) := by decide +kernel
theorem dX11_opensLate_97 : decode cX11_opensLate 97 = .ok (.if_icmp .ge 42, 3) := by decide +kernel
theorem dX11_opensLate_100 : decode cX11_opensLate 100 = .ok (.aload_n 0, 1) := by decide +kernel
theorem dX11_opensLate_101 : decode cX11_opensLate 101 = .ok (.getfield 210, 3) := by decide +kernel
theorem dX11_opensLate_104 : decode cX11_opensLate 104 = .ok (.iload 5, 2) := by decide +kernel
theorem dX11_opensLate_106 : decode cX11_opensLate 106 = .ok (.iload 5, 2) := by decide +kernel
theorem dX11_opensLate_108 : decode cX11_opensLate 108 = .ok (.bipush 16, 2) := by decide +kernel
theorem dX11_opensLate_110 : decode cX11_opensLate 110 = .ok (.if_icmp .ge 7, 3) := by decide +kernel
theorem dX11_opensLate_113 : decode cX11_opensLate 113 = .ok (.iconst 0, 1) := by decide +kernel
theorem dX11_opensLate_114 : decode cX11_opensLate 114 = .ok (.goto 18, 3) := by decide +kernel
theorem dX11_opensLate_117 : decode cX11_opensLate 117 = .ok (.aload_n 0, 1) := by decide +kernel
theorem dX11_opensLate_118 : decode cX11_opensLate 118 = .ok (.getfield 25, 3) := by decide +kernel
theorem dX11_opensLate_121 : decode cX11_opensLate 121 = .ok (.bipush 48, 2) := by decide +kernel
theorem dX11_opensLate_123 : decode cX11_opensLate 123 = .ok (.iload_n 2, 1) := by decide +kernel
theorem dX11_opensLate_124 : decode cX11_opensLate 124 = .ok (.imul, 1) := by decide +kernel
theorem dX11_opensLate_125 : decode cX11_opensLate 125 = .ok (.iload 5, 2) := by decide +kernel
theorem dX11_opensLate_127 : decode cX11_opensLate 127 = .ok (.iadd, 1) := by decide +kernel
theorem dX11_opensLate_128 : decode cX11_opensLate 128 = .ok (.bipush 16, 2) := by decide +kernel
theorem dX11_opensLate_130 : decode cX11_opensLate 130 = .ok (.isub, 1) := by decide +kernel
theorem dX11_opensLate_131 : decode cX11_opensLate 131 = .ok (.iaload, 1) := by decide +kernel
theorem dX11_opensLate_132 : decode cX11_opensLate 132 = .ok (.iastore, 1) := by decide +kernel
theorem dX11_opensLate_133 : decode cX11_opensLate 133 = .ok (.iinc 5 1, 3) := by decide +kernel
theorem dX11_opensLate_136 : decode cX11_opensLate 136 = .ok (.goto (-43), 3) := by decide +kernel
theorem dX11_opensLate_139 : decode cX11_opensLate 139 = .ok (.aload_n 0, 1) := by decide +kernel
theorem dX11_opensLate_140 : decode cX11_opensLate 140 = .ok (.iconst 2, 1) := by decide +kernel
theorem dX11_opensLate_141 : decode cX11_opensLate 141 = .ok (.iconst 1, 1) := by decide +kernel
theorem dX11_opensLate_142 : decode cX11_opensLate 142 = .ok (.invokevirtual 362, 3) := by decide +kernel
theorem dX11_opensLate_145 : decode cX11_opensLate 145 = .ok (.iconst 0, 1) := by decide +kernel
theorem dX11_opensLate_146 : decode cX11_opensLate 146 = .ok (.istore 5, 2) := by decide +kernel
theorem dX11_opensLate_148 : decode cX11_opensLate 148 = .ok (.iload 5, 2) := by decide +kernel
theorem dX11_opensLate_150 : decode cX11_opensLate 150 = .ok (.bipush 32, 2) := by decide +kernel
theorem dX11_opensLate_152 : decode cX11_opensLate 152 = .ok (.if_icmp .ge 26, 3) := by decide +kernel
theorem dX11_opensLate_155 : decode cX11_opensLate 155 = .ok (.aload_n 0, 1) := by decide +kernel
theorem dX11_opensLate_156 : decode cX11_opensLate 156 = .ok (.getfield 31, 3) := by decide +kernel
theorem dX11_opensLate_159 : decode cX11_opensLate 159 = .ok (.iload 5, 2) := by decide +kernel
theorem dX11_opensLate_161 : decode cX11_opensLate 161 = .ok (.aload_n 0, 1) := by decide +kernel
theorem dX11_opensLate_162 : decode cX11_opensLate 162 = .ok (.getfield 210, 3) := by decide +kernel
theorem dX11_opensLate_165 : decode cX11_opensLate 165 = .ok (.bipush 16, 2) := by decide +kernel
theorem dX11_opensLate_167 : decode cX11_opensLate 167 = .ok (.iload 5, 2) := by decide +kernel
theorem dX11_opensLate_169 : decode cX11_opensLate 169 = .ok (.iadd, 1) := by decide +kernel
theorem dX11_opensLate_170 : decode cX11_opensLate 170 = .ok (.iaload, 1) := by decide +kernel
theorem dX11_opensLate_171 : decode cX11_opensLate 171 = .ok (.iastore, 1) := by decide +kernel
theorem dX11_opensLate_172 : decode cX11_opensLate 172 = .ok (.iinc 5 1, 3) := by decide +kernel
theorem dX11_opensLate_175 : decode cX11_opensLate 175 = .ok (.goto (-27), 3) := by decide +kernel
theorem dX11_opensLate_178 : decode cX11_opensLate 178 = .ok (.iconst 1, 1) := by decide +kernel
theorem dX11_opensLate_179 : decode cX11_opensLate 179 = .ok (.ireturn, 1) := by decide +kernel
theorem dX11_word_0 : decode cX11_word 0 = .ok (.iload_n 2, 1) := by decide +kernel
theorem dX11_word_1 : decode cX11_word 1 = .ok (.ifCond .eq 10, 3) := by decide +kernel
theorem dX11_word_4 : decode cX11_word 4 = .ok (.aload_n 0, 1) := by decide +kernel
theorem dX11_word_5 : decode cX11_word 5 = .ok (.getfield 320, 3) := by decide +kernel
theorem dX11_word_8 : decode cX11_word 8 = .ok (.goto 7, 3) := by decide +kernel
theorem dX11_word_11 : decode cX11_word 11 = .ok (.aload_n 0, 1) := by decide +kernel
theorem dX11_word_12 : decode cX11_word 12 = .ok (.getfield 323, 3) := by decide +kernel
theorem dX11_word_15 : decode cX11_word 15 = .ok (.istore_n 3, 1) := by decide +kernel
theorem dX11_word_16 : decode cX11_word 16 = .ok (.aload_n 0, 1) := by decide +kernel
theorem dX11_word_17 : decode cX11_word 17 = .ok (.iload_n 3, 1) := by decide +kernel
theorem dX11_word_18 : decode cX11_word 18 = .ok (.bipush 127, 2) := by decide +kernel
theorem dX11_word_20 : decode cX11_word 20 = .ok (.if_icmp .ne 7, 3) := by decide +kernel
theorem dX11_word_23 : decode cX11_word 23 = .ok (.iconst 1, 1) := by decide +kernel
theorem dX11_word_24 : decode cX11_word 24 = .ok (.goto 4, 3) := by decide +kernel
theorem dX11_word_27 : decode cX11_word 27 = .ok (.iconst 0, 1) := by decide +kernel
theorem dX11_word_28 : decode cX11_word 28 = .ok (.putfield 230, 3) := by decide +kernel
theorem dX11_word_31 : decode cX11_word 31 = .ok (.aload_n 0, 1) := by decide +kernel
theorem dX11_word_32 : decode cX11_word 32 = .ok (.getfield 230, 3) := by decide +kernel
theorem dX11_word_35 : decode cX11_word 35 = .ok (.ifCond .le 5, 3) := by decide +kernel
theorem dX11_word_38 : decode cX11_word 38 = .ok (.iconst 0, 1) := by decide +kernel
theorem dX11_word_39 : decode cX11_word 39 = .ok (.ireturn, 1) := by decide +kernel
theorem dX11_word_40 : decode cX11_word 40 = .ok (.iload_n 2, 1) := by decide +kernel
theorem dX11_word_41 : decode cX11_word 41 = .ok (.ifCond .eq 30, 3) := by decide +kernel
theorem dX11_word_44 : decode cX11_word 44 = .ok (.aload_n 0, 1) := by decide +kernel
theorem dX11_word_45 : decode cX11_word 45 = .ok (.getfield 13, 3) := by decide +kernel
theorem dX11_word_48 : decode cX11_word 48 = .ok (.aload_n 0, 1) := by decide +kernel
theorem dX11_word_49 : decode cX11_word 49 = .ok (.getfield 320, 3) := by decide +kernel
theorem dX11_word_52 : decode cX11_word 52 = .ok (.iload_n 1, 1) := by decide +kernel
theorem dX11_word_53 : decode cX11_word 53 = .ok (.sipush 255, 3) := by decide +kernel
theorem dX11_word_56 : decode cX11_word 56 = .ok (.iand, 1) := by decide +kernel
theorem dX11_word_57 : decode cX11_word 57 = .ok (.iastore, 1) := by decide +kernel
theorem dX11_word_58 : decode cX11_word 58 = .ok (.aload_n 0, 1) := by decide +kernel
theorem dX11_word_59 : decode cX11_word 59 = .ok (.dup, 1) := by decide +kernel
theorem dX11_word_60 : decode cX11_word 60 = .ok (.getfield 320, 3) := by decide +kernel
theorem dX11_word_63 : decode cX11_word 63 = .ok (.iconst 1, 1) := by decide +kernel
theorem dX11_word_64 : decode cX11_word 64 = .ok (.iadd, 1) := by decide +kernel
theorem dX11_word_65 : decode cX11_word 65 = .ok (.putfield 320, 3) := by decide +kernel
theorem dX11_word_68 : decode cX11_word 68 = .ok (.goto 27, 3) := by decide +kernel
theorem dX11_word_71 : decode cX11_word 71 = .ok (.aload_n 0, 1) := by decide +kernel
theorem dX11_word_72 : decode cX11_word 72 = .ok (.getfield 7, 3) := by decide +kernel
theorem dX11_word_75 : decode cX11_word 75 = .ok (.aload_n 0, 1) := by decide +kernel
theorem dX11_word_76 : decode cX11_word 76 = .ok (.getfield 323, 3) := by decide +kernel
theorem dX11_word_79 : decode cX11_word 79 = .ok (.iload_n 1, 1) := by decide +kernel
theorem dX11_word_80 : decode cX11_word 80 = .ok (.sipush 255, 3) := by decide +kernel
theorem dX11_word_83 : decode cX11_word 83 = .ok (.iand, 1) := by decide +kernel
theorem dX11_word_84 : decode cX11_word 84 = .ok (.iastore, 1) := by decide +kernel
theorem dX11_word_85 : decode cX11_word 85 = .ok (.aload_n 0, 1) := by decide +kernel
theorem dX11_word_86 : decode cX11_word 86 = .ok (.dup, 1) := by decide +kernel
theorem dX11_word_87 : decode cX11_word 87 = .ok (.getfield 323, 3) := by decide +kernel
theorem dX11_word_90 : decode cX11_word 90 = .ok (.iconst 1, 1) := by decide +kernel
theorem dX11_word_91 : decode cX11_word 91 = .ok (.iadd, 1) := by decide +kernel
theorem dX11_word_92 : decode cX11_word 92 = .ok (.putfield 323, 3) := by decide +kernel
theorem dX11_word_95 : decode cX11_word 95 = .ok (.iload_n 3, 1) := by decide +kernel
theorem dX11_word_96 : decode cX11_word 96 = .ok (.iconst 1, 1) := by decide +kernel
theorem dX11_word_97 : decode cX11_word 97 = .ok (.iadd, 1) := by decide +kernel
theorem dX11_word_98 : decode cX11_word 98 = .ok (.ireturn, 1) := by decide +kernel
theorem dX11_id_0 : decode cX11_id 0 = .ok (.aload_n 0, 1) := by decide +kernel
theorem dX11_id_1 : decode cX11_id 1 = .ok (.aload_n 0, 1) := by decide +kernel
theorem dX11_id_2 : decode cX11_id 2 = .ok (.getfield 309, 3) := by decide +kernel
theorem dX11_id_5 : decode cX11_id 5 = .ok (.bipush 32, 2) := by decide +kernel
theorem dX11_id_7 : decode cX11_id 7 = .ok (.if_icmp .ne 7, 3) := by decide +kernel
theorem dX11_id_10 : decode cX11_id 10 = .ok (.iconst 1, 1) := by decide +kernel
theorem dX11_id_11 : decode cX11_id 11 = .ok (.goto 4, 3) := by decide +kernel
theorem dX11_id_14 : decode cX11_id 14 = .ok (.iconst 0, 1) := by decide +kernel
theorem dX11_id_15 : decode cX11_id 15 = .ok (.putfield 230, 3) := by decide +kernel
theorem dX11_id_18 : decode cX11_id 18 = .ok (.aload_n 0, 1) := by decide +kernel
theorem dX11_id_19 : decode cX11_id 19 = .ok (.getfield 230, 3) := by decide +kernel
theorem dX11_id_22 : decode cX11_id 22 = .ok (.ifCond .ne 27, 3) := by decide +kernel
theorem dX11_id_25 : decode cX11_id 25 = .ok (.aload_n 0, 1) := by decide +kernel
theorem dX11_id_26 : decode cX11_id 26 = .ok (.getfield 19, 3) := by decide +kernel
theorem dX11_id_29 : decode cX11_id 29 = .ok (.aload_n 0, 1) := by decide +kernel
theorem dX11_id_30 : decode cX11_id 30 = .ok (.getfield 309, 3) := by decide +kernel
theorem dX11_id_33 : decode cX11_id 33 = .ok (.iload_n 1, 1) := by decide +kernel
theorem dX11_id_34 : decode cX11_id 34 = .ok (.sipush 255, 3) := by decide +kernel
theorem dX11_id_37 : decode cX11_id 37 = .ok (.iand, 1) := by decide +kernel
theorem dX11_id_38 : decode cX11_id 38 = .ok (.iastore, 1) := by decide +kernel
theorem dX11_id_39 : decode cX11_id 39 = .ok (.aload_n 0, 1) := by decide +kernel
theorem dX11_id_40 : decode cX11_id 40 = .ok (.dup, 1) := by decide +kernel
theorem dX11_id_41 : decode cX11_id 41 = .ok (.getfield 309, 3) := by decide +kernel
theorem dX11_id_44 : decode cX11_id 44 = .ok (.iconst 1, 1) := by decide +kernel
theorem dX11_id_45 : decode cX11_id 45 = .ok (.iadd, 1) := by decide +kernel
theorem dX11_id_46 : decode cX11_id 46 = .ok (.putfield 309, 3) := by decide +kernel
theorem dX11_id_49 : decode cX11_id 49 = .ok (.return_, 1) := by decide +kernel
theorem dX11_tape_0 : decode cX11_tape 0 = .ok (.aload_n 0, 1) := by decide +kernel
theorem dX11_tape_1 : decode cX11_tape 1 = .ok (.aload_n 0, 1) := by decide +kernel
theorem dX11_tape_2 : decode cX11_tape 2 = .ok (.getfield 369, 3) := by decide +kernel
theorem dX11_tape_5 : decode cX11_tape 5 = .ok (.iconst 4, 1) := by decide +kernel
theorem dX11_tape_6 : decode cX11_tape 6 = .ok (.iadd, 1) := by decide +kernel
theorem dX11_tape_7 : decode cX11_tape 7 = .ok (.sipush 400, 3) := by decide +kernel
theorem dX11_tape_10 : decode cX11_tape 10 = .ok (.if_icmp .le 7, 3) := by decide +kernel
theorem dX11_tape_13 : decode cX11_tape 13 = .ok (.iconst 1, 1) := by decide +kernel
theorem dX11_tape_14 : decode cX11_tape 14 = .ok (.goto 4, 3) := by decide +kernel
theorem dX11_tape_17 : decode cX11_tape 17 = .ok (.iconst 0, 1) := by decide +kernel
theorem dX11_tape_18 : decode cX11_tape 18 = .ok (.putfield 230, 3) := by decide +kernel
theorem dX11_tape_21 : decode cX11_tape 21 = .ok (.aload_n 0, 1) := by decide +kernel
theorem dX11_tape_22 : decode cX11_tape 22 = .ok (.getfield 230, 3) := by decide +kernel
theorem dX11_tape_25 : decode cX11_tape 25 = .ok (.ifCond .le 5, 3) := by decide +kernel
theorem dX11_tape_28 : decode cX11_tape 28 = .ok (.iconst 0, 1) := by decide +kernel
theorem dX11_tape_29 : decode cX11_tape 29 = .ok (.ireturn, 1) := by decide +kernel
theorem dX11_tape_30 : decode cX11_tape 30 = .ok (.bipush 24, 2) := by decide +kernel
theorem dX11_tape_32 : decode cX11_tape 32 = .ok (.istore_n 2, 1) := by decide +kernel
theorem dX11_tape_33 : decode cX11_tape 33 = .ok (.iload_n 2, 1) := by decide +kernel
theorem dX11_tape_34 : decode cX11_tape 34 = .ok (.ifCond .lt 35, 3) := by decide +kernel
theorem dX11_tape_37 : decode cX11_tape 37 = .ok (.aload_n 0, 1) := by decide +kernel
theorem dX11_tape_38 : decode cX11_tape 38 = .ok (.getfield 22, 3) := by decide +kernel
theorem dX11_tape_41 : decode cX11_tape 41 = .ok (.aload_n 0, 1) := by decide +kernel
theorem dX11_tape_42 : decode cX11_tape 42 = .ok (.getfield 369, 3) := by decide +kernel
theorem dX11_tape_45 : decode cX11_tape 45 = .ok (.iload_n 1, 1) := by decide +kernel
theorem dX11_tape_46 : decode cX11_tape 46 = .ok (.iload_n 2, 1) := by decide +kernel
theorem dX11_tape_47 : decode cX11_tape 47 = .ok (.ishr, 1) := by decide +kernel
theorem dX11_tape_48 : decode cX11_tape 48 = .ok (.sipush 255, 3) := by decide +kernel
theorem dX11_tape_51 : decode cX11_tape 51 = .ok (.iand, 1) := by decide +kernel
theorem dX11_tape_52 : decode cX11_tape 52 = .ok (.iastore, 1) := by decide +kernel
theorem dX11_tape_53 : decode cX11_tape 53 = .ok (.aload_n 0, 1) := by decide +kernel
theorem dX11_tape_54 : decode cX11_tape 54 = .ok (.dup, 1) := by decide +kernel
theorem dX11_tape_55 : decode cX11_tape 55 = .ok (.getfield 369, 3) := by decide +kernel
theorem dX11_tape_58 : decode cX11_tape 58 = .ok (.iconst 1, 1) := by decide +kernel
theorem dX11_tape_59 : decode cX11_tape 59 = .ok (.iadd, 1) := by decide +kernel
theorem dX11_tape_60 : decode cX11_tape 60 = .ok (.putfield 369, 3) := by decide +kernel
theorem dX11_tape_63 : decode cX11_tape 63 = .ok (.iinc 2 (-8), 3) := by decide +kernel
theorem dX11_tape_66 : decode cX11_tape 66 = .ok (.goto (-33), 3) := by decide +kernel
theorem dX11_tape_69 : decode cX11_tape 69 = .ok (.aload_n 0, 1) := by decide +kernel
theorem dX11_tape_70 : decode cX11_tape 70 = .ok (.getfield 369, 3) := by decide +kernel
theorem dX11_tape_73 : decode cX11_tape 73 = .ok (.ireturn, 1) := by decide +kernel
theorem dX11_metadata_0 : decode cX11_metadata 0 = .ok (.aload_n 0, 1) := by decide +kernel
theorem dX11_metadata_1 : decode cX11_metadata 1 = .ok (.iconst 0, 1) := by decide +kernel
theorem dX11_metadata_2 : decode cX11_metadata 2 = .ok (.putfield 230, 3) := by decide +kernel
theorem dX11_metadata_5 : decode cX11_metadata 5 = .ok (.aload_n 0, 1) := by decide +kernel
theorem dX11_metadata_6 : decode cX11_metadata 6 = .ok (.getfield 312, 3) := by decide +kernel
theorem dX11_metadata_9 : decode cX11_metadata 9 = .ok (.ifCond .eq 7, 3) := by decide +kernel
theorem dX11_metadata_12 : decode cX11_metadata 12 = .ok (.iconst 1, 1) := by decide +kernel
theorem dX11_metadata_13 : decode cX11_metadata 13 = .ok (.goto 4, 3) := by decide +kernel
theorem dX11_metadata_16 : decode cX11_metadata 16 = .ok (.iconst 0, 1) := by decide +kernel
theorem dX11_metadata_17 : decode cX11_metadata 17 = .ok (.istore_n 2, 1) := by decide +kernel
theorem dX11_metadata_18 : decode cX11_metadata 18 = .ok (.aload_n 0, 1) := by decide +kernel
theorem dX11_metadata_19 : decode cX11_metadata 19 = .ok (.iload_n 1, 1) := by decide +kernel
theorem dX11_metadata_20 : decode cX11_metadata 20 = .ok (.putfield 312, 3) := by decide +kernel
theorem dX11_metadata_23 : decode cX11_metadata 23 = .ok (.iload_n 2, 1) := by decide +kernel
theorem dX11_metadata_24 : decode cX11_metadata 24 = .ok (.ireturn, 1) := by decide +kernel
theorem dX11_shutAll_0 : decode cX11_shutAll 0 = .ok (.aload_n 0, 1) := by decide +kernel
theorem dX11_shutAll_1 : decode cX11_shutAll 1 = .ok (.iconst 0, 1) := by decide +kernel
theorem dX11_shutAll_2 : decode cX11_shutAll 2 = .ok (.putfield 372, 3) := by decide +kernel
theorem dX11_shutAll_5 : decode cX11_shutAll 5 = .ok (.aload_n 0, 1) := by decide +kernel
theorem dX11_shutAll_6 : decode cX11_shutAll 6 = .ok (.iconst 0, 1) := by decide +kernel
theorem dX11_shutAll_7 : decode cX11_shutAll 7 = .ok (.putfield 375, 3) := by decide +kernel
theorem dX11_shutAll_10 : decode cX11_shutAll 10 = .ok (.return_, 1) := by decide +kernel
set_option maxRecDepth 20000 in
theorem ggX11_make_X11_shutAll : GoodIn wsX11_make wsX11_shutAll := goodIn_r _ [10, 11, 12, 168, 169, 170, 171, 172, 173, 174, 175, 176, 177, 178, 179, 180, 181, 182, 183, 184, 185, 186, 187, 188, 189, 190, 191, 192, 193, 194, 195, 196, 197, 198, 199, 200, 201, 202, 203, 204, 205, 206, 207, 208, 209, 210, 211, 212] (by decide +kernel) (by decide +kernel)
set_option maxRecDepth 20000 in
theorem gX11_make_X11_shutAll : GoodIn wsX11_make (wsV RX11 378 RX11 yX11_shutAll wsX11_shutAll) := goodIn_app (goodIn_of _ (by decide +kernel)) ggX11_make_X11_shutAll
set_option maxRecDepth 20000 in
theorem ggX11_make_X11_makeEarly : GoodIn wsX11_make wsX11_makeEarly := goodIn_ca (goodIn_r _ [16, 17, 18, 19, 20, 21, 22, 23, 1, 24, 25, 26, 27, 9, 28, 29, 30, 31, 32, 33, 34, 35, 36, 37, 38, 39, 40, 41, 42, 43, 44, 45, 46, 47, 48, 49, 50, 51, 52, 53, 54, 55, 56, 57, 58, 59, 60, 61, 62, 63, 64, 65, 66, 67, 68, 69, 70, 71, 72, 73, 74, 75, 76, 77, 78, 79, 80, 81, 82, 83, 84, 85, 86, 87, 88, 89, 90, 5, 91, 92, 93, 94, 95, 96, 97, 98, 99, 100, 101, 102, 168, 169, 170, 171, 172, 173, 174, 175, 176, 177, 178, 179, 180, 181, 182, 183, 184, 185, 186, 187, 188, 189, 190, 191, 192, 193, 194, 195, 196, 197, 198, 199, 200, 201, 202, 203, 204, 205, 206, 207, 208, 209, 210, 211, 212] (by decide +kernel) (by decide +kernel)) (goodIn_sub (fun _ h => List.mem_cons_of_mem _ (List.mem_append_right _ h)) (by decide +kernel))
set_option maxRecDepth 20000 in
theorem gX11_make_X11_makeEarly : GoodIn wsX11_make (wsV RX11 381 RX11 yX11_makeEarly wsX11_makeEarly) := goodIn_app (goodIn_of _ (by decide +kernel)) ggX11_make_X11_makeEarly
set_option maxRecDepth 20000 in
theorem ggX11_make_X11_makeLate : GoodIn wsX11_make wsX11_makeLate := goodIn_ca (goodIn_r _ [106, 17, 94, 19, 20, 21, 18, 22, 5, 93, 107, 108, 109, 9, 110, 3, 111, 112, 113, 114, 115, 35, 116, 117, 118, 119, 120, 34, 36, 37, 38, 39, 40, 41, 42, 43, 44, 121, 122, 123, 124, 49, 125, 126, 127, 128, 129, 130, 131, 132, 55, 133, 134, 56, 57, 58, 59, 60, 61, 62, 63, 67, 68, 69, 70, 71, 72, 73, 135, 136, 137, 138, 139, 140, 141, 142, 143, 144, 145, 146, 147, 148, 149, 150, 151, 152, 153, 154, 155, 156, 157, 158, 159, 160, 161, 162, 163, 164, 165, 166, 167, 168, 169, 170, 171, 172, 173, 174, 175, 176, 177, 178, 179, 180, 181, 182, 183, 184, 185, 186, 187, 188, 189, 190, 191, 192, 193, 194, 195, 196, 197, 198, 199, 200, 201, 202, 203, 204, 205, 206, 207, 208, 209, 210, 211, 212] (by decide +kernel) (by decide +kernel)) (goodIn_sub (fun _ h => List.mem_cons_of_mem _ (List.mem_append_right _ h)) (by decide +kernel))
set_option maxRecDepth 20000 in
theorem gX11_make_X11_makeLate : GoodIn wsX11_make (wsV RX11 384 RX11 yX11_makeLate wsX11_makeLate) := goodIn_app (goodIn_of _ (by decide +kernel)) ggX11_make_X11_makeLate
theorem dX11_make_0 : decode cX11_make 0 = .ok (.aload_n 0, 1) := by decide +kernel
theorem dX11_make_1 : decode cX11_make 1 = .ok (.aload_n 0, 1) := by decide +kernel
theorem dX11_make_2 : decode cX11_make 2 = .ok (.getfield 219, 3) := by decide +kernel
theorem dX11_make_5 : decode cX11_make 5 = .ok (.iconst 5, 1) := by decide +kernel
theorem dX11_make_6 : decode cX11_make 6 = .ok (.if_icmp .ne 21, 3) := by decide +kernel
theorem dX11_make_9 : decode cX11_make 9 = .ok (.aload_n 0, 1) := by decide +kernel
theorem dX11_make_10 : decode cX11_make 10 = .ok (.getfield 369, 3) := by decide +kernel
theorem dX11_make_13 : decode cX11_make 13 = .ok (.aload_n 0, 1) := by decide +kernel
theorem dX11_make_14 : decode cX11_make 14 = .ok (.getfield 346, 3) := by decide +kernel
theorem dX11_make_17 : decode cX11_make 17 = .ok (.isub, 1) := by decide +kernel
theorem dX11_make_18 : decode cX11_make 18 = .ok (.bipush 68, 2) := by decide +kernel
theorem dX11_make_20 : decode cX11_make 20 = .ok (.if_icmp .ge 7, 3) := by decide +kernel
theorem dX11_make_23 : decode cX11_make 23 = .ok (.iconst 1, 1) := by decide +kernel
theorem dX11_make_24 : decode cX11_make 24 = .ok (.goto 4, 3) := by decide +kernel
theorem dX11_make_27 : decode cX11_make 27 = .ok (.iconst 0, 1) := by decide +kernel
theorem dX11_make_28 : decode cX11_make 28 = .ok (.putfield 230, 3) := by decide +kernel
theorem dX11_make_31 : decode cX11_make 31 = .ok (.aload_n 0, 1) := by decide +kernel
theorem dX11_make_32 : decode cX11_make 32 = .ok (.getfield 230, 3) := by decide +kernel
theorem dX11_make_35 : decode cX11_make 35 = .ok (.ifCond .le 5, 3) := by decide +kernel
theorem dX11_make_38 : decode cX11_make 38 = .ok (.iconst 0, 1) := by decide +kernel
theorem dX11_make_39 : decode cX11_make 39 = .ok (.ireturn, 1) := by decide +kernel
theorem dX11_make_40 : decode cX11_make 40 = .ok (.aload_n 0, 1) := by decide +kernel
theorem dX11_make_41 : decode cX11_make 41 = .ok (.iload_n 1, 1) := by decide +kernel
theorem dX11_make_42 : decode cX11_make 42 = .ok (.putfield 302, 3) := by decide +kernel
theorem dX11_make_45 : decode cX11_make 45 = .ok (.aload_n 0, 1) := by decide +kernel
theorem dX11_make_46 : decode cX11_make 46 = .ok (.invokevirtual 378, 3) := by decide +kernel
theorem dX11_make_49 : decode cX11_make 49 = .ok (.aload_n 0, 1) := by decide +kernel
theorem dX11_make_50 : decode cX11_make 50 = .ok (.getfield 219, 3) := by decide +kernel
theorem dX11_make_53 : decode cX11_make 53 = .ok (.iconst 5, 1) := by decide +kernel
theorem dX11_make_54 : decode cX11_make 54 = .ok (.if_icmp .ge 10, 3) := by decide +kernel
theorem dX11_make_57 : decode cX11_make 57 = .ok (.aload_n 0, 1) := by decide +kernel
theorem dX11_make_58 : decode cX11_make 58 = .ok (.invokevirtual 381, 3) := by decide +kernel
theorem dX11_make_61 : decode cX11_make 61 = .ok (.goto 7, 3) := by decide +kernel
theorem dX11_make_64 : decode cX11_make 64 = .ok (.aload_n 0, 1) := by decide +kernel
theorem dX11_make_65 : decode cX11_make 65 = .ok (.invokevirtual 384, 3) := by decide +kernel
theorem dX11_make_68 : decode cX11_make 68 = .ok (.ireturn, 1) := by decide +kernel
theorem dX11_isEntry_0 : decode cX11_isEntry 0 = .ok (.iload_n 1, 1) := by decide +kernel
theorem dX11_isEntry_1 : decode cX11_isEntry 1 = .ok (.ifCond .lt 26, 3) := by decide +kernel
theorem dX11_isEntry_4 : decode cX11_isEntry 4 = .ok (.iload_n 1, 1) := by decide +kernel
theorem dX11_isEntry_5 : decode cX11_isEntry 5 = .ok (.iconst 5, 1) := by decide +kernel
theorem dX11_isEntry_6 : decode cX11_isEntry 6 = .ok (.if_icmp .ge 21, 3) := by decide +kernel
theorem dX11_isEntry_9 : decode cX11_isEntry 9 = .ok (.iload_n 2, 1) := by decide +kernel
theorem dX11_isEntry_10 : decode cX11_isEntry 10 = .ok (.ifCond .lt 17, 3) := by decide +kernel
theorem dX11_isEntry_13 : decode cX11_isEntry 13 = .ok (.iload_n 2, 1) := by decide +kernel
theorem dX11_isEntry_14 : decode cX11_isEntry 14 = .ok (.aload_n 0, 1) := by decide +kernel
theorem dX11_isEntry_15 : decode cX11_isEntry 15 = .ok (.getfield 28, 3) := by decide +kernel
theorem dX11_isEntry_18 : decode cX11_isEntry 18 = .ok (.iload_n 1, 1) := by decide +kernel
theorem dX11_isEntry_19 : decode cX11_isEntry 19 = .ok (.iaload, 1) := by decide +kernel
theorem dX11_isEntry_20 : decode cX11_isEntry 20 = .ok (.if_icmp .ge 7, 3) := by decide +kernel
theorem dX11_isEntry_23 : decode cX11_isEntry 23 = .ok (.iconst 1, 1) := by decide +kernel
theorem dX11_isEntry_24 : decode cX11_isEntry 24 = .ok (.goto 4, 3) := by decide +kernel
theorem dX11_isEntry_27 : decode cX11_isEntry 27 = .ok (.iconst 0, 1) := by decide +kernel
theorem dX11_isEntry_28 : decode cX11_isEntry 28 = .ok (.ireturn, 1) := by decide +kernel
set_option maxRecDepth 20000 in
theorem ggX11_entry_X11_isEntry : GoodIn wsX11_entry wsX11_isEntry := goodIn_ca (goodIn_r _ [8, 2, 9, 10, 11, 12, 13, 14, 15, 16, 17, 18, 19, 20, 21, 22, 23, 24, 25, 26, 27, 28, 29, 30, 31, 32, 33, 34, 35, 36, 37, 38, 39, 40, 41, 42, 43, 44, 45, 46, 47, 48, 49, 50, 51, 52, 53] (by decide +kernel) (by decide +kernel)) (goodIn_sub (fun _ h => List.mem_cons_of_mem _ (List.mem_append_right _ h)) (by decide +kernel))
set_option maxRecDepth 20000 in
theorem gX11_entry_X11_isEntry : GoodIn wsX11_entry (wsV RX11 387 RX11 yX11_isEntry wsX11_isEntry) := goodIn_app (goodIn_of _ (by decide +kernel)) ggX11_entry_X11_isEntry
theorem dX11_entry_0 : decode cX11_entry 0 = .ok (.aload_n 0, 1) := by decide +kernel
theorem dX11_entry_1 : decode cX11_entry 1 = .ok (.aload_n 0, 1) := by decide +kernel
theorem dX11_entry_2 : decode cX11_entry 2 = .ok (.iload_n 1, 1) := by decide +kernel
theorem dX11_entry_3 : decode cX11_entry 3 = .ok (.iload_n 2, 1) := by decide +kernel
theorem dX11_entry_4 : decode cX11_entry 4 = .ok (.iconst (-1), 1) := by decide +kernel
theorem dX11_entry_5 : decode cX11_entry 5 = .ok (.if_icmp .ne 7, 3) := by decide +kernel
theorem dX11_entry_8 : decode cX11_entry 8 = .ok (.iconst 0, 1) := by decide +kernel
theorem dX11_entry_9 : decode cX11_entry 9 = .ok (.goto 4, 3) := by decide +kernel
theorem dX11_entry_12 : decode cX11_entry 12 = .ok (.iload_n 2, 1) := by decide +kernel
theorem dX11_entry_13 : decode cX11_entry 13 = .ok (.invokevirtual 387, 3) := by decide +kernel
theorem dX11_entry_16 : decode cX11_entry 16 = .ok (.ifCond .eq 7, 3) := by decide +kernel
theorem dX11_entry_19 : decode cX11_entry 19 = .ok (.iconst 0, 1) := by decide +kernel
theorem dX11_entry_20 : decode cX11_entry 20 = .ok (.goto 4, 3) := by decide +kernel
theorem dX11_entry_23 : decode cX11_entry 23 = .ok (.iconst 1, 1) := by decide +kernel
theorem dX11_entry_24 : decode cX11_entry 24 = .ok (.putfield 230, 3) := by decide +kernel
theorem dX11_entry_27 : decode cX11_entry 27 = .ok (.aload_n 0, 1) := by decide +kernel
theorem dX11_entry_28 : decode cX11_entry 28 = .ok (.getfield 230, 3) := by decide +kernel
theorem dX11_entry_31 : decode cX11_entry 31 = .ok (.ifCond .le 7, 3) := by decide +kernel
theorem dX11_entry_34 : decode cX11_entry 34 = .ok (.iconst 0, 1) := by decide +kernel
theorem dX11_entry_35 : decode cX11_entry 35 = .ok (.goto 28, 3) := by decide +kernel
theorem dX11_entry_38 : decode cX11_entry 38 = .ok (.iload_n 2, 1) := by decide +kernel
theorem dX11_entry_39 : decode cX11_entry 39 = .ok (.iconst (-1), 1) := by decide +kernel
theorem dX11_entry_40 : decode cX11_entry 40 = .ok (.if_icmp .ne 12, 3) := by decide +kernel
theorem dX11_entry_43 : decode cX11_entry 43 = .ok (.aload_n 0, 1) := by decide +kernel
theorem dX11_entry_44 : decode cX11_entry 44 = .ok (.getfield 28, 3) := by decide +kernel
theorem dX11_entry_47 : decode cX11_entry 47 = .ok (.iload_n 1, 1) := by decide +kernel
theorem dX11_entry_48 : decode cX11_entry 48 = .ok (.iaload, 1) := by decide +kernel
theorem dX11_entry_49 : decode cX11_entry 49 = .ok (.goto 14, 3) := by decide +kernel
theorem dX11_entry_52 : decode cX11_entry 52 = .ok (.aload_n 0, 1) := by decide +kernel
theorem dX11_entry_53 : decode cX11_entry 53 = .ok (.getfield 25, 3) := by decide +kernel
theorem dX11_entry_56 : decode cX11_entry 56 = .ok (.bipush 48, 2) := by decide +kernel
theorem dX11_entry_58 : decode cX11_entry 58 = .ok (.iload_n 1, 1) := by decide +kernel
theorem dX11_entry_59 : decode cX11_entry 59 = .ok (.imul, 1) := by decide +kernel
theorem dX11_entry_60 : decode cX11_entry 60 = .ok (.iload_n 2, 1) := by decide +kernel
theorem dX11_entry_61 : decode cX11_entry 61 = .ok (.iadd, 1) := by decide +kernel
theorem dX11_entry_62 : decode cX11_entry 62 = .ok (.iaload, 1) := by decide +kernel
theorem dX11_entry_63 : decode cX11_entry 63 = .ok (.ireturn, 1) := by decide +kernel
set_option maxRecDepth 20000 in
theorem ggX11_alter_X11_isEntry : GoodIn wsX11_alter wsX11_isEntry := goodIn_ca (goodIn_r _ [7, 8, 15, 16, 17, 18, 19, 20, 21, 22, 23, 24, 25, 26, 27, 28, 29, 30, 31, 32, 33, 34, 35, 36, 37, 38, 39, 40, 41, 42, 43, 44, 45, 46, 47, 48, 49, 50, 51, 52, 53, 54, 55, 56, 57, 58, 59] (by decide +kernel) (by decide +kernel)) (goodIn_sub (fun _ h => List.mem_cons_of_mem _ (List.mem_append_right _ h)) (by decide +kernel))
set_option maxRecDepth 20000 in
theorem gX11_alter_X11_isEntry : GoodIn wsX11_alter (wsV RX11 387 RX11 yX11_isEntry wsX11_isEntry) := goodIn_app (goodIn_of _ (by decide +kernel)) ggX11_alter_X11_isEntry
set_option maxRecDepth 20000 in
theorem ggX11_alter_X11_shutAll : GoodIn wsX11_alter wsX11_shutAll := goodIn_r _ [12, 13, 14, 15, 16, 17, 18, 19, 20, 21, 22, 23, 24, 25, 26, 27, 28, 29, 30, 31, 32, 33, 34, 35, 36, 37, 38, 39, 40, 41, 42, 43, 44, 45, 46, 47, 48, 49, 50, 51, 52, 53, 54, 55, 56, 57, 58, 59] (by decide +kernel) (by decide +kernel)
set_option maxRecDepth 20000 in
theorem gX11_alter_X11_shutAll : GoodIn wsX11_alter (wsV RX11 378 RX11 yX11_shutAll wsX11_shutAll) := goodIn_app (goodIn_of _ (by decide +kernel)) ggX11_alter_X11_shutAll
theorem dX11_alter_0 : decode cX11_alter 0 = .ok (.aload_n 0, 1) := by decide +kernel
theorem dX11_alter_1 : decode cX11_alter 1 = .ok (.aload_n 0, 1) := by decide +kernel
theorem dX11_alter_2 : decode cX11_alter 2 = .ok (.iload_n 1, 1) := by decide +kernel
theorem dX11_alter_3 : decode cX11_alter 3 = .ok (.iload_n 2, 1) := by decide +kernel
theorem dX11_alter_4 : decode cX11_alter 4 = .ok (.invokevirtual 387, 3) := by decide +kernel
theorem dX11_alter_7 : decode cX11_alter 7 = .ok (.ifCond .eq 7, 3) := by decide +kernel
theorem dX11_alter_10 : decode cX11_alter 10 = .ok (.iconst 0, 1) := by decide +kernel
theorem dX11_alter_11 : decode cX11_alter 11 = .ok (.goto 4, 3) := by decide +kernel
theorem dX11_alter_14 : decode cX11_alter 14 = .ok (.iconst 1, 1) := by decide +kernel
theorem dX11_alter_15 : decode cX11_alter 15 = .ok (.putfield 230, 3) := by decide +kernel
theorem dX11_alter_18 : decode cX11_alter 18 = .ok (.aload_n 0, 1) := by decide +kernel
theorem dX11_alter_19 : decode cX11_alter 19 = .ok (.getfield 230, 3) := by decide +kernel
theorem dX11_alter_22 : decode cX11_alter 22 = .ok (.ifCond .ne 23, 3) := by decide +kernel
theorem dX11_alter_25 : decode cX11_alter 25 = .ok (.aload_n 0, 1) := by decide +kernel
theorem dX11_alter_26 : decode cX11_alter 26 = .ok (.getfield 25, 3) := by decide +kernel
theorem dX11_alter_29 : decode cX11_alter 29 = .ok (.bipush 48, 2) := by decide +kernel
theorem dX11_alter_31 : decode cX11_alter 31 = .ok (.iload_n 1, 1) := by decide +kernel
theorem dX11_alter_32 : decode cX11_alter 32 = .ok (.imul, 1) := by decide +kernel
theorem dX11_alter_33 : decode cX11_alter 33 = .ok (.iload_n 2, 1) := by decide +kernel
theorem dX11_alter_34 : decode cX11_alter 34 = .ok (.iadd, 1) := by decide +kernel
theorem dX11_alter_35 : decode cX11_alter 35 = .ok (.iload_n 3, 1) := by decide +kernel
theorem dX11_alter_36 : decode cX11_alter 36 = .ok (.sipush 255, 3) := by decide +kernel
theorem dX11_alter_39 : decode cX11_alter 39 = .ok (.iand, 1) := by decide +kernel
theorem dX11_alter_40 : decode cX11_alter 40 = .ok (.iastore, 1) := by decide +kernel
theorem dX11_alter_41 : decode cX11_alter 41 = .ok (.aload_n 0, 1) := by decide +kernel
theorem dX11_alter_42 : decode cX11_alter 42 = .ok (.invokevirtual 378, 3) := by decide +kernel
theorem dX11_alter_45 : decode cX11_alter 45 = .ok (.return_, 1) := by decide +kernel
set_option maxRecDepth 20000 in
theorem ggX11_open_X11_openEarly : GoodIn wsX11_open wsX11_openEarly := goodIn_ca (goodIn_r _ [11, 4, 2, 12, 13, 5, 14, 15, 16, 17, 10, 18, 19, 20, 21, 22, 23, 24, 25, 26, 27, 28, 29, 30, 31, 32, 33, 34, 35, 36, 37, 38, 39, 40, 41, 42, 43, 44, 45, 46, 47, 48, 49, 50, 51, 52, 53, 54, 55, 56, 57, 58, 59, 60, 61, 62, 63, 64, 65, 66, 67, 68, 69, 70, 71, 72, 73, 74, 75, 76, 77, 78, 79, 80, 81, 82, 83, 84, 85, 86, 87, 88, 89, 90, 91, 92, 93, 94, 95, 96, 97, 98, 159, 160, 161, 162, 163, 164, 165, 166, 167, 168, 169, 170, 171, 172, 173, 174, 175, 176, 177, 178, 179, 180, 181, 182, 183, 184, 185, 186, 187, 188, 189, 190, 191, 192, 193, 194, 195, 196, 197, 198, 199, 200, 201, 202, 203] (by decide +kernel) (by decide +kernel)) (goodIn_sub (fun _ h => List.mem_cons_of_mem _ (List.mem_append_right _ h)) (by decide +kernel))
set_option maxRecDepth 20000 in
theorem gX11_open_X11_openEarly : GoodIn wsX11_open (wsV RX11 391 RX11 yX11_openEarly wsX11_openEarly) := goodIn_app (goodIn_of _ (by decide +kernel)) ggX11_open_X11_openEarly
set_option maxRecDepth 20000 in
theorem ggX11_open_X11_opensLate : GoodIn wsX11_open wsX11_opensLate := goodIn_ca (goodIn_r _ [102, 4, 2, 35, 13, 24, 34, 103, 104, 105, 10, 106, 29, 36, 37, 38, 39, 40, 41, 42, 43, 44, 107, 108, 109, 110, 53, 111, 112, 113, 114, 115, 116, 117, 118, 59, 119, 120, 60, 61, 62, 63, 64, 65, 66, 67, 71, 72, 73, 74, 75, 76, 77, 121, 122, 123, 124, 125, 126, 127, 128, 129, 130, 131, 132, 133, 134, 135, 136, 137, 138, 139, 140, 141, 142, 143, 144, 145, 146, 147, 148, 149, 150, 151, 152, 153, 159, 160, 161, 162, 163, 164, 165, 166, 167, 168, 169, 170, 171, 172, 173, 174, 175, 176, 177, 178, 179, 180, 181, 182, 183, 184, 185, 186, 187, 188, 189, 190, 191, 192, 193, 194, 195, 196, 197, 198, 199, 200, 201, 202, 203] (by decide +kernel) (by decide +kernel)) (goodIn_sub (fun _ h => List.mem_cons_of_mem _ (List.mem_append_right _ h)) (by decide +kernel))
set_option maxRecDepth 20000 in
theorem gX11_open_X11_opensLate : GoodIn wsX11_open (wsV RX11 394 RX11 yX11_opensLate wsX11_opensLate) := goodIn_app (goodIn_of _ (by decide +kernel)) ggX11_open_X11_opensLate
set_option maxRecDepth 20000 in
theorem ggX11_open_X11_shutAll : GoodIn wsX11_open wsX11_shutAll := goodIn_r _ [157, 6, 158, 159, 160, 161, 162, 163, 164, 165, 166, 167, 168, 169, 170, 171, 172, 173, 174, 175, 176, 177, 178, 179, 180, 181, 182, 183, 184, 185, 186, 187, 188, 189, 190, 191, 192, 193, 194, 195, 196, 197, 198, 199, 200, 201, 202, 203] (by decide +kernel) (by decide +kernel)
set_option maxRecDepth 20000 in
theorem gX11_open_X11_shutAll : GoodIn wsX11_open (wsV RX11 378 RX11 yX11_shutAll wsX11_shutAll) := goodIn_app (goodIn_of _ (by decide +kernel)) ggX11_open_X11_shutAll
theorem dX11_open_0 : decode cX11_open 0 = .ok (.aload_n 0, 1) := by decide +kernel
theorem dX11_open_1 : decode cX11_open 1 = .ok (.iload_n 1, 1) := by decide +kernel
theorem dX11_open_2 : decode cX11_open 2 = .ok (.iconst (-1), 1) := by decide +kernel
theorem dX11_open_3 : decode cX11_open 3 = .ok (.if_icmp .lt 10, 3) := by decide +kernel
theorem dX11_open_6 : decode cX11_open 6 = .ok (.iload_n 1, 1) := by decide +kernel
theorem dX11_open_7 : decode cX11_open 7 = .ok (.sipush 255, 3) := by decide +kernel
theorem dX11_open_10 : decode cX11_open 10 = .ok (.if_icmp .le 7, 3) := by decide +kernel
theorem dX11_open_13 : decode cX11_open 13 = .ok (.iconst 1, 1) := by decide +kernel
theorem dX11_open_14 : decode cX11_open 14 = .ok (.goto 39, 3) := by decide +kernel
theorem dX11_open_17 : decode cX11_open 17 = .ok (.iload_n 1, 1) := by decide +kernel
theorem dX11_open_18 : decode cX11_open 18 = .ok (.iconst (-1), 1) := by decide +kernel
theorem dX11_open_19 : decode cX11_open 19 = .ok (.if_icmp .ne 16, 3) := by decide +kernel
theorem dX11_open_22 : decode cX11_open 22 = .ok (.aload_n 0, 1) := by decide +kernel
theorem dX11_open_23 : decode cX11_open 23 = .ok (.getfield 28, 3) := by decide +kernel
theorem dX11_open_26 : decode cX11_open 26 = .ok (.iconst 0, 1) := by decide +kernel
theorem dX11_open_27 : decode cX11_open 27 = .ok (.iaload, 1) := by decide +kernel
theorem dX11_open_28 : decode cX11_open 28 = .ok (.ifCond .ne 7, 3) := by decide +kernel
theorem dX11_open_31 : decode cX11_open 31 = .ok (.iconst 2, 1) := by decide +kernel
theorem dX11_open_32 : decode cX11_open 32 = .ok (.goto 21, 3) := by decide +kernel
theorem dX11_open_35 : decode cX11_open 35 = .ok (.iload_n 1, 1) := by decide +kernel
theorem dX11_open_36 : decode cX11_open 36 = .ok (.ifCond .lt 16, 3) := by decide +kernel
theorem dX11_open_39 : decode cX11_open 39 = .ok (.aload_n 0, 1) := by decide +kernel
theorem dX11_open_40 : decode cX11_open 40 = .ok (.getfield 339, 3) := by decide +kernel
theorem dX11_open_43 : decode cX11_open 43 = .ok (.bipush 127, 2) := by decide +kernel
theorem dX11_open_45 : decode cX11_open 45 = .ok (.if_icmp .ne 7, 3) := by decide +kernel
theorem dX11_open_48 : decode cX11_open 48 = .ok (.iconst 3, 1) := by decide +kernel
theorem dX11_open_49 : decode cX11_open 49 = .ok (.goto 4, 3) := by decide +kernel
theorem dX11_open_52 : decode cX11_open 52 = .ok (.iconst 0, 1) := by decide +kernel
theorem dX11_open_53 : decode cX11_open 53 = .ok (.putfield 230, 3) := by decide +kernel
theorem dX11_open_56 : decode cX11_open 56 = .ok (.aload_n 0, 1) := by decide +kernel
theorem dX11_open_57 : decode cX11_open 57 = .ok (.getfield 230, 3) := by decide +kernel
theorem dX11_open_60 : decode cX11_open 60 = .ok (.ifCond .le 5, 3) := by decide +kernel
theorem dX11_open_63 : decode cX11_open 63 = .ok (.iconst 0, 1) := by decide +kernel
theorem dX11_open_64 : decode cX11_open 64 = .ok (.ireturn, 1) := by decide +kernel
theorem dX11_open_65 : decode cX11_open 65 = .ok (.iload_n 1, 1) := by decide +kernel
theorem dX11_open_66 : decode cX11_open 66 = .ok (.ifCond .lt 28, 3) := by decide +kernel
theorem dX11_open_69 : decode cX11_open 69 = .ok (.aload_n 0, 1) := by decide +kernel
theorem dX11_open_70 : decode cX11_open 70 = .ok (.getfield 16, 3) := by decide +kernel
theorem dX11_open_73 : decode cX11_open 73 = .ok (.aload_n 0, 1) := by decide +kernel
theorem dX11_open_74 : decode cX11_open 74 = .ok (.getfield 339, 3) := by decide +kernel
theorem dX11_open_77 : decode cX11_open 77 = .ok (.iload_n 1, 1) := by decide +kernel
theorem dX11_open_78 : decode cX11_open 78 = .ok (.iastore, 1) := by decide +kernel
theorem dX11_open_79 : decode cX11_open 79 = .ok (.aload_n 0, 1) := by decide +kernel
theorem dX11_open_80 : decode cX11_open 80 = .ok (.dup, 1) := by decide +kernel
theorem dX11_open_81 : decode cX11_open 81 = .ok (.getfield 339, 3) := by decide +kernel
theorem dX11_open_84 : decode cX11_open 84 = .ok (.iconst 1, 1) := by decide +kernel
theorem dX11_open_85 : decode cX11_open 85 = .ok (.iadd, 1) := by decide +kernel
theorem dX11_open_86 : decode cX11_open 86 = .ok (.putfield 339, 3) := by decide +kernel
theorem dX11_open_89 : decode cX11_open 89 = .ok (.aload_n 0, 1) := by decide +kernel
theorem dX11_open_90 : decode cX11_open 90 = .ok (.getfield 339, 3) := by decide +kernel
theorem dX11_open_93 : decode cX11_open 93 = .ok (.ireturn, 1) := by decide +kernel
theorem dX11_open_94 : decode cX11_open 94 = .ok (.aload_n 0, 1) := by decide +kernel
theorem dX11_open_95 : decode cX11_open 95 = .ok (.getfield 219, 3) := by decide +kernel
theorem dX11_open_98 : decode cX11_open 98 = .ok (.iconst 5, 1) := by decide +kernel
theorem dX11_open_99 : decode cX11_open 99 = .ok (.if_icmp .ge 10, 3) := by decide +kernel
theorem dX11_open_102 : decode cX11_open 102 = .ok (.aload_n 0, 1) := by decide +kernel
theorem dX11_open_103 : decode cX11_open 103 = .ok (.invokevirtual 391, 3) := by decide +kernel
theorem dX11_open_106 : decode cX11_open 106 = .ok (.goto 32, 3) := by decide +kernel
theorem dX11_open_109 : decode cX11_open 109 = .ok (.aload_n 0, 1) := by decide +kernel
theorem dX11_open_110 : decode cX11_open 110 = .ok (.iconst 1, 1) := by decide +kernel
theorem dX11_open_111 : decode cX11_open 111 = .ok (.iconst 3, 1) := by decide +kernel
theorem dX11_open_112 : decode cX11_open 112 = .ok (.iconst 0, 1) := by decide +kernel
theorem dX11_open_113 : decode cX11_open 113 = .ok (.invokevirtual 394, 3) := by decide +kernel
theorem dX11_open_116 : decode cX11_open 116 = .ok (.ifCond .eq 7, 3) := by decide +kernel
theorem dX11_open_119 : decode cX11_open 119 = .ok (.iconst 1, 1) := by decide +kernel
theorem dX11_open_120 : decode cX11_open 120 = .ok (.goto 18, 3) := by decide +kernel
theorem dX11_open_123 : decode cX11_open 123 = .ok (.aload_n 0, 1) := by decide +kernel
theorem dX11_open_124 : decode cX11_open 124 = .ok (.iconst 0, 1) := by decide +kernel
theorem dX11_open_125 : decode cX11_open 125 = .ok (.iconst 2, 1) := by decide +kernel
theorem dX11_open_126 : decode cX11_open 126 = .ok (.iconst 1, 1) := by decide +kernel
theorem dX11_open_127 : decode cX11_open 127 = .ok (.invokevirtual 394, 3) := by decide +kernel
theorem dX11_open_130 : decode cX11_open 130 = .ok (.ifCond .eq 7, 3) := by decide +kernel
theorem dX11_open_133 : decode cX11_open 133 = .ok (.iconst 2, 1) := by decide +kernel
theorem dX11_open_134 : decode cX11_open 134 = .ok (.goto 4, 3) := by decide +kernel
theorem dX11_open_137 : decode cX11_open 137 = .ok (.iconst 0, 1) := by decide +kernel
theorem dX11_open_138 : decode cX11_open 138 = .ok (.istore_n 2, 1) := by decide +kernel
theorem dX11_open_139 : decode cX11_open 139 = .ok (.aload_n 0, 1) := by decide +kernel
theorem dX11_open_140 : decode cX11_open 140 = .ok (.iconst 0, 1) := by decide +kernel
theorem dX11_open_141 : decode cX11_open 141 = .ok (.putfield 339, 3) := by decide +kernel
theorem dX11_open_144 : decode cX11_open 144 = .ok (.aload_n 0, 1) := by decide +kernel
theorem dX11_open_145 : decode cX11_open 145 = .ok (.iload_n 2, 1) := by decide +kernel
theorem dX11_open_146 : decode cX11_open 146 = .ok (.ifCond .le 7, 3) := by decide +kernel
theorem dX11_open_149 : decode cX11_open 149 = .ok (.iconst 1, 1) := by decide +kernel
theorem dX11_open_150 : decode cX11_open 150 = .ok (.goto 4, 3) := by decide +kernel
theorem dX11_open_153 : decode cX11_open 153 = .ok (.iconst 0, 1) := by decide +kernel
theorem dX11_open_154 : decode cX11_open 154 = .ok (.putfield 372, 3) := by decide +kernel
theorem dX11_open_157 : decode cX11_open 157 = .ok (.aload_n 0, 1) := by decide +kernel
theorem dX11_open_158 : decode cX11_open 158 = .ok (.getfield 372, 3) := by decide +kernel
theorem dX11_open_161 : decode cX11_open 161 = .ok (.ifCond .ne 7, 3) := by decide +kernel
theorem dX11_open_164 : decode cX11_open 164 = .ok (.aload_n 0, 1) := by decide +kernel
theorem dX11_open_165 : decode cX11_open 165 = .ok (.invokevirtual 378, 3) := by decide +kernel
theorem dX11_open_168 : decode cX11_open 168 = .ok (.iload_n 2, 1) := by decide +kernel
theorem dX11_open_169 : decode cX11_open 169 = .ok (.ireturn, 1) := by decide +kernel
set_option maxRecDepth 20000 in
theorem ggX11_objectKey_X11_keySize : GoodIn wsX11_objectKey wsX11_keySize := goodIn_r _ [11, 1, 54, 55, 56, 57, 58, 59, 60, 61, 62, 63, 64, 65, 66, 67, 68, 69, 70, 71, 72, 73, 74, 75, 76, 77, 78, 79, 80, 81, 82, 83, 84, 85, 86, 87, 88, 89, 90, 91, 92, 93, 94, 95, 96, 97, 98] (by decide +kernel) (by decide +kernel)
set_option maxRecDepth 20000 in
theorem gX11_objectKey_X11_keySize : GoodIn wsX11_objectKey (wsV RX11 288 RX11 yX11_keySize wsX11_keySize) := goodIn_app (goodIn_of _ (by decide +kernel)) ggX11_objectKey_X11_keySize
set_option maxRecDepth 20000 in
theorem ggX11_objectKey_X11_sayRow : GoodIn wsX11_objectKey wsX11_sayRow := goodIn_ca (goodIn_r _ [15, 16, 17, 18, 10, 19, 20, 4, 54, 55, 56, 57, 58, 59, 60, 61, 62, 63, 64, 65, 66, 67, 68, 69, 70, 71, 72, 73, 74, 75, 76, 77, 78, 79, 80, 81, 82, 83, 84, 85, 86, 87, 88, 89, 90, 91, 92, 93, 94, 95, 96, 97, 98] (by decide +kernel) (by decide +kernel)) (goodIn_sub (fun _ h => List.mem_cons_of_mem _ (List.mem_append_right _ h)) (by decide +kernel))
set_option maxRecDepth 20000 in
theorem gX11_objectKey_X11_sayRow : GoodIn wsX11_objectKey (wsV RX11 292 RX11 yX11_sayRow wsX11_sayRow) := goodIn_app (goodIn_of _ (by decide +kernel)) ggX11_objectKey_X11_sayRow
set_option maxRecDepth 20000 in
theorem ggX11_objectKey_X11_sayLow : GoodIn wsX11_objectKey wsX11_sayLow := goodIn_ca (goodIn_r _ [24, 16, 17, 18, 10, 19, 20, 4, 54, 55, 56, 57, 58, 59, 60, 61, 62, 63, 64, 65, 66, 67, 68, 69, 70, 71, 72, 73, 74, 75, 76, 77, 78, 79, 80, 81, 82, 83, 84, 85, 86, 87, 88, 89, 90, 91, 92, 93, 94, 95, 96, 97, 98] (by decide +kernel) (by decide +kernel)) (goodIn_sub (fun _ h => List.mem_cons_of_mem _ (List.mem_append_right _ h)) (by decide +kernel))
set_option maxRecDepth 20000 in
theorem gX11_objectKey_X11_sayLow : GoodIn wsX11_objectKey (wsV RX11 305 RX11 yX11_sayLow wsX11_sayLow) := goodIn_app (goodIn_of _ (by decide +kernel)) ggX11_objectKey_X11_sayLow
set_option maxRecDepth 20000 in
theorem ggX11_objectKey_X11_small : GoodIn wsX11_objectKey wsX11_small := goodIn_ca (goodIn_r _ [28, 29, 30, 31, 32, 33, 34, 35, 36, 37, 38, 10, 39, 4, 16, 17, 18, 19, 20, 40, 41, 42, 43, 44, 45, 46, 47, 48, 49, 50, 51, 52, 53, 2, 54, 55, 56, 57, 58, 59, 60, 61, 62, 63, 64, 65, 66, 67, 68, 69, 70, 71, 72, 73, 74, 75, 76, 77, 78, 79, 80, 81, 82, 83, 84, 85, 86, 87, 88, 89, 90, 91, 92, 93, 94, 95, 96, 97, 98] (by decide +kernel) (by decide +kernel)) (goodIn_sub (fun _ h => List.mem_cons_of_mem _ (List.mem_append_right _ h)) (by decide +kernel))
set_option maxRecDepth 20000 in
theorem gX11_objectKey_X11_small : GoodIn wsX11_objectKey (wsV RX11 296 RX11 yX11_small wsX11_small) := goodIn_app (goodIn_of _ (by decide +kernel)) ggX11_objectKey_X11_small
theorem dX11_objectKey_0 : decode cX11_objectKey 0 = .ok (.aload_n 0, 1) := by decide +kernel
theorem dX11_objectKey_1 : decode cX11_objectKey 1 = .ok (.getfield 219, 3) := by decide +kernel
theorem dX11_objectKey_4 : decode cX11_objectKey 4 = .ok (.iconst 5, 1) := by decide +kernel
theorem dX11_objectKey_5 : decode cX11_objectKey 5 = .ok (.if_icmp .ne 32, 3) := by decide +kernel
theorem dX11_objectKey_8 : decode cX11_objectKey 8 = .ok (.iconst 0, 1) := by decide +kernel
theorem dX11_objectKey_9 : decode cX11_objectKey 9 = .ok (.istore_n 3, 1) := by decide +kernel
theorem dX11_objectKey_10 : decode cX11_objectKey 10 = .ok (.iload_n 3, 1) := by decide +kernel
theorem dX11_objectKey_11 : decode cX11_objectKey 11 = .ok (.bipush 32, 2) := by decide +kernel
theorem dX11_objectKey_13 : decode cX11_objectKey 13 = .ok (.if_icmp .ge 21, 3) := by decide +kernel
theorem dX11_objectKey_16 : decode cX11_objectKey 16 = .ok (.aload_n 0, 1) := by decide +kernel
theorem dX11_objectKey_17 : decode cX11_objectKey 17 = .ok (.getfield 43, 3) := by decide +kernel
theorem dX11_objectKey_20 : decode cX11_objectKey 20 = .ok (.iload_n 3, 1) := by decide +kernel
theorem dX11_objectKey_21 : decode cX11_objectKey 21 = .ok (.aload_n 0, 1) := by decide +kernel
theorem dX11_objectKey_22 : decode cX11_objectKey 22 = .ok (.getfield 31, 3) := by decide +kernel
theorem dX11_objectKey_25 : decode cX11_objectKey 25 = .ok (.iload_n 3, 1) := by decide +kernel
theorem dX11_objectKey_26 : decode cX11_objectKey 26 = .ok (.iaload, 1) := by decide +kernel
theorem dX11_objectKey_27 : decode cX11_objectKey 27 = .ok (.iastore, 1) := by decide +kernel
theorem dX11_objectKey_28 : decode cX11_objectKey 28 = .ok (.iinc 3 1, 3) := by decide +kernel
theorem dX11_objectKey_31 : decode cX11_objectKey 31 = .ok (.goto (-21), 3) := by decide +kernel
theorem dX11_objectKey_34 : decode cX11_objectKey 34 = .ok (.bipush 32, 2) := by decide +kernel
theorem dX11_objectKey_36 : decode cX11_objectKey 36 = .ok (.ireturn, 1) := by decide +kernel
theorem dX11_objectKey_37 : decode cX11_objectKey 37 = .ok (.aload_n 0, 1) := by decide +kernel
theorem dX11_objectKey_38 : decode cX11_objectKey 38 = .ok (.iconst 0, 1) := by decide +kernel
theorem dX11_objectKey_39 : decode cX11_objectKey 39 = .ok (.putfield 233, 3) := by decide +kernel
theorem dX11_objectKey_42 : decode cX11_objectKey 42 = .ok (.aload_n 0, 1) := by decide +kernel
theorem dX11_objectKey_43 : decode cX11_objectKey 43 = .ok (.aload_n 0, 1) := by decide +kernel
theorem dX11_objectKey_44 : decode cX11_objectKey 44 = .ok (.getfield 31, 3) := by decide +kernel
theorem dX11_objectKey_47 : decode cX11_objectKey 47 = .ok (.iconst 0, 1) := by decide +kernel
theorem dX11_objectKey_48 : decode cX11_objectKey 48 = .ok (.aload_n 0, 1) := by decide +kernel
theorem dX11_objectKey_49 : decode cX11_objectKey 49 = .ok (.invokevirtual 288, 3) := by decide +kernel
theorem dX11_objectKey_52 : decode cX11_objectKey 52 = .ok (.invokevirtual 292, 3) := by decide +kernel
theorem dX11_objectKey_55 : decode cX11_objectKey 55 = .ok (.aload_n 0, 1) := by decide +kernel
theorem dX11_objectKey_56 : decode cX11_objectKey 56 = .ok (.iload_n 1, 1) := by decide +kernel
theorem dX11_objectKey_57 : decode cX11_objectKey 57 = .ok (.iconst 3, 1) := by decide +kernel
theorem dX11_objectKey_58 : decode cX11_objectKey 58 = .ok (.invokevirtual 305, 3) := by decide +kernel
theorem dX11_objectKey_61 : decode cX11_objectKey 61 = .ok (.aload_n 0, 1) := by decide +kernel
theorem dX11_objectKey_62 : decode cX11_objectKey 62 = .ok (.iload_n 2, 1) := by decide +kernel
theorem dX11_objectKey_63 : decode cX11_objectKey 63 = .ok (.iconst 2, 1) := by decide +kernel
theorem dX11_objectKey_64 : decode cX11_objectKey 64 = .ok (.invokevirtual 305, 3) := by decide +kernel
theorem dX11_objectKey_67 : decode cX11_objectKey 67 = .ok (.aload_n 0, 1) := by decide +kernel
theorem dX11_objectKey_68 : decode cX11_objectKey 68 = .ok (.getfield 223, 3) := by decide +kernel
theorem dX11_objectKey_71 : decode cX11_objectKey 71 = .ok (.iconst 2, 1) := by decide +kernel
theorem dX11_objectKey_72 : decode cX11_objectKey 72 = .ok (.if_icmp .ne 11, 3) := by decide +kernel
theorem dX11_objectKey_75 : decode cX11_objectKey 75 = .ok (.aload_n 0, 1) := by decide +kernel
theorem dX11_objectKey_76 : decode cX11_objectKey 76 = .ok (.ldc_w 398, 3) := by decide +kernel
theorem dX11_objectKey_79 : decode cX11_objectKey 79 = .ok (.iconst 4, 1) := by decide +kernel
theorem dX11_objectKey_80 : decode cX11_objectKey 80 = .ok (.invokevirtual 305, 3) := by decide +kernel
theorem dX11_objectKey_83 : decode cX11_objectKey 83 = .ok (.aload_n 0, 1) := by decide +kernel
theorem dX11_objectKey_84 : decode cX11_objectKey 84 = .ok (.invokevirtual 296, 3) := by decide +kernel
theorem dX11_objectKey_87 : decode cX11_objectKey 87 = .ok (.aload_n 0, 1) := by decide +kernel
theorem dX11_objectKey_88 : decode cX11_objectKey 88 = .ok (.invokevirtual 288, 3) := by decide +kernel
theorem dX11_objectKey_91 : decode cX11_objectKey 91 = .ok (.iconst 5, 1) := by decide +kernel
theorem dX11_objectKey_92 : decode cX11_objectKey 92 = .ok (.iadd, 1) := by decide +kernel
theorem dX11_objectKey_93 : decode cX11_objectKey 93 = .ok (.bipush 16, 2) := by decide +kernel
theorem dX11_objectKey_95 : decode cX11_objectKey 95 = .ok (.if_icmp .ge 12, 3) := by decide +kernel
theorem dX11_objectKey_98 : decode cX11_objectKey 98 = .ok (.aload_n 0, 1) := by decide +kernel
theorem dX11_objectKey_99 : decode cX11_objectKey 99 = .ok (.invokevirtual 288, 3) := by decide +kernel
theorem dX11_objectKey_102 : decode cX11_objectKey 102 = .ok (.iconst 5, 1) := by decide +kernel
theorem dX11_objectKey_103 : decode cX11_objectKey 103 = .ok (.iadd, 1) := by decide +kernel
theorem dX11_objectKey_104 : decode cX11_objectKey 104 = .ok (.goto 5, 3) := by decide +kernel
theorem dX11_objectKey_107 : decode cX11_objectKey 107 = .ok (.bipush 16, 2) := by decide +kernel
theorem dX11_objectKey_109 : decode cX11_objectKey 109 = .ok (.ireturn, 1) := by decide +kernel
theorem dX11_become_0 : decode cX11_become 0 = .ok (.iconst 0, 1) := by decide +kernel
theorem dX11_become_1 : decode cX11_become 1 = .ok (.istore 4, 2) := by decide +kernel
theorem dX11_become_3 : decode cX11_become 3 = .ok (.iload 4, 2) := by decide +kernel
theorem dX11_become_5 : decode cX11_become 5 = .ok (.iload_n 3, 1) := by decide +kernel
theorem dX11_become_6 : decode cX11_become 6 = .ok (.if_icmp .ge 22, 3) := by decide +kernel
theorem dX11_become_9 : decode cX11_become 9 = .ok (.aload_n 0, 1) := by decide +kernel
theorem dX11_become_10 : decode cX11_become 10 = .ok (.getfield 37, 3) := by decide +kernel
theorem dX11_become_13 : decode cX11_become 13 = .ok (.iload 4, 2) := by decide +kernel
theorem dX11_become_15 : decode cX11_become 15 = .ok (.aload_n 1, 1) := by decide +kernel
theorem dX11_become_16 : decode cX11_become 16 = .ok (.iload_n 2, 1) := by decide +kernel
theorem dX11_become_17 : decode cX11_become 17 = .ok (.iload 4, 2) := by decide +kernel
theorem dX11_become_19 : decode cX11_become 19 = .ok (.iadd, 1) := by decide +kernel
theorem dX11_become_20 : decode cX11_become 20 = .ok (.iaload, 1) := by decide +kernel
theorem dX11_become_21 : decode cX11_become 21 = .ok (.iastore, 1) := by decide +kernel
theorem dX11_become_22 : decode cX11_become 22 = .ok (.iinc 4 1, 3) := by decide +kernel
theorem dX11_become_25 : decode cX11_become 25 = .ok (.goto (-22), 3) := by decide +kernel
theorem dX11_become_28 : decode cX11_become 28 = .ok (.aload_n 0, 1) := by decide +kernel
theorem dX11_become_29 : decode cX11_become 29 = .ok (.iload_n 3, 1) := by decide +kernel
theorem dX11_become_30 : decode cX11_become 30 = .ok (.putfield 399, 3) := by decide +kernel
theorem dX11_become_33 : decode cX11_become 33 = .ok (.iload_n 3, 1) := by decide +kernel
theorem dX11_become_34 : decode cX11_become 34 = .ok (.ireturn, 1) := by decide +kernel
set_option maxRecDepth 20000 in
theorem ggX11_key_X11_objectKey : GoodIn wsX11_key wsX11_objectKey := goodIn_ca (goodIn_r _ [8, 9, 3, 10, 11, 12, 13, 14, 15, 16, 7, 17, 18, 19, 20, 21, 22, 23, 24, 25, 26, 27, 28, 29, 30, 31, 32, 33, 34, 35, 36, 37, 38, 39, 40, 41, 42, 43, 44, 45, 46, 47, 48, 49, 50, 51, 52, 53, 54, 55, 56, 57, 58, 59, 66, 67, 68, 69, 70, 71, 72, 73, 74, 75, 76, 77, 78, 79, 80, 81, 82, 83, 84, 85, 86, 87, 88, 89, 90, 91, 92, 93, 94, 95, 96, 97, 98, 99, 100, 101, 102, 103, 104, 105, 106, 107, 108, 109, 110] (by decide +kernel) (by decide +kernel)) (goodIn_sub (fun _ h => List.mem_cons_of_mem _ (List.mem_append_right _ h)) (by decide +kernel))
set_option maxRecDepth 20000 in
theorem gX11_key_X11_objectKey : GoodIn wsX11_key (wsV RX11 402 RX11 yX11_objectKey wsX11_objectKey) := goodIn_app (goodIn_of _ (by decide +kernel)) ggX11_key_X11_objectKey
set_option maxRecDepth 20000 in
theorem ggX11_key_X11_become : GoodIn wsX11_key wsX11_become := goodIn_ca (goodIn_r _ [63, 64, 65, 66, 67, 68, 69, 70, 71, 72, 73, 74, 75, 76, 77, 78, 79, 80, 81, 82, 83, 84, 85, 86, 87, 88, 89, 90, 91, 92, 93, 94, 95, 96, 97, 98, 99, 100, 101, 102, 103, 104, 105, 106, 107, 108, 109, 110] (by decide +kernel) (by decide +kernel)) (goodIn_sub (fun _ h => List.mem_cons_of_mem _ (List.mem_append_right _ h)) (by decide +kernel))
set_option maxRecDepth 20000 in
theorem gX11_key_X11_become : GoodIn wsX11_key (wsV RX11 405 RX11 yX11_become wsX11_become) := goodIn_app (goodIn_of _ (by decide +kernel)) ggX11_key_X11_become
theorem dX11_key_0 : decode cX11_key 0 = .ok (.aload_n 0, 1) := by decide +kernel
theorem dX11_key_1 : decode cX11_key 1 = .ok (.aload_n 0, 1) := by decide +kernel
theorem dX11_key_2 : decode cX11_key 2 = .ok (.getfield 372, 3) := by decide +kernel
theorem dX11_key_5 : decode cX11_key 5 = .ok (.ifCond .eq 7, 3) := by decide +kernel
theorem dX11_key_8 : decode cX11_key 8 = .ok (.iconst 0, 1) := by decide +kernel
theorem dX11_key_9 : decode cX11_key 9 = .ok (.goto 4, 3) := by decide +kernel
theorem dX11_key_12 : decode cX11_key 12 = .ok (.iconst 1, 1) := by decide +kernel
theorem dX11_key_13 : decode cX11_key 13 = .ok (.putfield 230, 3) := by decide +kernel
theorem dX11_key_16 : decode cX11_key 16 = .ok (.aload_n 0, 1) := by decide +kernel
theorem dX11_key_17 : decode cX11_key 17 = .ok (.getfield 230, 3) := by decide +kernel
theorem dX11_key_20 : decode cX11_key 20 = .ok (.ifCond .le 7, 3) := by decide +kernel
theorem dX11_key_23 : decode cX11_key 23 = .ok (.iconst 0, 1) := by decide +kernel
theorem dX11_key_24 : decode cX11_key 24 = .ok (.goto 18, 3) := by decide +kernel
theorem dX11_key_27 : decode cX11_key 27 = .ok (.aload_n 0, 1) := by decide +kernel
