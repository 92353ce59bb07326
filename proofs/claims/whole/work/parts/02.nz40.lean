theorem dX11_small_266 : decode cX11_small 266 = .ok (.istore 5, 2) := by decide +kernel
theorem dX11_small_268 : decode cX11_small 268 = .ok (.iload 10, 2) := by decide +kernel
theorem dX11_small_270 : decode cX11_small 270 = .ok (.istore 4, 2) := by decide +kernel
theorem dX11_small_272 : decode cX11_small 272 = .ok (.iinc 7 1, 3) := by decide +kernel
theorem dX11_small_275 : decode cX11_small 275 = .ok (.goto (-190), 3) := by decide +kernel
theorem dX11_small_278 : decode cX11_small 278 = .ok (.aload_n 0, 1) := by decide +kernel
theorem dX11_small_279 : decode cX11_small 279 = .ok (.getfield 49, 3) := by decide +kernel
theorem dX11_small_282 : decode cX11_small 282 = .ok (.iconst 0, 1) := by decide +kernel
theorem dX11_small_283 : decode cX11_small 283 = .ok (.dup2, 1) := by decide +kernel
theorem dX11_small_284 : decode cX11_small 284 = .ok (.iaload, 1) := by decide +kernel
theorem dX11_small_285 : decode cX11_small 285 = .ok (.iload_n 3, 1) := by decide +kernel
theorem dX11_small_286 : decode cX11_small 286 = .ok (.iadd, 1) := by decide +kernel
theorem dX11_small_287 : decode cX11_small 287 = .ok (.iastore, 1) := by decide +kernel
theorem dX11_small_288 : decode cX11_small 288 = .ok (.aload_n 0, 1) := by decide +kernel
theorem dX11_small_289 : decode cX11_small 289 = .ok (.getfield 49, 3) := by decide +kernel
theorem dX11_small_292 : decode cX11_small 292 = .ok (.iconst 1, 1) := by decide +kernel
theorem dX11_small_293 : decode cX11_small 293 = .ok (.dup2, 1) := by decide +kernel
theorem dX11_small_294 : decode cX11_small 294 = .ok (.iaload, 1) := by decide +kernel
theorem dX11_small_295 : decode cX11_small 295 = .ok (.iload 4, 2) := by decide +kernel
theorem dX11_small_297 : decode cX11_small 297 = .ok (.iadd, 1) := by decide +kernel
theorem dX11_small_298 : decode cX11_small 298 = .ok (.iastore, 1) := by decide +kernel
theorem dX11_small_299 : decode cX11_small 299 = .ok (.aload_n 0, 1) := by decide +kernel
theorem dX11_small_300 : decode cX11_small 300 = .ok (.getfield 49, 3) := by decide +kernel
theorem dX11_small_303 : decode cX11_small 303 = .ok (.iconst 2, 1) := by decide +kernel
theorem dX11_small_304 : decode cX11_small 304 = .ok (.dup2, 1) := by decide +kernel
theorem dX11_small_305 : decode cX11_small 305 = .ok (.iaload, 1) := by decide +kernel
theorem dX11_small_306 : decode cX11_small 306 = .ok (.iload 5, 2) := by decide +kernel
theorem dX11_small_308 : decode cX11_small 308 = .ok (.iadd, 1) := by decide +kernel
theorem dX11_small_309 : decode cX11_small 309 = .ok (.iastore, 1) := by decide +kernel
theorem dX11_small_310 : decode cX11_small 310 = .ok (.aload_n 0, 1) := by decide +kernel
theorem dX11_small_311 : decode cX11_small 311 = .ok (.getfield 49, 3) := by decide +kernel
theorem dX11_small_314 : decode cX11_small 314 = .ok (.iconst 3, 1) := by decide +kernel
theorem dX11_small_315 : decode cX11_small 315 = .ok (.dup2, 1) := by decide +kernel
theorem dX11_small_316 : decode cX11_small 316 = .ok (.iaload, 1) := by decide +kernel
theorem dX11_small_317 : decode cX11_small 317 = .ok (.iload 6, 2) := by decide +kernel
theorem dX11_small_319 : decode cX11_small 319 = .ok (.iadd, 1) := by decide +kernel
theorem dX11_small_320 : decode cX11_small 320 = .ok (.iastore, 1) := by decide +kernel
theorem dX11_small_321 : decode cX11_small 321 = .ok (.iinc 2 1, 3) := by decide +kernel
theorem dX11_small_324 : decode cX11_small 324 = .ok (.goto (-284), 3) := by decide +kernel
theorem dX11_small_327 : decode cX11_small 327 = .ok (.aload_n 0, 1) := by decide +kernel
theorem dX11_small_328 : decode cX11_small 328 = .ok (.iconst 4, 1) := by decide +kernel
theorem dX11_small_329 : decode cX11_small 329 = .ok (.iconst 1, 1) := by decide +kernel
theorem dX11_small_330 : decode cX11_small 330 = .ok (.invokevirtual 259, 3) := by decide +kernel
theorem dX11_small_333 : decode cX11_small 333 = .ok (.return_, 1) := by decide +kernel
set_option maxRecDepth 20000 in
theorem ggX11_great_X11_close : GoodIn wsX11_great wsX11_close := goodIn_ca (goodIn_r _ [17, 18, 19, 20, 21, 16, 22, 23, 36, 37, 38, 39, 40, 41, 42, 43, 44, 45, 46, 47, 48, 49, 50, 51, 52, 53, 54, 55, 56, 57, 58, 59, 60, 61, 62, 63, 64, 65, 66, 67, 68, 69, 70, 71, 72, 73, 74, 75, 76, 77, 78, 79, 80] (by decide +kernel) (by decide +kernel)) (goodIn_sub (fun _ h => List.mem_cons_of_mem _ (List.mem_append_right _ h)) (by decide +kernel))
set_option maxRecDepth 20000 in
theorem gX11_great_X11_close : GoodIn wsX11_great (wsV RX11 240 RX11 yX11_close wsX11_close) := goodIn_app (goodIn_of _ (by decide +kernel)) ggX11_great_X11_close
set_option maxRecDepth 20000 in
theorem ggX11_great_X11_readWords : GoodIn wsX11_great wsX11_readWords := goodIn_ca (goodIn_r _ [27, 10, 23, 36, 37, 38, 39, 40, 41, 42, 43, 44, 45, 46, 47, 48, 49, 50, 51, 52, 53, 54, 55, 56, 57, 58, 59, 60, 61, 62, 63, 64, 65, 66, 67, 68, 69, 70, 71, 72, 73, 74, 75, 76, 77, 78, 79, 80] (by decide +kernel) (by decide +kernel)) (goodIn_sub (fun _ h => List.mem_cons_of_mem _ (List.mem_append_right _ h)) (by decide +kernel))
set_option maxRecDepth 20000 in
theorem gX11_great_X11_readWords : GoodIn wsX11_great (wsV RX11 248 RX11 yX11_readWords wsX11_readWords) := goodIn_app (goodIn_of _ (by decide +kernel)) ggX11_great_X11_readWords
set_option maxRecDepth 20000 in
theorem ggX11_great_X11_left : GoodIn wsX11_great wsX11_left := goodIn_r _ [30] (by decide +kernel) (by decide +kernel)
set_option maxRecDepth 20000 in
theorem gX11_great_X11_left : GoodIn wsX11_great (va_wsS RX11 256 yX11_left wsX11_left) := goodIn_app (goodIn_of _ (by decide +kernel)) ggX11_great_X11_left
set_option maxRecDepth 20000 in
theorem ggX11_great_X11_keep : GoodIn wsX11_great wsX11_keep := goodIn_ca (goodIn_r _ [34, 35, 1, 36, 37, 38, 39, 40, 41, 42, 43, 44, 45, 46, 47, 48, 49, 50, 51, 52, 53, 54, 55, 56, 57, 58, 59, 60, 61, 62, 63, 64, 65, 66, 67, 68, 69, 70, 71, 72, 73, 74, 75, 76, 77, 78, 79, 80] (by decide +kernel) (by decide +kernel)) (goodIn_sub (fun _ h => List.mem_cons_of_mem _ (List.mem_append_right _ h)) (by decide +kernel))
set_option maxRecDepth 20000 in
theorem gX11_great_X11_keep : GoodIn wsX11_great (wsV RX11 259 RX11 yX11_keep wsX11_keep) := goodIn_app (goodIn_of _ (by decide +kernel)) ggX11_great_X11_keep
theorem dX11_great_0 : decode cX11_great 0 = .ok (.aload_n 0, 1) := by decide +kernel
theorem dX11_great_1 : decode cX11_great 1 = .ok (.iconst 0, 1) := by decide +kernel
theorem dX11_great_2 : decode cX11_great 2 = .ok (.invokevirtual 240, 3) := by decide +kernel
theorem dX11_great_5 : decode cX11_great 5 = .ok (.istore_n 1, 1) := by decide +kernel
theorem dX11_great_6 : decode cX11_great 6 = .ok (.aload_n 0, 1) := by decide +kernel
theorem dX11_great_7 : decode cX11_great 7 = .ok (.getfield 49, 3) := by decide +kernel
theorem dX11_great_10 : decode cX11_great 10 = .ok (.iconst 0, 1) := by decide +kernel
theorem dX11_great_11 : decode cX11_great 11 = .ok (.ldc_w 262, 3) := by decide +kernel
theorem dX11_great_14 : decode cX11_great 14 = .ok (.iastore, 1) := by decide +kernel
theorem dX11_great_15 : decode cX11_great 15 = .ok (.aload_n 0, 1) := by decide +kernel
theorem dX11_great_16 : decode cX11_great 16 = .ok (.getfield 49, 3) := by decide +kernel
theorem dX11_great_19 : decode cX11_great 19 = .ok (.iconst 1, 1) := by decide +kernel
theorem dX11_great_20 : decode cX11_great 20 = .ok (.ldc_w 263, 3) := by decide +kernel
theorem dX11_great_23 : decode cX11_great 23 = .ok (.iastore, 1) := by decide +kernel
theorem dX11_great_24 : decode cX11_great 24 = .ok (.aload_n 0, 1) := by decide +kernel
theorem dX11_great_25 : decode cX11_great 25 = .ok (.getfield 49, 3) := by decide +kernel
theorem dX11_great_28 : decode cX11_great 28 = .ok (.iconst 2, 1) := by decide +kernel
theorem dX11_great_29 : decode cX11_great 29 = .ok (.ldc_w 264, 3) := by decide +kernel
theorem dX11_great_32 : decode cX11_great 32 = .ok (.iastore, 1) := by decide +kernel
theorem dX11_great_33 : decode cX11_great 33 = .ok (.aload_n 0, 1) := by decide +kernel
theorem dX11_great_34 : decode cX11_great 34 = .ok (.getfield 49, 3) := by decide +kernel
theorem dX11_great_37 : decode cX11_great 37 = .ok (.iconst 3, 1) := by decide +kernel
theorem dX11_great_38 : decode cX11_great 38 = .ok (.ldc_w 265, 3) := by decide +kernel
theorem dX11_great_41 : decode cX11_great 41 = .ok (.iastore, 1) := by decide +kernel
theorem dX11_great_42 : decode cX11_great 42 = .ok (.aload_n 0, 1) := by decide +kernel
theorem dX11_great_43 : decode cX11_great 43 = .ok (.getfield 49, 3) := by decide +kernel
theorem dX11_great_46 : decode cX11_great 46 = .ok (.iconst 4, 1) := by decide +kernel
theorem dX11_great_47 : decode cX11_great 47 = .ok (.ldc_w 266, 3) := by decide +kernel
theorem dX11_great_50 : decode cX11_great 50 = .ok (.iastore, 1) := by decide +kernel
theorem dX11_great_51 : decode cX11_great 51 = .ok (.aload_n 0, 1) := by decide +kernel
theorem dX11_great_52 : decode cX11_great 52 = .ok (.getfield 49, 3) := by decide +kernel
theorem dX11_great_55 : decode cX11_great 55 = .ok (.iconst 5, 1) := by decide +kernel
theorem dX11_great_56 : decode cX11_great 56 = .ok (.ldc_w 267, 3) := by decide +kernel
theorem dX11_great_59 : decode cX11_great 59 = .ok (.iastore, 1) := by decide +kernel
theorem dX11_great_60 : decode cX11_great 60 = .ok (.aload_n 0, 1) := by decide +kernel
theorem dX11_great_61 : decode cX11_great 61 = .ok (.getfield 49, 3) := by decide +kernel
theorem dX11_great_64 : decode cX11_great 64 = .ok (.bipush 6, 2) := by decide +kernel
theorem dX11_great_66 : decode cX11_great 66 = .ok (.ldc_w 268, 3) := by decide +kernel
theorem dX11_great_69 : decode cX11_great 69 = .ok (.iastore, 1) := by decide +kernel
theorem dX11_great_70 : decode cX11_great 70 = .ok (.aload_n 0, 1) := by decide +kernel
theorem dX11_great_71 : decode cX11_great 71 = .ok (.getfield 49, 3) := by decide +kernel
theorem dX11_great_74 : decode cX11_great 74 = .ok (.bipush 7, 2) := by decide +kernel
theorem dX11_great_76 : decode cX11_great 76 = .ok (.ldc_w 269, 3) := by decide +kernel
theorem dX11_great_79 : decode cX11_great 79 = .ok (.iastore, 1) := by decide +kernel
theorem dX11_great_80 : decode cX11_great 80 = .ok (.iconst 0, 1) := by decide +kernel
theorem dX11_great_81 : decode cX11_great 81 = .ok (.istore_n 2, 1) := by decide +kernel
theorem dX11_great_82 : decode cX11_great 82 = .ok (.iload_n 2, 1) := by decide +kernel
theorem dX11_great_83 : decode cX11_great 83 = .ok (.iload_n 1, 1) := by decide +kernel
theorem dX11_great_84 : decode cX11_great 84 = .ok (.if_icmp .ge 382, 3) := by decide +kernel
theorem dX11_great_87 : decode cX11_great 87 = .ok (.aload_n 0, 1) := by decide +kernel
theorem dX11_great_88 : decode cX11_great 88 = .ok (.iload_n 2, 1) := by decide +kernel
theorem dX11_great_89 : decode cX11_great 89 = .ok (.iconst 0, 1) := by decide +kernel
theorem dX11_great_90 : decode cX11_great 90 = .ok (.invokevirtual 248, 3) := by decide +kernel
theorem dX11_great_93 : decode cX11_great 93 = .ok (.bipush 16, 2) := by decide +kernel
theorem dX11_great_95 : decode cX11_great 95 = .ok (.istore_n 3, 1) := by decide +kernel
theorem dX11_great_96 : decode cX11_great 96 = .ok (.iload_n 3, 1) := by decide +kernel
theorem dX11_great_97 : decode cX11_great 97 = .ok (.bipush 64, 2) := by decide +kernel
theorem dX11_great_99 : decode cX11_great 99 = .ok (.if_icmp .ge 98, 3) := by decide +kernel
theorem dX11_great_102 : decode cX11_great 102 = .ok (.aload_n 0, 1) := by decide +kernel
theorem dX11_great_103 : decode cX11_great 103 = .ok (.getfield 46, 3) := by decide +kernel
theorem dX11_great_106 : decode cX11_great 106 = .ok (.iload_n 3, 1) := by decide +kernel
theorem dX11_great_107 : decode cX11_great 107 = .ok (.bipush 15, 2) := by decide +kernel
theorem dX11_great_109 : decode cX11_great 109 = .ok (.isub, 1) := by decide +kernel
theorem dX11_great_110 : decode cX11_great 110 = .ok (.iaload, 1) := by decide +kernel
theorem dX11_great_111 : decode cX11_great 111 = .ok (.istore 4, 2) := by decide +kernel
theorem dX11_great_113 : decode cX11_great 113 = .ok (.aload_n 0, 1) := by decide +kernel
theorem dX11_great_114 : decode cX11_great 114 = .ok (.getfield 46, 3) := by decide +kernel
theorem dX11_great_117 : decode cX11_great 117 = .ok (.iload_n 3, 1) := by decide +kernel
theorem dX11_great_118 : decode cX11_great 118 = .ok (.iconst 2, 1) := by decide +kernel
theorem dX11_great_119 : decode cX11_great 119 = .ok (.isub, 1) := by decide +kernel
theorem dX11_great_120 : decode cX11_great 120 = .ok (.iaload, 1) := by decide +kernel
theorem dX11_great_121 : decode cX11_great 121 = .ok (.istore 5, 2) := by decide +kernel
theorem dX11_great_123 : decode cX11_great 123 = .ok (.aload_n 0, 1) := by decide +kernel
theorem dX11_great_124 : decode cX11_great 124 = .ok (.getfield 46, 3) := by decide +kernel
theorem dX11_great_127 : decode cX11_great 127 = .ok (.iload_n 3, 1) := by decide +kernel
theorem dX11_great_128 : decode cX11_great 128 = .ok (.aload_n 0, 1) := by decide +kernel
theorem dX11_great_129 : decode cX11_great 129 = .ok (.getfield 46, 3) := by decide +kernel
theorem dX11_great_132 : decode cX11_great 132 = .ok (.iload_n 3, 1) := by decide +kernel
theorem dX11_great_133 : decode cX11_great 133 = .ok (.bipush 16, 2) := by decide +kernel
theorem dX11_great_135 : decode cX11_great 135 = .ok (.isub, 1) := by decide +kernel
theorem dX11_great_136 : decode cX11_great 136 = .ok (.iaload, 1) := by decide +kernel
theorem dX11_great_137 : decode cX11_great 137 = .ok (.aload_n 0, 1) := by decide +kernel
theorem dX11_great_138 : decode cX11_great 138 = .ok (.getfield 46, 3) := by decide +kernel
theorem dX11_great_141 : decode cX11_great 141 = .ok (.iload_n 3, 1) := by decide +kernel
theorem dX11_great_142 : decode cX11_great 142 = .ok (.bipush 7, 2) := by decide +kernel
theorem dX11_great_144 : decode cX11_great 144 = .ok (.isub, 1) := by decide +kernel
theorem dX11_great_145 : decode cX11_great 145 = .ok (.iaload, 1) := by decide +kernel
theorem dX11_great_146 : decode cX11_great 146 = .ok (.iadd, 1) := by decide +kernel
theorem dX11_great_147 : decode cX11_great 147 = .ok (.iload 4, 2) := by decide +kernel
theorem dX11_great_149 : decode cX11_great 149 = .ok (.bipush 25, 2) := by decide +kernel
theorem dX11_great_151 : decode cX11_great 151 = .ok (.invokestatic 256, 3) := by decide +kernel
theorem dX11_great_154 : decode cX11_great 154 = .ok (.iload 4, 2) := by decide +kernel
theorem dX11_great_156 : decode cX11_great 156 = .ok (.bipush 14, 2) := by decide +kernel
theorem dX11_great_158 : decode cX11_great 158 = .ok (.invokestatic 256, 3) := by decide +kernel
theorem dX11_great_161 : decode cX11_great 161 = .ok (.ixor, 1) := by decide +kernel
theorem dX11_great_162 : decode cX11_great 162 = .ok (.iload 4, 2) := by decide +kernel
theorem dX11_great_164 : decode cX11_great 164 = .ok (.iconst 3, 1) := by decide +kernel
theorem dX11_great_165 : decode cX11_great 165 = .ok (.iushr, 1) := by decide +kernel
theorem dX11_great_166 : decode cX11_great 166 = .ok (.ixor, 1) := by decide +kernel
theorem dX11_great_167 : decode cX11_great 167 = .ok (.iadd, 1) := by decide +kernel
theorem dX11_great_168 : decode cX11_great 168 = .ok (.iload 5, 2) := by decide +kernel
theorem dX11_great_170 : decode cX11_great 170 = .ok (.bipush 15, 2) := by decide +kernel
theorem dX11_great_172 : decode cX11_great 172 = .ok (.invokestatic 256, 3) := by decide +kernel
theorem dX11_great_175 : decode cX11_great 175 = .ok (.iload 5, 2) := by decide +kernel
theorem dX11_great_177 : decode cX11_great 177 = .ok (.bipush 13, 2) := by decide +kernel
theorem dX11_great_179 : decode cX11_great 179 = .ok (.invokestatic 256, 3) := by decide +kernel
theorem dX11_great_182 : decode cX11_great 182 = .ok (.ixor, 1) := by decide +kernel
theorem dX11_great_183 : decode cX11_great 183 = .ok (.iload 5, 2) := by decide +kernel
theorem dX11_great_185 : decode cX11_great 185 = .ok (.bipush 10, 2) := by decide +kernel
theorem dX11_great_187 : decode cX11_great 187 = .ok (.iushr, 1) := by decide +kernel
theorem dX11_great_188 : decode cX11_great 188 = .ok (.ixor, 1) := by decide +kernel
theorem dX11_great_189 : decode cX11_great 189 = .ok (.iadd, 1) := by decide +kernel
theorem dX11_great_190 : decode cX11_great 190 = .ok (.iastore, 1) := by decide +kernel
theorem dX11_great_191 : decode cX11_great 191 = .ok (.iinc 3 1, 3) := by decide +kernel
theorem dX11_great_194 : decode cX11_great 194 = .ok (.goto (-98), 3) := by decide +kernel
theorem dX11_great_197 : decode cX11_great 197 = .ok (.iconst 0, 1) := by decide +kernel
theorem dX11_great_198 : decode cX11_great 198 = .ok (.istore_n 3, 1) := by decide +kernel
theorem dX11_great_199 : decode cX11_great 199 = .ok (.iload_n 3, 1) := by decide +kernel
theorem dX11_great_200 : decode cX11_great 200 = .ok (.bipush 8, 2) := by decide +kernel
theorem dX11_great_202 : decode cX11_great 202 = .ok (.if_icmp .ge 21, 3) := by decide +kernel
theorem dX11_great_205 : decode cX11_great 205 = .ok (.aload_n 0, 1) := by decide +kernel
theorem dX11_great_206 : decode cX11_great 206 = .ok (.getfield 52, 3) := by decide +kernel
theorem dX11_great_209 : decode cX11_great 209 = .ok (.iload_n 3, 1) := by decide +kernel
theorem dX11_great_210 : decode cX11_great 210 = .ok (.aload_n 0, 1) := by decide +kernel
theorem dX11_great_211 : decode cX11_great 211 = .ok (.getfield 49, 3) := by decide +kernel
theorem dX11_great_214 : decode cX11_great 214 = .ok (.iload_n 3, 1) := by decide +kernel
theorem dX11_great_215 : decode cX11_great 215 = .ok (.iaload, 1) := by decide +kernel
theorem dX11_great_216 : decode cX11_great 216 = .ok (.iastore, 1) := by decide +kernel
theorem dX11_great_217 : decode cX11_great 217 = .ok (.iinc 3 1, 3) := by decide +kernel
theorem dX11_great_220 : decode cX11_great 220 = .ok (.goto (-21), 3) := by decide +kernel
theorem dX11_great_223 : decode cX11_great 223 = .ok (.iconst 0, 1) := by decide +kernel
theorem dX11_great_224 : decode cX11_great 224 = .ok (.istore_n 3, 1) := by decide +kernel
theorem dX11_great_225 : decode cX11_great 225 = .ok (.iload_n 3, 1) := by decide +kernel
theorem dX11_great_226 : decode cX11_great 226 = .ok (.bipush 64, 2) := by decide +kernel
theorem dX11_great_228 : decode cX11_great 228 = .ok (.if_icmp .ge 203, 3) := by decide +kernel
theorem dX11_great_231 : decode cX11_great 231 = .ok (.aload_n 0, 1) := by decide +kernel
theorem dX11_great_232 : decode cX11_great 232 = .ok (.getfield 52, 3) := by decide +kernel
theorem dX11_great_235 : decode cX11_great 235 = .ok (.iconst 4, 1) := by decide +kernel
theorem dX11_great_236 : decode cX11_great 236 = .ok (.iaload, 1) := by decide +kernel
theorem dX11_great_237 : decode cX11_great 237 = .ok (.istore 4, 2) := by decide +kernel
theorem dX11_great_239 : decode cX11_great 239 = .ok (.aload_n 0, 1) := by decide +kernel
theorem dX11_great_240 : decode cX11_great 240 = .ok (.getfield 52, 3) := by decide +kernel
theorem dX11_great_243 : decode cX11_great 243 = .ok (.iconst 0, 1) := by decide +kernel
theorem dX11_great_244 : decode cX11_great 244 = .ok (.iaload, 1) := by decide +kernel
theorem dX11_great_245 : decode cX11_great 245 = .ok (.istore 5, 2) := by decide +kernel
theorem dX11_great_247 : decode cX11_great 247 = .ok (.aload_n 0, 1) := by decide +kernel
theorem dX11_great_248 : decode cX11_great 248 = .ok (.getfield 52, 3) := by decide +kernel
theorem dX11_great_251 : decode cX11_great 251 = .ok (.bipush 7, 2) := by decide +kernel
theorem dX11_great_253 : decode cX11_great 253 = .ok (.iaload, 1) := by decide +kernel
theorem dX11_great_254 : decode cX11_great 254 = .ok (.iload 4, 2) := by decide +kernel
theorem dX11_great_256 : decode cX11_great 256 = .ok (.bipush 26, 2) := by decide +kernel
theorem dX11_great_258 : decode cX11_great 258 = .ok (.invokestatic 256, 3) := by decide +kernel
theorem dX11_great_261 : decode cX11_great 261 = .ok (.iload 4, 2) := by decide +kernel
theorem dX11_great_263 : decode cX11_great 263 = .ok (.bipush 21, 2) := by decide +kernel
theorem dX11_great_265 : decode cX11_great 265 = .ok (.invokestatic 256, 3) := by decide +kernel
theorem dX11_great_268 : decode cX11_great 268 = .ok (.ixor, 1) := by decide +kernel
theorem dX11_great_269 : decode cX11_great 269 = .ok (.iload 4, 2) := by decide +kernel
theorem dX11_great_271 : decode cX11_great 271 = .ok (.bipush 7, 2) := by decide +kernel
theorem dX11_great_273 : decode cX11_great 273 = .ok (.invokestatic 256, 3) := by decide +kernel
theorem dX11_great_276 : decode cX11_great 276 = .ok (.ixor, 1) := by decide +kernel
theorem dX11_great_277 : decode cX11_great 277 = .ok (.iadd, 1) := by decide +kernel
theorem dX11_great_278 : decode cX11_great 278 = .ok (.aload_n 0, 1) := by decide +kernel
theorem dX11_great_279 : decode cX11_great 279 = .ok (.getfield 52, 3) := by decide +kernel
theorem dX11_great_282 : decode cX11_great 282 = .ok (.bipush 6, 2) := by decide +kernel
theorem dX11_great_284 : decode cX11_great 284 = .ok (.iaload, 1) := by decide +kernel
theorem dX11_great_285 : decode cX11_great 285 = .ok (.iload 4, 2) := by decide +kernel
theorem dX11_great_287 : decode cX11_great 287 = .ok (.aload_n 0, 1) := by decide +kernel
theorem dX11_great_288 : decode cX11_great 288 = .ok (.getfield 52, 3) := by decide +kernel
theorem dX11_great_291 : decode cX11_great 291 = .ok (.iconst 5, 1) := by decide +kernel
theorem dX11_great_292 : decode cX11_great 292 = .ok (.iaload, 1) := by decide +kernel
theorem dX11_great_293 : decode cX11_great 293 = .ok (.aload_n 0, 1) := by decide +kernel
theorem dX11_great_294 : decode cX11_great 294 = .ok (.getfield 52, 3) := by decide +kernel
theorem dX11_great_297 : decode cX11_great 297 = .ok (.bipush 6, 2) := by decide +kernel
theorem dX11_great_299 : decode cX11_great 299 = .ok (.iaload, 1) := by decide +kernel
theorem dX11_great_300 : decode cX11_great 300 = .ok (.ixor, 1) := by decide +kernel
theorem dX11_great_301 : decode cX11_great 301 = .ok (.iand, 1) := by decide +kernel
theorem dX11_great_302 : decode cX11_great 302 = .ok (.ixor, 1) := by decide +kernel
theorem dX11_great_303 : decode cX11_great 303 = .ok (.iadd, 1) := by decide +kernel
theorem dX11_great_304 : decode cX11_great 304 = .ok (.aload_n 0, 1) := by decide +kernel
theorem dX11_great_305 : decode cX11_great 305 = .ok (.getfield 189, 3) := by decide +kernel
theorem dX11_great_308 : decode cX11_great 308 = .ok (.iload_n 3, 1) := by decide +kernel
theorem dX11_great_309 : decode cX11_great 309 = .ok (.iaload, 1) := by decide +kernel
theorem dX11_great_310 : decode cX11_great 310 = .ok (.iadd, 1) := by decide +kernel
theorem dX11_great_311 : decode cX11_great 311 = .ok (.aload_n 0, 1) := by decide +kernel
theorem dX11_great_312 : decode cX11_great 312 = .ok (.getfield 46, 3) := by decide +kernel
theorem dX11_great_315 : decode cX11_great 315 = .ok (.iload_n 3, 1) := by decide +kernel
theorem dX11_great_316 : decode cX11_great 316 = .ok (.iaload, 1) := by decide +kernel
theorem dX11_great_317 : decode cX11_great 317 = .ok (.iadd, 1) := by decide +kernel
theorem dX11_great_318 : decode cX11_great 318 = .ok (.istore 6, 2) := by decide +kernel
theorem dX11_great_320 : decode cX11_great 320 = .ok (.iload 5, 2) := by decide +kernel
theorem dX11_great_322 : decode cX11_great 322 = .ok (.bipush 30, 2) := by decide +kernel
theorem dX11_great_324 : decode cX11_great 324 = .ok (.invokestatic 256, 3) := by decide +kernel
theorem dX11_great_327 : decode cX11_great 327 = .ok (.iload 5, 2) := by decide +kernel
theorem dX11_great_329 : decode cX11_great 329 = .ok (.bipush 19, 2) := by decide +kernel
theorem dX11_great_331 : decode cX11_great 331 = .ok (.invokestatic 256, 3) := by decide +kernel
theorem dX11_great_334 : decode cX11_great 334 = .ok (.ixor, 1) := by decide +kernel
theorem dX11_great_335 : decode cX11_great 335 = .ok (.iload 5, 2) := by decide +kernel
theorem dX11_great_337 : decode cX11_great 337 = .ok (.bipush 10, 2) := by decide +kernel
theorem dX11_great_339 : decode cX11_great 339 = .ok (.invokestatic 256, 3) := by decide +kernel
theorem dX11_great_342 : decode cX11_great 342 = .ok (.ixor, 1) := by decide +kernel
theorem dX11_great_343 : decode cX11_great 343 = .ok (.iload 5, 2) := by decide +kernel
theorem dX11_great_345 : decode cX11_great 345 = .ok (.aload_n 0, 1) := by decide +kernel
theorem dX11_great_346 : decode cX11_great 346 = .ok (.getfield 52, 3) := by decide +kernel
theorem dX11_great_349 : decode cX11_great 349 = .ok (.iconst 1, 1) := by decide +kernel
theorem dX11_great_350 : decode cX11_great 350 = .ok (.iaload, 1) := by decide +kernel
theorem dX11_great_351 : decode cX11_great 351 = .ok (.iand, 1) := by decide +kernel
theorem dX11_great_352 : decode cX11_great 352 = .ok (.aload_n 0, 1) := by decide +kernel
theorem dX11_great_353 : decode cX11_great 353 = .ok (.getfield 52, 3) := by decide +kernel
theorem dX11_great_356 : decode cX11_great 356 = .ok (.iconst 2, 1) := by decide +kernel
theorem dX11_great_357 : decode cX11_great 357 = .ok (.iaload, 1) := by decide +kernel
theorem dX11_great_358 : decode cX11_great 358 = .ok (.iload 5, 2) := by decide +kernel
theorem dX11_great_360 : decode cX11_great 360 = .ok (.aload_n 0, 1) := by decide +kernel
theorem dX11_great_361 : decode cX11_great 361 = .ok (.getfield 52, 3) := by decide +kernel
theorem dX11_great_364 : decode cX11_great 364 = .ok (.iconst 1, 1) := by decide +kernel
theorem dX11_great_365 : decode cX11_great 365 = .ok (.iaload, 1) := by decide +kernel
theorem dX11_great_366 : decode cX11_great 366 = .ok (.ior, 1) := by decide +kernel
theorem dX11_great_367 : decode cX11_great 367 = .ok (.iand, 1) := by decide +kernel
theorem dX11_great_368 : decode cX11_great 368 = .ok (.ior, 1) := by decide +kernel
theorem dX11_great_369 : decode cX11_great 369 = .ok (.iadd, 1) := by decide +kernel
theorem dX11_great_370 : decode cX11_great 370 = .ok (.istore 7, 2) := by decide +kernel
theorem dX11_great_372 : decode cX11_great 372 = .ok (.bipush 7, 2) := by decide +kernel
theorem dX11_great_374 : decode cX11_great 374 = .ok (.istore 8, 2) := by decide +kernel
theorem dX11_great_376 : decode cX11_great 376 = .ok (.iload 8, 2) := by decide +kernel
theorem dX11_great_378 : decode cX11_great 378 = .ok (.ifCond .le 25, 3) := by decide +kernel
theorem dX11_great_381 : decode cX11_great 381 = .ok (.aload_n 0, 1) := by decide +kernel
theorem dX11_great_382 : decode cX11_great 382 = .ok (.getfield 52, 3) := by decide +kernel
theorem dX11_great_385 : decode cX11_great 385 = .ok (.iload 8, 2) := by decide +kernel
theorem dX11_great_387 : decode cX11_great 387 = .ok (.aload_n 0, 1) := by decide +kernel
theorem dX11_great_388 : decode cX11_great 388 = .ok (.getfield 52, 3) := by decide +kernel
theorem dX11_great_391 : decode cX11_great 391 = .ok (.iload 8, 2) := by decide +kernel
theorem dX11_great_393 : decode cX11_great 393 = .ok (.iconst 1, 1) := by decide +kernel
theorem dX11_great_394 : decode cX11_great 394 = .ok (.isub, 1) := by decide +kernel
theorem dX11_great_395 : decode cX11_great 395 = .ok (.iaload, 1) := by decide +kernel
theorem dX11_great_396 : decode cX11_great 396 = .ok (.iastore, 1) := by decide +kernel
theorem dX11_great_397 : decode cX11_great 397 = .ok (.iinc 8 (-1), 3) := by decide +kernel
theorem dX11_great_400 : decode cX11_great 400 = .ok (.goto (-24), 3) := by decide +kernel
theorem dX11_great_403 : decode cX11_great 403 = .ok (.aload_n 0, 1) := by decide +kernel
theorem dX11_great_404 : decode cX11_great 404 = .ok (.getfield 52, 3) := by decide +kernel
theorem dX11_great_407 : decode cX11_great 407 = .ok (.iconst 4, 1) := by decide +kernel
theorem dX11_great_408 : decode cX11_great 408 = .ok (.dup2, 1) := by decide +kernel
theorem dX11_great_409 : decode cX11_great 409 = .ok (.iaload, 1) := by decide +kernel
theorem dX11_great_410 : decode cX11_great 410 = .ok (.iload 6, 2) := by decide +kernel
theorem dX11_great_412 : decode cX11_great 412 = .ok (.iadd, 1) := by decide +kernel
theorem dX11_great_413 : decode cX11_great 413 = .ok (.iastore, 1) := by decide +kernel
theorem dX11_great_414 : decode cX11_great 414 = .ok (.aload_n 0, 1) := by decide +kernel
theorem dX11_great_415 : decode cX11_great 415 = .ok (.getfield 52, 3) := by decide +kernel
theorem dX11_great_418 : decode cX11_great 418 = .ok (.iconst 0, 1) := by decide +kernel
theorem dX11_great_419 : decode cX11_great 419 = .ok (.iload 6, 2) := by decide +kernel
theorem dX11_great_421 : decode cX11_great 421 = .ok (.iload 7, 2) := by decide +kernel
theorem dX11_great_423 : decode cX11_great 423 = .ok (.iadd, 1) := by decide +kernel
theorem dX11_great_424 : decode cX11_great 424 = .ok (.iastore, 1) := by decide +kernel
theorem dX11_great_425 : decode cX11_great 425 = .ok (.iinc 3 1, 3) := by decide +kernel
theorem dX11_great_428 : decode cX11_great 428 = .ok (.goto (-203), 3) := by decide +kernel
theorem dX11_great_431 : decode cX11_great 431 = .ok (.iconst 0, 1) := by decide +kernel
theorem dX11_great_432 : decode cX11_great 432 = .ok (.istore_n 3, 1) := by decide +kernel
theorem dX11_great_433 : decode cX11_great 433 = .ok (.iload_n 3, 1) := by decide +kernel
theorem dX11_great_434 : decode cX11_great 434 = .ok (.bipush 8, 2) := by decide +kernel
theorem dX11_great_436 : decode cX11_great 436 = .ok (.if_icmp .ge 24, 3) := by decide +kernel
theorem dX11_great_439 : decode cX11_great 439 = .ok (.aload_n 0, 1) := by decide +kernel
theorem dX11_great_440 : decode cX11_great 440 = .ok (.getfield 49, 3) := by decide +kernel
theorem dX11_great_443 : decode cX11_great 443 = .ok (.iload_n 3, 1) := by decide +kernel
theorem dX11_great_444 : decode cX11_great 444 = .ok (.dup2, 1) := by decide +kernel
theorem dX11_great_445 : decode cX11_great 445 = .ok (.iaload, 1) := by decide +kernel
theorem dX11_great_446 : decode cX11_great 446 = .ok (.aload_n 0, 1) := by decide +kernel
theorem dX11_great_447 : decode cX11_great 447 = .ok (.getfield 52, 3) := by decide +kernel
theorem dX11_great_450 : decode cX11_great 450 = .ok (.iload_n 3, 1) := by decide +kernel
theorem dX11_great_451 : decode cX11_great 451 = .ok (.iaload, 1) := by decide +kernel
theorem dX11_great_452 : decode cX11_great 452 = .ok (.iadd, 1) := by decide +kernel
theorem dX11_great_453 : decode cX11_great 453 = .ok (.iastore, 1) := by decide +kernel
theorem dX11_great_454 : decode cX11_great 454 = .ok (.iinc 3 1, 3) := by decide +kernel
theorem dX11_great_457 : decode cX11_great 457 = .ok (.goto (-24), 3) := by decide +kernel
theorem dX11_great_460 : decode cX11_great 460 = .ok (.iinc 2 1, 3) := by decide +kernel
theorem dX11_great_463 : decode cX11_great 463 = .ok (.goto (-381), 3) := by decide +kernel
theorem dX11_great_466 : decode cX11_great 466 = .ok (.aload_n 0, 1) := by decide +kernel
theorem dX11_great_467 : decode cX11_great 467 = .ok (.bipush 8, 2) := by decide +kernel
theorem dX11_great_469 : decode cX11_great 469 = .ok (.iconst 0, 1) := by decide +kernel
theorem dX11_great_470 : decode cX11_great 470 = .ok (.invokevirtual 259, 3) := by decide +kernel
theorem dX11_great_473 : decode cX11_great 473 = .ok (.return_, 1) := by decide +kernel
theorem dX11_throughStream_0 : decode cX11_throughStream 0 = .ok (.iconst 0, 1) := by decide +kernel
theorem dX11_throughStream_1 : decode cX11_throughStream 1 = .ok (.istore 7, 2) := by decide +kernel
theorem dX11_throughStream_3 : decode cX11_throughStream 3 = .ok (.iload 7, 2) := by decide +kernel
theorem dX11_throughStream_5 : decode cX11_throughStream 5 = .ok (.sipush 256, 3) := by decide +kernel
theorem dX11_throughStream_8 : decode cX11_throughStream 8 = .ok (.if_icmp .ge 18, 3) := by decide +kernel
theorem dX11_throughStream_11 : decode cX11_throughStream 11 = .ok (.aload_n 0, 1) := by decide +kernel
theorem dX11_throughStream_12 : decode cX11_throughStream 12 = .ok (.getfield 207, 3) := by decide +kernel
theorem dX11_throughStream_15 : decode cX11_throughStream 15 = .ok (.iload 7, 2) := by decide +kernel
theorem dX11_throughStream_17 : decode cX11_throughStream 17 = .ok (.iload 7, 2) := by decide +kernel
theorem dX11_throughStream_19 : decode cX11_throughStream 19 = .ok (.iastore, 1) := by decide +kernel
theorem dX11_throughStream_20 : decode cX11_throughStream 20 = .ok (.iinc 7 1, 3) := by decide +kernel
theorem dX11_throughStream_23 : decode cX11_throughStream 23 = .ok (.goto (-20), 3) := by decide +kernel
theorem dX11_throughStream_26 : decode cX11_throughStream 26 = .ok (.iconst 0, 1) := by decide +kernel
theorem dX11_throughStream_27 : decode cX11_throughStream 27 = .ok (.istore 7, 2) := by decide +kernel
theorem dX11_throughStream_29 : decode cX11_throughStream 29 = .ok (.iconst 0, 1) := by decide +kernel
theorem dX11_throughStream_30 : decode cX11_throughStream 30 = .ok (.istore 8, 2) := by decide +kernel
theorem dX11_throughStream_32 : decode cX11_throughStream 32 = .ok (.iload 8, 2) := by decide +kernel
theorem dX11_throughStream_34 : decode cX11_throughStream 34 = .ok (.sipush 256, 3) := by decide +kernel
theorem dX11_throughStream_37 : decode cX11_throughStream 37 = .ok (.if_icmp .ge 66, 3) := by decide +kernel
theorem dX11_throughStream_40 : decode cX11_throughStream 40 = .ok (.iload 7, 2) := by decide +kernel
theorem dX11_throughStream_42 : decode cX11_throughStream 42 = .ok (.aload_n 0, 1) := by decide +kernel
theorem dX11_throughStream_43 : decode cX11_throughStream 43 = .ok (.getfield 207, 3) := by decide +kernel
theorem dX11_throughStream_46 : decode cX11_throughStream 46 = .ok (.iload 8, 2) := by decide +kernel
theorem dX11_throughStream_48 : decode cX11_throughStream 48 = .ok (.iaload, 1) := by decide +kernel
theorem dX11_throughStream_49 : decode cX11_throughStream 49 = .ok (.iadd, 1) := by decide +kernel
theorem dX11_throughStream_50 : decode cX11_throughStream 50 = .ok (.aload_n 1, 1) := by decide +kernel
theorem dX11_throughStream_51 : decode cX11_throughStream 51 = .ok (.iload 8, 2) := by decide +kernel
theorem dX11_throughStream_53 : decode cX11_throughStream 53 = .ok (.iload_n 2, 1) := by decide +kernel
theorem dX11_throughStream_54 : decode cX11_throughStream 54 = .ok (.irem, 1) := by decide +kernel
theorem dX11_throughStream_55 : decode cX11_throughStream 55 = .ok (.iaload, 1) := by decide +kernel
theorem dX11_throughStream_56 : decode cX11_throughStream 56 = .ok (.iload_n 3, 1) := by decide +kernel
theorem dX11_throughStream_57 : decode cX11_throughStream 57 = .ok (.ixor, 1) := by decide +kernel
theorem dX11_throughStream_58 : decode cX11_throughStream 58 = .ok (.iadd, 1) := by decide +kernel
theorem dX11_throughStream_59 : decode cX11_throughStream 59 = .ok (.sipush 256, 3) := by decide +kernel
theorem dX11_throughStream_62 : decode cX11_throughStream 62 = .ok (.irem, 1) := by decide +kernel
theorem dX11_throughStream_63 : decode cX11_throughStream 63 = .ok (.istore 7, 2) := by decide +kernel
theorem dX11_throughStream_65 : decode cX11_throughStream 65 = .ok (.aload_n 0, 1) := by decide +kernel
theorem dX11_throughStream_66 : decode cX11_throughStream 66 = .ok (.getfield 207, 3) := by decide +kernel
theorem dX11_throughStream_69 : decode cX11_throughStream 69 = .ok (.iload 8, 2) := by decide +kernel
theorem dX11_throughStream_71 : decode cX11_throughStream 71 = .ok (.iaload, 1) := by decide +kernel
theorem dX11_throughStream_72 : decode cX11_throughStream 72 = .ok (.istore 9, 2) := by decide +kernel
theorem dX11_throughStream_74 : decode cX11_throughStream 74 = .ok (.aload_n 0, 1) := by decide +kernel
theorem dX11_throughStream_75 : decode cX11_throughStream 75 = .ok (.getfield 207, 3) := by decide +kernel
theorem dX11_throughStream_78 : decode cX11_throughStream 78 = .ok (.iload 8, 2) := by decide +kernel
theorem dX11_throughStream_80 : decode cX11_throughStream 80 = .ok (.aload_n 0, 1) := by decide +kernel
theorem dX11_throughStream_81 : decode cX11_throughStream 81 = .ok (.getfield 207, 3) := by decide +kernel
theorem dX11_throughStream_84 : decode cX11_throughStream 84 = .ok (.iload 7, 2) := by decide +kernel
theorem dX11_throughStream_86 : decode cX11_throughStream 86 = .ok (.iaload, 1) := by decide +kernel
theorem dX11_throughStream_87 : decode cX11_throughStream 87 = .ok (.iastore, 1) := by decide +kernel
theorem dX11_throughStream_88 : decode cX11_throughStream 88 = .ok (.aload_n 0, 1) := by decide +kernel
theorem dX11_throughStream_89 : decode cX11_throughStream 89 = .ok (.getfield 207, 3) := by decide +kernel
theorem dX11_throughStream_92 : decode cX11_throughStream 92 = .ok (.iload 7, 2) := by decide +kernel
theorem dX11_throughStream_94 : decode cX11_throughStream 94 = .ok (.iload 9, 2) := by decide +kernel
theorem dX11_throughStream_96 : decode cX11_throughStream 96 = .ok (.iastore, 1) := by decide +kernel
theorem dX11_throughStream_97 : decode cX11_throughStream 97 = .ok (.iinc 8 1, 3) := by decide +kernel
theorem dX11_throughStream_100 : decode cX11_throughStream 100 = .ok (.goto (-68), 3) := by decide +kernel
theorem dX11_throughStream_103 : decode cX11_throughStream 103 = .ok (.iconst 0, 1) := by decide +kernel
theorem dX11_throughStream_104 : decode cX11_throughStream 104 = .ok (.istore 7, 2) := by decide +kernel
theorem dX11_throughStream_106 : decode cX11_throughStream 106 = .ok (.iconst 0, 1) := by decide +kernel
theorem dX11_throughStream_107 : decode cX11_throughStream 107 = .ok (.istore 8, 2) := by decide +kernel
theorem dX11_throughStream_109 : decode cX11_throughStream 109 = .ok (.iload 8, 2) := by decide +kernel
theorem dX11_throughStream_111 : decode cX11_throughStream 111 = .ok (.iload 6, 2) := by decide +kernel
theorem dX11_throughStream_113 : decode cX11_throughStream 113 = .ok (.if_icmp .ge 108, 3) := by decide +kernel
theorem dX11_throughStream_116 : decode cX11_throughStream 116 = .ok (.iload 8, 2) := by decide +kernel
theorem dX11_throughStream_118 : decode cX11_throughStream 118 = .ok (.iconst 1, 1) := by decide +kernel
theorem dX11_throughStream_119 : decode cX11_throughStream 119 = .ok (.iadd, 1) := by decide +kernel
theorem dX11_throughStream_120 : decode cX11_throughStream 120 = .ok (.sipush 256, 3) := by decide +kernel
theorem dX11_throughStream_123 : decode cX11_throughStream 123 = .ok (.irem, 1) := by decide +kernel
theorem dX11_throughStream_124 : decode cX11_throughStream 124 = .ok (.istore 9, 2) := by decide +kernel
theorem dX11_throughStream_126 : decode cX11_throughStream 126 = .ok (.iload 7, 2) := by decide +kernel
theorem dX11_throughStream_128 : decode cX11_throughStream 128 = .ok (.aload_n 0, 1) := by decide +kernel
theorem dX11_throughStream_129 : decode cX11_throughStream 129 = .ok (.getfield 207, 3) := by decide +kernel
theorem dX11_throughStream_132 : decode cX11_throughStream 132 = .ok (.iload 9, 2) := by decide +kernel
theorem dX11_throughStream_134 : decode cX11_throughStream 134 = .ok (.iaload, 1) := by decide +kernel
theorem dX11_throughStream_135 : decode cX11_throughStream 135 = .ok (.iadd, 1) := by decide +kernel
theorem dX11_throughStream_136 : decode cX11_throughStream 136 = .ok (.sipush 256, 3) := by decide +kernel
theorem dX11_throughStream_139 : decode cX11_throughStream 139 = .ok (.irem, 1) := by decide +kernel
theorem dX11_throughStream_140 : decode cX11_throughStream 140 = .ok (.istore 7, 2) := by decide +kernel
theorem dX11_throughStream_142 : decode cX11_throughStream 142 = .ok (.aload_n 0, 1) := by decide +kernel
theorem dX11_throughStream_143 : decode cX11_throughStream 143 = .ok (.getfield 207, 3) := by decide +kernel
theorem dX11_throughStream_146 : decode cX11_throughStream 146 = .ok (.iload 9, 2) := by decide +kernel
theorem dX11_throughStream_148 : decode cX11_throughStream 148 = .ok (.iaload, 1) := by decide +kernel
