theorem dX11_throughStream_149 : decode cX11_throughStream 149 = .ok (.istore 10, 2) := by decide +kernel
theorem dX11_throughStream_151 : decode cX11_throughStream 151 = .ok (.aload_n 0, 1) := by decide +kernel
theorem dX11_throughStream_152 : decode cX11_throughStream 152 = .ok (.getfield 207, 3) := by decide +kernel
theorem dX11_throughStream_155 : decode cX11_throughStream 155 = .ok (.iload 9, 2) := by decide +kernel
theorem dX11_throughStream_157 : decode cX11_throughStream 157 = .ok (.aload_n 0, 1) := by decide +kernel
theorem dX11_throughStream_158 : decode cX11_throughStream 158 = .ok (.getfield 207, 3) := by decide +kernel
theorem dX11_throughStream_161 : decode cX11_throughStream 161 = .ok (.iload 7, 2) := by decide +kernel
theorem dX11_throughStream_163 : decode cX11_throughStream 163 = .ok (.iaload, 1) := by decide +kernel
theorem dX11_throughStream_164 : decode cX11_throughStream 164 = .ok (.iastore, 1) := by decide +kernel
theorem dX11_throughStream_165 : decode cX11_throughStream 165 = .ok (.aload_n 0, 1) := by decide +kernel
theorem dX11_throughStream_166 : decode cX11_throughStream 166 = .ok (.getfield 207, 3) := by decide +kernel
theorem dX11_throughStream_169 : decode cX11_throughStream 169 = .ok (.iload 7, 2) := by decide +kernel
theorem dX11_throughStream_171 : decode cX11_throughStream 171 = .ok (.iload 10, 2) := by decide +kernel
theorem dX11_throughStream_173 : decode cX11_throughStream 173 = .ok (.iastore, 1) := by decide +kernel
theorem dX11_throughStream_174 : decode cX11_throughStream 174 = .ok (.aload 4, 2) := by decide +kernel
theorem dX11_throughStream_176 : decode cX11_throughStream 176 = .ok (.iload 5, 2) := by decide +kernel
theorem dX11_throughStream_178 : decode cX11_throughStream 178 = .ok (.iload 8, 2) := by decide +kernel
theorem dX11_throughStream_180 : decode cX11_throughStream 180 = .ok (.iadd, 1) := by decide +kernel
theorem dX11_throughStream_181 : decode cX11_throughStream 181 = .ok (.aload 4, 2) := by decide +kernel
theorem dX11_throughStream_183 : decode cX11_throughStream 183 = .ok (.iload 5, 2) := by decide +kernel
theorem dX11_throughStream_185 : decode cX11_throughStream 185 = .ok (.iload 8, 2) := by decide +kernel
theorem dX11_throughStream_187 : decode cX11_throughStream 187 = .ok (.iadd, 1) := by decide +kernel
theorem dX11_throughStream_188 : decode cX11_throughStream 188 = .ok (.iaload, 1) := by decide +kernel
theorem dX11_throughStream_189 : decode cX11_throughStream 189 = .ok (.aload_n 0, 1) := by decide +kernel
theorem dX11_throughStream_190 : decode cX11_throughStream 190 = .ok (.getfield 207, 3) := by decide +kernel
theorem dX11_throughStream_193 : decode cX11_throughStream 193 = .ok (.aload_n 0, 1) := by decide +kernel
theorem dX11_throughStream_194 : decode cX11_throughStream 194 = .ok (.getfield 207, 3) := by decide +kernel
theorem dX11_throughStream_197 : decode cX11_throughStream 197 = .ok (.iload 9, 2) := by decide +kernel
theorem dX11_throughStream_199 : decode cX11_throughStream 199 = .ok (.iaload, 1) := by decide +kernel
theorem dX11_throughStream_200 : decode cX11_throughStream 200 = .ok (.aload_n 0, 1) := by decide +kernel
theorem dX11_throughStream_201 : decode cX11_throughStream 201 = .ok (.getfield 207, 3) := by decide +kernel
theorem dX11_throughStream_204 : decode cX11_throughStream 204 = .ok (.iload 7, 2) := by decide +kernel
theorem dX11_throughStream_206 : decode cX11_throughStream 206 = .ok (.iaload, 1) := by decide +kernel
theorem dX11_throughStream_207 : decode cX11_throughStream 207 = .ok (.iadd, 1) := by decide +kernel
theorem dX11_throughStream_208 : decode cX11_throughStream 208 = .ok (.sipush 256, 3) := by decide +kernel
theorem dX11_throughStream_211 : decode cX11_throughStream 211 = .ok (.irem, 1) := by decide +kernel
theorem dX11_throughStream_212 : decode cX11_throughStream 212 = .ok (.iaload, 1) := by decide +kernel
theorem dX11_throughStream_213 : decode cX11_throughStream 213 = .ok (.ixor, 1) := by decide +kernel
theorem dX11_throughStream_214 : decode cX11_throughStream 214 = .ok (.iastore, 1) := by decide +kernel
theorem dX11_throughStream_215 : decode cX11_throughStream 215 = .ok (.iinc 8 1, 3) := by decide +kernel
theorem dX11_throughStream_218 : decode cX11_throughStream 218 = .ok (.goto (-109), 3) := by decide +kernel
theorem dX11_throughStream_221 : decode cX11_throughStream 221 = .ok (.return_, 1) := by decide +kernel
theorem dX11_times_0 : decode cX11_times 0 = .ok (.iconst 0, 1) := by decide +kernel
theorem dX11_times_1 : decode cX11_times 1 = .ok (.istore_n 2, 1) := by decide +kernel
theorem dX11_times_2 : decode cX11_times 2 = .ok (.bipush 7, 2) := by decide +kernel
theorem dX11_times_4 : decode cX11_times 4 = .ok (.istore_n 3, 1) := by decide +kernel
theorem dX11_times_5 : decode cX11_times 5 = .ok (.iload_n 3, 1) := by decide +kernel
theorem dX11_times_6 : decode cX11_times 6 = .ok (.ifCond .lt 47, 3) := by decide +kernel
theorem dX11_times_9 : decode cX11_times 9 = .ok (.iconst 2, 1) := by decide +kernel
theorem dX11_times_10 : decode cX11_times 10 = .ok (.iload_n 2, 1) := by decide +kernel
theorem dX11_times_11 : decode cX11_times 11 = .ok (.imul, 1) := by decide +kernel
theorem dX11_times_12 : decode cX11_times 12 = .ok (.istore_n 2, 1) := by decide +kernel
theorem dX11_times_13 : decode cX11_times 13 = .ok (.iload_n 2, 1) := by decide +kernel
theorem dX11_times_14 : decode cX11_times 14 = .ok (.sipush 255, 3) := by decide +kernel
theorem dX11_times_17 : decode cX11_times 17 = .ok (.if_icmp .le 11, 3) := by decide +kernel
theorem dX11_times_20 : decode cX11_times 20 = .ok (.iload_n 2, 1) := by decide +kernel
theorem dX11_times_21 : decode cX11_times 21 = .ok (.sipush 283, 3) := by decide +kernel
theorem dX11_times_24 : decode cX11_times 24 = .ok (.ixor, 1) := by decide +kernel
theorem dX11_times_25 : decode cX11_times 25 = .ok (.goto 4, 3) := by decide +kernel
theorem dX11_times_28 : decode cX11_times 28 = .ok (.iload_n 2, 1) := by decide +kernel
theorem dX11_times_29 : decode cX11_times 29 = .ok (.istore_n 2, 1) := by decide +kernel
theorem dX11_times_30 : decode cX11_times 30 = .ok (.iload_n 1, 1) := by decide +kernel
theorem dX11_times_31 : decode cX11_times 31 = .ok (.iload_n 3, 1) := by decide +kernel
theorem dX11_times_32 : decode cX11_times 32 = .ok (.ishr, 1) := by decide +kernel
theorem dX11_times_33 : decode cX11_times 33 = .ok (.iconst 1, 1) := by decide +kernel
theorem dX11_times_34 : decode cX11_times 34 = .ok (.iand, 1) := by decide +kernel
theorem dX11_times_35 : decode cX11_times 35 = .ok (.iconst 1, 1) := by decide +kernel
theorem dX11_times_36 : decode cX11_times 36 = .ok (.if_icmp .ne 9, 3) := by decide +kernel
theorem dX11_times_39 : decode cX11_times 39 = .ok (.iload_n 2, 1) := by decide +kernel
theorem dX11_times_40 : decode cX11_times 40 = .ok (.iload_n 0, 1) := by decide +kernel
theorem dX11_times_41 : decode cX11_times 41 = .ok (.ixor, 1) := by decide +kernel
theorem dX11_times_42 : decode cX11_times 42 = .ok (.goto 4, 3) := by decide +kernel
theorem dX11_times_45 : decode cX11_times 45 = .ok (.iload_n 2, 1) := by decide +kernel
theorem dX11_times_46 : decode cX11_times 46 = .ok (.istore_n 2, 1) := by decide +kernel
theorem dX11_times_47 : decode cX11_times 47 = .ok (.iinc 3 (-1), 3) := by decide +kernel
theorem dX11_times_50 : decode cX11_times 50 = .ok (.goto (-45), 3) := by decide +kernel
theorem dX11_times_53 : decode cX11_times 53 = .ok (.iload_n 2, 1) := by decide +kernel
theorem dX11_times_54 : decode cX11_times 54 = .ok (.ireturn, 1) := by decide +kernel
set_option maxRecDepth 20000 in
theorem ggX11_setKey_X11_times : GoodIn wsX11_setKey wsX11_times := goodIn_r _ [7] (by decide +kernel) (by decide +kernel)
set_option maxRecDepth 20000 in
theorem gX11_setKey_X11_times : GoodIn wsX11_setKey (va_wsS RX11 226 yX11_times wsX11_times) := goodIn_app (goodIn_of _ (by decide +kernel)) ggX11_setKey_X11_times
theorem dX11_setKey_0 : decode cX11_setKey 0 = .ok (.aload_n 0, 1) := by decide +kernel
theorem dX11_setKey_1 : decode cX11_setKey 1 = .ok (.iload_n 2, 1) := by decide +kernel
theorem dX11_setKey_2 : decode cX11_setKey 2 = .ok (.iconst 4, 1) := by decide +kernel
theorem dX11_setKey_3 : decode cX11_setKey 3 = .ok (.idiv, 1) := by decide +kernel
theorem dX11_setKey_4 : decode cX11_setKey 4 = .ok (.bipush 6, 2) := by decide +kernel
theorem dX11_setKey_6 : decode cX11_setKey 6 = .ok (.iadd, 1) := by decide +kernel
theorem dX11_setKey_7 : decode cX11_setKey 7 = .ok (.putfield 270, 3) := by decide +kernel
theorem dX11_setKey_10 : decode cX11_setKey 10 = .ok (.iconst 1, 1) := by decide +kernel
theorem dX11_setKey_11 : decode cX11_setKey 11 = .ok (.istore_n 3, 1) := by decide +kernel
theorem dX11_setKey_12 : decode cX11_setKey 12 = .ok (.iconst 0, 1) := by decide +kernel
theorem dX11_setKey_13 : decode cX11_setKey 13 = .ok (.istore 4, 2) := by decide +kernel
theorem dX11_setKey_15 : decode cX11_setKey 15 = .ok (.iload 4, 2) := by decide +kernel
theorem dX11_setKey_17 : decode cX11_setKey 17 = .ok (.iconst 4, 1) := by decide +kernel
theorem dX11_setKey_18 : decode cX11_setKey 18 = .ok (.aload_n 0, 1) := by decide +kernel
theorem dX11_setKey_19 : decode cX11_setKey 19 = .ok (.getfield 270, 3) := by decide +kernel
theorem dX11_setKey_22 : decode cX11_setKey 22 = .ok (.imul, 1) := by decide +kernel
theorem dX11_setKey_23 : decode cX11_setKey 23 = .ok (.iconst 4, 1) := by decide +kernel
theorem dX11_setKey_24 : decode cX11_setKey 24 = .ok (.iadd, 1) := by decide +kernel
theorem dX11_setKey_25 : decode cX11_setKey 25 = .ok (.if_icmp .ge 196, 3) := by decide +kernel
theorem dX11_setKey_28 : decode cX11_setKey 28 = .ok (.iconst 0, 1) := by decide +kernel
theorem dX11_setKey_29 : decode cX11_setKey 29 = .ok (.istore 5, 2) := by decide +kernel
theorem dX11_setKey_31 : decode cX11_setKey 31 = .ok (.iload 5, 2) := by decide +kernel
theorem dX11_setKey_33 : decode cX11_setKey 33 = .ok (.iconst 4, 1) := by decide +kernel
theorem dX11_setKey_34 : decode cX11_setKey 34 = .ok (.if_icmp .ge 158, 3) := by decide +kernel
theorem dX11_setKey_37 : decode cX11_setKey 37 = .ok (.iconst 4, 1) := by decide +kernel
theorem dX11_setKey_38 : decode cX11_setKey 38 = .ok (.iload 4, 2) := by decide +kernel
theorem dX11_setKey_40 : decode cX11_setKey 40 = .ok (.imul, 1) := by decide +kernel
theorem dX11_setKey_41 : decode cX11_setKey 41 = .ok (.iload 5, 2) := by decide +kernel
theorem dX11_setKey_43 : decode cX11_setKey 43 = .ok (.iadd, 1) := by decide +kernel
theorem dX11_setKey_44 : decode cX11_setKey 44 = .ok (.istore 6, 2) := by decide +kernel
theorem dX11_setKey_46 : decode cX11_setKey 46 = .ok (.iload 6, 2) := by decide +kernel
theorem dX11_setKey_48 : decode cX11_setKey 48 = .ok (.iload_n 2, 1) := by decide +kernel
theorem dX11_setKey_49 : decode cX11_setKey 49 = .ok (.if_icmp .ge 17, 3) := by decide +kernel
theorem dX11_setKey_52 : decode cX11_setKey 52 = .ok (.aload_n 0, 1) := by decide +kernel
theorem dX11_setKey_53 : decode cX11_setKey 53 = .ok (.getfield 198, 3) := by decide +kernel
theorem dX11_setKey_56 : decode cX11_setKey 56 = .ok (.iload 6, 2) := by decide +kernel
theorem dX11_setKey_58 : decode cX11_setKey 58 = .ok (.aload_n 1, 1) := by decide +kernel
theorem dX11_setKey_59 : decode cX11_setKey 59 = .ok (.iload 6, 2) := by decide +kernel
theorem dX11_setKey_61 : decode cX11_setKey 61 = .ok (.iaload, 1) := by decide +kernel
theorem dX11_setKey_62 : decode cX11_setKey 62 = .ok (.iastore, 1) := by decide +kernel
theorem dX11_setKey_63 : decode cX11_setKey 63 = .ok (.goto 123, 3) := by decide +kernel
theorem dX11_setKey_66 : decode cX11_setKey 66 = .ok (.iconst 4, 1) := by decide +kernel
theorem dX11_setKey_67 : decode cX11_setKey 67 = .ok (.iload 4, 2) := by decide +kernel
theorem dX11_setKey_69 : decode cX11_setKey 69 = .ok (.imul, 1) := by decide +kernel
theorem dX11_setKey_70 : decode cX11_setKey 70 = .ok (.iload_n 2, 1) := by decide +kernel
theorem dX11_setKey_71 : decode cX11_setKey 71 = .ok (.irem, 1) := by decide +kernel
theorem dX11_setKey_72 : decode cX11_setKey 72 = .ok (.ifCond .ne 7, 3) := by decide +kernel
theorem dX11_setKey_75 : decode cX11_setKey 75 = .ok (.iconst 1, 1) := by decide +kernel
theorem dX11_setKey_76 : decode cX11_setKey 76 = .ok (.goto 4, 3) := by decide +kernel
theorem dX11_setKey_79 : decode cX11_setKey 79 = .ok (.iconst 0, 1) := by decide +kernel
theorem dX11_setKey_80 : decode cX11_setKey 80 = .ok (.istore 7, 2) := by decide +kernel
theorem dX11_setKey_82 : decode cX11_setKey 82 = .ok (.aload_n 0, 1) := by decide +kernel
theorem dX11_setKey_83 : decode cX11_setKey 83 = .ok (.getfield 198, 3) := by decide +kernel
theorem dX11_setKey_86 : decode cX11_setKey 86 = .ok (.iconst 4, 1) := by decide +kernel
theorem dX11_setKey_87 : decode cX11_setKey 87 = .ok (.iload 4, 2) := by decide +kernel
theorem dX11_setKey_89 : decode cX11_setKey 89 = .ok (.imul, 1) := by decide +kernel
theorem dX11_setKey_90 : decode cX11_setKey 90 = .ok (.iconst 4, 1) := by decide +kernel
theorem dX11_setKey_91 : decode cX11_setKey 91 = .ok (.isub, 1) := by decide +kernel
theorem dX11_setKey_92 : decode cX11_setKey 92 = .ok (.iload 7, 2) := by decide +kernel
theorem dX11_setKey_94 : decode cX11_setKey 94 = .ok (.ifCond .eq 12, 3) := by decide +kernel
theorem dX11_setKey_97 : decode cX11_setKey 97 = .ok (.iload 5, 2) := by decide +kernel
theorem dX11_setKey_99 : decode cX11_setKey 99 = .ok (.iconst 1, 1) := by decide +kernel
theorem dX11_setKey_100 : decode cX11_setKey 100 = .ok (.iadd, 1) := by decide +kernel
theorem dX11_setKey_101 : decode cX11_setKey 101 = .ok (.iconst 4, 1) := by decide +kernel
theorem dX11_setKey_102 : decode cX11_setKey 102 = .ok (.irem, 1) := by decide +kernel
theorem dX11_setKey_103 : decode cX11_setKey 103 = .ok (.goto 5, 3) := by decide +kernel
theorem dX11_setKey_106 : decode cX11_setKey 106 = .ok (.iload 5, 2) := by decide +kernel
theorem dX11_setKey_108 : decode cX11_setKey 108 = .ok (.iadd, 1) := by decide +kernel
theorem dX11_setKey_109 : decode cX11_setKey 109 = .ok (.iaload, 1) := by decide +kernel
theorem dX11_setKey_110 : decode cX11_setKey 110 = .ok (.istore 8, 2) := by decide +kernel
theorem dX11_setKey_112 : decode cX11_setKey 112 = .ok (.iload 7, 2) := by decide +kernel
theorem dX11_setKey_114 : decode cX11_setKey 114 = .ok (.ifCond .ne 18, 3) := by decide +kernel
theorem dX11_setKey_117 : decode cX11_setKey 117 = .ok (.iload_n 2, 1) := by decide +kernel
theorem dX11_setKey_118 : decode cX11_setKey 118 = .ok (.bipush 32, 2) := by decide +kernel
theorem dX11_setKey_120 : decode cX11_setKey 120 = .ok (.if_icmp .ne 22, 3) := by decide +kernel
theorem dX11_setKey_123 : decode cX11_setKey 123 = .ok (.iload 4, 2) := by decide +kernel
theorem dX11_setKey_125 : decode cX11_setKey 125 = .ok (.bipush 8, 2) := by decide +kernel
theorem dX11_setKey_127 : decode cX11_setKey 127 = .ok (.irem, 1) := by decide +kernel
theorem dX11_setKey_128 : decode cX11_setKey 128 = .ok (.iconst 4, 1) := by decide +kernel
theorem dX11_setKey_129 : decode cX11_setKey 129 = .ok (.if_icmp .ne 13, 3) := by decide +kernel
theorem dX11_setKey_132 : decode cX11_setKey 132 = .ok (.aload_n 0, 1) := by decide +kernel
theorem dX11_setKey_133 : decode cX11_setKey 133 = .ok (.getfield 192, 3) := by decide +kernel
theorem dX11_setKey_136 : decode cX11_setKey 136 = .ok (.iload 8, 2) := by decide +kernel
theorem dX11_setKey_138 : decode cX11_setKey 138 = .ok (.iaload, 1) := by decide +kernel
theorem dX11_setKey_139 : decode cX11_setKey 139 = .ok (.goto 5, 3) := by decide +kernel
theorem dX11_setKey_142 : decode cX11_setKey 142 = .ok (.iload 8, 2) := by decide +kernel
theorem dX11_setKey_144 : decode cX11_setKey 144 = .ok (.istore 8, 2) := by decide +kernel
theorem dX11_setKey_146 : decode cX11_setKey 146 = .ok (.iload 7, 2) := by decide +kernel
theorem dX11_setKey_148 : decode cX11_setKey 148 = .ok (.ifCond .eq 15, 3) := by decide +kernel
theorem dX11_setKey_151 : decode cX11_setKey 151 = .ok (.iload 5, 2) := by decide +kernel
theorem dX11_setKey_153 : decode cX11_setKey 153 = .ok (.ifCond .ne 10, 3) := by decide +kernel
theorem dX11_setKey_156 : decode cX11_setKey 156 = .ok (.iload 8, 2) := by decide +kernel
theorem dX11_setKey_158 : decode cX11_setKey 158 = .ok (.iload_n 3, 1) := by decide +kernel
theorem dX11_setKey_159 : decode cX11_setKey 159 = .ok (.ixor, 1) := by decide +kernel
theorem dX11_setKey_160 : decode cX11_setKey 160 = .ok (.goto 5, 3) := by decide +kernel
theorem dX11_setKey_163 : decode cX11_setKey 163 = .ok (.iload 8, 2) := by decide +kernel
theorem dX11_setKey_165 : decode cX11_setKey 165 = .ok (.istore 8, 2) := by decide +kernel
theorem dX11_setKey_167 : decode cX11_setKey 167 = .ok (.aload_n 0, 1) := by decide +kernel
theorem dX11_setKey_168 : decode cX11_setKey 168 = .ok (.getfield 198, 3) := by decide +kernel
theorem dX11_setKey_171 : decode cX11_setKey 171 = .ok (.iload 6, 2) := by decide +kernel
theorem dX11_setKey_173 : decode cX11_setKey 173 = .ok (.aload_n 0, 1) := by decide +kernel
theorem dX11_setKey_174 : decode cX11_setKey 174 = .ok (.getfield 198, 3) := by decide +kernel
theorem dX11_setKey_177 : decode cX11_setKey 177 = .ok (.iload 6, 2) := by decide +kernel
theorem dX11_setKey_179 : decode cX11_setKey 179 = .ok (.iload_n 2, 1) := by decide +kernel
theorem dX11_setKey_180 : decode cX11_setKey 180 = .ok (.isub, 1) := by decide +kernel
theorem dX11_setKey_181 : decode cX11_setKey 181 = .ok (.iaload, 1) := by decide +kernel
theorem dX11_setKey_182 : decode cX11_setKey 182 = .ok (.iload 8, 2) := by decide +kernel
theorem dX11_setKey_184 : decode cX11_setKey 184 = .ok (.ixor, 1) := by decide +kernel
theorem dX11_setKey_185 : decode cX11_setKey 185 = .ok (.iastore, 1) := by decide +kernel
theorem dX11_setKey_186 : decode cX11_setKey 186 = .ok (.iinc 5 1, 3) := by decide +kernel
theorem dX11_setKey_189 : decode cX11_setKey 189 = .ok (.goto (-158), 3) := by decide +kernel
theorem dX11_setKey_192 : decode cX11_setKey 192 = .ok (.iconst 4, 1) := by decide +kernel
theorem dX11_setKey_193 : decode cX11_setKey 193 = .ok (.iload 4, 2) := by decide +kernel
theorem dX11_setKey_195 : decode cX11_setKey 195 = .ok (.imul, 1) := by decide +kernel
theorem dX11_setKey_196 : decode cX11_setKey 196 = .ok (.iload_n 2, 1) := by decide +kernel
theorem dX11_setKey_197 : decode cX11_setKey 197 = .ok (.if_icmp .lt 18, 3) := by decide +kernel
theorem dX11_setKey_200 : decode cX11_setKey 200 = .ok (.iconst 4, 1) := by decide +kernel
theorem dX11_setKey_201 : decode cX11_setKey 201 = .ok (.iload 4, 2) := by decide +kernel
theorem dX11_setKey_203 : decode cX11_setKey 203 = .ok (.imul, 1) := by decide +kernel
theorem dX11_setKey_204 : decode cX11_setKey 204 = .ok (.iload_n 2, 1) := by decide +kernel
theorem dX11_setKey_205 : decode cX11_setKey 205 = .ok (.irem, 1) := by decide +kernel
theorem dX11_setKey_206 : decode cX11_setKey 206 = .ok (.ifCond .ne 9, 3) := by decide +kernel
theorem dX11_setKey_209 : decode cX11_setKey 209 = .ok (.iload_n 3, 1) := by decide +kernel
theorem dX11_setKey_210 : decode cX11_setKey 210 = .ok (.iconst 2, 1) := by decide +kernel
theorem dX11_setKey_211 : decode cX11_setKey 211 = .ok (.invokestatic 226, 3) := by decide +kernel
theorem dX11_setKey_214 : decode cX11_setKey 214 = .ok (.istore_n 3, 1) := by decide +kernel
theorem dX11_setKey_215 : decode cX11_setKey 215 = .ok (.iinc 4 1, 3) := by decide +kernel
theorem dX11_setKey_218 : decode cX11_setKey 218 = .ok (.goto (-203), 3) := by decide +kernel
theorem dX11_setKey_221 : decode cX11_setKey 221 = .ok (.return_, 1) := by decide +kernel
theorem dX11_addRound_0 : decode cX11_addRound 0 = .ok (.iconst 0, 1) := by decide +kernel
theorem dX11_addRound_1 : decode cX11_addRound 1 = .ok (.istore_n 2, 1) := by decide +kernel
theorem dX11_addRound_2 : decode cX11_addRound 2 = .ok (.iload_n 2, 1) := by decide +kernel
theorem dX11_addRound_3 : decode cX11_addRound 3 = .ok (.bipush 16, 2) := by decide +kernel
theorem dX11_addRound_5 : decode cX11_addRound 5 = .ok (.if_icmp .ge 33, 3) := by decide +kernel
theorem dX11_addRound_8 : decode cX11_addRound 8 = .ok (.aload_n 0, 1) := by decide +kernel
theorem dX11_addRound_9 : decode cX11_addRound 9 = .ok (.getfield 201, 3) := by decide +kernel
theorem dX11_addRound_12 : decode cX11_addRound 12 = .ok (.iload_n 2, 1) := by decide +kernel
theorem dX11_addRound_13 : decode cX11_addRound 13 = .ok (.aload_n 0, 1) := by decide +kernel
theorem dX11_addRound_14 : decode cX11_addRound 14 = .ok (.getfield 201, 3) := by decide +kernel
theorem dX11_addRound_17 : decode cX11_addRound 17 = .ok (.iload_n 2, 1) := by decide +kernel
theorem dX11_addRound_18 : decode cX11_addRound 18 = .ok (.iaload, 1) := by decide +kernel
theorem dX11_addRound_19 : decode cX11_addRound 19 = .ok (.aload_n 0, 1) := by decide +kernel
theorem dX11_addRound_20 : decode cX11_addRound 20 = .ok (.getfield 198, 3) := by decide +kernel
theorem dX11_addRound_23 : decode cX11_addRound 23 = .ok (.bipush 16, 2) := by decide +kernel
theorem dX11_addRound_25 : decode cX11_addRound 25 = .ok (.iload_n 1, 1) := by decide +kernel
theorem dX11_addRound_26 : decode cX11_addRound 26 = .ok (.imul, 1) := by decide +kernel
theorem dX11_addRound_27 : decode cX11_addRound 27 = .ok (.iload_n 2, 1) := by decide +kernel
theorem dX11_addRound_28 : decode cX11_addRound 28 = .ok (.iadd, 1) := by decide +kernel
theorem dX11_addRound_29 : decode cX11_addRound 29 = .ok (.iaload, 1) := by decide +kernel
theorem dX11_addRound_30 : decode cX11_addRound 30 = .ok (.ixor, 1) := by decide +kernel
theorem dX11_addRound_31 : decode cX11_addRound 31 = .ok (.iastore, 1) := by decide +kernel
theorem dX11_addRound_32 : decode cX11_addRound 32 = .ok (.iinc 2 1, 3) := by decide +kernel
theorem dX11_addRound_35 : decode cX11_addRound 35 = .ok (.goto (-33), 3) := by decide +kernel
theorem dX11_addRound_38 : decode cX11_addRound 38 = .ok (.return_, 1) := by decide +kernel
set_option maxRecDepth 20000 in
theorem ggX11_mix_X11_times : GoodIn wsX11_mix wsX11_times := goodIn_r _ [6] (by decide +kernel) (by decide +kernel)
set_option maxRecDepth 20000 in
theorem gX11_mix_X11_times : GoodIn wsX11_mix (va_wsS RX11 226 yX11_times wsX11_times) := goodIn_app (goodIn_of _ (by decide +kernel)) ggX11_mix_X11_times
theorem dX11_mix_0 : decode cX11_mix 0 = .ok (.iconst 0, 1) := by decide +kernel
theorem dX11_mix_1 : decode cX11_mix 1 = .ok (.istore 5, 2) := by decide +kernel
theorem dX11_mix_3 : decode cX11_mix 3 = .ok (.iload 5, 2) := by decide +kernel
theorem dX11_mix_5 : decode cX11_mix 5 = .ok (.bipush 16, 2) := by decide +kernel
theorem dX11_mix_7 : decode cX11_mix 7 = .ok (.if_icmp .ge 94, 3) := by decide +kernel
theorem dX11_mix_10 : decode cX11_mix 10 = .ok (.iload 5, 2) := by decide +kernel
theorem dX11_mix_12 : decode cX11_mix 12 = .ok (.iload 5, 2) := by decide +kernel
theorem dX11_mix_14 : decode cX11_mix 14 = .ok (.iconst 4, 1) := by decide +kernel
theorem dX11_mix_15 : decode cX11_mix 15 = .ok (.irem, 1) := by decide +kernel
theorem dX11_mix_16 : decode cX11_mix 16 = .ok (.isub, 1) := by decide +kernel
theorem dX11_mix_17 : decode cX11_mix 17 = .ok (.istore 6, 2) := by decide +kernel
theorem dX11_mix_19 : decode cX11_mix 19 = .ok (.aload_n 0, 1) := by decide +kernel
theorem dX11_mix_20 : decode cX11_mix 20 = .ok (.getfield 204, 3) := by decide +kernel
theorem dX11_mix_23 : decode cX11_mix 23 = .ok (.iload 5, 2) := by decide +kernel
theorem dX11_mix_25 : decode cX11_mix 25 = .ok (.iload_n 1, 1) := by decide +kernel
theorem dX11_mix_26 : decode cX11_mix 26 = .ok (.aload_n 0, 1) := by decide +kernel
theorem dX11_mix_27 : decode cX11_mix 27 = .ok (.getfield 201, 3) := by decide +kernel
theorem dX11_mix_30 : decode cX11_mix 30 = .ok (.iload 5, 2) := by decide +kernel
theorem dX11_mix_32 : decode cX11_mix 32 = .ok (.iaload, 1) := by decide +kernel
theorem dX11_mix_33 : decode cX11_mix 33 = .ok (.invokestatic 226, 3) := by decide +kernel
theorem dX11_mix_36 : decode cX11_mix 36 = .ok (.iload_n 2, 1) := by decide +kernel
theorem dX11_mix_37 : decode cX11_mix 37 = .ok (.aload_n 0, 1) := by decide +kernel
theorem dX11_mix_38 : decode cX11_mix 38 = .ok (.getfield 201, 3) := by decide +kernel
theorem dX11_mix_41 : decode cX11_mix 41 = .ok (.iload 6, 2) := by decide +kernel
theorem dX11_mix_43 : decode cX11_mix 43 = .ok (.iload 5, 2) := by decide +kernel
theorem dX11_mix_45 : decode cX11_mix 45 = .ok (.iconst 1, 1) := by decide +kernel
theorem dX11_mix_46 : decode cX11_mix 46 = .ok (.iadd, 1) := by decide +kernel
theorem dX11_mix_47 : decode cX11_mix 47 = .ok (.iconst 4, 1) := by decide +kernel
theorem dX11_mix_48 : decode cX11_mix 48 = .ok (.irem, 1) := by decide +kernel
theorem dX11_mix_49 : decode cX11_mix 49 = .ok (.iadd, 1) := by decide +kernel
theorem dX11_mix_50 : decode cX11_mix 50 = .ok (.iaload, 1) := by decide +kernel
theorem dX11_mix_51 : decode cX11_mix 51 = .ok (.invokestatic 226, 3) := by decide +kernel
theorem dX11_mix_54 : decode cX11_mix 54 = .ok (.ixor, 1) := by decide +kernel
theorem dX11_mix_55 : decode cX11_mix 55 = .ok (.iload_n 3, 1) := by decide +kernel
theorem dX11_mix_56 : decode cX11_mix 56 = .ok (.aload_n 0, 1) := by decide +kernel
theorem dX11_mix_57 : decode cX11_mix 57 = .ok (.getfield 201, 3) := by decide +kernel
theorem dX11_mix_60 : decode cX11_mix 60 = .ok (.iload 6, 2) := by decide +kernel
theorem dX11_mix_62 : decode cX11_mix 62 = .ok (.iload 5, 2) := by decide +kernel
theorem dX11_mix_64 : decode cX11_mix 64 = .ok (.iconst 2, 1) := by decide +kernel
theorem dX11_mix_65 : decode cX11_mix 65 = .ok (.iadd, 1) := by decide +kernel
theorem dX11_mix_66 : decode cX11_mix 66 = .ok (.iconst 4, 1) := by decide +kernel
theorem dX11_mix_67 : decode cX11_mix 67 = .ok (.irem, 1) := by decide +kernel
theorem dX11_mix_68 : decode cX11_mix 68 = .ok (.iadd, 1) := by decide +kernel
theorem dX11_mix_69 : decode cX11_mix 69 = .ok (.iaload, 1) := by decide +kernel
theorem dX11_mix_70 : decode cX11_mix 70 = .ok (.invokestatic 226, 3) := by decide +kernel
theorem dX11_mix_73 : decode cX11_mix 73 = .ok (.ixor, 1) := by decide +kernel
theorem dX11_mix_74 : decode cX11_mix 74 = .ok (.iload 4, 2) := by decide +kernel
theorem dX11_mix_76 : decode cX11_mix 76 = .ok (.aload_n 0, 1) := by decide +kernel
theorem dX11_mix_77 : decode cX11_mix 77 = .ok (.getfield 201, 3) := by decide +kernel
theorem dX11_mix_80 : decode cX11_mix 80 = .ok (.iload 6, 2) := by decide +kernel
theorem dX11_mix_82 : decode cX11_mix 82 = .ok (.iload 5, 2) := by decide +kernel
theorem dX11_mix_84 : decode cX11_mix 84 = .ok (.iconst 3, 1) := by decide +kernel
theorem dX11_mix_85 : decode cX11_mix 85 = .ok (.iadd, 1) := by decide +kernel
theorem dX11_mix_86 : decode cX11_mix 86 = .ok (.iconst 4, 1) := by decide +kernel
theorem dX11_mix_87 : decode cX11_mix 87 = .ok (.irem, 1) := by decide +kernel
theorem dX11_mix_88 : decode cX11_mix 88 = .ok (.iadd, 1) := by decide +kernel
theorem dX11_mix_89 : decode cX11_mix 89 = .ok (.iaload, 1) := by decide +kernel
theorem dX11_mix_90 : decode cX11_mix 90 = .ok (.invokestatic 226, 3) := by decide +kernel
theorem dX11_mix_93 : decode cX11_mix 93 = .ok (.ixor, 1) := by decide +kernel
theorem dX11_mix_94 : decode cX11_mix 94 = .ok (.iastore, 1) := by decide +kernel
theorem dX11_mix_95 : decode cX11_mix 95 = .ok (.iinc 5 1, 3) := by decide +kernel
theorem dX11_mix_98 : decode cX11_mix 98 = .ok (.goto (-95), 3) := by decide +kernel
theorem dX11_mix_101 : decode cX11_mix 101 = .ok (.iconst 0, 1) := by decide +kernel
theorem dX11_mix_102 : decode cX11_mix 102 = .ok (.istore 5, 2) := by decide +kernel
theorem dX11_mix_104 : decode cX11_mix 104 = .ok (.iload 5, 2) := by decide +kernel
theorem dX11_mix_106 : decode cX11_mix 106 = .ok (.bipush 16, 2) := by decide +kernel
theorem dX11_mix_108 : decode cX11_mix 108 = .ok (.if_icmp .ge 23, 3) := by decide +kernel
theorem dX11_mix_111 : decode cX11_mix 111 = .ok (.aload_n 0, 1) := by decide +kernel
theorem dX11_mix_112 : decode cX11_mix 112 = .ok (.getfield 201, 3) := by decide +kernel
theorem dX11_mix_115 : decode cX11_mix 115 = .ok (.iload 5, 2) := by decide +kernel
theorem dX11_mix_117 : decode cX11_mix 117 = .ok (.aload_n 0, 1) := by decide +kernel
theorem dX11_mix_118 : decode cX11_mix 118 = .ok (.getfield 204, 3) := by decide +kernel
theorem dX11_mix_121 : decode cX11_mix 121 = .ok (.iload 5, 2) := by decide +kernel
theorem dX11_mix_123 : decode cX11_mix 123 = .ok (.iaload, 1) := by decide +kernel
theorem dX11_mix_124 : decode cX11_mix 124 = .ok (.iastore, 1) := by decide +kernel
theorem dX11_mix_125 : decode cX11_mix 125 = .ok (.iinc 5 1, 3) := by decide +kernel
theorem dX11_mix_128 : decode cX11_mix 128 = .ok (.goto (-24), 3) := by decide +kernel
theorem dX11_mix_131 : decode cX11_mix 131 = .ok (.return_, 1) := by decide +kernel
theorem dX11_substitute_0 : decode cX11_substitute 0 = .ok (.iconst 0, 1) := by decide +kernel
theorem dX11_substitute_1 : decode cX11_substitute 1 = .ok (.istore_n 2, 1) := by decide +kernel
theorem dX11_substitute_2 : decode cX11_substitute 2 = .ok (.iload_n 2, 1) := by decide +kernel
theorem dX11_substitute_3 : decode cX11_substitute 3 = .ok (.iconst 4, 1) := by decide +kernel
theorem dX11_substitute_4 : decode cX11_substitute 4 = .ok (.if_icmp .ge 92, 3) := by decide +kernel
theorem dX11_substitute_7 : decode cX11_substitute 7 = .ok (.iconst 0, 1) := by decide +kernel
theorem dX11_substitute_8 : decode cX11_substitute 8 = .ok (.istore_n 3, 1) := by decide +kernel
theorem dX11_substitute_9 : decode cX11_substitute 9 = .ok (.iload_n 3, 1) := by decide +kernel
theorem dX11_substitute_10 : decode cX11_substitute 10 = .ok (.iconst 4, 1) := by decide +kernel
theorem dX11_substitute_11 : decode cX11_substitute 11 = .ok (.if_icmp .ge 79, 3) := by decide +kernel
theorem dX11_substitute_14 : decode cX11_substitute 14 = .ok (.iload_n 1, 1) := by decide +kernel
theorem dX11_substitute_15 : decode cX11_substitute 15 = .ok (.ifCond .eq 13, 3) := by decide +kernel
theorem dX11_substitute_18 : decode cX11_substitute 18 = .ok (.iload_n 2, 1) := by decide +kernel
theorem dX11_substitute_19 : decode cX11_substitute 19 = .ok (.iconst 4, 1) := by decide +kernel
theorem dX11_substitute_20 : decode cX11_substitute 20 = .ok (.iadd, 1) := by decide +kernel
theorem dX11_substitute_21 : decode cX11_substitute 21 = .ok (.iload_n 3, 1) := by decide +kernel
theorem dX11_substitute_22 : decode cX11_substitute 22 = .ok (.isub, 1) := by decide +kernel
theorem dX11_substitute_23 : decode cX11_substitute 23 = .ok (.iconst 4, 1) := by decide +kernel
theorem dX11_substitute_24 : decode cX11_substitute 24 = .ok (.irem, 1) := by decide +kernel
theorem dX11_substitute_25 : decode cX11_substitute 25 = .ok (.goto 8, 3) := by decide +kernel
theorem dX11_substitute_28 : decode cX11_substitute 28 = .ok (.iload_n 2, 1) := by decide +kernel
theorem dX11_substitute_29 : decode cX11_substitute 29 = .ok (.iload_n 3, 1) := by decide +kernel
theorem dX11_substitute_30 : decode cX11_substitute 30 = .ok (.iadd, 1) := by decide +kernel
theorem dX11_substitute_31 : decode cX11_substitute 31 = .ok (.iconst 4, 1) := by decide +kernel
theorem dX11_substitute_32 : decode cX11_substitute 32 = .ok (.irem, 1) := by decide +kernel
theorem dX11_substitute_33 : decode cX11_substitute 33 = .ok (.istore 4, 2) := by decide +kernel
theorem dX11_substitute_35 : decode cX11_substitute 35 = .ok (.aload_n 0, 1) := by decide +kernel
theorem dX11_substitute_36 : decode cX11_substitute 36 = .ok (.getfield 204, 3) := by decide +kernel
theorem dX11_substitute_39 : decode cX11_substitute 39 = .ok (.iconst 4, 1) := by decide +kernel
theorem dX11_substitute_40 : decode cX11_substitute 40 = .ok (.iload_n 2, 1) := by decide +kernel
theorem dX11_substitute_41 : decode cX11_substitute 41 = .ok (.imul, 1) := by decide +kernel
theorem dX11_substitute_42 : decode cX11_substitute 42 = .ok (.iload_n 3, 1) := by decide +kernel
theorem dX11_substitute_43 : decode cX11_substitute 43 = .ok (.iadd, 1) := by decide +kernel
theorem dX11_substitute_44 : decode cX11_substitute 44 = .ok (.iload_n 1, 1) := by decide +kernel
theorem dX11_substitute_45 : decode cX11_substitute 45 = .ok (.ifCond .eq 22, 3) := by decide +kernel
theorem dX11_substitute_48 : decode cX11_substitute 48 = .ok (.aload_n 0, 1) := by decide +kernel
theorem dX11_substitute_49 : decode cX11_substitute 49 = .ok (.getfield 195, 3) := by decide +kernel
theorem dX11_substitute_52 : decode cX11_substitute 52 = .ok (.aload_n 0, 1) := by decide +kernel
theorem dX11_substitute_53 : decode cX11_substitute 53 = .ok (.getfield 201, 3) := by decide +kernel
theorem dX11_substitute_56 : decode cX11_substitute 56 = .ok (.iconst 4, 1) := by decide +kernel
theorem dX11_substitute_57 : decode cX11_substitute 57 = .ok (.iload 4, 2) := by decide +kernel
theorem dX11_substitute_59 : decode cX11_substitute 59 = .ok (.imul, 1) := by decide +kernel
theorem dX11_substitute_60 : decode cX11_substitute 60 = .ok (.iload_n 3, 1) := by decide +kernel
theorem dX11_substitute_61 : decode cX11_substitute 61 = .ok (.iadd, 1) := by decide +kernel
theorem dX11_substitute_62 : decode cX11_substitute 62 = .ok (.iaload, 1) := by decide +kernel
theorem dX11_substitute_63 : decode cX11_substitute 63 = .ok (.iaload, 1) := by decide +kernel
theorem dX11_substitute_64 : decode cX11_substitute 64 = .ok (.goto 19, 3) := by decide +kernel
theorem dX11_substitute_67 : decode cX11_substitute 67 = .ok (.aload_n 0, 1) := by decide +kernel
theorem dX11_substitute_68 : decode cX11_substitute 68 = .ok (.getfield 192, 3) := by decide +kernel
theorem dX11_substitute_71 : decode cX11_substitute 71 = .ok (.aload_n 0, 1) := by decide +kernel
theorem dX11_substitute_72 : decode cX11_substitute 72 = .ok (.getfield 201, 3) := by decide +kernel
theorem dX11_substitute_75 : decode cX11_substitute 75 = .ok (.iconst 4, 1) := by decide +kernel
theorem dX11_substitute_76 : decode cX11_substitute 76 = .ok (.iload 4, 2) := by decide +kernel
theorem dX11_substitute_78 : decode cX11_substitute 78 = .ok (.imul, 1) := by decide +kernel
theorem dX11_substitute_79 : decode cX11_substitute 79 = .ok (.iload_n 3, 1) := by decide +kernel
theorem dX11_substitute_80 : decode cX11_substitute 80 = .ok (.iadd, 1) := by decide +kernel
theorem dX11_substitute_81 : decode cX11_substitute 81 = .ok (.iaload, 1) := by decide +kernel
theorem dX11_substitute_82 : decode cX11_substitute 82 = .ok (.iaload, 1) := by decide +kernel
theorem dX11_substitute_83 : decode cX11_substitute 83 = .ok (.iastore, 1) := by decide +kernel
theorem dX11_substitute_84 : decode cX11_substitute 84 = .ok (.iinc 3 1, 3) := by decide +kernel
theorem dX11_substitute_87 : decode cX11_substitute 87 = .ok (.goto (-78), 3) := by decide +kernel
theorem dX11_substitute_90 : decode cX11_substitute 90 = .ok (.iinc 2 1, 3) := by decide +kernel
theorem dX11_substitute_93 : decode cX11_substitute 93 = .ok (.goto (-91), 3) := by decide +kernel
theorem dX11_substitute_96 : decode cX11_substitute 96 = .ok (.iconst 0, 1) := by decide +kernel
theorem dX11_substitute_97 : decode cX11_substitute 97 = .ok (.istore_n 2, 1) := by decide +kernel
theorem dX11_substitute_98 : decode cX11_substitute 98 = .ok (.iload_n 2, 1) := by decide +kernel
theorem dX11_substitute_99 : decode cX11_substitute 99 = .ok (.bipush 16, 2) := by decide +kernel
theorem dX11_substitute_101 : decode cX11_substitute 101 = .ok (.if_icmp .ge 21, 3) := by decide +kernel
theorem dX11_substitute_104 : decode cX11_substitute 104 = .ok (.aload_n 0, 1) := by decide +kernel
theorem dX11_substitute_105 : decode cX11_substitute 105 = .ok (.getfield 201, 3) := by decide +kernel
theorem dX11_substitute_108 : decode cX11_substitute 108 = .ok (.iload_n 2, 1) := by decide +kernel
theorem dX11_substitute_109 : decode cX11_substitute 109 = .ok (.aload_n 0, 1) := by decide +kernel
theorem dX11_substitute_110 : decode cX11_substitute 110 = .ok (.getfield 204, 3) := by decide +kernel
theorem dX11_substitute_113 : decode cX11_substitute 113 = .ok (.iload_n 2, 1) := by decide +kernel
theorem dX11_substitute_114 : decode cX11_substitute 114 = .ok (.iaload, 1) := by decide +kernel
theorem dX11_substitute_115 : decode cX11_substitute 115 = .ok (.iastore, 1) := by decide +kernel
theorem dX11_substitute_116 : decode cX11_substitute 116 = .ok (.iinc 2 1, 3) := by decide +kernel
theorem dX11_substitute_119 : decode cX11_substitute 119 = .ok (.goto (-21), 3) := by decide +kernel
theorem dX11_substitute_122 : decode cX11_substitute 122 = .ok (.return_, 1) := by decide +kernel
set_option maxRecDepth 20000 in
theorem ggX11_block_X11_addRound : GoodIn wsX11_block wsX11_addRound := goodIn_ca (goodIn_r _ [7, 1, 8, 23, 24, 25, 26, 27, 28, 29, 30, 31, 32, 33, 34, 35, 36, 37, 38, 39, 40, 41, 42, 43, 44, 45, 46, 47, 48, 49, 50, 51, 52, 53, 54, 55, 56, 57, 58, 59, 60, 61, 62, 63, 64, 65, 66, 67] (by decide +kernel) (by decide +kernel)) (goodIn_sub (fun _ h => List.mem_cons_of_mem _ (List.mem_append_right _ h)) (by decide +kernel))
set_option maxRecDepth 20000 in
theorem gX11_block_X11_addRound : GoodIn wsX11_block (wsV RX11 273 RX11 yX11_addRound wsX11_addRound) := goodIn_app (goodIn_of _ (by decide +kernel)) ggX11_block_X11_addRound
set_option maxRecDepth 20000 in
theorem ggX11_block_X11_mix : GoodIn wsX11_block wsX11_mix := goodIn_ca (goodIn_r _ [12, 13, 1, 14, 15, 6, 16, 23, 24, 25, 26, 27, 28, 29, 30, 31, 32, 33, 34, 35, 36, 37, 38, 39, 40, 41, 42, 43, 44, 45, 46, 47, 48, 49, 50, 51, 52, 53, 54, 55, 56, 57, 58, 59, 60, 61, 62, 63, 64, 65, 66, 67] (by decide +kernel) (by decide +kernel)) (goodIn_sub (fun _ h => List.mem_cons_of_mem _ (List.mem_append_right _ h)) (by decide +kernel))
set_option maxRecDepth 20000 in
theorem gX11_block_X11_mix : GoodIn wsX11_block (wsV RX11 276 RX11 yX11_mix wsX11_mix) := goodIn_app (goodIn_of _ (by decide +kernel)) ggX11_block_X11_mix
set_option maxRecDepth 20000 in
theorem ggX11_block_X11_substitute : GoodIn wsX11_block wsX11_substitute := goodIn_ca (goodIn_r _ [20, 13, 21, 1, 22, 23, 24, 25, 26, 27, 28, 29, 30, 31, 32, 33, 34, 35, 36, 37, 38, 39, 40, 41, 42, 43, 44, 45, 46, 47, 48, 49, 50, 51, 52, 53, 54, 55, 56, 57, 58, 59, 60, 61, 62, 63, 64, 65, 66, 67] (by decide +kernel) (by decide +kernel)) (goodIn_sub (fun _ h => List.mem_cons_of_mem _ (List.mem_append_right _ h)) (by decide +kernel))
set_option maxRecDepth 20000 in
theorem gX11_block_X11_substitute : GoodIn wsX11_block (wsV RX11 280 RX11 yX11_substitute wsX11_substitute) := goodIn_app (goodIn_of _ (by decide +kernel)) ggX11_block_X11_substitute
theorem dX11_block_0 : decode cX11_block 0 = .ok (.iconst 0, 1) := by decide +kernel
theorem dX11_block_1 : decode cX11_block 1 = .ok (.istore 4, 2) := by decide +kernel
theorem dX11_block_3 : decode cX11_block 3 = .ok (.iload 4, 2) := by decide +kernel
theorem dX11_block_5 : decode cX11_block 5 = .ok (.bipush 16, 2) := by decide +kernel
theorem dX11_block_7 : decode cX11_block 7 = .ok (.if_icmp .ge 22, 3) := by decide +kernel
theorem dX11_block_10 : decode cX11_block 10 = .ok (.aload_n 0, 1) := by decide +kernel
theorem dX11_block_11 : decode cX11_block 11 = .ok (.getfield 201, 3) := by decide +kernel
theorem dX11_block_14 : decode cX11_block 14 = .ok (.iload 4, 2) := by decide +kernel
theorem dX11_block_16 : decode cX11_block 16 = .ok (.aload_n 1, 1) := by decide +kernel
theorem dX11_block_17 : decode cX11_block 17 = .ok (.iload_n 2, 1) := by decide +kernel
theorem dX11_block_18 : decode cX11_block 18 = .ok (.iload 4, 2) := by decide +kernel
