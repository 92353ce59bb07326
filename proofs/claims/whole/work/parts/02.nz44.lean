theorem dX11_shut_133 : decode cX11_shut 133 = .ok (.aload_n 0, 1) := by decide +kernel
theorem dX11_shut_134 : decode cX11_shut 134 = .ok (.getfield 31, 3) := by decide +kernel
theorem dX11_shut_137 : decode cX11_shut 137 = .ok (.iload 7, 2) := by decide +kernel
theorem dX11_shut_139 : decode cX11_shut 139 = .ok (.bipush 16, 2) := by decide +kernel
theorem dX11_shut_141 : decode cX11_shut 141 = .ok (.isub, 1) := by decide +kernel
theorem dX11_shut_142 : decode cX11_shut 142 = .ok (.iaload, 1) := by decide +kernel
theorem dX11_shut_143 : decode cX11_shut 143 = .ok (.iastore, 1) := by decide +kernel
theorem dX11_shut_144 : decode cX11_shut 144 = .ok (.iinc 7 1, 3) := by decide +kernel
theorem dX11_shut_147 : decode cX11_shut 147 = .ok (.goto (-38), 3) := by decide +kernel
theorem dX11_shut_150 : decode cX11_shut 150 = .ok (.aload_n 0, 1) := by decide +kernel
theorem dX11_shut_151 : decode cX11_shut 151 = .ok (.iconst 2, 1) := by decide +kernel
theorem dX11_shut_152 : decode cX11_shut 152 = .ok (.iconst 0, 1) := by decide +kernel
theorem dX11_shut_153 : decode cX11_shut 153 = .ok (.invokevirtual 362, 3) := by decide +kernel
theorem dX11_shut_156 : decode cX11_shut 156 = .ok (.iconst 0, 1) := by decide +kernel
theorem dX11_shut_157 : decode cX11_shut 157 = .ok (.istore 7, 2) := by decide +kernel
theorem dX11_shut_159 : decode cX11_shut 159 = .ok (.iload 7, 2) := by decide +kernel
theorem dX11_shut_161 : decode cX11_shut 161 = .ok (.bipush 32, 2) := by decide +kernel
theorem dX11_shut_163 : decode cX11_shut 163 = .ok (.if_icmp .ge 32, 3) := by decide +kernel
theorem dX11_shut_166 : decode cX11_shut 166 = .ok (.aload_n 0, 1) := by decide +kernel
theorem dX11_shut_167 : decode cX11_shut 167 = .ok (.getfield 25, 3) := by decide +kernel
theorem dX11_shut_170 : decode cX11_shut 170 = .ok (.bipush 48, 2) := by decide +kernel
theorem dX11_shut_172 : decode cX11_shut 172 = .ok (.iload 4, 2) := by decide +kernel
theorem dX11_shut_174 : decode cX11_shut 174 = .ok (.imul, 1) := by decide +kernel
theorem dX11_shut_175 : decode cX11_shut 175 = .ok (.iload 7, 2) := by decide +kernel
theorem dX11_shut_177 : decode cX11_shut 177 = .ok (.iadd, 1) := by decide +kernel
theorem dX11_shut_178 : decode cX11_shut 178 = .ok (.aload_n 0, 1) := by decide +kernel
theorem dX11_shut_179 : decode cX11_shut 179 = .ok (.getfield 210, 3) := by decide +kernel
theorem dX11_shut_182 : decode cX11_shut 182 = .ok (.bipush 16, 2) := by decide +kernel
theorem dX11_shut_184 : decode cX11_shut 184 = .ok (.iload 7, 2) := by decide +kernel
theorem dX11_shut_186 : decode cX11_shut 186 = .ok (.iadd, 1) := by decide +kernel
theorem dX11_shut_187 : decode cX11_shut 187 = .ok (.iaload, 1) := by decide +kernel
theorem dX11_shut_188 : decode cX11_shut 188 = .ok (.iastore, 1) := by decide +kernel
theorem dX11_shut_189 : decode cX11_shut 189 = .ok (.iinc 7 1, 3) := by decide +kernel
theorem dX11_shut_192 : decode cX11_shut 192 = .ok (.goto (-33), 3) := by decide +kernel
theorem dX11_shut_195 : decode cX11_shut 195 = .ok (.return_, 1) := by decide +kernel
set_option maxRecDepth 20000 in
theorem ggX11_makeLate_X11_nextByte : GoodIn wsX11_makeLate wsX11_nextByte := goodIn_ca (goodIn_r _ [14, 15, 16, 101, 102, 103, 104, 105, 106, 107, 108, 109, 110, 111, 112, 113, 114, 115, 116, 117, 118, 119, 120, 121, 122, 123, 124, 125, 126, 127, 128, 129, 130, 131, 132, 133, 134, 135, 136, 137, 138, 139, 140, 141, 142, 143, 144, 145] (by decide +kernel) (by decide +kernel)) (goodIn_sub (fun _ h => List.mem_cons_of_mem _ (List.mem_append_right _ h)) (by decide +kernel))
set_option maxRecDepth 20000 in
theorem gX11_makeLate_X11_nextByte : GoodIn wsX11_makeLate (wsV RX11 352 RX11 yX11_nextByte wsX11_nextByte) := goodIn_app (goodIn_of _ (by decide +kernel)) ggX11_makeLate_X11_nextByte
set_option maxRecDepth 20000 in
theorem ggX11_makeLate_X11_shut : GoodIn wsX11_makeLate wsX11_shut := goodIn_ca (goodIn_r _ [20, 7, 21, 22, 2, 10, 11, 12, 13, 14, 15, 16, 23, 24, 25, 26, 27, 28, 29, 30, 31, 32, 33, 34, 35, 36, 37, 38, 39, 40, 41, 42, 43, 44, 45, 46, 47, 48, 49, 50, 51, 52, 53, 54, 55, 56, 57, 58, 59, 60, 61, 62, 63, 64, 65, 66, 67, 68, 69, 70, 71, 72, 73, 74, 75, 76, 77, 78, 79, 80, 81, 82, 83, 84, 85, 86, 87, 88, 89, 90, 91, 92, 93, 94, 95, 96, 97, 98, 99, 100, 101, 102, 103, 104, 105, 106, 107, 108, 109, 110, 111, 112, 113, 114, 115, 116, 117, 118, 119, 120, 121, 122, 123, 124, 125, 126, 127, 128, 129, 130, 131, 132, 133, 134, 135, 136, 137, 138, 139, 140, 141, 142, 143, 144, 145] rfl (by decide +kernel)) (goodIn_sub (fun _ h => List.mem_cons_of_mem _ (List.mem_append_right _ h)) (by decide +kernel))
set_option maxRecDepth 20000 in
theorem gX11_makeLate_X11_shut : GoodIn wsX11_makeLate (wsV RX11 365 RX11 yX11_shut wsX11_shut) := goodIn_app (goodIn_of _ (by decide +kernel)) ggX11_makeLate_X11_shut
set_option maxRecDepth 20000 in
theorem ggX11_makeLate_X11_setKey : GoodIn wsX11_makeLate wsX11_setKey := goodIn_ca (goodIn_r _ [71, 72, 73, 74, 75, 76, 13, 77, 101, 102, 103, 104, 105, 106, 107, 108, 109, 110, 111, 112, 113, 114, 115, 116, 117, 118, 119, 120, 121, 122, 123, 124, 125, 126, 127, 128, 129, 130, 131, 132, 133, 134, 135, 136, 137, 138, 139, 140, 141, 142, 143, 144, 145] (by decide +kernel) (by decide +kernel)) (goodIn_sub (fun _ h => List.mem_cons_of_mem _ (List.mem_append_right _ h)) (by decide +kernel))
set_option maxRecDepth 20000 in
theorem gX11_makeLate_X11_setKey : GoodIn wsX11_makeLate (wsV RX11 359 RX11 yX11_setKey wsX11_setKey) := goodIn_app (goodIn_of _ (by decide +kernel)) ggX11_makeLate_X11_setKey
set_option maxRecDepth 20000 in
theorem ggX11_makeLate_X11_block : GoodIn wsX11_makeLate wsX11_block := goodIn_ca (goodIn_r _ [85, 86, 72, 87, 88, 89, 13, 90, 73, 91, 92, 93, 94, 95, 75, 76, 77, 96, 97, 98, 99, 100, 74, 101, 102, 103, 104, 105, 106, 107, 108, 109, 110, 111, 112, 113, 114, 115, 116, 117, 118, 119, 120, 121, 122, 123, 124, 125, 126, 127, 128, 129, 130, 131, 132, 133, 134, 135, 136, 137, 138, 139, 140, 141, 142, 143, 144, 145] (by decide +kernel) (by decide +kernel)) (goodIn_sub (fun _ h => List.mem_cons_of_mem _ (List.mem_append_right _ h)) (by decide +kernel))
set_option maxRecDepth 20000 in
theorem gX11_makeLate_X11_block : GoodIn wsX11_makeLate (wsV RX11 284 RX11 yX11_block wsX11_block) := goodIn_app (goodIn_of _ (by decide +kernel)) ggX11_makeLate_X11_block
theorem dX11_makeLate_0 : decode cX11_makeLate 0 = .ok (.iconst 0, 1) := by decide +kernel
theorem dX11_makeLate_1 : decode cX11_makeLate 1 = .ok (.istore_n 1, 1) := by decide +kernel
theorem dX11_makeLate_2 : decode cX11_makeLate 2 = .ok (.iload_n 1, 1) := by decide +kernel
theorem dX11_makeLate_3 : decode cX11_makeLate 3 = .ok (.iconst 5, 1) := by decide +kernel
theorem dX11_makeLate_4 : decode cX11_makeLate 4 = .ok (.if_icmp .ge 37, 3) := by decide +kernel
theorem dX11_makeLate_7 : decode cX11_makeLate 7 = .ok (.aload_n 0, 1) := by decide +kernel
theorem dX11_makeLate_8 : decode cX11_makeLate 8 = .ok (.getfield 28, 3) := by decide +kernel
theorem dX11_makeLate_11 : decode cX11_makeLate 11 = .ok (.iload_n 1, 1) := by decide +kernel
theorem dX11_makeLate_12 : decode cX11_makeLate 12 = .ok (.iload_n 1, 1) := by decide +kernel
theorem dX11_makeLate_13 : decode cX11_makeLate 13 = .ok (.iconst 2, 1) := by decide +kernel
theorem dX11_makeLate_14 : decode cX11_makeLate 14 = .ok (.if_icmp .ge 8, 3) := by decide +kernel
theorem dX11_makeLate_17 : decode cX11_makeLate 17 = .ok (.bipush 48, 2) := by decide +kernel
theorem dX11_makeLate_19 : decode cX11_makeLate 19 = .ok (.goto 15, 3) := by decide +kernel
theorem dX11_makeLate_22 : decode cX11_makeLate 22 = .ok (.iload_n 1, 1) := by decide +kernel
theorem dX11_makeLate_23 : decode cX11_makeLate 23 = .ok (.iconst 4, 1) := by decide +kernel
theorem dX11_makeLate_24 : decode cX11_makeLate 24 = .ok (.if_icmp .ge 8, 3) := by decide +kernel
theorem dX11_makeLate_27 : decode cX11_makeLate 27 = .ok (.bipush 32, 2) := by decide +kernel
theorem dX11_makeLate_29 : decode cX11_makeLate 29 = .ok (.goto 5, 3) := by decide +kernel
theorem dX11_makeLate_32 : decode cX11_makeLate 32 = .ok (.bipush 16, 2) := by decide +kernel
theorem dX11_makeLate_34 : decode cX11_makeLate 34 = .ok (.iastore, 1) := by decide +kernel
theorem dX11_makeLate_35 : decode cX11_makeLate 35 = .ok (.iinc 1 1, 3) := by decide +kernel
theorem dX11_makeLate_38 : decode cX11_makeLate 38 = .ok (.goto (-36), 3) := by decide +kernel
theorem dX11_makeLate_41 : decode cX11_makeLate 41 = .ok (.iconst 0, 1) := by decide +kernel
theorem dX11_makeLate_42 : decode cX11_makeLate 42 = .ok (.istore_n 1, 1) := by decide +kernel
theorem dX11_makeLate_43 : decode cX11_makeLate 43 = .ok (.iload_n 1, 1) := by decide +kernel
theorem dX11_makeLate_44 : decode cX11_makeLate 44 = .ok (.bipush 32, 2) := by decide +kernel
theorem dX11_makeLate_46 : decode cX11_makeLate 46 = .ok (.if_icmp .ge 19, 3) := by decide +kernel
theorem dX11_makeLate_49 : decode cX11_makeLate 49 = .ok (.aload_n 0, 1) := by decide +kernel
theorem dX11_makeLate_50 : decode cX11_makeLate 50 = .ok (.getfield 31, 3) := by decide +kernel
theorem dX11_makeLate_53 : decode cX11_makeLate 53 = .ok (.iload_n 1, 1) := by decide +kernel
theorem dX11_makeLate_54 : decode cX11_makeLate 54 = .ok (.aload_n 0, 1) := by decide +kernel
theorem dX11_makeLate_55 : decode cX11_makeLate 55 = .ok (.invokevirtual 352, 3) := by decide +kernel
theorem dX11_makeLate_58 : decode cX11_makeLate 58 = .ok (.iastore, 1) := by decide +kernel
theorem dX11_makeLate_59 : decode cX11_makeLate 59 = .ok (.iinc 1 1, 3) := by decide +kernel
theorem dX11_makeLate_62 : decode cX11_makeLate 62 = .ok (.goto (-19), 3) := by decide +kernel
theorem dX11_makeLate_65 : decode cX11_makeLate 65 = .ok (.aload_n 0, 1) := by decide +kernel
theorem dX11_makeLate_66 : decode cX11_makeLate 66 = .ok (.aload_n 0, 1) := by decide +kernel
theorem dX11_makeLate_67 : decode cX11_makeLate 67 = .ok (.getfield 7, 3) := by decide +kernel
theorem dX11_makeLate_70 : decode cX11_makeLate 70 = .ok (.aload_n 0, 1) := by decide +kernel
theorem dX11_makeLate_71 : decode cX11_makeLate 71 = .ok (.getfield 323, 3) := by decide +kernel
theorem dX11_makeLate_74 : decode cX11_makeLate 74 = .ok (.iconst 1, 1) := by decide +kernel
theorem dX11_makeLate_75 : decode cX11_makeLate 75 = .ok (.iconst 3, 1) := by decide +kernel
theorem dX11_makeLate_76 : decode cX11_makeLate 76 = .ok (.iconst 0, 1) := by decide +kernel
theorem dX11_makeLate_77 : decode cX11_makeLate 77 = .ok (.invokevirtual 365, 3) := by decide +kernel
theorem dX11_makeLate_80 : decode cX11_makeLate 80 = .ok (.aload_n 0, 1) := by decide +kernel
theorem dX11_makeLate_81 : decode cX11_makeLate 81 = .ok (.aload_n 0, 1) := by decide +kernel
theorem dX11_makeLate_82 : decode cX11_makeLate 82 = .ok (.getfield 13, 3) := by decide +kernel
theorem dX11_makeLate_85 : decode cX11_makeLate 85 = .ok (.aload_n 0, 1) := by decide +kernel
theorem dX11_makeLate_86 : decode cX11_makeLate 86 = .ok (.getfield 320, 3) := by decide +kernel
theorem dX11_makeLate_89 : decode cX11_makeLate 89 = .ok (.iconst 0, 1) := by decide +kernel
theorem dX11_makeLate_90 : decode cX11_makeLate 90 = .ok (.iconst 2, 1) := by decide +kernel
theorem dX11_makeLate_91 : decode cX11_makeLate 91 = .ok (.iconst 1, 1) := by decide +kernel
theorem dX11_makeLate_92 : decode cX11_makeLate 92 = .ok (.invokevirtual 365, 3) := by decide +kernel
theorem dX11_makeLate_95 : decode cX11_makeLate 95 = .ok (.sipush 192, 3) := by decide +kernel
theorem dX11_makeLate_98 : decode cX11_makeLate 98 = .ok (.istore_n 1, 1) := by decide +kernel
theorem dX11_makeLate_99 : decode cX11_makeLate 99 = .ok (.iconst 0, 1) := by decide +kernel
theorem dX11_makeLate_100 : decode cX11_makeLate 100 = .ok (.istore_n 2, 1) := by decide +kernel
theorem dX11_makeLate_101 : decode cX11_makeLate 101 = .ok (.iload_n 2, 1) := by decide +kernel
theorem dX11_makeLate_102 : decode cX11_makeLate 102 = .ok (.iconst 4, 1) := by decide +kernel
theorem dX11_makeLate_103 : decode cX11_makeLate 103 = .ok (.if_icmp .ge 43, 3) := by decide +kernel
theorem dX11_makeLate_106 : decode cX11_makeLate 106 = .ok (.aload_n 0, 1) := by decide +kernel
theorem dX11_makeLate_107 : decode cX11_makeLate 107 = .ok (.getfield 25, 3) := by decide +kernel
theorem dX11_makeLate_110 : decode cX11_makeLate 110 = .ok (.iload_n 1, 1) := by decide +kernel
theorem dX11_makeLate_111 : decode cX11_makeLate 111 = .ok (.iload_n 2, 1) := by decide +kernel
theorem dX11_makeLate_112 : decode cX11_makeLate 112 = .ok (.iadd, 1) := by decide +kernel
theorem dX11_makeLate_113 : decode cX11_makeLate 113 = .ok (.aload_n 0, 1) := by decide +kernel
theorem dX11_makeLate_114 : decode cX11_makeLate 114 = .ok (.getfield 302, 3) := by decide +kernel
theorem dX11_makeLate_117 : decode cX11_makeLate 117 = .ok (.bipush 8, 2) := by decide +kernel
theorem dX11_makeLate_119 : decode cX11_makeLate 119 = .ok (.iload_n 2, 1) := by decide +kernel
theorem dX11_makeLate_120 : decode cX11_makeLate 120 = .ok (.imul, 1) := by decide +kernel
theorem dX11_makeLate_121 : decode cX11_makeLate 121 = .ok (.ishr, 1) := by decide +kernel
theorem dX11_makeLate_122 : decode cX11_makeLate 122 = .ok (.sipush 255, 3) := by decide +kernel
theorem dX11_makeLate_125 : decode cX11_makeLate 125 = .ok (.iand, 1) := by decide +kernel
theorem dX11_makeLate_126 : decode cX11_makeLate 126 = .ok (.iastore, 1) := by decide +kernel
theorem dX11_makeLate_127 : decode cX11_makeLate 127 = .ok (.aload_n 0, 1) := by decide +kernel
theorem dX11_makeLate_128 : decode cX11_makeLate 128 = .ok (.getfield 25, 3) := by decide +kernel
theorem dX11_makeLate_131 : decode cX11_makeLate 131 = .ok (.iload_n 1, 1) := by decide +kernel
theorem dX11_makeLate_132 : decode cX11_makeLate 132 = .ok (.iconst 4, 1) := by decide +kernel
theorem dX11_makeLate_133 : decode cX11_makeLate 133 = .ok (.iadd, 1) := by decide +kernel
theorem dX11_makeLate_134 : decode cX11_makeLate 134 = .ok (.iload_n 2, 1) := by decide +kernel
theorem dX11_makeLate_135 : decode cX11_makeLate 135 = .ok (.iadd, 1) := by decide +kernel
theorem dX11_makeLate_136 : decode cX11_makeLate 136 = .ok (.sipush 255, 3) := by decide +kernel
theorem dX11_makeLate_139 : decode cX11_makeLate 139 = .ok (.iastore, 1) := by decide +kernel
theorem dX11_makeLate_140 : decode cX11_makeLate 140 = .ok (.iinc 2 1, 3) := by decide +kernel
theorem dX11_makeLate_143 : decode cX11_makeLate 143 = .ok (.goto (-42), 3) := by decide +kernel
theorem dX11_makeLate_146 : decode cX11_makeLate 146 = .ok (.aload_n 0, 1) := by decide +kernel
theorem dX11_makeLate_147 : decode cX11_makeLate 147 = .ok (.getfield 25, 3) := by decide +kernel
theorem dX11_makeLate_150 : decode cX11_makeLate 150 = .ok (.iload_n 1, 1) := by decide +kernel
theorem dX11_makeLate_151 : decode cX11_makeLate 151 = .ok (.bipush 8, 2) := by decide +kernel
theorem dX11_makeLate_153 : decode cX11_makeLate 153 = .ok (.iadd, 1) := by decide +kernel
theorem dX11_makeLate_154 : decode cX11_makeLate 154 = .ok (.aload_n 0, 1) := by decide +kernel
theorem dX11_makeLate_155 : decode cX11_makeLate 155 = .ok (.getfield 312, 3) := by decide +kernel
theorem dX11_makeLate_158 : decode cX11_makeLate 158 = .ok (.ifCond .eq 8, 3) := by decide +kernel
theorem dX11_makeLate_161 : decode cX11_makeLate 161 = .ok (.bipush 70, 2) := by decide +kernel
theorem dX11_makeLate_163 : decode cX11_makeLate 163 = .ok (.goto 5, 3) := by decide +kernel
theorem dX11_makeLate_166 : decode cX11_makeLate 166 = .ok (.bipush 84, 2) := by decide +kernel
theorem dX11_makeLate_168 : decode cX11_makeLate 168 = .ok (.iastore, 1) := by decide +kernel
theorem dX11_makeLate_169 : decode cX11_makeLate 169 = .ok (.aload_n 0, 1) := by decide +kernel
theorem dX11_makeLate_170 : decode cX11_makeLate 170 = .ok (.getfield 25, 3) := by decide +kernel
theorem dX11_makeLate_173 : decode cX11_makeLate 173 = .ok (.iload_n 1, 1) := by decide +kernel
theorem dX11_makeLate_174 : decode cX11_makeLate 174 = .ok (.bipush 9, 2) := by decide +kernel
theorem dX11_makeLate_176 : decode cX11_makeLate 176 = .ok (.iadd, 1) := by decide +kernel
theorem dX11_makeLate_177 : decode cX11_makeLate 177 = .ok (.bipush 97, 2) := by decide +kernel
theorem dX11_makeLate_179 : decode cX11_makeLate 179 = .ok (.iastore, 1) := by decide +kernel
theorem dX11_makeLate_180 : decode cX11_makeLate 180 = .ok (.aload_n 0, 1) := by decide +kernel
theorem dX11_makeLate_181 : decode cX11_makeLate 181 = .ok (.getfield 25, 3) := by decide +kernel
theorem dX11_makeLate_184 : decode cX11_makeLate 184 = .ok (.iload_n 1, 1) := by decide +kernel
theorem dX11_makeLate_185 : decode cX11_makeLate 185 = .ok (.bipush 10, 2) := by decide +kernel
theorem dX11_makeLate_187 : decode cX11_makeLate 187 = .ok (.iadd, 1) := by decide +kernel
theorem dX11_makeLate_188 : decode cX11_makeLate 188 = .ok (.bipush 100, 2) := by decide +kernel
theorem dX11_makeLate_190 : decode cX11_makeLate 190 = .ok (.iastore, 1) := by decide +kernel
theorem dX11_makeLate_191 : decode cX11_makeLate 191 = .ok (.aload_n 0, 1) := by decide +kernel
theorem dX11_makeLate_192 : decode cX11_makeLate 192 = .ok (.getfield 25, 3) := by decide +kernel
theorem dX11_makeLate_195 : decode cX11_makeLate 195 = .ok (.iload_n 1, 1) := by decide +kernel
theorem dX11_makeLate_196 : decode cX11_makeLate 196 = .ok (.bipush 11, 2) := by decide +kernel
theorem dX11_makeLate_198 : decode cX11_makeLate 198 = .ok (.iadd, 1) := by decide +kernel
theorem dX11_makeLate_199 : decode cX11_makeLate 199 = .ok (.bipush 98, 2) := by decide +kernel
theorem dX11_makeLate_201 : decode cX11_makeLate 201 = .ok (.iastore, 1) := by decide +kernel
theorem dX11_makeLate_202 : decode cX11_makeLate 202 = .ok (.bipush 12, 2) := by decide +kernel
theorem dX11_makeLate_204 : decode cX11_makeLate 204 = .ok (.istore_n 2, 1) := by decide +kernel
theorem dX11_makeLate_205 : decode cX11_makeLate 205 = .ok (.iload_n 2, 1) := by decide +kernel
theorem dX11_makeLate_206 : decode cX11_makeLate 206 = .ok (.bipush 16, 2) := by decide +kernel
theorem dX11_makeLate_208 : decode cX11_makeLate 208 = .ok (.if_icmp .ge 21, 3) := by decide +kernel
theorem dX11_makeLate_211 : decode cX11_makeLate 211 = .ok (.aload_n 0, 1) := by decide +kernel
theorem dX11_makeLate_212 : decode cX11_makeLate 212 = .ok (.getfield 25, 3) := by decide +kernel
theorem dX11_makeLate_215 : decode cX11_makeLate 215 = .ok (.iload_n 1, 1) := by decide +kernel
theorem dX11_makeLate_216 : decode cX11_makeLate 216 = .ok (.iload_n 2, 1) := by decide +kernel
theorem dX11_makeLate_217 : decode cX11_makeLate 217 = .ok (.iadd, 1) := by decide +kernel
theorem dX11_makeLate_218 : decode cX11_makeLate 218 = .ok (.aload_n 0, 1) := by decide +kernel
theorem dX11_makeLate_219 : decode cX11_makeLate 219 = .ok (.invokevirtual 352, 3) := by decide +kernel
theorem dX11_makeLate_222 : decode cX11_makeLate 222 = .ok (.iastore, 1) := by decide +kernel
theorem dX11_makeLate_223 : decode cX11_makeLate 223 = .ok (.iinc 2 1, 3) := by decide +kernel
theorem dX11_makeLate_226 : decode cX11_makeLate 226 = .ok (.goto (-21), 3) := by decide +kernel
theorem dX11_makeLate_229 : decode cX11_makeLate 229 = .ok (.aload_n 0, 1) := by decide +kernel
theorem dX11_makeLate_230 : decode cX11_makeLate 230 = .ok (.aload_n 0, 1) := by decide +kernel
theorem dX11_makeLate_231 : decode cX11_makeLate 231 = .ok (.getfield 31, 3) := by decide +kernel
theorem dX11_makeLate_234 : decode cX11_makeLate 234 = .ok (.bipush 32, 2) := by decide +kernel
theorem dX11_makeLate_236 : decode cX11_makeLate 236 = .ok (.invokevirtual 359, 3) := by decide +kernel
theorem dX11_makeLate_239 : decode cX11_makeLate 239 = .ok (.aload_n 0, 1) := by decide +kernel
theorem dX11_makeLate_240 : decode cX11_makeLate 240 = .ok (.aload_n 0, 1) := by decide +kernel
theorem dX11_makeLate_241 : decode cX11_makeLate 241 = .ok (.getfield 25, 3) := by decide +kernel
theorem dX11_makeLate_244 : decode cX11_makeLate 244 = .ok (.iload_n 1, 1) := by decide +kernel
theorem dX11_makeLate_245 : decode cX11_makeLate 245 = .ok (.iconst 0, 1) := by decide +kernel
theorem dX11_makeLate_246 : decode cX11_makeLate 246 = .ok (.invokevirtual 284, 3) := by decide +kernel
theorem dX11_makeLate_249 : decode cX11_makeLate 249 = .ok (.iconst 5, 1) := by decide +kernel
theorem dX11_makeLate_250 : decode cX11_makeLate 250 = .ok (.ireturn, 1) := by decide +kernel
set_option maxRecDepth 20000 in
theorem ggX11_opensLate_X11_hashWord : GoodIn wsX11_opensLate wsX11_hashWord := goodIn_ca (goodIn_r _ [11, 12, 4, 13, 14, 15, 10, 16, 17, 18, 19, 20, 21, 22, 23, 24, 25, 26, 27, 28, 29, 30, 31, 32, 33, 34, 35, 36, 37, 38, 39, 40, 41, 42, 43, 44, 45, 46, 47, 48, 49, 50, 51, 52, 3, 86, 87, 88, 89, 90, 91, 92, 93, 94, 95, 96, 97, 98, 99, 100, 101, 102, 103, 104, 105, 106, 107, 108, 109, 110, 111, 112, 113, 114, 115, 116, 117, 118, 119, 120, 121, 122, 123, 124, 125, 126, 127, 128, 129, 130] (by decide +kernel) (by decide +kernel)) (goodIn_sub (fun _ h => List.mem_cons_of_mem _ (List.mem_append_right _ h)) (by decide +kernel))
set_option maxRecDepth 20000 in
theorem gX11_opensLate_X11_hashWord : GoodIn wsX11_opensLate (wsV RX11 355 RX11 yX11_hashWord wsX11_hashWord) := goodIn_app (goodIn_of _ (by decide +kernel)) ggX11_opensLate_X11_hashWord
set_option maxRecDepth 20000 in
theorem ggX11_opensLate_X11_setKey : GoodIn wsX11_opensLate wsX11_setKey := goodIn_ca (goodIn_r _ [56, 57, 58, 59, 60, 61, 10, 62, 86, 87, 88, 89, 90, 91, 92, 93, 94, 95, 96, 97, 98, 99, 100, 101, 102, 103, 104, 105, 106, 107, 108, 109, 110, 111, 112, 113, 114, 115, 116, 117, 118, 119, 120, 121, 122, 123, 124, 125, 126, 127, 128, 129, 130] (by decide +kernel) (by decide +kernel)) (goodIn_sub (fun _ h => List.mem_cons_of_mem _ (List.mem_append_right _ h)) (by decide +kernel))
set_option maxRecDepth 20000 in
theorem gX11_opensLate_X11_setKey : GoodIn wsX11_opensLate (wsV RX11 359 RX11 yX11_setKey wsX11_setKey) := goodIn_app (goodIn_of _ (by decide +kernel)) ggX11_opensLate_X11_setKey
set_option maxRecDepth 20000 in
theorem ggX11_opensLate_X11_chain : GoodIn wsX11_opensLate wsX11_chain := goodIn_ca (goodIn_r _ [66, 5, 67, 68, 69, 10, 70, 71, 57, 72, 73, 74, 75, 58, 76, 77, 78, 79, 80, 60, 61, 62, 81, 82, 83, 84, 85, 59, 86, 87, 88, 89, 90, 91, 92, 93, 94, 95, 96, 97, 98, 99, 100, 101, 102, 103, 104, 105, 106, 107, 108, 109, 110, 111, 112, 113, 114, 115, 116, 117, 118, 119, 120, 121, 122, 123, 124, 125, 126, 127, 128, 129, 130] (by decide +kernel) (by decide +kernel)) (goodIn_sub (fun _ h => List.mem_cons_of_mem _ (List.mem_append_right _ h)) (by decide +kernel))
set_option maxRecDepth 20000 in
theorem gX11_opensLate_X11_chain : GoodIn wsX11_opensLate (wsV RX11 362 RX11 yX11_chain wsX11_chain) := goodIn_app (goodIn_of _ (by decide +kernel)) ggX11_opensLate_X11_chain
theorem dX11_opensLate_0 : decode cX11_opensLate 0 = .ok (.bipush 48, 2) := by decide +kernel
theorem dX11_opensLate_2 : decode cX11_opensLate 2 = .ok (.iload_n 1, 1) := by decide +kernel
theorem dX11_opensLate_3 : decode cX11_opensLate 3 = .ok (.imul, 1) := by decide +kernel
theorem dX11_opensLate_4 : decode cX11_opensLate 4 = .ok (.istore 4, 2) := by decide +kernel
theorem dX11_opensLate_6 : decode cX11_opensLate 6 = .ok (.aload_n 0, 1) := by decide +kernel
theorem dX11_opensLate_7 : decode cX11_opensLate 7 = .ok (.aload_n 0, 1) := by decide +kernel
theorem dX11_opensLate_8 : decode cX11_opensLate 8 = .ok (.getfield 16, 3) := by decide +kernel
theorem dX11_opensLate_11 : decode cX11_opensLate 11 = .ok (.aload_n 0, 1) := by decide +kernel
theorem dX11_opensLate_12 : decode cX11_opensLate 12 = .ok (.getfield 339, 3) := by decide +kernel
theorem dX11_opensLate_15 : decode cX11_opensLate 15 = .ok (.iload 4, 2) := by decide +kernel
theorem dX11_opensLate_17 : decode cX11_opensLate 17 = .ok (.bipush 32, 2) := by decide +kernel
theorem dX11_opensLate_19 : decode cX11_opensLate 19 = .ok (.iadd, 1) := by decide +kernel
theorem dX11_opensLate_20 : decode cX11_opensLate 20 = .ok (.iload_n 3, 1) := by decide +kernel
theorem dX11_opensLate_21 : decode cX11_opensLate 21 = .ok (.invokevirtual 355, 3) := by decide +kernel
theorem dX11_opensLate_24 : decode cX11_opensLate 24 = .ok (.iconst 0, 1) := by decide +kernel
theorem dX11_opensLate_25 : decode cX11_opensLate 25 = .ok (.istore 5, 2) := by decide +kernel
theorem dX11_opensLate_27 : decode cX11_opensLate 27 = .ok (.iload 5, 2) := by decide +kernel
theorem dX11_opensLate_29 : decode cX11_opensLate 29 = .ok (.bipush 32, 2) := by decide +kernel
theorem dX11_opensLate_31 : decode cX11_opensLate 31 = .ok (.if_icmp .ge 31, 3) := by decide +kernel
theorem dX11_opensLate_34 : decode cX11_opensLate 34 = .ok (.aload_n 0, 1) := by decide +kernel
theorem dX11_opensLate_35 : decode cX11_opensLate 35 = .ok (.getfield 43, 3) := by decide +kernel
theorem dX11_opensLate_38 : decode cX11_opensLate 38 = .ok (.iload 5, 2) := by decide +kernel
theorem dX11_opensLate_40 : decode cX11_opensLate 40 = .ok (.iaload, 1) := by decide +kernel
theorem dX11_opensLate_41 : decode cX11_opensLate 41 = .ok (.aload_n 0, 1) := by decide +kernel
theorem dX11_opensLate_42 : decode cX11_opensLate 42 = .ok (.getfield 25, 3) := by decide +kernel
theorem dX11_opensLate_45 : decode cX11_opensLate 45 = .ok (.iload 4, 2) := by decide +kernel
theorem dX11_opensLate_47 : decode cX11_opensLate 47 = .ok (.iload 5, 2) := by decide +kernel
theorem dX11_opensLate_49 : decode cX11_opensLate 49 = .ok (.iadd, 1) := by decide +kernel
theorem dX11_opensLate_50 : decode cX11_opensLate 50 = .ok (.iaload, 1) := by decide +kernel
theorem dX11_opensLate_51 : decode cX11_opensLate 51 = .ok (.if_icmp .eq 5, 3) := by decide +kernel
theorem dX11_opensLate_54 : decode cX11_opensLate 54 = .ok (.iconst 0, 1) := by decide +kernel
theorem dX11_opensLate_55 : decode cX11_opensLate 55 = .ok (.ireturn, 1) := by decide +kernel
theorem dX11_opensLate_56 : decode cX11_opensLate 56 = .ok (.iinc 5 1, 3) := by decide +kernel
theorem dX11_opensLate_59 : decode cX11_opensLate 59 = .ok (.goto (-32), 3) := by decide +kernel
theorem dX11_opensLate_62 : decode cX11_opensLate 62 = .ok (.aload_n 0, 1) := by decide +kernel
theorem dX11_opensLate_63 : decode cX11_opensLate 63 = .ok (.aload_n 0, 1) := by decide +kernel
theorem dX11_opensLate_64 : decode cX11_opensLate 64 = .ok (.getfield 16, 3) := by decide +kernel
theorem dX11_opensLate_67 : decode cX11_opensLate 67 = .ok (.aload_n 0, 1) := by decide +kernel
theorem dX11_opensLate_68 : decode cX11_opensLate 68 = .ok (.getfield 339, 3) := by decide +kernel
theorem dX11_opensLate_71 : decode cX11_opensLate 71 = .ok (.iload 4, 2) := by decide +kernel
theorem dX11_opensLate_73 : decode cX11_opensLate 73 = .ok (.bipush 40, 2) := by decide +kernel
theorem dX11_opensLate_75 : decode cX11_opensLate 75 = .ok (.iadd, 1) := by decide +kernel
theorem dX11_opensLate_76 : decode cX11_opensLate 76 = .ok (.iload_n 3, 1) := by decide +kernel
theorem dX11_opensLate_77 : decode cX11_opensLate 77 = .ok (.invokevirtual 355, 3) := by decide +kernel
theorem dX11_opensLate_80 : decode cX11_opensLate 80 = .ok (.aload_n 0, 1) := by decide +kernel
theorem dX11_opensLate_81 : decode cX11_opensLate 81 = .ok (.aload_n 0, 1) := by decide +kernel
theorem dX11_opensLate_82 : decode cX11_opensLate 82 = .ok (.getfield 43, 3) := by decide +kernel
theorem dX11_opensLate_85 : decode cX11_opensLate 85 = .ok (.bipush 32, 2) := by decide +kernel
theorem dX11_opensLate_87 : decode cX11_opensLate 87 = .ok (.invokevirtual 359, 3) := by decide +kernel
theorem dX11_opensLate_90 : decode cX11_opensLate 90 = .ok (.iconst 0, 1) := by decide +kernel
theorem dX11_opensLate_91 : decode cX11_opensLate 91 = .ok (.istore 5, 2) := by decide +kernel
theorem dX11_opensLate_93 : decode cX11_opensLate 93 = .ok (.iload 5, 2) := by decide +kernel
theorem dX11_opensLate_95 : decode cX11_opensLate 95 = .ok (.bipush 48, 2) := by decide +kernel
theorem dX11_opensLate_97 : decode cX11_opensLate 97 = .ok (.if_icmp .ge 42, 3) := by decide +kernel
theorem dX11_opensLate_100 : decode cX11_opensLate 100 = .ok (.aload_n 0, 1) := by decide +kernel
theorem dX11_opensLate_101 : decode cX11_opensLate 101 = .ok (.getfield 210, 3) := by decide +kernel
theorem dX11_opensLate_104 : decode cX11_opensLate 104 = .ok (.iload 5, 2) := by decide +kernel
theorem dX11_opensLate_106 : decode cX11_opensLate 106 = .ok (.iload 5, 2) := by decide +kernel
theorem dX11_opensLate_108 : decode cX11_opensLate 108 = .ok (.bipush 16, 2) := by decide +kernel
theorem dX11_opensLate_110 : decode cX11_opensLate 110 = .ok (.if_icmp .ge 7, 3) := by decide +kernel
theorem dX11_opensLate_113 : decode cX11_opensLate 113 = .ok (.iconst 0, 1) := by decide +kernel
theorem dX11_opensLate_114 : decode cX11_opensLate 114 = .ok (.goto 18, 3) := by decide +kernel
theorem dX11_opensLate_117 : decode cX11_opensLate 117 = .ok (.aload_n 0, 1) := by decide +kernel
theorem dX11_opensLate_118 : decode cX11_opensLate 118 = .ok (.getfield 25, 3) := by decide +kernel
theorem dX11_opensLate_121 : decode cX11_opensLate 121 = .ok (.bipush 48, 2) := by decide +kernel
theorem dX11_opensLate_123 : decode cX11_opensLate 123 = .ok (.iload_n 2, 1) := by decide +kernel
theorem dX11_opensLate_124 : decode cX11_opensLate 124 = .ok (.imul, 1) := by decide +kernel
theorem dX11_opensLate_125 : decode cX11_opensLate 125 = .ok (.iload 5, 2) := by decide +kernel
theorem dX11_opensLate_127 : decode cX11_opensLate 127 = .ok (.iadd, 1) := by decide +kernel
theorem dX11_opensLate_128 : decode cX11_opensLate 128 = .ok (.bipush 16, 2) := by decide +kernel
theorem dX11_opensLate_130 : decode cX11_opensLate 130 = .ok (.isub, 1) := by decide +kernel
theorem dX11_opensLate_131 : decode cX11_opensLate 131 = .ok (.iaload, 1) := by decide +kernel
theorem dX11_opensLate_132 : decode cX11_opensLate 132 = .ok (.iastore, 1) := by decide +kernel
theorem dX11_opensLate_133 : decode cX11_opensLate 133 = .ok (.iinc 5 1, 3) := by decide +kernel
theorem dX11_opensLate_136 : decode cX11_opensLate 136 = .ok (.goto (-43), 3) := by decide +kernel
theorem dX11_opensLate_139 : decode cX11_opensLate 139 = .ok (.aload_n 0, 1) := by decide +kernel
theorem dX11_opensLate_140 : decode cX11_opensLate 140 = .ok (.iconst 2, 1) := by decide +kernel
theorem dX11_opensLate_141 : decode cX11_opensLate 141 = .ok (.iconst 1, 1) := by decide +kernel
theorem dX11_opensLate_142 : decode cX11_opensLate 142 = .ok (.invokevirtual 362, 3) := by decide +kernel
theorem dX11_opensLate_145 : decode cX11_opensLate 145 = .ok (.iconst 0, 1) := by decide +kernel
theorem dX11_opensLate_146 : decode cX11_opensLate 146 = .ok (.istore 5, 2) := by decide +kernel
theorem dX11_opensLate_148 : decode cX11_opensLate 148 = .ok (.iload 5, 2) := by decide +kernel
theorem dX11_opensLate_150 : decode cX11_opensLate 150 = .ok (.bipush 32, 2) := by decide +kernel
theorem dX11_opensLate_152 : decode cX11_opensLate 152 = .ok (.if_icmp .ge 26, 3) := by decide +kernel
theorem dX11_opensLate_155 : decode cX11_opensLate 155 = .ok (.aload_n 0, 1) := by decide +kernel
theorem dX11_opensLate_156 : decode cX11_opensLate 156 = .ok (.getfield 31, 3) := by decide +kernel
theorem dX11_opensLate_159 : decode cX11_opensLate 159 = .ok (.iload 5, 2) := by decide +kernel
theorem dX11_opensLate_161 : decode cX11_opensLate 161 = .ok (.aload_n 0, 1) := by decide +kernel
theorem dX11_opensLate_162 : decode cX11_opensLate 162 = .ok (.getfield 210, 3) := by decide +kernel
theorem dX11_opensLate_165 : decode cX11_opensLate 165 = .ok (.bipush 16, 2) := by decide +kernel
theorem dX11_opensLate_167 : decode cX11_opensLate 167 = .ok (.iload 5, 2) := by decide +kernel
theorem dX11_opensLate_169 : decode cX11_opensLate 169 = .ok (.iadd, 1) := by decide +kernel
theorem dX11_opensLate_170 : decode cX11_opensLate 170 = .ok (.iaload, 1) := by decide +kernel
theorem dX11_opensLate_171 : decode cX11_opensLate 171 = .ok (.iastore, 1) := by decide +kernel
theorem dX11_opensLate_172 : decode cX11_opensLate 172 = .ok (.iinc 5 1, 3) := by decide +kernel
theorem dX11_opensLate_175 : decode cX11_opensLate 175 = .ok (.goto (-27), 3) := by decide +kernel
theorem dX11_opensLate_178 : decode cX11_opensLate 178 = .ok (.iconst 1, 1) := by decide +kernel
theorem dX11_opensLate_179 : decode cX11_opensLate 179 = .ok (.ireturn, 1) := by decide +kernel
theorem dX11_word_0 : decode cX11_word 0 = .ok (.iload_n 2, 1) := by decide +kernel
theorem dX11_word_1 : decode cX11_word 1 = .ok (.ifCond .eq 10, 3) := by decide +kernel
theorem dX11_word_4 : decode cX11_word 4 = .ok (.aload_n 0, 1) := by decide +kernel
theorem dX11_word_5 : decode cX11_word 5 = .ok (.getfield 320, 3) := by decide +kernel
theorem dX11_word_8 : decode cX11_word 8 = .ok (.goto 7, 3) := by decide +kernel
theorem dX11_word_11 : decode cX11_word 11 = .ok (.aload_n 0, 1) := by decide +kernel
theorem dX11_word_12 : decode cX11_word 12 = .ok (.getfield 323, 3) := by decide +kernel
theorem dX11_word_15 : decode cX11_word 15 = .ok (.istore_n 3, 1) := by decide +kernel
theorem dX11_word_16 : decode cX11_word 16 = .ok (.aload_n 0, 1) := by decide +kernel
theorem dX11_word_17 : decode cX11_word 17 = .ok (.iload_n 3, 1) := by decide +kernel
theorem dX11_word_18 : decode cX11_word 18 = .ok (.bipush 127, 2) := by decide +kernel
theorem dX11_word_20 : decode cX11_word 20 = .ok (.if_icmp .ne 7, 3) := by decide +kernel
theorem dX11_word_23 : decode cX11_word 23 = .ok (.iconst 1, 1) := by decide +kernel
theorem dX11_word_24 : decode cX11_word 24 = .ok (.goto 4, 3) := by decide +kernel
theorem dX11_word_27 : decode cX11_word 27 = .ok (.iconst 0, 1) := by decide +kernel
theorem dX11_word_28 : decode cX11_word 28 = .ok (.putfield 230, 3) := by decide +kernel
theorem dX11_word_31 : decode cX11_word 31 = .ok (.aload_n 0, 1) := by decide +kernel
theorem dX11_word_32 : decode cX11_word 32 = .ok (.getfield 230, 3) := by decide +kernel
theorem dX11_word_35 : decode cX11_word 35 = .ok (.ifCond .le 5, 3) := by decide +kernel
theorem dX11_word_38 : decode cX11_word 38 = .ok (.iconst 0, 1) := by decide +kernel
theorem dX11_word_39 : decode cX11_word 39 = .ok (.ireturn, 1) := by decide +kernel
theorem dX11_word_40 : decode cX11_word 40 = .ok (.iload_n 2, 1) := by decide +kernel
theorem dX11_word_41 : decode cX11_word 41 = .ok (.ifCond .eq 30, 3) := by decide +kernel
theorem dX11_word_44 : decode cX11_word 44 = .ok (.aload_n 0, 1) := by decide +kernel
theorem dX11_word_45 : decode cX11_word 45 = .ok (.getfield 13, 3) := by decide +kernel
theorem dX11_word_48 : decode cX11_word 48 = .ok (.aload_n 0, 1) := by decide +kernel
theorem dX11_word_49 : decode cX11_word 49 = .ok (.getfield 320, 3) := by decide +kernel
theorem dX11_word_52 : decode cX11_word 52 = .ok (.iload_n 1, 1) := by decide +kernel
theorem dX11_word_53 : decode cX11_word 53 = .ok (.sipush 255, 3) := by decide +kernel
theorem dX11_word_56 : decode cX11_word 56 = .ok (.iand, 1) := by decide +kernel
theorem dX11_word_57 : decode cX11_word 57 = .ok (.iastore, 1) := by decide +kernel
theorem dX11_word_58 : decode cX11_word 58 = .ok (.aload_n 0, 1) := by decide +kernel
theorem dX11_word_59 : decode cX11_word 59 = .ok (.dup, 1) := by decide +kernel
theorem dX11_word_60 : decode cX11_word 60 = .ok (.getfield 320, 3) := by decide +kernel
theorem dX11_word_63 : decode cX11_word 63 = .ok (.iconst 1, 1) := by decide +kernel
theorem dX11_word_64 : decode cX11_word 64 = .ok (.iadd, 1) := by decide +kernel
theorem dX11_word_65 : decode cX11_word 65 = .ok (.putfield 320, 3) := by decide +kernel
theorem dX11_word_68 : decode cX11_word 68 = .ok (.goto 27, 3) := by decide +kernel
theorem dX11_word_71 : decode cX11_word 71 = .ok (.aload_n 0, 1) := by decide +kernel
theorem dX11_word_72 : decode cX11_word 72 = .ok (.getfield 7, 3) := by decide +kernel
theorem dX11_word_75 : decode cX11_word 75 = .ok (.aload_n 0, 1) := by decide +kernel
theorem dX11_word_76 : decode cX11_word 76 = .ok (.getfield 323, 3) := by decide +kernel
theorem dX11_word_79 : decode cX11_word 79 = .ok (.iload_n 1, 1) := by decide +kernel
theorem dX11_word_80 : decode cX11_word 80 = .ok (.sipush 255, 3) := by decide +kernel
theorem dX11_word_83 : decode cX11_word 83 = .ok (.iand, 1) := by decide +kernel
theorem dX11_word_84 : decode cX11_word 84 = .ok (.iastore, 1) := by decide +kernel
theorem dX11_word_85 : decode cX11_word 85 = .ok (.aload_n 0, 1) := by decide +kernel
theorem dX11_word_86 : decode cX11_word 86 = .ok (.dup, 1) := by decide +kernel
theorem dX11_word_87 : decode cX11_word 87 = .ok (.getfield 323, 3) := by decide +kernel
theorem dX11_word_90 : decode cX11_word 90 = .ok (.iconst 1, 1) := by decide +kernel
theorem dX11_word_91 : decode cX11_word 91 = .ok (.iadd, 1) := by decide +kernel
theorem dX11_word_92 : decode cX11_word 92 = .ok (.putfield 323, 3) := by decide +kernel
theorem dX11_word_95 : decode cX11_word 95 = .ok (.iload_n 3, 1) := by decide +kernel
theorem dX11_word_96 : decode cX11_word 96 = .ok (.iconst 1, 1) := by decide +kernel
theorem dX11_word_97 : decode cX11_word 97 = .ok (.iadd, 1) := by decide +kernel
theorem dX11_word_98 : decode cX11_word 98 = .ok (.ireturn, 1) := by decide +kernel
theorem dX11_id_0 : decode cX11_id 0 = .ok (.aload_n 0, 1) := by decide +kernel
theorem dX11_id_1 : decode cX11_id 1 = .ok (.aload_n 0, 1) := by decide +kernel
theorem dX11_id_2 : decode cX11_id 2 = .ok (.getfield 309, 3) := by decide +kernel
theorem dX11_id_5 : decode cX11_id 5 = .ok (.bipush 32, 2) := by decide +kernel
theorem dX11_id_7 : decode cX11_id 7 = .ok (.if_icmp .ne 7, 3) := by decide +kernel
theorem dX11_id_10 : decode cX11_id 10 = .ok (.iconst 1, 1) := by decide +kernel
theorem dX11_id_11 : decode cX11_id 11 = .ok (.goto 4, 3) := by decide +kernel
theorem dX11_id_14 : decode cX11_id 14 = .ok (.iconst 0, 1) := by decide +kernel
theorem dX11_id_15 : decode cX11_id 15 = .ok (.putfield 230, 3) := by decide +kernel
theorem dX11_id_18 : decode cX11_id 18 = .ok (.aload_n 0, 1) := by decide +kernel
theorem dX11_id_19 : decode cX11_id 19 = .ok (.getfield 230, 3) := by decide +kernel
theorem dX11_id_22 : decode cX11_id 22 = .ok (.ifCond .ne 27, 3) := by decide +kernel
theorem dX11_id_25 : decode cX11_id 25 = .ok (.aload_n 0, 1) := by decide +kernel
theorem dX11_id_26 : decode cX11_id 26 = .ok (.getfield 19, 3) := by decide +kernel
theorem dX11_id_29 : decode cX11_id 29 = .ok (.aload_n 0, 1) := by decide +kernel
theorem dX11_id_30 : decode cX11_id 30 = .ok (.getfield 309, 3) := by decide +kernel
theorem dX11_id_33 : decode cX11_id 33 = .ok (.iload_n 1, 1) := by decide +kernel
theorem dX11_id_34 : decode cX11_id 34 = .ok (.sipush 255, 3) := by decide +kernel
theorem dX11_id_37 : decode cX11_id 37 = .ok (.iand, 1) := by decide +kernel
theorem dX11_id_38 : decode cX11_id 38 = .ok (.iastore, 1) := by decide +kernel
theorem dX11_id_39 : decode cX11_id 39 = .ok (.aload_n 0, 1) := by decide +kernel
theorem dX11_id_40 : decode cX11_id 40 = .ok (.dup, 1) := by decide +kernel
theorem dX11_id_41 : decode cX11_id 41 = .ok (.getfield 309, 3) := by decide +kernel
theorem dX11_id_44 : decode cX11_id 44 = .ok (.iconst 1, 1) := by decide +kernel
theorem dX11_id_45 : decode cX11_id 45 = .ok (.iadd, 1) := by decide +kernel
theorem dX11_id_46 : decode cX11_id 46 = .ok (.putfield 309, 3) := by decide +kernel
theorem dX11_id_49 : decode cX11_id 49 = .ok (.return_, 1) := by decide +kernel
theorem dX11_tape_0 : decode cX11_tape 0 = .ok (.aload_n 0, 1) := by decide +kernel
theorem dX11_tape_1 : decode cX11_tape 1 = .ok (.aload_n 0, 1) := by decide +kernel
theorem dX11_tape_2 : decode cX11_tape 2 = .ok (.getfield 369, 3) := by decide +kernel
theorem dX11_tape_5 : decode cX11_tape 5 = .ok (.iconst 4, 1) := by decide +kernel
theorem dX11_tape_6 : decode cX11_tape 6 = .ok (.iadd, 1) := by decide +kernel
theorem dX11_tape_7 : decode cX11_tape 7 = .ok (.sipush 400, 3) := by decide +kernel
theorem dX11_tape_10 : decode cX11_tape 10 = .ok (.if_icmp .le 7, 3) := by decide +kernel
theorem dX11_tape_13 : decode cX11_tape 13 = .ok (.iconst 1, 1) := by decide +kernel
theorem dX11_tape_14 : decode cX11_tape 14 = .ok (.goto 4, 3) := by decide +kernel
theorem dX11_tape_17 : decode cX11_tape 17 = .ok (.iconst 0, 1) := by decide +kernel
theorem dX11_tape_18 : decode cX11_tape 18 = .ok (.putfield 230, 3) := by decide +kernel
theorem dX11_tape_21 : decode cX11_tape 21 = .ok (.aload_n 0, 1) := by decide +kernel
theorem dX11_tape_22 : decode cX11_tape 22 = .ok (.getfield 230, 3) := by decide +kernel
theorem dX11_tape_25 : decode cX11_tape 25 = .ok (.ifCond .le 5, 3) := by decide +kernel
theorem dX11_tape_28 : decode cX11_tape 28 = .ok (.iconst 0, 1) := by decide +kernel
theorem dX11_tape_29 : decode cX11_tape 29 = .ok (.ireturn, 1) := by decide +kernel
theorem dX11_tape_30 : decode cX11_tape 30 = .ok (.bipush 24, 2) := by decide +kernel
theorem dX11_tape_32 : decode cX11_tape 32 = .ok (.istore_n 2, 1) := by decide +kernel
theorem dX11_tape_33 : decode cX11_tape 33 = .ok (.iload_n 2, 1) := by decide +kernel
theorem dX11_tape_34 : decode cX11_tape 34 = .ok (.ifCond .lt 35, 3) := by decide +kernel
theorem dX11_tape_37 : decode cX11_tape 37 = .ok (.aload_n 0, 1) := by decide +kernel
theorem dX11_tape_38 : decode cX11_tape 38 = .ok (.getfield 22, 3) := by decide +kernel
theorem dX11_tape_41 : decode cX11_tape 41 = .ok (.aload_n 0, 1) := by decide +kernel
theorem dX11_tape_42 : decode cX11_tape 42 = .ok (.getfield 369, 3) := by decide +kernel
theorem dX11_tape_45 : decode cX11_tape 45 = .ok (.iload_n 1, 1) := by decide +kernel
theorem dX11_tape_46 : decode cX11_tape 46 = .ok (.iload_n 2, 1) := by decide +kernel
theorem dX11_tape_47 : decode cX11_tape 47 = .ok (.ishr, 1) := by decide +kernel
theorem dX11_tape_48 : decode cX11_tape 48 = .ok (.sipush 255, 3) := by decide +kernel
theorem dX11_tape_51 : decode cX11_tape 51 = .ok (.iand, 1) := by decide +kernel
theorem dX11_tape_52 : decode cX11_tape 52 = .ok (.iastore, 1) := by decide +kernel
