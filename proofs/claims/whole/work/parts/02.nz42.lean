theorem dX11_block_20 : decode cX11_block 20 = .ok (.iadd, 1) := by decide +kernel
theorem dX11_block_21 : decode cX11_block 21 = .ok (.iaload, 1) := by decide +kernel
theorem dX11_block_22 : decode cX11_block 22 = .ok (.iastore, 1) := by decide +kernel
theorem dX11_block_23 : decode cX11_block 23 = .ok (.iinc 4 1, 3) := by decide +kernel
theorem dX11_block_26 : decode cX11_block 26 = .ok (.goto (-23), 3) := by decide +kernel
theorem dX11_block_29 : decode cX11_block 29 = .ok (.iload_n 3, 1) := by decide +kernel
theorem dX11_block_30 : decode cX11_block 30 = .ok (.ifCond .eq 60, 3) := by decide +kernel
theorem dX11_block_33 : decode cX11_block 33 = .ok (.aload_n 0, 1) := by decide +kernel
theorem dX11_block_34 : decode cX11_block 34 = .ok (.getfield 270, 3) := by decide +kernel
theorem dX11_block_37 : decode cX11_block 37 = .ok (.istore 4, 2) := by decide +kernel
theorem dX11_block_39 : decode cX11_block 39 = .ok (.iload 4, 2) := by decide +kernel
theorem dX11_block_41 : decode cX11_block 41 = .ok (.ifCond .le 41, 3) := by decide +kernel
theorem dX11_block_44 : decode cX11_block 44 = .ok (.aload_n 0, 1) := by decide +kernel
theorem dX11_block_45 : decode cX11_block 45 = .ok (.iload 4, 2) := by decide +kernel
theorem dX11_block_47 : decode cX11_block 47 = .ok (.invokevirtual 273, 3) := by decide +kernel
theorem dX11_block_50 : decode cX11_block 50 = .ok (.iload 4, 2) := by decide +kernel
theorem dX11_block_52 : decode cX11_block 52 = .ok (.aload_n 0, 1) := by decide +kernel
theorem dX11_block_53 : decode cX11_block 53 = .ok (.getfield 270, 3) := by decide +kernel
theorem dX11_block_56 : decode cX11_block 56 = .ok (.if_icmp .ge 15, 3) := by decide +kernel
theorem dX11_block_59 : decode cX11_block 59 = .ok (.aload_n 0, 1) := by decide +kernel
theorem dX11_block_60 : decode cX11_block 60 = .ok (.bipush 14, 2) := by decide +kernel
theorem dX11_block_62 : decode cX11_block 62 = .ok (.bipush 11, 2) := by decide +kernel
theorem dX11_block_64 : decode cX11_block 64 = .ok (.bipush 13, 2) := by decide +kernel
theorem dX11_block_66 : decode cX11_block 66 = .ok (.bipush 9, 2) := by decide +kernel
theorem dX11_block_68 : decode cX11_block 68 = .ok (.invokevirtual 276, 3) := by decide +kernel
theorem dX11_block_71 : decode cX11_block 71 = .ok (.aload_n 0, 1) := by decide +kernel
theorem dX11_block_72 : decode cX11_block 72 = .ok (.iconst 1, 1) := by decide +kernel
theorem dX11_block_73 : decode cX11_block 73 = .ok (.invokevirtual 280, 3) := by decide +kernel
theorem dX11_block_76 : decode cX11_block 76 = .ok (.iinc 4 (-1), 3) := by decide +kernel
theorem dX11_block_79 : decode cX11_block 79 = .ok (.goto (-40), 3) := by decide +kernel
theorem dX11_block_82 : decode cX11_block 82 = .ok (.aload_n 0, 1) := by decide +kernel
theorem dX11_block_83 : decode cX11_block 83 = .ok (.iconst 0, 1) := by decide +kernel
theorem dX11_block_84 : decode cX11_block 84 = .ok (.invokevirtual 273, 3) := by decide +kernel
theorem dX11_block_87 : decode cX11_block 87 = .ok (.goto 54, 3) := by decide +kernel
theorem dX11_block_90 : decode cX11_block 90 = .ok (.aload_n 0, 1) := by decide +kernel
theorem dX11_block_91 : decode cX11_block 91 = .ok (.iconst 0, 1) := by decide +kernel
theorem dX11_block_92 : decode cX11_block 92 = .ok (.invokevirtual 273, 3) := by decide +kernel
theorem dX11_block_95 : decode cX11_block 95 = .ok (.iconst 1, 1) := by decide +kernel
theorem dX11_block_96 : decode cX11_block 96 = .ok (.istore 4, 2) := by decide +kernel
theorem dX11_block_98 : decode cX11_block 98 = .ok (.iload 4, 2) := by decide +kernel
theorem dX11_block_100 : decode cX11_block 100 = .ok (.aload_n 0, 1) := by decide +kernel
theorem dX11_block_101 : decode cX11_block 101 = .ok (.getfield 270, 3) := by decide +kernel
theorem dX11_block_104 : decode cX11_block 104 = .ok (.if_icmp .gt 37, 3) := by decide +kernel
theorem dX11_block_107 : decode cX11_block 107 = .ok (.aload_n 0, 1) := by decide +kernel
theorem dX11_block_108 : decode cX11_block 108 = .ok (.iconst 0, 1) := by decide +kernel
theorem dX11_block_109 : decode cX11_block 109 = .ok (.invokevirtual 280, 3) := by decide +kernel
theorem dX11_block_112 : decode cX11_block 112 = .ok (.iload 4, 2) := by decide +kernel
theorem dX11_block_114 : decode cX11_block 114 = .ok (.aload_n 0, 1) := by decide +kernel
theorem dX11_block_115 : decode cX11_block 115 = .ok (.getfield 270, 3) := by decide +kernel
theorem dX11_block_118 : decode cX11_block 118 = .ok (.if_icmp .ge 11, 3) := by decide +kernel
theorem dX11_block_121 : decode cX11_block 121 = .ok (.aload_n 0, 1) := by decide +kernel
theorem dX11_block_122 : decode cX11_block 122 = .ok (.iconst 2, 1) := by decide +kernel
theorem dX11_block_123 : decode cX11_block 123 = .ok (.iconst 3, 1) := by decide +kernel
theorem dX11_block_124 : decode cX11_block 124 = .ok (.iconst 1, 1) := by decide +kernel
theorem dX11_block_125 : decode cX11_block 125 = .ok (.iconst 1, 1) := by decide +kernel
theorem dX11_block_126 : decode cX11_block 126 = .ok (.invokevirtual 276, 3) := by decide +kernel
theorem dX11_block_129 : decode cX11_block 129 = .ok (.aload_n 0, 1) := by decide +kernel
theorem dX11_block_130 : decode cX11_block 130 = .ok (.iload 4, 2) := by decide +kernel
theorem dX11_block_132 : decode cX11_block 132 = .ok (.invokevirtual 273, 3) := by decide +kernel
theorem dX11_block_135 : decode cX11_block 135 = .ok (.iinc 4 1, 3) := by decide +kernel
theorem dX11_block_138 : decode cX11_block 138 = .ok (.goto (-40), 3) := by decide +kernel
theorem dX11_block_141 : decode cX11_block 141 = .ok (.iconst 0, 1) := by decide +kernel
theorem dX11_block_142 : decode cX11_block 142 = .ok (.istore 4, 2) := by decide +kernel
theorem dX11_block_144 : decode cX11_block 144 = .ok (.iload 4, 2) := by decide +kernel
theorem dX11_block_146 : decode cX11_block 146 = .ok (.bipush 16, 2) := by decide +kernel
theorem dX11_block_148 : decode cX11_block 148 = .ok (.if_icmp .ge 22, 3) := by decide +kernel
theorem dX11_block_151 : decode cX11_block 151 = .ok (.aload_n 1, 1) := by decide +kernel
theorem dX11_block_152 : decode cX11_block 152 = .ok (.iload_n 2, 1) := by decide +kernel
theorem dX11_block_153 : decode cX11_block 153 = .ok (.iload 4, 2) := by decide +kernel
theorem dX11_block_155 : decode cX11_block 155 = .ok (.iadd, 1) := by decide +kernel
theorem dX11_block_156 : decode cX11_block 156 = .ok (.aload_n 0, 1) := by decide +kernel
theorem dX11_block_157 : decode cX11_block 157 = .ok (.getfield 201, 3) := by decide +kernel
theorem dX11_block_160 : decode cX11_block 160 = .ok (.iload 4, 2) := by decide +kernel
theorem dX11_block_162 : decode cX11_block 162 = .ok (.iaload, 1) := by decide +kernel
theorem dX11_block_163 : decode cX11_block 163 = .ok (.iastore, 1) := by decide +kernel
theorem dX11_block_164 : decode cX11_block 164 = .ok (.iinc 4 1, 3) := by decide +kernel
theorem dX11_block_167 : decode cX11_block 167 = .ok (.goto (-23), 3) := by decide +kernel
theorem dX11_block_170 : decode cX11_block 170 = .ok (.return_, 1) := by decide +kernel
set_option maxRecDepth 20000 in
theorem ggX11_chain_X11_block : GoodIn wsX11_chain wsX11_block := goodIn_ca (goodIn_r _ [6, 7, 8, 9, 10, 11, 5, 12, 13, 14, 15, 16, 17, 18, 19, 20, 21, 22, 23, 24, 25, 26, 27, 28, 29, 30, 31, 32, 33, 34, 35, 36, 37, 38, 39, 40, 41, 42, 43, 44, 45, 46, 47, 48, 49, 50, 51, 52, 53, 54, 55, 56, 57, 58, 59, 60, 61, 62, 63, 64, 65, 66, 67, 68, 69, 70, 71, 72] (by decide +kernel) (by decide +kernel)) (goodIn_sub (fun _ h => List.mem_cons_of_mem _ (List.mem_append_right _ h)) (by decide +kernel))
set_option maxRecDepth 20000 in
theorem gX11_chain_X11_block : GoodIn wsX11_chain (wsV RX11 284 RX11 yX11_block wsX11_block) := goodIn_app (goodIn_of _ (by decide +kernel)) ggX11_chain_X11_block
theorem dX11_chain_0 : decode cX11_chain 0 = .ok (.iconst 0, 1) := by decide +kernel
theorem dX11_chain_1 : decode cX11_chain 1 = .ok (.istore_n 3, 1) := by decide +kernel
theorem dX11_chain_2 : decode cX11_chain 2 = .ok (.iload_n 3, 1) := by decide +kernel
theorem dX11_chain_3 : decode cX11_chain 3 = .ok (.iload_n 1, 1) := by decide +kernel
theorem dX11_chain_4 : decode cX11_chain 4 = .ok (.if_icmp .ge 150, 3) := by decide +kernel
theorem dX11_chain_7 : decode cX11_chain 7 = .ok (.iload_n 2, 1) := by decide +kernel
theorem dX11_chain_8 : decode cX11_chain 8 = .ok (.ifCond .eq 12, 3) := by decide +kernel
theorem dX11_chain_11 : decode cX11_chain 11 = .ok (.bipush 16, 2) := by decide +kernel
theorem dX11_chain_13 : decode cX11_chain 13 = .ok (.iload_n 1, 1) := by decide +kernel
theorem dX11_chain_14 : decode cX11_chain 14 = .ok (.iload_n 3, 1) := by decide +kernel
theorem dX11_chain_15 : decode cX11_chain 15 = .ok (.isub, 1) := by decide +kernel
theorem dX11_chain_16 : decode cX11_chain 16 = .ok (.imul, 1) := by decide +kernel
theorem dX11_chain_17 : decode cX11_chain 17 = .ok (.goto 10, 3) := by decide +kernel
theorem dX11_chain_20 : decode cX11_chain 20 = .ok (.bipush 16, 2) := by decide +kernel
theorem dX11_chain_22 : decode cX11_chain 22 = .ok (.iload_n 3, 1) := by decide +kernel
theorem dX11_chain_23 : decode cX11_chain 23 = .ok (.imul, 1) := by decide +kernel
theorem dX11_chain_24 : decode cX11_chain 24 = .ok (.bipush 16, 2) := by decide +kernel
theorem dX11_chain_26 : decode cX11_chain 26 = .ok (.iadd, 1) := by decide +kernel
theorem dX11_chain_27 : decode cX11_chain 27 = .ok (.istore 4, 2) := by decide +kernel
theorem dX11_chain_29 : decode cX11_chain 29 = .ok (.iconst 0, 1) := by decide +kernel
theorem dX11_chain_30 : decode cX11_chain 30 = .ok (.istore 5, 2) := by decide +kernel
theorem dX11_chain_32 : decode cX11_chain 32 = .ok (.iload 5, 2) := by decide +kernel
theorem dX11_chain_34 : decode cX11_chain 34 = .ok (.bipush 16, 2) := by decide +kernel
theorem dX11_chain_36 : decode cX11_chain 36 = .ok (.if_icmp .ge 47, 3) := by decide +kernel
theorem dX11_chain_39 : decode cX11_chain 39 = .ok (.iload_n 2, 1) := by decide +kernel
theorem dX11_chain_40 : decode cX11_chain 40 = .ok (.ifCond .ne 43, 3) := by decide +kernel
theorem dX11_chain_43 : decode cX11_chain 43 = .ok (.aload_n 0, 1) := by decide +kernel
theorem dX11_chain_44 : decode cX11_chain 44 = .ok (.getfield 210, 3) := by decide +kernel
theorem dX11_chain_47 : decode cX11_chain 47 = .ok (.iload 4, 2) := by decide +kernel
theorem dX11_chain_49 : decode cX11_chain 49 = .ok (.iload 5, 2) := by decide +kernel
theorem dX11_chain_51 : decode cX11_chain 51 = .ok (.iadd, 1) := by decide +kernel
theorem dX11_chain_52 : decode cX11_chain 52 = .ok (.aload_n 0, 1) := by decide +kernel
theorem dX11_chain_53 : decode cX11_chain 53 = .ok (.getfield 210, 3) := by decide +kernel
theorem dX11_chain_56 : decode cX11_chain 56 = .ok (.iload 4, 2) := by decide +kernel
theorem dX11_chain_58 : decode cX11_chain 58 = .ok (.iload 5, 2) := by decide +kernel
theorem dX11_chain_60 : decode cX11_chain 60 = .ok (.iadd, 1) := by decide +kernel
theorem dX11_chain_61 : decode cX11_chain 61 = .ok (.iaload, 1) := by decide +kernel
theorem dX11_chain_62 : decode cX11_chain 62 = .ok (.aload_n 0, 1) := by decide +kernel
theorem dX11_chain_63 : decode cX11_chain 63 = .ok (.getfield 210, 3) := by decide +kernel
theorem dX11_chain_66 : decode cX11_chain 66 = .ok (.iload 4, 2) := by decide +kernel
theorem dX11_chain_68 : decode cX11_chain 68 = .ok (.iload 5, 2) := by decide +kernel
theorem dX11_chain_70 : decode cX11_chain 70 = .ok (.iadd, 1) := by decide +kernel
theorem dX11_chain_71 : decode cX11_chain 71 = .ok (.bipush 16, 2) := by decide +kernel
theorem dX11_chain_73 : decode cX11_chain 73 = .ok (.isub, 1) := by decide +kernel
theorem dX11_chain_74 : decode cX11_chain 74 = .ok (.iaload, 1) := by decide +kernel
theorem dX11_chain_75 : decode cX11_chain 75 = .ok (.ixor, 1) := by decide +kernel
theorem dX11_chain_76 : decode cX11_chain 76 = .ok (.iastore, 1) := by decide +kernel
theorem dX11_chain_77 : decode cX11_chain 77 = .ok (.iinc 5 1, 3) := by decide +kernel
theorem dX11_chain_80 : decode cX11_chain 80 = .ok (.goto (-48), 3) := by decide +kernel
theorem dX11_chain_83 : decode cX11_chain 83 = .ok (.aload_n 0, 1) := by decide +kernel
theorem dX11_chain_84 : decode cX11_chain 84 = .ok (.aload_n 0, 1) := by decide +kernel
theorem dX11_chain_85 : decode cX11_chain 85 = .ok (.getfield 210, 3) := by decide +kernel
theorem dX11_chain_88 : decode cX11_chain 88 = .ok (.iload 4, 2) := by decide +kernel
theorem dX11_chain_90 : decode cX11_chain 90 = .ok (.iload_n 2, 1) := by decide +kernel
theorem dX11_chain_91 : decode cX11_chain 91 = .ok (.invokevirtual 284, 3) := by decide +kernel
theorem dX11_chain_94 : decode cX11_chain 94 = .ok (.iconst 0, 1) := by decide +kernel
theorem dX11_chain_95 : decode cX11_chain 95 = .ok (.istore 5, 2) := by decide +kernel
theorem dX11_chain_97 : decode cX11_chain 97 = .ok (.iload 5, 2) := by decide +kernel
theorem dX11_chain_99 : decode cX11_chain 99 = .ok (.bipush 16, 2) := by decide +kernel
theorem dX11_chain_101 : decode cX11_chain 101 = .ok (.if_icmp .ge 47, 3) := by decide +kernel
theorem dX11_chain_104 : decode cX11_chain 104 = .ok (.iload_n 2, 1) := by decide +kernel
theorem dX11_chain_105 : decode cX11_chain 105 = .ok (.ifCond .eq 43, 3) := by decide +kernel
theorem dX11_chain_108 : decode cX11_chain 108 = .ok (.aload_n 0, 1) := by decide +kernel
theorem dX11_chain_109 : decode cX11_chain 109 = .ok (.getfield 210, 3) := by decide +kernel
theorem dX11_chain_112 : decode cX11_chain 112 = .ok (.iload 4, 2) := by decide +kernel
theorem dX11_chain_114 : decode cX11_chain 114 = .ok (.iload 5, 2) := by decide +kernel
theorem dX11_chain_116 : decode cX11_chain 116 = .ok (.iadd, 1) := by decide +kernel
theorem dX11_chain_117 : decode cX11_chain 117 = .ok (.aload_n 0, 1) := by decide +kernel
theorem dX11_chain_118 : decode cX11_chain 118 = .ok (.getfield 210, 3) := by decide +kernel
theorem dX11_chain_121 : decode cX11_chain 121 = .ok (.iload 4, 2) := by decide +kernel
theorem dX11_chain_123 : decode cX11_chain 123 = .ok (.iload 5, 2) := by decide +kernel
theorem dX11_chain_125 : decode cX11_chain 125 = .ok (.iadd, 1) := by decide +kernel
theorem dX11_chain_126 : decode cX11_chain 126 = .ok (.iaload, 1) := by decide +kernel
theorem dX11_chain_127 : decode cX11_chain 127 = .ok (.aload_n 0, 1) := by decide +kernel
theorem dX11_chain_128 : decode cX11_chain 128 = .ok (.getfield 210, 3) := by decide +kernel
theorem dX11_chain_131 : decode cX11_chain 131 = .ok (.iload 4, 2) := by decide +kernel
theorem dX11_chain_133 : decode cX11_chain 133 = .ok (.iload 5, 2) := by decide +kernel
theorem dX11_chain_135 : decode cX11_chain 135 = .ok (.iadd, 1) := by decide +kernel
theorem dX11_chain_136 : decode cX11_chain 136 = .ok (.bipush 16, 2) := by decide +kernel
theorem dX11_chain_138 : decode cX11_chain 138 = .ok (.isub, 1) := by decide +kernel
theorem dX11_chain_139 : decode cX11_chain 139 = .ok (.iaload, 1) := by decide +kernel
theorem dX11_chain_140 : decode cX11_chain 140 = .ok (.ixor, 1) := by decide +kernel
theorem dX11_chain_141 : decode cX11_chain 141 = .ok (.iastore, 1) := by decide +kernel
theorem dX11_chain_142 : decode cX11_chain 142 = .ok (.iinc 5 1, 3) := by decide +kernel
theorem dX11_chain_145 : decode cX11_chain 145 = .ok (.goto (-48), 3) := by decide +kernel
theorem dX11_chain_148 : decode cX11_chain 148 = .ok (.iinc 3 1, 3) := by decide +kernel
theorem dX11_chain_151 : decode cX11_chain 151 = .ok (.goto (-149), 3) := by decide +kernel
theorem dX11_chain_154 : decode cX11_chain 154 = .ok (.return_, 1) := by decide +kernel
theorem dX11_keySize_0 : decode cX11_keySize 0 = .ok (.aload_n 0, 1) := by decide +kernel
theorem dX11_keySize_1 : decode cX11_keySize 1 = .ok (.getfield 219, 3) := by decide +kernel
theorem dX11_keySize_4 : decode cX11_keySize 4 = .ok (.iconst 2, 1) := by decide +kernel
theorem dX11_keySize_5 : decode cX11_keySize 5 = .ok (.if_icmp .ne 7, 3) := by decide +kernel
theorem dX11_keySize_8 : decode cX11_keySize 8 = .ok (.iconst 5, 1) := by decide +kernel
theorem dX11_keySize_9 : decode cX11_keySize 9 = .ok (.goto 18, 3) := by decide +kernel
theorem dX11_keySize_12 : decode cX11_keySize 12 = .ok (.aload_n 0, 1) := by decide +kernel
theorem dX11_keySize_13 : decode cX11_keySize 13 = .ok (.getfield 219, 3) := by decide +kernel
theorem dX11_keySize_16 : decode cX11_keySize 16 = .ok (.iconst 5, 1) := by decide +kernel
theorem dX11_keySize_17 : decode cX11_keySize 17 = .ok (.if_icmp .ne 8, 3) := by decide +kernel
theorem dX11_keySize_20 : decode cX11_keySize 20 = .ok (.bipush 32, 2) := by decide +kernel
theorem dX11_keySize_22 : decode cX11_keySize 22 = .ok (.goto 5, 3) := by decide +kernel
theorem dX11_keySize_25 : decode cX11_keySize 25 = .ok (.bipush 16, 2) := by decide +kernel
theorem dX11_keySize_27 : decode cX11_keySize 27 = .ok (.ireturn, 1) := by decide +kernel
theorem dX11_pad_0 : decode cX11_pad 0 = .ok (.iconst 0, 1) := by decide +kernel
theorem dX11_pad_1 : decode cX11_pad 1 = .ok (.istore_n 3, 1) := by decide +kernel
theorem dX11_pad_2 : decode cX11_pad 2 = .ok (.iload_n 3, 1) := by decide +kernel
theorem dX11_pad_3 : decode cX11_pad 3 = .ok (.bipush 32, 2) := by decide +kernel
theorem dX11_pad_5 : decode cX11_pad 5 = .ok (.if_icmp .ge 34, 3) := by decide +kernel
theorem dX11_pad_8 : decode cX11_pad 8 = .ok (.aload_n 0, 1) := by decide +kernel
theorem dX11_pad_9 : decode cX11_pad 9 = .ok (.getfield 213, 3) := by decide +kernel
theorem dX11_pad_12 : decode cX11_pad 12 = .ok (.iload_n 3, 1) := by decide +kernel
theorem dX11_pad_13 : decode cX11_pad 13 = .ok (.iload_n 3, 1) := by decide +kernel
theorem dX11_pad_14 : decode cX11_pad 14 = .ok (.iload_n 2, 1) := by decide +kernel
theorem dX11_pad_15 : decode cX11_pad 15 = .ok (.if_icmp .ge 9, 3) := by decide +kernel
theorem dX11_pad_18 : decode cX11_pad 18 = .ok (.aload_n 1, 1) := by decide +kernel
theorem dX11_pad_19 : decode cX11_pad 19 = .ok (.iload_n 3, 1) := by decide +kernel
theorem dX11_pad_20 : decode cX11_pad 20 = .ok (.iaload, 1) := by decide +kernel
theorem dX11_pad_21 : decode cX11_pad 21 = .ok (.goto 11, 3) := by decide +kernel
theorem dX11_pad_24 : decode cX11_pad 24 = .ok (.aload_n 0, 1) := by decide +kernel
theorem dX11_pad_25 : decode cX11_pad 25 = .ok (.getfield 55, 3) := by decide +kernel
theorem dX11_pad_28 : decode cX11_pad 28 = .ok (.iload_n 3, 1) := by decide +kernel
theorem dX11_pad_29 : decode cX11_pad 29 = .ok (.iload_n 2, 1) := by decide +kernel
theorem dX11_pad_30 : decode cX11_pad 30 = .ok (.isub, 1) := by decide +kernel
theorem dX11_pad_31 : decode cX11_pad 31 = .ok (.iaload, 1) := by decide +kernel
theorem dX11_pad_32 : decode cX11_pad 32 = .ok (.iastore, 1) := by decide +kernel
theorem dX11_pad_33 : decode cX11_pad 33 = .ok (.iinc 3 1, 3) := by decide +kernel
theorem dX11_pad_36 : decode cX11_pad 36 = .ok (.goto (-34), 3) := by decide +kernel
theorem dX11_pad_39 : decode cX11_pad 39 = .ok (.return_, 1) := by decide +kernel
set_option maxRecDepth 20000 in
theorem ggX11_smallAgain_X11_keySize : GoodIn wsX11_smallAgain wsX11_keySize := goodIn_r _ [8, 1, 47, 48, 49, 50, 51, 52, 53, 54, 55, 56, 57, 58, 59, 60, 61, 62, 63, 64, 65, 66, 67, 68, 69, 70, 71, 72, 73, 74, 75, 76, 77, 78, 79, 80, 81, 82, 83, 84, 85, 86, 87, 88, 89, 90, 91] (by decide +kernel) (by decide +kernel)
set_option maxRecDepth 20000 in
theorem gX11_smallAgain_X11_keySize : GoodIn wsX11_smallAgain (wsV RX11 288 RX11 yX11_keySize wsX11_keySize) := goodIn_app (goodIn_of _ (by decide +kernel)) ggX11_smallAgain_X11_keySize
set_option maxRecDepth 20000 in
theorem ggX11_smallAgain_X11_sayRow : GoodIn wsX11_smallAgain wsX11_sayRow := goodIn_ca (goodIn_r _ [12, 13, 14, 15, 7, 16, 17, 2, 47, 48, 49, 50, 51, 52, 53, 54, 55, 56, 57, 58, 59, 60, 61, 62, 63, 64, 65, 66, 67, 68, 69, 70, 71, 72, 73, 74, 75, 76, 77, 78, 79, 80, 81, 82, 83, 84, 85, 86, 87, 88, 89, 90, 91] (by decide +kernel) (by decide +kernel)) (goodIn_sub (fun _ h => List.mem_cons_of_mem _ (List.mem_append_right _ h)) (by decide +kernel))
set_option maxRecDepth 20000 in
theorem gX11_smallAgain_X11_sayRow : GoodIn wsX11_smallAgain (wsV RX11 292 RX11 yX11_sayRow wsX11_sayRow) := goodIn_app (goodIn_of _ (by decide +kernel)) ggX11_smallAgain_X11_sayRow
set_option maxRecDepth 20000 in
theorem ggX11_smallAgain_X11_small : GoodIn wsX11_smallAgain wsX11_small := goodIn_ca (goodIn_r _ [21, 22, 23, 24, 25, 26, 27, 28, 29, 30, 31, 7, 32, 2, 13, 14, 15, 16, 17, 33, 34, 35, 36, 37, 38, 39, 40, 41, 42, 43, 44, 45, 46, 3, 47, 48, 49, 50, 51, 52, 53, 54, 55, 56, 57, 58, 59, 60, 61, 62, 63, 64, 65, 66, 67, 68, 69, 70, 71, 72, 73, 74, 75, 76, 77, 78, 79, 80, 81, 82, 83, 84, 85, 86, 87, 88, 89, 90, 91] (by decide +kernel) (by decide +kernel)) (goodIn_sub (fun _ h => List.mem_cons_of_mem _ (List.mem_append_right _ h)) (by decide +kernel))
set_option maxRecDepth 20000 in
theorem gX11_smallAgain_X11_small : GoodIn wsX11_smallAgain (wsV RX11 296 RX11 yX11_small wsX11_small) := goodIn_app (goodIn_of _ (by decide +kernel)) ggX11_smallAgain_X11_small
theorem dX11_smallAgain_0 : decode cX11_smallAgain 0 = .ok (.iconst 0, 1) := by decide +kernel
theorem dX11_smallAgain_1 : decode cX11_smallAgain 1 = .ok (.istore_n 1, 1) := by decide +kernel
theorem dX11_smallAgain_2 : decode cX11_smallAgain 2 = .ok (.iload_n 1, 1) := by decide +kernel
theorem dX11_smallAgain_3 : decode cX11_smallAgain 3 = .ok (.bipush 50, 2) := by decide +kernel
theorem dX11_smallAgain_5 : decode cX11_smallAgain 5 = .ok (.if_icmp .ge 39, 3) := by decide +kernel
theorem dX11_smallAgain_8 : decode cX11_smallAgain 8 = .ok (.aload_n 0, 1) := by decide +kernel
theorem dX11_smallAgain_9 : decode cX11_smallAgain 9 = .ok (.getfield 219, 3) := by decide +kernel
theorem dX11_smallAgain_12 : decode cX11_smallAgain 12 = .ok (.iconst 2, 1) := by decide +kernel
theorem dX11_smallAgain_13 : decode cX11_smallAgain 13 = .ok (.if_icmp .le 31, 3) := by decide +kernel
theorem dX11_smallAgain_16 : decode cX11_smallAgain 16 = .ok (.aload_n 0, 1) := by decide +kernel
theorem dX11_smallAgain_17 : decode cX11_smallAgain 17 = .ok (.iconst 0, 1) := by decide +kernel
theorem dX11_smallAgain_18 : decode cX11_smallAgain 18 = .ok (.putfield 233, 3) := by decide +kernel
theorem dX11_smallAgain_21 : decode cX11_smallAgain 21 = .ok (.aload_n 0, 1) := by decide +kernel
theorem dX11_smallAgain_22 : decode cX11_smallAgain 22 = .ok (.aload_n 0, 1) := by decide +kernel
theorem dX11_smallAgain_23 : decode cX11_smallAgain 23 = .ok (.getfield 43, 3) := by decide +kernel
theorem dX11_smallAgain_26 : decode cX11_smallAgain 26 = .ok (.iconst 0, 1) := by decide +kernel
theorem dX11_smallAgain_27 : decode cX11_smallAgain 27 = .ok (.aload_n 0, 1) := by decide +kernel
theorem dX11_smallAgain_28 : decode cX11_smallAgain 28 = .ok (.invokevirtual 288, 3) := by decide +kernel
theorem dX11_smallAgain_31 : decode cX11_smallAgain 31 = .ok (.invokevirtual 292, 3) := by decide +kernel
theorem dX11_smallAgain_34 : decode cX11_smallAgain 34 = .ok (.aload_n 0, 1) := by decide +kernel
theorem dX11_smallAgain_35 : decode cX11_smallAgain 35 = .ok (.invokevirtual 296, 3) := by decide +kernel
theorem dX11_smallAgain_38 : decode cX11_smallAgain 38 = .ok (.iinc 1 1, 3) := by decide +kernel
theorem dX11_smallAgain_41 : decode cX11_smallAgain 41 = .ok (.goto (-39), 3) := by decide +kernel
theorem dX11_smallAgain_44 : decode cX11_smallAgain 44 = .ok (.return_, 1) := by decide +kernel
set_option maxRecDepth 20000 in
theorem ggX11_makeOwnerKey_X11_sayRow : GoodIn wsX11_makeOwnerKey wsX11_sayRow := goodIn_ca (goodIn_r _ [9, 10, 11, 12, 8, 13, 14, 1, 53, 54, 55, 56, 57, 58, 59, 60, 61, 62, 63, 64, 65, 66, 67, 68, 69, 70, 71, 72, 73, 74, 75, 76, 77, 78, 79, 80, 81, 82, 83, 84, 85, 86, 87, 88, 89, 90, 91, 92, 93, 94, 95, 96, 97] (by decide +kernel) (by decide +kernel)) (goodIn_sub (fun _ h => List.mem_cons_of_mem _ (List.mem_append_right _ h)) (by decide +kernel))
set_option maxRecDepth 20000 in
theorem gX11_makeOwnerKey_X11_sayRow : GoodIn wsX11_makeOwnerKey (wsV RX11 292 RX11 yX11_sayRow wsX11_sayRow) := goodIn_app (goodIn_of _ (by decide +kernel)) ggX11_makeOwnerKey_X11_sayRow
set_option maxRecDepth 20000 in
theorem ggX11_makeOwnerKey_X11_small : GoodIn wsX11_makeOwnerKey wsX11_small := goodIn_ca (goodIn_r _ [18, 19, 20, 21, 22, 23, 24, 25, 26, 27, 28, 8, 29, 1, 10, 11, 12, 13, 14, 30, 31, 32, 33, 34, 35, 36, 37, 38, 39, 40, 41, 42, 43, 4, 53, 54, 55, 56, 57, 58, 59, 60, 61, 62, 63, 64, 65, 66, 67, 68, 69, 70, 71, 72, 73, 74, 75, 76, 77, 78, 79, 80, 81, 82, 83, 84, 85, 86, 87, 88, 89, 90, 91, 92, 93, 94, 95, 96, 97] (by decide +kernel) (by decide +kernel)) (goodIn_sub (fun _ h => List.mem_cons_of_mem _ (List.mem_append_right _ h)) (by decide +kernel))
set_option maxRecDepth 20000 in
theorem gX11_makeOwnerKey_X11_small : GoodIn wsX11_makeOwnerKey (wsV RX11 296 RX11 yX11_small wsX11_small) := goodIn_app (goodIn_of _ (by decide +kernel)) ggX11_makeOwnerKey_X11_small
set_option maxRecDepth 20000 in
theorem ggX11_makeOwnerKey_X11_smallAgain : GoodIn wsX11_makeOwnerKey wsX11_smallAgain := goodIn_ca (goodIn_r _ [47, 48, 1, 4, 49, 50, 51, 8, 52, 5, 6, 7, 9, 10, 11, 12, 13, 14, 15, 16, 17, 18, 19, 20, 21, 22, 23, 24, 25, 26, 27, 28, 29, 30, 31, 32, 33, 34, 35, 36, 37, 38, 39, 40, 41, 42, 43, 53, 54, 55, 56, 57, 58, 59, 60, 61, 62, 63, 64, 65, 66, 67, 68, 69, 70, 71, 72, 73, 74, 75, 76, 77, 78, 79, 80, 81, 82, 83, 84, 85, 86, 87, 88, 89, 90, 91, 92, 93, 94, 95, 96, 97] (by decide +kernel) (by decide +kernel)) (goodIn_sub (fun _ h => List.mem_cons_of_mem _ (List.mem_append_right _ h)) (by decide +kernel))
set_option maxRecDepth 20000 in
theorem gX11_makeOwnerKey_X11_smallAgain : GoodIn wsX11_makeOwnerKey (wsV RX11 299 RX11 yX11_smallAgain wsX11_smallAgain) := goodIn_app (goodIn_of _ (by decide +kernel)) ggX11_makeOwnerKey_X11_smallAgain
set_option maxRecDepth 20000 in
theorem ggX11_makeOwnerKey_X11_keySize : GoodIn wsX11_makeOwnerKey wsX11_keySize := goodIn_r _ [52, 48, 53, 54, 55, 56, 57, 58, 59, 60, 61, 62, 63, 64, 65, 66, 67, 68, 69, 70, 71, 72, 73, 74, 75, 76, 77, 78, 79, 80, 81, 82, 83, 84, 85, 86, 87, 88, 89, 90, 91, 92, 93, 94, 95, 96, 97] (by decide +kernel) (by decide +kernel)
set_option maxRecDepth 20000 in
theorem gX11_makeOwnerKey_X11_keySize : GoodIn wsX11_makeOwnerKey (wsV RX11 288 RX11 yX11_keySize wsX11_keySize) := goodIn_app (goodIn_of _ (by decide +kernel)) ggX11_makeOwnerKey_X11_keySize
theorem dX11_makeOwnerKey_0 : decode cX11_makeOwnerKey 0 = .ok (.aload_n 0, 1) := by decide +kernel
theorem dX11_makeOwnerKey_1 : decode cX11_makeOwnerKey 1 = .ok (.iconst 0, 1) := by decide +kernel
theorem dX11_makeOwnerKey_2 : decode cX11_makeOwnerKey 2 = .ok (.putfield 233, 3) := by decide +kernel
theorem dX11_makeOwnerKey_5 : decode cX11_makeOwnerKey 5 = .ok (.aload_n 0, 1) := by decide +kernel
theorem dX11_makeOwnerKey_6 : decode cX11_makeOwnerKey 6 = .ok (.aload_n 0, 1) := by decide +kernel
theorem dX11_makeOwnerKey_7 : decode cX11_makeOwnerKey 7 = .ok (.getfield 213, 3) := by decide +kernel
theorem dX11_makeOwnerKey_10 : decode cX11_makeOwnerKey 10 = .ok (.iconst 0, 1) := by decide +kernel
theorem dX11_makeOwnerKey_11 : decode cX11_makeOwnerKey 11 = .ok (.bipush 32, 2) := by decide +kernel
theorem dX11_makeOwnerKey_13 : decode cX11_makeOwnerKey 13 = .ok (.invokevirtual 292, 3) := by decide +kernel
theorem dX11_makeOwnerKey_16 : decode cX11_makeOwnerKey 16 = .ok (.aload_n 0, 1) := by decide +kernel
theorem dX11_makeOwnerKey_17 : decode cX11_makeOwnerKey 17 = .ok (.invokevirtual 296, 3) := by decide +kernel
theorem dX11_makeOwnerKey_20 : decode cX11_makeOwnerKey 20 = .ok (.aload_n 0, 1) := by decide +kernel
theorem dX11_makeOwnerKey_21 : decode cX11_makeOwnerKey 21 = .ok (.invokevirtual 299, 3) := by decide +kernel
theorem dX11_makeOwnerKey_24 : decode cX11_makeOwnerKey 24 = .ok (.iconst 0, 1) := by decide +kernel
theorem dX11_makeOwnerKey_25 : decode cX11_makeOwnerKey 25 = .ok (.istore_n 1, 1) := by decide +kernel
theorem dX11_makeOwnerKey_26 : decode cX11_makeOwnerKey 26 = .ok (.iload_n 1, 1) := by decide +kernel
theorem dX11_makeOwnerKey_27 : decode cX11_makeOwnerKey 27 = .ok (.aload_n 0, 1) := by decide +kernel
theorem dX11_makeOwnerKey_28 : decode cX11_makeOwnerKey 28 = .ok (.invokevirtual 288, 3) := by decide +kernel
theorem dX11_makeOwnerKey_31 : decode cX11_makeOwnerKey 31 = .ok (.if_icmp .ge 21, 3) := by decide +kernel
theorem dX11_makeOwnerKey_34 : decode cX11_makeOwnerKey 34 = .ok (.aload_n 0, 1) := by decide +kernel
theorem dX11_makeOwnerKey_35 : decode cX11_makeOwnerKey 35 = .ok (.getfield 216, 3) := by decide +kernel
theorem dX11_makeOwnerKey_38 : decode cX11_makeOwnerKey 38 = .ok (.iload_n 1, 1) := by decide +kernel
theorem dX11_makeOwnerKey_39 : decode cX11_makeOwnerKey 39 = .ok (.aload_n 0, 1) := by decide +kernel
theorem dX11_makeOwnerKey_40 : decode cX11_makeOwnerKey 40 = .ok (.getfield 43, 3) := by decide +kernel
theorem dX11_makeOwnerKey_43 : decode cX11_makeOwnerKey 43 = .ok (.iload_n 1, 1) := by decide +kernel
theorem dX11_makeOwnerKey_44 : decode cX11_makeOwnerKey 44 = .ok (.iaload, 1) := by decide +kernel
theorem dX11_makeOwnerKey_45 : decode cX11_makeOwnerKey 45 = .ok (.iastore, 1) := by decide +kernel
theorem dX11_makeOwnerKey_46 : decode cX11_makeOwnerKey 46 = .ok (.iinc 1 1, 3) := by decide +kernel
theorem dX11_makeOwnerKey_49 : decode cX11_makeOwnerKey 49 = .ok (.goto (-23), 3) := by decide +kernel
theorem dX11_makeOwnerKey_52 : decode cX11_makeOwnerKey 52 = .ok (.return_, 1) := by decide +kernel
set_option maxRecDepth 20000 in
theorem ggX11_makeKey_X11_sayRow : GoodIn wsX11_makeKey wsX11_sayRow := goodIn_ca (goodIn_r _ [15, 16, 17, 18, 14, 19, 20, 1, 62, 63, 64, 65, 66, 67, 68, 69, 70, 71, 72, 73, 74, 75, 76, 77, 78, 79, 80, 81, 82, 83, 84, 85, 86, 87, 88, 89, 90, 91, 92, 93, 94, 95, 96, 97, 98, 99, 100, 101, 102, 103, 104, 105, 106] (by decide +kernel) (by decide +kernel)) (goodIn_sub (fun _ h => List.mem_cons_of_mem _ (List.mem_append_right _ h)) (by decide +kernel))
set_option maxRecDepth 20000 in
theorem gX11_makeKey_X11_sayRow : GoodIn wsX11_makeKey (wsV RX11 292 RX11 yX11_sayRow wsX11_sayRow) := goodIn_app (goodIn_of _ (by decide +kernel)) ggX11_makeKey_X11_sayRow
set_option maxRecDepth 20000 in
theorem ggX11_makeKey_X11_sayLow : GoodIn wsX11_makeKey wsX11_sayLow := goodIn_ca (goodIn_r _ [24, 16, 17, 18, 14, 19, 20, 1, 62, 63, 64, 65, 66, 67, 68, 69, 70, 71, 72, 73, 74, 75, 76, 77, 78, 79, 80, 81, 82, 83, 84, 85, 86, 87, 88, 89, 90, 91, 92, 93, 94, 95, 96, 97, 98, 99, 100, 101, 102, 103, 104, 105, 106] (by decide +kernel) (by decide +kernel)) (goodIn_sub (fun _ h => List.mem_cons_of_mem _ (List.mem_append_right _ h)) (by decide +kernel))
set_option maxRecDepth 20000 in
theorem gX11_makeKey_X11_sayLow : GoodIn wsX11_makeKey (wsV RX11 305 RX11 yX11_sayLow wsX11_sayLow) := goodIn_app (goodIn_of _ (by decide +kernel)) ggX11_makeKey_X11_sayLow
set_option maxRecDepth 20000 in
theorem ggX11_makeKey_X11_small : GoodIn wsX11_makeKey wsX11_small := goodIn_ca (goodIn_r _ [28, 29, 30, 31, 32, 33, 34, 35, 36, 37, 38, 14, 39, 1, 16, 17, 18, 19, 20, 40, 41, 42, 43, 44, 45, 46, 47, 48, 49, 50, 51, 52, 53, 10, 62, 63, 64, 65, 66, 67, 68, 69, 70, 71, 72, 73, 74, 75, 76, 77, 78, 79, 80, 81, 82, 83, 84, 85, 86, 87, 88, 89, 90, 91, 92, 93, 94, 95, 96, 97, 98, 99, 100, 101, 102, 103, 104, 105, 106] (by decide +kernel) (by decide +kernel)) (goodIn_sub (fun _ h => List.mem_cons_of_mem _ (List.mem_append_right _ h)) (by decide +kernel))
set_option maxRecDepth 20000 in
theorem gX11_makeKey_X11_small : GoodIn wsX11_makeKey (wsV RX11 296 RX11 yX11_small wsX11_small) := goodIn_app (goodIn_of _ (by decide +kernel)) ggX11_makeKey_X11_small
set_option maxRecDepth 20000 in
theorem ggX11_makeKey_X11_smallAgain : GoodIn wsX11_makeKey wsX11_smallAgain := goodIn_ca (goodIn_r _ [57, 7, 1, 10, 58, 59, 60, 14, 61, 11, 12, 13, 15, 16, 17, 18, 19, 20, 25, 26, 27, 28, 29, 30, 31, 32, 33, 34, 35, 36, 37, 38, 39, 40, 41, 42, 43, 44, 45, 46, 47, 48, 49, 50, 51, 52, 53, 62, 63, 64, 65, 66, 67, 68, 69, 70, 71, 72, 73, 74, 75, 76, 77, 78, 79, 80, 81, 82, 83, 84, 85, 86, 87, 88, 89, 90, 91, 92, 93, 94, 95, 96, 97, 98, 99, 100, 101, 102, 103, 104, 105, 106] (by decide +kernel) (by decide +kernel)) (goodIn_sub (fun _ h => List.mem_cons_of_mem _ (List.mem_append_right _ h)) (by decide +kernel))
set_option maxRecDepth 20000 in
theorem gX11_makeKey_X11_smallAgain : GoodIn wsX11_makeKey (wsV RX11 299 RX11 yX11_smallAgain wsX11_smallAgain) := goodIn_app (goodIn_of _ (by decide +kernel)) ggX11_makeKey_X11_smallAgain
set_option maxRecDepth 20000 in
theorem ggX11_makeKey_X11_keySize : GoodIn wsX11_makeKey wsX11_keySize := goodIn_r _ [61, 7, 62, 63, 64, 65, 66, 67, 68, 69, 70, 71, 72, 73, 74, 75, 76, 77, 78, 79, 80, 81, 82, 83, 84, 85, 86, 87, 88, 89, 90, 91, 92, 93, 94, 95, 96, 97, 98, 99, 100, 101, 102, 103, 104, 105, 106] (by decide +kernel) (by decide +kernel)
set_option maxRecDepth 20000 in
theorem gX11_makeKey_X11_keySize : GoodIn wsX11_makeKey (wsV RX11 288 RX11 yX11_keySize wsX11_keySize) := goodIn_app (goodIn_of _ (by decide +kernel)) ggX11_makeKey_X11_keySize
theorem dX11_makeKey_0 : decode cX11_makeKey 0 = .ok (.aload_n 0, 1) := by decide +kernel
theorem dX11_makeKey_1 : decode cX11_makeKey 1 = .ok (.iconst 0, 1) := by decide +kernel
theorem dX11_makeKey_2 : decode cX11_makeKey 2 = .ok (.putfield 233, 3) := by decide +kernel
theorem dX11_makeKey_5 : decode cX11_makeKey 5 = .ok (.aload_n 0, 1) := by decide +kernel
theorem dX11_makeKey_6 : decode cX11_makeKey 6 = .ok (.aload_n 0, 1) := by decide +kernel
theorem dX11_makeKey_7 : decode cX11_makeKey 7 = .ok (.getfield 213, 3) := by decide +kernel
theorem dX11_makeKey_10 : decode cX11_makeKey 10 = .ok (.iconst 0, 1) := by decide +kernel
theorem dX11_makeKey_11 : decode cX11_makeKey 11 = .ok (.bipush 32, 2) := by decide +kernel
theorem dX11_makeKey_13 : decode cX11_makeKey 13 = .ok (.invokevirtual 292, 3) := by decide +kernel
theorem dX11_makeKey_16 : decode cX11_makeKey 16 = .ok (.aload_n 0, 1) := by decide +kernel
theorem dX11_makeKey_17 : decode cX11_makeKey 17 = .ok (.aload_n 0, 1) := by decide +kernel
theorem dX11_makeKey_18 : decode cX11_makeKey 18 = .ok (.getfield 25, 3) := by decide +kernel
theorem dX11_makeKey_21 : decode cX11_makeKey 21 = .ok (.iconst 0, 1) := by decide +kernel
theorem dX11_makeKey_22 : decode cX11_makeKey 22 = .ok (.bipush 32, 2) := by decide +kernel
theorem dX11_makeKey_24 : decode cX11_makeKey 24 = .ok (.invokevirtual 292, 3) := by decide +kernel
theorem dX11_makeKey_27 : decode cX11_makeKey 27 = .ok (.aload_n 0, 1) := by decide +kernel
theorem dX11_makeKey_28 : decode cX11_makeKey 28 = .ok (.aload_n 0, 1) := by decide +kernel
theorem dX11_makeKey_29 : decode cX11_makeKey 29 = .ok (.getfield 302, 3) := by decide +kernel
theorem dX11_makeKey_32 : decode cX11_makeKey 32 = .ok (.iconst 4, 1) := by decide +kernel
theorem dX11_makeKey_33 : decode cX11_makeKey 33 = .ok (.invokevirtual 305, 3) := by decide +kernel
theorem dX11_makeKey_36 : decode cX11_makeKey 36 = .ok (.aload_n 0, 1) := by decide +kernel
theorem dX11_makeKey_37 : decode cX11_makeKey 37 = .ok (.aload_n 0, 1) := by decide +kernel
theorem dX11_makeKey_38 : decode cX11_makeKey 38 = .ok (.getfield 19, 3) := by decide +kernel
theorem dX11_makeKey_41 : decode cX11_makeKey 41 = .ok (.iconst 0, 1) := by decide +kernel
theorem dX11_makeKey_42 : decode cX11_makeKey 42 = .ok (.aload_n 0, 1) := by decide +kernel
theorem dX11_makeKey_43 : decode cX11_makeKey 43 = .ok (.getfield 309, 3) := by decide +kernel
theorem dX11_makeKey_46 : decode cX11_makeKey 46 = .ok (.invokevirtual 292, 3) := by decide +kernel
theorem dX11_makeKey_49 : decode cX11_makeKey 49 = .ok (.aload_n 0, 1) := by decide +kernel
theorem dX11_makeKey_50 : decode cX11_makeKey 50 = .ok (.getfield 219, 3) := by decide +kernel
theorem dX11_makeKey_53 : decode cX11_makeKey 53 = .ok (.iconst 4, 1) := by decide +kernel
theorem dX11_makeKey_54 : decode cX11_makeKey 54 = .ok (.if_icmp .ne 16, 3) := by decide +kernel
theorem dX11_makeKey_57 : decode cX11_makeKey 57 = .ok (.aload_n 0, 1) := by decide +kernel
theorem dX11_makeKey_58 : decode cX11_makeKey 58 = .ok (.getfield 312, 3) := by decide +kernel
theorem dX11_makeKey_61 : decode cX11_makeKey 61 = .ok (.ifCond .eq 9, 3) := by decide +kernel
theorem dX11_makeKey_64 : decode cX11_makeKey 64 = .ok (.aload_n 0, 1) := by decide +kernel
theorem dX11_makeKey_65 : decode cX11_makeKey 65 = .ok (.iconst (-1), 1) := by decide +kernel
theorem dX11_makeKey_66 : decode cX11_makeKey 66 = .ok (.iconst 4, 1) := by decide +kernel
theorem dX11_makeKey_67 : decode cX11_makeKey 67 = .ok (.invokevirtual 305, 3) := by decide +kernel
theorem dX11_makeKey_70 : decode cX11_makeKey 70 = .ok (.aload_n 0, 1) := by decide +kernel
theorem dX11_makeKey_71 : decode cX11_makeKey 71 = .ok (.invokevirtual 296, 3) := by decide +kernel
theorem dX11_makeKey_74 : decode cX11_makeKey 74 = .ok (.aload_n 0, 1) := by decide +kernel
theorem dX11_makeKey_75 : decode cX11_makeKey 75 = .ok (.invokevirtual 299, 3) := by decide +kernel
theorem dX11_makeKey_78 : decode cX11_makeKey 78 = .ok (.iconst 0, 1) := by decide +kernel
theorem dX11_makeKey_79 : decode cX11_makeKey 79 = .ok (.istore_n 1, 1) := by decide +kernel
theorem dX11_makeKey_80 : decode cX11_makeKey 80 = .ok (.iload_n 1, 1) := by decide +kernel
theorem dX11_makeKey_81 : decode cX11_makeKey 81 = .ok (.aload_n 0, 1) := by decide +kernel
theorem dX11_makeKey_82 : decode cX11_makeKey 82 = .ok (.invokevirtual 288, 3) := by decide +kernel
theorem dX11_makeKey_85 : decode cX11_makeKey 85 = .ok (.if_icmp .ge 21, 3) := by decide +kernel
theorem dX11_makeKey_88 : decode cX11_makeKey 88 = .ok (.aload_n 0, 1) := by decide +kernel
theorem dX11_makeKey_89 : decode cX11_makeKey 89 = .ok (.getfield 31, 3) := by decide +kernel
theorem dX11_makeKey_92 : decode cX11_makeKey 92 = .ok (.iload_n 1, 1) := by decide +kernel
theorem dX11_makeKey_93 : decode cX11_makeKey 93 = .ok (.aload_n 0, 1) := by decide +kernel
theorem dX11_makeKey_94 : decode cX11_makeKey 94 = .ok (.getfield 43, 3) := by decide +kernel
theorem dX11_makeKey_97 : decode cX11_makeKey 97 = .ok (.iload_n 1, 1) := by decide +kernel
theorem dX11_makeKey_98 : decode cX11_makeKey 98 = .ok (.iaload, 1) := by decide +kernel
theorem dX11_makeKey_99 : decode cX11_makeKey 99 = .ok (.iastore, 1) := by decide +kernel
theorem dX11_makeKey_100 : decode cX11_makeKey 100 = .ok (.iinc 1 1, 3) := by decide +kernel
theorem dX11_makeKey_103 : decode cX11_makeKey 103 = .ok (.goto (-23), 3) := by decide +kernel
theorem dX11_makeKey_106 : decode cX11_makeKey 106 = .ok (.return_, 1) := by decide +kernel
set_option maxRecDepth 20000 in
theorem ggX11_check_X11_throughStream : GoodIn wsX11_check wsX11_throughStream := goodIn_ca (goodIn_r _ [12, 13, 52, 53, 54, 55, 56, 57, 58, 59, 60, 61, 62, 63, 64, 65, 66, 67, 68, 69, 70, 71, 72, 73, 74, 75, 76, 77, 78, 79, 80, 81, 82, 83, 84, 85, 86, 87, 88, 89, 90, 91, 92, 93, 94, 95, 96] (by decide +kernel) (by decide +kernel)) (goodIn_sub (fun _ h => List.mem_cons_of_mem _ (List.mem_append_right _ h)) (by decide +kernel))
set_option maxRecDepth 20000 in
theorem gX11_check_X11_throughStream : GoodIn wsX11_check (wsV RX11 316 RX11 yX11_throughStream wsX11_throughStream) := goodIn_app (goodIn_of _ (by decide +kernel)) ggX11_check_X11_throughStream
set_option maxRecDepth 20000 in
theorem ggX11_check_X11_sayRow : GoodIn wsX11_check wsX11_sayRow := goodIn_ca (goodIn_r _ [17, 18, 19, 20, 11, 21, 22, 4, 52, 53, 54, 55, 56, 57, 58, 59, 60, 61, 62, 63, 64, 65, 66, 67, 68, 69, 70, 71, 72, 73, 74, 75, 76, 77, 78, 79, 80, 81, 82, 83, 84, 85, 86, 87, 88, 89, 90, 91, 92, 93, 94, 95, 96] (by decide +kernel) (by decide +kernel)) (goodIn_sub (fun _ h => List.mem_cons_of_mem _ (List.mem_append_right _ h)) (by decide +kernel))
set_option maxRecDepth 20000 in
theorem gX11_check_X11_sayRow : GoodIn wsX11_check (wsV RX11 292 RX11 yX11_sayRow wsX11_sayRow) := goodIn_app (goodIn_of _ (by decide +kernel)) ggX11_check_X11_sayRow
set_option maxRecDepth 20000 in
theorem ggX11_check_X11_small : GoodIn wsX11_check wsX11_small := goodIn_ca (goodIn_r _ [26, 27, 28, 29, 30, 31, 32, 33, 34, 35, 36, 11, 37, 4, 18, 19, 20, 21, 22, 38, 39, 40, 41, 42, 43, 44, 45, 46, 47, 48, 49, 50, 51, 7, 52, 53, 54, 55, 56, 57, 58, 59, 60, 61, 62, 63, 64, 65, 66, 67, 68, 69, 70, 71, 72, 73, 74, 75, 76, 77, 78, 79, 80, 81, 82, 83, 84, 85, 86, 87, 88, 89, 90, 91, 92, 93, 94, 95, 96] (by decide +kernel) (by decide +kernel)) (goodIn_sub (fun _ h => List.mem_cons_of_mem _ (List.mem_append_right _ h)) (by decide +kernel))
set_option maxRecDepth 20000 in
theorem gX11_check_X11_small : GoodIn wsX11_check (wsV RX11 296 RX11 yX11_small wsX11_small) := goodIn_app (goodIn_of _ (by decide +kernel)) ggX11_check_X11_small
theorem dX11_check_0 : decode cX11_check 0 = .ok (.aload_n 0, 1) := by decide +kernel
theorem dX11_check_1 : decode cX11_check 1 = .ok (.getfield 219, 3) := by decide +kernel
theorem dX11_check_4 : decode cX11_check 4 = .ok (.iconst 2, 1) := by decide +kernel
theorem dX11_check_5 : decode cX11_check 5 = .ok (.if_icmp .ne 43, 3) := by decide +kernel
theorem dX11_check_8 : decode cX11_check 8 = .ok (.iconst 0, 1) := by decide +kernel
theorem dX11_check_9 : decode cX11_check 9 = .ok (.istore_n 3, 1) := by decide +kernel
theorem dX11_check_10 : decode cX11_check 10 = .ok (.iload_n 3, 1) := by decide +kernel
theorem dX11_check_11 : decode cX11_check 11 = .ok (.bipush 32, 2) := by decide +kernel
theorem dX11_check_13 : decode cX11_check 13 = .ok (.if_icmp .ge 20, 3) := by decide +kernel
theorem dX11_check_16 : decode cX11_check 16 = .ok (.aload_n 1, 1) := by decide +kernel
theorem dX11_check_17 : decode cX11_check 17 = .ok (.iload_n 2, 1) := by decide +kernel
theorem dX11_check_18 : decode cX11_check 18 = .ok (.iload_n 3, 1) := by decide +kernel
theorem dX11_check_19 : decode cX11_check 19 = .ok (.iadd, 1) := by decide +kernel
theorem dX11_check_20 : decode cX11_check 20 = .ok (.aload_n 0, 1) := by decide +kernel
theorem dX11_check_21 : decode cX11_check 21 = .ok (.getfield 55, 3) := by decide +kernel
theorem dX11_check_24 : decode cX11_check 24 = .ok (.iload_n 3, 1) := by decide +kernel
theorem dX11_check_25 : decode cX11_check 25 = .ok (.iaload, 1) := by decide +kernel
theorem dX11_check_26 : decode cX11_check 26 = .ok (.iastore, 1) := by decide +kernel
theorem dX11_check_27 : decode cX11_check 27 = .ok (.iinc 3 1, 3) := by decide +kernel
theorem dX11_check_30 : decode cX11_check 30 = .ok (.goto (-20), 3) := by decide +kernel
theorem dX11_check_33 : decode cX11_check 33 = .ok (.aload_n 0, 1) := by decide +kernel
theorem dX11_check_34 : decode cX11_check 34 = .ok (.aload_n 0, 1) := by decide +kernel
theorem dX11_check_35 : decode cX11_check 35 = .ok (.getfield 31, 3) := by decide +kernel
theorem dX11_check_38 : decode cX11_check 38 = .ok (.iconst 5, 1) := by decide +kernel
theorem dX11_check_39 : decode cX11_check 39 = .ok (.iconst 0, 1) := by decide +kernel
theorem dX11_check_40 : decode cX11_check 40 = .ok (.aload_n 1, 1) := by decide +kernel
theorem dX11_check_41 : decode cX11_check 41 = .ok (.iload_n 2, 1) := by decide +kernel
theorem dX11_check_42 : decode cX11_check 42 = .ok (.bipush 32, 2) := by decide +kernel
theorem dX11_check_44 : decode cX11_check 44 = .ok (.invokevirtual 316, 3) := by decide +kernel
theorem dX11_check_47 : decode cX11_check 47 = .ok (.return_, 1) := by decide +kernel
theorem dX11_check_48 : decode cX11_check 48 = .ok (.aload_n 0, 1) := by decide +kernel
theorem dX11_check_49 : decode cX11_check 49 = .ok (.iconst 0, 1) := by decide +kernel
theorem dX11_check_50 : decode cX11_check 50 = .ok (.putfield 233, 3) := by decide +kernel
theorem dX11_check_53 : decode cX11_check 53 = .ok (.aload_n 0, 1) := by decide +kernel
theorem dX11_check_54 : decode cX11_check 54 = .ok (.aload_n 0, 1) := by decide +kernel
theorem dX11_check_55 : decode cX11_check 55 = .ok (.getfield 55, 3) := by decide +kernel
theorem dX11_check_58 : decode cX11_check 58 = .ok (.iconst 0, 1) := by decide +kernel
theorem dX11_check_59 : decode cX11_check 59 = .ok (.bipush 32, 2) := by decide +kernel
