theorem dX11_check_61 : decode cX11_check 61 = .ok (.invokevirtual 292, 3) := by decide +kernel
theorem dX11_check_64 : decode cX11_check 64 = .ok (.aload_n 0, 1) := by decide +kernel
theorem dX11_check_65 : decode cX11_check 65 = .ok (.aload_n 0, 1) := by decide +kernel
theorem dX11_check_66 : decode cX11_check 66 = .ok (.getfield 19, 3) := by decide +kernel
theorem dX11_check_69 : decode cX11_check 69 = .ok (.iconst 0, 1) := by decide +kernel
theorem dX11_check_70 : decode cX11_check 70 = .ok (.aload_n 0, 1) := by decide +kernel
theorem dX11_check_71 : decode cX11_check 71 = .ok (.getfield 309, 3) := by decide +kernel
theorem dX11_check_74 : decode cX11_check 74 = .ok (.invokevirtual 292, 3) := by decide +kernel
theorem dX11_check_77 : decode cX11_check 77 = .ok (.aload_n 0, 1) := by decide +kernel
theorem dX11_check_78 : decode cX11_check 78 = .ok (.invokevirtual 296, 3) := by decide +kernel
theorem dX11_check_81 : decode cX11_check 81 = .ok (.iconst 0, 1) := by decide +kernel
theorem dX11_check_82 : decode cX11_check 82 = .ok (.istore_n 3, 1) := by decide +kernel
theorem dX11_check_83 : decode cX11_check 83 = .ok (.iload_n 3, 1) := by decide +kernel
theorem dX11_check_84 : decode cX11_check 84 = .ok (.bipush 32, 2) := by decide +kernel
theorem dX11_check_86 : decode cX11_check 86 = .ok (.if_icmp .ge 30, 3) := by decide +kernel
theorem dX11_check_89 : decode cX11_check 89 = .ok (.aload_n 1, 1) := by decide +kernel
theorem dX11_check_90 : decode cX11_check 90 = .ok (.iload_n 2, 1) := by decide +kernel
theorem dX11_check_91 : decode cX11_check 91 = .ok (.iload_n 3, 1) := by decide +kernel
theorem dX11_check_92 : decode cX11_check 92 = .ok (.iadd, 1) := by decide +kernel
theorem dX11_check_93 : decode cX11_check 93 = .ok (.iload_n 3, 1) := by decide +kernel
theorem dX11_check_94 : decode cX11_check 94 = .ok (.bipush 16, 2) := by decide +kernel
theorem dX11_check_96 : decode cX11_check 96 = .ok (.if_icmp .ge 12, 3) := by decide +kernel
theorem dX11_check_99 : decode cX11_check 99 = .ok (.aload_n 0, 1) := by decide +kernel
theorem dX11_check_100 : decode cX11_check 100 = .ok (.getfield 43, 3) := by decide +kernel
theorem dX11_check_103 : decode cX11_check 103 = .ok (.iload_n 3, 1) := by decide +kernel
theorem dX11_check_104 : decode cX11_check 104 = .ok (.iaload, 1) := by decide +kernel
theorem dX11_check_105 : decode cX11_check 105 = .ok (.goto 4, 3) := by decide +kernel
theorem dX11_check_108 : decode cX11_check 108 = .ok (.iconst 0, 1) := by decide +kernel
theorem dX11_check_109 : decode cX11_check 109 = .ok (.iastore, 1) := by decide +kernel
theorem dX11_check_110 : decode cX11_check 110 = .ok (.iinc 3 1, 3) := by decide +kernel
theorem dX11_check_113 : decode cX11_check 113 = .ok (.goto (-30), 3) := by decide +kernel
theorem dX11_check_116 : decode cX11_check 116 = .ok (.iconst 0, 1) := by decide +kernel
theorem dX11_check_117 : decode cX11_check 117 = .ok (.istore_n 3, 1) := by decide +kernel
theorem dX11_check_118 : decode cX11_check 118 = .ok (.iload_n 3, 1) := by decide +kernel
theorem dX11_check_119 : decode cX11_check 119 = .ok (.bipush 20, 2) := by decide +kernel
theorem dX11_check_121 : decode cX11_check 121 = .ok (.if_icmp .ge 24, 3) := by decide +kernel
theorem dX11_check_124 : decode cX11_check 124 = .ok (.aload_n 0, 1) := by decide +kernel
theorem dX11_check_125 : decode cX11_check 125 = .ok (.aload_n 0, 1) := by decide +kernel
theorem dX11_check_126 : decode cX11_check 126 = .ok (.getfield 31, 3) := by decide +kernel
theorem dX11_check_129 : decode cX11_check 129 = .ok (.bipush 16, 2) := by decide +kernel
theorem dX11_check_131 : decode cX11_check 131 = .ok (.iload_n 3, 1) := by decide +kernel
theorem dX11_check_132 : decode cX11_check 132 = .ok (.aload_n 1, 1) := by decide +kernel
theorem dX11_check_133 : decode cX11_check 133 = .ok (.iload_n 2, 1) := by decide +kernel
theorem dX11_check_134 : decode cX11_check 134 = .ok (.bipush 16, 2) := by decide +kernel
theorem dX11_check_136 : decode cX11_check 136 = .ok (.invokevirtual 316, 3) := by decide +kernel
theorem dX11_check_139 : decode cX11_check 139 = .ok (.iinc 3 1, 3) := by decide +kernel
theorem dX11_check_142 : decode cX11_check 142 = .ok (.goto (-24), 3) := by decide +kernel
theorem dX11_check_145 : decode cX11_check 145 = .ok (.return_, 1) := by decide +kernel
set_option maxRecDepth 20000 in
theorem ggX11_makeEarly_X11_pad : GoodIn wsX11_makeEarly wsX11_pad := goodIn_ca (goodIn_r _ [14, 7, 15, 90, 91, 92, 93, 94, 95, 96, 97, 98, 99, 100, 101, 102, 103, 104, 105, 106, 107, 108, 109, 110, 111, 112, 113, 114, 115, 116, 117, 118, 119, 120, 121, 122, 123, 124, 125, 126, 127, 128, 129, 130, 131, 132, 133, 134] (by decide +kernel) (by decide +kernel)) (goodIn_sub (fun _ h => List.mem_cons_of_mem _ (List.mem_append_right _ h)) (by decide +kernel))
set_option maxRecDepth 20000 in
theorem gX11_makeEarly_X11_pad : GoodIn wsX11_makeEarly (wsV RX11 326 RX11 yX11_pad wsX11_pad) := goodIn_app (goodIn_of _ (by decide +kernel)) ggX11_makeEarly_X11_pad
set_option maxRecDepth 20000 in
theorem ggX11_makeEarly_X11_makeOwnerKey : GoodIn wsX11_makeEarly wsX11_makeOwnerKey := goodIn_ca (goodIn_r _ [19, 20, 7, 9, 21, 22, 23, 24, 13, 25, 26, 27, 28, 29, 30, 31, 32, 33, 34, 35, 36, 37, 38, 39, 40, 41, 42, 43, 44, 45, 46, 47, 48, 49, 50, 51, 52, 53, 54, 55, 56, 57, 58, 59, 60, 61, 62, 63, 8, 64, 65, 66, 67, 90, 91, 92, 93, 94, 95, 96, 97, 98, 99, 100, 101, 102, 103, 104, 105, 106, 107, 108, 109, 110, 111, 112, 113, 114, 115, 116, 117, 118, 119, 120, 121, 122, 123, 124, 125, 126, 127, 128, 129, 130, 131, 132, 133, 134] (by decide +kernel) (by decide +kernel)) (goodIn_sub (fun _ h => List.mem_cons_of_mem _ (List.mem_append_right _ h)) (by decide +kernel))
set_option maxRecDepth 20000 in
theorem gX11_makeEarly_X11_makeOwnerKey : GoodIn wsX11_makeEarly (wsV RX11 330 RX11 yX11_makeOwnerKey wsX11_makeOwnerKey) := goodIn_app (goodIn_of _ (by decide +kernel)) ggX11_makeEarly_X11_makeOwnerKey
set_option maxRecDepth 20000 in
theorem ggX11_makeEarly_X11_keySize : GoodIn wsX11_makeEarly wsX11_keySize := goodIn_r _ [67, 8, 90, 91, 92, 93, 94, 95, 96, 97, 98, 99, 100, 101, 102, 103, 104, 105, 106, 107, 108, 109, 110, 111, 112, 113, 114, 115, 116, 117, 118, 119, 120, 121, 122, 123, 124, 125, 126, 127, 128, 129, 130, 131, 132, 133, 134] (by decide +kernel) (by decide +kernel)
set_option maxRecDepth 20000 in
theorem gX11_makeEarly_X11_keySize : GoodIn wsX11_makeEarly (wsV RX11 288 RX11 yX11_keySize wsX11_keySize) := goodIn_app (goodIn_of _ (by decide +kernel)) ggX11_makeEarly_X11_keySize
set_option maxRecDepth 20000 in
theorem ggX11_makeEarly_X11_throughStream : GoodIn wsX11_makeEarly wsX11_throughStream := goodIn_ca (goodIn_r _ [71, 72, 90, 91, 92, 93, 94, 95, 96, 97, 98, 99, 100, 101, 102, 103, 104, 105, 106, 107, 108, 109, 110, 111, 112, 113, 114, 115, 116, 117, 118, 119, 120, 121, 122, 123, 124, 125, 126, 127, 128, 129, 130, 131, 132, 133, 134] (by decide +kernel) (by decide +kernel)) (goodIn_sub (fun _ h => List.mem_cons_of_mem _ (List.mem_append_right _ h)) (by decide +kernel))
set_option maxRecDepth 20000 in
theorem gX11_makeEarly_X11_throughStream : GoodIn wsX11_makeEarly (wsV RX11 316 RX11 yX11_throughStream wsX11_throughStream) := goodIn_app (goodIn_of _ (by decide +kernel)) ggX11_makeEarly_X11_throughStream
set_option maxRecDepth 20000 in
theorem ggX11_makeEarly_X11_makeKey : GoodIn wsX11_makeEarly wsX11_makeKey := goodIn_ca (goodIn_r _ [76, 20, 7, 6, 77, 78, 79, 8, 80, 81, 21, 22, 23, 24, 13, 25, 26, 27, 28, 29, 30, 82, 83, 84, 85, 31, 32, 33, 34, 35, 36, 37, 38, 39, 40, 41, 42, 43, 44, 45, 46, 47, 48, 49, 50, 51, 52, 53, 54, 55, 56, 57, 58, 59, 60, 61, 62, 63, 64, 65, 66, 67, 90, 91, 92, 93, 94, 95, 96, 97, 98, 99, 100, 101, 102, 103, 104, 105, 106, 107, 108, 109, 110, 111, 112, 113, 114, 115, 116, 117, 118, 119, 120, 121, 122, 123, 124, 125, 126, 127, 128, 129, 130, 131, 132, 133, 134] (by decide +kernel) (by decide +kernel)) (goodIn_sub (fun _ h => List.mem_cons_of_mem _ (List.mem_append_right _ h)) (by decide +kernel))
set_option maxRecDepth 20000 in
theorem gX11_makeEarly_X11_makeKey : GoodIn wsX11_makeEarly (wsV RX11 333 RX11 yX11_makeKey wsX11_makeKey) := goodIn_app (goodIn_of _ (by decide +kernel)) ggX11_makeEarly_X11_makeKey
set_option maxRecDepth 20000 in
theorem ggX11_makeEarly_X11_check : GoodIn wsX11_makeEarly wsX11_check := goodIn_ca (goodIn_r _ [89, 8, 15, 81, 20, 78, 79, 21, 68, 69, 70, 13, 71, 72, 22, 23, 24, 25, 26, 27, 28, 29, 30, 31, 32, 33, 34, 35, 36, 37, 38, 39, 40, 41, 42, 43, 44, 45, 46, 47, 48, 49, 50, 51, 52, 53, 54, 55, 56, 57, 58, 59, 90, 91, 92, 93, 94, 95, 96, 97, 98, 99, 100, 101, 102, 103, 104, 105, 106, 107, 108, 109, 110, 111, 112, 113, 114, 115, 116, 117, 118, 119, 120, 121, 122, 123, 124, 125, 126, 127, 128, 129, 130, 131, 132, 133, 134] (by decide +kernel) (by decide +kernel)) (goodIn_sub (fun _ h => List.mem_cons_of_mem _ (List.mem_append_right _ h)) (by decide +kernel))
set_option maxRecDepth 20000 in
theorem gX11_makeEarly_X11_check : GoodIn wsX11_makeEarly (wsV RX11 336 RX11 yX11_check wsX11_check) := goodIn_app (goodIn_of _ (by decide +kernel)) ggX11_makeEarly_X11_check
theorem dX11_makeEarly_0 : decode cX11_makeEarly 0 = .ok (.aload_n 0, 1) := by decide +kernel
theorem dX11_makeEarly_1 : decode cX11_makeEarly 1 = .ok (.getfield 28, 3) := by decide +kernel
theorem dX11_makeEarly_4 : decode cX11_makeEarly 4 = .ok (.iconst 0, 1) := by decide +kernel
theorem dX11_makeEarly_5 : decode cX11_makeEarly 5 = .ok (.bipush 32, 2) := by decide +kernel
theorem dX11_makeEarly_7 : decode cX11_makeEarly 7 = .ok (.iastore, 1) := by decide +kernel
theorem dX11_makeEarly_8 : decode cX11_makeEarly 8 = .ok (.aload_n 0, 1) := by decide +kernel
theorem dX11_makeEarly_9 : decode cX11_makeEarly 9 = .ok (.getfield 28, 3) := by decide +kernel
theorem dX11_makeEarly_12 : decode cX11_makeEarly 12 = .ok (.iconst 1, 1) := by decide +kernel
theorem dX11_makeEarly_13 : decode cX11_makeEarly 13 = .ok (.bipush 32, 2) := by decide +kernel
theorem dX11_makeEarly_15 : decode cX11_makeEarly 15 = .ok (.iastore, 1) := by decide +kernel
theorem dX11_makeEarly_16 : decode cX11_makeEarly 16 = .ok (.aload_n 0, 1) := by decide +kernel
theorem dX11_makeEarly_17 : decode cX11_makeEarly 17 = .ok (.getfield 320, 3) := by decide +kernel
theorem dX11_makeEarly_20 : decode cX11_makeEarly 20 = .ok (.ifCond .ne 18, 3) := by decide +kernel
theorem dX11_makeEarly_23 : decode cX11_makeEarly 23 = .ok (.aload_n 0, 1) := by decide +kernel
theorem dX11_makeEarly_24 : decode cX11_makeEarly 24 = .ok (.aload_n 0, 1) := by decide +kernel
theorem dX11_makeEarly_25 : decode cX11_makeEarly 25 = .ok (.getfield 7, 3) := by decide +kernel
theorem dX11_makeEarly_28 : decode cX11_makeEarly 28 = .ok (.aload_n 0, 1) := by decide +kernel
theorem dX11_makeEarly_29 : decode cX11_makeEarly 29 = .ok (.getfield 323, 3) := by decide +kernel
theorem dX11_makeEarly_32 : decode cX11_makeEarly 32 = .ok (.invokevirtual 326, 3) := by decide +kernel
theorem dX11_makeEarly_35 : decode cX11_makeEarly 35 = .ok (.goto 15, 3) := by decide +kernel
theorem dX11_makeEarly_38 : decode cX11_makeEarly 38 = .ok (.aload_n 0, 1) := by decide +kernel
theorem dX11_makeEarly_39 : decode cX11_makeEarly 39 = .ok (.aload_n 0, 1) := by decide +kernel
theorem dX11_makeEarly_40 : decode cX11_makeEarly 40 = .ok (.getfield 13, 3) := by decide +kernel
theorem dX11_makeEarly_43 : decode cX11_makeEarly 43 = .ok (.aload_n 0, 1) := by decide +kernel
theorem dX11_makeEarly_44 : decode cX11_makeEarly 44 = .ok (.getfield 320, 3) := by decide +kernel
theorem dX11_makeEarly_47 : decode cX11_makeEarly 47 = .ok (.invokevirtual 326, 3) := by decide +kernel
theorem dX11_makeEarly_50 : decode cX11_makeEarly 50 = .ok (.aload_n 0, 1) := by decide +kernel
theorem dX11_makeEarly_51 : decode cX11_makeEarly 51 = .ok (.invokevirtual 330, 3) := by decide +kernel
theorem dX11_makeEarly_54 : decode cX11_makeEarly 54 = .ok (.aload_n 0, 1) := by decide +kernel
theorem dX11_makeEarly_55 : decode cX11_makeEarly 55 = .ok (.aload_n 0, 1) := by decide +kernel
theorem dX11_makeEarly_56 : decode cX11_makeEarly 56 = .ok (.getfield 7, 3) := by decide +kernel
theorem dX11_makeEarly_59 : decode cX11_makeEarly 59 = .ok (.aload_n 0, 1) := by decide +kernel
theorem dX11_makeEarly_60 : decode cX11_makeEarly 60 = .ok (.getfield 323, 3) := by decide +kernel
theorem dX11_makeEarly_63 : decode cX11_makeEarly 63 = .ok (.invokevirtual 326, 3) := by decide +kernel
theorem dX11_makeEarly_66 : decode cX11_makeEarly 66 = .ok (.iconst 0, 1) := by decide +kernel
theorem dX11_makeEarly_67 : decode cX11_makeEarly 67 = .ok (.istore_n 1, 1) := by decide +kernel
theorem dX11_makeEarly_68 : decode cX11_makeEarly 68 = .ok (.iload_n 1, 1) := by decide +kernel
theorem dX11_makeEarly_69 : decode cX11_makeEarly 69 = .ok (.bipush 32, 2) := by decide +kernel
theorem dX11_makeEarly_71 : decode cX11_makeEarly 71 = .ok (.if_icmp .ge 21, 3) := by decide +kernel
theorem dX11_makeEarly_74 : decode cX11_makeEarly 74 = .ok (.aload_n 0, 1) := by decide +kernel
theorem dX11_makeEarly_75 : decode cX11_makeEarly 75 = .ok (.getfield 25, 3) := by decide +kernel
theorem dX11_makeEarly_78 : decode cX11_makeEarly 78 = .ok (.iload_n 1, 1) := by decide +kernel
theorem dX11_makeEarly_79 : decode cX11_makeEarly 79 = .ok (.aload_n 0, 1) := by decide +kernel
theorem dX11_makeEarly_80 : decode cX11_makeEarly 80 = .ok (.getfield 213, 3) := by decide +kernel
theorem dX11_makeEarly_83 : decode cX11_makeEarly 83 = .ok (.iload_n 1, 1) := by decide +kernel
theorem dX11_makeEarly_84 : decode cX11_makeEarly 84 = .ok (.iaload, 1) := by decide +kernel
theorem dX11_makeEarly_85 : decode cX11_makeEarly 85 = .ok (.iastore, 1) := by decide +kernel
theorem dX11_makeEarly_86 : decode cX11_makeEarly 86 = .ok (.iinc 1 1, 3) := by decide +kernel
theorem dX11_makeEarly_89 : decode cX11_makeEarly 89 = .ok (.goto (-21), 3) := by decide +kernel
theorem dX11_makeEarly_92 : decode cX11_makeEarly 92 = .ok (.iconst 0, 1) := by decide +kernel
theorem dX11_makeEarly_93 : decode cX11_makeEarly 93 = .ok (.istore_n 1, 1) := by decide +kernel
theorem dX11_makeEarly_94 : decode cX11_makeEarly 94 = .ok (.iload_n 1, 1) := by decide +kernel
theorem dX11_makeEarly_95 : decode cX11_makeEarly 95 = .ok (.bipush 20, 2) := by decide +kernel
theorem dX11_makeEarly_97 : decode cX11_makeEarly 97 = .ok (.if_icmp .ge 41, 3) := by decide +kernel
theorem dX11_makeEarly_100 : decode cX11_makeEarly 100 = .ok (.iload_n 1, 1) := by decide +kernel
theorem dX11_makeEarly_101 : decode cX11_makeEarly 101 = .ok (.ifCond .eq 11, 3) := by decide +kernel
theorem dX11_makeEarly_104 : decode cX11_makeEarly 104 = .ok (.aload_n 0, 1) := by decide +kernel
theorem dX11_makeEarly_105 : decode cX11_makeEarly 105 = .ok (.getfield 219, 3) := by decide +kernel
theorem dX11_makeEarly_108 : decode cX11_makeEarly 108 = .ok (.iconst 2, 1) := by decide +kernel
theorem dX11_makeEarly_109 : decode cX11_makeEarly 109 = .ok (.if_icmp .le 23, 3) := by decide +kernel
theorem dX11_makeEarly_112 : decode cX11_makeEarly 112 = .ok (.aload_n 0, 1) := by decide +kernel
theorem dX11_makeEarly_113 : decode cX11_makeEarly 113 = .ok (.aload_n 0, 1) := by decide +kernel
theorem dX11_makeEarly_114 : decode cX11_makeEarly 114 = .ok (.getfield 216, 3) := by decide +kernel
theorem dX11_makeEarly_117 : decode cX11_makeEarly 117 = .ok (.aload_n 0, 1) := by decide +kernel
theorem dX11_makeEarly_118 : decode cX11_makeEarly 118 = .ok (.invokevirtual 288, 3) := by decide +kernel
theorem dX11_makeEarly_121 : decode cX11_makeEarly 121 = .ok (.iload_n 1, 1) := by decide +kernel
theorem dX11_makeEarly_122 : decode cX11_makeEarly 122 = .ok (.aload_n 0, 1) := by decide +kernel
theorem dX11_makeEarly_123 : decode cX11_makeEarly 123 = .ok (.getfield 25, 3) := by decide +kernel
theorem dX11_makeEarly_126 : decode cX11_makeEarly 126 = .ok (.iconst 0, 1) := by decide +kernel
theorem dX11_makeEarly_127 : decode cX11_makeEarly 127 = .ok (.bipush 32, 2) := by decide +kernel
theorem dX11_makeEarly_129 : decode cX11_makeEarly 129 = .ok (.invokevirtual 316, 3) := by decide +kernel
theorem dX11_makeEarly_132 : decode cX11_makeEarly 132 = .ok (.iinc 1 1, 3) := by decide +kernel
theorem dX11_makeEarly_135 : decode cX11_makeEarly 135 = .ok (.goto (-41), 3) := by decide +kernel
theorem dX11_makeEarly_138 : decode cX11_makeEarly 138 = .ok (.aload_n 0, 1) := by decide +kernel
theorem dX11_makeEarly_139 : decode cX11_makeEarly 139 = .ok (.invokevirtual 333, 3) := by decide +kernel
theorem dX11_makeEarly_142 : decode cX11_makeEarly 142 = .ok (.aload_n 0, 1) := by decide +kernel
theorem dX11_makeEarly_143 : decode cX11_makeEarly 143 = .ok (.aload_n 0, 1) := by decide +kernel
theorem dX11_makeEarly_144 : decode cX11_makeEarly 144 = .ok (.getfield 25, 3) := by decide +kernel
theorem dX11_makeEarly_147 : decode cX11_makeEarly 147 = .ok (.bipush 48, 2) := by decide +kernel
theorem dX11_makeEarly_149 : decode cX11_makeEarly 149 = .ok (.invokevirtual 336, 3) := by decide +kernel
theorem dX11_makeEarly_152 : decode cX11_makeEarly 152 = .ok (.iconst 2, 1) := by decide +kernel
theorem dX11_makeEarly_153 : decode cX11_makeEarly 153 = .ok (.ireturn, 1) := by decide +kernel
set_option maxRecDepth 20000 in
theorem ggX11_opensEarly_X11_makeKey : GoodIn wsX11_opensEarly wsX11_makeKey := goodIn_ca (goodIn_r _ [8, 9, 10, 3, 11, 12, 13, 2, 14, 15, 16, 17, 18, 19, 7, 20, 21, 22, 23, 24, 25, 26, 27, 28, 29, 30, 31, 32, 33, 34, 35, 36, 37, 38, 39, 40, 41, 42, 43, 44, 45, 46, 47, 48, 49, 50, 51, 52, 53, 54, 55, 56, 57, 58, 59, 60, 61, 62, 63, 64, 65, 66, 77, 78, 79, 80, 81, 82, 83, 84, 85, 86, 87, 88, 89, 90, 91, 92, 93, 94, 95, 96, 97, 98, 99, 100, 101, 102, 103, 104, 105, 106, 107, 108, 109, 110, 111, 112, 113, 114, 115, 116, 117, 118, 119, 120, 121] (by decide +kernel) (by decide +kernel)) (goodIn_sub (fun _ h => List.mem_cons_of_mem _ (List.mem_append_right _ h)) (by decide +kernel))
set_option maxRecDepth 20000 in
theorem gX11_opensEarly_X11_makeKey : GoodIn wsX11_opensEarly (wsV RX11 333 RX11 yX11_makeKey wsX11_makeKey) := goodIn_app (goodIn_of _ (by decide +kernel)) ggX11_opensEarly_X11_makeKey
set_option maxRecDepth 20000 in
theorem ggX11_opensEarly_X11_check : GoodIn wsX11_opensEarly wsX11_check := goodIn_ca (goodIn_r _ [70, 2, 71, 15, 9, 12, 13, 16, 72, 73, 74, 7, 75, 76, 17, 18, 19, 20, 21, 22, 23, 24, 25, 30, 31, 32, 33, 34, 35, 36, 37, 38, 39, 40, 41, 42, 43, 44, 45, 46, 47, 48, 49, 50, 51, 52, 53, 54, 55, 56, 57, 58, 77, 78, 79, 80, 81, 82, 83, 84, 85, 86, 87, 88, 89, 90, 91, 92, 93, 94, 95, 96, 97, 98, 99, 100, 101, 102, 103, 104, 105, 106, 107, 108, 109, 110, 111, 112, 113, 114, 115, 116, 117, 118, 119, 120, 121] (by decide +kernel) (by decide +kernel)) (goodIn_sub (fun _ h => List.mem_cons_of_mem _ (List.mem_append_right _ h)) (by decide +kernel))
set_option maxRecDepth 20000 in
theorem gX11_opensEarly_X11_check : GoodIn wsX11_opensEarly (wsV RX11 336 RX11 yX11_check wsX11_check) := goodIn_app (goodIn_of _ (by decide +kernel)) ggX11_opensEarly_X11_check
theorem dX11_opensEarly_0 : decode cX11_opensEarly 0 = .ok (.aload_n 0, 1) := by decide +kernel
theorem dX11_opensEarly_1 : decode cX11_opensEarly 1 = .ok (.invokevirtual 333, 3) := by decide +kernel
theorem dX11_opensEarly_4 : decode cX11_opensEarly 4 = .ok (.aload_n 0, 1) := by decide +kernel
theorem dX11_opensEarly_5 : decode cX11_opensEarly 5 = .ok (.aload_n 0, 1) := by decide +kernel
theorem dX11_opensEarly_6 : decode cX11_opensEarly 6 = .ok (.getfield 210, 3) := by decide +kernel
theorem dX11_opensEarly_9 : decode cX11_opensEarly 9 = .ok (.iconst 0, 1) := by decide +kernel
theorem dX11_opensEarly_10 : decode cX11_opensEarly 10 = .ok (.invokevirtual 336, 3) := by decide +kernel
theorem dX11_opensEarly_13 : decode cX11_opensEarly 13 = .ok (.iconst 1, 1) := by decide +kernel
theorem dX11_opensEarly_14 : decode cX11_opensEarly 14 = .ok (.istore_n 1, 1) := by decide +kernel
theorem dX11_opensEarly_15 : decode cX11_opensEarly 15 = .ok (.iconst 0, 1) := by decide +kernel
theorem dX11_opensEarly_16 : decode cX11_opensEarly 16 = .ok (.istore_n 2, 1) := by decide +kernel
theorem dX11_opensEarly_17 : decode cX11_opensEarly 17 = .ok (.iload_n 2, 1) := by decide +kernel
theorem dX11_opensEarly_18 : decode cX11_opensEarly 18 = .ok (.aload_n 0, 1) := by decide +kernel
theorem dX11_opensEarly_19 : decode cX11_opensEarly 19 = .ok (.getfield 219, 3) := by decide +kernel
theorem dX11_opensEarly_22 : decode cX11_opensEarly 22 = .ok (.iconst 2, 1) := by decide +kernel
theorem dX11_opensEarly_23 : decode cX11_opensEarly 23 = .ok (.if_icmp .ne 8, 3) := by decide +kernel
theorem dX11_opensEarly_26 : decode cX11_opensEarly 26 = .ok (.bipush 32, 2) := by decide +kernel
theorem dX11_opensEarly_28 : decode cX11_opensEarly 28 = .ok (.goto 5, 3) := by decide +kernel
theorem dX11_opensEarly_31 : decode cX11_opensEarly 31 = .ok (.bipush 16, 2) := by decide +kernel
theorem dX11_opensEarly_33 : decode cX11_opensEarly 33 = .ok (.if_icmp .ge 37, 3) := by decide +kernel
theorem dX11_opensEarly_36 : decode cX11_opensEarly 36 = .ok (.iload_n 1, 1) := by decide +kernel
theorem dX11_opensEarly_37 : decode cX11_opensEarly 37 = .ok (.ifCond .eq 25, 3) := by decide +kernel
theorem dX11_opensEarly_40 : decode cX11_opensEarly 40 = .ok (.aload_n 0, 1) := by decide +kernel
theorem dX11_opensEarly_41 : decode cX11_opensEarly 41 = .ok (.getfield 210, 3) := by decide +kernel
theorem dX11_opensEarly_44 : decode cX11_opensEarly 44 = .ok (.iload_n 2, 1) := by decide +kernel
theorem dX11_opensEarly_45 : decode cX11_opensEarly 45 = .ok (.iaload, 1) := by decide +kernel
theorem dX11_opensEarly_46 : decode cX11_opensEarly 46 = .ok (.aload_n 0, 1) := by decide +kernel
theorem dX11_opensEarly_47 : decode cX11_opensEarly 47 = .ok (.getfield 25, 3) := by decide +kernel
theorem dX11_opensEarly_50 : decode cX11_opensEarly 50 = .ok (.bipush 48, 2) := by decide +kernel
theorem dX11_opensEarly_52 : decode cX11_opensEarly 52 = .ok (.iload_n 2, 1) := by decide +kernel
theorem dX11_opensEarly_53 : decode cX11_opensEarly 53 = .ok (.iadd, 1) := by decide +kernel
theorem dX11_opensEarly_54 : decode cX11_opensEarly 54 = .ok (.iaload, 1) := by decide +kernel
theorem dX11_opensEarly_55 : decode cX11_opensEarly 55 = .ok (.if_icmp .ne 7, 3) := by decide +kernel
theorem dX11_opensEarly_58 : decode cX11_opensEarly 58 = .ok (.iconst 1, 1) := by decide +kernel
theorem dX11_opensEarly_59 : decode cX11_opensEarly 59 = .ok (.goto 4, 3) := by decide +kernel
theorem dX11_opensEarly_62 : decode cX11_opensEarly 62 = .ok (.iconst 0, 1) := by decide +kernel
theorem dX11_opensEarly_63 : decode cX11_opensEarly 63 = .ok (.istore_n 1, 1) := by decide +kernel
theorem dX11_opensEarly_64 : decode cX11_opensEarly 64 = .ok (.iinc 2 1, 3) := by decide +kernel
theorem dX11_opensEarly_67 : decode cX11_opensEarly 67 = .ok (.goto (-50), 3) := by decide +kernel
theorem dX11_opensEarly_70 : decode cX11_opensEarly 70 = .ok (.iload_n 1, 1) := by decide +kernel
theorem dX11_opensEarly_71 : decode cX11_opensEarly 71 = .ok (.ireturn, 1) := by decide +kernel
set_option maxRecDepth 20000 in
theorem ggX11_openEarly_X11_pad : GoodIn wsX11_openEarly wsX11_pad := goodIn_ca (goodIn_r _ [11, 3, 12, 92, 93, 94, 95, 96, 97, 98, 99, 100, 101, 102, 103, 104, 105, 106, 107, 108, 109, 110, 111, 112, 113, 114, 115, 116, 117, 118, 119, 120, 121, 122, 123, 124, 125, 126, 127, 128, 129, 130, 131, 132, 133, 134, 135, 136] (by decide +kernel) (by decide +kernel)) (goodIn_sub (fun _ h => List.mem_cons_of_mem _ (List.mem_append_right _ h)) (by decide +kernel))
set_option maxRecDepth 20000 in
theorem gX11_openEarly_X11_pad : GoodIn wsX11_openEarly (wsV RX11 326 RX11 yX11_pad wsX11_pad) := goodIn_app (goodIn_of _ (by decide +kernel)) ggX11_openEarly_X11_pad
set_option maxRecDepth 20000 in
theorem ggX11_openEarly_X11_opensEarly : GoodIn wsX11_openEarly wsX11_opensEarly := goodIn_ca (goodIn_r _ [16, 17, 5, 4, 18, 19, 20, 10, 21, 22, 3, 23, 24, 25, 26, 27, 28, 29, 30, 31, 32, 33, 34, 35, 36, 37, 38, 39, 40, 41, 42, 43, 44, 45, 46, 47, 48, 49, 50, 51, 52, 53, 54, 55, 56, 57, 58, 59, 60, 61, 62, 63, 64, 65, 66, 67, 68, 69, 70, 71, 72, 73, 74, 75, 76, 77, 78, 79, 80, 81, 82, 12, 83, 84, 85, 86, 87, 92, 93, 94, 95, 96, 97, 98, 99, 100, 101, 102, 103, 104, 105, 106, 107, 108, 109, 110, 111, 112, 113, 114, 115, 116, 117, 118, 119, 120, 121, 122, 123, 124, 125, 126, 127, 128, 129, 130, 131, 132, 133, 134, 135, 136] (by decide +kernel) (by decide +kernel)) (goodIn_sub (fun _ h => List.mem_cons_of_mem _ (List.mem_append_right _ h)) (by decide +kernel))
set_option maxRecDepth 20000 in
theorem gX11_openEarly_X11_opensEarly : GoodIn wsX11_openEarly (wsV RX11 342 RX11 yX11_opensEarly wsX11_opensEarly) := goodIn_app (goodIn_of _ (by decide +kernel)) ggX11_openEarly_X11_opensEarly
set_option maxRecDepth 20000 in
theorem ggX11_openEarly_X11_makeOwnerKey : GoodIn wsX11_openEarly wsX11_makeOwnerKey := goodIn_ca (goodIn_r _ [91, 22, 3, 6, 28, 29, 30, 31, 10, 32, 33, 34, 35, 36, 37, 42, 43, 44, 45, 46, 47, 48, 49, 50, 51, 52, 53, 54, 55, 56, 57, 58, 59, 60, 61, 62, 63, 64, 65, 66, 67, 68, 69, 70, 71, 72, 73, 74, 5, 75, 76, 77, 78, 92, 93, 94, 95, 96, 97, 98, 99, 100, 101, 102, 103, 104, 105, 106, 107, 108, 109, 110, 111, 112, 113, 114, 115, 116, 117, 118, 119, 120, 121, 122, 123, 124, 125, 126, 127, 128, 129, 130, 131, 132, 133, 134, 135, 136] (by decide +kernel) (by decide +kernel)) (goodIn_sub (fun _ h => List.mem_cons_of_mem _ (List.mem_append_right _ h)) (by decide +kernel))
set_option maxRecDepth 20000 in
theorem gX11_openEarly_X11_makeOwnerKey : GoodIn wsX11_openEarly (wsV RX11 330 RX11 yX11_makeOwnerKey wsX11_makeOwnerKey) := goodIn_app (goodIn_of _ (by decide +kernel)) ggX11_openEarly_X11_makeOwnerKey
set_option maxRecDepth 20000 in
theorem ggX11_openEarly_X11_keySize : GoodIn wsX11_openEarly wsX11_keySize := goodIn_r _ [78, 5, 92, 93, 94, 95, 96, 97, 98, 99, 100, 101, 102, 103, 104, 105, 106, 107, 108, 109, 110, 111, 112, 113, 114, 115, 116, 117, 118, 119, 120, 121, 122, 123, 124, 125, 126, 127, 128, 129, 130, 131, 132, 133, 134, 135, 136] (by decide +kernel) (by decide +kernel)
set_option maxRecDepth 20000 in
theorem gX11_openEarly_X11_keySize : GoodIn wsX11_openEarly (wsV RX11 288 RX11 yX11_keySize wsX11_keySize) := goodIn_app (goodIn_of _ (by decide +kernel)) ggX11_openEarly_X11_keySize
set_option maxRecDepth 20000 in
theorem ggX11_openEarly_X11_throughStream : GoodIn wsX11_openEarly wsX11_throughStream := goodIn_ca (goodIn_r _ [86, 87, 92, 93, 94, 95, 96, 97, 98, 99, 100, 101, 102, 103, 104, 105, 106, 107, 108, 109, 110, 111, 112, 113, 114, 115, 116, 117, 118, 119, 120, 121, 122, 123, 124, 125, 126, 127, 128, 129, 130, 131, 132, 133, 134, 135, 136] (by decide +kernel) (by decide +kernel)) (goodIn_sub (fun _ h => List.mem_cons_of_mem _ (List.mem_append_right _ h)) (by decide +kernel))
set_option maxRecDepth 20000 in
theorem gX11_openEarly_X11_throughStream : GoodIn wsX11_openEarly (wsV RX11 316 RX11 yX11_throughStream wsX11_throughStream) := goodIn_app (goodIn_of _ (by decide +kernel)) ggX11_openEarly_X11_throughStream
theorem dX11_openEarly_0 : decode cX11_openEarly 0 = .ok (.aload_n 0, 1) := by decide +kernel
theorem dX11_openEarly_1 : decode cX11_openEarly 1 = .ok (.aload_n 0, 1) := by decide +kernel
theorem dX11_openEarly_2 : decode cX11_openEarly 2 = .ok (.getfield 16, 3) := by decide +kernel
theorem dX11_openEarly_5 : decode cX11_openEarly 5 = .ok (.aload_n 0, 1) := by decide +kernel
theorem dX11_openEarly_6 : decode cX11_openEarly 6 = .ok (.getfield 339, 3) := by decide +kernel
theorem dX11_openEarly_9 : decode cX11_openEarly 9 = .ok (.invokevirtual 326, 3) := by decide +kernel
theorem dX11_openEarly_12 : decode cX11_openEarly 12 = .ok (.aload_n 0, 1) := by decide +kernel
theorem dX11_openEarly_13 : decode cX11_openEarly 13 = .ok (.invokevirtual 342, 3) := by decide +kernel
theorem dX11_openEarly_16 : decode cX11_openEarly 16 = .ok (.ifCond .eq 5, 3) := by decide +kernel
theorem dX11_openEarly_19 : decode cX11_openEarly 19 = .ok (.iconst 1, 1) := by decide +kernel
theorem dX11_openEarly_20 : decode cX11_openEarly 20 = .ok (.ireturn, 1) := by decide +kernel
theorem dX11_openEarly_21 : decode cX11_openEarly 21 = .ok (.aload_n 0, 1) := by decide +kernel
theorem dX11_openEarly_22 : decode cX11_openEarly 22 = .ok (.aload_n 0, 1) := by decide +kernel
theorem dX11_openEarly_23 : decode cX11_openEarly 23 = .ok (.getfield 16, 3) := by decide +kernel
theorem dX11_openEarly_26 : decode cX11_openEarly 26 = .ok (.aload_n 0, 1) := by decide +kernel
theorem dX11_openEarly_27 : decode cX11_openEarly 27 = .ok (.getfield 339, 3) := by decide +kernel
theorem dX11_openEarly_30 : decode cX11_openEarly 30 = .ok (.invokevirtual 326, 3) := by decide +kernel
theorem dX11_openEarly_33 : decode cX11_openEarly 33 = .ok (.aload_n 0, 1) := by decide +kernel
theorem dX11_openEarly_34 : decode cX11_openEarly 34 = .ok (.invokevirtual 330, 3) := by decide +kernel
theorem dX11_openEarly_37 : decode cX11_openEarly 37 = .ok (.iconst 0, 1) := by decide +kernel
theorem dX11_openEarly_38 : decode cX11_openEarly 38 = .ok (.istore_n 1, 1) := by decide +kernel
theorem dX11_openEarly_39 : decode cX11_openEarly 39 = .ok (.iload_n 1, 1) := by decide +kernel
theorem dX11_openEarly_40 : decode cX11_openEarly 40 = .ok (.bipush 32, 2) := by decide +kernel
theorem dX11_openEarly_42 : decode cX11_openEarly 42 = .ok (.if_icmp .ge 21, 3) := by decide +kernel
theorem dX11_openEarly_45 : decode cX11_openEarly 45 = .ok (.aload_n 0, 1) := by decide +kernel
theorem dX11_openEarly_46 : decode cX11_openEarly 46 = .ok (.getfield 213, 3) := by decide +kernel
theorem dX11_openEarly_49 : decode cX11_openEarly 49 = .ok (.iload_n 1, 1) := by decide +kernel
theorem dX11_openEarly_50 : decode cX11_openEarly 50 = .ok (.aload_n 0, 1) := by decide +kernel
theorem dX11_openEarly_51 : decode cX11_openEarly 51 = .ok (.getfield 25, 3) := by decide +kernel
theorem dX11_openEarly_54 : decode cX11_openEarly 54 = .ok (.iload_n 1, 1) := by decide +kernel
theorem dX11_openEarly_55 : decode cX11_openEarly 55 = .ok (.iaload, 1) := by decide +kernel
theorem dX11_openEarly_56 : decode cX11_openEarly 56 = .ok (.iastore, 1) := by decide +kernel
theorem dX11_openEarly_57 : decode cX11_openEarly 57 = .ok (.iinc 1 1, 3) := by decide +kernel
theorem dX11_openEarly_60 : decode cX11_openEarly 60 = .ok (.goto (-21), 3) := by decide +kernel
theorem dX11_openEarly_63 : decode cX11_openEarly 63 = .ok (.bipush 19, 2) := by decide +kernel
theorem dX11_openEarly_65 : decode cX11_openEarly 65 = .ok (.istore_n 1, 1) := by decide +kernel
theorem dX11_openEarly_66 : decode cX11_openEarly 66 = .ok (.iload_n 1, 1) := by decide +kernel
theorem dX11_openEarly_67 : decode cX11_openEarly 67 = .ok (.ifCond .lt 41, 3) := by decide +kernel
theorem dX11_openEarly_70 : decode cX11_openEarly 70 = .ok (.iload_n 1, 1) := by decide +kernel
theorem dX11_openEarly_71 : decode cX11_openEarly 71 = .ok (.ifCond .eq 11, 3) := by decide +kernel
theorem dX11_openEarly_74 : decode cX11_openEarly 74 = .ok (.aload_n 0, 1) := by decide +kernel
theorem dX11_openEarly_75 : decode cX11_openEarly 75 = .ok (.getfield 219, 3) := by decide +kernel
theorem dX11_openEarly_78 : decode cX11_openEarly 78 = .ok (.iconst 2, 1) := by decide +kernel
theorem dX11_openEarly_79 : decode cX11_openEarly 79 = .ok (.if_icmp .le 23, 3) := by decide +kernel
theorem dX11_openEarly_82 : decode cX11_openEarly 82 = .ok (.aload_n 0, 1) := by decide +kernel
theorem dX11_openEarly_83 : decode cX11_openEarly 83 = .ok (.aload_n 0, 1) := by decide +kernel
theorem dX11_openEarly_84 : decode cX11_openEarly 84 = .ok (.getfield 216, 3) := by decide +kernel
theorem dX11_openEarly_87 : decode cX11_openEarly 87 = .ok (.aload_n 0, 1) := by decide +kernel
theorem dX11_openEarly_88 : decode cX11_openEarly 88 = .ok (.invokevirtual 288, 3) := by decide +kernel
theorem dX11_openEarly_91 : decode cX11_openEarly 91 = .ok (.iload_n 1, 1) := by decide +kernel
theorem dX11_openEarly_92 : decode cX11_openEarly 92 = .ok (.aload_n 0, 1) := by decide +kernel
theorem dX11_openEarly_93 : decode cX11_openEarly 93 = .ok (.getfield 213, 3) := by decide +kernel
theorem dX11_openEarly_96 : decode cX11_openEarly 96 = .ok (.iconst 0, 1) := by decide +kernel
theorem dX11_openEarly_97 : decode cX11_openEarly 97 = .ok (.bipush 32, 2) := by decide +kernel
theorem dX11_openEarly_99 : decode cX11_openEarly 99 = .ok (.invokevirtual 316, 3) := by decide +kernel
theorem dX11_openEarly_102 : decode cX11_openEarly 102 = .ok (.iinc 1 (-1), 3) := by decide +kernel
theorem dX11_openEarly_105 : decode cX11_openEarly 105 = .ok (.goto (-39), 3) := by decide +kernel
theorem dX11_openEarly_108 : decode cX11_openEarly 108 = .ok (.aload_n 0, 1) := by decide +kernel
theorem dX11_openEarly_109 : decode cX11_openEarly 109 = .ok (.invokevirtual 342, 3) := by decide +kernel
theorem dX11_openEarly_112 : decode cX11_openEarly 112 = .ok (.ifCond .eq 7, 3) := by decide +kernel
theorem dX11_openEarly_115 : decode cX11_openEarly 115 = .ok (.iconst 2, 1) := by decide +kernel
theorem dX11_openEarly_116 : decode cX11_openEarly 116 = .ok (.goto 4, 3) := by decide +kernel
theorem dX11_openEarly_119 : decode cX11_openEarly 119 = .ok (.iconst 0, 1) := by decide +kernel
theorem dX11_openEarly_120 : decode cX11_openEarly 120 = .ok (.ireturn, 1) := by decide +kernel
theorem dX11_nextByte_0 : decode cX11_nextByte 0 = .ok (.aload_n 0, 1) := by decide +kernel
theorem dX11_nextByte_1 : decode cX11_nextByte 1 = .ok (.dup, 1) := by decide +kernel
theorem dX11_nextByte_2 : decode cX11_nextByte 2 = .ok (.getfield 346, 3) := by decide +kernel
theorem dX11_nextByte_5 : decode cX11_nextByte 5 = .ok (.iconst 1, 1) := by decide +kernel
theorem dX11_nextByte_6 : decode cX11_nextByte 6 = .ok (.iadd, 1) := by decide +kernel
theorem dX11_nextByte_7 : decode cX11_nextByte 7 = .ok (.putfield 346, 3) := by decide +kernel
theorem dX11_nextByte_10 : decode cX11_nextByte 10 = .ok (.aload_n 0, 1) := by decide +kernel
theorem dX11_nextByte_11 : decode cX11_nextByte 11 = .ok (.getfield 22, 3) := by decide +kernel
theorem dX11_nextByte_14 : decode cX11_nextByte 14 = .ok (.aload_n 0, 1) := by decide +kernel
theorem dX11_nextByte_15 : decode cX11_nextByte 15 = .ok (.getfield 346, 3) := by decide +kernel
theorem dX11_nextByte_18 : decode cX11_nextByte 18 = .ok (.iconst 1, 1) := by decide +kernel
theorem dX11_nextByte_19 : decode cX11_nextByte 19 = .ok (.isub, 1) := by decide +kernel
theorem dX11_nextByte_20 : decode cX11_nextByte 20 = .ok (.iaload, 1) := by decide +kernel
theorem dX11_nextByte_21 : decode cX11_nextByte 21 = .ok (.ireturn, 1) := by decide +kernel
set_option maxRecDepth 20000 in
theorem ggX11_hashWord_X11_sayRow : GoodIn wsX11_hashWord wsX11_sayRow := goodIn_ca (goodIn_r _ [7, 8, 9, 10, 6, 11, 12, 1, 45, 46, 47, 48, 49, 50, 51, 52, 53, 54, 55, 56, 57, 58, 59, 60, 61, 62, 63, 64, 65, 66, 67, 68, 69, 70, 71, 72, 73, 74, 75, 76, 77, 78, 79, 80, 81, 82, 83, 84, 85, 86, 87, 88, 89] (by decide +kernel) (by decide +kernel)) (goodIn_sub (fun _ h => List.mem_cons_of_mem _ (List.mem_append_right _ h)) (by decide +kernel))
set_option maxRecDepth 20000 in
theorem gX11_hashWord_X11_sayRow : GoodIn wsX11_hashWord (wsV RX11 292 RX11 yX11_sayRow wsX11_sayRow) := goodIn_app (goodIn_of _ (by decide +kernel)) ggX11_hashWord_X11_sayRow
set_option maxRecDepth 20000 in
theorem ggX11_hashWord_X11_great : GoodIn wsX11_hashWord wsX11_great := goodIn_ca (goodIn_r _ [16, 17, 18, 19, 20, 21, 22, 23, 24, 25, 26, 27, 28, 29, 30, 31, 6, 32, 1, 8, 9, 10, 11, 12, 33, 34, 35, 36, 37, 38, 39, 40, 41, 42, 43, 44, 45, 46, 47, 48, 49, 50, 51, 52, 53, 54, 55, 56, 57, 58, 59, 60, 61, 62, 63, 64, 65, 66, 67, 68, 69, 70, 71, 72, 73, 74, 75, 76, 77, 78, 79, 80, 81, 82, 83, 84, 85, 86, 87, 88, 89] (by decide +kernel) (by decide +kernel)) (goodIn_sub (fun _ h => List.mem_cons_of_mem _ (List.mem_append_right _ h)) (by decide +kernel))
set_option maxRecDepth 20000 in
theorem gX11_hashWord_X11_great : GoodIn wsX11_hashWord (wsV RX11 349 RX11 yX11_great wsX11_great) := goodIn_app (goodIn_of _ (by decide +kernel)) ggX11_hashWord_X11_great
theorem dX11_hashWord_0 : decode cX11_hashWord 0 = .ok (.aload_n 0, 1) := by decide +kernel
theorem dX11_hashWord_1 : decode cX11_hashWord 1 = .ok (.iconst 0, 1) := by decide +kernel
theorem dX11_hashWord_2 : decode cX11_hashWord 2 = .ok (.putfield 233, 3) := by decide +kernel
theorem dX11_hashWord_5 : decode cX11_hashWord 5 = .ok (.aload_n 0, 1) := by decide +kernel
theorem dX11_hashWord_6 : decode cX11_hashWord 6 = .ok (.aload_n 1, 1) := by decide +kernel
theorem dX11_hashWord_7 : decode cX11_hashWord 7 = .ok (.iconst 0, 1) := by decide +kernel
theorem dX11_hashWord_8 : decode cX11_hashWord 8 = .ok (.iload_n 2, 1) := by decide +kernel
theorem dX11_hashWord_9 : decode cX11_hashWord 9 = .ok (.invokevirtual 292, 3) := by decide +kernel
theorem dX11_hashWord_12 : decode cX11_hashWord 12 = .ok (.aload_n 0, 1) := by decide +kernel
theorem dX11_hashWord_13 : decode cX11_hashWord 13 = .ok (.aload_n 0, 1) := by decide +kernel
theorem dX11_hashWord_14 : decode cX11_hashWord 14 = .ok (.getfield 25, 3) := by decide +kernel
theorem dX11_hashWord_17 : decode cX11_hashWord 17 = .ok (.iload_n 3, 1) := by decide +kernel
theorem dX11_hashWord_18 : decode cX11_hashWord 18 = .ok (.bipush 8, 2) := by decide +kernel
theorem dX11_hashWord_20 : decode cX11_hashWord 20 = .ok (.invokevirtual 292, 3) := by decide +kernel
theorem dX11_hashWord_23 : decode cX11_hashWord 23 = .ok (.iload 4, 2) := by decide +kernel
theorem dX11_hashWord_25 : decode cX11_hashWord 25 = .ok (.ifCond .eq 15, 3) := by decide +kernel
theorem dX11_hashWord_28 : decode cX11_hashWord 28 = .ok (.aload_n 0, 1) := by decide +kernel
theorem dX11_hashWord_29 : decode cX11_hashWord 29 = .ok (.aload_n 0, 1) := by decide +kernel
theorem dX11_hashWord_30 : decode cX11_hashWord 30 = .ok (.getfield 25, 3) := by decide +kernel
theorem dX11_hashWord_33 : decode cX11_hashWord 33 = .ok (.bipush 48, 2) := by decide +kernel
theorem dX11_hashWord_35 : decode cX11_hashWord 35 = .ok (.bipush 48, 2) := by decide +kernel
theorem dX11_hashWord_37 : decode cX11_hashWord 37 = .ok (.invokevirtual 292, 3) := by decide +kernel
theorem dX11_hashWord_40 : decode cX11_hashWord 40 = .ok (.aload_n 0, 1) := by decide +kernel
theorem dX11_hashWord_41 : decode cX11_hashWord 41 = .ok (.invokevirtual 349, 3) := by decide +kernel
theorem dX11_hashWord_44 : decode cX11_hashWord 44 = .ok (.return_, 1) := by decide +kernel
set_option maxRecDepth 20000 in
theorem ggX11_shut_X11_nextByte : GoodIn wsX11_shut wsX11_nextByte := goodIn_ca (goodIn_r _ [9, 10, 11, 90, 91, 92, 93, 94, 95, 96, 97, 98, 99, 100, 101, 102, 103, 104, 105, 106, 107, 108, 109, 110, 111, 112, 113, 114, 115, 116, 117, 118, 119, 120, 121, 122, 123, 124, 125, 126, 127, 128, 129, 130, 131, 132, 133, 134] (by decide +kernel) (by decide +kernel)) (goodIn_sub (fun _ h => List.mem_cons_of_mem _ (List.mem_append_right _ h)) (by decide +kernel))
set_option maxRecDepth 20000 in
theorem gX11_shut_X11_nextByte : GoodIn wsX11_shut (wsV RX11 352 RX11 yX11_nextByte wsX11_nextByte) := goodIn_app (goodIn_of _ (by decide +kernel)) ggX11_shut_X11_nextByte
set_option maxRecDepth 20000 in
theorem ggX11_shut_X11_hashWord : GoodIn wsX11_shut wsX11_hashWord := goodIn_ca (goodIn_r _ [15, 16, 1, 17, 18, 19, 8, 20, 21, 22, 23, 24, 25, 26, 27, 28, 29, 30, 31, 32, 33, 34, 35, 36, 37, 38, 39, 40, 41, 42, 43, 44, 45, 46, 47, 48, 49, 50, 51, 52, 53, 54, 55, 56, 2, 90, 91, 92, 93, 94, 95, 96, 97, 98, 99, 100, 101, 102, 103, 104, 105, 106, 107, 108, 109, 110, 111, 112, 113, 114, 115, 116, 117, 118, 119, 120, 121, 122, 123, 124, 125, 126, 127, 128, 129, 130, 131, 132, 133, 134] (by decide +kernel) (by decide +kernel)) (goodIn_sub (fun _ h => List.mem_cons_of_mem _ (List.mem_append_right _ h)) (by decide +kernel))
set_option maxRecDepth 20000 in
theorem gX11_shut_X11_hashWord : GoodIn wsX11_shut (wsV RX11 355 RX11 yX11_hashWord wsX11_hashWord) := goodIn_app (goodIn_of _ (by decide +kernel)) ggX11_shut_X11_hashWord
set_option maxRecDepth 20000 in
theorem ggX11_shut_X11_setKey : GoodIn wsX11_shut wsX11_setKey := goodIn_ca (goodIn_r _ [60, 61, 62, 63, 64, 65, 8, 66, 90, 91, 92, 93, 94, 95, 96, 97, 98, 99, 100, 101, 102, 103, 104, 105, 106, 107, 108, 109, 110, 111, 112, 113, 114, 115, 116, 117, 118, 119, 120, 121, 122, 123, 124, 125, 126, 127, 128, 129, 130, 131, 132, 133, 134] (by decide +kernel) (by decide +kernel)) (goodIn_sub (fun _ h => List.mem_cons_of_mem _ (List.mem_append_right _ h)) (by decide +kernel))
set_option maxRecDepth 20000 in
theorem gX11_shut_X11_setKey : GoodIn wsX11_shut (wsV RX11 359 RX11 yX11_setKey wsX11_setKey) := goodIn_app (goodIn_of _ (by decide +kernel)) ggX11_shut_X11_setKey
set_option maxRecDepth 20000 in
theorem ggX11_shut_X11_chain : GoodIn wsX11_shut wsX11_chain := goodIn_ca (goodIn_r _ [70, 3, 71, 72, 73, 8, 74, 75, 61, 76, 77, 78, 79, 62, 80, 81, 82, 83, 84, 64, 65, 66, 85, 86, 87, 88, 89, 63, 90, 91, 92, 93, 94, 95, 96, 97, 98, 99, 100, 101, 102, 103, 104, 105, 106, 107, 108, 109, 110, 111, 112, 113, 114, 115, 116, 117, 118, 119, 120, 121, 122, 123, 124, 125, 126, 127, 128, 129, 130, 131, 132, 133, 134] (by decide +kernel) (by decide +kernel)) (goodIn_sub (fun _ h => List.mem_cons_of_mem _ (List.mem_append_right _ h)) (by decide +kernel))
set_option maxRecDepth 20000 in
theorem gX11_shut_X11_chain : GoodIn wsX11_shut (wsV RX11 362 RX11 yX11_chain wsX11_chain) := goodIn_app (goodIn_of _ (by decide +kernel)) ggX11_shut_X11_chain
theorem dX11_shut_0 : decode cX11_shut 0 = .ok (.bipush 48, 2) := by decide +kernel
theorem dX11_shut_2 : decode cX11_shut 2 = .ok (.iload_n 3, 1) := by decide +kernel
theorem dX11_shut_3 : decode cX11_shut 3 = .ok (.imul, 1) := by decide +kernel
theorem dX11_shut_4 : decode cX11_shut 4 = .ok (.istore 6, 2) := by decide +kernel
theorem dX11_shut_6 : decode cX11_shut 6 = .ok (.bipush 32, 2) := by decide +kernel
theorem dX11_shut_8 : decode cX11_shut 8 = .ok (.istore 7, 2) := by decide +kernel
theorem dX11_shut_10 : decode cX11_shut 10 = .ok (.iload 7, 2) := by decide +kernel
theorem dX11_shut_12 : decode cX11_shut 12 = .ok (.bipush 48, 2) := by decide +kernel
theorem dX11_shut_14 : decode cX11_shut 14 = .ok (.if_icmp .ge 23, 3) := by decide +kernel
theorem dX11_shut_17 : decode cX11_shut 17 = .ok (.aload_n 0, 1) := by decide +kernel
theorem dX11_shut_18 : decode cX11_shut 18 = .ok (.getfield 25, 3) := by decide +kernel
theorem dX11_shut_21 : decode cX11_shut 21 = .ok (.iload 6, 2) := by decide +kernel
theorem dX11_shut_23 : decode cX11_shut 23 = .ok (.iload 7, 2) := by decide +kernel
theorem dX11_shut_25 : decode cX11_shut 25 = .ok (.iadd, 1) := by decide +kernel
theorem dX11_shut_26 : decode cX11_shut 26 = .ok (.aload_n 0, 1) := by decide +kernel
theorem dX11_shut_27 : decode cX11_shut 27 = .ok (.invokevirtual 352, 3) := by decide +kernel
theorem dX11_shut_30 : decode cX11_shut 30 = .ok (.iastore, 1) := by decide +kernel
theorem dX11_shut_31 : decode cX11_shut 31 = .ok (.iinc 7 1, 3) := by decide +kernel
theorem dX11_shut_34 : decode cX11_shut 34 = .ok (.goto (-24), 3) := by decide +kernel
theorem dX11_shut_37 : decode cX11_shut 37 = .ok (.aload_n 0, 1) := by decide +kernel
theorem dX11_shut_38 : decode cX11_shut 38 = .ok (.aload_n 1, 1) := by decide +kernel
theorem dX11_shut_39 : decode cX11_shut 39 = .ok (.iload_n 2, 1) := by decide +kernel
theorem dX11_shut_40 : decode cX11_shut 40 = .ok (.iload 6, 2) := by decide +kernel
theorem dX11_shut_42 : decode cX11_shut 42 = .ok (.bipush 32, 2) := by decide +kernel
theorem dX11_shut_44 : decode cX11_shut 44 = .ok (.iadd, 1) := by decide +kernel
theorem dX11_shut_45 : decode cX11_shut 45 = .ok (.iload 5, 2) := by decide +kernel
theorem dX11_shut_47 : decode cX11_shut 47 = .ok (.invokevirtual 355, 3) := by decide +kernel
theorem dX11_shut_50 : decode cX11_shut 50 = .ok (.iconst 0, 1) := by decide +kernel
theorem dX11_shut_51 : decode cX11_shut 51 = .ok (.istore 7, 2) := by decide +kernel
theorem dX11_shut_53 : decode cX11_shut 53 = .ok (.iload 7, 2) := by decide +kernel
theorem dX11_shut_55 : decode cX11_shut 55 = .ok (.bipush 32, 2) := by decide +kernel
theorem dX11_shut_57 : decode cX11_shut 57 = .ok (.if_icmp .ge 26, 3) := by decide +kernel
theorem dX11_shut_60 : decode cX11_shut 60 = .ok (.aload_n 0, 1) := by decide +kernel
theorem dX11_shut_61 : decode cX11_shut 61 = .ok (.getfield 25, 3) := by decide +kernel
theorem dX11_shut_64 : decode cX11_shut 64 = .ok (.iload 6, 2) := by decide +kernel
theorem dX11_shut_66 : decode cX11_shut 66 = .ok (.iload 7, 2) := by decide +kernel
theorem dX11_shut_68 : decode cX11_shut 68 = .ok (.iadd, 1) := by decide +kernel
theorem dX11_shut_69 : decode cX11_shut 69 = .ok (.aload_n 0, 1) := by decide +kernel
theorem dX11_shut_70 : decode cX11_shut 70 = .ok (.getfield 43, 3) := by decide +kernel
theorem dX11_shut_73 : decode cX11_shut 73 = .ok (.iload 7, 2) := by decide +kernel
theorem dX11_shut_75 : decode cX11_shut 75 = .ok (.iaload, 1) := by decide +kernel
theorem dX11_shut_76 : decode cX11_shut 76 = .ok (.iastore, 1) := by decide +kernel
theorem dX11_shut_77 : decode cX11_shut 77 = .ok (.iinc 7 1, 3) := by decide +kernel
theorem dX11_shut_80 : decode cX11_shut 80 = .ok (.goto (-27), 3) := by decide +kernel
theorem dX11_shut_83 : decode cX11_shut 83 = .ok (.aload_n 0, 1) := by decide +kernel
theorem dX11_shut_84 : decode cX11_shut 84 = .ok (.aload_n 1, 1) := by decide +kernel
theorem dX11_shut_85 : decode cX11_shut 85 = .ok (.iload_n 2, 1) := by decide +kernel
theorem dX11_shut_86 : decode cX11_shut 86 = .ok (.iload 6, 2) := by decide +kernel
theorem dX11_shut_88 : decode cX11_shut 88 = .ok (.bipush 40, 2) := by decide +kernel
theorem dX11_shut_90 : decode cX11_shut 90 = .ok (.iadd, 1) := by decide +kernel
theorem dX11_shut_91 : decode cX11_shut 91 = .ok (.iload 5, 2) := by decide +kernel
theorem dX11_shut_93 : decode cX11_shut 93 = .ok (.invokevirtual 355, 3) := by decide +kernel
theorem dX11_shut_96 : decode cX11_shut 96 = .ok (.aload_n 0, 1) := by decide +kernel
theorem dX11_shut_97 : decode cX11_shut 97 = .ok (.aload_n 0, 1) := by decide +kernel
theorem dX11_shut_98 : decode cX11_shut 98 = .ok (.getfield 43, 3) := by decide +kernel
theorem dX11_shut_101 : decode cX11_shut 101 = .ok (.bipush 32, 2) := by decide +kernel
theorem dX11_shut_103 : decode cX11_shut 103 = .ok (.invokevirtual 359, 3) := by decide +kernel
theorem dX11_shut_106 : decode cX11_shut 106 = .ok (.iconst 0, 1) := by decide +kernel
theorem dX11_shut_107 : decode cX11_shut 107 = .ok (.istore 7, 2) := by decide +kernel
theorem dX11_shut_109 : decode cX11_shut 109 = .ok (.iload 7, 2) := by decide +kernel
theorem dX11_shut_111 : decode cX11_shut 111 = .ok (.bipush 48, 2) := by decide +kernel
theorem dX11_shut_113 : decode cX11_shut 113 = .ok (.if_icmp .ge 37, 3) := by decide +kernel
theorem dX11_shut_116 : decode cX11_shut 116 = .ok (.aload_n 0, 1) := by decide +kernel
theorem dX11_shut_117 : decode cX11_shut 117 = .ok (.getfield 210, 3) := by decide +kernel
theorem dX11_shut_120 : decode cX11_shut 120 = .ok (.iload 7, 2) := by decide +kernel
theorem dX11_shut_122 : decode cX11_shut 122 = .ok (.iload 7, 2) := by decide +kernel
theorem dX11_shut_124 : decode cX11_shut 124 = .ok (.bipush 16, 2) := by decide +kernel
theorem dX11_shut_126 : decode cX11_shut 126 = .ok (.if_icmp .ge 7, 3) := by decide +kernel
theorem dX11_shut_129 : decode cX11_shut 129 = .ok (.iconst 0, 1) := by decide +kernel
theorem dX11_shut_130 : decode cX11_shut 130 = .ok (.goto 13, 3) := by decide +kernel
