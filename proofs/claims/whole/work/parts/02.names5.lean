theorem dX11_key_28 : decode cX11_key 28 = .ok (.aload_n 0, 1) := by decide +kernel
theorem dX11_key_29 : decode cX11_key 29 = .ok (.getfield 43, 3) := by decide +kernel
theorem dX11_key_32 : decode cX11_key 32 = .ok (.iconst 0, 1) := by decide +kernel
theorem dX11_key_33 : decode cX11_key 33 = .ok (.aload_n 0, 1) := by decide +kernel
theorem dX11_key_34 : decode cX11_key 34 = .ok (.iload_n 1, 1) := by decide +kernel
theorem dX11_key_35 : decode cX11_key 35 = .ok (.iload_n 2, 1) := by decide +kernel
theorem dX11_key_36 : decode cX11_key 36 = .ok (.invokevirtual 402, 3) := by decide +kernel
theorem dX11_key_39 : decode cX11_key 39 = .ok (.invokevirtual 405, 3) := by decide +kernel
theorem dX11_key_42 : decode cX11_key 42 = .ok (.ireturn, 1) := by decide +kernel
theorem dX11_filter_0 : decode cX11_filter 0 = .ok (.aload_n 0, 1) := by decide +kernel
theorem dX11_filter_1 : decode cX11_filter 1 = .ok (.iload_n 1, 1) := by decide +kernel
theorem dX11_filter_2 : decode cX11_filter 2 = .ok (.ifCond .lt 34, 3) := by decide +kernel
theorem dX11_filter_5 : decode cX11_filter 5 = .ok (.iload_n 1, 1) := by decide +kernel
theorem dX11_filter_6 : decode cX11_filter 6 = .ok (.iconst 2, 1) := by decide +kernel
theorem dX11_filter_7 : decode cX11_filter 7 = .ok (.if_icmp .gt 29, 3) := by decide +kernel
theorem dX11_filter_10 : decode cX11_filter 10 = .ok (.iload_n 1, 1) := by decide +kernel
theorem dX11_filter_11 : decode cX11_filter 11 = .ok (.iconst 2, 1) := by decide +kernel
theorem dX11_filter_12 : decode cX11_filter 12 = .ok (.if_icmp .ne 11, 3) := by decide +kernel
theorem dX11_filter_15 : decode cX11_filter 15 = .ok (.aload_n 0, 1) := by decide +kernel
theorem dX11_filter_16 : decode cX11_filter 16 = .ok (.getfield 219, 3) := by decide +kernel
theorem dX11_filter_19 : decode cX11_filter 19 = .ok (.iconst 4, 1) := by decide +kernel
theorem dX11_filter_20 : decode cX11_filter 20 = .ok (.if_icmp .lt 16, 3) := by decide +kernel
theorem dX11_filter_23 : decode cX11_filter 23 = .ok (.iload_n 1, 1) := by decide +kernel
theorem dX11_filter_24 : decode cX11_filter 24 = .ok (.iconst 1, 1) := by decide +kernel
theorem dX11_filter_25 : decode cX11_filter 25 = .ok (.if_icmp .ne 15, 3) := by decide +kernel
theorem dX11_filter_28 : decode cX11_filter 28 = .ok (.aload_n 0, 1) := by decide +kernel
theorem dX11_filter_29 : decode cX11_filter 29 = .ok (.getfield 219, 3) := by decide +kernel
theorem dX11_filter_32 : decode cX11_filter 32 = .ok (.iconst 5, 1) := by decide +kernel
theorem dX11_filter_33 : decode cX11_filter 33 = .ok (.if_icmp .ne 7, 3) := by decide +kernel
theorem dX11_filter_36 : decode cX11_filter 36 = .ok (.iconst 1, 1) := by decide +kernel
theorem dX11_filter_37 : decode cX11_filter 37 = .ok (.goto 4, 3) := by decide +kernel
theorem dX11_filter_40 : decode cX11_filter 40 = .ok (.iconst 0, 1) := by decide +kernel
theorem dX11_filter_41 : decode cX11_filter 41 = .ok (.putfield 230, 3) := by decide +kernel
theorem dX11_filter_44 : decode cX11_filter 44 = .ok (.aload_n 0, 1) := by decide +kernel
theorem dX11_filter_45 : decode cX11_filter 45 = .ok (.getfield 230, 3) := by decide +kernel
theorem dX11_filter_48 : decode cX11_filter 48 = .ok (.ifCond .le 5, 3) := by decide +kernel
theorem dX11_filter_51 : decode cX11_filter 51 = .ok (.iconst 0, 1) := by decide +kernel
theorem dX11_filter_52 : decode cX11_filter 52 = .ok (.ireturn, 1) := by decide +kernel
theorem dX11_filter_53 : decode cX11_filter 53 = .ok (.aload_n 0, 1) := by decide +kernel
theorem dX11_filter_54 : decode cX11_filter 54 = .ok (.getfield 223, 3) := by decide +kernel
theorem dX11_filter_57 : decode cX11_filter 57 = .ok (.istore_n 2, 1) := by decide +kernel
theorem dX11_filter_58 : decode cX11_filter 58 = .ok (.aload_n 0, 1) := by decide +kernel
theorem dX11_filter_59 : decode cX11_filter 59 = .ok (.iload_n 1, 1) := by decide +kernel
theorem dX11_filter_60 : decode cX11_filter 60 = .ok (.putfield 223, 3) := by decide +kernel
theorem dX11_filter_63 : decode cX11_filter 63 = .ok (.iload_n 2, 1) := by decide +kernel
theorem dX11_filter_64 : decode cX11_filter 64 = .ok (.ireturn, 1) := by decide +kernel
theorem dX11_apply_0 : decode cX11_apply 0 = .ok (.aload_n 0, 1) := by decide +kernel
theorem dX11_apply_1 : decode cX11_apply 1 = .ok (.getfield 372, 3) := by decide +kernel
theorem dX11_apply_4 : decode cX11_apply 4 = .ok (.ifCond .eq 30, 3) := by decide +kernel
theorem dX11_apply_7 : decode cX11_apply 7 = .ok (.aload_n 0, 1) := by decide +kernel
theorem dX11_apply_8 : decode cX11_apply 8 = .ok (.getfield 375, 3) := by decide +kernel
theorem dX11_apply_11 : decode cX11_apply 11 = .ok (.ifCond .eq 19, 3) := by decide +kernel
theorem dX11_apply_14 : decode cX11_apply 14 = .ok (.iload_n 1, 1) := by decide +kernel
theorem dX11_apply_15 : decode cX11_apply 15 = .ok (.aload_n 0, 1) := by decide +kernel
theorem dX11_apply_16 : decode cX11_apply 16 = .ok (.getfield 409, 3) := by decide +kernel
theorem dX11_apply_19 : decode cX11_apply 19 = .ok (.if_icmp .ne 15, 3) := by decide +kernel
theorem dX11_apply_22 : decode cX11_apply 22 = .ok (.iload_n 2, 1) := by decide +kernel
theorem dX11_apply_23 : decode cX11_apply 23 = .ok (.aload_n 0, 1) := by decide +kernel
theorem dX11_apply_24 : decode cX11_apply 24 = .ok (.getfield 412, 3) := by decide +kernel
theorem dX11_apply_27 : decode cX11_apply 27 = .ok (.if_icmp .ne 7, 3) := by decide +kernel
theorem dX11_apply_30 : decode cX11_apply 30 = .ok (.iconst 1, 1) := by decide +kernel
theorem dX11_apply_31 : decode cX11_apply 31 = .ok (.goto 4, 3) := by decide +kernel
theorem dX11_apply_34 : decode cX11_apply 34 = .ok (.iconst 0, 1) := by decide +kernel
theorem dX11_apply_35 : decode cX11_apply 35 = .ok (.istore 4, 2) := by decide +kernel
theorem dX11_apply_37 : decode cX11_apply 37 = .ok (.aload_n 0, 1) := by decide +kernel
theorem dX11_apply_38 : decode cX11_apply 38 = .ok (.iload 4, 2) := by decide +kernel
theorem dX11_apply_40 : decode cX11_apply 40 = .ok (.ifCond .ne 7, 3) := by decide +kernel
theorem dX11_apply_43 : decode cX11_apply 43 = .ok (.iconst 1, 1) := by decide +kernel
theorem dX11_apply_44 : decode cX11_apply 44 = .ok (.goto 18, 3) := by decide +kernel
theorem dX11_apply_47 : decode cX11_apply 47 = .ok (.aload_n 0, 1) := by decide +kernel
theorem dX11_apply_48 : decode cX11_apply 48 = .ok (.getfield 375, 3) := by decide +kernel
theorem dX11_apply_51 : decode cX11_apply 51 = .ok (.sipush 400, 3) := by decide +kernel
theorem dX11_apply_54 : decode cX11_apply 54 = .ok (.if_icmp .ne 7, 3) := by decide +kernel
theorem dX11_apply_57 : decode cX11_apply 57 = .ok (.iconst 2, 1) := by decide +kernel
theorem dX11_apply_58 : decode cX11_apply 58 = .ok (.goto 4, 3) := by decide +kernel
theorem dX11_apply_61 : decode cX11_apply 61 = .ok (.iconst 0, 1) := by decide +kernel
theorem dX11_apply_62 : decode cX11_apply 62 = .ok (.putfield 230, 3) := by decide +kernel
theorem dX11_apply_65 : decode cX11_apply 65 = .ok (.aload_n 0, 1) := by decide +kernel
theorem dX11_apply_66 : decode cX11_apply 66 = .ok (.getfield 230, 3) := by decide +kernel
theorem dX11_apply_69 : decode cX11_apply 69 = .ok (.ifCond .le 5, 3) := by decide +kernel
theorem dX11_apply_72 : decode cX11_apply 72 = .ok (.iconst 0, 1) := by decide +kernel
theorem dX11_apply_73 : decode cX11_apply 73 = .ok (.ireturn, 1) := by decide +kernel
theorem dX11_apply_74 : decode cX11_apply 74 = .ok (.aload_n 0, 1) := by decide +kernel
theorem dX11_apply_75 : decode cX11_apply 75 = .ok (.iload_n 1, 1) := by decide +kernel
theorem dX11_apply_76 : decode cX11_apply 76 = .ok (.putfield 409, 3) := by decide +kernel
theorem dX11_apply_79 : decode cX11_apply 79 = .ok (.aload_n 0, 1) := by decide +kernel
theorem dX11_apply_80 : decode cX11_apply 80 = .ok (.iload_n 2, 1) := by decide +kernel
theorem dX11_apply_81 : decode cX11_apply 81 = .ok (.putfield 412, 3) := by decide +kernel
theorem dX11_apply_84 : decode cX11_apply 84 = .ok (.aload_n 0, 1) := by decide +kernel
theorem dX11_apply_85 : decode cX11_apply 85 = .ok (.getfield 34, 3) := by decide +kernel
theorem dX11_apply_88 : decode cX11_apply 88 = .ok (.aload_n 0, 1) := by decide +kernel
theorem dX11_apply_89 : decode cX11_apply 89 = .ok (.getfield 375, 3) := by decide +kernel
theorem dX11_apply_92 : decode cX11_apply 92 = .ok (.iload_n 3, 1) := by decide +kernel
theorem dX11_apply_93 : decode cX11_apply 93 = .ok (.sipush 255, 3) := by decide +kernel
theorem dX11_apply_96 : decode cX11_apply 96 = .ok (.iand, 1) := by decide +kernel
theorem dX11_apply_97 : decode cX11_apply 97 = .ok (.iastore, 1) := by decide +kernel
theorem dX11_apply_98 : decode cX11_apply 98 = .ok (.aload_n 0, 1) := by decide +kernel
theorem dX11_apply_99 : decode cX11_apply 99 = .ok (.dup, 1) := by decide +kernel
theorem dX11_apply_100 : decode cX11_apply 100 = .ok (.getfield 375, 3) := by decide +kernel
theorem dX11_apply_103 : decode cX11_apply 103 = .ok (.iconst 1, 1) := by decide +kernel
theorem dX11_apply_104 : decode cX11_apply 104 = .ok (.iadd, 1) := by decide +kernel
theorem dX11_apply_105 : decode cX11_apply 105 = .ok (.putfield 375, 3) := by decide +kernel
theorem dX11_apply_108 : decode cX11_apply 108 = .ok (.aload_n 0, 1) := by decide +kernel
theorem dX11_apply_109 : decode cX11_apply 109 = .ok (.getfield 375, 3) := by decide +kernel
theorem dX11_apply_112 : decode cX11_apply 112 = .ok (.ireturn, 1) := by decide +kernel
set_option maxRecDepth 20000 in
theorem ggX11_encipher_X11_nextByte : GoodIn wsX11_encipher wsX11_nextByte := goodIn_ca (goodIn_r _ [11, 2, 12, 107, 108, 109, 110, 111, 112, 113, 114, 115, 116, 117, 118, 119, 120, 121, 122, 123, 124, 125, 126, 127, 128, 129, 130, 131, 132, 133, 134, 135, 136, 137, 138, 139, 140, 141, 142, 143, 144, 145, 146, 147, 148, 149, 150, 151] (by decide +kernel) (by decide +kernel)) (goodIn_sub (fun _ h => List.mem_cons_of_mem _ (List.mem_append_right _ h)) (by decide +kernel))
set_option maxRecDepth 20000 in
theorem gX11_encipher_X11_nextByte : GoodIn wsX11_encipher (wsV RX11 352 RX11 yX11_nextByte wsX11_nextByte) := goodIn_app (goodIn_of _ (by decide +kernel)) ggX11_encipher_X11_nextByte
set_option maxRecDepth 20000 in
theorem ggX11_encipher_X11_objectKey : GoodIn wsX11_encipher wsX11_objectKey := goodIn_ca (goodIn_r _ [16, 17, 5, 18, 19, 20, 21, 22, 23, 24, 10, 25, 26, 27, 28, 29, 30, 31, 32, 33, 34, 35, 36, 37, 38, 39, 40, 41, 42, 43, 44, 45, 46, 47, 48, 49, 50, 51, 52, 53, 54, 55, 56, 57, 58, 59, 60, 61, 62, 63, 64, 65, 66, 67, 107, 108, 109, 110, 111, 112, 113, 114, 115, 116, 117, 118, 119, 120, 121, 122, 123, 124, 125, 126, 127, 128, 129, 130, 131, 132, 133, 134, 135, 136, 137, 138, 139, 140, 141, 142, 143, 144, 145, 146, 147, 148, 149, 150, 151] (by decide +kernel) (by decide +kernel)) (goodIn_sub (fun _ h => List.mem_cons_of_mem _ (List.mem_append_right _ h)) (by decide +kernel))
set_option maxRecDepth 20000 in
theorem gX11_encipher_X11_objectKey : GoodIn wsX11_encipher (wsV RX11 402 RX11 yX11_objectKey wsX11_objectKey) := goodIn_app (goodIn_of _ (by decide +kernel)) ggX11_encipher_X11_objectKey
set_option maxRecDepth 20000 in
theorem ggX11_encipher_X11_setKey : GoodIn wsX11_encipher wsX11_setKey := goodIn_ca (goodIn_r _ [71, 72, 73, 74, 75, 76, 10, 77, 107, 108, 109, 110, 111, 112, 113, 114, 115, 116, 117, 118, 119, 120, 121, 122, 123, 124, 125, 126, 127, 128, 129, 130, 131, 132, 133, 134, 135, 136, 137, 138, 139, 140, 141, 142, 143, 144, 145, 146, 147, 148, 149, 150, 151] (by decide +kernel) (by decide +kernel)) (goodIn_sub (fun _ h => List.mem_cons_of_mem _ (List.mem_append_right _ h)) (by decide +kernel))
set_option maxRecDepth 20000 in
theorem gX11_encipher_X11_setKey : GoodIn wsX11_encipher (wsV RX11 359 RX11 yX11_setKey wsX11_setKey) := goodIn_app (goodIn_of _ (by decide +kernel)) ggX11_encipher_X11_setKey
set_option maxRecDepth 20000 in
theorem ggX11_encipher_X11_chain : GoodIn wsX11_encipher wsX11_chain := goodIn_ca (goodIn_r _ [81, 3, 82, 83, 84, 10, 85, 86, 72, 87, 88, 89, 90, 73, 91, 92, 93, 94, 95, 75, 76, 77, 96, 97, 98, 99, 100, 74, 107, 108, 109, 110, 111, 112, 113, 114, 115, 116, 117, 118, 119, 120, 121, 122, 123, 124, 125, 126, 127, 128, 129, 130, 131, 132, 133, 134, 135, 136, 137, 138, 139, 140, 141, 142, 143, 144, 145, 146, 147, 148, 149, 150, 151] (by decide +kernel) (by decide +kernel)) (goodIn_sub (fun _ h => List.mem_cons_of_mem _ (List.mem_append_right _ h)) (by decide +kernel))
set_option maxRecDepth 20000 in
theorem gX11_encipher_X11_chain : GoodIn wsX11_encipher (wsV RX11 362 RX11 yX11_chain wsX11_chain) := goodIn_app (goodIn_of _ (by decide +kernel)) ggX11_encipher_X11_chain
set_option maxRecDepth 20000 in
theorem ggX11_encipher_X11_become : GoodIn wsX11_encipher wsX11_become := goodIn_ca (goodIn_r _ [104, 105, 106, 107, 108, 109, 110, 111, 112, 113, 114, 115, 116, 117, 118, 119, 120, 121, 122, 123, 124, 125, 126, 127, 128, 129, 130, 131, 132, 133, 134, 135, 136, 137, 138, 139, 140, 141, 142, 143, 144, 145, 146, 147, 148, 149, 150, 151] (by decide +kernel) (by decide +kernel)) (goodIn_sub (fun _ h => List.mem_cons_of_mem _ (List.mem_append_right _ h)) (by decide +kernel))
set_option maxRecDepth 20000 in
theorem gX11_encipher_X11_become : GoodIn wsX11_encipher (wsV RX11 405 RX11 yX11_become wsX11_become) := goodIn_app (goodIn_of _ (by decide +kernel)) ggX11_encipher_X11_become
theorem dX11_encipher_0 : decode cX11_encipher 0 = .ok (.aload_n 0, 1) := by decide +kernel
theorem dX11_encipher_1 : decode cX11_encipher 1 = .ok (.getfield 369, 3) := by decide +kernel
theorem dX11_encipher_4 : decode cX11_encipher 4 = .ok (.aload_n 0, 1) := by decide +kernel
theorem dX11_encipher_5 : decode cX11_encipher 5 = .ok (.getfield 346, 3) := by decide +kernel
theorem dX11_encipher_8 : decode cX11_encipher 8 = .ok (.isub, 1) := by decide +kernel
theorem dX11_encipher_9 : decode cX11_encipher 9 = .ok (.bipush 16, 2) := by decide +kernel
theorem dX11_encipher_11 : decode cX11_encipher 11 = .ok (.if_icmp .ge 6, 3) := by decide +kernel
theorem dX11_encipher_14 : decode cX11_encipher 14 = .ok (.bipush (-2), 2) := by decide +kernel
theorem dX11_encipher_16 : decode cX11_encipher 16 = .ok (.ireturn, 1) := by decide +kernel
theorem dX11_encipher_17 : decode cX11_encipher 17 = .ok (.iconst 0, 1) := by decide +kernel
theorem dX11_encipher_18 : decode cX11_encipher 18 = .ok (.istore_n 2, 1) := by decide +kernel
theorem dX11_encipher_19 : decode cX11_encipher 19 = .ok (.iload_n 2, 1) := by decide +kernel
theorem dX11_encipher_20 : decode cX11_encipher 20 = .ok (.bipush 16, 2) := by decide +kernel
theorem dX11_encipher_22 : decode cX11_encipher 22 = .ok (.if_icmp .ge 19, 3) := by decide +kernel
theorem dX11_encipher_25 : decode cX11_encipher 25 = .ok (.aload_n 0, 1) := by decide +kernel
theorem dX11_encipher_26 : decode cX11_encipher 26 = .ok (.getfield 210, 3) := by decide +kernel
theorem dX11_encipher_29 : decode cX11_encipher 29 = .ok (.iload_n 2, 1) := by decide +kernel
theorem dX11_encipher_30 : decode cX11_encipher 30 = .ok (.aload_n 0, 1) := by decide +kernel
theorem dX11_encipher_31 : decode cX11_encipher 31 = .ok (.invokevirtual 352, 3) := by decide +kernel
theorem dX11_encipher_34 : decode cX11_encipher 34 = .ok (.iastore, 1) := by decide +kernel
theorem dX11_encipher_35 : decode cX11_encipher 35 = .ok (.iinc 2 1, 3) := by decide +kernel
theorem dX11_encipher_38 : decode cX11_encipher 38 = .ok (.goto (-19), 3) := by decide +kernel
theorem dX11_encipher_41 : decode cX11_encipher 41 = .ok (.iload_n 1, 1) := by decide +kernel
theorem dX11_encipher_42 : decode cX11_encipher 42 = .ok (.bipush 16, 2) := by decide +kernel
theorem dX11_encipher_44 : decode cX11_encipher 44 = .ok (.idiv, 1) := by decide +kernel
theorem dX11_encipher_45 : decode cX11_encipher 45 = .ok (.bipush 16, 2) := by decide +kernel
theorem dX11_encipher_47 : decode cX11_encipher 47 = .ok (.imul, 1) := by decide +kernel
theorem dX11_encipher_48 : decode cX11_encipher 48 = .ok (.bipush 16, 2) := by decide +kernel
theorem dX11_encipher_50 : decode cX11_encipher 50 = .ok (.iadd, 1) := by decide +kernel
theorem dX11_encipher_51 : decode cX11_encipher 51 = .ok (.istore_n 2, 1) := by decide +kernel
theorem dX11_encipher_52 : decode cX11_encipher 52 = .ok (.iconst 0, 1) := by decide +kernel
theorem dX11_encipher_53 : decode cX11_encipher 53 = .ok (.istore_n 3, 1) := by decide +kernel
theorem dX11_encipher_54 : decode cX11_encipher 54 = .ok (.iload_n 3, 1) := by decide +kernel
theorem dX11_encipher_55 : decode cX11_encipher 55 = .ok (.iload_n 2, 1) := by decide +kernel
theorem dX11_encipher_56 : decode cX11_encipher 56 = .ok (.if_icmp .ge 35, 3) := by decide +kernel
theorem dX11_encipher_59 : decode cX11_encipher 59 = .ok (.aload_n 0, 1) := by decide +kernel
theorem dX11_encipher_60 : decode cX11_encipher 60 = .ok (.getfield 210, 3) := by decide +kernel
theorem dX11_encipher_63 : decode cX11_encipher 63 = .ok (.bipush 16, 2) := by decide +kernel
theorem dX11_encipher_65 : decode cX11_encipher 65 = .ok (.iload_n 3, 1) := by decide +kernel
theorem dX11_encipher_66 : decode cX11_encipher 66 = .ok (.iadd, 1) := by decide +kernel
theorem dX11_encipher_67 : decode cX11_encipher 67 = .ok (.iload_n 3, 1) := by decide +kernel
theorem dX11_encipher_68 : decode cX11_encipher 68 = .ok (.iload_n 1, 1) := by decide +kernel
theorem dX11_encipher_69 : decode cX11_encipher 69 = .ok (.if_icmp .ge 12, 3) := by decide +kernel
theorem dX11_encipher_72 : decode cX11_encipher 72 = .ok (.aload_n 0, 1) := by decide +kernel
theorem dX11_encipher_73 : decode cX11_encipher 73 = .ok (.getfield 34, 3) := by decide +kernel
theorem dX11_encipher_76 : decode cX11_encipher 76 = .ok (.iload_n 3, 1) := by decide +kernel
theorem dX11_encipher_77 : decode cX11_encipher 77 = .ok (.iaload, 1) := by decide +kernel
theorem dX11_encipher_78 : decode cX11_encipher 78 = .ok (.goto 6, 3) := by decide +kernel
theorem dX11_encipher_81 : decode cX11_encipher 81 = .ok (.iload_n 2, 1) := by decide +kernel
theorem dX11_encipher_82 : decode cX11_encipher 82 = .ok (.iload_n 1, 1) := by decide +kernel
theorem dX11_encipher_83 : decode cX11_encipher 83 = .ok (.isub, 1) := by decide +kernel
theorem dX11_encipher_84 : decode cX11_encipher 84 = .ok (.iastore, 1) := by decide +kernel
theorem dX11_encipher_85 : decode cX11_encipher 85 = .ok (.iinc 3 1, 3) := by decide +kernel
theorem dX11_encipher_88 : decode cX11_encipher 88 = .ok (.goto (-34), 3) := by decide +kernel
theorem dX11_encipher_91 : decode cX11_encipher 91 = .ok (.aload_n 0, 1) := by decide +kernel
theorem dX11_encipher_92 : decode cX11_encipher 92 = .ok (.aload_n 0, 1) := by decide +kernel
theorem dX11_encipher_93 : decode cX11_encipher 93 = .ok (.getfield 43, 3) := by decide +kernel
theorem dX11_encipher_96 : decode cX11_encipher 96 = .ok (.aload_n 0, 1) := by decide +kernel
theorem dX11_encipher_97 : decode cX11_encipher 97 = .ok (.aload_n 0, 1) := by decide +kernel
theorem dX11_encipher_98 : decode cX11_encipher 98 = .ok (.getfield 409, 3) := by decide +kernel
theorem dX11_encipher_101 : decode cX11_encipher 101 = .ok (.iconst 0, 1) := by decide +kernel
theorem dX11_encipher_102 : decode cX11_encipher 102 = .ok (.invokevirtual 402, 3) := by decide +kernel
theorem dX11_encipher_105 : decode cX11_encipher 105 = .ok (.invokevirtual 359, 3) := by decide +kernel
theorem dX11_encipher_108 : decode cX11_encipher 108 = .ok (.aload_n 0, 1) := by decide +kernel
theorem dX11_encipher_109 : decode cX11_encipher 109 = .ok (.iload_n 2, 1) := by decide +kernel
theorem dX11_encipher_110 : decode cX11_encipher 110 = .ok (.bipush 16, 2) := by decide +kernel
theorem dX11_encipher_112 : decode cX11_encipher 112 = .ok (.idiv, 1) := by decide +kernel
theorem dX11_encipher_113 : decode cX11_encipher 113 = .ok (.iconst 0, 1) := by decide +kernel
theorem dX11_encipher_114 : decode cX11_encipher 114 = .ok (.invokevirtual 362, 3) := by decide +kernel
theorem dX11_encipher_117 : decode cX11_encipher 117 = .ok (.aload_n 0, 1) := by decide +kernel
theorem dX11_encipher_118 : decode cX11_encipher 118 = .ok (.aload_n 0, 1) := by decide +kernel
theorem dX11_encipher_119 : decode cX11_encipher 119 = .ok (.getfield 210, 3) := by decide +kernel
theorem dX11_encipher_122 : decode cX11_encipher 122 = .ok (.iconst 0, 1) := by decide +kernel
theorem dX11_encipher_123 : decode cX11_encipher 123 = .ok (.bipush 16, 2) := by decide +kernel
theorem dX11_encipher_125 : decode cX11_encipher 125 = .ok (.iload_n 2, 1) := by decide +kernel
theorem dX11_encipher_126 : decode cX11_encipher 126 = .ok (.iadd, 1) := by decide +kernel
theorem dX11_encipher_127 : decode cX11_encipher 127 = .ok (.invokevirtual 405, 3) := by decide +kernel
theorem dX11_encipher_130 : decode cX11_encipher 130 = .ok (.ireturn, 1) := by decide +kernel
set_option maxRecDepth 20000 in
theorem ggX11_decipher_X11_objectKey : GoodIn wsX11_decipher wsX11_objectKey := goodIn_ca (goodIn_r _ [9, 10, 3, 11, 12, 13, 14, 15, 16, 17, 8, 18, 19, 20, 21, 22, 23, 24, 25, 26, 27, 28, 29, 30, 31, 32, 33, 34, 35, 36, 37, 38, 39, 40, 41, 42, 43, 44, 45, 46, 47, 48, 49, 50, 51, 52, 53, 54, 55, 56, 57, 58, 59, 60, 100, 101, 102, 103, 104, 105, 106, 107, 108, 109, 110, 111, 112, 113, 114, 115, 116, 117, 118, 119, 120, 121, 122, 123, 124, 125, 126, 127, 128, 129, 130, 131, 132, 133, 134, 135, 136, 137, 138, 139, 140, 141, 142, 143, 144] (by decide +kernel) (by decide +kernel)) (goodIn_sub (fun _ h => List.mem_cons_of_mem _ (List.mem_append_right _ h)) (by decide +kernel))
set_option maxRecDepth 20000 in
theorem gX11_decipher_X11_objectKey : GoodIn wsX11_decipher (wsV RX11 402 RX11 yX11_objectKey wsX11_objectKey) := goodIn_app (goodIn_of _ (by decide +kernel)) ggX11_decipher_X11_objectKey
set_option maxRecDepth 20000 in
theorem ggX11_decipher_X11_setKey : GoodIn wsX11_decipher wsX11_setKey := goodIn_ca (goodIn_r _ [64, 65, 66, 67, 68, 69, 8, 70, 100, 101, 102, 103, 104, 105, 106, 107, 108, 109, 110, 111, 112, 113, 114, 115, 116, 117, 118, 119, 120, 121, 122, 123, 124, 125, 126, 127, 128, 129, 130, 131, 132, 133, 134, 135, 136, 137, 138, 139, 140, 141, 142, 143, 144] (by decide +kernel) (by decide +kernel)) (goodIn_sub (fun _ h => List.mem_cons_of_mem _ (List.mem_append_right _ h)) (by decide +kernel))
set_option maxRecDepth 20000 in
theorem gX11_decipher_X11_setKey : GoodIn wsX11_decipher (wsV RX11 359 RX11 yX11_setKey wsX11_setKey) := goodIn_app (goodIn_of _ (by decide +kernel)) ggX11_decipher_X11_setKey
set_option maxRecDepth 20000 in
theorem ggX11_decipher_X11_chain : GoodIn wsX11_decipher wsX11_chain := goodIn_ca (goodIn_r _ [74, 1, 75, 76, 77, 8, 78, 79, 65, 80, 81, 82, 83, 66, 84, 85, 86, 87, 88, 68, 69, 70, 89, 90, 91, 92, 93, 67, 100, 101, 102, 103, 104, 105, 106, 107, 108, 109, 110, 111, 112, 113, 114, 115, 116, 117, 118, 119, 120, 121, 122, 123, 124, 125, 126, 127, 128, 129, 130, 131, 132, 133, 134, 135, 136, 137, 138, 139, 140, 141, 142, 143, 144] (by decide +kernel) (by decide +kernel)) (goodIn_sub (fun _ h => List.mem_cons_of_mem _ (List.mem_append_right _ h)) (by decide +kernel))
set_option maxRecDepth 20000 in
theorem gX11_decipher_X11_chain : GoodIn wsX11_decipher (wsV RX11 362 RX11 yX11_chain wsX11_chain) := goodIn_app (goodIn_of _ (by decide +kernel)) ggX11_decipher_X11_chain
set_option maxRecDepth 20000 in
theorem ggX11_decipher_X11_become : GoodIn wsX11_decipher wsX11_become := goodIn_ca (goodIn_r _ [97, 98, 99, 100, 101, 102, 103, 104, 105, 106, 107, 108, 109, 110, 111, 112, 113, 114, 115, 116, 117, 118, 119, 120, 121, 122, 123, 124, 125, 126, 127, 128, 129, 130, 131, 132, 133, 134, 135, 136, 137, 138, 139, 140, 141, 142, 143, 144] (by decide +kernel) (by decide +kernel)) (goodIn_sub (fun _ h => List.mem_cons_of_mem _ (List.mem_append_right _ h)) (by decide +kernel))
set_option maxRecDepth 20000 in
theorem gX11_decipher_X11_become : GoodIn wsX11_decipher (wsV RX11 405 RX11 yX11_become wsX11_become) := goodIn_app (goodIn_of _ (by decide +kernel)) ggX11_decipher_X11_become
theorem dX11_decipher_0 : decode cX11_decipher 0 = .ok (.iload_n 1, 1) := by decide +kernel
theorem dX11_decipher_1 : decode cX11_decipher 1 = .ok (.bipush 16, 2) := by decide +kernel
theorem dX11_decipher_3 : decode cX11_decipher 3 = .ok (.if_icmp .ge 6, 3) := by decide +kernel
theorem dX11_decipher_6 : decode cX11_decipher 6 = .ok (.bipush (-2), 2) := by decide +kernel
theorem dX11_decipher_8 : decode cX11_decipher 8 = .ok (.ireturn, 1) := by decide +kernel
theorem dX11_decipher_9 : decode cX11_decipher 9 = .ok (.iload_n 1, 1) := by decide +kernel
theorem dX11_decipher_10 : decode cX11_decipher 10 = .ok (.bipush 32, 2) := by decide +kernel
theorem dX11_decipher_12 : decode cX11_decipher 12 = .ok (.if_icmp .lt 10, 3) := by decide +kernel
theorem dX11_decipher_15 : decode cX11_decipher 15 = .ok (.iload_n 1, 1) := by decide +kernel
theorem dX11_decipher_16 : decode cX11_decipher 16 = .ok (.bipush 16, 2) := by decide +kernel
theorem dX11_decipher_18 : decode cX11_decipher 18 = .ok (.irem, 1) := by decide +kernel
theorem dX11_decipher_19 : decode cX11_decipher 19 = .ok (.ifCond .le 6, 3) := by decide +kernel
theorem dX11_decipher_22 : decode cX11_decipher 22 = .ok (.bipush (-3), 2) := by decide +kernel
theorem dX11_decipher_24 : decode cX11_decipher 24 = .ok (.ireturn, 1) := by decide +kernel
theorem dX11_decipher_25 : decode cX11_decipher 25 = .ok (.iconst 0, 1) := by decide +kernel
theorem dX11_decipher_26 : decode cX11_decipher 26 = .ok (.istore_n 2, 1) := by decide +kernel
theorem dX11_decipher_27 : decode cX11_decipher 27 = .ok (.iload_n 2, 1) := by decide +kernel
theorem dX11_decipher_28 : decode cX11_decipher 28 = .ok (.iload_n 1, 1) := by decide +kernel
theorem dX11_decipher_29 : decode cX11_decipher 29 = .ok (.if_icmp .ge 21, 3) := by decide +kernel
theorem dX11_decipher_32 : decode cX11_decipher 32 = .ok (.aload_n 0, 1) := by decide +kernel
theorem dX11_decipher_33 : decode cX11_decipher 33 = .ok (.getfield 210, 3) := by decide +kernel
theorem dX11_decipher_36 : decode cX11_decipher 36 = .ok (.iload_n 2, 1) := by decide +kernel
theorem dX11_decipher_37 : decode cX11_decipher 37 = .ok (.aload_n 0, 1) := by decide +kernel
theorem dX11_decipher_38 : decode cX11_decipher 38 = .ok (.getfield 34, 3) := by decide +kernel
theorem dX11_decipher_41 : decode cX11_decipher 41 = .ok (.iload_n 2, 1) := by decide +kernel
theorem dX11_decipher_42 : decode cX11_decipher 42 = .ok (.iaload, 1) := by decide +kernel
theorem dX11_decipher_43 : decode cX11_decipher 43 = .ok (.iastore, 1) := by decide +kernel
theorem dX11_decipher_44 : decode cX11_decipher 44 = .ok (.iinc 2 1, 3) := by decide +kernel
theorem dX11_decipher_47 : decode cX11_decipher 47 = .ok (.goto (-20), 3) := by decide +kernel
theorem dX11_decipher_50 : decode cX11_decipher 50 = .ok (.aload_n 0, 1) := by decide +kernel
theorem dX11_decipher_51 : decode cX11_decipher 51 = .ok (.aload_n 0, 1) := by decide +kernel
theorem dX11_decipher_52 : decode cX11_decipher 52 = .ok (.getfield 43, 3) := by decide +kernel
theorem dX11_decipher_55 : decode cX11_decipher 55 = .ok (.aload_n 0, 1) := by decide +kernel
theorem dX11_decipher_56 : decode cX11_decipher 56 = .ok (.aload_n 0, 1) := by decide +kernel
theorem dX11_decipher_57 : decode cX11_decipher 57 = .ok (.getfield 409, 3) := by decide +kernel
theorem dX11_decipher_60 : decode cX11_decipher 60 = .ok (.iconst 0, 1) := by decide +kernel
theorem dX11_decipher_61 : decode cX11_decipher 61 = .ok (.invokevirtual 402, 3) := by decide +kernel
theorem dX11_decipher_64 : decode cX11_decipher 64 = .ok (.invokevirtual 359, 3) := by decide +kernel
theorem dX11_decipher_67 : decode cX11_decipher 67 = .ok (.aload_n 0, 1) := by decide +kernel
theorem dX11_decipher_68 : decode cX11_decipher 68 = .ok (.iload_n 1, 1) := by decide +kernel
theorem dX11_decipher_69 : decode cX11_decipher 69 = .ok (.bipush 16, 2) := by decide +kernel
theorem dX11_decipher_71 : decode cX11_decipher 71 = .ok (.idiv, 1) := by decide +kernel
theorem dX11_decipher_72 : decode cX11_decipher 72 = .ok (.iconst 1, 1) := by decide +kernel
theorem dX11_decipher_73 : decode cX11_decipher 73 = .ok (.isub, 1) := by decide +kernel
theorem dX11_decipher_74 : decode cX11_decipher 74 = .ok (.iconst 1, 1) := by decide +kernel
theorem dX11_decipher_75 : decode cX11_decipher 75 = .ok (.invokevirtual 362, 3) := by decide +kernel
theorem dX11_decipher_78 : decode cX11_decipher 78 = .ok (.aload_n 0, 1) := by decide +kernel
theorem dX11_decipher_79 : decode cX11_decipher 79 = .ok (.getfield 210, 3) := by decide +kernel
theorem dX11_decipher_82 : decode cX11_decipher 82 = .ok (.iload_n 1, 1) := by decide +kernel
theorem dX11_decipher_83 : decode cX11_decipher 83 = .ok (.iconst 1, 1) := by decide +kernel
theorem dX11_decipher_84 : decode cX11_decipher 84 = .ok (.isub, 1) := by decide +kernel
theorem dX11_decipher_85 : decode cX11_decipher 85 = .ok (.iaload, 1) := by decide +kernel
theorem dX11_decipher_86 : decode cX11_decipher 86 = .ok (.istore_n 2, 1) := by decide +kernel
theorem dX11_decipher_87 : decode cX11_decipher 87 = .ok (.iload_n 2, 1) := by decide +kernel
theorem dX11_decipher_88 : decode cX11_decipher 88 = .ok (.ifCond .le 13, 3) := by decide +kernel
theorem dX11_decipher_91 : decode cX11_decipher 91 = .ok (.iload_n 2, 1) := by decide +kernel
theorem dX11_decipher_92 : decode cX11_decipher 92 = .ok (.bipush 17, 2) := by decide +kernel
theorem dX11_decipher_94 : decode cX11_decipher 94 = .ok (.if_icmp .ge 7, 3) := by decide +kernel
theorem dX11_decipher_97 : decode cX11_decipher 97 = .ok (.iconst 1, 1) := by decide +kernel
theorem dX11_decipher_98 : decode cX11_decipher 98 = .ok (.goto 4, 3) := by decide +kernel
theorem dX11_decipher_101 : decode cX11_decipher 101 = .ok (.iconst 0, 1) := by decide +kernel
theorem dX11_decipher_102 : decode cX11_decipher 102 = .ok (.istore_n 3, 1) := by decide +kernel
theorem dX11_decipher_103 : decode cX11_decipher 103 = .ok (.iconst 0, 1) := by decide +kernel
theorem dX11_decipher_104 : decode cX11_decipher 104 = .ok (.istore 4, 2) := by decide +kernel
theorem dX11_decipher_106 : decode cX11_decipher 106 = .ok (.iload_n 3, 1) := by decide +kernel
theorem dX11_decipher_107 : decode cX11_decipher 107 = .ok (.ifCond .eq 36, 3) := by decide +kernel
theorem dX11_decipher_110 : decode cX11_decipher 110 = .ok (.iload 4, 2) := by decide +kernel
theorem dX11_decipher_112 : decode cX11_decipher 112 = .ok (.iload_n 2, 1) := by decide +kernel
theorem dX11_decipher_113 : decode cX11_decipher 113 = .ok (.if_icmp .ge 30, 3) := by decide +kernel
theorem dX11_decipher_116 : decode cX11_decipher 116 = .ok (.aload_n 0, 1) := by decide +kernel
theorem dX11_decipher_117 : decode cX11_decipher 117 = .ok (.getfield 210, 3) := by decide +kernel
theorem dX11_decipher_120 : decode cX11_decipher 120 = .ok (.iload_n 1, 1) := by decide +kernel
theorem dX11_decipher_121 : decode cX11_decipher 121 = .ok (.iconst 1, 1) := by decide +kernel
theorem dX11_decipher_122 : decode cX11_decipher 122 = .ok (.isub, 1) := by decide +kernel
theorem dX11_decipher_123 : decode cX11_decipher 123 = .ok (.iload 4, 2) := by decide +kernel
theorem dX11_decipher_125 : decode cX11_decipher 125 = .ok (.isub, 1) := by decide +kernel
theorem dX11_decipher_126 : decode cX11_decipher 126 = .ok (.iaload, 1) := by decide +kernel
theorem dX11_decipher_127 : decode cX11_decipher 127 = .ok (.iload_n 2, 1) := by decide +kernel
theorem dX11_decipher_128 : decode cX11_decipher 128 = .ok (.if_icmp .ne 7, 3) := by decide +kernel
theorem dX11_decipher_131 : decode cX11_decipher 131 = .ok (.iconst 1, 1) := by decide +kernel
theorem dX11_decipher_132 : decode cX11_decipher 132 = .ok (.goto 4, 3) := by decide +kernel
theorem dX11_decipher_135 : decode cX11_decipher 135 = .ok (.iconst 0, 1) := by decide +kernel
theorem dX11_decipher_136 : decode cX11_decipher 136 = .ok (.istore_n 3, 1) := by decide +kernel
theorem dX11_decipher_137 : decode cX11_decipher 137 = .ok (.iinc 4 1, 3) := by decide +kernel
theorem dX11_decipher_140 : decode cX11_decipher 140 = .ok (.goto (-34), 3) := by decide +kernel
theorem dX11_decipher_143 : decode cX11_decipher 143 = .ok (.iload_n 3, 1) := by decide +kernel
theorem dX11_decipher_144 : decode cX11_decipher 144 = .ok (.ifCond .eq 22, 3) := by decide +kernel
theorem dX11_decipher_147 : decode cX11_decipher 147 = .ok (.aload_n 0, 1) := by decide +kernel
theorem dX11_decipher_148 : decode cX11_decipher 148 = .ok (.aload_n 0, 1) := by decide +kernel
theorem dX11_decipher_149 : decode cX11_decipher 149 = .ok (.getfield 210, 3) := by decide +kernel
theorem dX11_decipher_152 : decode cX11_decipher 152 = .ok (.bipush 16, 2) := by decide +kernel
theorem dX11_decipher_154 : decode cX11_decipher 154 = .ok (.iload_n 1, 1) := by decide +kernel
theorem dX11_decipher_155 : decode cX11_decipher 155 = .ok (.bipush 16, 2) := by decide +kernel
theorem dX11_decipher_157 : decode cX11_decipher 157 = .ok (.isub, 1) := by decide +kernel
theorem dX11_decipher_158 : decode cX11_decipher 158 = .ok (.iload_n 2, 1) := by decide +kernel
theorem dX11_decipher_159 : decode cX11_decipher 159 = .ok (.isub, 1) := by decide +kernel
theorem dX11_decipher_160 : decode cX11_decipher 160 = .ok (.invokevirtual 405, 3) := by decide +kernel
theorem dX11_decipher_163 : decode cX11_decipher 163 = .ok (.goto 5, 3) := by decide +kernel
theorem dX11_decipher_166 : decode cX11_decipher 166 = .ok (.bipush (-4), 2) := by decide +kernel
theorem dX11_decipher_168 : decode cX11_decipher 168 = .ok (.ireturn, 1) := by decide +kernel
set_option maxRecDepth 20000 in
theorem ggX11_end_X11_decipher : GoodIn wsX11_end wsX11_decipher := goodIn_ca (goodIn_r _ [12, 13, 7, 6, 5, 14, 15, 16, 11, 17, 18, 19, 20, 3, 21, 22, 23, 24, 25, 26, 27, 28, 29, 30, 31, 32, 33, 34, 35, 36, 37, 38, 39, 40, 41, 42, 43, 44, 45, 46, 47, 48, 49, 50, 51, 52, 53, 54, 55, 56, 57, 58, 59, 60, 61, 62, 63, 64, 65, 66, 67, 68, 69, 70, 71, 72, 73, 74, 75, 76, 77, 78, 79, 80, 81, 82, 83, 84, 85, 86, 87, 88, 89, 90, 91, 92, 93, 94, 95, 96, 97, 98, 99, 100, 101, 102, 103, 104, 105, 106, 123, 124, 125, 126, 127, 128, 129, 130, 131, 132, 133, 134, 135, 136, 137, 138, 139, 140, 141, 142, 143, 144, 145, 146, 147, 148, 149, 150, 151, 152, 153, 154, 155, 156, 157, 158, 159, 160, 161, 162, 163, 164, 165, 166, 167] (by decide +kernel) (by decide +kernel)) (goodIn_sub (fun _ h => List.mem_cons_of_mem _ (List.mem_append_right _ h)) (by decide +kernel))
set_option maxRecDepth 20000 in
theorem gX11_end_X11_decipher : GoodIn wsX11_end (wsV RX11 415 RX11 yX11_decipher wsX11_decipher) := goodIn_app (goodIn_of _ (by decide +kernel)) ggX11_end_X11_decipher
set_option maxRecDepth 20000 in
theorem ggX11_end_X11_encipher : GoodIn wsX11_end wsX11_encipher := goodIn_ca (goodIn_r _ [110, 111, 112, 13, 7, 6, 5, 113, 114, 115, 11, 116, 117, 14, 15, 16, 17, 18, 19, 20, 3, 21, 22, 23, 24, 25, 26, 27, 28, 29, 30, 31, 32, 33, 34, 35, 36, 37, 38, 39, 40, 41, 42, 43, 44, 45, 46, 47, 48, 49, 50, 51, 52, 53, 54, 55, 56, 57, 58, 59, 60, 61, 62, 63, 64, 65, 66, 67, 68, 69, 70, 71, 72, 73, 74, 75, 76, 77, 78, 79, 80, 81, 82, 83, 84, 85, 86, 87, 88, 89, 90, 91, 92, 93, 94, 95, 96, 97, 98, 99, 100, 101, 102, 103, 104, 105, 106, 123, 124, 125, 126, 127, 128, 129, 130, 131, 132, 133, 134, 135, 136, 137, 138, 139, 140, 141, 142, 143, 144, 145, 146, 147, 148, 149, 150, 151, 152, 153, 154, 155, 156, 157, 158, 159, 160, 161, 162, 163, 164, 165, 166, 167] (by decide +kernel) (by decide +kernel)) (goodIn_sub (fun _ h => List.mem_cons_of_mem _ (List.mem_append_right _ h)) (by decide +kernel))
set_option maxRecDepth 20000 in
theorem gX11_end_X11_encipher : GoodIn wsX11_end (wsV RX11 418 RX11 yX11_encipher wsX11_encipher) := goodIn_app (goodIn_of _ (by decide +kernel)) ggX11_end_X11_encipher
set_option maxRecDepth 20000 in
theorem ggX11_end_X11_objectKey : GoodIn wsX11_end wsX11_objectKey := goodIn_ca (goodIn_r _ [17, 18, 6, 19, 20, 3, 21, 22, 23, 24, 11, 25, 26, 27, 28, 29, 30, 31, 32, 33, 34, 35, 36, 37, 38, 39, 40, 41, 42, 43, 44, 45, 46, 47, 48, 49, 50, 51, 52, 53, 54, 55, 56, 57, 58, 59, 60, 61, 62, 63, 64, 65, 66, 67, 123, 124, 125, 126, 127, 128, 129, 130, 131, 132, 133, 134, 135, 136, 137, 138, 139, 140, 141, 142, 143, 144, 145, 146, 147, 148, 149, 150, 151, 152, 153, 154, 155, 156, 157, 158, 159, 160, 161, 162, 163, 164, 165, 166, 167] (by decide +kernel) (by decide +kernel)) (goodIn_sub (fun _ h => List.mem_cons_of_mem _ (List.mem_append_right _ h)) (by decide +kernel))
set_option maxRecDepth 20000 in
theorem gX11_end_X11_objectKey : GoodIn wsX11_end (wsV RX11 402 RX11 yX11_objectKey wsX11_objectKey) := goodIn_app (goodIn_of _ (by decide +kernel)) ggX11_end_X11_objectKey
set_option maxRecDepth 20000 in
theorem ggX11_end_X11_throughStream : GoodIn wsX11_end wsX11_throughStream := goodIn_ca (goodIn_r _ [121, 122, 123, 124, 125, 126, 127, 128, 129, 130, 131, 132, 133, 134, 135, 136, 137, 138, 139, 140, 141, 142, 143, 144, 145, 146, 147, 148, 149, 150, 151, 152, 153, 154, 155, 156, 157, 158, 159, 160, 161, 162, 163, 164, 165, 166, 167] (by decide +kernel) (by decide +kernel)) (goodIn_sub (fun _ h => List.mem_cons_of_mem _ (List.mem_append_right _ h)) (by decide +kernel))
set_option maxRecDepth 20000 in
theorem gX11_end_X11_throughStream : GoodIn wsX11_end (wsV RX11 316 RX11 yX11_throughStream wsX11_throughStream) := goodIn_app (goodIn_of _ (by decide +kernel)) ggX11_end_X11_throughStream
set_option maxRecDepth 20000 in
theorem ggX11_end_X11_become : GoodIn wsX11_end wsX11_become := goodIn_ca (goodIn_r _ [104, 105, 106, 123, 124, 125, 126, 127, 128, 129, 130, 131, 132, 133, 134, 135, 136, 137, 138, 139, 140, 141, 142, 143, 144, 145, 146, 147, 148, 149, 150, 151, 152, 153, 154, 155, 156, 157, 158, 159, 160, 161, 162, 163, 164, 165, 166, 167] (by decide +kernel) (by decide +kernel)) (goodIn_sub (fun _ h => List.mem_cons_of_mem _ (List.mem_append_right _ h)) (by decide +kernel))
set_option maxRecDepth 20000 in
theorem gX11_end_X11_become : GoodIn wsX11_end (wsV RX11 405 RX11 yX11_become wsX11_become) := goodIn_app (goodIn_of _ (by decide +kernel)) ggX11_end_X11_become
theorem dX11_end_0 : decode cX11_end 0 = .ok (.aload_n 0, 1) := by decide +kernel
theorem dX11_end_1 : decode cX11_end 1 = .ok (.iconst 0, 1) := by decide +kernel
theorem dX11_end_2 : decode cX11_end 2 = .ok (.putfield 230, 3) := by decide +kernel
theorem dX11_end_5 : decode cX11_end 5 = .ok (.aload_n 0, 1) := by decide +kernel
theorem dX11_end_6 : decode cX11_end 6 = .ok (.getfield 375, 3) := by decide +kernel
theorem dX11_end_9 : decode cX11_end 9 = .ok (.istore_n 1, 1) := by decide +kernel
theorem dX11_end_10 : decode cX11_end 10 = .ok (.aload_n 0, 1) := by decide +kernel
theorem dX11_end_11 : decode cX11_end 11 = .ok (.iconst 0, 1) := by decide +kernel
theorem dX11_end_12 : decode cX11_end 12 = .ok (.putfield 375, 3) := by decide +kernel
theorem dX11_end_15 : decode cX11_end 15 = .ok (.iload_n 1, 1) := by decide +kernel
theorem dX11_end_16 : decode cX11_end 16 = .ok (.ifCond .ne 5, 3) := by decide +kernel
theorem dX11_end_19 : decode cX11_end 19 = .ok (.iconst (-1), 1) := by decide +kernel
theorem dX11_end_20 : decode cX11_end 20 = .ok (.ireturn, 1) := by decide +kernel
theorem dX11_end_21 : decode cX11_end 21 = .ok (.aload_n 0, 1) := by decide +kernel
theorem dX11_end_22 : decode cX11_end 22 = .ok (.getfield 223, 3) := by decide +kernel
theorem dX11_end_25 : decode cX11_end 25 = .ok (.iconst 2, 1) := by decide +kernel
theorem dX11_end_26 : decode cX11_end 26 = .ok (.if_icmp .ne 24, 3) := by decide +kernel
theorem dX11_end_29 : decode cX11_end 29 = .ok (.aload_n 0, 1) := by decide +kernel
theorem dX11_end_30 : decode cX11_end 30 = .ok (.getfield 412, 3) := by decide +kernel
theorem dX11_end_33 : decode cX11_end 33 = .ok (.ifCond .eq 11, 3) := by decide +kernel
theorem dX11_end_36 : decode cX11_end 36 = .ok (.aload_n 0, 1) := by decide +kernel
theorem dX11_end_37 : decode cX11_end 37 = .ok (.iload_n 1, 1) := by decide +kernel
theorem dX11_end_38 : decode cX11_end 38 = .ok (.invokevirtual 415, 3) := by decide +kernel
theorem dX11_end_41 : decode cX11_end 41 = .ok (.goto 8, 3) := by decide +kernel
theorem dX11_end_44 : decode cX11_end 44 = .ok (.aload_n 0, 1) := by decide +kernel
theorem dX11_end_45 : decode cX11_end 45 = .ok (.iload_n 1, 1) := by decide +kernel
theorem dX11_end_46 : decode cX11_end 46 = .ok (.invokevirtual 418, 3) := by decide +kernel
theorem dX11_end_49 : decode cX11_end 49 = .ok (.ireturn, 1) := by decide +kernel
theorem dX11_end_50 : decode cX11_end 50 = .ok (.aload_n 0, 1) := by decide +kernel
theorem dX11_end_51 : decode cX11_end 51 = .ok (.getfield 223, 3) := by decide +kernel
theorem dX11_end_54 : decode cX11_end 54 = .ok (.iconst 1, 1) := by decide +kernel
theorem dX11_end_55 : decode cX11_end 55 = .ok (.if_icmp .ne 29, 3) := by decide +kernel
theorem dX11_end_58 : decode cX11_end 58 = .ok (.aload_n 0, 1) := by decide +kernel
theorem dX11_end_59 : decode cX11_end 59 = .ok (.aload_n 0, 1) := by decide +kernel
theorem dX11_end_60 : decode cX11_end 60 = .ok (.getfield 409, 3) := by decide +kernel
theorem dX11_end_63 : decode cX11_end 63 = .ok (.iconst 0, 1) := by decide +kernel
theorem dX11_end_64 : decode cX11_end 64 = .ok (.invokevirtual 402, 3) := by decide +kernel
theorem dX11_end_67 : decode cX11_end 67 = .ok (.istore_n 2, 1) := by decide +kernel
theorem dX11_end_68 : decode cX11_end 68 = .ok (.aload_n 0, 1) := by decide +kernel
theorem dX11_end_69 : decode cX11_end 69 = .ok (.aload_n 0, 1) := by decide +kernel
theorem dX11_end_70 : decode cX11_end 70 = .ok (.getfield 43, 3) := by decide +kernel
theorem dX11_end_73 : decode cX11_end 73 = .ok (.iload_n 2, 1) := by decide +kernel
theorem dX11_end_74 : decode cX11_end 74 = .ok (.iconst 0, 1) := by decide +kernel
theorem dX11_end_75 : decode cX11_end 75 = .ok (.aload_n 0, 1) := by decide +kernel
theorem dX11_end_76 : decode cX11_end 76 = .ok (.getfield 34, 3) := by decide +kernel
theorem dX11_end_79 : decode cX11_end 79 = .ok (.iconst 0, 1) := by decide +kernel
theorem dX11_end_80 : decode cX11_end 80 = .ok (.iload_n 1, 1) := by decide +kernel
theorem dX11_end_81 : decode cX11_end 81 = .ok (.invokevirtual 316, 3) := by decide +kernel
theorem dX11_end_84 : decode cX11_end 84 = .ok (.aload_n 0, 1) := by decide +kernel
theorem dX11_end_85 : decode cX11_end 85 = .ok (.aload_n 0, 1) := by decide +kernel
theorem dX11_end_86 : decode cX11_end 86 = .ok (.getfield 34, 3) := by decide +kernel
theorem dX11_end_89 : decode cX11_end 89 = .ok (.iconst 0, 1) := by decide +kernel
theorem dX11_end_90 : decode cX11_end 90 = .ok (.iload_n 1, 1) := by decide +kernel
theorem dX11_end_91 : decode cX11_end 91 = .ok (.invokevirtual 405, 3) := by decide +kernel
theorem dX11_end_94 : decode cX11_end 94 = .ok (.ireturn, 1) := by decide +kernel
theorem dX11_out_0 : decode cX11_out 0 = .ok (.aload_n 0, 1) := by decide +kernel
theorem dX11_out_1 : decode cX11_out 1 = .ok (.iload_n 1, 1) := by decide +kernel
theorem dX11_out_2 : decode cX11_out 2 = .ok (.ifCond .lt 11, 3) := by decide +kernel
theorem dX11_out_5 : decode cX11_out 5 = .ok (.iload_n 1, 1) := by decide +kernel
theorem dX11_out_6 : decode cX11_out 6 = .ok (.aload_n 0, 1) := by decide +kernel
theorem dX11_out_7 : decode cX11_out 7 = .ok (.getfield 399, 3) := by decide +kernel
theorem dX11_out_10 : decode cX11_out 10 = .ok (.if_icmp .lt 7, 3) := by decide +kernel
theorem dX11_out_13 : decode cX11_out 13 = .ok (.iconst 1, 1) := by decide +kernel
theorem dX11_out_14 : decode cX11_out 14 = .ok (.goto 4, 3) := by decide +kernel
theorem dX11_out_17 : decode cX11_out 17 = .ok (.iconst 0, 1) := by decide +kernel
theorem dX11_out_18 : decode cX11_out 18 = .ok (.putfield 230, 3) := by decide +kernel
theorem dX11_out_21 : decode cX11_out 21 = .ok (.aload_n 0, 1) := by decide +kernel
theorem dX11_out_22 : decode cX11_out 22 = .ok (.getfield 230, 3) := by decide +kernel
theorem dX11_out_25 : decode cX11_out 25 = .ok (.ifCond .le 7, 3) := by decide +kernel
theorem dX11_out_28 : decode cX11_out 28 = .ok (.iconst 0, 1) := by decide +kernel
theorem dX11_out_29 : decode cX11_out 29 = .ok (.goto 10, 3) := by decide +kernel
theorem dX11_out_32 : decode cX11_out 32 = .ok (.aload_n 0, 1) := by decide +kernel
theorem dX11_out_33 : decode cX11_out 33 = .ok (.getfield 37, 3) := by decide +kernel
theorem dX11_out_36 : decode cX11_out 36 = .ok (.iload_n 1, 1) := by decide +kernel
theorem dX11_out_37 : decode cX11_out 37 = .ok (.iaload, 1) := by decide +kernel
theorem dX11_out_38 : decode cX11_out 38 = .ok (.i2b, 1) := by decide +kernel
theorem dX11_out_39 : decode cX11_out 39 = .ok (.ireturn, 1) := by decide +kernel
set_option maxRecDepth 20000 in
theorem ggX11_digest_X11_sayRow : GoodIn wsX11_digest wsX11_sayRow := goodIn_ca (goodIn_r _ [10, 11, 12, 13, 9, 14, 15, 2, 65, 66, 67, 68, 69, 70, 71, 72, 73, 74, 75, 76, 77, 78, 79, 80, 81, 82, 83, 84, 85, 86, 87, 88, 89, 90, 91, 92, 93, 94, 95, 96, 97, 98, 99, 100, 101, 102, 103, 104, 105, 106, 107, 108, 109] (by decide +kernel) (by decide +kernel)) (goodIn_sub (fun _ h => List.mem_cons_of_mem _ (List.mem_append_right _ h)) (by decide +kernel))
set_option maxRecDepth 20000 in
theorem gX11_digest_X11_sayRow : GoodIn wsX11_digest (wsV RX11 292 RX11 yX11_sayRow wsX11_sayRow) := goodIn_app (goodIn_of _ (by decide +kernel)) ggX11_digest_X11_sayRow
set_option maxRecDepth 20000 in
theorem ggX11_digest_X11_small : GoodIn wsX11_digest wsX11_small := goodIn_ca (goodIn_r _ [19, 20, 21, 22, 23, 24, 25, 26, 27, 28, 29, 9, 30, 2, 11, 12, 13, 14, 15, 31, 32, 33, 34, 35, 36, 37, 38, 39, 40, 41, 42, 43, 44, 5, 65, 66, 67, 68, 69, 70, 71, 72, 73, 74, 75, 76, 77, 78, 79, 80, 81, 82, 83, 84, 85, 86, 87, 88, 89, 90, 91, 92, 93, 94, 95, 96, 97, 98, 99, 100, 101, 102, 103, 104, 105, 106, 107, 108, 109] (by decide +kernel) (by decide +kernel)) (goodIn_sub (fun _ h => List.mem_cons_of_mem _ (List.mem_append_right _ h)) (by decide +kernel))
set_option maxRecDepth 20000 in
theorem gX11_digest_X11_small : GoodIn wsX11_digest (wsV RX11 296 RX11 yX11_small wsX11_small) := goodIn_app (goodIn_of _ (by decide +kernel)) ggX11_digest_X11_small
set_option maxRecDepth 20000 in
theorem ggX11_digest_X11_great : GoodIn wsX11_digest wsX11_great := goodIn_ca (goodIn_r _ [48, 20, 49, 50, 51, 52, 53, 54, 55, 56, 26, 57, 58, 27, 28, 29, 9, 30, 2, 11, 12, 13, 14, 15, 31, 32, 33, 34, 38, 39, 40, 41, 42, 43, 44, 5, 65, 66, 67, 68, 69, 70, 71, 72, 73, 74, 75, 76, 77, 78, 79, 80, 81, 82, 83, 84, 85, 86, 87, 88, 89, 90, 91, 92, 93, 94, 95, 96, 97, 98, 99, 100, 101, 102, 103, 104, 105, 106, 107, 108, 109] (by decide +kernel) (by decide +kernel)) (goodIn_sub (fun _ h => List.mem_cons_of_mem _ (List.mem_append_right _ h)) (by decide +kernel))
set_option maxRecDepth 20000 in
theorem gX11_digest_X11_great : GoodIn wsX11_digest (wsV RX11 349 RX11 yX11_great wsX11_great) := goodIn_app (goodIn_of _ (by decide +kernel)) ggX11_digest_X11_great
set_option maxRecDepth 20000 in
theorem ggX11_digest_X11_become : GoodIn wsX11_digest wsX11_become := goodIn_ca (goodIn_r _ [62, 63, 64, 65, 66, 67, 68, 69, 70, 71, 72, 73, 74, 75, 76, 77, 78, 79, 80, 81, 82, 83, 84, 85, 86, 87, 88, 89, 90, 91, 92, 93, 94, 95, 96, 97, 98, 99, 100, 101, 102, 103, 104, 105, 106, 107, 108, 109] (by decide +kernel) (by decide +kernel)) (goodIn_sub (fun _ h => List.mem_cons_of_mem _ (List.mem_append_right _ h)) (by decide +kernel))
set_option maxRecDepth 20000 in
theorem gX11_digest_X11_become : GoodIn wsX11_digest (wsV RX11 405 RX11 yX11_become wsX11_become) := goodIn_app (goodIn_of _ (by decide +kernel)) ggX11_digest_X11_become
theorem dX11_digest_0 : decode cX11_digest 0 = .ok (.aload_n 0, 1) := by decide +kernel
theorem dX11_digest_1 : decode cX11_digest 1 = .ok (.iload_n 1, 1) := by decide +kernel
theorem dX11_digest_2 : decode cX11_digest 2 = .ok (.ifCond .lt 8, 3) := by decide +kernel
theorem dX11_digest_5 : decode cX11_digest 5 = .ok (.iload_n 1, 1) := by decide +kernel
theorem dX11_digest_6 : decode cX11_digest 6 = .ok (.iconst 1, 1) := by decide +kernel
theorem dX11_digest_7 : decode cX11_digest 7 = .ok (.if_icmp .le 7, 3) := by decide +kernel
theorem dX11_digest_10 : decode cX11_digest 10 = .ok (.iconst 1, 1) := by decide +kernel
theorem dX11_digest_11 : decode cX11_digest 11 = .ok (.goto 4, 3) := by decide +kernel
theorem dX11_digest_14 : decode cX11_digest 14 = .ok (.iconst 0, 1) := by decide +kernel
theorem dX11_digest_15 : decode cX11_digest 15 = .ok (.putfield 230, 3) := by decide +kernel
theorem dX11_digest_18 : decode cX11_digest 18 = .ok (.aload_n 0, 1) := by decide +kernel
theorem dX11_digest_19 : decode cX11_digest 19 = .ok (.getfield 230, 3) := by decide +kernel
theorem dX11_digest_22 : decode cX11_digest 22 = .ok (.ifCond .le 5, 3) := by decide +kernel
theorem dX11_digest_25 : decode cX11_digest 25 = .ok (.iconst 0, 1) := by decide +kernel
theorem dX11_digest_26 : decode cX11_digest 26 = .ok (.ireturn, 1) := by decide +kernel
theorem dX11_digest_27 : decode cX11_digest 27 = .ok (.aload_n 0, 1) := by decide +kernel
theorem dX11_digest_28 : decode cX11_digest 28 = .ok (.iconst 0, 1) := by decide +kernel
theorem dX11_digest_29 : decode cX11_digest 29 = .ok (.putfield 233, 3) := by decide +kernel
theorem dX11_digest_32 : decode cX11_digest 32 = .ok (.aload_n 0, 1) := by decide +kernel
theorem dX11_digest_33 : decode cX11_digest 33 = .ok (.aload_n 0, 1) := by decide +kernel
theorem dX11_digest_34 : decode cX11_digest 34 = .ok (.getfield 34, 3) := by decide +kernel
theorem dX11_digest_37 : decode cX11_digest 37 = .ok (.iconst 0, 1) := by decide +kernel
theorem dX11_digest_38 : decode cX11_digest 38 = .ok (.aload_n 0, 1) := by decide +kernel
theorem dX11_digest_39 : decode cX11_digest 39 = .ok (.getfield 375, 3) := by decide +kernel
theorem dX11_digest_42 : decode cX11_digest 42 = .ok (.invokevirtual 292, 3) := by decide +kernel
theorem dX11_digest_45 : decode cX11_digest 45 = .ok (.iload_n 1, 1) := by decide +kernel
theorem dX11_digest_46 : decode cX11_digest 46 = .ok (.ifCond .ne 10, 3) := by decide +kernel
theorem dX11_digest_49 : decode cX11_digest 49 = .ok (.aload_n 0, 1) := by decide +kernel
theorem dX11_digest_50 : decode cX11_digest 50 = .ok (.invokevirtual 296, 3) := by decide +kernel
theorem dX11_digest_53 : decode cX11_digest 53 = .ok (.goto 7, 3) := by decide +kernel
theorem dX11_digest_56 : decode cX11_digest 56 = .ok (.aload_n 0, 1) := by decide +kernel
theorem dX11_digest_57 : decode cX11_digest 57 = .ok (.invokevirtual 349, 3) := by decide +kernel
theorem dX11_digest_60 : decode cX11_digest 60 = .ok (.aload_n 0, 1) := by decide +kernel
theorem dX11_digest_61 : decode cX11_digest 61 = .ok (.aload_n 0, 1) := by decide +kernel
theorem dX11_digest_62 : decode cX11_digest 62 = .ok (.getfield 43, 3) := by decide +kernel
theorem dX11_digest_65 : decode cX11_digest 65 = .ok (.iconst 0, 1) := by decide +kernel
theorem dX11_digest_66 : decode cX11_digest 66 = .ok (.iload_n 1, 1) := by decide +kernel
theorem dX11_digest_67 : decode cX11_digest 67 = .ok (.ifCond .ne 8, 3) := by decide +kernel
theorem dX11_digest_70 : decode cX11_digest 70 = .ok (.bipush 16, 2) := by decide +kernel
theorem dX11_digest_72 : decode cX11_digest 72 = .ok (.goto 5, 3) := by decide +kernel
theorem dX11_digest_75 : decode cX11_digest 75 = .ok (.bipush 32, 2) := by decide +kernel
theorem dX11_digest_77 : decode cX11_digest 77 = .ok (.invokevirtual 405, 3) := by decide +kernel
theorem dX11_digest_80 : decode cX11_digest 80 = .ok (.ireturn, 1) := by decide +kernel
theorem dX11_weak_0 : decode cX11_weak 0 = .ok (.aload_n 0, 1) := by decide +kernel
theorem dX11_weak_1 : decode cX11_weak 1 = .ok (.iconst 0, 1) := by decide +kernel
theorem dX11_weak_2 : decode cX11_weak 2 = .ok (.putfield 230, 3) := by decide +kernel
theorem dX11_weak_5 : decode cX11_weak 5 = .ok (.aload_n 0, 1) := by decide +kernel
theorem dX11_weak_6 : decode cX11_weak 6 = .ok (.getfield 219, 3) := by decide +kernel
theorem dX11_weak_9 : decode cX11_weak 9 = .ok (.iconst 2, 1) := by decide +kernel
theorem dX11_weak_10 : decode cX11_weak 10 = .ok (.if_icmp .eq 10, 3) := by decide +kernel
theorem dX11_weak_13 : decode cX11_weak 13 = .ok (.aload_n 0, 1) := by decide +kernel
theorem dX11_weak_14 : decode cX11_weak 14 = .ok (.getfield 223, 3) := by decide +kernel
theorem dX11_weak_17 : decode cX11_weak 17 = .ok (.ifCond .ne 7, 3) := by decide +kernel
theorem dX11_weak_20 : decode cX11_weak 20 = .ok (.iconst 1, 1) := by decide +kernel
theorem dX11_weak_21 : decode cX11_weak 21 = .ok (.goto 4, 3) := by decide +kernel
theorem dX11_weak_24 : decode cX11_weak 24 = .ok (.iconst 0, 1) := by decide +kernel
theorem dX11_weak_25 : decode cX11_weak 25 = .ok (.ireturn, 1) := by decide +kernel
set_option maxRecDepth 20000 in
theorem ggX11_told_X11_setKey : GoodIn wsX11_told wsX11_setKey := goodIn_ca (goodIn_r _ [16, 17, 18, 19, 20, 21, 15, 22, 42, 43, 44, 45, 46, 47, 48, 49, 50, 51, 52, 53, 54, 55, 56, 57, 58, 59, 60, 61, 62, 63, 64, 65, 66, 67, 68, 69, 70, 71, 72, 73, 74, 75, 76, 77, 78, 79, 80, 81, 82, 83, 84, 85, 86] (by decide +kernel) (by decide +kernel)) (goodIn_sub (fun _ h => List.mem_cons_of_mem _ (List.mem_append_right _ h)) (by decide +kernel))
set_option maxRecDepth 20000 in
theorem gX11_told_X11_setKey : GoodIn wsX11_told (wsV RX11 359 RX11 yX11_setKey wsX11_setKey) := goodIn_app (goodIn_of _ (by decide +kernel)) ggX11_told_X11_setKey
set_option maxRecDepth 20000 in
theorem ggX11_told_X11_block : GoodIn wsX11_told wsX11_block := goodIn_ca (goodIn_r _ [26, 27, 17, 28, 29, 30, 15, 31, 18, 32, 33, 34, 35, 36, 20, 21, 22, 37, 38, 39, 40, 41, 19, 42, 43, 44, 45, 46, 47, 48, 49, 50, 51, 52, 53, 54, 55, 56, 57, 58, 59, 60, 61, 62, 63, 64, 65, 66, 67, 68, 69, 70, 71, 72, 73, 74, 75, 76, 77, 78, 79, 80, 81, 82, 83, 84, 85, 86] (by decide +kernel) (by decide +kernel)) (goodIn_sub (fun _ h => List.mem_cons_of_mem _ (List.mem_append_right _ h)) (by decide +kernel))
set_option maxRecDepth 20000 in
theorem gX11_told_X11_block : GoodIn wsX11_told (wsV RX11 284 RX11 yX11_block wsX11_block) := goodIn_app (goodIn_of _ (by decide +kernel)) ggX11_told_X11_block
theorem dX11_told_0 : decode cX11_told 0 = .ok (.aload_n 0, 1) := by decide +kernel
theorem dX11_told_1 : decode cX11_told 1 = .ok (.iload_n 1, 1) := by decide +kernel
theorem dX11_told_2 : decode cX11_told 2 = .ok (.ifCond .lt 8, 3) := by decide +kernel
theorem dX11_told_5 : decode cX11_told 5 = .ok (.iload_n 1, 1) := by decide +kernel
theorem dX11_told_6 : decode cX11_told 6 = .ok (.iconst 3, 1) := by decide +kernel
theorem dX11_told_7 : decode cX11_told 7 = .ok (.if_icmp .le 7, 3) := by decide +kernel
theorem dX11_told_10 : decode cX11_told 10 = .ok (.iconst 1, 1) := by decide +kernel
theorem dX11_told_11 : decode cX11_told 11 = .ok (.goto 4, 3) := by decide +kernel
theorem dX11_told_14 : decode cX11_told 14 = .ok (.iconst 0, 1) := by decide +kernel
theorem dX11_told_15 : decode cX11_told 15 = .ok (.putfield 230, 3) := by decide +kernel
theorem dX11_told_18 : decode cX11_told 18 = .ok (.aload_n 0, 1) := by decide +kernel
theorem dX11_told_19 : decode cX11_told 19 = .ok (.getfield 230, 3) := by decide +kernel
theorem dX11_told_22 : decode cX11_told 22 = .ok (.ifCond .le 5, 3) := by decide +kernel
theorem dX11_told_25 : decode cX11_told 25 = .ok (.iconst 0, 1) := by decide +kernel
theorem dX11_told_26 : decode cX11_told 26 = .ok (.ireturn, 1) := by decide +kernel
theorem dX11_told_27 : decode cX11_told 27 = .ok (.iload_n 1, 1) := by decide +kernel
theorem dX11_told_28 : decode cX11_told 28 = .ok (.iconst 3, 1) := by decide +kernel
theorem dX11_told_29 : decode cX11_told 29 = .ok (.if_icmp .ge 36, 3) := by decide +kernel
theorem dX11_told_32 : decode cX11_told 32 = .ok (.iload_n 1, 1) := by decide +kernel
theorem dX11_told_33 : decode cX11_told 33 = .ok (.ifCond .ne 10, 3) := by decide +kernel
theorem dX11_told_36 : decode cX11_told 36 = .ok (.aload_n 0, 1) := by decide +kernel
theorem dX11_told_37 : decode cX11_told 37 = .ok (.getfield 375, 3) := by decide +kernel
theorem dX11_told_40 : decode cX11_told 40 = .ok (.goto 24, 3) := by decide +kernel
theorem dX11_told_43 : decode cX11_told 43 = .ok (.iload_n 1, 1) := by decide +kernel
theorem dX11_told_44 : decode cX11_told 44 = .ok (.iconst 1, 1) := by decide +kernel
theorem dX11_told_45 : decode cX11_told 45 = .ok (.if_icmp .ne 15, 3) := by decide +kernel
theorem dX11_told_48 : decode cX11_told 48 = .ok (.aload_n 0, 1) := by decide +kernel
theorem dX11_told_49 : decode cX11_told 49 = .ok (.getfield 369, 3) := by decide +kernel
theorem dX11_told_52 : decode cX11_told 52 = .ok (.aload_n 0, 1) := by decide +kernel
theorem dX11_told_53 : decode cX11_told 53 = .ok (.getfield 346, 3) := by decide +kernel
theorem dX11_told_56 : decode cX11_told 56 = .ok (.isub, 1) := by decide +kernel
theorem dX11_told_57 : decode cX11_told 57 = .ok (.goto 7, 3) := by decide +kernel
theorem dX11_told_60 : decode cX11_told 60 = .ok (.aload_n 0, 1) := by decide +kernel
theorem dX11_told_61 : decode cX11_told 61 = .ok (.getfield 399, 3) := by decide +kernel
theorem dX11_told_64 : decode cX11_told 64 = .ok (.ireturn, 1) := by decide +kernel
theorem dX11_told_65 : decode cX11_told 65 = .ok (.aload_n 0, 1) := by decide +kernel
theorem dX11_told_66 : decode cX11_told 66 = .ok (.getfield 219, 3) := by decide +kernel
theorem dX11_told_69 : decode cX11_told 69 = .ok (.iconst 5, 1) := by decide +kernel
theorem dX11_told_70 : decode cX11_told 70 = .ok (.if_icmp .lt 10, 3) := by decide +kernel
theorem dX11_told_73 : decode cX11_told 73 = .ok (.aload_n 0, 1) := by decide +kernel
theorem dX11_told_74 : decode cX11_told 74 = .ok (.getfield 372, 3) := by decide +kernel
theorem dX11_told_77 : decode cX11_told 77 = .ok (.ifCond .ne 8, 3) := by decide +kernel
theorem dX11_told_80 : decode cX11_told 80 = .ok (.aload_n 0, 1) := by decide +kernel
theorem dX11_told_81 : decode cX11_told 81 = .ok (.getfield 302, 3) := by decide +kernel
theorem dX11_told_84 : decode cX11_told 84 = .ok (.ireturn, 1) := by decide +kernel
theorem dX11_told_85 : decode cX11_told 85 = .ok (.iconst 0, 1) := by decide +kernel
theorem dX11_told_86 : decode cX11_told 86 = .ok (.istore_n 2, 1) := by decide +kernel
theorem dX11_told_87 : decode cX11_told 87 = .ok (.iload_n 2, 1) := by decide +kernel
theorem dX11_told_88 : decode cX11_told 88 = .ok (.bipush 16, 2) := by decide +kernel
theorem dX11_told_90 : decode cX11_told 90 = .ok (.if_icmp .ge 25, 3) := by decide +kernel
theorem dX11_told_93 : decode cX11_told 93 = .ok (.aload_n 0, 1) := by decide +kernel
theorem dX11_told_94 : decode cX11_told 94 = .ok (.getfield 210, 3) := by decide +kernel
theorem dX11_told_97 : decode cX11_told 97 = .ok (.iload_n 2, 1) := by decide +kernel
theorem dX11_told_98 : decode cX11_told 98 = .ok (.aload_n 0, 1) := by decide +kernel
theorem dX11_told_99 : decode cX11_told 99 = .ok (.getfield 25, 3) := by decide +kernel
theorem dX11_told_102 : decode cX11_told 102 = .ok (.sipush 192, 3) := by decide +kernel
theorem dX11_told_105 : decode cX11_told 105 = .ok (.iload_n 2, 1) := by decide +kernel
theorem dX11_told_106 : decode cX11_told 106 = .ok (.iadd, 1) := by decide +kernel
theorem dX11_told_107 : decode cX11_told 107 = .ok (.iaload, 1) := by decide +kernel
theorem dX11_told_108 : decode cX11_told 108 = .ok (.iastore, 1) := by decide +kernel
theorem dX11_told_109 : decode cX11_told 109 = .ok (.iinc 2 1, 3) := by decide +kernel
theorem dX11_told_112 : decode cX11_told 112 = .ok (.goto (-25), 3) := by decide +kernel
theorem dX11_told_115 : decode cX11_told 115 = .ok (.aload_n 0, 1) := by decide +kernel
theorem dX11_told_116 : decode cX11_told 116 = .ok (.aload_n 0, 1) := by decide +kernel
theorem dX11_told_117 : decode cX11_told 117 = .ok (.getfield 31, 3) := by decide +kernel
theorem dX11_told_120 : decode cX11_told 120 = .ok (.bipush 32, 2) := by decide +kernel
theorem dX11_told_122 : decode cX11_told 122 = .ok (.invokevirtual 359, 3) := by decide +kernel
theorem dX11_told_125 : decode cX11_told 125 = .ok (.aload_n 0, 1) := by decide +kernel
theorem dX11_told_126 : decode cX11_told 126 = .ok (.aload_n 0, 1) := by decide +kernel
theorem dX11_told_127 : decode cX11_told 127 = .ok (.getfield 210, 3) := by decide +kernel
theorem dX11_told_130 : decode cX11_told 130 = .ok (.iconst 0, 1) := by decide +kernel
theorem dX11_told_131 : decode cX11_told 131 = .ok (.iconst 1, 1) := by decide +kernel
theorem dX11_told_132 : decode cX11_told 132 = .ok (.invokevirtual 284, 3) := by decide +kernel
theorem dX11_told_135 : decode cX11_told 135 = .ok (.aload_n 0, 1) := by decide +kernel
theorem dX11_told_136 : decode cX11_told 136 = .ok (.getfield 210, 3) := by decide +kernel
theorem dX11_told_139 : decode cX11_told 139 = .ok (.iconst 0, 1) := by decide +kernel
theorem dX11_told_140 : decode cX11_told 140 = .ok (.iaload, 1) := by decide +kernel
theorem dX11_told_141 : decode cX11_told 141 = .ok (.aload_n 0, 1) := by decide +kernel
theorem dX11_told_142 : decode cX11_told 142 = .ok (.getfield 210, 3) := by decide +kernel
theorem dX11_told_145 : decode cX11_told 145 = .ok (.iconst 1, 1) := by decide +kernel
theorem dX11_told_146 : decode cX11_told 146 = .ok (.iaload, 1) := by decide +kernel
theorem dX11_told_147 : decode cX11_told 147 = .ok (.bipush 8, 2) := by decide +kernel
theorem dX11_told_149 : decode cX11_told 149 = .ok (.ishl, 1) := by decide +kernel
theorem dX11_told_150 : decode cX11_told 150 = .ok (.ior, 1) := by decide +kernel
theorem dX11_told_151 : decode cX11_told 151 = .ok (.aload_n 0, 1) := by decide +kernel
theorem dX11_told_152 : decode cX11_told 152 = .ok (.getfield 210, 3) := by decide +kernel
theorem dX11_told_155 : decode cX11_told 155 = .ok (.iconst 2, 1) := by decide +kernel
theorem dX11_told_156 : decode cX11_told 156 = .ok (.iaload, 1) := by decide +kernel
theorem dX11_told_157 : decode cX11_told 157 = .ok (.bipush 16, 2) := by decide +kernel
theorem dX11_told_159 : decode cX11_told 159 = .ok (.ishl, 1) := by decide +kernel
theorem dX11_told_160 : decode cX11_told 160 = .ok (.ior, 1) := by decide +kernel
theorem dX11_told_161 : decode cX11_told 161 = .ok (.aload_n 0, 1) := by decide +kernel
theorem dX11_told_162 : decode cX11_told 162 = .ok (.getfield 210, 3) := by decide +kernel
theorem dX11_told_165 : decode cX11_told 165 = .ok (.iconst 3, 1) := by decide +kernel
theorem dX11_told_166 : decode cX11_told 166 = .ok (.iaload, 1) := by decide +kernel
theorem dX11_told_167 : decode cX11_told 167 = .ok (.bipush 24, 2) := by decide +kernel
theorem dX11_told_169 : decode cX11_told 169 = .ok (.ishl, 1) := by decide +kernel
theorem dX11_told_170 : decode cX11_told 170 = .ok (.ior, 1) := by decide +kernel
theorem dX11_told_171 : decode cX11_told 171 = .ok (.ireturn, 1) := by decide +kernel
theorem dJx00060_init_a7421_0 : decode cJx00060_init_a7421 0 = .ok (.aload_n 0, 1) := by decide +kernel
theorem dJx00060_init_a7421_1 : decode cJx00060_init_a7421 1 = .ok (.aload_n 1, 1) := by decide +kernel
theorem dJx00060_init_a7421_2 : decode cJx00060_init_a7421 2 = .ok (.invokespecial 7, 3) := by decide +kernel
theorem dJx00060_init_a7421_5 : decode cJx00060_init_a7421 5 = .ok (.return_, 1) := by decide +kernel
theorem dJ9_max_7cf53_0 : decode cJ9_max_7cf53 0 = .ok (.iload_n 0, 1) := by decide +kernel
theorem dJ9_max_7cf53_1 : decode cJ9_max_7cf53 1 = .ok (.iload_n 1, 1) := by decide +kernel
theorem dJ9_max_7cf53_2 : decode cJ9_max_7cf53 2 = .ok (.if_icmp .lt 7, 3) := by decide +kernel
theorem dJ9_max_7cf53_5 : decode cJ9_max_7cf53 5 = .ok (.iload_n 0, 1) := by decide +kernel
theorem dJ9_max_7cf53_6 : decode cJ9_max_7cf53 6 = .ok (.goto 4, 3) := by decide +kernel
theorem dJ9_max_7cf53_9 : decode cJ9_max_7cf53 9 = .ok (.iload_n 1, 1) := by decide +kernel
theorem dJ9_max_7cf53_10 : decode cJ9_max_7cf53 10 = .ok (.ireturn, 1) := by decide +kernel
theorem dJ9_min_7cf53_0 : decode cJ9_min_7cf53 0 = .ok (.iload_n 0, 1) := by decide +kernel
theorem dJ9_min_7cf53_1 : decode cJ9_min_7cf53 1 = .ok (.iload_n 1, 1) := by decide +kernel
theorem dJ9_min_7cf53_2 : decode cJ9_min_7cf53 2 = .ok (.if_icmp .gt 7, 3) := by decide +kernel
theorem dJ9_min_7cf53_5 : decode cJ9_min_7cf53 5 = .ok (.iload_n 0, 1) := by decide +kernel
theorem dJ9_min_7cf53_6 : decode cJ9_min_7cf53 6 = .ok (.goto 4, 3) := by decide +kernel
theorem dJ9_min_7cf53_9 : decode cJ9_min_7cf53 9 = .ok (.iload_n 1, 1) := by decide +kernel
theorem dJ9_min_7cf53_10 : decode cJ9_min_7cf53 10 = .ok (.ireturn, 1) := by decide +kernel
theorem dL_cell_0 : decode cL_cell 0 = .ok (.iload_n 1, 1) := by decide +kernel
theorem dL_cell_1 : decode cL_cell 1 = .ok (.aload_n 0, 1) := by decide +kernel
theorem dL_cell_2 : decode cL_cell 2 = .ok (.arraylength, 1) := by decide +kernel
theorem dL_cell_3 : decode cL_cell 3 = .ok (.if_icmp .ge 9, 3) := by decide +kernel
theorem dL_cell_6 : decode cL_cell 6 = .ok (.aload_n 0, 1) := by decide +kernel
theorem dL_cell_7 : decode cL_cell 7 = .ok (.iload_n 1, 1) := by decide +kernel
theorem dL_cell_8 : decode cL_cell 8 = .ok (.iaload, 1) := by decide +kernel
theorem dL_cell_9 : decode cL_cell 9 = .ok (.goto 4, 3) := by decide +kernel
theorem dL_cell_12 : decode cL_cell 12 = .ok (.iconst 0, 1) := by decide +kernel
theorem dL_cell_13 : decode cL_cell 13 = .ok (.ireturn, 1) := by decide +kernel
set_option maxRecDepth 20000 in
theorem ggL_word_X10_word : GoodIn wsL_word wsX10_word := goodIn_ca (goodIn_ca (goodIn_r _ [6, 7, 8, 9, 10, 11, 12, 13, 14, 15, 16, 17, 18, 19, 20, 21, 22, 23, 24, 25, 26, 27, 28, 29, 30, 31, 32, 33, 34, 35, 36, 37, 38, 39, 40, 41, 42, 43, 44, 45, 46] (by decide +kernel) (by decide +kernel)) (goodIn_sub (fun _ h => List.mem_cons_of_mem _ (List.mem_append_right _ h)) (by decide +kernel))) (goodIn_sub (fun _ h => List.mem_cons_of_mem _ (List.mem_append_left _ (List.mem_append_right _ h))) (by decide +kernel))
set_option maxRecDepth 20000 in
theorem gL_word_X10_word : GoodIn wsL_word (wsV RL 7 RX10 yX10_word wsX10_word) := goodIn_app (goodIn_of _ (by decide +kernel)) ggL_word_X10_word
theorem dL_word_0 : decode cL_word 0 = .ok (.aload_n 3, 1) := by decide +kernel
theorem dL_word_1 : decode cL_word 1 = .ok (.iconst 0, 1) := by decide +kernel
theorem dL_word_2 : decode cL_word 2 = .ok (.aload_n 0, 1) := by decide +kernel
theorem dL_word_3 : decode cL_word 3 = .ok (.iload_n 1, 1) := by decide +kernel
theorem dL_word_4 : decode cL_word 4 = .ok (.iload_n 2, 1) := by decide +kernel
theorem dL_word_5 : decode cL_word 5 = .ok (.invokevirtual 7, 3) := by decide +kernel
theorem dL_word_8 : decode cL_word 8 = .ok (.i2l, 1) := by decide +kernel
theorem dL_word_9 : decode cL_word 9 = .ok (.lastore, 1) := by decide +kernel
theorem dL_word_10 : decode cL_word 10 = .ok (.goto 7, 3) := by decide +kernel
theorem dL_word_13 : decode cL_word 13 = .ok (.astore 4, 2) := by decide +kernel
theorem dL_word_15 : decode cL_word 15 = .ok (.iconst 1, 1) := by decide +kernel
theorem dL_word_16 : decode cL_word 16 = .ok (.ireturn, 1) := by decide +kernel
theorem dL_word_17 : decode cL_word 17 = .ok (.iconst 0, 1) := by decide +kernel
theorem dL_word_18 : decode cL_word 18 = .ok (.ireturn, 1) := by decide +kernel
set_option maxRecDepth 20000 in
theorem ggL_id_X10_id : GoodIn wsL_id wsX10_id := goodIn_ca (goodIn_ca (goodIn_r _ [6, 7, 8, 9, 10, 11, 12, 13, 14, 15, 16, 17, 18, 19, 20, 21, 22, 23, 24, 25, 26, 27, 28, 29, 30, 31, 32, 33, 34, 35, 36, 37, 38, 39, 40, 41, 42] (by decide +kernel) (by decide +kernel)) (goodIn_sub (fun _ h => List.mem_cons_of_mem _ (List.mem_append_left _ (List.mem_append_right _ h))) (by decide +kernel))) (goodIn_sub (fun _ h => List.mem_cons_of_mem _ (List.mem_append_right _ h)) (by decide +kernel))
set_option maxRecDepth 20000 in
theorem gL_id_X10_id : GoodIn wsL_id (wsV RL 15 RX10 yX10_id wsX10_id) := goodIn_app (goodIn_of _ (by decide +kernel)) ggL_id_X10_id
theorem dL_id_0 : decode cL_id 0 = .ok (.aload_n 0, 1) := by decide +kernel
theorem dL_id_1 : decode cL_id 1 = .ok (.iload_n 1, 1) := by decide +kernel
theorem dL_id_2 : decode cL_id 2 = .ok (.invokevirtual 15, 3) := by decide +kernel
theorem dL_id_5 : decode cL_id 5 = .ok (.goto 6, 3) := by decide +kernel
theorem dL_id_8 : decode cL_id 8 = .ok (.astore_n 2, 1) := by decide +kernel
theorem dL_id_9 : decode cL_id 9 = .ok (.iconst 1, 1) := by decide +kernel
theorem dL_id_10 : decode cL_id 10 = .ok (.ireturn, 1) := by decide +kernel
theorem dL_id_11 : decode cL_id 11 = .ok (.iconst 0, 1) := by decide +kernel
theorem dL_id_12 : decode cL_id 12 = .ok (.ireturn, 1) := by decide +kernel
set_option maxRecDepth 20000 in
theorem ggL_tape_X10_tape : GoodIn wsL_tape wsX10_tape := goodIn_ca (goodIn_ca (goodIn_r _ [6, 7, 8, 9, 10, 11, 12, 13, 14, 15, 16, 17, 18, 19, 20, 21, 22, 23, 24, 25, 26, 27, 28, 29, 30, 31, 32, 33, 34, 35, 36, 37, 38, 39, 40, 41, 42, 43, 44, 45, 46] (by decide +kernel) (by decide +kernel)) (goodIn_sub (fun _ h => List.mem_cons_of_mem _ (List.mem_append_right _ h)) (by decide +kernel))) (goodIn_sub (fun _ h => List.mem_cons_of_mem _ (List.mem_append_left _ (List.mem_append_right _ h))) (by decide +kernel))
set_option maxRecDepth 20000 in
theorem gL_tape_X10_tape : GoodIn wsL_tape (wsV RL 19 RX10 yX10_tape wsX10_tape) := goodIn_app (goodIn_of _ (by decide +kernel)) ggL_tape_X10_tape
theorem dL_tape_0 : decode cL_tape 0 = .ok (.aload_n 2, 1) := by decide +kernel
theorem dL_tape_1 : decode cL_tape 1 = .ok (.iconst 0, 1) := by decide +kernel
theorem dL_tape_2 : decode cL_tape 2 = .ok (.aload_n 0, 1) := by decide +kernel
theorem dL_tape_3 : decode cL_tape 3 = .ok (.iload_n 1, 1) := by decide +kernel
theorem dL_tape_4 : decode cL_tape 4 = .ok (.invokevirtual 19, 3) := by decide +kernel
theorem dL_tape_7 : decode cL_tape 7 = .ok (.i2l, 1) := by decide +kernel
theorem dL_tape_8 : decode cL_tape 8 = .ok (.lastore, 1) := by decide +kernel
theorem dL_tape_9 : decode cL_tape 9 = .ok (.goto 6, 3) := by decide +kernel
theorem dL_tape_12 : decode cL_tape 12 = .ok (.astore_n 3, 1) := by decide +kernel
theorem dL_tape_13 : decode cL_tape 13 = .ok (.iconst 1, 1) := by decide +kernel
theorem dL_tape_14 : decode cL_tape 14 = .ok (.ireturn, 1) := by decide +kernel
theorem dL_tape_15 : decode cL_tape 15 = .ok (.iconst 0, 1) := by decide +kernel
theorem dL_tape_16 : decode cL_tape 16 = .ok (.ireturn, 1) := by decide +kernel
set_option maxRecDepth 20000 in
theorem ggL_make_X10_make : GoodIn wsL_make wsX10_make := goodIn_ca (goodIn_ca (goodIn_r _ [6, 7, 8, 9, 10, 11, 12, 13, 14, 15, 16, 17, 18, 19, 20, 21, 22, 23, 24, 25, 26, 27, 28, 29, 30, 31, 32, 33, 34, 35, 36, 37, 38, 39, 40, 41, 42, 43, 44, 45, 46, 47, 48, 49, 50, 51, 52, 53, 54, 55, 56, 57, 58, 59, 60, 61, 62, 63, 64, 65, 66, 67, 68, 69, 70, 71, 72, 73, 74, 75, 76, 77, 78, 79, 80, 81, 82, 83, 84, 85, 86, 87, 88, 89, 90, 91, 92, 93, 94, 95, 96, 97, 98, 99, 100, 101, 102, 103, 104, 105, 106, 107, 108, 109, 110, 111, 112, 113, 114, 115, 116, 117, 118, 119, 120, 121, 122, 123, 124, 125, 126, 127, 128, 129, 130, 131, 132, 133, 134, 135, 136, 137, 138, 139, 140, 141, 142, 143, 144, 145, 146, 147, 148, 149, 150, 151, 152, 153, 154, 155, 156, 157, 158, 159, 160, 161, 162, 163, 164, 165, 166, 167, 168, 169, 170, 171, 172, 173, 174, 175, 176, 177, 178, 179, 180, 181, 182, 183, 184, 185, 186, 187, 188, 189, 190, 191, 192, 193, 194, 195, 196, 197, 198, 199, 200, 201, 202, 203, 204, 205, 206, 207, 208, 209, 210, 211, 212, 213, 214, 215, 216, 217, 218, 219, 220, 221, 222, 223, 224, 225, 226, 227, 228, 229, 230, 231, 232, 233, 234, 235, 236, 237, 238, 239, 240, 241, 242, 243, 244, 245, 246, 247, 248, 249, 250, 251, 252, 253, 254, 255, 256, 257, 258, 259, 260, 261, 262, 263, 264, 265, 266, 267, 268, 269, 270, 271, 272, 273, 274, 275, 276, 277, 278, 279, 280, 281, 282, 283, 284, 285, 286, 287, 288, 289, 290, 291, 292, 293, 294, 295, 296, 297, 298, 299, 5, 300, 301, 302, 303, 304, 305, 306, 307, 308, 309, 310, 311, 312, 313, 314, 315, 316, 317, 318, 319, 320, 321, 322, 323, 324, 325, 326, 327, 328, 329, 330, 331, 332, 333, 334, 335, 336, 337, 338, 339, 340, 341, 342, 343, 344, 345, 346, 347, 348, 349, 350, 351] (by decide +kernel) (by decide +kernel)) (goodIn_sub (fun _ h => List.mem_cons_of_mem _ (List.mem_append_right _ h)) (by decide +kernel))) (goodIn_sub (fun _ h => List.mem_cons_of_mem _ (List.mem_append_left _ (List.mem_append_right _ h))) (by decide +kernel))
set_option maxRecDepth 20000 in
theorem gL_make_X10_make : GoodIn wsL_make (wsV RL 23 RX10 yX10_make wsX10_make) := goodIn_app (goodIn_of _ (by decide +kernel)) ggL_make_X10_make
theorem dL_make_0 : decode cL_make 0 = .ok (.aload_n 2, 1) := by decide +kernel
theorem dL_make_1 : decode cL_make 1 = .ok (.iconst 0, 1) := by decide +kernel
theorem dL_make_2 : decode cL_make 2 = .ok (.aload_n 0, 1) := by decide +kernel
theorem dL_make_3 : decode cL_make 3 = .ok (.iload_n 1, 1) := by decide +kernel
theorem dL_make_4 : decode cL_make 4 = .ok (.invokevirtual 23, 3) := by decide +kernel
theorem dL_make_7 : decode cL_make 7 = .ok (.i2l, 1) := by decide +kernel
theorem dL_make_8 : decode cL_make 8 = .ok (.lastore, 1) := by decide +kernel
theorem dL_make_9 : decode cL_make 9 = .ok (.goto 6, 3) := by decide +kernel
theorem dL_make_12 : decode cL_make 12 = .ok (.astore_n 3, 1) := by decide +kernel
theorem dL_make_13 : decode cL_make 13 = .ok (.iconst 1, 1) := by decide +kernel
theorem dL_make_14 : decode cL_make 14 = .ok (.ireturn, 1) := by decide +kernel
theorem dL_make_15 : decode cL_make 15 = .ok (.iconst 0, 1) := by decide +kernel
theorem dL_make_16 : decode cL_make 16 = .ok (.ireturn, 1) := by decide +kernel
set_option maxRecDepth 20000 in
theorem ggL_entry_X10_entry : GoodIn wsL_entry wsX10_entry := goodIn_ca (goodIn_ca (goodIn_r _ [6, 7, 8, 9, 10, 11, 12, 13, 14, 15, 16, 17, 18, 19, 20, 21, 22, 23, 24, 25, 26, 27, 28, 29, 30, 31, 32, 33, 34, 35, 36, 37, 38, 39, 40, 41, 42, 43, 44, 45, 46, 47, 48, 49] (by decide +kernel) (by decide +kernel)) (goodIn_sub (fun _ h => List.mem_cons_of_mem _ (List.mem_append_right _ h)) (by decide +kernel))) (goodIn_sub (fun _ h => List.mem_cons_of_mem _ (List.mem_append_left _ (List.mem_append_right _ h))) (by decide +kernel))
set_option maxRecDepth 20000 in
theorem gL_entry_X10_entry : GoodIn wsL_entry (wsV RL 28 RX10 yX10_entry wsX10_entry) := goodIn_app (goodIn_of _ (by decide +kernel)) ggL_entry_X10_entry
theorem dL_entry_0 : decode cL_entry 0 = .ok (.aload_n 3, 1) := by decide +kernel
theorem dL_entry_1 : decode cL_entry 1 = .ok (.iconst 0, 1) := by decide +kernel
theorem dL_entry_2 : decode cL_entry 2 = .ok (.aload_n 0, 1) := by decide +kernel
theorem dL_entry_3 : decode cL_entry 3 = .ok (.iload_n 1, 1) := by decide +kernel
theorem dL_entry_4 : decode cL_entry 4 = .ok (.iload_n 2, 1) := by decide +kernel
theorem dL_entry_5 : decode cL_entry 5 = .ok (.invokevirtual 28, 3) := by decide +kernel
theorem dL_entry_8 : decode cL_entry 8 = .ok (.i2l, 1) := by decide +kernel
theorem dL_entry_9 : decode cL_entry 9 = .ok (.lastore, 1) := by decide +kernel
theorem dL_entry_10 : decode cL_entry 10 = .ok (.goto 7, 3) := by decide +kernel
theorem dL_entry_13 : decode cL_entry 13 = .ok (.astore 4, 2) := by decide +kernel
theorem dL_entry_15 : decode cL_entry 15 = .ok (.iconst 1, 1) := by decide +kernel
theorem dL_entry_16 : decode cL_entry 16 = .ok (.ireturn, 1) := by decide +kernel
theorem dL_entry_17 : decode cL_entry 17 = .ok (.iconst 0, 1) := by decide +kernel
theorem dL_entry_18 : decode cL_entry 18 = .ok (.ireturn, 1) := by decide +kernel
set_option maxRecDepth 20000 in
theorem ggL_alter_X10_alter : GoodIn wsL_alter wsX10_alter := goodIn_ca (goodIn_ca (goodIn_r _ [6, 7, 8, 9, 10, 11, 12, 13, 14, 15, 16, 17, 18, 19, 20, 21, 22, 23, 24, 25, 26, 27, 28, 29, 30, 5, 31, 32, 33, 34, 35, 36, 37, 38, 39, 40, 41, 42, 43, 44, 45, 46, 47, 48, 49, 50, 51, 52, 53, 54, 55, 56, 57, 58] (by decide +kernel) (by decide +kernel)) (goodIn_sub (fun _ h => List.mem_cons_of_mem _ (List.mem_append_left _ (List.mem_append_right _ h))) (by decide +kernel))) (goodIn_sub (fun _ h => List.mem_cons_of_mem _ (List.mem_append_right _ h)) (by decide +kernel))
set_option maxRecDepth 20000 in
theorem gL_alter_X10_alter : GoodIn wsL_alter (wsV RL 34 RX10 yX10_alter wsX10_alter) := goodIn_app (goodIn_of _ (by decide +kernel)) ggL_alter_X10_alter
theorem dL_alter_0 : decode cL_alter 0 = .ok (.aload_n 0, 1) := by decide +kernel
theorem dL_alter_1 : decode cL_alter 1 = .ok (.iload_n 1, 1) := by decide +kernel
theorem dL_alter_2 : decode cL_alter 2 = .ok (.iload_n 2, 1) := by decide +kernel
theorem dL_alter_3 : decode cL_alter 3 = .ok (.iload_n 3, 1) := by decide +kernel
theorem dL_alter_4 : decode cL_alter 4 = .ok (.invokevirtual 34, 3) := by decide +kernel
theorem dL_alter_7 : decode cL_alter 7 = .ok (.goto 7, 3) := by decide +kernel
theorem dL_alter_10 : decode cL_alter 10 = .ok (.astore 4, 2) := by decide +kernel
theorem dL_alter_12 : decode cL_alter 12 = .ok (.iconst 1, 1) := by decide +kernel
theorem dL_alter_13 : decode cL_alter 13 = .ok (.ireturn, 1) := by decide +kernel
theorem dL_alter_14 : decode cL_alter 14 = .ok (.iconst 0, 1) := by decide +kernel
theorem dL_alter_15 : decode cL_alter 15 = .ok (.ireturn, 1) := by decide +kernel
set_option maxRecDepth 20000 in
theorem ggL_open_X10_open : GoodIn wsL_open wsX10_open := goodIn_ca (goodIn_ca (goodIn_ca (goodIn_ca (goodIn_r _ [6, 7, 8, 9, 10, 11, 12, 13, 14, 15, 16, 17, 18, 19, 20, 21, 22, 23, 24, 25, 26, 27, 28, 29, 30, 31, 32, 33, 34, 35, 36, 37, 38, 39, 40, 41, 42, 43, 44, 45, 46, 47, 48, 49, 50, 51, 52, 53, 54, 55, 56, 57, 58, 59, 60, 61, 62, 63, 64, 65, 66, 67, 68, 69, 70, 71, 72, 73, 74, 75, 76, 77, 78, 79, 80, 81, 82, 83, 84, 85, 86, 87, 88, 89, 90, 91, 92, 93, 94, 95, 96, 97, 98, 99, 100, 101, 102, 103, 104, 105, 106, 107, 108, 109, 110, 111, 112, 113, 114, 115, 116, 117, 118, 119, 120, 121, 122, 123, 124, 125, 126, 127, 128, 129, 130, 131, 132, 133, 134, 135, 136, 137, 138, 139, 140, 141, 142, 143, 144, 145, 146, 147, 148, 149, 150, 151, 152, 153, 154, 155, 156, 157, 158, 159, 160, 161, 162, 163, 164, 165, 166, 167, 168, 169, 170, 171, 172, 173, 174, 175, 176, 177, 178, 179, 180, 181, 182, 183, 184, 185, 186, 187, 188, 189, 190, 191, 192, 193, 194, 195, 196, 197, 198, 199, 200, 201, 202, 203, 204, 205, 206, 207, 208, 209, 210, 211, 212, 213, 214, 215, 216, 217, 218, 219, 220, 221, 222, 223, 224, 225, 226, 227, 228, 229, 230, 231, 232, 233, 234, 235, 236, 237, 238, 239, 240, 241, 242, 243, 244, 245, 246, 247, 248, 249, 250, 251, 252, 253, 254, 255, 256, 257, 258, 259, 260, 261, 262, 263, 264, 265, 266, 267, 268, 269, 270, 271, 272, 273, 274, 275, 276, 277, 278, 279, 280, 281, 282, 283, 284, 285, 286, 287, 288, 289, 290, 291, 292, 293, 294, 295, 296, 297, 298, 299, 300, 301, 302, 5, 303, 304, 305, 306, 307, 308, 309, 310, 311, 312, 313, 314, 315, 316, 317, 318, 319, 320, 321, 322, 323, 324, 325, 326, 327, 328, 329, 330, 331, 332, 333, 334, 335, 336, 337, 338, 339, 340, 341, 342, 343, 344, 345, 346, 347, 348, 349] (by decide +kernel) (by decide +kernel)) (goodIn_sub (fun _ h => List.mem_cons_of_mem _ (List.mem_append_left _ (List.mem_append_left _ (List.mem_append_right _ h)))) (by decide +kernel))) (goodIn_sub (fun _ h => List.mem_cons_of_mem _ (List.mem_append_left _ (List.mem_append_right _ h))) (by decide +kernel))) (goodIn_sub (fun _ h => List.mem_cons_of_mem _ (List.mem_append_right _ h)) (by decide +kernel))) (goodIn_sub (fun _ h => List.mem_cons_of_mem _ (List.mem_append_left _ (List.mem_append_left _ (List.mem_append_left _ (List.mem_append_right _ h))))) (by decide +kernel))
set_option maxRecDepth 20000 in
theorem gL_open_X10_open : GoodIn wsL_open (wsV RL 38 RX10 yX10_open wsX10_open) := goodIn_app (goodIn_of _ (by decide +kernel)) ggL_open_X10_open
theorem dL_open_0 : decode cL_open 0 = .ok (.aload_n 2, 1) := by decide +kernel
theorem dL_open_1 : decode cL_open 1 = .ok (.iconst 0, 1) := by decide +kernel
theorem dL_open_2 : decode cL_open 2 = .ok (.aload_n 0, 1) := by decide +kernel
theorem dL_open_3 : decode cL_open 3 = .ok (.iload_n 1, 1) := by decide +kernel
theorem dL_open_4 : decode cL_open 4 = .ok (.invokevirtual 38, 3) := by decide +kernel
theorem dL_open_7 : decode cL_open 7 = .ok (.i2l, 1) := by decide +kernel
theorem dL_open_8 : decode cL_open 8 = .ok (.lastore, 1) := by decide +kernel
theorem dL_open_9 : decode cL_open 9 = .ok (.goto 12, 3) := by decide +kernel
theorem dL_open_12 : decode cL_open 12 = .ok (.astore_n 3, 1) := by decide +kernel
theorem dL_open_13 : decode cL_open 13 = .ok (.iconst 1, 1) := by decide +kernel
theorem dL_open_14 : decode cL_open 14 = .ok (.ireturn, 1) := by decide +kernel
theorem dL_open_15 : decode cL_open 15 = .ok (.astore_n 3, 1) := by decide +kernel
theorem dL_open_16 : decode cL_open 16 = .ok (.iconst 2, 1) := by decide +kernel
theorem dL_open_17 : decode cL_open 17 = .ok (.ireturn, 1) := by decide +kernel
theorem dL_open_18 : decode cL_open 18 = .ok (.astore_n 3, 1) := by decide +kernel
theorem dL_open_19 : decode cL_open 19 = .ok (.iconst 3, 1) := by decide +kernel
theorem dL_open_20 : decode cL_open 20 = .ok (.ireturn, 1) := by decide +kernel
theorem dL_open_21 : decode cL_open 21 = .ok (.iconst 0, 1) := by decide +kernel
theorem dL_open_22 : decode cL_open 22 = .ok (.ireturn, 1) := by decide +kernel
set_option maxRecDepth 20000 in
theorem ggL_key_X10_key : GoodIn wsL_key wsX10_key := goodIn_ca (goodIn_ca (goodIn_r _ [6, 7, 8, 9, 10, 11, 12, 13, 14, 15, 16, 17, 18, 19, 20, 21, 22, 23, 24, 25, 26, 27, 28, 29, 30, 31, 32, 33, 34, 35, 36, 37, 38, 39, 40, 41, 42, 43, 44, 45, 46, 47, 48, 49, 50, 51, 52, 53, 54, 55, 56, 57, 58, 59, 60, 61, 62, 63, 64, 65, 66, 67, 68, 69, 70, 71, 72, 73, 74, 75, 76, 77, 78, 79, 80, 81, 82, 83, 84, 85, 86, 87, 88, 89, 90, 91, 92, 93, 94, 95, 96, 97, 98, 99, 100, 101, 102, 103, 104, 105, 106, 107, 108, 109, 110, 111, 112, 113, 114, 115, 116, 117, 118, 119, 120, 121, 122, 123, 124, 125, 126, 127, 128, 129, 130, 131, 132, 133, 134, 135, 136, 137, 138, 139, 140, 141, 142, 143, 144, 145, 146, 147, 148, 149, 150, 151, 152, 153] (by decide +kernel) (by decide +kernel)) (goodIn_sub (fun _ h => List.mem_cons_of_mem _ (List.mem_append_right _ h)) (by decide +kernel))) (goodIn_sub (fun _ h => List.mem_cons_of_mem _ (List.mem_append_left _ (List.mem_append_right _ h))) (by decide +kernel))
set_option maxRecDepth 20000 in
theorem gL_key_X10_key : GoodIn wsL_key (wsV RL 43 RX10 yX10_key wsX10_key) := goodIn_app (goodIn_of _ (by decide +kernel)) ggL_key_X10_key
theorem dL_key_0 : decode cL_key 0 = .ok (.aload_n 3, 1) := by decide +kernel
theorem dL_key_1 : decode cL_key 1 = .ok (.iconst 0, 1) := by decide +kernel
theorem dL_key_2 : decode cL_key 2 = .ok (.aload_n 0, 1) := by decide +kernel
theorem dL_key_3 : decode cL_key 3 = .ok (.iload_n 1, 1) := by decide +kernel
theorem dL_key_4 : decode cL_key 4 = .ok (.iload_n 2, 1) := by decide +kernel
theorem dL_key_5 : decode cL_key 5 = .ok (.invokevirtual 43, 3) := by decide +kernel
theorem dL_key_8 : decode cL_key 8 = .ok (.i2l, 1) := by decide +kernel
theorem dL_key_9 : decode cL_key 9 = .ok (.lastore, 1) := by decide +kernel
theorem dL_key_10 : decode cL_key 10 = .ok (.goto 7, 3) := by decide +kernel
theorem dL_key_13 : decode cL_key 13 = .ok (.astore 4, 2) := by decide +kernel
theorem dL_key_15 : decode cL_key 15 = .ok (.iconst 1, 1) := by decide +kernel
theorem dL_key_16 : decode cL_key 16 = .ok (.ireturn, 1) := by decide +kernel
theorem dL_key_17 : decode cL_key 17 = .ok (.iconst 0, 1) := by decide +kernel
theorem dL_key_18 : decode cL_key 18 = .ok (.ireturn, 1) := by decide +kernel
set_option maxRecDepth 20000 in
theorem ggL_filter_X10_filter : GoodIn wsL_filter wsX10_filter := goodIn_ca (goodIn_r _ [6, 7, 8, 9, 10, 11, 12, 13, 14, 15, 16, 17, 18, 19, 20, 21, 22, 23, 24, 25, 26, 27, 28, 29, 30, 31, 32, 33, 34, 35, 36, 37, 38, 39, 40, 41, 42, 43, 44, 45, 46, 47, 48, 49] (by decide +kernel) (by decide +kernel)) (goodIn_sub (fun _ h => List.mem_cons_of_mem _ (List.mem_append_right _ h)) (by decide +kernel))
set_option maxRecDepth 20000 in
theorem gL_filter_X10_filter : GoodIn wsL_filter (wsV RL 46 RX10 yX10_filter wsX10_filter) := goodIn_app (goodIn_of _ (by decide +kernel)) ggL_filter_X10_filter
theorem dL_filter_0 : decode cL_filter 0 = .ok (.aload_n 2, 1) := by decide +kernel
theorem dL_filter_1 : decode cL_filter 1 = .ok (.iconst 0, 1) := by decide +kernel
theorem dL_filter_2 : decode cL_filter 2 = .ok (.aload_n 0, 1) := by decide +kernel
theorem dL_filter_3 : decode cL_filter 3 = .ok (.iload_n 1, 1) := by decide +kernel
theorem dL_filter_4 : decode cL_filter 4 = .ok (.invokevirtual 46, 3) := by decide +kernel
theorem dL_filter_7 : decode cL_filter 7 = .ok (.i2l, 1) := by decide +kernel
theorem dL_filter_8 : decode cL_filter 8 = .ok (.lastore, 1) := by decide +kernel
theorem dL_filter_9 : decode cL_filter 9 = .ok (.goto 6, 3) := by decide +kernel
theorem dL_filter_12 : decode cL_filter 12 = .ok (.astore_n 3, 1) := by decide +kernel
theorem dL_filter_13 : decode cL_filter 13 = .ok (.iconst 1, 1) := by decide +kernel
theorem dL_filter_14 : decode cL_filter 14 = .ok (.ireturn, 1) := by decide +kernel
theorem dL_filter_15 : decode cL_filter 15 = .ok (.iconst 0, 1) := by decide +kernel
theorem dL_filter_16 : decode cL_filter 16 = .ok (.ireturn, 1) := by decide +kernel
set_option maxRecDepth 20000 in
theorem ggL_apply_X10_apply : GoodIn wsL_apply wsX10_apply := goodIn_ca (goodIn_ca (goodIn_ca (goodIn_r _ [6, 7, 8, 9, 10, 11, 12, 13, 14, 15, 16, 17, 18, 19, 20, 21, 22, 23, 24, 25, 26, 27, 28, 29, 30, 31, 32, 33, 34, 35, 36, 37, 38, 39, 40, 41, 42, 43, 44, 45, 46, 47, 48, 49, 50, 51, 52, 53, 54, 55, 56, 57, 58] (by decide +kernel) (by decide +kernel)) (goodIn_sub (fun _ h => List.mem_cons_of_mem _ (List.mem_append_left _ (List.mem_append_right _ h))) (by decide +kernel))) (goodIn_sub (fun _ h => List.mem_cons_of_mem _ (List.mem_append_right _ h)) (by decide +kernel))) (goodIn_sub (fun _ h => List.mem_cons_of_mem _ (List.mem_append_left _ (List.mem_append_left _ (List.mem_append_right _ h)))) (by decide +kernel))
set_option maxRecDepth 20000 in
theorem gL_apply_X10_apply : GoodIn wsL_apply (wsV RL 49 RX10 yX10_apply wsX10_apply) := goodIn_app (goodIn_of _ (by decide +kernel)) ggL_apply_X10_apply
theorem dL_apply_0 : decode cL_apply 0 = .ok (.aload 4, 2) := by decide +kernel
theorem dL_apply_2 : decode cL_apply 2 = .ok (.iconst 0, 1) := by decide +kernel
theorem dL_apply_3 : decode cL_apply 3 = .ok (.aload_n 0, 1) := by decide +kernel
theorem dL_apply_4 : decode cL_apply 4 = .ok (.iload_n 1, 1) := by decide +kernel
theorem dL_apply_5 : decode cL_apply 5 = .ok (.iload_n 2, 1) := by decide +kernel
theorem dL_apply_6 : decode cL_apply 6 = .ok (.iload_n 3, 1) := by decide +kernel
theorem dL_apply_7 : decode cL_apply 7 = .ok (.invokevirtual 49, 3) := by decide +kernel
theorem dL_apply_10 : decode cL_apply 10 = .ok (.i2l, 1) := by decide +kernel
theorem dL_apply_11 : decode cL_apply 11 = .ok (.lastore, 1) := by decide +kernel
theorem dL_apply_12 : decode cL_apply 12 = .ok (.goto 11, 3) := by decide +kernel
theorem dL_apply_15 : decode cL_apply 15 = .ok (.astore 5, 2) := by decide +kernel
theorem dL_apply_17 : decode cL_apply 17 = .ok (.iconst 1, 1) := by decide +kernel
theorem dL_apply_18 : decode cL_apply 18 = .ok (.ireturn, 1) := by decide +kernel
theorem dL_apply_19 : decode cL_apply 19 = .ok (.astore 5, 2) := by decide +kernel
theorem dL_apply_21 : decode cL_apply 21 = .ok (.iconst 2, 1) := by decide +kernel
theorem dL_apply_22 : decode cL_apply 22 = .ok (.ireturn, 1) := by decide +kernel
theorem dL_apply_23 : decode cL_apply 23 = .ok (.iconst 0, 1) := by decide +kernel
theorem dL_apply_24 : decode cL_apply 24 = .ok (.ireturn, 1) := by decide +kernel
set_option maxRecDepth 20000 in
theorem ggL_out_X10_out : GoodIn wsL_out wsX10_out := goodIn_ca (goodIn_r _ [6, 7, 8, 9, 10, 11, 12, 13, 14, 15, 16, 17, 18, 19, 20, 21, 22, 23, 24, 25, 26, 27, 28, 29, 30, 31, 32, 33, 34, 35, 36, 37] (by decide +kernel) (by decide +kernel)) (goodIn_sub (fun _ h => List.mem_cons_of_mem _ (List.mem_append_right _ h)) (by decide +kernel))
set_option maxRecDepth 20000 in
theorem gL_out_X10_out : GoodIn wsL_out (wsV RL 53 RX10 yX10_out wsX10_out) := goodIn_app (goodIn_of _ (by decide +kernel)) ggL_out_X10_out
theorem dL_out_0 : decode cL_out 0 = .ok (.aload_n 2, 1) := by decide +kernel
theorem dL_out_1 : decode cL_out 1 = .ok (.iconst 0, 1) := by decide +kernel
theorem dL_out_2 : decode cL_out 2 = .ok (.aload_n 0, 1) := by decide +kernel
theorem dL_out_3 : decode cL_out 3 = .ok (.iload_n 1, 1) := by decide +kernel
theorem dL_out_4 : decode cL_out 4 = .ok (.invokevirtual 53, 3) := by decide +kernel
theorem dL_out_7 : decode cL_out 7 = .ok (.i2l, 1) := by decide +kernel
theorem dL_out_8 : decode cL_out 8 = .ok (.lastore, 1) := by decide +kernel
theorem dL_out_9 : decode cL_out 9 = .ok (.goto 6, 3) := by decide +kernel
theorem dL_out_12 : decode cL_out 12 = .ok (.astore_n 3, 1) := by decide +kernel
theorem dL_out_13 : decode cL_out 13 = .ok (.iconst 1, 1) := by decide +kernel
theorem dL_out_14 : decode cL_out 14 = .ok (.ireturn, 1) := by decide +kernel
theorem dL_out_15 : decode cL_out 15 = .ok (.iconst 0, 1) := by decide +kernel
theorem dL_out_16 : decode cL_out 16 = .ok (.ireturn, 1) := by decide +kernel
set_option maxRecDepth 20000 in
theorem ggL_digest_X10_digest : GoodIn wsL_digest wsX10_digest := goodIn_ca (goodIn_ca (goodIn_r _ [6, 7, 8, 9, 10, 11, 12, 13, 14, 15, 16, 17, 18, 19, 20, 21, 22, 23, 24, 25, 26, 27, 28, 29, 30, 31, 32, 33, 34, 35, 36, 37, 38, 39, 40, 41, 42, 43, 44, 45, 46, 47, 48, 49, 50, 51, 52, 53, 54, 55, 56, 57, 58, 59, 60, 61, 62, 63, 64, 65, 66, 67, 68, 69, 70, 71, 72, 73, 74, 75, 76, 77, 78, 79, 80, 81, 82, 83, 84, 85, 86, 87, 88, 89, 90, 91, 92, 93, 94, 95, 96, 97, 98, 99, 100, 101, 102, 103, 104, 105, 106, 107, 108, 109, 110] (by decide +kernel) (by decide +kernel)) (goodIn_sub (fun _ h => List.mem_cons_of_mem _ (List.mem_append_right _ h)) (by decide +kernel))) (goodIn_sub (fun _ h => List.mem_cons_of_mem _ (List.mem_append_left _ (List.mem_append_right _ h))) (by decide +kernel))
set_option maxRecDepth 20000 in
theorem gL_digest_X10_digest : GoodIn wsL_digest (wsV RL 59 RX10 yX10_digest wsX10_digest) := goodIn_app (goodIn_of _ (by decide +kernel)) ggL_digest_X10_digest
theorem dL_digest_0 : decode cL_digest 0 = .ok (.aload_n 2, 1) := by decide +kernel
theorem dL_digest_1 : decode cL_digest 1 = .ok (.iconst 0, 1) := by decide +kernel
theorem dL_digest_2 : decode cL_digest 2 = .ok (.aload_n 0, 1) := by decide +kernel
theorem dL_digest_3 : decode cL_digest 3 = .ok (.iload_n 1, 1) := by decide +kernel
theorem dL_digest_4 : decode cL_digest 4 = .ok (.invokevirtual 59, 3) := by decide +kernel
theorem dL_digest_7 : decode cL_digest 7 = .ok (.i2l, 1) := by decide +kernel
theorem dL_digest_8 : decode cL_digest 8 = .ok (.lastore, 1) := by decide +kernel
theorem dL_digest_9 : decode cL_digest 9 = .ok (.goto 6, 3) := by decide +kernel
theorem dL_digest_12 : decode cL_digest 12 = .ok (.astore_n 3, 1) := by decide +kernel
theorem dL_digest_13 : decode cL_digest 13 = .ok (.iconst 1, 1) := by decide +kernel
theorem dL_digest_14 : decode cL_digest 14 = .ok (.ireturn, 1) := by decide +kernel
theorem dL_digest_15 : decode cL_digest 15 = .ok (.iconst 0, 1) := by decide +kernel
theorem dL_digest_16 : decode cL_digest 16 = .ok (.ireturn, 1) := by decide +kernel
set_option maxRecDepth 20000 in
theorem ggL_told_X10_told : GoodIn wsL_told wsX10_told := goodIn_ca (goodIn_ca (goodIn_r _ [6, 7, 8, 9, 10, 11, 12, 13, 14, 15, 16, 17, 18, 19, 20, 21, 22, 23, 24, 25, 26, 27, 28, 29, 30, 31, 32, 33, 34, 35, 36, 37, 38, 39, 40, 41, 42, 43, 44, 45, 46, 47, 48, 49, 50, 51, 52, 53, 54, 55, 56, 57, 58, 59, 60, 61, 62, 63, 64, 65, 66, 67, 68, 69, 70, 71, 72, 73, 74, 75, 76, 77, 78, 79, 80, 81, 82, 83, 84, 85, 86, 87, 88, 89, 90, 91, 92, 93, 94, 95, 96, 97, 98, 99, 100, 101, 102, 103, 104, 105, 106, 107, 108, 109, 110, 111, 112, 113, 114, 115, 116, 117, 118, 119, 120, 121, 122, 123, 124, 125, 126, 127, 128, 129, 130, 131, 132, 133, 134, 135, 136, 137, 138, 139, 140, 141, 142, 143, 144, 145, 146, 147, 148, 149, 150, 151, 152, 153, 154, 155, 156, 157, 158, 159, 160, 161, 162, 163, 164, 165, 166, 167, 168, 169] (by decide +kernel) (by decide +kernel)) (goodIn_sub (fun _ h => List.mem_cons_of_mem _ (List.mem_append_right _ h)) (by decide +kernel))) (goodIn_sub (fun _ h => List.mem_cons_of_mem _ (List.mem_append_left _ (List.mem_append_right _ h))) (by decide +kernel))
set_option maxRecDepth 20000 in
theorem gL_told_X10_told : GoodIn wsL_told (wsV RL 62 RX10 yX10_told wsX10_told) := goodIn_app (goodIn_of _ (by decide +kernel)) ggL_told_X10_told
theorem dL_told_0 : decode cL_told 0 = .ok (.aload_n 2, 1) := by decide +kernel
theorem dL_told_1 : decode cL_told 1 = .ok (.iconst 0, 1) := by decide +kernel
theorem dL_told_2 : decode cL_told 2 = .ok (.aload_n 0, 1) := by decide +kernel
theorem dL_told_3 : decode cL_told 3 = .ok (.iload_n 1, 1) := by decide +kernel
theorem dL_told_4 : decode cL_told 4 = .ok (.invokevirtual 62, 3) := by decide +kernel
theorem dL_told_7 : decode cL_told 7 = .ok (.i2l, 1) := by decide +kernel
theorem dL_told_8 : decode cL_told 8 = .ok (.lastore, 1) := by decide +kernel
theorem dL_told_9 : decode cL_told 9 = .ok (.goto 6, 3) := by decide +kernel
theorem dL_told_12 : decode cL_told 12 = .ok (.astore_n 3, 1) := by decide +kernel
theorem dL_told_13 : decode cL_told 13 = .ok (.iconst 1, 1) := by decide +kernel
theorem dL_told_14 : decode cL_told 14 = .ok (.ireturn, 1) := by decide +kernel
theorem dL_told_15 : decode cL_told 15 = .ok (.iconst 0, 1) := by decide +kernel
theorem dL_told_16 : decode cL_told 16 = .ok (.ireturn, 1) := by decide +kernel
set_option maxRecDepth 20000 in
theorem ggL_law_L_cell : GoodIn wsL_law wsL_cell := goodIn_ca (goodIn_r _ [10] (by decide +kernel) (by decide +kernel)) (goodIn_sub (fun _ h => List.mem_append_left _ (List.mem_append_left _ (List.mem_append_left _ (List.mem_append_left _ (List.mem_append_right _ h))))) (by decide +kernel))
set_option maxRecDepth 20000 in
theorem gL_law_L_cell : GoodIn wsL_law (va_wsS RL 65 yL_cell wsL_cell) := goodIn_app (goodIn_of _ (by decide +kernel)) ggL_law_L_cell
set_option maxRecDepth 20000 in
theorem ggL_law_X10_init : GoodIn wsL_law wsX10_init := goodIn_r _ [13, 14, 15, 16, 17, 18, 19, 20, 21, 22, 23, 24, 25, 26, 27, 28, 29, 30, 31, 32, 33, 34, 35, 36, 37, 38, 39, 40, 41, 42, 43, 44, 45, 46, 47, 48, 49, 50, 51, 52, 53, 54, 55, 56, 57, 58, 59, 60, 61, 62, 63, 64, 65, 66, 67, 68, 69, 70, 71, 72, 73, 74, 75, 76, 77, 78, 79, 80, 81, 82, 83, 84, 85, 86, 87, 88, 89, 90, 91, 92, 93, 94, 95, 96, 97, 98, 99, 100, 101, 102, 103, 104, 105, 106, 107, 108, 109, 110, 111, 112, 113, 114, 115, 116, 117, 118, 119, 120, 121, 122, 123, 124, 125, 126, 127, 128, 129, 130, 131, 132, 133, 1095, 1096, 1097, 1098, 1099, 1100, 1101, 1042, 1043, 1044, 1045, 1046, 1047, 1048, 1049, 1102, 1103, 1104, 1105, 1106, 1107, 1108, 1109, 1110, 1111, 1112, 1113, 1114, 1115, 1116, 1117, 1118, 1119, 1120, 1121, 1122, 1123, 1124, 1125, 1126, 1127, 1128, 1129, 1130, 1131] (by decide +kernel) (by decide +kernel)
set_option maxRecDepth 20000 in
theorem gL_law_X10_init : GoodIn wsL_law (wsX10_init) := ggL_law_X10_init
set_option maxRecDepth 20000 in
theorem ggL_law_X11_init : GoodIn wsL_law wsX11_init := goodIn_ca (goodIn_r _ [136, 137, 15, 16, 84, 138, 139, 140, 141, 142, 143, 144, 145, 146, 147, 148, 149, 150, 151, 152, 153, 154, 155, 156, 157, 158, 159, 160, 161, 162, 163, 164, 165, 166, 167, 168, 169, 170, 171, 172, 173, 174, 175, 176, 177, 178, 179, 180, 181, 182, 183, 184, 185, 186, 187, 188, 189, 190, 191, 192, 193, 194, 195, 196, 197, 198, 199, 200, 201, 202, 203, 204, 205, 206, 207, 208, 209, 210, 211, 212, 213, 214, 215, 216, 217, 218, 219, 220, 221, 222, 223, 224, 225, 226, 227, 228, 229, 230, 231, 232, 233, 234, 235, 236, 237, 238, 239, 240, 241, 242, 243, 244, 245, 246, 247, 248, 249, 250, 251, 252, 253, 254, 255, 256, 257, 258, 259, 260, 261, 262, 263, 264, 265, 266, 267, 268, 269, 270, 271, 272, 273, 274, 275, 276, 277, 278, 279, 280, 281, 282, 283, 284, 285, 286, 287, 288, 289, 290, 291, 292, 293, 294, 295, 296, 5, 297, 1050, 1051, 1052, 1053, 1054, 1055, 1056, 1057, 1058, 1059, 1060, 1061, 1062, 1063, 1064, 1065, 1066, 1067, 1068, 1069, 1070, 1071, 1072, 1073, 1074, 1075, 1076, 1077, 1078, 1079, 1080, 1081, 1082, 1083, 1084, 1085, 1086, 1087, 1088, 1089, 1090, 1091, 1092, 1093, 1094] (by decide +kernel) (by decide +kernel)) (goodIn_sub (fun _ h => List.mem_append_left _ (List.mem_append_left _ (List.mem_append_left _ (List.mem_append_left _ (List.mem_append_right _ h))))) (by decide +kernel))
set_option maxRecDepth 20000 in
theorem gL_law_X11_init : GoodIn wsL_law (wsX11_init) := ggL_law_X11_init
set_option maxRecDepth 20000 in
theorem ggL_law_L_word : GoodIn wsL_law wsL_word := goodIn_ca (goodIn_ca (goodIn_r _ [300, 301, 302, 303, 304, 2, 305, 306, 307, 32, 308, 309, 310, 37, 311, 108, 312, 313, 314, 315, 316, 317, 318, 319, 320, 1042, 1043, 1044, 1045, 1046, 1047, 1048, 1049, 1110, 1111, 1112, 1113, 1114, 1115, 1116, 1117, 1118, 1119, 1120, 1121, 1102, 1103] (by decide +kernel) (by decide +kernel)) (goodIn_sub (fun _ h => List.mem_append_left _ (List.mem_append_left _ (List.mem_append_left _ (List.mem_append_left _ (List.mem_append_right _ h))))) (by decide +kernel))) (goodIn_sub (fun _ h => List.mem_append_left _ (List.mem_append_left _ (List.mem_append_left _ (List.mem_append_right _ h)))) (by decide +kernel))
set_option maxRecDepth 20000 in
theorem gL_law_L_word : GoodIn wsL_law (va_wsS RL 77 yL_word wsL_word) := goodIn_app (goodIn_of _ (by decide +kernel)) ggL_law_L_word
set_option maxRecDepth 20000 in
theorem ggL_law_X11_word : GoodIn wsL_law wsX11_word := goodIn_ca (goodIn_r _ [324, 325, 326, 327, 139, 138, 1050, 1051, 1052, 1053, 1054, 1055, 1056, 1057, 1058, 1059, 1060, 1061, 1062, 1063, 1064, 1065, 1066, 1067, 1068, 1069, 1070, 1071, 1072, 1073, 1074, 1075, 1076, 1077, 1078, 1079, 1080, 1081, 1082, 1083, 1084, 1085, 1086, 1087, 1088, 1089, 1090, 1091, 1092, 1093, 1094] (by decide +kernel) (by decide +kernel)) (goodIn_sub (fun _ h => List.mem_append_left _ (List.mem_append_left _ (List.mem_append_left _ (List.mem_append_left _ (List.mem_append_right _ h))))) (by decide +kernel))
set_option maxRecDepth 20000 in
theorem gL_law_X11_word : GoodIn wsL_law (wsV RL 80 RX11 yX11_word wsX11_word) := goodIn_app (goodIn_of _ (by decide +kernel)) ggL_law_X11_word
set_option maxRecDepth 20000 in
theorem ggL_law_X11_thrown : GoodIn wsL_law wsX11_thrown := goodIn_r _ [331, 327, 1050, 1051, 1052, 1053, 1054, 1055, 1056, 1057, 1058, 1059, 1060, 1061, 1062, 1063, 1064, 1065, 1066, 1067, 1068, 1069, 1070, 1071, 1072, 1073, 1074, 1075, 1076, 1077, 1078, 1079, 1080, 1081, 1082, 1083, 1084, 1085, 1086, 1087, 1088, 1089, 1090, 1091, 1092, 1093, 1094] (by decide +kernel) (by decide +kernel)
set_option maxRecDepth 20000 in
theorem gL_law_X11_thrown : GoodIn wsL_law (wsV RL 81 RX11 yX11_thrown wsX11_thrown) := goodIn_app (goodIn_of _ (by decide +kernel)) ggL_law_X11_thrown
set_option maxRecDepth 20000 in
theorem ggL_law_L_id : GoodIn wsL_law wsL_id := goodIn_ca (goodIn_ca (goodIn_r _ [334, 301, 335, 336, 337, 2, 338, 306, 307, 32, 308, 309, 310, 37, 311, 108, 312, 313, 314, 315, 316, 1042, 1043, 1044, 1045, 1046, 1047, 1048, 1049, 1110, 1111, 1112, 1113, 1114, 1115, 1116, 1117, 1118, 1119, 1120, 1121, 1102, 1103] (by decide +kernel) (by decide +kernel)) (goodIn_sub (fun _ h => List.mem_append_left _ (List.mem_append_left _ (List.mem_append_left _ (List.mem_append_right _ h)))) (by decide +kernel))) (goodIn_sub (fun _ h => List.mem_append_left _ (List.mem_append_left _ (List.mem_append_left _ (List.mem_append_left _ (List.mem_append_right _ h))))) (by decide +kernel))
set_option maxRecDepth 20000 in
theorem gL_law_L_id : GoodIn wsL_law (va_wsS RL 85 yL_id wsL_id) := goodIn_app (goodIn_of _ (by decide +kernel)) ggL_law_L_id
set_option maxRecDepth 20000 in
theorem ggL_law_X11_id : GoodIn wsL_law wsX11_id := goodIn_ca (goodIn_r _ [342, 343, 327, 141, 1050, 1051, 1052, 1053, 1054, 1055, 1056, 1057, 1058, 1059, 1060, 1061, 1062, 1063, 1064, 1065, 1066, 1067, 1068, 1069, 1070, 1071, 1072, 1073, 1074, 1075, 1076, 1077, 1078, 1079, 1080, 1081, 1082, 1083, 1084, 1085, 1086, 1087, 1088, 1089, 1090, 1091, 1092, 1093, 1094] (by decide +kernel) (by decide +kernel)) (goodIn_sub (fun _ h => List.mem_append_left _ (List.mem_append_left _ (List.mem_append_left _ (List.mem_append_left _ (List.mem_append_right _ h))))) (by decide +kernel))
set_option maxRecDepth 20000 in
theorem gL_law_X11_id : GoodIn wsL_law (wsV RL 88 RX11 yX11_id wsX11_id) := goodIn_app (goodIn_of _ (by decide +kernel)) ggL_law_X11_id
set_option maxRecDepth 20000 in
theorem ggL_law_L_tape : GoodIn wsL_law wsL_tape := goodIn_ca (goodIn_ca (goodIn_r _ [346, 301, 347, 348, 349, 2, 350, 306, 307, 32, 308, 309, 310, 37, 311, 108, 312, 313, 314, 315, 316, 317, 318, 319, 320, 1042, 1043, 1044, 1045, 1046, 1047, 1048, 1049, 1110, 1111, 1112, 1113, 1114, 1115, 1116, 1117, 1118, 1119, 1120, 1121, 1102, 1103] (by decide +kernel) (by decide +kernel)) (goodIn_sub (fun _ h => List.mem_append_left _ (List.mem_append_left _ (List.mem_append_left _ (List.mem_append_left _ (List.mem_append_right _ h))))) (by decide +kernel))) (goodIn_sub (fun _ h => List.mem_append_left _ (List.mem_append_left _ (List.mem_append_left _ (List.mem_append_right _ h)))) (by decide +kernel))
set_option maxRecDepth 20000 in
theorem gL_law_L_tape : GoodIn wsL_law (va_wsS RL 89 yL_tape wsL_tape) := goodIn_app (goodIn_of _ (by decide +kernel)) ggL_law_L_tape
set_option maxRecDepth 20000 in
theorem ggL_law_X11_tape : GoodIn wsL_law wsX11_tape := goodIn_ca (goodIn_r _ [354, 355, 327, 142, 1050, 1051, 1052, 1053, 1054, 1055, 1056, 1057, 1058, 1059, 1060, 1061, 1062, 1063, 1064, 1065, 1066, 1067, 1068, 1069, 1070, 1071, 1072, 1073, 1074, 1075, 1076, 1077, 1078, 1079, 1080, 1081, 1082, 1083, 1084, 1085, 1086, 1087, 1088, 1089, 1090, 1091, 1092, 1093, 1094] (by decide +kernel) (by decide +kernel)) (goodIn_sub (fun _ h => List.mem_append_left _ (List.mem_append_left _ (List.mem_append_left _ (List.mem_append_left _ (List.mem_append_right _ h))))) (by decide +kernel))
set_option maxRecDepth 20000 in
theorem gL_law_X11_tape : GoodIn wsL_law (wsV RL 92 RX11 yX11_tape wsX11_tape) := goodIn_app (goodIn_of _ (by decide +kernel)) ggL_law_X11_tape
set_option maxRecDepth 20000 in
theorem ggL_law_X10_metadata : GoodIn wsL_law wsX10_metadata := goodIn_r _ [359, 32, 1042, 1043, 1044, 1045, 1046, 1047, 1048, 1049, 1110, 1111, 1112, 1113, 1114, 1115, 1116, 1117, 1118, 1119, 1120, 1121] (by decide +kernel) (by decide +kernel)
set_option maxRecDepth 20000 in
theorem gL_law_X10_metadata : GoodIn wsL_law (wsV RL 93 RX10 yX10_metadata wsX10_metadata) := goodIn_app (goodIn_of _ (by decide +kernel)) ggL_law_X10_metadata
set_option maxRecDepth 20000 in
theorem ggL_law_X11_metadata : GoodIn wsL_law wsX11_metadata := goodIn_r _ [363, 327, 364, 1050, 1051, 1052, 1053, 1054, 1055, 1056, 1057, 1058, 1059, 1060, 1061, 1062, 1063, 1064, 1065, 1066, 1067, 1068, 1069, 1070, 1071, 1072, 1073, 1074, 1075, 1076, 1077, 1078, 1079, 1080, 1081, 1082, 1083, 1084, 1085, 1086, 1087, 1088, 1089, 1090, 1091, 1092, 1093, 1094] (by decide +kernel) (by decide +kernel)
set_option maxRecDepth 20000 in
theorem gL_law_X11_metadata : GoodIn wsL_law (wsV RL 97 RX11 yX11_metadata wsX11_metadata) := goodIn_app (goodIn_of _ (by decide +kernel)) ggL_law_X11_metadata
set_option maxRecDepth 20000 in
theorem ggL_law_L_make : GoodIn wsL_law wsL_make := goodIn_ca (goodIn_ca (goodIn_r _ [367, 368, 369, 370, 371, 2, 372, 373, 374, 32, 30, 375, 376, 377, 57, 378, 118, 379, 380, 318, 319, 37, 320, 312, 381, 382, 383, 384, 29, 385, 386, 387, 26, 388, 389, 390, 391, 392, 393, 394, 395, 129, 396, 397, 398, 399, 122, 120, 400, 401, 402, 403, 404, 405, 406, 407, 408, 409, 410, 18, 19, 20, 411, 412, 413, 414, 415, 416, 417, 418, 419, 420, 421, 422, 108, 423, 314, 315, 316, 424, 425, 426, 427, 428, 429, 430, 431, 432, 433, 434, 435, 121, 436, 437, 438, 64, 439, 86, 440, 441, 442, 443, 85, 444, 445, 446, 447, 448, 449, 450, 451, 452, 453, 454, 455, 456, 457, 458, 459, 460, 461, 462, 463, 464, 465, 466, 467, 468, 469, 470, 471, 472, 473, 474, 107, 22, 23, 475, 476, 477, 478, 479, 480, 481, 482, 483, 484, 485, 486, 487, 488, 489, 490, 491, 492, 72, 493, 95, 494, 495, 496, 497, 498, 499, 500, 501, 502, 503, 504, 505, 506, 507, 508, 509, 510, 511, 512, 513, 514, 515, 516, 517, 518, 519, 520, 521, 522, 523, 524, 525, 526, 527, 45, 528, 529, 530, 531, 532, 533, 534, 535, 536, 537, 538, 539, 540, 541, 542, 543, 544, 545, 546, 547, 548, 549, 550, 68, 551, 91, 552, 90, 553, 554, 555, 556, 557, 558, 559, 560, 561, 562, 563, 564, 565, 566, 567, 568, 569, 570, 571, 572, 573, 574, 575, 576, 577, 578, 579, 580, 581, 582, 583, 584, 76, 585, 100, 586, 587, 588, 589, 590, 99, 102, 591, 592, 593, 594, 595, 596, 597, 598, 599, 600, 601, 602, 603, 604, 605, 606, 607, 608, 101, 609, 610, 611, 612, 613, 614, 615, 616, 617, 618, 619, 620, 621, 622, 623, 624, 625, 626, 627, 38, 628, 629, 630, 631, 632, 1042, 1043, 1044, 1045, 1046, 1047, 1048, 1049, 1110, 1111, 1112, 1113, 1114, 1115, 1116, 1117, 1118, 1119, 1120, 1121, 1102, 1103, 1098, 1099, 1100, 1101, 1095, 1096, 1097, 1104, 1105, 1106, 1107, 1108, 1109, 1122, 1123, 1126, 1124, 1125, 1127, 1128, 1129, 1130, 1131] (by decide +kernel) (by decide +kernel)) (goodIn_sub (fun _ h => List.mem_append_left _ (List.mem_append_left _ (List.mem_append_left _ (List.mem_append_left _ (List.mem_append_right _ h))))) (by decide +kernel))) (goodIn_sub (fun _ h => List.mem_append_left _ (List.mem_append_left _ (List.mem_append_right _ h))) (by decide +kernel))
set_option maxRecDepth 20000 in
theorem gL_law_L_make : GoodIn wsL_law (va_wsS RL 98 yL_make wsL_make) := goodIn_app (goodIn_of _ (by decide +kernel)) ggL_law_L_make
set_option maxRecDepth 20000 in
theorem ggL_law_X11_make : GoodIn wsL_law wsX11_make := goodIn_ca (goodIn_r _ [636, 293, 355, 637, 327, 638, 639, 640, 641, 5, 642, 643, 644, 645, 646, 647, 648, 144, 325, 138, 326, 139, 143, 291, 292, 649, 650, 651, 652, 153, 653, 654, 655, 656, 657, 149, 658, 659, 660, 661, 662, 663, 664, 665, 148, 666, 667, 668, 669, 151, 670, 671, 672, 673, 218, 150, 674, 675, 676, 677, 678, 679, 680, 681, 682, 683, 684, 685, 686, 687, 688, 689, 690, 691, 692, 693, 694, 695, 696, 697, 698, 699, 700, 701, 702, 703, 289, 704, 705, 706, 707, 141, 343, 364, 145, 708, 709, 710, 711, 712, 713, 714, 715, 716, 717, 718, 719, 720, 721, 722, 723, 142, 724, 725, 726, 727, 290, 728, 729, 730, 731, 732, 733, 734, 735, 736, 737, 738, 739, 740, 741, 742, 743, 152, 283, 744, 745, 746, 747, 748, 286, 284, 295, 296, 297, 749, 750, 751, 752, 753, 754, 755, 756, 287, 757, 758, 759, 760, 761, 762, 763, 764, 288, 765, 766, 767, 768, 285, 1050, 1051, 1052, 1053, 1054, 1055, 1056, 1057, 1058, 1059, 1060, 1061, 1062, 1063, 1064, 1065, 1066, 1067, 1068, 1069, 1070, 1071, 1072, 1073, 1074, 1075, 1076, 1077, 1078, 1079, 1080, 1081, 1082, 1083, 1084, 1085, 1086, 1087, 1088, 1089, 1090, 1091, 1092, 1093, 1094] (by decide +kernel) (by decide +kernel)) (goodIn_sub (fun _ h => List.mem_append_left _ (List.mem_append_left _ (List.mem_append_left _ (List.mem_append_left _ (List.mem_append_right _ h))))) (by decide +kernel))
set_option maxRecDepth 20000 in
theorem gL_law_X11_make : GoodIn wsL_law (wsV RL 100 RX11 yX11_make wsX11_make) := goodIn_app (goodIn_of _ (by decide +kernel)) ggL_law_X11_make
set_option maxRecDepth 20000 in
theorem ggL_law_L_entry : GoodIn wsL_law wsL_entry := goodIn_ca (goodIn_ca (goodIn_r _ [771, 772, 773, 774, 775, 2, 776, 777, 778, 32, 779, 397, 398, 57, 399, 122, 120, 317, 318, 319, 37, 320, 312, 780, 420, 421, 422, 108, 1042, 1043, 1044, 1045, 1046, 1047, 1048, 1049, 1110, 1111, 1112, 1113, 1114, 1115, 1116, 1117, 1118, 1119, 1120, 1121, 1102, 1103] (by decide +kernel) (by decide +kernel)) (goodIn_sub (fun _ h => List.mem_append_left _ (List.mem_append_left _ (List.mem_append_left _ (List.mem_append_left _ (List.mem_append_right _ h))))) (by decide +kernel))) (goodIn_sub (fun _ h => List.mem_append_left _ (List.mem_append_right _ h)) (by decide +kernel))
set_option maxRecDepth 20000 in
theorem gL_law_L_entry : GoodIn wsL_law (va_wsS RL 101 yL_entry wsL_entry) := goodIn_app (goodIn_of _ (by decide +kernel)) ggL_law_L_entry
set_option maxRecDepth 20000 in
theorem ggL_law_X11_entry : GoodIn wsL_law wsX11_entry := goodIn_ca (goodIn_r _ [784, 327, 144, 143, 785, 786, 787, 5, 788, 1050, 1051, 1052, 1053, 1054, 1055, 1056, 1057, 1058, 1059, 1060, 1061, 1062, 1063, 1064, 1065, 1066, 1067, 1068, 1069, 1070, 1071, 1072, 1073, 1074, 1075, 1076, 1077, 1078, 1079, 1080, 1081, 1082, 1083, 1084, 1085, 1086, 1087, 1088, 1089, 1090, 1091, 1092, 1093, 1094] (by decide +kernel) (by decide +kernel)) (goodIn_sub (fun _ h => List.mem_append_left _ (List.mem_append_left _ (List.mem_append_left _ (List.mem_append_left _ (List.mem_append_right _ h))))) (by decide +kernel))
set_option maxRecDepth 20000 in
theorem gL_law_X11_entry : GoodIn wsL_law (wsV RL 104 RX11 yX11_entry wsX11_entry) := goodIn_app (goodIn_of _ (by decide +kernel)) ggL_law_X11_entry
set_option maxRecDepth 20000 in
theorem ggL_law_L_alter : GoodIn wsL_law wsL_alter := goodIn_ca (goodIn_ca (goodIn_r _ [791, 772, 792, 793, 794, 2, 795, 777, 778, 32, 779, 397, 398, 57, 399, 122, 120, 317, 318, 319, 37, 320, 312, 796, 505, 506, 507, 108, 624, 625, 626, 627, 38, 628, 412, 413, 414, 1042, 1043, 1044, 1045, 1046, 1047, 1048, 1049, 1110, 1111, 1112, 1113, 1114, 1115, 1116, 1117, 1118, 1119, 1120, 1121, 1102, 1103] (by decide +kernel) (by decide +kernel)) (goodIn_sub (fun _ h => List.mem_append_left _ (List.mem_append_right _ h)) (by decide +kernel))) (goodIn_sub (fun _ h => List.mem_append_left _ (List.mem_append_left _ (List.mem_append_left _ (List.mem_append_left _ (List.mem_append_right _ h))))) (by decide +kernel))
set_option maxRecDepth 20000 in
theorem gL_law_L_alter : GoodIn wsL_law (va_wsS RL 105 yL_alter wsL_alter) := goodIn_app (goodIn_of _ (by decide +kernel)) ggL_law_L_alter
set_option maxRecDepth 20000 in
theorem ggL_law_X11_alter : GoodIn wsL_law wsX11_alter := goodIn_ca (goodIn_r _ [800, 327, 143, 785, 786, 787, 5, 788, 144, 639, 640, 641, 642, 643, 644, 1050, 1051, 1052, 1053, 1054, 1055, 1056, 1057, 1058, 1059, 1060, 1061, 1062, 1063, 1064, 1065, 1066, 1067, 1068, 1069, 1070, 1071, 1072, 1073, 1074, 1075, 1076, 1077, 1078, 1079, 1080, 1081, 1082, 1083, 1084, 1085, 1086, 1087, 1088, 1089, 1090, 1091, 1092, 1093, 1094] (by decide +kernel) (by decide +kernel)) (goodIn_sub (fun _ h => List.mem_append_left _ (List.mem_append_left _ (List.mem_append_left _ (List.mem_append_left _ (List.mem_append_right _ h))))) (by decide +kernel))
set_option maxRecDepth 20000 in
theorem gL_law_X11_alter : GoodIn wsL_law (wsV RL 108 RX11 yX11_alter wsX11_alter) := goodIn_app (goodIn_of _ (by decide +kernel)) ggL_law_X11_alter
set_option maxRecDepth 20000 in
theorem ggL_law_L_open : GoodIn wsL_law wsL_open := goodIn_ca (goodIn_ca (goodIn_ca (goodIn_ca (goodIn_r _ [803, 804, 805, 806, 807, 2, 808, 809, 810, 306, 307, 373, 374, 32, 30, 308, 309, 310, 37, 311, 108, 312, 313, 314, 315, 316, 317, 318, 319, 320, 811, 812, 813, 57, 814, 815, 397, 398, 399, 122, 120, 380, 816, 817, 818, 819, 29, 820, 394, 395, 129, 407, 408, 409, 410, 18, 19, 20, 411, 412, 413, 414, 400, 415, 416, 417, 418, 419, 420, 421, 422, 423, 424, 425, 426, 427, 821, 822, 823, 824, 130, 405, 406, 508, 509, 510, 511, 475, 476, 477, 478, 479, 480, 481, 396, 512, 513, 514, 515, 516, 467, 468, 469, 517, 518, 519, 520, 428, 429, 430, 431, 432, 433, 434, 435, 121, 436, 437, 438, 64, 439, 86, 440, 441, 442, 443, 85, 444, 445, 446, 447, 448, 449, 450, 451, 452, 453, 454, 455, 456, 457, 458, 459, 460, 461, 462, 463, 464, 465, 466, 470, 471, 472, 473, 474, 107, 22, 23, 521, 522, 523, 524, 482, 483, 484, 485, 486, 487, 488, 489, 490, 491, 492, 72, 493, 95, 494, 495, 496, 497, 498, 499, 500, 501, 502, 503, 504, 505, 506, 507, 825, 826, 827, 828, 401, 402, 403, 404, 829, 830, 831, 832, 833, 834, 26, 835, 528, 529, 540, 836, 837, 838, 839, 530, 531, 541, 542, 543, 544, 545, 546, 547, 548, 549, 550, 68, 551, 91, 552, 90, 553, 554, 555, 556, 557, 558, 559, 560, 561, 562, 563, 564, 565, 566, 567, 568, 569, 570, 571, 572, 840, 577, 578, 579, 580, 532, 581, 841, 842, 843, 76, 844, 100, 586, 587, 588, 589, 590, 99, 102, 591, 592, 593, 594, 595, 596, 597, 598, 599, 600, 601, 602, 603, 604, 845, 846, 847, 848, 849, 101, 609, 610, 611, 612, 850, 851, 852, 853, 617, 628, 624, 625, 626, 627, 38, 1042, 1043, 1044, 1045, 1046, 1047, 1048, 1049, 1110, 1111, 1112, 1113, 1114, 1115, 1116, 1117, 1118, 1119, 1120, 1121, 1102, 1103, 1098, 1099, 1100, 1101, 1095, 1096, 1097, 1104, 1105, 1106, 1107, 1108, 1109, 1122, 1123, 1126, 1124, 1125, 1127, 1128, 1129, 1130, 1131] (by decide +kernel) (by decide +kernel)) (goodIn_sub (fun _ h => List.mem_append_left _ (List.mem_append_left _ (List.mem_append_left _ (List.mem_append_left _ (List.mem_append_right _ h))))) (by decide +kernel))) (goodIn_sub (fun _ h => List.mem_append_right _ h) (by decide +kernel))) (goodIn_sub (fun _ h => List.mem_append_left _ (List.mem_append_left _ (List.mem_append_left _ (List.mem_append_right _ h)))) (by decide +kernel))) (goodIn_sub (fun _ h => List.mem_append_left _ (List.mem_append_left _ (List.mem_append_right _ h))) (by decide +kernel))
set_option maxRecDepth 20000 in
theorem gL_law_L_open : GoodIn wsL_law (va_wsS RL 109 yL_open wsL_open) := goodIn_app (goodIn_of _ (by decide +kernel)) ggL_law_L_open
set_option maxRecDepth 20000 in
theorem ggL_law_X11_open : GoodIn wsL_law wsX11_open := goodIn_ca (goodIn_r _ [857, 144, 858, 327, 140, 293, 643, 859, 860, 861, 5, 862, 291, 143, 292, 649, 650, 651, 652, 153, 863, 864, 865, 866, 290, 704, 705, 706, 707, 657, 638, 141, 343, 364, 145, 149, 658, 659, 660, 661, 662, 663, 664, 665, 148, 708, 709, 710, 711, 666, 667, 668, 669, 151, 670, 671, 672, 673, 218, 150, 674, 675, 676, 677, 678, 679, 680, 681, 682, 683, 684, 685, 686, 687, 688, 689, 690, 691, 692, 693, 694, 695, 696, 697, 698, 699, 712, 713, 714, 715, 700, 701, 702, 703, 289, 653, 654, 655, 656, 867, 868, 869, 870, 728, 729, 730, 731, 732, 733, 734, 735, 736, 737, 738, 739, 740, 741, 742, 743, 152, 283, 744, 745, 746, 747, 748, 286, 284, 295, 296, 297, 749, 750, 751, 752, 753, 754, 755, 756, 287, 757, 758, 759, 760, 761, 762, 763, 764, 288, 765, 766, 767, 768, 285, 639, 640, 641, 642, 644, 1050, 1051, 1052, 1053, 1054, 1055, 1056, 1057, 1058, 1059, 1060, 1061, 1062, 1063, 1064, 1065, 1066, 1067, 1068, 1069, 1070, 1071, 1072, 1073, 1074, 1075, 1076, 1077, 1078, 1079, 1080, 1081, 1082, 1083, 1084, 1085, 1086, 1087, 1088, 1089, 1090, 1091, 1092, 1093, 1094] (by decide +kernel) (by decide +kernel)) (goodIn_sub (fun _ h => List.mem_append_left _ (List.mem_append_left _ (List.mem_append_left _ (List.mem_append_left _ (List.mem_append_right _ h))))) (by decide +kernel))
set_option maxRecDepth 20000 in
theorem gL_law_X11_open : GoodIn wsL_law (wsV RL 111 RX11 yX11_open wsX11_open) := goodIn_app (goodIn_of _ (by decide +kernel)) ggL_law_X11_open
set_option maxRecDepth 20000 in
theorem ggL_law_L_key : GoodIn wsL_law wsL_key := goodIn_ca (goodIn_ca (goodIn_r _ [873, 368, 874, 875, 876, 2, 877, 373, 374, 32, 30, 40, 39, 878, 879, 880, 57, 881, 119, 380, 318, 319, 37, 320, 312, 882, 883, 884, 885, 29, 886, 405, 406, 394, 395, 410, 18, 19, 20, 475, 476, 477, 478, 479, 412, 413, 414, 480, 481, 416, 417, 418, 419, 420, 421, 422, 108, 423, 314, 315, 316, 516, 467, 468, 469, 887, 436, 437, 438, 64, 439, 86, 440, 441, 442, 443, 85, 444, 445, 446, 447, 448, 449, 450, 451, 452, 453, 454, 455, 456, 457, 458, 459, 460, 461, 462, 463, 464, 465, 466, 400, 470, 471, 472, 473, 474, 107, 22, 23, 888, 889, 26, 890, 528, 529, 545, 317, 1042, 1043, 1044, 1045, 1046, 1047, 1048, 1049, 1110, 1111, 1112, 1113, 1114, 1115, 1116, 1117, 1118, 1119, 1120, 1121, 1102, 1103, 1098, 1099, 1100, 1101, 1095, 1096, 1097, 1104, 1105, 1106, 1107, 1108, 1109, 1122, 1123] (by decide +kernel) (by decide +kernel)) (goodIn_sub (fun _ h => List.mem_append_left _ (List.mem_append_left _ (List.mem_append_left _ (List.mem_append_left _ (List.mem_append_right _ h))))) (by decide +kernel))) (goodIn_sub (fun _ h => List.mem_append_left _ (List.mem_append_left _ (List.mem_append_right _ h))) (by decide +kernel))
set_option maxRecDepth 20000 in
theorem gL_law_L_key : GoodIn wsL_law (va_wsS RL 112 yL_key wsL_key) := goodIn_app (goodIn_of _ (by decide +kernel)) ggL_law_L_key
set_option maxRecDepth 20000 in
theorem ggL_law_X11_key : GoodIn wsL_law wsX11_key := goodIn_ca (goodIn_r _ [894, 643, 327, 149, 895, 896, 897, 5, 898, 293, 145, 657, 294, 899, 696, 697, 698, 699, 658, 659, 660, 661, 662, 663, 664, 665, 148, 708, 709, 710, 711, 666, 667, 668, 669, 151, 670, 671, 672, 673, 218, 150, 674, 675, 676, 677, 678, 679, 680, 681, 682, 683, 684, 685, 686, 687, 688, 689, 690, 691, 900, 901, 902, 903, 147, 904, 1050, 1051, 1052, 1053, 1054, 1055, 1056, 1057, 1058, 1059, 1060, 1061, 1062, 1063, 1064, 1065, 1066, 1067, 1068, 1069, 1070, 1071, 1072, 1073, 1074, 1075, 1076, 1077, 1078, 1079, 1080, 1081, 1082, 1083, 1084, 1085, 1086, 1087, 1088, 1089, 1090, 1091, 1092, 1093, 1094] (by decide +kernel) (by decide +kernel)) (goodIn_sub (fun _ h => List.mem_append_left _ (List.mem_append_left _ (List.mem_append_left _ (List.mem_append_left _ (List.mem_append_right _ h))))) (by decide +kernel))
set_option maxRecDepth 20000 in
theorem gL_law_X11_key : GoodIn wsL_law (wsV RL 114 RX11 yX11_key wsX11_key) := goodIn_app (goodIn_of _ (by decide +kernel)) ggL_law_X11_key
set_option maxRecDepth 20000 in
theorem ggL_law_L_filter : GoodIn wsL_law wsL_filter := goodIn_ca (goodIn_ca (goodIn_r _ [907, 804, 908, 909, 910, 2, 911, 809, 810, 30, 40, 912, 913, 914, 915, 29, 916, 394, 395, 917, 918, 26, 919, 1042, 1043, 1044, 1045, 1046, 1047, 1048, 1049, 1098, 1099, 1100, 1101, 1095, 1096, 1097, 1110, 1111, 1112, 1113, 1114, 1115, 1116, 1117, 1118, 1119, 1120, 1121] (by decide +kernel) (by decide +kernel)) (goodIn_sub (fun _ h => List.mem_append_left _ (List.mem_append_left _ (List.mem_append_left _ (List.mem_append_left _ (List.mem_append_right _ h))))) (by decide +kernel))) (goodIn_sub (fun _ h => List.mem_append_right _ h) (by decide +kernel))
set_option maxRecDepth 20000 in
theorem gL_law_L_filter : GoodIn wsL_law (va_wsS RL 115 yL_filter wsL_filter) := goodIn_app (goodIn_of _ (by decide +kernel)) ggL_law_L_filter
set_option maxRecDepth 20000 in
theorem ggL_law_X11_filter : GoodIn wsL_law wsX11_filter := goodIn_r _ [923, 293, 327, 294, 1050, 1051, 1052, 1053, 1054, 1055, 1056, 1057, 1058, 1059, 1060, 1061, 1062, 1063, 1064, 1065, 1066, 1067, 1068, 1069, 1070, 1071, 1072, 1073, 1074, 1075, 1076, 1077, 1078, 1079, 1080, 1081, 1082, 1083, 1084, 1085, 1086, 1087, 1088, 1089, 1090, 1091, 1092, 1093, 1094] (by decide +kernel) (by decide +kernel)
set_option maxRecDepth 20000 in
theorem gL_law_X11_filter : GoodIn wsL_law (wsV RL 117 RX11 yX11_filter wsX11_filter) := goodIn_app (goodIn_of _ (by decide +kernel)) ggL_law_X11_filter
set_option maxRecDepth 20000 in
theorem ggL_law_L_apply : GoodIn wsL_law wsL_apply := goodIn_ca (goodIn_ca (goodIn_ca (goodIn_r _ [926, 368, 927, 928, 929, 2, 930, 373, 374, 306, 307, 32, 38, 931, 932, 878, 879, 880, 57, 881, 119, 380, 318, 319, 37, 320, 312, 317, 308, 309, 310, 311, 108, 313, 314, 315, 316, 1042, 1043, 1044, 1045, 1046, 1047, 1048, 1049, 1110, 1111, 1112, 1113, 1114, 1115, 1116, 1117, 1118, 1119, 1120, 1121, 1102, 1103] (by decide +kernel) (by decide +kernel)) (goodIn_sub (fun _ h => List.mem_append_left _ (List.mem_append_left _ (List.mem_append_left _ (List.mem_append_left _ (List.mem_append_right _ h))))) (by decide +kernel))) (goodIn_sub (fun _ h => List.mem_append_left _ (List.mem_append_left _ (List.mem_append_right _ h))) (by decide +kernel))) (goodIn_sub (fun _ h => List.mem_append_left _ (List.mem_append_left _ (List.mem_append_left _ (List.mem_append_right _ h)))) (by decide +kernel))
set_option maxRecDepth 20000 in
theorem gL_law_L_apply : GoodIn wsL_law (va_wsS RL 118 yL_apply wsL_apply) := goodIn_app (goodIn_of _ (by decide +kernel)) ggL_law_L_apply
set_option maxRecDepth 20000 in
theorem ggL_law_X11_apply : GoodIn wsL_law wsX11_apply := goodIn_ca (goodIn_r _ [936, 643, 644, 937, 938, 327, 146, 1050, 1051, 1052, 1053, 1054, 1055, 1056, 1057, 1058, 1059, 1060, 1061, 1062, 1063, 1064, 1065, 1066, 1067, 1068, 1069, 1070, 1071, 1072, 1073, 1074, 1075, 1076, 1077, 1078, 1079, 1080, 1081, 1082, 1083, 1084, 1085, 1086, 1087, 1088, 1089, 1090, 1091, 1092, 1093, 1094] (by decide +kernel) (by decide +kernel)) (goodIn_sub (fun _ h => List.mem_append_left _ (List.mem_append_left _ (List.mem_append_left _ (List.mem_append_left _ (List.mem_append_right _ h))))) (by decide +kernel))
set_option maxRecDepth 20000 in
theorem gL_law_X11_apply : GoodIn wsL_law (wsV RL 121 RX11 yX11_apply wsX11_apply) := goodIn_app (goodIn_of _ (by decide +kernel)) ggL_law_X11_apply
set_option maxRecDepth 20000 in
theorem ggL_law_X10_end : GoodIn wsL_law wsX10_end := goodIn_ca (goodIn_r _ [942, 38, 40, 932, 39, 34, 317, 318, 319, 37, 320, 312, 943, 944, 945, 2, 946, 30, 931, 882, 883, 884, 885, 29, 886, 405, 406, 394, 395, 410, 18, 19, 20, 475, 476, 477, 478, 479, 412, 413, 414, 480, 481, 416, 417, 418, 419, 420, 421, 422, 108, 423, 314, 315, 316, 516, 467, 468, 469, 887, 436, 437, 438, 64, 439, 86, 440, 441, 442, 443, 85, 444, 445, 446, 447, 448, 449, 450, 451, 452, 453, 454, 455, 456, 457, 458, 459, 460, 461, 462, 463, 464, 465, 466, 400, 470, 471, 472, 473, 474, 107, 22, 23, 888, 889, 26, 890, 528, 529, 545, 947, 948, 491, 492, 72, 493, 95, 494, 495, 496, 497, 498, 499, 500, 501, 502, 503, 504, 505, 506, 507, 949, 950, 951, 952, 953, 842, 843, 76, 844, 100, 586, 587, 588, 589, 590, 99, 102, 591, 592, 593, 594, 595, 596, 597, 598, 599, 600, 601, 602, 603, 604, 845, 846, 847, 848, 849, 101, 609, 610, 611, 612, 850, 851, 852, 853, 617, 780, 954, 955, 956, 957, 958, 959, 960, 961, 962, 963, 964, 965, 966, 967, 32, 375, 376, 377, 57, 378, 118, 379, 380, 628, 968, 534, 535, 536, 537, 538, 539, 969, 513, 514, 515, 970, 518, 519, 520, 971, 583, 584, 585, 605, 606, 607, 608, 613, 614, 615, 616, 1042, 1043, 1044, 1045, 1046, 1047, 1048, 1049, 1104, 1105, 1106, 1107, 1108, 1109, 1102, 1103, 1098, 1099, 1100, 1101, 1095, 1096, 1097, 1110, 1111, 1112, 1113, 1114, 1115, 1116, 1117, 1118, 1119, 1120, 1121, 1122, 1123, 1126, 1127, 1128, 1129, 1130, 1131] (by decide +kernel) (by decide +kernel)) (goodIn_sub (fun _ h => List.mem_append_left _ (List.mem_append_left _ (List.mem_append_left _ (List.mem_append_left _ (List.mem_append_right _ h))))) (by decide +kernel))
set_option maxRecDepth 20000 in
theorem gL_law_X10_end : GoodIn wsL_law (wsV RL 122 RX10 yX10_end wsX10_end) := goodIn_app (goodIn_of _ (by decide +kernel)) ggL_law_X10_end
set_option maxRecDepth 20000 in
theorem ggL_law_X11_end : GoodIn wsL_law wsX11_end := goodIn_ca (goodIn_r _ [975, 327, 644, 294, 938, 937, 149, 146, 976, 977, 978, 5, 979, 290, 895, 896, 897, 898, 293, 145, 657, 899, 696, 697, 698, 699, 658, 659, 660, 661, 662, 663, 664, 665, 148, 708, 709, 710, 711, 666, 667, 668, 669, 151, 670, 671, 672, 673, 218, 150, 674, 675, 676, 677, 678, 679, 680, 681, 682, 683, 684, 685, 686, 687, 688, 689, 690, 691, 744, 745, 746, 747, 748, 286, 284, 295, 296, 297, 749, 750, 751, 752, 753, 754, 755, 756, 287, 757, 758, 759, 760, 761, 762, 763, 764, 288, 765, 766, 767, 768, 285, 900, 901, 902, 903, 147, 904, 980, 981, 982, 983, 355, 637, 720, 721, 722, 723, 142, 700, 701, 702, 703, 289, 1050, 1051, 1052, 1053, 1054, 1055, 1056, 1057, 1058, 1059, 1060, 1061, 1062, 1063, 1064, 1065, 1066, 1067, 1068, 1069, 1070, 1071, 1072, 1073, 1074, 1075, 1076, 1077, 1078, 1079, 1080, 1081, 1082, 1083, 1084, 1085, 1086, 1087, 1088, 1089, 1090, 1091, 1092, 1093, 1094] (by decide +kernel) (by decide +kernel)) (goodIn_sub (fun _ h => List.mem_append_left _ (List.mem_append_left _ (List.mem_append_left _ (List.mem_append_left _ (List.mem_append_right _ h))))) (by decide +kernel))
set_option maxRecDepth 20000 in
theorem gL_law_X11_end : GoodIn wsL_law (wsV RL 125 RX11 yX11_end wsX11_end) := goodIn_app (goodIn_of _ (by decide +kernel)) ggL_law_X11_end
set_option maxRecDepth 20000 in
theorem ggL_law_L_out : GoodIn wsL_law wsL_out := goodIn_ca (goodIn_r _ [986, 987, 988, 989, 990, 2, 991, 39, 992, 993, 994, 317, 318, 319, 37, 320, 312, 780, 420, 421, 422, 108, 1042, 1043, 1044, 1045, 1046, 1047, 1048, 1049, 1132, 1133, 1134, 1135, 1136, 1137, 1102, 1103] (by decide +kernel) (by decide +kernel)) (goodIn_sub (fun _ h => List.mem_append_left _ (List.mem_append_left _ (List.mem_append_left _ (List.mem_append_left _ (List.mem_append_right _ h))))) (by decide +kernel))
set_option maxRecDepth 20000 in
theorem gL_law_L_out : GoodIn wsL_law (va_wsS RL 126 yL_out wsL_out) := goodIn_app (goodIn_of _ (by decide +kernel)) ggL_law_L_out
set_option maxRecDepth 20000 in
theorem ggL_law_X11_out : GoodIn wsL_law wsX11_out := goodIn_ca (goodIn_r _ [998, 904, 327, 147, 1050, 1051, 1052, 1053, 1054, 1055, 1056, 1057, 1058, 1059, 1060, 1061, 1062, 1063, 1064, 1065, 1066, 1067, 1068, 1069, 1070, 1071, 1072, 1073, 1074, 1075, 1076, 1077, 1078, 1079, 1080, 1081, 1082, 1083, 1084, 1085, 1086, 1087, 1088, 1089, 1090, 1091, 1092, 1093, 1094] (by decide +kernel) (by decide +kernel)) (goodIn_sub (fun _ h => List.mem_append_left _ (List.mem_append_left _ (List.mem_append_left _ (List.mem_append_left _ (List.mem_append_right _ h))))) (by decide +kernel))
set_option maxRecDepth 20000 in
theorem gL_law_X11_out : GoodIn wsL_law (wsV RL 128 RX11 yX11_out wsX11_out) := goodIn_app (goodIn_of _ (by decide +kernel)) ggL_law_X11_out
set_option maxRecDepth 20000 in
theorem ggL_law_L_digest : GoodIn wsL_law wsL_digest := goodIn_ca (goodIn_ca (goodIn_r _ [1001, 804, 1002, 1003, 1004, 2, 1005, 809, 810, 34, 38, 39, 1006, 437, 438, 64, 439, 86, 440, 441, 442, 443, 85, 444, 318, 319, 37, 320, 312, 445, 446, 447, 448, 449, 450, 451, 452, 108, 453, 454, 455, 456, 457, 458, 459, 460, 461, 462, 463, 464, 465, 412, 413, 414, 466, 467, 468, 469, 423, 314, 315, 316, 1007, 549, 550, 68, 551, 91, 552, 90, 553, 554, 555, 556, 557, 558, 559, 560, 561, 562, 563, 564, 565, 566, 567, 568, 569, 570, 571, 572, 317, 1042, 1043, 1044, 1045, 1046, 1047, 1048, 1049, 1104, 1105, 1106, 1107, 1108, 1109, 1122, 1123, 1102, 1103, 1124, 1125] (by decide +kernel) (by decide +kernel)) (goodIn_sub (fun _ h => List.mem_append_left _ (List.mem_append_left _ (List.mem_append_left _ (List.mem_append_left _ (List.mem_append_right _ h))))) (by decide +kernel))) (goodIn_sub (fun _ h => List.mem_append_right _ h) (by decide +kernel))
set_option maxRecDepth 20000 in
theorem gL_law_L_digest : GoodIn wsL_law (va_wsS RL 129 yL_digest wsL_digest) := goodIn_app (goodIn_of _ (by decide +kernel)) ggL_law_L_digest
set_option maxRecDepth 20000 in
theorem ggL_law_X11_digest : GoodIn wsL_law wsX11_digest := goodIn_ca (goodIn_r _ [1011, 327, 657, 146, 644, 149, 658, 659, 660, 5, 661, 662, 663, 664, 665, 148, 666, 667, 668, 669, 151, 670, 671, 672, 673, 218, 150, 674, 675, 676, 677, 678, 679, 680, 681, 682, 683, 684, 685, 686, 687, 688, 689, 690, 691, 732, 733, 734, 735, 736, 737, 738, 739, 740, 741, 742, 743, 152, 283, 900, 901, 902, 903, 147, 904, 1050, 1051, 1052, 1053, 1054, 1055, 1056, 1057, 1058, 1059, 1060, 1061, 1062, 1063, 1064, 1065, 1066, 1067, 1068, 1069, 1070, 1071, 1072, 1073, 1074, 1075, 1076, 1077, 1078, 1079, 1080, 1081, 1082, 1083, 1084, 1085, 1086, 1087, 1088, 1089, 1090, 1091, 1092, 1093, 1094] (by decide +kernel) (by decide +kernel)) (goodIn_sub (fun _ h => List.mem_append_left _ (List.mem_append_left _ (List.mem_append_left _ (List.mem_append_left _ (List.mem_append_right _ h))))) (by decide +kernel))
set_option maxRecDepth 20000 in
theorem gL_law_X11_digest : GoodIn wsL_law (wsV RL 131 RX11 yX11_digest wsX11_digest) := goodIn_app (goodIn_of _ (by decide +kernel)) ggL_law_X11_digest
set_option maxRecDepth 20000 in
theorem ggL_law_X10_weak : GoodIn wsL_law wsX10_weak := goodIn_r _ [1015, 32, 40, 1016, 433, 434, 57, 435, 121, 1042, 1043, 1044, 1045, 1046, 1047, 1048, 1049, 1110, 1111, 1112, 1113, 1114, 1115, 1116, 1117, 1118, 1119, 1120, 1121] (by decide +kernel) (by decide +kernel)
set_option maxRecDepth 20000 in
theorem gL_law_X10_weak : GoodIn wsL_law (wsV RL 132 RX10 yX10_weak wsX10_weak) := goodIn_app (goodIn_of _ (by decide +kernel)) ggL_law_X10_weak
set_option maxRecDepth 20000 in
theorem ggL_law_X11_weak : GoodIn wsL_law wsX11_weak := goodIn_r _ [1020, 327, 293, 294, 1050, 1051, 1052, 1053, 1054, 1055, 1056, 1057, 1058, 1059, 1060, 1061, 1062, 1063, 1064, 1065, 1066, 1067, 1068, 1069, 1070, 1071, 1072, 1073, 1074, 1075, 1076, 1077, 1078, 1079, 1080, 1081, 1082, 1083, 1084, 1085, 1086, 1087, 1088, 1089, 1090, 1091, 1092, 1093, 1094] (by decide +kernel) (by decide +kernel)
set_option maxRecDepth 20000 in
theorem gL_law_X11_weak : GoodIn wsL_law (wsV RL 136 RX11 yX11_weak wsX11_weak) := goodIn_app (goodIn_of _ (by decide +kernel)) ggL_law_X11_weak
set_option maxRecDepth 20000 in
theorem ggL_law_L_told : GoodIn wsL_law wsL_told := goodIn_ca (goodIn_ca (goodIn_r _ [1023, 772, 1024, 1025, 1026, 2, 1027, 777, 778, 38, 32, 39, 30, 317, 318, 319, 37, 320, 312, 375, 376, 377, 57, 378, 118, 379, 380, 1028, 1029, 1030, 1031, 29, 1032, 394, 395, 1033, 1034, 26, 1035, 528, 529, 530, 531, 1036, 879, 880, 881, 119, 577, 578, 579, 580, 532, 412, 413, 414, 581, 518, 519, 520, 423, 314, 315, 316, 108, 540, 397, 398, 399, 122, 120, 547, 513, 514, 515, 480, 481, 416, 417, 418, 419, 420, 421, 422, 841, 842, 843, 76, 844, 100, 586, 587, 588, 589, 590, 99, 102, 591, 592, 593, 594, 595, 596, 597, 598, 599, 600, 601, 602, 603, 604, 845, 846, 847, 848, 849, 101, 609, 610, 611, 612, 850, 851, 852, 853, 617, 505, 506, 507, 1037, 1042, 1043, 1044, 1045, 1046, 1047, 1048, 1049, 1102, 1103, 1110, 1111, 1112, 1113, 1114, 1115, 1116, 1117, 1118, 1119, 1120, 1121, 1098, 1099, 1100, 1101, 1095, 1096, 1097, 1104, 1105, 1106, 1107, 1108, 1109, 1127, 1128, 1129, 1130, 1131] (by decide +kernel) (by decide +kernel)) (goodIn_sub (fun _ h => List.mem_append_left _ (List.mem_append_left _ (List.mem_append_left _ (List.mem_append_left _ (List.mem_append_right _ h))))) (by decide +kernel))) (goodIn_sub (fun _ h => List.mem_append_left _ (List.mem_append_right _ h)) (by decide +kernel))
set_option maxRecDepth 20000 in
theorem gL_law_L_told : GoodIn wsL_law (va_wsS RL 137 yL_told wsL_told) := goodIn_app (goodIn_of _ (by decide +kernel)) ggL_law_L_told
set_option maxRecDepth 20000 in
theorem ggL_law_X11_told : GoodIn wsL_law wsX11_told := goodIn_ca (goodIn_r _ [1041, 327, 644, 355, 637, 904, 293, 643, 638, 290, 143, 145, 744, 745, 746, 5, 747, 748, 286, 284, 295, 296, 297, 753, 754, 755, 756, 287, 757, 758, 759, 760, 761, 762, 763, 764, 288, 765, 766, 767, 768, 285, 1050, 1051, 1052, 1053, 1054, 1055, 1056, 1057, 1058, 1059, 1060, 1061, 1062, 1063, 1064, 1065, 1066, 1067, 1068, 1069, 1070, 1071, 1072, 1073, 1074, 1075, 1076, 1077, 1078, 1079, 1080, 1081, 1082, 1083, 1084, 1085, 1086, 1087, 1088, 1089, 1090, 1091, 1092, 1093, 1094] (by decide +kernel) (by decide +kernel)) (goodIn_sub (fun _ h => List.mem_append_left _ (List.mem_append_left _ (List.mem_append_left _ (List.mem_append_left _ (List.mem_append_right _ h))))) (by decide +kernel))
set_option maxRecDepth 20000 in
theorem gL_law_X11_told : GoodIn wsL_law (wsV RL 139 RX11 yX11_told wsX11_told) := goodIn_app (goodIn_of _ (by decide +kernel)) ggL_law_X11_told
theorem dL_law_0 : decode cL_law 0 = .ok (.new 8, 3) := by decide +kernel
theorem dL_law_3 : decode cL_law 3 = .ok (.dup, 1) := by decide +kernel
theorem dL_law_4 : decode cL_law 4 = .ok (.aload_n 0, 1) := by decide +kernel
theorem dL_law_5 : decode cL_law 5 = .ok (.iconst 0, 1) := by decide +kernel
theorem dL_law_6 : decode cL_law 6 = .ok (.invokestatic 65, 3) := by decide +kernel
theorem dL_law_9 : decode cL_law 9 = .ok (.invokespecial 71, 3) := by decide +kernel
theorem dL_law_12 : decode cL_law 12 = .ok (.astore_n 1, 1) := by decide +kernel
theorem dL_law_13 : decode cL_law 13 = .ok (.new 74, 3) := by decide +kernel
theorem dL_law_16 : decode cL_law 16 = .ok (.dup, 1) := by decide +kernel
theorem dL_law_17 : decode cL_law 17 = .ok (.aload_n 0, 1) := by decide +kernel
theorem dL_law_18 : decode cL_law 18 = .ok (.iconst 0, 1) := by decide +kernel
theorem dL_law_19 : decode cL_law 19 = .ok (.invokestatic 65, 3) := by decide +kernel
theorem dL_law_22 : decode cL_law 22 = .ok (.invokespecial 76, 3) := by decide +kernel
theorem dL_law_25 : decode cL_law 25 = .ok (.astore_n 2, 1) := by decide +kernel
theorem dL_law_26 : decode cL_law 26 = .ok (.iconst 1, 1) := by decide +kernel
theorem dL_law_27 : decode cL_law 27 = .ok (.newarray .long, 2) := by decide +kernel
theorem dL_law_29 : decode cL_law 29 = .ok (.astore_n 3, 1) := by decide +kernel
theorem dL_law_30 : decode cL_law 30 = .ok (.iconst 1, 1) := by decide +kernel
theorem dL_law_31 : decode cL_law 31 = .ok (.istore 4, 2) := by decide +kernel
theorem dL_law_33 : decode cL_law 33 = .ok (.iload 4, 2) := by decide +kernel
theorem dL_law_35 : decode cL_law 35 = .ok (.aload_n 0, 1) := by decide +kernel
theorem dL_law_36 : decode cL_law 36 = .ok (.arraylength, 1) := by decide +kernel
theorem dL_law_37 : decode cL_law 37 = .ok (.iconst 4, 1) := by decide +kernel
theorem dL_law_38 : decode cL_law 38 = .ok (.isub, 1) := by decide +kernel
theorem dL_law_39 : decode cL_law 39 = .ok (.if_icmp .gt 972, 3) := by decide +kernel
theorem dL_law_42 : decode cL_law 42 = .ok (.aload_n 0, 1) := by decide +kernel
theorem dL_law_43 : decode cL_law 43 = .ok (.iload 4, 2) := by decide +kernel
theorem dL_law_45 : decode cL_law 45 = .ok (.iaload, 1) := by decide +kernel
theorem dL_law_46 : decode cL_law 46 = .ok (.bipush 15, 2) := by decide +kernel
theorem dL_law_48 : decode cL_law 48 = .ok (.iand, 1) := by decide +kernel
theorem dL_law_49 : decode cL_law 49 = .ok (.tableswitch 956 0 15 #[79, 163, 201, 257, 298, 354, 422, 484, 540, 608, 664, 762, 775, 831, 887, 900], 79) := by decide +kernel
theorem dL_law_128 : decode cL_law 128 = .ok (.aload_n 1, 1) := by decide +kernel
theorem dL_law_129 : decode cL_law 129 = .ok (.aload_n 0, 1) := by decide +kernel
theorem dL_law_130 : decode cL_law 130 = .ok (.iload 4, 2) := by decide +kernel
theorem dL_law_132 : decode cL_law 132 = .ok (.iconst 1, 1) := by decide +kernel
theorem dL_law_133 : decode cL_law 133 = .ok (.iadd, 1) := by decide +kernel
theorem dL_law_134 : decode cL_law 134 = .ok (.iaload, 1) := by decide +kernel
theorem dL_law_135 : decode cL_law 135 = .ok (.aload_n 0, 1) := by decide +kernel
theorem dL_law_136 : decode cL_law 136 = .ok (.iload 4, 2) := by decide +kernel
theorem dL_law_138 : decode cL_law 138 = .ok (.iconst 2, 1) := by decide +kernel
theorem dL_law_139 : decode cL_law 139 = .ok (.iadd, 1) := by decide +kernel
theorem dL_law_140 : decode cL_law 140 = .ok (.iaload, 1) := by decide +kernel
theorem dL_law_141 : decode cL_law 141 = .ok (.ifCond .eq 7, 3) := by decide +kernel
theorem dL_law_144 : decode cL_law 144 = .ok (.iconst 1, 1) := by decide +kernel
theorem dL_law_145 : decode cL_law 145 = .ok (.goto 4, 3) := by decide +kernel
theorem dL_law_148 : decode cL_law 148 = .ok (.iconst 0, 1) := by decide +kernel
theorem dL_law_149 : decode cL_law 149 = .ok (.aload_n 3, 1) := by decide +kernel
theorem dL_law_150 : decode cL_law 150 = .ok (.invokestatic 77, 3) := by decide +kernel
theorem dL_law_153 : decode cL_law 153 = .ok (.istore 5, 2) := by decide +kernel
theorem dL_law_155 : decode cL_law 155 = .ok (.aload_n 2, 1) := by decide +kernel
theorem dL_law_156 : decode cL_law 156 = .ok (.aload_n 0, 1) := by decide +kernel
theorem dL_law_157 : decode cL_law 157 = .ok (.iload 4, 2) := by decide +kernel
theorem dL_law_159 : decode cL_law 159 = .ok (.iconst 1, 1) := by decide +kernel
theorem dL_law_160 : decode cL_law 160 = .ok (.iadd, 1) := by decide +kernel
theorem dL_law_161 : decode cL_law 161 = .ok (.iaload, 1) := by decide +kernel
theorem dL_law_162 : decode cL_law 162 = .ok (.aload_n 0, 1) := by decide +kernel
theorem dL_law_163 : decode cL_law 163 = .ok (.iload 4, 2) := by decide +kernel
theorem dL_law_165 : decode cL_law 165 = .ok (.iconst 2, 1) := by decide +kernel
theorem dL_law_166 : decode cL_law 166 = .ok (.iadd, 1) := by decide +kernel
theorem dL_law_167 : decode cL_law 167 = .ok (.iaload, 1) := by decide +kernel
theorem dL_law_168 : decode cL_law 168 = .ok (.ifCond .eq 7, 3) := by decide +kernel
theorem dL_law_171 : decode cL_law 171 = .ok (.iconst 1, 1) := by decide +kernel
theorem dL_law_172 : decode cL_law 172 = .ok (.goto 4, 3) := by decide +kernel
theorem dL_law_175 : decode cL_law 175 = .ok (.iconst 0, 1) := by decide +kernel
theorem dL_law_176 : decode cL_law 176 = .ok (.invokevirtual 80, 3) := by decide +kernel
theorem dL_law_179 : decode cL_law 179 = .ok (.istore 6, 2) := by decide +kernel
theorem dL_law_181 : decode cL_law 181 = .ok (.aload_n 2, 1) := by decide +kernel
theorem dL_law_182 : decode cL_law 182 = .ok (.invokevirtual 81, 3) := by decide +kernel
theorem dL_law_185 : decode cL_law 185 = .ok (.iload 5, 2) := by decide +kernel
theorem dL_law_187 : decode cL_law 187 = .ok (.if_icmp .eq 5, 3) := by decide +kernel
theorem dL_law_190 : decode cL_law 190 = .ok (.iconst 0, 1) := by decide +kernel
theorem dL_law_191 : decode cL_law 191 = .ok (.ireturn, 1) := by decide +kernel
theorem dL_law_192 : decode cL_law 192 = .ok (.iload 5, 2) := by decide +kernel
theorem dL_law_194 : decode cL_law 194 = .ok (.ifCond .ne 15, 3) := by decide +kernel
theorem dL_law_197 : decode cL_law 197 = .ok (.aload_n 3, 1) := by decide +kernel
theorem dL_law_198 : decode cL_law 198 = .ok (.iconst 0, 1) := by decide +kernel
theorem dL_law_199 : decode cL_law 199 = .ok (.laload, 1) := by decide +kernel
theorem dL_law_200 : decode cL_law 200 = .ok (.iload 6, 2) := by decide +kernel
theorem dL_law_202 : decode cL_law 202 = .ok (.i2l, 1) := by decide +kernel
theorem dL_law_203 : decode cL_law 203 = .ok (.lcmp, 1) := by decide +kernel
theorem dL_law_204 : decode cL_law 204 = .ok (.ifCond .eq 5, 3) := by decide +kernel
theorem dL_law_207 : decode cL_law 207 = .ok (.iconst 0, 1) := by decide +kernel
theorem dL_law_208 : decode cL_law 208 = .ok (.ireturn, 1) := by decide +kernel
theorem dL_law_209 : decode cL_law 209 = .ok (.goto 796, 3) := by decide +kernel
theorem dL_law_212 : decode cL_law 212 = .ok (.aload_n 1, 1) := by decide +kernel
theorem dL_law_213 : decode cL_law 213 = .ok (.aload_n 0, 1) := by decide +kernel
theorem dL_law_214 : decode cL_law 214 = .ok (.iload 4, 2) := by decide +kernel
theorem dL_law_216 : decode cL_law 216 = .ok (.iconst 1, 1) := by decide +kernel
theorem dL_law_217 : decode cL_law 217 = .ok (.iadd, 1) := by decide +kernel
theorem dL_law_218 : decode cL_law 218 = .ok (.iaload, 1) := by decide +kernel
theorem dL_law_219 : decode cL_law 219 = .ok (.i2b, 1) := by decide +kernel
theorem dL_law_220 : decode cL_law 220 = .ok (.invokestatic 85, 3) := by decide +kernel
theorem dL_law_223 : decode cL_law 223 = .ok (.istore 5, 2) := by decide +kernel
theorem dL_law_225 : decode cL_law 225 = .ok (.aload_n 2, 1) := by decide +kernel
theorem dL_law_226 : decode cL_law 226 = .ok (.aload_n 0, 1) := by decide +kernel
theorem dL_law_227 : decode cL_law 227 = .ok (.iload 4, 2) := by decide +kernel
theorem dL_law_229 : decode cL_law 229 = .ok (.iconst 1, 1) := by decide +kernel
theorem dL_law_230 : decode cL_law 230 = .ok (.iadd, 1) := by decide +kernel
theorem dL_law_231 : decode cL_law 231 = .ok (.iaload, 1) := by decide +kernel
theorem dL_law_232 : decode cL_law 232 = .ok (.i2b, 1) := by decide +kernel
theorem dL_law_233 : decode cL_law 233 = .ok (.invokevirtual 88, 3) := by decide +kernel
theorem dL_law_236 : decode cL_law 236 = .ok (.aload_n 2, 1) := by decide +kernel
theorem dL_law_237 : decode cL_law 237 = .ok (.invokevirtual 81, 3) := by decide +kernel
theorem dL_law_240 : decode cL_law 240 = .ok (.iload 5, 2) := by decide +kernel
theorem dL_law_242 : decode cL_law 242 = .ok (.if_icmp .eq 5, 3) := by decide +kernel
theorem dL_law_245 : decode cL_law 245 = .ok (.iconst 0, 1) := by decide +kernel
theorem dL_law_246 : decode cL_law 246 = .ok (.ireturn, 1) := by decide +kernel
theorem dL_law_247 : decode cL_law 247 = .ok (.goto 758, 3) := by decide +kernel
theorem dL_law_250 : decode cL_law 250 = .ok (.aload_n 1, 1) := by decide +kernel
theorem dL_law_251 : decode cL_law 251 = .ok (.aload_n 0, 1) := by decide +kernel
theorem dL_law_252 : decode cL_law 252 = .ok (.iload 4, 2) := by decide +kernel
theorem dL_law_254 : decode cL_law 254 = .ok (.iconst 1, 1) := by decide +kernel
theorem dL_law_255 : decode cL_law 255 = .ok (.iadd, 1) := by decide +kernel
theorem dL_law_256 : decode cL_law 256 = .ok (.iaload, 1) := by decide +kernel
theorem dL_law_257 : decode cL_law 257 = .ok (.aload_n 3, 1) := by decide +kernel
theorem dL_law_258 : decode cL_law 258 = .ok (.invokestatic 89, 3) := by decide +kernel
theorem dL_law_261 : decode cL_law 261 = .ok (.istore 5, 2) := by decide +kernel
theorem dL_law_263 : decode cL_law 263 = .ok (.aload_n 2, 1) := by decide +kernel
theorem dL_law_264 : decode cL_law 264 = .ok (.aload_n 0, 1) := by decide +kernel
theorem dL_law_265 : decode cL_law 265 = .ok (.iload 4, 2) := by decide +kernel
theorem dL_law_267 : decode cL_law 267 = .ok (.iconst 1, 1) := by decide +kernel
theorem dL_law_268 : decode cL_law 268 = .ok (.iadd, 1) := by decide +kernel
theorem dL_law_269 : decode cL_law 269 = .ok (.iaload, 1) := by decide +kernel
theorem dL_law_270 : decode cL_law 270 = .ok (.invokevirtual 92, 3) := by decide +kernel
theorem dL_law_273 : decode cL_law 273 = .ok (.istore 6, 2) := by decide +kernel
theorem dL_law_275 : decode cL_law 275 = .ok (.aload_n 2, 1) := by decide +kernel
theorem dL_law_276 : decode cL_law 276 = .ok (.invokevirtual 81, 3) := by decide +kernel
theorem dL_law_279 : decode cL_law 279 = .ok (.iload 5, 2) := by decide +kernel
theorem dL_law_281 : decode cL_law 281 = .ok (.if_icmp .eq 5, 3) := by decide +kernel
theorem dL_law_284 : decode cL_law 284 = .ok (.iconst 0, 1) := by decide +kernel
theorem dL_law_285 : decode cL_law 285 = .ok (.ireturn, 1) := by decide +kernel
theorem dL_law_286 : decode cL_law 286 = .ok (.iload 5, 2) := by decide +kernel
theorem dL_law_288 : decode cL_law 288 = .ok (.ifCond .ne 15, 3) := by decide +kernel
theorem dL_law_291 : decode cL_law 291 = .ok (.aload_n 3, 1) := by decide +kernel
theorem dL_law_292 : decode cL_law 292 = .ok (.iconst 0, 1) := by decide +kernel
theorem dL_law_293 : decode cL_law 293 = .ok (.laload, 1) := by decide +kernel
theorem dL_law_294 : decode cL_law 294 = .ok (.iload 6, 2) := by decide +kernel
theorem dL_law_296 : decode cL_law 296 = .ok (.i2l, 1) := by decide +kernel
theorem dL_law_297 : decode cL_law 297 = .ok (.lcmp, 1) := by decide +kernel
theorem dL_law_298 : decode cL_law 298 = .ok (.ifCond .eq 5, 3) := by decide +kernel
theorem dL_law_301 : decode cL_law 301 = .ok (.iconst 0, 1) := by decide +kernel
theorem dL_law_302 : decode cL_law 302 = .ok (.ireturn, 1) := by decide +kernel
theorem dL_law_303 : decode cL_law 303 = .ok (.goto 702, 3) := by decide +kernel
theorem dL_law_306 : decode cL_law 306 = .ok (.aload_n 1, 1) := by decide +kernel
theorem dL_law_307 : decode cL_law 307 = .ok (.aload_n 0, 1) := by decide +kernel
theorem dL_law_308 : decode cL_law 308 = .ok (.iload 4, 2) := by decide +kernel
theorem dL_law_310 : decode cL_law 310 = .ok (.iconst 1, 1) := by decide +kernel
theorem dL_law_311 : decode cL_law 311 = .ok (.iadd, 1) := by decide +kernel
theorem dL_law_312 : decode cL_law 312 = .ok (.iaload, 1) := by decide +kernel
theorem dL_law_313 : decode cL_law 313 = .ok (.ifCond .eq 7, 3) := by decide +kernel
theorem dL_law_316 : decode cL_law 316 = .ok (.iconst 1, 1) := by decide +kernel
theorem dL_law_317 : decode cL_law 317 = .ok (.goto 4, 3) := by decide +kernel
theorem dL_law_320 : decode cL_law 320 = .ok (.iconst 0, 1) := by decide +kernel
theorem dL_law_321 : decode cL_law 321 = .ok (.invokevirtual 93, 3) := by decide +kernel
theorem dL_law_324 : decode cL_law 324 = .ok (.aload_n 2, 1) := by decide +kernel
theorem dL_law_325 : decode cL_law 325 = .ok (.aload_n 0, 1) := by decide +kernel
theorem dL_law_326 : decode cL_law 326 = .ok (.iload 4, 2) := by decide +kernel
theorem dL_law_328 : decode cL_law 328 = .ok (.iconst 1, 1) := by decide +kernel
theorem dL_law_329 : decode cL_law 329 = .ok (.iadd, 1) := by decide +kernel
theorem dL_law_330 : decode cL_law 330 = .ok (.iaload, 1) := by decide +kernel
theorem dL_law_331 : decode cL_law 331 = .ok (.ifCond .eq 7, 3) := by decide +kernel
theorem dL_law_334 : decode cL_law 334 = .ok (.iconst 1, 1) := by decide +kernel
theorem dL_law_335 : decode cL_law 335 = .ok (.goto 4, 3) := by decide +kernel
theorem dL_law_338 : decode cL_law 338 = .ok (.iconst 0, 1) := by decide +kernel
theorem dL_law_339 : decode cL_law 339 = .ok (.invokevirtual 97, 3) := by decide +kernel
theorem dL_law_342 : decode cL_law 342 = .ok (.if_icmp .eq 663, 3) := by decide +kernel
theorem dL_law_345 : decode cL_law 345 = .ok (.iconst 0, 1) := by decide +kernel
theorem dL_law_346 : decode cL_law 346 = .ok (.ireturn, 1) := by decide +kernel
theorem dL_law_347 : decode cL_law 347 = .ok (.aload_n 1, 1) := by decide +kernel
theorem dL_law_348 : decode cL_law 348 = .ok (.aload_n 0, 1) := by decide +kernel
theorem dL_law_349 : decode cL_law 349 = .ok (.iload 4, 2) := by decide +kernel
theorem dL_law_351 : decode cL_law 351 = .ok (.iconst 1, 1) := by decide +kernel
theorem dL_law_352 : decode cL_law 352 = .ok (.iadd, 1) := by decide +kernel
theorem dL_law_353 : decode cL_law 353 = .ok (.iaload, 1) := by decide +kernel
theorem dL_law_354 : decode cL_law 354 = .ok (.aload_n 3, 1) := by decide +kernel
theorem dL_law_355 : decode cL_law 355 = .ok (.invokestatic 98, 3) := by decide +kernel
theorem dL_law_358 : decode cL_law 358 = .ok (.istore 5, 2) := by decide +kernel
theorem dL_law_360 : decode cL_law 360 = .ok (.aload_n 2, 1) := by decide +kernel
theorem dL_law_361 : decode cL_law 361 = .ok (.aload_n 0, 1) := by decide +kernel
theorem dL_law_362 : decode cL_law 362 = .ok (.iload 4, 2) := by decide +kernel
theorem dL_law_364 : decode cL_law 364 = .ok (.iconst 1, 1) := by decide +kernel
theorem dL_law_365 : decode cL_law 365 = .ok (.iadd, 1) := by decide +kernel
theorem dL_law_366 : decode cL_law 366 = .ok (.iaload, 1) := by decide +kernel
theorem dL_law_367 : decode cL_law 367 = .ok (.invokevirtual 100, 3) := by decide +kernel
theorem dL_law_370 : decode cL_law 370 = .ok (.istore 6, 2) := by decide +kernel
theorem dL_law_372 : decode cL_law 372 = .ok (.aload_n 2, 1) := by decide +kernel
theorem dL_law_373 : decode cL_law 373 = .ok (.invokevirtual 81, 3) := by decide +kernel
theorem dL_law_376 : decode cL_law 376 = .ok (.iload 5, 2) := by decide +kernel
theorem dL_law_378 : decode cL_law 378 = .ok (.if_icmp .eq 5, 3) := by decide +kernel
theorem dL_law_381 : decode cL_law 381 = .ok (.iconst 0, 1) := by decide +kernel
theorem dL_law_382 : decode cL_law 382 = .ok (.ireturn, 1) := by decide +kernel
theorem dL_law_383 : decode cL_law 383 = .ok (.iload 5, 2) := by decide +kernel
theorem dL_law_385 : decode cL_law 385 = .ok (.ifCond .ne 15, 3) := by decide +kernel
theorem dL_law_388 : decode cL_law 388 = .ok (.aload_n 3, 1) := by decide +kernel
theorem dL_law_389 : decode cL_law 389 = .ok (.iconst 0, 1) := by decide +kernel
theorem dL_law_390 : decode cL_law 390 = .ok (.laload, 1) := by decide +kernel
theorem dL_law_391 : decode cL_law 391 = .ok (.iload 6, 2) := by decide +kernel
theorem dL_law_393 : decode cL_law 393 = .ok (.i2l, 1) := by decide +kernel
theorem dL_law_394 : decode cL_law 394 = .ok (.lcmp, 1) := by decide +kernel
theorem dL_law_395 : decode cL_law 395 = .ok (.ifCond .eq 5, 3) := by decide +kernel
theorem dL_law_398 : decode cL_law 398 = .ok (.iconst 0, 1) := by decide +kernel
theorem dL_law_399 : decode cL_law 399 = .ok (.ireturn, 1) := by decide +kernel
theorem dL_law_400 : decode cL_law 400 = .ok (.goto 605, 3) := by decide +kernel
theorem dL_law_403 : decode cL_law 403 = .ok (.aload_n 1, 1) := by decide +kernel
theorem dL_law_404 : decode cL_law 404 = .ok (.aload_n 0, 1) := by decide +kernel
theorem dL_law_405 : decode cL_law 405 = .ok (.iload 4, 2) := by decide +kernel
theorem dL_law_407 : decode cL_law 407 = .ok (.iconst 1, 1) := by decide +kernel
theorem dL_law_408 : decode cL_law 408 = .ok (.iadd, 1) := by decide +kernel
theorem dL_law_409 : decode cL_law 409 = .ok (.iaload, 1) := by decide +kernel
theorem dL_law_410 : decode cL_law 410 = .ok (.aload_n 0, 1) := by decide +kernel
theorem dL_law_411 : decode cL_law 411 = .ok (.iload 4, 2) := by decide +kernel
theorem dL_law_413 : decode cL_law 413 = .ok (.iconst 2, 1) := by decide +kernel
theorem dL_law_414 : decode cL_law 414 = .ok (.iadd, 1) := by decide +kernel
theorem dL_law_415 : decode cL_law 415 = .ok (.iaload, 1) := by decide +kernel
theorem dL_law_416 : decode cL_law 416 = .ok (.aload_n 3, 1) := by decide +kernel
theorem dL_law_417 : decode cL_law 417 = .ok (.invokestatic 101, 3) := by decide +kernel
theorem dL_law_420 : decode cL_law 420 = .ok (.istore 5, 2) := by decide +kernel
theorem dL_law_422 : decode cL_law 422 = .ok (.aload_n 2, 1) := by decide +kernel
theorem dL_law_423 : decode cL_law 423 = .ok (.aload_n 0, 1) := by decide +kernel
theorem dL_law_424 : decode cL_law 424 = .ok (.iload 4, 2) := by decide +kernel
theorem dL_law_426 : decode cL_law 426 = .ok (.iconst 1, 1) := by decide +kernel
theorem dL_law_427 : decode cL_law 427 = .ok (.iadd, 1) := by decide +kernel
theorem dL_law_428 : decode cL_law 428 = .ok (.iaload, 1) := by decide +kernel
theorem dL_law_429 : decode cL_law 429 = .ok (.aload_n 0, 1) := by decide +kernel
theorem dL_law_430 : decode cL_law 430 = .ok (.iload 4, 2) := by decide +kernel
theorem dL_law_432 : decode cL_law 432 = .ok (.iconst 2, 1) := by decide +kernel
theorem dL_law_433 : decode cL_law 433 = .ok (.iadd, 1) := by decide +kernel
theorem dL_law_434 : decode cL_law 434 = .ok (.iaload, 1) := by decide +kernel
theorem dL_law_435 : decode cL_law 435 = .ok (.invokevirtual 104, 3) := by decide +kernel
theorem dL_law_438 : decode cL_law 438 = .ok (.istore 6, 2) := by decide +kernel
theorem dL_law_440 : decode cL_law 440 = .ok (.aload_n 2, 1) := by decide +kernel
theorem dL_law_441 : decode cL_law 441 = .ok (.invokevirtual 81, 3) := by decide +kernel
theorem dL_law_444 : decode cL_law 444 = .ok (.iload 5, 2) := by decide +kernel
theorem dL_law_446 : decode cL_law 446 = .ok (.if_icmp .eq 5, 3) := by decide +kernel
theorem dL_law_449 : decode cL_law 449 = .ok (.iconst 0, 1) := by decide +kernel
theorem dL_law_450 : decode cL_law 450 = .ok (.ireturn, 1) := by decide +kernel
theorem dL_law_451 : decode cL_law 451 = .ok (.iload 5, 2) := by decide +kernel
theorem dL_law_453 : decode cL_law 453 = .ok (.ifCond .ne 15, 3) := by decide +kernel
theorem dL_law_456 : decode cL_law 456 = .ok (.aload_n 3, 1) := by decide +kernel
theorem dL_law_457 : decode cL_law 457 = .ok (.iconst 0, 1) := by decide +kernel
theorem dL_law_458 : decode cL_law 458 = .ok (.laload, 1) := by decide +kernel
theorem dL_law_459 : decode cL_law 459 = .ok (.iload 6, 2) := by decide +kernel
theorem dL_law_461 : decode cL_law 461 = .ok (.i2l, 1) := by decide +kernel
theorem dL_law_462 : decode cL_law 462 = .ok (.lcmp, 1) := by decide +kernel
theorem dL_law_463 : decode cL_law 463 = .ok (.ifCond .eq 5, 3) := by decide +kernel
theorem dL_law_466 : decode cL_law 466 = .ok (.iconst 0, 1) := by decide +kernel
theorem dL_law_467 : decode cL_law 467 = .ok (.ireturn, 1) := by decide +kernel
theorem dL_law_468 : decode cL_law 468 = .ok (.goto 537, 3) := by decide +kernel
theorem dL_law_471 : decode cL_law 471 = .ok (.aload_n 1, 1) := by decide +kernel
theorem dL_law_472 : decode cL_law 472 = .ok (.aload_n 0, 1) := by decide +kernel
theorem dL_law_473 : decode cL_law 473 = .ok (.iload 4, 2) := by decide +kernel
theorem dL_law_475 : decode cL_law 475 = .ok (.iconst 1, 1) := by decide +kernel
theorem dL_law_476 : decode cL_law 476 = .ok (.iadd, 1) := by decide +kernel
theorem dL_law_477 : decode cL_law 477 = .ok (.iaload, 1) := by decide +kernel
theorem dL_law_478 : decode cL_law 478 = .ok (.aload_n 0, 1) := by decide +kernel
theorem dL_law_479 : decode cL_law 479 = .ok (.iload 4, 2) := by decide +kernel
theorem dL_law_481 : decode cL_law 481 = .ok (.iconst 2, 1) := by decide +kernel
theorem dL_law_482 : decode cL_law 482 = .ok (.iadd, 1) := by decide +kernel
theorem dL_law_483 : decode cL_law 483 = .ok (.iaload, 1) := by decide +kernel
theorem dL_law_484 : decode cL_law 484 = .ok (.aload_n 0, 1) := by decide +kernel
theorem dL_law_485 : decode cL_law 485 = .ok (.iload 4, 2) := by decide +kernel
theorem dL_law_487 : decode cL_law 487 = .ok (.iconst 3, 1) := by decide +kernel
theorem dL_law_488 : decode cL_law 488 = .ok (.iadd, 1) := by decide +kernel
theorem dL_law_489 : decode cL_law 489 = .ok (.iaload, 1) := by decide +kernel
theorem dL_law_490 : decode cL_law 490 = .ok (.i2b, 1) := by decide +kernel
theorem dL_law_491 : decode cL_law 491 = .ok (.invokestatic 105, 3) := by decide +kernel
theorem dL_law_494 : decode cL_law 494 = .ok (.istore 5, 2) := by decide +kernel
theorem dL_law_496 : decode cL_law 496 = .ok (.aload_n 2, 1) := by decide +kernel
theorem dL_law_497 : decode cL_law 497 = .ok (.aload_n 0, 1) := by decide +kernel
theorem dL_law_498 : decode cL_law 498 = .ok (.iload 4, 2) := by decide +kernel
theorem dL_law_500 : decode cL_law 500 = .ok (.iconst 1, 1) := by decide +kernel
theorem dL_law_501 : decode cL_law 501 = .ok (.iadd, 1) := by decide +kernel
theorem dL_law_502 : decode cL_law 502 = .ok (.iaload, 1) := by decide +kernel
theorem dL_law_503 : decode cL_law 503 = .ok (.aload_n 0, 1) := by decide +kernel
theorem dL_law_504 : decode cL_law 504 = .ok (.iload 4, 2) := by decide +kernel
theorem dL_law_506 : decode cL_law 506 = .ok (.iconst 2, 1) := by decide +kernel
theorem dL_law_507 : decode cL_law 507 = .ok (.iadd, 1) := by decide +kernel
theorem dL_law_508 : decode cL_law 508 = .ok (.iaload, 1) := by decide +kernel
theorem dL_law_509 : decode cL_law 509 = .ok (.aload_n 0, 1) := by decide +kernel
theorem dL_law_510 : decode cL_law 510 = .ok (.iload 4, 2) := by decide +kernel
theorem dL_law_512 : decode cL_law 512 = .ok (.iconst 3, 1) := by decide +kernel
theorem dL_law_513 : decode cL_law 513 = .ok (.iadd, 1) := by decide +kernel
theorem dL_law_514 : decode cL_law 514 = .ok (.iaload, 1) := by decide +kernel
theorem dL_law_515 : decode cL_law 515 = .ok (.i2b, 1) := by decide +kernel
theorem dL_law_516 : decode cL_law 516 = .ok (.invokevirtual 108, 3) := by decide +kernel
theorem dL_law_519 : decode cL_law 519 = .ok (.aload_n 2, 1) := by decide +kernel
theorem dL_law_520 : decode cL_law 520 = .ok (.invokevirtual 81, 3) := by decide +kernel
theorem dL_law_523 : decode cL_law 523 = .ok (.iload 5, 2) := by decide +kernel
theorem dL_law_525 : decode cL_law 525 = .ok (.if_icmp .eq 5, 3) := by decide +kernel
theorem dL_law_528 : decode cL_law 528 = .ok (.iconst 0, 1) := by decide +kernel
theorem dL_law_529 : decode cL_law 529 = .ok (.ireturn, 1) := by decide +kernel
theorem dL_law_530 : decode cL_law 530 = .ok (.goto 475, 3) := by decide +kernel
theorem dL_law_533 : decode cL_law 533 = .ok (.aload_n 1, 1) := by decide +kernel
theorem dL_law_534 : decode cL_law 534 = .ok (.aload_n 0, 1) := by decide +kernel
theorem dL_law_535 : decode cL_law 535 = .ok (.iload 4, 2) := by decide +kernel
theorem dL_law_537 : decode cL_law 537 = .ok (.iconst 1, 1) := by decide +kernel
theorem dL_law_538 : decode cL_law 538 = .ok (.iadd, 1) := by decide +kernel
theorem dL_law_539 : decode cL_law 539 = .ok (.iaload, 1) := by decide +kernel
theorem dL_law_540 : decode cL_law 540 = .ok (.aload_n 3, 1) := by decide +kernel
theorem dL_law_541 : decode cL_law 541 = .ok (.invokestatic 109, 3) := by decide +kernel
theorem dL_law_544 : decode cL_law 544 = .ok (.istore 5, 2) := by decide +kernel
theorem dL_law_546 : decode cL_law 546 = .ok (.aload_n 2, 1) := by decide +kernel
theorem dL_law_547 : decode cL_law 547 = .ok (.aload_n 0, 1) := by decide +kernel
theorem dL_law_548 : decode cL_law 548 = .ok (.iload 4, 2) := by decide +kernel
theorem dL_law_550 : decode cL_law 550 = .ok (.iconst 1, 1) := by decide +kernel
theorem dL_law_551 : decode cL_law 551 = .ok (.iadd, 1) := by decide +kernel
theorem dL_law_552 : decode cL_law 552 = .ok (.iaload, 1) := by decide +kernel
theorem dL_law_553 : decode cL_law 553 = .ok (.invokevirtual 111, 3) := by decide +kernel
theorem dL_law_556 : decode cL_law 556 = .ok (.istore 6, 2) := by decide +kernel
theorem dL_law_558 : decode cL_law 558 = .ok (.aload_n 2, 1) := by decide +kernel
theorem dL_law_559 : decode cL_law 559 = .ok (.invokevirtual 81, 3) := by decide +kernel
theorem dL_law_562 : decode cL_law 562 = .ok (.iload 5, 2) := by decide +kernel
theorem dL_law_564 : decode cL_law 564 = .ok (.if_icmp .eq 5, 3) := by decide +kernel
theorem dL_law_567 : decode cL_law 567 = .ok (.iconst 0, 1) := by decide +kernel
theorem dL_law_568 : decode cL_law 568 = .ok (.ireturn, 1) := by decide +kernel
theorem dL_law_569 : decode cL_law 569 = .ok (.iload 5, 2) := by decide +kernel
theorem dL_law_571 : decode cL_law 571 = .ok (.ifCond .ne 15, 3) := by decide +kernel
theorem dL_law_574 : decode cL_law 574 = .ok (.aload_n 3, 1) := by decide +kernel
theorem dL_law_575 : decode cL_law 575 = .ok (.iconst 0, 1) := by decide +kernel
theorem dL_law_576 : decode cL_law 576 = .ok (.laload, 1) := by decide +kernel
theorem dL_law_577 : decode cL_law 577 = .ok (.iload 6, 2) := by decide +kernel
theorem dL_law_579 : decode cL_law 579 = .ok (.i2l, 1) := by decide +kernel
theorem dL_law_580 : decode cL_law 580 = .ok (.lcmp, 1) := by decide +kernel
theorem dL_law_581 : decode cL_law 581 = .ok (.ifCond .eq 5, 3) := by decide +kernel
theorem dL_law_584 : decode cL_law 584 = .ok (.iconst 0, 1) := by decide +kernel
theorem dL_law_585 : decode cL_law 585 = .ok (.ireturn, 1) := by decide +kernel
theorem dL_law_586 : decode cL_law 586 = .ok (.goto 419, 3) := by decide +kernel
theorem dL_law_589 : decode cL_law 589 = .ok (.aload_n 1, 1) := by decide +kernel
theorem dL_law_590 : decode cL_law 590 = .ok (.aload_n 0, 1) := by decide +kernel
theorem dL_law_591 : decode cL_law 591 = .ok (.iload 4, 2) := by decide +kernel
theorem dL_law_593 : decode cL_law 593 = .ok (.iconst 1, 1) := by decide +kernel
theorem dL_law_594 : decode cL_law 594 = .ok (.iadd, 1) := by decide +kernel
theorem dL_law_595 : decode cL_law 595 = .ok (.iaload, 1) := by decide +kernel
theorem dL_law_596 : decode cL_law 596 = .ok (.aload_n 0, 1) := by decide +kernel
theorem dL_law_597 : decode cL_law 597 = .ok (.iload 4, 2) := by decide +kernel
theorem dL_law_599 : decode cL_law 599 = .ok (.iconst 2, 1) := by decide +kernel
theorem dL_law_600 : decode cL_law 600 = .ok (.iadd, 1) := by decide +kernel
theorem dL_law_601 : decode cL_law 601 = .ok (.iaload, 1) := by decide +kernel
theorem dL_law_602 : decode cL_law 602 = .ok (.aload_n 3, 1) := by decide +kernel
theorem dL_law_603 : decode cL_law 603 = .ok (.invokestatic 112, 3) := by decide +kernel
theorem dL_law_606 : decode cL_law 606 = .ok (.istore 5, 2) := by decide +kernel
theorem dL_law_608 : decode cL_law 608 = .ok (.aload_n 2, 1) := by decide +kernel
theorem dL_law_609 : decode cL_law 609 = .ok (.aload_n 0, 1) := by decide +kernel
theorem dL_law_610 : decode cL_law 610 = .ok (.iload 4, 2) := by decide +kernel
theorem dL_law_612 : decode cL_law 612 = .ok (.iconst 1, 1) := by decide +kernel
theorem dL_law_613 : decode cL_law 613 = .ok (.iadd, 1) := by decide +kernel
theorem dL_law_614 : decode cL_law 614 = .ok (.iaload, 1) := by decide +kernel
theorem dL_law_615 : decode cL_law 615 = .ok (.aload_n 0, 1) := by decide +kernel
theorem dL_law_616 : decode cL_law 616 = .ok (.iload 4, 2) := by decide +kernel
theorem dL_law_618 : decode cL_law 618 = .ok (.iconst 2, 1) := by decide +kernel
theorem dL_law_619 : decode cL_law 619 = .ok (.iadd, 1) := by decide +kernel
theorem dL_law_620 : decode cL_law 620 = .ok (.iaload, 1) := by decide +kernel
theorem dL_law_621 : decode cL_law 621 = .ok (.invokevirtual 114, 3) := by decide +kernel
theorem dL_law_624 : decode cL_law 624 = .ok (.istore 6, 2) := by decide +kernel
theorem dL_law_626 : decode cL_law 626 = .ok (.aload_n 2, 1) := by decide +kernel
theorem dL_law_627 : decode cL_law 627 = .ok (.invokevirtual 81, 3) := by decide +kernel
theorem dL_law_630 : decode cL_law 630 = .ok (.iload 5, 2) := by decide +kernel
theorem dL_law_632 : decode cL_law 632 = .ok (.if_icmp .eq 5, 3) := by decide +kernel
theorem dL_law_635 : decode cL_law 635 = .ok (.iconst 0, 1) := by decide +kernel
theorem dL_law_636 : decode cL_law 636 = .ok (.ireturn, 1) := by decide +kernel
theorem dL_law_637 : decode cL_law 637 = .ok (.iload 5, 2) := by decide +kernel
theorem dL_law_639 : decode cL_law 639 = .ok (.ifCond .ne 15, 3) := by decide +kernel
theorem dL_law_642 : decode cL_law 642 = .ok (.aload_n 3, 1) := by decide +kernel
theorem dL_law_643 : decode cL_law 643 = .ok (.iconst 0, 1) := by decide +kernel
theorem dL_law_644 : decode cL_law 644 = .ok (.laload, 1) := by decide +kernel
theorem dL_law_645 : decode cL_law 645 = .ok (.iload 6, 2) := by decide +kernel
theorem dL_law_647 : decode cL_law 647 = .ok (.i2l, 1) := by decide +kernel
theorem dL_law_648 : decode cL_law 648 = .ok (.lcmp, 1) := by decide +kernel
theorem dL_law_649 : decode cL_law 649 = .ok (.ifCond .eq 5, 3) := by decide +kernel
theorem dL_law_652 : decode cL_law 652 = .ok (.iconst 0, 1) := by decide +kernel
theorem dL_law_653 : decode cL_law 653 = .ok (.ireturn, 1) := by decide +kernel
theorem dL_law_654 : decode cL_law 654 = .ok (.goto 351, 3) := by decide +kernel
theorem dL_law_657 : decode cL_law 657 = .ok (.aload_n 1, 1) := by decide +kernel
theorem dL_law_658 : decode cL_law 658 = .ok (.aload_n 0, 1) := by decide +kernel
theorem dL_law_659 : decode cL_law 659 = .ok (.iload 4, 2) := by decide +kernel
theorem dL_law_661 : decode cL_law 661 = .ok (.iconst 1, 1) := by decide +kernel
theorem dL_law_662 : decode cL_law 662 = .ok (.iadd, 1) := by decide +kernel
theorem dL_law_663 : decode cL_law 663 = .ok (.iaload, 1) := by decide +kernel
theorem dL_law_664 : decode cL_law 664 = .ok (.aload_n 3, 1) := by decide +kernel
theorem dL_law_665 : decode cL_law 665 = .ok (.invokestatic 115, 3) := by decide +kernel
theorem dL_law_668 : decode cL_law 668 = .ok (.istore 5, 2) := by decide +kernel
theorem dL_law_670 : decode cL_law 670 = .ok (.aload_n 2, 1) := by decide +kernel
theorem dL_law_671 : decode cL_law 671 = .ok (.aload_n 0, 1) := by decide +kernel
theorem dL_law_672 : decode cL_law 672 = .ok (.iload 4, 2) := by decide +kernel
theorem dL_law_674 : decode cL_law 674 = .ok (.iconst 1, 1) := by decide +kernel
theorem dL_law_675 : decode cL_law 675 = .ok (.iadd, 1) := by decide +kernel
theorem dL_law_676 : decode cL_law 676 = .ok (.iaload, 1) := by decide +kernel
theorem dL_law_677 : decode cL_law 677 = .ok (.invokevirtual 117, 3) := by decide +kernel
theorem dL_law_680 : decode cL_law 680 = .ok (.istore 6, 2) := by decide +kernel
theorem dL_law_682 : decode cL_law 682 = .ok (.aload_n 2, 1) := by decide +kernel
theorem dL_law_683 : decode cL_law 683 = .ok (.invokevirtual 81, 3) := by decide +kernel
theorem dL_law_686 : decode cL_law 686 = .ok (.iload 5, 2) := by decide +kernel
theorem dL_law_688 : decode cL_law 688 = .ok (.if_icmp .eq 5, 3) := by decide +kernel
theorem dL_law_691 : decode cL_law 691 = .ok (.iconst 0, 1) := by decide +kernel
theorem dL_law_692 : decode cL_law 692 = .ok (.ireturn, 1) := by decide +kernel
theorem dL_law_693 : decode cL_law 693 = .ok (.iload 5, 2) := by decide +kernel
theorem dL_law_695 : decode cL_law 695 = .ok (.ifCond .ne 15, 3) := by decide +kernel
theorem dL_law_698 : decode cL_law 698 = .ok (.aload_n 3, 1) := by decide +kernel
theorem dL_law_699 : decode cL_law 699 = .ok (.iconst 0, 1) := by decide +kernel
theorem dL_law_700 : decode cL_law 700 = .ok (.laload, 1) := by decide +kernel
theorem dL_law_701 : decode cL_law 701 = .ok (.iload 6, 2) := by decide +kernel
theorem dL_law_703 : decode cL_law 703 = .ok (.i2l, 1) := by decide +kernel
theorem dL_law_704 : decode cL_law 704 = .ok (.lcmp, 1) := by decide +kernel
theorem dL_law_705 : decode cL_law 705 = .ok (.ifCond .eq 5, 3) := by decide +kernel
theorem dL_law_708 : decode cL_law 708 = .ok (.iconst 0, 1) := by decide +kernel
theorem dL_law_709 : decode cL_law 709 = .ok (.ireturn, 1) := by decide +kernel
theorem dL_law_710 : decode cL_law 710 = .ok (.goto 295, 3) := by decide +kernel
theorem dL_law_713 : decode cL_law 713 = .ok (.aload_n 1, 1) := by decide +kernel
theorem dL_law_714 : decode cL_law 714 = .ok (.aload_n 0, 1) := by decide +kernel
theorem dL_law_715 : decode cL_law 715 = .ok (.iload 4, 2) := by decide +kernel
theorem dL_law_717 : decode cL_law 717 = .ok (.iconst 1, 1) := by decide +kernel
theorem dL_law_718 : decode cL_law 718 = .ok (.iadd, 1) := by decide +kernel
theorem dL_law_719 : decode cL_law 719 = .ok (.iaload, 1) := by decide +kernel
theorem dL_law_720 : decode cL_law 720 = .ok (.aload_n 0, 1) := by decide +kernel
theorem dL_law_721 : decode cL_law 721 = .ok (.iload 4, 2) := by decide +kernel
theorem dL_law_723 : decode cL_law 723 = .ok (.iconst 2, 1) := by decide +kernel
theorem dL_law_724 : decode cL_law 724 = .ok (.iadd, 1) := by decide +kernel
theorem dL_law_725 : decode cL_law 725 = .ok (.iaload, 1) := by decide +kernel
theorem dL_law_726 : decode cL_law 726 = .ok (.ifCond .eq 7, 3) := by decide +kernel
theorem dL_law_729 : decode cL_law 729 = .ok (.iconst 1, 1) := by decide +kernel
theorem dL_law_730 : decode cL_law 730 = .ok (.goto 4, 3) := by decide +kernel
theorem dL_law_733 : decode cL_law 733 = .ok (.iconst 0, 1) := by decide +kernel
theorem dL_law_734 : decode cL_law 734 = .ok (.aload_n 0, 1) := by decide +kernel
theorem dL_law_735 : decode cL_law 735 = .ok (.iload 4, 2) := by decide +kernel
theorem dL_law_737 : decode cL_law 737 = .ok (.iconst 3, 1) := by decide +kernel
theorem dL_law_738 : decode cL_law 738 = .ok (.iadd, 1) := by decide +kernel
theorem dL_law_739 : decode cL_law 739 = .ok (.iaload, 1) := by decide +kernel
theorem dL_law_740 : decode cL_law 740 = .ok (.i2b, 1) := by decide +kernel
theorem dL_law_741 : decode cL_law 741 = .ok (.aload_n 3, 1) := by decide +kernel
theorem dL_law_742 : decode cL_law 742 = .ok (.invokestatic 118, 3) := by decide +kernel
theorem dL_law_745 : decode cL_law 745 = .ok (.istore 5, 2) := by decide +kernel
theorem dL_law_747 : decode cL_law 747 = .ok (.aload_n 2, 1) := by decide +kernel
theorem dL_law_748 : decode cL_law 748 = .ok (.aload_n 0, 1) := by decide +kernel
theorem dL_law_749 : decode cL_law 749 = .ok (.iload 4, 2) := by decide +kernel
theorem dL_law_751 : decode cL_law 751 = .ok (.iconst 1, 1) := by decide +kernel
theorem dL_law_752 : decode cL_law 752 = .ok (.iadd, 1) := by decide +kernel
theorem dL_law_753 : decode cL_law 753 = .ok (.iaload, 1) := by decide +kernel
theorem dL_law_754 : decode cL_law 754 = .ok (.aload_n 0, 1) := by decide +kernel
theorem dL_law_755 : decode cL_law 755 = .ok (.iload 4, 2) := by decide +kernel
theorem dL_law_757 : decode cL_law 757 = .ok (.iconst 2, 1) := by decide +kernel
theorem dL_law_758 : decode cL_law 758 = .ok (.iadd, 1) := by decide +kernel
theorem dL_law_759 : decode cL_law 759 = .ok (.iaload, 1) := by decide +kernel
theorem dL_law_760 : decode cL_law 760 = .ok (.ifCond .eq 7, 3) := by decide +kernel
theorem dL_law_763 : decode cL_law 763 = .ok (.iconst 1, 1) := by decide +kernel
theorem dL_law_764 : decode cL_law 764 = .ok (.goto 4, 3) := by decide +kernel
theorem dL_law_767 : decode cL_law 767 = .ok (.iconst 0, 1) := by decide +kernel
theorem dL_law_768 : decode cL_law 768 = .ok (.aload_n 0, 1) := by decide +kernel
theorem dL_law_769 : decode cL_law 769 = .ok (.iload 4, 2) := by decide +kernel
theorem dL_law_771 : decode cL_law 771 = .ok (.iconst 3, 1) := by decide +kernel
theorem dL_law_772 : decode cL_law 772 = .ok (.iadd, 1) := by decide +kernel
theorem dL_law_773 : decode cL_law 773 = .ok (.iaload, 1) := by decide +kernel
theorem dL_law_774 : decode cL_law 774 = .ok (.i2b, 1) := by decide +kernel
theorem dL_law_775 : decode cL_law 775 = .ok (.invokevirtual 121, 3) := by decide +kernel
theorem dL_law_778 : decode cL_law 778 = .ok (.istore 6, 2) := by decide +kernel
theorem dL_law_780 : decode cL_law 780 = .ok (.aload_n 2, 1) := by decide +kernel
theorem dL_law_781 : decode cL_law 781 = .ok (.invokevirtual 81, 3) := by decide +kernel
theorem dL_law_784 : decode cL_law 784 = .ok (.iload 5, 2) := by decide +kernel
theorem dL_law_786 : decode cL_law 786 = .ok (.if_icmp .eq 5, 3) := by decide +kernel
theorem dL_law_789 : decode cL_law 789 = .ok (.iconst 0, 1) := by decide +kernel
theorem dL_law_790 : decode cL_law 790 = .ok (.ireturn, 1) := by decide +kernel
theorem dL_law_791 : decode cL_law 791 = .ok (.iload 5, 2) := by decide +kernel
theorem dL_law_793 : decode cL_law 793 = .ok (.ifCond .ne 15, 3) := by decide +kernel
theorem dL_law_796 : decode cL_law 796 = .ok (.aload_n 3, 1) := by decide +kernel
theorem dL_law_797 : decode cL_law 797 = .ok (.iconst 0, 1) := by decide +kernel
theorem dL_law_798 : decode cL_law 798 = .ok (.laload, 1) := by decide +kernel
theorem dL_law_799 : decode cL_law 799 = .ok (.iload 6, 2) := by decide +kernel
theorem dL_law_801 : decode cL_law 801 = .ok (.i2l, 1) := by decide +kernel
theorem dL_law_802 : decode cL_law 802 = .ok (.lcmp, 1) := by decide +kernel
theorem dL_law_803 : decode cL_law 803 = .ok (.ifCond .eq 5, 3) := by decide +kernel
theorem dL_law_806 : decode cL_law 806 = .ok (.iconst 0, 1) := by decide +kernel
theorem dL_law_807 : decode cL_law 807 = .ok (.ireturn, 1) := by decide +kernel
theorem dL_law_808 : decode cL_law 808 = .ok (.goto 197, 3) := by decide +kernel
theorem dL_law_811 : decode cL_law 811 = .ok (.aload_n 1, 1) := by decide +kernel
theorem dL_law_812 : decode cL_law 812 = .ok (.invokevirtual 122, 3) := by decide +kernel
theorem dL_law_815 : decode cL_law 815 = .ok (.aload_n 2, 1) := by decide +kernel
theorem dL_law_816 : decode cL_law 816 = .ok (.invokevirtual 125, 3) := by decide +kernel
theorem dL_law_819 : decode cL_law 819 = .ok (.if_icmp .eq 186, 3) := by decide +kernel
theorem dL_law_822 : decode cL_law 822 = .ok (.iconst 0, 1) := by decide +kernel
theorem dL_law_823 : decode cL_law 823 = .ok (.ireturn, 1) := by decide +kernel
theorem dL_law_824 : decode cL_law 824 = .ok (.aload_n 1, 1) := by decide +kernel
theorem dL_law_825 : decode cL_law 825 = .ok (.aload_n 0, 1) := by decide +kernel
theorem dL_law_826 : decode cL_law 826 = .ok (.iload 4, 2) := by decide +kernel
theorem dL_law_828 : decode cL_law 828 = .ok (.iconst 1, 1) := by decide +kernel
theorem dL_law_829 : decode cL_law 829 = .ok (.iadd, 1) := by decide +kernel
theorem dL_law_830 : decode cL_law 830 = .ok (.iaload, 1) := by decide +kernel
theorem dL_law_831 : decode cL_law 831 = .ok (.aload_n 3, 1) := by decide +kernel
theorem dL_law_832 : decode cL_law 832 = .ok (.invokestatic 126, 3) := by decide +kernel
theorem dL_law_835 : decode cL_law 835 = .ok (.istore 5, 2) := by decide +kernel
theorem dL_law_837 : decode cL_law 837 = .ok (.aload_n 2, 1) := by decide +kernel
theorem dL_law_838 : decode cL_law 838 = .ok (.aload_n 0, 1) := by decide +kernel
theorem dL_law_839 : decode cL_law 839 = .ok (.iload 4, 2) := by decide +kernel
theorem dL_law_841 : decode cL_law 841 = .ok (.iconst 1, 1) := by decide +kernel
theorem dL_law_842 : decode cL_law 842 = .ok (.iadd, 1) := by decide +kernel
theorem dL_law_843 : decode cL_law 843 = .ok (.iaload, 1) := by decide +kernel
theorem dL_law_844 : decode cL_law 844 = .ok (.invokevirtual 128, 3) := by decide +kernel
theorem dL_law_847 : decode cL_law 847 = .ok (.istore 6, 2) := by decide +kernel
theorem dL_law_849 : decode cL_law 849 = .ok (.aload_n 2, 1) := by decide +kernel
theorem dL_law_850 : decode cL_law 850 = .ok (.invokevirtual 81, 3) := by decide +kernel
theorem dL_law_853 : decode cL_law 853 = .ok (.iload 5, 2) := by decide +kernel
theorem dL_law_855 : decode cL_law 855 = .ok (.if_icmp .eq 5, 3) := by decide +kernel
theorem dL_law_858 : decode cL_law 858 = .ok (.iconst 0, 1) := by decide +kernel
theorem dL_law_859 : decode cL_law 859 = .ok (.ireturn, 1) := by decide +kernel
theorem dL_law_860 : decode cL_law 860 = .ok (.iload 5, 2) := by decide +kernel
theorem dL_law_862 : decode cL_law 862 = .ok (.ifCond .ne 15, 3) := by decide +kernel
theorem dL_law_865 : decode cL_law 865 = .ok (.aload_n 3, 1) := by decide +kernel
theorem dL_law_866 : decode cL_law 866 = .ok (.iconst 0, 1) := by decide +kernel
theorem dL_law_867 : decode cL_law 867 = .ok (.laload, 1) := by decide +kernel
theorem dL_law_868 : decode cL_law 868 = .ok (.iload 6, 2) := by decide +kernel
theorem dL_law_870 : decode cL_law 870 = .ok (.i2l, 1) := by decide +kernel
theorem dL_law_871 : decode cL_law 871 = .ok (.lcmp, 1) := by decide +kernel
theorem dL_law_872 : decode cL_law 872 = .ok (.ifCond .eq 5, 3) := by decide +kernel
theorem dL_law_875 : decode cL_law 875 = .ok (.iconst 0, 1) := by decide +kernel
theorem dL_law_876 : decode cL_law 876 = .ok (.ireturn, 1) := by decide +kernel
theorem dL_law_877 : decode cL_law 877 = .ok (.goto 128, 3) := by decide +kernel
theorem dL_law_880 : decode cL_law 880 = .ok (.aload_n 1, 1) := by decide +kernel
theorem dL_law_881 : decode cL_law 881 = .ok (.aload_n 0, 1) := by decide +kernel
theorem dL_law_882 : decode cL_law 882 = .ok (.iload 4, 2) := by decide +kernel
theorem dL_law_884 : decode cL_law 884 = .ok (.iconst 1, 1) := by decide +kernel
theorem dL_law_885 : decode cL_law 885 = .ok (.iadd, 1) := by decide +kernel
theorem dL_law_886 : decode cL_law 886 = .ok (.iaload, 1) := by decide +kernel
theorem dL_law_887 : decode cL_law 887 = .ok (.aload_n 3, 1) := by decide +kernel
theorem dL_law_888 : decode cL_law 888 = .ok (.invokestatic 129, 3) := by decide +kernel
theorem dL_law_891 : decode cL_law 891 = .ok (.istore 5, 2) := by decide +kernel
theorem dL_law_893 : decode cL_law 893 = .ok (.aload_n 2, 1) := by decide +kernel
theorem dL_law_894 : decode cL_law 894 = .ok (.aload_n 0, 1) := by decide +kernel
theorem dL_law_895 : decode cL_law 895 = .ok (.iload 4, 2) := by decide +kernel
theorem dL_law_897 : decode cL_law 897 = .ok (.iconst 1, 1) := by decide +kernel
theorem dL_law_898 : decode cL_law 898 = .ok (.iadd, 1) := by decide +kernel
theorem dL_law_899 : decode cL_law 899 = .ok (.iaload, 1) := by decide +kernel
theorem dL_law_900 : decode cL_law 900 = .ok (.invokevirtual 131, 3) := by decide +kernel
theorem dL_law_903 : decode cL_law 903 = .ok (.istore 6, 2) := by decide +kernel
theorem dL_law_905 : decode cL_law 905 = .ok (.aload_n 2, 1) := by decide +kernel
theorem dL_law_906 : decode cL_law 906 = .ok (.invokevirtual 81, 3) := by decide +kernel
theorem dL_law_909 : decode cL_law 909 = .ok (.iload 5, 2) := by decide +kernel
theorem dL_law_911 : decode cL_law 911 = .ok (.if_icmp .eq 5, 3) := by decide +kernel
theorem dL_law_914 : decode cL_law 914 = .ok (.iconst 0, 1) := by decide +kernel
theorem dL_law_915 : decode cL_law 915 = .ok (.ireturn, 1) := by decide +kernel
theorem dL_law_916 : decode cL_law 916 = .ok (.iload 5, 2) := by decide +kernel
theorem dL_law_918 : decode cL_law 918 = .ok (.ifCond .ne 15, 3) := by decide +kernel
theorem dL_law_921 : decode cL_law 921 = .ok (.aload_n 3, 1) := by decide +kernel
theorem dL_law_922 : decode cL_law 922 = .ok (.iconst 0, 1) := by decide +kernel
theorem dL_law_923 : decode cL_law 923 = .ok (.laload, 1) := by decide +kernel
theorem dL_law_924 : decode cL_law 924 = .ok (.iload 6, 2) := by decide +kernel
theorem dL_law_926 : decode cL_law 926 = .ok (.i2l, 1) := by decide +kernel
theorem dL_law_927 : decode cL_law 927 = .ok (.lcmp, 1) := by decide +kernel
theorem dL_law_928 : decode cL_law 928 = .ok (.ifCond .eq 5, 3) := by decide +kernel
theorem dL_law_931 : decode cL_law 931 = .ok (.iconst 0, 1) := by decide +kernel
theorem dL_law_932 : decode cL_law 932 = .ok (.ireturn, 1) := by decide +kernel
theorem dL_law_933 : decode cL_law 933 = .ok (.goto 72, 3) := by decide +kernel
theorem dL_law_936 : decode cL_law 936 = .ok (.aload_n 1, 1) := by decide +kernel
theorem dL_law_937 : decode cL_law 937 = .ok (.invokevirtual 132, 3) := by decide +kernel
theorem dL_law_940 : decode cL_law 940 = .ok (.aload_n 2, 1) := by decide +kernel
theorem dL_law_941 : decode cL_law 941 = .ok (.invokevirtual 136, 3) := by decide +kernel
theorem dL_law_944 : decode cL_law 944 = .ok (.if_icmp .eq 61, 3) := by decide +kernel
theorem dL_law_947 : decode cL_law 947 = .ok (.iconst 0, 1) := by decide +kernel
theorem dL_law_948 : decode cL_law 948 = .ok (.ireturn, 1) := by decide +kernel
theorem dL_law_949 : decode cL_law 949 = .ok (.aload_n 1, 1) := by decide +kernel
theorem dL_law_950 : decode cL_law 950 = .ok (.aload_n 0, 1) := by decide +kernel
theorem dL_law_951 : decode cL_law 951 = .ok (.iload 4, 2) := by decide +kernel
theorem dL_law_953 : decode cL_law 953 = .ok (.iconst 1, 1) := by decide +kernel
theorem dL_law_954 : decode cL_law 954 = .ok (.iadd, 1) := by decide +kernel
theorem dL_law_955 : decode cL_law 955 = .ok (.iaload, 1) := by decide +kernel
theorem dL_law_956 : decode cL_law 956 = .ok (.aload_n 3, 1) := by decide +kernel
theorem dL_law_957 : decode cL_law 957 = .ok (.invokestatic 137, 3) := by decide +kernel
theorem dL_law_960 : decode cL_law 960 = .ok (.istore 5, 2) := by decide +kernel
theorem dL_law_962 : decode cL_law 962 = .ok (.aload_n 2, 1) := by decide +kernel
theorem dL_law_963 : decode cL_law 963 = .ok (.aload_n 0, 1) := by decide +kernel
theorem dL_law_964 : decode cL_law 964 = .ok (.iload 4, 2) := by decide +kernel
theorem dL_law_966 : decode cL_law 966 = .ok (.iconst 1, 1) := by decide +kernel
theorem dL_law_967 : decode cL_law 967 = .ok (.iadd, 1) := by decide +kernel
theorem dL_law_968 : decode cL_law 968 = .ok (.iaload, 1) := by decide +kernel
theorem dL_law_969 : decode cL_law 969 = .ok (.invokevirtual 139, 3) := by decide +kernel
theorem dL_law_972 : decode cL_law 972 = .ok (.istore 6, 2) := by decide +kernel
theorem dL_law_974 : decode cL_law 974 = .ok (.aload_n 2, 1) := by decide +kernel
theorem dL_law_975 : decode cL_law 975 = .ok (.invokevirtual 81, 3) := by decide +kernel
theorem dL_law_978 : decode cL_law 978 = .ok (.iload 5, 2) := by decide +kernel
theorem dL_law_980 : decode cL_law 980 = .ok (.if_icmp .eq 5, 3) := by decide +kernel
theorem dL_law_983 : decode cL_law 983 = .ok (.iconst 0, 1) := by decide +kernel
theorem dL_law_984 : decode cL_law 984 = .ok (.ireturn, 1) := by decide +kernel
theorem dL_law_985 : decode cL_law 985 = .ok (.iload 5, 2) := by decide +kernel
theorem dL_law_987 : decode cL_law 987 = .ok (.ifCond .ne 15, 3) := by decide +kernel
theorem dL_law_990 : decode cL_law 990 = .ok (.aload_n 3, 1) := by decide +kernel
theorem dL_law_991 : decode cL_law 991 = .ok (.iconst 0, 1) := by decide +kernel
theorem dL_law_992 : decode cL_law 992 = .ok (.laload, 1) := by decide +kernel
theorem dL_law_993 : decode cL_law 993 = .ok (.iload 6, 2) := by decide +kernel
theorem dL_law_995 : decode cL_law 995 = .ok (.i2l, 1) := by decide +kernel
theorem dL_law_996 : decode cL_law 996 = .ok (.lcmp, 1) := by decide +kernel
theorem dL_law_997 : decode cL_law 997 = .ok (.ifCond .eq 5, 3) := by decide +kernel
theorem dL_law_1000 : decode cL_law 1000 = .ok (.iconst 0, 1) := by decide +kernel
theorem dL_law_1001 : decode cL_law 1001 = .ok (.ireturn, 1) := by decide +kernel
theorem dL_law_1002 : decode cL_law 1002 = .ok (.goto 3, 3) := by decide +kernel
theorem dL_law_1005 : decode cL_law 1005 = .ok (.iinc 4 4, 3) := by decide +kernel
theorem dL_law_1008 : decode cL_law 1008 = .ok (.goto (-975), 3) := by decide +kernel
theorem dL_law_1011 : decode cL_law 1011 = .ok (.iconst 1, 1) := by decide +kernel
theorem dL_law_1012 : decode cL_law 1012 = .ok (.ireturn, 1) := by decide +kernel
abbrev vwCl : List vw_C := [(RJ0, TJ0, 2), (RJx00060, TJx00060, 6), (RX0, TX0, 5), (RX1, TX1, 4), (RX2, TX2, 2), (RX3, TX3, 3), (RX5, TX5, 2), (RX6, TX6, 2), (RX7, TX7, 1), (RX8, TX8, 6), (RX9, TX9, 12), (RX10, TX10, 8), (RX11, TX11, 45)]
