theorem dX11_key_28 : decode cX11_key 28 = .ok (.aload_n 0, 1) := by decide +kernel
theorem dX11_key_29 : decode cX11_key 29 = .ok (.getfield 43, 3) := by decide +kernel
theorem dX11_key_32 : decode cX11_key 32 = .ok (.iconst 0, 1) := by decide +kernel
theorem dX11_key_33 : decode cX11_key 33 = .ok (.aload_n 0, 1) := by decide +kernel
theorem dX11_key_34 : decode cX11_key 34 = .ok (.iload_n 1, 1) := by decide +kernel
theorem dX11_key_35 : decode cX11_key 35 = .ok (.iload_n 2, 1) := by decide +kernel
theorem dX11_key_36 : decode cX11_key 36 = .ok (.invokevirtual 402, 3) := by decide +kernel
theorem dX11_key_39 : decode cX11_key 39 = .ok (.invokevirtual 405, 3) := by decide +kernel
theorem dX11_key_42 : decode cX11_key 42 = .ok (.ireturn, 1) := by decide +kernel
theorem dX11_filter_0 : decode cX11_filter 0 = .ok (.aload_n 0, 1) := by decide +kernel
theorem dX11_filter_1 : decode cX11_filter 1 = .ok (.iload_n 1, 1) := by decide +kernel
theorem dX11_filter_2 : decode cX11_filter 2 = .ok (.ifCond .lt 34, 3) := by decide +kernel
theorem dX11_filter_5 : decode cX11_filter 5 = .ok (.iload_n 1, 1) := by decide +kernel
theorem dX11_filter_6 : decode cX11_filter 6 = .ok (.iconst 2, 1) := by decide +kernel
theorem dX11_filter_7 : decode cX11_filter 7 = .ok (.if_icmp .gt 29, 3) := by decide +kernel
theorem dX11_filter_10 : decode cX11_filter 10 = .ok (.iload_n 1, 1) := by decide +kernel
theorem dX11_filter_11 : decode cX11_filter 11 = .ok (.iconst 2, 1) := by decide +kernel
theorem dX11_filter_12 : decode cX11_filter 12 = .ok (.if_icmp .ne 11, 3) := by decide +kernel
theorem dX11_filter_15 : decode cX11_filter 15 = .ok (.aload_n 0, 1) := by decide +kernel
theorem dX11_filter_16 : decode cX11_filter 16 = .ok (.getfield 219, 3) := by decide +kernel
theorem dX11_filter_19 : decode cX11_filter 19 = .ok (.iconst 4, 1) := by decide +kernel
theorem dX11_filter_20 : decode cX11_filter 20 = .ok (.if_icmp .lt 16, 3) := by decide +kernel
theorem dX11_filter_23 : decode cX11_filter 23 = .ok (.iload_n 1, 1) := by decide +kernel
theorem dX11_filter_24 : decode cX11_filter 24 = .ok (.iconst 1, 1) := by decide +kernel
theorem dX11_filter_25 : decode cX11_filter 25 = .ok (.if_icmp .ne 15, 3) := by decide +kernel
theorem dX11_filter_28 : decode cX11_filter 28 = .ok (.aload_n 0, 1) := by decide +kernel
theorem dX11_filter_29 : decode cX11_filter 29 = .ok (.getfield 219, 3) := by decide +kernel
theorem dX11_filter_32 : decode cX11_filter 32 = .ok (.iconst 5, 1) := by decide +kernel
theorem dX11_filter_33 : decode cX11_filter 33 = .ok (.if_icmp .ne 7, 3) := by decide +kernel
theorem dX11_filter_36 : decode cX11_filter 36 = .ok (.iconst 1, 1) := by decide +kernel
theorem dX11_filter_37 : decode cX11_filter 37 = .ok (.goto 4, 3) := by decide +kernel
theorem dX11_filter_40 : decode cX11_filter 40 = .ok (.iconst 0, 1) := by decide +kernel
theorem dX11_filter_41 : decode cX11_filter 41 = .ok (.putfield 230, 3) := by decide +kernel
theorem dX11_filter_44 : decode cX11_filter 44 = .ok (.aload_n 0, 1) := by decide +kernel
theorem dX11_filter_45 : decode cX11_filter 45 = .ok (.getfield 230, 3) := by decide +kernel
theorem dX11_filter_48 : decode cX11_filter 48 = .ok (.ifCond .le 5, 3) := by decide +kernel
theorem dX11_filter_51 : decode cX11_filter 51 = .ok (.iconst 0, 1) := by decide +kernel
theorem dX11_filter_52 : decode cX11_filter 52 = .ok (.ireturn, 1) := by decide +kernel
theorem dX11_filter_53 : decode cX11_filter 53 = .ok (.aload_n 0, 1) := by decide +kernel
theorem dX11_filter_54 : decode cX11_filter 54 = .ok (.getfield 223, 3) := by decide +kernel
theorem dX11_filter_57 : decode cX11_filter 57 = .ok (.istore_n 2, 1) := by decide +kernel
theorem dX11_filter_58 : decode cX11_filter 58 = .ok (.aload_n 0, 1) := by decide +kernel
theorem dX11_filter_59 : decode cX11_filter 59 = .ok (.iload_n 1, 1) := by decide +kernel
theorem dX11_filter_60 : decode cX11_filter 60 = .ok (.putfield 223, 3) := by decide +kernel
theorem dX11_filter_63 : decode cX11_filter 63 = .ok (.iload_n 2, 1) := by decide +kernel
theorem dX11_filter_64 : decode cX11_filter 64 = .ok (.ireturn, 1) := by decide +kernel
theorem dX11_apply_0 : decode cX11_apply 0 = .ok (.aload_n 0, 1) := by decide +kernel
theorem dX11_apply_1 : decode cX11_apply 1 = .ok (.getfield 372, 3) := by decide +kernel
theorem dX11_apply_4 : decode cX11_apply 4 = .ok (.ifCond .eq 30, 3) := by decide +kernel
theorem dX11_apply_7 : decode cX11_apply 7 = .ok (.aload_n 0, 1) := by decide +kernel
theorem dX11_apply_8 : decode cX11_apply 8 = .ok (.getfield 375, 3) := by decide +kernel
theorem dX11_apply_11 : decode cX11_apply 11 = .ok (.ifCond .eq 19, 3) := by decide +kernel
theorem dX11_apply_14 : decode cX11_apply 14 = .ok (.iload_n 1, 1) := by decide +kernel
theorem dX11_apply_15 : decode cX11_apply 15 = .ok (.aload_n 0, 1) := by decide +kernel
theorem dX11_apply_16 : decode cX11_apply 16 = .ok (.getfield 409, 3) := by decide +kernel
theorem dX11_apply_19 : decode cX11_apply 19 = .ok (.if_icmp .ne 15, 3) := by decide +kernel
theorem dX11_apply_22 : decode cX11_apply 22 = .ok (.iload_n 2, 1) := by decide +kernel
theorem dX11_apply_23 : decode cX11_apply 23 = .ok (.aload_n 0, 1) := by decide +kernel
theorem dX11_apply_24 : decode cX11_apply 24 = .ok (.getfield 412, 3) := by decide +kernel
theorem dX11_apply_27 : decode cX11_apply 27 = .ok (.if_icmp .ne 7, 3) := by decide +kernel
theorem dX11_apply_30 : decode cX11_apply 30 = .ok (.iconst 1, 1) := by decide +kernel
theorem dX11_apply_31 : decode cX11_apply 31 = .ok (.goto 4, 3) := by decide +kernel
theorem dX11_apply_34 : decode cX11_apply 34 = .ok (.iconst 0, 1) := by decide +kernel
theorem dX11_apply_35 : decode cX11_apply 35 = .ok (.istore 4, 2) := by decide +kernel
theorem dX11_apply_37 : decode cX11_apply 37 = .ok (.aload_n 0, 1) := by decide +kernel
theorem dX11_apply_38 : decode cX11_apply 38 = .ok (.iload 4, 2) := by decide +kernel
theorem dX11_apply_40 : decode cX11_apply 40 = .ok (.ifCond .ne 7, 3) := by decide +kernel
theorem dX11_apply_43 : decode cX11_apply 43 = .ok (.iconst 1, 1) := by decide +kernel
theorem dX11_apply_44 : decode cX11_apply 44 = .ok (.goto 18, 3) := by decide +kernel
theorem dX11_apply_47 : decode cX11_apply 47 = .ok (.aload_n 0, 1) := by decide +kernel
theorem dX11_apply_48 : decode cX11_apply 48 = .ok (.getfield 375, 3) := by decide +kernel
theorem dX11_apply_51 : decode cX11_apply 51 = .ok (.sipush 400, 3) := by decide +kernel
theorem dX11_apply_54 : decode cX11_apply 54 = .ok (.if_icmp .ne 7, 3) := by decide +kernel
theorem dX11_apply_57 : decode cX11_apply 57 = .ok (.iconst 2, 1) := by decide +kernel
theorem dX11_apply_58 : decode cX11_apply 58 = .ok (.goto 4, 3) := by decide +kernel
theorem dX11_apply_61 : decode cX11_apply 61 = .ok (.iconst 0, 1) := by decide +kernel
theorem dX11_apply_62 : decode cX11_apply 62 = .ok (.putfield 230, 3) := by decide +kernel
theorem dX11_apply_65 : decode cX11_apply 65 = .ok (.aload_n 0, 1) := by decide +kernel
theorem dX11_apply_66 : decode cX11_apply 66 = .ok (.getfield 230, 3) := by decide +kernel
theorem dX11_apply_69 : decode cX11_apply 69 = .ok (.ifCond .le 5, 3) := by decide +kernel
theorem dX11_apply_72 : decode cX11_apply 72 = .ok (.iconst 0, 1) := by decide +kernel
theorem dX11_apply_73 : decode cX11_apply 73 = .ok (.ireturn, 1) := by decide +kernel
theorem dX11_apply_74 : decode cX11_apply 74 = .ok (.aload_n 0, 1) := by decide +kernel
theorem dX11_apply_75 : decode cX11_apply 75 = .ok (.iload_n 1, 1) := by decide +kernel
theorem dX11_apply_76 : decode cX11_apply 76 = .ok (.putfield 409, 3) := by decide +kernel
theorem dX11_apply_79 : decode cX11_apply 79 = .ok (.aload_n 0, 1) := by decide +kernel
theorem dX11_apply_80 : decode cX11_apply 80 = .ok (.iload_n 2, 1) := by decide +kernel
theorem dX11_apply_81 : decode cX11_apply 81 = .ok (.putfield 412, 3) := by decide +kernel
theorem dX11_apply_84 : decode cX11_apply 84 = .ok (.aload_n 0, 1) := by decide +kernel
theorem dX11_apply_85 : decode cX11_apply 85 = .ok (.getfield 34, 3) := by decide +kernel
theorem dX11_apply_88 : decode cX11_apply 88 = .ok (.aload_n 0, 1) := by decide +kernel
theorem dX11_apply_89 : decode cX11_apply 89 = .ok (.getfield 375, 3) := by decide +kernel
theorem dX11_apply_92 : decode cX11_apply 92 = .ok (.iload_n 3, 1) := by decide +kernel
theorem dX11_apply_93 : decode cX11_apply 93 = .ok (.sipush 255, 3) := by decide +kernel
theorem dX11_apply_96 : decode cX11_apply 96 = .ok (.iand, 1) := by decide +kernel
theorem dX11_apply_97 : decode cX11_apply 97 = .ok (.iastore, 1) := by decide +kernel
theorem dX11_apply_98 : decode cX11_apply 98 = .ok (.aload_n 0, 1) := by decide +kernel
theorem dX11_apply_99 : decode cX11_apply 99 = .ok (.dup, 1) := by decide +kernel
theorem dX11_apply_100 : decode cX11_apply 100 = .ok (.getfield 375, 3) := by decide +kernel
theorem dX11_apply_103 : decode cX11_apply 103 = .ok (.iconst 1, 1) := by decide +kernel
theorem dX11_apply_104 : decode cX11_apply 104 = .ok (.iadd, 1) := by decide +kernel
theorem dX11_apply_105 : decode cX11_apply 105 = .ok (.putfield 375, 3) := by decide +kernel
theorem dX11_apply_108 : decode cX11_apply 108 = .ok (.aload_n 0, 1) := by decide +kernel
theorem dX11_apply_109 : decode cX11_apply 109 = .ok (.getfield 375, 3) := by decide +kernel
theorem dX11_apply_112 : decode cX11_apply 112 = .ok (.ireturn, 1) := by decide +kernel
set_option maxRecDepth 20000 in
theorem ggX11_encipher_X11_nextByte : GoodIn wsX11_encipher wsX11_nextByte := goodIn_ca (goodIn_r _ [11, 2, 12, 107, 108, 109, 110, 111, 112, 113, 114, 115, 116, 117, 118, 119, 120, 121, 122, 123, 124, 125, 126, 127, 128, 129, 130, 131, 132, 133, 134, 135, 136, 137, 138, 139, 140, 141, 142, 143, 144, 145, 146, 147, 148, 149, 150, 151] (by decide +kernel) (by decide +kernel)) (goodIn_sub (fun _ h => List.mem_cons_of_mem _ (List.mem_append_right _ h)) (by decide +kernel))
set_option maxRecDepth 20000 in
theorem gX11_encipher_X11_nextByte : GoodIn wsX11_encipher (wsV RX11 352 RX11 yX11_nextByte wsX11_nextByte) := goodIn_app (goodIn_of _ (by decide +kernel)) ggX11_encipher_X11_nextByte
set_option maxRecDepth 20000 in
theorem ggX11_encipher_X11_objectKey : GoodIn wsX11_encipher wsX11_objectKey := goodIn_ca (goodIn_r _ [16, 17, 5, 18, 19, 20, 21, 22, 23, 24, 10, 25, 26, 27, 28, 29, 30, 31, 32, 33, 34, 35, 36, 37, 38, 39, 40, 41, 42, 43, 44, 45, 46, 47, 48, 49, 50, 51, 52, 53, 54, 55, 56, 57, 58, 59, 60, 61, 62, 63, 64, 65, 66, 67, 107, 108, 109, 110, 111, 112, 113, 114, 115, 116, 117, 118, 119, 120, 121, 122, 123, 124, 125, 126, 127, 128, 129, 130, 131, 132, 133, 134, 135, 136, 137, 138, 139, 140, 141, 142, 143, 144, 145, 146, 147, 148, 149, 150, 151] (by decide +kernel) (by decide +kernel)) (goodIn_sub (fun _ h => List.mem_cons_of_mem _ (List.mem_append_right _ h)) (by decide +kernel))
set_option maxRecDepth 20000 in
theorem gX11_encipher_X11_objectKey : GoodIn wsX11_encipher (wsV RX11 402 RX11 yX11_objectKey wsX11_objectKey) := goodIn_app (goodIn_of _ (by decide +kernel)) ggX11_encipher_X11_objectKey
set_option maxRecDepth 20000 in
theorem ggX11_encipher_X11_setKey : GoodIn wsX11_encipher wsX11_setKey := goodIn_ca (goodIn_r _ [71, 72, 73, 74, 75, 76, 10, 77, 107, 108, 109, 110, 111, 112, 113, 114, 115, 116, 117, 118, 119, 120, 121, 122, 123, 124, 125, 126, 127, 128, 129, 130, 131, 132, 133, 134, 135, 136, 137, 138, 139, 140, 141, 142, 143, 144, 145, 146, 147, 148, 149, 150, 151] (by decide +kernel) (by decide +kernel)) (goodIn_sub (fun _ h => List.mem_cons_of_mem _ (List.mem_append_right _ h)) (by decide +kernel))
set_option maxRecDepth 20000 in
theorem gX11_encipher_X11_setKey : GoodIn wsX11_encipher (wsV RX11 359 RX11 yX11_setKey wsX11_setKey) := goodIn_app (goodIn_of _ (by decide +kernel)) ggX11_encipher_X11_setKey
set_option maxRecDepth 20000 in
theorem ggX11_encipher_X11_chain : GoodIn wsX11_encipher wsX11_chain := goodIn_ca (goodIn_r _ [81, 3, 82, 83, 84, 10, 85, 86, 72, 87, 88, 89, 90, 73, 91, 92, 93, 94, 95, 75, 76, 77, 96, 97, 98, 99, 100, 74, 107, 108, 109, 110, 111, 112, 113, 114, 115, 116, 117, 118, 119, 120, 121, 122, 123, 124, 125, 126, 127, 128, 129, 130, 131, 132, 133, 134, 135, 136, 137, 138, 139, 140, 141, 142, 143, 144, 145, 146, 147, 148, 149, 150, 151] (by decide +kernel) (by decide +kernel)) (goodIn_sub (fun _ h => List.mem_cons_of_mem _ (List.mem_append_right _ h)) (by decide +kernel))
set_option maxRecDepth 20000 in
theorem gX11_encipher_X11_chain : GoodIn wsX11_encipher (wsV RX11 362 RX11 yX11_chain wsX11_chain) := goodIn_app (goodIn_of _ (by decide +kernel)) ggX11_encipher_X11_chain
set_option maxRecDepth 20000 in
theorem ggX11_encipher_X11_become : GoodIn wsX11_encipher wsX11_become := goodIn_ca (goodIn_r _ [104, 105, 106, 107, 108, 109, 110, 111, 112, 113, 114, 115, 116, 117, 118, 119, 120, 121, 122, 123, 124, 125, 126, 127, 128, 129, 130, 131, 132, 133, 134, 135, 136, 137, 138, 139, 140, 141, 142, 143, 144, 145, 146, 147, 148, 149, 150, 151] (by decide +kernel) (by decide +kernel)) (goodIn_sub (fun _ h => List.mem_cons_of_mem _ (List.mem_append_right _ h)) (by decide +kernel))
set_option maxRecDepth 20000 in
theorem gX11_encipher_X11_become : GoodIn wsX11_encipher (wsV RX11 405 RX11 yX11_become wsX11_become) := goodIn_app (goodIn_of _ (by decide +kernel)) ggX11_encipher_X11_become
theorem dX11_encipher_0 : decode cX11_encipher 0 = .ok (.aload_n 0, 1) := by decide +kernel
theorem dX11_encipher_1 : decode cX11_encipher 1 = .ok (.getfield 369, 3) := by decide +kernel
theorem dX11_encipher_4 : decode cX11_encipher 4 = .ok (.aload_n 0, 1) := by decide +kernel
theorem dX11_encipher_5 : decode cX11_encipher 5 = .ok (.getfield 346, 3) := by decide +kernel
theorem dX11_encipher_8 : decode cX11_encipher 8 = .ok (.isub, 1) := by decide +kernel
theorem dX11_encipher_9 : decode cX11_encipher 9 = .ok (.bipush 16, 2) := by decide +kernel
theorem dX11_encipher_11 : decode cX11_encipher 11 = .ok (.if_icmp .ge 6, 3) := by decide +kernel
theorem dX11_encipher_14 : decode cX11_encipher 14 = .ok (.bipush (-2), 2) := by decide +kernel
theorem dX11_encipher_16 : decode cX11_encipher 16 = .ok (.ireturn, 1) := by decide +kernel
theorem dX11_encipher_17 : decode cX11_encipher 17 = .ok (.iconst 0, 1) := by decide +kernel
theorem dX11_encipher_18 : decode cX11_encipher 18 = .ok (.istore_n 2, 1) := by decide +kernel
theorem dX11_encipher_19 : decode cX11_encipher 19 = .ok (.iload_n 2, 1) := by decide +kernel
theorem dX11_encipher_20 : decode cX11_encipher 20 = .ok (.bipush 16, 2) := by decide +kernel
theorem dX11_encipher_22 : decode cX11_encipher 22 = .ok (.if_icmp .ge 19, 3) := by decide +kernel
theorem dX11_encipher_25 : decode cX11_encipher 25 = .ok (.aload_n 0, 1) := by decide +kernel
theorem dX11_encipher_26 : decode cX11_encipher 26 = .ok (.getfield 210, 3) := by decide +kernel
theorem dX11_encipher_29 : decode cX11_encipher 29 = .ok (.iload_n 2, 1) := by decide +kernel
theorem dX11_encipher_30 : decode cX11_encipher 30 = .ok (.aload_n 0, 1) := by decide +kernel
theorem dX11_encipher_31 : decode cX11_encipher 31 = .ok (.invokevirtual 352, 3) := by decide +kernel
theorem dX11_encipher_34 : decode cX11_encipher 34 = .ok (.iastore, 1) := by decide +kernel
theorem dX11_encipher_35 : decode cX11_encipher 35 = .ok (.iinc 2 1, 3) := by decide +kernel
theorem dX11_encipher_38 : decode cX11_encipher 38 = .ok (.goto (-19), 3) := by decide +kernel
theorem dX11_encipher_41 : decode cX11_encipher 41 = .ok (.iload_n 1, 1) := by decide +kernel
theorem dX11_encipher_42 : decode cX11_encipher 42 = .ok (.bipush 16, 2) := by decide +kernel
theorem dX11_encipher_44 : decode cX11_encipher 44 = .ok (.idiv, 1) := by decide +kernel
theorem dX11_encipher_45 : decode cX11_encipher 45 = .ok (.bipush 16, 2) := by decide +kernel
theorem dX11_encipher_47 : decode cX11_encipher 47 = .ok (.imul, 1) := by decide +kernel
theorem dX11_encipher_48 : decode cX11_encipher 48 = .ok (.bipush 16, 2) := by decide +kernel
theorem dX11_encipher_50 : decode cX11_encipher 50 = .ok (.iadd, 1) := by decide +kernel
theorem dX11_encipher_51 : decode cX11_encipher 51 = .ok (.istore_n 2, 1) := by decide +kernel
theorem dX11_encipher_52 : decode cX11_encipher 52 = .ok (.iconst 0, 1) := by decide +kernel
theorem dX11_encipher_53 : decode cX11_encipher 53 = .ok (.istore_n 3, 1) := by decide +kernel
theorem dX11_encipher_54 : decode cX11_encipher 54 = .ok (.iload_n 3, 1) := by decide +kernel
theorem dX11_encipher_55 : decode cX11_encipher 55 = .ok (.iload_n 2, 1) := by decide +kernel
theorem dX11_encipher_56 : decode cX11_encipher 56 = .ok (.if_icmp .ge 35, 3) := by decide +kernel
theorem dX11_encipher_59 : decode cX11_encipher 59 = .ok (.aload_n 0, 1) := by decide +kernel
theorem dX11_encipher_60 : decode cX11_encipher 60 = .ok (.getfield 210, 3) := by decide +kernel
theorem dX11_encipher_63 : decode cX11_encipher 63 = .ok (.bipush 16, 2) := by decide +kernel
theorem dX11_encipher_65 : decode cX11_encipher 65 = .ok (.iload_n 3, 1) := by decide +kernel
theorem dX11_encipher_66 : decode cX11_encipher 66 = .ok (.iadd, 1) := by decide +kernel
theorem dX11_encipher_67 : decode cX11_encipher 67 = .ok (.iload_n 3, 1) := by decide +kernel
theorem dX11_encipher_68 : decode cX11_encipher 68 = .ok (.iload_n 1, 1) := by decide +kernel
theorem dX11_encipher_69 : decode cX11_encipher 69 = .ok (.if_icmp .ge 12, 3) := by decide +kernel
theorem dX11_encipher_72 : decode cX11_encipher 72 = .ok (.aload_n 0, 1) := by decide +kernel
theorem dX11_encipher_73 : decode cX11_encipher 73 = .ok (.getfield 34, 3) := by decide +kernel
theorem dX11_encipher_76 : decode cX11_encipher 76 = .ok (.iload_n 3, 1) := by decide +kernel
theorem dX11_encipher_77 : decode cX11_encipher 77 = .ok (.iaload, 1) := by decide +kernel
theorem dX11_encipher_78 : decode cX11_encipher 78 = .ok (.goto 6, 3) := by decide +kernel
theorem dX11_encipher_81 : decode cX11_encipher 81 = .ok (.iload_n 2, 1) := by decide +kernel
theorem dX11_encipher_82 : decode cX11_encipher 82 = .ok (.iload_n 1, 1) := by decide +kernel
theorem dX11_encipher_83 : decode cX11_encipher 83 = .ok (.isub, 1) := by decide +kernel
theorem dX11_encipher_84 : decode cX11_encipher 84 = .ok (.iastore, 1) := by decide +kernel
theorem dX11_encipher_85 : decode cX11_encipher 85 = .ok (.iinc 3 1, 3) := by decide +kernel
theorem dX11_encipher_88 : decode cX11_encipher 88 = .ok (.goto (-34), 3) := by decide +kernel
theorem dX11_encipher_91 : decode cX11_encipher 91 = .ok (.aload_n 0, 1) := by decide +kernel
theorem dX11_encipher_92 : decode cX11_encipher 92 = .ok (.aload_n 0, 1) := by decide +kernel
theorem dX11_encipher_93 : decode cX11_encipher 93 = .ok (.getfield 43, 3) := by decide +kernel
theorem dX11_encipher_96 : decode cX11_encipher 96 = .ok (.aload_n 0, 1) := by decide +kernel
theorem dX11_encipher_97 : decode cX11_encipher 97 = .ok (.aload_n 0, 1) := by decide +kernel
theorem dX11_encipher_98 : decode cX11_encipher 98 = .ok (.getfield 409, 3) := by decide +kernel
theorem dX11_encipher_101 : decode cX11_encipher 101 = .ok (.iconst 0, 1) := by decide +kernel
theorem dX11_encipher_102 : decode cX11_encipher 102 = .ok (.invokevirtual 402, 3) := by decide +kernel
theorem dX11_encipher_105 : decode cX11_encipher 105 = .ok (.invokevirtual 359, 3) := by decide +kernel
theorem dX11_encipher_108 : decode cX11_encipher 108 = .ok (.aload_n 0, 1) := by decide +kernel
theorem dX11_encipher_109 : decode cX11_encipher 109 = .ok (.iload_n 2, 1) := by decide +kernel
theorem dX11_encipher_110 : decode cX11_encipher 110 = .ok (.bipush 16, 2) := by decide +kernel
theorem dX11_encipher_112 : decode cX11_encipher 112 = .ok (.idiv, 1) := by decide +kernel
theorem dX11_encipher_113 : decode cX11_encipher 113 = .ok (.iconst 0, 1) := by decide +kernel
theorem dX11_encipher_114 : decode cX11_encipher 114 = .ok (.invokevirtual 362, 3) := by decide +kernel
theorem dX11_encipher_117 : decode cX11_encipher 117 = .ok (.aload_n 0, 1) := by decide +kernel
theorem dX11_encipher_118 : decode cX11_encipher 118 = .ok (.aload_n 0, 1) := by decide +kernel
theorem dX11_encipher_119 : decode cX11_encipher 119 = .ok (.getfield 210, 3) := by decide +kernel
theorem dX11_encipher_122 : decode cX11_encipher 122 = .ok (.iconst 0, 1) := by decide +kernel
theorem dX11_encipher_123 : decode cX11_encipher 123 = .ok (.bipush 16, 2) := by decide +kernel
theorem dX11_encipher_125 : decode cX11_encipher 125 = .ok (.iload_n 2, 1) := by decide +kernel
theorem dX11_encipher_126 : decode cX11_encipher 126 = .ok (.iadd, 1) := by decide +kernel
theorem dX11_encipher_127 : decode cX11_encipher 127 = .ok (.invokevirtual 405, 3) := by decide +kernel
theorem dX11_encipher_130 : decode cX11_encipher 130 = .ok (.ireturn, 1) := by decide +kernel
set_option maxRecDepth 20000 in
theorem ggX11_decipher_X11_objectKey : GoodIn wsX11_decipher wsX11_objectKey := goodIn_ca (goodIn_r _ [9, 10, 3, 11, 12, 13, 14, 15, 16, 17, 8, 18, 19, 20, 21, 22, 23, 24, 25, 26, 27, 28, 29, 30, 31, 32, 33, 34, 35, 36, 37, 38, 39, 40, 41, 42, 43, 44, 45, 46, 47, 48, 49, 50, 51, 52, 53, 54, 55, 56, 57, 58, 59, 60, 100, 101, 102, 103, 104, 105, 106, 107, 108, 109, 110, 111, 112, 113, 114, 115, 116, 117, 118, 119, 120, 121, 122, 123, 124, 125, 126, 127, 128, 129, 130, 131, 132, 133, 134, 135, 136, 137, 138, 139, 140, 141, 142, 143, 144] (by decide +kernel) (by decide +kernel)) (goodIn_sub (fun _ h => List.mem_cons_of_mem _ (List.mem_append_right _ h)) (by decide +kernel))
set_option maxRecDepth 20000 in
theorem gX11_decipher_X11_objectKey : GoodIn wsX11_decipher (wsV RX11 402 RX11 yX11_objectKey wsX11_objectKey) := goodIn_app (goodIn_of _ (by decide +kernel)) ggX11_decipher_X11_objectKey
set_option maxRecDepth 20000 in
theorem ggX11_decipher_X11_setKey : GoodIn wsX11_decipher wsX11_setKey := goodIn_ca (goodIn_r _ [64, 65, 66, 67, 68, 69, 8, 70, 100, 101, 102, 103, 104, 105, 106, 107, 108, 109, 110, 111, 112, 113, 114, 115, 116, 117, 118, 119, 120, 121, 122, 123, 124, 125, 126, 127, 128, 129, 130, 131, 132, 133, 134, 135, 136, 137, 138, 139, 140, 141, 142, 143, 144] (by decide +kernel) (by decide +kernel)) (goodIn_sub (fun _ h => List.mem_cons_of_mem _ (List.mem_append_right _ h)) (by decide +kernel))
set_option maxRecDepth 20000 in
theorem gX11_decipher_X11_setKey : GoodIn wsX11_decipher (wsV RX11 359 RX11 yX11_setKey wsX11_setKey) := goodIn_app (goodIn_of _ (by decide +kernel)) ggX11_decipher_X11_setKey
set_option maxRecDepth 20000 in
theorem ggX11_decipher_X11_chain : GoodIn wsX11_decipher wsX11_chain := goodIn_ca (goodIn_r _ [74, 1, 75, 76, 77, 8, 78, 79, 65, 80, 81, 82, 83, 66, 84, 85, 86, 87, 88, 68, 69, 70, 89, 90, 91, 92, 93, 67, 100, 101, 102, 103, 104, 105, 106, 107, 108, 109, 110, 111, 112, 113, 114, 115, 116, 117, 118, 119, 120, 121, 122, 123, 124, 125, 126, 127, 128, 129, 130, 131, 132, 133, 134, 135, 136, 137, 138, 139, 140, 141, 142, 143, 144] (by decide +kernel) (by decide +kernel)) (goodIn_sub (fun _ h => List.mem_cons_of_mem _ (List.mem_append_right _ h)) (by decide +kernel))
set_option maxRecDepth 20000 in
theorem gX11_decipher_X11_chain : GoodIn wsX11_decipher (wsV RX11 362 RX11 yX11_chain wsX11_chain) := goodIn_app (goodIn_of _ (by decide +kernel)) ggX11_decipher_X11_chain
set_option maxRecDepth 20000 in
theorem ggX11_decipher_X11_become : GoodIn wsX11_decipher wsX11_become := goodIn_ca (goodIn_r _ [97, 98, 99, 100, 101, 102, 103, 104, 105, 106, 107, 108, 109, 110, 111, 112, 113, 114, 115, 116, 117, 118, 119, 120, 121, 122, 123, 124, 125, 126, 127, 128, 129, 130, 131, 132, 133, 134, 135, 136, 137, 138, 139, 140, 141, 142, 143, 144] (by decide +kernel) (by decide +kernel)) (goodIn_sub (fun _ h => List.mem_cons_of_mem _ (List.mem_append_right _ h)) (by decide +kernel))
set_option maxRecDepth 20000 in
theorem gX11_decipher_X11_become : GoodIn wsX11_decipher (wsV RX11 405 RX11 yX11_become wsX11_become) := goodIn_app (goodIn_of _ (by decide +kernel)) ggX11_decipher_X11_become
theorem dX11_decipher_0 : decode cX11_decipher 0 = .ok (.iload_n 1, 1) := by decide +kernel
theorem dX11_decipher_1 : decode cX11_decipher 1 = .ok (.bipush 16, 2) := by decide +kernel
theorem dX11_decipher_3 : decode cX11_decipher 3 = .ok (.if_icmp .ge 6, 3) := by decide +kernel
theorem dX11_decipher_6 : decode cX11_decipher 6 = .ok (.bipush (-2), 2) := by decide +kernel
theorem dX11_decipher_8 : decode cX11_decipher 8 = .ok (.ireturn, 1) := by decide +kernel
theorem dX11_decipher_9 : decode cX11_decipher 9 = .ok (.iload_n 1, 1) := by decide +kernel
theorem dX11_decipher_10 : decode cX11_decipher 10 = .ok (.bipush 32, 2) := by decide +kernel
theorem dX11_decipher_12 : decode cX11_decipher 12 = .ok (.if_icmp .lt 10, 3) := by decide +kernel
theorem dX11_decipher_15 : decode cX11_decipher 15 = .ok (.iload_n 1, 1) := by decide +kernel
theorem dX11_decipher_16 : decode cX11_decipher 16 = .ok (.bipush 16, 2) := by decide +kernel
theorem dX11_decipher_18 : decode cX11_decipher 18 = .ok (.irem, 1) := by decide +kernel
theorem dX11_decipher_19 : decode cX11_decipher 19 = .ok (.ifCond .le 6, 3) := by decide +kernel
theorem dX11_decipher_22 : decode cX11_decipher 22 = .ok (.bipush (-3), 2) := by decide +kernel
theorem dX11_decipher_24 : decode cX11_decipher 24 = .ok (.ireturn, 1) := by decide +kernel
theorem dX11_decipher_25 : decode cX11_decipher 25 = .ok (.iconst 0, 1) := by decide +kernel
theorem dX11_decipher_26 : decode cX11_decipher 26 = .ok (.istore_n 2, 1) := by decide +kernel
theorem dX11_decipher_27 : decode cX11_decipher 27 = .ok (.iload_n 2, 1) := by decide +kernel
theorem dX11_decipher_28 : decode cX11_decipher 28 = .ok (.iload_n 1, 1) := by decide +kernel
theorem dX11_decipher_29 : decode cX11_decipher 29 = .ok (.if_icmp .ge 21, 3) := by decide +kernel
theorem dX11_decipher_32 : decode cX11_decipher 32 = .ok (.aload_n 0, 1) := by decide +kernel
theorem dX11_decipher_33 : decode cX11_decipher 33 = .ok (.getfield 210, 3) := by decide +kernel
theorem dX11_decipher_36 : decode cX11_decipher 36 = .ok (.iload_n 2, 1) := by decide +kernel
theorem dX11_decipher_37 : decode cX11_decipher 37 = .ok (.aload_n 0, 1) := by decide +kernel
theorem dX11_decipher_38 : decode cX11_decipher 38 = .ok (.getfield 34, 3) := by decide +kernel
theorem dX11_decipher_41 : decode cX11_decipher 41 = .ok (.iload_n 2, 1) := by decide +kernel
theorem dX11_decipher_42 : decode cX11_decipher 42 = .ok (.iaload, 1) := by decide +kernel
theorem dX11_decipher_43 : decode cX11_decipher 43 = .ok (.iastore, 1) := by decide +kernel
theorem dX11_decipher_44 : decode cX11_decipher 44 = .ok (.iinc 2 1, 3) := by decide +kernel
theorem dX11_decipher_47 : decode cX11_decipher 47 = .ok (.goto (-20), 3) := by decide +kernel
theorem dX11_decipher_50 : decode cX11_decipher 50 = .ok (.aload_n 0, 1) := by decide +kernel
theorem dX11_decipher_51 : decode cX11_decipher 51 = .ok (.aload_n 0, 1) := by decide +kernel
theorem dX11_decipher_52 : decode cX11_decipher 52 = .ok (.getfield 43, 3) := by decide +kernel
theorem dX11_decipher_55 : decode cX11_decipher 55 = .ok (.aload_n 0, 1) := by decide +kernel
theorem dX11_decipher_56 : decode cX11_decipher 56 = .ok (.aload_n 0, 1) := by decide +kernel
theorem dX11_decipher_57 : decode cX11_decipher 57 = .ok (.getfield 409, 3) := by decide +kernel
theorem dX11_decipher_60 : decode cX11_decipher 60 = .ok (.iconst 0, 1) := by decide +kernel
theorem dX11_decipher_61 : decode cX11_decipher 61 = .ok (.invokevirtual 402, 3) := by decide +kernel
theorem dX11_decipher_64 : decode cX11_decipher 64 = .ok (.invokevirtual 359, 3) := by decide +kernel
theorem dX11_decipher_67 : decode cX11_decipher 67 = .ok (.aload_n 0, 1) := by decide +kernel
theorem dX11_decipher_68 : decode cX11_decipher 68 = .ok (.iload_n 1, 1) := by decide +kernel
theorem dX11_decipher_69 : decode cX11_decipher 69 = .ok (.bipush 16, 2) := by decide +kernel
theorem dX11_decipher_71 : decode cX11_decipher 71 = .ok (.idiv, 1) := by decide +kernel
theorem dX11_decipher_72 : decode cX11_decipher 72 = .ok (.iconst 1, 1) := by decide +kernel
theorem dX11_decipher_73 : decode cX11_decipher 73 = .ok (.isub, 1) := by decide +kernel
theorem dX11_decipher_74 : decode cX11_decipher 74 = .ok (.iconst 1, 1) := by decide +kernel
theorem dX11_decipher_75 : decode cX11_decipher 75 = .ok (.invokevirtual 362, 3) := by decide +kernel
theorem dX11_decipher_78 : decode cX11_decipher 78 = .ok (.aload_n 0, 1) := by decide +kernel
theorem dX11_decipher_79 : decode cX11_decipher 79 = .ok (.getfield 210, 3) := by decide +kernel
theorem dX11_decipher_82 : decode cX11_decipher 82 = .ok (.iload_n 1, 1) := by decide +kernel
theorem dX11_decipher_83 : decode cX11_decipher 83 = .ok (.iconst 1, 1) := by decide +kernel
theorem dX11_decipher_84 : decode cX11_decipher 84 = .ok (.isub, 1) := by decide +kernel
theorem dX11_decipher_85 : decode cX11_decipher 85 = .ok (.iaload, 1) := by decide +kernel
theorem dX11_decipher_86 : decode cX11_decipher 86 = .ok (.istore_n 2, 1) := by decide +kernel
theorem dX11_decipher_87 : decode cX11_decipher 87 = .ok (.iload_n 2, 1) := by decide +kernel
theorem dX11_decipher_88 : decode cX11_decipher 88 = .ok (.ifCond .le 13, 3) := by decide +kernel
theorem dX11_decipher_91 : decode cX11_decipher 91 = .ok (.iload_n 2, 1) := by decide +kernel
theorem dX11_decipher_92 : decode cX11_decipher 92 = .ok (.bipush 17, 2) := by decide +kernel
theorem dX11_decipher_94 : decode cX11_decipher 94 = .ok (.if_icmp .ge 7, 3) := by decide +kernel
theorem dX11_decipher_97 : decode cX11_decipher 97 = .ok (.iconst 1, 1) := by decide +kernel
theorem dX11_decipher_98 : decode cX11_decipher 98 = .ok (.goto 4, 3) := by decide +kernel
theorem dX11_decipher_101 : decode cX11_decipher 101 = .ok (.iconst 0, 1) := by decide +kernel
theorem dX11_decipher_102 : decode cX11_decipher 102 = .ok (.istore_n 3, 1) := by decide +kernel
theorem dX11_decipher_103 : decode cX11_decipher 103 = .ok (.iconst 0, 1) := by decide +kernel
theorem dX11_decipher_104 : decode cX11_decipher 104 = .ok (.istore 4, 2) := by decide +kernel
theorem dX11_decipher_106 : decode cX11_decipher 106 = .ok (.iload_n 3, 1) := by decide +kernel
theorem dX11_decipher_107 : decode cX11_decipher 107 = .ok (.ifCond .eq 36, 3) := by decide +kernel
theorem dX11_decipher_110 : decode cX11_decipher 110 = .ok (.iload 4, 2) := by decide +kernel
theorem dX11_decipher_112 : decode cX11_decipher 112 = .ok (.iload_n 2, 1) := by decide +kernel
theorem dX11_decipher_113 : decode cX11_decipher 113 = .ok (.if_icmp .ge 30, 3) := by decide +kernel
theorem dX11_decipher_116 : decode cX11_decipher 116 = .ok (.aload_n 0, 1) := by decide +kernel
theorem dX11_decipher_117 : decode cX11_decipher 117 = .ok (.getfield 210, 3) := by decide +kernel
theorem dX11_decipher_120 : decode cX11_decipher 120 = .ok (.iload_n 1, 1) := by decide +kernel
theorem dX11_decipher_121 : decode cX11_decipher 121 = .ok (.iconst 1, 1) := by decide +kernel
theorem dX11_decipher_122 : decode cX11_decipher 122 = .ok (.isub, 1) := by decide +kernel
theorem dX11_decipher_123 : decode cX11_decipher 123 = .ok (.iload 4, 2) := by decide +kernel
theorem dX11_decipher_125 : decode cX11_decipher 125 = .ok (.isub, 1) := by decide +kernel
theorem dX11_decipher_126 : decode cX11_decipher 126 = .ok (.iaload, 1) := by decide +kernel
theorem dX11_decipher_127 : decode cX11_decipher 127 = .ok (.iload_n 2, 1) := by decide +kernel
theorem dX11_decipher_128 : decode cX11_decipher 128 = .ok (.if_icmp .ne 7, 3) := by decide +kernel
theorem dX11_decipher_131 : decode cX11_decipher 131 = .ok (.iconst 1, 1) := by decide +kernel
theorem dX11_decipher_132 : decode cX11_decipher 132 = .ok (.goto 4, 3) := by decide +kernel
theorem dX11_decipher_135 : decode cX11_decipher 135 = .ok (.iconst 0, 1) := by decide +kernel
theorem dX11_decipher_136 : decode cX11_decipher 136 = .ok (.istore_n 3, 1) := by decide +kernel
theorem dX11_decipher_137 : decode cX11_decipher 137 = .ok (.iinc 4 1, 3) := by decide +kernel
theorem dX11_decipher_140 : decode cX11_decipher 140 = .ok (.goto (-34), 3) := by decide +kernel
theorem dX11_decipher_143 : decode cX11_decipher 143 = .ok (.iload_n 3, 1) := by decide +kernel
theorem dX11_decipher_144 : decode cX11_decipher 144 = .ok (.ifCond .eq 22, 3) := by decide +kernel
theorem dX11_decipher_147 : decode cX11_decipher 147 = .ok (.aload_n 0, 1) := by decide +kernel
theorem dX11_decipher_148 : decode cX11_decipher 148 = .ok (.aload_n 0, 1) := by decide +kernel
theorem dX11_decipher_149 : decode cX11_decipher 149 = .ok (.getfield 210, 3) := by decide +kernel
theorem dX11_decipher_152 : decode cX11_decipher 152 = .ok (.bipush 16, 2) := by decide +kernel
theorem dX11_decipher_154 : decode cX11_decipher 154 = .ok (.iload_n 1, 1) := by decide +kernel
theorem dX11_decipher_155 : decode cX11_decipher 155 = .ok (.bipush 16, 2) := by decide +kernel
theorem dX11_decipher_157 : decode cX11_decipher 157 = .ok (.isub, 1) := by decide +kernel
theorem dX11_decipher_158 : decode cX11_decipher 158 = .ok (.iload_n 2, 1) := by decide +kernel
theorem dX11_decipher_159 : decode cX11_decipher 159 = .ok (.isub, 1) := by decide +kernel
theorem dX11_decipher_160 : decode cX11_decipher 160 = .ok (.invokevirtual 405, 3) := by decide +kernel
theorem dX11_decipher_163 : decode cX11_decipher 163 = .ok (.goto 5, 3) := by decide +kernel
theorem dX11_decipher_166 : decode cX11_decipher 166 = .ok (.bipush (-4), 2) := by decide +kernel
theorem dX11_decipher_168 : decode cX11_decipher 168 = .ok (.ireturn, 1) := by decide +kernel
set_option maxRecDepth 20000 in
theorem ggX11_end_X11_decipher : GoodIn wsX11_end wsX11_decipher := goodIn_ca (goodIn_r _ [12, 13, 7, 6, 5, 14, 15, 16, 11, 17, 18, 19, 20, 3, 21, 22, 23, 24, 25, 26, 27, 28, 29, 30, 31, 32, 33, 34, 35, 36, 37, 38, 39, 40, 41, 42, 43, 44, 45, 46, 47, 48, 49, 50, 51, 52, 53, 54, 55, 56, 57, 58, 59, 60, 61, 62, 63, 64, 65, 66, 67, 68, 69, 70, 71, 72, 73, 74, 75, 76, 77, 78, 79, 80, 81, 82, 83, 84, 85, 86, 87, 88, 89, 90, 91, 92, 93, 94, 95, 96, 97, 98, 99, 100, 101, 102, 103, 104, 105, 106, 123, 124, 125, 126, 127, 128, 129, 130, 131, 132, 133, 134, 135, 136, 137, 138, 139, 140, 141, 142, 143, 144, 145, 146, 147, 148, 149, 150, 151, 152, 153, 154, 155, 156, 157, 158, 159, 160, 161, 162, 163, 164, 165, 166, 167] (by decide +kernel) (by decide +kernel)) (goodIn_sub (fun _ h => List.mem_cons_of_mem _ (List.mem_append_right _ h)) (by decide +kernel))
set_option maxRecDepth 20000 in
theorem gX11_end_X11_decipher : GoodIn wsX11_end (wsV RX11 415 RX11 yX11_decipher wsX11_decipher) := goodIn_app (goodIn_of _ (by decide +kernel)) ggX11_end_X11_decipher
set_option maxRecDepth 20000 in
theorem ggX11_end_X11_encipher : GoodIn wsX11_end wsX11_encipher := goodIn_ca (goodIn_r _ [110, 111, 112, 13, 7, 6, 5, 113, 114, 115, 11, 116, 117, 14, 15, 16, 17, 18, 19, 20, 3, 21, 22, 23, 24, 25, 26, 27, 28, 29, 30, 31, 32, 33, 34, 35, 36, 37, 38, 39, 40, 41, 42, 43, 44, 45, 46, 47, 48, 49, 50, 51, 52, 53, 54, 55, 56, 57, 58, 59, 60, 61, 62, 63, 64, 65, 66, 67, 68, 69, 70, 71, 72, 73, 74, 75, 76, 77, 78, 79, 80, 81, 82, 83, 84, 85, 86, 87, 88, 89, 90, 91, 92, 93, 94, 95, 96, 97, 98, 99, 100, 101, 102, 103, 104, 105, 106, 123, 124, 125, 126, 127, 128, 129, 130, 131, 132, 133, 134, 135, 136, 137, 138, 139, 140, 141, 142, 143, 144, 145, 146, 147, 148, 149, 150, 151, 152, 153, 154, 155, 156, 157, 158, 159, 160, 161, 162, 163, 164, 165, 166, 167] (by decide +kernel) (by decide +kernel)) (goodIn_sub (fun _ h => List.mem_cons_of_mem _ (List.mem_append_right _ h)) (by decide +kernel))
set_option maxRecDepth 20000 in
theorem gX11_end_X11_encipher : GoodIn wsX11_end (wsV RX11 418 RX11 yX11_encipher wsX11_encipher) := goodIn_app (goodIn_of _ (by decide +kernel)) ggX11_end_X11_encipher
set_option maxRecDepth 20000 in
theorem ggX11_end_X11_objectKey : GoodIn wsX11_end wsX11_objectKey := goodIn_ca (goodIn_r _ [17, 18, 6, 19, 20, 3, 21, 22, 23, 24, 11, 25, 26, 27, 28, 29, 30, 31, 32, 33, 34, 35, 36, 37, 38, 39, 40, 41, 42, 43, 44, 45, 46, 47, 48, 49, 50, 51, 52, 53, 54, 55, 56, 57, 58, 59, 60, 61, 62, 63, 64, 65, 66, 67, 123, 124, 125, 126, 127, 128, 129, 130, 131, 132, 133, 134, 135, 136, 137, 138, 139, 140, 141, 142, 143, 144, 145, 146, 147, 148, 149, 150, 151, 152, 153, 154, 155, 156, 157, 158, 159, 160, 161, 162, 163, 164, 165, 166, 167] (by decide +kernel) (by decide +kernel)) (goodIn_sub (fun _ h => List.mem_cons_of_mem _ (List.mem_append_right _ h)) (by decide +kernel))
set_option maxRecDepth 20000 in
theorem gX11_end_X11_objectKey : GoodIn wsX11_end (wsV RX11 402 RX11 yX11_objectKey wsX11_objectKey) := goodIn_app (goodIn_of _ (by decide +kernel)) ggX11_end_X11_objectKey
set_option maxRecDepth 20000 in
theorem ggX11_end_X11_throughStream : GoodIn wsX11_end wsX11_throughStream := goodIn_ca (goodIn_r _ [121, 122, 123, 124, 125, 126, 127, 128, 129, 130, 131, 132, 133, 134, 135, 136, 137, 138, 139, 140, 141, 142, 143, 144, 145, 146, 147, 148, 149, 150, 151, 152, 153, 154, 155, 156, 157, 158, 159, 160, 161, 162, 163, 164, 165, 166, 167] (by decide +kernel) (by decide +kernel)) (goodIn_sub (fun _ h => List.mem_cons_of_mem _ (List.mem_append_right _ h)) (by decide +kernel))
set_option maxRecDepth 20000 in
theorem gX11_end_X11_throughStream : GoodIn wsX11_end (wsV RX11 316 RX11 yX11_throughStream wsX11_throughStream) := goodIn_app (goodIn_of _ (by decide +kernel)) ggX11_end_X11_throughStream
set_option maxRecDepth 20000 in
theorem ggX11_end_X11_become : GoodIn wsX11_end wsX11_become := goodIn_ca (goodIn_r _ [104, 105, 106, 123, 124, 125, 126, 127, 128, 129, 130, 131, 132, 133, 134, 135, 136, 137, 138, 139, 140, 141, 142, 143, 144, 145, 146, 147, 148, 149, 150, 151, 152, 153, 154, 155, 156, 157, 158, 159, 160, 161, 162, 163, 164, 165, 166, 167] (by decide +kernel) (by decide +kernel)) (goodIn_sub (fun _ h => List.mem_cons_of_mem _ (List.mem_append_right _ h)) (by decide +kernel))
set_option maxRecDepth 20000 in
theorem gX11_end_X11_become : GoodIn wsX11_end (wsV RX11 405 RX11 yX11_become wsX11_become) := goodIn_app (goodIn_of _ (by decide +kernel)) ggX11_end_X11_become
theorem dX11_end_0 : decode cX11_end 0 = .ok (.aload_n 0, 1) := by decide +kernel
theorem dX11_end_1 : decode cX11_end 1 = .ok (.iconst 0, 1) := by decide +kernel
theorem dX11_end_2 : decode cX11_end 2 = .ok (.putfield 230, 3) := by decide +kernel
theorem dX11_end_5 : decode cX11_end 5 = .ok (.aload_n 0, 1) := by decide +kernel
theorem dX11_end_6 : decode cX11_end 6 = .ok (.getfield 375, 3) := by decide +kernel
theorem dX11_end_9 : decode cX11_end 9 = .ok (.istore_n 1, 1) := by decide +kernel
theorem dX11_end_10 : decode cX11_end 10 = .ok (.aload_n 0, 1) := by decide +kernel
theorem dX11_end_11 : decode cX11_end 11 = .ok (.iconst 0, 1) := by decide +kernel
theorem dX11_end_12 : decode cX11_end 12 = .ok (.putfield 375, 3) := by decide +kernel
theorem dX11_end_15 : decode cX11_end 15 = .ok (.iload_n 1, 1) := by decide +kernel
theorem dX11_end_16 : decode cX11_end 16 = .ok (.ifCond .ne 5, 3) := by decide +kernel
theorem dX11_end_19 : decode cX11_end 19 = .ok (.iconst (-1), 1) := by decide +kernel
theorem dX11_end_20 : decode cX11_end 20 = .ok (.ireturn, 1) := by decide +kernel
theorem dX11_end_21 : decode cX11_end 21 = .ok (.aload_n 0, 1) := by decide +kernel
theorem dX11_end_22 : decode cX11_end 22 = .ok (.getfield 223, 3) := by decide +kernel
theorem dX11_end_25 : decode cX11_end 25 = .ok (.iconst 2, 1) := by decide +kernel
theorem dX11_end_26 : decode cX11_end 26 = .ok (.if_icmp .ne 24, 3) := by decide +kernel
theorem dX11_end_29 : decode cX11_end 29 = .ok (.aload_n 0, 1) := by decide +kernel
theorem dX11_end_30 : decode cX11_end 30 = .ok (.getfield 412, 3) := by decide +kernel
theorem dX11_end_33 : decode cX11_end 33 = .ok (.ifCond .eq 11, 3) := by decide +kernel
theorem dX11_end_36 : decode cX11_end 36 = .ok (.aload_n 0, 1) := by decide +kernel
theorem dX11_end_37 : decode cX11_end 37 = .ok (.iload_n 1, 1) := by decide +kernel
theorem dX11_end_38 : decode cX11_end 38 = .ok (.invokevirtual 415, 3) := by decide +kernel
theorem dX11_end_41 : decode cX11_end 41 = .ok (.goto 8, 3) := by decide +kernel
theorem dX11_end_44 : decode cX11_end 44 = .ok (.aload_n 0, 1) := by decide +kernel
theorem dX11_end_45 : decode cX11_end 45 = .ok (.iload_n 1, 1) := by decide +kernel
theorem dX11_end_46 : decode cX11_end 46 = .ok (.invokevirtual 418, 3) := by decide +kernel
theorem dX11_end_49 : decode cX11_end 49 = .ok (.ireturn, 1) := by decide +kernel
theorem dX11_end_50 : decode cX11_end 50 = .ok (.aload_n 0, 1) := by decide +kernel
theorem dX11_end_51 : decode cX11_end 51 = .ok (.getfield 223, 3) := by decide +kernel
theorem dX11_end_54 : decode cX11_end 54 = .ok (.iconst 1, 1) := by decide +kernel
theorem dX11_end_55 : decode cX11_end 55 = .ok (.if_icmp .ne 29, 3) := by decide +kernel
theorem dX11_end_58 : decode cX11_end 58 = .ok (.aload_n 0, 1) := by decide +kernel
theorem dX11_end_59 : decode cX11_end 59 = .ok (.aload_n 0, 1) := by decide +kernel
theorem dX11_end_60 : decode cX11_end 60 = .ok (.getfield 409, 3) := by decide +kernel
theorem dX11_end_63 : decode cX11_end 63 = .ok (.iconst 0, 1) := by decide +kernel
theorem dX11_end_64 : decode cX11_end 64 = .ok (.invokevirtual 402, 3) := by decide +kernel
theorem dX11_end_67 : decode cX11_end 67 = .ok (.istore_n 2, 1) := by decide +kernel
theorem dX11_end_68 : decode cX11_end 68 = .ok (.aload_n 0, 1) := by decide +kernel
theorem dX11_end_69 : decode cX11_end 69 = .ok (.aload_n 0, 1) := by decide +kernel
theorem dX11_end_70 : decode cX11_end 70 = .ok (.getfield 43, 3) := by decide +kernel
theorem dX11_end_73 : decode cX11_end 73 = .ok (.iload_n 2, 1) := by decide +kernel
theorem dX11_end_74 : decode cX11_end 74 = .ok (.iconst 0, 1) := by decide +kernel
theorem dX11_end_75 : decode cX11_end 75 = .ok (.aload_n 0, 1) := by decide +kernel
theorem dX11_end_76 : decode cX11_end 76 = .ok (.getfield 34, 3) := by decide +kernel
theorem dX11_end_79 : decode cX11_end 79 = .ok (.iconst 0, 1) := by decide +kernel
theorem dX11_end_80 : decode cX11_end 80 = .ok (.iload_n 1, 1) := by decide +kernel
theorem dX11_end_81 : decode cX11_end 81 = .ok (.invokevirtual 316, 3) := by decide +kernel
theorem dX11_end_84 : decode cX11_end 84 = .ok (.aload_n 0, 1) := by decide +kernel
theorem dX11_end_85 : decode cX11_end 85 = .ok (.aload_n 0, 1) := by decide +kernel
theorem dX11_end_86 : decode cX11_end 86 = .ok (.getfield 34, 3) := by decide +kernel
theorem dX11_end_89 : decode cX11_end 89 = .ok (.iconst 0, 1) := by decide +kernel
theorem dX11_end_90 : decode cX11_end 90 = .ok (.iload_n 1, 1) := by decide +kernel
theorem dX11_end_91 : decode cX11_end 91 = .ok (.invokevirtual 405, 3) := by decide +kernel
theorem dX11_end_94 : decode cX11_end 94 = .ok (.ireturn, 1) := by decide +kernel
theorem dX11_out_0 : decode cX11_out 0 = .ok (.aload_n 0, 1) := by decide +kernel
theorem dX11_out_1 : decode cX11_out 1 = .ok (.iload_n 1, 1) := by decide +kernel
theorem dX11_out_2 : decode cX11_out 2 = .ok (.ifCond .lt 11, 3) := by decide +kernel
theorem dX11_out_5 : decode cX11_out 5 = .ok (.iload_n 1, 1) := by decide +kernel
theorem dX11_out_6 : decode cX11_out 6 = .ok (.aload_n 0, 1) := by decide +kernel
theorem dX11_out_7 : decode cX11_out 7 = .ok (.getfield 399, 3) := by decide +kernel
theorem dX11_out_10 : decode cX11_out 10 = .ok (.if_icmp .lt 7, 3) := by decide +kernel
theorem dX11_out_13 : decode cX11_out 13 = .ok (.iconst 1, 1) := by decide +kernel
theorem dX11_out_14 : decode cX11_out 14 = .ok (.goto 4, 3) := by decide +kernel
theorem dX11_out_17 : decode cX11_out 17 = .ok (.iconst 0, 1) := by decide +kernel
theorem dX11_out_18 : decode cX11_out 18 = .ok (.putfield 230, 3) := by decide +kernel
theorem dX11_out_21 : decode cX11_out 21 = .ok (.aload_n 0, 1) := by decide +kernel
theorem dX11_out_22 : decode cX11_out 22 = .ok (.getfield 230, 3) := by decide +kernel
theorem dX11_out_25 : decode cX11_out 25 = .ok (.ifCond .le 7, 3) := by decide +kernel
theorem dX11_out_28 : decode cX11_out 28 = .ok (.iconst 0, 1) := by decide +kernel
theorem dX11_out_29 : decode cX11_out 29 = .ok (.goto 10, 3) := by decide +kernel
theorem dX11_out_32 : decode cX11_out 32 = .ok (.aload_n 0, 1) := by decide +kernel
theorem dX11_out_33 : decode cX11_out 33 = .ok (.getfield 37, 3) := by decide +kernel
theorem dX11_out_36 : decode cX11_out 36 = .ok (.iload_n 1, 1) := by decide +kernel
theorem dX11_out_37 : decode cX11_out 37 = .ok (.iaload, 1) := by decide +kernel
theorem dX11_out_38 : decode cX11_out 38 = .ok (.i2b, 1) := by decide +kernel
theorem dX11_out_39 : decode cX11_out 39 = .ok (.ireturn, 1) := by decide +kernel
set_option maxRecDepth 20000 in
theorem ggX11_digest_X11_sayRow : GoodIn wsX11_digest wsX11_sayRow := goodIn_ca (goodIn_r _ [10, 11, 12, 13, 9, 14, 15, 2, 65, 66, 67, 68, 69, 70, 71, 72, 73, 74, 75, 76, 77, 78, 79, 80, 81, 82, 83, 84, 85, 86, 87, 88, 89, 90, 91, 92, 93, 94, 95, 96, 97, 98, 99, 100, 101, 102, 103, 104, 105, 106, 107, 108, 109] (by decide +kernel) (by decide +kernel)) (goodIn_sub (fun _ h => List.mem_cons_of_mem _ (List.mem_append_right _ h)) (by decide +kernel))
set_option maxRecDepth 20000 in
theorem gX11_digest_X11_sayRow : GoodIn wsX11_digest (wsV RX11 292 RX11 yX11_sayRow wsX11_sayRow) := goodIn_app (goodIn_of _ (by decide +kernel)) ggX11_digest_X11_sayRow
set_option maxRecDepth 20000 in
theorem ggX11_digest_X11_small : GoodIn wsX11_digest wsX11_small := goodIn_ca (goodIn_r _ [19, 20, 21, 22, 23, 24, 25, 26, 27, 28, 29, 9, 30, 2, 11, 12, 13, 14, 15, 31, 32, 33, 34, 35, 36, 37, 38, 39, 40, 41, 42, 43, 44, 5, 65, 66, 67, 68, 69, 70, 71, 72, 73, 74, 75, 76, 77, 78, 79, 80, 81, 82, 83, 84, 85, 86, 87, 88, 89, 90, 91, 92, 93, 94, 95, 96, 97, 98, 99, 100, 101, 102, 103, 104, 105, 106, 107, 108, 109] (by decide +kernel) (by decide +kernel)) (goodIn_sub (fun _ h => List.mem_cons_of_mem _ (List.mem_append_right _ h)) (by decide +kernel))
set_option maxRecDepth 20000 in
theorem gX11_digest_X11_small : GoodIn wsX11_digest (wsV RX11 296 RX11 yX11_small wsX11_small) := goodIn_app (goodIn_of _ (by decide +kernel)) ggX11_digest_X11_small
set_option maxRecDepth 20000 in
theorem ggX11_digest_X11_great : GoodIn wsX11_digest wsX11_great := goodIn_ca (goodIn_r _ [48, 20, 49, 50, 51, 52, 53, 54, 55, 56, 26, 57, 58, 27, 28, 29, 9, 30, 2, 11, 12, 13, 14, 15, 31, 32, 33, 34, 38, 39, 40, 41, 42, 43, 44, 5, 65, 66, 67, 68, 69, 70, 71, 72, 73, 74, 75, 76, 77, 78, 79, 80, 81, 82, 83, 84, 85, 86, 87, 88, 89, 90, 91, 92, 93, 94, 95, 96, 97, 98, 99, 100, 101, 102, 103, 104, 105, 106, 107, 108, 109] (by decide +kernel) (by decide +kernel)) (goodIn_sub (fun _ h => List.mem_cons_of_mem _ (List.mem_append_right _ h)) (by decide +kernel))
set_option maxRecDepth 20000 in
theorem gX11_digest_X11_great : GoodIn wsX11_digest (wsV RX11 349 RX11 yX11_great wsX11_great) := goodIn_app (goodIn_of _ (by decide +kernel)) ggX11_digest_X11_great
set_option maxRecDepth 20000 in
theorem ggX11_digest_X11_become : GoodIn wsX11_digest wsX11_become := goodIn_ca (goodIn_r _ [62, 63, 64, 65, 66, 67, 68, 69, 70, 71, 72, 73, 74, 75, 76, 77, 78, 79, 80, 81, 82, 83, 84, 85, 86, 87, 88, 89, 90, 91, 92, 93, 94, 95, 96, 97, 98, 99, 100, 101, 102, 103, 104, 105, 106, 107, 108, 109] (by decide +kernel) (by decide +kernel)) (goodIn_sub (fun _ h => List.mem_cons_of_mem _ (List.mem_append_right _ h)) (by decide +kernel))
set_option maxRecDepth 20000 in
theorem gX11_digest_X11_become : GoodIn wsX11_digest (wsV RX11 405 RX11 yX11_become wsX11_become) := goodIn_app (goodIn_of _ (by decide +kernel)) ggX11_digest_X11_become
theorem dX11_digest_0 : decode cX11_digest 0 = .ok (.aload_n 0, 1) := by decide +kernel
theorem dX11_digest_1 : decode cX11_digest 1 = .ok (.iload_n 1, 1) := by decide +kernel
theorem dX11_digest_2 : decode cX11_digest 2 = .ok (.ifCond .lt 8, 3) := by decide +kernel
theorem dX11_digest_5 : decode cX11_digest 5 = .ok (.iload_n 1, 1) := by decide +kernel
theorem dX11_digest_6 : decode cX11_digest 6 = .ok (.iconst 1, 1) := by decide +kernel
theorem dX11_digest_7 : decode cX11_digest 7 = .ok (.if_icmp .le 7, 3) := by decide +kernel
theorem dX11_digest_10 : decode cX11_digest 10 = .ok (.iconst 1, 1) := by decide +kernel
theorem dX11_digest_11 : decode cX11_digest 11 = .ok (.goto 4, 3) := by decide +kernel
theorem dX11_digest_14 : decode cX11_digest 14 = .ok (.iconst 0, 1) := by decide +kernel
theorem dX11_digest_15 : decode cX11_digest 15 = .ok (.putfield 230, 3) := by decide +kernel
theorem dX11_digest_18 : decode cX11_digest 18 = .ok (.aload_n 0, 1) := by decide +kernel
theorem dX11_digest_19 : decode cX11_digest 19 = .ok (.getfield 230, 3) := by decide +kernel
theorem dX11_digest_22 : decode cX11_digest 22 = .ok (.ifCond .le 5, 3) := by decide +kernel
theorem dX11_digest_25 : decode cX11_digest 25 = .ok (.iconst 0, 1) := by decide +kernel
theorem dX11_digest_26 : decode cX11_digest 26 = .ok (.ireturn, 1) := by decide +kernel
theorem dX11_digest_27 : decode cX11_digest 27 = .ok (.aload_n 0, 1) := by decide +kernel
theorem dX11_digest_28 : decode cX11_digest 28 = .ok (.iconst 0, 1) := by decide +kernel
theorem dX11_digest_29 : decode cX11_digest 29 = .ok (.putfield 233, 3) := by decide +kernel
