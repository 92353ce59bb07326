theorem dX7_turn_59 : decode cX7_turn 59 = .ok (.iload 6, 2) := by decide +kernel
theorem dX7_turn_61 : decode cX7_turn 61 = .ok (.aload_n 3, 1) := by decide +kernel
theorem dX7_turn_62 : decode cX7_turn 62 = .ok (.iload 6, 2) := by decide +kernel
theorem dX7_turn_64 : decode cX7_turn 64 = .ok (.invokevirtual 27, 3) := by decide +kernel
theorem dX7_turn_67 : decode cX7_turn 67 = .ok (.aload_n 0, 1) := by decide +kernel
theorem dX7_turn_68 : decode cX7_turn 68 = .ok (.getfield 7, 3) := by decide +kernel
theorem dX7_turn_71 : decode cX7_turn 71 = .ok (.aload_n 0, 1) := by decide +kernel
theorem dX7_turn_72 : decode cX7_turn 72 = .ok (.getfield 7, 3) := by decide +kernel
theorem dX7_turn_75 : decode cX7_turn 75 = .ok (.iload 4, 2) := by decide +kernel
theorem dX7_turn_77 : decode cX7_turn 77 = .ok (.iaload, 1) := by decide +kernel
theorem dX7_turn_78 : decode cX7_turn 78 = .ok (.aload_n 0, 1) := by decide +kernel
theorem dX7_turn_79 : decode cX7_turn 79 = .ok (.getfield 7, 3) := by decide +kernel
theorem dX7_turn_82 : decode cX7_turn 82 = .ok (.iload 5, 2) := by decide +kernel
theorem dX7_turn_84 : decode cX7_turn 84 = .ok (.iaload, 1) := by decide +kernel
theorem dX7_turn_85 : decode cX7_turn 85 = .ok (.iadd, 1) := by decide +kernel
theorem dX7_turn_86 : decode cX7_turn 86 = .ok (.sipush 255, 3) := by decide +kernel
theorem dX7_turn_89 : decode cX7_turn 89 = .ok (.iand, 1) := by decide +kernel
theorem dX7_turn_90 : decode cX7_turn 90 = .ok (.iaload, 1) := by decide +kernel
theorem dX7_turn_91 : decode cX7_turn 91 = .ok (.ixor, 1) := by decide +kernel
theorem dX7_turn_92 : decode cX7_turn 92 = .ok (.invokevirtual 31, 3) := by decide +kernel
theorem dX7_turn_95 : decode cX7_turn 95 = .ok (.iinc 6 1, 3) := by decide +kernel
theorem dX7_turn_98 : decode cX7_turn 98 = .ok (.goto (-83), 3) := by decide +kernel
theorem dX7_turn_101 : decode cX7_turn 101 = .ok (.return_, 1) := by decide +kernel
set_option maxRecDepth 20000 in
theorem ggX7_mixKey_X5_at : GoodIn wsX7_mixKey wsX5_at := goodIn_ca (goodIn_r _ [6, 7, 8, 19, 20] (by decide +kernel) (by decide +kernel)) (goodIn_sub (fun _ h => List.mem_cons_of_mem _ (List.mem_append_right _ h)) (by decide +kernel))
set_option maxRecDepth 20000 in
theorem gX7_mixKey_X5_at : GoodIn wsX7_mixKey (wsV RX7 27 RX5 yX5_at wsX5_at) := goodIn_app (goodIn_of _ (by decide +kernel)) ggX7_mixKey_X5_at
set_option maxRecDepth 20000 in
theorem ggX7_mixKey_X7_swap : GoodIn wsX7_mixKey wsX7_swap := goodIn_ca (goodIn_r _ [13, 1, 18] (by decide +kernel) (by decide +kernel)) (goodIn_sub (fun _ h => List.mem_cons_of_mem _ (List.mem_append_right _ h)) (by decide +kernel))
set_option maxRecDepth 20000 in
theorem gX7_mixKey_X7_swap : GoodIn wsX7_mixKey (wsV RX7 23 RX7 yX7_swap wsX7_swap) := goodIn_app (goodIn_of _ (by decide +kernel)) ggX7_mixKey_X7_swap
set_option maxRecDepth 20000 in
theorem ggX7_mixKey_X5_count : GoodIn wsX7_mixKey wsX5_count := goodIn_r _ [17, 7, 19, 20] (by decide +kernel) (by decide +kernel)
set_option maxRecDepth 20000 in
theorem gX7_mixKey_X5_count : GoodIn wsX7_mixKey (wsV RX7 17 RX5 yX5_count wsX5_count) := goodIn_app (goodIn_of _ (by decide +kernel)) ggX7_mixKey_X5_count
theorem dX7_mixKey_0 : decode cX7_mixKey 0 = .ok (.iconst 0, 1) := by decide +kernel
theorem dX7_mixKey_1 : decode cX7_mixKey 1 = .ok (.istore_n 3, 1) := by decide +kernel
theorem dX7_mixKey_2 : decode cX7_mixKey 2 = .ok (.iload_n 3, 1) := by decide +kernel
theorem dX7_mixKey_3 : decode cX7_mixKey 3 = .ok (.sipush 256, 3) := by decide +kernel
theorem dX7_mixKey_6 : decode cX7_mixKey 6 = .ok (.if_icmp .ge 16, 3) := by decide +kernel
theorem dX7_mixKey_9 : decode cX7_mixKey 9 = .ok (.aload_n 0, 1) := by decide +kernel
theorem dX7_mixKey_10 : decode cX7_mixKey 10 = .ok (.getfield 7, 3) := by decide +kernel
theorem dX7_mixKey_13 : decode cX7_mixKey 13 = .ok (.iload_n 3, 1) := by decide +kernel
theorem dX7_mixKey_14 : decode cX7_mixKey 14 = .ok (.iload_n 3, 1) := by decide +kernel
theorem dX7_mixKey_15 : decode cX7_mixKey 15 = .ok (.iastore, 1) := by decide +kernel
theorem dX7_mixKey_16 : decode cX7_mixKey 16 = .ok (.iinc 3 1, 3) := by decide +kernel
theorem dX7_mixKey_19 : decode cX7_mixKey 19 = .ok (.goto (-17), 3) := by decide +kernel
theorem dX7_mixKey_22 : decode cX7_mixKey 22 = .ok (.iconst 0, 1) := by decide +kernel
theorem dX7_mixKey_23 : decode cX7_mixKey 23 = .ok (.istore_n 3, 1) := by decide +kernel
theorem dX7_mixKey_24 : decode cX7_mixKey 24 = .ok (.iconst 0, 1) := by decide +kernel
theorem dX7_mixKey_25 : decode cX7_mixKey 25 = .ok (.istore 4, 2) := by decide +kernel
theorem dX7_mixKey_27 : decode cX7_mixKey 27 = .ok (.iconst 0, 1) := by decide +kernel
theorem dX7_mixKey_28 : decode cX7_mixKey 28 = .ok (.istore 5, 2) := by decide +kernel
theorem dX7_mixKey_30 : decode cX7_mixKey 30 = .ok (.iload 5, 2) := by decide +kernel
theorem dX7_mixKey_32 : decode cX7_mixKey 32 = .ok (.sipush 256, 3) := by decide +kernel
theorem dX7_mixKey_35 : decode cX7_mixKey 35 = .ok (.if_icmp .ge 60, 3) := by decide +kernel
theorem dX7_mixKey_38 : decode cX7_mixKey 38 = .ok (.iload_n 3, 1) := by decide +kernel
theorem dX7_mixKey_39 : decode cX7_mixKey 39 = .ok (.aload_n 0, 1) := by decide +kernel
theorem dX7_mixKey_40 : decode cX7_mixKey 40 = .ok (.getfield 7, 3) := by decide +kernel
theorem dX7_mixKey_43 : decode cX7_mixKey 43 = .ok (.iload 5, 2) := by decide +kernel
theorem dX7_mixKey_45 : decode cX7_mixKey 45 = .ok (.iaload, 1) := by decide +kernel
theorem dX7_mixKey_46 : decode cX7_mixKey 46 = .ok (.iadd, 1) := by decide +kernel
theorem dX7_mixKey_47 : decode cX7_mixKey 47 = .ok (.aload_n 1, 1) := by decide +kernel
theorem dX7_mixKey_48 : decode cX7_mixKey 48 = .ok (.iload 4, 2) := by decide +kernel
theorem dX7_mixKey_50 : decode cX7_mixKey 50 = .ok (.invokevirtual 27, 3) := by decide +kernel
theorem dX7_mixKey_53 : decode cX7_mixKey 53 = .ok (.iload_n 2, 1) := by decide +kernel
theorem dX7_mixKey_54 : decode cX7_mixKey 54 = .ok (.ixor, 1) := by decide +kernel
theorem dX7_mixKey_55 : decode cX7_mixKey 55 = .ok (.iadd, 1) := by decide +kernel
theorem dX7_mixKey_56 : decode cX7_mixKey 56 = .ok (.sipush 255, 3) := by decide +kernel
theorem dX7_mixKey_59 : decode cX7_mixKey 59 = .ok (.iand, 1) := by decide +kernel
theorem dX7_mixKey_60 : decode cX7_mixKey 60 = .ok (.istore_n 3, 1) := by decide +kernel
theorem dX7_mixKey_61 : decode cX7_mixKey 61 = .ok (.aload_n 0, 1) := by decide +kernel
theorem dX7_mixKey_62 : decode cX7_mixKey 62 = .ok (.iload 5, 2) := by decide +kernel
theorem dX7_mixKey_64 : decode cX7_mixKey 64 = .ok (.iload_n 3, 1) := by decide +kernel
theorem dX7_mixKey_65 : decode cX7_mixKey 65 = .ok (.invokevirtual 23, 3) := by decide +kernel
theorem dX7_mixKey_68 : decode cX7_mixKey 68 = .ok (.iload 4, 2) := by decide +kernel
theorem dX7_mixKey_70 : decode cX7_mixKey 70 = .ok (.iconst 1, 1) := by decide +kernel
theorem dX7_mixKey_71 : decode cX7_mixKey 71 = .ok (.iadd, 1) := by decide +kernel
theorem dX7_mixKey_72 : decode cX7_mixKey 72 = .ok (.aload_n 1, 1) := by decide +kernel
theorem dX7_mixKey_73 : decode cX7_mixKey 73 = .ok (.invokevirtual 17, 3) := by decide +kernel
theorem dX7_mixKey_76 : decode cX7_mixKey 76 = .ok (.if_icmp .ge 10, 3) := by decide +kernel
theorem dX7_mixKey_79 : decode cX7_mixKey 79 = .ok (.iload 4, 2) := by decide +kernel
theorem dX7_mixKey_81 : decode cX7_mixKey 81 = .ok (.iconst 1, 1) := by decide +kernel
theorem dX7_mixKey_82 : decode cX7_mixKey 82 = .ok (.iadd, 1) := by decide +kernel
theorem dX7_mixKey_83 : decode cX7_mixKey 83 = .ok (.goto 4, 3) := by decide +kernel
theorem dX7_mixKey_86 : decode cX7_mixKey 86 = .ok (.iconst 0, 1) := by decide +kernel
theorem dX7_mixKey_87 : decode cX7_mixKey 87 = .ok (.istore 4, 2) := by decide +kernel
theorem dX7_mixKey_89 : decode cX7_mixKey 89 = .ok (.iinc 5 1, 3) := by decide +kernel
theorem dX7_mixKey_92 : decode cX7_mixKey 92 = .ok (.goto (-62), 3) := by decide +kernel
theorem dX7_mixKey_95 : decode cX7_mixKey 95 = .ok (.return_, 1) := by decide +kernel
theorem dX7_swap_0 : decode cX7_swap 0 = .ok (.aload_n 0, 1) := by decide +kernel
theorem dX7_swap_1 : decode cX7_swap 1 = .ok (.getfield 7, 3) := by decide +kernel
theorem dX7_swap_4 : decode cX7_swap 4 = .ok (.iload_n 1, 1) := by decide +kernel
theorem dX7_swap_5 : decode cX7_swap 5 = .ok (.sipush 255, 3) := by decide +kernel
theorem dX7_swap_8 : decode cX7_swap 8 = .ok (.iand, 1) := by decide +kernel
theorem dX7_swap_9 : decode cX7_swap 9 = .ok (.iaload, 1) := by decide +kernel
theorem dX7_swap_10 : decode cX7_swap 10 = .ok (.istore_n 3, 1) := by decide +kernel
theorem dX7_swap_11 : decode cX7_swap 11 = .ok (.aload_n 0, 1) := by decide +kernel
theorem dX7_swap_12 : decode cX7_swap 12 = .ok (.getfield 7, 3) := by decide +kernel
theorem dX7_swap_15 : decode cX7_swap 15 = .ok (.iload_n 1, 1) := by decide +kernel
theorem dX7_swap_16 : decode cX7_swap 16 = .ok (.sipush 255, 3) := by decide +kernel
theorem dX7_swap_19 : decode cX7_swap 19 = .ok (.iand, 1) := by decide +kernel
theorem dX7_swap_20 : decode cX7_swap 20 = .ok (.aload_n 0, 1) := by decide +kernel
theorem dX7_swap_21 : decode cX7_swap 21 = .ok (.getfield 7, 3) := by decide +kernel
theorem dX7_swap_24 : decode cX7_swap 24 = .ok (.iload_n 2, 1) := by decide +kernel
theorem dX7_swap_25 : decode cX7_swap 25 = .ok (.sipush 255, 3) := by decide +kernel
theorem dX7_swap_28 : decode cX7_swap 28 = .ok (.iand, 1) := by decide +kernel
theorem dX7_swap_29 : decode cX7_swap 29 = .ok (.iaload, 1) := by decide +kernel
theorem dX7_swap_30 : decode cX7_swap 30 = .ok (.iastore, 1) := by decide +kernel
theorem dX7_swap_31 : decode cX7_swap 31 = .ok (.aload_n 0, 1) := by decide +kernel
theorem dX7_swap_32 : decode cX7_swap 32 = .ok (.getfield 7, 3) := by decide +kernel
theorem dX7_swap_35 : decode cX7_swap 35 = .ok (.iload_n 2, 1) := by decide +kernel
theorem dX7_swap_36 : decode cX7_swap 36 = .ok (.sipush 255, 3) := by decide +kernel
theorem dX7_swap_39 : decode cX7_swap 39 = .ok (.iand, 1) := by decide +kernel
theorem dX7_swap_40 : decode cX7_swap 40 = .ok (.iload_n 3, 1) := by decide +kernel
theorem dX7_swap_41 : decode cX7_swap 41 = .ok (.iastore, 1) := by decide +kernel
theorem dX7_swap_42 : decode cX7_swap 42 = .ok (.return_, 1) := by decide +kernel
set_option maxRecDepth 20000 in
theorem ggX8_init_X6_init : GoodIn wsX8_init wsX6_init := goodIn_r _ [26, 27, 2, 3, 28, 29, 30, 56, 57] (by decide +kernel) (by decide +kernel)
set_option maxRecDepth 20000 in
theorem gX8_init_X6_init_n11 : GoodIn wsX8_init (wsX6_init) := ggX8_init_X6_init
set_option maxRecDepth 20000 in
theorem ggX8_init_X2_init : GoodIn wsX8_init wsX2_init := goodIn_r _ [32, 33, 2, 3, 28, 34, 35, 64, 65] (by decide +kernel) (by decide +kernel)
set_option maxRecDepth 20000 in
theorem gX8_init_X2_init_n20 : GoodIn wsX8_init (wsX2_init) := ggX8_init_X2_init
set_option maxRecDepth 20000 in
theorem ggX8_init_X7_init : GoodIn wsX8_init wsX7_init := goodIn_r _ [37, 38, 2, 3, 28, 39, 66] (by decide +kernel) (by decide +kernel)
set_option maxRecDepth 20000 in
theorem gX8_init_X7_init_n27 : GoodIn wsX8_init (wsX7_init) := ggX8_init_X7_init
set_option maxRecDepth 20000 in
theorem ggX8_init_X0_init : GoodIn wsX8_init wsX0_init := goodIn_r _ [41, 42, 2, 3, 28, 43, 44, 45, 46, 67, 68, 69, 70, 71] (by decide +kernel) (by decide +kernel)
set_option maxRecDepth 20000 in
theorem gX8_init_X0_init_n34 : GoodIn wsX8_init (wsX0_init) := ggX8_init_X0_init
set_option maxRecDepth 20000 in
theorem ggX8_init_X5_init : GoodIn wsX8_init wsX5_init := goodIn_r _ [49, 50, 2, 3, 51, 52, 53, 54, 28, 55, 72, 73] (by decide +kernel) (by decide +kernel)
set_option maxRecDepth 20000 in
theorem gX8_init_X5_init : GoodIn wsX8_init (wsX5_init) := ggX8_init_X5_init
theorem dX8_init_0 : decode cX8_init 0 = .ok (.aload_n 0, 1) := by decide +kernel
theorem dX8_init_1 : decode cX8_init 1 = .ok (.invokespecial 3, 3) := by decide +kernel
theorem dX8_init_4 : decode cX8_init 4 = .ok (.aload_n 0, 1) := by decide +kernel
theorem dX8_init_5 : decode cX8_init 5 = .ok (.new 9, 3) := by decide +kernel
theorem dX8_init_8 : decode cX8_init 8 = .ok (.dup, 1) := by decide +kernel
theorem dX8_init_9 : decode cX8_init 9 = .ok (.invokespecial 11, 3) := by decide +kernel
theorem dX8_init_12 : decode cX8_init 12 = .ok (.putfield 12, 3) := by decide +kernel
theorem dX8_init_15 : decode cX8_init 15 = .ok (.aload_n 0, 1) := by decide +kernel
theorem dX8_init_16 : decode cX8_init 16 = .ok (.new 18, 3) := by decide +kernel
theorem dX8_init_19 : decode cX8_init 19 = .ok (.dup, 1) := by decide +kernel
theorem dX8_init_20 : decode cX8_init 20 = .ok (.invokespecial 20, 3) := by decide +kernel
theorem dX8_init_23 : decode cX8_init 23 = .ok (.putfield 21, 3) := by decide +kernel
theorem dX8_init_26 : decode cX8_init 26 = .ok (.aload_n 0, 1) := by decide +kernel
theorem dX8_init_27 : decode cX8_init 27 = .ok (.new 25, 3) := by decide +kernel
theorem dX8_init_30 : decode cX8_init 30 = .ok (.dup, 1) := by decide +kernel
theorem dX8_init_31 : decode cX8_init 31 = .ok (.invokespecial 27, 3) := by decide +kernel
theorem dX8_init_34 : decode cX8_init 34 = .ok (.putfield 28, 3) := by decide +kernel
theorem dX8_init_37 : decode cX8_init 37 = .ok (.aload_n 0, 1) := by decide +kernel
theorem dX8_init_38 : decode cX8_init 38 = .ok (.new 32, 3) := by decide +kernel
theorem dX8_init_41 : decode cX8_init 41 = .ok (.dup, 1) := by decide +kernel
theorem dX8_init_42 : decode cX8_init 42 = .ok (.invokespecial 34, 3) := by decide +kernel
theorem dX8_init_45 : decode cX8_init 45 = .ok (.putfield 35, 3) := by decide +kernel
theorem dX8_init_48 : decode cX8_init 48 = .ok (.aload_n 0, 1) := by decide +kernel
theorem dX8_init_49 : decode cX8_init 49 = .ok (.new 39, 3) := by decide +kernel
theorem dX8_init_52 : decode cX8_init 52 = .ok (.dup, 1) := by decide +kernel
theorem dX8_init_53 : decode cX8_init 53 = .ok (.sipush 432, 3) := by decide +kernel
theorem dX8_init_56 : decode cX8_init 56 = .ok (.invokespecial 41, 3) := by decide +kernel
theorem dX8_init_59 : decode cX8_init 59 = .ok (.putfield 44, 3) := by decide +kernel
theorem dX8_init_62 : decode cX8_init 62 = .ok (.aload_n 0, 1) := by decide +kernel
theorem dX8_init_63 : decode cX8_init 63 = .ok (.new 39, 3) := by decide +kernel
theorem dX8_init_66 : decode cX8_init 66 = .ok (.dup, 1) := by decide +kernel
theorem dX8_init_67 : decode cX8_init 67 = .ok (.bipush 32, 2) := by decide +kernel
theorem dX8_init_69 : decode cX8_init 69 = .ok (.invokespecial 41, 3) := by decide +kernel
theorem dX8_init_72 : decode cX8_init 72 = .ok (.putfield 48, 3) := by decide +kernel
theorem dX8_init_75 : decode cX8_init 75 = .ok (.return_, 1) := by decide +kernel
set_option maxRecDepth 20000 in
theorem ggX9_init_X5_init : GoodIn wsX9_init wsX5_init := goodIn_r _ [18, 19, 2, 3, 20, 21, 22, 23, 24, 25, 26, 27] (by decide +kernel) (by decide +kernel)
set_option maxRecDepth 20000 in
theorem gX9_init_X5_init : GoodIn wsX9_init (wsX5_init) := ggX9_init_X5_init
theorem dX9_init_0 : decode cX9_init 0 = .ok (.aload_n 0, 1) := by decide +kernel
theorem dX9_init_1 : decode cX9_init 1 = .ok (.invokespecial 3, 3) := by decide +kernel
theorem dX9_init_4 : decode cX9_init 4 = .ok (.aload_n 0, 1) := by decide +kernel
theorem dX9_init_5 : decode cX9_init 5 = .ok (.new 9, 3) := by decide +kernel
theorem dX9_init_8 : decode cX9_init 8 = .ok (.dup, 1) := by decide +kernel
theorem dX9_init_9 : decode cX9_init 9 = .ok (.bipush 127, 2) := by decide +kernel
theorem dX9_init_11 : decode cX9_init 11 = .ok (.invokespecial 11, 3) := by decide +kernel
theorem dX9_init_14 : decode cX9_init 14 = .ok (.putfield 14, 3) := by decide +kernel
theorem dX9_init_17 : decode cX9_init 17 = .ok (.aload_n 0, 1) := by decide +kernel
theorem dX9_init_18 : decode cX9_init 18 = .ok (.new 9, 3) := by decide +kernel
theorem dX9_init_21 : decode cX9_init 21 = .ok (.dup, 1) := by decide +kernel
theorem dX9_init_22 : decode cX9_init 22 = .ok (.bipush 127, 2) := by decide +kernel
theorem dX9_init_24 : decode cX9_init 24 = .ok (.invokespecial 11, 3) := by decide +kernel
theorem dX9_init_27 : decode cX9_init 27 = .ok (.putfield 20, 3) := by decide +kernel
theorem dX9_init_30 : decode cX9_init 30 = .ok (.aload_n 0, 1) := by decide +kernel
theorem dX9_init_31 : decode cX9_init 31 = .ok (.new 9, 3) := by decide +kernel
theorem dX9_init_34 : decode cX9_init 34 = .ok (.dup, 1) := by decide +kernel
theorem dX9_init_35 : decode cX9_init 35 = .ok (.bipush 127, 2) := by decide +kernel
theorem dX9_init_37 : decode cX9_init 37 = .ok (.invokespecial 11, 3) := by decide +kernel
theorem dX9_init_40 : decode cX9_init 40 = .ok (.putfield 23, 3) := by decide +kernel
theorem dX9_init_43 : decode cX9_init 43 = .ok (.aload_n 0, 1) := by decide +kernel
theorem dX9_init_44 : decode cX9_init 44 = .ok (.new 9, 3) := by decide +kernel
theorem dX9_init_47 : decode cX9_init 47 = .ok (.dup, 1) := by decide +kernel
theorem dX9_init_48 : decode cX9_init 48 = .ok (.bipush 32, 2) := by decide +kernel
theorem dX9_init_50 : decode cX9_init 50 = .ok (.invokespecial 11, 3) := by decide +kernel
theorem dX9_init_53 : decode cX9_init 53 = .ok (.putfield 26, 3) := by decide +kernel
theorem dX9_init_56 : decode cX9_init 56 = .ok (.aload_n 0, 1) := by decide +kernel
theorem dX9_init_57 : decode cX9_init 57 = .ok (.new 9, 3) := by decide +kernel
theorem dX9_init_60 : decode cX9_init 60 = .ok (.dup, 1) := by decide +kernel
theorem dX9_init_61 : decode cX9_init 61 = .ok (.sipush 400, 3) := by decide +kernel
theorem dX9_init_64 : decode cX9_init 64 = .ok (.invokespecial 11, 3) := by decide +kernel
theorem dX9_init_67 : decode cX9_init 67 = .ok (.putfield 29, 3) := by decide +kernel
theorem dX9_init_70 : decode cX9_init 70 = .ok (.aload_n 0, 1) := by decide +kernel
theorem dX9_init_71 : decode cX9_init 71 = .ok (.new 9, 3) := by decide +kernel
theorem dX9_init_74 : decode cX9_init 74 = .ok (.dup, 1) := by decide +kernel
theorem dX9_init_75 : decode cX9_init 75 = .ok (.bipush 32, 2) := by decide +kernel
theorem dX9_init_77 : decode cX9_init 77 = .ok (.invokespecial 11, 3) := by decide +kernel
theorem dX9_init_80 : decode cX9_init 80 = .ok (.putfield 32, 3) := by decide +kernel
theorem dX9_init_83 : decode cX9_init 83 = .ok (.aload_n 0, 1) := by decide +kernel
theorem dX9_init_84 : decode cX9_init 84 = .ok (.new 9, 3) := by decide +kernel
theorem dX9_init_87 : decode cX9_init 87 = .ok (.dup, 1) := by decide +kernel
theorem dX9_init_88 : decode cX9_init 88 = .ok (.iconst 0, 1) := by decide +kernel
theorem dX9_init_89 : decode cX9_init 89 = .ok (.invokespecial 11, 3) := by decide +kernel
theorem dX9_init_92 : decode cX9_init 92 = .ok (.putfield 35, 3) := by decide +kernel
theorem dX9_init_95 : decode cX9_init 95 = .ok (.aload_n 0, 1) := by decide +kernel
theorem dX9_init_96 : decode cX9_init 96 = .ok (.iload_n 1, 1) := by decide +kernel
theorem dX9_init_97 : decode cX9_init 97 = .ok (.putfield 38, 3) := by decide +kernel
theorem dX9_init_100 : decode cX9_init 100 = .ok (.aload_n 0, 1) := by decide +kernel
theorem dX9_init_101 : decode cX9_init 101 = .ok (.iload_n 1, 1) := by decide +kernel
theorem dX9_init_102 : decode cX9_init 102 = .ok (.iconst 5, 1) := by decide +kernel
theorem dX9_init_103 : decode cX9_init 103 = .ok (.if_icmp .ne 7, 3) := by decide +kernel
theorem dX9_init_106 : decode cX9_init 106 = .ok (.iconst 5, 1) := by decide +kernel
theorem dX9_init_107 : decode cX9_init 107 = .ok (.goto 4, 3) := by decide +kernel
theorem dX9_init_110 : decode cX9_init 110 = .ok (.iconst 2, 1) := by decide +kernel
theorem dX9_init_111 : decode cX9_init 111 = .ok (.anewarray 9, 3) := by decide +kernel
theorem dX9_init_114 : decode cX9_init 114 = .ok (.putfield 42, 3) := by decide +kernel
theorem dX9_init_117 : decode cX9_init 117 = .ok (.iconst 0, 1) := by decide +kernel
theorem dX9_init_118 : decode cX9_init 118 = .ok (.istore_n 2, 1) := by decide +kernel
theorem dX9_init_119 : decode cX9_init 119 = .ok (.iload_n 2, 1) := by decide +kernel
theorem dX9_init_120 : decode cX9_init 120 = .ok (.aload_n 0, 1) := by decide +kernel
theorem dX9_init_121 : decode cX9_init 121 = .ok (.getfield 42, 3) := by decide +kernel
theorem dX9_init_124 : decode cX9_init 124 = .ok (.arraylength, 1) := by decide +kernel
theorem dX9_init_125 : decode cX9_init 125 = .ok (.if_icmp .ge 24, 3) := by decide +kernel
theorem dX9_init_128 : decode cX9_init 128 = .ok (.aload_n 0, 1) := by decide +kernel
theorem dX9_init_129 : decode cX9_init 129 = .ok (.getfield 42, 3) := by decide +kernel
theorem dX9_init_132 : decode cX9_init 132 = .ok (.iload_n 2, 1) := by decide +kernel
theorem dX9_init_133 : decode cX9_init 133 = .ok (.new 9, 3) := by decide +kernel
theorem dX9_init_136 : decode cX9_init 136 = .ok (.dup, 1) := by decide +kernel
theorem dX9_init_137 : decode cX9_init 137 = .ok (.bipush 48, 2) := by decide +kernel
theorem dX9_init_139 : decode cX9_init 139 = .ok (.invokespecial 11, 3) := by decide +kernel
theorem dX9_init_142 : decode cX9_init 142 = .ok (.aastore, 1) := by decide +kernel
theorem dX9_init_143 : decode cX9_init 143 = .ok (.iinc 2 1, 3) := by decide +kernel
theorem dX9_init_146 : decode cX9_init 146 = .ok (.goto (-27), 3) := by decide +kernel
theorem dX9_init_149 : decode cX9_init 149 = .ok (.return_, 1) := by decide +kernel
set_option maxRecDepth 20000 in
theorem ggX9_isOpen_X5_count : GoodIn wsX9_isOpen wsX5_count := goodIn_r _ [6, 7, 20, 21] (by decide +kernel) (by decide +kernel)
set_option maxRecDepth 20000 in
theorem gX9_isOpen_X5_count : GoodIn wsX9_isOpen (wsV RX9 46 RX5 yX5_count wsX5_count) := goodIn_app (goodIn_of _ (by decide +kernel)) ggX9_isOpen_X5_count
theorem dX9_isOpen_0 : decode cX9_isOpen 0 = .ok (.aload_n 0, 1) := by decide +kernel
theorem dX9_isOpen_1 : decode cX9_isOpen 1 = .ok (.getfield 32, 3) := by decide +kernel
theorem dX9_isOpen_4 : decode cX9_isOpen 4 = .ok (.invokevirtual 46, 3) := by decide +kernel
theorem dX9_isOpen_7 : decode cX9_isOpen 7 = .ok (.ifCond .le 7, 3) := by decide +kernel
theorem dX9_isOpen_10 : decode cX9_isOpen 10 = .ok (.iconst 1, 1) := by decide +kernel
theorem dX9_isOpen_11 : decode cX9_isOpen 11 = .ok (.goto 4, 3) := by decide +kernel
theorem dX9_isOpen_14 : decode cX9_isOpen 14 = .ok (.iconst 0, 1) := by decide +kernel
theorem dX9_isOpen_15 : decode cX9_isOpen 15 = .ok (.ireturn, 1) := by decide +kernel
set_option maxRecDepth 20000 in
theorem ggX9_isMade_X9_entryRow : GoodIn wsX9_isMade wsX9_entryRow := goodIn_r _ [5, 6, 7, 14, 15, 16, 17, 18, 19, 20, 21, 22, 23, 24, 25] (by decide +kernel) (by decide +kernel)
set_option maxRecDepth 20000 in
theorem gX9_isMade_X9_entryRow : GoodIn wsX9_isMade (wsV RX9 50 RX9 yX9_entryRow wsX9_entryRow) := goodIn_app (goodIn_of _ (by decide +kernel)) ggX9_isMade_X9_entryRow
set_option maxRecDepth 20000 in
theorem ggX9_isMade_X5_count : GoodIn wsX9_isMade wsX5_count := goodIn_r _ [12, 13, 26, 27] (by decide +kernel) (by decide +kernel)
set_option maxRecDepth 20000 in
theorem gX9_isMade_X5_count : GoodIn wsX9_isMade (wsV RX9 46 RX5 yX5_count wsX5_count) := goodIn_app (goodIn_of _ (by decide +kernel)) ggX9_isMade_X5_count
theorem dX9_isMade_0 : decode cX9_isMade 0 = .ok (.aload_n 0, 1) := by decide +kernel
theorem dX9_isMade_1 : decode cX9_isMade 1 = .ok (.iconst 0, 1) := by decide +kernel
theorem dX9_isMade_2 : decode cX9_isMade 2 = .ok (.invokevirtual 50, 3) := by decide +kernel
theorem dX9_isMade_5 : decode cX9_isMade 5 = .ok (.invokevirtual 46, 3) := by decide +kernel
theorem dX9_isMade_8 : decode cX9_isMade 8 = .ok (.ifCond .le 7, 3) := by decide +kernel
theorem dX9_isMade_11 : decode cX9_isMade 11 = .ok (.iconst 1, 1) := by decide +kernel
theorem dX9_isMade_12 : decode cX9_isMade 12 = .ok (.goto 4, 3) := by decide +kernel
theorem dX9_isMade_15 : decode cX9_isMade 15 = .ok (.iconst 0, 1) := by decide +kernel
theorem dX9_isMade_16 : decode cX9_isMade 16 = .ok (.ireturn, 1) := by decide +kernel
theorem dX9_entryCount_0 : decode cX9_entryCount 0 = .ok (.aload_n 0, 1) := by decide +kernel
theorem dX9_entryCount_1 : decode cX9_entryCount 1 = .ok (.getfield 42, 3) := by decide +kernel
theorem dX9_entryCount_4 : decode cX9_entryCount 4 = .ok (.arraylength, 1) := by decide +kernel
theorem dX9_entryCount_5 : decode cX9_entryCount 5 = .ok (.ireturn, 1) := by decide +kernel
theorem dX9_entryRow_0 : decode cX9_entryRow 0 = .ok (.iload_n 1, 1) := by decide +kernel
theorem dX9_entryRow_1 : decode cX9_entryRow 1 = .ok (.ifCond .lt 21, 3) := by decide +kernel
theorem dX9_entryRow_4 : decode cX9_entryRow 4 = .ok (.iload_n 1, 1) := by decide +kernel
theorem dX9_entryRow_5 : decode cX9_entryRow 5 = .ok (.aload_n 0, 1) := by decide +kernel
theorem dX9_entryRow_6 : decode cX9_entryRow 6 = .ok (.getfield 42, 3) := by decide +kernel
theorem dX9_entryRow_9 : decode cX9_entryRow 9 = .ok (.arraylength, 1) := by decide +kernel
theorem dX9_entryRow_10 : decode cX9_entryRow 10 = .ok (.if_icmp .ge 12, 3) := by decide +kernel
theorem dX9_entryRow_13 : decode cX9_entryRow 13 = .ok (.aload_n 0, 1) := by decide +kernel
theorem dX9_entryRow_14 : decode cX9_entryRow 14 = .ok (.getfield 42, 3) := by decide +kernel
theorem dX9_entryRow_17 : decode cX9_entryRow 17 = .ok (.iload_n 1, 1) := by decide +kernel
theorem dX9_entryRow_18 : decode cX9_entryRow 18 = .ok (.aaload, 1) := by decide +kernel
theorem dX9_entryRow_19 : decode cX9_entryRow 19 = .ok (.ifnonnull 8, 3) := by decide +kernel
theorem dX9_entryRow_22 : decode cX9_entryRow 22 = .ok (.aload_n 0, 1) := by decide +kernel
theorem dX9_entryRow_23 : decode cX9_entryRow 23 = .ok (.getfield 35, 3) := by decide +kernel
theorem dX9_entryRow_26 : decode cX9_entryRow 26 = .ok (.areturn, 1) := by decide +kernel
theorem dX9_entryRow_27 : decode cX9_entryRow 27 = .ok (.aload_n 0, 1) := by decide +kernel
theorem dX9_entryRow_28 : decode cX9_entryRow 28 = .ok (.getfield 42, 3) := by decide +kernel
theorem dX9_entryRow_31 : decode cX9_entryRow 31 = .ok (.iload_n 1, 1) := by decide +kernel
theorem dX9_entryRow_32 : decode cX9_entryRow 32 = .ok (.aaload, 1) := by decide +kernel
theorem dX9_entryRow_33 : decode cX9_entryRow 33 = .ok (.areturn, 1) := by decide +kernel
set_option maxRecDepth 20000 in
theorem ggX9_tapeLeft_X5_count : GoodIn wsX9_tapeLeft wsX5_count := goodIn_r _ [7, 8, 21, 22] (by decide +kernel) (by decide +kernel)
set_option maxRecDepth 20000 in
theorem gX9_tapeLeft_X5_count : GoodIn wsX9_tapeLeft (wsV RX9 46 RX5 yX5_count wsX5_count) := goodIn_app (goodIn_of _ (by decide +kernel)) ggX9_tapeLeft_X5_count
theorem dX9_tapeLeft_0 : decode cX9_tapeLeft 0 = .ok (.aload_n 0, 1) := by decide +kernel
theorem dX9_tapeLeft_1 : decode cX9_tapeLeft 1 = .ok (.getfield 29, 3) := by decide +kernel
theorem dX9_tapeLeft_4 : decode cX9_tapeLeft 4 = .ok (.invokevirtual 46, 3) := by decide +kernel
theorem dX9_tapeLeft_7 : decode cX9_tapeLeft 7 = .ok (.aload_n 0, 1) := by decide +kernel
theorem dX9_tapeLeft_8 : decode cX9_tapeLeft 8 = .ok (.getfield 54, 3) := by decide +kernel
theorem dX9_tapeLeft_11 : decode cX9_tapeLeft 11 = .ok (.isub, 1) := by decide +kernel
theorem dX9_tapeLeft_12 : decode cX9_tapeLeft 12 = .ok (.ireturn, 1) := by decide +kernel
set_option maxRecDepth 20000 in
theorem ggX9_giveTape_X9_tapeLeft : GoodIn wsX9_giveTape wsX9_tapeLeft := goodIn_r _ [11, 5, 6, 12, 13, 14, 15, 16, 17, 31, 32, 33, 34, 35, 36, 37, 38, 39, 40, 41, 42, 43, 44] (by decide +kernel) (by decide +kernel)
set_option maxRecDepth 20000 in
theorem gX9_giveTape_X9_tapeLeft : GoodIn wsX9_giveTape (wsV RX9 57 RX9 yX9_tapeLeft wsX9_tapeLeft) := goodIn_app (goodIn_of _ (by decide +kernel)) ggX9_giveTape_X9_tapeLeft
set_option maxRecDepth 20000 in
theorem ggX9_giveTape_X5_addPart : GoodIn wsX9_giveTape wsX5_addPart := goodIn_ca (goodIn_r _ [21, 22, 23, 24, 15, 25, 17, 26, 27, 28, 29, 30, 43, 44] (by decide +kernel) (by decide +kernel)) (goodIn_sub (fun _ h => List.mem_cons_of_mem _ (List.mem_append_right _ h)) (by decide +kernel))
set_option maxRecDepth 20000 in
theorem gX9_giveTape_X5_addPart : GoodIn wsX9_giveTape (wsV RX9 66 RX5 yX5_addPart wsX5_addPart) := goodIn_app (goodIn_of _ (by decide +kernel)) ggX9_giveTape_X5_addPart
theorem dX9_giveTape_0 : decode cX9_giveTape 0 = .ok (.iload_n 1, 1) := by decide +kernel
theorem dX9_giveTape_1 : decode cX9_giveTape 1 = .ok (.aload_n 0, 1) := by decide +kernel
theorem dX9_giveTape_2 : decode cX9_giveTape 2 = .ok (.invokevirtual 57, 3) := by decide +kernel
theorem dX9_giveTape_5 : decode cX9_giveTape 5 = .ok (.invokestatic 60, 3) := by decide +kernel
theorem dX9_giveTape_8 : decode cX9_giveTape 8 = .ok (.istore_n 3, 1) := by decide +kernel
theorem dX9_giveTape_9 : decode cX9_giveTape 9 = .ok (.aload_n 2, 1) := by decide +kernel
theorem dX9_giveTape_10 : decode cX9_giveTape 10 = .ok (.aload_n 0, 1) := by decide +kernel
theorem dX9_giveTape_11 : decode cX9_giveTape 11 = .ok (.getfield 29, 3) := by decide +kernel
theorem dX9_giveTape_14 : decode cX9_giveTape 14 = .ok (.aload_n 0, 1) := by decide +kernel
theorem dX9_giveTape_15 : decode cX9_giveTape 15 = .ok (.getfield 54, 3) := by decide +kernel
theorem dX9_giveTape_18 : decode cX9_giveTape 18 = .ok (.iload_n 3, 1) := by decide +kernel
theorem dX9_giveTape_19 : decode cX9_giveTape 19 = .ok (.invokevirtual 66, 3) := by decide +kernel
theorem dX9_giveTape_22 : decode cX9_giveTape 22 = .ok (.aload_n 0, 1) := by decide +kernel
theorem dX9_giveTape_23 : decode cX9_giveTape 23 = .ok (.dup, 1) := by decide +kernel
theorem dX9_giveTape_24 : decode cX9_giveTape 24 = .ok (.getfield 54, 3) := by decide +kernel
theorem dX9_giveTape_27 : decode cX9_giveTape 27 = .ok (.iload_n 3, 1) := by decide +kernel
theorem dX9_giveTape_28 : decode cX9_giveTape 28 = .ok (.iadd, 1) := by decide +kernel
theorem dX9_giveTape_29 : decode cX9_giveTape 29 = .ok (.putfield 54, 3) := by decide +kernel
theorem dX9_giveTape_32 : decode cX9_giveTape 32 = .ok (.return_, 1) := by decide +kernel
theorem dX9_keyBytes_0 : decode cX9_keyBytes 0 = .ok (.aload_n 0, 1) := by decide +kernel
theorem dX9_keyBytes_1 : decode cX9_keyBytes 1 = .ok (.getfield 38, 3) := by decide +kernel
theorem dX9_keyBytes_4 : decode cX9_keyBytes 4 = .ok (.iconst 2, 1) := by decide +kernel
theorem dX9_keyBytes_5 : decode cX9_keyBytes 5 = .ok (.if_icmp .ne 7, 3) := by decide +kernel
theorem dX9_keyBytes_8 : decode cX9_keyBytes 8 = .ok (.iconst 5, 1) := by decide +kernel
theorem dX9_keyBytes_9 : decode cX9_keyBytes 9 = .ok (.goto 18, 3) := by decide +kernel
theorem dX9_keyBytes_12 : decode cX9_keyBytes 12 = .ok (.aload_n 0, 1) := by decide +kernel
theorem dX9_keyBytes_13 : decode cX9_keyBytes 13 = .ok (.getfield 38, 3) := by decide +kernel
theorem dX9_keyBytes_16 : decode cX9_keyBytes 16 = .ok (.iconst 5, 1) := by decide +kernel
theorem dX9_keyBytes_17 : decode cX9_keyBytes 17 = .ok (.if_icmp .ne 8, 3) := by decide +kernel
theorem dX9_keyBytes_20 : decode cX9_keyBytes 20 = .ok (.bipush 32, 2) := by decide +kernel
theorem dX9_keyBytes_22 : decode cX9_keyBytes 22 = .ok (.goto 5, 3) := by decide +kernel
theorem dX9_keyBytes_25 : decode cX9_keyBytes 25 = .ok (.bipush 16, 2) := by decide +kernel
theorem dX9_keyBytes_27 : decode cX9_keyBytes 27 = .ok (.ireturn, 1) := by decide +kernel
set_option maxRecDepth 20000 in
theorem ggX10_init_X3_init : GoodIn wsX10_init wsX3_init := goodIn_r _ [30, 31, 23, 24, 32, 33, 34, 35, 36, 37, 2, 3, 38, 39, 40, 41, 42, 43, 44, 45, 46, 47, 48, 49, 50, 51, 52, 53, 54, 55, 56, 57, 58, 59, 60, 61, 62, 63, 64, 65, 66, 67, 68, 69, 70, 71, 72, 73, 74, 75, 76, 77, 78, 79, 80, 81, 82, 83, 84, 85, 86, 87, 88, 89, 90, 91, 92, 93, 94, 9, 6, 10, 95, 96, 97, 98, 99, 100, 101, 102, 103, 104, 105, 106, 107, 108, 109, 110, 111, 136, 137, 121, 122, 123, 138, 139, 140, 141, 142, 143, 124, 125, 126, 127, 144, 145, 146, 147, 148, 149, 150, 151, 152, 153, 154, 155, 156, 157, 158, 159, 160, 161, 162, 163, 164, 165] (by decide +kernel) (by decide +kernel)
set_option maxRecDepth 20000 in
theorem gX10_init_X3_init : GoodIn wsX10_init (wsX3_init) := ggX10_init_X3_init
set_option maxRecDepth 20000 in
theorem ggX10_init_X1_init : GoodIn wsX10_init wsX1_init := goodIn_r _ [114, 115, 23, 24, 116, 117, 118, 34, 35, 36, 37, 2, 3, 38, 39, 40, 41, 42, 43, 44, 45, 46, 47, 48, 49, 50, 51, 52, 53, 54, 55, 56, 57, 58, 59, 60, 61, 62, 63, 64, 65, 66, 67, 68, 69, 70, 71, 72, 73, 74, 75, 76, 77, 78, 79, 80, 81, 82, 83, 84, 85, 86, 87, 88, 89, 90, 91, 92, 93, 94, 9, 6, 10, 95, 96, 97, 98, 99, 100, 101, 102, 103, 104, 105, 106, 107, 108, 109, 110, 119, 136, 137, 124, 125, 126, 127, 138, 139, 140, 141, 142, 143, 121, 122, 123, 144, 145, 146, 147, 148, 149, 150, 151, 152, 153, 154, 155, 156, 157, 158, 159, 160, 161, 162, 163, 164, 165] (by decide +kernel) (by decide +kernel)
set_option maxRecDepth 20000 in
theorem gX10_init_X1_init : GoodIn wsX10_init (wsX1_init) := ggX10_init_X1_init
set_option maxRecDepth 20000 in
theorem ggX10_init_X5_init : GoodIn wsX10_init wsX5_init := goodIn_r _ [92, 93, 2, 3, 94, 9, 6, 10, 71, 95, 136, 137] (by decide +kernel) (by decide +kernel)
set_option maxRecDepth 20000 in
theorem gX10_init_X5_init : GoodIn wsX10_init (wsX5_init) := ggX10_init_X5_init
theorem dX10_init_0 : decode cX10_init 0 = .ok (.aload_n 0, 1) := by decide +kernel
theorem dX10_init_1 : decode cX10_init 1 = .ok (.invokespecial 1, 3) := by decide +kernel
theorem dX10_init_4 : decode cX10_init 4 = .ok (.iconst 2, 1) := by decide +kernel
theorem dX10_init_5 : decode cX10_init 5 = .ok (.iload_n 1, 1) := by decide +kernel
theorem dX10_init_6 : decode cX10_init 6 = .ok (.iconst 5, 1) := by decide +kernel
theorem dX10_init_7 : decode cX10_init 7 = .ok (.invokestatic 7, 3) := by decide +kernel
theorem dX10_init_10 : decode cX10_init 10 = .ok (.invokestatic 13, 3) := by decide +kernel
theorem dX10_init_13 : decode cX10_init 13 = .ok (.istore_n 2, 1) := by decide +kernel
theorem dX10_init_14 : decode cX10_init 14 = .ok (.aload_n 0, 1) := by decide +kernel
theorem dX10_init_15 : decode cX10_init 15 = .ok (.iload_n 2, 1) := by decide +kernel
theorem dX10_init_16 : decode cX10_init 16 = .ok (.iconst 5, 1) := by decide +kernel
theorem dX10_init_17 : decode cX10_init 17 = .ok (.if_icmp .ne 13, 3) := by decide +kernel
theorem dX10_init_20 : decode cX10_init 20 = .ok (.new 16, 3) := by decide +kernel
theorem dX10_init_23 : decode cX10_init 23 = .ok (.dup, 1) := by decide +kernel
theorem dX10_init_24 : decode cX10_init 24 = .ok (.invokespecial 18, 3) := by decide +kernel
theorem dX10_init_27 : decode cX10_init 27 = .ok (.goto 11, 3) := by decide +kernel
theorem dX10_init_30 : decode cX10_init 30 = .ok (.new 19, 3) := by decide +kernel
theorem dX10_init_33 : decode cX10_init 33 = .ok (.dup, 1) := by decide +kernel
theorem dX10_init_34 : decode cX10_init 34 = .ok (.iload_n 2, 1) := by decide +kernel
theorem dX10_init_35 : decode cX10_init 35 = .ok (.invokespecial 21, 3) := by decide +kernel
theorem dX10_init_38 : decode cX10_init 38 = .ok (.putfield 24, 3) := by decide +kernel
theorem dX10_init_41 : decode cX10_init 41 = .ok (.aload_n 0, 1) := by decide +kernel
theorem dX10_init_42 : decode cX10_init 42 = .ok (.aload_n 0, 1) := by decide +kernel
theorem dX10_init_43 : decode cX10_init 43 = .ok (.getfield 24, 3) := by decide +kernel
theorem dX10_init_46 : decode cX10_init 46 = .ok (.getfield 30, 3) := by decide +kernel
theorem dX10_init_49 : decode cX10_init 49 = .ok (.putfield 36, 3) := by decide +kernel
theorem dX10_init_52 : decode cX10_init 52 = .ok (.aload_n 0, 1) := by decide +kernel
theorem dX10_init_53 : decode cX10_init 53 = .ok (.aload_n 0, 1) := by decide +kernel
theorem dX10_init_54 : decode cX10_init 54 = .ok (.getfield 24, 3) := by decide +kernel
theorem dX10_init_57 : decode cX10_init 57 = .ok (.getfield 37, 3) := by decide +kernel
theorem dX10_init_60 : decode cX10_init 60 = .ok (.putfield 41, 3) := by decide +kernel
theorem dX10_init_63 : decode cX10_init 63 = .ok (.aload_n 0, 1) := by decide +kernel
theorem dX10_init_64 : decode cX10_init 64 = .ok (.new 42, 3) := by decide +kernel
theorem dX10_init_67 : decode cX10_init 67 = .ok (.dup, 1) := by decide +kernel
theorem dX10_init_68 : decode cX10_init 68 = .ok (.sipush 400, 3) := by decide +kernel
theorem dX10_init_71 : decode cX10_init 71 = .ok (.invokespecial 44, 3) := by decide +kernel
theorem dX10_init_74 : decode cX10_init 74 = .ok (.putfield 45, 3) := by decide +kernel
theorem dX10_init_77 : decode cX10_init 77 = .ok (.aload_n 0, 1) := by decide +kernel
theorem dX10_init_78 : decode cX10_init 78 = .ok (.new 42, 3) := by decide +kernel
theorem dX10_init_81 : decode cX10_init 81 = .ok (.dup, 1) := by decide +kernel
theorem dX10_init_82 : decode cX10_init 82 = .ok (.sipush 432, 3) := by decide +kernel
theorem dX10_init_85 : decode cX10_init 85 = .ok (.invokespecial 44, 3) := by decide +kernel
theorem dX10_init_88 : decode cX10_init 88 = .ok (.putfield 49, 3) := by decide +kernel
theorem dX10_init_91 : decode cX10_init 91 = .ok (.aload_n 0, 1) := by decide +kernel
theorem dX10_init_92 : decode cX10_init 92 = .ok (.iload_n 2, 1) := by decide +kernel
theorem dX10_init_93 : decode cX10_init 93 = .ok (.iconst 4, 1) := by decide +kernel
theorem dX10_init_94 : decode cX10_init 94 = .ok (.if_icmp .ge 7, 3) := by decide +kernel
theorem dX10_init_97 : decode cX10_init 97 = .ok (.iconst 1, 1) := by decide +kernel
theorem dX10_init_98 : decode cX10_init 98 = .ok (.goto 4, 3) := by decide +kernel
theorem dX10_init_101 : decode cX10_init 101 = .ok (.iconst 2, 1) := by decide +kernel
theorem dX10_init_102 : decode cX10_init 102 = .ok (.putfield 52, 3) := by decide +kernel
theorem dX10_init_105 : decode cX10_init 105 = .ok (.return_, 1) := by decide +kernel
set_option maxRecDepth 20000 in
theorem ggX10_word_X5_hasRoom : GoodIn wsX10_word wsX5_hasRoom := goodIn_r _ [8, 9, 10, 39, 40] (by decide +kernel) (by decide +kernel)
set_option maxRecDepth 20000 in
theorem gX10_word_X5_hasRoom : GoodIn wsX10_word (wsV RX10 64 RX5 yX5_hasRoom wsX5_hasRoom) := goodIn_app (goodIn_of _ (by decide +kernel)) ggX10_word_X5_hasRoom
set_option maxRecDepth 20000 in
theorem ggX10_word_X5_add : GoodIn wsX10_word wsX5_add := goodIn_ca (goodIn_r _ [14, 10, 9, 39, 40] (by decide +kernel) (by decide +kernel)) (goodIn_sub (fun _ h => List.mem_cons_of_mem _ (List.mem_append_right _ h)) (by decide +kernel))
set_option maxRecDepth 20000 in
theorem gX10_word_X5_add : GoodIn wsX10_word (wsV RX10 75 RX5 yX5_add wsX5_add) := goodIn_app (goodIn_of _ (by decide +kernel)) ggX10_word_X5_add
set_option maxRecDepth 20000 in
theorem ggX10_word_X5_count : GoodIn wsX10_word wsX5_count := goodIn_r _ [18, 10, 39, 40] (by decide +kernel) (by decide +kernel)
set_option maxRecDepth 20000 in
theorem gX10_word_X5_count : GoodIn wsX10_word (wsV RX10 78 RX5 yX5_count wsX5_count) := goodIn_app (goodIn_of _ (by decide +kernel)) ggX10_word_X5_count
theorem dX10_word_0 : decode cX10_word 0 = .ok (.iload_n 2, 1) := by decide +kernel
theorem dX10_word_1 : decode cX10_word 1 = .ok (.ifCond .eq 13, 3) := by decide +kernel
theorem dX10_word_4 : decode cX10_word 4 = .ok (.aload_n 0, 1) := by decide +kernel
theorem dX10_word_5 : decode cX10_word 5 = .ok (.getfield 36, 3) := by decide +kernel
theorem dX10_word_8 : decode cX10_word 8 = .ok (.getfield 56, 3) := by decide +kernel
theorem dX10_word_11 : decode cX10_word 11 = .ok (.goto 10, 3) := by decide +kernel
theorem dX10_word_14 : decode cX10_word 14 = .ok (.aload_n 0, 1) := by decide +kernel
theorem dX10_word_15 : decode cX10_word 15 = .ok (.getfield 36, 3) := by decide +kernel
theorem dX10_word_18 : decode cX10_word 18 = .ok (.getfield 61, 3) := by decide +kernel
theorem dX10_word_21 : decode cX10_word 21 = .ok (.astore_n 3, 1) := by decide +kernel
theorem dX10_word_22 : decode cX10_word 22 = .ok (.aload_n 3, 1) := by decide +kernel
theorem dX10_word_23 : decode cX10_word 23 = .ok (.iconst 1, 1) := by decide +kernel
theorem dX10_word_24 : decode cX10_word 24 = .ok (.invokevirtual 64, 3) := by decide +kernel
theorem dX10_word_27 : decode cX10_word 27 = .ok (.ifCond .ne 13, 3) := by decide +kernel
theorem dX10_word_30 : decode cX10_word 30 = .ok (.new 68, 3) := by decide +kernel
theorem dX10_word_33 : decode cX10_word 33 = .ok (.dup, 1) := by decide +kernel
theorem dX10_word_34 : decode cX10_word 34 = .ok (.ldc 70, 2) := by decide +kernel
theorem dX10_word_36 : decode cX10_word 36 = .ok (.invokespecial 72, 3) := by decide +kernel
theorem dX10_word_39 : decode cX10_word 39 = .ok (.athrow, 1) := by decide +kernel
theorem dX10_word_40 : decode cX10_word 40 = .ok (.aload_n 3, 1) := by decide +kernel
theorem dX10_word_41 : decode cX10_word 41 = .ok (.iload_n 1, 1) := by decide +kernel
theorem dX10_word_42 : decode cX10_word 42 = .ok (.invokevirtual 75, 3) := by decide +kernel
theorem dX10_word_45 : decode cX10_word 45 = .ok (.aload_n 3, 1) := by decide +kernel
theorem dX10_word_46 : decode cX10_word 46 = .ok (.invokevirtual 78, 3) := by decide +kernel
theorem dX10_word_49 : decode cX10_word 49 = .ok (.ireturn, 1) := by decide +kernel
set_option maxRecDepth 20000 in
theorem ggX10_id_X5_hasRoom : GoodIn wsX10_id wsX5_hasRoom := goodIn_r _ [8, 9, 10, 35, 36] (by decide +kernel) (by decide +kernel)
set_option maxRecDepth 20000 in
theorem gX10_id_X5_hasRoom : GoodIn wsX10_id (wsV RX10 64 RX5 yX5_hasRoom wsX5_hasRoom) := goodIn_app (goodIn_of _ (by decide +kernel)) ggX10_id_X5_hasRoom
set_option maxRecDepth 20000 in
theorem ggX10_id_X5_add : GoodIn wsX10_id wsX5_add := goodIn_ca (goodIn_r _ [14, 10, 9, 35, 36] (by decide +kernel) (by decide +kernel)) (goodIn_sub (fun _ h => List.mem_cons_of_mem _ (List.mem_append_right _ h)) (by decide +kernel))
set_option maxRecDepth 20000 in
theorem gX10_id_X5_add : GoodIn wsX10_id (wsV RX10 75 RX5 yX5_add wsX5_add) := goodIn_app (goodIn_of _ (by decide +kernel)) ggX10_id_X5_add
theorem dX10_id_0 : decode cX10_id 0 = .ok (.aload_n 0, 1) := by decide +kernel
theorem dX10_id_1 : decode cX10_id 1 = .ok (.getfield 36, 3) := by decide +kernel
theorem dX10_id_4 : decode cX10_id 4 = .ok (.getfield 82, 3) := by decide +kernel
theorem dX10_id_7 : decode cX10_id 7 = .ok (.iconst 1, 1) := by decide +kernel
theorem dX10_id_8 : decode cX10_id 8 = .ok (.invokevirtual 64, 3) := by decide +kernel
theorem dX10_id_11 : decode cX10_id 11 = .ok (.ifCond .ne 13, 3) := by decide +kernel
theorem dX10_id_14 : decode cX10_id 14 = .ok (.new 68, 3) := by decide +kernel
theorem dX10_id_17 : decode cX10_id 17 = .ok (.dup, 1) := by decide +kernel
theorem dX10_id_18 : decode cX10_id 18 = .ok (.ldc 85, 2) := by decide +kernel
theorem dX10_id_20 : decode cX10_id 20 = .ok (.invokespecial 72, 3) := by decide +kernel
theorem dX10_id_23 : decode cX10_id 23 = .ok (.athrow, 1) := by decide +kernel
theorem dX10_id_24 : decode cX10_id 24 = .ok (.aload_n 0, 1) := by decide +kernel
theorem dX10_id_25 : decode cX10_id 25 = .ok (.getfield 36, 3) := by decide +kernel
theorem dX10_id_28 : decode cX10_id 28 = .ok (.getfield 82, 3) := by decide +kernel
theorem dX10_id_31 : decode cX10_id 31 = .ok (.iload_n 1, 1) := by decide +kernel
theorem dX10_id_32 : decode cX10_id 32 = .ok (.invokevirtual 75, 3) := by decide +kernel
theorem dX10_id_35 : decode cX10_id 35 = .ok (.return_, 1) := by decide +kernel
set_option maxRecDepth 20000 in
theorem ggX10_tape_X5_hasRoom : GoodIn wsX10_tape wsX5_hasRoom := goodIn_r _ [8, 9, 10, 39, 40] (by decide +kernel) (by decide +kernel)
set_option maxRecDepth 20000 in
theorem gX10_tape_X5_hasRoom : GoodIn wsX10_tape (wsV RX10 64 RX5 yX5_hasRoom wsX5_hasRoom) := goodIn_app (goodIn_of _ (by decide +kernel)) ggX10_tape_X5_hasRoom
set_option maxRecDepth 20000 in
theorem ggX10_tape_X5_add : GoodIn wsX10_tape wsX5_add := goodIn_ca (goodIn_r _ [14, 10, 9, 39, 40] (by decide +kernel) (by decide +kernel)) (goodIn_sub (fun _ h => List.mem_cons_of_mem _ (List.mem_append_right _ h)) (by decide +kernel))
set_option maxRecDepth 20000 in
theorem gX10_tape_X5_add : GoodIn wsX10_tape (wsV RX10 75 RX5 yX5_add wsX5_add) := goodIn_app (goodIn_of _ (by decide +kernel)) ggX10_tape_X5_add
set_option maxRecDepth 20000 in
theorem ggX10_tape_X5_count : GoodIn wsX10_tape wsX5_count := goodIn_r _ [18, 10, 39, 40] (by decide +kernel) (by decide +kernel)
set_option maxRecDepth 20000 in
theorem gX10_tape_X5_count : GoodIn wsX10_tape (wsV RX10 78 RX5 yX5_count wsX5_count) := goodIn_app (goodIn_of _ (by decide +kernel)) ggX10_tape_X5_count
theorem dX10_tape_0 : decode cX10_tape 0 = .ok (.aload_n 0, 1) := by decide +kernel
theorem dX10_tape_1 : decode cX10_tape 1 = .ok (.getfield 36, 3) := by decide +kernel
theorem dX10_tape_4 : decode cX10_tape 4 = .ok (.getfield 87, 3) := by decide +kernel
theorem dX10_tape_7 : decode cX10_tape 7 = .ok (.iconst 4, 1) := by decide +kernel
theorem dX10_tape_8 : decode cX10_tape 8 = .ok (.invokevirtual 64, 3) := by decide +kernel
theorem dX10_tape_11 : decode cX10_tape 11 = .ok (.ifCond .ne 13, 3) := by decide +kernel
theorem dX10_tape_14 : decode cX10_tape 14 = .ok (.new 68, 3) := by decide +kernel
theorem dX10_tape_17 : decode cX10_tape 17 = .ok (.dup, 1) := by decide +kernel
theorem dX10_tape_18 : decode cX10_tape 18 = .ok (.ldc 90, 2) := by decide +kernel
theorem dX10_tape_20 : decode cX10_tape 20 = .ok (.invokespecial 72, 3) := by decide +kernel
theorem dX10_tape_23 : decode cX10_tape 23 = .ok (.athrow, 1) := by decide +kernel
theorem dX10_tape_24 : decode cX10_tape 24 = .ok (.bipush 24, 2) := by decide +kernel
theorem dX10_tape_26 : decode cX10_tape 26 = .ok (.istore_n 2, 1) := by decide +kernel
theorem dX10_tape_27 : decode cX10_tape 27 = .ok (.iload_n 2, 1) := by decide +kernel
theorem dX10_tape_28 : decode cX10_tape 28 = .ok (.ifCond .lt 22, 3) := by decide +kernel
theorem dX10_tape_31 : decode cX10_tape 31 = .ok (.aload_n 0, 1) := by decide +kernel
theorem dX10_tape_32 : decode cX10_tape 32 = .ok (.getfield 36, 3) := by decide +kernel
theorem dX10_tape_35 : decode cX10_tape 35 = .ok (.getfield 87, 3) := by decide +kernel
theorem dX10_tape_38 : decode cX10_tape 38 = .ok (.iload_n 1, 1) := by decide +kernel
theorem dX10_tape_39 : decode cX10_tape 39 = .ok (.iload_n 2, 1) := by decide +kernel
theorem dX10_tape_40 : decode cX10_tape 40 = .ok (.iushr, 1) := by decide +kernel
theorem dX10_tape_41 : decode cX10_tape 41 = .ok (.invokevirtual 75, 3) := by decide +kernel
theorem dX10_tape_44 : decode cX10_tape 44 = .ok (.iinc 2 (-8), 3) := by decide +kernel
theorem dX10_tape_47 : decode cX10_tape 47 = .ok (.goto (-20), 3) := by decide +kernel
theorem dX10_tape_50 : decode cX10_tape 50 = .ok (.aload_n 0, 1) := by decide +kernel
theorem dX10_tape_51 : decode cX10_tape 51 = .ok (.getfield 36, 3) := by decide +kernel
theorem dX10_tape_54 : decode cX10_tape 54 = .ok (.getfield 87, 3) := by decide +kernel
theorem dX10_tape_57 : decode cX10_tape 57 = .ok (.invokevirtual 78, 3) := by decide +kernel
theorem dX10_tape_60 : decode cX10_tape 60 = .ok (.ireturn, 1) := by decide +kernel
theorem dX10_metadata_0 : decode cX10_metadata 0 = .ok (.aload_n 0, 1) := by decide +kernel
theorem dX10_metadata_1 : decode cX10_metadata 1 = .ok (.getfield 36, 3) := by decide +kernel
theorem dX10_metadata_4 : decode cX10_metadata 4 = .ok (.getfield 92, 3) := by decide +kernel
theorem dX10_metadata_7 : decode cX10_metadata 7 = .ok (.ifCond .eq 7, 3) := by decide +kernel
theorem dX10_metadata_10 : decode cX10_metadata 10 = .ok (.iconst 1, 1) := by decide +kernel
theorem dX10_metadata_11 : decode cX10_metadata 11 = .ok (.goto 4, 3) := by decide +kernel
theorem dX10_metadata_14 : decode cX10_metadata 14 = .ok (.iconst 0, 1) := by decide +kernel
theorem dX10_metadata_15 : decode cX10_metadata 15 = .ok (.istore_n 2, 1) := by decide +kernel
theorem dX10_metadata_16 : decode cX10_metadata 16 = .ok (.aload_n 0, 1) := by decide +kernel
theorem dX10_metadata_17 : decode cX10_metadata 17 = .ok (.getfield 36, 3) := by decide +kernel
theorem dX10_metadata_20 : decode cX10_metadata 20 = .ok (.iload_n 1, 1) := by decide +kernel
theorem dX10_metadata_21 : decode cX10_metadata 21 = .ok (.putfield 92, 3) := by decide +kernel
theorem dX10_metadata_24 : decode cX10_metadata 24 = .ok (.iload_n 2, 1) := by decide +kernel
theorem dX10_metadata_25 : decode cX10_metadata 25 = .ok (.ireturn, 1) := by decide +kernel
set_option maxRecDepth 20000 in
theorem ggX10_make_X9_tapeLeft : GoodIn wsX10_make wsX9_tapeLeft := goodIn_r _ [9, 10, 11, 12, 13, 14, 15, 16, 17, 310, 311, 312, 313, 314, 315, 316, 317, 318, 319, 320, 321, 322, 323] (by decide +kernel) (by decide +kernel)
set_option maxRecDepth 20000 in
theorem gX10_make_X9_tapeLeft : GoodIn wsX10_make (wsV RX10 96 RX9 yX9_tapeLeft wsX9_tapeLeft) := goodIn_app (goodIn_of _ (by decide +kernel)) ggX10_make_X9_tapeLeft
set_option maxRecDepth 20000 in
theorem ggX10_make_X1_tapeNeeded : GoodIn wsX10_make wsX1_tapeNeeded := goodIn_r _ [23] (by decide +kernel) (by decide +kernel)
set_option maxRecDepth 20000 in
theorem gX10_make_X1_tapeNeeded_u99X1 : GoodIn wsX10_make (va_wsU RX10 99 RX1 "CryptRows$Lock" ⟨"CryptRows$Lock", "tapeNeeded", "()I"⟩ yX1_tapeNeeded wsX1_tapeNeeded) := goodIn_app (goodIn_of _ (by decide +kernel)) ggX10_make_X1_tapeNeeded
set_option maxRecDepth 20000 in
theorem ggX10_make_X3_tapeNeeded : GoodIn wsX10_make wsX3_tapeNeeded := goodIn_r _ [27] (by decide +kernel) (by decide +kernel)
set_option maxRecDepth 20000 in
theorem gX10_make_X3_tapeNeeded_u99X3 : GoodIn wsX10_make (va_wsU RX10 99 RX3 "CryptRows$Lock" ⟨"CryptRows$Lock", "tapeNeeded", "()I"⟩ yX3_tapeNeeded wsX3_tapeNeeded) := goodIn_app (goodIn_of _ (by decide +kernel)) ggX10_make_X3_tapeNeeded
set_option maxRecDepth 20000 in
theorem ggX10_make_X1_makeEntries : GoodIn wsX10_make wsX1_makeEntries := goodIn_ca (goodIn_r _ [32, 33, 34, 35, 36, 37, 38, 8, 39, 40, 41, 42, 13, 14, 15, 16, 17, 43, 44, 45, 22, 46, 47, 48, 49, 50, 51, 52, 53, 54, 55, 56, 57, 58, 59, 60, 61, 62, 63, 64, 65, 66, 67, 68, 69, 70, 71, 72, 73, 74, 75, 76, 77, 78, 79, 80, 81, 82, 83, 84, 85, 86, 87, 88, 89, 90, 91, 92, 93, 94, 95, 96, 97, 98, 99, 100, 101, 102, 103, 104, 105, 106, 107, 108, 109, 110, 111, 112, 113, 114, 115, 116, 117, 118, 119, 120, 121, 122, 123, 124, 125, 126, 127, 128, 129, 130, 131, 132, 133, 134, 135, 136, 137, 138, 139, 140, 141, 142, 143, 144, 145, 146, 147, 148, 149, 150, 151, 152, 153, 154, 155, 156, 157, 158, 159, 160, 161, 162, 163, 164, 165, 166, 167, 168, 169, 170, 171, 172, 173, 174, 175, 176, 177, 178, 179, 180, 181, 182, 324, 325, 326, 327, 328, 329, 330, 310, 311, 312, 313, 314, 315, 316, 317, 318, 319, 320, 321, 322, 323, 331, 332, 333, 334, 335, 336, 337, 338, 339] (by decide +kernel) (by decide +kernel)) (goodIn_sub (fun _ h => List.mem_cons_of_mem _ (List.mem_append_right _ h)) (by decide +kernel))
set_option maxRecDepth 20000 in
theorem gX10_make_X1_makeEntries_u110X1 : GoodIn wsX10_make (va_wsU RX10 110 RX1 "CryptRows$Lock" ⟨"CryptRows$Lock", "makeEntries", "()V"⟩ yX1_makeEntries wsX1_makeEntries) := goodIn_app (goodIn_of _ (by decide +kernel)) ggX10_make_X1_makeEntries
set_option maxRecDepth 20000 in
theorem ggX10_make_X3_makeEntries : GoodIn wsX10_make wsX3_makeEntries := goodIn_ca (goodIn_r _ [185, 186, 187, 188, 189, 190, 191, 57, 58, 15, 59, 17, 192, 193, 194, 8, 195, 196, 53, 54, 55, 10, 11, 197, 6, 7, 9, 12, 13, 14, 16, 198, 61, 62, 63, 64, 65, 66, 67, 68, 69, 70, 71, 72, 199, 37, 38, 39, 40, 41, 200, 201, 202, 26, 203, 204, 132, 133, 134, 135, 136, 137, 205, 206, 171, 172, 173, 207, 208, 209, 210, 211, 212, 213, 214, 215, 216, 217, 218, 219, 220, 103, 104, 105, 221, 222, 223, 224, 225, 226, 227, 228, 229, 230, 231, 232, 233, 234, 235, 236, 237, 238, 239, 240, 241, 242, 243, 176, 177, 178, 244, 245, 246, 247, 248, 249, 250, 251, 252, 253, 254, 255, 256, 257, 258, 259, 260, 261, 262, 263, 264, 265, 266, 267, 268, 269, 270, 271, 272, 273, 274, 275, 276, 277, 278, 279, 280, 281, 282, 283, 284, 163, 164, 165, 285, 286, 287, 288, 289, 120, 121, 122, 290, 328, 329, 330, 324, 325, 326, 327, 310, 311, 312, 313, 314, 315, 316, 317, 318, 319, 320, 321, 331, 332, 333, 334, 335, 336, 322, 323, 340, 341, 342, 343, 344, 345, 346] (by decide +kernel) (by decide +kernel)) (goodIn_sub (fun _ h => List.mem_cons_of_mem _ (List.mem_append_right _ h)) (by decide +kernel))
set_option maxRecDepth 20000 in
theorem gX10_make_X3_makeEntries_u110X3 : GoodIn wsX10_make (va_wsU RX10 110 RX3 "CryptRows$Lock" ⟨"CryptRows$Lock", "makeEntries", "()V"⟩ yX3_makeEntries wsX3_makeEntries) := goodIn_app (goodIn_of _ (by decide +kernel)) ggX10_make_X3_makeEntries
set_option maxRecDepth 20000 in
theorem ggX10_make_X10_shut : GoodIn wsX10_make wsX10_shut := goodIn_r _ [295, 3, 296, 297, 57, 58, 15, 59, 17, 302, 303, 304, 305, 306, 307, 308, 309, 310, 311, 312, 313, 314, 315, 316, 317, 318, 319, 320, 321, 322, 323] (by decide +kernel) (by decide +kernel)
set_option maxRecDepth 20000 in
theorem gX10_make_X10_shut : GoodIn wsX10_make (wsV RX10 113 RX10 yX10_shut wsX10_shut) := goodIn_app (goodIn_of _ (by decide +kernel)) ggX10_make_X10_shut
set_option maxRecDepth 20000 in
theorem ggX10_make_X9_entryCount : GoodIn wsX10_make wsX9_entryCount := goodIn_r _ [301, 40, 310, 311, 312, 313, 314, 315, 316, 317, 318, 319, 320, 321] (by decide +kernel) (by decide +kernel)
set_option maxRecDepth 20000 in
theorem gX10_make_X9_entryCount : GoodIn wsX10_make (wsV RX10 116 RX9 yX9_entryCount wsX9_entryCount) := goodIn_app (goodIn_of _ (by decide +kernel)) ggX10_make_X9_entryCount
theorem dX10_make_0 : decode cX10_make 0 = .ok (.aload_n 0, 1) := by decide +kernel
theorem dX10_make_1 : decode cX10_make 1 = .ok (.getfield 36, 3) := by decide +kernel
theorem dX10_make_4 : decode cX10_make 4 = .ok (.invokevirtual 96, 3) := by decide +kernel
theorem dX10_make_7 : decode cX10_make 7 = .ok (.aload_n 0, 1) := by decide +kernel
theorem dX10_make_8 : decode cX10_make 8 = .ok (.getfield 24, 3) := by decide +kernel
theorem dX10_make_11 : decode cX10_make 11 = .ok (.invokevirtual 99, 3) := by decide +kernel
theorem dX10_make_14 : decode cX10_make 14 = .ok (.if_icmp .ge 13, 3) := by decide +kernel
theorem dX10_make_17 : decode cX10_make 17 = .ok (.new 102, 3) := by decide +kernel
theorem dX10_make_20 : decode cX10_make 20 = .ok (.dup, 1) := by decide +kernel
theorem dX10_make_21 : decode cX10_make 21 = .ok (.ldc 104, 2) := by decide +kernel
theorem dX10_make_23 : decode cX10_make 23 = .ok (.invokespecial 106, 3) := by decide +kernel
theorem dX10_make_26 : decode cX10_make 26 = .ok (.athrow, 1) := by decide +kernel
theorem dX10_make_27 : decode cX10_make 27 = .ok (.aload_n 0, 1) := by decide +kernel
theorem dX10_make_28 : decode cX10_make 28 = .ok (.getfield 36, 3) := by decide +kernel
theorem dX10_make_31 : decode cX10_make 31 = .ok (.iload_n 1, 1) := by decide +kernel
theorem dX10_make_32 : decode cX10_make 32 = .ok (.putfield 107, 3) := by decide +kernel
theorem dX10_make_35 : decode cX10_make 35 = .ok (.aload_n 0, 1) := by decide +kernel
theorem dX10_make_36 : decode cX10_make 36 = .ok (.getfield 24, 3) := by decide +kernel
theorem dX10_make_39 : decode cX10_make 39 = .ok (.invokevirtual 110, 3) := by decide +kernel
theorem dX10_make_42 : decode cX10_make 42 = .ok (.aload_n 0, 1) := by decide +kernel
theorem dX10_make_43 : decode cX10_make 43 = .ok (.invokevirtual 113, 3) := by decide +kernel
theorem dX10_make_46 : decode cX10_make 46 = .ok (.aload_n 0, 1) := by decide +kernel
theorem dX10_make_47 : decode cX10_make 47 = .ok (.getfield 36, 3) := by decide +kernel
theorem dX10_make_50 : decode cX10_make 50 = .ok (.invokevirtual 116, 3) := by decide +kernel
theorem dX10_make_53 : decode cX10_make 53 = .ok (.ireturn, 1) := by decide +kernel
set_option maxRecDepth 20000 in
theorem ggX10_entry_X9_entryRow : GoodIn wsX10_entry wsX9_entryRow := goodIn_r _ [8, 9, 10, 30, 31, 32, 33, 34, 35, 36, 37, 38, 39, 40, 41] (by decide +kernel) (by decide +kernel)
set_option maxRecDepth 20000 in
theorem gX10_entry_X9_entryRow : GoodIn wsX10_entry (wsV RX10 119 RX9 yX9_entryRow wsX9_entryRow) := goodIn_app (goodIn_of _ (by decide +kernel)) ggX10_entry_X9_entryRow
set_option maxRecDepth 20000 in
theorem ggX10_entry_X5_count : GoodIn wsX10_entry wsX5_count := goodIn_r _ [15, 16, 42, 43] (by decide +kernel) (by decide +kernel)
set_option maxRecDepth 20000 in
theorem gX10_entry_X5_count : GoodIn wsX10_entry (wsV RX10 78 RX5 yX5_count wsX5_count) := goodIn_app (goodIn_of _ (by decide +kernel)) ggX10_entry_X5_count
set_option maxRecDepth 20000 in
theorem ggX10_entry_X5_at : GoodIn wsX10_entry wsX5_at := goodIn_ca (goodIn_r _ [20, 16, 21, 42, 43] (by decide +kernel) (by decide +kernel)) (goodIn_sub (fun _ h => List.mem_cons_of_mem _ (List.mem_append_right _ h)) (by decide +kernel))
set_option maxRecDepth 20000 in
theorem gX10_entry_X5_at : GoodIn wsX10_entry (wsV RX10 128 RX5 yX5_at wsX5_at) := goodIn_app (goodIn_of _ (by decide +kernel)) ggX10_entry_X5_at
theorem dX10_entry_0 : decode cX10_entry 0 = .ok (.aload_n 0, 1) := by decide +kernel
theorem dX10_entry_1 : decode cX10_entry 1 = .ok (.getfield 36, 3) := by decide +kernel
theorem dX10_entry_4 : decode cX10_entry 4 = .ok (.iload_n 1, 1) := by decide +kernel
theorem dX10_entry_5 : decode cX10_entry 5 = .ok (.invokevirtual 119, 3) := by decide +kernel
theorem dX10_entry_8 : decode cX10_entry 8 = .ok (.astore_n 3, 1) := by decide +kernel
theorem dX10_entry_9 : decode cX10_entry 9 = .ok (.aload_n 3, 1) := by decide +kernel
theorem dX10_entry_10 : decode cX10_entry 10 = .ok (.invokevirtual 78, 3) := by decide +kernel
theorem dX10_entry_13 : decode cX10_entry 13 = .ok (.ifCond .eq 16, 3) := by decide +kernel
theorem dX10_entry_16 : decode cX10_entry 16 = .ok (.iload_n 2, 1) := by decide +kernel
theorem dX10_entry_17 : decode cX10_entry 17 = .ok (.iconst (-1), 1) := by decide +kernel
theorem dX10_entry_18 : decode cX10_entry 18 = .ok (.if_icmp .lt 11, 3) := by decide +kernel
theorem dX10_entry_21 : decode cX10_entry 21 = .ok (.iload_n 2, 1) := by decide +kernel
theorem dX10_entry_22 : decode cX10_entry 22 = .ok (.aload_n 3, 1) := by decide +kernel
theorem dX10_entry_23 : decode cX10_entry 23 = .ok (.invokevirtual 78, 3) := by decide +kernel
theorem dX10_entry_26 : decode cX10_entry 26 = .ok (.if_icmp .lt 13, 3) := by decide +kernel
theorem dX10_entry_29 : decode cX10_entry 29 = .ok (.new 123, 3) := by decide +kernel
theorem dX10_entry_32 : decode cX10_entry 32 = .ok (.dup, 1) := by decide +kernel
theorem dX10_entry_33 : decode cX10_entry 33 = .ok (.ldc 125, 2) := by decide +kernel
theorem dX10_entry_35 : decode cX10_entry 35 = .ok (.invokespecial 127, 3) := by decide +kernel
theorem dX10_entry_38 : decode cX10_entry 38 = .ok (.athrow, 1) := by decide +kernel
theorem dX10_entry_39 : decode cX10_entry 39 = .ok (.iload_n 2, 1) := by decide +kernel
theorem dX10_entry_40 : decode cX10_entry 40 = .ok (.iconst (-1), 1) := by decide +kernel
theorem dX10_entry_41 : decode cX10_entry 41 = .ok (.if_icmp .ne 10, 3) := by decide +kernel
theorem dX10_entry_44 : decode cX10_entry 44 = .ok (.aload_n 3, 1) := by decide +kernel
theorem dX10_entry_45 : decode cX10_entry 45 = .ok (.invokevirtual 78, 3) := by decide +kernel
theorem dX10_entry_48 : decode cX10_entry 48 = .ok (.goto 8, 3) := by decide +kernel
theorem dX10_entry_51 : decode cX10_entry 51 = .ok (.aload_n 3, 1) := by decide +kernel
theorem dX10_entry_52 : decode cX10_entry 52 = .ok (.iload_n 2, 1) := by decide +kernel
theorem dX10_entry_53 : decode cX10_entry 53 = .ok (.invokevirtual 128, 3) := by decide +kernel
theorem dX10_entry_56 : decode cX10_entry 56 = .ok (.ireturn, 1) := by decide +kernel
set_option maxRecDepth 20000 in
theorem ggX10_alter_X9_entryRow : GoodIn wsX10_alter wsX9_entryRow := goodIn_r _ [8, 9, 10, 40, 41, 42, 43, 44, 45, 46, 47, 48, 49, 50, 51] (by decide +kernel) (by decide +kernel)
set_option maxRecDepth 20000 in
theorem gX10_alter_X9_entryRow : GoodIn wsX10_alter (wsV RX10 119 RX9 yX9_entryRow wsX9_entryRow) := goodIn_app (goodIn_of _ (by decide +kernel)) ggX10_alter_X9_entryRow
set_option maxRecDepth 20000 in
theorem ggX10_alter_X5_count : GoodIn wsX10_alter wsX5_count := goodIn_r _ [15, 16, 52, 53] (by decide +kernel) (by decide +kernel)
set_option maxRecDepth 20000 in
theorem gX10_alter_X5_count : GoodIn wsX10_alter (wsV RX10 78 RX5 yX5_count wsX5_count) := goodIn_app (goodIn_of _ (by decide +kernel)) ggX10_alter_X5_count
set_option maxRecDepth 20000 in
theorem ggX10_alter_X5_put : GoodIn wsX10_alter wsX5_put := goodIn_ca (goodIn_r _ [20, 16, 21, 52, 53] (by decide +kernel) (by decide +kernel)) (goodIn_sub (fun _ h => List.mem_cons_of_mem _ (List.mem_append_right _ h)) (by decide +kernel))
set_option maxRecDepth 20000 in
theorem gX10_alter_X5_put : GoodIn wsX10_alter (wsV RX10 132 RX5 yX5_put wsX5_put) := goodIn_app (goodIn_of _ (by decide +kernel)) ggX10_alter_X5_put
set_option maxRecDepth 20000 in
theorem ggX10_alter_X10_shut : GoodIn wsX10_alter wsX10_shut := goodIn_r _ [26, 3, 27, 28, 29, 30, 14, 31, 16, 32, 33, 34, 35, 36, 37, 38, 39, 40, 41, 42, 43, 44, 45, 46, 47, 48, 49, 50, 51, 52, 53] (by decide +kernel) (by decide +kernel)
set_option maxRecDepth 20000 in
theorem gX10_alter_X10_shut : GoodIn wsX10_alter (wsV RX10 113 RX10 yX10_shut wsX10_shut) := goodIn_app (goodIn_of _ (by decide +kernel)) ggX10_alter_X10_shut
theorem dX10_alter_0 : decode cX10_alter 0 = .ok (.aload_n 0, 1) := by decide +kernel
theorem dX10_alter_1 : decode cX10_alter 1 = .ok (.getfield 36, 3) := by decide +kernel
theorem dX10_alter_4 : decode cX10_alter 4 = .ok (.iload_n 1, 1) := by decide +kernel
theorem dX10_alter_5 : decode cX10_alter 5 = .ok (.invokevirtual 119, 3) := by decide +kernel
theorem dX10_alter_8 : decode cX10_alter 8 = .ok (.astore 4, 2) := by decide +kernel
theorem dX10_alter_10 : decode cX10_alter 10 = .ok (.iload_n 2, 1) := by decide +kernel
theorem dX10_alter_11 : decode cX10_alter 11 = .ok (.ifCond .lt 12, 3) := by decide +kernel
theorem dX10_alter_14 : decode cX10_alter 14 = .ok (.iload_n 2, 1) := by decide +kernel
theorem dX10_alter_15 : decode cX10_alter 15 = .ok (.aload 4, 2) := by decide +kernel
theorem dX10_alter_17 : decode cX10_alter 17 = .ok (.invokevirtual 78, 3) := by decide +kernel
theorem dX10_alter_20 : decode cX10_alter 20 = .ok (.if_icmp .lt 13, 3) := by decide +kernel
theorem dX10_alter_23 : decode cX10_alter 23 = .ok (.new 123, 3) := by decide +kernel
theorem dX10_alter_26 : decode cX10_alter 26 = .ok (.dup, 1) := by decide +kernel
theorem dX10_alter_27 : decode cX10_alter 27 = .ok (.ldc 125, 2) := by decide +kernel
theorem dX10_alter_29 : decode cX10_alter 29 = .ok (.invokespecial 127, 3) := by decide +kernel
theorem dX10_alter_32 : decode cX10_alter 32 = .ok (.athrow, 1) := by decide +kernel
theorem dX10_alter_33 : decode cX10_alter 33 = .ok (.aload 4, 2) := by decide +kernel
theorem dX10_alter_35 : decode cX10_alter 35 = .ok (.iload_n 2, 1) := by decide +kernel
theorem dX10_alter_36 : decode cX10_alter 36 = .ok (.iload_n 3, 1) := by decide +kernel
theorem dX10_alter_37 : decode cX10_alter 37 = .ok (.invokevirtual 132, 3) := by decide +kernel
theorem dX10_alter_40 : decode cX10_alter 40 = .ok (.aload_n 0, 1) := by decide +kernel
theorem dX10_alter_41 : decode cX10_alter 41 = .ok (.invokevirtual 113, 3) := by decide +kernel
theorem dX10_alter_44 : decode cX10_alter 44 = .ok (.return_, 1) := by decide +kernel
set_option maxRecDepth 20000 in
theorem ggX10_open_X5_hasRoom : GoodIn wsX10_open wsX5_hasRoom := goodIn_r _ [13, 14, 15, 320, 321] (by decide +kernel) (by decide +kernel)
set_option maxRecDepth 20000 in
theorem gX10_open_X5_hasRoom : GoodIn wsX10_open (wsV RX10 64 RX5 yX5_hasRoom wsX5_hasRoom) := goodIn_app (goodIn_of _ (by decide +kernel)) ggX10_open_X5_hasRoom
set_option maxRecDepth 20000 in
theorem ggX10_open_X5_add : GoodIn wsX10_open wsX5_add := goodIn_ca (goodIn_r _ [19, 15, 14, 320, 321] (by decide +kernel) (by decide +kernel)) (goodIn_sub (fun _ h => List.mem_cons_of_mem _ (List.mem_append_right _ h)) (by decide +kernel))
set_option maxRecDepth 20000 in
theorem gX10_open_X5_add : GoodIn wsX10_open (wsV RX10 75 RX5 yX5_add wsX5_add) := goodIn_app (goodIn_of _ (by decide +kernel)) ggX10_open_X5_add
set_option maxRecDepth 20000 in
theorem ggX10_open_X5_count : GoodIn wsX10_open wsX5_count := goodIn_r _ [23, 15, 320, 321] (by decide +kernel) (by decide +kernel)
set_option maxRecDepth 20000 in
theorem gX10_open_X5_count : GoodIn wsX10_open (wsV RX10 78 RX5 yX5_count wsX5_count) := goodIn_app (goodIn_of _ (by decide +kernel)) ggX10_open_X5_count
set_option maxRecDepth 20000 in
theorem ggX10_open_X9_isMade : GoodIn wsX10_open wsX9_isMade := goodIn_r _ [28, 29, 30, 31, 27, 32, 33, 34, 35, 21, 22, 12, 23, 15, 308, 309, 310, 311, 312, 313, 314, 315, 316, 317, 318, 319, 320, 321] (by decide +kernel) (by decide +kernel)
set_option maxRecDepth 20000 in
theorem gX10_open_X9_isMade : GoodIn wsX10_open (wsV RX10 146 RX9 yX9_isMade wsX9_isMade) := goodIn_app (goodIn_of _ (by decide +kernel)) ggX10_open_X9_isMade
set_option maxRecDepth 20000 in
theorem ggX10_open_X1_tryWord : GoodIn wsX10_open wsX1_tryWord := goodIn_ca (goodIn_r _ [41, 42, 43, 44, 45, 46, 40, 47, 48, 49, 50, 51, 52, 53, 54, 12, 55, 15, 56, 21, 22, 23, 57, 58, 59, 60, 61, 62, 63, 64, 14, 65, 17, 18, 19, 66, 67, 68, 69, 70, 71, 72, 73, 74, 75, 76, 77, 78, 79, 80, 81, 82, 83, 84, 85, 86, 87, 88, 30, 31, 27, 32, 33, 34, 89, 90, 91, 92, 93, 94, 95, 96, 97, 98, 99, 100, 101, 102, 103, 104, 105, 106, 107, 108, 109, 110, 111, 112, 113, 114, 115, 116, 117, 118, 119, 120, 121, 122, 123, 124, 125, 126, 127, 128, 129, 130, 131, 132, 133, 134, 135, 136, 137, 138, 139, 140, 141, 142, 143, 144, 145, 146, 147, 148, 149, 150, 151, 152, 153, 154, 155, 156, 157, 158, 159, 160, 161, 162, 163, 164, 165, 166, 167, 168, 169, 170, 171, 172, 173, 174, 175, 176, 177, 178, 179, 180, 181, 182, 183, 184, 185, 186, 187, 188, 189, 190, 191, 192, 193, 194, 195, 322, 323, 324, 325, 326, 327, 328, 308, 309, 310, 311, 312, 313, 314, 315, 316, 317, 318, 319, 320, 321, 329, 330, 331, 332, 333, 334, 335, 336, 337] (by decide +kernel) (by decide +kernel)) (goodIn_sub (fun _ h => List.mem_cons_of_mem _ (List.mem_append_right _ h)) (by decide +kernel))
set_option maxRecDepth 20000 in
theorem gX10_open_X1_tryWord_u152X1 : GoodIn wsX10_open (va_wsU RX10 152 RX1 "CryptRows$Lock" ⟨"CryptRows$Lock", "tryWord", "()I"⟩ yX1_tryWord wsX1_tryWord) := goodIn_app (goodIn_of _ (by decide +kernel)) ggX10_open_X1_tryWord
set_option maxRecDepth 20000 in
theorem ggX10_open_X3_tryWord : GoodIn wsX10_open wsX3_tryWord := goodIn_ca (goodIn_r _ [199, 200, 201, 202, 30, 31, 27, 32, 33, 34, 203, 204, 205, 198, 206, 207, 208, 209, 210, 211, 212, 213, 82, 83, 12, 84, 85, 53, 54, 55, 15, 86, 21, 22, 23, 87, 58, 59, 60, 61, 62, 63, 64, 14, 65, 17, 18, 19, 214, 215, 90, 91, 92, 216, 217, 218, 219, 220, 221, 222, 223, 224, 225, 226, 227, 228, 229, 127, 128, 129, 230, 231, 232, 233, 234, 235, 236, 237, 238, 239, 240, 241, 242, 243, 244, 185, 186, 187, 245, 246, 247, 248, 249, 250, 98, 99, 100, 251, 252, 253, 254, 255, 256, 257, 258, 259, 260, 261, 262, 263, 264, 265, 266, 267, 268, 269, 270, 271, 272, 273, 274, 275, 276, 277, 278, 279, 280, 281, 282, 283, 284, 285, 286, 287, 288, 289, 290, 291, 292, 181, 182, 183, 322, 323, 324, 325, 326, 327, 328, 308, 309, 310, 311, 312, 313, 314, 315, 316, 317, 318, 319, 329, 330, 331, 332, 333, 334, 320, 321, 338, 339, 340, 341, 342, 343, 344] (by decide +kernel) (by decide +kernel)) (goodIn_sub (fun _ h => List.mem_cons_of_mem _ (List.mem_append_right _ h)) (by decide +kernel))
set_option maxRecDepth 20000 in
theorem gX10_open_X3_tryWord_u152X3 : GoodIn wsX10_open (va_wsU RX10 152 RX3 "CryptRows$Lock" ⟨"CryptRows$Lock", "tryWord", "()I"⟩ yX3_tryWord wsX3_tryWord) := goodIn_app (goodIn_of _ (by decide +kernel)) ggX10_open_X3_tryWord
set_option maxRecDepth 20000 in
theorem ggX10_open_X5_clear : GoodIn wsX10_open wsX5_clear := goodIn_r _ [55, 15, 320, 321] (by decide +kernel) (by decide +kernel)
set_option maxRecDepth 20000 in
theorem gX10_open_X5_clear : GoodIn wsX10_open (wsV RX10 155 RX5 yX5_clear wsX5_clear) := goodIn_app (goodIn_of _ (by decide +kernel)) ggX10_open_X5_clear
set_option maxRecDepth 20000 in
theorem ggX10_open_X10_shut : GoodIn wsX10_open wsX10_shut := goodIn_r _ [298, 7, 299, 293, 53, 54, 12, 55, 15, 300, 301, 302, 303, 304, 305, 306, 307, 308, 309, 310, 311, 312, 313, 314, 315, 316, 317, 318, 319, 320, 321] (by decide +kernel) (by decide +kernel)
set_option maxRecDepth 20000 in
theorem gX10_open_X10_shut : GoodIn wsX10_open (wsV RX10 113 RX10 yX10_shut wsX10_shut) := goodIn_app (goodIn_of _ (by decide +kernel)) ggX10_open_X10_shut
theorem dX10_open_0 : decode cX10_open 0 = .ok (.iload_n 1, 1) := by decide +kernel
theorem dX10_open_1 : decode cX10_open 1 = .ok (.iconst (-1), 1) := by decide +kernel
theorem dX10_open_2 : decode cX10_open 2 = .ok (.if_icmp .lt 10, 3) := by decide +kernel
theorem dX10_open_5 : decode cX10_open 5 = .ok (.iload_n 1, 1) := by decide +kernel
theorem dX10_open_6 : decode cX10_open 6 = .ok (.sipush 255, 3) := by decide +kernel
theorem dX10_open_9 : decode cX10_open 9 = .ok (.if_icmp .le 13, 3) := by decide +kernel
theorem dX10_open_12 : decode cX10_open 12 = .ok (.new 136, 3) := by decide +kernel
theorem dX10_open_15 : decode cX10_open 15 = .ok (.dup, 1) := by decide +kernel
theorem dX10_open_16 : decode cX10_open 16 = .ok (.ldc 138, 2) := by decide +kernel
theorem dX10_open_18 : decode cX10_open 18 = .ok (.invokespecial 140, 3) := by decide +kernel
theorem dX10_open_21 : decode cX10_open 21 = .ok (.athrow, 1) := by decide +kernel
theorem dX10_open_22 : decode cX10_open 22 = .ok (.iload_n 1, 1) := by decide +kernel
theorem dX10_open_23 : decode cX10_open 23 = .ok (.ifCond .lt 49, 3) := by decide +kernel
theorem dX10_open_26 : decode cX10_open 26 = .ok (.aload_n 0, 1) := by decide +kernel
theorem dX10_open_27 : decode cX10_open 27 = .ok (.getfield 36, 3) := by decide +kernel
theorem dX10_open_30 : decode cX10_open 30 = .ok (.getfield 141, 3) := by decide +kernel
theorem dX10_open_33 : decode cX10_open 33 = .ok (.iconst 1, 1) := by decide +kernel
theorem dX10_open_34 : decode cX10_open 34 = .ok (.invokevirtual 64, 3) := by decide +kernel
theorem dX10_open_37 : decode cX10_open 37 = .ok (.ifCond .ne 13, 3) := by decide +kernel
theorem dX10_open_40 : decode cX10_open 40 = .ok (.new 68, 3) := by decide +kernel
theorem dX10_open_43 : decode cX10_open 43 = .ok (.dup, 1) := by decide +kernel
theorem dX10_open_44 : decode cX10_open 44 = .ok (.ldc 144, 2) := by decide +kernel
theorem dX10_open_46 : decode cX10_open 46 = .ok (.invokespecial 72, 3) := by decide +kernel
theorem dX10_open_49 : decode cX10_open 49 = .ok (.athrow, 1) := by decide +kernel
theorem dX10_open_50 : decode cX10_open 50 = .ok (.aload_n 0, 1) := by decide +kernel
theorem dX10_open_51 : decode cX10_open 51 = .ok (.getfield 36, 3) := by decide +kernel
theorem dX10_open_54 : decode cX10_open 54 = .ok (.getfield 141, 3) := by decide +kernel
theorem dX10_open_57 : decode cX10_open 57 = .ok (.iload_n 1, 1) := by decide +kernel
theorem dX10_open_58 : decode cX10_open 58 = .ok (.invokevirtual 75, 3) := by decide +kernel
theorem dX10_open_61 : decode cX10_open 61 = .ok (.aload_n 0, 1) := by decide +kernel
theorem dX10_open_62 : decode cX10_open 62 = .ok (.getfield 36, 3) := by decide +kernel
theorem dX10_open_65 : decode cX10_open 65 = .ok (.getfield 141, 3) := by decide +kernel
theorem dX10_open_68 : decode cX10_open 68 = .ok (.invokevirtual 78, 3) := by decide +kernel
theorem dX10_open_71 : decode cX10_open 71 = .ok (.ireturn, 1) := by decide +kernel
theorem dX10_open_72 : decode cX10_open 72 = .ok (.aload_n 0, 1) := by decide +kernel
theorem dX10_open_73 : decode cX10_open 73 = .ok (.getfield 36, 3) := by decide +kernel
theorem dX10_open_76 : decode cX10_open 76 = .ok (.invokevirtual 146, 3) := by decide +kernel
theorem dX10_open_79 : decode cX10_open 79 = .ok (.ifCond .ne 13, 3) := by decide +kernel
theorem dX10_open_82 : decode cX10_open 82 = .ok (.new 102, 3) := by decide +kernel
theorem dX10_open_85 : decode cX10_open 85 = .ok (.dup, 1) := by decide +kernel
theorem dX10_open_86 : decode cX10_open 86 = .ok (.ldc 150, 2) := by decide +kernel
theorem dX10_open_88 : decode cX10_open 88 = .ok (.invokespecial 106, 3) := by decide +kernel
theorem dX10_open_91 : decode cX10_open 91 = .ok (.athrow, 1) := by decide +kernel
theorem dX10_open_92 : decode cX10_open 92 = .ok (.aload_n 0, 1) := by decide +kernel
theorem dX10_open_93 : decode cX10_open 93 = .ok (.getfield 24, 3) := by decide +kernel
theorem dX10_open_96 : decode cX10_open 96 = .ok (.invokevirtual 152, 3) := by decide +kernel
theorem dX10_open_99 : decode cX10_open 99 = .ok (.istore_n 2, 1) := by decide +kernel
theorem dX10_open_100 : decode cX10_open 100 = .ok (.aload_n 0, 1) := by decide +kernel
theorem dX10_open_101 : decode cX10_open 101 = .ok (.getfield 36, 3) := by decide +kernel
theorem dX10_open_104 : decode cX10_open 104 = .ok (.getfield 141, 3) := by decide +kernel
theorem dX10_open_107 : decode cX10_open 107 = .ok (.invokevirtual 155, 3) := by decide +kernel
theorem dX10_open_110 : decode cX10_open 110 = .ok (.iload_n 2, 1) := by decide +kernel
theorem dX10_open_111 : decode cX10_open 111 = .ok (.ifCond .ne 7, 3) := by decide +kernel
theorem dX10_open_114 : decode cX10_open 114 = .ok (.aload_n 0, 1) := by decide +kernel
theorem dX10_open_115 : decode cX10_open 115 = .ok (.invokevirtual 113, 3) := by decide +kernel
theorem dX10_open_118 : decode cX10_open 118 = .ok (.iload_n 2, 1) := by decide +kernel
theorem dX10_open_119 : decode cX10_open 119 = .ok (.ireturn, 1) := by decide +kernel
set_option maxRecDepth 20000 in
theorem ggX10_key_X9_isOpen : GoodIn wsX10_key wsX9_isOpen := goodIn_r _ [11, 12, 13, 14, 15, 16, 17, 18, 119, 120, 121, 122, 123, 124, 125, 126, 127, 128, 129, 130, 131, 132] (by decide +kernel) (by decide +kernel)
set_option maxRecDepth 20000 in
theorem gX10_key_X9_isOpen : GoodIn wsX10_key (wsV RX10 158 RX9 yX9_isOpen wsX9_isOpen) := goodIn_app (goodIn_of _ (by decide +kernel)) ggX10_key_X9_isOpen
set_option maxRecDepth 20000 in
theorem ggX10_key_X1_findObjectKey : GoodIn wsX10_key wsX1_findObjectKey := goodIn_ca (goodIn_r _ [24, 25, 26, 27, 28, 29, 30, 31, 32, 33, 34, 35, 16, 36, 37, 38, 39, 40, 18, 41, 14, 15, 17, 42, 43, 44, 45, 46, 47, 48, 49, 50, 51, 52, 53, 54, 55, 56, 57, 58, 59, 60, 61, 62, 63, 64, 65, 66, 67, 68, 69, 70, 71, 72, 73, 74, 75, 76, 77, 78, 79, 80, 81, 82, 83, 84, 85, 86, 87, 88, 89, 90, 91, 92, 93, 94, 95, 96, 97, 98, 99, 100, 101, 102, 133, 134, 135, 136, 137, 138, 139, 140, 141, 142, 143, 144, 145, 119, 120, 121, 122, 123, 124, 125, 126, 127, 128, 129, 130, 131, 132, 146, 147] (by decide +kernel) (by decide +kernel)) (goodIn_sub (fun _ h => List.mem_cons_of_mem _ (List.mem_append_right _ h)) (by decide +kernel))
set_option maxRecDepth 20000 in
theorem gX10_key_X1_findObjectKey_u163X1 : GoodIn wsX10_key (va_wsU RX10 163 RX1 "CryptRows$Lock" ⟨"CryptRows$Lock", "findObjectKey", "(IIZLCryptRows$Row;)V"⟩ yX1_findObjectKey wsX1_findObjectKey) := goodIn_app (goodIn_of _ (by decide +kernel)) ggX10_key_X1_findObjectKey
set_option maxRecDepth 20000 in
theorem ggX10_key_X3_findObjectKey : GoodIn wsX10_key wsX3_findObjectKey := goodIn_ca (goodIn_r _ [106, 107, 108, 109, 34, 35, 16, 36, 37, 38, 39, 40, 18, 41, 14, 15, 17, 42, 43, 44, 45, 46, 47, 48, 49, 50, 51, 52, 53, 54, 133, 134, 135, 136, 137, 138, 139, 119, 120, 121, 122, 123, 124, 125, 126, 127, 128, 129, 130, 131, 132] (by decide +kernel) (by decide +kernel)) (goodIn_sub (fun _ h => List.mem_cons_of_mem _ (List.mem_append_right _ h)) (by decide +kernel))
set_option maxRecDepth 20000 in
theorem gX10_key_X3_findObjectKey_u163X3 : GoodIn wsX10_key (va_wsU RX10 163 RX3 "CryptRows$Lock" ⟨"CryptRows$Lock", "findObjectKey", "(IIZLCryptRows$Row;)V"⟩ yX3_findObjectKey wsX3_findObjectKey) := goodIn_app (goodIn_of _ (by decide +kernel)) ggX10_key_X3_findObjectKey
set_option maxRecDepth 20000 in
theorem ggX10_key_X5_count : GoodIn wsX10_key wsX5_count := goodIn_r _ [17, 18, 131, 132] (by decide +kernel) (by decide +kernel)
set_option maxRecDepth 20000 in
theorem gX10_key_X5_count : GoodIn wsX10_key (wsV RX10 78 RX5 yX5_count wsX5_count) := goodIn_app (goodIn_of _ (by decide +kernel)) ggX10_key_X5_count
theorem dX10_key_0 : decode cX10_key 0 = .ok (.aload_n 0, 1) := by decide +kernel
theorem dX10_key_1 : decode cX10_key 1 = .ok (.getfield 36, 3) := by decide +kernel
theorem dX10_key_4 : decode cX10_key 4 = .ok (.invokevirtual 158, 3) := by decide +kernel
theorem dX10_key_7 : decode cX10_key 7 = .ok (.ifCond .ne 13, 3) := by decide +kernel
theorem dX10_key_10 : decode cX10_key 10 = .ok (.new 102, 3) := by decide +kernel
theorem dX10_key_13 : decode cX10_key 13 = .ok (.dup, 1) := by decide +kernel
theorem dX10_key_14 : decode cX10_key 14 = .ok (.ldc 161, 2) := by decide +kernel
theorem dX10_key_16 : decode cX10_key 16 = .ok (.invokespecial 106, 3) := by decide +kernel
theorem dX10_key_19 : decode cX10_key 19 = .ok (.athrow, 1) := by decide +kernel
theorem dX10_key_20 : decode cX10_key 20 = .ok (.aload_n 0, 1) := by decide +kernel
theorem dX10_key_21 : decode cX10_key 21 = .ok (.getfield 24, 3) := by decide +kernel
theorem dX10_key_24 : decode cX10_key 24 = .ok (.iload_n 1, 1) := by decide +kernel
theorem dX10_key_25 : decode cX10_key 25 = .ok (.iload_n 2, 1) := by decide +kernel
theorem dX10_key_26 : decode cX10_key 26 = .ok (.aload_n 0, 1) := by decide +kernel
theorem dX10_key_27 : decode cX10_key 27 = .ok (.getfield 52, 3) := by decide +kernel
theorem dX10_key_30 : decode cX10_key 30 = .ok (.iconst 2, 1) := by decide +kernel
theorem dX10_key_31 : decode cX10_key 31 = .ok (.if_icmp .ne 7, 3) := by decide +kernel
theorem dX10_key_34 : decode cX10_key 34 = .ok (.iconst 1, 1) := by decide +kernel
theorem dX10_key_35 : decode cX10_key 35 = .ok (.goto 4, 3) := by decide +kernel
theorem dX10_key_38 : decode cX10_key 38 = .ok (.iconst 0, 1) := by decide +kernel
theorem dX10_key_39 : decode cX10_key 39 = .ok (.aload_n 0, 1) := by decide +kernel
theorem dX10_key_40 : decode cX10_key 40 = .ok (.getfield 49, 3) := by decide +kernel
theorem dX10_key_43 : decode cX10_key 43 = .ok (.invokevirtual 163, 3) := by decide +kernel
theorem dX10_key_46 : decode cX10_key 46 = .ok (.aload_n 0, 1) := by decide +kernel
theorem dX10_key_47 : decode cX10_key 47 = .ok (.getfield 49, 3) := by decide +kernel
theorem dX10_key_50 : decode cX10_key 50 = .ok (.invokevirtual 78, 3) := by decide +kernel
theorem dX10_key_53 : decode cX10_key 53 = .ok (.ireturn, 1) := by decide +kernel
set_option maxRecDepth 20000 in
theorem ggX10_filter_X1_knowsFilter : GoodIn wsX10_filter wsX1_knowsFilter := goodIn_r _ [10, 11, 12, 25, 26, 27, 28, 29, 30, 31, 32, 33, 34, 35, 36, 37, 38, 39, 40, 41, 42, 43] (by decide +kernel) (by decide +kernel)
set_option maxRecDepth 20000 in
theorem gX10_filter_X1_knowsFilter_u167X1 : GoodIn wsX10_filter (va_wsU RX10 167 RX1 "CryptRows$Lock" ⟨"CryptRows$Lock", "knowsFilter", "(I)Z"⟩ yX1_knowsFilter wsX1_knowsFilter) := goodIn_app (goodIn_of _ (by decide +kernel)) ggX10_filter_X1_knowsFilter
set_option maxRecDepth 20000 in
theorem ggX10_filter_X3_knowsFilter : GoodIn wsX10_filter wsX3_knowsFilter := goodIn_r _ [16] (by decide +kernel) (by decide +kernel)
set_option maxRecDepth 20000 in
theorem gX10_filter_X3_knowsFilter_u167X3 : GoodIn wsX10_filter (va_wsU RX10 167 RX3 "CryptRows$Lock" ⟨"CryptRows$Lock", "knowsFilter", "(I)Z"⟩ yX3_knowsFilter wsX3_knowsFilter) := goodIn_app (goodIn_of _ (by decide +kernel)) ggX10_filter_X3_knowsFilter
theorem dX10_filter_0 : decode cX10_filter 0 = .ok (.aload_n 0, 1) := by decide +kernel
theorem dX10_filter_1 : decode cX10_filter 1 = .ok (.getfield 24, 3) := by decide +kernel
theorem dX10_filter_4 : decode cX10_filter 4 = .ok (.iload_n 1, 1) := by decide +kernel
theorem dX10_filter_5 : decode cX10_filter 5 = .ok (.invokevirtual 167, 3) := by decide +kernel
theorem dX10_filter_8 : decode cX10_filter 8 = .ok (.ifCond .ne 13, 3) := by decide +kernel
theorem dX10_filter_11 : decode cX10_filter 11 = .ok (.new 136, 3) := by decide +kernel
theorem dX10_filter_14 : decode cX10_filter 14 = .ok (.dup, 1) := by decide +kernel
theorem dX10_filter_15 : decode cX10_filter 15 = .ok (.ldc 170, 2) := by decide +kernel
theorem dX10_filter_17 : decode cX10_filter 17 = .ok (.invokespecial 140, 3) := by decide +kernel
theorem dX10_filter_20 : decode cX10_filter 20 = .ok (.athrow, 1) := by decide +kernel
theorem dX10_filter_21 : decode cX10_filter 21 = .ok (.aload_n 0, 1) := by decide +kernel
theorem dX10_filter_22 : decode cX10_filter 22 = .ok (.getfield 52, 3) := by decide +kernel
theorem dX10_filter_25 : decode cX10_filter 25 = .ok (.istore_n 2, 1) := by decide +kernel
theorem dX10_filter_26 : decode cX10_filter 26 = .ok (.aload_n 0, 1) := by decide +kernel
theorem dX10_filter_27 : decode cX10_filter 27 = .ok (.iload_n 1, 1) := by decide +kernel
theorem dX10_filter_28 : decode cX10_filter 28 = .ok (.putfield 52, 3) := by decide +kernel
theorem dX10_filter_31 : decode cX10_filter 31 = .ok (.iload_n 2, 1) := by decide +kernel
theorem dX10_filter_32 : decode cX10_filter 32 = .ok (.ireturn, 1) := by decide +kernel
set_option maxRecDepth 20000 in
theorem ggX10_apply_X9_isOpen : GoodIn wsX10_apply wsX9_isOpen := goodIn_r _ [13, 14, 15, 16, 17, 18, 19, 20, 39, 40, 41, 42, 43, 44, 45, 46, 47, 48, 49, 50, 51, 52] (by decide +kernel) (by decide +kernel)
set_option maxRecDepth 20000 in
theorem gX10_apply_X9_isOpen : GoodIn wsX10_apply (wsV RX10 158 RX9 yX9_isOpen wsX9_isOpen) := goodIn_app (goodIn_of _ (by decide +kernel)) ggX10_apply_X9_isOpen
set_option maxRecDepth 20000 in
theorem ggX10_apply_X5_count : GoodIn wsX10_apply wsX5_count := goodIn_r _ [19, 20, 51, 52] (by decide +kernel) (by decide +kernel)
set_option maxRecDepth 20000 in
theorem gX10_apply_X5_count : GoodIn wsX10_apply (wsV RX10 78 RX5 yX5_count wsX5_count) := goodIn_app (goodIn_of _ (by decide +kernel)) ggX10_apply_X5_count
set_option maxRecDepth 20000 in
theorem ggX10_apply_X5_hasRoom : GoodIn wsX10_apply wsX5_hasRoom := goodIn_r _ [25, 26, 20, 51, 52] (by decide +kernel) (by decide +kernel)
set_option maxRecDepth 20000 in
theorem gX10_apply_X5_hasRoom : GoodIn wsX10_apply (wsV RX10 64 RX5 yX5_hasRoom wsX5_hasRoom) := goodIn_app (goodIn_of _ (by decide +kernel)) ggX10_apply_X5_hasRoom
set_option maxRecDepth 20000 in
theorem ggX10_apply_X5_add : GoodIn wsX10_apply wsX5_add := goodIn_ca (goodIn_r _ [30, 20, 26, 51, 52] (by decide +kernel) (by decide +kernel)) (goodIn_sub (fun _ h => List.mem_cons_of_mem _ (List.mem_append_right _ h)) (by decide +kernel))
set_option maxRecDepth 20000 in
theorem gX10_apply_X5_add : GoodIn wsX10_apply (wsV RX10 75 RX5 yX5_add wsX5_add) := goodIn_app (goodIn_of _ (by decide +kernel)) ggX10_apply_X5_add
theorem dX10_apply_0 : decode cX10_apply 0 = .ok (.aload_n 0, 1) := by decide +kernel
theorem dX10_apply_1 : decode cX10_apply 1 = .ok (.getfield 36, 3) := by decide +kernel
theorem dX10_apply_4 : decode cX10_apply 4 = .ok (.invokevirtual 158, 3) := by decide +kernel
theorem dX10_apply_7 : decode cX10_apply 7 = .ok (.ifCond .ne 13, 3) := by decide +kernel
theorem dX10_apply_10 : decode cX10_apply 10 = .ok (.new 102, 3) := by decide +kernel
theorem dX10_apply_13 : decode cX10_apply 13 = .ok (.dup, 1) := by decide +kernel
theorem dX10_apply_14 : decode cX10_apply 14 = .ok (.ldc 161, 2) := by decide +kernel
theorem dX10_apply_16 : decode cX10_apply 16 = .ok (.invokespecial 106, 3) := by decide +kernel
theorem dX10_apply_19 : decode cX10_apply 19 = .ok (.athrow, 1) := by decide +kernel
theorem dX10_apply_20 : decode cX10_apply 20 = .ok (.aload_n 0, 1) := by decide +kernel
theorem dX10_apply_21 : decode cX10_apply 21 = .ok (.getfield 45, 3) := by decide +kernel
theorem dX10_apply_24 : decode cX10_apply 24 = .ok (.invokevirtual 78, 3) := by decide +kernel
theorem dX10_apply_27 : decode cX10_apply 27 = .ok (.ifCond .le 29, 3) := by decide +kernel
theorem dX10_apply_30 : decode cX10_apply 30 = .ok (.iload_n 1, 1) := by decide +kernel
theorem dX10_apply_31 : decode cX10_apply 31 = .ok (.aload_n 0, 1) := by decide +kernel
theorem dX10_apply_32 : decode cX10_apply 32 = .ok (.getfield 172, 3) := by decide +kernel
theorem dX10_apply_35 : decode cX10_apply 35 = .ok (.if_icmp .ne 11, 3) := by decide +kernel
theorem dX10_apply_38 : decode cX10_apply 38 = .ok (.iload_n 2, 1) := by decide +kernel
theorem dX10_apply_39 : decode cX10_apply 39 = .ok (.aload_n 0, 1) := by decide +kernel
theorem dX10_apply_40 : decode cX10_apply 40 = .ok (.getfield 175, 3) := by decide +kernel
theorem dX10_apply_43 : decode cX10_apply 43 = .ok (.if_icmp .eq 13, 3) := by decide +kernel
theorem dX10_apply_46 : decode cX10_apply 46 = .ok (.new 102, 3) := by decide +kernel
theorem dX10_apply_49 : decode cX10_apply 49 = .ok (.dup, 1) := by decide +kernel
theorem dX10_apply_50 : decode cX10_apply 50 = .ok (.ldc 178, 2) := by decide +kernel
theorem dX10_apply_52 : decode cX10_apply 52 = .ok (.invokespecial 106, 3) := by decide +kernel
theorem dX10_apply_55 : decode cX10_apply 55 = .ok (.athrow, 1) := by decide +kernel
theorem dX10_apply_56 : decode cX10_apply 56 = .ok (.aload_n 0, 1) := by decide +kernel
theorem dX10_apply_57 : decode cX10_apply 57 = .ok (.getfield 45, 3) := by decide +kernel
theorem dX10_apply_60 : decode cX10_apply 60 = .ok (.iconst 1, 1) := by decide +kernel
theorem dX10_apply_61 : decode cX10_apply 61 = .ok (.invokevirtual 64, 3) := by decide +kernel
theorem dX10_apply_64 : decode cX10_apply 64 = .ok (.ifCond .ne 13, 3) := by decide +kernel
theorem dX10_apply_67 : decode cX10_apply 67 = .ok (.new 68, 3) := by decide +kernel
theorem dX10_apply_70 : decode cX10_apply 70 = .ok (.dup, 1) := by decide +kernel
theorem dX10_apply_71 : decode cX10_apply 71 = .ok (.ldc 180, 2) := by decide +kernel
theorem dX10_apply_73 : decode cX10_apply 73 = .ok (.invokespecial 72, 3) := by decide +kernel
theorem dX10_apply_76 : decode cX10_apply 76 = .ok (.athrow, 1) := by decide +kernel
theorem dX10_apply_77 : decode cX10_apply 77 = .ok (.aload_n 0, 1) := by decide +kernel
theorem dX10_apply_78 : decode cX10_apply 78 = .ok (.iload_n 1, 1) := by decide +kernel
theorem dX10_apply_79 : decode cX10_apply 79 = .ok (.putfield 172, 3) := by decide +kernel
theorem dX10_apply_82 : decode cX10_apply 82 = .ok (.aload_n 0, 1) := by decide +kernel
theorem dX10_apply_83 : decode cX10_apply 83 = .ok (.iload_n 2, 1) := by decide +kernel
theorem dX10_apply_84 : decode cX10_apply 84 = .ok (.putfield 175, 3) := by decide +kernel
theorem dX10_apply_87 : decode cX10_apply 87 = .ok (.aload_n 0, 1) := by decide +kernel
theorem dX10_apply_88 : decode cX10_apply 88 = .ok (.getfield 45, 3) := by decide +kernel
theorem dX10_apply_91 : decode cX10_apply 91 = .ok (.iload_n 3, 1) := by decide +kernel
theorem dX10_apply_92 : decode cX10_apply 92 = .ok (.invokevirtual 75, 3) := by decide +kernel
theorem dX10_apply_95 : decode cX10_apply 95 = .ok (.aload_n 0, 1) := by decide +kernel
theorem dX10_apply_96 : decode cX10_apply 96 = .ok (.getfield 45, 3) := by decide +kernel
theorem dX10_apply_99 : decode cX10_apply 99 = .ok (.invokevirtual 78, 3) := by decide +kernel
theorem dX10_apply_102 : decode cX10_apply 102 = .ok (.ireturn, 1) := by decide +kernel
set_option maxRecDepth 20000 in
theorem ggX10_end_X5_count : GoodIn wsX10_end wsX5_count := goodIn_r _ [10, 11, 243, 244] (by decide +kernel) (by decide +kernel)
set_option maxRecDepth 20000 in
theorem gX10_end_X5_count : GoodIn wsX10_end (wsV RX10 78 RX5 yX5_count wsX5_count) := goodIn_app (goodIn_of _ (by decide +kernel)) ggX10_end_X5_count
set_option maxRecDepth 20000 in
theorem ggX10_end_X10_turnBytes : GoodIn wsX10_end wsX10_turnBytes := goodIn_ca (goodIn_r _ [16, 2, 17, 18, 5, 1, 19, 20, 21, 22, 23, 24, 25, 26, 27, 28, 29, 30, 31, 32, 33, 34, 35, 9, 36, 37, 38, 39, 40, 11, 41, 7, 8, 10, 42, 43, 44, 45, 46, 47, 48, 49, 50, 51, 52, 53, 54, 55, 56, 57, 58, 59, 60, 61, 62, 63, 64, 65, 66, 67, 68, 69, 70, 71, 72, 73, 74, 75, 76, 77, 78, 79, 80, 81, 82, 83, 84, 85, 86, 87, 88, 89, 90, 91, 92, 93, 94, 95, 96, 97, 98, 99, 100, 101, 102, 103, 104, 105, 106, 107, 108, 109, 110, 111, 112, 113, 114, 115, 116, 117, 118, 119, 120, 121, 122, 123, 124, 125, 126, 127, 128, 129, 130, 6, 229, 230, 231, 232, 233, 234, 235, 236, 237, 238, 239, 240, 241, 242, 245, 246, 247, 248, 249, 250, 251, 252, 253, 254, 255, 256, 257, 258, 259, 260, 261, 262, 263, 243, 244, 264, 265, 266] (by decide +kernel) (by decide +kernel)) (goodIn_sub (fun _ h => List.mem_cons_of_mem _ (List.mem_append_right _ h)) (by decide +kernel))
set_option maxRecDepth 20000 in
theorem gX10_end_X10_turnBytes : GoodIn wsX10_end (wsV RX10 182 RX10 yX10_turnBytes wsX10_turnBytes) := goodIn_app (goodIn_of _ (by decide +kernel)) ggX10_end_X10_turnBytes
set_option maxRecDepth 20000 in
theorem ggX10_end_X10_openBlocks : GoodIn wsX10_end wsX10_openBlocks := goodIn_ca (goodIn_r _ [134, 1, 17, 18, 5, 6, 7, 8, 9, 10, 11, 19, 20, 21, 22, 23, 24, 25, 26, 27, 28, 29, 30, 31, 32, 33, 34, 35, 36, 37, 38, 39, 40, 41, 42, 43, 44, 45, 46, 47, 48, 49, 50, 51, 52, 53, 54, 55, 56, 57, 58, 59, 60, 61, 62, 63, 64, 65, 66, 67, 68, 69, 70, 71, 72, 73, 74, 75, 76, 77, 78, 79, 80, 81, 82, 83, 84, 85, 86, 87, 88, 89, 90, 91, 92, 93, 94, 95, 96, 97, 98, 99, 100, 101, 102, 103, 104, 105, 106, 107, 108, 109, 110, 135, 136, 137, 138, 139, 140, 141, 142, 143, 144, 145, 146, 147, 148, 149, 150, 151, 152, 153, 154, 155, 156, 157, 158, 159, 160, 161, 162, 163, 164, 165, 166, 167, 168, 169, 170, 171, 172, 173, 174, 175, 176, 128, 129, 130, 177, 178, 179, 15, 180, 181, 182, 183, 184, 185, 186, 187, 229, 230, 231, 232, 233, 234, 235, 236, 237, 238, 239, 240, 241, 242, 243, 244, 245, 246, 247, 248, 249, 250, 251, 252, 253, 254, 255, 256, 257, 258, 259, 260, 261, 262, 263, 264, 265, 267, 268, 269, 270, 271] (by decide +kernel) (by decide +kernel)) (goodIn_sub (fun _ h => List.mem_cons_of_mem _ (List.mem_append_right _ h)) (by decide +kernel))
set_option maxRecDepth 20000 in
theorem gX10_end_X10_openBlocks : GoodIn wsX10_end (wsV RX10 185 RX10 yX10_openBlocks wsX10_openBlocks) := goodIn_app (goodIn_of _ (by decide +kernel)) ggX10_end_X10_openBlocks
set_option maxRecDepth 20000 in
theorem ggX10_end_X10_shutBlocks : GoodIn wsX10_end wsX10_shutBlocks := goodIn_ca (goodIn_r _ [191, 192, 17, 18, 5, 1, 193, 194, 195, 196, 197, 198, 199, 200, 7, 8, 9, 10, 11, 19, 20, 21, 22, 23, 24, 25, 26, 27, 28, 29, 30, 31, 32, 33, 34, 35, 36, 37, 38, 39, 40, 41, 42, 43, 44, 45, 46, 47, 48, 49, 50, 51, 52, 53, 54, 55, 56, 57, 58, 59, 60, 61, 62, 63, 64, 65, 66, 67, 68, 69, 70, 71, 72, 73, 74, 75, 76, 77, 78, 79, 80, 81, 82, 83, 84, 85, 86, 87, 88, 89, 90, 91, 92, 93, 94, 95, 96, 97, 98, 99, 100, 101, 102, 103, 104, 105, 106, 107, 108, 109, 201, 202, 203, 204, 205, 206, 207, 208, 209, 210, 211, 212, 6, 213, 214, 215, 216, 217, 218, 219, 138, 220, 140, 141, 142, 143, 144, 145, 146, 147, 148, 149, 150, 151, 152, 153, 154, 155, 156, 157, 158, 159, 160, 161, 221, 222, 223, 224, 167, 168, 169, 170, 171, 225, 226, 227, 228, 176, 128, 129, 130, 229, 230, 231, 232, 233, 234, 235, 236, 237, 238, 239, 240, 241, 242, 252, 253, 254, 255, 256, 257, 258, 259, 260, 261, 262, 263, 243, 244, 245, 246, 247, 248, 249, 250, 251, 264, 265, 267, 268, 269, 270, 271] (by decide +kernel) (by decide +kernel)) (goodIn_sub (fun _ h => List.mem_cons_of_mem _ (List.mem_append_right _ h)) (by decide +kernel))
set_option maxRecDepth 20000 in
theorem gX10_end_X10_shutBlocks : GoodIn wsX10_end (wsV RX10 188 RX10 yX10_shutBlocks wsX10_shutBlocks) := goodIn_app (goodIn_of _ (by decide +kernel)) ggX10_end_X10_shutBlocks
set_option maxRecDepth 20000 in
theorem ggX10_end_X5_clear : GoodIn wsX10_end wsX5_clear := goodIn_r _ [40, 11, 243, 244] (by decide +kernel) (by decide +kernel)
set_option maxRecDepth 20000 in
theorem gX10_end_X5_clear : GoodIn wsX10_end (wsV RX10 155 RX5 yX5_clear wsX5_clear) := goodIn_app (goodIn_of _ (by decide +kernel)) ggX10_end_X5_clear
set_option maxRecDepth 20000 in
theorem ggX10_end_X5_copy : GoodIn wsX10_end wsX5_copy := goodIn_ca (goodIn_r _ [36, 37, 38, 39, 9, 40, 11, 41, 7, 8, 10, 42, 43, 44, 45, 46, 47, 48, 49, 50, 51, 52, 53, 54, 243, 244] (by decide +kernel) (by decide +kernel)) (goodIn_sub (fun _ h => List.mem_cons_of_mem _ (List.mem_append_right _ h)) (by decide +kernel))
set_option maxRecDepth 20000 in
theorem gX10_end_X5_copy : GoodIn wsX10_end (wsV RX10 196 RX5 yX5_copy wsX5_copy) := goodIn_app (goodIn_of _ (by decide +kernel)) ggX10_end_X5_copy
theorem dX10_end_0 : decode cX10_end 0 = .ok (.aload_n 0, 1) := by decide +kernel
theorem dX10_end_1 : decode cX10_end 1 = .ok (.getfield 45, 3) := by decide +kernel
theorem dX10_end_4 : decode cX10_end 4 = .ok (.invokevirtual 78, 3) := by decide +kernel
theorem dX10_end_7 : decode cX10_end 7 = .ok (.ifCond .ne 5, 3) := by decide +kernel
theorem dX10_end_10 : decode cX10_end 10 = .ok (.iconst (-1), 1) := by decide +kernel
theorem dX10_end_11 : decode cX10_end 11 = .ok (.ireturn, 1) := by decide +kernel
theorem dX10_end_12 : decode cX10_end 12 = .ok (.aload_n 0, 1) := by decide +kernel
theorem dX10_end_13 : decode cX10_end 13 = .ok (.getfield 52, 3) := by decide +kernel
theorem dX10_end_16 : decode cX10_end 16 = .ok (.iconst 2, 1) := by decide +kernel
theorem dX10_end_17 : decode cX10_end 17 = .ok (.if_icmp .eq 10, 3) := by decide +kernel
theorem dX10_end_20 : decode cX10_end 20 = .ok (.aload_n 0, 1) := by decide +kernel
theorem dX10_end_21 : decode cX10_end 21 = .ok (.invokevirtual 182, 3) := by decide +kernel
theorem dX10_end_24 : decode cX10_end 24 = .ok (.goto 21, 3) := by decide +kernel
theorem dX10_end_27 : decode cX10_end 27 = .ok (.aload_n 0, 1) := by decide +kernel
theorem dX10_end_28 : decode cX10_end 28 = .ok (.getfield 175, 3) := by decide +kernel
theorem dX10_end_31 : decode cX10_end 31 = .ok (.ifCond .eq 10, 3) := by decide +kernel
theorem dX10_end_34 : decode cX10_end 34 = .ok (.aload_n 0, 1) := by decide +kernel
theorem dX10_end_35 : decode cX10_end 35 = .ok (.invokevirtual 185, 3) := by decide +kernel
theorem dX10_end_38 : decode cX10_end 38 = .ok (.goto 7, 3) := by decide +kernel
theorem dX10_end_41 : decode cX10_end 41 = .ok (.aload_n 0, 1) := by decide +kernel
theorem dX10_end_42 : decode cX10_end 42 = .ok (.invokevirtual 188, 3) := by decide +kernel
theorem dX10_end_45 : decode cX10_end 45 = .ok (.istore_n 1, 1) := by decide +kernel
theorem dX10_end_46 : decode cX10_end 46 = .ok (.aload_n 0, 1) := by decide +kernel
theorem dX10_end_47 : decode cX10_end 47 = .ok (.getfield 45, 3) := by decide +kernel
theorem dX10_end_50 : decode cX10_end 50 = .ok (.invokevirtual 155, 3) := by decide +kernel
theorem dX10_end_53 : decode cX10_end 53 = .ok (.iload_n 1, 1) := by decide +kernel
theorem dX10_end_54 : decode cX10_end 54 = .ok (.ifCond .lt 17, 3) := by decide +kernel
theorem dX10_end_57 : decode cX10_end 57 = .ok (.aload_n 0, 1) := by decide +kernel
theorem dX10_end_58 : decode cX10_end 58 = .ok (.getfield 49, 3) := by decide +kernel
theorem dX10_end_61 : decode cX10_end 61 = .ok (.aload_n 0, 1) := by decide +kernel
theorem dX10_end_62 : decode cX10_end 62 = .ok (.getfield 41, 3) := by decide +kernel
theorem dX10_end_65 : decode cX10_end 65 = .ok (.getfield 191, 3) := by decide +kernel
theorem dX10_end_68 : decode cX10_end 68 = .ok (.invokevirtual 196, 3) := by decide +kernel
theorem dX10_end_71 : decode cX10_end 71 = .ok (.iload_n 1, 1) := by decide +kernel
theorem dX10_end_72 : decode cX10_end 72 = .ok (.ireturn, 1) := by decide +kernel
set_option maxRecDepth 20000 in
theorem ggX10_out_X5_count : GoodIn wsX10_out wsX5_count := goodIn_r _ [9, 10, 30, 31] (by decide +kernel) (by decide +kernel)
set_option maxRecDepth 20000 in
theorem gX10_out_X5_count : GoodIn wsX10_out (wsV RX10 78 RX5 yX5_count wsX5_count) := goodIn_app (goodIn_of _ (by decide +kernel)) ggX10_out_X5_count
set_option maxRecDepth 20000 in
theorem ggX10_out_X5_at : GoodIn wsX10_out wsX5_at := goodIn_ca (goodIn_r _ [14, 10, 15, 30, 31] (by decide +kernel) (by decide +kernel)) (goodIn_sub (fun _ h => List.mem_cons_of_mem _ (List.mem_append_right _ h)) (by decide +kernel))
set_option maxRecDepth 20000 in
theorem gX10_out_X5_at : GoodIn wsX10_out (wsV RX10 128 RX5 yX5_at wsX5_at) := goodIn_app (goodIn_of _ (by decide +kernel)) ggX10_out_X5_at
theorem dX10_out_0 : decode cX10_out 0 = .ok (.iload_n 1, 1) := by decide +kernel
theorem dX10_out_1 : decode cX10_out 1 = .ok (.ifCond .lt 14, 3) := by decide +kernel
theorem dX10_out_4 : decode cX10_out 4 = .ok (.iload_n 1, 1) := by decide +kernel
theorem dX10_out_5 : decode cX10_out 5 = .ok (.aload_n 0, 1) := by decide +kernel
theorem dX10_out_6 : decode cX10_out 6 = .ok (.getfield 49, 3) := by decide +kernel
theorem dX10_out_9 : decode cX10_out 9 = .ok (.invokevirtual 78, 3) := by decide +kernel
theorem dX10_out_12 : decode cX10_out 12 = .ok (.if_icmp .lt 13, 3) := by decide +kernel
theorem dX10_out_15 : decode cX10_out 15 = .ok (.new 200, 3) := by decide +kernel
theorem dX10_out_18 : decode cX10_out 18 = .ok (.dup, 1) := by decide +kernel
theorem dX10_out_19 : decode cX10_out 19 = .ok (.ldc 202, 2) := by decide +kernel
theorem dX10_out_21 : decode cX10_out 21 = .ok (.invokespecial 204, 3) := by decide +kernel
theorem dX10_out_24 : decode cX10_out 24 = .ok (.athrow, 1) := by decide +kernel
theorem dX10_out_25 : decode cX10_out 25 = .ok (.aload_n 0, 1) := by decide +kernel
theorem dX10_out_26 : decode cX10_out 26 = .ok (.getfield 49, 3) := by decide +kernel
theorem dX10_out_29 : decode cX10_out 29 = .ok (.iload_n 1, 1) := by decide +kernel
theorem dX10_out_30 : decode cX10_out 30 = .ok (.invokevirtual 128, 3) := by decide +kernel
theorem dX10_out_33 : decode cX10_out 33 = .ok (.i2b, 1) := by decide +kernel
theorem dX10_out_34 : decode cX10_out 34 = .ok (.ireturn, 1) := by decide +kernel
set_option maxRecDepth 20000 in
theorem ggX10_digest_X6_sum : GoodIn wsX10_digest wsX6_sum := goodIn_ca (goodIn_r _ [10, 11, 12, 13, 14, 15, 16, 17, 18, 19, 20, 21, 22, 23, 24, 25, 9, 26, 27, 28, 29, 30, 31, 32, 33, 34, 35, 36, 37, 38, 39, 40, 41, 42, 43, 44, 45, 46, 47, 48, 49, 50, 51, 52, 53, 54, 55, 99, 100, 101, 102] (by decide +kernel) (by decide +kernel)) (goodIn_sub (fun _ h => List.mem_cons_of_mem _ (List.mem_append_right _ h)) (by decide +kernel))
set_option maxRecDepth 20000 in
theorem gX10_digest_X6_sum : GoodIn wsX10_digest (wsV RX10 211 RX6 yX6_sum wsX6_sum) := goodIn_app (goodIn_of _ (by decide +kernel)) ggX10_digest_X6_sum
set_option maxRecDepth 20000 in
theorem ggX10_digest_X2_sum : GoodIn wsX10_digest wsX2_sum := goodIn_ca (goodIn_r _ [60, 61, 62, 63, 64, 18, 19, 20, 21, 22, 65, 66, 67, 59, 68, 69, 28, 29, 30, 31, 70, 71, 72, 73, 74, 75, 76, 77, 78, 79, 80, 81, 82, 45, 46, 47, 83, 53, 54, 55, 103, 104, 101, 102] (by decide +kernel) (by decide +kernel)) (goodIn_sub (fun _ h => List.mem_cons_of_mem _ (List.mem_append_right _ h)) (by decide +kernel))
set_option maxRecDepth 20000 in
theorem gX10_digest_X2_sum : GoodIn wsX10_digest (wsV RX10 221 RX2 yX2_sum wsX2_sum) := goodIn_app (goodIn_of _ (by decide +kernel)) ggX10_digest_X2_sum
set_option maxRecDepth 20000 in
theorem ggX10_digest_X5_count : GoodIn wsX10_digest wsX5_count := goodIn_r _ [21, 22, 101, 102] (by decide +kernel) (by decide +kernel)
set_option maxRecDepth 20000 in
theorem gX10_digest_X5_count : GoodIn wsX10_digest (wsV RX10 78 RX5 yX5_count wsX5_count) := goodIn_app (goodIn_of _ (by decide +kernel)) ggX10_digest_X5_count
theorem dX10_digest_0 : decode cX10_digest 0 = .ok (.iload_n 1, 1) := by decide +kernel
theorem dX10_digest_1 : decode cX10_digest 1 = .ok (.ifCond .eq 18, 3) := by decide +kernel
theorem dX10_digest_4 : decode cX10_digest 4 = .ok (.iload_n 1, 1) := by decide +kernel
theorem dX10_digest_5 : decode cX10_digest 5 = .ok (.iconst 1, 1) := by decide +kernel
theorem dX10_digest_6 : decode cX10_digest 6 = .ok (.if_icmp .eq 13, 3) := by decide +kernel
theorem dX10_digest_9 : decode cX10_digest 9 = .ok (.new 136, 3) := by decide +kernel
theorem dX10_digest_12 : decode cX10_digest 12 = .ok (.dup, 1) := by decide +kernel
theorem dX10_digest_13 : decode cX10_digest 13 = .ok (.ldc 205, 2) := by decide +kernel
theorem dX10_digest_15 : decode cX10_digest 15 = .ok (.invokespecial 140, 3) := by decide +kernel
theorem dX10_digest_18 : decode cX10_digest 18 = .ok (.athrow, 1) := by decide +kernel
theorem dX10_digest_19 : decode cX10_digest 19 = .ok (.iload_n 1, 1) := by decide +kernel
theorem dX10_digest_20 : decode cX10_digest 20 = .ok (.ifCond .ne 24, 3) := by decide +kernel
theorem dX10_digest_23 : decode cX10_digest 23 = .ok (.aload_n 0, 1) := by decide +kernel
theorem dX10_digest_24 : decode cX10_digest 24 = .ok (.getfield 41, 3) := by decide +kernel
theorem dX10_digest_27 : decode cX10_digest 27 = .ok (.getfield 207, 3) := by decide +kernel
theorem dX10_digest_30 : decode cX10_digest 30 = .ok (.aload_n 0, 1) := by decide +kernel
theorem dX10_digest_31 : decode cX10_digest 31 = .ok (.getfield 45, 3) := by decide +kernel
theorem dX10_digest_34 : decode cX10_digest 34 = .ok (.aload_n 0, 1) := by decide +kernel
theorem dX10_digest_35 : decode cX10_digest 35 = .ok (.getfield 49, 3) := by decide +kernel
theorem dX10_digest_38 : decode cX10_digest 38 = .ok (.invokevirtual 211, 3) := by decide +kernel
theorem dX10_digest_41 : decode cX10_digest 41 = .ok (.goto 21, 3) := by decide +kernel
theorem dX10_digest_44 : decode cX10_digest 44 = .ok (.aload_n 0, 1) := by decide +kernel
theorem dX10_digest_45 : decode cX10_digest 45 = .ok (.getfield 41, 3) := by decide +kernel
theorem dX10_digest_48 : decode cX10_digest 48 = .ok (.getfield 217, 3) := by decide +kernel
theorem dX10_digest_51 : decode cX10_digest 51 = .ok (.aload_n 0, 1) := by decide +kernel
theorem dX10_digest_52 : decode cX10_digest 52 = .ok (.getfield 45, 3) := by decide +kernel
theorem dX10_digest_55 : decode cX10_digest 55 = .ok (.aload_n 0, 1) := by decide +kernel
theorem dX10_digest_56 : decode cX10_digest 56 = .ok (.getfield 49, 3) := by decide +kernel
theorem dX10_digest_59 : decode cX10_digest 59 = .ok (.invokevirtual 221, 3) := by decide +kernel
theorem dX10_digest_62 : decode cX10_digest 62 = .ok (.aload_n 0, 1) := by decide +kernel
theorem dX10_digest_63 : decode cX10_digest 63 = .ok (.getfield 49, 3) := by decide +kernel
theorem dX10_digest_66 : decode cX10_digest 66 = .ok (.invokevirtual 78, 3) := by decide +kernel
theorem dX10_digest_69 : decode cX10_digest 69 = .ok (.ireturn, 1) := by decide +kernel
set_option maxRecDepth 20000 in
theorem ggX10_weak_X9_keyBytes : GoodIn wsX10_weak wsX9_keyBytes := goodIn_r _ [7, 8, 17, 18, 19, 20, 21, 22, 23, 24, 25, 26, 27, 28] (by decide +kernel) (by decide +kernel)
set_option maxRecDepth 20000 in
theorem gX10_weak_X9_keyBytes : GoodIn wsX10_weak (wsV RX10 224 RX9 yX9_keyBytes wsX9_keyBytes) := goodIn_app (goodIn_of _ (by decide +kernel)) ggX10_weak_X9_keyBytes
theorem dX10_weak_0 : decode cX10_weak 0 = .ok (.aload_n 0, 1) := by decide +kernel
theorem dX10_weak_1 : decode cX10_weak 1 = .ok (.getfield 36, 3) := by decide +kernel
theorem dX10_weak_4 : decode cX10_weak 4 = .ok (.invokevirtual 224, 3) := by decide +kernel
theorem dX10_weak_7 : decode cX10_weak 7 = .ok (.bipush 16, 2) := by decide +kernel
theorem dX10_weak_9 : decode cX10_weak 9 = .ok (.if_icmp .lt 10, 3) := by decide +kernel
theorem dX10_weak_12 : decode cX10_weak 12 = .ok (.aload_n 0, 1) := by decide +kernel
theorem dX10_weak_13 : decode cX10_weak 13 = .ok (.getfield 52, 3) := by decide +kernel
theorem dX10_weak_16 : decode cX10_weak 16 = .ok (.ifCond .ne 7, 3) := by decide +kernel
theorem dX10_weak_19 : decode cX10_weak 19 = .ok (.iconst 1, 1) := by decide +kernel
theorem dX10_weak_20 : decode cX10_weak 20 = .ok (.goto 4, 3) := by decide +kernel
theorem dX10_weak_23 : decode cX10_weak 23 = .ok (.iconst 0, 1) := by decide +kernel
theorem dX10_weak_24 : decode cX10_weak 24 = .ok (.ireturn, 1) := by decide +kernel
set_option maxRecDepth 20000 in
theorem ggX10_told_X5_count : GoodIn wsX10_told wsX5_count := goodIn_r _ [11, 12, 132, 133] (by decide +kernel) (by decide +kernel)
set_option maxRecDepth 20000 in
theorem gX10_told_X5_count : GoodIn wsX10_told (wsV RX10 78 RX5 yX5_count wsX5_count) := goodIn_app (goodIn_of _ (by decide +kernel)) ggX10_told_X5_count
set_option maxRecDepth 20000 in
theorem ggX10_told_X9_tapeLeft : GoodIn wsX10_told wsX9_tapeLeft := goodIn_r _ [17, 18, 19, 20, 8, 9, 10, 11, 12, 134, 135, 136, 137, 138, 139, 140, 141, 142, 143, 144, 145, 132, 133] (by decide +kernel) (by decide +kernel)
set_option maxRecDepth 20000 in
theorem gX10_told_X9_tapeLeft : GoodIn wsX10_told (wsV RX10 96 RX9 yX9_tapeLeft wsX9_tapeLeft) := goodIn_app (goodIn_of _ (by decide +kernel)) ggX10_told_X9_tapeLeft
set_option maxRecDepth 20000 in
theorem ggX10_told_X1_tellPermissions : GoodIn wsX10_told wsX1_tellPermissions := goodIn_r _ [26, 27, 28, 146, 147, 148, 149, 150, 151, 152, 134, 135, 136, 137, 138, 139, 140, 141, 142, 143, 144, 145] (by decide +kernel) (by decide +kernel)
set_option maxRecDepth 20000 in
theorem gX10_told_X1_tellPermissions_u227X1 : GoodIn wsX10_told (va_wsU RX10 227 RX1 "CryptRows$Lock" ⟨"CryptRows$Lock", "tellPermissions", "()I"⟩ yX1_tellPermissions wsX1_tellPermissions) := goodIn_app (goodIn_of _ (by decide +kernel)) ggX10_told_X1_tellPermissions
set_option maxRecDepth 20000 in
theorem ggX10_told_X3_tellPermissions : GoodIn wsX10_told wsX3_tellPermissions := goodIn_ca (goodIn_r _ [32, 33, 34, 35, 36, 37, 38, 39, 16, 40, 41, 20, 8, 9, 10, 11, 12, 42, 43, 44, 31, 45, 46, 47, 48, 49, 50, 51, 52, 53, 54, 55, 56, 57, 58, 59, 60, 61, 62, 63, 64, 65, 66, 67, 68, 69, 70, 71, 72, 73, 74, 75, 76, 77, 78, 79, 80, 81, 82, 83, 84, 85, 86, 87, 88, 89, 90, 91, 92, 93, 94, 95, 96, 97, 98, 99, 100, 101, 102, 103, 104, 105, 106, 107, 108, 109, 110, 111, 112, 113, 114, 115, 116, 117, 118, 119, 120, 121, 122, 123, 146, 147, 148, 149, 150, 151, 152, 134, 135, 136, 137, 138, 139, 140, 141, 142, 143, 144, 145, 153, 154, 155, 156, 157, 158, 132, 133, 159, 160, 161, 162, 163] (by decide +kernel) (by decide +kernel)) (goodIn_sub (fun _ h => List.mem_cons_of_mem _ (List.mem_append_right _ h)) (by decide +kernel))
set_option maxRecDepth 20000 in
theorem gX10_told_X3_tellPermissions_u227X3 : GoodIn wsX10_told (va_wsU RX10 227 RX3 "CryptRows$Lock" ⟨"CryptRows$Lock", "tellPermissions", "()I"⟩ yX3_tellPermissions wsX3_tellPermissions) := goodIn_app (goodIn_of _ (by decide +kernel)) ggX10_told_X3_tellPermissions
theorem dX10_told_0 : decode cX10_told 0 = .ok (.iload_n 1, 1) := by decide +kernel
theorem dX10_told_1 : decode cX10_told 1 = .ok (.tableswitch 63 0 3 #[31, 39, 47, 55], 31) := by decide +kernel
theorem dX10_told_32 : decode cX10_told 32 = .ok (.aload_n 0, 1) := by decide +kernel
theorem dX10_told_33 : decode cX10_told 33 = .ok (.getfield 45, 3) := by decide +kernel
theorem dX10_told_36 : decode cX10_told 36 = .ok (.invokevirtual 78, 3) := by decide +kernel
theorem dX10_told_39 : decode cX10_told 39 = .ok (.ireturn, 1) := by decide +kernel
theorem dX10_told_40 : decode cX10_told 40 = .ok (.aload_n 0, 1) := by decide +kernel
theorem dX10_told_41 : decode cX10_told 41 = .ok (.getfield 36, 3) := by decide +kernel
theorem dX10_told_44 : decode cX10_told 44 = .ok (.invokevirtual 96, 3) := by decide +kernel
theorem dX10_told_47 : decode cX10_told 47 = .ok (.ireturn, 1) := by decide +kernel
theorem dX10_told_48 : decode cX10_told 48 = .ok (.aload_n 0, 1) := by decide +kernel
theorem dX10_told_49 : decode cX10_told 49 = .ok (.getfield 49, 3) := by decide +kernel
theorem dX10_told_52 : decode cX10_told 52 = .ok (.invokevirtual 78, 3) := by decide +kernel
theorem dX10_told_55 : decode cX10_told 55 = .ok (.ireturn, 1) := by decide +kernel
theorem dX10_told_56 : decode cX10_told 56 = .ok (.aload_n 0, 1) := by decide +kernel
theorem dX10_told_57 : decode cX10_told 57 = .ok (.getfield 24, 3) := by decide +kernel
theorem dX10_told_60 : decode cX10_told 60 = .ok (.invokevirtual 227, 3) := by decide +kernel
theorem dX10_told_63 : decode cX10_told 63 = .ok (.ireturn, 1) := by decide +kernel
theorem dX10_told_64 : decode cX10_told 64 = .ok (.new 123, 3) := by decide +kernel
theorem dX10_told_67 : decode cX10_told 67 = .ok (.dup, 1) := by decide +kernel
theorem dX10_told_68 : decode cX10_told 68 = .ok (.ldc 230, 2) := by decide +kernel
theorem dX10_told_70 : decode cX10_told 70 = .ok (.invokespecial 127, 3) := by decide +kernel
theorem dX10_told_73 : decode cX10_told 73 = .ok (.athrow, 1) := by decide +kernel
set_option maxRecDepth 20000 in
theorem ggX10_shut_X5_clear : GoodIn wsX10_shut wsX5_clear := goodIn_r _ [7, 8, 29, 30] (by decide +kernel) (by decide +kernel)
set_option maxRecDepth 20000 in
theorem gX10_shut_X5_clear : GoodIn wsX10_shut (wsV RX10 155 RX5 yX5_clear wsX5_clear) := goodIn_app (goodIn_of _ (by decide +kernel)) ggX10_shut_X5_clear
theorem dX10_shut_0 : decode cX10_shut 0 = .ok (.aload_n 0, 1) := by decide +kernel
theorem dX10_shut_1 : decode cX10_shut 1 = .ok (.getfield 36, 3) := by decide +kernel
theorem dX10_shut_4 : decode cX10_shut 4 = .ok (.getfield 232, 3) := by decide +kernel
theorem dX10_shut_7 : decode cX10_shut 7 = .ok (.invokevirtual 155, 3) := by decide +kernel
theorem dX10_shut_10 : decode cX10_shut 10 = .ok (.aload_n 0, 1) := by decide +kernel
theorem dX10_shut_11 : decode cX10_shut 11 = .ok (.getfield 45, 3) := by decide +kernel
theorem dX10_shut_14 : decode cX10_shut 14 = .ok (.invokevirtual 155, 3) := by decide +kernel
theorem dX10_shut_17 : decode cX10_shut 17 = .ok (.return_, 1) := by decide +kernel
set_option maxRecDepth 20000 in
theorem ggX10_turnBytes_X1_findObjectKey : GoodIn wsX10_turnBytes wsX1_findObjectKey := goodIn_ca (goodIn_r _ [11, 12, 13, 14, 15, 16, 17, 18, 19, 20, 21, 22, 23, 24, 25, 26, 27, 28, 29, 30, 31, 32, 33, 34, 35, 36, 37, 38, 39, 40, 41, 42, 43, 44, 45, 46, 47, 48, 49, 50, 51, 52, 53, 54, 55, 56, 57, 58, 59, 60, 61, 62, 63, 64, 65, 66, 67, 68, 69, 70, 71, 72, 73, 74, 75, 76, 77, 78, 79, 80, 81, 82, 83, 84, 85, 86, 87, 88, 89, 90, 91, 92, 93, 94, 138, 139, 140, 141, 142, 143, 144, 132, 133, 134, 135, 136, 137, 145, 146, 147, 148, 149, 150, 151, 152, 153, 154, 155, 156, 157, 158, 159, 160] (by decide +kernel) (by decide +kernel)) (goodIn_sub (fun _ h => List.mem_cons_of_mem _ (List.mem_append_right _ h)) (by decide +kernel))
set_option maxRecDepth 20000 in
theorem gX10_turnBytes_X1_findObjectKey_u163X1 : GoodIn wsX10_turnBytes (va_wsU RX10 163 RX1 "CryptRows$Lock" ⟨"CryptRows$Lock", "findObjectKey", "(IIZLCryptRows$Row;)V"⟩ yX1_findObjectKey wsX1_findObjectKey) := goodIn_app (goodIn_of _ (by decide +kernel)) ggX10_turnBytes_X1_findObjectKey
set_option maxRecDepth 20000 in
theorem ggX10_turnBytes_X3_findObjectKey : GoodIn wsX10_turnBytes wsX3_findObjectKey := goodIn_ca (goodIn_r _ [98, 99, 100, 101, 21, 22, 23, 24, 25, 26, 27, 28, 29, 30, 31, 32, 33, 34, 35, 36, 37, 38, 39, 40, 41, 42, 43, 44, 45, 46, 138, 139, 140, 141, 142, 143, 144, 145, 146, 147, 148, 149, 150, 151, 152, 153, 154, 155, 156, 157, 158] (by decide +kernel) (by decide +kernel)) (goodIn_sub (fun _ h => List.mem_cons_of_mem _ (List.mem_append_right _ h)) (by decide +kernel))
set_option maxRecDepth 20000 in
theorem gX10_turnBytes_X3_findObjectKey_u163X3 : GoodIn wsX10_turnBytes (va_wsU RX10 163 RX3 "CryptRows$Lock" ⟨"CryptRows$Lock", "findObjectKey", "(IIZLCryptRows$Row;)V"⟩ yX3_findObjectKey wsX3_findObjectKey) := goodIn_app (goodIn_of _ (by decide +kernel)) ggX10_turnBytes_X3_findObjectKey
set_option maxRecDepth 20000 in
theorem ggX10_turnBytes_X5_copy : GoodIn wsX10_turnBytes wsX5_copy := goodIn_ca (goodIn_r _ [24, 25, 26, 27, 23, 28, 29, 30, 31, 32, 33, 34, 35, 36, 37, 38, 39, 40, 41, 42, 43, 44, 45, 46, 157, 158] (by decide +kernel) (by decide +kernel)) (goodIn_sub (fun _ h => List.mem_cons_of_mem _ (List.mem_append_right _ h)) (by decide +kernel))
set_option maxRecDepth 20000 in
theorem gX10_turnBytes_X5_copy : GoodIn wsX10_turnBytes (wsV RX10 196 RX5 yX5_copy wsX5_copy) := goodIn_app (goodIn_of _ (by decide +kernel)) ggX10_turnBytes_X5_copy
set_option maxRecDepth 20000 in
theorem ggX10_turnBytes_X7_turn : GoodIn wsX10_turnBytes wsX7_turn := goodIn_ca (goodIn_r _ [107, 108, 109, 110, 111, 106, 112, 113, 39, 40, 23, 41, 29, 42, 114, 115, 116, 117, 118, 31, 32, 33, 119, 120, 121, 122, 161, 157, 158] (by decide +kernel) (by decide +kernel)) (goodIn_sub (fun _ h => List.mem_cons_of_mem _ (List.mem_append_right _ h)) (by decide +kernel))
set_option maxRecDepth 20000 in
theorem gX10_turnBytes_X7_turn : GoodIn wsX10_turnBytes (wsV RX10 241 RX7 yX7_turn wsX7_turn) := goodIn_app (goodIn_of _ (by decide +kernel)) ggX10_turnBytes_X7_turn
set_option maxRecDepth 20000 in
theorem ggX10_turnBytes_X5_count : GoodIn wsX10_turnBytes wsX5_count := goodIn_r _ [33, 29, 157, 158] (by decide +kernel) (by decide +kernel)
set_option maxRecDepth 20000 in
theorem gX10_turnBytes_X5_count : GoodIn wsX10_turnBytes (wsV RX10 78 RX5 yX5_count wsX5_count) := goodIn_app (goodIn_of _ (by decide +kernel)) ggX10_turnBytes_X5_count
theorem dX10_turnBytes_0 : decode cX10_turnBytes 0 = .ok (.aload_n 0, 1) := by decide +kernel
theorem dX10_turnBytes_1 : decode cX10_turnBytes 1 = .ok (.getfield 52, 3) := by decide +kernel
theorem dX10_turnBytes_4 : decode cX10_turnBytes 4 = .ok (.iconst 1, 1) := by decide +kernel
theorem dX10_turnBytes_5 : decode cX10_turnBytes 5 = .ok (.if_icmp .ne 23, 3) := by decide +kernel
theorem dX10_turnBytes_8 : decode cX10_turnBytes 8 = .ok (.aload_n 0, 1) := by decide +kernel
theorem dX10_turnBytes_9 : decode cX10_turnBytes 9 = .ok (.getfield 24, 3) := by decide +kernel
theorem dX10_turnBytes_12 : decode cX10_turnBytes 12 = .ok (.aload_n 0, 1) := by decide +kernel
theorem dX10_turnBytes_13 : decode cX10_turnBytes 13 = .ok (.getfield 172, 3) := by decide +kernel
theorem dX10_turnBytes_16 : decode cX10_turnBytes 16 = .ok (.iconst 0, 1) := by decide +kernel
theorem dX10_turnBytes_17 : decode cX10_turnBytes 17 = .ok (.iconst 0, 1) := by decide +kernel
theorem dX10_turnBytes_18 : decode cX10_turnBytes 18 = .ok (.aload_n 0, 1) := by decide +kernel
theorem dX10_turnBytes_19 : decode cX10_turnBytes 19 = .ok (.getfield 41, 3) := by decide +kernel
theorem dX10_turnBytes_22 : decode cX10_turnBytes 22 = .ok (.getfield 235, 3) := by decide +kernel
theorem dX10_turnBytes_25 : decode cX10_turnBytes 25 = .ok (.invokevirtual 163, 3) := by decide +kernel
theorem dX10_turnBytes_28 : decode cX10_turnBytes 28 = .ok (.aload_n 0, 1) := by decide +kernel
theorem dX10_turnBytes_29 : decode cX10_turnBytes 29 = .ok (.getfield 41, 3) := by decide +kernel
theorem dX10_turnBytes_32 : decode cX10_turnBytes 32 = .ok (.getfield 191, 3) := by decide +kernel
theorem dX10_turnBytes_35 : decode cX10_turnBytes 35 = .ok (.aload_n 0, 1) := by decide +kernel
theorem dX10_turnBytes_36 : decode cX10_turnBytes 36 = .ok (.getfield 45, 3) := by decide +kernel
theorem dX10_turnBytes_39 : decode cX10_turnBytes 39 = .ok (.invokevirtual 196, 3) := by decide +kernel
theorem dX10_turnBytes_42 : decode cX10_turnBytes 42 = .ok (.aload_n 0, 1) := by decide +kernel
theorem dX10_turnBytes_43 : decode cX10_turnBytes 43 = .ok (.getfield 52, 3) := by decide +kernel
theorem dX10_turnBytes_46 : decode cX10_turnBytes 46 = .ok (.iconst 1, 1) := by decide +kernel
theorem dX10_turnBytes_47 : decode cX10_turnBytes 47 = .ok (.if_icmp .ne 28, 3) := by decide +kernel
theorem dX10_turnBytes_50 : decode cX10_turnBytes 50 = .ok (.aload_n 0, 1) := by decide +kernel
theorem dX10_turnBytes_51 : decode cX10_turnBytes 51 = .ok (.getfield 41, 3) := by decide +kernel
theorem dX10_turnBytes_54 : decode cX10_turnBytes 54 = .ok (.getfield 237, 3) := by decide +kernel
theorem dX10_turnBytes_57 : decode cX10_turnBytes 57 = .ok (.aload_n 0, 1) := by decide +kernel
theorem dX10_turnBytes_58 : decode cX10_turnBytes 58 = .ok (.getfield 41, 3) := by decide +kernel
theorem dX10_turnBytes_61 : decode cX10_turnBytes 61 = .ok (.getfield 235, 3) := by decide +kernel
theorem dX10_turnBytes_64 : decode cX10_turnBytes 64 = .ok (.iconst 0, 1) := by decide +kernel
theorem dX10_turnBytes_65 : decode cX10_turnBytes 65 = .ok (.aload_n 0, 1) := by decide +kernel
theorem dX10_turnBytes_66 : decode cX10_turnBytes 66 = .ok (.getfield 41, 3) := by decide +kernel
theorem dX10_turnBytes_69 : decode cX10_turnBytes 69 = .ok (.getfield 191, 3) := by decide +kernel
theorem dX10_turnBytes_72 : decode cX10_turnBytes 72 = .ok (.invokevirtual 241, 3) := by decide +kernel
theorem dX10_turnBytes_75 : decode cX10_turnBytes 75 = .ok (.aload_n 0, 1) := by decide +kernel
theorem dX10_turnBytes_76 : decode cX10_turnBytes 76 = .ok (.getfield 41, 3) := by decide +kernel
theorem dX10_turnBytes_79 : decode cX10_turnBytes 79 = .ok (.getfield 191, 3) := by decide +kernel
theorem dX10_turnBytes_82 : decode cX10_turnBytes 82 = .ok (.invokevirtual 78, 3) := by decide +kernel
theorem dX10_turnBytes_85 : decode cX10_turnBytes 85 = .ok (.ireturn, 1) := by decide +kernel
set_option maxRecDepth 20000 in
theorem ggX10_shutBlocks_X9_tapeLeft : GoodIn wsX10_shutBlocks wsX9_tapeLeft := goodIn_r _ [10, 11, 12, 13, 14, 15, 16, 17, 18, 185, 186, 187, 188, 189, 190, 191, 192, 193, 194, 195, 196, 197, 198] (by decide +kernel) (by decide +kernel)
set_option maxRecDepth 20000 in
theorem gX10_shutBlocks_X9_tapeLeft : GoodIn wsX10_shutBlocks (wsV RX10 96 RX9 yX9_tapeLeft wsX9_tapeLeft) := goodIn_app (goodIn_of _ (by decide +kernel)) ggX10_shutBlocks_X9_tapeLeft
set_option maxRecDepth 20000 in
theorem ggX10_shutBlocks_X1_findObjectKey : GoodIn wsX10_shutBlocks wsX1_findObjectKey := goodIn_ca (goodIn_r _ [24, 25, 26, 27, 28, 29, 30, 31, 32, 33, 34, 35, 16, 36, 37, 38, 39, 40, 18, 41, 14, 15, 17, 42, 43, 44, 45, 46, 47, 48, 49, 50, 51, 52, 53, 54, 55, 56, 57, 58, 59, 60, 61, 62, 63, 64, 65, 66, 67, 68, 69, 70, 71, 72, 73, 74, 75, 76, 77, 78, 79, 80, 81, 82, 83, 84, 85, 86, 87, 88, 89, 90, 91, 92, 93, 94, 95, 96, 97, 98, 99, 100, 101, 102, 199, 200, 201, 202, 203, 204, 205, 179, 180, 181, 182, 183, 184, 185, 186, 187, 188, 189, 190, 191, 192, 193, 194, 195, 196, 197, 198, 206, 207] (by decide +kernel) (by decide +kernel)) (goodIn_sub (fun _ h => List.mem_cons_of_mem _ (List.mem_append_right _ h)) (by decide +kernel))
set_option maxRecDepth 20000 in
theorem gX10_shutBlocks_X1_findObjectKey_u163X1 : GoodIn wsX10_shutBlocks (va_wsU RX10 163 RX1 "CryptRows$Lock" ⟨"CryptRows$Lock", "findObjectKey", "(IIZLCryptRows$Row;)V"⟩ yX1_findObjectKey wsX1_findObjectKey) := goodIn_app (goodIn_of _ (by decide +kernel)) ggX10_shutBlocks_X1_findObjectKey
set_option maxRecDepth 20000 in
theorem ggX10_shutBlocks_X3_findObjectKey : GoodIn wsX10_shutBlocks wsX3_findObjectKey := goodIn_ca (goodIn_r _ [106, 107, 108, 109, 34, 35, 16, 36, 37, 38, 39, 40, 18, 41, 14, 15, 17, 42, 43, 44, 45, 46, 47, 48, 49, 50, 51, 52, 53, 54, 199, 200, 201, 202, 203, 204, 205, 185, 186, 187, 188, 189, 190, 191, 192, 193, 194, 195, 196, 197, 198] (by decide +kernel) (by decide +kernel)) (goodIn_sub (fun _ h => List.mem_cons_of_mem _ (List.mem_append_right _ h)) (by decide +kernel))
set_option maxRecDepth 20000 in
theorem gX10_shutBlocks_X3_findObjectKey_u163X3 : GoodIn wsX10_shutBlocks (va_wsU RX10 163 RX3 "CryptRows$Lock" ⟨"CryptRows$Lock", "findObjectKey", "(IIZLCryptRows$Row;)V"⟩ yX3_findObjectKey wsX3_findObjectKey) := goodIn_app (goodIn_of _ (by decide +kernel)) ggX10_shutBlocks_X3_findObjectKey
set_option maxRecDepth 20000 in
theorem ggX10_shutBlocks_X5_clear : GoodIn wsX10_shutBlocks wsX5_clear := goodIn_r _ [40, 18, 197, 198] (by decide +kernel) (by decide +kernel)
set_option maxRecDepth 20000 in
theorem gX10_shutBlocks_X5_clear : GoodIn wsX10_shutBlocks (wsV RX10 155 RX5 yX5_clear wsX5_clear) := goodIn_app (goodIn_of _ (by decide +kernel)) ggX10_shutBlocks_X5_clear
set_option maxRecDepth 20000 in
theorem ggX10_shutBlocks_X9_giveTape : GoodIn wsX10_shutBlocks wsX9_giveTape := goodIn_ca (goodIn_r _ [114, 115, 30, 31, 32, 11, 12, 116, 7, 8, 9, 10, 13, 14, 15, 16, 17, 18, 117, 43, 44, 45, 46, 47, 48, 49, 50, 51, 52, 53, 54, 185, 186, 187, 188, 189, 190, 191, 192, 193, 194, 195, 196, 197, 198] (by decide +kernel) (by decide +kernel)) (goodIn_sub (fun _ h => List.mem_cons_of_mem _ (List.mem_append_right _ h)) (by decide +kernel))
set_option maxRecDepth 20000 in
theorem gX10_shutBlocks_X9_giveTape : GoodIn wsX10_shutBlocks (wsV RX10 247 RX9 yX9_giveTape wsX9_giveTape) := goodIn_app (goodIn_of _ (by decide +kernel)) ggX10_shutBlocks_X9_giveTape
set_option maxRecDepth 20000 in
theorem ggX10_shutBlocks_X5_addAll : GoodIn wsX10_shutBlocks wsX5_addAll := goodIn_ca (goodIn_r _ [121, 41, 14, 15, 16, 17, 18, 42, 43, 44, 45, 46, 47, 48, 49, 50, 51, 52, 53, 54, 197, 198] (by decide +kernel) (by decide +kernel)) (goodIn_sub (fun _ h => List.mem_cons_of_mem _ (List.mem_append_right _ h)) (by decide +kernel))
set_option maxRecDepth 20000 in
theorem gX10_shutBlocks_X5_addAll : GoodIn wsX10_shutBlocks (wsV RX10 251 RX5 yX5_addAll wsX5_addAll) := goodIn_app (goodIn_of _ (by decide +kernel)) ggX10_shutBlocks_X5_addAll
set_option maxRecDepth 20000 in
theorem ggX10_shutBlocks_X5_count : GoodIn wsX10_shutBlocks wsX5_count := goodIn_r _ [17, 18, 197, 198] (by decide +kernel) (by decide +kernel)
set_option maxRecDepth 20000 in
theorem gX10_shutBlocks_X5_count : GoodIn wsX10_shutBlocks (wsV RX10 78 RX5 yX5_count wsX5_count) := goodIn_app (goodIn_of _ (by decide +kernel)) ggX10_shutBlocks_X5_count
set_option maxRecDepth 20000 in
theorem ggX10_shutBlocks_X5_addSame : GoodIn wsX10_shutBlocks wsX5_addSame := goodIn_ca (goodIn_r _ [126, 51, 52, 53, 16, 54, 18, 50, 197, 198] (by decide +kernel) (by decide +kernel)) (goodIn_sub (fun _ h => List.mem_cons_of_mem _ (List.mem_append_right _ h)) (by decide +kernel))
set_option maxRecDepth 20000 in
theorem gX10_shutBlocks_X5_addSame : GoodIn wsX10_shutBlocks (wsV RX10 254 RX5 yX5_addSame wsX5_addSame) := goodIn_app (goodIn_of _ (by decide +kernel)) ggX10_shutBlocks_X5_addSame
set_option maxRecDepth 20000 in
theorem ggX10_shutBlocks_X0_shutChain : GoodIn wsX10_shutBlocks wsX0_shutChain := goodIn_ca (goodIn_r _ [131, 132, 133, 134, 135, 130, 136, 137, 138, 139, 140, 14, 15, 16, 17, 18, 141, 47, 48, 49, 50, 142, 143, 144, 145, 146, 147, 148, 149, 150, 151, 152, 153, 154, 155, 156, 157, 158, 159, 160, 161, 162, 163, 164, 165, 166, 167, 168, 169, 170, 208, 209, 210, 211, 212, 197, 198] (by decide +kernel) (by decide +kernel)) (goodIn_sub (fun _ h => List.mem_cons_of_mem _ (List.mem_append_right _ h)) (by decide +kernel))
set_option maxRecDepth 20000 in
theorem gX10_shutBlocks_X0_shutChain : GoodIn wsX10_shutBlocks (wsV RX10 261 RX0 yX0_shutChain wsX0_shutChain) := goodIn_app (goodIn_of _ (by decide +kernel)) ggX10_shutBlocks_X0_shutChain
theorem dX10_shutBlocks_0 : decode cX10_shutBlocks 0 = .ok (.aload_n 0, 1) := by decide +kernel
theorem dX10_shutBlocks_1 : decode cX10_shutBlocks 1 = .ok (.getfield 36, 3) := by decide +kernel
theorem dX10_shutBlocks_4 : decode cX10_shutBlocks 4 = .ok (.invokevirtual 96, 3) := by decide +kernel
theorem dX10_shutBlocks_7 : decode cX10_shutBlocks 7 = .ok (.bipush 16, 2) := by decide +kernel
theorem dX10_shutBlocks_9 : decode cX10_shutBlocks 9 = .ok (.if_icmp .ge 6, 3) := by decide +kernel
theorem dX10_shutBlocks_12 : decode cX10_shutBlocks 12 = .ok (.bipush (-2), 2) := by decide +kernel
theorem dX10_shutBlocks_14 : decode cX10_shutBlocks 14 = .ok (.ireturn, 1) := by decide +kernel
theorem dX10_shutBlocks_15 : decode cX10_shutBlocks 15 = .ok (.aload_n 0, 1) := by decide +kernel
theorem dX10_shutBlocks_16 : decode cX10_shutBlocks 16 = .ok (.getfield 24, 3) := by decide +kernel
theorem dX10_shutBlocks_19 : decode cX10_shutBlocks 19 = .ok (.aload_n 0, 1) := by decide +kernel
theorem dX10_shutBlocks_20 : decode cX10_shutBlocks 20 = .ok (.getfield 172, 3) := by decide +kernel
theorem dX10_shutBlocks_23 : decode cX10_shutBlocks 23 = .ok (.iconst 0, 1) := by decide +kernel
theorem dX10_shutBlocks_24 : decode cX10_shutBlocks 24 = .ok (.iconst 1, 1) := by decide +kernel
theorem dX10_shutBlocks_25 : decode cX10_shutBlocks 25 = .ok (.aload_n 0, 1) := by decide +kernel
theorem dX10_shutBlocks_26 : decode cX10_shutBlocks 26 = .ok (.getfield 41, 3) := by decide +kernel
theorem dX10_shutBlocks_29 : decode cX10_shutBlocks 29 = .ok (.getfield 235, 3) := by decide +kernel
theorem dX10_shutBlocks_32 : decode cX10_shutBlocks 32 = .ok (.invokevirtual 163, 3) := by decide +kernel
theorem dX10_shutBlocks_35 : decode cX10_shutBlocks 35 = .ok (.aload_n 0, 1) := by decide +kernel
theorem dX10_shutBlocks_36 : decode cX10_shutBlocks 36 = .ok (.getfield 41, 3) := by decide +kernel
theorem dX10_shutBlocks_39 : decode cX10_shutBlocks 39 = .ok (.getfield 191, 3) := by decide +kernel
theorem dX10_shutBlocks_42 : decode cX10_shutBlocks 42 = .ok (.astore_n 1, 1) := by decide +kernel
theorem dX10_shutBlocks_43 : decode cX10_shutBlocks 43 = .ok (.aload_n 1, 1) := by decide +kernel
theorem dX10_shutBlocks_44 : decode cX10_shutBlocks 44 = .ok (.invokevirtual 155, 3) := by decide +kernel
theorem dX10_shutBlocks_47 : decode cX10_shutBlocks 47 = .ok (.aload_n 0, 1) := by decide +kernel
theorem dX10_shutBlocks_48 : decode cX10_shutBlocks 48 = .ok (.getfield 36, 3) := by decide +kernel
theorem dX10_shutBlocks_51 : decode cX10_shutBlocks 51 = .ok (.bipush 16, 2) := by decide +kernel
theorem dX10_shutBlocks_53 : decode cX10_shutBlocks 53 = .ok (.aload_n 1, 1) := by decide +kernel
theorem dX10_shutBlocks_54 : decode cX10_shutBlocks 54 = .ok (.invokevirtual 247, 3) := by decide +kernel
theorem dX10_shutBlocks_57 : decode cX10_shutBlocks 57 = .ok (.aload_n 1, 1) := by decide +kernel
theorem dX10_shutBlocks_58 : decode cX10_shutBlocks 58 = .ok (.aload_n 0, 1) := by decide +kernel
theorem dX10_shutBlocks_59 : decode cX10_shutBlocks 59 = .ok (.getfield 45, 3) := by decide +kernel
theorem dX10_shutBlocks_62 : decode cX10_shutBlocks 62 = .ok (.invokevirtual 251, 3) := by decide +kernel
theorem dX10_shutBlocks_65 : decode cX10_shutBlocks 65 = .ok (.bipush 16, 2) := by decide +kernel
theorem dX10_shutBlocks_67 : decode cX10_shutBlocks 67 = .ok (.aload_n 0, 1) := by decide +kernel
theorem dX10_shutBlocks_68 : decode cX10_shutBlocks 68 = .ok (.getfield 45, 3) := by decide +kernel
theorem dX10_shutBlocks_71 : decode cX10_shutBlocks 71 = .ok (.invokevirtual 78, 3) := by decide +kernel
theorem dX10_shutBlocks_74 : decode cX10_shutBlocks 74 = .ok (.bipush 15, 2) := by decide +kernel
theorem dX10_shutBlocks_76 : decode cX10_shutBlocks 76 = .ok (.iand, 1) := by decide +kernel
theorem dX10_shutBlocks_77 : decode cX10_shutBlocks 77 = .ok (.isub, 1) := by decide +kernel
theorem dX10_shutBlocks_78 : decode cX10_shutBlocks 78 = .ok (.istore_n 2, 1) := by decide +kernel
theorem dX10_shutBlocks_79 : decode cX10_shutBlocks 79 = .ok (.aload_n 1, 1) := by decide +kernel
theorem dX10_shutBlocks_80 : decode cX10_shutBlocks 80 = .ok (.iload_n 2, 1) := by decide +kernel
theorem dX10_shutBlocks_81 : decode cX10_shutBlocks 81 = .ok (.iload_n 2, 1) := by decide +kernel
theorem dX10_shutBlocks_82 : decode cX10_shutBlocks 82 = .ok (.invokevirtual 254, 3) := by decide +kernel
theorem dX10_shutBlocks_85 : decode cX10_shutBlocks 85 = .ok (.aload_n 0, 1) := by decide +kernel
theorem dX10_shutBlocks_86 : decode cX10_shutBlocks 86 = .ok (.getfield 41, 3) := by decide +kernel
theorem dX10_shutBlocks_89 : decode cX10_shutBlocks 89 = .ok (.getfield 257, 3) := by decide +kernel
theorem dX10_shutBlocks_92 : decode cX10_shutBlocks 92 = .ok (.aload_n 0, 1) := by decide +kernel
theorem dX10_shutBlocks_93 : decode cX10_shutBlocks 93 = .ok (.getfield 41, 3) := by decide +kernel
theorem dX10_shutBlocks_96 : decode cX10_shutBlocks 96 = .ok (.getfield 235, 3) := by decide +kernel
theorem dX10_shutBlocks_99 : decode cX10_shutBlocks 99 = .ok (.aload_n 1, 1) := by decide +kernel
theorem dX10_shutBlocks_100 : decode cX10_shutBlocks 100 = .ok (.invokevirtual 261, 3) := by decide +kernel
theorem dX10_shutBlocks_103 : decode cX10_shutBlocks 103 = .ok (.aload_n 1, 1) := by decide +kernel
theorem dX10_shutBlocks_104 : decode cX10_shutBlocks 104 = .ok (.invokevirtual 78, 3) := by decide +kernel
theorem dX10_shutBlocks_107 : decode cX10_shutBlocks 107 = .ok (.ireturn, 1) := by decide +kernel
set_option maxRecDepth 20000 in
theorem ggX10_openBlocks_X5_count : GoodIn wsX10_openBlocks wsX5_count := goodIn_r _ [9, 10, 174, 175] (by decide +kernel) (by decide +kernel)
set_option maxRecDepth 20000 in
theorem gX10_openBlocks_X5_count : GoodIn wsX10_openBlocks (wsV RX10 78 RX5 yX5_count wsX5_count) := goodIn_app (goodIn_of _ (by decide +kernel)) ggX10_openBlocks_X5_count
set_option maxRecDepth 20000 in
theorem ggX10_openBlocks_X1_findObjectKey : GoodIn wsX10_openBlocks wsX1_findObjectKey := goodIn_ca (goodIn_r _ [16, 17, 18, 19, 20, 21, 22, 23, 24, 25, 26, 27, 8, 28, 29, 30, 31, 32, 10, 33, 6, 7, 9, 34, 35, 36, 37, 38, 39, 40, 41, 42, 43, 44, 45, 46, 47, 48, 49, 50, 51, 52, 53, 54, 55, 56, 57, 58, 59, 60, 61, 62, 63, 64, 65, 66, 67, 68, 69, 70, 71, 72, 73, 74, 75, 76, 77, 78, 79, 80, 81, 82, 83, 84, 85, 86, 87, 88, 89, 90, 91, 92, 93, 94, 176, 177, 178, 179, 180, 181, 182, 168, 169, 170, 171, 172, 173, 183, 184, 185, 186, 187, 188, 189, 190, 191, 192, 193, 194, 174, 175, 195, 196] (by decide +kernel) (by decide +kernel)) (goodIn_sub (fun _ h => List.mem_cons_of_mem _ (List.mem_append_right _ h)) (by decide +kernel))
set_option maxRecDepth 20000 in
theorem gX10_openBlocks_X1_findObjectKey_u163X1 : GoodIn wsX10_openBlocks (va_wsU RX10 163 RX1 "CryptRows$Lock" ⟨"CryptRows$Lock", "findObjectKey", "(IIZLCryptRows$Row;)V"⟩ yX1_findObjectKey wsX1_findObjectKey) := goodIn_app (goodIn_of _ (by decide +kernel)) ggX10_openBlocks_X1_findObjectKey
set_option maxRecDepth 20000 in
theorem ggX10_openBlocks_X3_findObjectKey : GoodIn wsX10_openBlocks wsX3_findObjectKey := goodIn_ca (goodIn_r _ [98, 99, 100, 101, 26, 27, 8, 28, 29, 30, 31, 32, 10, 33, 6, 7, 9, 34, 35, 36, 37, 38, 39, 40, 41, 42, 43, 44, 45, 46, 176, 177, 178, 179, 180, 181, 182, 183, 184, 185, 186, 187, 188, 189, 190, 191, 192, 193, 194, 174, 175] (by decide +kernel) (by decide +kernel)) (goodIn_sub (fun _ h => List.mem_cons_of_mem _ (List.mem_append_right _ h)) (by decide +kernel))
set_option maxRecDepth 20000 in
theorem gX10_openBlocks_X3_findObjectKey_u163X3 : GoodIn wsX10_openBlocks (va_wsU RX10 163 RX3 "CryptRows$Lock" ⟨"CryptRows$Lock", "findObjectKey", "(IIZLCryptRows$Row;)V"⟩ yX3_findObjectKey wsX3_findObjectKey) := goodIn_app (goodIn_of _ (by decide +kernel)) ggX10_openBlocks_X3_findObjectKey
set_option maxRecDepth 20000 in
theorem ggX10_openBlocks_X5_copy : GoodIn wsX10_openBlocks wsX5_copy := goodIn_ca (goodIn_r _ [28, 29, 30, 31, 8, 32, 10, 33, 6, 7, 9, 34, 35, 36, 37, 38, 39, 40, 41, 42, 43, 44, 45, 46, 174, 175] (by decide +kernel) (by decide +kernel)) (goodIn_sub (fun _ h => List.mem_cons_of_mem _ (List.mem_append_right _ h)) (by decide +kernel))
set_option maxRecDepth 20000 in
theorem gX10_openBlocks_X5_copy : GoodIn wsX10_openBlocks (wsV RX10 196 RX5 yX5_copy wsX5_copy) := goodIn_app (goodIn_of _ (by decide +kernel)) ggX10_openBlocks_X5_copy
set_option maxRecDepth 20000 in
theorem ggX10_openBlocks_X0_openChain : GoodIn wsX10_openBlocks wsX0_openChain := goodIn_ca (goodIn_r _ [107, 108, 109, 110, 111, 106, 112, 113, 114, 115, 116, 6, 7, 8, 9, 10, 117, 39, 40, 41, 42, 118, 119, 120, 121, 122, 123, 124, 125, 126, 127, 128, 129, 130, 131, 132, 133, 134, 135, 136, 137, 138, 139, 140, 141, 142, 143, 144, 145, 146, 147, 197, 198, 199, 200, 201, 174, 175] (by decide +kernel) (by decide +kernel)) (goodIn_sub (fun _ h => List.mem_cons_of_mem _ (List.mem_append_right _ h)) (by decide +kernel))
set_option maxRecDepth 20000 in
theorem gX10_openBlocks_X0_openChain : GoodIn wsX10_openBlocks (wsV RX10 266 RX0 yX0_openChain wsX0_openChain) := goodIn_app (goodIn_of _ (by decide +kernel)) ggX10_openBlocks_X0_openChain
set_option maxRecDepth 20000 in
theorem ggX10_openBlocks_X5_at : GoodIn wsX10_openBlocks wsX5_at := goodIn_ca (goodIn_r _ [41, 10, 42, 174, 175] (by decide +kernel) (by decide +kernel)) (goodIn_sub (fun _ h => List.mem_cons_of_mem _ (List.mem_append_right _ h)) (by decide +kernel))
set_option maxRecDepth 20000 in
theorem gX10_openBlocks_X5_at : GoodIn wsX10_openBlocks (wsV RX10 128 RX5 yX5_at wsX5_at) := goodIn_app (goodIn_of _ (by decide +kernel)) ggX10_openBlocks_X5_at
set_option maxRecDepth 20000 in
theorem ggX10_openBlocks_X10_endsWithFill : GoodIn wsX10_openBlocks wsX10_endsWithFill := goodIn_ca (goodIn_r _ [152, 5, 6, 7, 8, 9, 10, 148, 39, 40, 41, 42, 174, 175] (by decide +kernel) (by decide +kernel)) (goodIn_sub (fun _ h => List.mem_cons_of_mem _ (List.mem_append_right _ h)) (by decide +kernel))
set_option maxRecDepth 20000 in
theorem gX10_openBlocks_X10_endsWithFill : GoodIn wsX10_openBlocks (va_wsS RX10 269 yX10_endsWithFill wsX10_endsWithFill) := goodIn_app (goodIn_of _ (by decide +kernel)) ggX10_openBlocks_X10_endsWithFill
set_option maxRecDepth 20000 in
theorem ggX10_openBlocks_X5_cut : GoodIn wsX10_openBlocks wsX5_cut := goodIn_r _ [90, 10, 91, 22, 23, 24, 92, 93, 94, 174, 175] (by decide +kernel) (by decide +kernel)
set_option maxRecDepth 20000 in
theorem gX10_openBlocks_X5_cut : GoodIn wsX10_openBlocks (wsV RX10 273 RX5 yX5_cut wsX5_cut) := goodIn_app (goodIn_of _ (by decide +kernel)) ggX10_openBlocks_X5_cut
set_option maxRecDepth 20000 in
theorem ggX10_openBlocks_X5_drop : GoodIn wsX10_openBlocks wsX5_drop := goodIn_ca (goodIn_r _ [157, 10, 92, 93, 23, 94, 38, 39, 40, 8, 41, 42, 158, 145, 146, 147, 159, 88, 89, 90, 91, 22, 24, 174, 175] (by decide +kernel) (by decide +kernel)) (goodIn_sub (fun _ h => List.mem_cons_of_mem _ (List.mem_append_right _ h)) (by decide +kernel))
set_option maxRecDepth 20000 in
theorem gX10_openBlocks_X5_drop : GoodIn wsX10_openBlocks (wsV RX10 276 RX5 yX5_drop wsX5_drop) := goodIn_app (goodIn_of _ (by decide +kernel)) ggX10_openBlocks_X5_drop
theorem dX10_openBlocks_0 : decode cX10_openBlocks 0 = .ok (.aload_n 0, 1) := by decide +kernel
theorem dX10_openBlocks_1 : decode cX10_openBlocks 1 = .ok (.getfield 45, 3) := by decide +kernel
theorem dX10_openBlocks_4 : decode cX10_openBlocks 4 = .ok (.invokevirtual 78, 3) := by decide +kernel
theorem dX10_openBlocks_7 : decode cX10_openBlocks 7 = .ok (.istore_n 1, 1) := by decide +kernel
theorem dX10_openBlocks_8 : decode cX10_openBlocks 8 = .ok (.iload_n 1, 1) := by decide +kernel
theorem dX10_openBlocks_9 : decode cX10_openBlocks 9 = .ok (.bipush 16, 2) := by decide +kernel
theorem dX10_openBlocks_11 : decode cX10_openBlocks 11 = .ok (.if_icmp .ge 6, 3) := by decide +kernel
theorem dX10_openBlocks_14 : decode cX10_openBlocks 14 = .ok (.bipush (-2), 2) := by decide +kernel
theorem dX10_openBlocks_16 : decode cX10_openBlocks 16 = .ok (.ireturn, 1) := by decide +kernel
theorem dX10_openBlocks_17 : decode cX10_openBlocks 17 = .ok (.iload_n 1, 1) := by decide +kernel
theorem dX10_openBlocks_18 : decode cX10_openBlocks 18 = .ok (.bipush 16, 2) := by decide +kernel
theorem dX10_openBlocks_20 : decode cX10_openBlocks 20 = .ok (.if_icmp .eq 10, 3) := by decide +kernel
theorem dX10_openBlocks_23 : decode cX10_openBlocks 23 = .ok (.iload_n 1, 1) := by decide +kernel
theorem dX10_openBlocks_24 : decode cX10_openBlocks 24 = .ok (.bipush 15, 2) := by decide +kernel
theorem dX10_openBlocks_26 : decode cX10_openBlocks 26 = .ok (.iand, 1) := by decide +kernel
theorem dX10_openBlocks_27 : decode cX10_openBlocks 27 = .ok (.ifCond .eq 6, 3) := by decide +kernel
theorem dX10_openBlocks_30 : decode cX10_openBlocks 30 = .ok (.bipush (-3), 2) := by decide +kernel
theorem dX10_openBlocks_32 : decode cX10_openBlocks 32 = .ok (.ireturn, 1) := by decide +kernel
theorem dX10_openBlocks_33 : decode cX10_openBlocks 33 = .ok (.aload_n 0, 1) := by decide +kernel
theorem dX10_openBlocks_34 : decode cX10_openBlocks 34 = .ok (.getfield 24, 3) := by decide +kernel
theorem dX10_openBlocks_37 : decode cX10_openBlocks 37 = .ok (.aload_n 0, 1) := by decide +kernel
theorem dX10_openBlocks_38 : decode cX10_openBlocks 38 = .ok (.getfield 172, 3) := by decide +kernel
theorem dX10_openBlocks_41 : decode cX10_openBlocks 41 = .ok (.iconst 0, 1) := by decide +kernel
theorem dX10_openBlocks_42 : decode cX10_openBlocks 42 = .ok (.iconst 1, 1) := by decide +kernel
theorem dX10_openBlocks_43 : decode cX10_openBlocks 43 = .ok (.aload_n 0, 1) := by decide +kernel
theorem dX10_openBlocks_44 : decode cX10_openBlocks 44 = .ok (.getfield 41, 3) := by decide +kernel
theorem dX10_openBlocks_47 : decode cX10_openBlocks 47 = .ok (.getfield 235, 3) := by decide +kernel
theorem dX10_openBlocks_50 : decode cX10_openBlocks 50 = .ok (.invokevirtual 163, 3) := by decide +kernel
theorem dX10_openBlocks_53 : decode cX10_openBlocks 53 = .ok (.aload_n 0, 1) := by decide +kernel
theorem dX10_openBlocks_54 : decode cX10_openBlocks 54 = .ok (.getfield 41, 3) := by decide +kernel
theorem dX10_openBlocks_57 : decode cX10_openBlocks 57 = .ok (.getfield 191, 3) := by decide +kernel
theorem dX10_openBlocks_60 : decode cX10_openBlocks 60 = .ok (.astore_n 2, 1) := by decide +kernel
theorem dX10_openBlocks_61 : decode cX10_openBlocks 61 = .ok (.aload_n 2, 1) := by decide +kernel
theorem dX10_openBlocks_62 : decode cX10_openBlocks 62 = .ok (.aload_n 0, 1) := by decide +kernel
theorem dX10_openBlocks_63 : decode cX10_openBlocks 63 = .ok (.getfield 45, 3) := by decide +kernel
theorem dX10_openBlocks_66 : decode cX10_openBlocks 66 = .ok (.invokevirtual 196, 3) := by decide +kernel
theorem dX10_openBlocks_69 : decode cX10_openBlocks 69 = .ok (.aload_n 0, 1) := by decide +kernel
theorem dX10_openBlocks_70 : decode cX10_openBlocks 70 = .ok (.getfield 41, 3) := by decide +kernel
theorem dX10_openBlocks_73 : decode cX10_openBlocks 73 = .ok (.getfield 257, 3) := by decide +kernel
theorem dX10_openBlocks_76 : decode cX10_openBlocks 76 = .ok (.aload_n 0, 1) := by decide +kernel
theorem dX10_openBlocks_77 : decode cX10_openBlocks 77 = .ok (.getfield 41, 3) := by decide +kernel
theorem dX10_openBlocks_80 : decode cX10_openBlocks 80 = .ok (.getfield 235, 3) := by decide +kernel
theorem dX10_openBlocks_83 : decode cX10_openBlocks 83 = .ok (.aload_n 2, 1) := by decide +kernel
theorem dX10_openBlocks_84 : decode cX10_openBlocks 84 = .ok (.invokevirtual 266, 3) := by decide +kernel
theorem dX10_openBlocks_87 : decode cX10_openBlocks 87 = .ok (.aload_n 2, 1) := by decide +kernel
theorem dX10_openBlocks_88 : decode cX10_openBlocks 88 = .ok (.iload_n 1, 1) := by decide +kernel
theorem dX10_openBlocks_89 : decode cX10_openBlocks 89 = .ok (.iconst 1, 1) := by decide +kernel
theorem dX10_openBlocks_90 : decode cX10_openBlocks 90 = .ok (.isub, 1) := by decide +kernel
theorem dX10_openBlocks_91 : decode cX10_openBlocks 91 = .ok (.invokevirtual 128, 3) := by decide +kernel
theorem dX10_openBlocks_94 : decode cX10_openBlocks 94 = .ok (.istore_n 3, 1) := by decide +kernel
theorem dX10_openBlocks_95 : decode cX10_openBlocks 95 = .ok (.aload_n 2, 1) := by decide +kernel
theorem dX10_openBlocks_96 : decode cX10_openBlocks 96 = .ok (.iload_n 3, 1) := by decide +kernel
theorem dX10_openBlocks_97 : decode cX10_openBlocks 97 = .ok (.invokestatic 269, 3) := by decide +kernel
theorem dX10_openBlocks_100 : decode cX10_openBlocks 100 = .ok (.ifCond .ne 6, 3) := by decide +kernel
theorem dX10_openBlocks_103 : decode cX10_openBlocks 103 = .ok (.bipush (-4), 2) := by decide +kernel
theorem dX10_openBlocks_105 : decode cX10_openBlocks 105 = .ok (.ireturn, 1) := by decide +kernel
theorem dX10_openBlocks_106 : decode cX10_openBlocks 106 = .ok (.aload_n 2, 1) := by decide +kernel
theorem dX10_openBlocks_107 : decode cX10_openBlocks 107 = .ok (.iload_n 1, 1) := by decide +kernel
theorem dX10_openBlocks_108 : decode cX10_openBlocks 108 = .ok (.iload_n 3, 1) := by decide +kernel
theorem dX10_openBlocks_109 : decode cX10_openBlocks 109 = .ok (.isub, 1) := by decide +kernel
theorem dX10_openBlocks_110 : decode cX10_openBlocks 110 = .ok (.invokevirtual 273, 3) := by decide +kernel
theorem dX10_openBlocks_113 : decode cX10_openBlocks 113 = .ok (.aload_n 2, 1) := by decide +kernel
theorem dX10_openBlocks_114 : decode cX10_openBlocks 114 = .ok (.bipush 16, 2) := by decide +kernel
theorem dX10_openBlocks_116 : decode cX10_openBlocks 116 = .ok (.invokevirtual 276, 3) := by decide +kernel
theorem dX10_openBlocks_119 : decode cX10_openBlocks 119 = .ok (.aload_n 2, 1) := by decide +kernel
theorem dX10_openBlocks_120 : decode cX10_openBlocks 120 = .ok (.invokevirtual 78, 3) := by decide +kernel
theorem dX10_openBlocks_123 : decode cX10_openBlocks 123 = .ok (.ireturn, 1) := by decide +kernel
set_option maxRecDepth 20000 in
theorem ggX10_endsWithFill_X5_count : GoodIn wsX10_endsWithFill wsX5_count := goodIn_r _ [5, 6, 12, 13] (by decide +kernel) (by decide +kernel)
set_option maxRecDepth 20000 in
theorem gX10_endsWithFill_X5_count : GoodIn wsX10_endsWithFill (wsV RX10 78 RX5 yX5_count wsX5_count) := goodIn_app (goodIn_of _ (by decide +kernel)) ggX10_endsWithFill_X5_count
set_option maxRecDepth 20000 in
theorem ggX10_endsWithFill_X5_at : GoodIn wsX10_endsWithFill wsX5_at := goodIn_ca (goodIn_r _ [10, 6, 11, 12, 13] (by decide +kernel) (by decide +kernel)) (goodIn_sub (fun _ h => List.mem_cons_of_mem _ (List.mem_append_right _ h)) (by decide +kernel))
set_option maxRecDepth 20000 in
theorem gX10_endsWithFill_X5_at : GoodIn wsX10_endsWithFill (wsV RX10 128 RX5 yX5_at wsX5_at) := goodIn_app (goodIn_of _ (by decide +kernel)) ggX10_endsWithFill_X5_at
theorem dX10_endsWithFill_0 : decode cX10_endsWithFill 0 = .ok (.iload_n 1, 1) := by decide +kernel
theorem dX10_endsWithFill_1 : decode cX10_endsWithFill 1 = .ok (.iconst 1, 1) := by decide +kernel
theorem dX10_endsWithFill_2 : decode cX10_endsWithFill 2 = .ok (.if_icmp .lt 9, 3) := by decide +kernel
theorem dX10_endsWithFill_5 : decode cX10_endsWithFill 5 = .ok (.iload_n 1, 1) := by decide +kernel
theorem dX10_endsWithFill_6 : decode cX10_endsWithFill 6 = .ok (.bipush 16, 2) := by decide +kernel
theorem dX10_endsWithFill_8 : decode cX10_endsWithFill 8 = .ok (.if_icmp .le 5, 3) := by decide +kernel
theorem dX10_endsWithFill_11 : decode cX10_endsWithFill 11 = .ok (.iconst 0, 1) := by decide +kernel
theorem dX10_endsWithFill_12 : decode cX10_endsWithFill 12 = .ok (.ireturn, 1) := by decide +kernel
theorem dX10_endsWithFill_13 : decode cX10_endsWithFill 13 = .ok (.iconst 1, 1) := by decide +kernel
theorem dX10_endsWithFill_14 : decode cX10_endsWithFill 14 = .ok (.istore_n 2, 1) := by decide +kernel
theorem dX10_endsWithFill_15 : decode cX10_endsWithFill 15 = .ok (.iload_n 2, 1) := by decide +kernel
theorem dX10_endsWithFill_16 : decode cX10_endsWithFill 16 = .ok (.iload_n 1, 1) := by decide +kernel
theorem dX10_endsWithFill_17 : decode cX10_endsWithFill 17 = .ok (.if_icmp .gt 25, 3) := by decide +kernel
theorem dX10_endsWithFill_20 : decode cX10_endsWithFill 20 = .ok (.aload_n 0, 1) := by decide +kernel
theorem dX10_endsWithFill_21 : decode cX10_endsWithFill 21 = .ok (.aload_n 0, 1) := by decide +kernel
theorem dX10_endsWithFill_22 : decode cX10_endsWithFill 22 = .ok (.invokevirtual 78, 3) := by decide +kernel
theorem dX10_endsWithFill_25 : decode cX10_endsWithFill 25 = .ok (.iload_n 2, 1) := by decide +kernel
theorem dX10_endsWithFill_26 : decode cX10_endsWithFill 26 = .ok (.isub, 1) := by decide +kernel
theorem dX10_endsWithFill_27 : decode cX10_endsWithFill 27 = .ok (.invokevirtual 128, 3) := by decide +kernel
theorem dX10_endsWithFill_30 : decode cX10_endsWithFill 30 = .ok (.iload_n 1, 1) := by decide +kernel
theorem dX10_endsWithFill_31 : decode cX10_endsWithFill 31 = .ok (.if_icmp .eq 5, 3) := by decide +kernel
theorem dX10_endsWithFill_34 : decode cX10_endsWithFill 34 = .ok (.iconst 0, 1) := by decide +kernel
theorem dX10_endsWithFill_35 : decode cX10_endsWithFill 35 = .ok (.ireturn, 1) := by decide +kernel
theorem dX10_endsWithFill_36 : decode cX10_endsWithFill 36 = .ok (.iinc 2 1, 3) := by decide +kernel
theorem dX10_endsWithFill_39 : decode cX10_endsWithFill 39 = .ok (.goto (-24), 3) := by decide +kernel
theorem dX10_endsWithFill_42 : decode cX10_endsWithFill 42 = .ok (.iconst 1, 1) := by decide +kernel
theorem dX10_endsWithFill_43 : decode cX10_endsWithFill 43 = .ok (.ireturn, 1) := by decide +kernel
set_option maxRecDepth 20000 in
theorem ggX11_init_X11_times : GoodIn wsX11_init wsX11_times := goodIn_r _ [165] (by decide +kernel) (by decide +kernel)
set_option maxRecDepth 20000 in
theorem gX11_init_X11_times : GoodIn wsX11_init (va_wsS RX11 226 yX11_times wsX11_times) := goodIn_app (goodIn_of _ (by decide +kernel)) ggX11_init_X11_times
theorem dX11_init_0 : decode cX11_init 0 = .ok (.aload_n 0, 1) := by decide +kernel
theorem dX11_init_1 : decode cX11_init 1 = .ok (.invokespecial 1, 3) := by decide +kernel
theorem dX11_init_4 : decode cX11_init 4 = .ok (.aload_n 0, 1) := by decide +kernel
theorem dX11_init_5 : decode cX11_init 5 = .ok (.bipush 127, 2) := by decide +kernel
theorem dX11_init_7 : decode cX11_init 7 = .ok (.newarray .int, 2) := by decide +kernel
theorem dX11_init_9 : decode cX11_init 9 = .ok (.putfield 7, 3) := by decide +kernel
theorem dX11_init_12 : decode cX11_init 12 = .ok (.aload_n 0, 1) := by decide +kernel
theorem dX11_init_13 : decode cX11_init 13 = .ok (.bipush 127, 2) := by decide +kernel
theorem dX11_init_15 : decode cX11_init 15 = .ok (.newarray .int, 2) := by decide +kernel
theorem dX11_init_17 : decode cX11_init 17 = .ok (.putfield 13, 3) := by decide +kernel
theorem dX11_init_20 : decode cX11_init 20 = .ok (.aload_n 0, 1) := by decide +kernel
theorem dX11_init_21 : decode cX11_init 21 = .ok (.bipush 127, 2) := by decide +kernel
theorem dX11_init_23 : decode cX11_init 23 = .ok (.newarray .int, 2) := by decide +kernel
theorem dX11_init_25 : decode cX11_init 25 = .ok (.putfield 16, 3) := by decide +kernel
theorem dX11_init_28 : decode cX11_init 28 = .ok (.aload_n 0, 1) := by decide +kernel
theorem dX11_init_29 : decode cX11_init 29 = .ok (.bipush 32, 2) := by decide +kernel
theorem dX11_init_31 : decode cX11_init 31 = .ok (.newarray .int, 2) := by decide +kernel
theorem dX11_init_33 : decode cX11_init 33 = .ok (.putfield 19, 3) := by decide +kernel
theorem dX11_init_36 : decode cX11_init 36 = .ok (.aload_n 0, 1) := by decide +kernel
theorem dX11_init_37 : decode cX11_init 37 = .ok (.sipush 400, 3) := by decide +kernel
theorem dX11_init_40 : decode cX11_init 40 = .ok (.newarray .int, 2) := by decide +kernel
theorem dX11_init_42 : decode cX11_init 42 = .ok (.putfield 22, 3) := by decide +kernel
theorem dX11_init_45 : decode cX11_init 45 = .ok (.aload_n 0, 1) := by decide +kernel
theorem dX11_init_46 : decode cX11_init 46 = .ok (.sipush 240, 3) := by decide +kernel
theorem dX11_init_49 : decode cX11_init 49 = .ok (.newarray .int, 2) := by decide +kernel
theorem dX11_init_51 : decode cX11_init 51 = .ok (.putfield 25, 3) := by decide +kernel
theorem dX11_init_54 : decode cX11_init 54 = .ok (.aload_n 0, 1) := by decide +kernel
theorem dX11_init_55 : decode cX11_init 55 = .ok (.iconst 5, 1) := by decide +kernel
theorem dX11_init_56 : decode cX11_init 56 = .ok (.newarray .int, 2) := by decide +kernel
theorem dX11_init_58 : decode cX11_init 58 = .ok (.putfield 28, 3) := by decide +kernel
theorem dX11_init_61 : decode cX11_init 61 = .ok (.aload_n 0, 1) := by decide +kernel
theorem dX11_init_62 : decode cX11_init 62 = .ok (.bipush 32, 2) := by decide +kernel
theorem dX11_init_64 : decode cX11_init 64 = .ok (.newarray .int, 2) := by decide +kernel
theorem dX11_init_66 : decode cX11_init 66 = .ok (.putfield 31, 3) := by decide +kernel
theorem dX11_init_69 : decode cX11_init 69 = .ok (.aload_n 0, 1) := by decide +kernel
theorem dX11_init_70 : decode cX11_init 70 = .ok (.sipush 400, 3) := by decide +kernel
theorem dX11_init_73 : decode cX11_init 73 = .ok (.newarray .int, 2) := by decide +kernel
theorem dX11_init_75 : decode cX11_init 75 = .ok (.putfield 34, 3) := by decide +kernel
theorem dX11_init_78 : decode cX11_init 78 = .ok (.aload_n 0, 1) := by decide +kernel
theorem dX11_init_79 : decode cX11_init 79 = .ok (.sipush 448, 3) := by decide +kernel
theorem dX11_init_82 : decode cX11_init 82 = .ok (.newarray .int, 2) := by decide +kernel
theorem dX11_init_84 : decode cX11_init 84 = .ok (.putfield 37, 3) := by decide +kernel
theorem dX11_init_87 : decode cX11_init 87 = .ok (.aload_n 0, 1) := by decide +kernel
theorem dX11_init_88 : decode cX11_init 88 = .ok (.sipush 1000, 3) := by decide +kernel
theorem dX11_init_91 : decode cX11_init 91 = .ok (.newarray .int, 2) := by decide +kernel
theorem dX11_init_93 : decode cX11_init 93 = .ok (.putfield 40, 3) := by decide +kernel
theorem dX11_init_96 : decode cX11_init 96 = .ok (.aload_n 0, 1) := by decide +kernel
theorem dX11_init_97 : decode cX11_init 97 = .ok (.bipush 32, 2) := by decide +kernel
theorem dX11_init_99 : decode cX11_init 99 = .ok (.newarray .int, 2) := by decide +kernel
theorem dX11_init_101 : decode cX11_init 101 = .ok (.putfield 43, 3) := by decide +kernel
theorem dX11_init_104 : decode cX11_init 104 = .ok (.aload_n 0, 1) := by decide +kernel
theorem dX11_init_105 : decode cX11_init 105 = .ok (.bipush 64, 2) := by decide +kernel
theorem dX11_init_107 : decode cX11_init 107 = .ok (.newarray .int, 2) := by decide +kernel
theorem dX11_init_109 : decode cX11_init 109 = .ok (.putfield 46, 3) := by decide +kernel
theorem dX11_init_112 : decode cX11_init 112 = .ok (.aload_n 0, 1) := by decide +kernel
theorem dX11_init_113 : decode cX11_init 113 = .ok (.bipush 8, 2) := by decide +kernel
theorem dX11_init_115 : decode cX11_init 115 = .ok (.newarray .int, 2) := by decide +kernel
theorem dX11_init_117 : decode cX11_init 117 = .ok (.putfield 49, 3) := by decide +kernel
theorem dX11_init_120 : decode cX11_init 120 = .ok (.aload_n 0, 1) := by decide +kernel
theorem dX11_init_121 : decode cX11_init 121 = .ok (.bipush 8, 2) := by decide +kernel
theorem dX11_init_123 : decode cX11_init 123 = .ok (.newarray .int, 2) := by decide +kernel
theorem dX11_init_125 : decode cX11_init 125 = .ok (.putfield 52, 3) := by decide +kernel
theorem dX11_init_128 : decode cX11_init 128 = .ok (.aload_n 0, 1) := by decide +kernel
theorem dX11_init_129 : decode cX11_init 129 = .ok (.bipush 32, 2) := by decide +kernel
theorem dX11_init_131 : decode cX11_init 131 = .ok (.newarray .int, 2) := by decide +kernel
theorem dX11_init_133 : decode cX11_init 133 = .ok (.dup, 1) := by decide +kernel
theorem dX11_init_134 : decode cX11_init 134 = .ok (.iconst 0, 1) := by decide +kernel
theorem dX11_init_135 : decode cX11_init 135 = .ok (.bipush 40, 2) := by decide +kernel
theorem dX11_init_137 : decode cX11_init 137 = .ok (.iastore, 1) := by decide +kernel
theorem dX11_init_138 : decode cX11_init 138 = .ok (.dup, 1) := by decide +kernel
theorem dX11_init_139 : decode cX11_init 139 = .ok (.iconst 1, 1) := by decide +kernel
theorem dX11_init_140 : decode cX11_init 140 = .ok (.sipush 191, 3) := by decide +kernel
theorem dX11_init_143 : decode cX11_init 143 = .ok (.iastore, 1) := by decide +kernel
theorem dX11_init_144 : decode cX11_init 144 = .ok (.dup, 1) := by decide +kernel
theorem dX11_init_145 : decode cX11_init 145 = .ok (.iconst 2, 1) := by decide +kernel
theorem dX11_init_146 : decode cX11_init 146 = .ok (.bipush 78, 2) := by decide +kernel
theorem dX11_init_148 : decode cX11_init 148 = .ok (.iastore, 1) := by decide +kernel
theorem dX11_init_149 : decode cX11_init 149 = .ok (.dup, 1) := by decide +kernel
theorem dX11_init_150 : decode cX11_init 150 = .ok (.iconst 3, 1) := by decide +kernel
theorem dX11_init_151 : decode cX11_init 151 = .ok (.bipush 94, 2) := by decide +kernel
theorem dX11_init_153 : decode cX11_init 153 = .ok (.iastore, 1) := by decide +kernel
theorem dX11_init_154 : decode cX11_init 154 = .ok (.dup, 1) := by decide +kernel
theorem dX11_init_155 : decode cX11_init 155 = .ok (.iconst 4, 1) := by decide +kernel
theorem dX11_init_156 : decode cX11_init 156 = .ok (.bipush 78, 2) := by decide +kernel
theorem dX11_init_158 : decode cX11_init 158 = .ok (.iastore, 1) := by decide +kernel
theorem dX11_init_159 : decode cX11_init 159 = .ok (.dup, 1) := by decide +kernel
theorem dX11_init_160 : decode cX11_init 160 = .ok (.iconst 5, 1) := by decide +kernel
theorem dX11_init_161 : decode cX11_init 161 = .ok (.bipush 117, 2) := by decide +kernel
theorem dX11_init_163 : decode cX11_init 163 = .ok (.iastore, 1) := by decide +kernel
theorem dX11_init_164 : decode cX11_init 164 = .ok (.dup, 1) := by decide +kernel
theorem dX11_init_165 : decode cX11_init 165 = .ok (.bipush 6, 2) := by decide +kernel
theorem dX11_init_167 : decode cX11_init 167 = .ok (.sipush 138, 3) := by decide +kernel
theorem dX11_init_170 : decode cX11_init 170 = .ok (.iastore, 1) := by decide +kernel
theorem dX11_init_171 : decode cX11_init 171 = .ok (.dup, 1) := by decide +kernel
theorem dX11_init_172 : decode cX11_init 172 = .ok (.bipush 7, 2) := by decide +kernel
theorem dX11_init_174 : decode cX11_init 174 = .ok (.bipush 65, 2) := by decide +kernel
theorem dX11_init_176 : decode cX11_init 176 = .ok (.iastore, 1) := by decide +kernel
theorem dX11_init_177 : decode cX11_init 177 = .ok (.dup, 1) := by decide +kernel
theorem dX11_init_178 : decode cX11_init 178 = .ok (.bipush 8, 2) := by decide +kernel
theorem dX11_init_180 : decode cX11_init 180 = .ok (.bipush 100, 2) := by decide +kernel
theorem dX11_init_182 : decode cX11_init 182 = .ok (.iastore, 1) := by decide +kernel
theorem dX11_init_183 : decode cX11_init 183 = .ok (.dup, 1) := by decide +kernel
theorem dX11_init_184 : decode cX11_init 184 = .ok (.bipush 9, 2) := by decide +kernel
theorem dX11_init_186 : decode cX11_init 186 = .ok (.iconst 0, 1) := by decide +kernel
theorem dX11_init_187 : decode cX11_init 187 = .ok (.iastore, 1) := by decide +kernel
theorem dX11_init_188 : decode cX11_init 188 = .ok (.dup, 1) := by decide +kernel
theorem dX11_init_189 : decode cX11_init 189 = .ok (.bipush 10, 2) := by decide +kernel
theorem dX11_init_191 : decode cX11_init 191 = .ok (.bipush 78, 2) := by decide +kernel
theorem dX11_init_193 : decode cX11_init 193 = .ok (.iastore, 1) := by decide +kernel
theorem dX11_init_194 : decode cX11_init 194 = .ok (.dup, 1) := by decide +kernel
theorem dX11_init_195 : decode cX11_init 195 = .ok (.bipush 11, 2) := by decide +kernel
theorem dX11_init_197 : decode cX11_init 197 = .ok (.bipush 86, 2) := by decide +kernel
theorem dX11_init_199 : decode cX11_init 199 = .ok (.iastore, 1) := by decide +kernel
theorem dX11_init_200 : decode cX11_init 200 = .ok (.dup, 1) := by decide +kernel
theorem dX11_init_201 : decode cX11_init 201 = .ok (.bipush 12, 2) := by decide +kernel
theorem dX11_init_203 : decode cX11_init 203 = .ok (.sipush 255, 3) := by decide +kernel
theorem dX11_init_206 : decode cX11_init 206 = .ok (.iastore, 1) := by decide +kernel
theorem dX11_init_207 : decode cX11_init 207 = .ok (.dup, 1) := by decide +kernel
theorem dX11_init_208 : decode cX11_init 208 = .ok (.bipush 13, 2) := by decide +kernel
theorem dX11_init_210 : decode cX11_init 210 = .ok (.sipush 250, 3) := by decide +kernel
theorem dX11_init_213 : decode cX11_init 213 = .ok (.iastore, 1) := by decide +kernel
theorem dX11_init_214 : decode cX11_init 214 = .ok (.dup, 1) := by decide +kernel
theorem dX11_init_215 : decode cX11_init 215 = .ok (.bipush 14, 2) := by decide +kernel
theorem dX11_init_217 : decode cX11_init 217 = .ok (.iconst 1, 1) := by decide +kernel
theorem dX11_init_218 : decode cX11_init 218 = .ok (.iastore, 1) := by decide +kernel
theorem dX11_init_219 : decode cX11_init 219 = .ok (.dup, 1) := by decide +kernel
theorem dX11_init_220 : decode cX11_init 220 = .ok (.bipush 15, 2) := by decide +kernel
theorem dX11_init_222 : decode cX11_init 222 = .ok (.bipush 8, 2) := by decide +kernel
theorem dX11_init_224 : decode cX11_init 224 = .ok (.iastore, 1) := by decide +kernel
theorem dX11_init_225 : decode cX11_init 225 = .ok (.dup, 1) := by decide +kernel
theorem dX11_init_226 : decode cX11_init 226 = .ok (.bipush 16, 2) := by decide +kernel
theorem dX11_init_228 : decode cX11_init 228 = .ok (.bipush 46, 2) := by decide +kernel
theorem dX11_init_230 : decode cX11_init 230 = .ok (.iastore, 1) := by decide +kernel
theorem dX11_init_231 : decode cX11_init 231 = .ok (.dup, 1) := by decide +kernel
theorem dX11_init_232 : decode cX11_init 232 = .ok (.bipush 17, 2) := by decide +kernel
theorem dX11_init_234 : decode cX11_init 234 = .ok (.bipush 46, 2) := by decide +kernel
theorem dX11_init_236 : decode cX11_init 236 = .ok (.iastore, 1) := by decide +kernel
theorem dX11_init_237 : decode cX11_init 237 = .ok (.dup, 1) := by decide +kernel
theorem dX11_init_238 : decode cX11_init 238 = .ok (.bipush 18, 2) := by decide +kernel
theorem dX11_init_240 : decode cX11_init 240 = .ok (.iconst 0, 1) := by decide +kernel
theorem dX11_init_241 : decode cX11_init 241 = .ok (.iastore, 1) := by decide +kernel
theorem dX11_init_242 : decode cX11_init 242 = .ok (.dup, 1) := by decide +kernel
theorem dX11_init_243 : decode cX11_init 243 = .ok (.bipush 19, 2) := by decide +kernel
theorem dX11_init_245 : decode cX11_init 245 = .ok (.sipush 182, 3) := by decide +kernel
theorem dX11_init_248 : decode cX11_init 248 = .ok (.iastore, 1) := by decide +kernel
theorem dX11_init_249 : decode cX11_init 249 = .ok (.dup, 1) := by decide +kernel
theorem dX11_init_250 : decode cX11_init 250 = .ok (.bipush 20, 2) := by decide +kernel
theorem dX11_init_252 : decode cX11_init 252 = .ok (.sipush 208, 3) := by decide +kernel
theorem dX11_init_255 : decode cX11_init 255 = .ok (.iastore, 1) := by decide +kernel
theorem dX11_init_256 : decode cX11_init 256 = .ok (.dup, 1) := by decide +kernel
theorem dX11_init_257 : decode cX11_init 257 = .ok (.bipush 21, 2) := by decide +kernel
theorem dX11_init_259 : decode cX11_init 259 = .ok (.bipush 104, 2) := by decide +kernel
theorem dX11_init_261 : decode cX11_init 261 = .ok (.iastore, 1) := by decide +kernel
theorem dX11_init_262 : decode cX11_init 262 = .ok (.dup, 1) := by decide +kernel
theorem dX11_init_263 : decode cX11_init 263 = .ok (.bipush 22, 2) := by decide +kernel
theorem dX11_init_265 : decode cX11_init 265 = .ok (.bipush 62, 2) := by decide +kernel
theorem dX11_init_267 : decode cX11_init 267 = .ok (.iastore, 1) := by decide +kernel
theorem dX11_init_268 : decode cX11_init 268 = .ok (.dup, 1) := by decide +kernel
theorem dX11_init_269 : decode cX11_init 269 = .ok (.bipush 23, 2) := by decide +kernel
theorem dX11_init_271 : decode cX11_init 271 = .ok (.sipush 128, 3) := by decide +kernel
theorem dX11_init_274 : decode cX11_init 274 = .ok (.iastore, 1) := by decide +kernel
theorem dX11_init_275 : decode cX11_init 275 = .ok (.dup, 1) := by decide +kernel
theorem dX11_init_276 : decode cX11_init 276 = .ok (.bipush 24, 2) := by decide +kernel
theorem dX11_init_278 : decode cX11_init 278 = .ok (.bipush 47, 2) := by decide +kernel
theorem dX11_init_280 : decode cX11_init 280 = .ok (.iastore, 1) := by decide +kernel
theorem dX11_init_281 : decode cX11_init 281 = .ok (.dup, 1) := by decide +kernel
theorem dX11_init_282 : decode cX11_init 282 = .ok (.bipush 25, 2) := by decide +kernel
theorem dX11_init_284 : decode cX11_init 284 = .ok (.bipush 12, 2) := by decide +kernel
theorem dX11_init_286 : decode cX11_init 286 = .ok (.iastore, 1) := by decide +kernel
theorem dX11_init_287 : decode cX11_init 287 = .ok (.dup, 1) := by decide +kernel
theorem dX11_init_288 : decode cX11_init 288 = .ok (.bipush 26, 2) := by decide +kernel
theorem dX11_init_290 : decode cX11_init 290 = .ok (.sipush 169, 3) := by decide +kernel
theorem dX11_init_293 : decode cX11_init 293 = .ok (.iastore, 1) := by decide +kernel
theorem dX11_init_294 : decode cX11_init 294 = .ok (.dup, 1) := by decide +kernel
theorem dX11_init_295 : decode cX11_init 295 = .ok (.bipush 27, 2) := by decide +kernel
theorem dX11_init_297 : decode cX11_init 297 = .ok (.sipush 254, 3) := by decide +kernel
theorem dX11_init_300 : decode cX11_init 300 = .ok (.iastore, 1) := by decide +kernel
theorem dX11_init_301 : decode cX11_init 301 = .ok (.dup, 1) := by decide +kernel
theorem dX11_init_302 : decode cX11_init 302 = .ok (.bipush 28, 2) := by decide +kernel
theorem dX11_init_304 : decode cX11_init 304 = .ok (.bipush 100, 2) := by decide +kernel
theorem dX11_init_306 : decode cX11_init 306 = .ok (.iastore, 1) := by decide +kernel
theorem dX11_init_307 : decode cX11_init 307 = .ok (.dup, 1) := by decide +kernel
theorem dX11_init_308 : decode cX11_init 308 = .ok (.bipush 29, 2) := by decide +kernel
theorem dX11_init_310 : decode cX11_init 310 = .ok (.bipush 83, 2) := by decide +kernel
theorem dX11_init_312 : decode cX11_init 312 = .ok (.iastore, 1) := by decide +kernel
theorem dX11_init_313 : decode cX11_init 313 = .ok (.dup, 1) := by decide +kernel
theorem dX11_init_314 : decode cX11_init 314 = .ok (.bipush 30, 2) := by decide +kernel
theorem dX11_init_316 : decode cX11_init 316 = .ok (.bipush 105, 2) := by decide +kernel
theorem dX11_init_318 : decode cX11_init 318 = .ok (.iastore, 1) := by decide +kernel
theorem dX11_init_319 : decode cX11_init 319 = .ok (.dup, 1) := by decide +kernel
theorem dX11_init_320 : decode cX11_init 320 = .ok (.bipush 31, 2) := by decide +kernel
theorem dX11_init_322 : decode cX11_init 322 = .ok (.bipush 122, 2) := by decide +kernel
theorem dX11_init_324 : decode cX11_init 324 = .ok (.iastore, 1) := by decide +kernel
theorem dX11_init_325 : decode cX11_init 325 = .ok (.putfield 55, 3) := by decide +kernel
theorem dX11_init_328 : decode cX11_init 328 = .ok (.aload_n 0, 1) := by decide +kernel
theorem dX11_init_329 : decode cX11_init 329 = .ok (.bipush 64, 2) := by decide +kernel
theorem dX11_init_331 : decode cX11_init 331 = .ok (.newarray .int, 2) := by decide +kernel
theorem dX11_init_333 : decode cX11_init 333 = .ok (.dup, 1) := by decide +kernel
theorem dX11_init_334 : decode cX11_init 334 = .ok (.iconst 0, 1) := by decide +kernel
theorem dX11_init_335 : decode cX11_init 335 = .ok (.ldc 58, 2) := by decide +kernel
theorem dX11_init_337 : decode cX11_init 337 = .ok (.iastore, 1) := by decide +kernel
theorem dX11_init_338 : decode cX11_init 338 = .ok (.dup, 1) := by decide +kernel
theorem dX11_init_339 : decode cX11_init 339 = .ok (.iconst 1, 1) := by decide +kernel
theorem dX11_init_340 : decode cX11_init 340 = .ok (.ldc 59, 2) := by decide +kernel
theorem dX11_init_342 : decode cX11_init 342 = .ok (.iastore, 1) := by decide +kernel
theorem dX11_init_343 : decode cX11_init 343 = .ok (.dup, 1) := by decide +kernel
theorem dX11_init_344 : decode cX11_init 344 = .ok (.iconst 2, 1) := by decide +kernel
theorem dX11_init_345 : decode cX11_init 345 = .ok (.ldc 60, 2) := by decide +kernel
theorem dX11_init_347 : decode cX11_init 347 = .ok (.iastore, 1) := by decide +kernel
theorem dX11_init_348 : decode cX11_init 348 = .ok (.dup, 1) := by decide +kernel
theorem dX11_init_349 : decode cX11_init 349 = .ok (.iconst 3, 1) := by decide +kernel
theorem dX11_init_350 : decode cX11_init 350 = .ok (.ldc 61, 2) := by decide +kernel
theorem dX11_init_352 : decode cX11_init 352 = .ok (.iastore, 1) := by decide +kernel
theorem dX11_init_353 : decode cX11_init 353 = .ok (.dup, 1) := by decide +kernel
theorem dX11_init_354 : decode cX11_init 354 = .ok (.iconst 4, 1) := by decide +kernel
theorem dX11_init_355 : decode cX11_init 355 = .ok (.ldc 62, 2) := by decide +kernel
theorem dX11_init_357 : decode cX11_init 357 = .ok (.iastore, 1) := by decide +kernel
theorem dX11_init_358 : decode cX11_init 358 = .ok (.dup, 1) := by decide +kernel
theorem dX11_init_359 : decode cX11_init 359 = .ok (.iconst 5, 1) := by decide +kernel
theorem dX11_init_360 : decode cX11_init 360 = .ok (.ldc 63, 2) := by decide +kernel
theorem dX11_init_362 : decode cX11_init 362 = .ok (.iastore, 1) := by decide +kernel
theorem dX11_init_363 : decode cX11_init 363 = .ok (.dup, 1) := by decide +kernel
theorem dX11_init_364 : decode cX11_init 364 = .ok (.bipush 6, 2) := by decide +kernel
theorem dX11_init_366 : decode cX11_init 366 = .ok (.ldc 64, 2) := by decide +kernel
theorem dX11_init_368 : decode cX11_init 368 = .ok (.iastore, 1) := by decide +kernel
theorem dX11_init_369 : decode cX11_init 369 = .ok (.dup, 1) := by decide +kernel
theorem dX11_init_370 : decode cX11_init 370 = .ok (.bipush 7, 2) := by decide +kernel
theorem dX11_init_372 : decode cX11_init 372 = .ok (.ldc 65, 2) := by decide +kernel
theorem dX11_init_374 : decode cX11_init 374 = .ok (.iastore, 1) := by decide +kernel
theorem dX11_init_375 : decode cX11_init 375 = .ok (.dup, 1) := by decide +kernel
theorem dX11_init_376 : decode cX11_init 376 = .ok (.bipush 8, 2) := by decide +kernel
theorem dX11_init_378 : decode cX11_init 378 = .ok (.ldc 66, 2) := by decide +kernel
theorem dX11_init_380 : decode cX11_init 380 = .ok (.iastore, 1) := by decide +kernel
theorem dX11_init_381 : decode cX11_init 381 = .ok (.dup, 1) := by decide +kernel
theorem dX11_init_382 : decode cX11_init 382 = .ok (.bipush 9, 2) := by decide +kernel
theorem dX11_init_384 : decode cX11_init 384 = .ok (.ldc 67, 2) := by decide +kernel
theorem dX11_init_386 : decode cX11_init 386 = .ok (.iastore, 1) := by decide +kernel
theorem dX11_init_387 : decode cX11_init 387 = .ok (.dup, 1) := by decide +kernel
theorem dX11_init_388 : decode cX11_init 388 = .ok (.bipush 10, 2) := by decide +kernel
theorem dX11_init_390 : decode cX11_init 390 = .ok (.ldc 68, 2) := by decide +kernel
theorem dX11_init_392 : decode cX11_init 392 = .ok (.iastore, 1) := by decide +kernel
theorem dX11_init_393 : decode cX11_init 393 = .ok (.dup, 1) := by decide +kernel
theorem dX11_init_394 : decode cX11_init 394 = .ok (.bipush 11, 2) := by decide +kernel
theorem dX11_init_396 : decode cX11_init 396 = .ok (.ldc 69, 2) := by decide +kernel
theorem dX11_init_398 : decode cX11_init 398 = .ok (.iastore, 1) := by decide +kernel
theorem dX11_init_399 : decode cX11_init 399 = .ok (.dup, 1) := by decide +kernel
theorem dX11_init_400 : decode cX11_init 400 = .ok (.bipush 12, 2) := by decide +kernel
theorem dX11_init_402 : decode cX11_init 402 = .ok (.ldc 70, 2) := by decide +kernel
theorem dX11_init_404 : decode cX11_init 404 = .ok (.iastore, 1) := by decide +kernel
theorem dX11_init_405 : decode cX11_init 405 = .ok (.dup, 1) := by decide +kernel
theorem dX11_init_406 : decode cX11_init 406 = .ok (.bipush 13, 2) := by decide +kernel
theorem dX11_init_408 : decode cX11_init 408 = .ok (.ldc 71, 2) := by decide +kernel
theorem dX11_init_410 : decode cX11_init 410 = .ok (.iastore, 1) := by decide +kernel
theorem dX11_init_411 : decode cX11_init 411 = .ok (.dup, 1) := by decide +kernel
theorem dX11_init_412 : decode cX11_init 412 = .ok (.bipush 14, 2) := by decide +kernel
theorem dX11_init_414 : decode cX11_init 414 = .ok (.ldc 72, 2) := by decide +kernel
theorem dX11_init_416 : decode cX11_init 416 = .ok (.iastore, 1) := by decide +kernel
theorem dX11_init_417 : decode cX11_init 417 = .ok (.dup, 1) := by decide +kernel
theorem dX11_init_418 : decode cX11_init 418 = .ok (.bipush 15, 2) := by decide +kernel
theorem dX11_init_420 : decode cX11_init 420 = .ok (.ldc 73, 2) := by decide +kernel
theorem dX11_init_422 : decode cX11_init 422 = .ok (.iastore, 1) := by decide +kernel
theorem dX11_init_423 : decode cX11_init 423 = .ok (.dup, 1) := by decide +kernel
theorem dX11_init_424 : decode cX11_init 424 = .ok (.bipush 16, 2) := by decide +kernel
theorem dX11_init_426 : decode cX11_init 426 = .ok (.ldc 74, 2) := by decide +kernel
theorem dX11_init_428 : decode cX11_init 428 = .ok (.iastore, 1) := by decide +kernel
theorem dX11_init_429 : decode cX11_init 429 = .ok (.dup, 1) := by decide +kernel
theorem dX11_init_430 : decode cX11_init 430 = .ok (.bipush 17, 2) := by decide +kernel
theorem dX11_init_432 : decode cX11_init 432 = .ok (.ldc 75, 2) := by decide +kernel
theorem dX11_init_434 : decode cX11_init 434 = .ok (.iastore, 1) := by decide +kernel
theorem dX11_init_435 : decode cX11_init 435 = .ok (.dup, 1) := by decide +kernel
theorem dX11_init_436 : decode cX11_init 436 = .ok (.bipush 18, 2) := by decide +kernel
theorem dX11_init_438 : decode cX11_init 438 = .ok (.ldc 76, 2) := by decide +kernel
theorem dX11_init_440 : decode cX11_init 440 = .ok (.iastore, 1) := by decide +kernel
theorem dX11_init_441 : decode cX11_init 441 = .ok (.dup, 1) := by decide +kernel
theorem dX11_init_442 : decode cX11_init 442 = .ok (.bipush 19, 2) := by decide +kernel
theorem dX11_init_444 : decode cX11_init 444 = .ok (.ldc 77, 2) := by decide +kernel
theorem dX11_init_446 : decode cX11_init 446 = .ok (.iastore, 1) := by decide +kernel
theorem dX11_init_447 : decode cX11_init 447 = .ok (.dup, 1) := by decide +kernel
theorem dX11_init_448 : decode cX11_init 448 = .ok (.bipush 20, 2) := by decide +kernel
theorem dX11_init_450 : decode cX11_init 450 = .ok (.ldc 78, 2) := by decide +kernel
theorem dX11_init_452 : decode cX11_init 452 = .ok (.iastore, 1) := by decide +kernel
theorem dX11_init_453 : decode cX11_init 453 = .ok (.dup, 1) := by decide +kernel
theorem dX11_init_454 : decode cX11_init 454 = .ok (.bipush 21, 2) := by decide +kernel
theorem dX11_init_456 : decode cX11_init 456 = .ok (.ldc 79, 2) := by decide +kernel
theorem dX11_init_458 : decode cX11_init 458 = .ok (.iastore, 1) := by decide +kernel
theorem dX11_init_459 : decode cX11_init 459 = .ok (.dup, 1) := by decide +kernel
theorem dX11_init_460 : decode cX11_init 460 = .ok (.bipush 22, 2) := by decide +kernel
theorem dX11_init_462 : decode cX11_init 462 = .ok (.ldc 80, 2) := by decide +kernel
theorem dX11_init_464 : decode cX11_init 464 = .ok (.iastore, 1) := by decide +kernel
theorem dX11_init_465 : decode cX11_init 465 = .ok (.dup, 1) := by decide +kernel
theorem dX11_init_466 : decode cX11_init 466 = .ok (.bipush 23, 2) := by decide +kernel
theorem dX11_init_468 : decode cX11_init 468 = .ok (.ldc 81, 2) := by decide +kernel
theorem dX11_init_470 : decode cX11_init 470 = .ok (.iastore, 1) := by decide +kernel
theorem dX11_init_471 : decode cX11_init 471 = .ok (.dup, 1) := by decide +kernel
theorem dX11_init_472 : decode cX11_init 472 = .ok (.bipush 24, 2) := by decide +kernel
theorem dX11_init_474 : decode cX11_init 474 = .ok (.ldc 82, 2) := by decide +kernel
theorem dX11_init_476 : decode cX11_init 476 = .ok (.iastore, 1) := by decide +kernel
theorem dX11_init_477 : decode cX11_init 477 = .ok (.dup, 1) := by decide +kernel
theorem dX11_init_478 : decode cX11_init 478 = .ok (.bipush 25, 2) := by decide +kernel
theorem dX11_init_480 : decode cX11_init 480 = .ok (.ldc 83, 2) := by decide +kernel
theorem dX11_init_482 : decode cX11_init 482 = .ok (.iastore, 1) := by decide +kernel
theorem dX11_init_483 : decode cX11_init 483 = .ok (.dup, 1) := by decide +kernel
theorem dX11_init_484 : decode cX11_init 484 = .ok (.bipush 26, 2) := by decide +kernel
theorem dX11_init_486 : decode cX11_init 486 = .ok (.ldc 84, 2) := by decide +kernel
theorem dX11_init_488 : decode cX11_init 488 = .ok (.iastore, 1) := by decide +kernel
theorem dX11_init_489 : decode cX11_init 489 = .ok (.dup, 1) := by decide +kernel
theorem dX11_init_490 : decode cX11_init 490 = .ok (.bipush 27, 2) := by decide +kernel
theorem dX11_init_492 : decode cX11_init 492 = .ok (.ldc 85, 2) := by decide +kernel
theorem dX11_init_494 : decode cX11_init 494 = .ok (.iastore, 1) := by decide +kernel
theorem dX11_init_495 : decode cX11_init 495 = .ok (.dup, 1) := by decide +kernel
theorem dX11_init_496 : decode cX11_init 496 = .ok (.bipush 28, 2) := by decide +kernel
theorem dX11_init_498 : decode cX11_init 498 = .ok (.ldc 86, 2) := by decide +kernel
theorem dX11_init_500 : decode cX11_init 500 = .ok (.iastore, 1) := by decide +kernel
theorem dX11_init_501 : decode cX11_init 501 = .ok (.dup, 1) := by decide +kernel
theorem dX11_init_502 : decode cX11_init 502 = .ok (.bipush 29, 2) := by decide +kernel
theorem dX11_init_504 : decode cX11_init 504 = .ok (.ldc 87, 2) := by decide +kernel
theorem dX11_init_506 : decode cX11_init 506 = .ok (.iastore, 1) := by decide +kernel
theorem dX11_init_507 : decode cX11_init 507 = .ok (.dup, 1) := by decide +kernel
theorem dX11_init_508 : decode cX11_init 508 = .ok (.bipush 30, 2) := by decide +kernel
theorem dX11_init_510 : decode cX11_init 510 = .ok (.ldc 88, 2) := by decide +kernel
theorem dX11_init_512 : decode cX11_init 512 = .ok (.iastore, 1) := by decide +kernel
theorem dX11_init_513 : decode cX11_init 513 = .ok (.dup, 1) := by decide +kernel
theorem dX11_init_514 : decode cX11_init 514 = .ok (.bipush 31, 2) := by decide +kernel
theorem dX11_init_516 : decode cX11_init 516 = .ok (.ldc 89, 2) := by decide +kernel
theorem dX11_init_518 : decode cX11_init 518 = .ok (.iastore, 1) := by decide +kernel
theorem dX11_init_519 : decode cX11_init 519 = .ok (.dup, 1) := by decide +kernel
theorem dX11_init_520 : decode cX11_init 520 = .ok (.bipush 32, 2) := by decide +kernel
theorem dX11_init_522 : decode cX11_init 522 = .ok (.ldc 90, 2) := by decide +kernel
theorem dX11_init_524 : decode cX11_init 524 = .ok (.iastore, 1) := by decide +kernel
theorem dX11_init_525 : decode cX11_init 525 = .ok (.dup, 1) := by decide +kernel
theorem dX11_init_526 : decode cX11_init 526 = .ok (.bipush 33, 2) := by decide +kernel
theorem dX11_init_528 : decode cX11_init 528 = .ok (.ldc 91, 2) := by decide +kernel
theorem dX11_init_530 : decode cX11_init 530 = .ok (.iastore, 1) := by decide +kernel
theorem dX11_init_531 : decode cX11_init 531 = .ok (.dup, 1) := by decide +kernel
theorem dX11_init_532 : decode cX11_init 532 = .ok (.bipush 34, 2) := by decide +kernel
theorem dX11_init_534 : decode cX11_init 534 = .ok (.ldc 92, 2) := by decide +kernel
theorem dX11_init_536 : decode cX11_init 536 = .ok (.iastore, 1) := by decide +kernel
theorem dX11_init_537 : decode cX11_init 537 = .ok (.dup, 1) := by decide +kernel
theorem dX11_init_538 : decode cX11_init 538 = .ok (.bipush 35, 2) := by decide +kernel
theorem dX11_init_540 : decode cX11_init 540 = .ok (.ldc 93, 2) := by decide +kernel
theorem dX11_init_542 : decode cX11_init 542 = .ok (.iastore, 1) := by decide +kernel
theorem dX11_init_543 : decode cX11_init 543 = .ok (.dup, 1) := by decide +kernel
theorem dX11_init_544 : decode cX11_init 544 = .ok (.bipush 36, 2) := by decide +kernel
theorem dX11_init_546 : decode cX11_init 546 = .ok (.ldc 94, 2) := by decide +kernel
theorem dX11_init_548 : decode cX11_init 548 = .ok (.iastore, 1) := by decide +kernel
theorem dX11_init_549 : decode cX11_init 549 = .ok (.dup, 1) := by decide +kernel
theorem dX11_init_550 : decode cX11_init 550 = .ok (.bipush 37, 2) := by decide +kernel
theorem dX11_init_552 : decode cX11_init 552 = .ok (.ldc 95, 2) := by decide +kernel
theorem dX11_init_554 : decode cX11_init 554 = .ok (.iastore, 1) := by decide +kernel
theorem dX11_init_555 : decode cX11_init 555 = .ok (.dup, 1) := by decide +kernel
theorem dX11_init_556 : decode cX11_init 556 = .ok (.bipush 38, 2) := by decide +kernel
theorem dX11_init_558 : decode cX11_init 558 = .ok (.ldc 96, 2) := by decide +kernel
theorem dX11_init_560 : decode cX11_init 560 = .ok (.iastore, 1) := by decide +kernel
theorem dX11_init_561 : decode cX11_init 561 = .ok (.dup, 1) := by decide +kernel
theorem dX11_init_562 : decode cX11_init 562 = .ok (.bipush 39, 2) := by decide +kernel
theorem dX11_init_564 : decode cX11_init 564 = .ok (.ldc 97, 2) := by decide +kernel
theorem dX11_init_566 : decode cX11_init 566 = .ok (.iastore, 1) := by decide +kernel
theorem dX11_init_567 : decode cX11_init 567 = .ok (.dup, 1) := by decide +kernel
theorem dX11_init_568 : decode cX11_init 568 = .ok (.bipush 40, 2) := by decide +kernel
theorem dX11_init_570 : decode cX11_init 570 = .ok (.ldc 98, 2) := by decide +kernel
theorem dX11_init_572 : decode cX11_init 572 = .ok (.iastore, 1) := by decide +kernel
theorem dX11_init_573 : decode cX11_init 573 = .ok (.dup, 1) := by decide +kernel
theorem dX11_init_574 : decode cX11_init 574 = .ok (.bipush 41, 2) := by decide +kernel
theorem dX11_init_576 : decode cX11_init 576 = .ok (.ldc 99, 2) := by decide +kernel
theorem dX11_init_578 : decode cX11_init 578 = .ok (.iastore, 1) := by decide +kernel
theorem dX11_init_579 : decode cX11_init 579 = .ok (.dup, 1) := by decide +kernel
theorem dX11_init_580 : decode cX11_init 580 = .ok (.bipush 42, 2) := by decide +kernel
theorem dX11_init_582 : decode cX11_init 582 = .ok (.ldc 100, 2) := by decide +kernel
theorem dX11_init_584 : decode cX11_init 584 = .ok (.iastore, 1) := by decide +kernel
theorem dX11_init_585 : decode cX11_init 585 = .ok (.dup, 1) := by decide +kernel
theorem dX11_init_586 : decode cX11_init 586 = .ok (.bipush 43, 2) := by decide +kernel
theorem dX11_init_588 : decode cX11_init 588 = .ok (.ldc 101, 2) := by decide +kernel
theorem dX11_init_590 : decode cX11_init 590 = .ok (.iastore, 1) := by decide +kernel
theorem dX11_init_591 : decode cX11_init 591 = .ok (.dup, 1) := by decide +kernel
theorem dX11_init_592 : decode cX11_init 592 = .ok (.bipush 44, 2) := by decide +kernel
theorem dX11_init_594 : decode cX11_init 594 = .ok (.ldc 102, 2) := by decide +kernel
theorem dX11_init_596 : decode cX11_init 596 = .ok (.iastore, 1) := by decide +kernel
theorem dX11_init_597 : decode cX11_init 597 = .ok (.dup, 1) := by decide +kernel
theorem dX11_init_598 : decode cX11_init 598 = .ok (.bipush 45, 2) := by decide +kernel
theorem dX11_init_600 : decode cX11_init 600 = .ok (.ldc 103, 2) := by decide +kernel
theorem dX11_init_602 : decode cX11_init 602 = .ok (.iastore, 1) := by decide +kernel
theorem dX11_init_603 : decode cX11_init 603 = .ok (.dup, 1) := by decide +kernel
theorem dX11_init_604 : decode cX11_init 604 = .ok (.bipush 46, 2) := by decide +kernel
theorem dX11_init_606 : decode cX11_init 606 = .ok (.ldc 104, 2) := by decide +kernel
theorem dX11_init_608 : decode cX11_init 608 = .ok (.iastore, 1) := by decide +kernel
theorem dX11_init_609 : decode cX11_init 609 = .ok (.dup, 1) := by decide +kernel
theorem dX11_init_610 : decode cX11_init 610 = .ok (.bipush 47, 2) := by decide +kernel
theorem dX11_init_612 : decode cX11_init 612 = .ok (.ldc 105, 2) := by decide +kernel
theorem dX11_init_614 : decode cX11_init 614 = .ok (.iastore, 1) := by decide +kernel
theorem dX11_init_615 : decode cX11_init 615 = .ok (.dup, 1) := by decide +kernel
theorem dX11_init_616 : decode cX11_init 616 = .ok (.bipush 48, 2) := by decide +kernel
theorem dX11_init_618 : decode cX11_init 618 = .ok (.ldc 106, 2) := by decide +kernel
theorem dX11_init_620 : decode cX11_init 620 = .ok (.iastore, 1) := by decide +kernel
theorem dX11_init_621 : decode cX11_init 621 = .ok (.dup, 1) := by decide +kernel
theorem dX11_init_622 : decode cX11_init 622 = .ok (.bipush 49, 2) := by decide +kernel
theorem dX11_init_624 : decode cX11_init 624 = .ok (.ldc 107, 2) := by decide +kernel
theorem dX11_init_626 : decode cX11_init 626 = .ok (.iastore, 1) := by decide +kernel
theorem dX11_init_627 : decode cX11_init 627 = .ok (.dup, 1) := by decide +kernel
theorem dX11_init_628 : decode cX11_init 628 = .ok (.bipush 50, 2) := by decide +kernel
theorem dX11_init_630 : decode cX11_init 630 = .ok (.ldc 108, 2) := by decide +kernel
theorem dX11_init_632 : decode cX11_init 632 = .ok (.iastore, 1) := by decide +kernel
theorem dX11_init_633 : decode cX11_init 633 = .ok (.dup, 1) := by decide +kernel
theorem dX11_init_634 : decode cX11_init 634 = .ok (.bipush 51, 2) := by decide +kernel
theorem dX11_init_636 : decode cX11_init 636 = .ok (.ldc 109, 2) := by decide +kernel
theorem dX11_init_638 : decode cX11_init 638 = .ok (.iastore, 1) := by decide +kernel
theorem dX11_init_639 : decode cX11_init 639 = .ok (.dup, 1) := by decide +kernel
theorem dX11_init_640 : decode cX11_init 640 = .ok (.bipush 52, 2) := by decide +kernel
theorem dX11_init_642 : decode cX11_init 642 = .ok (.ldc 110, 2) := by decide +kernel
theorem dX11_init_644 : decode cX11_init 644 = .ok (.iastore, 1) := by decide +kernel
theorem dX11_init_645 : decode cX11_init 645 = .ok (.dup, 1) := by decide +kernel
theorem dX11_init_646 : decode cX11_init 646 = .ok (.bipush 53, 2) := by decide +kernel
theorem dX11_init_648 : decode cX11_init 648 = .ok (.ldc 111, 2) := by decide +kernel
theorem dX11_init_650 : decode cX11_init 650 = .ok (.iastore, 1) := by decide +kernel
theorem dX11_init_651 : decode cX11_init 651 = .ok (.dup, 1) := by decide +kernel
theorem dX11_init_652 : decode cX11_init 652 = .ok (.bipush 54, 2) := by decide +kernel
theorem dX11_init_654 : decode cX11_init 654 = .ok (.ldc 112, 2) := by decide +kernel
theorem dX11_init_656 : decode cX11_init 656 = .ok (.iastore, 1) := by decide +kernel
theorem dX11_init_657 : decode cX11_init 657 = .ok (.dup, 1) := by decide +kernel
theorem dX11_init_658 : decode cX11_init 658 = .ok (.bipush 55, 2) := by decide +kernel
theorem dX11_init_660 : decode cX11_init 660 = .ok (.ldc 113, 2) := by decide +kernel
theorem dX11_init_662 : decode cX11_init 662 = .ok (.iastore, 1) := by decide +kernel
theorem dX11_init_663 : decode cX11_init 663 = .ok (.dup, 1) := by decide +kernel
theorem dX11_init_664 : decode cX11_init 664 = .ok (.bipush 56, 2) := by decide +kernel
theorem dX11_init_666 : decode cX11_init 666 = .ok (.ldc 114, 2) := by decide +kernel
theorem dX11_init_668 : decode cX11_init 668 = .ok (.iastore, 1) := by decide +kernel
theorem dX11_init_669 : decode cX11_init 669 = .ok (.dup, 1) := by decide +kernel
theorem dX11_init_670 : decode cX11_init 670 = .ok (.bipush 57, 2) := by decide +kernel
theorem dX11_init_672 : decode cX11_init 672 = .ok (.ldc 115, 2) := by decide +kernel
theorem dX11_init_674 : decode cX11_init 674 = .ok (.iastore, 1) := by decide +kernel
theorem dX11_init_675 : decode cX11_init 675 = .ok (.dup, 1) := by decide +kernel
theorem dX11_init_676 : decode cX11_init 676 = .ok (.bipush 58, 2) := by decide +kernel
theorem dX11_init_678 : decode cX11_init 678 = .ok (.ldc 116, 2) := by decide +kernel
theorem dX11_init_680 : decode cX11_init 680 = .ok (.iastore, 1) := by decide +kernel
theorem dX11_init_681 : decode cX11_init 681 = .ok (.dup, 1) := by decide +kernel
theorem dX11_init_682 : decode cX11_init 682 = .ok (.bipush 59, 2) := by decide +kernel
theorem dX11_init_684 : decode cX11_init 684 = .ok (.ldc 117, 2) := by decide +kernel
theorem dX11_init_686 : decode cX11_init 686 = .ok (.iastore, 1) := by decide +kernel
theorem dX11_init_687 : decode cX11_init 687 = .ok (.dup, 1) := by decide +kernel
theorem dX11_init_688 : decode cX11_init 688 = .ok (.bipush 60, 2) := by decide +kernel
theorem dX11_init_690 : decode cX11_init 690 = .ok (.ldc 118, 2) := by decide +kernel
theorem dX11_init_692 : decode cX11_init 692 = .ok (.iastore, 1) := by decide +kernel
theorem dX11_init_693 : decode cX11_init 693 = .ok (.dup, 1) := by decide +kernel
theorem dX11_init_694 : decode cX11_init 694 = .ok (.bipush 61, 2) := by decide +kernel
theorem dX11_init_696 : decode cX11_init 696 = .ok (.ldc 119, 2) := by decide +kernel
theorem dX11_init_698 : decode cX11_init 698 = .ok (.iastore, 1) := by decide +kernel
theorem dX11_init_699 : decode cX11_init 699 = .ok (.dup, 1) := by decide +kernel
theorem dX11_init_700 : decode cX11_init 700 = .ok (.bipush 62, 2) := by decide +kernel
theorem dX11_init_702 : decode cX11_init 702 = .ok (.ldc 120, 2) := by decide +kernel
theorem dX11_init_704 : decode cX11_init 704 = .ok (.iastore, 1) := by decide +kernel
theorem dX11_init_705 : decode cX11_init 705 = .ok (.dup, 1) := by decide +kernel
theorem dX11_init_706 : decode cX11_init 706 = .ok (.bipush 63, 2) := by decide +kernel
theorem dX11_init_708 : decode cX11_init 708 = .ok (.ldc 121, 2) := by decide +kernel
theorem dX11_init_710 : decode cX11_init 710 = .ok (.iastore, 1) := by decide +kernel
theorem dX11_init_711 : decode cX11_init 711 = .ok (.putfield 122, 3) := by decide +kernel
theorem dX11_init_714 : decode cX11_init 714 = .ok (.aload_n 0, 1) := by decide +kernel
theorem dX11_init_715 : decode cX11_init 715 = .ok (.bipush 64, 2) := by decide +kernel
theorem dX11_init_717 : decode cX11_init 717 = .ok (.newarray .int, 2) := by decide +kernel
theorem dX11_init_719 : decode cX11_init 719 = .ok (.dup, 1) := by decide +kernel
theorem dX11_init_720 : decode cX11_init 720 = .ok (.iconst 0, 1) := by decide +kernel
theorem dX11_init_721 : decode cX11_init 721 = .ok (.ldc 125, 2) := by decide +kernel
theorem dX11_init_723 : decode cX11_init 723 = .ok (.iastore, 1) := by decide +kernel
theorem dX11_init_724 : decode cX11_init 724 = .ok (.dup, 1) := by decide +kernel
theorem dX11_init_725 : decode cX11_init 725 = .ok (.iconst 1, 1) := by decide +kernel
theorem dX11_init_726 : decode cX11_init 726 = .ok (.ldc 126, 2) := by decide +kernel
theorem dX11_init_728 : decode cX11_init 728 = .ok (.iastore, 1) := by decide +kernel
theorem dX11_init_729 : decode cX11_init 729 = .ok (.dup, 1) := by decide +kernel
theorem dX11_init_730 : decode cX11_init 730 = .ok (.iconst 2, 1) := by decide +kernel
theorem dX11_init_731 : decode cX11_init 731 = .ok (.ldc 127, 2) := by decide +kernel
theorem dX11_init_733 : decode cX11_init 733 = .ok (.iastore, 1) := by decide +kernel
theorem dX11_init_734 : decode cX11_init 734 = .ok (.dup, 1) := by decide +kernel
theorem dX11_init_735 : decode cX11_init 735 = .ok (.iconst 3, 1) := by decide +kernel
theorem dX11_init_736 : decode cX11_init 736 = .ok (.ldc 128, 2) := by decide +kernel
theorem dX11_init_738 : decode cX11_init 738 = .ok (.iastore, 1) := by decide +kernel
theorem dX11_init_739 : decode cX11_init 739 = .ok (.dup, 1) := by decide +kernel
theorem dX11_init_740 : decode cX11_init 740 = .ok (.iconst 4, 1) := by decide +kernel
theorem dX11_init_741 : decode cX11_init 741 = .ok (.ldc 129, 2) := by decide +kernel
theorem dX11_init_743 : decode cX11_init 743 = .ok (.iastore, 1) := by decide +kernel
theorem dX11_init_744 : decode cX11_init 744 = .ok (.dup, 1) := by decide +kernel
theorem dX11_init_745 : decode cX11_init 745 = .ok (.iconst 5, 1) := by decide +kernel
theorem dX11_init_746 : decode cX11_init 746 = .ok (.ldc 130, 2) := by decide +kernel
theorem dX11_init_748 : decode cX11_init 748 = .ok (.iastore, 1) := by decide +kernel
theorem dX11_init_749 : decode cX11_init 749 = .ok (.dup, 1) := by decide +kernel
theorem dX11_init_750 : decode cX11_init 750 = .ok (.bipush 6, 2) := by decide +kernel
theorem dX11_init_752 : decode cX11_init 752 = .ok (.ldc 131, 2) := by decide +kernel
theorem dX11_init_754 : decode cX11_init 754 = .ok (.iastore, 1) := by decide +kernel
theorem dX11_init_755 : decode cX11_init 755 = .ok (.dup, 1) := by decide +kernel
theorem dX11_init_756 : decode cX11_init 756 = .ok (.bipush 7, 2) := by decide +kernel
theorem dX11_init_758 : decode cX11_init 758 = .ok (.ldc 132, 2) := by decide +kernel
theorem dX11_init_760 : decode cX11_init 760 = .ok (.iastore, 1) := by decide +kernel
theorem dX11_init_761 : decode cX11_init 761 = .ok (.dup, 1) := by decide +kernel
theorem dX11_init_762 : decode cX11_init 762 = .ok (.bipush 8, 2) := by decide +kernel
theorem dX11_init_764 : decode cX11_init 764 = .ok (.ldc 133, 2) := by decide +kernel
theorem dX11_init_766 : decode cX11_init 766 = .ok (.iastore, 1) := by decide +kernel
theorem dX11_init_767 : decode cX11_init 767 = .ok (.dup, 1) := by decide +kernel
theorem dX11_init_768 : decode cX11_init 768 = .ok (.bipush 9, 2) := by decide +kernel
theorem dX11_init_770 : decode cX11_init 770 = .ok (.ldc 134, 2) := by decide +kernel
theorem dX11_init_772 : decode cX11_init 772 = .ok (.iastore, 1) := by decide +kernel
theorem dX11_init_773 : decode cX11_init 773 = .ok (.dup, 1) := by decide +kernel
theorem dX11_init_774 : decode cX11_init 774 = .ok (.bipush 10, 2) := by decide +kernel
theorem dX11_init_776 : decode cX11_init 776 = .ok (.ldc 135, 2) := by decide +kernel
theorem dX11_init_778 : decode cX11_init 778 = .ok (.iastore, 1) := by decide +kernel
theorem dX11_init_779 : decode cX11_init 779 = .ok (.dup, 1) := by decide +kernel
theorem dX11_init_780 : decode cX11_init 780 = .ok (.bipush 11, 2) := by decide +kernel
theorem dX11_init_782 : decode cX11_init 782 = .ok (.ldc 136, 2) := by decide +kernel
theorem dX11_init_784 : decode cX11_init 784 = .ok (.iastore, 1) := by decide +kernel
theorem dX11_init_785 : decode cX11_init 785 = .ok (.dup, 1) := by decide +kernel
theorem dX11_init_786 : decode cX11_init 786 = .ok (.bipush 12, 2) := by decide +kernel
theorem dX11_init_788 : decode cX11_init 788 = .ok (.ldc 137, 2) := by decide +kernel
theorem dX11_init_790 : decode cX11_init 790 = .ok (.iastore, 1) := by decide +kernel
theorem dX11_init_791 : decode cX11_init 791 = .ok (.dup, 1) := by decide +kernel
theorem dX11_init_792 : decode cX11_init 792 = .ok (.bipush 13, 2) := by decide +kernel
theorem dX11_init_794 : decode cX11_init 794 = .ok (.ldc 138, 2) := by decide +kernel
theorem dX11_init_796 : decode cX11_init 796 = .ok (.iastore, 1) := by decide +kernel
theorem dX11_init_797 : decode cX11_init 797 = .ok (.dup, 1) := by decide +kernel
theorem dX11_init_798 : decode cX11_init 798 = .ok (.bipush 14, 2) := by decide +kernel
theorem dX11_init_800 : decode cX11_init 800 = .ok (.ldc 139, 2) := by decide +kernel
theorem dX11_init_802 : decode cX11_init 802 = .ok (.iastore, 1) := by decide +kernel
theorem dX11_init_803 : decode cX11_init 803 = .ok (.dup, 1) := by decide +kernel
theorem dX11_init_804 : decode cX11_init 804 = .ok (.bipush 15, 2) := by decide +kernel
theorem dX11_init_806 : decode cX11_init 806 = .ok (.ldc 140, 2) := by decide +kernel
theorem dX11_init_808 : decode cX11_init 808 = .ok (.iastore, 1) := by decide +kernel
theorem dX11_init_809 : decode cX11_init 809 = .ok (.dup, 1) := by decide +kernel
theorem dX11_init_810 : decode cX11_init 810 = .ok (.bipush 16, 2) := by decide +kernel
theorem dX11_init_812 : decode cX11_init 812 = .ok (.ldc 141, 2) := by decide +kernel
theorem dX11_init_814 : decode cX11_init 814 = .ok (.iastore, 1) := by decide +kernel
theorem dX11_init_815 : decode cX11_init 815 = .ok (.dup, 1) := by decide +kernel
theorem dX11_init_816 : decode cX11_init 816 = .ok (.bipush 17, 2) := by decide +kernel
theorem dX11_init_818 : decode cX11_init 818 = .ok (.ldc 142, 2) := by decide +kernel
theorem dX11_init_820 : decode cX11_init 820 = .ok (.iastore, 1) := by decide +kernel
theorem dX11_init_821 : decode cX11_init 821 = .ok (.dup, 1) := by decide +kernel
theorem dX11_init_822 : decode cX11_init 822 = .ok (.bipush 18, 2) := by decide +kernel
theorem dX11_init_824 : decode cX11_init 824 = .ok (.ldc 143, 2) := by decide +kernel
theorem dX11_init_826 : decode cX11_init 826 = .ok (.iastore, 1) := by decide +kernel
theorem dX11_init_827 : decode cX11_init 827 = .ok (.dup, 1) := by decide +kernel
theorem dX11_init_828 : decode cX11_init 828 = .ok (.bipush 19, 2) := by decide +kernel
theorem dX11_init_830 : decode cX11_init 830 = .ok (.ldc 144, 2) := by decide +kernel
theorem dX11_init_832 : decode cX11_init 832 = .ok (.iastore, 1) := by decide +kernel
theorem dX11_init_833 : decode cX11_init 833 = .ok (.dup, 1) := by decide +kernel
theorem dX11_init_834 : decode cX11_init 834 = .ok (.bipush 20, 2) := by decide +kernel
theorem dX11_init_836 : decode cX11_init 836 = .ok (.ldc 145, 2) := by decide +kernel
theorem dX11_init_838 : decode cX11_init 838 = .ok (.iastore, 1) := by decide +kernel
theorem dX11_init_839 : decode cX11_init 839 = .ok (.dup, 1) := by decide +kernel
theorem dX11_init_840 : decode cX11_init 840 = .ok (.bipush 21, 2) := by decide +kernel
theorem dX11_init_842 : decode cX11_init 842 = .ok (.ldc 146, 2) := by decide +kernel
theorem dX11_init_844 : decode cX11_init 844 = .ok (.iastore, 1) := by decide +kernel
theorem dX11_init_845 : decode cX11_init 845 = .ok (.dup, 1) := by decide +kernel
theorem dX11_init_846 : decode cX11_init 846 = .ok (.bipush 22, 2) := by decide +kernel
theorem dX11_init_848 : decode cX11_init 848 = .ok (.ldc 147, 2) := by decide +kernel
theorem dX11_init_850 : decode cX11_init 850 = .ok (.iastore, 1) := by decide +kernel
theorem dX11_init_851 : decode cX11_init 851 = .ok (.dup, 1) := by decide +kernel
theorem dX11_init_852 : decode cX11_init 852 = .ok (.bipush 23, 2) := by decide +kernel
theorem dX11_init_854 : decode cX11_init 854 = .ok (.ldc 148, 2) := by decide +kernel
theorem dX11_init_856 : decode cX11_init 856 = .ok (.iastore, 1) := by decide +kernel
theorem dX11_init_857 : decode cX11_init 857 = .ok (.dup, 1) := by decide +kernel
theorem dX11_init_858 : decode cX11_init 858 = .ok (.bipush 24, 2) := by decide +kernel
theorem dX11_init_860 : decode cX11_init 860 = .ok (.ldc 149, 2) := by decide +kernel
theorem dX11_init_862 : decode cX11_init 862 = .ok (.iastore, 1) := by decide +kernel
theorem dX11_init_863 : decode cX11_init 863 = .ok (.dup, 1) := by decide +kernel
theorem dX11_init_864 : decode cX11_init 864 = .ok (.bipush 25, 2) := by decide +kernel
theorem dX11_init_866 : decode cX11_init 866 = .ok (.ldc 150, 2) := by decide +kernel
theorem dX11_init_868 : decode cX11_init 868 = .ok (.iastore, 1) := by decide +kernel
theorem dX11_init_869 : decode cX11_init 869 = .ok (.dup, 1) := by decide +kernel
theorem dX11_init_870 : decode cX11_init 870 = .ok (.bipush 26, 2) := by decide +kernel
theorem dX11_init_872 : decode cX11_init 872 = .ok (.ldc 151, 2) := by decide +kernel
theorem dX11_init_874 : decode cX11_init 874 = .ok (.iastore, 1) := by decide +kernel
theorem dX11_init_875 : decode cX11_init 875 = .ok (.dup, 1) := by decide +kernel
theorem dX11_init_876 : decode cX11_init 876 = .ok (.bipush 27, 2) := by decide +kernel
theorem dX11_init_878 : decode cX11_init 878 = .ok (.ldc 152, 2) := by decide +kernel
theorem dX11_init_880 : decode cX11_init 880 = .ok (.iastore, 1) := by decide +kernel
theorem dX11_init_881 : decode cX11_init 881 = .ok (.dup, 1) := by decide +kernel
theorem dX11_init_882 : decode cX11_init 882 = .ok (.bipush 28, 2) := by decide +kernel
theorem dX11_init_884 : decode cX11_init 884 = .ok (.ldc 153, 2) := by decide +kernel
theorem dX11_init_886 : decode cX11_init 886 = .ok (.iastore, 1) := by decide +kernel
theorem dX11_init_887 : decode cX11_init 887 = .ok (.dup, 1) := by decide +kernel
theorem dX11_init_888 : decode cX11_init 888 = .ok (.bipush 29, 2) := by decide +kernel
theorem dX11_init_890 : decode cX11_init 890 = .ok (.ldc 154, 2) := by decide +kernel
theorem dX11_init_892 : decode cX11_init 892 = .ok (.iastore, 1) := by decide +kernel
theorem dX11_init_893 : decode cX11_init 893 = .ok (.dup, 1) := by decide +kernel
theorem dX11_init_894 : decode cX11_init 894 = .ok (.bipush 30, 2) := by decide +kernel
theorem dX11_init_896 : decode cX11_init 896 = .ok (.ldc 155, 2) := by decide +kernel
theorem dX11_init_898 : decode cX11_init 898 = .ok (.iastore, 1) := by decide +kernel
theorem dX11_init_899 : decode cX11_init 899 = .ok (.dup, 1) := by decide +kernel
theorem dX11_init_900 : decode cX11_init 900 = .ok (.bipush 31, 2) := by decide +kernel
theorem dX11_init_902 : decode cX11_init 902 = .ok (.ldc 156, 2) := by decide +kernel
theorem dX11_init_904 : decode cX11_init 904 = .ok (.iastore, 1) := by decide +kernel
theorem dX11_init_905 : decode cX11_init 905 = .ok (.dup, 1) := by decide +kernel
theorem dX11_init_906 : decode cX11_init 906 = .ok (.bipush 32, 2) := by decide +kernel
theorem dX11_init_908 : decode cX11_init 908 = .ok (.ldc 157, 2) := by decide +kernel
theorem dX11_init_910 : decode cX11_init 910 = .ok (.iastore, 1) := by decide +kernel
theorem dX11_init_911 : decode cX11_init 911 = .ok (.dup, 1) := by decide +kernel
theorem dX11_init_912 : decode cX11_init 912 = .ok (.bipush 33, 2) := by decide +kernel
theorem dX11_init_914 : decode cX11_init 914 = .ok (.ldc 158, 2) := by decide +kernel
theorem dX11_init_916 : decode cX11_init 916 = .ok (.iastore, 1) := by decide +kernel
theorem dX11_init_917 : decode cX11_init 917 = .ok (.dup, 1) := by decide +kernel
theorem dX11_init_918 : decode cX11_init 918 = .ok (.bipush 34, 2) := by decide +kernel
theorem dX11_init_920 : decode cX11_init 920 = .ok (.ldc 159, 2) := by decide +kernel
theorem dX11_init_922 : decode cX11_init 922 = .ok (.iastore, 1) := by decide +kernel
theorem dX11_init_923 : decode cX11_init 923 = .ok (.dup, 1) := by decide +kernel
theorem dX11_init_924 : decode cX11_init 924 = .ok (.bipush 35, 2) := by decide +kernel
theorem dX11_init_926 : decode cX11_init 926 = .ok (.ldc 160, 2) := by decide +kernel
theorem dX11_init_928 : decode cX11_init 928 = .ok (.iastore, 1) := by decide +kernel
theorem dX11_init_929 : decode cX11_init 929 = .ok (.dup, 1) := by decide +kernel
theorem dX11_init_930 : decode cX11_init 930 = .ok (.bipush 36, 2) := by decide +kernel
theorem dX11_init_932 : decode cX11_init 932 = .ok (.ldc 161, 2) := by decide +kernel
theorem dX11_init_934 : decode cX11_init 934 = .ok (.iastore, 1) := by decide +kernel
theorem dX11_init_935 : decode cX11_init 935 = .ok (.dup, 1) := by decide +kernel
theorem dX11_init_936 : decode cX11_init 936 = .ok (.bipush 37, 2) := by decide +kernel
theorem dX11_init_938 : decode cX11_init 938 = .ok (.ldc 162, 2) := by decide +kernel
theorem dX11_init_940 : decode cX11_init 940 = .ok (.iastore, 1) := by decide +kernel
theorem dX11_init_941 : decode cX11_init 941 = .ok (.dup, 1) := by decide +kernel
theorem dX11_init_942 : decode cX11_init 942 = .ok (.bipush 38, 2) := by decide +kernel
theorem dX11_init_944 : decode cX11_init 944 = .ok (.ldc 163, 2) := by decide +kernel
theorem dX11_init_946 : decode cX11_init 946 = .ok (.iastore, 1) := by decide +kernel
theorem dX11_init_947 : decode cX11_init 947 = .ok (.dup, 1) := by decide +kernel
theorem dX11_init_948 : decode cX11_init 948 = .ok (.bipush 39, 2) := by decide +kernel
theorem dX11_init_950 : decode cX11_init 950 = .ok (.ldc 164, 2) := by decide +kernel
theorem dX11_init_952 : decode cX11_init 952 = .ok (.iastore, 1) := by decide +kernel
theorem dX11_init_953 : decode cX11_init 953 = .ok (.dup, 1) := by decide +kernel
theorem dX11_init_954 : decode cX11_init 954 = .ok (.bipush 40, 2) := by decide +kernel
theorem dX11_init_956 : decode cX11_init 956 = .ok (.ldc 165, 2) := by decide +kernel
theorem dX11_init_958 : decode cX11_init 958 = .ok (.iastore, 1) := by decide +kernel
theorem dX11_init_959 : decode cX11_init 959 = .ok (.dup, 1) := by decide +kernel
theorem dX11_init_960 : decode cX11_init 960 = .ok (.bipush 41, 2) := by decide +kernel
theorem dX11_init_962 : decode cX11_init 962 = .ok (.ldc 166, 2) := by decide +kernel
theorem dX11_init_964 : decode cX11_init 964 = .ok (.iastore, 1) := by decide +kernel
theorem dX11_init_965 : decode cX11_init 965 = .ok (.dup, 1) := by decide +kernel
theorem dX11_init_966 : decode cX11_init 966 = .ok (.bipush 42, 2) := by decide +kernel
theorem dX11_init_968 : decode cX11_init 968 = .ok (.ldc 167, 2) := by decide +kernel
theorem dX11_init_970 : decode cX11_init 970 = .ok (.iastore, 1) := by decide +kernel
theorem dX11_init_971 : decode cX11_init 971 = .ok (.dup, 1) := by decide +kernel
theorem dX11_init_972 : decode cX11_init 972 = .ok (.bipush 43, 2) := by decide +kernel
theorem dX11_init_974 : decode cX11_init 974 = .ok (.ldc 168, 2) := by decide +kernel
theorem dX11_init_976 : decode cX11_init 976 = .ok (.iastore, 1) := by decide +kernel
theorem dX11_init_977 : decode cX11_init 977 = .ok (.dup, 1) := by decide +kernel
theorem dX11_init_978 : decode cX11_init 978 = .ok (.bipush 44, 2) := by decide +kernel
theorem dX11_init_980 : decode cX11_init 980 = .ok (.ldc 169, 2) := by decide +kernel
theorem dX11_init_982 : decode cX11_init 982 = .ok (.iastore, 1) := by decide +kernel
theorem dX11_init_983 : decode cX11_init 983 = .ok (.dup, 1) := by decide +kernel
theorem dX11_init_984 : decode cX11_init 984 = .ok (.bipush 45, 2) := by decide +kernel
theorem dX11_init_986 : decode cX11_init 986 = .ok (.ldc 170, 2) := by decide +kernel
theorem dX11_init_988 : decode cX11_init 988 = .ok (.iastore, 1) := by decide +kernel
theorem dX11_init_989 : decode cX11_init 989 = .ok (.dup, 1) := by decide +kernel
theorem dX11_init_990 : decode cX11_init 990 = .ok (.bipush 46, 2) := by decide +kernel
theorem dX11_init_992 : decode cX11_init 992 = .ok (.ldc 171, 2) := by decide +kernel
theorem dX11_init_994 : decode cX11_init 994 = .ok (.iastore, 1) := by decide +kernel
theorem dX11_init_995 : decode cX11_init 995 = .ok (.dup, 1) := by decide +kernel
theorem dX11_init_996 : decode cX11_init 996 = .ok (.bipush 47, 2) := by decide +kernel
theorem dX11_init_998 : decode cX11_init 998 = .ok (.ldc 172, 2) := by decide +kernel
theorem dX11_init_1000 : decode cX11_init 1000 = .ok (.iastore, 1) := by decide +kernel
theorem dX11_init_1001 : decode cX11_init 1001 = .ok (.dup, 1) := by decide +kernel
theorem dX11_init_1002 : decode cX11_init 1002 = .ok (.bipush 48, 2) := by decide +kernel
theorem dX11_init_1004 : decode cX11_init 1004 = .ok (.ldc 173, 2) := by decide +kernel
theorem dX11_init_1006 : decode cX11_init 1006 = .ok (.iastore, 1) := by decide +kernel
theorem dX11_init_1007 : decode cX11_init 1007 = .ok (.dup, 1) := by decide +kernel
theorem dX11_init_1008 : decode cX11_init 1008 = .ok (.bipush 49, 2) := by decide +kernel
theorem dX11_init_1010 : decode cX11_init 1010 = .ok (.ldc 174, 2) := by decide +kernel
theorem dX11_init_1012 : decode cX11_init 1012 = .ok (.iastore, 1) := by decide +kernel
theorem dX11_init_1013 : decode cX11_init 1013 = .ok (.dup, 1) := by decide +kernel
theorem dX11_init_1014 : decode cX11_init 1014 = .ok (.bipush 50, 2) := by decide +kernel
theorem dX11_init_1016 : decode cX11_init 1016 = .ok (.ldc 175, 2) := by decide +kernel
theorem dX11_init_1018 : decode cX11_init 1018 = .ok (.iastore, 1) := by decide +kernel
theorem dX11_init_1019 : decode cX11_init 1019 = .ok (.dup, 1) := by decide +kernel
theorem dX11_init_1020 : decode cX11_init 1020 = .ok (.bipush 51, 2) := by decide +kernel
theorem dX11_init_1022 : decode cX11_init 1022 = .ok (.ldc 176, 2) := by decide +kernel
theorem dX11_init_1024 : decode cX11_init 1024 = .ok (.iastore, 1) := by decide +kernel
theorem dX11_init_1025 : decode cX11_init 1025 = .ok (.dup, 1) := by decide +kernel
theorem dX11_init_1026 : decode cX11_init 1026 = .ok (.bipush 52, 2) := by decide +kernel
theorem dX11_init_1028 : decode cX11_init 1028 = .ok (.ldc 177, 2) := by decide +kernel
theorem dX11_init_1030 : decode cX11_init 1030 = .ok (.iastore, 1) := by decide +kernel
theorem dX11_init_1031 : decode cX11_init 1031 = .ok (.dup, 1) := by decide +kernel
theorem dX11_init_1032 : decode cX11_init 1032 = .ok (.bipush 53, 2) := by decide +kernel
theorem dX11_init_1034 : decode cX11_init 1034 = .ok (.ldc 178, 2) := by decide +kernel
theorem dX11_init_1036 : decode cX11_init 1036 = .ok (.iastore, 1) := by decide +kernel
theorem dX11_init_1037 : decode cX11_init 1037 = .ok (.dup, 1) := by decide +kernel
theorem dX11_init_1038 : decode cX11_init 1038 = .ok (.bipush 54, 2) := by decide +kernel
theorem dX11_init_1040 : decode cX11_init 1040 = .ok (.ldc 179, 2) := by decide +kernel
theorem dX11_init_1042 : decode cX11_init 1042 = .ok (.iastore, 1) := by decide +kernel
theorem dX11_init_1043 : decode cX11_init 1043 = .ok (.dup, 1) := by decide +kernel
theorem dX11_init_1044 : decode cX11_init 1044 = .ok (.bipush 55, 2) := by decide +kernel
theorem dX11_init_1046 : decode cX11_init 1046 = .ok (.ldc 180, 2) := by decide +kernel
theorem dX11_init_1048 : decode cX11_init 1048 = .ok (.iastore, 1) := by decide +kernel
theorem dX11_init_1049 : decode cX11_init 1049 = .ok (.dup, 1) := by decide +kernel
theorem dX11_init_1050 : decode cX11_init 1050 = .ok (.bipush 56, 2) := by decide +kernel
theorem dX11_init_1052 : decode cX11_init 1052 = .ok (.ldc 181, 2) := by decide +kernel
theorem dX11_init_1054 : decode cX11_init 1054 = .ok (.iastore, 1) := by decide +kernel
theorem dX11_init_1055 : decode cX11_init 1055 = .ok (.dup, 1) := by decide +kernel
theorem dX11_init_1056 : decode cX11_init 1056 = .ok (.bipush 57, 2) := by decide +kernel
theorem dX11_init_1058 : decode cX11_init 1058 = .ok (.ldc 182, 2) := by decide +kernel
theorem dX11_init_1060 : decode cX11_init 1060 = .ok (.iastore, 1) := by decide +kernel
theorem dX11_init_1061 : decode cX11_init 1061 = .ok (.dup, 1) := by decide +kernel
theorem dX11_init_1062 : decode cX11_init 1062 = .ok (.bipush 58, 2) := by decide +kernel
theorem dX11_init_1064 : decode cX11_init 1064 = .ok (.ldc 183, 2) := by decide +kernel
theorem dX11_init_1066 : decode cX11_init 1066 = .ok (.iastore, 1) := by decide +kernel
theorem dX11_init_1067 : decode cX11_init 1067 = .ok (.dup, 1) := by decide +kernel
theorem dX11_init_1068 : decode cX11_init 1068 = .ok (.bipush 59, 2) := by decide +kernel
theorem dX11_init_1070 : decode cX11_init 1070 = .ok (.ldc 184, 2) := by decide +kernel
theorem dX11_init_1072 : decode cX11_init 1072 = .ok (.iastore, 1) := by decide +kernel
theorem dX11_init_1073 : decode cX11_init 1073 = .ok (.dup, 1) := by decide +kernel
theorem dX11_init_1074 : decode cX11_init 1074 = .ok (.bipush 60, 2) := by decide +kernel
theorem dX11_init_1076 : decode cX11_init 1076 = .ok (.ldc 185, 2) := by decide +kernel
theorem dX11_init_1078 : decode cX11_init 1078 = .ok (.iastore, 1) := by decide +kernel
theorem dX11_init_1079 : decode cX11_init 1079 = .ok (.dup, 1) := by decide +kernel
theorem dX11_init_1080 : decode cX11_init 1080 = .ok (.bipush 61, 2) := by decide +kernel
theorem dX11_init_1082 : decode cX11_init 1082 = .ok (.ldc 186, 2) := by decide +kernel
theorem dX11_init_1084 : decode cX11_init 1084 = .ok (.iastore, 1) := by decide +kernel
theorem dX11_init_1085 : decode cX11_init 1085 = .ok (.dup, 1) := by decide +kernel
theorem dX11_init_1086 : decode cX11_init 1086 = .ok (.bipush 62, 2) := by decide +kernel
theorem dX11_init_1088 : decode cX11_init 1088 = .ok (.ldc 187, 2) := by decide +kernel
theorem dX11_init_1090 : decode cX11_init 1090 = .ok (.iastore, 1) := by decide +kernel
theorem dX11_init_1091 : decode cX11_init 1091 = .ok (.dup, 1) := by decide +kernel
theorem dX11_init_1092 : decode cX11_init 1092 = .ok (.bipush 63, 2) := by decide +kernel
theorem dX11_init_1094 : decode cX11_init 1094 = .ok (.ldc 188, 2) := by decide +kernel
theorem dX11_init_1096 : decode cX11_init 1096 = .ok (.iastore, 1) := by decide +kernel
theorem dX11_init_1097 : decode cX11_init 1097 = .ok (.putfield 189, 3) := by decide +kernel
theorem dX11_init_1100 : decode cX11_init 1100 = .ok (.aload_n 0, 1) := by decide +kernel
theorem dX11_init_1101 : decode cX11_init 1101 = .ok (.sipush 256, 3) := by decide +kernel
theorem dX11_init_1104 : decode cX11_init 1104 = .ok (.newarray .int, 2) := by decide +kernel
theorem dX11_init_1106 : decode cX11_init 1106 = .ok (.putfield 192, 3) := by decide +kernel
theorem dX11_init_1109 : decode cX11_init 1109 = .ok (.aload_n 0, 1) := by decide +kernel
theorem dX11_init_1110 : decode cX11_init 1110 = .ok (.sipush 256, 3) := by decide +kernel
theorem dX11_init_1113 : decode cX11_init 1113 = .ok (.newarray .int, 2) := by decide +kernel
theorem dX11_init_1115 : decode cX11_init 1115 = .ok (.putfield 195, 3) := by decide +kernel
theorem dX11_init_1118 : decode cX11_init 1118 = .ok (.aload_n 0, 1) := by decide +kernel
theorem dX11_init_1119 : decode cX11_init 1119 = .ok (.sipush 240, 3) := by decide +kernel
theorem dX11_init_1122 : decode cX11_init 1122 = .ok (.newarray .int, 2) := by decide +kernel
theorem dX11_init_1124 : decode cX11_init 1124 = .ok (.putfield 198, 3) := by decide +kernel
theorem dX11_init_1127 : decode cX11_init 1127 = .ok (.aload_n 0, 1) := by decide +kernel
theorem dX11_init_1128 : decode cX11_init 1128 = .ok (.bipush 16, 2) := by decide +kernel
theorem dX11_init_1130 : decode cX11_init 1130 = .ok (.newarray .int, 2) := by decide +kernel
theorem dX11_init_1132 : decode cX11_init 1132 = .ok (.putfield 201, 3) := by decide +kernel
theorem dX11_init_1135 : decode cX11_init 1135 = .ok (.aload_n 0, 1) := by decide +kernel
theorem dX11_init_1136 : decode cX11_init 1136 = .ok (.bipush 16, 2) := by decide +kernel
theorem dX11_init_1138 : decode cX11_init 1138 = .ok (.newarray .int, 2) := by decide +kernel
theorem dX11_init_1140 : decode cX11_init 1140 = .ok (.putfield 204, 3) := by decide +kernel
theorem dX11_init_1143 : decode cX11_init 1143 = .ok (.aload_n 0, 1) := by decide +kernel
theorem dX11_init_1144 : decode cX11_init 1144 = .ok (.sipush 256, 3) := by decide +kernel
theorem dX11_init_1147 : decode cX11_init 1147 = .ok (.newarray .int, 2) := by decide +kernel
theorem dX11_init_1149 : decode cX11_init 1149 = .ok (.putfield 207, 3) := by decide +kernel
theorem dX11_init_1152 : decode cX11_init 1152 = .ok (.aload_n 0, 1) := by decide +kernel
theorem dX11_init_1153 : decode cX11_init 1153 = .ok (.sipush 448, 3) := by decide +kernel
theorem dX11_init_1156 : decode cX11_init 1156 = .ok (.newarray .int, 2) := by decide +kernel
theorem dX11_init_1158 : decode cX11_init 1158 = .ok (.putfield 210, 3) := by decide +kernel
theorem dX11_init_1161 : decode cX11_init 1161 = .ok (.aload_n 0, 1) := by decide +kernel
theorem dX11_init_1162 : decode cX11_init 1162 = .ok (.bipush 32, 2) := by decide +kernel
theorem dX11_init_1164 : decode cX11_init 1164 = .ok (.newarray .int, 2) := by decide +kernel
theorem dX11_init_1166 : decode cX11_init 1166 = .ok (.putfield 213, 3) := by decide +kernel
theorem dX11_init_1169 : decode cX11_init 1169 = .ok (.aload_n 0, 1) := by decide +kernel
theorem dX11_init_1170 : decode cX11_init 1170 = .ok (.bipush 32, 2) := by decide +kernel
theorem dX11_init_1172 : decode cX11_init 1172 = .ok (.newarray .int, 2) := by decide +kernel
theorem dX11_init_1174 : decode cX11_init 1174 = .ok (.putfield 216, 3) := by decide +kernel
theorem dX11_init_1177 : decode cX11_init 1177 = .ok (.aload_n 0, 1) := by decide +kernel
theorem dX11_init_1178 : decode cX11_init 1178 = .ok (.iload_n 1, 1) := by decide +kernel
theorem dX11_init_1179 : decode cX11_init 1179 = .ok (.iconst 2, 1) := by decide +kernel
theorem dX11_init_1180 : decode cX11_init 1180 = .ok (.if_icmp .ge 7, 3) := by decide +kernel
theorem dX11_init_1183 : decode cX11_init 1183 = .ok (.iconst 2, 1) := by decide +kernel
theorem dX11_init_1184 : decode cX11_init 1184 = .ok (.goto 13, 3) := by decide +kernel
theorem dX11_init_1187 : decode cX11_init 1187 = .ok (.iload_n 1, 1) := by decide +kernel
theorem dX11_init_1188 : decode cX11_init 1188 = .ok (.iconst 5, 1) := by decide +kernel
theorem dX11_init_1189 : decode cX11_init 1189 = .ok (.if_icmp .le 7, 3) := by decide +kernel
theorem dX11_init_1192 : decode cX11_init 1192 = .ok (.iconst 5, 1) := by decide +kernel
theorem dX11_init_1193 : decode cX11_init 1193 = .ok (.goto 4, 3) := by decide +kernel
theorem dX11_init_1196 : decode cX11_init 1196 = .ok (.iload_n 1, 1) := by decide +kernel
theorem dX11_init_1197 : decode cX11_init 1197 = .ok (.putfield 219, 3) := by decide +kernel
theorem dX11_init_1200 : decode cX11_init 1200 = .ok (.aload_n 0, 1) := by decide +kernel
theorem dX11_init_1201 : decode cX11_init 1201 = .ok (.aload_n 0, 1) := by decide +kernel
theorem dX11_init_1202 : decode cX11_init 1202 = .ok (.getfield 219, 3) := by decide +kernel
theorem dX11_init_1205 : decode cX11_init 1205 = .ok (.iconst 4, 1) := by decide +kernel
theorem dX11_init_1206 : decode cX11_init 1206 = .ok (.if_icmp .ge 7, 3) := by decide +kernel
theorem dX11_init_1209 : decode cX11_init 1209 = .ok (.iconst 1, 1) := by decide +kernel
theorem dX11_init_1210 : decode cX11_init 1210 = .ok (.goto 4, 3) := by decide +kernel
theorem dX11_init_1213 : decode cX11_init 1213 = .ok (.iconst 2, 1) := by decide +kernel
theorem dX11_init_1214 : decode cX11_init 1214 = .ok (.putfield 223, 3) := by decide +kernel
theorem dX11_init_1217 : decode cX11_init 1217 = .ok (.iconst 0, 1) := by decide +kernel
theorem dX11_init_1218 : decode cX11_init 1218 = .ok (.istore_n 2, 1) := by decide +kernel
theorem dX11_init_1219 : decode cX11_init 1219 = .ok (.iload_n 2, 1) := by decide +kernel
theorem dX11_init_1220 : decode cX11_init 1220 = .ok (.sipush 256, 3) := by decide +kernel
theorem dX11_init_1223 : decode cX11_init 1223 = .ok (.if_icmp .ge 101, 3) := by decide +kernel
theorem dX11_init_1226 : decode cX11_init 1226 = .ok (.iconst 0, 1) := by decide +kernel
theorem dX11_init_1227 : decode cX11_init 1227 = .ok (.istore_n 3, 1) := by decide +kernel
theorem dX11_init_1228 : decode cX11_init 1228 = .ok (.iconst 1, 1) := by decide +kernel
theorem dX11_init_1229 : decode cX11_init 1229 = .ok (.istore 4, 2) := by decide +kernel
theorem dX11_init_1231 : decode cX11_init 1231 = .ok (.iload 4, 2) := by decide +kernel
theorem dX11_init_1233 : decode cX11_init 1233 = .ok (.sipush 256, 3) := by decide +kernel
theorem dX11_init_1236 : decode cX11_init 1236 = .ok (.if_icmp .ge 26, 3) := by decide +kernel
theorem dX11_init_1239 : decode cX11_init 1239 = .ok (.iload_n 2, 1) := by decide +kernel
theorem dX11_init_1240 : decode cX11_init 1240 = .ok (.iload 4, 2) := by decide +kernel
theorem dX11_init_1242 : decode cX11_init 1242 = .ok (.invokestatic 226, 3) := by decide +kernel
theorem dX11_init_1245 : decode cX11_init 1245 = .ok (.iconst 1, 1) := by decide +kernel
theorem dX11_init_1246 : decode cX11_init 1246 = .ok (.if_icmp .ne 8, 3) := by decide +kernel
theorem dX11_init_1249 : decode cX11_init 1249 = .ok (.iload 4, 2) := by decide +kernel
theorem dX11_init_1251 : decode cX11_init 1251 = .ok (.goto 4, 3) := by decide +kernel
theorem dX11_init_1254 : decode cX11_init 1254 = .ok (.iload_n 3, 1) := by decide +kernel
theorem dX11_init_1255 : decode cX11_init 1255 = .ok (.istore_n 3, 1) := by decide +kernel
theorem dX11_init_1256 : decode cX11_init 1256 = .ok (.iinc 4 1, 3) := by decide +kernel
theorem dX11_init_1259 : decode cX11_init 1259 = .ok (.goto (-28), 3) := by decide +kernel
theorem dX11_init_1262 : decode cX11_init 1262 = .ok (.bipush 99, 2) := by decide +kernel
theorem dX11_init_1264 : decode cX11_init 1264 = .ok (.istore 4, 2) := by decide +kernel
theorem dX11_init_1266 : decode cX11_init 1266 = .ok (.iconst 0, 1) := by decide +kernel
theorem dX11_init_1267 : decode cX11_init 1267 = .ok (.istore 5, 2) := by decide +kernel
theorem dX11_init_1269 : decode cX11_init 1269 = .ok (.iload 5, 2) := by decide +kernel
theorem dX11_init_1271 : decode cX11_init 1271 = .ok (.iconst 5, 1) := by decide +kernel
theorem dX11_init_1272 : decode cX11_init 1272 = .ok (.if_icmp .ge 30, 3) := by decide +kernel
theorem dX11_init_1275 : decode cX11_init 1275 = .ok (.iload 4, 2) := by decide +kernel
theorem dX11_init_1277 : decode cX11_init 1277 = .ok (.iload_n 3, 1) := by decide +kernel
theorem dX11_init_1278 : decode cX11_init 1278 = .ok (.iload 5, 2) := by decide +kernel
theorem dX11_init_1280 : decode cX11_init 1280 = .ok (.ishl, 1) := by decide +kernel
theorem dX11_init_1281 : decode cX11_init 1281 = .ok (.iload_n 3, 1) := by decide +kernel
theorem dX11_init_1282 : decode cX11_init 1282 = .ok (.bipush 8, 2) := by decide +kernel
theorem dX11_init_1284 : decode cX11_init 1284 = .ok (.iload 5, 2) := by decide +kernel
theorem dX11_init_1286 : decode cX11_init 1286 = .ok (.isub, 1) := by decide +kernel
theorem dX11_init_1287 : decode cX11_init 1287 = .ok (.ishr, 1) := by decide +kernel
theorem dX11_init_1288 : decode cX11_init 1288 = .ok (.ior, 1) := by decide +kernel
theorem dX11_init_1289 : decode cX11_init 1289 = .ok (.sipush 255, 3) := by decide +kernel
theorem dX11_init_1292 : decode cX11_init 1292 = .ok (.iand, 1) := by decide +kernel
theorem dX11_init_1293 : decode cX11_init 1293 = .ok (.ixor, 1) := by decide +kernel
theorem dX11_init_1294 : decode cX11_init 1294 = .ok (.istore 4, 2) := by decide +kernel
theorem dX11_init_1296 : decode cX11_init 1296 = .ok (.iinc 5 1, 3) := by decide +kernel
theorem dX11_init_1299 : decode cX11_init 1299 = .ok (.goto (-30), 3) := by decide +kernel
theorem dX11_init_1302 : decode cX11_init 1302 = .ok (.aload_n 0, 1) := by decide +kernel
theorem dX11_init_1303 : decode cX11_init 1303 = .ok (.getfield 192, 3) := by decide +kernel
theorem dX11_init_1306 : decode cX11_init 1306 = .ok (.iload_n 2, 1) := by decide +kernel
theorem dX11_init_1307 : decode cX11_init 1307 = .ok (.iload 4, 2) := by decide +kernel
theorem dX11_init_1309 : decode cX11_init 1309 = .ok (.iastore, 1) := by decide +kernel
theorem dX11_init_1310 : decode cX11_init 1310 = .ok (.aload_n 0, 1) := by decide +kernel
theorem dX11_init_1311 : decode cX11_init 1311 = .ok (.getfield 195, 3) := by decide +kernel
theorem dX11_init_1314 : decode cX11_init 1314 = .ok (.iload 4, 2) := by decide +kernel
theorem dX11_init_1316 : decode cX11_init 1316 = .ok (.iload_n 2, 1) := by decide +kernel
theorem dX11_init_1317 : decode cX11_init 1317 = .ok (.iastore, 1) := by decide +kernel
theorem dX11_init_1318 : decode cX11_init 1318 = .ok (.iinc 2 1, 3) := by decide +kernel
theorem dX11_init_1321 : decode cX11_init 1321 = .ok (.goto (-102), 3) := by decide +kernel
theorem dX11_init_1324 : decode cX11_init 1324 = .ok (.return_, 1) := by decide +kernel
theorem dX11_thrown_0 : decode cX11_thrown 0 = .ok (.aload_n 0, 1) := by decide +kernel
theorem dX11_thrown_1 : decode cX11_thrown 1 = .ok (.getfield 230, 3) := by decide +kernel
theorem dX11_thrown_4 : decode cX11_thrown 4 = .ok (.ireturn, 1) := by decide +kernel
theorem dX11_say_0 : decode cX11_say 0 = .ok (.aload_n 0, 1) := by decide +kernel
theorem dX11_say_1 : decode cX11_say 1 = .ok (.getfield 40, 3) := by decide +kernel
theorem dX11_say_4 : decode cX11_say 4 = .ok (.aload_n 0, 1) := by decide +kernel
theorem dX11_say_5 : decode cX11_say 5 = .ok (.getfield 233, 3) := by decide +kernel
theorem dX11_say_8 : decode cX11_say 8 = .ok (.iload_n 1, 1) := by decide +kernel
theorem dX11_say_9 : decode cX11_say 9 = .ok (.sipush 255, 3) := by decide +kernel
theorem dX11_say_12 : decode cX11_say 12 = .ok (.iand, 1) := by decide +kernel
theorem dX11_say_13 : decode cX11_say 13 = .ok (.iastore, 1) := by decide +kernel
theorem dX11_say_14 : decode cX11_say 14 = .ok (.aload_n 0, 1) := by decide +kernel
theorem dX11_say_15 : decode cX11_say 15 = .ok (.dup, 1) := by decide +kernel
theorem dX11_say_16 : decode cX11_say 16 = .ok (.getfield 233, 3) := by decide +kernel
theorem dX11_say_19 : decode cX11_say 19 = .ok (.iconst 1, 1) := by decide +kernel
theorem dX11_say_20 : decode cX11_say 20 = .ok (.iadd, 1) := by decide +kernel
theorem dX11_say_21 : decode cX11_say 21 = .ok (.putfield 233, 3) := by decide +kernel
theorem dX11_say_24 : decode cX11_say 24 = .ok (.return_, 1) := by decide +kernel
set_option maxRecDepth 20000 in
theorem ggX11_sayRow_X11_say : GoodIn wsX11_sayRow wsX11_say := goodIn_ca (goodIn_r _ [5, 6, 7, 8, 9, 10, 11, 12, 13, 14, 15, 16, 17, 18, 19, 20, 21, 22, 23, 24, 25, 26, 27, 28, 29, 30, 31, 32, 33, 34, 35, 36, 37, 38, 39, 40, 41, 42, 43, 44, 45, 46, 47, 48, 49, 50, 51, 52] (by decide +kernel) (by decide +kernel)) (goodIn_sub (fun _ h => List.mem_cons_of_mem _ (List.mem_append_right _ h)) (by decide +kernel))
set_option maxRecDepth 20000 in
theorem gX11_sayRow_X11_say : GoodIn wsX11_sayRow (wsV RX11 236 RX11 yX11_say wsX11_say) := goodIn_app (goodIn_of _ (by decide +kernel)) ggX11_sayRow_X11_say
theorem dX11_sayRow_0 : decode cX11_sayRow 0 = .ok (.iconst 0, 1) := by decide +kernel
theorem dX11_sayRow_1 : decode cX11_sayRow 1 = .ok (.istore 4, 2) := by decide +kernel
theorem dX11_sayRow_3 : decode cX11_sayRow 3 = .ok (.iload 4, 2) := by decide +kernel
theorem dX11_sayRow_5 : decode cX11_sayRow 5 = .ok (.iload_n 3, 1) := by decide +kernel
theorem dX11_sayRow_6 : decode cX11_sayRow 6 = .ok (.if_icmp .ge 19, 3) := by decide +kernel
theorem dX11_sayRow_9 : decode cX11_sayRow 9 = .ok (.aload_n 0, 1) := by decide +kernel
theorem dX11_sayRow_10 : decode cX11_sayRow 10 = .ok (.aload_n 1, 1) := by decide +kernel
theorem dX11_sayRow_11 : decode cX11_sayRow 11 = .ok (.iload_n 2, 1) := by decide +kernel
theorem dX11_sayRow_12 : decode cX11_sayRow 12 = .ok (.iload 4, 2) := by decide +kernel
theorem dX11_sayRow_14 : decode cX11_sayRow 14 = .ok (.iadd, 1) := by decide +kernel
theorem dX11_sayRow_15 : decode cX11_sayRow 15 = .ok (.iaload, 1) := by decide +kernel
theorem dX11_sayRow_16 : decode cX11_sayRow 16 = .ok (.invokevirtual 236, 3) := by decide +kernel
theorem dX11_sayRow_19 : decode cX11_sayRow 19 = .ok (.iinc 4 1, 3) := by decide +kernel
theorem dX11_sayRow_22 : decode cX11_sayRow 22 = .ok (.goto (-19), 3) := by decide +kernel
theorem dX11_sayRow_25 : decode cX11_sayRow 25 = .ok (.return_, 1) := by decide +kernel
set_option maxRecDepth 20000 in
theorem ggX11_sayLow_X11_say : GoodIn wsX11_sayLow wsX11_say := goodIn_ca (goodIn_r _ [5, 6, 7, 8, 9, 10, 11, 12, 13, 14, 15, 16, 17, 18, 19, 20, 21, 22, 23, 24, 25, 26, 27, 28, 29, 30, 31, 32, 33, 34, 35, 36, 37, 38, 39, 40, 41, 42, 43, 44, 45, 46, 47, 48, 49, 50, 51, 52] (by decide +kernel) (by decide +kernel)) (goodIn_sub (fun _ h => List.mem_cons_of_mem _ (List.mem_append_right _ h)) (by decide +kernel))
set_option maxRecDepth 20000 in
theorem gX11_sayLow_X11_say : GoodIn wsX11_sayLow (wsV RX11 236 RX11 yX11_say wsX11_say) := goodIn_app (goodIn_of _ (by decide +kernel)) ggX11_sayLow_X11_say
theorem dX11_sayLow_0 : decode cX11_sayLow 0 = .ok (.iconst 0, 1) := by decide +kernel
theorem dX11_sayLow_1 : decode cX11_sayLow 1 = .ok (.istore_n 3, 1) := by decide +kernel
theorem dX11_sayLow_2 : decode cX11_sayLow 2 = .ok (.iload_n 3, 1) := by decide +kernel
theorem dX11_sayLow_3 : decode cX11_sayLow 3 = .ok (.iload_n 2, 1) := by decide +kernel
theorem dX11_sayLow_4 : decode cX11_sayLow 4 = .ok (.if_icmp .ge 19, 3) := by decide +kernel
theorem dX11_sayLow_7 : decode cX11_sayLow 7 = .ok (.aload_n 0, 1) := by decide +kernel
theorem dX11_sayLow_8 : decode cX11_sayLow 8 = .ok (.iload_n 1, 1) := by decide +kernel
theorem dX11_sayLow_9 : decode cX11_sayLow 9 = .ok (.bipush 8, 2) := by decide +kernel
theorem dX11_sayLow_11 : decode cX11_sayLow 11 = .ok (.iload_n 3, 1) := by decide +kernel
theorem dX11_sayLow_12 : decode cX11_sayLow 12 = .ok (.imul, 1) := by decide +kernel
theorem dX11_sayLow_13 : decode cX11_sayLow 13 = .ok (.ishr, 1) := by decide +kernel
theorem dX11_sayLow_14 : decode cX11_sayLow 14 = .ok (.invokevirtual 236, 3) := by decide +kernel
theorem dX11_sayLow_17 : decode cX11_sayLow 17 = .ok (.iinc 3 1, 3) := by decide +kernel
theorem dX11_sayLow_20 : decode cX11_sayLow 20 = .ok (.goto (-18), 3) := by decide +kernel
theorem dX11_sayLow_23 : decode cX11_sayLow 23 = .ok (.return_, 1) := by decide +kernel
theorem dX11_left_0 : decode cX11_left 0 = .ok (.iload_n 0, 1) := by decide +kernel
theorem dX11_left_1 : decode cX11_left 1 = .ok (.iload_n 1, 1) := by decide +kernel
theorem dX11_left_2 : decode cX11_left 2 = .ok (.ishl, 1) := by decide +kernel
theorem dX11_left_3 : decode cX11_left 3 = .ok (.iload_n 0, 1) := by decide +kernel
theorem dX11_left_4 : decode cX11_left 4 = .ok (.bipush 32, 2) := by decide +kernel
theorem dX11_left_6 : decode cX11_left 6 = .ok (.iload_n 1, 1) := by decide +kernel
theorem dX11_left_7 : decode cX11_left 7 = .ok (.isub, 1) := by decide +kernel
theorem dX11_left_8 : decode cX11_left 8 = .ok (.iushr, 1) := by decide +kernel
theorem dX11_left_9 : decode cX11_left 9 = .ok (.ior, 1) := by decide +kernel
theorem dX11_left_10 : decode cX11_left 10 = .ok (.ireturn, 1) := by decide +kernel
set_option maxRecDepth 20000 in
theorem ggX11_close_X11_say : GoodIn wsX11_close wsX11_say := goodIn_ca (goodIn_r _ [6, 7, 1, 8, 9, 10, 11, 12, 13, 14, 15, 16, 17, 18, 19, 20, 21, 22, 23, 24, 25, 26, 27, 28, 29, 30, 31, 32, 33, 34, 35, 36, 37, 38, 39, 40, 41, 42, 43, 44, 45, 46, 47, 48, 49, 50, 51, 52] (by decide +kernel) (by decide +kernel)) (goodIn_sub (fun _ h => List.mem_cons_of_mem _ (List.mem_append_right _ h)) (by decide +kernel))
set_option maxRecDepth 20000 in
theorem gX11_close_X11_say : GoodIn wsX11_close (wsV RX11 236 RX11 yX11_say wsX11_say) := goodIn_app (goodIn_of _ (by decide +kernel)) ggX11_close_X11_say
theorem dX11_close_0 : decode cX11_close 0 = .ok (.bipush 8, 2) := by decide +kernel
theorem dX11_close_2 : decode cX11_close 2 = .ok (.aload_n 0, 1) := by decide +kernel
theorem dX11_close_3 : decode cX11_close 3 = .ok (.getfield 233, 3) := by decide +kernel
theorem dX11_close_6 : decode cX11_close 6 = .ok (.imul, 1) := by decide +kernel
theorem dX11_close_7 : decode cX11_close 7 = .ok (.istore_n 2, 1) := by decide +kernel
theorem dX11_close_8 : decode cX11_close 8 = .ok (.aload_n 0, 1) := by decide +kernel
theorem dX11_close_9 : decode cX11_close 9 = .ok (.sipush 128, 3) := by decide +kernel
theorem dX11_close_12 : decode cX11_close 12 = .ok (.invokevirtual 236, 3) := by decide +kernel
theorem dX11_close_15 : decode cX11_close 15 = .ok (.aload_n 0, 1) := by decide +kernel
theorem dX11_close_16 : decode cX11_close 16 = .ok (.getfield 233, 3) := by decide +kernel
theorem dX11_close_19 : decode cX11_close 19 = .ok (.bipush 64, 2) := by decide +kernel
theorem dX11_close_21 : decode cX11_close 21 = .ok (.irem, 1) := by decide +kernel
theorem dX11_close_22 : decode cX11_close 22 = .ok (.bipush 56, 2) := by decide +kernel
theorem dX11_close_24 : decode cX11_close 24 = .ok (.if_icmp .eq 11, 3) := by decide +kernel
theorem dX11_close_27 : decode cX11_close 27 = .ok (.aload_n 0, 1) := by decide +kernel
theorem dX11_close_28 : decode cX11_close 28 = .ok (.iconst 0, 1) := by decide +kernel
theorem dX11_close_29 : decode cX11_close 29 = .ok (.invokevirtual 236, 3) := by decide +kernel
theorem dX11_close_32 : decode cX11_close 32 = .ok (.goto (-17), 3) := by decide +kernel
theorem dX11_close_35 : decode cX11_close 35 = .ok (.iconst 0, 1) := by decide +kernel
theorem dX11_close_36 : decode cX11_close 36 = .ok (.istore_n 3, 1) := by decide +kernel
theorem dX11_close_37 : decode cX11_close 37 = .ok (.iload_n 3, 1) := by decide +kernel
theorem dX11_close_38 : decode cX11_close 38 = .ok (.bipush 8, 2) := by decide +kernel
theorem dX11_close_40 : decode cX11_close 40 = .ok (.if_icmp .ge 44, 3) := by decide +kernel
theorem dX11_close_43 : decode cX11_close 43 = .ok (.iload_n 1, 1) := by decide +kernel
theorem dX11_close_44 : decode cX11_close 44 = .ok (.ifCond .eq 7, 3) := by decide +kernel
theorem dX11_close_47 : decode cX11_close 47 = .ok (.iload_n 3, 1) := by decide +kernel
theorem dX11_close_48 : decode cX11_close 48 = .ok (.goto 7, 3) := by decide +kernel
theorem dX11_close_51 : decode cX11_close 51 = .ok (.bipush 7, 2) := by decide +kernel
theorem dX11_close_53 : decode cX11_close 53 = .ok (.iload_n 3, 1) := by decide +kernel
theorem dX11_close_54 : decode cX11_close 54 = .ok (.isub, 1) := by decide +kernel
theorem dX11_close_55 : decode cX11_close 55 = .ok (.istore 4, 2) := by decide +kernel
theorem dX11_close_57 : decode cX11_close 57 = .ok (.aload_n 0, 1) := by decide +kernel
theorem dX11_close_58 : decode cX11_close 58 = .ok (.iload 4, 2) := by decide +kernel
theorem dX11_close_60 : decode cX11_close 60 = .ok (.iconst 4, 1) := by decide +kernel
theorem dX11_close_61 : decode cX11_close 61 = .ok (.if_icmp .ge 13, 3) := by decide +kernel
theorem dX11_close_64 : decode cX11_close 64 = .ok (.iload_n 2, 1) := by decide +kernel
theorem dX11_close_65 : decode cX11_close 65 = .ok (.bipush 8, 2) := by decide +kernel
theorem dX11_close_67 : decode cX11_close 67 = .ok (.iload 4, 2) := by decide +kernel
theorem dX11_close_69 : decode cX11_close 69 = .ok (.imul, 1) := by decide +kernel
theorem dX11_close_70 : decode cX11_close 70 = .ok (.ishr, 1) := by decide +kernel
theorem dX11_close_71 : decode cX11_close 71 = .ok (.goto 4, 3) := by decide +kernel
theorem dX11_close_74 : decode cX11_close 74 = .ok (.iconst 0, 1) := by decide +kernel
theorem dX11_close_75 : decode cX11_close 75 = .ok (.invokevirtual 236, 3) := by decide +kernel
theorem dX11_close_78 : decode cX11_close 78 = .ok (.iinc 3 1, 3) := by decide +kernel
theorem dX11_close_81 : decode cX11_close 81 = .ok (.goto (-44), 3) := by decide +kernel
theorem dX11_close_84 : decode cX11_close 84 = .ok (.aload_n 0, 1) := by decide +kernel
theorem dX11_close_85 : decode cX11_close 85 = .ok (.getfield 233, 3) := by decide +kernel
theorem dX11_close_88 : decode cX11_close 88 = .ok (.bipush 64, 2) := by decide +kernel
theorem dX11_close_90 : decode cX11_close 90 = .ok (.idiv, 1) := by decide +kernel
theorem dX11_close_91 : decode cX11_close 91 = .ok (.ireturn, 1) := by decide +kernel
theorem dX11_readWords_0 : decode cX11_readWords 0 = .ok (.iconst 0, 1) := by decide +kernel
theorem dX11_readWords_1 : decode cX11_readWords 1 = .ok (.istore_n 3, 1) := by decide +kernel
theorem dX11_readWords_2 : decode cX11_readWords 2 = .ok (.iload_n 3, 1) := by decide +kernel
theorem dX11_readWords_3 : decode cX11_readWords 3 = .ok (.bipush 16, 2) := by decide +kernel
theorem dX11_readWords_5 : decode cX11_readWords 5 = .ok (.if_icmp .ge 124, 3) := by decide +kernel
theorem dX11_readWords_8 : decode cX11_readWords 8 = .ok (.bipush 64, 2) := by decide +kernel
theorem dX11_readWords_10 : decode cX11_readWords 10 = .ok (.iload_n 1, 1) := by decide +kernel
theorem dX11_readWords_11 : decode cX11_readWords 11 = .ok (.imul, 1) := by decide +kernel
theorem dX11_readWords_12 : decode cX11_readWords 12 = .ok (.iconst 4, 1) := by decide +kernel
theorem dX11_readWords_13 : decode cX11_readWords 13 = .ok (.iload_n 3, 1) := by decide +kernel
theorem dX11_readWords_14 : decode cX11_readWords 14 = .ok (.imul, 1) := by decide +kernel
theorem dX11_readWords_15 : decode cX11_readWords 15 = .ok (.iadd, 1) := by decide +kernel
theorem dX11_readWords_16 : decode cX11_readWords 16 = .ok (.istore 4, 2) := by decide +kernel
theorem dX11_readWords_18 : decode cX11_readWords 18 = .ok (.aload_n 0, 1) := by decide +kernel
theorem dX11_readWords_19 : decode cX11_readWords 19 = .ok (.getfield 46, 3) := by decide +kernel
theorem dX11_readWords_22 : decode cX11_readWords 22 = .ok (.iload_n 3, 1) := by decide +kernel
theorem dX11_readWords_23 : decode cX11_readWords 23 = .ok (.iload_n 2, 1) := by decide +kernel
theorem dX11_readWords_24 : decode cX11_readWords 24 = .ok (.ifCond .eq 52, 3) := by decide +kernel
theorem dX11_readWords_27 : decode cX11_readWords 27 = .ok (.aload_n 0, 1) := by decide +kernel
theorem dX11_readWords_28 : decode cX11_readWords 28 = .ok (.getfield 40, 3) := by decide +kernel
theorem dX11_readWords_31 : decode cX11_readWords 31 = .ok (.iload 4, 2) := by decide +kernel
theorem dX11_readWords_33 : decode cX11_readWords 33 = .ok (.iaload, 1) := by decide +kernel
theorem dX11_readWords_34 : decode cX11_readWords 34 = .ok (.aload_n 0, 1) := by decide +kernel
theorem dX11_readWords_35 : decode cX11_readWords 35 = .ok (.getfield 40, 3) := by decide +kernel
theorem dX11_readWords_38 : decode cX11_readWords 38 = .ok (.iload 4, 2) := by decide +kernel
theorem dX11_readWords_40 : decode cX11_readWords 40 = .ok (.iconst 1, 1) := by decide +kernel
theorem dX11_readWords_41 : decode cX11_readWords 41 = .ok (.iadd, 1) := by decide +kernel
theorem dX11_readWords_42 : decode cX11_readWords 42 = .ok (.iaload, 1) := by decide +kernel
theorem dX11_readWords_43 : decode cX11_readWords 43 = .ok (.bipush 8, 2) := by decide +kernel
theorem dX11_readWords_45 : decode cX11_readWords 45 = .ok (.ishl, 1) := by decide +kernel
theorem dX11_readWords_46 : decode cX11_readWords 46 = .ok (.ior, 1) := by decide +kernel
theorem dX11_readWords_47 : decode cX11_readWords 47 = .ok (.aload_n 0, 1) := by decide +kernel
theorem dX11_readWords_48 : decode cX11_readWords 48 = .ok (.getfield 40, 3) := by decide +kernel
theorem dX11_readWords_51 : decode cX11_readWords 51 = .ok (.iload 4, 2) := by decide +kernel
theorem dX11_readWords_53 : decode cX11_readWords 53 = .ok (.iconst 2, 1) := by decide +kernel
theorem dX11_readWords_54 : decode cX11_readWords 54 = .ok (.iadd, 1) := by decide +kernel
theorem dX11_readWords_55 : decode cX11_readWords 55 = .ok (.iaload, 1) := by decide +kernel
theorem dX11_readWords_56 : decode cX11_readWords 56 = .ok (.bipush 16, 2) := by decide +kernel
theorem dX11_readWords_58 : decode cX11_readWords 58 = .ok (.ishl, 1) := by decide +kernel
theorem dX11_readWords_59 : decode cX11_readWords 59 = .ok (.ior, 1) := by decide +kernel
theorem dX11_readWords_60 : decode cX11_readWords 60 = .ok (.aload_n 0, 1) := by decide +kernel
theorem dX11_readWords_61 : decode cX11_readWords 61 = .ok (.getfield 40, 3) := by decide +kernel
theorem dX11_readWords_64 : decode cX11_readWords 64 = .ok (.iload 4, 2) := by decide +kernel
theorem dX11_readWords_66 : decode cX11_readWords 66 = .ok (.iconst 3, 1) := by decide +kernel
theorem dX11_readWords_67 : decode cX11_readWords 67 = .ok (.iadd, 1) := by decide +kernel
theorem dX11_readWords_68 : decode cX11_readWords 68 = .ok (.iaload, 1) := by decide +kernel
theorem dX11_readWords_69 : decode cX11_readWords 69 = .ok (.bipush 24, 2) := by decide +kernel
theorem dX11_readWords_71 : decode cX11_readWords 71 = .ok (.ishl, 1) := by decide +kernel
theorem dX11_readWords_72 : decode cX11_readWords 72 = .ok (.ior, 1) := by decide +kernel
theorem dX11_readWords_73 : decode cX11_readWords 73 = .ok (.goto 49, 3) := by decide +kernel
theorem dX11_readWords_76 : decode cX11_readWords 76 = .ok (.aload_n 0, 1) := by decide +kernel
theorem dX11_readWords_77 : decode cX11_readWords 77 = .ok (.getfield 40, 3) := by decide +kernel
theorem dX11_readWords_80 : decode cX11_readWords 80 = .ok (.iload 4, 2) := by decide +kernel
theorem dX11_readWords_82 : decode cX11_readWords 82 = .ok (.iaload, 1) := by decide +kernel
theorem dX11_readWords_83 : decode cX11_readWords 83 = .ok (.bipush 24, 2) := by decide +kernel
theorem dX11_readWords_85 : decode cX11_readWords 85 = .ok (.ishl, 1) := by decide +kernel
theorem dX11_readWords_86 : decode cX11_readWords 86 = .ok (.aload_n 0, 1) := by decide +kernel
theorem dX11_readWords_87 : decode cX11_readWords 87 = .ok (.getfield 40, 3) := by decide +kernel
theorem dX11_readWords_90 : decode cX11_readWords 90 = .ok (.iload 4, 2) := by decide +kernel
theorem dX11_readWords_92 : decode cX11_readWords 92 = .ok (.iconst 1, 1) := by decide +kernel
theorem dX11_readWords_93 : decode cX11_readWords 93 = .ok (.iadd, 1) := by decide +kernel
theorem dX11_readWords_94 : decode cX11_readWords 94 = .ok (.iaload, 1) := by decide +kernel
theorem dX11_readWords_95 : decode cX11_readWords 95 = .ok (.bipush 16, 2) := by decide +kernel
theorem dX11_readWords_97 : decode cX11_readWords 97 = .ok (.ishl, 1) := by decide +kernel
theorem dX11_readWords_98 : decode cX11_readWords 98 = .ok (.ior, 1) := by decide +kernel
theorem dX11_readWords_99 : decode cX11_readWords 99 = .ok (.aload_n 0, 1) := by decide +kernel
theorem dX11_readWords_100 : decode cX11_readWords 100 = .ok (.getfield 40, 3) := by decide +kernel
theorem dX11_readWords_103 : decode cX11_readWords 103 = .ok (.iload 4, 2) := by decide +kernel
theorem dX11_readWords_105 : decode cX11_readWords 105 = .ok (.iconst 2, 1) := by decide +kernel
theorem dX11_readWords_106 : decode cX11_readWords 106 = .ok (.iadd, 1) := by decide +kernel
theorem dX11_readWords_107 : decode cX11_readWords 107 = .ok (.iaload, 1) := by decide +kernel
theorem dX11_readWords_108 : decode cX11_readWords 108 = .ok (.bipush 8, 2) := by decide +kernel
theorem dX11_readWords_110 : decode cX11_readWords 110 = .ok (.ishl, 1) := by decide +kernel
theorem dX11_readWords_111 : decode cX11_readWords 111 = .ok (.ior, 1) := by decide +kernel
theorem dX11_readWords_112 : decode cX11_readWords 112 = .ok (.aload_n 0, 1) := by decide +kernel
theorem dX11_readWords_113 : decode cX11_readWords 113 = .ok (.getfield 40, 3) := by decide +kernel
theorem dX11_readWords_116 : decode cX11_readWords 116 = .ok (.iload 4, 2) := by decide +kernel
theorem dX11_readWords_118 : decode cX11_readWords 118 = .ok (.iconst 3, 1) := by decide +kernel
theorem dX11_readWords_119 : decode cX11_readWords 119 = .ok (.iadd, 1) := by decide +kernel
theorem dX11_readWords_120 : decode cX11_readWords 120 = .ok (.iaload, 1) := by decide +kernel
theorem dX11_readWords_121 : decode cX11_readWords 121 = .ok (.ior, 1) := by decide +kernel
theorem dX11_readWords_122 : decode cX11_readWords 122 = .ok (.iastore, 1) := by decide +kernel
theorem dX11_readWords_123 : decode cX11_readWords 123 = .ok (.iinc 3 1, 3) := by decide +kernel
theorem dX11_readWords_126 : decode cX11_readWords 126 = .ok (.goto (-124), 3) := by decide +kernel
theorem dX11_readWords_129 : decode cX11_readWords 129 = .ok (.return_, 1) := by decide +kernel
theorem dX11_keep_0 : decode cX11_keep 0 = .ok (.iconst 0, 1) := by decide +kernel
theorem dX11_keep_1 : decode cX11_keep 1 = .ok (.istore_n 3, 1) := by decide +kernel
theorem dX11_keep_2 : decode cX11_keep 2 = .ok (.iload_n 3, 1) := by decide +kernel
theorem dX11_keep_3 : decode cX11_keep 3 = .ok (.iconst 4, 1) := by decide +kernel
theorem dX11_keep_4 : decode cX11_keep 4 = .ok (.iload_n 1, 1) := by decide +kernel
theorem dX11_keep_5 : decode cX11_keep 5 = .ok (.imul, 1) := by decide +kernel
theorem dX11_keep_6 : decode cX11_keep 6 = .ok (.if_icmp .ge 46, 3) := by decide +kernel
theorem dX11_keep_9 : decode cX11_keep 9 = .ok (.aload_n 0, 1) := by decide +kernel
theorem dX11_keep_10 : decode cX11_keep 10 = .ok (.getfield 43, 3) := by decide +kernel
theorem dX11_keep_13 : decode cX11_keep 13 = .ok (.iload_n 3, 1) := by decide +kernel
theorem dX11_keep_14 : decode cX11_keep 14 = .ok (.aload_n 0, 1) := by decide +kernel
theorem dX11_keep_15 : decode cX11_keep 15 = .ok (.getfield 49, 3) := by decide +kernel
theorem dX11_keep_18 : decode cX11_keep 18 = .ok (.iload_n 3, 1) := by decide +kernel
theorem dX11_keep_19 : decode cX11_keep 19 = .ok (.iconst 4, 1) := by decide +kernel
theorem dX11_keep_20 : decode cX11_keep 20 = .ok (.idiv, 1) := by decide +kernel
theorem dX11_keep_21 : decode cX11_keep 21 = .ok (.iaload, 1) := by decide +kernel
theorem dX11_keep_22 : decode cX11_keep 22 = .ok (.bipush 8, 2) := by decide +kernel
theorem dX11_keep_24 : decode cX11_keep 24 = .ok (.iload_n 2, 1) := by decide +kernel
theorem dX11_keep_25 : decode cX11_keep 25 = .ok (.ifCond .eq 9, 3) := by decide +kernel
theorem dX11_keep_28 : decode cX11_keep 28 = .ok (.iload_n 3, 1) := by decide +kernel
theorem dX11_keep_29 : decode cX11_keep 29 = .ok (.iconst 4, 1) := by decide +kernel
theorem dX11_keep_30 : decode cX11_keep 30 = .ok (.irem, 1) := by decide +kernel
theorem dX11_keep_31 : decode cX11_keep 31 = .ok (.goto 8, 3) := by decide +kernel
theorem dX11_keep_34 : decode cX11_keep 34 = .ok (.iconst 3, 1) := by decide +kernel
theorem dX11_keep_35 : decode cX11_keep 35 = .ok (.iload_n 3, 1) := by decide +kernel
theorem dX11_keep_36 : decode cX11_keep 36 = .ok (.iconst 4, 1) := by decide +kernel
theorem dX11_keep_37 : decode cX11_keep 37 = .ok (.irem, 1) := by decide +kernel
theorem dX11_keep_38 : decode cX11_keep 38 = .ok (.isub, 1) := by decide +kernel
theorem dX11_keep_39 : decode cX11_keep 39 = .ok (.imul, 1) := by decide +kernel
theorem dX11_keep_40 : decode cX11_keep 40 = .ok (.iushr, 1) := by decide +kernel
theorem dX11_keep_41 : decode cX11_keep 41 = .ok (.sipush 255, 3) := by decide +kernel
theorem dX11_keep_44 : decode cX11_keep 44 = .ok (.iand, 1) := by decide +kernel
theorem dX11_keep_45 : decode cX11_keep 45 = .ok (.iastore, 1) := by decide +kernel
theorem dX11_keep_46 : decode cX11_keep 46 = .ok (.iinc 3 1, 3) := by decide +kernel
theorem dX11_keep_49 : decode cX11_keep 49 = .ok (.goto (-47), 3) := by decide +kernel
theorem dX11_keep_52 : decode cX11_keep 52 = .ok (.return_, 1) := by decide +kernel
theorem dX11_turnOf_0 : decode cX11_turnOf 0 = .ok (.iload_n 0, 1) := by decide +kernel
theorem dX11_turnOf_1 : decode cX11_turnOf 1 = .ok (.bipush 16, 2) := by decide +kernel
theorem dX11_turnOf_3 : decode cX11_turnOf 3 = .ok (.idiv, 1) := by decide +kernel
theorem dX11_turnOf_4 : decode cX11_turnOf 4 = .ok (.istore_n 1, 1) := by decide +kernel
theorem dX11_turnOf_5 : decode cX11_turnOf 5 = .ok (.iload_n 0, 1) := by decide +kernel
theorem dX11_turnOf_6 : decode cX11_turnOf 6 = .ok (.iconst 4, 1) := by decide +kernel
theorem dX11_turnOf_7 : decode cX11_turnOf 7 = .ok (.irem, 1) := by decide +kernel
theorem dX11_turnOf_8 : decode cX11_turnOf 8 = .ok (.istore_n 2, 1) := by decide +kernel
theorem dX11_turnOf_9 : decode cX11_turnOf 9 = .ok (.iload_n 1, 1) := by decide +kernel
theorem dX11_turnOf_10 : decode cX11_turnOf 10 = .ok (.ifCond .ne 10, 3) := by decide +kernel
theorem dX11_turnOf_13 : decode cX11_turnOf 13 = .ok (.bipush 7, 2) := by decide +kernel
theorem dX11_turnOf_15 : decode cX11_turnOf 15 = .ok (.iconst 5, 1) := by decide +kernel
theorem dX11_turnOf_16 : decode cX11_turnOf 16 = .ok (.iload_n 2, 1) := by decide +kernel
theorem dX11_turnOf_17 : decode cX11_turnOf 17 = .ok (.imul, 1) := by decide +kernel
theorem dX11_turnOf_18 : decode cX11_turnOf 18 = .ok (.iadd, 1) := by decide +kernel
theorem dX11_turnOf_19 : decode cX11_turnOf 19 = .ok (.ireturn, 1) := by decide +kernel
theorem dX11_turnOf_20 : decode cX11_turnOf 20 = .ok (.iload_n 1, 1) := by decide +kernel
theorem dX11_turnOf_21 : decode cX11_turnOf 21 = .ok (.iconst 1, 1) := by decide +kernel
theorem dX11_turnOf_22 : decode cX11_turnOf 22 = .ok (.if_icmp .ne 34, 3) := by decide +kernel
theorem dX11_turnOf_25 : decode cX11_turnOf 25 = .ok (.iload_n 2, 1) := by decide +kernel
theorem dX11_turnOf_26 : decode cX11_turnOf 26 = .ok (.ifCond .ne 7, 3) := by decide +kernel
theorem dX11_turnOf_29 : decode cX11_turnOf 29 = .ok (.iconst 5, 1) := by decide +kernel
theorem dX11_turnOf_30 : decode cX11_turnOf 30 = .ok (.goto 25, 3) := by decide +kernel
theorem dX11_turnOf_33 : decode cX11_turnOf 33 = .ok (.iload_n 2, 1) := by decide +kernel
theorem dX11_turnOf_34 : decode cX11_turnOf 34 = .ok (.iconst 1, 1) := by decide +kernel
theorem dX11_turnOf_35 : decode cX11_turnOf 35 = .ok (.if_icmp .ne 8, 3) := by decide +kernel
theorem dX11_turnOf_38 : decode cX11_turnOf 38 = .ok (.bipush 9, 2) := by decide +kernel
theorem dX11_turnOf_40 : decode cX11_turnOf 40 = .ok (.goto 15, 3) := by decide +kernel
theorem dX11_turnOf_43 : decode cX11_turnOf 43 = .ok (.iload_n 2, 1) := by decide +kernel
theorem dX11_turnOf_44 : decode cX11_turnOf 44 = .ok (.iconst 2, 1) := by decide +kernel
theorem dX11_turnOf_45 : decode cX11_turnOf 45 = .ok (.if_icmp .ne 8, 3) := by decide +kernel
theorem dX11_turnOf_48 : decode cX11_turnOf 48 = .ok (.bipush 14, 2) := by decide +kernel
theorem dX11_turnOf_50 : decode cX11_turnOf 50 = .ok (.goto 5, 3) := by decide +kernel
theorem dX11_turnOf_53 : decode cX11_turnOf 53 = .ok (.bipush 20, 2) := by decide +kernel
theorem dX11_turnOf_55 : decode cX11_turnOf 55 = .ok (.ireturn, 1) := by decide +kernel
theorem dX11_turnOf_56 : decode cX11_turnOf 56 = .ok (.iload_n 1, 1) := by decide +kernel
theorem dX11_turnOf_57 : decode cX11_turnOf 57 = .ok (.iconst 2, 1) := by decide +kernel
theorem dX11_turnOf_58 : decode cX11_turnOf 58 = .ok (.if_icmp .ne 34, 3) := by decide +kernel
theorem dX11_turnOf_61 : decode cX11_turnOf 61 = .ok (.iload_n 2, 1) := by decide +kernel
theorem dX11_turnOf_62 : decode cX11_turnOf 62 = .ok (.ifCond .ne 7, 3) := by decide +kernel
theorem dX11_turnOf_65 : decode cX11_turnOf 65 = .ok (.iconst 4, 1) := by decide +kernel
theorem dX11_turnOf_66 : decode cX11_turnOf 66 = .ok (.goto 25, 3) := by decide +kernel
theorem dX11_turnOf_69 : decode cX11_turnOf 69 = .ok (.iload_n 2, 1) := by decide +kernel
theorem dX11_turnOf_70 : decode cX11_turnOf 70 = .ok (.iconst 1, 1) := by decide +kernel
theorem dX11_turnOf_71 : decode cX11_turnOf 71 = .ok (.if_icmp .ne 8, 3) := by decide +kernel
theorem dX11_turnOf_74 : decode cX11_turnOf 74 = .ok (.bipush 11, 2) := by decide +kernel
theorem dX11_turnOf_76 : decode cX11_turnOf 76 = .ok (.goto 15, 3) := by decide +kernel
theorem dX11_turnOf_79 : decode cX11_turnOf 79 = .ok (.iload_n 2, 1) := by decide +kernel
theorem dX11_turnOf_80 : decode cX11_turnOf 80 = .ok (.iconst 2, 1) := by decide +kernel
theorem dX11_turnOf_81 : decode cX11_turnOf 81 = .ok (.if_icmp .ne 8, 3) := by decide +kernel
theorem dX11_turnOf_84 : decode cX11_turnOf 84 = .ok (.bipush 16, 2) := by decide +kernel
theorem dX11_turnOf_86 : decode cX11_turnOf 86 = .ok (.goto 5, 3) := by decide +kernel
theorem dX11_turnOf_89 : decode cX11_turnOf 89 = .ok (.bipush 23, 2) := by decide +kernel
theorem dX11_turnOf_91 : decode cX11_turnOf 91 = .ok (.ireturn, 1) := by decide +kernel
theorem dX11_turnOf_92 : decode cX11_turnOf 92 = .ok (.iload_n 2, 1) := by decide +kernel
theorem dX11_turnOf_93 : decode cX11_turnOf 93 = .ok (.ifCond .ne 8, 3) := by decide +kernel
theorem dX11_turnOf_96 : decode cX11_turnOf 96 = .ok (.bipush 6, 2) := by decide +kernel
theorem dX11_turnOf_98 : decode cX11_turnOf 98 = .ok (.goto 25, 3) := by decide +kernel
theorem dX11_turnOf_101 : decode cX11_turnOf 101 = .ok (.iload_n 2, 1) := by decide +kernel
theorem dX11_turnOf_102 : decode cX11_turnOf 102 = .ok (.iconst 1, 1) := by decide +kernel
theorem dX11_turnOf_103 : decode cX11_turnOf 103 = .ok (.if_icmp .ne 8, 3) := by decide +kernel
theorem dX11_turnOf_106 : decode cX11_turnOf 106 = .ok (.bipush 10, 2) := by decide +kernel
theorem dX11_turnOf_108 : decode cX11_turnOf 108 = .ok (.goto 15, 3) := by decide +kernel
theorem dX11_turnOf_111 : decode cX11_turnOf 111 = .ok (.iload_n 2, 1) := by decide +kernel
theorem dX11_turnOf_112 : decode cX11_turnOf 112 = .ok (.iconst 2, 1) := by decide +kernel
theorem dX11_turnOf_113 : decode cX11_turnOf 113 = .ok (.if_icmp .ne 8, 3) := by decide +kernel
theorem dX11_turnOf_116 : decode cX11_turnOf 116 = .ok (.bipush 15, 2) := by decide +kernel
theorem dX11_turnOf_118 : decode cX11_turnOf 118 = .ok (.goto 5, 3) := by decide +kernel
theorem dX11_turnOf_121 : decode cX11_turnOf 121 = .ok (.bipush 21, 2) := by decide +kernel
theorem dX11_turnOf_123 : decode cX11_turnOf 123 = .ok (.ireturn, 1) := by decide +kernel
set_option maxRecDepth 20000 in
theorem ggX11_small_X11_close : GoodIn wsX11_small wsX11_close := goodIn_ca (goodIn_r _ [12, 13, 14, 15, 16, 11, 17, 18, 34, 35, 36, 37, 38, 39, 40, 41, 42, 43, 44, 45, 46, 47, 48, 49, 50, 51, 52, 53, 54, 55, 56, 57, 58, 59, 60, 61, 62, 63, 64, 65, 66, 67, 68, 69, 70, 71, 72, 73, 74, 75, 76, 77, 78] (by decide +kernel) (by decide +kernel)) (goodIn_sub (fun _ h => List.mem_cons_of_mem _ (List.mem_append_right _ h)) (by decide +kernel))
set_option maxRecDepth 20000 in
theorem gX11_small_X11_close : GoodIn wsX11_small (wsV RX11 240 RX11 yX11_close wsX11_close) := goodIn_app (goodIn_of _ (by decide +kernel)) ggX11_small_X11_close
set_option maxRecDepth 20000 in
theorem ggX11_small_X11_readWords : GoodIn wsX11_small wsX11_readWords := goodIn_ca (goodIn_r _ [22, 7, 18, 34, 35, 36, 37, 38, 39, 40, 41, 42, 43, 44, 45, 46, 47, 48, 49, 50, 51, 52, 53, 54, 55, 56, 57, 58, 59, 60, 61, 62, 63, 64, 65, 66, 67, 68, 69, 70, 71, 72, 73, 74, 75, 76, 77, 78] (by decide +kernel) (by decide +kernel)) (goodIn_sub (fun _ h => List.mem_cons_of_mem _ (List.mem_append_right _ h)) (by decide +kernel))
set_option maxRecDepth 20000 in
theorem gX11_small_X11_readWords : GoodIn wsX11_small (wsV RX11 248 RX11 yX11_readWords wsX11_readWords) := goodIn_app (goodIn_of _ (by decide +kernel)) ggX11_small_X11_readWords
set_option maxRecDepth 20000 in
theorem ggX11_small_X11_turnOf : GoodIn wsX11_small wsX11_turnOf := goodIn_r _ [25] (by decide +kernel) (by decide +kernel)
set_option maxRecDepth 20000 in
theorem gX11_small_X11_turnOf : GoodIn wsX11_small (va_wsS RX11 252 yX11_turnOf wsX11_turnOf) := goodIn_app (goodIn_of _ (by decide +kernel)) ggX11_small_X11_turnOf
set_option maxRecDepth 20000 in
theorem ggX11_small_X11_left : GoodIn wsX11_small wsX11_left := goodIn_r _ [28] (by decide +kernel) (by decide +kernel)
set_option maxRecDepth 20000 in
theorem gX11_small_X11_left : GoodIn wsX11_small (va_wsS RX11 256 yX11_left wsX11_left) := goodIn_app (goodIn_of _ (by decide +kernel)) ggX11_small_X11_left
set_option maxRecDepth 20000 in
theorem ggX11_small_X11_keep : GoodIn wsX11_small wsX11_keep := goodIn_ca (goodIn_r _ [32, 33, 1, 34, 35, 36, 37, 38, 39, 40, 41, 42, 43, 44, 45, 46, 47, 48, 49, 50, 51, 52, 53, 54, 55, 56, 57, 58, 59, 60, 61, 62, 63, 64, 65, 66, 67, 68, 69, 70, 71, 72, 73, 74, 75, 76, 77, 78] (by decide +kernel) (by decide +kernel)) (goodIn_sub (fun _ h => List.mem_cons_of_mem _ (List.mem_append_right _ h)) (by decide +kernel))
set_option maxRecDepth 20000 in
theorem gX11_small_X11_keep : GoodIn wsX11_small (wsV RX11 259 RX11 yX11_keep wsX11_keep) := goodIn_app (goodIn_of _ (by decide +kernel)) ggX11_small_X11_keep
theorem dX11_small_0 : decode cX11_small 0 = .ok (.aload_n 0, 1) := by decide +kernel
theorem dX11_small_1 : decode cX11_small 1 = .ok (.iconst 1, 1) := by decide +kernel
theorem dX11_small_2 : decode cX11_small 2 = .ok (.invokevirtual 240, 3) := by decide +kernel
theorem dX11_small_5 : decode cX11_small 5 = .ok (.istore_n 1, 1) := by decide +kernel
theorem dX11_small_6 : decode cX11_small 6 = .ok (.aload_n 0, 1) := by decide +kernel
theorem dX11_small_7 : decode cX11_small 7 = .ok (.getfield 49, 3) := by decide +kernel
theorem dX11_small_10 : decode cX11_small 10 = .ok (.iconst 0, 1) := by decide +kernel
theorem dX11_small_11 : decode cX11_small 11 = .ok (.ldc 244, 2) := by decide +kernel
theorem dX11_small_13 : decode cX11_small 13 = .ok (.iastore, 1) := by decide +kernel
theorem dX11_small_14 : decode cX11_small 14 = .ok (.aload_n 0, 1) := by decide +kernel
theorem dX11_small_15 : decode cX11_small 15 = .ok (.getfield 49, 3) := by decide +kernel
theorem dX11_small_18 : decode cX11_small 18 = .ok (.iconst 1, 1) := by decide +kernel
theorem dX11_small_19 : decode cX11_small 19 = .ok (.ldc 245, 2) := by decide +kernel
theorem dX11_small_21 : decode cX11_small 21 = .ok (.iastore, 1) := by decide +kernel
theorem dX11_small_22 : decode cX11_small 22 = .ok (.aload_n 0, 1) := by decide +kernel
theorem dX11_small_23 : decode cX11_small 23 = .ok (.getfield 49, 3) := by decide +kernel
theorem dX11_small_26 : decode cX11_small 26 = .ok (.iconst 2, 1) := by decide +kernel
theorem dX11_small_27 : decode cX11_small 27 = .ok (.ldc 246, 2) := by decide +kernel
theorem dX11_small_29 : decode cX11_small 29 = .ok (.iastore, 1) := by decide +kernel
theorem dX11_small_30 : decode cX11_small 30 = .ok (.aload_n 0, 1) := by decide +kernel
theorem dX11_small_31 : decode cX11_small 31 = .ok (.getfield 49, 3) := by decide +kernel
theorem dX11_small_34 : decode cX11_small 34 = .ok (.iconst 3, 1) := by decide +kernel
theorem dX11_small_35 : decode cX11_small 35 = .ok (.ldc 247, 2) := by decide +kernel
theorem dX11_small_37 : decode cX11_small 37 = .ok (.iastore, 1) := by decide +kernel
theorem dX11_small_38 : decode cX11_small 38 = .ok (.iconst 0, 1) := by decide +kernel
theorem dX11_small_39 : decode cX11_small 39 = .ok (.istore_n 2, 1) := by decide +kernel
theorem dX11_small_40 : decode cX11_small 40 = .ok (.iload_n 2, 1) := by decide +kernel
theorem dX11_small_41 : decode cX11_small 41 = .ok (.iload_n 1, 1) := by decide +kernel
theorem dX11_small_42 : decode cX11_small 42 = .ok (.if_icmp .ge 285, 3) := by decide +kernel
theorem dX11_small_45 : decode cX11_small 45 = .ok (.aload_n 0, 1) := by decide +kernel
theorem dX11_small_46 : decode cX11_small 46 = .ok (.iload_n 2, 1) := by decide +kernel
theorem dX11_small_47 : decode cX11_small 47 = .ok (.iconst 1, 1) := by decide +kernel
theorem dX11_small_48 : decode cX11_small 48 = .ok (.invokevirtual 248, 3) := by decide +kernel
theorem dX11_small_51 : decode cX11_small 51 = .ok (.aload_n 0, 1) := by decide +kernel
theorem dX11_small_52 : decode cX11_small 52 = .ok (.getfield 49, 3) := by decide +kernel
theorem dX11_small_55 : decode cX11_small 55 = .ok (.iconst 0, 1) := by decide +kernel
theorem dX11_small_56 : decode cX11_small 56 = .ok (.iaload, 1) := by decide +kernel
theorem dX11_small_57 : decode cX11_small 57 = .ok (.istore_n 3, 1) := by decide +kernel
theorem dX11_small_58 : decode cX11_small 58 = .ok (.aload_n 0, 1) := by decide +kernel
theorem dX11_small_59 : decode cX11_small 59 = .ok (.getfield 49, 3) := by decide +kernel
theorem dX11_small_62 : decode cX11_small 62 = .ok (.iconst 1, 1) := by decide +kernel
theorem dX11_small_63 : decode cX11_small 63 = .ok (.iaload, 1) := by decide +kernel
theorem dX11_small_64 : decode cX11_small 64 = .ok (.istore 4, 2) := by decide +kernel
theorem dX11_small_66 : decode cX11_small 66 = .ok (.aload_n 0, 1) := by decide +kernel
theorem dX11_small_67 : decode cX11_small 67 = .ok (.getfield 49, 3) := by decide +kernel
theorem dX11_small_70 : decode cX11_small 70 = .ok (.iconst 2, 1) := by decide +kernel
theorem dX11_small_71 : decode cX11_small 71 = .ok (.iaload, 1) := by decide +kernel
theorem dX11_small_72 : decode cX11_small 72 = .ok (.istore 5, 2) := by decide +kernel
theorem dX11_small_74 : decode cX11_small 74 = .ok (.aload_n 0, 1) := by decide +kernel
theorem dX11_small_75 : decode cX11_small 75 = .ok (.getfield 49, 3) := by decide +kernel
theorem dX11_small_78 : decode cX11_small 78 = .ok (.iconst 3, 1) := by decide +kernel
theorem dX11_small_79 : decode cX11_small 79 = .ok (.iaload, 1) := by decide +kernel
theorem dX11_small_80 : decode cX11_small 80 = .ok (.istore 6, 2) := by decide +kernel
theorem dX11_small_82 : decode cX11_small 82 = .ok (.iconst 0, 1) := by decide +kernel
theorem dX11_small_83 : decode cX11_small 83 = .ok (.istore 7, 2) := by decide +kernel
theorem dX11_small_85 : decode cX11_small 85 = .ok (.iload 7, 2) := by decide +kernel
theorem dX11_small_87 : decode cX11_small 87 = .ok (.bipush 64, 2) := by decide +kernel
theorem dX11_small_89 : decode cX11_small 89 = .ok (.if_icmp .ge 189, 3) := by decide +kernel
theorem dX11_small_92 : decode cX11_small 92 = .ok (.iload 7, 2) := by decide +kernel
theorem dX11_small_94 : decode cX11_small 94 = .ok (.bipush 16, 2) := by decide +kernel
theorem dX11_small_96 : decode cX11_small 96 = .ok (.if_icmp .ge 17, 3) := by decide +kernel
theorem dX11_small_99 : decode cX11_small 99 = .ok (.iload 6, 2) := by decide +kernel
theorem dX11_small_101 : decode cX11_small 101 = .ok (.iload 4, 2) := by decide +kernel
theorem dX11_small_103 : decode cX11_small 103 = .ok (.iload 5, 2) := by decide +kernel
theorem dX11_small_105 : decode cX11_small 105 = .ok (.iload 6, 2) := by decide +kernel
theorem dX11_small_107 : decode cX11_small 107 = .ok (.ixor, 1) := by decide +kernel
theorem dX11_small_108 : decode cX11_small 108 = .ok (.iand, 1) := by decide +kernel
theorem dX11_small_109 : decode cX11_small 109 = .ok (.ixor, 1) := by decide +kernel
theorem dX11_small_110 : decode cX11_small 110 = .ok (.goto 52, 3) := by decide +kernel
theorem dX11_small_113 : decode cX11_small 113 = .ok (.iload 7, 2) := by decide +kernel
theorem dX11_small_115 : decode cX11_small 115 = .ok (.bipush 32, 2) := by decide +kernel
theorem dX11_small_117 : decode cX11_small 117 = .ok (.if_icmp .ge 17, 3) := by decide +kernel
theorem dX11_small_120 : decode cX11_small 120 = .ok (.iload 5, 2) := by decide +kernel
theorem dX11_small_122 : decode cX11_small 122 = .ok (.iload 6, 2) := by decide +kernel
theorem dX11_small_124 : decode cX11_small 124 = .ok (.iload 4, 2) := by decide +kernel
theorem dX11_small_126 : decode cX11_small 126 = .ok (.iload 5, 2) := by decide +kernel
theorem dX11_small_128 : decode cX11_small 128 = .ok (.ixor, 1) := by decide +kernel
theorem dX11_small_129 : decode cX11_small 129 = .ok (.iand, 1) := by decide +kernel
theorem dX11_small_130 : decode cX11_small 130 = .ok (.ixor, 1) := by decide +kernel
theorem dX11_small_131 : decode cX11_small 131 = .ok (.goto 31, 3) := by decide +kernel
theorem dX11_small_134 : decode cX11_small 134 = .ok (.iload 7, 2) := by decide +kernel
theorem dX11_small_136 : decode cX11_small 136 = .ok (.bipush 48, 2) := by decide +kernel
theorem dX11_small_138 : decode cX11_small 138 = .ok (.if_icmp .ge 14, 3) := by decide +kernel
theorem dX11_small_141 : decode cX11_small 141 = .ok (.iload 4, 2) := by decide +kernel
theorem dX11_small_143 : decode cX11_small 143 = .ok (.iload 5, 2) := by decide +kernel
theorem dX11_small_145 : decode cX11_small 145 = .ok (.ixor, 1) := by decide +kernel
theorem dX11_small_146 : decode cX11_small 146 = .ok (.iload 6, 2) := by decide +kernel
theorem dX11_small_148 : decode cX11_small 148 = .ok (.ixor, 1) := by decide +kernel
theorem dX11_small_149 : decode cX11_small 149 = .ok (.goto 13, 3) := by decide +kernel
theorem dX11_small_152 : decode cX11_small 152 = .ok (.iload 5, 2) := by decide +kernel
theorem dX11_small_154 : decode cX11_small 154 = .ok (.iload 4, 2) := by decide +kernel
theorem dX11_small_156 : decode cX11_small 156 = .ok (.iload 6, 2) := by decide +kernel
theorem dX11_small_158 : decode cX11_small 158 = .ok (.iconst (-1), 1) := by decide +kernel
theorem dX11_small_159 : decode cX11_small 159 = .ok (.ixor, 1) := by decide +kernel
theorem dX11_small_160 : decode cX11_small 160 = .ok (.ior, 1) := by decide +kernel
theorem dX11_small_161 : decode cX11_small 161 = .ok (.ixor, 1) := by decide +kernel
theorem dX11_small_162 : decode cX11_small 162 = .ok (.istore 8, 2) := by decide +kernel
theorem dX11_small_164 : decode cX11_small 164 = .ok (.iload 7, 2) := by decide +kernel
theorem dX11_small_166 : decode cX11_small 166 = .ok (.bipush 16, 2) := by decide +kernel
theorem dX11_small_168 : decode cX11_small 168 = .ok (.if_icmp .ge 8, 3) := by decide +kernel
theorem dX11_small_171 : decode cX11_small 171 = .ok (.iload 7, 2) := by decide +kernel
theorem dX11_small_173 : decode cX11_small 173 = .ok (.goto 49, 3) := by decide +kernel
theorem dX11_small_176 : decode cX11_small 176 = .ok (.iload 7, 2) := by decide +kernel
theorem dX11_small_178 : decode cX11_small 178 = .ok (.bipush 32, 2) := by decide +kernel
theorem dX11_small_180 : decode cX11_small 180 = .ok (.if_icmp .ge 15, 3) := by decide +kernel
theorem dX11_small_183 : decode cX11_small 183 = .ok (.iconst 5, 1) := by decide +kernel
theorem dX11_small_184 : decode cX11_small 184 = .ok (.iload 7, 2) := by decide +kernel
theorem dX11_small_186 : decode cX11_small 186 = .ok (.imul, 1) := by decide +kernel
theorem dX11_small_187 : decode cX11_small 187 = .ok (.iconst 1, 1) := by decide +kernel
theorem dX11_small_188 : decode cX11_small 188 = .ok (.iadd, 1) := by decide +kernel
theorem dX11_small_189 : decode cX11_small 189 = .ok (.bipush 16, 2) := by decide +kernel
theorem dX11_small_191 : decode cX11_small 191 = .ok (.irem, 1) := by decide +kernel
theorem dX11_small_192 : decode cX11_small 192 = .ok (.goto 30, 3) := by decide +kernel
theorem dX11_small_195 : decode cX11_small 195 = .ok (.iload 7, 2) := by decide +kernel
theorem dX11_small_197 : decode cX11_small 197 = .ok (.bipush 48, 2) := by decide +kernel
theorem dX11_small_199 : decode cX11_small 199 = .ok (.if_icmp .ge 15, 3) := by decide +kernel
theorem dX11_small_202 : decode cX11_small 202 = .ok (.iconst 3, 1) := by decide +kernel
theorem dX11_small_203 : decode cX11_small 203 = .ok (.iload 7, 2) := by decide +kernel
theorem dX11_small_205 : decode cX11_small 205 = .ok (.imul, 1) := by decide +kernel
theorem dX11_small_206 : decode cX11_small 206 = .ok (.iconst 5, 1) := by decide +kernel
theorem dX11_small_207 : decode cX11_small 207 = .ok (.iadd, 1) := by decide +kernel
theorem dX11_small_208 : decode cX11_small 208 = .ok (.bipush 16, 2) := by decide +kernel
theorem dX11_small_210 : decode cX11_small 210 = .ok (.irem, 1) := by decide +kernel
theorem dX11_small_211 : decode cX11_small 211 = .ok (.goto 11, 3) := by decide +kernel
theorem dX11_small_214 : decode cX11_small 214 = .ok (.bipush 7, 2) := by decide +kernel
theorem dX11_small_216 : decode cX11_small 216 = .ok (.iload 7, 2) := by decide +kernel
theorem dX11_small_218 : decode cX11_small 218 = .ok (.imul, 1) := by decide +kernel
theorem dX11_small_219 : decode cX11_small 219 = .ok (.bipush 16, 2) := by decide +kernel
theorem dX11_small_221 : decode cX11_small 221 = .ok (.irem, 1) := by decide +kernel
theorem dX11_small_222 : decode cX11_small 222 = .ok (.istore 9, 2) := by decide +kernel
theorem dX11_small_224 : decode cX11_small 224 = .ok (.iload 4, 2) := by decide +kernel
theorem dX11_small_226 : decode cX11_small 226 = .ok (.iload_n 3, 1) := by decide +kernel
theorem dX11_small_227 : decode cX11_small 227 = .ok (.iload 8, 2) := by decide +kernel
theorem dX11_small_229 : decode cX11_small 229 = .ok (.iadd, 1) := by decide +kernel
theorem dX11_small_230 : decode cX11_small 230 = .ok (.aload_n 0, 1) := by decide +kernel
theorem dX11_small_231 : decode cX11_small 231 = .ok (.getfield 122, 3) := by decide +kernel
theorem dX11_small_234 : decode cX11_small 234 = .ok (.iload 7, 2) := by decide +kernel
theorem dX11_small_236 : decode cX11_small 236 = .ok (.iaload, 1) := by decide +kernel
theorem dX11_small_237 : decode cX11_small 237 = .ok (.iadd, 1) := by decide +kernel
theorem dX11_small_238 : decode cX11_small 238 = .ok (.aload_n 0, 1) := by decide +kernel
theorem dX11_small_239 : decode cX11_small 239 = .ok (.getfield 46, 3) := by decide +kernel
theorem dX11_small_242 : decode cX11_small 242 = .ok (.iload 9, 2) := by decide +kernel
theorem dX11_small_244 : decode cX11_small 244 = .ok (.iaload, 1) := by decide +kernel
theorem dX11_small_245 : decode cX11_small 245 = .ok (.iadd, 1) := by decide +kernel
theorem dX11_small_246 : decode cX11_small 246 = .ok (.iload 7, 2) := by decide +kernel
theorem dX11_small_248 : decode cX11_small 248 = .ok (.invokestatic 252, 3) := by decide +kernel
theorem dX11_small_251 : decode cX11_small 251 = .ok (.invokestatic 256, 3) := by decide +kernel
theorem dX11_small_254 : decode cX11_small 254 = .ok (.iadd, 1) := by decide +kernel
theorem dX11_small_255 : decode cX11_small 255 = .ok (.istore 10, 2) := by decide +kernel
theorem dX11_small_257 : decode cX11_small 257 = .ok (.iload 6, 2) := by decide +kernel
theorem dX11_small_259 : decode cX11_small 259 = .ok (.istore_n 3, 1) := by decide +kernel
theorem dX11_small_260 : decode cX11_small 260 = .ok (.iload 5, 2) := by decide +kernel
theorem dX11_small_262 : decode cX11_small 262 = .ok (.istore 6, 2) := by decide +kernel
theorem dX11_small_264 : decode cX11_small 264 = .ok (.iload 4, 2) := by decide +kernel
