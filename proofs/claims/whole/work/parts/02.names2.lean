theorem dX0_init_0 : decode cX0_init 0 = .ok (.aload_n 0, 1) := by decide +kernel
theorem dX0_init_1 : decode cX0_init 1 = .ok (.invokespecial 1, 3) := by decide +kernel
theorem dX0_init_4 : decode cX0_init 4 = .ok (.aload_n 0, 1) := by decide +kernel
theorem dX0_init_5 : decode cX0_init 5 = .ok (.sipush 240, 3) := by decide +kernel
theorem dX0_init_8 : decode cX0_init 8 = .ok (.newarray .int, 2) := by decide +kernel
theorem dX0_init_10 : decode cX0_init 10 = .ok (.putfield 7, 3) := by decide +kernel
theorem dX0_init_13 : decode cX0_init 13 = .ok (.aload_n 0, 1) := by decide +kernel
theorem dX0_init_14 : decode cX0_init 14 = .ok (.bipush 16, 2) := by decide +kernel
theorem dX0_init_16 : decode cX0_init 16 = .ok (.newarray .int, 2) := by decide +kernel
theorem dX0_init_18 : decode cX0_init 18 = .ok (.putfield 13, 3) := by decide +kernel
theorem dX0_init_21 : decode cX0_init 21 = .ok (.aload_n 0, 1) := by decide +kernel
theorem dX0_init_22 : decode cX0_init 22 = .ok (.bipush 16, 2) := by decide +kernel
theorem dX0_init_24 : decode cX0_init 24 = .ok (.newarray .int, 2) := by decide +kernel
theorem dX0_init_26 : decode cX0_init 26 = .ok (.putfield 16, 3) := by decide +kernel
theorem dX0_init_29 : decode cX0_init 29 = .ok (.aload_n 0, 1) := by decide +kernel
theorem dX0_init_30 : decode cX0_init 30 = .ok (.iconst 4, 1) := by decide +kernel
theorem dX0_init_31 : decode cX0_init 31 = .ok (.newarray .int, 2) := by decide +kernel
theorem dX0_init_33 : decode cX0_init 33 = .ok (.putfield 19, 3) := by decide +kernel
theorem dX0_init_36 : decode cX0_init 36 = .ok (.return_, 1) := by decide +kernel
set_option maxRecDepth 20000 in
theorem ggX0_shutChain_X0_spreadKey : GoodIn wsX0_shutChain wsX0_spreadKey := goodIn_ca (goodIn_r _ [6, 7, 8, 9, 10, 11, 12, 13, 14, 15, 16, 17, 18, 19, 20, 21, 22, 23, 5, 24, 25, 26, 27, 28, 29, 30, 31, 32, 50, 51, 52, 53, 54, 55, 56] (by decide +kernel) (by decide +kernel)) (goodIn_sub (fun _ h => List.mem_cons_of_mem _ (List.mem_append_right _ h)) (by decide +kernel))
set_option maxRecDepth 20000 in
theorem gX0_shutChain_X0_spreadKey : GoodIn wsX0_shutChain (wsV RX0 22 RX0 yX0_spreadKey wsX0_spreadKey) := goodIn_app (goodIn_of _ (by decide +kernel)) ggX0_shutChain_X0_spreadKey
set_option maxRecDepth 20000 in
theorem ggX0_shutChain_X5_count : GoodIn wsX0_shutChain wsX5_count := goodIn_r _ [14, 15, 55, 56] (by decide +kernel) (by decide +kernel)
set_option maxRecDepth 20000 in
theorem gX0_shutChain_X5_count : GoodIn wsX0_shutChain (wsV RX0 26 RX5 yX5_count wsX5_count) := goodIn_app (goodIn_of _ (by decide +kernel)) ggX0_shutChain_X5_count
set_option maxRecDepth 20000 in
theorem ggX0_shutChain_X5_at : GoodIn wsX0_shutChain wsX5_at := goodIn_ca (goodIn_r _ [19, 15, 20, 55, 56] (by decide +kernel) (by decide +kernel)) (goodIn_sub (fun _ h => List.mem_cons_of_mem _ (List.mem_append_right _ h)) (by decide +kernel))
set_option maxRecDepth 20000 in
theorem gX0_shutChain_X5_at : GoodIn wsX0_shutChain (wsV RX0 32 RX5 yX5_at wsX5_at) := goodIn_app (goodIn_of _ (by decide +kernel)) ggX0_shutChain_X5_at
set_option maxRecDepth 20000 in
theorem ggX0_shutChain_X0_shutBlock : GoodIn wsX0_shutChain wsX0_shutBlock := goodIn_ca (goodIn_r _ [36, 7, 37, 29, 1, 38, 39, 40, 5, 41, 8, 42, 43, 44, 45, 30, 31, 32, 50, 51, 52, 53, 54] (by decide +kernel) (by decide +kernel)) (goodIn_sub (fun _ h => List.mem_cons_of_mem _ (List.mem_append_right _ h)) (by decide +kernel))
set_option maxRecDepth 20000 in
theorem gX0_shutChain_X0_shutBlock : GoodIn wsX0_shutChain (wsV RX0 36 RX0 yX0_shutBlock wsX0_shutBlock) := goodIn_app (goodIn_of _ (by decide +kernel)) ggX0_shutChain_X0_shutBlock
set_option maxRecDepth 20000 in
theorem ggX0_shutChain_X5_put : GoodIn wsX0_shutChain wsX5_put := goodIn_ca (goodIn_r _ [49, 15, 20, 55, 56] (by decide +kernel) (by decide +kernel)) (goodIn_sub (fun _ h => List.mem_cons_of_mem _ (List.mem_append_right _ h)) (by decide +kernel))
set_option maxRecDepth 20000 in
theorem gX0_shutChain_X5_put : GoodIn wsX0_shutChain (wsV RX0 39 RX5 yX5_put wsX5_put) := goodIn_app (goodIn_of _ (by decide +kernel)) ggX0_shutChain_X5_put
theorem dX0_shutChain_0 : decode cX0_shutChain 0 = .ok (.aload_n 0, 1) := by decide +kernel
theorem dX0_shutChain_1 : decode cX0_shutChain 1 = .ok (.aload_n 1, 1) := by decide +kernel
theorem dX0_shutChain_2 : decode cX0_shutChain 2 = .ok (.invokevirtual 22, 3) := by decide +kernel
theorem dX0_shutChain_5 : decode cX0_shutChain 5 = .ok (.bipush 16, 2) := by decide +kernel
theorem dX0_shutChain_7 : decode cX0_shutChain 7 = .ok (.istore_n 3, 1) := by decide +kernel
theorem dX0_shutChain_8 : decode cX0_shutChain 8 = .ok (.iload_n 3, 1) := by decide +kernel
theorem dX0_shutChain_9 : decode cX0_shutChain 9 = .ok (.bipush 16, 2) := by decide +kernel
theorem dX0_shutChain_11 : decode cX0_shutChain 11 = .ok (.iadd, 1) := by decide +kernel
theorem dX0_shutChain_12 : decode cX0_shutChain 12 = .ok (.aload_n 2, 1) := by decide +kernel
theorem dX0_shutChain_13 : decode cX0_shutChain 13 = .ok (.invokevirtual 26, 3) := by decide +kernel
theorem dX0_shutChain_16 : decode cX0_shutChain 16 = .ok (.if_icmp .gt 87, 3) := by decide +kernel
theorem dX0_shutChain_19 : decode cX0_shutChain 19 = .ok (.iconst 0, 1) := by decide +kernel
theorem dX0_shutChain_20 : decode cX0_shutChain 20 = .ok (.istore 4, 2) := by decide +kernel
theorem dX0_shutChain_22 : decode cX0_shutChain 22 = .ok (.iload 4, 2) := by decide +kernel
theorem dX0_shutChain_24 : decode cX0_shutChain 24 = .ok (.bipush 16, 2) := by decide +kernel
theorem dX0_shutChain_26 : decode cX0_shutChain 26 = .ok (.if_icmp .ge 36, 3) := by decide +kernel
theorem dX0_shutChain_29 : decode cX0_shutChain 29 = .ok (.aload_n 0, 1) := by decide +kernel
theorem dX0_shutChain_30 : decode cX0_shutChain 30 = .ok (.getfield 13, 3) := by decide +kernel
theorem dX0_shutChain_33 : decode cX0_shutChain 33 = .ok (.iload 4, 2) := by decide +kernel
theorem dX0_shutChain_35 : decode cX0_shutChain 35 = .ok (.aload_n 2, 1) := by decide +kernel
theorem dX0_shutChain_36 : decode cX0_shutChain 36 = .ok (.iload_n 3, 1) := by decide +kernel
theorem dX0_shutChain_37 : decode cX0_shutChain 37 = .ok (.iload 4, 2) := by decide +kernel
theorem dX0_shutChain_39 : decode cX0_shutChain 39 = .ok (.iadd, 1) := by decide +kernel
theorem dX0_shutChain_40 : decode cX0_shutChain 40 = .ok (.invokevirtual 32, 3) := by decide +kernel
theorem dX0_shutChain_43 : decode cX0_shutChain 43 = .ok (.aload_n 2, 1) := by decide +kernel
theorem dX0_shutChain_44 : decode cX0_shutChain 44 = .ok (.iload_n 3, 1) := by decide +kernel
theorem dX0_shutChain_45 : decode cX0_shutChain 45 = .ok (.bipush 16, 2) := by decide +kernel
theorem dX0_shutChain_47 : decode cX0_shutChain 47 = .ok (.isub, 1) := by decide +kernel
theorem dX0_shutChain_48 : decode cX0_shutChain 48 = .ok (.iload 4, 2) := by decide +kernel
theorem dX0_shutChain_50 : decode cX0_shutChain 50 = .ok (.iadd, 1) := by decide +kernel
theorem dX0_shutChain_51 : decode cX0_shutChain 51 = .ok (.invokevirtual 32, 3) := by decide +kernel
theorem dX0_shutChain_54 : decode cX0_shutChain 54 = .ok (.ixor, 1) := by decide +kernel
theorem dX0_shutChain_55 : decode cX0_shutChain 55 = .ok (.iastore, 1) := by decide +kernel
theorem dX0_shutChain_56 : decode cX0_shutChain 56 = .ok (.iinc 4 1, 3) := by decide +kernel
theorem dX0_shutChain_59 : decode cX0_shutChain 59 = .ok (.goto (-37), 3) := by decide +kernel
theorem dX0_shutChain_62 : decode cX0_shutChain 62 = .ok (.aload_n 0, 1) := by decide +kernel
theorem dX0_shutChain_63 : decode cX0_shutChain 63 = .ok (.invokevirtual 36, 3) := by decide +kernel
theorem dX0_shutChain_66 : decode cX0_shutChain 66 = .ok (.iconst 0, 1) := by decide +kernel
theorem dX0_shutChain_67 : decode cX0_shutChain 67 = .ok (.istore 4, 2) := by decide +kernel
theorem dX0_shutChain_69 : decode cX0_shutChain 69 = .ok (.iload 4, 2) := by decide +kernel
theorem dX0_shutChain_71 : decode cX0_shutChain 71 = .ok (.bipush 16, 2) := by decide +kernel
theorem dX0_shutChain_73 : decode cX0_shutChain 73 = .ok (.if_icmp .ge 24, 3) := by decide +kernel
theorem dX0_shutChain_76 : decode cX0_shutChain 76 = .ok (.aload_n 2, 1) := by decide +kernel
theorem dX0_shutChain_77 : decode cX0_shutChain 77 = .ok (.iload_n 3, 1) := by decide +kernel
theorem dX0_shutChain_78 : decode cX0_shutChain 78 = .ok (.iload 4, 2) := by decide +kernel
theorem dX0_shutChain_80 : decode cX0_shutChain 80 = .ok (.iadd, 1) := by decide +kernel
theorem dX0_shutChain_81 : decode cX0_shutChain 81 = .ok (.aload_n 0, 1) := by decide +kernel
theorem dX0_shutChain_82 : decode cX0_shutChain 82 = .ok (.getfield 13, 3) := by decide +kernel
theorem dX0_shutChain_85 : decode cX0_shutChain 85 = .ok (.iload 4, 2) := by decide +kernel
theorem dX0_shutChain_87 : decode cX0_shutChain 87 = .ok (.iaload, 1) := by decide +kernel
theorem dX0_shutChain_88 : decode cX0_shutChain 88 = .ok (.invokevirtual 39, 3) := by decide +kernel
theorem dX0_shutChain_91 : decode cX0_shutChain 91 = .ok (.iinc 4 1, 3) := by decide +kernel
theorem dX0_shutChain_94 : decode cX0_shutChain 94 = .ok (.goto (-25), 3) := by decide +kernel
theorem dX0_shutChain_97 : decode cX0_shutChain 97 = .ok (.iinc 3 16, 3) := by decide +kernel
theorem dX0_shutChain_100 : decode cX0_shutChain 100 = .ok (.goto (-92), 3) := by decide +kernel
theorem dX0_shutChain_103 : decode cX0_shutChain 103 = .ok (.return_, 1) := by decide +kernel
set_option maxRecDepth 20000 in
theorem ggX0_openChain_X0_spreadKey : GoodIn wsX0_openChain wsX0_spreadKey := goodIn_ca (goodIn_r _ [6, 7, 8, 9, 10, 11, 12, 13, 14, 15, 16, 17, 18, 19, 20, 21, 22, 23, 5, 24, 25, 26, 27, 28, 29, 30, 31, 32, 51, 52, 53, 54, 55, 56, 57] (by decide +kernel) (by decide +kernel)) (goodIn_sub (fun _ h => List.mem_cons_of_mem _ (List.mem_append_right _ h)) (by decide +kernel))
set_option maxRecDepth 20000 in
theorem gX0_openChain_X0_spreadKey : GoodIn wsX0_openChain (wsV RX0 22 RX0 yX0_spreadKey wsX0_spreadKey) := goodIn_app (goodIn_of _ (by decide +kernel)) ggX0_openChain_X0_spreadKey
set_option maxRecDepth 20000 in
theorem ggX0_openChain_X5_count : GoodIn wsX0_openChain wsX5_count := goodIn_r _ [14, 15, 56, 57] (by decide +kernel) (by decide +kernel)
set_option maxRecDepth 20000 in
theorem gX0_openChain_X5_count : GoodIn wsX0_openChain (wsV RX0 26 RX5 yX5_count wsX5_count) := goodIn_app (goodIn_of _ (by decide +kernel)) ggX0_openChain_X5_count
set_option maxRecDepth 20000 in
theorem ggX0_openChain_X5_at : GoodIn wsX0_openChain wsX5_at := goodIn_ca (goodIn_r _ [19, 15, 20, 56, 57] (by decide +kernel) (by decide +kernel)) (goodIn_sub (fun _ h => List.mem_cons_of_mem _ (List.mem_append_right _ h)) (by decide +kernel))
set_option maxRecDepth 20000 in
theorem gX0_openChain_X5_at : GoodIn wsX0_openChain (wsV RX0 32 RX5 yX5_at wsX5_at) := goodIn_app (goodIn_of _ (by decide +kernel)) ggX0_openChain_X5_at
set_option maxRecDepth 20000 in
theorem ggX0_openChain_X0_openBlock : GoodIn wsX0_openChain wsX0_openBlock := goodIn_ca (goodIn_r _ [36, 7, 1, 37, 38, 39, 40, 41, 5, 42, 8, 43, 44, 45, 46, 30, 31, 32, 51, 52, 53, 54, 55] (by decide +kernel) (by decide +kernel)) (goodIn_sub (fun _ h => List.mem_cons_of_mem _ (List.mem_append_right _ h)) (by decide +kernel))
set_option maxRecDepth 20000 in
theorem gX0_openChain_X0_openBlock : GoodIn wsX0_openChain (wsV RX0 43 RX0 yX0_openBlock wsX0_openBlock) := goodIn_app (goodIn_of _ (by decide +kernel)) ggX0_openChain_X0_openBlock
set_option maxRecDepth 20000 in
theorem ggX0_openChain_X5_put : GoodIn wsX0_openChain wsX5_put := goodIn_ca (goodIn_r _ [50, 15, 20, 56, 57] (by decide +kernel) (by decide +kernel)) (goodIn_sub (fun _ h => List.mem_cons_of_mem _ (List.mem_append_right _ h)) (by decide +kernel))
set_option maxRecDepth 20000 in
theorem gX0_openChain_X5_put : GoodIn wsX0_openChain (wsV RX0 39 RX5 yX5_put wsX5_put) := goodIn_app (goodIn_of _ (by decide +kernel)) ggX0_openChain_X5_put
theorem dX0_openChain_0 : decode cX0_openChain 0 = .ok (.aload_n 0, 1) := by decide +kernel
theorem dX0_openChain_1 : decode cX0_openChain 1 = .ok (.aload_n 1, 1) := by decide +kernel
theorem dX0_openChain_2 : decode cX0_openChain 2 = .ok (.invokevirtual 22, 3) := by decide +kernel
theorem dX0_openChain_5 : decode cX0_openChain 5 = .ok (.aload_n 2, 1) := by decide +kernel
theorem dX0_openChain_6 : decode cX0_openChain 6 = .ok (.invokevirtual 26, 3) := by decide +kernel
theorem dX0_openChain_9 : decode cX0_openChain 9 = .ok (.bipush (-16), 2) := by decide +kernel
theorem dX0_openChain_11 : decode cX0_openChain 11 = .ok (.iand, 1) := by decide +kernel
theorem dX0_openChain_12 : decode cX0_openChain 12 = .ok (.bipush 16, 2) := by decide +kernel
theorem dX0_openChain_14 : decode cX0_openChain 14 = .ok (.isub, 1) := by decide +kernel
theorem dX0_openChain_15 : decode cX0_openChain 15 = .ok (.istore_n 3, 1) := by decide +kernel
theorem dX0_openChain_16 : decode cX0_openChain 16 = .ok (.iload_n 3, 1) := by decide +kernel
theorem dX0_openChain_17 : decode cX0_openChain 17 = .ok (.bipush 16, 2) := by decide +kernel
theorem dX0_openChain_19 : decode cX0_openChain 19 = .ok (.if_icmp .lt 87, 3) := by decide +kernel
theorem dX0_openChain_22 : decode cX0_openChain 22 = .ok (.iconst 0, 1) := by decide +kernel
theorem dX0_openChain_23 : decode cX0_openChain 23 = .ok (.istore 4, 2) := by decide +kernel
theorem dX0_openChain_25 : decode cX0_openChain 25 = .ok (.iload 4, 2) := by decide +kernel
theorem dX0_openChain_27 : decode cX0_openChain 27 = .ok (.bipush 16, 2) := by decide +kernel
theorem dX0_openChain_29 : decode cX0_openChain 29 = .ok (.if_icmp .ge 24, 3) := by decide +kernel
theorem dX0_openChain_32 : decode cX0_openChain 32 = .ok (.aload_n 0, 1) := by decide +kernel
theorem dX0_openChain_33 : decode cX0_openChain 33 = .ok (.getfield 13, 3) := by decide +kernel
theorem dX0_openChain_36 : decode cX0_openChain 36 = .ok (.iload 4, 2) := by decide +kernel
theorem dX0_openChain_38 : decode cX0_openChain 38 = .ok (.aload_n 2, 1) := by decide +kernel
theorem dX0_openChain_39 : decode cX0_openChain 39 = .ok (.iload_n 3, 1) := by decide +kernel
theorem dX0_openChain_40 : decode cX0_openChain 40 = .ok (.iload 4, 2) := by decide +kernel
theorem dX0_openChain_42 : decode cX0_openChain 42 = .ok (.iadd, 1) := by decide +kernel
theorem dX0_openChain_43 : decode cX0_openChain 43 = .ok (.invokevirtual 32, 3) := by decide +kernel
theorem dX0_openChain_46 : decode cX0_openChain 46 = .ok (.iastore, 1) := by decide +kernel
theorem dX0_openChain_47 : decode cX0_openChain 47 = .ok (.iinc 4 1, 3) := by decide +kernel
theorem dX0_openChain_50 : decode cX0_openChain 50 = .ok (.goto (-25), 3) := by decide +kernel
theorem dX0_openChain_53 : decode cX0_openChain 53 = .ok (.aload_n 0, 1) := by decide +kernel
theorem dX0_openChain_54 : decode cX0_openChain 54 = .ok (.invokevirtual 43, 3) := by decide +kernel
theorem dX0_openChain_57 : decode cX0_openChain 57 = .ok (.iconst 0, 1) := by decide +kernel
theorem dX0_openChain_58 : decode cX0_openChain 58 = .ok (.istore 4, 2) := by decide +kernel
theorem dX0_openChain_60 : decode cX0_openChain 60 = .ok (.iload 4, 2) := by decide +kernel
theorem dX0_openChain_62 : decode cX0_openChain 62 = .ok (.bipush 16, 2) := by decide +kernel
theorem dX0_openChain_64 : decode cX0_openChain 64 = .ok (.if_icmp .ge 36, 3) := by decide +kernel
theorem dX0_openChain_67 : decode cX0_openChain 67 = .ok (.aload_n 2, 1) := by decide +kernel
theorem dX0_openChain_68 : decode cX0_openChain 68 = .ok (.iload_n 3, 1) := by decide +kernel
theorem dX0_openChain_69 : decode cX0_openChain 69 = .ok (.iload 4, 2) := by decide +kernel
theorem dX0_openChain_71 : decode cX0_openChain 71 = .ok (.iadd, 1) := by decide +kernel
theorem dX0_openChain_72 : decode cX0_openChain 72 = .ok (.aload_n 0, 1) := by decide +kernel
theorem dX0_openChain_73 : decode cX0_openChain 73 = .ok (.getfield 13, 3) := by decide +kernel
theorem dX0_openChain_76 : decode cX0_openChain 76 = .ok (.iload 4, 2) := by decide +kernel
theorem dX0_openChain_78 : decode cX0_openChain 78 = .ok (.iaload, 1) := by decide +kernel
theorem dX0_openChain_79 : decode cX0_openChain 79 = .ok (.aload_n 2, 1) := by decide +kernel
theorem dX0_openChain_80 : decode cX0_openChain 80 = .ok (.iload_n 3, 1) := by decide +kernel
theorem dX0_openChain_81 : decode cX0_openChain 81 = .ok (.bipush 16, 2) := by decide +kernel
theorem dX0_openChain_83 : decode cX0_openChain 83 = .ok (.isub, 1) := by decide +kernel
theorem dX0_openChain_84 : decode cX0_openChain 84 = .ok (.iload 4, 2) := by decide +kernel
theorem dX0_openChain_86 : decode cX0_openChain 86 = .ok (.iadd, 1) := by decide +kernel
theorem dX0_openChain_87 : decode cX0_openChain 87 = .ok (.invokevirtual 32, 3) := by decide +kernel
theorem dX0_openChain_90 : decode cX0_openChain 90 = .ok (.ixor, 1) := by decide +kernel
theorem dX0_openChain_91 : decode cX0_openChain 91 = .ok (.invokevirtual 39, 3) := by decide +kernel
theorem dX0_openChain_94 : decode cX0_openChain 94 = .ok (.iinc 4 1, 3) := by decide +kernel
theorem dX0_openChain_97 : decode cX0_openChain 97 = .ok (.goto (-37), 3) := by decide +kernel
theorem dX0_openChain_100 : decode cX0_openChain 100 = .ok (.iinc 3 (-16), 3) := by decide +kernel
theorem dX0_openChain_103 : decode cX0_openChain 103 = .ok (.goto (-87), 3) := by decide +kernel
theorem dX0_openChain_106 : decode cX0_openChain 106 = .ok (.return_, 1) := by decide +kernel
set_option maxRecDepth 20000 in
theorem ggX0_spreadKey_X5_count : GoodIn wsX0_spreadKey wsX5_count := goodIn_r _ [8, 9, 33, 34] (by decide +kernel) (by decide +kernel)
set_option maxRecDepth 20000 in
theorem gX0_spreadKey_X5_count : GoodIn wsX0_spreadKey (wsV RX0 26 RX5 yX5_count wsX5_count) := goodIn_app (goodIn_of _ (by decide +kernel)) ggX0_spreadKey_X5_count
set_option maxRecDepth 20000 in
theorem ggX0_spreadKey_X5_at : GoodIn wsX0_spreadKey wsX5_at := goodIn_ca (goodIn_r _ [13, 9, 14, 33, 34] (by decide +kernel) (by decide +kernel)) (goodIn_sub (fun _ h => List.mem_cons_of_mem _ (List.mem_append_right _ h)) (by decide +kernel))
set_option maxRecDepth 20000 in
theorem gX0_spreadKey_X5_at : GoodIn wsX0_spreadKey (wsV RX0 32 RX5 yX5_at wsX5_at) := goodIn_app (goodIn_of _ (by decide +kernel)) ggX0_spreadKey_X5_at
set_option maxRecDepth 20000 in
theorem ggX0_spreadKey_X0_turnLast : GoodIn wsX0_spreadKey wsX0_turnLast := goodIn_ca (goodIn_r _ [19, 3, 20, 21, 22, 18, 23, 24, 28, 29, 30, 31, 32] (by decide +kernel) (by decide +kernel)) (goodIn_sub (fun _ h => List.mem_cons_of_mem _ (List.mem_append_right _ h)) (by decide +kernel))
set_option maxRecDepth 20000 in
theorem gX0_spreadKey_X0_turnLast : GoodIn wsX0_spreadKey (wsV RX0 50 RX0 yX0_turnLast wsX0_turnLast) := goodIn_app (goodIn_of _ (by decide +kernel)) ggX0_spreadKey_X0_turnLast
set_option maxRecDepth 20000 in
theorem ggX0_spreadKey_X0_twice : GoodIn wsX0_spreadKey wsX0_twice := goodIn_r _ [27] (by decide +kernel) (by decide +kernel)
set_option maxRecDepth 20000 in
theorem gX0_spreadKey_X0_twice : GoodIn wsX0_spreadKey (va_wsS RX0 54 yX0_twice wsX0_twice) := goodIn_app (goodIn_of _ (by decide +kernel)) ggX0_spreadKey_X0_twice
set_option maxRecDepth 20000 in
theorem ggX0_spreadKey_X0_substituteLast : GoodIn wsX0_spreadKey wsX0_substituteLast := goodIn_ca (goodIn_r _ [23, 3, 24, 28, 29, 30, 31, 32] (by decide +kernel) (by decide +kernel)) (goodIn_sub (fun _ h => List.mem_cons_of_mem _ (List.mem_append_right _ h)) (by decide +kernel))
set_option maxRecDepth 20000 in
theorem gX0_spreadKey_X0_substituteLast : GoodIn wsX0_spreadKey (wsV RX0 57 RX0 yX0_substituteLast wsX0_substituteLast) := goodIn_app (goodIn_of _ (by decide +kernel)) ggX0_spreadKey_X0_substituteLast
theorem dX0_spreadKey_0 : decode cX0_spreadKey 0 = .ok (.aload_n 1, 1) := by decide +kernel
theorem dX0_spreadKey_1 : decode cX0_spreadKey 1 = .ok (.invokevirtual 26, 3) := by decide +kernel
theorem dX0_spreadKey_4 : decode cX0_spreadKey 4 = .ok (.bipush 16, 2) := by decide +kernel
theorem dX0_spreadKey_6 : decode cX0_spreadKey 6 = .ok (.if_icmp .le 8, 3) := by decide +kernel
theorem dX0_spreadKey_9 : decode cX0_spreadKey 9 = .ok (.bipush 32, 2) := by decide +kernel
theorem dX0_spreadKey_11 : decode cX0_spreadKey 11 = .ok (.goto 5, 3) := by decide +kernel
theorem dX0_spreadKey_14 : decode cX0_spreadKey 14 = .ok (.bipush 16, 2) := by decide +kernel
theorem dX0_spreadKey_16 : decode cX0_spreadKey 16 = .ok (.istore_n 2, 1) := by decide +kernel
theorem dX0_spreadKey_17 : decode cX0_spreadKey 17 = .ok (.aload_n 0, 1) := by decide +kernel
theorem dX0_spreadKey_18 : decode cX0_spreadKey 18 = .ok (.iload_n 2, 1) := by decide +kernel
theorem dX0_spreadKey_19 : decode cX0_spreadKey 19 = .ok (.bipush 32, 2) := by decide +kernel
theorem dX0_spreadKey_21 : decode cX0_spreadKey 21 = .ok (.if_icmp .ne 8, 3) := by decide +kernel
theorem dX0_spreadKey_24 : decode cX0_spreadKey 24 = .ok (.bipush 14, 2) := by decide +kernel
theorem dX0_spreadKey_26 : decode cX0_spreadKey 26 = .ok (.goto 5, 3) := by decide +kernel
theorem dX0_spreadKey_29 : decode cX0_spreadKey 29 = .ok (.bipush 10, 2) := by decide +kernel
theorem dX0_spreadKey_31 : decode cX0_spreadKey 31 = .ok (.putfield 46, 3) := by decide +kernel
theorem dX0_spreadKey_34 : decode cX0_spreadKey 34 = .ok (.iconst 0, 1) := by decide +kernel
theorem dX0_spreadKey_35 : decode cX0_spreadKey 35 = .ok (.istore_n 3, 1) := by decide +kernel
theorem dX0_spreadKey_36 : decode cX0_spreadKey 36 = .ok (.iload_n 3, 1) := by decide +kernel
theorem dX0_spreadKey_37 : decode cX0_spreadKey 37 = .ok (.iload_n 2, 1) := by decide +kernel
theorem dX0_spreadKey_38 : decode cX0_spreadKey 38 = .ok (.if_icmp .ge 20, 3) := by decide +kernel
theorem dX0_spreadKey_41 : decode cX0_spreadKey 41 = .ok (.aload_n 0, 1) := by decide +kernel
theorem dX0_spreadKey_42 : decode cX0_spreadKey 42 = .ok (.getfield 7, 3) := by decide +kernel
theorem dX0_spreadKey_45 : decode cX0_spreadKey 45 = .ok (.iload_n 3, 1) := by decide +kernel
theorem dX0_spreadKey_46 : decode cX0_spreadKey 46 = .ok (.aload_n 1, 1) := by decide +kernel
theorem dX0_spreadKey_47 : decode cX0_spreadKey 47 = .ok (.iload_n 3, 1) := by decide +kernel
theorem dX0_spreadKey_48 : decode cX0_spreadKey 48 = .ok (.invokevirtual 32, 3) := by decide +kernel
theorem dX0_spreadKey_51 : decode cX0_spreadKey 51 = .ok (.iastore, 1) := by decide +kernel
theorem dX0_spreadKey_52 : decode cX0_spreadKey 52 = .ok (.iinc 3 1, 3) := by decide +kernel
theorem dX0_spreadKey_55 : decode cX0_spreadKey 55 = .ok (.goto (-19), 3) := by decide +kernel
theorem dX0_spreadKey_58 : decode cX0_spreadKey 58 = .ok (.iconst 1, 1) := by decide +kernel
theorem dX0_spreadKey_59 : decode cX0_spreadKey 59 = .ok (.istore_n 3, 1) := by decide +kernel
theorem dX0_spreadKey_60 : decode cX0_spreadKey 60 = .ok (.iload_n 2, 1) := by decide +kernel
theorem dX0_spreadKey_61 : decode cX0_spreadKey 61 = .ok (.istore 4, 2) := by decide +kernel
theorem dX0_spreadKey_63 : decode cX0_spreadKey 63 = .ok (.iload 4, 2) := by decide +kernel
theorem dX0_spreadKey_65 : decode cX0_spreadKey 65 = .ok (.bipush 16, 2) := by decide +kernel
theorem dX0_spreadKey_67 : decode cX0_spreadKey 67 = .ok (.aload_n 0, 1) := by decide +kernel
theorem dX0_spreadKey_68 : decode cX0_spreadKey 68 = .ok (.getfield 46, 3) := by decide +kernel
theorem dX0_spreadKey_71 : decode cX0_spreadKey 71 = .ok (.iconst 1, 1) := by decide +kernel
theorem dX0_spreadKey_72 : decode cX0_spreadKey 72 = .ok (.iadd, 1) := by decide +kernel
theorem dX0_spreadKey_73 : decode cX0_spreadKey 73 = .ok (.imul, 1) := by decide +kernel
theorem dX0_spreadKey_74 : decode cX0_spreadKey 74 = .ok (.if_icmp .ge 125, 3) := by decide +kernel
theorem dX0_spreadKey_77 : decode cX0_spreadKey 77 = .ok (.iconst 0, 1) := by decide +kernel
theorem dX0_spreadKey_78 : decode cX0_spreadKey 78 = .ok (.istore 5, 2) := by decide +kernel
theorem dX0_spreadKey_80 : decode cX0_spreadKey 80 = .ok (.iload 5, 2) := by decide +kernel
theorem dX0_spreadKey_82 : decode cX0_spreadKey 82 = .ok (.iconst 4, 1) := by decide +kernel
theorem dX0_spreadKey_83 : decode cX0_spreadKey 83 = .ok (.if_icmp .ge 28, 3) := by decide +kernel
theorem dX0_spreadKey_86 : decode cX0_spreadKey 86 = .ok (.aload_n 0, 1) := by decide +kernel
theorem dX0_spreadKey_87 : decode cX0_spreadKey 87 = .ok (.getfield 19, 3) := by decide +kernel
theorem dX0_spreadKey_90 : decode cX0_spreadKey 90 = .ok (.iload 5, 2) := by decide +kernel
theorem dX0_spreadKey_92 : decode cX0_spreadKey 92 = .ok (.aload_n 0, 1) := by decide +kernel
theorem dX0_spreadKey_93 : decode cX0_spreadKey 93 = .ok (.getfield 7, 3) := by decide +kernel
theorem dX0_spreadKey_96 : decode cX0_spreadKey 96 = .ok (.iload 4, 2) := by decide +kernel
theorem dX0_spreadKey_98 : decode cX0_spreadKey 98 = .ok (.iconst 4, 1) := by decide +kernel
theorem dX0_spreadKey_99 : decode cX0_spreadKey 99 = .ok (.isub, 1) := by decide +kernel
theorem dX0_spreadKey_100 : decode cX0_spreadKey 100 = .ok (.iload 5, 2) := by decide +kernel
theorem dX0_spreadKey_102 : decode cX0_spreadKey 102 = .ok (.iadd, 1) := by decide +kernel
theorem dX0_spreadKey_103 : decode cX0_spreadKey 103 = .ok (.iaload, 1) := by decide +kernel
theorem dX0_spreadKey_104 : decode cX0_spreadKey 104 = .ok (.iastore, 1) := by decide +kernel
theorem dX0_spreadKey_105 : decode cX0_spreadKey 105 = .ok (.iinc 5 1, 3) := by decide +kernel
theorem dX0_spreadKey_108 : decode cX0_spreadKey 108 = .ok (.goto (-28), 3) := by decide +kernel
theorem dX0_spreadKey_111 : decode cX0_spreadKey 111 = .ok (.iload 4, 2) := by decide +kernel
theorem dX0_spreadKey_113 : decode cX0_spreadKey 113 = .ok (.iload_n 2, 1) := by decide +kernel
theorem dX0_spreadKey_114 : decode cX0_spreadKey 114 = .ok (.iconst 1, 1) := by decide +kernel
theorem dX0_spreadKey_115 : decode cX0_spreadKey 115 = .ok (.isub, 1) := by decide +kernel
theorem dX0_spreadKey_116 : decode cX0_spreadKey 116 = .ok (.iand, 1) := by decide +kernel
theorem dX0_spreadKey_117 : decode cX0_spreadKey 117 = .ok (.istore 5, 2) := by decide +kernel
theorem dX0_spreadKey_119 : decode cX0_spreadKey 119 = .ok (.iload 5, 2) := by decide +kernel
theorem dX0_spreadKey_121 : decode cX0_spreadKey 121 = .ok (.ifCond .ne 16, 3) := by decide +kernel
theorem dX0_spreadKey_124 : decode cX0_spreadKey 124 = .ok (.aload_n 0, 1) := by decide +kernel
theorem dX0_spreadKey_125 : decode cX0_spreadKey 125 = .ok (.iload_n 3, 1) := by decide +kernel
theorem dX0_spreadKey_126 : decode cX0_spreadKey 126 = .ok (.invokevirtual 50, 3) := by decide +kernel
theorem dX0_spreadKey_129 : decode cX0_spreadKey 129 = .ok (.iload_n 3, 1) := by decide +kernel
theorem dX0_spreadKey_130 : decode cX0_spreadKey 130 = .ok (.invokestatic 54, 3) := by decide +kernel
theorem dX0_spreadKey_133 : decode cX0_spreadKey 133 = .ok (.istore_n 3, 1) := by decide +kernel
theorem dX0_spreadKey_134 : decode cX0_spreadKey 134 = .ok (.goto 14, 3) := by decide +kernel
theorem dX0_spreadKey_137 : decode cX0_spreadKey 137 = .ok (.iload 5, 2) := by decide +kernel
theorem dX0_spreadKey_139 : decode cX0_spreadKey 139 = .ok (.bipush 16, 2) := by decide +kernel
theorem dX0_spreadKey_141 : decode cX0_spreadKey 141 = .ok (.if_icmp .ne 7, 3) := by decide +kernel
theorem dX0_spreadKey_144 : decode cX0_spreadKey 144 = .ok (.aload_n 0, 1) := by decide +kernel
theorem dX0_spreadKey_145 : decode cX0_spreadKey 145 = .ok (.invokevirtual 57, 3) := by decide +kernel
theorem dX0_spreadKey_148 : decode cX0_spreadKey 148 = .ok (.iconst 0, 1) := by decide +kernel
theorem dX0_spreadKey_149 : decode cX0_spreadKey 149 = .ok (.istore 6, 2) := by decide +kernel
theorem dX0_spreadKey_151 : decode cX0_spreadKey 151 = .ok (.iload 6, 2) := by decide +kernel
theorem dX0_spreadKey_153 : decode cX0_spreadKey 153 = .ok (.iconst 4, 1) := by decide +kernel
theorem dX0_spreadKey_154 : decode cX0_spreadKey 154 = .ok (.if_icmp .ge 39, 3) := by decide +kernel
theorem dX0_spreadKey_157 : decode cX0_spreadKey 157 = .ok (.aload_n 0, 1) := by decide +kernel
theorem dX0_spreadKey_158 : decode cX0_spreadKey 158 = .ok (.getfield 7, 3) := by decide +kernel
theorem dX0_spreadKey_161 : decode cX0_spreadKey 161 = .ok (.iload 4, 2) := by decide +kernel
theorem dX0_spreadKey_163 : decode cX0_spreadKey 163 = .ok (.iload 6, 2) := by decide +kernel
theorem dX0_spreadKey_165 : decode cX0_spreadKey 165 = .ok (.iadd, 1) := by decide +kernel
theorem dX0_spreadKey_166 : decode cX0_spreadKey 166 = .ok (.aload_n 0, 1) := by decide +kernel
theorem dX0_spreadKey_167 : decode cX0_spreadKey 167 = .ok (.getfield 7, 3) := by decide +kernel
theorem dX0_spreadKey_170 : decode cX0_spreadKey 170 = .ok (.iload 4, 2) := by decide +kernel
theorem dX0_spreadKey_172 : decode cX0_spreadKey 172 = .ok (.iload_n 2, 1) := by decide +kernel
theorem dX0_spreadKey_173 : decode cX0_spreadKey 173 = .ok (.isub, 1) := by decide +kernel
theorem dX0_spreadKey_174 : decode cX0_spreadKey 174 = .ok (.iload 6, 2) := by decide +kernel
theorem dX0_spreadKey_176 : decode cX0_spreadKey 176 = .ok (.iadd, 1) := by decide +kernel
theorem dX0_spreadKey_177 : decode cX0_spreadKey 177 = .ok (.iaload, 1) := by decide +kernel
theorem dX0_spreadKey_178 : decode cX0_spreadKey 178 = .ok (.aload_n 0, 1) := by decide +kernel
theorem dX0_spreadKey_179 : decode cX0_spreadKey 179 = .ok (.getfield 19, 3) := by decide +kernel
theorem dX0_spreadKey_182 : decode cX0_spreadKey 182 = .ok (.iload 6, 2) := by decide +kernel
theorem dX0_spreadKey_184 : decode cX0_spreadKey 184 = .ok (.iaload, 1) := by decide +kernel
theorem dX0_spreadKey_185 : decode cX0_spreadKey 185 = .ok (.ixor, 1) := by decide +kernel
theorem dX0_spreadKey_186 : decode cX0_spreadKey 186 = .ok (.iastore, 1) := by decide +kernel
theorem dX0_spreadKey_187 : decode cX0_spreadKey 187 = .ok (.iinc 6 1, 3) := by decide +kernel
theorem dX0_spreadKey_190 : decode cX0_spreadKey 190 = .ok (.goto (-39), 3) := by decide +kernel
theorem dX0_spreadKey_193 : decode cX0_spreadKey 193 = .ok (.iinc 4 4, 3) := by decide +kernel
theorem dX0_spreadKey_196 : decode cX0_spreadKey 196 = .ok (.goto (-133), 3) := by decide +kernel
theorem dX0_spreadKey_199 : decode cX0_spreadKey 199 = .ok (.return_, 1) := by decide +kernel
set_option maxRecDepth 20000 in
theorem ggX0_turnLast_X0_substituteLast : GoodIn wsX0_turnLast wsX0_substituteLast := goodIn_ca (goodIn_r _ [6, 1, 7, 8, 9, 10, 11, 12] (by decide +kernel) (by decide +kernel)) (goodIn_sub (fun _ h => List.mem_cons_of_mem _ (List.mem_append_right _ h)) (by decide +kernel))
set_option maxRecDepth 20000 in
theorem gX0_turnLast_X0_substituteLast : GoodIn wsX0_turnLast (wsV RX0 57 RX0 yX0_substituteLast wsX0_substituteLast) := goodIn_app (goodIn_of _ (by decide +kernel)) ggX0_turnLast_X0_substituteLast
theorem dX0_turnLast_0 : decode cX0_turnLast 0 = .ok (.aload_n 0, 1) := by decide +kernel
theorem dX0_turnLast_1 : decode cX0_turnLast 1 = .ok (.getfield 19, 3) := by decide +kernel
theorem dX0_turnLast_4 : decode cX0_turnLast 4 = .ok (.iconst 0, 1) := by decide +kernel
theorem dX0_turnLast_5 : decode cX0_turnLast 5 = .ok (.iaload, 1) := by decide +kernel
theorem dX0_turnLast_6 : decode cX0_turnLast 6 = .ok (.istore_n 2, 1) := by decide +kernel
theorem dX0_turnLast_7 : decode cX0_turnLast 7 = .ok (.aload_n 0, 1) := by decide +kernel
theorem dX0_turnLast_8 : decode cX0_turnLast 8 = .ok (.getfield 19, 3) := by decide +kernel
theorem dX0_turnLast_11 : decode cX0_turnLast 11 = .ok (.iconst 0, 1) := by decide +kernel
theorem dX0_turnLast_12 : decode cX0_turnLast 12 = .ok (.aload_n 0, 1) := by decide +kernel
theorem dX0_turnLast_13 : decode cX0_turnLast 13 = .ok (.getfield 19, 3) := by decide +kernel
theorem dX0_turnLast_16 : decode cX0_turnLast 16 = .ok (.iconst 1, 1) := by decide +kernel
theorem dX0_turnLast_17 : decode cX0_turnLast 17 = .ok (.iaload, 1) := by decide +kernel
theorem dX0_turnLast_18 : decode cX0_turnLast 18 = .ok (.iastore, 1) := by decide +kernel
theorem dX0_turnLast_19 : decode cX0_turnLast 19 = .ok (.aload_n 0, 1) := by decide +kernel
theorem dX0_turnLast_20 : decode cX0_turnLast 20 = .ok (.getfield 19, 3) := by decide +kernel
theorem dX0_turnLast_23 : decode cX0_turnLast 23 = .ok (.iconst 1, 1) := by decide +kernel
theorem dX0_turnLast_24 : decode cX0_turnLast 24 = .ok (.aload_n 0, 1) := by decide +kernel
theorem dX0_turnLast_25 : decode cX0_turnLast 25 = .ok (.getfield 19, 3) := by decide +kernel
theorem dX0_turnLast_28 : decode cX0_turnLast 28 = .ok (.iconst 2, 1) := by decide +kernel
theorem dX0_turnLast_29 : decode cX0_turnLast 29 = .ok (.iaload, 1) := by decide +kernel
theorem dX0_turnLast_30 : decode cX0_turnLast 30 = .ok (.iastore, 1) := by decide +kernel
theorem dX0_turnLast_31 : decode cX0_turnLast 31 = .ok (.aload_n 0, 1) := by decide +kernel
theorem dX0_turnLast_32 : decode cX0_turnLast 32 = .ok (.getfield 19, 3) := by decide +kernel
theorem dX0_turnLast_35 : decode cX0_turnLast 35 = .ok (.iconst 2, 1) := by decide +kernel
theorem dX0_turnLast_36 : decode cX0_turnLast 36 = .ok (.aload_n 0, 1) := by decide +kernel
theorem dX0_turnLast_37 : decode cX0_turnLast 37 = .ok (.getfield 19, 3) := by decide +kernel
theorem dX0_turnLast_40 : decode cX0_turnLast 40 = .ok (.iconst 3, 1) := by decide +kernel
theorem dX0_turnLast_41 : decode cX0_turnLast 41 = .ok (.iaload, 1) := by decide +kernel
theorem dX0_turnLast_42 : decode cX0_turnLast 42 = .ok (.iastore, 1) := by decide +kernel
theorem dX0_turnLast_43 : decode cX0_turnLast 43 = .ok (.aload_n 0, 1) := by decide +kernel
theorem dX0_turnLast_44 : decode cX0_turnLast 44 = .ok (.getfield 19, 3) := by decide +kernel
theorem dX0_turnLast_47 : decode cX0_turnLast 47 = .ok (.iconst 3, 1) := by decide +kernel
theorem dX0_turnLast_48 : decode cX0_turnLast 48 = .ok (.iload_n 2, 1) := by decide +kernel
theorem dX0_turnLast_49 : decode cX0_turnLast 49 = .ok (.iastore, 1) := by decide +kernel
theorem dX0_turnLast_50 : decode cX0_turnLast 50 = .ok (.aload_n 0, 1) := by decide +kernel
theorem dX0_turnLast_51 : decode cX0_turnLast 51 = .ok (.invokevirtual 57, 3) := by decide +kernel
theorem dX0_turnLast_54 : decode cX0_turnLast 54 = .ok (.aload_n 0, 1) := by decide +kernel
theorem dX0_turnLast_55 : decode cX0_turnLast 55 = .ok (.getfield 19, 3) := by decide +kernel
theorem dX0_turnLast_58 : decode cX0_turnLast 58 = .ok (.iconst 0, 1) := by decide +kernel
theorem dX0_turnLast_59 : decode cX0_turnLast 59 = .ok (.dup2, 1) := by decide +kernel
theorem dX0_turnLast_60 : decode cX0_turnLast 60 = .ok (.iaload, 1) := by decide +kernel
theorem dX0_turnLast_61 : decode cX0_turnLast 61 = .ok (.iload_n 1, 1) := by decide +kernel
theorem dX0_turnLast_62 : decode cX0_turnLast 62 = .ok (.ixor, 1) := by decide +kernel
theorem dX0_turnLast_63 : decode cX0_turnLast 63 = .ok (.iastore, 1) := by decide +kernel
theorem dX0_turnLast_64 : decode cX0_turnLast 64 = .ok (.return_, 1) := by decide +kernel
theorem dX0_substituteLast_0 : decode cX0_substituteLast 0 = .ok (.iconst 0, 1) := by decide +kernel
theorem dX0_substituteLast_1 : decode cX0_substituteLast 1 = .ok (.istore_n 1, 1) := by decide +kernel
theorem dX0_substituteLast_2 : decode cX0_substituteLast 2 = .ok (.iload_n 1, 1) := by decide +kernel
theorem dX0_substituteLast_3 : decode cX0_substituteLast 3 = .ok (.iconst 4, 1) := by decide +kernel
theorem dX0_substituteLast_4 : decode cX0_substituteLast 4 = .ok (.if_icmp .ge 29, 3) := by decide +kernel
theorem dX0_substituteLast_7 : decode cX0_substituteLast 7 = .ok (.aload_n 0, 1) := by decide +kernel
theorem dX0_substituteLast_8 : decode cX0_substituteLast 8 = .ok (.getfield 19, 3) := by decide +kernel
theorem dX0_substituteLast_11 : decode cX0_substituteLast 11 = .ok (.iload_n 1, 1) := by decide +kernel
theorem dX0_substituteLast_12 : decode cX0_substituteLast 12 = .ok (.getstatic 60, 3) := by decide +kernel
theorem dX0_substituteLast_15 : decode cX0_substituteLast 15 = .ok (.aload_n 0, 1) := by decide +kernel
theorem dX0_substituteLast_16 : decode cX0_substituteLast 16 = .ok (.getfield 19, 3) := by decide +kernel
theorem dX0_substituteLast_19 : decode cX0_substituteLast 19 = .ok (.iload_n 1, 1) := by decide +kernel
theorem dX0_substituteLast_20 : decode cX0_substituteLast 20 = .ok (.iaload, 1) := by decide +kernel
theorem dX0_substituteLast_21 : decode cX0_substituteLast 21 = .ok (.sipush 255, 3) := by decide +kernel
theorem dX0_substituteLast_24 : decode cX0_substituteLast 24 = .ok (.iand, 1) := by decide +kernel
theorem dX0_substituteLast_25 : decode cX0_substituteLast 25 = .ok (.iaload, 1) := by decide +kernel
theorem dX0_substituteLast_26 : decode cX0_substituteLast 26 = .ok (.iastore, 1) := by decide +kernel
theorem dX0_substituteLast_27 : decode cX0_substituteLast 27 = .ok (.iinc 1 1, 3) := by decide +kernel
theorem dX0_substituteLast_30 : decode cX0_substituteLast 30 = .ok (.goto (-28), 3) := by decide +kernel
theorem dX0_substituteLast_33 : decode cX0_substituteLast 33 = .ok (.return_, 1) := by decide +kernel
set_option maxRecDepth 20000 in
theorem ggX0_shutBlock_X0_addKey : GoodIn wsX0_shutBlock wsX0_addKey := goodIn_ca (goodIn_r _ [9, 4, 10, 18, 19, 20, 21, 22] (by decide +kernel) (by decide +kernel)) (goodIn_sub (fun _ h => List.mem_cons_of_mem _ (List.mem_append_right _ h)) (by decide +kernel))
set_option maxRecDepth 20000 in
theorem gX0_shutBlock_X0_addKey : GoodIn wsX0_shutBlock (wsV RX0 63 RX0 yX0_addKey wsX0_addKey) := goodIn_app (goodIn_of _ (by decide +kernel)) ggX0_shutBlock_X0_addKey
set_option maxRecDepth 20000 in
theorem ggX0_shutBlock_X0_mixColumn : GoodIn wsX0_shutBlock wsX0_mixColumn := goodIn_ca (goodIn_r _ [14, 2, 4, 15, 16, 8, 17, 18, 19, 20, 21, 22] (by decide +kernel) (by decide +kernel)) (goodIn_sub (fun _ h => List.mem_cons_of_mem _ (List.mem_append_right _ h)) (by decide +kernel))
set_option maxRecDepth 20000 in
theorem gX0_shutBlock_X0_mixColumn : GoodIn wsX0_shutBlock (wsV RX0 66 RX0 yX0_mixColumn wsX0_mixColumn) := goodIn_app (goodIn_of _ (by decide +kernel)) ggX0_shutBlock_X0_mixColumn
theorem dX0_shutBlock_0 : decode cX0_shutBlock 0 = .ok (.aload_n 0, 1) := by decide +kernel
theorem dX0_shutBlock_1 : decode cX0_shutBlock 1 = .ok (.iconst 0, 1) := by decide +kernel
theorem dX0_shutBlock_2 : decode cX0_shutBlock 2 = .ok (.invokevirtual 63, 3) := by decide +kernel
theorem dX0_shutBlock_5 : decode cX0_shutBlock 5 = .ok (.iconst 1, 1) := by decide +kernel
theorem dX0_shutBlock_6 : decode cX0_shutBlock 6 = .ok (.istore_n 1, 1) := by decide +kernel
theorem dX0_shutBlock_7 : decode cX0_shutBlock 7 = .ok (.iload_n 1, 1) := by decide +kernel
theorem dX0_shutBlock_8 : decode cX0_shutBlock 8 = .ok (.aload_n 0, 1) := by decide +kernel
theorem dX0_shutBlock_9 : decode cX0_shutBlock 9 = .ok (.getfield 46, 3) := by decide +kernel
theorem dX0_shutBlock_12 : decode cX0_shutBlock 12 = .ok (.if_icmp .gt 89, 3) := by decide +kernel
theorem dX0_shutBlock_15 : decode cX0_shutBlock 15 = .ok (.iconst 0, 1) := by decide +kernel
theorem dX0_shutBlock_16 : decode cX0_shutBlock 16 = .ok (.istore_n 2, 1) := by decide +kernel
theorem dX0_shutBlock_17 : decode cX0_shutBlock 17 = .ok (.iload_n 2, 1) := by decide +kernel
theorem dX0_shutBlock_18 : decode cX0_shutBlock 18 = .ok (.bipush 16, 2) := by decide +kernel
theorem dX0_shutBlock_20 : decode cX0_shutBlock 20 = .ok (.if_icmp .ge 38, 3) := by decide +kernel
theorem dX0_shutBlock_23 : decode cX0_shutBlock 23 = .ok (.aload_n 0, 1) := by decide +kernel
theorem dX0_shutBlock_24 : decode cX0_shutBlock 24 = .ok (.getfield 16, 3) := by decide +kernel
theorem dX0_shutBlock_27 : decode cX0_shutBlock 27 = .ok (.iload_n 2, 1) := by decide +kernel
theorem dX0_shutBlock_28 : decode cX0_shutBlock 28 = .ok (.getstatic 60, 3) := by decide +kernel
theorem dX0_shutBlock_31 : decode cX0_shutBlock 31 = .ok (.aload_n 0, 1) := by decide +kernel
theorem dX0_shutBlock_32 : decode cX0_shutBlock 32 = .ok (.getfield 13, 3) := by decide +kernel
theorem dX0_shutBlock_35 : decode cX0_shutBlock 35 = .ok (.iload_n 2, 1) := by decide +kernel
theorem dX0_shutBlock_36 : decode cX0_shutBlock 36 = .ok (.iconst 4, 1) := by decide +kernel
theorem dX0_shutBlock_37 : decode cX0_shutBlock 37 = .ok (.iload_n 2, 1) := by decide +kernel
theorem dX0_shutBlock_38 : decode cX0_shutBlock 38 = .ok (.iconst 3, 1) := by decide +kernel
theorem dX0_shutBlock_39 : decode cX0_shutBlock 39 = .ok (.iand, 1) := by decide +kernel
theorem dX0_shutBlock_40 : decode cX0_shutBlock 40 = .ok (.imul, 1) := by decide +kernel
theorem dX0_shutBlock_41 : decode cX0_shutBlock 41 = .ok (.iadd, 1) := by decide +kernel
theorem dX0_shutBlock_42 : decode cX0_shutBlock 42 = .ok (.bipush 15, 2) := by decide +kernel
theorem dX0_shutBlock_44 : decode cX0_shutBlock 44 = .ok (.iand, 1) := by decide +kernel
theorem dX0_shutBlock_45 : decode cX0_shutBlock 45 = .ok (.iaload, 1) := by decide +kernel
theorem dX0_shutBlock_46 : decode cX0_shutBlock 46 = .ok (.sipush 255, 3) := by decide +kernel
theorem dX0_shutBlock_49 : decode cX0_shutBlock 49 = .ok (.iand, 1) := by decide +kernel
theorem dX0_shutBlock_50 : decode cX0_shutBlock 50 = .ok (.iaload, 1) := by decide +kernel
theorem dX0_shutBlock_51 : decode cX0_shutBlock 51 = .ok (.iastore, 1) := by decide +kernel
theorem dX0_shutBlock_52 : decode cX0_shutBlock 52 = .ok (.iinc 2 1, 3) := by decide +kernel
theorem dX0_shutBlock_55 : decode cX0_shutBlock 55 = .ok (.goto (-38), 3) := by decide +kernel
theorem dX0_shutBlock_58 : decode cX0_shutBlock 58 = .ok (.iconst 0, 1) := by decide +kernel
theorem dX0_shutBlock_59 : decode cX0_shutBlock 59 = .ok (.istore_n 2, 1) := by decide +kernel
theorem dX0_shutBlock_60 : decode cX0_shutBlock 60 = .ok (.iload_n 2, 1) := by decide +kernel
theorem dX0_shutBlock_61 : decode cX0_shutBlock 61 = .ok (.bipush 16, 2) := by decide +kernel
theorem dX0_shutBlock_63 : decode cX0_shutBlock 63 = .ok (.if_icmp .ge 27, 3) := by decide +kernel
theorem dX0_shutBlock_66 : decode cX0_shutBlock 66 = .ok (.aload_n 0, 1) := by decide +kernel
theorem dX0_shutBlock_67 : decode cX0_shutBlock 67 = .ok (.iload_n 2, 1) := by decide +kernel
theorem dX0_shutBlock_68 : decode cX0_shutBlock 68 = .ok (.iload_n 1, 1) := by decide +kernel
theorem dX0_shutBlock_69 : decode cX0_shutBlock 69 = .ok (.aload_n 0, 1) := by decide +kernel
theorem dX0_shutBlock_70 : decode cX0_shutBlock 70 = .ok (.getfield 46, 3) := by decide +kernel
theorem dX0_shutBlock_73 : decode cX0_shutBlock 73 = .ok (.if_icmp .ge 7, 3) := by decide +kernel
theorem dX0_shutBlock_76 : decode cX0_shutBlock 76 = .ok (.iconst 1, 1) := by decide +kernel
theorem dX0_shutBlock_77 : decode cX0_shutBlock 77 = .ok (.goto 4, 3) := by decide +kernel
theorem dX0_shutBlock_80 : decode cX0_shutBlock 80 = .ok (.iconst 0, 1) := by decide +kernel
theorem dX0_shutBlock_81 : decode cX0_shutBlock 81 = .ok (.invokevirtual 66, 3) := by decide +kernel
theorem dX0_shutBlock_84 : decode cX0_shutBlock 84 = .ok (.iinc 2 4, 3) := by decide +kernel
theorem dX0_shutBlock_87 : decode cX0_shutBlock 87 = .ok (.goto (-27), 3) := by decide +kernel
theorem dX0_shutBlock_90 : decode cX0_shutBlock 90 = .ok (.aload_n 0, 1) := by decide +kernel
theorem dX0_shutBlock_91 : decode cX0_shutBlock 91 = .ok (.iload_n 1, 1) := by decide +kernel
theorem dX0_shutBlock_92 : decode cX0_shutBlock 92 = .ok (.invokevirtual 63, 3) := by decide +kernel
theorem dX0_shutBlock_95 : decode cX0_shutBlock 95 = .ok (.iinc 1 1, 3) := by decide +kernel
theorem dX0_shutBlock_98 : decode cX0_shutBlock 98 = .ok (.goto (-91), 3) := by decide +kernel
theorem dX0_shutBlock_101 : decode cX0_shutBlock 101 = .ok (.return_, 1) := by decide +kernel
set_option maxRecDepth 20000 in
theorem ggX0_openBlock_X0_addKey : GoodIn wsX0_openBlock wsX0_addKey := goodIn_ca (goodIn_r _ [9, 2, 10, 18, 19, 20, 21, 22] (by decide +kernel) (by decide +kernel)) (goodIn_sub (fun _ h => List.mem_cons_of_mem _ (List.mem_append_right _ h)) (by decide +kernel))
set_option maxRecDepth 20000 in
theorem gX0_openBlock_X0_addKey : GoodIn wsX0_openBlock (wsV RX0 63 RX0 yX0_addKey wsX0_addKey) := goodIn_app (goodIn_of _ (by decide +kernel)) ggX0_openBlock_X0_addKey
set_option maxRecDepth 20000 in
theorem ggX0_openBlock_X0_unmixColumn : GoodIn wsX0_openBlock wsX0_unmixColumn := goodIn_ca (goodIn_r _ [14, 2, 4, 15, 16, 8, 17, 18, 19, 20, 21, 22] (by decide +kernel) (by decide +kernel)) (goodIn_sub (fun _ h => List.mem_cons_of_mem _ (List.mem_append_right _ h)) (by decide +kernel))
set_option maxRecDepth 20000 in
theorem gX0_openBlock_X0_unmixColumn : GoodIn wsX0_openBlock (wsV RX0 70 RX0 yX0_unmixColumn wsX0_unmixColumn) := goodIn_app (goodIn_of _ (by decide +kernel)) ggX0_openBlock_X0_unmixColumn
theorem dX0_openBlock_0 : decode cX0_openBlock 0 = .ok (.aload_n 0, 1) := by decide +kernel
theorem dX0_openBlock_1 : decode cX0_openBlock 1 = .ok (.getfield 46, 3) := by decide +kernel
theorem dX0_openBlock_4 : decode cX0_openBlock 4 = .ok (.istore_n 1, 1) := by decide +kernel
theorem dX0_openBlock_5 : decode cX0_openBlock 5 = .ok (.iload_n 1, 1) := by decide +kernel
theorem dX0_openBlock_6 : decode cX0_openBlock 6 = .ok (.ifCond .le 89, 3) := by decide +kernel
theorem dX0_openBlock_9 : decode cX0_openBlock 9 = .ok (.aload_n 0, 1) := by decide +kernel
theorem dX0_openBlock_10 : decode cX0_openBlock 10 = .ok (.iload_n 1, 1) := by decide +kernel
theorem dX0_openBlock_11 : decode cX0_openBlock 11 = .ok (.invokevirtual 63, 3) := by decide +kernel
theorem dX0_openBlock_14 : decode cX0_openBlock 14 = .ok (.iconst 0, 1) := by decide +kernel
theorem dX0_openBlock_15 : decode cX0_openBlock 15 = .ok (.istore_n 2, 1) := by decide +kernel
theorem dX0_openBlock_16 : decode cX0_openBlock 16 = .ok (.iload_n 2, 1) := by decide +kernel
theorem dX0_openBlock_17 : decode cX0_openBlock 17 = .ok (.bipush 16, 2) := by decide +kernel
theorem dX0_openBlock_19 : decode cX0_openBlock 19 = .ok (.if_icmp .ge 27, 3) := by decide +kernel
theorem dX0_openBlock_22 : decode cX0_openBlock 22 = .ok (.aload_n 0, 1) := by decide +kernel
theorem dX0_openBlock_23 : decode cX0_openBlock 23 = .ok (.iload_n 2, 1) := by decide +kernel
theorem dX0_openBlock_24 : decode cX0_openBlock 24 = .ok (.iload_n 1, 1) := by decide +kernel
theorem dX0_openBlock_25 : decode cX0_openBlock 25 = .ok (.aload_n 0, 1) := by decide +kernel
theorem dX0_openBlock_26 : decode cX0_openBlock 26 = .ok (.getfield 46, 3) := by decide +kernel
theorem dX0_openBlock_29 : decode cX0_openBlock 29 = .ok (.if_icmp .ge 7, 3) := by decide +kernel
theorem dX0_openBlock_32 : decode cX0_openBlock 32 = .ok (.iconst 1, 1) := by decide +kernel
theorem dX0_openBlock_33 : decode cX0_openBlock 33 = .ok (.goto 4, 3) := by decide +kernel
theorem dX0_openBlock_36 : decode cX0_openBlock 36 = .ok (.iconst 0, 1) := by decide +kernel
theorem dX0_openBlock_37 : decode cX0_openBlock 37 = .ok (.invokevirtual 70, 3) := by decide +kernel
theorem dX0_openBlock_40 : decode cX0_openBlock 40 = .ok (.iinc 2 4, 3) := by decide +kernel
theorem dX0_openBlock_43 : decode cX0_openBlock 43 = .ok (.goto (-27), 3) := by decide +kernel
theorem dX0_openBlock_46 : decode cX0_openBlock 46 = .ok (.iconst 0, 1) := by decide +kernel
theorem dX0_openBlock_47 : decode cX0_openBlock 47 = .ok (.istore_n 2, 1) := by decide +kernel
theorem dX0_openBlock_48 : decode cX0_openBlock 48 = .ok (.iload_n 2, 1) := by decide +kernel
theorem dX0_openBlock_49 : decode cX0_openBlock 49 = .ok (.bipush 16, 2) := by decide +kernel
theorem dX0_openBlock_51 : decode cX0_openBlock 51 = .ok (.if_icmp .ge 38, 3) := by decide +kernel
theorem dX0_openBlock_54 : decode cX0_openBlock 54 = .ok (.aload_n 0, 1) := by decide +kernel
theorem dX0_openBlock_55 : decode cX0_openBlock 55 = .ok (.getfield 13, 3) := by decide +kernel
theorem dX0_openBlock_58 : decode cX0_openBlock 58 = .ok (.iload_n 2, 1) := by decide +kernel
theorem dX0_openBlock_59 : decode cX0_openBlock 59 = .ok (.getstatic 73, 3) := by decide +kernel
theorem dX0_openBlock_62 : decode cX0_openBlock 62 = .ok (.aload_n 0, 1) := by decide +kernel
theorem dX0_openBlock_63 : decode cX0_openBlock 63 = .ok (.getfield 16, 3) := by decide +kernel
theorem dX0_openBlock_66 : decode cX0_openBlock 66 = .ok (.iload_n 2, 1) := by decide +kernel
theorem dX0_openBlock_67 : decode cX0_openBlock 67 = .ok (.iconst 4, 1) := by decide +kernel
theorem dX0_openBlock_68 : decode cX0_openBlock 68 = .ok (.iload_n 2, 1) := by decide +kernel
theorem dX0_openBlock_69 : decode cX0_openBlock 69 = .ok (.iconst 3, 1) := by decide +kernel
theorem dX0_openBlock_70 : decode cX0_openBlock 70 = .ok (.iand, 1) := by decide +kernel
theorem dX0_openBlock_71 : decode cX0_openBlock 71 = .ok (.imul, 1) := by decide +kernel
theorem dX0_openBlock_72 : decode cX0_openBlock 72 = .ok (.isub, 1) := by decide +kernel
theorem dX0_openBlock_73 : decode cX0_openBlock 73 = .ok (.bipush 15, 2) := by decide +kernel
theorem dX0_openBlock_75 : decode cX0_openBlock 75 = .ok (.iand, 1) := by decide +kernel
theorem dX0_openBlock_76 : decode cX0_openBlock 76 = .ok (.iaload, 1) := by decide +kernel
theorem dX0_openBlock_77 : decode cX0_openBlock 77 = .ok (.sipush 255, 3) := by decide +kernel
theorem dX0_openBlock_80 : decode cX0_openBlock 80 = .ok (.iand, 1) := by decide +kernel
theorem dX0_openBlock_81 : decode cX0_openBlock 81 = .ok (.iaload, 1) := by decide +kernel
theorem dX0_openBlock_82 : decode cX0_openBlock 82 = .ok (.iastore, 1) := by decide +kernel
theorem dX0_openBlock_83 : decode cX0_openBlock 83 = .ok (.iinc 2 1, 3) := by decide +kernel
theorem dX0_openBlock_86 : decode cX0_openBlock 86 = .ok (.goto (-38), 3) := by decide +kernel
theorem dX0_openBlock_89 : decode cX0_openBlock 89 = .ok (.iinc 1 (-1), 3) := by decide +kernel
theorem dX0_openBlock_92 : decode cX0_openBlock 92 = .ok (.goto (-87), 3) := by decide +kernel
theorem dX0_openBlock_95 : decode cX0_openBlock 95 = .ok (.aload_n 0, 1) := by decide +kernel
theorem dX0_openBlock_96 : decode cX0_openBlock 96 = .ok (.iconst 0, 1) := by decide +kernel
theorem dX0_openBlock_97 : decode cX0_openBlock 97 = .ok (.invokevirtual 63, 3) := by decide +kernel
theorem dX0_openBlock_100 : decode cX0_openBlock 100 = .ok (.return_, 1) := by decide +kernel
theorem dX0_addKey_0 : decode cX0_addKey 0 = .ok (.iconst 0, 1) := by decide +kernel
theorem dX0_addKey_1 : decode cX0_addKey 1 = .ok (.istore_n 2, 1) := by decide +kernel
theorem dX0_addKey_2 : decode cX0_addKey 2 = .ok (.iload_n 2, 1) := by decide +kernel
theorem dX0_addKey_3 : decode cX0_addKey 3 = .ok (.bipush 16, 2) := by decide +kernel
theorem dX0_addKey_5 : decode cX0_addKey 5 = .ok (.if_icmp .ge 48, 3) := by decide +kernel
theorem dX0_addKey_8 : decode cX0_addKey 8 = .ok (.bipush 16, 2) := by decide +kernel
theorem dX0_addKey_10 : decode cX0_addKey 10 = .ok (.iload_n 1, 1) := by decide +kernel
theorem dX0_addKey_11 : decode cX0_addKey 11 = .ok (.imul, 1) := by decide +kernel
theorem dX0_addKey_12 : decode cX0_addKey 12 = .ok (.iload_n 2, 1) := by decide +kernel
theorem dX0_addKey_13 : decode cX0_addKey 13 = .ok (.iadd, 1) := by decide +kernel
theorem dX0_addKey_14 : decode cX0_addKey 14 = .ok (.istore_n 3, 1) := by decide +kernel
theorem dX0_addKey_15 : decode cX0_addKey 15 = .ok (.aload_n 0, 1) := by decide +kernel
theorem dX0_addKey_16 : decode cX0_addKey 16 = .ok (.getfield 13, 3) := by decide +kernel
theorem dX0_addKey_19 : decode cX0_addKey 19 = .ok (.iload_n 2, 1) := by decide +kernel
theorem dX0_addKey_20 : decode cX0_addKey 20 = .ok (.dup2, 1) := by decide +kernel
theorem dX0_addKey_21 : decode cX0_addKey 21 = .ok (.iaload, 1) := by decide +kernel
theorem dX0_addKey_22 : decode cX0_addKey 22 = .ok (.iload_n 3, 1) := by decide +kernel
theorem dX0_addKey_23 : decode cX0_addKey 23 = .ok (.ifCond .lt 21, 3) := by decide +kernel
theorem dX0_addKey_26 : decode cX0_addKey 26 = .ok (.iload_n 3, 1) := by decide +kernel
theorem dX0_addKey_27 : decode cX0_addKey 27 = .ok (.aload_n 0, 1) := by decide +kernel
theorem dX0_addKey_28 : decode cX0_addKey 28 = .ok (.getfield 7, 3) := by decide +kernel
theorem dX0_addKey_31 : decode cX0_addKey 31 = .ok (.arraylength, 1) := by decide +kernel
theorem dX0_addKey_32 : decode cX0_addKey 32 = .ok (.if_icmp .ge 12, 3) := by decide +kernel
theorem dX0_addKey_35 : decode cX0_addKey 35 = .ok (.aload_n 0, 1) := by decide +kernel
theorem dX0_addKey_36 : decode cX0_addKey 36 = .ok (.getfield 7, 3) := by decide +kernel
theorem dX0_addKey_39 : decode cX0_addKey 39 = .ok (.iload_n 3, 1) := by decide +kernel
theorem dX0_addKey_40 : decode cX0_addKey 40 = .ok (.iaload, 1) := by decide +kernel
theorem dX0_addKey_41 : decode cX0_addKey 41 = .ok (.goto 4, 3) := by decide +kernel
theorem dX0_addKey_44 : decode cX0_addKey 44 = .ok (.iconst 0, 1) := by decide +kernel
theorem dX0_addKey_45 : decode cX0_addKey 45 = .ok (.ixor, 1) := by decide +kernel
theorem dX0_addKey_46 : decode cX0_addKey 46 = .ok (.iastore, 1) := by decide +kernel
theorem dX0_addKey_47 : decode cX0_addKey 47 = .ok (.iinc 2 1, 3) := by decide +kernel
theorem dX0_addKey_50 : decode cX0_addKey 50 = .ok (.goto (-48), 3) := by decide +kernel
theorem dX0_addKey_53 : decode cX0_addKey 53 = .ok (.return_, 1) := by decide +kernel
set_option maxRecDepth 20000 in
theorem ggX0_mixColumn_X0_twice : GoodIn wsX0_mixColumn wsX0_twice := goodIn_r _ [6] (by decide +kernel) (by decide +kernel)
set_option maxRecDepth 20000 in
theorem gX0_mixColumn_X0_twice : GoodIn wsX0_mixColumn (va_wsS RX0 54 yX0_twice wsX0_twice) := goodIn_app (goodIn_of _ (by decide +kernel)) ggX0_mixColumn_X0_twice
theorem dX0_mixColumn_0 : decode cX0_mixColumn 0 = .ok (.iconst 0, 1) := by decide +kernel
theorem dX0_mixColumn_1 : decode cX0_mixColumn 1 = .ok (.istore_n 3, 1) := by decide +kernel
theorem dX0_mixColumn_2 : decode cX0_mixColumn 2 = .ok (.iload_n 3, 1) := by decide +kernel
theorem dX0_mixColumn_3 : decode cX0_mixColumn 3 = .ok (.iconst 4, 1) := by decide +kernel
theorem dX0_mixColumn_4 : decode cX0_mixColumn 4 = .ok (.if_icmp .ge 113, 3) := by decide +kernel
theorem dX0_mixColumn_7 : decode cX0_mixColumn 7 = .ok (.aload_n 0, 1) := by decide +kernel
theorem dX0_mixColumn_8 : decode cX0_mixColumn 8 = .ok (.getfield 16, 3) := by decide +kernel
theorem dX0_mixColumn_11 : decode cX0_mixColumn 11 = .ok (.iload_n 1, 1) := by decide +kernel
theorem dX0_mixColumn_12 : decode cX0_mixColumn 12 = .ok (.iload_n 3, 1) := by decide +kernel
theorem dX0_mixColumn_13 : decode cX0_mixColumn 13 = .ok (.iadd, 1) := by decide +kernel
theorem dX0_mixColumn_14 : decode cX0_mixColumn 14 = .ok (.bipush 15, 2) := by decide +kernel
theorem dX0_mixColumn_16 : decode cX0_mixColumn 16 = .ok (.iand, 1) := by decide +kernel
theorem dX0_mixColumn_17 : decode cX0_mixColumn 17 = .ok (.iaload, 1) := by decide +kernel
theorem dX0_mixColumn_18 : decode cX0_mixColumn 18 = .ok (.istore 4, 2) := by decide +kernel
theorem dX0_mixColumn_20 : decode cX0_mixColumn 20 = .ok (.aload_n 0, 1) := by decide +kernel
theorem dX0_mixColumn_21 : decode cX0_mixColumn 21 = .ok (.getfield 16, 3) := by decide +kernel
theorem dX0_mixColumn_24 : decode cX0_mixColumn 24 = .ok (.iload_n 1, 1) := by decide +kernel
theorem dX0_mixColumn_25 : decode cX0_mixColumn 25 = .ok (.iload_n 3, 1) := by decide +kernel
theorem dX0_mixColumn_26 : decode cX0_mixColumn 26 = .ok (.iconst 1, 1) := by decide +kernel
theorem dX0_mixColumn_27 : decode cX0_mixColumn 27 = .ok (.iadd, 1) := by decide +kernel
theorem dX0_mixColumn_28 : decode cX0_mixColumn 28 = .ok (.iconst 3, 1) := by decide +kernel
theorem dX0_mixColumn_29 : decode cX0_mixColumn 29 = .ok (.iand, 1) := by decide +kernel
theorem dX0_mixColumn_30 : decode cX0_mixColumn 30 = .ok (.iadd, 1) := by decide +kernel
theorem dX0_mixColumn_31 : decode cX0_mixColumn 31 = .ok (.bipush 15, 2) := by decide +kernel
theorem dX0_mixColumn_33 : decode cX0_mixColumn 33 = .ok (.iand, 1) := by decide +kernel
theorem dX0_mixColumn_34 : decode cX0_mixColumn 34 = .ok (.iaload, 1) := by decide +kernel
theorem dX0_mixColumn_35 : decode cX0_mixColumn 35 = .ok (.istore 5, 2) := by decide +kernel
theorem dX0_mixColumn_37 : decode cX0_mixColumn 37 = .ok (.aload_n 0, 1) := by decide +kernel
theorem dX0_mixColumn_38 : decode cX0_mixColumn 38 = .ok (.getfield 16, 3) := by decide +kernel
theorem dX0_mixColumn_41 : decode cX0_mixColumn 41 = .ok (.iload_n 1, 1) := by decide +kernel
theorem dX0_mixColumn_42 : decode cX0_mixColumn 42 = .ok (.iload_n 3, 1) := by decide +kernel
theorem dX0_mixColumn_43 : decode cX0_mixColumn 43 = .ok (.iconst 2, 1) := by decide +kernel
theorem dX0_mixColumn_44 : decode cX0_mixColumn 44 = .ok (.iadd, 1) := by decide +kernel
theorem dX0_mixColumn_45 : decode cX0_mixColumn 45 = .ok (.iconst 3, 1) := by decide +kernel
theorem dX0_mixColumn_46 : decode cX0_mixColumn 46 = .ok (.iand, 1) := by decide +kernel
theorem dX0_mixColumn_47 : decode cX0_mixColumn 47 = .ok (.iadd, 1) := by decide +kernel
theorem dX0_mixColumn_48 : decode cX0_mixColumn 48 = .ok (.bipush 15, 2) := by decide +kernel
theorem dX0_mixColumn_50 : decode cX0_mixColumn 50 = .ok (.iand, 1) := by decide +kernel
theorem dX0_mixColumn_51 : decode cX0_mixColumn 51 = .ok (.iaload, 1) := by decide +kernel
theorem dX0_mixColumn_52 : decode cX0_mixColumn 52 = .ok (.istore 6, 2) := by decide +kernel
theorem dX0_mixColumn_54 : decode cX0_mixColumn 54 = .ok (.aload_n 0, 1) := by decide +kernel
theorem dX0_mixColumn_55 : decode cX0_mixColumn 55 = .ok (.getfield 16, 3) := by decide +kernel
theorem dX0_mixColumn_58 : decode cX0_mixColumn 58 = .ok (.iload_n 1, 1) := by decide +kernel
theorem dX0_mixColumn_59 : decode cX0_mixColumn 59 = .ok (.iload_n 3, 1) := by decide +kernel
theorem dX0_mixColumn_60 : decode cX0_mixColumn 60 = .ok (.iconst 3, 1) := by decide +kernel
theorem dX0_mixColumn_61 : decode cX0_mixColumn 61 = .ok (.iadd, 1) := by decide +kernel
theorem dX0_mixColumn_62 : decode cX0_mixColumn 62 = .ok (.iconst 3, 1) := by decide +kernel
theorem dX0_mixColumn_63 : decode cX0_mixColumn 63 = .ok (.iand, 1) := by decide +kernel
theorem dX0_mixColumn_64 : decode cX0_mixColumn 64 = .ok (.iadd, 1) := by decide +kernel
theorem dX0_mixColumn_65 : decode cX0_mixColumn 65 = .ok (.bipush 15, 2) := by decide +kernel
theorem dX0_mixColumn_67 : decode cX0_mixColumn 67 = .ok (.iand, 1) := by decide +kernel
theorem dX0_mixColumn_68 : decode cX0_mixColumn 68 = .ok (.iaload, 1) := by decide +kernel
theorem dX0_mixColumn_69 : decode cX0_mixColumn 69 = .ok (.istore 7, 2) := by decide +kernel
theorem dX0_mixColumn_71 : decode cX0_mixColumn 71 = .ok (.aload_n 0, 1) := by decide +kernel
theorem dX0_mixColumn_72 : decode cX0_mixColumn 72 = .ok (.getfield 13, 3) := by decide +kernel
theorem dX0_mixColumn_75 : decode cX0_mixColumn 75 = .ok (.iload_n 1, 1) := by decide +kernel
theorem dX0_mixColumn_76 : decode cX0_mixColumn 76 = .ok (.iload_n 3, 1) := by decide +kernel
theorem dX0_mixColumn_77 : decode cX0_mixColumn 77 = .ok (.iadd, 1) := by decide +kernel
theorem dX0_mixColumn_78 : decode cX0_mixColumn 78 = .ok (.bipush 15, 2) := by decide +kernel
theorem dX0_mixColumn_80 : decode cX0_mixColumn 80 = .ok (.iand, 1) := by decide +kernel
theorem dX0_mixColumn_81 : decode cX0_mixColumn 81 = .ok (.iload_n 2, 1) := by decide +kernel
theorem dX0_mixColumn_82 : decode cX0_mixColumn 82 = .ok (.ifCond .eq 26, 3) := by decide +kernel
theorem dX0_mixColumn_85 : decode cX0_mixColumn 85 = .ok (.iload 4, 2) := by decide +kernel
theorem dX0_mixColumn_87 : decode cX0_mixColumn 87 = .ok (.invokestatic 54, 3) := by decide +kernel
theorem dX0_mixColumn_90 : decode cX0_mixColumn 90 = .ok (.iload 5, 2) := by decide +kernel
theorem dX0_mixColumn_92 : decode cX0_mixColumn 92 = .ok (.invokestatic 54, 3) := by decide +kernel
theorem dX0_mixColumn_95 : decode cX0_mixColumn 95 = .ok (.ixor, 1) := by decide +kernel
theorem dX0_mixColumn_96 : decode cX0_mixColumn 96 = .ok (.iload 5, 2) := by decide +kernel
theorem dX0_mixColumn_98 : decode cX0_mixColumn 98 = .ok (.ixor, 1) := by decide +kernel
theorem dX0_mixColumn_99 : decode cX0_mixColumn 99 = .ok (.iload 6, 2) := by decide +kernel
theorem dX0_mixColumn_101 : decode cX0_mixColumn 101 = .ok (.ixor, 1) := by decide +kernel
theorem dX0_mixColumn_102 : decode cX0_mixColumn 102 = .ok (.iload 7, 2) := by decide +kernel
theorem dX0_mixColumn_104 : decode cX0_mixColumn 104 = .ok (.ixor, 1) := by decide +kernel
theorem dX0_mixColumn_105 : decode cX0_mixColumn 105 = .ok (.goto 5, 3) := by decide +kernel
theorem dX0_mixColumn_108 : decode cX0_mixColumn 108 = .ok (.iload 4, 2) := by decide +kernel
theorem dX0_mixColumn_110 : decode cX0_mixColumn 110 = .ok (.iastore, 1) := by decide +kernel
theorem dX0_mixColumn_111 : decode cX0_mixColumn 111 = .ok (.iinc 3 1, 3) := by decide +kernel
theorem dX0_mixColumn_114 : decode cX0_mixColumn 114 = .ok (.goto (-112), 3) := by decide +kernel
theorem dX0_mixColumn_117 : decode cX0_mixColumn 117 = .ok (.return_, 1) := by decide +kernel
set_option maxRecDepth 20000 in
theorem ggX0_unmixColumn_X0_twice : GoodIn wsX0_unmixColumn wsX0_twice := goodIn_r _ [6] (by decide +kernel) (by decide +kernel)
set_option maxRecDepth 20000 in
theorem gX0_unmixColumn_X0_twice : GoodIn wsX0_unmixColumn (va_wsS RX0 54 yX0_twice wsX0_twice) := goodIn_app (goodIn_of _ (by decide +kernel)) ggX0_unmixColumn_X0_twice
theorem dX0_unmixColumn_0 : decode cX0_unmixColumn 0 = .ok (.iconst 0, 1) := by decide +kernel
theorem dX0_unmixColumn_1 : decode cX0_unmixColumn 1 = .ok (.istore_n 3, 1) := by decide +kernel
theorem dX0_unmixColumn_2 : decode cX0_unmixColumn 2 = .ok (.iload_n 3, 1) := by decide +kernel
theorem dX0_unmixColumn_3 : decode cX0_unmixColumn 3 = .ok (.iconst 4, 1) := by decide +kernel
theorem dX0_unmixColumn_4 : decode cX0_unmixColumn 4 = .ok (.if_icmp .ge 155, 3) := by decide +kernel
theorem dX0_unmixColumn_7 : decode cX0_unmixColumn 7 = .ok (.aload_n 0, 1) := by decide +kernel
theorem dX0_unmixColumn_8 : decode cX0_unmixColumn 8 = .ok (.getfield 13, 3) := by decide +kernel
theorem dX0_unmixColumn_11 : decode cX0_unmixColumn 11 = .ok (.iload_n 1, 1) := by decide +kernel
theorem dX0_unmixColumn_12 : decode cX0_unmixColumn 12 = .ok (.iload_n 3, 1) := by decide +kernel
theorem dX0_unmixColumn_13 : decode cX0_unmixColumn 13 = .ok (.iadd, 1) := by decide +kernel
theorem dX0_unmixColumn_14 : decode cX0_unmixColumn 14 = .ok (.bipush 15, 2) := by decide +kernel
theorem dX0_unmixColumn_16 : decode cX0_unmixColumn 16 = .ok (.iand, 1) := by decide +kernel
theorem dX0_unmixColumn_17 : decode cX0_unmixColumn 17 = .ok (.iaload, 1) := by decide +kernel
theorem dX0_unmixColumn_18 : decode cX0_unmixColumn 18 = .ok (.istore 4, 2) := by decide +kernel
theorem dX0_unmixColumn_20 : decode cX0_unmixColumn 20 = .ok (.aload_n 0, 1) := by decide +kernel
theorem dX0_unmixColumn_21 : decode cX0_unmixColumn 21 = .ok (.getfield 13, 3) := by decide +kernel
theorem dX0_unmixColumn_24 : decode cX0_unmixColumn 24 = .ok (.iload_n 1, 1) := by decide +kernel
theorem dX0_unmixColumn_25 : decode cX0_unmixColumn 25 = .ok (.iload_n 3, 1) := by decide +kernel
theorem dX0_unmixColumn_26 : decode cX0_unmixColumn 26 = .ok (.iconst 1, 1) := by decide +kernel
theorem dX0_unmixColumn_27 : decode cX0_unmixColumn 27 = .ok (.iadd, 1) := by decide +kernel
theorem dX0_unmixColumn_28 : decode cX0_unmixColumn 28 = .ok (.iconst 3, 1) := by decide +kernel
theorem dX0_unmixColumn_29 : decode cX0_unmixColumn 29 = .ok (.iand, 1) := by decide +kernel
theorem dX0_unmixColumn_30 : decode cX0_unmixColumn 30 = .ok (.iadd, 1) := by decide +kernel
theorem dX0_unmixColumn_31 : decode cX0_unmixColumn 31 = .ok (.bipush 15, 2) := by decide +kernel
theorem dX0_unmixColumn_33 : decode cX0_unmixColumn 33 = .ok (.iand, 1) := by decide +kernel
theorem dX0_unmixColumn_34 : decode cX0_unmixColumn 34 = .ok (.iaload, 1) := by decide +kernel
theorem dX0_unmixColumn_35 : decode cX0_unmixColumn 35 = .ok (.istore 5, 2) := by decide +kernel
theorem dX0_unmixColumn_37 : decode cX0_unmixColumn 37 = .ok (.aload_n 0, 1) := by decide +kernel
theorem dX0_unmixColumn_38 : decode cX0_unmixColumn 38 = .ok (.getfield 13, 3) := by decide +kernel
theorem dX0_unmixColumn_41 : decode cX0_unmixColumn 41 = .ok (.iload_n 1, 1) := by decide +kernel
theorem dX0_unmixColumn_42 : decode cX0_unmixColumn 42 = .ok (.iload_n 3, 1) := by decide +kernel
theorem dX0_unmixColumn_43 : decode cX0_unmixColumn 43 = .ok (.iconst 2, 1) := by decide +kernel
theorem dX0_unmixColumn_44 : decode cX0_unmixColumn 44 = .ok (.iadd, 1) := by decide +kernel
theorem dX0_unmixColumn_45 : decode cX0_unmixColumn 45 = .ok (.iconst 3, 1) := by decide +kernel
theorem dX0_unmixColumn_46 : decode cX0_unmixColumn 46 = .ok (.iand, 1) := by decide +kernel
theorem dX0_unmixColumn_47 : decode cX0_unmixColumn 47 = .ok (.iadd, 1) := by decide +kernel
theorem dX0_unmixColumn_48 : decode cX0_unmixColumn 48 = .ok (.bipush 15, 2) := by decide +kernel
theorem dX0_unmixColumn_50 : decode cX0_unmixColumn 50 = .ok (.iand, 1) := by decide +kernel
theorem dX0_unmixColumn_51 : decode cX0_unmixColumn 51 = .ok (.iaload, 1) := by decide +kernel
theorem dX0_unmixColumn_52 : decode cX0_unmixColumn 52 = .ok (.istore 6, 2) := by decide +kernel
theorem dX0_unmixColumn_54 : decode cX0_unmixColumn 54 = .ok (.aload_n 0, 1) := by decide +kernel
theorem dX0_unmixColumn_55 : decode cX0_unmixColumn 55 = .ok (.getfield 13, 3) := by decide +kernel
theorem dX0_unmixColumn_58 : decode cX0_unmixColumn 58 = .ok (.iload_n 1, 1) := by decide +kernel
theorem dX0_unmixColumn_59 : decode cX0_unmixColumn 59 = .ok (.iload_n 3, 1) := by decide +kernel
theorem dX0_unmixColumn_60 : decode cX0_unmixColumn 60 = .ok (.iconst 3, 1) := by decide +kernel
theorem dX0_unmixColumn_61 : decode cX0_unmixColumn 61 = .ok (.iadd, 1) := by decide +kernel
theorem dX0_unmixColumn_62 : decode cX0_unmixColumn 62 = .ok (.iconst 3, 1) := by decide +kernel
theorem dX0_unmixColumn_63 : decode cX0_unmixColumn 63 = .ok (.iand, 1) := by decide +kernel
theorem dX0_unmixColumn_64 : decode cX0_unmixColumn 64 = .ok (.iadd, 1) := by decide +kernel
theorem dX0_unmixColumn_65 : decode cX0_unmixColumn 65 = .ok (.bipush 15, 2) := by decide +kernel
theorem dX0_unmixColumn_67 : decode cX0_unmixColumn 67 = .ok (.iand, 1) := by decide +kernel
theorem dX0_unmixColumn_68 : decode cX0_unmixColumn 68 = .ok (.iaload, 1) := by decide +kernel
theorem dX0_unmixColumn_69 : decode cX0_unmixColumn 69 = .ok (.istore 7, 2) := by decide +kernel
theorem dX0_unmixColumn_71 : decode cX0_unmixColumn 71 = .ok (.iload 4, 2) := by decide +kernel
theorem dX0_unmixColumn_73 : decode cX0_unmixColumn 73 = .ok (.iload 5, 2) := by decide +kernel
theorem dX0_unmixColumn_75 : decode cX0_unmixColumn 75 = .ok (.ixor, 1) := by decide +kernel
theorem dX0_unmixColumn_76 : decode cX0_unmixColumn 76 = .ok (.iload 6, 2) := by decide +kernel
theorem dX0_unmixColumn_78 : decode cX0_unmixColumn 78 = .ok (.ixor, 1) := by decide +kernel
theorem dX0_unmixColumn_79 : decode cX0_unmixColumn 79 = .ok (.iload 7, 2) := by decide +kernel
theorem dX0_unmixColumn_81 : decode cX0_unmixColumn 81 = .ok (.ixor, 1) := by decide +kernel
theorem dX0_unmixColumn_82 : decode cX0_unmixColumn 82 = .ok (.invokestatic 54, 3) := by decide +kernel
theorem dX0_unmixColumn_85 : decode cX0_unmixColumn 85 = .ok (.invokestatic 54, 3) := by decide +kernel
theorem dX0_unmixColumn_88 : decode cX0_unmixColumn 88 = .ok (.invokestatic 54, 3) := by decide +kernel
theorem dX0_unmixColumn_91 : decode cX0_unmixColumn 91 = .ok (.istore 8, 2) := by decide +kernel
theorem dX0_unmixColumn_93 : decode cX0_unmixColumn 93 = .ok (.iload 4, 2) := by decide +kernel
theorem dX0_unmixColumn_95 : decode cX0_unmixColumn 95 = .ok (.iload 6, 2) := by decide +kernel
theorem dX0_unmixColumn_97 : decode cX0_unmixColumn 97 = .ok (.ixor, 1) := by decide +kernel
theorem dX0_unmixColumn_98 : decode cX0_unmixColumn 98 = .ok (.invokestatic 54, 3) := by decide +kernel
theorem dX0_unmixColumn_101 : decode cX0_unmixColumn 101 = .ok (.invokestatic 54, 3) := by decide +kernel
theorem dX0_unmixColumn_104 : decode cX0_unmixColumn 104 = .ok (.istore 9, 2) := by decide +kernel
theorem dX0_unmixColumn_106 : decode cX0_unmixColumn 106 = .ok (.iload 4, 2) := by decide +kernel
theorem dX0_unmixColumn_108 : decode cX0_unmixColumn 108 = .ok (.iload 5, 2) := by decide +kernel
theorem dX0_unmixColumn_110 : decode cX0_unmixColumn 110 = .ok (.ixor, 1) := by decide +kernel
theorem dX0_unmixColumn_111 : decode cX0_unmixColumn 111 = .ok (.invokestatic 54, 3) := by decide +kernel
theorem dX0_unmixColumn_114 : decode cX0_unmixColumn 114 = .ok (.istore 10, 2) := by decide +kernel
theorem dX0_unmixColumn_116 : decode cX0_unmixColumn 116 = .ok (.aload_n 0, 1) := by decide +kernel
theorem dX0_unmixColumn_117 : decode cX0_unmixColumn 117 = .ok (.getfield 16, 3) := by decide +kernel
theorem dX0_unmixColumn_120 : decode cX0_unmixColumn 120 = .ok (.iload_n 1, 1) := by decide +kernel
theorem dX0_unmixColumn_121 : decode cX0_unmixColumn 121 = .ok (.iload_n 3, 1) := by decide +kernel
theorem dX0_unmixColumn_122 : decode cX0_unmixColumn 122 = .ok (.iadd, 1) := by decide +kernel
theorem dX0_unmixColumn_123 : decode cX0_unmixColumn 123 = .ok (.bipush 15, 2) := by decide +kernel
theorem dX0_unmixColumn_125 : decode cX0_unmixColumn 125 = .ok (.iand, 1) := by decide +kernel
theorem dX0_unmixColumn_126 : decode cX0_unmixColumn 126 = .ok (.iload_n 2, 1) := by decide +kernel
theorem dX0_unmixColumn_127 : decode cX0_unmixColumn 127 = .ok (.ifCond .eq 23, 3) := by decide +kernel
theorem dX0_unmixColumn_130 : decode cX0_unmixColumn 130 = .ok (.iload 8, 2) := by decide +kernel
theorem dX0_unmixColumn_132 : decode cX0_unmixColumn 132 = .ok (.iload 9, 2) := by decide +kernel
theorem dX0_unmixColumn_134 : decode cX0_unmixColumn 134 = .ok (.ixor, 1) := by decide +kernel
theorem dX0_unmixColumn_135 : decode cX0_unmixColumn 135 = .ok (.iload 10, 2) := by decide +kernel
theorem dX0_unmixColumn_137 : decode cX0_unmixColumn 137 = .ok (.ixor, 1) := by decide +kernel
theorem dX0_unmixColumn_138 : decode cX0_unmixColumn 138 = .ok (.iload 5, 2) := by decide +kernel
theorem dX0_unmixColumn_140 : decode cX0_unmixColumn 140 = .ok (.ixor, 1) := by decide +kernel
theorem dX0_unmixColumn_141 : decode cX0_unmixColumn 141 = .ok (.iload 6, 2) := by decide +kernel
theorem dX0_unmixColumn_143 : decode cX0_unmixColumn 143 = .ok (.ixor, 1) := by decide +kernel
theorem dX0_unmixColumn_144 : decode cX0_unmixColumn 144 = .ok (.iload 7, 2) := by decide +kernel
theorem dX0_unmixColumn_146 : decode cX0_unmixColumn 146 = .ok (.ixor, 1) := by decide +kernel
theorem dX0_unmixColumn_147 : decode cX0_unmixColumn 147 = .ok (.goto 5, 3) := by decide +kernel
theorem dX0_unmixColumn_150 : decode cX0_unmixColumn 150 = .ok (.iload 4, 2) := by decide +kernel
theorem dX0_unmixColumn_152 : decode cX0_unmixColumn 152 = .ok (.iastore, 1) := by decide +kernel
theorem dX0_unmixColumn_153 : decode cX0_unmixColumn 153 = .ok (.iinc 3 1, 3) := by decide +kernel
theorem dX0_unmixColumn_156 : decode cX0_unmixColumn 156 = .ok (.goto (-154), 3) := by decide +kernel
theorem dX0_unmixColumn_159 : decode cX0_unmixColumn 159 = .ok (.return_, 1) := by decide +kernel
theorem dX0_twice_0 : decode cX0_twice 0 = .ok (.iload_n 0, 1) := by decide +kernel
theorem dX0_twice_1 : decode cX0_twice 1 = .ok (.iconst 1, 1) := by decide +kernel
theorem dX0_twice_2 : decode cX0_twice 2 = .ok (.ishl, 1) := by decide +kernel
theorem dX0_twice_3 : decode cX0_twice 3 = .ok (.iload_n 0, 1) := by decide +kernel
theorem dX0_twice_4 : decode cX0_twice 4 = .ok (.sipush 128, 3) := by decide +kernel
theorem dX0_twice_7 : decode cX0_twice 7 = .ok (.iand, 1) := by decide +kernel
theorem dX0_twice_8 : decode cX0_twice 8 = .ok (.ifCond .eq 8, 3) := by decide +kernel
theorem dX0_twice_11 : decode cX0_twice 11 = .ok (.bipush 27, 2) := by decide +kernel
theorem dX0_twice_13 : decode cX0_twice 13 = .ok (.goto 4, 3) := by decide +kernel
theorem dX0_twice_16 : decode cX0_twice 16 = .ok (.iconst 0, 1) := by decide +kernel
theorem dX0_twice_17 : decode cX0_twice 17 = .ok (.ixor, 1) := by decide +kernel
theorem dX0_twice_18 : decode cX0_twice 18 = .ok (.sipush 255, 3) := by decide +kernel
theorem dX0_twice_21 : decode cX0_twice 21 = .ok (.iand, 1) := by decide +kernel
theorem dX0_twice_22 : decode cX0_twice 22 = .ok (.ireturn, 1) := by decide +kernel
set_option maxRecDepth 20000 in
theorem ggX1_init_X4_init : GoodIn wsX1_init wsX4_init := goodIn_r _ [9, 10, 11, 12, 13, 14, 15, 16, 17, 18, 19, 20, 21, 22, 23, 24, 25, 26, 27, 28, 29, 30, 31, 32, 33, 34, 35, 36, 37, 38, 39, 40, 2, 3, 41, 42, 43, 44, 45, 46, 47, 48, 49, 50, 51, 52, 53, 54, 55, 56, 57, 58, 59, 60, 61, 62, 63, 64, 65, 66, 67, 68, 69, 70, 71, 72, 73, 74, 75, 76, 77, 78, 79, 80, 81, 82, 83, 84, 85, 86, 87, 88, 96, 97, 98, 99, 100, 101, 92, 93, 94, 95, 102, 103, 104, 105, 106, 107, 108, 109, 110, 111, 112, 113, 114, 115, 116, 117, 118, 119, 120, 121, 122, 123, 124, 125, 126, 90, 91] (by decide +kernel) (by decide +kernel)
set_option maxRecDepth 20000 in
theorem gX1_init_X4_init : GoodIn wsX1_init (wsX4_init) := ggX1_init_X4_init
set_option maxRecDepth 20000 in
theorem ggX1_init_X5_init : GoodIn wsX1_init wsX5_init := goodIn_r _ [67, 68, 11, 12, 69, 70, 71, 72, 46, 73, 90, 91] (by decide +kernel) (by decide +kernel)
set_option maxRecDepth 20000 in
theorem gX1_init_X5_init : GoodIn wsX1_init (wsX5_init) := ggX1_init_X5_init
theorem dX1_init_0 : decode cX1_init 0 = .ok (.aload_n 0, 1) := by decide +kernel
theorem dX1_init_1 : decode cX1_init 1 = .ok (.iload_n 1, 1) := by decide +kernel
theorem dX1_init_2 : decode cX1_init 2 = .ok (.invokespecial 3, 3) := by decide +kernel
theorem dX1_init_5 : decode cX1_init 5 = .ok (.aload_n 0, 1) := by decide +kernel
theorem dX1_init_6 : decode cX1_init 6 = .ok (.new 9, 3) := by decide +kernel
theorem dX1_init_9 : decode cX1_init 9 = .ok (.dup, 1) := by decide +kernel
theorem dX1_init_10 : decode cX1_init 10 = .ok (.bipush 32, 2) := by decide +kernel
theorem dX1_init_12 : decode cX1_init 12 = .ok (.invokespecial 11, 3) := by decide +kernel
theorem dX1_init_15 : decode cX1_init 15 = .ok (.putfield 12, 3) := by decide +kernel
theorem dX1_init_18 : decode cX1_init 18 = .ok (.aload_n 0, 1) := by decide +kernel
theorem dX1_init_19 : decode cX1_init 19 = .ok (.new 9, 3) := by decide +kernel
theorem dX1_init_22 : decode cX1_init 22 = .ok (.dup, 1) := by decide +kernel
theorem dX1_init_23 : decode cX1_init 23 = .ok (.bipush 32, 2) := by decide +kernel
theorem dX1_init_25 : decode cX1_init 25 = .ok (.invokespecial 11, 3) := by decide +kernel
theorem dX1_init_28 : decode cX1_init 28 = .ok (.putfield 18, 3) := by decide +kernel
theorem dX1_init_31 : decode cX1_init 31 = .ok (.return_, 1) := by decide +kernel
theorem dX1_tapeNeeded_0 : decode cX1_tapeNeeded 0 = .ok (.iconst 0, 1) := by decide +kernel
theorem dX1_tapeNeeded_1 : decode cX1_tapeNeeded 1 = .ok (.ireturn, 1) := by decide +kernel
theorem dX1_knowsFilter_0 : decode cX1_knowsFilter 0 = .ok (.iload_n 1, 1) := by decide +kernel
theorem dX1_knowsFilter_1 : decode cX1_knowsFilter 1 = .ok (.ifCond .eq 24, 3) := by decide +kernel
theorem dX1_knowsFilter_4 : decode cX1_knowsFilter 4 = .ok (.iload_n 1, 1) := by decide +kernel
theorem dX1_knowsFilter_5 : decode cX1_knowsFilter 5 = .ok (.iconst 1, 1) := by decide +kernel
theorem dX1_knowsFilter_6 : decode cX1_knowsFilter 6 = .ok (.if_icmp .eq 19, 3) := by decide +kernel
theorem dX1_knowsFilter_9 : decode cX1_knowsFilter 9 = .ok (.iload_n 1, 1) := by decide +kernel
theorem dX1_knowsFilter_10 : decode cX1_knowsFilter 10 = .ok (.iconst 2, 1) := by decide +kernel
theorem dX1_knowsFilter_11 : decode cX1_knowsFilter 11 = .ok (.if_icmp .ne 18, 3) := by decide +kernel
theorem dX1_knowsFilter_14 : decode cX1_knowsFilter 14 = .ok (.aload_n 0, 1) := by decide +kernel
theorem dX1_knowsFilter_15 : decode cX1_knowsFilter 15 = .ok (.getfield 21, 3) := by decide +kernel
theorem dX1_knowsFilter_18 : decode cX1_knowsFilter 18 = .ok (.getfield 25, 3) := by decide +kernel
theorem dX1_knowsFilter_21 : decode cX1_knowsFilter 21 = .ok (.iconst 4, 1) := by decide +kernel
theorem dX1_knowsFilter_22 : decode cX1_knowsFilter 22 = .ok (.if_icmp .ne 7, 3) := by decide +kernel
theorem dX1_knowsFilter_25 : decode cX1_knowsFilter 25 = .ok (.iconst 1, 1) := by decide +kernel
theorem dX1_knowsFilter_26 : decode cX1_knowsFilter 26 = .ok (.goto 4, 3) := by decide +kernel
theorem dX1_knowsFilter_29 : decode cX1_knowsFilter 29 = .ok (.iconst 0, 1) := by decide +kernel
theorem dX1_knowsFilter_30 : decode cX1_knowsFilter 30 = .ok (.ireturn, 1) := by decide +kernel
set_option maxRecDepth 20000 in
theorem ggX1_makeEntries_X9_entryRow : GoodIn wsX1_makeEntries wsX9_entryRow := goodIn_r _ [8, 9, 10, 165, 166, 167, 168, 169, 170, 171, 172, 173, 174, 175, 176] (by decide +kernel) (by decide +kernel)
set_option maxRecDepth 20000 in
theorem gX1_makeEntries_X9_entryRow : GoodIn wsX1_makeEntries (wsV RX1 31 RX9 yX9_entryRow wsX9_entryRow) := goodIn_app (goodIn_of _ (by decide +kernel)) ggX1_makeEntries_X9_entryRow
set_option maxRecDepth 20000 in
theorem ggX1_makeEntries_X5_count : GoodIn wsX1_makeEntries wsX5_count := goodIn_r _ [15, 16, 177, 178] (by decide +kernel) (by decide +kernel)
set_option maxRecDepth 20000 in
theorem gX1_makeEntries_X5_count : GoodIn wsX1_makeEntries (wsV RX1 38 RX5 yX5_count wsX5_count) := goodIn_app (goodIn_of _ (by decide +kernel)) ggX1_makeEntries_X5_count
set_option maxRecDepth 20000 in
theorem ggX1_makeEntries_X1_findOwnersKey : GoodIn wsX1_makeEntries wsX1_findOwnersKey := goodIn_ca (goodIn_r _ [21, 22, 23, 24, 25, 20, 26, 27, 28, 29, 30, 31, 32, 33, 14, 34, 16, 11, 12, 13, 15, 35, 36, 37, 38, 39, 40, 41, 42, 43, 44, 45, 46, 47, 48, 49, 50, 51, 52, 53, 54, 55, 1, 2, 56, 57, 58, 7, 59, 60, 61, 62, 63, 64, 65, 66, 67, 68, 69, 70, 71, 72, 73, 74, 75, 76, 77, 78, 79, 80, 81, 82, 83, 84, 85, 86, 87, 88, 89, 90, 91, 92, 93, 94, 95, 96, 97, 98, 99, 100, 101, 102, 103, 104, 105, 158, 159, 160, 161, 162, 163, 164, 179, 180, 181, 182, 183, 184, 177, 178, 165, 166, 167, 168, 169, 170, 171, 172, 173, 174, 175, 176, 185, 186] (by decide +kernel) (by decide +kernel)) (goodIn_sub (fun _ h => List.mem_cons_of_mem _ (List.mem_append_right _ h)) (by decide +kernel))
set_option maxRecDepth 20000 in
theorem gX1_makeEntries_X1_findOwnersKey : GoodIn wsX1_makeEntries (wsV RX1 45 RX1 yX1_findOwnersKey wsX1_findOwnersKey) := goodIn_app (goodIn_of _ (by decide +kernel)) ggX1_makeEntries_X1_findOwnersKey
set_option maxRecDepth 20000 in
theorem ggX1_makeEntries_X1_pad : GoodIn wsX1_makeEntries wsX1_pad := goodIn_ca (goodIn_r _ [26, 27, 28, 29, 30, 31, 32, 33, 14, 34, 16, 11, 12, 13, 15, 35, 36, 37, 38, 39, 40, 41, 42, 43, 44, 45, 46, 47, 48, 49, 50, 51, 177, 178] (by decide +kernel) (by decide +kernel)) (goodIn_sub (fun _ h => List.mem_cons_of_mem _ (List.mem_append_right _ h)) (by decide +kernel))
set_option maxRecDepth 20000 in
theorem gX1_makeEntries_X1_pad : GoodIn wsX1_makeEntries (va_wsS RX1 49 yX1_pad wsX1_pad) := goodIn_app (goodIn_of _ (by decide +kernel)) ggX1_makeEntries_X1_pad
set_option maxRecDepth 20000 in
theorem ggX1_makeEntries_X5_copy : GoodIn wsX1_makeEntries wsX5_copy := goodIn_ca (goodIn_r _ [109, 110, 32, 33, 14, 34, 16, 111, 12, 13, 15, 112, 36, 37, 38, 39, 40, 41, 42, 43, 44, 45, 46, 47, 177, 178] (by decide +kernel) (by decide +kernel)) (goodIn_sub (fun _ h => List.mem_cons_of_mem _ (List.mem_append_right _ h)) (by decide +kernel))
set_option maxRecDepth 20000 in
theorem gX1_makeEntries_X5_copy : GoodIn wsX1_makeEntries (wsV RX1 53 RX5 yX5_copy wsX5_copy) := goodIn_app (goodIn_of _ (by decide +kernel)) ggX1_makeEntries_X5_copy
set_option maxRecDepth 20000 in
theorem ggX1_makeEntries_X1_shutSteps : GoodIn wsX1_makeEntries wsX1_shutSteps := goodIn_ca (goodIn_r _ [116, 22, 23, 117, 118, 119, 20, 120, 1, 2, 121, 122, 123, 124, 125, 126, 127, 128, 129, 130, 131, 40, 41, 14, 42, 16, 43, 132, 133, 134, 135, 136, 12, 13, 15, 137, 138, 139, 140, 158, 159, 160, 161, 162, 163, 164, 179, 180, 181, 182, 183, 184, 165, 166, 167, 168, 169, 170, 171, 172, 173, 174, 175, 176, 187, 177, 178] (by decide +kernel) (by decide +kernel)) (goodIn_sub (fun _ h => List.mem_cons_of_mem _ (List.mem_append_right _ h)) (by decide +kernel))
set_option maxRecDepth 20000 in
theorem gX1_makeEntries_X1_shutSteps : GoodIn wsX1_makeEntries (wsV RX1 56 RX1 yX1_shutSteps wsX1_shutSteps) := goodIn_app (goodIn_of _ (by decide +kernel)) ggX1_makeEntries_X1_shutSteps
set_option maxRecDepth 20000 in
theorem ggX1_makeEntries_X1_gatherForKey : GoodIn wsX1_makeEntries wsX1_gatherForKey := goodIn_ca (goodIn_r _ [144, 22, 23, 3, 1, 2, 106, 107, 108, 14, 109, 110, 32, 33, 34, 16, 111, 12, 13, 15, 112, 36, 37, 38, 39, 40, 41, 42, 43, 44, 45, 46, 47, 4, 5, 6, 7, 8, 9, 10, 145, 146, 147, 148, 149, 95, 96, 97, 150, 151, 152, 153, 158, 159, 160, 161, 162, 163, 164, 179, 180, 181, 182, 183, 184, 165, 166, 167, 168, 169, 170, 171, 172, 173, 174, 175, 176, 177, 178] (by decide +kernel) (by decide +kernel)) (goodIn_sub (fun _ h => List.mem_cons_of_mem _ (List.mem_append_right _ h)) (by decide +kernel))
set_option maxRecDepth 20000 in
theorem gX1_makeEntries_X1_gatherForKey : GoodIn wsX1_makeEntries (wsV RX1 59 RX1 yX1_gatherForKey wsX1_gatherForKey) := goodIn_app (goodIn_of _ (by decide +kernel)) ggX1_makeEntries_X1_gatherForKey
set_option maxRecDepth 20000 in
theorem ggX1_makeEntries_X1_sumToKey : GoodIn wsX1_makeEntries wsX1_sumToKey := goodIn_ca (goodIn_r _ [55, 22, 23, 1, 2, 56, 57, 58, 7, 59, 60, 61, 62, 63, 64, 65, 66, 67, 68, 69, 70, 71, 72, 12, 13, 14, 15, 16, 73, 74, 75, 76, 77, 78, 79, 80, 43, 81, 82, 83, 84, 85, 86, 87, 88, 89, 90, 91, 92, 93, 32, 33, 34, 94, 95, 96, 97, 44, 45, 46, 47, 98, 99, 100, 101, 102, 28, 29, 30, 103, 104, 105, 158, 159, 160, 161, 162, 163, 164, 179, 180, 181, 182, 183, 184, 165, 166, 167, 168, 169, 170, 171, 172, 173, 174, 175, 176, 185, 186, 177, 178] (by decide +kernel) (by decide +kernel)) (goodIn_sub (fun _ h => List.mem_cons_of_mem _ (List.mem_append_right _ h)) (by decide +kernel))
set_option maxRecDepth 20000 in
theorem gX1_makeEntries_X1_sumToKey : GoodIn wsX1_makeEntries (wsV RX1 63 RX1 yX1_sumToKey wsX1_sumToKey) := goodIn_app (goodIn_of _ (by decide +kernel)) ggX1_makeEntries_X1_sumToKey
set_option maxRecDepth 20000 in
theorem ggX1_makeEntries_X1_beginCheck : GoodIn wsX1_makeEntries wsX1_beginCheck := goodIn_ca (goodIn_r _ [157, 1, 2, 22, 23, 31, 32, 33, 14, 34, 16, 48, 49, 50, 51, 44, 45, 46, 47, 43, 106, 107, 108, 109, 110, 111, 12, 13, 15, 112, 36, 37, 38, 39, 40, 41, 42, 145, 146, 147, 148, 61, 62, 63, 64, 65, 66, 67, 68, 69, 70, 71, 72, 73, 74, 75, 76, 77, 78, 79, 80, 81, 82, 83, 84, 85, 86, 87, 88, 89, 90, 91, 92, 93, 94, 95, 96, 97, 158, 159, 160, 161, 162, 163, 164, 165, 166, 167, 168, 169, 170, 171, 172, 173, 174, 175, 176, 179, 180, 181, 182, 183, 184, 177, 178, 185, 186] (by decide +kernel) (by decide +kernel)) (goodIn_sub (fun _ h => List.mem_cons_of_mem _ (List.mem_append_right _ h)) (by decide +kernel))
set_option maxRecDepth 20000 in
theorem gX1_makeEntries_X1_beginCheck : GoodIn wsX1_makeEntries (wsV RX1 66 RX1 yX1_beginCheck wsX1_beginCheck) := goodIn_app (goodIn_of _ (by decide +kernel)) ggX1_makeEntries_X1_beginCheck
set_option maxRecDepth 20000 in
theorem ggX1_makeEntries_X5_addSame : GoodIn wsX1_makeEntries wsX5_addSame := goodIn_ca (goodIn_r _ [153, 44, 45, 46, 14, 47, 16, 43, 177, 178] (by decide +kernel) (by decide +kernel)) (goodIn_sub (fun _ h => List.mem_cons_of_mem _ (List.mem_append_right _ h)) (by decide +kernel))
set_option maxRecDepth 20000 in
theorem gX1_makeEntries_X5_addSame : GoodIn wsX1_makeEntries (wsV RX1 69 RX5 yX5_addSame wsX5_addSame) := goodIn_app (goodIn_of _ (by decide +kernel)) ggX1_makeEntries_X5_addSame
theorem dX1_makeEntries_0 : decode cX1_makeEntries 0 = .ok (.aload_n 0, 1) := by decide +kernel
theorem dX1_makeEntries_1 : decode cX1_makeEntries 1 = .ok (.getfield 21, 3) := by decide +kernel
theorem dX1_makeEntries_4 : decode cX1_makeEntries 4 = .ok (.iconst 0, 1) := by decide +kernel
theorem dX1_makeEntries_5 : decode cX1_makeEntries 5 = .ok (.invokevirtual 31, 3) := by decide +kernel
theorem dX1_makeEntries_8 : decode cX1_makeEntries 8 = .ok (.astore_n 1, 1) := by decide +kernel
theorem dX1_makeEntries_9 : decode cX1_makeEntries 9 = .ok (.aload_n 0, 1) := by decide +kernel
theorem dX1_makeEntries_10 : decode cX1_makeEntries 10 = .ok (.getfield 21, 3) := by decide +kernel
theorem dX1_makeEntries_13 : decode cX1_makeEntries 13 = .ok (.iconst 1, 1) := by decide +kernel
theorem dX1_makeEntries_14 : decode cX1_makeEntries 14 = .ok (.invokevirtual 31, 3) := by decide +kernel
theorem dX1_makeEntries_17 : decode cX1_makeEntries 17 = .ok (.astore_n 2, 1) := by decide +kernel
theorem dX1_makeEntries_18 : decode cX1_makeEntries 18 = .ok (.aload_n 0, 1) := by decide +kernel
theorem dX1_makeEntries_19 : decode cX1_makeEntries 19 = .ok (.aload_n 0, 1) := by decide +kernel
theorem dX1_makeEntries_20 : decode cX1_makeEntries 20 = .ok (.getfield 21, 3) := by decide +kernel
theorem dX1_makeEntries_23 : decode cX1_makeEntries 23 = .ok (.getfield 35, 3) := by decide +kernel
theorem dX1_makeEntries_26 : decode cX1_makeEntries 26 = .ok (.invokevirtual 38, 3) := by decide +kernel
theorem dX1_makeEntries_29 : decode cX1_makeEntries 29 = .ok (.ifCond .ne 13, 3) := by decide +kernel
theorem dX1_makeEntries_32 : decode cX1_makeEntries 32 = .ok (.aload_n 0, 1) := by decide +kernel
theorem dX1_makeEntries_33 : decode cX1_makeEntries 33 = .ok (.getfield 21, 3) := by decide +kernel
theorem dX1_makeEntries_36 : decode cX1_makeEntries 36 = .ok (.getfield 42, 3) := by decide +kernel
theorem dX1_makeEntries_39 : decode cX1_makeEntries 39 = .ok (.goto 10, 3) := by decide +kernel
theorem dX1_makeEntries_42 : decode cX1_makeEntries 42 = .ok (.aload_n 0, 1) := by decide +kernel
theorem dX1_makeEntries_43 : decode cX1_makeEntries 43 = .ok (.getfield 21, 3) := by decide +kernel
theorem dX1_makeEntries_46 : decode cX1_makeEntries 46 = .ok (.getfield 35, 3) := by decide +kernel
theorem dX1_makeEntries_49 : decode cX1_makeEntries 49 = .ok (.invokevirtual 45, 3) := by decide +kernel
theorem dX1_makeEntries_52 : decode cX1_makeEntries 52 = .ok (.aload_n 0, 1) := by decide +kernel
theorem dX1_makeEntries_53 : decode cX1_makeEntries 53 = .ok (.getfield 21, 3) := by decide +kernel
theorem dX1_makeEntries_56 : decode cX1_makeEntries 56 = .ok (.getfield 42, 3) := by decide +kernel
theorem dX1_makeEntries_59 : decode cX1_makeEntries 59 = .ok (.aload_n 0, 1) := by decide +kernel
theorem dX1_makeEntries_60 : decode cX1_makeEntries 60 = .ok (.getfield 12, 3) := by decide +kernel
theorem dX1_makeEntries_63 : decode cX1_makeEntries 63 = .ok (.invokestatic 49, 3) := by decide +kernel
theorem dX1_makeEntries_66 : decode cX1_makeEntries 66 = .ok (.aload_n 1, 1) := by decide +kernel
theorem dX1_makeEntries_67 : decode cX1_makeEntries 67 = .ok (.aload_n 0, 1) := by decide +kernel
theorem dX1_makeEntries_68 : decode cX1_makeEntries 68 = .ok (.getfield 12, 3) := by decide +kernel
theorem dX1_makeEntries_71 : decode cX1_makeEntries 71 = .ok (.invokevirtual 53, 3) := by decide +kernel
theorem dX1_makeEntries_74 : decode cX1_makeEntries 74 = .ok (.aload_n 0, 1) := by decide +kernel
theorem dX1_makeEntries_75 : decode cX1_makeEntries 75 = .ok (.aload_n 1, 1) := by decide +kernel
theorem dX1_makeEntries_76 : decode cX1_makeEntries 76 = .ok (.invokevirtual 56, 3) := by decide +kernel
theorem dX1_makeEntries_79 : decode cX1_makeEntries 79 = .ok (.aload_n 0, 1) := by decide +kernel
theorem dX1_makeEntries_80 : decode cX1_makeEntries 80 = .ok (.invokevirtual 59, 3) := by decide +kernel
theorem dX1_makeEntries_83 : decode cX1_makeEntries 83 = .ok (.aload_n 0, 1) := by decide +kernel
theorem dX1_makeEntries_84 : decode cX1_makeEntries 84 = .ok (.invokevirtual 63, 3) := by decide +kernel
theorem dX1_makeEntries_87 : decode cX1_makeEntries 87 = .ok (.aload_n 0, 1) := by decide +kernel
theorem dX1_makeEntries_88 : decode cX1_makeEntries 88 = .ok (.aload_n 2, 1) := by decide +kernel
theorem dX1_makeEntries_89 : decode cX1_makeEntries 89 = .ok (.invokevirtual 66, 3) := by decide +kernel
theorem dX1_makeEntries_92 : decode cX1_makeEntries 92 = .ok (.aload_n 0, 1) := by decide +kernel
theorem dX1_makeEntries_93 : decode cX1_makeEntries 93 = .ok (.aload_n 2, 1) := by decide +kernel
theorem dX1_makeEntries_94 : decode cX1_makeEntries 94 = .ok (.invokevirtual 56, 3) := by decide +kernel
theorem dX1_makeEntries_97 : decode cX1_makeEntries 97 = .ok (.aload_n 2, 1) := by decide +kernel
theorem dX1_makeEntries_98 : decode cX1_makeEntries 98 = .ok (.iconst 0, 1) := by decide +kernel
theorem dX1_makeEntries_99 : decode cX1_makeEntries 99 = .ok (.bipush 32, 2) := by decide +kernel
theorem dX1_makeEntries_101 : decode cX1_makeEntries 101 = .ok (.aload_n 2, 1) := by decide +kernel
theorem dX1_makeEntries_102 : decode cX1_makeEntries 102 = .ok (.invokevirtual 38, 3) := by decide +kernel
theorem dX1_makeEntries_105 : decode cX1_makeEntries 105 = .ok (.isub, 1) := by decide +kernel
theorem dX1_makeEntries_106 : decode cX1_makeEntries 106 = .ok (.invokevirtual 69, 3) := by decide +kernel
theorem dX1_makeEntries_109 : decode cX1_makeEntries 109 = .ok (.return_, 1) := by decide +kernel
set_option maxRecDepth 20000 in
theorem ggX1_tryWord_X1_pad : GoodIn wsX1_tryWord wsX1_pad := goodIn_ca (goodIn_r _ [7, 8, 9, 10, 11, 12, 13, 14, 15, 16, 17, 18, 19, 20, 21, 22, 23, 24, 25, 26, 27, 28, 29, 30, 31, 32, 33, 34, 35, 36, 37, 38, 190, 191] (by decide +kernel) (by decide +kernel)) (goodIn_sub (fun _ h => List.mem_cons_of_mem _ (List.mem_append_right _ h)) (by decide +kernel))
set_option maxRecDepth 20000 in
theorem gX1_tryWord_X1_pad : GoodIn wsX1_tryWord (va_wsS RX1 49 yX1_pad wsX1_pad) := goodIn_app (goodIn_of _ (by decide +kernel)) ggX1_tryWord_X1_pad
set_option maxRecDepth 20000 in
theorem ggX1_tryWord_X1_opensPadded : GoodIn wsX1_tryWord wsX1_opensPadded := goodIn_ca (goodIn_r _ [42, 43, 1, 2, 44, 45, 46, 47, 48, 6, 49, 3, 50, 51, 52, 15, 53, 54, 13, 14, 16, 17, 55, 19, 20, 21, 56, 23, 24, 25, 26, 27, 28, 29, 30, 31, 32, 33, 34, 57, 58, 59, 60, 61, 62, 63, 64, 65, 66, 67, 68, 69, 70, 71, 72, 73, 74, 75, 76, 77, 78, 79, 80, 81, 82, 83, 84, 85, 86, 87, 88, 89, 90, 91, 92, 93, 94, 95, 96, 97, 98, 99, 100, 101, 102, 103, 104, 105, 106, 107, 108, 109, 110, 111, 112, 113, 114, 115, 116, 117, 118, 119, 120, 121, 122, 123, 9, 10, 11, 124, 125, 126, 127, 128, 129, 130, 12, 35, 36, 37, 38, 131, 132, 133, 134, 135, 136, 137, 138, 139, 140, 141, 142, 143, 144, 145, 146, 147, 148, 149, 150, 151, 152, 153, 154, 155, 156, 157, 158, 18, 159, 160, 161, 162, 171, 172, 173, 174, 175, 176, 177, 178, 179, 180, 181, 182, 183, 184, 185, 186, 187, 188, 189, 192, 193, 194, 195, 196, 197, 190, 191, 198, 199, 200] (by decide +kernel) (by decide +kernel)) (goodIn_sub (fun _ h => List.mem_cons_of_mem _ (List.mem_append_right _ h)) (by decide +kernel))
set_option maxRecDepth 20000 in
theorem gX1_tryWord_X1_opensPadded : GoodIn wsX1_tryWord (wsV RX1 76 RX1 yX1_opensPadded wsX1_opensPadded) := goodIn_app (goodIn_of _ (by decide +kernel)) ggX1_tryWord_X1_opensPadded
set_option maxRecDepth 20000 in
theorem ggX1_tryWord_X1_findOwnersKey : GoodIn wsX1_tryWord wsX1_findOwnersKey := goodIn_ca (goodIn_r _ [166, 44, 45, 4, 5, 6, 7, 8, 9, 10, 11, 12, 13, 14, 15, 16, 17, 18, 19, 20, 21, 22, 23, 24, 25, 26, 27, 28, 29, 30, 31, 32, 33, 34, 35, 36, 37, 38, 76, 77, 78, 79, 1, 2, 80, 81, 82, 60, 83, 84, 85, 86, 87, 88, 89, 90, 91, 92, 93, 94, 95, 96, 97, 98, 99, 100, 101, 102, 103, 104, 105, 106, 107, 108, 109, 110, 111, 112, 113, 114, 115, 116, 117, 118, 69, 70, 71, 119, 120, 121, 122, 123, 124, 125, 126, 171, 172, 173, 174, 175, 176, 177, 192, 193, 194, 195, 196, 197, 190, 191, 178, 179, 180, 181, 182, 183, 184, 185, 186, 187, 188, 189, 198, 199] (by decide +kernel) (by decide +kernel)) (goodIn_sub (fun _ h => List.mem_cons_of_mem _ (List.mem_append_right _ h)) (by decide +kernel))
set_option maxRecDepth 20000 in
theorem gX1_tryWord_X1_findOwnersKey : GoodIn wsX1_tryWord (wsV RX1 45 RX1 yX1_findOwnersKey wsX1_findOwnersKey) := goodIn_app (goodIn_of _ (by decide +kernel)) ggX1_tryWord_X1_findOwnersKey
set_option maxRecDepth 20000 in
theorem ggX1_tryWord_X9_entryRow : GoodIn wsX1_tryWord wsX9_entryRow := goodIn_r _ [61, 62, 63, 178, 179, 180, 181, 182, 183, 184, 185, 186, 187, 188, 189] (by decide +kernel) (by decide +kernel)
set_option maxRecDepth 20000 in
theorem gX1_tryWord_X9_entryRow : GoodIn wsX1_tryWord (wsV RX1 31 RX9 yX9_entryRow wsX9_entryRow) := goodIn_app (goodIn_of _ (by decide +kernel)) ggX1_tryWord_X9_entryRow
set_option maxRecDepth 20000 in
theorem ggX1_tryWord_X5_copy : GoodIn wsX1_tryWord wsX5_copy := goodIn_ca (goodIn_r _ [53, 54, 13, 14, 15, 16, 17, 55, 19, 20, 21, 56, 23, 24, 25, 26, 27, 28, 29, 30, 31, 32, 33, 34, 190, 191] (by decide +kernel) (by decide +kernel)) (goodIn_sub (fun _ h => List.mem_cons_of_mem _ (List.mem_append_right _ h)) (by decide +kernel))
set_option maxRecDepth 20000 in
theorem gX1_tryWord_X5_copy : GoodIn wsX1_tryWord (wsV RX1 53 RX5 yX5_copy wsX5_copy) := goodIn_app (goodIn_of _ (by decide +kernel)) ggX1_tryWord_X5_copy
set_option maxRecDepth 20000 in
theorem ggX1_tryWord_X1_openSteps : GoodIn wsX1_tryWord wsX1_openSteps := goodIn_ca (goodIn_r _ [170, 44, 45, 135, 136, 137, 6, 138, 1, 2, 139, 140, 141, 142, 143, 144, 145, 146, 147, 148, 149, 27, 28, 15, 29, 17, 30, 150, 151, 152, 153, 154, 19, 20, 21, 155, 156, 157, 158, 171, 172, 173, 174, 175, 176, 177, 192, 193, 194, 195, 196, 197, 178, 179, 180, 181, 182, 183, 184, 185, 186, 187, 188, 189, 200, 190, 191] (by decide +kernel) (by decide +kernel)) (goodIn_sub (fun _ h => List.mem_cons_of_mem _ (List.mem_append_right _ h)) (by decide +kernel))
set_option maxRecDepth 20000 in
theorem gX1_tryWord_X1_openSteps : GoodIn wsX1_tryWord (wsV RX1 80 RX1 yX1_openSteps wsX1_openSteps) := goodIn_app (goodIn_of _ (by decide +kernel)) ggX1_tryWord_X1_openSteps
theorem dX1_tryWord_0 : decode cX1_tryWord 0 = .ok (.aload_n 0, 1) := by decide +kernel
theorem dX1_tryWord_1 : decode cX1_tryWord 1 = .ok (.getfield 21, 3) := by decide +kernel
theorem dX1_tryWord_4 : decode cX1_tryWord 4 = .ok (.getfield 73, 3) := by decide +kernel
theorem dX1_tryWord_7 : decode cX1_tryWord 7 = .ok (.aload_n 0, 1) := by decide +kernel
theorem dX1_tryWord_8 : decode cX1_tryWord 8 = .ok (.getfield 12, 3) := by decide +kernel
theorem dX1_tryWord_11 : decode cX1_tryWord 11 = .ok (.invokestatic 49, 3) := by decide +kernel
theorem dX1_tryWord_14 : decode cX1_tryWord 14 = .ok (.aload_n 0, 1) := by decide +kernel
theorem dX1_tryWord_15 : decode cX1_tryWord 15 = .ok (.invokevirtual 76, 3) := by decide +kernel
theorem dX1_tryWord_18 : decode cX1_tryWord 18 = .ok (.ifCond .eq 5, 3) := by decide +kernel
theorem dX1_tryWord_21 : decode cX1_tryWord 21 = .ok (.iconst 1, 1) := by decide +kernel
theorem dX1_tryWord_22 : decode cX1_tryWord 22 = .ok (.ireturn, 1) := by decide +kernel
theorem dX1_tryWord_23 : decode cX1_tryWord 23 = .ok (.aload_n 0, 1) := by decide +kernel
theorem dX1_tryWord_24 : decode cX1_tryWord 24 = .ok (.aload_n 0, 1) := by decide +kernel
theorem dX1_tryWord_25 : decode cX1_tryWord 25 = .ok (.getfield 21, 3) := by decide +kernel
theorem dX1_tryWord_28 : decode cX1_tryWord 28 = .ok (.getfield 73, 3) := by decide +kernel
theorem dX1_tryWord_31 : decode cX1_tryWord 31 = .ok (.invokevirtual 45, 3) := by decide +kernel
theorem dX1_tryWord_34 : decode cX1_tryWord 34 = .ok (.aload_n 0, 1) := by decide +kernel
theorem dX1_tryWord_35 : decode cX1_tryWord 35 = .ok (.getfield 12, 3) := by decide +kernel
theorem dX1_tryWord_38 : decode cX1_tryWord 38 = .ok (.aload_n 0, 1) := by decide +kernel
theorem dX1_tryWord_39 : decode cX1_tryWord 39 = .ok (.getfield 21, 3) := by decide +kernel
theorem dX1_tryWord_42 : decode cX1_tryWord 42 = .ok (.iconst 0, 1) := by decide +kernel
theorem dX1_tryWord_43 : decode cX1_tryWord 43 = .ok (.invokevirtual 31, 3) := by decide +kernel
theorem dX1_tryWord_46 : decode cX1_tryWord 46 = .ok (.invokevirtual 53, 3) := by decide +kernel
theorem dX1_tryWord_49 : decode cX1_tryWord 49 = .ok (.aload_n 0, 1) := by decide +kernel
theorem dX1_tryWord_50 : decode cX1_tryWord 50 = .ok (.aload_n 0, 1) := by decide +kernel
theorem dX1_tryWord_51 : decode cX1_tryWord 51 = .ok (.getfield 12, 3) := by decide +kernel
theorem dX1_tryWord_54 : decode cX1_tryWord 54 = .ok (.invokevirtual 80, 3) := by decide +kernel
theorem dX1_tryWord_57 : decode cX1_tryWord 57 = .ok (.aload_n 0, 1) := by decide +kernel
theorem dX1_tryWord_58 : decode cX1_tryWord 58 = .ok (.invokevirtual 76, 3) := by decide +kernel
theorem dX1_tryWord_61 : decode cX1_tryWord 61 = .ok (.ifCond .eq 7, 3) := by decide +kernel
theorem dX1_tryWord_64 : decode cX1_tryWord 64 = .ok (.iconst 2, 1) := by decide +kernel
theorem dX1_tryWord_65 : decode cX1_tryWord 65 = .ok (.goto 4, 3) := by decide +kernel
theorem dX1_tryWord_68 : decode cX1_tryWord 68 = .ok (.iconst 0, 1) := by decide +kernel
theorem dX1_tryWord_69 : decode cX1_tryWord 69 = .ok (.ireturn, 1) := by decide +kernel
set_option maxRecDepth 20000 in
theorem ggX1_findObjectKey_X5_copy : GoodIn wsX1_findObjectKey wsX5_copy := goodIn_ca (goodIn_r _ [13, 14, 15, 16, 12, 17, 18, 19, 20, 21, 22, 23, 24, 25, 26, 27, 28, 29, 30, 31, 32, 33, 34, 35, 109, 110] (by decide +kernel) (by decide +kernel)) (goodIn_sub (fun _ h => List.mem_cons_of_mem _ (List.mem_append_right _ h)) (by decide +kernel))
set_option maxRecDepth 20000 in
theorem gX1_findObjectKey_X5_copy : GoodIn wsX1_findObjectKey (wsV RX1 53 RX5 yX5_copy wsX5_copy) := goodIn_app (goodIn_of _ (by decide +kernel)) ggX1_findObjectKey_X5_copy
set_option maxRecDepth 20000 in
theorem ggX1_findObjectKey_X5_addNumber : GoodIn wsX1_findObjectKey wsX5_addNumber := goodIn_ca (goodIn_r _ [39, 32, 33, 34, 12, 35, 18, 31, 109, 110] (by decide +kernel) (by decide +kernel)) (goodIn_sub (fun _ h => List.mem_cons_of_mem _ (List.mem_append_right _ h)) (by decide +kernel))
set_option maxRecDepth 20000 in
theorem gX1_findObjectKey_X5_addNumber : GoodIn wsX1_findObjectKey (wsV RX1 95 RX5 yX5_addNumber wsX5_addNumber) := goodIn_app (goodIn_of _ (by decide +kernel)) ggX1_findObjectKey_X5_addNumber
set_option maxRecDepth 20000 in
theorem ggX1_findObjectKey_X5_add : GoodIn wsX1_findObjectKey wsX5_add := goodIn_ca (goodIn_r _ [35, 18, 31, 109, 110] (by decide +kernel) (by decide +kernel)) (goodIn_sub (fun _ h => List.mem_cons_of_mem _ (List.mem_append_right _ h)) (by decide +kernel))
set_option maxRecDepth 20000 in
theorem gX1_findObjectKey_X5_add : GoodIn wsX1_findObjectKey (wsV RX1 98 RX5 yX5_add wsX5_add) := goodIn_app (goodIn_of _ (by decide +kernel)) ggX1_findObjectKey_X5_add
set_option maxRecDepth 20000 in
theorem ggX1_findObjectKey_X6_sum : GoodIn wsX1_findObjectKey wsX6_sum := goodIn_ca (goodIn_r _ [45, 46, 47, 48, 49, 50, 51, 52, 20, 21, 12, 22, 18, 53, 54, 55, 44, 56, 57, 58, 59, 60, 31, 61, 62, 63, 64, 65, 66, 67, 68, 69, 70, 71, 72, 73, 15, 16, 17, 74, 37, 38, 39, 32, 33, 34, 35, 111, 112, 109, 110] (by decide +kernel) (by decide +kernel)) (goodIn_sub (fun _ h => List.mem_cons_of_mem _ (List.mem_append_right _ h)) (by decide +kernel))
set_option maxRecDepth 20000 in
theorem gX1_findObjectKey_X6_sum : GoodIn wsX1_findObjectKey (wsV RX1 105 RX6 yX6_sum wsX6_sum) := goodIn_app (goodIn_of _ (by decide +kernel)) ggX1_findObjectKey_X6_sum
set_option maxRecDepth 20000 in
theorem ggX1_findObjectKey_X5_count : GoodIn wsX1_findObjectKey wsX5_count := goodIn_r _ [22, 18, 109, 110] (by decide +kernel) (by decide +kernel)
set_option maxRecDepth 20000 in
theorem gX1_findObjectKey_X5_count : GoodIn wsX1_findObjectKey (wsV RX1 38 RX5 yX5_count wsX5_count) := goodIn_app (goodIn_of _ (by decide +kernel)) ggX1_findObjectKey_X5_count
set_option maxRecDepth 20000 in
theorem ggX1_findObjectKey_X5_cut : GoodIn wsX1_findObjectKey wsX5_cut := goodIn_r _ [79, 18, 80, 6, 7, 8, 81, 82, 83, 109, 110] (by decide +kernel) (by decide +kernel)
set_option maxRecDepth 20000 in
theorem gX1_findObjectKey_X5_cut : GoodIn wsX1_findObjectKey (wsV RX1 116 RX5 yX5_cut wsX5_cut) := goodIn_app (goodIn_of _ (by decide +kernel)) ggX1_findObjectKey_X5_cut
theorem dX1_findObjectKey_0 : decode cX1_findObjectKey 0 = .ok (.aload_n 0, 1) := by decide +kernel
theorem dX1_findObjectKey_1 : decode cX1_findObjectKey 1 = .ok (.getfield 83, 3) := by decide +kernel
theorem dX1_findObjectKey_4 : decode cX1_findObjectKey 4 = .ok (.getfield 87, 3) := by decide +kernel
theorem dX1_findObjectKey_7 : decode cX1_findObjectKey 7 = .ok (.astore 5, 2) := by decide +kernel
theorem dX1_findObjectKey_9 : decode cX1_findObjectKey 9 = .ok (.aload 5, 2) := by decide +kernel
theorem dX1_findObjectKey_11 : decode cX1_findObjectKey 11 = .ok (.aload_n 0, 1) := by decide +kernel
theorem dX1_findObjectKey_12 : decode cX1_findObjectKey 12 = .ok (.getfield 21, 3) := by decide +kernel
theorem dX1_findObjectKey_15 : decode cX1_findObjectKey 15 = .ok (.getfield 92, 3) := by decide +kernel
theorem dX1_findObjectKey_18 : decode cX1_findObjectKey 18 = .ok (.invokevirtual 53, 3) := by decide +kernel
theorem dX1_findObjectKey_21 : decode cX1_findObjectKey 21 = .ok (.aload 5, 2) := by decide +kernel
theorem dX1_findObjectKey_23 : decode cX1_findObjectKey 23 = .ok (.iload_n 1, 1) := by decide +kernel
theorem dX1_findObjectKey_24 : decode cX1_findObjectKey 24 = .ok (.iconst 3, 1) := by decide +kernel
theorem dX1_findObjectKey_25 : decode cX1_findObjectKey 25 = .ok (.invokevirtual 95, 3) := by decide +kernel
theorem dX1_findObjectKey_28 : decode cX1_findObjectKey 28 = .ok (.aload 5, 2) := by decide +kernel
theorem dX1_findObjectKey_30 : decode cX1_findObjectKey 30 = .ok (.iload_n 2, 1) := by decide +kernel
theorem dX1_findObjectKey_31 : decode cX1_findObjectKey 31 = .ok (.iconst 2, 1) := by decide +kernel
theorem dX1_findObjectKey_32 : decode cX1_findObjectKey 32 = .ok (.invokevirtual 95, 3) := by decide +kernel
theorem dX1_findObjectKey_35 : decode cX1_findObjectKey 35 = .ok (.iload_n 3, 1) := by decide +kernel
theorem dX1_findObjectKey_36 : decode cX1_findObjectKey 36 = .ok (.ifCond .eq 31, 3) := by decide +kernel
theorem dX1_findObjectKey_39 : decode cX1_findObjectKey 39 = .ok (.aload 5, 2) := by decide +kernel
theorem dX1_findObjectKey_41 : decode cX1_findObjectKey 41 = .ok (.bipush 115, 2) := by decide +kernel
theorem dX1_findObjectKey_43 : decode cX1_findObjectKey 43 = .ok (.invokevirtual 98, 3) := by decide +kernel
theorem dX1_findObjectKey_46 : decode cX1_findObjectKey 46 = .ok (.aload 5, 2) := by decide +kernel
theorem dX1_findObjectKey_48 : decode cX1_findObjectKey 48 = .ok (.bipush 65, 2) := by decide +kernel
theorem dX1_findObjectKey_50 : decode cX1_findObjectKey 50 = .ok (.invokevirtual 98, 3) := by decide +kernel
theorem dX1_findObjectKey_53 : decode cX1_findObjectKey 53 = .ok (.aload 5, 2) := by decide +kernel
theorem dX1_findObjectKey_55 : decode cX1_findObjectKey 55 = .ok (.bipush 108, 2) := by decide +kernel
theorem dX1_findObjectKey_57 : decode cX1_findObjectKey 57 = .ok (.invokevirtual 98, 3) := by decide +kernel
theorem dX1_findObjectKey_60 : decode cX1_findObjectKey 60 = .ok (.aload 5, 2) := by decide +kernel
theorem dX1_findObjectKey_62 : decode cX1_findObjectKey 62 = .ok (.bipush 84, 2) := by decide +kernel
theorem dX1_findObjectKey_64 : decode cX1_findObjectKey 64 = .ok (.invokevirtual 98, 3) := by decide +kernel
theorem dX1_findObjectKey_67 : decode cX1_findObjectKey 67 = .ok (.aload_n 0, 1) := by decide +kernel
theorem dX1_findObjectKey_68 : decode cX1_findObjectKey 68 = .ok (.getfield 83, 3) := by decide +kernel
theorem dX1_findObjectKey_71 : decode cX1_findObjectKey 71 = .ok (.getfield 101, 3) := by decide +kernel
theorem dX1_findObjectKey_74 : decode cX1_findObjectKey 74 = .ok (.aload 5, 2) := by decide +kernel
theorem dX1_findObjectKey_76 : decode cX1_findObjectKey 76 = .ok (.aload 4, 2) := by decide +kernel
theorem dX1_findObjectKey_78 : decode cX1_findObjectKey 78 = .ok (.invokevirtual 105, 3) := by decide +kernel
theorem dX1_findObjectKey_81 : decode cX1_findObjectKey 81 = .ok (.aload 4, 2) := by decide +kernel
theorem dX1_findObjectKey_83 : decode cX1_findObjectKey 83 = .ok (.aload_n 0, 1) := by decide +kernel
theorem dX1_findObjectKey_84 : decode cX1_findObjectKey 84 = .ok (.getfield 21, 3) := by decide +kernel
theorem dX1_findObjectKey_87 : decode cX1_findObjectKey 87 = .ok (.getfield 92, 3) := by decide +kernel
theorem dX1_findObjectKey_90 : decode cX1_findObjectKey 90 = .ok (.invokevirtual 38, 3) := by decide +kernel
theorem dX1_findObjectKey_93 : decode cX1_findObjectKey 93 = .ok (.iconst 5, 1) := by decide +kernel
theorem dX1_findObjectKey_94 : decode cX1_findObjectKey 94 = .ok (.iadd, 1) := by decide +kernel
theorem dX1_findObjectKey_95 : decode cX1_findObjectKey 95 = .ok (.bipush 16, 2) := by decide +kernel
theorem dX1_findObjectKey_97 : decode cX1_findObjectKey 97 = .ok (.invokestatic 110, 3) := by decide +kernel
theorem dX1_findObjectKey_100 : decode cX1_findObjectKey 100 = .ok (.invokevirtual 116, 3) := by decide +kernel
theorem dX1_findObjectKey_103 : decode cX1_findObjectKey 103 = .ok (.return_, 1) := by decide +kernel
theorem dX1_tellPermissions_0 : decode cX1_tellPermissions 0 = .ok (.aload_n 0, 1) := by decide +kernel
theorem dX1_tellPermissions_1 : decode cX1_tellPermissions 1 = .ok (.getfield 21, 3) := by decide +kernel
theorem dX1_tellPermissions_4 : decode cX1_tellPermissions 4 = .ok (.getfield 119, 3) := by decide +kernel
theorem dX1_tellPermissions_7 : decode cX1_tellPermissions 7 = .ok (.ireturn, 1) := by decide +kernel
set_option maxRecDepth 20000 in
theorem ggX1_opensPadded_X1_gatherForKey : GoodIn wsX1_opensPadded wsX1_gatherForKey := goodIn_ca (goodIn_r _ [10, 4, 5, 11, 2, 3, 12, 13, 14, 15, 16, 17, 18, 19, 20, 21, 22, 23, 24, 25, 26, 27, 28, 29, 30, 31, 32, 33, 34, 35, 36, 37, 38, 39, 40, 41, 42, 43, 44, 45, 46, 47, 48, 49, 50, 51, 52, 53, 54, 55, 56, 57, 154, 155, 156, 157, 158, 159, 160, 173, 174, 175, 176, 177, 178, 161, 162, 163, 164, 165, 166, 167, 168, 169, 170, 171, 172, 179, 180] (by decide +kernel) (by decide +kernel)) (goodIn_sub (fun _ h => List.mem_cons_of_mem _ (List.mem_append_right _ h)) (by decide +kernel))
set_option maxRecDepth 20000 in
theorem gX1_opensPadded_X1_gatherForKey : GoodIn wsX1_opensPadded (wsV RX1 59 RX1 yX1_gatherForKey wsX1_gatherForKey) := goodIn_app (goodIn_of _ (by decide +kernel)) ggX1_opensPadded_X1_gatherForKey
set_option maxRecDepth 20000 in
theorem ggX1_opensPadded_X1_sumToKey : GoodIn wsX1_opensPadded wsX1_sumToKey := goodIn_ca (goodIn_r _ [61, 4, 5, 2, 3, 62, 63, 64, 42, 65, 66, 67, 68, 69, 70, 71, 72, 73, 74, 75, 76, 77, 78, 23, 24, 15, 25, 21, 79, 80, 81, 82, 83, 84, 85, 86, 34, 87, 88, 89, 90, 91, 92, 93, 94, 95, 96, 97, 98, 99, 18, 19, 20, 100, 51, 52, 53, 35, 36, 37, 38, 101, 102, 103, 104, 105, 106, 107, 108, 109, 110, 111, 154, 155, 156, 157, 158, 159, 160, 173, 174, 175, 176, 177, 178, 161, 162, 163, 164, 165, 166, 167, 168, 169, 170, 171, 172, 181, 182, 179, 180] (by decide +kernel) (by decide +kernel)) (goodIn_sub (fun _ h => List.mem_cons_of_mem _ (List.mem_append_right _ h)) (by decide +kernel))
set_option maxRecDepth 20000 in
theorem gX1_opensPadded_X1_sumToKey : GoodIn wsX1_opensPadded (wsV RX1 63 RX1 yX1_sumToKey wsX1_sumToKey) := goodIn_app (goodIn_of _ (by decide +kernel)) ggX1_opensPadded_X1_sumToKey
set_option maxRecDepth 20000 in
theorem ggX1_opensPadded_X1_beginCheck : GoodIn wsX1_opensPadded wsX1_beginCheck := goodIn_ca (goodIn_r _ [115, 2, 3, 4, 5, 116, 18, 19, 15, 20, 21, 117, 118, 119, 120, 35, 36, 37, 38, 34, 12, 13, 14, 16, 17, 22, 23, 24, 25, 26, 27, 28, 29, 30, 31, 32, 33, 46, 47, 48, 49, 67, 68, 69, 70, 71, 72, 73, 74, 75, 76, 77, 78, 79, 80, 81, 82, 83, 84, 85, 86, 87, 88, 89, 90, 91, 92, 93, 94, 95, 96, 97, 98, 99, 100, 51, 52, 53, 154, 155, 156, 157, 158, 159, 160, 161, 162, 163, 164, 165, 166, 167, 168, 169, 170, 171, 172, 173, 174, 175, 176, 177, 178, 179, 180, 181, 182] (by decide +kernel) (by decide +kernel)) (goodIn_sub (fun _ h => List.mem_cons_of_mem _ (List.mem_append_right _ h)) (by decide +kernel))
set_option maxRecDepth 20000 in
theorem gX1_opensPadded_X1_beginCheck : GoodIn wsX1_opensPadded (wsV RX1 66 RX1 yX1_beginCheck wsX1_beginCheck) := goodIn_app (goodIn_of _ (by decide +kernel)) ggX1_opensPadded_X1_beginCheck
set_option maxRecDepth 20000 in
theorem ggX1_opensPadded_X1_shutSteps : GoodIn wsX1_opensPadded wsX1_shutSteps := goodIn_ca (goodIn_r _ [124, 4, 5, 125, 126, 127, 9, 128, 2, 3, 129, 130, 131, 132, 133, 134, 135, 136, 137, 138, 139, 31, 32, 15, 33, 21, 34, 140, 141, 142, 143, 144, 23, 24, 25, 145, 146, 147, 148, 154, 155, 156, 157, 158, 159, 160, 173, 174, 175, 176, 177, 178, 161, 162, 163, 164, 165, 166, 167, 168, 169, 170, 171, 172, 183, 179, 180] (by decide +kernel) (by decide +kernel)) (goodIn_sub (fun _ h => List.mem_cons_of_mem _ (List.mem_append_right _ h)) (by decide +kernel))
set_option maxRecDepth 20000 in
theorem gX1_opensPadded_X1_shutSteps : GoodIn wsX1_opensPadded (wsV RX1 56 RX1 yX1_shutSteps wsX1_shutSteps) := goodIn_app (goodIn_of _ (by decide +kernel)) ggX1_opensPadded_X1_shutSteps
set_option maxRecDepth 20000 in
theorem ggX1_opensPadded_X9_entryRow : GoodIn wsX1_opensPadded wsX9_entryRow := goodIn_r _ [43, 44, 45, 161, 162, 163, 164, 165, 166, 167, 168, 169, 170, 171, 172] (by decide +kernel) (by decide +kernel)
set_option maxRecDepth 20000 in
theorem gX1_opensPadded_X9_entryRow : GoodIn wsX1_opensPadded (wsV RX1 31 RX9 yX9_entryRow wsX9_entryRow) := goodIn_app (goodIn_of _ (by decide +kernel)) ggX1_opensPadded_X9_entryRow
set_option maxRecDepth 20000 in
theorem ggX1_opensPadded_X5_count : GoodIn wsX1_opensPadded wsX5_count := goodIn_r _ [25, 21, 179, 180] (by decide +kernel) (by decide +kernel)
set_option maxRecDepth 20000 in
theorem gX1_opensPadded_X5_count : GoodIn wsX1_opensPadded (wsV RX1 38 RX5 yX5_count wsX5_count) := goodIn_app (goodIn_of _ (by decide +kernel)) ggX1_opensPadded_X5_count
set_option maxRecDepth 20000 in
theorem ggX1_opensPadded_X5_startsLike : GoodIn wsX1_opensPadded wsX5_startsLike := goodIn_ca (goodIn_r _ [153, 30, 31, 32, 15, 33, 21, 34, 179, 180] (by decide +kernel) (by decide +kernel)) (goodIn_sub (fun _ h => List.mem_cons_of_mem _ (List.mem_append_right _ h)) (by decide +kernel))
set_option maxRecDepth 20000 in
theorem gX1_opensPadded_X5_startsLike : GoodIn wsX1_opensPadded (wsV RX1 122 RX5 yX5_startsLike wsX5_startsLike) := goodIn_app (goodIn_of _ (by decide +kernel)) ggX1_opensPadded_X5_startsLike
set_option maxRecDepth 20000 in
theorem ggX1_opensPadded_X5_copy : GoodIn wsX1_opensPadded wsX5_copy := goodIn_ca (goodIn_r _ [16, 17, 18, 19, 15, 20, 21, 22, 23, 24, 25, 26, 27, 28, 29, 30, 31, 32, 33, 34, 35, 36, 37, 38, 179, 180] (by decide +kernel) (by decide +kernel)) (goodIn_sub (fun _ h => List.mem_cons_of_mem _ (List.mem_append_right _ h)) (by decide +kernel))
set_option maxRecDepth 20000 in
theorem gX1_opensPadded_X5_copy : GoodIn wsX1_opensPadded (wsV RX1 53 RX5 yX5_copy wsX5_copy) := goodIn_app (goodIn_of _ (by decide +kernel)) ggX1_opensPadded_X5_copy
theorem dX1_opensPadded_0 : decode cX1_opensPadded 0 = .ok (.aload_n 0, 1) := by decide +kernel
theorem dX1_opensPadded_1 : decode cX1_opensPadded 1 = .ok (.invokevirtual 59, 3) := by decide +kernel
theorem dX1_opensPadded_4 : decode cX1_opensPadded 4 = .ok (.aload_n 0, 1) := by decide +kernel
theorem dX1_opensPadded_5 : decode cX1_opensPadded 5 = .ok (.invokevirtual 63, 3) := by decide +kernel
theorem dX1_opensPadded_8 : decode cX1_opensPadded 8 = .ok (.aload_n 0, 1) := by decide +kernel
theorem dX1_opensPadded_9 : decode cX1_opensPadded 9 = .ok (.aload_n 0, 1) := by decide +kernel
theorem dX1_opensPadded_10 : decode cX1_opensPadded 10 = .ok (.getfield 18, 3) := by decide +kernel
theorem dX1_opensPadded_13 : decode cX1_opensPadded 13 = .ok (.invokevirtual 66, 3) := by decide +kernel
theorem dX1_opensPadded_16 : decode cX1_opensPadded 16 = .ok (.aload_n 0, 1) := by decide +kernel
theorem dX1_opensPadded_17 : decode cX1_opensPadded 17 = .ok (.aload_n 0, 1) := by decide +kernel
theorem dX1_opensPadded_18 : decode cX1_opensPadded 18 = .ok (.getfield 18, 3) := by decide +kernel
theorem dX1_opensPadded_21 : decode cX1_opensPadded 21 = .ok (.invokevirtual 56, 3) := by decide +kernel
theorem dX1_opensPadded_24 : decode cX1_opensPadded 24 = .ok (.aload_n 0, 1) := by decide +kernel
theorem dX1_opensPadded_25 : decode cX1_opensPadded 25 = .ok (.getfield 18, 3) := by decide +kernel
theorem dX1_opensPadded_28 : decode cX1_opensPadded 28 = .ok (.aload_n 0, 1) := by decide +kernel
theorem dX1_opensPadded_29 : decode cX1_opensPadded 29 = .ok (.getfield 21, 3) := by decide +kernel
theorem dX1_opensPadded_32 : decode cX1_opensPadded 32 = .ok (.iconst 1, 1) := by decide +kernel
theorem dX1_opensPadded_33 : decode cX1_opensPadded 33 = .ok (.invokevirtual 31, 3) := by decide +kernel
theorem dX1_opensPadded_36 : decode cX1_opensPadded 36 = .ok (.aload_n 0, 1) := by decide +kernel
theorem dX1_opensPadded_37 : decode cX1_opensPadded 37 = .ok (.getfield 18, 3) := by decide +kernel
theorem dX1_opensPadded_40 : decode cX1_opensPadded 40 = .ok (.invokevirtual 38, 3) := by decide +kernel
theorem dX1_opensPadded_43 : decode cX1_opensPadded 43 = .ok (.invokevirtual 122, 3) := by decide +kernel
theorem dX1_opensPadded_46 : decode cX1_opensPadded 46 = .ok (.ifCond .ne 5, 3) := by decide +kernel
theorem dX1_opensPadded_49 : decode cX1_opensPadded 49 = .ok (.iconst 0, 1) := by decide +kernel
theorem dX1_opensPadded_50 : decode cX1_opensPadded 50 = .ok (.ireturn, 1) := by decide +kernel
theorem dX1_opensPadded_51 : decode cX1_opensPadded 51 = .ok (.aload_n 0, 1) := by decide +kernel
theorem dX1_opensPadded_52 : decode cX1_opensPadded 52 = .ok (.getfield 21, 3) := by decide +kernel
theorem dX1_opensPadded_55 : decode cX1_opensPadded 55 = .ok (.getfield 92, 3) := by decide +kernel
theorem dX1_opensPadded_58 : decode cX1_opensPadded 58 = .ok (.aload_n 0, 1) := by decide +kernel
theorem dX1_opensPadded_59 : decode cX1_opensPadded 59 = .ok (.getfield 83, 3) := by decide +kernel
theorem dX1_opensPadded_62 : decode cX1_opensPadded 62 = .ok (.getfield 126, 3) := by decide +kernel
theorem dX1_opensPadded_65 : decode cX1_opensPadded 65 = .ok (.invokevirtual 53, 3) := by decide +kernel
theorem dX1_opensPadded_68 : decode cX1_opensPadded 68 = .ok (.iconst 1, 1) := by decide +kernel
theorem dX1_opensPadded_69 : decode cX1_opensPadded 69 = .ok (.ireturn, 1) := by decide +kernel
set_option maxRecDepth 20000 in
theorem ggX1_pad_X5_clear : GoodIn wsX1_pad wsX5_clear := goodIn_r _ [9, 10, 32, 33] (by decide +kernel) (by decide +kernel)
set_option maxRecDepth 20000 in
theorem gX1_pad_X5_clear : GoodIn wsX1_pad (wsV RX1 128 RX5 yX5_clear wsX5_clear) := goodIn_app (goodIn_of _ (by decide +kernel)) ggX1_pad_X5_clear
set_option maxRecDepth 20000 in
theorem ggX1_pad_X5_count : GoodIn wsX1_pad wsX5_count := goodIn_r _ [14, 10, 32, 33] (by decide +kernel) (by decide +kernel)
set_option maxRecDepth 20000 in
theorem gX1_pad_X5_count : GoodIn wsX1_pad (wsV RX1 38 RX5 yX5_count wsX5_count) := goodIn_app (goodIn_of _ (by decide +kernel)) ggX1_pad_X5_count
set_option maxRecDepth 20000 in
theorem ggX1_pad_X5_addPart : GoodIn wsX1_pad wsX5_addPart := goodIn_ca (goodIn_r _ [18, 19, 20, 21, 8, 22, 10, 23, 24, 25, 26, 27, 32, 33] (by decide +kernel) (by decide +kernel)) (goodIn_sub (fun _ h => List.mem_cons_of_mem _ (List.mem_append_right _ h)) (by decide +kernel))
set_option maxRecDepth 20000 in
theorem gX1_pad_X5_addPart : GoodIn wsX1_pad (wsV RX1 131 RX5 yX5_addPart wsX5_addPart) := goodIn_app (goodIn_of _ (by decide +kernel)) ggX1_pad_X5_addPart
set_option maxRecDepth 20000 in
theorem ggX1_pad_X5_addFill : GoodIn wsX1_pad wsX5_addFill := goodIn_ca (goodIn_r _ [31, 24, 25, 26, 8, 27, 10, 23, 32, 33] (by decide +kernel) (by decide +kernel)) (goodIn_sub (fun _ h => List.mem_cons_of_mem _ (List.mem_append_right _ h)) (by decide +kernel))
set_option maxRecDepth 20000 in
theorem gX1_pad_X5_addFill : GoodIn wsX1_pad (wsV RX1 135 RX5 yX5_addFill wsX5_addFill) := goodIn_app (goodIn_of _ (by decide +kernel)) ggX1_pad_X5_addFill
theorem dX1_pad_0 : decode cX1_pad 0 = .ok (.aload_n 1, 1) := by decide +kernel
theorem dX1_pad_1 : decode cX1_pad 1 = .ok (.invokevirtual 128, 3) := by decide +kernel
theorem dX1_pad_4 : decode cX1_pad 4 = .ok (.aload_n 1, 1) := by decide +kernel
theorem dX1_pad_5 : decode cX1_pad 5 = .ok (.aload_n 0, 1) := by decide +kernel
theorem dX1_pad_6 : decode cX1_pad 6 = .ok (.iconst 0, 1) := by decide +kernel
theorem dX1_pad_7 : decode cX1_pad 7 = .ok (.aload_n 0, 1) := by decide +kernel
theorem dX1_pad_8 : decode cX1_pad 8 = .ok (.invokevirtual 38, 3) := by decide +kernel
theorem dX1_pad_11 : decode cX1_pad 11 = .ok (.bipush 32, 2) := by decide +kernel
theorem dX1_pad_13 : decode cX1_pad 13 = .ok (.invokestatic 110, 3) := by decide +kernel
theorem dX1_pad_16 : decode cX1_pad 16 = .ok (.invokevirtual 131, 3) := by decide +kernel
theorem dX1_pad_19 : decode cX1_pad 19 = .ok (.aload_n 1, 1) := by decide +kernel
theorem dX1_pad_20 : decode cX1_pad 20 = .ok (.bipush 32, 2) := by decide +kernel
theorem dX1_pad_22 : decode cX1_pad 22 = .ok (.aload_n 1, 1) := by decide +kernel
theorem dX1_pad_23 : decode cX1_pad 23 = .ok (.invokevirtual 38, 3) := by decide +kernel
theorem dX1_pad_26 : decode cX1_pad 26 = .ok (.isub, 1) := by decide +kernel
theorem dX1_pad_27 : decode cX1_pad 27 = .ok (.invokevirtual 135, 3) := by decide +kernel
theorem dX1_pad_30 : decode cX1_pad 30 = .ok (.return_, 1) := by decide +kernel
set_option maxRecDepth 20000 in
theorem ggX1_findOwnersKey_X1_pad : GoodIn wsX1_findOwnersKey wsX1_pad := goodIn_ca (goodIn_r _ [6, 7, 8, 9, 10, 11, 12, 13, 14, 15, 16, 17, 18, 19, 20, 21, 22, 23, 24, 25, 26, 27, 28, 29, 30, 31, 32, 33, 34, 35, 36, 37, 108, 109] (by decide +kernel) (by decide +kernel)) (goodIn_sub (fun _ h => List.mem_cons_of_mem _ (List.mem_append_right _ h)) (by decide +kernel))
set_option maxRecDepth 20000 in
theorem gX1_findOwnersKey_X1_pad : GoodIn wsX1_findOwnersKey (va_wsS RX1 49 yX1_pad wsX1_pad) := goodIn_app (goodIn_of _ (by decide +kernel)) ggX1_findOwnersKey_X1_pad
set_option maxRecDepth 20000 in
theorem ggX1_findOwnersKey_X1_sumToKey : GoodIn wsX1_findOwnersKey wsX1_sumToKey := goodIn_ca (goodIn_r _ [41, 1, 2, 42, 43, 44, 45, 46, 47, 48, 49, 50, 51, 52, 53, 54, 55, 56, 57, 58, 59, 60, 61, 18, 19, 14, 20, 16, 62, 63, 64, 65, 66, 67, 68, 69, 29, 70, 71, 72, 73, 74, 75, 76, 77, 78, 79, 80, 81, 82, 12, 13, 15, 83, 84, 85, 86, 30, 31, 32, 33, 87, 88, 89, 90, 91, 8, 9, 10, 92, 93, 94, 95, 96, 97, 98, 99, 100, 101, 102, 103, 104, 105, 106, 107, 110, 111, 112, 113, 114, 115, 116, 117, 118, 119, 120, 121, 122, 123, 108, 109] (by decide +kernel) (by decide +kernel)) (goodIn_sub (fun _ h => List.mem_cons_of_mem _ (List.mem_append_right _ h)) (by decide +kernel))
set_option maxRecDepth 20000 in
theorem gX1_findOwnersKey_X1_sumToKey : GoodIn wsX1_findOwnersKey (wsV RX1 63 RX1 yX1_sumToKey wsX1_sumToKey) := goodIn_app (goodIn_of _ (by decide +kernel)) ggX1_findOwnersKey_X1_sumToKey
theorem dX1_findOwnersKey_0 : decode cX1_findOwnersKey 0 = .ok (.aload_n 1, 1) := by decide +kernel
theorem dX1_findOwnersKey_1 : decode cX1_findOwnersKey 1 = .ok (.aload_n 0, 1) := by decide +kernel
theorem dX1_findOwnersKey_2 : decode cX1_findOwnersKey 2 = .ok (.getfield 83, 3) := by decide +kernel
theorem dX1_findOwnersKey_5 : decode cX1_findOwnersKey 5 = .ok (.getfield 87, 3) := by decide +kernel
theorem dX1_findOwnersKey_8 : decode cX1_findOwnersKey 8 = .ok (.invokestatic 49, 3) := by decide +kernel
theorem dX1_findOwnersKey_11 : decode cX1_findOwnersKey 11 = .ok (.aload_n 0, 1) := by decide +kernel
theorem dX1_findOwnersKey_12 : decode cX1_findOwnersKey 12 = .ok (.invokevirtual 63, 3) := by decide +kernel
theorem dX1_findOwnersKey_15 : decode cX1_findOwnersKey 15 = .ok (.return_, 1) := by decide +kernel
set_option maxRecDepth 20000 in
theorem ggX1_gatherForKey_X5_copy : GoodIn wsX1_gatherForKey wsX5_copy := goodIn_ca (goodIn_r _ [10, 11, 12, 13, 9, 14, 15, 16, 17, 18, 19, 20, 21, 22, 23, 24, 25, 26, 27, 28, 29, 30, 31, 32, 77, 78] (by decide +kernel) (by decide +kernel)) (goodIn_sub (fun _ h => List.mem_cons_of_mem _ (List.mem_append_right _ h)) (by decide +kernel))
set_option maxRecDepth 20000 in
theorem gX1_gatherForKey_X5_copy : GoodIn wsX1_gatherForKey (wsV RX1 53 RX5 yX5_copy wsX5_copy) := goodIn_app (goodIn_of _ (by decide +kernel)) ggX1_gatherForKey_X5_copy
set_option maxRecDepth 20000 in
theorem ggX1_gatherForKey_X9_entryRow : GoodIn wsX1_gatherForKey wsX9_entryRow := goodIn_r _ [37, 38, 39, 65, 66, 67, 68, 69, 70, 71, 72, 73, 74, 75, 76] (by decide +kernel) (by decide +kernel)
set_option maxRecDepth 20000 in
theorem gX1_gatherForKey_X9_entryRow : GoodIn wsX1_gatherForKey (wsV RX1 31 RX9 yX9_entryRow wsX9_entryRow) := goodIn_app (goodIn_of _ (by decide +kernel)) ggX1_gatherForKey_X9_entryRow
set_option maxRecDepth 20000 in
theorem ggX1_gatherForKey_X5_addAll : GoodIn wsX1_gatherForKey wsX5_addAll := goodIn_ca (goodIn_r _ [43, 16, 17, 18, 9, 19, 15, 20, 21, 22, 23, 24, 25, 26, 27, 28, 29, 30, 31, 32, 77, 78] (by decide +kernel) (by decide +kernel)) (goodIn_sub (fun _ h => List.mem_cons_of_mem _ (List.mem_append_right _ h)) (by decide +kernel))
set_option maxRecDepth 20000 in
theorem gX1_gatherForKey_X5_addAll : GoodIn wsX1_gatherForKey (wsV RX1 138 RX5 yX5_addAll wsX5_addAll) := goodIn_app (goodIn_of _ (by decide +kernel)) ggX1_gatherForKey_X5_addAll
set_option maxRecDepth 20000 in
theorem ggX1_gatherForKey_X5_addNumber : GoodIn wsX1_gatherForKey wsX5_addNumber := goodIn_ca (goodIn_r _ [47, 29, 30, 31, 9, 32, 15, 28, 77, 78] (by decide +kernel) (by decide +kernel)) (goodIn_sub (fun _ h => List.mem_cons_of_mem _ (List.mem_append_right _ h)) (by decide +kernel))
set_option maxRecDepth 20000 in
theorem gX1_gatherForKey_X5_addNumber : GoodIn wsX1_gatherForKey (wsV RX1 95 RX5 yX5_addNumber wsX5_addNumber) := goodIn_app (goodIn_of _ (by decide +kernel)) ggX1_gatherForKey_X5_addNumber
set_option maxRecDepth 20000 in
theorem ggX1_gatherForKey_X5_addSame : GoodIn wsX1_gatherForKey wsX5_addSame := goodIn_ca (goodIn_r _ [51, 29, 30, 31, 9, 32, 15, 28, 77, 78] (by decide +kernel) (by decide +kernel)) (goodIn_sub (fun _ h => List.mem_cons_of_mem _ (List.mem_append_right _ h)) (by decide +kernel))
set_option maxRecDepth 20000 in
theorem gX1_gatherForKey_X5_addSame : GoodIn wsX1_gatherForKey (wsV RX1 69 RX5 yX5_addSame wsX5_addSame) := goodIn_app (goodIn_of _ (by decide +kernel)) ggX1_gatherForKey_X5_addSame
theorem dX1_gatherForKey_0 : decode cX1_gatherForKey 0 = .ok (.aload_n 0, 1) := by decide +kernel
theorem dX1_gatherForKey_1 : decode cX1_gatherForKey 1 = .ok (.getfield 83, 3) := by decide +kernel
theorem dX1_gatherForKey_4 : decode cX1_gatherForKey 4 = .ok (.getfield 87, 3) := by decide +kernel
theorem dX1_gatherForKey_7 : decode cX1_gatherForKey 7 = .ok (.astore_n 1, 1) := by decide +kernel
theorem dX1_gatherForKey_8 : decode cX1_gatherForKey 8 = .ok (.aload_n 1, 1) := by decide +kernel
theorem dX1_gatherForKey_9 : decode cX1_gatherForKey 9 = .ok (.aload_n 0, 1) := by decide +kernel
theorem dX1_gatherForKey_10 : decode cX1_gatherForKey 10 = .ok (.getfield 12, 3) := by decide +kernel
theorem dX1_gatherForKey_13 : decode cX1_gatherForKey 13 = .ok (.invokevirtual 53, 3) := by decide +kernel
theorem dX1_gatherForKey_16 : decode cX1_gatherForKey 16 = .ok (.aload_n 1, 1) := by decide +kernel
theorem dX1_gatherForKey_17 : decode cX1_gatherForKey 17 = .ok (.aload_n 0, 1) := by decide +kernel
theorem dX1_gatherForKey_18 : decode cX1_gatherForKey 18 = .ok (.getfield 21, 3) := by decide +kernel
theorem dX1_gatherForKey_21 : decode cX1_gatherForKey 21 = .ok (.iconst 0, 1) := by decide +kernel
theorem dX1_gatherForKey_22 : decode cX1_gatherForKey 22 = .ok (.invokevirtual 31, 3) := by decide +kernel
theorem dX1_gatherForKey_25 : decode cX1_gatherForKey 25 = .ok (.invokevirtual 138, 3) := by decide +kernel
theorem dX1_gatherForKey_28 : decode cX1_gatherForKey 28 = .ok (.aload_n 1, 1) := by decide +kernel
theorem dX1_gatherForKey_29 : decode cX1_gatherForKey 29 = .ok (.aload_n 0, 1) := by decide +kernel
theorem dX1_gatherForKey_30 : decode cX1_gatherForKey 30 = .ok (.getfield 21, 3) := by decide +kernel
theorem dX1_gatherForKey_33 : decode cX1_gatherForKey 33 = .ok (.getfield 119, 3) := by decide +kernel
theorem dX1_gatherForKey_36 : decode cX1_gatherForKey 36 = .ok (.iconst 4, 1) := by decide +kernel
theorem dX1_gatherForKey_37 : decode cX1_gatherForKey 37 = .ok (.invokevirtual 95, 3) := by decide +kernel
theorem dX1_gatherForKey_40 : decode cX1_gatherForKey 40 = .ok (.aload_n 1, 1) := by decide +kernel
theorem dX1_gatherForKey_41 : decode cX1_gatherForKey 41 = .ok (.aload_n 0, 1) := by decide +kernel
theorem dX1_gatherForKey_42 : decode cX1_gatherForKey 42 = .ok (.getfield 21, 3) := by decide +kernel
theorem dX1_gatherForKey_45 : decode cX1_gatherForKey 45 = .ok (.getfield 141, 3) := by decide +kernel
theorem dX1_gatherForKey_48 : decode cX1_gatherForKey 48 = .ok (.invokevirtual 138, 3) := by decide +kernel
theorem dX1_gatherForKey_51 : decode cX1_gatherForKey 51 = .ok (.aload_n 0, 1) := by decide +kernel
theorem dX1_gatherForKey_52 : decode cX1_gatherForKey 52 = .ok (.getfield 21, 3) := by decide +kernel
theorem dX1_gatherForKey_55 : decode cX1_gatherForKey 55 = .ok (.getfield 25, 3) := by decide +kernel
theorem dX1_gatherForKey_58 : decode cX1_gatherForKey 58 = .ok (.iconst 4, 1) := by decide +kernel
theorem dX1_gatherForKey_59 : decode cX1_gatherForKey 59 = .ok (.if_icmp .ne 21, 3) := by decide +kernel
theorem dX1_gatherForKey_62 : decode cX1_gatherForKey 62 = .ok (.aload_n 0, 1) := by decide +kernel
theorem dX1_gatherForKey_63 : decode cX1_gatherForKey 63 = .ok (.getfield 21, 3) := by decide +kernel
theorem dX1_gatherForKey_66 : decode cX1_gatherForKey 66 = .ok (.getfield 144, 3) := by decide +kernel
theorem dX1_gatherForKey_69 : decode cX1_gatherForKey 69 = .ok (.ifCond .eq 11, 3) := by decide +kernel
theorem dX1_gatherForKey_72 : decode cX1_gatherForKey 72 = .ok (.aload_n 1, 1) := by decide +kernel
theorem dX1_gatherForKey_73 : decode cX1_gatherForKey 73 = .ok (.sipush 255, 3) := by decide +kernel
theorem dX1_gatherForKey_76 : decode cX1_gatherForKey 76 = .ok (.iconst 4, 1) := by decide +kernel
theorem dX1_gatherForKey_77 : decode cX1_gatherForKey 77 = .ok (.invokevirtual 69, 3) := by decide +kernel
theorem dX1_gatherForKey_80 : decode cX1_gatherForKey 80 = .ok (.return_, 1) := by decide +kernel
set_option maxRecDepth 20000 in
theorem ggX1_sumToKey_X9_keyBytes : GoodIn wsX1_sumToKey wsX9_keyBytes := goodIn_r _ [9, 10, 85, 86, 87, 88, 89, 90, 91, 92, 93, 94, 95, 96] (by decide +kernel) (by decide +kernel)
set_option maxRecDepth 20000 in
theorem gX1_sumToKey_X9_keyBytes : GoodIn wsX1_sumToKey (wsV RX1 148 RX9 yX9_keyBytes wsX9_keyBytes) := goodIn_app (goodIn_of _ (by decide +kernel)) ggX1_sumToKey_X9_keyBytes
set_option maxRecDepth 20000 in
theorem ggX1_sumToKey_X6_sum : GoodIn wsX1_sumToKey wsX6_sum := goodIn_ca (goodIn_r _ [15, 16, 17, 18, 19, 20, 21, 22, 23, 24, 25, 26, 27, 28, 29, 30, 14, 31, 32, 33, 34, 35, 36, 37, 38, 39, 40, 41, 42, 43, 44, 45, 46, 47, 48, 49, 50, 51, 52, 53, 54, 55, 56, 57, 58, 59, 60, 97, 98, 99, 100] (by decide +kernel) (by decide +kernel)) (goodIn_sub (fun _ h => List.mem_cons_of_mem _ (List.mem_append_right _ h)) (by decide +kernel))
set_option maxRecDepth 20000 in
theorem gX1_sumToKey_X6_sum : GoodIn wsX1_sumToKey (wsV RX1 105 RX6 yX6_sum wsX6_sum) := goodIn_app (goodIn_of _ (by decide +kernel)) ggX1_sumToKey_X6_sum
set_option maxRecDepth 20000 in
theorem ggX1_sumToKey_X5_cut : GoodIn wsX1_sumToKey wsX5_cut := goodIn_r _ [64, 27, 65, 66, 67, 68, 69, 70, 71, 99, 100] (by decide +kernel) (by decide +kernel)
set_option maxRecDepth 20000 in
theorem gX1_sumToKey_X5_cut : GoodIn wsX1_sumToKey (wsV RX1 116 RX5 yX5_cut wsX5_cut) := goodIn_app (goodIn_of _ (by decide +kernel)) ggX1_sumToKey_X5_cut
theorem dX1_sumToKey_0 : decode cX1_sumToKey 0 = .ok (.aload_n 0, 1) := by decide +kernel
theorem dX1_sumToKey_1 : decode cX1_sumToKey 1 = .ok (.getfield 83, 3) := by decide +kernel
theorem dX1_sumToKey_4 : decode cX1_sumToKey 4 = .ok (.getfield 126, 3) := by decide +kernel
theorem dX1_sumToKey_7 : decode cX1_sumToKey 7 = .ok (.astore_n 1, 1) := by decide +kernel
theorem dX1_sumToKey_8 : decode cX1_sumToKey 8 = .ok (.aload_n 0, 1) := by decide +kernel
theorem dX1_sumToKey_9 : decode cX1_sumToKey 9 = .ok (.getfield 21, 3) := by decide +kernel
theorem dX1_sumToKey_12 : decode cX1_sumToKey 12 = .ok (.invokevirtual 148, 3) := by decide +kernel
theorem dX1_sumToKey_15 : decode cX1_sumToKey 15 = .ok (.istore_n 2, 1) := by decide +kernel
theorem dX1_sumToKey_16 : decode cX1_sumToKey 16 = .ok (.aload_n 0, 1) := by decide +kernel
theorem dX1_sumToKey_17 : decode cX1_sumToKey 17 = .ok (.getfield 83, 3) := by decide +kernel
theorem dX1_sumToKey_20 : decode cX1_sumToKey 20 = .ok (.getfield 101, 3) := by decide +kernel
theorem dX1_sumToKey_23 : decode cX1_sumToKey 23 = .ok (.aload_n 0, 1) := by decide +kernel
theorem dX1_sumToKey_24 : decode cX1_sumToKey 24 = .ok (.getfield 83, 3) := by decide +kernel
theorem dX1_sumToKey_27 : decode cX1_sumToKey 27 = .ok (.getfield 87, 3) := by decide +kernel
theorem dX1_sumToKey_30 : decode cX1_sumToKey 30 = .ok (.aload_n 1, 1) := by decide +kernel
theorem dX1_sumToKey_31 : decode cX1_sumToKey 31 = .ok (.invokevirtual 105, 3) := by decide +kernel
theorem dX1_sumToKey_34 : decode cX1_sumToKey 34 = .ok (.aload_n 1, 1) := by decide +kernel
theorem dX1_sumToKey_35 : decode cX1_sumToKey 35 = .ok (.iload_n 2, 1) := by decide +kernel
theorem dX1_sumToKey_36 : decode cX1_sumToKey 36 = .ok (.invokevirtual 116, 3) := by decide +kernel
theorem dX1_sumToKey_39 : decode cX1_sumToKey 39 = .ok (.iconst 0, 1) := by decide +kernel
theorem dX1_sumToKey_40 : decode cX1_sumToKey 40 = .ok (.istore_n 3, 1) := by decide +kernel
theorem dX1_sumToKey_41 : decode cX1_sumToKey 41 = .ok (.iload_n 3, 1) := by decide +kernel
theorem dX1_sumToKey_42 : decode cX1_sumToKey 42 = .ok (.bipush 50, 2) := by decide +kernel
theorem dX1_sumToKey_44 : decode cX1_sumToKey 44 = .ok (.if_icmp .ge 37, 3) := by decide +kernel
theorem dX1_sumToKey_47 : decode cX1_sumToKey 47 = .ok (.aload_n 0, 1) := by decide +kernel
theorem dX1_sumToKey_48 : decode cX1_sumToKey 48 = .ok (.getfield 21, 3) := by decide +kernel
theorem dX1_sumToKey_51 : decode cX1_sumToKey 51 = .ok (.getfield 25, 3) := by decide +kernel
theorem dX1_sumToKey_54 : decode cX1_sumToKey 54 = .ok (.iconst 2, 1) := by decide +kernel
theorem dX1_sumToKey_55 : decode cX1_sumToKey 55 = .ok (.if_icmp .le 26, 3) := by decide +kernel
theorem dX1_sumToKey_58 : decode cX1_sumToKey 58 = .ok (.aload_n 0, 1) := by decide +kernel
theorem dX1_sumToKey_59 : decode cX1_sumToKey 59 = .ok (.getfield 83, 3) := by decide +kernel
theorem dX1_sumToKey_62 : decode cX1_sumToKey 62 = .ok (.getfield 101, 3) := by decide +kernel
theorem dX1_sumToKey_65 : decode cX1_sumToKey 65 = .ok (.aload_n 1, 1) := by decide +kernel
theorem dX1_sumToKey_66 : decode cX1_sumToKey 66 = .ok (.aload_n 1, 1) := by decide +kernel
theorem dX1_sumToKey_67 : decode cX1_sumToKey 67 = .ok (.invokevirtual 105, 3) := by decide +kernel
theorem dX1_sumToKey_70 : decode cX1_sumToKey 70 = .ok (.aload_n 1, 1) := by decide +kernel
theorem dX1_sumToKey_71 : decode cX1_sumToKey 71 = .ok (.iload_n 2, 1) := by decide +kernel
theorem dX1_sumToKey_72 : decode cX1_sumToKey 72 = .ok (.invokevirtual 116, 3) := by decide +kernel
theorem dX1_sumToKey_75 : decode cX1_sumToKey 75 = .ok (.iinc 3 1, 3) := by decide +kernel
theorem dX1_sumToKey_78 : decode cX1_sumToKey 78 = .ok (.goto (-37), 3) := by decide +kernel
theorem dX1_sumToKey_81 : decode cX1_sumToKey 81 = .ok (.return_, 1) := by decide +kernel
set_option maxRecDepth 20000 in
theorem ggX1_beginCheck_X5_clear : GoodIn wsX1_beginCheck wsX5_clear := goodIn_r _ [9, 10, 103, 104] (by decide +kernel) (by decide +kernel)
set_option maxRecDepth 20000 in
theorem gX1_beginCheck_X5_clear : GoodIn wsX1_beginCheck (wsV RX1 128 RX5 yX5_clear wsX5_clear) := goodIn_app (goodIn_of _ (by decide +kernel)) ggX1_beginCheck_X5_clear
set_option maxRecDepth 20000 in
theorem ggX1_beginCheck_X5_addFill : GoodIn wsX1_beginCheck wsX5_addFill := goodIn_ca (goodIn_r _ [14, 15, 16, 17, 8, 18, 10, 19, 103, 104] (by decide +kernel) (by decide +kernel)) (goodIn_sub (fun _ h => List.mem_cons_of_mem _ (List.mem_append_right _ h)) (by decide +kernel))
set_option maxRecDepth 20000 in
theorem gX1_beginCheck_X5_addFill : GoodIn wsX1_beginCheck (wsV RX1 135 RX5 yX5_addFill wsX5_addFill) := goodIn_app (goodIn_of _ (by decide +kernel)) ggX1_beginCheck_X5_addFill
set_option maxRecDepth 20000 in
theorem ggX1_beginCheck_X5_copy : GoodIn wsX1_beginCheck wsX5_copy := goodIn_ca (goodIn_r _ [23, 24, 6, 7, 8, 9, 10, 25, 26, 27, 28, 29, 30, 31, 32, 33, 34, 35, 36, 19, 15, 16, 17, 18, 103, 104] (by decide +kernel) (by decide +kernel)) (goodIn_sub (fun _ h => List.mem_cons_of_mem _ (List.mem_append_right _ h)) (by decide +kernel))
set_option maxRecDepth 20000 in
theorem gX1_beginCheck_X5_copy : GoodIn wsX1_beginCheck (wsV RX1 53 RX5 yX5_copy wsX5_copy) := goodIn_app (goodIn_of _ (by decide +kernel)) ggX1_beginCheck_X5_copy
set_option maxRecDepth 20000 in
theorem ggX1_beginCheck_X5_addAll : GoodIn wsX1_beginCheck wsX5_addAll := goodIn_ca (goodIn_r _ [40, 25, 26, 27, 8, 28, 10, 29, 30, 31, 32, 33, 34, 35, 36, 19, 15, 16, 17, 18, 103, 104] (by decide +kernel) (by decide +kernel)) (goodIn_sub (fun _ h => List.mem_cons_of_mem _ (List.mem_append_right _ h)) (by decide +kernel))
set_option maxRecDepth 20000 in
theorem gX1_beginCheck_X5_addAll : GoodIn wsX1_beginCheck (wsV RX1 138 RX5 yX5_addAll wsX5_addAll) := goodIn_app (goodIn_of _ (by decide +kernel)) ggX1_beginCheck_X5_addAll
set_option maxRecDepth 20000 in
theorem ggX1_beginCheck_X6_sum : GoodIn wsX1_beginCheck wsX6_sum := goodIn_ca (goodIn_r _ [45, 46, 47, 48, 49, 50, 51, 52, 26, 27, 8, 28, 10, 53, 54, 55, 44, 56, 57, 58, 59, 60, 19, 61, 62, 63, 64, 65, 66, 67, 68, 69, 70, 71, 72, 73, 6, 7, 9, 74, 75, 76, 77, 15, 16, 17, 18, 105, 106, 103, 104] (by decide +kernel) (by decide +kernel)) (goodIn_sub (fun _ h => List.mem_cons_of_mem _ (List.mem_append_right _ h)) (by decide +kernel))
set_option maxRecDepth 20000 in
theorem gX1_beginCheck_X6_sum : GoodIn wsX1_beginCheck (wsV RX1 105 RX6 yX6_sum wsX6_sum) := goodIn_app (goodIn_of _ (by decide +kernel)) ggX1_beginCheck_X6_sum
theorem dX1_beginCheck_0 : decode cX1_beginCheck 0 = .ok (.aload_n 1, 1) := by decide +kernel
theorem dX1_beginCheck_1 : decode cX1_beginCheck 1 = .ok (.invokevirtual 128, 3) := by decide +kernel
theorem dX1_beginCheck_4 : decode cX1_beginCheck 4 = .ok (.aload_n 1, 1) := by decide +kernel
theorem dX1_beginCheck_5 : decode cX1_beginCheck 5 = .ok (.bipush 32, 2) := by decide +kernel
theorem dX1_beginCheck_7 : decode cX1_beginCheck 7 = .ok (.invokevirtual 135, 3) := by decide +kernel
theorem dX1_beginCheck_10 : decode cX1_beginCheck 10 = .ok (.aload_n 0, 1) := by decide +kernel
theorem dX1_beginCheck_11 : decode cX1_beginCheck 11 = .ok (.getfield 21, 3) := by decide +kernel
theorem dX1_beginCheck_14 : decode cX1_beginCheck 14 = .ok (.getfield 25, 3) := by decide +kernel
theorem dX1_beginCheck_17 : decode cX1_beginCheck 17 = .ok (.iconst 2, 1) := by decide +kernel
theorem dX1_beginCheck_18 : decode cX1_beginCheck 18 = .ok (.if_icmp .le 39, 3) := by decide +kernel
theorem dX1_beginCheck_21 : decode cX1_beginCheck 21 = .ok (.aload_n 0, 1) := by decide +kernel
theorem dX1_beginCheck_22 : decode cX1_beginCheck 22 = .ok (.getfield 83, 3) := by decide +kernel
theorem dX1_beginCheck_25 : decode cX1_beginCheck 25 = .ok (.getfield 87, 3) := by decide +kernel
theorem dX1_beginCheck_28 : decode cX1_beginCheck 28 = .ok (.astore_n 2, 1) := by decide +kernel
theorem dX1_beginCheck_29 : decode cX1_beginCheck 29 = .ok (.aload_n 2, 1) := by decide +kernel
theorem dX1_beginCheck_30 : decode cX1_beginCheck 30 = .ok (.aload_n 1, 1) := by decide +kernel
theorem dX1_beginCheck_31 : decode cX1_beginCheck 31 = .ok (.invokevirtual 53, 3) := by decide +kernel
theorem dX1_beginCheck_34 : decode cX1_beginCheck 34 = .ok (.aload_n 2, 1) := by decide +kernel
theorem dX1_beginCheck_35 : decode cX1_beginCheck 35 = .ok (.aload_n 0, 1) := by decide +kernel
theorem dX1_beginCheck_36 : decode cX1_beginCheck 36 = .ok (.getfield 21, 3) := by decide +kernel
theorem dX1_beginCheck_39 : decode cX1_beginCheck 39 = .ok (.getfield 141, 3) := by decide +kernel
theorem dX1_beginCheck_42 : decode cX1_beginCheck 42 = .ok (.invokevirtual 138, 3) := by decide +kernel
theorem dX1_beginCheck_45 : decode cX1_beginCheck 45 = .ok (.aload_n 0, 1) := by decide +kernel
theorem dX1_beginCheck_46 : decode cX1_beginCheck 46 = .ok (.getfield 83, 3) := by decide +kernel
theorem dX1_beginCheck_49 : decode cX1_beginCheck 49 = .ok (.getfield 101, 3) := by decide +kernel
theorem dX1_beginCheck_52 : decode cX1_beginCheck 52 = .ok (.aload_n 2, 1) := by decide +kernel
theorem dX1_beginCheck_53 : decode cX1_beginCheck 53 = .ok (.aload_n 1, 1) := by decide +kernel
theorem dX1_beginCheck_54 : decode cX1_beginCheck 54 = .ok (.invokevirtual 105, 3) := by decide +kernel
theorem dX1_beginCheck_57 : decode cX1_beginCheck 57 = .ok (.return_, 1) := by decide +kernel
set_option maxRecDepth 20000 in
theorem ggX1_shutSteps_X1_lastStep : GoodIn wsX1_shutSteps wsX1_lastStep := goodIn_r _ [7, 8, 9, 39, 40, 41, 42, 43, 44, 45, 52, 53, 54, 55, 56, 57, 58, 59, 60, 61, 62, 63] (by decide +kernel) (by decide +kernel)
set_option maxRecDepth 20000 in
theorem gX1_shutSteps_X1_lastStep : GoodIn wsX1_shutSteps (wsV RX1 151 RX1 yX1_lastStep wsX1_lastStep) := goodIn_app (goodIn_of _ (by decide +kernel)) ggX1_shutSteps_X1_lastStep
set_option maxRecDepth 20000 in
theorem ggX1_shutSteps_X7_turn : GoodIn wsX1_shutSteps wsX7_turn := goodIn_ca (goodIn_r _ [14, 15, 16, 17, 18, 13, 19, 20, 21, 22, 23, 24, 25, 26, 27, 28, 29, 30, 31, 32, 33, 34, 35, 36, 37, 38, 64, 65, 66] (by decide +kernel) (by decide +kernel)) (goodIn_sub (fun _ h => List.mem_cons_of_mem _ (List.mem_append_right _ h)) (by decide +kernel))
set_option maxRecDepth 20000 in
theorem gX1_shutSteps_X7_turn : GoodIn wsX1_shutSteps (wsV RX1 158 RX7 yX7_turn wsX7_turn) := goodIn_app (goodIn_of _ (by decide +kernel)) ggX1_shutSteps_X7_turn
theorem dX1_shutSteps_0 : decode cX1_shutSteps 0 = .ok (.iconst 0, 1) := by decide +kernel
theorem dX1_shutSteps_1 : decode cX1_shutSteps 1 = .ok (.istore_n 2, 1) := by decide +kernel
theorem dX1_shutSteps_2 : decode cX1_shutSteps 2 = .ok (.iload_n 2, 1) := by decide +kernel
theorem dX1_shutSteps_3 : decode cX1_shutSteps 3 = .ok (.aload_n 0, 1) := by decide +kernel
theorem dX1_shutSteps_4 : decode cX1_shutSteps 4 = .ok (.invokevirtual 151, 3) := by decide +kernel
theorem dX1_shutSteps_7 : decode cX1_shutSteps 7 = .ok (.if_icmp .gt 28, 3) := by decide +kernel
theorem dX1_shutSteps_10 : decode cX1_shutSteps 10 = .ok (.aload_n 0, 1) := by decide +kernel
theorem dX1_shutSteps_11 : decode cX1_shutSteps 11 = .ok (.getfield 83, 3) := by decide +kernel
theorem dX1_shutSteps_14 : decode cX1_shutSteps 14 = .ok (.getfield 154, 3) := by decide +kernel
theorem dX1_shutSteps_17 : decode cX1_shutSteps 17 = .ok (.aload_n 0, 1) := by decide +kernel
theorem dX1_shutSteps_18 : decode cX1_shutSteps 18 = .ok (.getfield 83, 3) := by decide +kernel
theorem dX1_shutSteps_21 : decode cX1_shutSteps 21 = .ok (.getfield 126, 3) := by decide +kernel
theorem dX1_shutSteps_24 : decode cX1_shutSteps 24 = .ok (.iload_n 2, 1) := by decide +kernel
theorem dX1_shutSteps_25 : decode cX1_shutSteps 25 = .ok (.aload_n 1, 1) := by decide +kernel
theorem dX1_shutSteps_26 : decode cX1_shutSteps 26 = .ok (.invokevirtual 158, 3) := by decide +kernel
theorem dX1_shutSteps_29 : decode cX1_shutSteps 29 = .ok (.iinc 2 1, 3) := by decide +kernel
theorem dX1_shutSteps_32 : decode cX1_shutSteps 32 = .ok (.goto (-30), 3) := by decide +kernel
theorem dX1_shutSteps_35 : decode cX1_shutSteps 35 = .ok (.return_, 1) := by decide +kernel
set_option maxRecDepth 20000 in
theorem ggX1_openSteps_X1_lastStep : GoodIn wsX1_openSteps wsX1_lastStep := goodIn_r _ [7, 8, 9, 39, 40, 41, 42, 43, 44, 45, 52, 53, 54, 55, 56, 57, 58, 59, 60, 61, 62, 63] (by decide +kernel) (by decide +kernel)
set_option maxRecDepth 20000 in
theorem gX1_openSteps_X1_lastStep : GoodIn wsX1_openSteps (wsV RX1 151 RX1 yX1_lastStep wsX1_lastStep) := goodIn_app (goodIn_of _ (by decide +kernel)) ggX1_openSteps_X1_lastStep
set_option maxRecDepth 20000 in
theorem ggX1_openSteps_X7_turn : GoodIn wsX1_openSteps wsX7_turn := goodIn_ca (goodIn_r _ [14, 15, 16, 17, 18, 13, 19, 20, 21, 22, 23, 24, 25, 26, 27, 28, 29, 30, 31, 32, 33, 34, 35, 36, 37, 38, 64, 65, 66] (by decide +kernel) (by decide +kernel)) (goodIn_sub (fun _ h => List.mem_cons_of_mem _ (List.mem_append_right _ h)) (by decide +kernel))
set_option maxRecDepth 20000 in
theorem gX1_openSteps_X7_turn : GoodIn wsX1_openSteps (wsV RX1 158 RX7 yX7_turn wsX7_turn) := goodIn_app (goodIn_of _ (by decide +kernel)) ggX1_openSteps_X7_turn
theorem dX1_openSteps_0 : decode cX1_openSteps 0 = .ok (.aload_n 0, 1) := by decide +kernel
theorem dX1_openSteps_1 : decode cX1_openSteps 1 = .ok (.invokevirtual 151, 3) := by decide +kernel
theorem dX1_openSteps_4 : decode cX1_openSteps 4 = .ok (.istore_n 2, 1) := by decide +kernel
theorem dX1_openSteps_5 : decode cX1_openSteps 5 = .ok (.iload_n 2, 1) := by decide +kernel
theorem dX1_openSteps_6 : decode cX1_openSteps 6 = .ok (.ifCond .lt 28, 3) := by decide +kernel
theorem dX1_openSteps_9 : decode cX1_openSteps 9 = .ok (.aload_n 0, 1) := by decide +kernel
theorem dX1_openSteps_10 : decode cX1_openSteps 10 = .ok (.getfield 83, 3) := by decide +kernel
theorem dX1_openSteps_13 : decode cX1_openSteps 13 = .ok (.getfield 154, 3) := by decide +kernel
theorem dX1_openSteps_16 : decode cX1_openSteps 16 = .ok (.aload_n 0, 1) := by decide +kernel
theorem dX1_openSteps_17 : decode cX1_openSteps 17 = .ok (.getfield 83, 3) := by decide +kernel
theorem dX1_openSteps_20 : decode cX1_openSteps 20 = .ok (.getfield 126, 3) := by decide +kernel
theorem dX1_openSteps_23 : decode cX1_openSteps 23 = .ok (.iload_n 2, 1) := by decide +kernel
theorem dX1_openSteps_24 : decode cX1_openSteps 24 = .ok (.aload_n 1, 1) := by decide +kernel
theorem dX1_openSteps_25 : decode cX1_openSteps 25 = .ok (.invokevirtual 158, 3) := by decide +kernel
theorem dX1_openSteps_28 : decode cX1_openSteps 28 = .ok (.iinc 2 (-1), 3) := by decide +kernel
theorem dX1_openSteps_31 : decode cX1_openSteps 31 = .ok (.goto (-26), 3) := by decide +kernel
theorem dX1_openSteps_34 : decode cX1_openSteps 34 = .ok (.return_, 1) := by decide +kernel
theorem dX1_lastStep_0 : decode cX1_lastStep 0 = .ok (.aload_n 0, 1) := by decide +kernel
theorem dX1_lastStep_1 : decode cX1_lastStep 1 = .ok (.getfield 21, 3) := by decide +kernel
theorem dX1_lastStep_4 : decode cX1_lastStep 4 = .ok (.getfield 25, 3) := by decide +kernel
theorem dX1_lastStep_7 : decode cX1_lastStep 7 = .ok (.iconst 2, 1) := by decide +kernel
theorem dX1_lastStep_8 : decode cX1_lastStep 8 = .ok (.if_icmp .ne 7, 3) := by decide +kernel
theorem dX1_lastStep_11 : decode cX1_lastStep 11 = .ok (.iconst 0, 1) := by decide +kernel
theorem dX1_lastStep_12 : decode cX1_lastStep 12 = .ok (.goto 5, 3) := by decide +kernel
theorem dX1_lastStep_15 : decode cX1_lastStep 15 = .ok (.bipush 19, 2) := by decide +kernel
theorem dX1_lastStep_17 : decode cX1_lastStep 17 = .ok (.ireturn, 1) := by decide +kernel
theorem dX2_init_0 : decode cX2_init 0 = .ok (.aload_n 0, 1) := by decide +kernel
theorem dX2_init_1 : decode cX2_init 1 = .ok (.invokespecial 1, 3) := by decide +kernel
theorem dX2_init_4 : decode cX2_init 4 = .ok (.aload_n 0, 1) := by decide +kernel
theorem dX2_init_5 : decode cX2_init 5 = .ok (.bipush 64, 2) := by decide +kernel
theorem dX2_init_7 : decode cX2_init 7 = .ok (.newarray .int, 2) := by decide +kernel
theorem dX2_init_9 : decode cX2_init 9 = .ok (.putfield 7, 3) := by decide +kernel
theorem dX2_init_12 : decode cX2_init 12 = .ok (.aload_n 0, 1) := by decide +kernel
theorem dX2_init_13 : decode cX2_init 13 = .ok (.bipush 8, 2) := by decide +kernel
theorem dX2_init_15 : decode cX2_init 15 = .ok (.newarray .int, 2) := by decide +kernel
theorem dX2_init_17 : decode cX2_init 17 = .ok (.putfield 13, 3) := by decide +kernel
theorem dX2_init_20 : decode cX2_init 20 = .ok (.return_, 1) := by decide +kernel
set_option maxRecDepth 20000 in
theorem ggX2_sum_X5_count : GoodIn wsX2_sum wsX5_count := goodIn_r _ [8, 9, 42, 43] (by decide +kernel) (by decide +kernel)
set_option maxRecDepth 20000 in
theorem gX2_sum_X5_count : GoodIn wsX2_sum (wsV RX2 19 RX5 yX5_count wsX5_count) := goodIn_app (goodIn_of _ (by decide +kernel)) ggX2_sum_X5_count
set_option maxRecDepth 20000 in
theorem ggX2_sum_X2_load : GoodIn wsX2_sum wsX2_load := goodIn_ca (goodIn_r _ [14, 3, 15, 16, 17, 7, 18, 9, 19, 40, 41, 42, 43] (by decide +kernel) (by decide +kernel)) (goodIn_sub (fun _ h => List.mem_cons_of_mem _ (List.mem_append_right _ h)) (by decide +kernel))
set_option maxRecDepth 20000 in
theorem gX2_sum_X2_load : GoodIn wsX2_sum (wsV RX2 25 RX2 yX2_load wsX2_load) := goodIn_app (goodIn_of _ (by decide +kernel)) ggX2_sum_X2_load
set_option maxRecDepth 20000 in
theorem ggX2_sum_X2_stretch : GoodIn wsX2_sum wsX2_stretch := goodIn_ca (goodIn_r _ [23, 3, 24, 25, 13, 26, 40, 41] (by decide +kernel) (by decide +kernel)) (goodIn_sub (fun _ h => List.mem_cons_of_mem _ (List.mem_append_right _ h)) (by decide +kernel))
set_option maxRecDepth 20000 in
theorem gX2_sum_X2_stretch : GoodIn wsX2_sum (wsV RX2 29 RX2 yX2_stretch wsX2_stretch) := goodIn_app (goodIn_of _ (by decide +kernel)) ggX2_sum_X2_stretch
set_option maxRecDepth 20000 in
theorem ggX2_sum_X2_mix : GoodIn wsX2_sum wsX2_mix := goodIn_ca (goodIn_r _ [30, 1, 31, 3, 24, 25, 13, 26, 40, 41] (by decide +kernel) (by decide +kernel)) (goodIn_sub (fun _ h => List.mem_cons_of_mem _ (List.mem_append_right _ h)) (by decide +kernel))
set_option maxRecDepth 20000 in
theorem gX2_sum_X2_mix : GoodIn wsX2_sum (wsV RX2 32 RX2 yX2_mix wsX2_mix) := goodIn_app (goodIn_of _ (by decide +kernel)) ggX2_sum_X2_mix
set_option maxRecDepth 20000 in
theorem ggX2_sum_X5_clear : GoodIn wsX2_sum wsX5_clear := goodIn_r _ [35, 9, 42, 43] (by decide +kernel) (by decide +kernel)
set_option maxRecDepth 20000 in
theorem gX2_sum_X5_clear : GoodIn wsX2_sum (wsV RX2 35 RX5 yX5_clear wsX5_clear) := goodIn_app (goodIn_of _ (by decide +kernel)) ggX2_sum_X5_clear
set_option maxRecDepth 20000 in
theorem ggX2_sum_X5_add : GoodIn wsX2_sum wsX5_add := goodIn_ca (goodIn_r _ [39, 9, 19, 42, 43] (by decide +kernel) (by decide +kernel)) (goodIn_sub (fun _ h => List.mem_cons_of_mem _ (List.mem_append_right _ h)) (by decide +kernel))
set_option maxRecDepth 20000 in
theorem gX2_sum_X5_add : GoodIn wsX2_sum (wsV RX2 38 RX5 yX5_add wsX5_add) := goodIn_app (goodIn_of _ (by decide +kernel)) ggX2_sum_X5_add
theorem dX2_sum_0 : decode cX2_sum 0 = .ok (.iconst 0, 1) := by decide +kernel
theorem dX2_sum_1 : decode cX2_sum 1 = .ok (.istore_n 3, 1) := by decide +kernel
theorem dX2_sum_2 : decode cX2_sum 2 = .ok (.iload_n 3, 1) := by decide +kernel
theorem dX2_sum_3 : decode cX2_sum 3 = .ok (.bipush 8, 2) := by decide +kernel
theorem dX2_sum_5 : decode cX2_sum 5 = .ok (.if_icmp .ge 20, 3) := by decide +kernel
theorem dX2_sum_8 : decode cX2_sum 8 = .ok (.aload_n 0, 1) := by decide +kernel
theorem dX2_sum_9 : decode cX2_sum 9 = .ok (.getfield 13, 3) := by decide +kernel
theorem dX2_sum_12 : decode cX2_sum 12 = .ok (.iload_n 3, 1) := by decide +kernel
theorem dX2_sum_13 : decode cX2_sum 13 = .ok (.getstatic 16, 3) := by decide +kernel
theorem dX2_sum_16 : decode cX2_sum 16 = .ok (.iload_n 3, 1) := by decide +kernel
theorem dX2_sum_17 : decode cX2_sum 17 = .ok (.iaload, 1) := by decide +kernel
theorem dX2_sum_18 : decode cX2_sum 18 = .ok (.iastore, 1) := by decide +kernel
theorem dX2_sum_19 : decode cX2_sum 19 = .ok (.iinc 3 1, 3) := by decide +kernel
theorem dX2_sum_22 : decode cX2_sum 22 = .ok (.goto (-20), 3) := by decide +kernel
theorem dX2_sum_25 : decode cX2_sum 25 = .ok (.aload_n 1, 1) := by decide +kernel
theorem dX2_sum_26 : decode cX2_sum 26 = .ok (.invokevirtual 19, 3) := by decide +kernel
theorem dX2_sum_29 : decode cX2_sum 29 = .ok (.bipush 8, 2) := by decide +kernel
theorem dX2_sum_31 : decode cX2_sum 31 = .ok (.iadd, 1) := by decide +kernel
theorem dX2_sum_32 : decode cX2_sum 32 = .ok (.bipush 64, 2) := by decide +kernel
theorem dX2_sum_34 : decode cX2_sum 34 = .ok (.idiv, 1) := by decide +kernel
theorem dX2_sum_35 : decode cX2_sum 35 = .ok (.iconst 1, 1) := by decide +kernel
theorem dX2_sum_36 : decode cX2_sum 36 = .ok (.iadd, 1) := by decide +kernel
theorem dX2_sum_37 : decode cX2_sum 37 = .ok (.istore_n 3, 1) := by decide +kernel
theorem dX2_sum_38 : decode cX2_sum 38 = .ok (.iconst 0, 1) := by decide +kernel
theorem dX2_sum_39 : decode cX2_sum 39 = .ok (.istore 4, 2) := by decide +kernel
theorem dX2_sum_41 : decode cX2_sum 41 = .ok (.iload 4, 2) := by decide +kernel
theorem dX2_sum_43 : decode cX2_sum 43 = .ok (.iload_n 3, 1) := by decide +kernel
theorem dX2_sum_44 : decode cX2_sum 44 = .ok (.if_icmp .ge 49, 3) := by decide +kernel
theorem dX2_sum_47 : decode cX2_sum 47 = .ok (.aload_n 0, 1) := by decide +kernel
theorem dX2_sum_48 : decode cX2_sum 48 = .ok (.aload_n 1, 1) := by decide +kernel
theorem dX2_sum_49 : decode cX2_sum 49 = .ok (.bipush 64, 2) := by decide +kernel
theorem dX2_sum_51 : decode cX2_sum 51 = .ok (.iload 4, 2) := by decide +kernel
theorem dX2_sum_53 : decode cX2_sum 53 = .ok (.imul, 1) := by decide +kernel
theorem dX2_sum_54 : decode cX2_sum 54 = .ok (.invokevirtual 25, 3) := by decide +kernel
theorem dX2_sum_57 : decode cX2_sum 57 = .ok (.iload 4, 2) := by decide +kernel
theorem dX2_sum_59 : decode cX2_sum 59 = .ok (.iload_n 3, 1) := by decide +kernel
theorem dX2_sum_60 : decode cX2_sum 60 = .ok (.iconst 1, 1) := by decide +kernel
theorem dX2_sum_61 : decode cX2_sum 61 = .ok (.isub, 1) := by decide +kernel
theorem dX2_sum_62 : decode cX2_sum 62 = .ok (.if_icmp .ne 17, 3) := by decide +kernel
theorem dX2_sum_65 : decode cX2_sum 65 = .ok (.aload_n 0, 1) := by decide +kernel
theorem dX2_sum_66 : decode cX2_sum 66 = .ok (.getfield 7, 3) := by decide +kernel
theorem dX2_sum_69 : decode cX2_sum 69 = .ok (.bipush 15, 2) := by decide +kernel
theorem dX2_sum_71 : decode cX2_sum 71 = .ok (.bipush 8, 2) := by decide +kernel
theorem dX2_sum_73 : decode cX2_sum 73 = .ok (.aload_n 1, 1) := by decide +kernel
theorem dX2_sum_74 : decode cX2_sum 74 = .ok (.invokevirtual 19, 3) := by decide +kernel
theorem dX2_sum_77 : decode cX2_sum 77 = .ok (.imul, 1) := by decide +kernel
theorem dX2_sum_78 : decode cX2_sum 78 = .ok (.iastore, 1) := by decide +kernel
theorem dX2_sum_79 : decode cX2_sum 79 = .ok (.aload_n 0, 1) := by decide +kernel
theorem dX2_sum_80 : decode cX2_sum 80 = .ok (.invokevirtual 29, 3) := by decide +kernel
theorem dX2_sum_83 : decode cX2_sum 83 = .ok (.aload_n 0, 1) := by decide +kernel
theorem dX2_sum_84 : decode cX2_sum 84 = .ok (.invokevirtual 32, 3) := by decide +kernel
theorem dX2_sum_87 : decode cX2_sum 87 = .ok (.iinc 4 1, 3) := by decide +kernel
theorem dX2_sum_90 : decode cX2_sum 90 = .ok (.goto (-49), 3) := by decide +kernel
theorem dX2_sum_93 : decode cX2_sum 93 = .ok (.aload_n 2, 1) := by decide +kernel
theorem dX2_sum_94 : decode cX2_sum 94 = .ok (.invokevirtual 35, 3) := by decide +kernel
theorem dX2_sum_97 : decode cX2_sum 97 = .ok (.iconst 0, 1) := by decide +kernel
theorem dX2_sum_98 : decode cX2_sum 98 = .ok (.istore 4, 2) := by decide +kernel
theorem dX2_sum_100 : decode cX2_sum 100 = .ok (.iload 4, 2) := by decide +kernel
theorem dX2_sum_102 : decode cX2_sum 102 = .ok (.bipush 8, 2) := by decide +kernel
theorem dX2_sum_104 : decode cX2_sum 104 = .ok (.if_icmp .ge 38, 3) := by decide +kernel
theorem dX2_sum_107 : decode cX2_sum 107 = .ok (.bipush 24, 2) := by decide +kernel
theorem dX2_sum_109 : decode cX2_sum 109 = .ok (.istore 5, 2) := by decide +kernel
theorem dX2_sum_111 : decode cX2_sum 111 = .ok (.iload 5, 2) := by decide +kernel
theorem dX2_sum_113 : decode cX2_sum 113 = .ok (.ifCond .lt 23, 3) := by decide +kernel
theorem dX2_sum_116 : decode cX2_sum 116 = .ok (.aload_n 2, 1) := by decide +kernel
theorem dX2_sum_117 : decode cX2_sum 117 = .ok (.aload_n 0, 1) := by decide +kernel
theorem dX2_sum_118 : decode cX2_sum 118 = .ok (.getfield 13, 3) := by decide +kernel
theorem dX2_sum_121 : decode cX2_sum 121 = .ok (.iload 4, 2) := by decide +kernel
theorem dX2_sum_123 : decode cX2_sum 123 = .ok (.iaload, 1) := by decide +kernel
theorem dX2_sum_124 : decode cX2_sum 124 = .ok (.iload 5, 2) := by decide +kernel
theorem dX2_sum_126 : decode cX2_sum 126 = .ok (.iushr, 1) := by decide +kernel
theorem dX2_sum_127 : decode cX2_sum 127 = .ok (.invokevirtual 38, 3) := by decide +kernel
theorem dX2_sum_130 : decode cX2_sum 130 = .ok (.iinc 5 (-8), 3) := by decide +kernel
theorem dX2_sum_133 : decode cX2_sum 133 = .ok (.goto (-22), 3) := by decide +kernel
theorem dX2_sum_136 : decode cX2_sum 136 = .ok (.iinc 4 1, 3) := by decide +kernel
theorem dX2_sum_139 : decode cX2_sum 139 = .ok (.goto (-39), 3) := by decide +kernel
theorem dX2_sum_142 : decode cX2_sum 142 = .ok (.return_, 1) := by decide +kernel
set_option maxRecDepth 20000 in
theorem ggX2_load_X5_closedAt : GoodIn wsX2_load wsX5_closedAt := goodIn_ca (goodIn_r _ [6, 7, 8, 11, 12] (by decide +kernel) (by decide +kernel)) (goodIn_sub (fun _ h => List.mem_cons_of_mem _ (List.mem_append_right _ h)) (by decide +kernel))
set_option maxRecDepth 20000 in
theorem gX2_load_X5_closedAt : GoodIn wsX2_load (wsV RX2 42 RX5 yX5_closedAt wsX5_closedAt) := goodIn_app (goodIn_of _ (by decide +kernel)) ggX2_load_X5_closedAt
theorem dX2_load_0 : decode cX2_load 0 = .ok (.iconst 0, 1) := by decide +kernel
theorem dX2_load_1 : decode cX2_load 1 = .ok (.istore_n 3, 1) := by decide +kernel
theorem dX2_load_2 : decode cX2_load 2 = .ok (.iload_n 3, 1) := by decide +kernel
theorem dX2_load_3 : decode cX2_load 3 = .ok (.bipush 16, 2) := by decide +kernel
theorem dX2_load_5 : decode cX2_load 5 = .ok (.if_icmp .ge 55, 3) := by decide +kernel
theorem dX2_load_8 : decode cX2_load 8 = .ok (.iconst 0, 1) := by decide +kernel
theorem dX2_load_9 : decode cX2_load 9 = .ok (.istore 4, 2) := by decide +kernel
theorem dX2_load_11 : decode cX2_load 11 = .ok (.iconst 0, 1) := by decide +kernel
theorem dX2_load_12 : decode cX2_load 12 = .ok (.istore 5, 2) := by decide +kernel
theorem dX2_load_14 : decode cX2_load 14 = .ok (.iload 5, 2) := by decide +kernel
theorem dX2_load_16 : decode cX2_load 16 = .ok (.iconst 4, 1) := by decide +kernel
theorem dX2_load_17 : decode cX2_load 17 = .ok (.if_icmp .ge 29, 3) := by decide +kernel
theorem dX2_load_20 : decode cX2_load 20 = .ok (.iload 4, 2) := by decide +kernel
theorem dX2_load_22 : decode cX2_load 22 = .ok (.bipush 8, 2) := by decide +kernel
theorem dX2_load_24 : decode cX2_load 24 = .ok (.ishl, 1) := by decide +kernel
theorem dX2_load_25 : decode cX2_load 25 = .ok (.aload_n 1, 1) := by decide +kernel
theorem dX2_load_26 : decode cX2_load 26 = .ok (.iload_n 2, 1) := by decide +kernel
theorem dX2_load_27 : decode cX2_load 27 = .ok (.iconst 4, 1) := by decide +kernel
theorem dX2_load_28 : decode cX2_load 28 = .ok (.iload_n 3, 1) := by decide +kernel
theorem dX2_load_29 : decode cX2_load 29 = .ok (.imul, 1) := by decide +kernel
theorem dX2_load_30 : decode cX2_load 30 = .ok (.iadd, 1) := by decide +kernel
theorem dX2_load_31 : decode cX2_load 31 = .ok (.iload 5, 2) := by decide +kernel
theorem dX2_load_33 : decode cX2_load 33 = .ok (.iadd, 1) := by decide +kernel
theorem dX2_load_34 : decode cX2_load 34 = .ok (.invokevirtual 42, 3) := by decide +kernel
theorem dX2_load_37 : decode cX2_load 37 = .ok (.ior, 1) := by decide +kernel
theorem dX2_load_38 : decode cX2_load 38 = .ok (.istore 4, 2) := by decide +kernel
theorem dX2_load_40 : decode cX2_load 40 = .ok (.iinc 5 1, 3) := by decide +kernel
theorem dX2_load_43 : decode cX2_load 43 = .ok (.goto (-29), 3) := by decide +kernel
theorem dX2_load_46 : decode cX2_load 46 = .ok (.aload_n 0, 1) := by decide +kernel
theorem dX2_load_47 : decode cX2_load 47 = .ok (.getfield 7, 3) := by decide +kernel
theorem dX2_load_50 : decode cX2_load 50 = .ok (.iload_n 3, 1) := by decide +kernel
theorem dX2_load_51 : decode cX2_load 51 = .ok (.iload 4, 2) := by decide +kernel
theorem dX2_load_53 : decode cX2_load 53 = .ok (.iastore, 1) := by decide +kernel
theorem dX2_load_54 : decode cX2_load 54 = .ok (.iinc 3 1, 3) := by decide +kernel
theorem dX2_load_57 : decode cX2_load 57 = .ok (.goto (-55), 3) := by decide +kernel
theorem dX2_load_60 : decode cX2_load 60 = .ok (.return_, 1) := by decide +kernel
set_option maxRecDepth 20000 in
theorem ggX2_stretch_X2_turned : GoodIn wsX2_stretch wsX2_turned := goodIn_r _ [5] (by decide +kernel) (by decide +kernel)
set_option maxRecDepth 20000 in
theorem gX2_stretch_X2_turned : GoodIn wsX2_stretch (va_wsS RX2 46 yX2_turned wsX2_turned) := goodIn_app (goodIn_of _ (by decide +kernel)) ggX2_stretch_X2_turned
theorem dX2_stretch_0 : decode cX2_stretch 0 = .ok (.bipush 16, 2) := by decide +kernel
theorem dX2_stretch_2 : decode cX2_stretch 2 = .ok (.istore_n 1, 1) := by decide +kernel
theorem dX2_stretch_3 : decode cX2_stretch 3 = .ok (.iload_n 1, 1) := by decide +kernel
theorem dX2_stretch_4 : decode cX2_stretch 4 = .ok (.bipush 64, 2) := by decide +kernel
theorem dX2_stretch_6 : decode cX2_stretch 6 = .ok (.if_icmp .ge 98, 3) := by decide +kernel
theorem dX2_stretch_9 : decode cX2_stretch 9 = .ok (.aload_n 0, 1) := by decide +kernel
theorem dX2_stretch_10 : decode cX2_stretch 10 = .ok (.getfield 7, 3) := by decide +kernel
theorem dX2_stretch_13 : decode cX2_stretch 13 = .ok (.iload_n 1, 1) := by decide +kernel
theorem dX2_stretch_14 : decode cX2_stretch 14 = .ok (.bipush 15, 2) := by decide +kernel
theorem dX2_stretch_16 : decode cX2_stretch 16 = .ok (.isub, 1) := by decide +kernel
theorem dX2_stretch_17 : decode cX2_stretch 17 = .ok (.iaload, 1) := by decide +kernel
theorem dX2_stretch_18 : decode cX2_stretch 18 = .ok (.istore_n 2, 1) := by decide +kernel
theorem dX2_stretch_19 : decode cX2_stretch 19 = .ok (.aload_n 0, 1) := by decide +kernel
theorem dX2_stretch_20 : decode cX2_stretch 20 = .ok (.getfield 7, 3) := by decide +kernel
theorem dX2_stretch_23 : decode cX2_stretch 23 = .ok (.iload_n 1, 1) := by decide +kernel
theorem dX2_stretch_24 : decode cX2_stretch 24 = .ok (.iconst 2, 1) := by decide +kernel
theorem dX2_stretch_25 : decode cX2_stretch 25 = .ok (.isub, 1) := by decide +kernel
theorem dX2_stretch_26 : decode cX2_stretch 26 = .ok (.iaload, 1) := by decide +kernel
theorem dX2_stretch_27 : decode cX2_stretch 27 = .ok (.istore_n 3, 1) := by decide +kernel
theorem dX2_stretch_28 : decode cX2_stretch 28 = .ok (.iload_n 2, 1) := by decide +kernel
theorem dX2_stretch_29 : decode cX2_stretch 29 = .ok (.bipush 7, 2) := by decide +kernel
theorem dX2_stretch_31 : decode cX2_stretch 31 = .ok (.invokestatic 46, 3) := by decide +kernel
theorem dX2_stretch_34 : decode cX2_stretch 34 = .ok (.iload_n 2, 1) := by decide +kernel
theorem dX2_stretch_35 : decode cX2_stretch 35 = .ok (.bipush 18, 2) := by decide +kernel
theorem dX2_stretch_37 : decode cX2_stretch 37 = .ok (.invokestatic 46, 3) := by decide +kernel
theorem dX2_stretch_40 : decode cX2_stretch 40 = .ok (.ixor, 1) := by decide +kernel
theorem dX2_stretch_41 : decode cX2_stretch 41 = .ok (.iload_n 2, 1) := by decide +kernel
theorem dX2_stretch_42 : decode cX2_stretch 42 = .ok (.iconst 3, 1) := by decide +kernel
theorem dX2_stretch_43 : decode cX2_stretch 43 = .ok (.iushr, 1) := by decide +kernel
theorem dX2_stretch_44 : decode cX2_stretch 44 = .ok (.ixor, 1) := by decide +kernel
theorem dX2_stretch_45 : decode cX2_stretch 45 = .ok (.istore 4, 2) := by decide +kernel
theorem dX2_stretch_47 : decode cX2_stretch 47 = .ok (.iload_n 3, 1) := by decide +kernel
theorem dX2_stretch_48 : decode cX2_stretch 48 = .ok (.bipush 17, 2) := by decide +kernel
theorem dX2_stretch_50 : decode cX2_stretch 50 = .ok (.invokestatic 46, 3) := by decide +kernel
theorem dX2_stretch_53 : decode cX2_stretch 53 = .ok (.iload_n 3, 1) := by decide +kernel
theorem dX2_stretch_54 : decode cX2_stretch 54 = .ok (.bipush 19, 2) := by decide +kernel
theorem dX2_stretch_56 : decode cX2_stretch 56 = .ok (.invokestatic 46, 3) := by decide +kernel
theorem dX2_stretch_59 : decode cX2_stretch 59 = .ok (.ixor, 1) := by decide +kernel
theorem dX2_stretch_60 : decode cX2_stretch 60 = .ok (.iload_n 3, 1) := by decide +kernel
theorem dX2_stretch_61 : decode cX2_stretch 61 = .ok (.bipush 10, 2) := by decide +kernel
theorem dX2_stretch_63 : decode cX2_stretch 63 = .ok (.iushr, 1) := by decide +kernel
theorem dX2_stretch_64 : decode cX2_stretch 64 = .ok (.ixor, 1) := by decide +kernel
theorem dX2_stretch_65 : decode cX2_stretch 65 = .ok (.istore 5, 2) := by decide +kernel
theorem dX2_stretch_67 : decode cX2_stretch 67 = .ok (.aload_n 0, 1) := by decide +kernel
theorem dX2_stretch_68 : decode cX2_stretch 68 = .ok (.getfield 7, 3) := by decide +kernel
theorem dX2_stretch_71 : decode cX2_stretch 71 = .ok (.iload_n 1, 1) := by decide +kernel
theorem dX2_stretch_72 : decode cX2_stretch 72 = .ok (.aload_n 0, 1) := by decide +kernel
theorem dX2_stretch_73 : decode cX2_stretch 73 = .ok (.getfield 7, 3) := by decide +kernel
theorem dX2_stretch_76 : decode cX2_stretch 76 = .ok (.iload_n 1, 1) := by decide +kernel
theorem dX2_stretch_77 : decode cX2_stretch 77 = .ok (.bipush 16, 2) := by decide +kernel
theorem dX2_stretch_79 : decode cX2_stretch 79 = .ok (.isub, 1) := by decide +kernel
theorem dX2_stretch_80 : decode cX2_stretch 80 = .ok (.iaload, 1) := by decide +kernel
theorem dX2_stretch_81 : decode cX2_stretch 81 = .ok (.iload 4, 2) := by decide +kernel
theorem dX2_stretch_83 : decode cX2_stretch 83 = .ok (.iadd, 1) := by decide +kernel
theorem dX2_stretch_84 : decode cX2_stretch 84 = .ok (.aload_n 0, 1) := by decide +kernel
theorem dX2_stretch_85 : decode cX2_stretch 85 = .ok (.getfield 7, 3) := by decide +kernel
theorem dX2_stretch_88 : decode cX2_stretch 88 = .ok (.iload_n 1, 1) := by decide +kernel
theorem dX2_stretch_89 : decode cX2_stretch 89 = .ok (.bipush 7, 2) := by decide +kernel
theorem dX2_stretch_91 : decode cX2_stretch 91 = .ok (.isub, 1) := by decide +kernel
theorem dX2_stretch_92 : decode cX2_stretch 92 = .ok (.iaload, 1) := by decide +kernel
theorem dX2_stretch_93 : decode cX2_stretch 93 = .ok (.iadd, 1) := by decide +kernel
theorem dX2_stretch_94 : decode cX2_stretch 94 = .ok (.iload 5, 2) := by decide +kernel
theorem dX2_stretch_96 : decode cX2_stretch 96 = .ok (.iadd, 1) := by decide +kernel
theorem dX2_stretch_97 : decode cX2_stretch 97 = .ok (.iastore, 1) := by decide +kernel
theorem dX2_stretch_98 : decode cX2_stretch 98 = .ok (.iinc 1 1, 3) := by decide +kernel
theorem dX2_stretch_101 : decode cX2_stretch 101 = .ok (.goto (-98), 3) := by decide +kernel
theorem dX2_stretch_104 : decode cX2_stretch 104 = .ok (.return_, 1) := by decide +kernel
set_option maxRecDepth 20000 in
theorem ggX2_mix_X2_turned : GoodIn wsX2_mix wsX2_turned := goodIn_r _ [7] (by decide +kernel) (by decide +kernel)
set_option maxRecDepth 20000 in
theorem gX2_mix_X2_turned : GoodIn wsX2_mix (va_wsS RX2 46 yX2_turned wsX2_turned) := goodIn_app (goodIn_of _ (by decide +kernel)) ggX2_mix_X2_turned
theorem dX2_mix_0 : decode cX2_mix 0 = .ok (.aload_n 0, 1) := by decide +kernel
theorem dX2_mix_1 : decode cX2_mix 1 = .ok (.getfield 13, 3) := by decide +kernel
theorem dX2_mix_4 : decode cX2_mix 4 = .ok (.iconst 0, 1) := by decide +kernel
theorem dX2_mix_5 : decode cX2_mix 5 = .ok (.iaload, 1) := by decide +kernel
theorem dX2_mix_6 : decode cX2_mix 6 = .ok (.istore_n 1, 1) := by decide +kernel
theorem dX2_mix_7 : decode cX2_mix 7 = .ok (.aload_n 0, 1) := by decide +kernel
theorem dX2_mix_8 : decode cX2_mix 8 = .ok (.getfield 13, 3) := by decide +kernel
theorem dX2_mix_11 : decode cX2_mix 11 = .ok (.iconst 1, 1) := by decide +kernel
theorem dX2_mix_12 : decode cX2_mix 12 = .ok (.iaload, 1) := by decide +kernel
theorem dX2_mix_13 : decode cX2_mix 13 = .ok (.istore_n 2, 1) := by decide +kernel
theorem dX2_mix_14 : decode cX2_mix 14 = .ok (.aload_n 0, 1) := by decide +kernel
theorem dX2_mix_15 : decode cX2_mix 15 = .ok (.getfield 13, 3) := by decide +kernel
theorem dX2_mix_18 : decode cX2_mix 18 = .ok (.iconst 2, 1) := by decide +kernel
theorem dX2_mix_19 : decode cX2_mix 19 = .ok (.iaload, 1) := by decide +kernel
theorem dX2_mix_20 : decode cX2_mix 20 = .ok (.istore_n 3, 1) := by decide +kernel
theorem dX2_mix_21 : decode cX2_mix 21 = .ok (.aload_n 0, 1) := by decide +kernel
theorem dX2_mix_22 : decode cX2_mix 22 = .ok (.getfield 13, 3) := by decide +kernel
theorem dX2_mix_25 : decode cX2_mix 25 = .ok (.iconst 3, 1) := by decide +kernel
theorem dX2_mix_26 : decode cX2_mix 26 = .ok (.iaload, 1) := by decide +kernel
theorem dX2_mix_27 : decode cX2_mix 27 = .ok (.istore 4, 2) := by decide +kernel
theorem dX2_mix_29 : decode cX2_mix 29 = .ok (.aload_n 0, 1) := by decide +kernel
theorem dX2_mix_30 : decode cX2_mix 30 = .ok (.getfield 13, 3) := by decide +kernel
theorem dX2_mix_33 : decode cX2_mix 33 = .ok (.iconst 4, 1) := by decide +kernel
theorem dX2_mix_34 : decode cX2_mix 34 = .ok (.iaload, 1) := by decide +kernel
theorem dX2_mix_35 : decode cX2_mix 35 = .ok (.istore 5, 2) := by decide +kernel
theorem dX2_mix_37 : decode cX2_mix 37 = .ok (.aload_n 0, 1) := by decide +kernel
theorem dX2_mix_38 : decode cX2_mix 38 = .ok (.getfield 13, 3) := by decide +kernel
theorem dX2_mix_41 : decode cX2_mix 41 = .ok (.iconst 5, 1) := by decide +kernel
theorem dX2_mix_42 : decode cX2_mix 42 = .ok (.iaload, 1) := by decide +kernel
theorem dX2_mix_43 : decode cX2_mix 43 = .ok (.istore 6, 2) := by decide +kernel
theorem dX2_mix_45 : decode cX2_mix 45 = .ok (.aload_n 0, 1) := by decide +kernel
theorem dX2_mix_46 : decode cX2_mix 46 = .ok (.getfield 13, 3) := by decide +kernel
theorem dX2_mix_49 : decode cX2_mix 49 = .ok (.bipush 6, 2) := by decide +kernel
theorem dX2_mix_51 : decode cX2_mix 51 = .ok (.iaload, 1) := by decide +kernel
theorem dX2_mix_52 : decode cX2_mix 52 = .ok (.istore 7, 2) := by decide +kernel
theorem dX2_mix_54 : decode cX2_mix 54 = .ok (.aload_n 0, 1) := by decide +kernel
theorem dX2_mix_55 : decode cX2_mix 55 = .ok (.getfield 13, 3) := by decide +kernel
theorem dX2_mix_58 : decode cX2_mix 58 = .ok (.bipush 7, 2) := by decide +kernel
theorem dX2_mix_60 : decode cX2_mix 60 = .ok (.iaload, 1) := by decide +kernel
theorem dX2_mix_61 : decode cX2_mix 61 = .ok (.istore 8, 2) := by decide +kernel
theorem dX2_mix_63 : decode cX2_mix 63 = .ok (.iconst 0, 1) := by decide +kernel
theorem dX2_mix_64 : decode cX2_mix 64 = .ok (.istore 9, 2) := by decide +kernel
theorem dX2_mix_66 : decode cX2_mix 66 = .ok (.iload 9, 2) := by decide +kernel
theorem dX2_mix_68 : decode cX2_mix 68 = .ok (.bipush 64, 2) := by decide +kernel
theorem dX2_mix_70 : decode cX2_mix 70 = .ok (.if_icmp .ge 139, 3) := by decide +kernel
theorem dX2_mix_73 : decode cX2_mix 73 = .ok (.iload 5, 2) := by decide +kernel
theorem dX2_mix_75 : decode cX2_mix 75 = .ok (.bipush 6, 2) := by decide +kernel
theorem dX2_mix_77 : decode cX2_mix 77 = .ok (.invokestatic 46, 3) := by decide +kernel
theorem dX2_mix_80 : decode cX2_mix 80 = .ok (.iload 5, 2) := by decide +kernel
theorem dX2_mix_82 : decode cX2_mix 82 = .ok (.bipush 11, 2) := by decide +kernel
theorem dX2_mix_84 : decode cX2_mix 84 = .ok (.invokestatic 46, 3) := by decide +kernel
theorem dX2_mix_87 : decode cX2_mix 87 = .ok (.ixor, 1) := by decide +kernel
theorem dX2_mix_88 : decode cX2_mix 88 = .ok (.iload 5, 2) := by decide +kernel
theorem dX2_mix_90 : decode cX2_mix 90 = .ok (.bipush 25, 2) := by decide +kernel
theorem dX2_mix_92 : decode cX2_mix 92 = .ok (.invokestatic 46, 3) := by decide +kernel
theorem dX2_mix_95 : decode cX2_mix 95 = .ok (.ixor, 1) := by decide +kernel
theorem dX2_mix_96 : decode cX2_mix 96 = .ok (.istore 10, 2) := by decide +kernel
theorem dX2_mix_98 : decode cX2_mix 98 = .ok (.iload 8, 2) := by decide +kernel
theorem dX2_mix_100 : decode cX2_mix 100 = .ok (.iload 10, 2) := by decide +kernel
theorem dX2_mix_102 : decode cX2_mix 102 = .ok (.iadd, 1) := by decide +kernel
theorem dX2_mix_103 : decode cX2_mix 103 = .ok (.iload 5, 2) := by decide +kernel
theorem dX2_mix_105 : decode cX2_mix 105 = .ok (.iload 6, 2) := by decide +kernel
theorem dX2_mix_107 : decode cX2_mix 107 = .ok (.iand, 1) := by decide +kernel
theorem dX2_mix_108 : decode cX2_mix 108 = .ok (.iload 5, 2) := by decide +kernel
theorem dX2_mix_110 : decode cX2_mix 110 = .ok (.iconst (-1), 1) := by decide +kernel
theorem dX2_mix_111 : decode cX2_mix 111 = .ok (.ixor, 1) := by decide +kernel
theorem dX2_mix_112 : decode cX2_mix 112 = .ok (.iload 7, 2) := by decide +kernel
theorem dX2_mix_114 : decode cX2_mix 114 = .ok (.iand, 1) := by decide +kernel
theorem dX2_mix_115 : decode cX2_mix 115 = .ok (.ixor, 1) := by decide +kernel
theorem dX2_mix_116 : decode cX2_mix 116 = .ok (.iadd, 1) := by decide +kernel
theorem dX2_mix_117 : decode cX2_mix 117 = .ok (.getstatic 50, 3) := by decide +kernel
theorem dX2_mix_120 : decode cX2_mix 120 = .ok (.iload 9, 2) := by decide +kernel
theorem dX2_mix_122 : decode cX2_mix 122 = .ok (.iaload, 1) := by decide +kernel
theorem dX2_mix_123 : decode cX2_mix 123 = .ok (.iadd, 1) := by decide +kernel
theorem dX2_mix_124 : decode cX2_mix 124 = .ok (.aload_n 0, 1) := by decide +kernel
theorem dX2_mix_125 : decode cX2_mix 125 = .ok (.getfield 7, 3) := by decide +kernel
theorem dX2_mix_128 : decode cX2_mix 128 = .ok (.iload 9, 2) := by decide +kernel
theorem dX2_mix_130 : decode cX2_mix 130 = .ok (.iaload, 1) := by decide +kernel
theorem dX2_mix_131 : decode cX2_mix 131 = .ok (.iadd, 1) := by decide +kernel
theorem dX2_mix_132 : decode cX2_mix 132 = .ok (.istore 11, 2) := by decide +kernel
theorem dX2_mix_134 : decode cX2_mix 134 = .ok (.iload_n 1, 1) := by decide +kernel
theorem dX2_mix_135 : decode cX2_mix 135 = .ok (.iconst 2, 1) := by decide +kernel
theorem dX2_mix_136 : decode cX2_mix 136 = .ok (.invokestatic 46, 3) := by decide +kernel
theorem dX2_mix_139 : decode cX2_mix 139 = .ok (.iload_n 1, 1) := by decide +kernel
theorem dX2_mix_140 : decode cX2_mix 140 = .ok (.bipush 13, 2) := by decide +kernel
theorem dX2_mix_142 : decode cX2_mix 142 = .ok (.invokestatic 46, 3) := by decide +kernel
theorem dX2_mix_145 : decode cX2_mix 145 = .ok (.ixor, 1) := by decide +kernel
theorem dX2_mix_146 : decode cX2_mix 146 = .ok (.iload_n 1, 1) := by decide +kernel
theorem dX2_mix_147 : decode cX2_mix 147 = .ok (.bipush 22, 2) := by decide +kernel
theorem dX2_mix_149 : decode cX2_mix 149 = .ok (.invokestatic 46, 3) := by decide +kernel
theorem dX2_mix_152 : decode cX2_mix 152 = .ok (.ixor, 1) := by decide +kernel
theorem dX2_mix_153 : decode cX2_mix 153 = .ok (.istore 12, 2) := by decide +kernel
theorem dX2_mix_155 : decode cX2_mix 155 = .ok (.iload 12, 2) := by decide +kernel
theorem dX2_mix_157 : decode cX2_mix 157 = .ok (.iload_n 1, 1) := by decide +kernel
theorem dX2_mix_158 : decode cX2_mix 158 = .ok (.iload_n 2, 1) := by decide +kernel
theorem dX2_mix_159 : decode cX2_mix 159 = .ok (.iand, 1) := by decide +kernel
theorem dX2_mix_160 : decode cX2_mix 160 = .ok (.iload_n 1, 1) := by decide +kernel
theorem dX2_mix_161 : decode cX2_mix 161 = .ok (.iload_n 3, 1) := by decide +kernel
theorem dX2_mix_162 : decode cX2_mix 162 = .ok (.iand, 1) := by decide +kernel
theorem dX2_mix_163 : decode cX2_mix 163 = .ok (.ixor, 1) := by decide +kernel
theorem dX2_mix_164 : decode cX2_mix 164 = .ok (.iload_n 2, 1) := by decide +kernel
theorem dX2_mix_165 : decode cX2_mix 165 = .ok (.iload_n 3, 1) := by decide +kernel
theorem dX2_mix_166 : decode cX2_mix 166 = .ok (.iand, 1) := by decide +kernel
theorem dX2_mix_167 : decode cX2_mix 167 = .ok (.ixor, 1) := by decide +kernel
theorem dX2_mix_168 : decode cX2_mix 168 = .ok (.iadd, 1) := by decide +kernel
theorem dX2_mix_169 : decode cX2_mix 169 = .ok (.istore 13, 2) := by decide +kernel
theorem dX2_mix_171 : decode cX2_mix 171 = .ok (.iload 7, 2) := by decide +kernel
theorem dX2_mix_173 : decode cX2_mix 173 = .ok (.istore 8, 2) := by decide +kernel
theorem dX2_mix_175 : decode cX2_mix 175 = .ok (.iload 6, 2) := by decide +kernel
theorem dX2_mix_177 : decode cX2_mix 177 = .ok (.istore 7, 2) := by decide +kernel
theorem dX2_mix_179 : decode cX2_mix 179 = .ok (.iload 5, 2) := by decide +kernel
theorem dX2_mix_181 : decode cX2_mix 181 = .ok (.istore 6, 2) := by decide +kernel
theorem dX2_mix_183 : decode cX2_mix 183 = .ok (.iload 4, 2) := by decide +kernel
theorem dX2_mix_185 : decode cX2_mix 185 = .ok (.iload 11, 2) := by decide +kernel
theorem dX2_mix_187 : decode cX2_mix 187 = .ok (.iadd, 1) := by decide +kernel
theorem dX2_mix_188 : decode cX2_mix 188 = .ok (.istore 5, 2) := by decide +kernel
theorem dX2_mix_190 : decode cX2_mix 190 = .ok (.iload_n 3, 1) := by decide +kernel
theorem dX2_mix_191 : decode cX2_mix 191 = .ok (.istore 4, 2) := by decide +kernel
theorem dX2_mix_193 : decode cX2_mix 193 = .ok (.iload_n 2, 1) := by decide +kernel
theorem dX2_mix_194 : decode cX2_mix 194 = .ok (.istore_n 3, 1) := by decide +kernel
theorem dX2_mix_195 : decode cX2_mix 195 = .ok (.iload_n 1, 1) := by decide +kernel
theorem dX2_mix_196 : decode cX2_mix 196 = .ok (.istore_n 2, 1) := by decide +kernel
theorem dX2_mix_197 : decode cX2_mix 197 = .ok (.iload 11, 2) := by decide +kernel
theorem dX2_mix_199 : decode cX2_mix 199 = .ok (.iload 13, 2) := by decide +kernel
theorem dX2_mix_201 : decode cX2_mix 201 = .ok (.iadd, 1) := by decide +kernel
theorem dX2_mix_202 : decode cX2_mix 202 = .ok (.istore_n 1, 1) := by decide +kernel
theorem dX2_mix_203 : decode cX2_mix 203 = .ok (.iinc 9 1, 3) := by decide +kernel
theorem dX2_mix_206 : decode cX2_mix 206 = .ok (.goto (-140), 3) := by decide +kernel
theorem dX2_mix_209 : decode cX2_mix 209 = .ok (.aload_n 0, 1) := by decide +kernel
theorem dX2_mix_210 : decode cX2_mix 210 = .ok (.getfield 13, 3) := by decide +kernel
theorem dX2_mix_213 : decode cX2_mix 213 = .ok (.iconst 0, 1) := by decide +kernel
theorem dX2_mix_214 : decode cX2_mix 214 = .ok (.dup2, 1) := by decide +kernel
theorem dX2_mix_215 : decode cX2_mix 215 = .ok (.iaload, 1) := by decide +kernel
theorem dX2_mix_216 : decode cX2_mix 216 = .ok (.iload_n 1, 1) := by decide +kernel
theorem dX2_mix_217 : decode cX2_mix 217 = .ok (.iadd, 1) := by decide +kernel
theorem dX2_mix_218 : decode cX2_mix 218 = .ok (.iastore, 1) := by decide +kernel
theorem dX2_mix_219 : decode cX2_mix 219 = .ok (.aload_n 0, 1) := by decide +kernel
theorem dX2_mix_220 : decode cX2_mix 220 = .ok (.getfield 13, 3) := by decide +kernel
theorem dX2_mix_223 : decode cX2_mix 223 = .ok (.iconst 1, 1) := by decide +kernel
theorem dX2_mix_224 : decode cX2_mix 224 = .ok (.dup2, 1) := by decide +kernel
theorem dX2_mix_225 : decode cX2_mix 225 = .ok (.iaload, 1) := by decide +kernel
theorem dX2_mix_226 : decode cX2_mix 226 = .ok (.iload_n 2, 1) := by decide +kernel
theorem dX2_mix_227 : decode cX2_mix 227 = .ok (.iadd, 1) := by decide +kernel
theorem dX2_mix_228 : decode cX2_mix 228 = .ok (.iastore, 1) := by decide +kernel
theorem dX2_mix_229 : decode cX2_mix 229 = .ok (.aload_n 0, 1) := by decide +kernel
theorem dX2_mix_230 : decode cX2_mix 230 = .ok (.getfield 13, 3) := by decide +kernel
theorem dX2_mix_233 : decode cX2_mix 233 = .ok (.iconst 2, 1) := by decide +kernel
theorem dX2_mix_234 : decode cX2_mix 234 = .ok (.dup2, 1) := by decide +kernel
theorem dX2_mix_235 : decode cX2_mix 235 = .ok (.iaload, 1) := by decide +kernel
theorem dX2_mix_236 : decode cX2_mix 236 = .ok (.iload_n 3, 1) := by decide +kernel
theorem dX2_mix_237 : decode cX2_mix 237 = .ok (.iadd, 1) := by decide +kernel
theorem dX2_mix_238 : decode cX2_mix 238 = .ok (.iastore, 1) := by decide +kernel
theorem dX2_mix_239 : decode cX2_mix 239 = .ok (.aload_n 0, 1) := by decide +kernel
theorem dX2_mix_240 : decode cX2_mix 240 = .ok (.getfield 13, 3) := by decide +kernel
theorem dX2_mix_243 : decode cX2_mix 243 = .ok (.iconst 3, 1) := by decide +kernel
theorem dX2_mix_244 : decode cX2_mix 244 = .ok (.dup2, 1) := by decide +kernel
theorem dX2_mix_245 : decode cX2_mix 245 = .ok (.iaload, 1) := by decide +kernel
theorem dX2_mix_246 : decode cX2_mix 246 = .ok (.iload 4, 2) := by decide +kernel
theorem dX2_mix_248 : decode cX2_mix 248 = .ok (.iadd, 1) := by decide +kernel
theorem dX2_mix_249 : decode cX2_mix 249 = .ok (.iastore, 1) := by decide +kernel
theorem dX2_mix_250 : decode cX2_mix 250 = .ok (.aload_n 0, 1) := by decide +kernel
theorem dX2_mix_251 : decode cX2_mix 251 = .ok (.getfield 13, 3) := by decide +kernel
theorem dX2_mix_254 : decode cX2_mix 254 = .ok (.iconst 4, 1) := by decide +kernel
theorem dX2_mix_255 : decode cX2_mix 255 = .ok (.dup2, 1) := by decide +kernel
theorem dX2_mix_256 : decode cX2_mix 256 = .ok (.iaload, 1) := by decide +kernel
theorem dX2_mix_257 : decode cX2_mix 257 = .ok (.iload 5, 2) := by decide +kernel
theorem dX2_mix_259 : decode cX2_mix 259 = .ok (.iadd, 1) := by decide +kernel
theorem dX2_mix_260 : decode cX2_mix 260 = .ok (.iastore, 1) := by decide +kernel
theorem dX2_mix_261 : decode cX2_mix 261 = .ok (.aload_n 0, 1) := by decide +kernel
theorem dX2_mix_262 : decode cX2_mix 262 = .ok (.getfield 13, 3) := by decide +kernel
theorem dX2_mix_265 : decode cX2_mix 265 = .ok (.iconst 5, 1) := by decide +kernel
theorem dX2_mix_266 : decode cX2_mix 266 = .ok (.dup2, 1) := by decide +kernel
theorem dX2_mix_267 : decode cX2_mix 267 = .ok (.iaload, 1) := by decide +kernel
theorem dX2_mix_268 : decode cX2_mix 268 = .ok (.iload 6, 2) := by decide +kernel
theorem dX2_mix_270 : decode cX2_mix 270 = .ok (.iadd, 1) := by decide +kernel
theorem dX2_mix_271 : decode cX2_mix 271 = .ok (.iastore, 1) := by decide +kernel
theorem dX2_mix_272 : decode cX2_mix 272 = .ok (.aload_n 0, 1) := by decide +kernel
theorem dX2_mix_273 : decode cX2_mix 273 = .ok (.getfield 13, 3) := by decide +kernel
theorem dX2_mix_276 : decode cX2_mix 276 = .ok (.bipush 6, 2) := by decide +kernel
theorem dX2_mix_278 : decode cX2_mix 278 = .ok (.dup2, 1) := by decide +kernel
theorem dX2_mix_279 : decode cX2_mix 279 = .ok (.iaload, 1) := by decide +kernel
theorem dX2_mix_280 : decode cX2_mix 280 = .ok (.iload 7, 2) := by decide +kernel
theorem dX2_mix_282 : decode cX2_mix 282 = .ok (.iadd, 1) := by decide +kernel
theorem dX2_mix_283 : decode cX2_mix 283 = .ok (.iastore, 1) := by decide +kernel
theorem dX2_mix_284 : decode cX2_mix 284 = .ok (.aload_n 0, 1) := by decide +kernel
theorem dX2_mix_285 : decode cX2_mix 285 = .ok (.getfield 13, 3) := by decide +kernel
theorem dX2_mix_288 : decode cX2_mix 288 = .ok (.bipush 7, 2) := by decide +kernel
theorem dX2_mix_290 : decode cX2_mix 290 = .ok (.dup2, 1) := by decide +kernel
theorem dX2_mix_291 : decode cX2_mix 291 = .ok (.iaload, 1) := by decide +kernel
theorem dX2_mix_292 : decode cX2_mix 292 = .ok (.iload 8, 2) := by decide +kernel
theorem dX2_mix_294 : decode cX2_mix 294 = .ok (.iadd, 1) := by decide +kernel
theorem dX2_mix_295 : decode cX2_mix 295 = .ok (.iastore, 1) := by decide +kernel
theorem dX2_mix_296 : decode cX2_mix 296 = .ok (.return_, 1) := by decide +kernel
theorem dX2_turned_0 : decode cX2_turned 0 = .ok (.iload_n 0, 1) := by decide +kernel
theorem dX2_turned_1 : decode cX2_turned 1 = .ok (.iload_n 1, 1) := by decide +kernel
theorem dX2_turned_2 : decode cX2_turned 2 = .ok (.iushr, 1) := by decide +kernel
theorem dX2_turned_3 : decode cX2_turned 3 = .ok (.iload_n 0, 1) := by decide +kernel
theorem dX2_turned_4 : decode cX2_turned 4 = .ok (.bipush 32, 2) := by decide +kernel
theorem dX2_turned_6 : decode cX2_turned 6 = .ok (.iload_n 1, 1) := by decide +kernel
theorem dX2_turned_7 : decode cX2_turned 7 = .ok (.isub, 1) := by decide +kernel
theorem dX2_turned_8 : decode cX2_turned 8 = .ok (.ishl, 1) := by decide +kernel
theorem dX2_turned_9 : decode cX2_turned 9 = .ok (.ior, 1) := by decide +kernel
theorem dX2_turned_10 : decode cX2_turned 10 = .ok (.ireturn, 1) := by decide +kernel
set_option maxRecDepth 20000 in
theorem ggX3_init_X4_init : GoodIn wsX3_init wsX4_init := goodIn_r _ [8, 9, 10, 11, 12, 13, 14, 15, 16, 17, 18, 19, 20, 21, 22, 23, 24, 25, 26, 27, 28, 29, 30, 31, 32, 33, 34, 35, 36, 37, 38, 39, 2, 3, 40, 41, 42, 43, 44, 45, 46, 47, 48, 49, 50, 51, 52, 53, 54, 55, 56, 57, 58, 59, 60, 61, 62, 63, 64, 65, 66, 67, 68, 69, 70, 71, 72, 73, 74, 75, 76, 77, 78, 79, 80, 81, 82, 83, 84, 85, 86, 87, 94, 95, 96, 97, 98, 99, 100, 101, 102, 103, 91, 92, 93, 104, 105, 106, 107, 108, 109, 110, 111, 112, 113, 114, 115, 116, 117, 118, 119, 120, 121, 122, 123, 124, 125, 89, 90] (by decide +kernel) (by decide +kernel)
set_option maxRecDepth 20000 in
theorem gX3_init_X4_init : GoodIn wsX3_init (wsX4_init) := ggX3_init_X4_init
set_option maxRecDepth 20000 in
theorem ggX3_init_X5_init : GoodIn wsX3_init wsX5_init := goodIn_r _ [66, 67, 10, 11, 68, 69, 70, 71, 45, 72, 89, 90] (by decide +kernel) (by decide +kernel)
set_option maxRecDepth 20000 in
theorem gX3_init_X5_init : GoodIn wsX3_init (wsX5_init) := ggX3_init_X5_init
theorem dX3_init_0 : decode cX3_init 0 = .ok (.aload_n 0, 1) := by decide +kernel
theorem dX3_init_1 : decode cX3_init 1 = .ok (.iconst 5, 1) := by decide +kernel
theorem dX3_init_2 : decode cX3_init 2 = .ok (.invokespecial 3, 3) := by decide +kernel
theorem dX3_init_5 : decode cX3_init 5 = .ok (.aload_n 0, 1) := by decide +kernel
theorem dX3_init_6 : decode cX3_init 6 = .ok (.new 9, 3) := by decide +kernel
theorem dX3_init_9 : decode cX3_init 9 = .ok (.dup, 1) := by decide +kernel
theorem dX3_init_10 : decode cX3_init 10 = .ok (.bipush 68, 2) := by decide +kernel
theorem dX3_init_12 : decode cX3_init 12 = .ok (.invokespecial 13, 3) := by decide +kernel
theorem dX3_init_15 : decode cX3_init 15 = .ok (.putfield 14, 3) := by decide +kernel
theorem dX3_init_18 : decode cX3_init 18 = .ok (.return_, 1) := by decide +kernel
theorem dX3_tapeNeeded_0 : decode cX3_tapeNeeded 0 = .ok (.bipush 68, 2) := by decide +kernel
theorem dX3_tapeNeeded_2 : decode cX3_tapeNeeded 2 = .ok (.ireturn, 1) := by decide +kernel
theorem dX3_knowsFilter_0 : decode cX3_knowsFilter 0 = .ok (.iload_n 1, 1) := by decide +kernel
theorem dX3_knowsFilter_1 : decode cX3_knowsFilter 1 = .ok (.ifCond .eq 8, 3) := by decide +kernel
theorem dX3_knowsFilter_4 : decode cX3_knowsFilter 4 = .ok (.iload_n 1, 1) := by decide +kernel
theorem dX3_knowsFilter_5 : decode cX3_knowsFilter 5 = .ok (.iconst 2, 1) := by decide +kernel
theorem dX3_knowsFilter_6 : decode cX3_knowsFilter 6 = .ok (.if_icmp .ne 7, 3) := by decide +kernel
theorem dX3_knowsFilter_9 : decode cX3_knowsFilter 9 = .ok (.iconst 1, 1) := by decide +kernel
theorem dX3_knowsFilter_10 : decode cX3_knowsFilter 10 = .ok (.goto 4, 3) := by decide +kernel
theorem dX3_knowsFilter_13 : decode cX3_knowsFilter 13 = .ok (.iconst 0, 1) := by decide +kernel
theorem dX3_knowsFilter_14 : decode cX3_knowsFilter 14 = .ok (.ireturn, 1) := by decide +kernel
set_option maxRecDepth 20000 in
theorem ggX3_makeEntries_X5_clear : GoodIn wsX3_makeEntries wsX5_clear := goodIn_r _ [10, 11, 188, 189] (by decide +kernel) (by decide +kernel)
set_option maxRecDepth 20000 in
theorem gX3_makeEntries_X5_clear : GoodIn wsX3_makeEntries (wsV RX3 18 RX5 yX5_clear wsX5_clear) := goodIn_app (goodIn_of _ (by decide +kernel)) ggX3_makeEntries_X5_clear
set_option maxRecDepth 20000 in
theorem ggX3_makeEntries_X9_giveTape : GoodIn wsX3_makeEntries wsX9_giveTape := goodIn_ca (goodIn_r _ [16, 17, 18, 19, 20, 21, 22, 23, 24, 25, 15, 26, 27, 28, 29, 9, 30, 11, 31, 32, 33, 34, 35, 36, 37, 38, 39, 40, 41, 42, 43, 170, 171, 172, 173, 174, 175, 176, 177, 178, 179, 180, 181, 188, 189] (by decide +kernel) (by decide +kernel)) (goodIn_sub (fun _ h => List.mem_cons_of_mem _ (List.mem_append_right _ h)) (by decide +kernel))
set_option maxRecDepth 20000 in
theorem gX3_makeEntries_X9_giveTape : GoodIn wsX3_makeEntries (wsV RX3 26 RX9 yX9_giveTape wsX9_giveTape) := goodIn_app (goodIn_of _ (by decide +kernel)) ggX3_makeEntries_X9_giveTape
set_option maxRecDepth 20000 in
theorem ggX3_makeEntries_X9_entryRow : GoodIn wsX3_makeEntries wsX9_entryRow := goodIn_r _ [47, 48, 49, 170, 171, 172, 173, 174, 175, 176, 177, 178, 179, 180, 181] (by decide +kernel) (by decide +kernel)
set_option maxRecDepth 20000 in
theorem gX3_makeEntries_X9_entryRow : GoodIn wsX3_makeEntries (wsV RX3 35 RX9 yX9_entryRow wsX9_entryRow) := goodIn_app (goodIn_of _ (by decide +kernel)) ggX3_makeEntries_X9_entryRow
set_option maxRecDepth 20000 in
theorem ggX3_makeEntries_X3_sumSalted : GoodIn wsX3_makeEntries wsX3_sumSalted := goodIn_ca (goodIn_r _ [54, 4, 5, 2, 3, 55, 56, 57, 9, 58, 59, 7, 8, 10, 11, 60, 28, 29, 30, 61, 32, 33, 34, 35, 36, 37, 38, 39, 40, 41, 42, 43, 62, 44, 45, 46, 15, 47, 48, 49, 63, 64, 65, 66, 67, 68, 69, 70, 71, 72, 73, 74, 75, 76, 77, 78, 79, 80, 81, 82, 83, 84, 85, 86, 87, 88, 89, 90, 91, 92, 93, 94, 95, 96, 97, 166, 167, 168, 169, 163, 164, 165, 182, 183, 184, 185, 186, 187, 188, 189, 170, 171, 172, 173, 174, 175, 176, 177, 178, 179, 180, 181, 190, 191] (by decide +kernel) (by decide +kernel)) (goodIn_sub (fun _ h => List.mem_cons_of_mem _ (List.mem_append_right _ h)) (by decide +kernel))
set_option maxRecDepth 20000 in
theorem gX3_makeEntries_X3_sumSalted : GoodIn wsX3_makeEntries (wsV RX3 39 RX3 yX3_sumSalted wsX3_sumSalted) := goodIn_app (goodIn_of _ (by decide +kernel)) ggX3_makeEntries_X3_sumSalted
set_option maxRecDepth 20000 in
theorem ggX3_makeEntries_X5_addPart : GoodIn wsX3_makeEntries wsX5_addPart := goodIn_ca (goodIn_r _ [34, 35, 36, 37, 9, 38, 11, 39, 40, 41, 42, 43, 188, 189] (by decide +kernel) (by decide +kernel)) (goodIn_sub (fun _ h => List.mem_cons_of_mem _ (List.mem_append_right _ h)) (by decide +kernel))
set_option maxRecDepth 20000 in
theorem gX3_makeEntries_X5_addPart : GoodIn wsX3_makeEntries (wsV RX3 43 RX5 yX5_addPart wsX5_addPart) := goodIn_app (goodIn_of _ (by decide +kernel)) ggX3_makeEntries_X5_addPart
set_option maxRecDepth 20000 in
theorem ggX3_makeEntries_X3_wrapKey : GoodIn wsX3_makeEntries wsX3_wrapKey := goodIn_ca (goodIn_r _ [101, 1, 4, 5, 102, 103, 104, 53, 105, 6, 7, 8, 9, 10, 11, 106, 107, 108, 109, 40, 41, 42, 43, 39, 62, 32, 33, 34, 35, 36, 37, 38, 110, 111, 112, 113, 114, 115, 116, 117, 118, 119, 120, 121, 122, 123, 28, 29, 30, 124, 125, 126, 127, 128, 129, 130, 131, 132, 133, 134, 135, 136, 137, 138, 139, 140, 141, 142, 143, 144, 145, 146, 147, 148, 149, 150, 151, 152, 153, 163, 164, 165, 166, 167, 168, 169, 182, 183, 184, 185, 186, 187, 188, 189, 192, 193, 194, 195, 196] (by decide +kernel) (by decide +kernel)) (goodIn_sub (fun _ h => List.mem_cons_of_mem _ (List.mem_append_right _ h)) (by decide +kernel))
set_option maxRecDepth 20000 in
theorem gX3_makeEntries_X3_wrapKey : GoodIn wsX3_makeEntries (wsV RX3 56 RX3 yX3_wrapKey wsX3_wrapKey) := goodIn_app (goodIn_of _ (by decide +kernel)) ggX3_makeEntries_X3_wrapKey
set_option maxRecDepth 20000 in
theorem ggX3_makeEntries_X3_wrapPermissions : GoodIn wsX3_makeEntries wsX3_wrapPermissions := goodIn_ca (goodIn_r _ [157, 4, 5, 1, 2, 3, 6, 7, 8, 9, 10, 11, 62, 32, 33, 34, 35, 36, 37, 38, 39, 40, 41, 42, 43, 102, 103, 104, 53, 105, 106, 107, 108, 109, 158, 159, 160, 161, 162, 110, 111, 112, 113, 114, 115, 116, 117, 118, 119, 120, 121, 122, 123, 28, 29, 30, 124, 125, 126, 127, 128, 129, 130, 131, 132, 133, 134, 135, 136, 137, 138, 139, 140, 141, 142, 143, 144, 145, 146, 147, 148, 149, 150, 151, 152, 153, 166, 167, 168, 169, 163, 164, 165, 182, 183, 184, 185, 186, 187, 170, 171, 172, 173, 174, 175, 176, 177, 178, 179, 180, 181, 188, 189, 192, 193, 194, 195, 196] (by decide +kernel) (by decide +kernel)) (goodIn_sub (fun _ h => List.mem_cons_of_mem _ (List.mem_append_right _ h)) (by decide +kernel))
set_option maxRecDepth 20000 in
theorem gX3_makeEntries_X3_wrapPermissions : GoodIn wsX3_makeEntries (wsV RX3 63 RX3 yX3_wrapPermissions wsX3_wrapPermissions) := goodIn_app (goodIn_of _ (by decide +kernel)) ggX3_makeEntries_X3_wrapPermissions
theorem dX3_makeEntries_0 : decode cX3_makeEntries 0 = .ok (.aload_n 0, 1) := by decide +kernel
theorem dX3_makeEntries_1 : decode cX3_makeEntries 1 = .ok (.getfield 14, 3) := by decide +kernel
theorem dX3_makeEntries_4 : decode cX3_makeEntries 4 = .ok (.invokevirtual 18, 3) := by decide +kernel
theorem dX3_makeEntries_7 : decode cX3_makeEntries 7 = .ok (.aload_n 0, 1) := by decide +kernel
theorem dX3_makeEntries_8 : decode cX3_makeEntries 8 = .ok (.getfield 22, 3) := by decide +kernel
theorem dX3_makeEntries_11 : decode cX3_makeEntries 11 = .ok (.bipush 68, 2) := by decide +kernel
theorem dX3_makeEntries_13 : decode cX3_makeEntries 13 = .ok (.aload_n 0, 1) := by decide +kernel
theorem dX3_makeEntries_14 : decode cX3_makeEntries 14 = .ok (.getfield 14, 3) := by decide +kernel
theorem dX3_makeEntries_17 : decode cX3_makeEntries 17 = .ok (.invokevirtual 26, 3) := by decide +kernel
theorem dX3_makeEntries_20 : decode cX3_makeEntries 20 = .ok (.aload_n 0, 1) := by decide +kernel
theorem dX3_makeEntries_21 : decode cX3_makeEntries 21 = .ok (.aload_n 0, 1) := by decide +kernel
theorem dX3_makeEntries_22 : decode cX3_makeEntries 22 = .ok (.getfield 22, 3) := by decide +kernel
theorem dX3_makeEntries_25 : decode cX3_makeEntries 25 = .ok (.getfield 32, 3) := by decide +kernel
theorem dX3_makeEntries_28 : decode cX3_makeEntries 28 = .ok (.aload_n 0, 1) := by decide +kernel
theorem dX3_makeEntries_29 : decode cX3_makeEntries 29 = .ok (.getfield 14, 3) := by decide +kernel
theorem dX3_makeEntries_32 : decode cX3_makeEntries 32 = .ok (.bipush 32, 2) := by decide +kernel
theorem dX3_makeEntries_34 : decode cX3_makeEntries 34 = .ok (.iconst 0, 1) := by decide +kernel
theorem dX3_makeEntries_35 : decode cX3_makeEntries 35 = .ok (.aload_n 0, 1) := by decide +kernel
theorem dX3_makeEntries_36 : decode cX3_makeEntries 36 = .ok (.getfield 22, 3) := by decide +kernel
theorem dX3_makeEntries_39 : decode cX3_makeEntries 39 = .ok (.iconst 1, 1) := by decide +kernel
theorem dX3_makeEntries_40 : decode cX3_makeEntries 40 = .ok (.invokevirtual 35, 3) := by decide +kernel
theorem dX3_makeEntries_43 : decode cX3_makeEntries 43 = .ok (.invokevirtual 39, 3) := by decide +kernel
theorem dX3_makeEntries_46 : decode cX3_makeEntries 46 = .ok (.aload_n 0, 1) := by decide +kernel
theorem dX3_makeEntries_47 : decode cX3_makeEntries 47 = .ok (.getfield 22, 3) := by decide +kernel
theorem dX3_makeEntries_50 : decode cX3_makeEntries 50 = .ok (.iconst 1, 1) := by decide +kernel
theorem dX3_makeEntries_51 : decode cX3_makeEntries 51 = .ok (.invokevirtual 35, 3) := by decide +kernel
theorem dX3_makeEntries_54 : decode cX3_makeEntries 54 = .ok (.aload_n 0, 1) := by decide +kernel
theorem dX3_makeEntries_55 : decode cX3_makeEntries 55 = .ok (.getfield 14, 3) := by decide +kernel
theorem dX3_makeEntries_58 : decode cX3_makeEntries 58 = .ok (.bipush 32, 2) := by decide +kernel
theorem dX3_makeEntries_60 : decode cX3_makeEntries 60 = .ok (.bipush 16, 2) := by decide +kernel
theorem dX3_makeEntries_62 : decode cX3_makeEntries 62 = .ok (.invokevirtual 43, 3) := by decide +kernel
theorem dX3_makeEntries_65 : decode cX3_makeEntries 65 = .ok (.aload_n 0, 1) := by decide +kernel
theorem dX3_makeEntries_66 : decode cX3_makeEntries 66 = .ok (.aload_n 0, 1) := by decide +kernel
theorem dX3_makeEntries_67 : decode cX3_makeEntries 67 = .ok (.getfield 22, 3) := by decide +kernel
theorem dX3_makeEntries_70 : decode cX3_makeEntries 70 = .ok (.getfield 32, 3) := by decide +kernel
theorem dX3_makeEntries_73 : decode cX3_makeEntries 73 = .ok (.aload_n 0, 1) := by decide +kernel
theorem dX3_makeEntries_74 : decode cX3_makeEntries 74 = .ok (.getfield 14, 3) := by decide +kernel
theorem dX3_makeEntries_77 : decode cX3_makeEntries 77 = .ok (.bipush 40, 2) := by decide +kernel
theorem dX3_makeEntries_79 : decode cX3_makeEntries 79 = .ok (.iconst 0, 1) := by decide +kernel
theorem dX3_makeEntries_80 : decode cX3_makeEntries 80 = .ok (.aload_n 0, 1) := by decide +kernel
theorem dX3_makeEntries_81 : decode cX3_makeEntries 81 = .ok (.getfield 47, 3) := by decide +kernel
theorem dX3_makeEntries_84 : decode cX3_makeEntries 84 = .ok (.getfield 51, 3) := by decide +kernel
theorem dX3_makeEntries_87 : decode cX3_makeEntries 87 = .ok (.invokevirtual 39, 3) := by decide +kernel
theorem dX3_makeEntries_90 : decode cX3_makeEntries 90 = .ok (.aload_n 0, 1) := by decide +kernel
theorem dX3_makeEntries_91 : decode cX3_makeEntries 91 = .ok (.aload_n 0, 1) := by decide +kernel
theorem dX3_makeEntries_92 : decode cX3_makeEntries 92 = .ok (.getfield 22, 3) := by decide +kernel
theorem dX3_makeEntries_95 : decode cX3_makeEntries 95 = .ok (.iconst 3, 1) := by decide +kernel
theorem dX3_makeEntries_96 : decode cX3_makeEntries 96 = .ok (.invokevirtual 35, 3) := by decide +kernel
theorem dX3_makeEntries_99 : decode cX3_makeEntries 99 = .ok (.invokevirtual 56, 3) := by decide +kernel
theorem dX3_makeEntries_102 : decode cX3_makeEntries 102 = .ok (.aload_n 0, 1) := by decide +kernel
theorem dX3_makeEntries_103 : decode cX3_makeEntries 103 = .ok (.aload_n 0, 1) := by decide +kernel
theorem dX3_makeEntries_104 : decode cX3_makeEntries 104 = .ok (.getfield 22, 3) := by decide +kernel
theorem dX3_makeEntries_107 : decode cX3_makeEntries 107 = .ok (.getfield 60, 3) := by decide +kernel
theorem dX3_makeEntries_110 : decode cX3_makeEntries 110 = .ok (.aload_n 0, 1) := by decide +kernel
theorem dX3_makeEntries_111 : decode cX3_makeEntries 111 = .ok (.getfield 14, 3) := by decide +kernel
theorem dX3_makeEntries_114 : decode cX3_makeEntries 114 = .ok (.bipush 48, 2) := by decide +kernel
theorem dX3_makeEntries_116 : decode cX3_makeEntries 116 = .ok (.iconst 1, 1) := by decide +kernel
theorem dX3_makeEntries_117 : decode cX3_makeEntries 117 = .ok (.aload_n 0, 1) := by decide +kernel
theorem dX3_makeEntries_118 : decode cX3_makeEntries 118 = .ok (.getfield 22, 3) := by decide +kernel
theorem dX3_makeEntries_121 : decode cX3_makeEntries 121 = .ok (.iconst 0, 1) := by decide +kernel
theorem dX3_makeEntries_122 : decode cX3_makeEntries 122 = .ok (.invokevirtual 35, 3) := by decide +kernel
theorem dX3_makeEntries_125 : decode cX3_makeEntries 125 = .ok (.invokevirtual 39, 3) := by decide +kernel
theorem dX3_makeEntries_128 : decode cX3_makeEntries 128 = .ok (.aload_n 0, 1) := by decide +kernel
theorem dX3_makeEntries_129 : decode cX3_makeEntries 129 = .ok (.getfield 22, 3) := by decide +kernel
theorem dX3_makeEntries_132 : decode cX3_makeEntries 132 = .ok (.iconst 0, 1) := by decide +kernel
theorem dX3_makeEntries_133 : decode cX3_makeEntries 133 = .ok (.invokevirtual 35, 3) := by decide +kernel
theorem dX3_makeEntries_136 : decode cX3_makeEntries 136 = .ok (.aload_n 0, 1) := by decide +kernel
theorem dX3_makeEntries_137 : decode cX3_makeEntries 137 = .ok (.getfield 14, 3) := by decide +kernel
theorem dX3_makeEntries_140 : decode cX3_makeEntries 140 = .ok (.bipush 48, 2) := by decide +kernel
theorem dX3_makeEntries_142 : decode cX3_makeEntries 142 = .ok (.bipush 16, 2) := by decide +kernel
theorem dX3_makeEntries_144 : decode cX3_makeEntries 144 = .ok (.invokevirtual 43, 3) := by decide +kernel
theorem dX3_makeEntries_147 : decode cX3_makeEntries 147 = .ok (.aload_n 0, 1) := by decide +kernel
theorem dX3_makeEntries_148 : decode cX3_makeEntries 148 = .ok (.aload_n 0, 1) := by decide +kernel
theorem dX3_makeEntries_149 : decode cX3_makeEntries 149 = .ok (.getfield 22, 3) := by decide +kernel
theorem dX3_makeEntries_152 : decode cX3_makeEntries 152 = .ok (.getfield 60, 3) := by decide +kernel
theorem dX3_makeEntries_155 : decode cX3_makeEntries 155 = .ok (.aload_n 0, 1) := by decide +kernel
theorem dX3_makeEntries_156 : decode cX3_makeEntries 156 = .ok (.getfield 14, 3) := by decide +kernel
theorem dX3_makeEntries_159 : decode cX3_makeEntries 159 = .ok (.bipush 56, 2) := by decide +kernel
theorem dX3_makeEntries_161 : decode cX3_makeEntries 161 = .ok (.iconst 1, 1) := by decide +kernel
theorem dX3_makeEntries_162 : decode cX3_makeEntries 162 = .ok (.aload_n 0, 1) := by decide +kernel
theorem dX3_makeEntries_163 : decode cX3_makeEntries 163 = .ok (.getfield 47, 3) := by decide +kernel
theorem dX3_makeEntries_166 : decode cX3_makeEntries 166 = .ok (.getfield 51, 3) := by decide +kernel
theorem dX3_makeEntries_169 : decode cX3_makeEntries 169 = .ok (.invokevirtual 39, 3) := by decide +kernel
theorem dX3_makeEntries_172 : decode cX3_makeEntries 172 = .ok (.aload_n 0, 1) := by decide +kernel
theorem dX3_makeEntries_173 : decode cX3_makeEntries 173 = .ok (.aload_n 0, 1) := by decide +kernel
theorem dX3_makeEntries_174 : decode cX3_makeEntries 174 = .ok (.getfield 22, 3) := by decide +kernel
theorem dX3_makeEntries_177 : decode cX3_makeEntries 177 = .ok (.iconst 2, 1) := by decide +kernel
theorem dX3_makeEntries_178 : decode cX3_makeEntries 178 = .ok (.invokevirtual 35, 3) := by decide +kernel
theorem dX3_makeEntries_181 : decode cX3_makeEntries 181 = .ok (.invokevirtual 56, 3) := by decide +kernel
theorem dX3_makeEntries_184 : decode cX3_makeEntries 184 = .ok (.aload_n 0, 1) := by decide +kernel
theorem dX3_makeEntries_185 : decode cX3_makeEntries 185 = .ok (.aload_n 0, 1) := by decide +kernel
theorem dX3_makeEntries_186 : decode cX3_makeEntries 186 = .ok (.getfield 22, 3) := by decide +kernel
theorem dX3_makeEntries_189 : decode cX3_makeEntries 189 = .ok (.iconst 4, 1) := by decide +kernel
theorem dX3_makeEntries_190 : decode cX3_makeEntries 190 = .ok (.invokevirtual 35, 3) := by decide +kernel
theorem dX3_makeEntries_193 : decode cX3_makeEntries 193 = .ok (.invokevirtual 63, 3) := by decide +kernel
theorem dX3_makeEntries_196 : decode cX3_makeEntries 196 = .ok (.return_, 1) := by decide +kernel
set_option maxRecDepth 20000 in
theorem ggX3_tryWord_X9_entryRow : GoodIn wsX3_tryWord wsX9_entryRow := goodIn_r _ [7, 8, 9, 149, 150, 151, 152, 153, 154, 155, 156, 157, 158, 159, 160] (by decide +kernel) (by decide +kernel)
set_option maxRecDepth 20000 in
theorem gX3_tryWord_X9_entryRow : GoodIn wsX3_tryWord (wsV RX3 35 RX9 yX9_entryRow wsX9_entryRow) := goodIn_app (goodIn_of _ (by decide +kernel)) ggX3_tryWord_X9_entryRow
set_option maxRecDepth 20000 in
theorem ggX3_tryWord_X3_opens : GoodIn wsX3_tryWord wsX3_opens := goodIn_ca (goodIn_r _ [14, 1, 2, 15, 16, 17, 18, 19, 13, 20, 21, 22, 23, 24, 25, 26, 27, 28, 29, 30, 31, 32, 33, 34, 35, 36, 37, 38, 39, 40, 41, 42, 43, 44, 45, 46, 47, 48, 3, 4, 5, 6, 7, 8, 9, 49, 50, 51, 52, 53, 54, 55, 56, 57, 58, 59, 60, 61, 62, 63, 64, 65, 66, 67, 68, 69, 70, 71, 72, 73, 74, 75, 76, 77, 78, 79, 80, 81, 82, 83, 84, 85, 86, 87, 88, 89, 90, 91, 92, 93, 94, 95, 96, 97, 98, 99, 100, 101, 102, 103, 104, 105, 106, 107, 108, 109, 110, 111, 112, 113, 114, 115, 116, 117, 118, 119, 120, 121, 122, 123, 124, 125, 126, 127, 128, 129, 130, 131, 132, 133, 134, 135, 136, 137, 138, 139, 140, 141, 142, 143, 144, 145, 146, 147, 148, 149, 150, 151, 152, 153, 154, 155, 156, 157, 158, 159, 160, 161, 162, 163, 164, 165, 166, 167, 168, 169, 170, 171, 172, 173, 174, 175] (by decide +kernel) (by decide +kernel)) (goodIn_sub (fun _ h => List.mem_cons_of_mem _ (List.mem_append_right _ h)) (by decide +kernel))
set_option maxRecDepth 20000 in
theorem gX3_tryWord_X3_opens : GoodIn wsX3_tryWord (wsV RX3 66 RX3 yX3_opens wsX3_opens) := goodIn_app (goodIn_of _ (by decide +kernel)) ggX3_tryWord_X3_opens
theorem dX3_tryWord_0 : decode cX3_tryWord 0 = .ok (.aload_n 0, 1) := by decide +kernel
theorem dX3_tryWord_1 : decode cX3_tryWord 1 = .ok (.aload_n 0, 1) := by decide +kernel
theorem dX3_tryWord_2 : decode cX3_tryWord 2 = .ok (.getfield 22, 3) := by decide +kernel
theorem dX3_tryWord_5 : decode cX3_tryWord 5 = .ok (.iconst 1, 1) := by decide +kernel
theorem dX3_tryWord_6 : decode cX3_tryWord 6 = .ok (.invokevirtual 35, 3) := by decide +kernel
theorem dX3_tryWord_9 : decode cX3_tryWord 9 = .ok (.iconst 0, 1) := by decide +kernel
theorem dX3_tryWord_10 : decode cX3_tryWord 10 = .ok (.aload_n 0, 1) := by decide +kernel
theorem dX3_tryWord_11 : decode cX3_tryWord 11 = .ok (.getfield 22, 3) := by decide +kernel
theorem dX3_tryWord_14 : decode cX3_tryWord 14 = .ok (.iconst 3, 1) := by decide +kernel
theorem dX3_tryWord_15 : decode cX3_tryWord 15 = .ok (.invokevirtual 35, 3) := by decide +kernel
theorem dX3_tryWord_18 : decode cX3_tryWord 18 = .ok (.invokevirtual 66, 3) := by decide +kernel
theorem dX3_tryWord_21 : decode cX3_tryWord 21 = .ok (.ifCond .eq 5, 3) := by decide +kernel
theorem dX3_tryWord_24 : decode cX3_tryWord 24 = .ok (.iconst 1, 1) := by decide +kernel
theorem dX3_tryWord_25 : decode cX3_tryWord 25 = .ok (.ireturn, 1) := by decide +kernel
theorem dX3_tryWord_26 : decode cX3_tryWord 26 = .ok (.aload_n 0, 1) := by decide +kernel
theorem dX3_tryWord_27 : decode cX3_tryWord 27 = .ok (.aload_n 0, 1) := by decide +kernel
theorem dX3_tryWord_28 : decode cX3_tryWord 28 = .ok (.getfield 22, 3) := by decide +kernel
theorem dX3_tryWord_31 : decode cX3_tryWord 31 = .ok (.iconst 0, 1) := by decide +kernel
theorem dX3_tryWord_32 : decode cX3_tryWord 32 = .ok (.invokevirtual 35, 3) := by decide +kernel
theorem dX3_tryWord_35 : decode cX3_tryWord 35 = .ok (.iconst 1, 1) := by decide +kernel
theorem dX3_tryWord_36 : decode cX3_tryWord 36 = .ok (.aload_n 0, 1) := by decide +kernel
theorem dX3_tryWord_37 : decode cX3_tryWord 37 = .ok (.getfield 22, 3) := by decide +kernel
theorem dX3_tryWord_40 : decode cX3_tryWord 40 = .ok (.iconst 2, 1) := by decide +kernel
theorem dX3_tryWord_41 : decode cX3_tryWord 41 = .ok (.invokevirtual 35, 3) := by decide +kernel
theorem dX3_tryWord_44 : decode cX3_tryWord 44 = .ok (.invokevirtual 66, 3) := by decide +kernel
theorem dX3_tryWord_47 : decode cX3_tryWord 47 = .ok (.ifCond .eq 7, 3) := by decide +kernel
theorem dX3_tryWord_50 : decode cX3_tryWord 50 = .ok (.iconst 2, 1) := by decide +kernel
theorem dX3_tryWord_51 : decode cX3_tryWord 51 = .ok (.goto 4, 3) := by decide +kernel
theorem dX3_tryWord_54 : decode cX3_tryWord 54 = .ok (.iconst 0, 1) := by decide +kernel
theorem dX3_tryWord_55 : decode cX3_tryWord 55 = .ok (.ireturn, 1) := by decide +kernel
set_option maxRecDepth 20000 in
theorem ggX3_findObjectKey_X5_copy : GoodIn wsX3_findObjectKey wsX5_copy := goodIn_ca (goodIn_r _ [7, 8, 9, 10, 6, 11, 12, 13, 14, 15, 16, 17, 18, 19, 20, 21, 22, 23, 24, 25, 26, 27, 28, 29, 49, 50] (by decide +kernel) (by decide +kernel)) (goodIn_sub (fun _ h => List.mem_cons_of_mem _ (List.mem_append_right _ h)) (by decide +kernel))
set_option maxRecDepth 20000 in
theorem gX3_findObjectKey_X5_copy : GoodIn wsX3_findObjectKey (wsV RX3 73 RX5 yX5_copy wsX5_copy) := goodIn_app (goodIn_of _ (by decide +kernel)) ggX3_findObjectKey_X5_copy
theorem dX3_findObjectKey_0 : decode cX3_findObjectKey 0 = .ok (.aload 4, 2) := by decide +kernel
theorem dX3_findObjectKey_2 : decode cX3_findObjectKey 2 = .ok (.aload_n 0, 1) := by decide +kernel
theorem dX3_findObjectKey_3 : decode cX3_findObjectKey 3 = .ok (.getfield 22, 3) := by decide +kernel
theorem dX3_findObjectKey_6 : decode cX3_findObjectKey 6 = .ok (.getfield 70, 3) := by decide +kernel
theorem dX3_findObjectKey_9 : decode cX3_findObjectKey 9 = .ok (.invokevirtual 73, 3) := by decide +kernel
theorem dX3_findObjectKey_12 : decode cX3_findObjectKey 12 = .ok (.return_, 1) := by decide +kernel
set_option maxRecDepth 20000 in
theorem ggX3_tellPermissions_X9_isOpen : GoodIn wsX3_tellPermissions wsX9_isOpen := goodIn_r _ [9, 10, 11, 12, 13, 14, 15, 16, 107, 108, 109, 110, 111, 112, 113, 114, 115, 116, 117, 118, 125, 126] (by decide +kernel) (by decide +kernel)
set_option maxRecDepth 20000 in
theorem gX3_tellPermissions_X9_isOpen : GoodIn wsX3_tellPermissions (wsV RX3 76 RX9 yX9_isOpen wsX9_isOpen) := goodIn_app (goodIn_of _ (by decide +kernel)) ggX3_tellPermissions_X9_isOpen
set_option maxRecDepth 20000 in
theorem ggX3_tellPermissions_X3_textBehindZeros : GoodIn wsX3_tellPermissions wsX3_textBehindZeros := goodIn_ca (goodIn_r _ [21, 3, 4, 22, 23, 24, 14, 25, 16, 26, 27, 28, 29, 30, 31, 32, 33, 34, 100, 101, 102, 103, 104, 105, 106, 119, 120, 121, 122, 123, 124, 125, 126] (by decide +kernel) (by decide +kernel)) (goodIn_sub (fun _ h => List.mem_cons_of_mem _ (List.mem_append_right _ h)) (by decide +kernel))
set_option maxRecDepth 20000 in
theorem gX3_tellPermissions_X3_textBehindZeros : GoodIn wsX3_tellPermissions (wsV RX3 84 RX3 yX3_textBehindZeros wsX3_textBehindZeros) := goodIn_app (goodIn_of _ (by decide +kernel)) ggX3_tellPermissions_X3_textBehindZeros
set_option maxRecDepth 20000 in
theorem ggX3_tellPermissions_X9_entryRow : GoodIn wsX3_tellPermissions wsX9_entryRow := goodIn_r _ [38, 39, 40, 107, 108, 109, 110, 111, 112, 113, 114, 115, 116, 117, 118] (by decide +kernel) (by decide +kernel)
set_option maxRecDepth 20000 in
theorem gX3_tellPermissions_X9_entryRow : GoodIn wsX3_tellPermissions (wsV RX3 35 RX9 yX9_entryRow wsX9_entryRow) := goodIn_app (goodIn_of _ (by decide +kernel)) ggX3_tellPermissions_X9_entryRow
set_option maxRecDepth 20000 in
theorem ggX3_tellPermissions_X5_addAll : GoodIn wsX3_tellPermissions wsX5_addAll := goodIn_ca (goodIn_r _ [44, 45, 12, 13, 14, 15, 16, 46, 47, 48, 49, 50, 51, 52, 53, 34, 30, 31, 32, 33, 125, 126] (by decide +kernel) (by decide +kernel)) (goodIn_sub (fun _ h => List.mem_cons_of_mem _ (List.mem_append_right _ h)) (by decide +kernel))
set_option maxRecDepth 20000 in
theorem gX3_tellPermissions_X5_addAll : GoodIn wsX3_tellPermissions (wsV RX3 88 RX5 yX5_addAll wsX5_addAll) := goodIn_app (goodIn_of _ (by decide +kernel)) ggX3_tellPermissions_X5_addAll
set_option maxRecDepth 20000 in
theorem ggX3_tellPermissions_X0_openChain : GoodIn wsX3_tellPermissions wsX0_openChain := goodIn_ca (goodIn_r _ [58, 59, 60, 61, 62, 57, 63, 64, 65, 66, 67, 12, 13, 14, 15, 16, 68, 51, 52, 53, 34, 69, 70, 71, 72, 73, 74, 75, 76, 77, 78, 79, 80, 81, 82, 83, 84, 85, 86, 87, 88, 89, 90, 91, 92, 93, 94, 95, 96, 97, 98, 127, 128, 129, 130, 131, 125, 126] (by decide +kernel) (by decide +kernel)) (goodIn_sub (fun _ h => List.mem_cons_of_mem _ (List.mem_append_right _ h)) (by decide +kernel))
set_option maxRecDepth 20000 in
theorem gX3_tellPermissions_X0_openChain : GoodIn wsX3_tellPermissions (wsV RX3 95 RX0 yX0_openChain wsX0_openChain) := goodIn_app (goodIn_of _ (by decide +kernel)) ggX3_tellPermissions_X0_openChain
set_option maxRecDepth 20000 in
theorem ggX3_tellPermissions_X5_at : GoodIn wsX3_tellPermissions wsX5_at := goodIn_ca (goodIn_r _ [53, 16, 34, 125, 126] (by decide +kernel) (by decide +kernel)) (goodIn_sub (fun _ h => List.mem_cons_of_mem _ (List.mem_append_right _ h)) (by decide +kernel))
set_option maxRecDepth 20000 in
theorem gX3_tellPermissions_X5_at : GoodIn wsX3_tellPermissions (wsV RX3 101 RX5 yX5_at wsX5_at) := goodIn_app (goodIn_of _ (by decide +kernel)) ggX3_tellPermissions_X5_at
theorem dX3_tellPermissions_0 : decode cX3_tellPermissions 0 = .ok (.aload_n 0, 1) := by decide +kernel
theorem dX3_tellPermissions_1 : decode cX3_tellPermissions 1 = .ok (.getfield 22, 3) := by decide +kernel
theorem dX3_tellPermissions_4 : decode cX3_tellPermissions 4 = .ok (.invokevirtual 76, 3) := by decide +kernel
theorem dX3_tellPermissions_7 : decode cX3_tellPermissions 7 = .ok (.ifCond .ne 11, 3) := by decide +kernel
theorem dX3_tellPermissions_10 : decode cX3_tellPermissions 10 = .ok (.aload_n 0, 1) := by decide +kernel
theorem dX3_tellPermissions_11 : decode cX3_tellPermissions 11 = .ok (.getfield 22, 3) := by decide +kernel
theorem dX3_tellPermissions_14 : decode cX3_tellPermissions 14 = .ok (.getfield 80, 3) := by decide +kernel
theorem dX3_tellPermissions_17 : decode cX3_tellPermissions 17 = .ok (.ireturn, 1) := by decide +kernel
theorem dX3_tellPermissions_18 : decode cX3_tellPermissions 18 = .ok (.aload_n 0, 1) := by decide +kernel
theorem dX3_tellPermissions_19 : decode cX3_tellPermissions 19 = .ok (.invokevirtual 84, 3) := by decide +kernel
theorem dX3_tellPermissions_22 : decode cX3_tellPermissions 22 = .ok (.astore_n 1, 1) := by decide +kernel
theorem dX3_tellPermissions_23 : decode cX3_tellPermissions 23 = .ok (.aload_n 1, 1) := by decide +kernel
theorem dX3_tellPermissions_24 : decode cX3_tellPermissions 24 = .ok (.aload_n 0, 1) := by decide +kernel
theorem dX3_tellPermissions_25 : decode cX3_tellPermissions 25 = .ok (.getfield 22, 3) := by decide +kernel
theorem dX3_tellPermissions_28 : decode cX3_tellPermissions 28 = .ok (.iconst 4, 1) := by decide +kernel
theorem dX3_tellPermissions_29 : decode cX3_tellPermissions 29 = .ok (.invokevirtual 35, 3) := by decide +kernel
theorem dX3_tellPermissions_32 : decode cX3_tellPermissions 32 = .ok (.invokevirtual 88, 3) := by decide +kernel
theorem dX3_tellPermissions_35 : decode cX3_tellPermissions 35 = .ok (.aload_n 0, 1) := by decide +kernel
theorem dX3_tellPermissions_36 : decode cX3_tellPermissions 36 = .ok (.getfield 47, 3) := by decide +kernel
theorem dX3_tellPermissions_39 : decode cX3_tellPermissions 39 = .ok (.getfield 91, 3) := by decide +kernel
theorem dX3_tellPermissions_42 : decode cX3_tellPermissions 42 = .ok (.aload_n 0, 1) := by decide +kernel
theorem dX3_tellPermissions_43 : decode cX3_tellPermissions 43 = .ok (.getfield 22, 3) := by decide +kernel
theorem dX3_tellPermissions_46 : decode cX3_tellPermissions 46 = .ok (.getfield 70, 3) := by decide +kernel
theorem dX3_tellPermissions_49 : decode cX3_tellPermissions 49 = .ok (.aload_n 1, 1) := by decide +kernel
theorem dX3_tellPermissions_50 : decode cX3_tellPermissions 50 = .ok (.invokevirtual 95, 3) := by decide +kernel
theorem dX3_tellPermissions_53 : decode cX3_tellPermissions 53 = .ok (.iconst 0, 1) := by decide +kernel
theorem dX3_tellPermissions_54 : decode cX3_tellPermissions 54 = .ok (.istore_n 2, 1) := by decide +kernel
theorem dX3_tellPermissions_55 : decode cX3_tellPermissions 55 = .ok (.iconst 3, 1) := by decide +kernel
theorem dX3_tellPermissions_56 : decode cX3_tellPermissions 56 = .ok (.istore_n 3, 1) := by decide +kernel
theorem dX3_tellPermissions_57 : decode cX3_tellPermissions 57 = .ok (.iload_n 3, 1) := by decide +kernel
theorem dX3_tellPermissions_58 : decode cX3_tellPermissions 58 = .ok (.ifCond .lt 23, 3) := by decide +kernel
theorem dX3_tellPermissions_61 : decode cX3_tellPermissions 61 = .ok (.iload_n 2, 1) := by decide +kernel
theorem dX3_tellPermissions_62 : decode cX3_tellPermissions 62 = .ok (.bipush 8, 2) := by decide +kernel
theorem dX3_tellPermissions_64 : decode cX3_tellPermissions 64 = .ok (.ishl, 1) := by decide +kernel
theorem dX3_tellPermissions_65 : decode cX3_tellPermissions 65 = .ok (.aload_n 1, 1) := by decide +kernel
theorem dX3_tellPermissions_66 : decode cX3_tellPermissions 66 = .ok (.bipush 16, 2) := by decide +kernel
theorem dX3_tellPermissions_68 : decode cX3_tellPermissions 68 = .ok (.iload_n 3, 1) := by decide +kernel
theorem dX3_tellPermissions_69 : decode cX3_tellPermissions 69 = .ok (.iadd, 1) := by decide +kernel
theorem dX3_tellPermissions_70 : decode cX3_tellPermissions 70 = .ok (.invokevirtual 101, 3) := by decide +kernel
theorem dX3_tellPermissions_73 : decode cX3_tellPermissions 73 = .ok (.ior, 1) := by decide +kernel
theorem dX3_tellPermissions_74 : decode cX3_tellPermissions 74 = .ok (.istore_n 2, 1) := by decide +kernel
theorem dX3_tellPermissions_75 : decode cX3_tellPermissions 75 = .ok (.iinc 3 (-1), 3) := by decide +kernel
theorem dX3_tellPermissions_78 : decode cX3_tellPermissions 78 = .ok (.goto (-21), 3) := by decide +kernel
theorem dX3_tellPermissions_81 : decode cX3_tellPermissions 81 = .ok (.iload_n 2, 1) := by decide +kernel
theorem dX3_tellPermissions_82 : decode cX3_tellPermissions 82 = .ok (.ireturn, 1) := by decide +kernel
set_option maxRecDepth 20000 in
theorem ggX3_opens_X3_sumSalted : GoodIn wsX3_opens wsX3_sumSalted := goodIn_ca (goodIn_r _ [9, 3, 4, 1, 2, 10, 11, 12, 13, 14, 15, 16, 17, 18, 19, 20, 21, 22, 23, 24, 25, 26, 27, 28, 29, 30, 31, 32, 33, 34, 35, 36, 37, 38, 39, 40, 41, 42, 43, 44, 45, 46, 47, 48, 49, 50, 51, 52, 53, 54, 55, 56, 57, 58, 59, 60, 61, 62, 63, 64, 65, 66, 67, 68, 69, 70, 71, 72, 73, 74, 75, 76, 77, 78, 79, 138, 139, 140, 141, 142, 143, 144, 157, 158, 159, 160, 161, 162, 163, 164, 145, 146, 147, 148, 149, 150, 151, 152, 153, 154, 155, 156, 165, 166] (by decide +kernel) (by decide +kernel)) (goodIn_sub (fun _ h => List.mem_cons_of_mem _ (List.mem_append_right _ h)) (by decide +kernel))
set_option maxRecDepth 20000 in
theorem gX3_opens_X3_sumSalted : GoodIn wsX3_opens (wsV RX3 39 RX3 yX3_sumSalted wsX3_sumSalted) := goodIn_app (goodIn_of _ (by decide +kernel)) ggX3_opens_X3_sumSalted
set_option maxRecDepth 20000 in
theorem ggX3_opens_X5_startsLike : GoodIn wsX3_opens wsX5_startsLike := goodIn_ca (goodIn_r _ [83, 28, 29, 30, 13, 31, 19, 32, 163, 164] (by decide +kernel) (by decide +kernel)) (goodIn_sub (fun _ h => List.mem_cons_of_mem _ (List.mem_append_right _ h)) (by decide +kernel))
set_option maxRecDepth 20000 in
theorem gX3_opens_X5_startsLike : GoodIn wsX3_opens (wsV RX3 108 RX5 yX5_startsLike wsX5_startsLike) := goodIn_app (goodIn_of _ (by decide +kernel)) ggX3_opens_X5_startsLike
set_option maxRecDepth 20000 in
theorem ggX3_opens_X3_textBehindZeros : GoodIn wsX3_opens wsX3_textBehindZeros := goodIn_ca (goodIn_r _ [87, 3, 4, 88, 16, 17, 13, 18, 19, 89, 90, 91, 92, 33, 34, 35, 36, 32, 138, 139, 140, 141, 142, 143, 144, 157, 158, 159, 160, 161, 162, 163, 164] (by decide +kernel) (by decide +kernel)) (goodIn_sub (fun _ h => List.mem_cons_of_mem _ (List.mem_append_right _ h)) (by decide +kernel))
set_option maxRecDepth 20000 in
theorem gX3_opens_X3_textBehindZeros : GoodIn wsX3_opens (wsV RX3 84 RX3 yX3_textBehindZeros wsX3_textBehindZeros) := goodIn_app (goodIn_of _ (by decide +kernel)) ggX3_opens_X3_textBehindZeros
set_option maxRecDepth 20000 in
theorem ggX3_opens_X5_addAll : GoodIn wsX3_opens wsX5_addAll := goodIn_ca (goodIn_r _ [48, 20, 21, 22, 13, 23, 19, 24, 25, 26, 27, 28, 29, 30, 31, 32, 33, 34, 35, 36, 163, 164] (by decide +kernel) (by decide +kernel)) (goodIn_sub (fun _ h => List.mem_cons_of_mem _ (List.mem_append_right _ h)) (by decide +kernel))
set_option maxRecDepth 20000 in
theorem gX3_opens_X5_addAll : GoodIn wsX3_opens (wsV RX3 88 RX5 yX5_addAll wsX5_addAll) := goodIn_app (goodIn_of _ (by decide +kernel)) ggX3_opens_X5_addAll
set_option maxRecDepth 20000 in
theorem ggX3_opens_X0_openChain : GoodIn wsX3_opens wsX0_openChain := goodIn_ca (goodIn_r _ [97, 98, 99, 100, 101, 96, 102, 103, 104, 105, 106, 21, 22, 13, 23, 19, 107, 29, 30, 31, 32, 108, 109, 110, 111, 112, 113, 114, 115, 116, 117, 118, 119, 120, 121, 122, 123, 124, 125, 126, 127, 128, 129, 130, 131, 132, 133, 134, 135, 136, 137, 167, 168, 169, 170, 171, 163, 164] (by decide +kernel) (by decide +kernel)) (goodIn_sub (fun _ h => List.mem_cons_of_mem _ (List.mem_append_right _ h)) (by decide +kernel))
set_option maxRecDepth 20000 in
theorem gX3_opens_X0_openChain : GoodIn wsX3_opens (wsV RX3 95 RX0 yX0_openChain wsX0_openChain) := goodIn_app (goodIn_of _ (by decide +kernel)) ggX3_opens_X0_openChain
set_option maxRecDepth 20000 in
theorem ggX3_opens_X5_clear : GoodIn wsX3_opens wsX5_clear := goodIn_r _ [18, 19, 163, 164] (by decide +kernel) (by decide +kernel)
set_option maxRecDepth 20000 in
theorem gX3_opens_X5_clear : GoodIn wsX3_opens (wsV RX3 18 RX5 yX5_clear wsX5_clear) := goodIn_app (goodIn_of _ (by decide +kernel)) ggX3_opens_X5_clear
set_option maxRecDepth 20000 in
theorem ggX3_opens_X5_addPart : GoodIn wsX3_opens wsX5_addPart := goodIn_ca (goodIn_r _ [27, 28, 29, 30, 13, 31, 19, 32, 33, 34, 35, 36, 163, 164] (by decide +kernel) (by decide +kernel)) (goodIn_sub (fun _ h => List.mem_cons_of_mem _ (List.mem_append_right _ h)) (by decide +kernel))
set_option maxRecDepth 20000 in
theorem gX3_opens_X5_addPart : GoodIn wsX3_opens (wsV RX3 43 RX5 yX5_addPart wsX5_addPart) := goodIn_app (goodIn_of _ (by decide +kernel)) ggX3_opens_X5_addPart
theorem dX3_opens_0 : decode cX3_opens 0 = .ok (.aload_n 0, 1) := by decide +kernel
theorem dX3_opens_1 : decode cX3_opens 1 = .ok (.aload_n 0, 1) := by decide +kernel
theorem dX3_opens_2 : decode cX3_opens 2 = .ok (.getfield 22, 3) := by decide +kernel
theorem dX3_opens_5 : decode cX3_opens 5 = .ok (.getfield 105, 3) := by decide +kernel
theorem dX3_opens_8 : decode cX3_opens 8 = .ok (.aload_n 1, 1) := by decide +kernel
theorem dX3_opens_9 : decode cX3_opens 9 = .ok (.bipush 32, 2) := by decide +kernel
theorem dX3_opens_11 : decode cX3_opens 11 = .ok (.iload_n 2, 1) := by decide +kernel
theorem dX3_opens_12 : decode cX3_opens 12 = .ok (.aload_n 0, 1) := by decide +kernel
theorem dX3_opens_13 : decode cX3_opens 13 = .ok (.getfield 47, 3) := by decide +kernel
theorem dX3_opens_16 : decode cX3_opens 16 = .ok (.getfield 51, 3) := by decide +kernel
theorem dX3_opens_19 : decode cX3_opens 19 = .ok (.invokevirtual 39, 3) := by decide +kernel
theorem dX3_opens_22 : decode cX3_opens 22 = .ok (.aload_n 0, 1) := by decide +kernel
theorem dX3_opens_23 : decode cX3_opens 23 = .ok (.getfield 47, 3) := by decide +kernel
theorem dX3_opens_26 : decode cX3_opens 26 = .ok (.getfield 51, 3) := by decide +kernel
theorem dX3_opens_29 : decode cX3_opens 29 = .ok (.aload_n 1, 1) := by decide +kernel
theorem dX3_opens_30 : decode cX3_opens 30 = .ok (.bipush 32, 2) := by decide +kernel
theorem dX3_opens_32 : decode cX3_opens 32 = .ok (.invokevirtual 108, 3) := by decide +kernel
theorem dX3_opens_35 : decode cX3_opens 35 = .ok (.ifCond .ne 5, 3) := by decide +kernel
theorem dX3_opens_38 : decode cX3_opens 38 = .ok (.iconst 0, 1) := by decide +kernel
theorem dX3_opens_39 : decode cX3_opens 39 = .ok (.ireturn, 1) := by decide +kernel
theorem dX3_opens_40 : decode cX3_opens 40 = .ok (.aload_n 0, 1) := by decide +kernel
theorem dX3_opens_41 : decode cX3_opens 41 = .ok (.aload_n 0, 1) := by decide +kernel
theorem dX3_opens_42 : decode cX3_opens 42 = .ok (.getfield 22, 3) := by decide +kernel
theorem dX3_opens_45 : decode cX3_opens 45 = .ok (.getfield 105, 3) := by decide +kernel
theorem dX3_opens_48 : decode cX3_opens 48 = .ok (.aload_n 1, 1) := by decide +kernel
theorem dX3_opens_49 : decode cX3_opens 49 = .ok (.bipush 40, 2) := by decide +kernel
theorem dX3_opens_51 : decode cX3_opens 51 = .ok (.iload_n 2, 1) := by decide +kernel
theorem dX3_opens_52 : decode cX3_opens 52 = .ok (.aload_n 0, 1) := by decide +kernel
theorem dX3_opens_53 : decode cX3_opens 53 = .ok (.getfield 47, 3) := by decide +kernel
theorem dX3_opens_56 : decode cX3_opens 56 = .ok (.getfield 51, 3) := by decide +kernel
theorem dX3_opens_59 : decode cX3_opens 59 = .ok (.invokevirtual 39, 3) := by decide +kernel
theorem dX3_opens_62 : decode cX3_opens 62 = .ok (.aload_n 0, 1) := by decide +kernel
theorem dX3_opens_63 : decode cX3_opens 63 = .ok (.invokevirtual 84, 3) := by decide +kernel
theorem dX3_opens_66 : decode cX3_opens 66 = .ok (.astore 4, 2) := by decide +kernel
theorem dX3_opens_68 : decode cX3_opens 68 = .ok (.aload 4, 2) := by decide +kernel
theorem dX3_opens_70 : decode cX3_opens 70 = .ok (.aload_n 3, 1) := by decide +kernel
theorem dX3_opens_71 : decode cX3_opens 71 = .ok (.invokevirtual 88, 3) := by decide +kernel
theorem dX3_opens_74 : decode cX3_opens 74 = .ok (.aload_n 0, 1) := by decide +kernel
theorem dX3_opens_75 : decode cX3_opens 75 = .ok (.getfield 47, 3) := by decide +kernel
theorem dX3_opens_78 : decode cX3_opens 78 = .ok (.getfield 91, 3) := by decide +kernel
theorem dX3_opens_81 : decode cX3_opens 81 = .ok (.aload_n 0, 1) := by decide +kernel
theorem dX3_opens_82 : decode cX3_opens 82 = .ok (.getfield 47, 3) := by decide +kernel
theorem dX3_opens_85 : decode cX3_opens 85 = .ok (.getfield 51, 3) := by decide +kernel
theorem dX3_opens_88 : decode cX3_opens 88 = .ok (.aload 4, 2) := by decide +kernel
theorem dX3_opens_90 : decode cX3_opens 90 = .ok (.invokevirtual 95, 3) := by decide +kernel
theorem dX3_opens_93 : decode cX3_opens 93 = .ok (.aload_n 0, 1) := by decide +kernel
theorem dX3_opens_94 : decode cX3_opens 94 = .ok (.getfield 22, 3) := by decide +kernel
theorem dX3_opens_97 : decode cX3_opens 97 = .ok (.getfield 70, 3) := by decide +kernel
theorem dX3_opens_100 : decode cX3_opens 100 = .ok (.invokevirtual 18, 3) := by decide +kernel
theorem dX3_opens_103 : decode cX3_opens 103 = .ok (.aload_n 0, 1) := by decide +kernel
theorem dX3_opens_104 : decode cX3_opens 104 = .ok (.getfield 22, 3) := by decide +kernel
theorem dX3_opens_107 : decode cX3_opens 107 = .ok (.getfield 70, 3) := by decide +kernel
theorem dX3_opens_110 : decode cX3_opens 110 = .ok (.aload 4, 2) := by decide +kernel
theorem dX3_opens_112 : decode cX3_opens 112 = .ok (.bipush 16, 2) := by decide +kernel
theorem dX3_opens_114 : decode cX3_opens 114 = .ok (.bipush 32, 2) := by decide +kernel
theorem dX3_opens_116 : decode cX3_opens 116 = .ok (.invokevirtual 43, 3) := by decide +kernel
theorem dX3_opens_119 : decode cX3_opens 119 = .ok (.iconst 1, 1) := by decide +kernel
theorem dX3_opens_120 : decode cX3_opens 120 = .ok (.ireturn, 1) := by decide +kernel
set_option maxRecDepth 20000 in
theorem ggX3_textBehindZeros_X5_clear : GoodIn wsX3_textBehindZeros wsX5_clear := goodIn_r _ [7, 8, 31, 32] (by decide +kernel) (by decide +kernel)
set_option maxRecDepth 20000 in
theorem gX3_textBehindZeros_X5_clear : GoodIn wsX3_textBehindZeros (wsV RX3 18 RX5 yX5_clear wsX5_clear) := goodIn_app (goodIn_of _ (by decide +kernel)) ggX3_textBehindZeros_X5_clear
set_option maxRecDepth 20000 in
theorem ggX3_textBehindZeros_X5_addSame : GoodIn wsX3_textBehindZeros wsX5_addSame := goodIn_ca (goodIn_r _ [12, 13, 14, 15, 6, 16, 8, 17, 31, 32] (by decide +kernel) (by decide +kernel)) (goodIn_sub (fun _ h => List.mem_cons_of_mem _ (List.mem_append_right _ h)) (by decide +kernel))
set_option maxRecDepth 20000 in
theorem gX3_textBehindZeros_X5_addSame : GoodIn wsX3_textBehindZeros (wsV RX3 115 RX5 yX5_addSame wsX5_addSame) := goodIn_app (goodIn_of _ (by decide +kernel)) ggX3_textBehindZeros_X5_addSame
theorem dX3_textBehindZeros_0 : decode cX3_textBehindZeros 0 = .ok (.aload_n 0, 1) := by decide +kernel
theorem dX3_textBehindZeros_1 : decode cX3_textBehindZeros 1 = .ok (.getfield 47, 3) := by decide +kernel
theorem dX3_textBehindZeros_4 : decode cX3_textBehindZeros 4 = .ok (.getfield 112, 3) := by decide +kernel
theorem dX3_textBehindZeros_7 : decode cX3_textBehindZeros 7 = .ok (.astore_n 1, 1) := by decide +kernel
theorem dX3_textBehindZeros_8 : decode cX3_textBehindZeros 8 = .ok (.aload_n 1, 1) := by decide +kernel
theorem dX3_textBehindZeros_9 : decode cX3_textBehindZeros 9 = .ok (.invokevirtual 18, 3) := by decide +kernel
theorem dX3_textBehindZeros_12 : decode cX3_textBehindZeros 12 = .ok (.aload_n 1, 1) := by decide +kernel
theorem dX3_textBehindZeros_13 : decode cX3_textBehindZeros 13 = .ok (.iconst 0, 1) := by decide +kernel
theorem dX3_textBehindZeros_14 : decode cX3_textBehindZeros 14 = .ok (.bipush 16, 2) := by decide +kernel
theorem dX3_textBehindZeros_16 : decode cX3_textBehindZeros 16 = .ok (.invokevirtual 115, 3) := by decide +kernel
theorem dX3_textBehindZeros_19 : decode cX3_textBehindZeros 19 = .ok (.aload_n 1, 1) := by decide +kernel
theorem dX3_textBehindZeros_20 : decode cX3_textBehindZeros 20 = .ok (.areturn, 1) := by decide +kernel
set_option maxRecDepth 20000 in
theorem ggX3_sumSalted_X5_copy : GoodIn wsX3_sumSalted wsX5_copy := goodIn_ca (goodIn_r _ [9, 10, 11, 12, 8, 13, 14, 15, 16, 17, 18, 19, 20, 21, 22, 23, 24, 25, 26, 27, 28, 29, 30, 31, 88, 89] (by decide +kernel) (by decide +kernel)) (goodIn_sub (fun _ h => List.mem_cons_of_mem _ (List.mem_append_right _ h)) (by decide +kernel))
set_option maxRecDepth 20000 in
theorem gX3_sumSalted_X5_copy : GoodIn wsX3_sumSalted (wsV RX3 73 RX5 yX5_copy wsX5_copy) := goodIn_app (goodIn_of _ (by decide +kernel)) ggX3_sumSalted_X5_copy
set_option maxRecDepth 20000 in
theorem ggX3_sumSalted_X5_addPart : GoodIn wsX3_sumSalted wsX5_addPart := goodIn_ca (goodIn_r _ [22, 23, 24, 25, 8, 26, 14, 27, 28, 29, 30, 31, 88, 89] (by decide +kernel) (by decide +kernel)) (goodIn_sub (fun _ h => List.mem_cons_of_mem _ (List.mem_append_right _ h)) (by decide +kernel))
set_option maxRecDepth 20000 in
theorem gX3_sumSalted_X5_addPart : GoodIn wsX3_sumSalted (wsV RX3 43 RX5 yX5_addPart wsX5_addPart) := goodIn_app (goodIn_of _ (by decide +kernel)) ggX3_sumSalted_X5_addPart
set_option maxRecDepth 20000 in
theorem ggX3_sumSalted_X9_entryRow : GoodIn wsX3_sumSalted wsX9_entryRow := goodIn_r _ [37, 38, 39, 90, 91, 92, 93, 94, 95, 96, 97, 98, 99, 100, 101] (by decide +kernel) (by decide +kernel)
set_option maxRecDepth 20000 in
theorem gX3_sumSalted_X9_entryRow : GoodIn wsX3_sumSalted (wsV RX3 35 RX9 yX9_entryRow wsX9_entryRow) := goodIn_app (goodIn_of _ (by decide +kernel)) ggX3_sumSalted_X9_entryRow
set_option maxRecDepth 20000 in
theorem ggX3_sumSalted_X5_addAll : GoodIn wsX3_sumSalted wsX5_addAll := goodIn_ca (goodIn_r _ [43, 15, 16, 17, 8, 18, 14, 19, 20, 21, 22, 23, 24, 25, 26, 27, 28, 29, 30, 31, 88, 89] (by decide +kernel) (by decide +kernel)) (goodIn_sub (fun _ h => List.mem_cons_of_mem _ (List.mem_append_right _ h)) (by decide +kernel))
set_option maxRecDepth 20000 in
theorem gX3_sumSalted_X5_addAll : GoodIn wsX3_sumSalted (wsV RX3 88 RX5 yX5_addAll wsX5_addAll) := goodIn_app (goodIn_of _ (by decide +kernel)) ggX3_sumSalted_X5_addAll
set_option maxRecDepth 20000 in
theorem ggX3_sumSalted_X2_sum : GoodIn wsX3_sumSalted wsX2_sum := goodIn_ca (goodIn_r _ [48, 49, 50, 51, 52, 16, 17, 8, 18, 14, 53, 54, 55, 47, 56, 57, 58, 59, 60, 27, 61, 62, 63, 64, 65, 66, 67, 68, 69, 70, 71, 72, 73, 11, 12, 13, 74, 29, 30, 31, 102, 103, 88, 89] (by decide +kernel) (by decide +kernel)) (goodIn_sub (fun _ h => List.mem_cons_of_mem _ (List.mem_append_right _ h)) (by decide +kernel))
set_option maxRecDepth 20000 in
theorem gX3_sumSalted_X2_sum : GoodIn wsX3_sumSalted (wsV RX3 123 RX2 yX2_sum wsX2_sum) := goodIn_app (goodIn_of _ (by decide +kernel)) ggX3_sumSalted_X2_sum
theorem dX3_sumSalted_0 : decode cX3_sumSalted 0 = .ok (.aload_n 0, 1) := by decide +kernel
theorem dX3_sumSalted_1 : decode cX3_sumSalted 1 = .ok (.getfield 47, 3) := by decide +kernel
theorem dX3_sumSalted_4 : decode cX3_sumSalted 4 = .ok (.getfield 112, 3) := by decide +kernel
theorem dX3_sumSalted_7 : decode cX3_sumSalted 7 = .ok (.astore 6, 2) := by decide +kernel
theorem dX3_sumSalted_9 : decode cX3_sumSalted 9 = .ok (.aload 6, 2) := by decide +kernel
theorem dX3_sumSalted_11 : decode cX3_sumSalted 11 = .ok (.aload_n 1, 1) := by decide +kernel
theorem dX3_sumSalted_12 : decode cX3_sumSalted 12 = .ok (.invokevirtual 73, 3) := by decide +kernel
theorem dX3_sumSalted_15 : decode cX3_sumSalted 15 = .ok (.aload 6, 2) := by decide +kernel
theorem dX3_sumSalted_17 : decode cX3_sumSalted 17 = .ok (.aload_n 2, 1) := by decide +kernel
theorem dX3_sumSalted_18 : decode cX3_sumSalted 18 = .ok (.iload_n 3, 1) := by decide +kernel
theorem dX3_sumSalted_19 : decode cX3_sumSalted 19 = .ok (.bipush 8, 2) := by decide +kernel
theorem dX3_sumSalted_21 : decode cX3_sumSalted 21 = .ok (.invokevirtual 43, 3) := by decide +kernel
theorem dX3_sumSalted_24 : decode cX3_sumSalted 24 = .ok (.iload 4, 2) := by decide +kernel
theorem dX3_sumSalted_26 : decode cX3_sumSalted 26 = .ok (.ifCond .eq 16, 3) := by decide +kernel
theorem dX3_sumSalted_29 : decode cX3_sumSalted 29 = .ok (.aload 6, 2) := by decide +kernel
theorem dX3_sumSalted_31 : decode cX3_sumSalted 31 = .ok (.aload_n 0, 1) := by decide +kernel
theorem dX3_sumSalted_32 : decode cX3_sumSalted 32 = .ok (.getfield 22, 3) := by decide +kernel
theorem dX3_sumSalted_35 : decode cX3_sumSalted 35 = .ok (.iconst 1, 1) := by decide +kernel
theorem dX3_sumSalted_36 : decode cX3_sumSalted 36 = .ok (.invokevirtual 35, 3) := by decide +kernel
theorem dX3_sumSalted_39 : decode cX3_sumSalted 39 = .ok (.invokevirtual 88, 3) := by decide +kernel
theorem dX3_sumSalted_42 : decode cX3_sumSalted 42 = .ok (.aload_n 0, 1) := by decide +kernel
theorem dX3_sumSalted_43 : decode cX3_sumSalted 43 = .ok (.getfield 47, 3) := by decide +kernel
theorem dX3_sumSalted_46 : decode cX3_sumSalted 46 = .ok (.getfield 119, 3) := by decide +kernel
theorem dX3_sumSalted_49 : decode cX3_sumSalted 49 = .ok (.aload 6, 2) := by decide +kernel
theorem dX3_sumSalted_51 : decode cX3_sumSalted 51 = .ok (.aload 5, 2) := by decide +kernel
theorem dX3_sumSalted_53 : decode cX3_sumSalted 53 = .ok (.invokevirtual 123, 3) := by decide +kernel
theorem dX3_sumSalted_56 : decode cX3_sumSalted 56 = .ok (.return_, 1) := by decide +kernel
set_option maxRecDepth 20000 in
theorem ggX3_wrapKey_X3_textBehindZeros : GoodIn wsX3_wrapKey wsX3_textBehindZeros := goodIn_ca (goodIn_r _ [8, 2, 3, 9, 10, 11, 12, 13, 14, 15, 16, 17, 18, 19, 20, 21, 22, 23, 82, 83, 84, 85, 79, 80, 81, 86, 87, 88, 89, 90, 91, 92, 93] (by decide +kernel) (by decide +kernel)) (goodIn_sub (fun _ h => List.mem_cons_of_mem _ (List.mem_append_right _ h)) (by decide +kernel))
set_option maxRecDepth 20000 in
theorem gX3_wrapKey_X3_textBehindZeros : GoodIn wsX3_wrapKey (wsV RX3 84 RX3 yX3_textBehindZeros wsX3_textBehindZeros) := goodIn_app (goodIn_of _ (by decide +kernel)) ggX3_wrapKey_X3_textBehindZeros
set_option maxRecDepth 20000 in
theorem ggX3_wrapKey_X5_addPart : GoodIn wsX3_wrapKey wsX5_addPart := goodIn_ca (goodIn_r _ [27, 28, 29, 30, 12, 31, 14, 23, 19, 20, 21, 22, 92, 93] (by decide +kernel) (by decide +kernel)) (goodIn_sub (fun _ h => List.mem_cons_of_mem _ (List.mem_append_right _ h)) (by decide +kernel))
set_option maxRecDepth 20000 in
theorem gX3_wrapKey_X5_addPart : GoodIn wsX3_wrapKey (wsV RX3 43 RX5 yX5_addPart wsX5_addPart) := goodIn_app (goodIn_of _ (by decide +kernel)) ggX3_wrapKey_X5_addPart
set_option maxRecDepth 20000 in
theorem ggX3_wrapKey_X0_shutChain : GoodIn wsX3_wrapKey wsX0_shutChain := goodIn_ca (goodIn_r _ [36, 37, 38, 39, 40, 35, 41, 42, 43, 44, 45, 46, 47, 12, 48, 14, 49, 29, 30, 31, 23, 50, 51, 52, 53, 54, 55, 56, 57, 58, 59, 60, 61, 62, 63, 64, 65, 66, 67, 68, 69, 70, 71, 72, 73, 74, 75, 76, 77, 78, 94, 95, 96, 97, 98, 92, 93] (by decide +kernel) (by decide +kernel)) (goodIn_sub (fun _ h => List.mem_cons_of_mem _ (List.mem_append_right _ h)) (by decide +kernel))
set_option maxRecDepth 20000 in
theorem gX3_wrapKey_X0_shutChain : GoodIn wsX3_wrapKey (wsV RX3 127 RX0 yX0_shutChain wsX0_shutChain) := goodIn_app (goodIn_of _ (by decide +kernel)) ggX3_wrapKey_X0_shutChain
set_option maxRecDepth 20000 in
theorem ggX3_wrapKey_X5_clear : GoodIn wsX3_wrapKey wsX5_clear := goodIn_r _ [13, 14, 92, 93] (by decide +kernel) (by decide +kernel)
set_option maxRecDepth 20000 in
theorem gX3_wrapKey_X5_clear : GoodIn wsX3_wrapKey (wsV RX3 18 RX5 yX5_clear wsX5_clear) := goodIn_app (goodIn_of _ (by decide +kernel)) ggX3_wrapKey_X5_clear
theorem dX3_wrapKey_0 : decode cX3_wrapKey 0 = .ok (.aload_n 0, 1) := by decide +kernel
theorem dX3_wrapKey_1 : decode cX3_wrapKey 1 = .ok (.invokevirtual 84, 3) := by decide +kernel
theorem dX3_wrapKey_4 : decode cX3_wrapKey 4 = .ok (.astore_n 2, 1) := by decide +kernel
theorem dX3_wrapKey_5 : decode cX3_wrapKey 5 = .ok (.aload_n 2, 1) := by decide +kernel
theorem dX3_wrapKey_6 : decode cX3_wrapKey 6 = .ok (.aload_n 0, 1) := by decide +kernel
theorem dX3_wrapKey_7 : decode cX3_wrapKey 7 = .ok (.getfield 14, 3) := by decide +kernel
theorem dX3_wrapKey_10 : decode cX3_wrapKey 10 = .ok (.iconst 0, 1) := by decide +kernel
theorem dX3_wrapKey_11 : decode cX3_wrapKey 11 = .ok (.bipush 32, 2) := by decide +kernel
theorem dX3_wrapKey_13 : decode cX3_wrapKey 13 = .ok (.invokevirtual 43, 3) := by decide +kernel
theorem dX3_wrapKey_16 : decode cX3_wrapKey 16 = .ok (.aload_n 0, 1) := by decide +kernel
theorem dX3_wrapKey_17 : decode cX3_wrapKey 17 = .ok (.getfield 47, 3) := by decide +kernel
theorem dX3_wrapKey_20 : decode cX3_wrapKey 20 = .ok (.getfield 91, 3) := by decide +kernel
theorem dX3_wrapKey_23 : decode cX3_wrapKey 23 = .ok (.aload_n 0, 1) := by decide +kernel
theorem dX3_wrapKey_24 : decode cX3_wrapKey 24 = .ok (.getfield 47, 3) := by decide +kernel
theorem dX3_wrapKey_27 : decode cX3_wrapKey 27 = .ok (.getfield 51, 3) := by decide +kernel
theorem dX3_wrapKey_30 : decode cX3_wrapKey 30 = .ok (.aload_n 2, 1) := by decide +kernel
theorem dX3_wrapKey_31 : decode cX3_wrapKey 31 = .ok (.invokevirtual 127, 3) := by decide +kernel
theorem dX3_wrapKey_34 : decode cX3_wrapKey 34 = .ok (.aload_n 1, 1) := by decide +kernel
theorem dX3_wrapKey_35 : decode cX3_wrapKey 35 = .ok (.invokevirtual 18, 3) := by decide +kernel
theorem dX3_wrapKey_38 : decode cX3_wrapKey 38 = .ok (.aload_n 1, 1) := by decide +kernel
theorem dX3_wrapKey_39 : decode cX3_wrapKey 39 = .ok (.aload_n 2, 1) := by decide +kernel
theorem dX3_wrapKey_40 : decode cX3_wrapKey 40 = .ok (.bipush 16, 2) := by decide +kernel
theorem dX3_wrapKey_42 : decode cX3_wrapKey 42 = .ok (.bipush 32, 2) := by decide +kernel
theorem dX3_wrapKey_44 : decode cX3_wrapKey 44 = .ok (.invokevirtual 43, 3) := by decide +kernel
theorem dX3_wrapKey_47 : decode cX3_wrapKey 47 = .ok (.return_, 1) := by decide +kernel
set_option maxRecDepth 20000 in
theorem ggX3_wrapPermissions_X5_clear : GoodIn wsX3_wrapPermissions wsX5_clear := goodIn_r _ [10, 11, 111, 112] (by decide +kernel) (by decide +kernel)
set_option maxRecDepth 20000 in
theorem gX3_wrapPermissions_X5_clear : GoodIn wsX3_wrapPermissions (wsV RX3 18 RX5 yX5_clear wsX5_clear) := goodIn_app (goodIn_of _ (by decide +kernel)) ggX3_wrapPermissions_X5_clear
set_option maxRecDepth 20000 in
theorem ggX3_wrapPermissions_X5_addPart : GoodIn wsX3_wrapPermissions wsX5_addPart := goodIn_ca (goodIn_r _ [15, 16, 17, 18, 9, 19, 11, 20, 21, 22, 23, 24, 111, 112] (by decide +kernel) (by decide +kernel)) (goodIn_sub (fun _ h => List.mem_cons_of_mem _ (List.mem_append_right _ h)) (by decide +kernel))
set_option maxRecDepth 20000 in
theorem gX3_wrapPermissions_X5_addPart : GoodIn wsX3_wrapPermissions (wsV RX3 43 RX5 yX5_addPart wsX5_addPart) := goodIn_app (goodIn_of _ (by decide +kernel)) ggX3_wrapPermissions_X5_addPart
set_option maxRecDepth 20000 in
theorem ggX3_wrapPermissions_X3_textBehindZeros : GoodIn wsX3_wrapPermissions wsX3_textBehindZeros := goodIn_ca (goodIn_r _ [29, 1, 2, 6, 7, 8, 9, 10, 11, 30, 31, 32, 33, 21, 22, 23, 24, 20, 86, 87, 88, 89, 90, 91, 92, 93, 94, 95, 96, 97, 98, 111, 112] (by decide +kernel) (by decide +kernel)) (goodIn_sub (fun _ h => List.mem_cons_of_mem _ (List.mem_append_right _ h)) (by decide +kernel))
set_option maxRecDepth 20000 in
theorem gX3_wrapPermissions_X3_textBehindZeros : GoodIn wsX3_wrapPermissions (wsV RX3 84 RX3 yX3_textBehindZeros wsX3_textBehindZeros) := goodIn_app (goodIn_of _ (by decide +kernel)) ggX3_wrapPermissions_X3_textBehindZeros
set_option maxRecDepth 20000 in
theorem ggX3_wrapPermissions_X5_addNumber : GoodIn wsX3_wrapPermissions wsX5_addNumber := goodIn_ca (goodIn_r _ [37, 21, 22, 23, 9, 24, 11, 20, 111, 112] (by decide +kernel) (by decide +kernel)) (goodIn_sub (fun _ h => List.mem_cons_of_mem _ (List.mem_append_right _ h)) (by decide +kernel))
set_option maxRecDepth 20000 in
theorem gX3_wrapPermissions_X5_addNumber : GoodIn wsX3_wrapPermissions (wsV RX3 130 RX5 yX5_addNumber wsX5_addNumber) := goodIn_app (goodIn_of _ (by decide +kernel)) ggX3_wrapPermissions_X5_addNumber
set_option maxRecDepth 20000 in
theorem ggX3_wrapPermissions_X5_addSame : GoodIn wsX3_wrapPermissions wsX5_addSame := goodIn_ca (goodIn_r _ [33, 21, 22, 23, 9, 24, 11, 20, 111, 112] (by decide +kernel) (by decide +kernel)) (goodIn_sub (fun _ h => List.mem_cons_of_mem _ (List.mem_append_right _ h)) (by decide +kernel))
set_option maxRecDepth 20000 in
theorem gX3_wrapPermissions_X5_addSame : GoodIn wsX3_wrapPermissions (wsV RX3 115 RX5 yX5_addSame wsX5_addSame) := goodIn_app (goodIn_of _ (by decide +kernel)) ggX3_wrapPermissions_X5_addSame
set_option maxRecDepth 20000 in
theorem ggX3_wrapPermissions_X5_add : GoodIn wsX3_wrapPermissions wsX5_add := goodIn_ca (goodIn_r _ [24, 11, 20, 111, 112] (by decide +kernel) (by decide +kernel)) (goodIn_sub (fun _ h => List.mem_cons_of_mem _ (List.mem_append_right _ h)) (by decide +kernel))
set_option maxRecDepth 20000 in
theorem gX3_wrapPermissions_X5_add : GoodIn wsX3_wrapPermissions (wsV RX3 137 RX5 yX5_add wsX5_add) := goodIn_app (goodIn_of _ (by decide +kernel)) ggX3_wrapPermissions_X5_add
set_option maxRecDepth 20000 in
theorem ggX3_wrapPermissions_X0_shutChain : GoodIn wsX3_wrapPermissions wsX0_shutChain := goodIn_ca (goodIn_r _ [43, 44, 45, 46, 47, 42, 48, 49, 50, 51, 52, 53, 54, 9, 55, 11, 56, 17, 18, 19, 20, 57, 58, 59, 60, 61, 62, 63, 64, 65, 66, 67, 68, 69, 70, 71, 72, 73, 74, 75, 76, 77, 78, 79, 80, 81, 82, 83, 84, 85, 113, 114, 115, 116, 117, 111, 112] (by decide +kernel) (by decide +kernel)) (goodIn_sub (fun _ h => List.mem_cons_of_mem _ (List.mem_append_right _ h)) (by decide +kernel))
set_option maxRecDepth 20000 in
theorem gX3_wrapPermissions_X0_shutChain : GoodIn wsX3_wrapPermissions (wsV RX3 127 RX0 yX0_shutChain wsX0_shutChain) := goodIn_app (goodIn_of _ (by decide +kernel)) ggX3_wrapPermissions_X0_shutChain
theorem dX3_wrapPermissions_0 : decode cX3_wrapPermissions 0 = .ok (.aload_n 0, 1) := by decide +kernel
theorem dX3_wrapPermissions_1 : decode cX3_wrapPermissions 1 = .ok (.getfield 47, 3) := by decide +kernel
theorem dX3_wrapPermissions_4 : decode cX3_wrapPermissions 4 = .ok (.getfield 51, 3) := by decide +kernel
theorem dX3_wrapPermissions_7 : decode cX3_wrapPermissions 7 = .ok (.invokevirtual 18, 3) := by decide +kernel
theorem dX3_wrapPermissions_10 : decode cX3_wrapPermissions 10 = .ok (.aload_n 0, 1) := by decide +kernel
theorem dX3_wrapPermissions_11 : decode cX3_wrapPermissions 11 = .ok (.getfield 47, 3) := by decide +kernel
theorem dX3_wrapPermissions_14 : decode cX3_wrapPermissions 14 = .ok (.getfield 51, 3) := by decide +kernel
theorem dX3_wrapPermissions_17 : decode cX3_wrapPermissions 17 = .ok (.aload_n 0, 1) := by decide +kernel
theorem dX3_wrapPermissions_18 : decode cX3_wrapPermissions 18 = .ok (.getfield 14, 3) := by decide +kernel
theorem dX3_wrapPermissions_21 : decode cX3_wrapPermissions 21 = .ok (.iconst 0, 1) := by decide +kernel
theorem dX3_wrapPermissions_22 : decode cX3_wrapPermissions 22 = .ok (.bipush 32, 2) := by decide +kernel
theorem dX3_wrapPermissions_24 : decode cX3_wrapPermissions 24 = .ok (.invokevirtual 43, 3) := by decide +kernel
theorem dX3_wrapPermissions_27 : decode cX3_wrapPermissions 27 = .ok (.aload_n 0, 1) := by decide +kernel
theorem dX3_wrapPermissions_28 : decode cX3_wrapPermissions 28 = .ok (.invokevirtual 84, 3) := by decide +kernel
theorem dX3_wrapPermissions_31 : decode cX3_wrapPermissions 31 = .ok (.astore_n 2, 1) := by decide +kernel
theorem dX3_wrapPermissions_32 : decode cX3_wrapPermissions 32 = .ok (.aload_n 2, 1) := by decide +kernel
theorem dX3_wrapPermissions_33 : decode cX3_wrapPermissions 33 = .ok (.aload_n 0, 1) := by decide +kernel
theorem dX3_wrapPermissions_34 : decode cX3_wrapPermissions 34 = .ok (.getfield 22, 3) := by decide +kernel
theorem dX3_wrapPermissions_37 : decode cX3_wrapPermissions 37 = .ok (.getfield 80, 3) := by decide +kernel
theorem dX3_wrapPermissions_40 : decode cX3_wrapPermissions 40 = .ok (.iconst 4, 1) := by decide +kernel
theorem dX3_wrapPermissions_41 : decode cX3_wrapPermissions 41 = .ok (.invokevirtual 130, 3) := by decide +kernel
theorem dX3_wrapPermissions_44 : decode cX3_wrapPermissions 44 = .ok (.aload_n 2, 1) := by decide +kernel
theorem dX3_wrapPermissions_45 : decode cX3_wrapPermissions 45 = .ok (.sipush 255, 3) := by decide +kernel
theorem dX3_wrapPermissions_48 : decode cX3_wrapPermissions 48 = .ok (.iconst 4, 1) := by decide +kernel
theorem dX3_wrapPermissions_49 : decode cX3_wrapPermissions 49 = .ok (.invokevirtual 115, 3) := by decide +kernel
theorem dX3_wrapPermissions_52 : decode cX3_wrapPermissions 52 = .ok (.aload_n 2, 1) := by decide +kernel
theorem dX3_wrapPermissions_53 : decode cX3_wrapPermissions 53 = .ok (.aload_n 0, 1) := by decide +kernel
theorem dX3_wrapPermissions_54 : decode cX3_wrapPermissions 54 = .ok (.getfield 22, 3) := by decide +kernel
theorem dX3_wrapPermissions_57 : decode cX3_wrapPermissions 57 = .ok (.getfield 133, 3) := by decide +kernel
theorem dX3_wrapPermissions_60 : decode cX3_wrapPermissions 60 = .ok (.ifCond .eq 8, 3) := by decide +kernel
theorem dX3_wrapPermissions_63 : decode cX3_wrapPermissions 63 = .ok (.bipush 70, 2) := by decide +kernel
theorem dX3_wrapPermissions_65 : decode cX3_wrapPermissions 65 = .ok (.goto 5, 3) := by decide +kernel
theorem dX3_wrapPermissions_68 : decode cX3_wrapPermissions 68 = .ok (.bipush 84, 2) := by decide +kernel
theorem dX3_wrapPermissions_70 : decode cX3_wrapPermissions 70 = .ok (.invokevirtual 137, 3) := by decide +kernel
theorem dX3_wrapPermissions_73 : decode cX3_wrapPermissions 73 = .ok (.aload_n 2, 1) := by decide +kernel
theorem dX3_wrapPermissions_74 : decode cX3_wrapPermissions 74 = .ok (.bipush 97, 2) := by decide +kernel
theorem dX3_wrapPermissions_76 : decode cX3_wrapPermissions 76 = .ok (.invokevirtual 137, 3) := by decide +kernel
theorem dX3_wrapPermissions_79 : decode cX3_wrapPermissions 79 = .ok (.aload_n 2, 1) := by decide +kernel
theorem dX3_wrapPermissions_80 : decode cX3_wrapPermissions 80 = .ok (.bipush 100, 2) := by decide +kernel
theorem dX3_wrapPermissions_82 : decode cX3_wrapPermissions 82 = .ok (.invokevirtual 137, 3) := by decide +kernel
theorem dX3_wrapPermissions_85 : decode cX3_wrapPermissions 85 = .ok (.aload_n 2, 1) := by decide +kernel
theorem dX3_wrapPermissions_86 : decode cX3_wrapPermissions 86 = .ok (.bipush 98, 2) := by decide +kernel
theorem dX3_wrapPermissions_88 : decode cX3_wrapPermissions 88 = .ok (.invokevirtual 137, 3) := by decide +kernel
theorem dX3_wrapPermissions_91 : decode cX3_wrapPermissions 91 = .ok (.aload_n 2, 1) := by decide +kernel
theorem dX3_wrapPermissions_92 : decode cX3_wrapPermissions 92 = .ok (.aload_n 0, 1) := by decide +kernel
theorem dX3_wrapPermissions_93 : decode cX3_wrapPermissions 93 = .ok (.getfield 14, 3) := by decide +kernel
theorem dX3_wrapPermissions_96 : decode cX3_wrapPermissions 96 = .ok (.bipush 64, 2) := by decide +kernel
theorem dX3_wrapPermissions_98 : decode cX3_wrapPermissions 98 = .ok (.iconst 4, 1) := by decide +kernel
theorem dX3_wrapPermissions_99 : decode cX3_wrapPermissions 99 = .ok (.invokevirtual 43, 3) := by decide +kernel
theorem dX3_wrapPermissions_102 : decode cX3_wrapPermissions 102 = .ok (.aload_n 0, 1) := by decide +kernel
theorem dX3_wrapPermissions_103 : decode cX3_wrapPermissions 103 = .ok (.getfield 47, 3) := by decide +kernel
theorem dX3_wrapPermissions_106 : decode cX3_wrapPermissions 106 = .ok (.getfield 91, 3) := by decide +kernel
theorem dX3_wrapPermissions_109 : decode cX3_wrapPermissions 109 = .ok (.aload_n 0, 1) := by decide +kernel
theorem dX3_wrapPermissions_110 : decode cX3_wrapPermissions 110 = .ok (.getfield 47, 3) := by decide +kernel
theorem dX3_wrapPermissions_113 : decode cX3_wrapPermissions 113 = .ok (.getfield 51, 3) := by decide +kernel
theorem dX3_wrapPermissions_116 : decode cX3_wrapPermissions 116 = .ok (.aload_n 2, 1) := by decide +kernel
theorem dX3_wrapPermissions_117 : decode cX3_wrapPermissions 117 = .ok (.invokevirtual 127, 3) := by decide +kernel
theorem dX3_wrapPermissions_120 : decode cX3_wrapPermissions 120 = .ok (.aload_n 1, 1) := by decide +kernel
theorem dX3_wrapPermissions_121 : decode cX3_wrapPermissions 121 = .ok (.invokevirtual 18, 3) := by decide +kernel
theorem dX3_wrapPermissions_124 : decode cX3_wrapPermissions 124 = .ok (.aload_n 1, 1) := by decide +kernel
theorem dX3_wrapPermissions_125 : decode cX3_wrapPermissions 125 = .ok (.aload_n 2, 1) := by decide +kernel
theorem dX3_wrapPermissions_126 : decode cX3_wrapPermissions 126 = .ok (.bipush 16, 2) := by decide +kernel
theorem dX3_wrapPermissions_128 : decode cX3_wrapPermissions 128 = .ok (.bipush 16, 2) := by decide +kernel
theorem dX3_wrapPermissions_130 : decode cX3_wrapPermissions 130 = .ok (.invokevirtual 43, 3) := by decide +kernel
theorem dX3_wrapPermissions_133 : decode cX3_wrapPermissions 133 = .ok (.return_, 1) := by decide +kernel
set_option maxRecDepth 20000 in
theorem ggX4_init_X8_init : GoodIn wsX4_init wsX8_init := goodIn_r _ [13, 14, 2, 3, 15, 16, 17, 18, 19, 20, 21, 22, 23, 24, 25, 26, 27, 28, 29, 30, 31, 32, 33, 34, 35, 36, 37, 38, 39, 40, 41, 42, 43, 44, 45, 46, 47, 48, 49, 50, 51, 52, 53, 54, 55, 56, 57, 58, 59, 60, 61, 62, 63, 64, 65, 66, 107, 108, 82, 83, 84, 85, 86, 87, 109, 110, 111, 112, 113, 114, 115, 116, 117, 118] (by decide +kernel) (by decide +kernel)
set_option maxRecDepth 20000 in
theorem gX4_init_X8_init_n9 : GoodIn wsX4_init (wsX8_init) := ggX4_init_X8_init
set_option maxRecDepth 20000 in
theorem ggX4_init_X9_init : GoodIn wsX4_init wsX9_init := goodIn_r _ [69, 70, 2, 3, 71, 32, 33, 72, 73, 74, 75, 76, 77, 78, 79, 80, 81, 59, 60, 61, 62, 63, 64, 65, 39, 66, 117, 118, 95, 96, 97, 98, 99, 100, 101, 102, 103, 104, 105, 106] (by decide +kernel) (by decide +kernel)
set_option maxRecDepth 20000 in
theorem gX4_init_X9_init : GoodIn wsX4_init (wsX9_init) := ggX4_init_X9_init
theorem dX4_init_0 : decode cX4_init 0 = .ok (.aload_n 0, 1) := by decide +kernel
theorem dX4_init_1 : decode cX4_init 1 = .ok (.invokespecial 1, 3) := by decide +kernel
theorem dX4_init_4 : decode cX4_init 4 = .ok (.aload_n 0, 1) := by decide +kernel
theorem dX4_init_5 : decode cX4_init 5 = .ok (.new 7, 3) := by decide +kernel
theorem dX4_init_8 : decode cX4_init 8 = .ok (.dup, 1) := by decide +kernel
theorem dX4_init_9 : decode cX4_init 9 = .ok (.invokespecial 9, 3) := by decide +kernel
theorem dX4_init_12 : decode cX4_init 12 = .ok (.putfield 10, 3) := by decide +kernel
theorem dX4_init_15 : decode cX4_init 15 = .ok (.aload_n 0, 1) := by decide +kernel
theorem dX4_init_16 : decode cX4_init 16 = .ok (.new 16, 3) := by decide +kernel
theorem dX4_init_19 : decode cX4_init 19 = .ok (.dup, 1) := by decide +kernel
theorem dX4_init_20 : decode cX4_init 20 = .ok (.iload_n 1, 1) := by decide +kernel
theorem dX4_init_21 : decode cX4_init 21 = .ok (.invokespecial 18, 3) := by decide +kernel
theorem dX4_init_24 : decode cX4_init 24 = .ok (.putfield 21, 3) := by decide +kernel
theorem dX4_init_27 : decode cX4_init 27 = .ok (.return_, 1) := by decide +kernel
theorem dX5_init_0 : decode cX5_init 0 = .ok (.aload_n 0, 1) := by decide +kernel
theorem dX5_init_1 : decode cX5_init 1 = .ok (.invokespecial 1, 3) := by decide +kernel
theorem dX5_init_4 : decode cX5_init 4 = .ok (.aload_n 0, 1) := by decide +kernel
theorem dX5_init_5 : decode cX5_init 5 = .ok (.iload_n 1, 1) := by decide +kernel
theorem dX5_init_6 : decode cX5_init 6 = .ok (.iconst 0, 1) := by decide +kernel
theorem dX5_init_7 : decode cX5_init 7 = .ok (.invokestatic 7, 3) := by decide +kernel
theorem dX5_init_10 : decode cX5_init 10 = .ok (.newarray .int, 2) := by decide +kernel
theorem dX5_init_12 : decode cX5_init 12 = .ok (.putfield 13, 3) := by decide +kernel
theorem dX5_init_15 : decode cX5_init 15 = .ok (.return_, 1) := by decide +kernel
theorem dX5_count_0 : decode cX5_count 0 = .ok (.aload_n 0, 1) := by decide +kernel
theorem dX5_count_1 : decode cX5_count 1 = .ok (.getfield 19, 3) := by decide +kernel
theorem dX5_count_4 : decode cX5_count 4 = .ok (.ireturn, 1) := by decide +kernel
theorem dX5_hasRoom_0 : decode cX5_hasRoom 0 = .ok (.iload_n 1, 1) := by decide +kernel
theorem dX5_hasRoom_1 : decode cX5_hasRoom 1 = .ok (.aload_n 0, 1) := by decide +kernel
theorem dX5_hasRoom_2 : decode cX5_hasRoom 2 = .ok (.getfield 13, 3) := by decide +kernel
theorem dX5_hasRoom_5 : decode cX5_hasRoom 5 = .ok (.arraylength, 1) := by decide +kernel
theorem dX5_hasRoom_6 : decode cX5_hasRoom 6 = .ok (.aload_n 0, 1) := by decide +kernel
theorem dX5_hasRoom_7 : decode cX5_hasRoom 7 = .ok (.getfield 19, 3) := by decide +kernel
theorem dX5_hasRoom_10 : decode cX5_hasRoom 10 = .ok (.isub, 1) := by decide +kernel
theorem dX5_hasRoom_11 : decode cX5_hasRoom 11 = .ok (.if_icmp .gt 7, 3) := by decide +kernel
theorem dX5_hasRoom_14 : decode cX5_hasRoom 14 = .ok (.iconst 1, 1) := by decide +kernel
theorem dX5_hasRoom_15 : decode cX5_hasRoom 15 = .ok (.goto 4, 3) := by decide +kernel
theorem dX5_hasRoom_18 : decode cX5_hasRoom 18 = .ok (.iconst 0, 1) := by decide +kernel
theorem dX5_hasRoom_19 : decode cX5_hasRoom 19 = .ok (.ireturn, 1) := by decide +kernel
theorem dX5_at_0 : decode cX5_at 0 = .ok (.iload_n 1, 1) := by decide +kernel
theorem dX5_at_1 : decode cX5_at 1 = .ok (.ifCond .lt 29, 3) := by decide +kernel
theorem dX5_at_4 : decode cX5_at 4 = .ok (.iload_n 1, 1) := by decide +kernel
theorem dX5_at_5 : decode cX5_at 5 = .ok (.aload_n 0, 1) := by decide +kernel
theorem dX5_at_6 : decode cX5_at 6 = .ok (.getfield 19, 3) := by decide +kernel
theorem dX5_at_9 : decode cX5_at 9 = .ok (.if_icmp .ge 21, 3) := by decide +kernel
theorem dX5_at_12 : decode cX5_at 12 = .ok (.iload_n 1, 1) := by decide +kernel
theorem dX5_at_13 : decode cX5_at 13 = .ok (.aload_n 0, 1) := by decide +kernel
theorem dX5_at_14 : decode cX5_at 14 = .ok (.getfield 13, 3) := by decide +kernel
theorem dX5_at_17 : decode cX5_at 17 = .ok (.arraylength, 1) := by decide +kernel
theorem dX5_at_18 : decode cX5_at 18 = .ok (.if_icmp .ge 12, 3) := by decide +kernel
theorem dX5_at_21 : decode cX5_at 21 = .ok (.aload_n 0, 1) := by decide +kernel
theorem dX5_at_22 : decode cX5_at 22 = .ok (.getfield 13, 3) := by decide +kernel
theorem dX5_at_25 : decode cX5_at 25 = .ok (.iload_n 1, 1) := by decide +kernel
theorem dX5_at_26 : decode cX5_at 26 = .ok (.iaload, 1) := by decide +kernel
theorem dX5_at_27 : decode cX5_at 27 = .ok (.goto 4, 3) := by decide +kernel
theorem dX5_at_30 : decode cX5_at 30 = .ok (.iconst 0, 1) := by decide +kernel
theorem dX5_at_31 : decode cX5_at 31 = .ok (.ireturn, 1) := by decide +kernel
theorem dX5_closedAt_0 : decode cX5_closedAt 0 = .ok (.iload_n 1, 1) := by decide +kernel
theorem dX5_closedAt_1 : decode cX5_closedAt 1 = .ok (.aload_n 0, 1) := by decide +kernel
theorem dX5_closedAt_2 : decode cX5_closedAt 2 = .ok (.getfield 19, 3) := by decide +kernel
theorem dX5_closedAt_5 : decode cX5_closedAt 5 = .ok (.if_icmp .ne 7, 3) := by decide +kernel
theorem dX5_closedAt_8 : decode cX5_closedAt 8 = .ok (.sipush 128, 3) := by decide +kernel
theorem dX5_closedAt_11 : decode cX5_closedAt 11 = .ok (.ireturn, 1) := by decide +kernel
theorem dX5_closedAt_12 : decode cX5_closedAt 12 = .ok (.iload_n 1, 1) := by decide +kernel
theorem dX5_closedAt_13 : decode cX5_closedAt 13 = .ok (.ifCond .lt 29, 3) := by decide +kernel
theorem dX5_closedAt_16 : decode cX5_closedAt 16 = .ok (.iload_n 1, 1) := by decide +kernel
theorem dX5_closedAt_17 : decode cX5_closedAt 17 = .ok (.aload_n 0, 1) := by decide +kernel
theorem dX5_closedAt_18 : decode cX5_closedAt 18 = .ok (.getfield 19, 3) := by decide +kernel
theorem dX5_closedAt_21 : decode cX5_closedAt 21 = .ok (.if_icmp .ge 21, 3) := by decide +kernel
theorem dX5_closedAt_24 : decode cX5_closedAt 24 = .ok (.iload_n 1, 1) := by decide +kernel
theorem dX5_closedAt_25 : decode cX5_closedAt 25 = .ok (.aload_n 0, 1) := by decide +kernel
theorem dX5_closedAt_26 : decode cX5_closedAt 26 = .ok (.getfield 13, 3) := by decide +kernel
theorem dX5_closedAt_29 : decode cX5_closedAt 29 = .ok (.arraylength, 1) := by decide +kernel
theorem dX5_closedAt_30 : decode cX5_closedAt 30 = .ok (.if_icmp .ge 12, 3) := by decide +kernel
theorem dX5_closedAt_33 : decode cX5_closedAt 33 = .ok (.aload_n 0, 1) := by decide +kernel
theorem dX5_closedAt_34 : decode cX5_closedAt 34 = .ok (.getfield 13, 3) := by decide +kernel
theorem dX5_closedAt_37 : decode cX5_closedAt 37 = .ok (.iload_n 1, 1) := by decide +kernel
theorem dX5_closedAt_38 : decode cX5_closedAt 38 = .ok (.iaload, 1) := by decide +kernel
theorem dX5_closedAt_39 : decode cX5_closedAt 39 = .ok (.goto 4, 3) := by decide +kernel
theorem dX5_closedAt_42 : decode cX5_closedAt 42 = .ok (.iconst 0, 1) := by decide +kernel
theorem dX5_closedAt_43 : decode cX5_closedAt 43 = .ok (.ireturn, 1) := by decide +kernel
theorem dX5_put_0 : decode cX5_put 0 = .ok (.iload_n 1, 1) := by decide +kernel
theorem dX5_put_1 : decode cX5_put 1 = .ok (.ifCond .lt 31, 3) := by decide +kernel
theorem dX5_put_4 : decode cX5_put 4 = .ok (.iload_n 1, 1) := by decide +kernel
theorem dX5_put_5 : decode cX5_put 5 = .ok (.aload_n 0, 1) := by decide +kernel
theorem dX5_put_6 : decode cX5_put 6 = .ok (.getfield 19, 3) := by decide +kernel
theorem dX5_put_9 : decode cX5_put 9 = .ok (.if_icmp .ge 23, 3) := by decide +kernel
theorem dX5_put_12 : decode cX5_put 12 = .ok (.iload_n 1, 1) := by decide +kernel
theorem dX5_put_13 : decode cX5_put 13 = .ok (.aload_n 0, 1) := by decide +kernel
theorem dX5_put_14 : decode cX5_put 14 = .ok (.getfield 13, 3) := by decide +kernel
theorem dX5_put_17 : decode cX5_put 17 = .ok (.arraylength, 1) := by decide +kernel
theorem dX5_put_18 : decode cX5_put 18 = .ok (.if_icmp .ge 14, 3) := by decide +kernel
theorem dX5_put_21 : decode cX5_put 21 = .ok (.aload_n 0, 1) := by decide +kernel
theorem dX5_put_22 : decode cX5_put 22 = .ok (.getfield 13, 3) := by decide +kernel
theorem dX5_put_25 : decode cX5_put 25 = .ok (.iload_n 1, 1) := by decide +kernel
theorem dX5_put_26 : decode cX5_put 26 = .ok (.iload_n 2, 1) := by decide +kernel
theorem dX5_put_27 : decode cX5_put 27 = .ok (.sipush 255, 3) := by decide +kernel
theorem dX5_put_30 : decode cX5_put 30 = .ok (.iand, 1) := by decide +kernel
theorem dX5_put_31 : decode cX5_put 31 = .ok (.iastore, 1) := by decide +kernel
theorem dX5_put_32 : decode cX5_put 32 = .ok (.return_, 1) := by decide +kernel
theorem dX5_add_0 : decode cX5_add 0 = .ok (.aload_n 0, 1) := by decide +kernel
theorem dX5_add_1 : decode cX5_add 1 = .ok (.getfield 19, 3) := by decide +kernel
theorem dX5_add_4 : decode cX5_add 4 = .ok (.ifCond .lt 39, 3) := by decide +kernel
theorem dX5_add_7 : decode cX5_add 7 = .ok (.aload_n 0, 1) := by decide +kernel
theorem dX5_add_8 : decode cX5_add 8 = .ok (.getfield 19, 3) := by decide +kernel
theorem dX5_add_11 : decode cX5_add 11 = .ok (.aload_n 0, 1) := by decide +kernel
theorem dX5_add_12 : decode cX5_add 12 = .ok (.getfield 13, 3) := by decide +kernel
theorem dX5_add_15 : decode cX5_add 15 = .ok (.arraylength, 1) := by decide +kernel
theorem dX5_add_16 : decode cX5_add 16 = .ok (.if_icmp .ge 27, 3) := by decide +kernel
theorem dX5_add_19 : decode cX5_add 19 = .ok (.aload_n 0, 1) := by decide +kernel
theorem dX5_add_20 : decode cX5_add 20 = .ok (.getfield 13, 3) := by decide +kernel
theorem dX5_add_23 : decode cX5_add 23 = .ok (.aload_n 0, 1) := by decide +kernel
theorem dX5_add_24 : decode cX5_add 24 = .ok (.getfield 19, 3) := by decide +kernel
theorem dX5_add_27 : decode cX5_add 27 = .ok (.iload_n 1, 1) := by decide +kernel
theorem dX5_add_28 : decode cX5_add 28 = .ok (.sipush 255, 3) := by decide +kernel
theorem dX5_add_31 : decode cX5_add 31 = .ok (.iand, 1) := by decide +kernel
theorem dX5_add_32 : decode cX5_add 32 = .ok (.iastore, 1) := by decide +kernel
theorem dX5_add_33 : decode cX5_add 33 = .ok (.aload_n 0, 1) := by decide +kernel
theorem dX5_add_34 : decode cX5_add 34 = .ok (.dup, 1) := by decide +kernel
theorem dX5_add_35 : decode cX5_add 35 = .ok (.getfield 19, 3) := by decide +kernel
theorem dX5_add_38 : decode cX5_add 38 = .ok (.iconst 1, 1) := by decide +kernel
theorem dX5_add_39 : decode cX5_add 39 = .ok (.iadd, 1) := by decide +kernel
theorem dX5_add_40 : decode cX5_add 40 = .ok (.putfield 19, 3) := by decide +kernel
theorem dX5_add_43 : decode cX5_add 43 = .ok (.return_, 1) := by decide +kernel
set_option maxRecDepth 20000 in
theorem ggX5_addSame_X5_add : GoodIn wsX5_addSame wsX5_add := goodIn_ca (goodIn_r _ [5, 6, 7, 8, 9] (by decide +kernel) (by decide +kernel)) (goodIn_sub (fun _ h => List.mem_cons_of_mem _ (List.mem_append_right _ h)) (by decide +kernel))
set_option maxRecDepth 20000 in
theorem gX5_addSame_X5_add : GoodIn wsX5_addSame (wsV RX5 23 RX5 yX5_add wsX5_add) := goodIn_app (goodIn_of _ (by decide +kernel)) ggX5_addSame_X5_add
theorem dX5_addSame_0 : decode cX5_addSame 0 = .ok (.iconst 0, 1) := by decide +kernel
theorem dX5_addSame_1 : decode cX5_addSame 1 = .ok (.istore_n 3, 1) := by decide +kernel
theorem dX5_addSame_2 : decode cX5_addSame 2 = .ok (.iload_n 3, 1) := by decide +kernel
theorem dX5_addSame_3 : decode cX5_addSame 3 = .ok (.iload_n 2, 1) := by decide +kernel
theorem dX5_addSame_4 : decode cX5_addSame 4 = .ok (.if_icmp .ge 14, 3) := by decide +kernel
theorem dX5_addSame_7 : decode cX5_addSame 7 = .ok (.aload_n 0, 1) := by decide +kernel
theorem dX5_addSame_8 : decode cX5_addSame 8 = .ok (.iload_n 1, 1) := by decide +kernel
theorem dX5_addSame_9 : decode cX5_addSame 9 = .ok (.invokevirtual 23, 3) := by decide +kernel
theorem dX5_addSame_12 : decode cX5_addSame 12 = .ok (.iinc 3 1, 3) := by decide +kernel
theorem dX5_addSame_15 : decode cX5_addSame 15 = .ok (.goto (-13), 3) := by decide +kernel
theorem dX5_addSame_18 : decode cX5_addSame 18 = .ok (.return_, 1) := by decide +kernel
set_option maxRecDepth 20000 in
theorem ggX5_addNumber_X5_add : GoodIn wsX5_addNumber wsX5_add := goodIn_ca (goodIn_r _ [5, 6, 7, 8, 9] (by decide +kernel) (by decide +kernel)) (goodIn_sub (fun _ h => List.mem_cons_of_mem _ (List.mem_append_right _ h)) (by decide +kernel))
set_option maxRecDepth 20000 in
theorem gX5_addNumber_X5_add : GoodIn wsX5_addNumber (wsV RX5 23 RX5 yX5_add wsX5_add) := goodIn_app (goodIn_of _ (by decide +kernel)) ggX5_addNumber_X5_add
theorem dX5_addNumber_0 : decode cX5_addNumber 0 = .ok (.iconst 0, 1) := by decide +kernel
theorem dX5_addNumber_1 : decode cX5_addNumber 1 = .ok (.istore_n 3, 1) := by decide +kernel
theorem dX5_addNumber_2 : decode cX5_addNumber 2 = .ok (.iload_n 3, 1) := by decide +kernel
theorem dX5_addNumber_3 : decode cX5_addNumber 3 = .ok (.iload_n 2, 1) := by decide +kernel
theorem dX5_addNumber_4 : decode cX5_addNumber 4 = .ok (.if_icmp .ge 19, 3) := by decide +kernel
theorem dX5_addNumber_7 : decode cX5_addNumber 7 = .ok (.aload_n 0, 1) := by decide +kernel
theorem dX5_addNumber_8 : decode cX5_addNumber 8 = .ok (.iload_n 1, 1) := by decide +kernel
theorem dX5_addNumber_9 : decode cX5_addNumber 9 = .ok (.bipush 8, 2) := by decide +kernel
theorem dX5_addNumber_11 : decode cX5_addNumber 11 = .ok (.iload_n 3, 1) := by decide +kernel
theorem dX5_addNumber_12 : decode cX5_addNumber 12 = .ok (.imul, 1) := by decide +kernel
theorem dX5_addNumber_13 : decode cX5_addNumber 13 = .ok (.iushr, 1) := by decide +kernel
theorem dX5_addNumber_14 : decode cX5_addNumber 14 = .ok (.invokevirtual 23, 3) := by decide +kernel
theorem dX5_addNumber_17 : decode cX5_addNumber 17 = .ok (.iinc 3 1, 3) := by decide +kernel
theorem dX5_addNumber_20 : decode cX5_addNumber 20 = .ok (.goto (-18), 3) := by decide +kernel
theorem dX5_addNumber_23 : decode cX5_addNumber 23 = .ok (.return_, 1) := by decide +kernel
set_option maxRecDepth 20000 in
theorem ggX5_addPart_X5_at : GoodIn wsX5_addPart wsX5_at := goodIn_ca (goodIn_r _ [5, 6, 7, 12, 13] (by decide +kernel) (by decide +kernel)) (goodIn_sub (fun _ h => List.mem_cons_of_mem _ (List.mem_append_right _ h)) (by decide +kernel))
set_option maxRecDepth 20000 in
theorem gX5_addPart_X5_at : GoodIn wsX5_addPart (wsV RX5 27 RX5 yX5_at wsX5_at) := goodIn_app (goodIn_of _ (by decide +kernel)) ggX5_addPart_X5_at
set_option maxRecDepth 20000 in
theorem ggX5_addPart_X5_add : GoodIn wsX5_addPart wsX5_add := goodIn_ca (goodIn_r _ [11, 6, 7, 12, 13] (by decide +kernel) (by decide +kernel)) (goodIn_sub (fun _ h => List.mem_cons_of_mem _ (List.mem_append_right _ h)) (by decide +kernel))
set_option maxRecDepth 20000 in
theorem gX5_addPart_X5_add : GoodIn wsX5_addPart (wsV RX5 23 RX5 yX5_add wsX5_add) := goodIn_app (goodIn_of _ (by decide +kernel)) ggX5_addPart_X5_add
theorem dX5_addPart_0 : decode cX5_addPart 0 = .ok (.iconst 0, 1) := by decide +kernel
theorem dX5_addPart_1 : decode cX5_addPart 1 = .ok (.istore 4, 2) := by decide +kernel
theorem dX5_addPart_3 : decode cX5_addPart 3 = .ok (.iload 4, 2) := by decide +kernel
theorem dX5_addPart_5 : decode cX5_addPart 5 = .ok (.iload_n 3, 1) := by decide +kernel
theorem dX5_addPart_6 : decode cX5_addPart 6 = .ok (.if_icmp .ge 21, 3) := by decide +kernel
theorem dX5_addPart_9 : decode cX5_addPart 9 = .ok (.aload_n 0, 1) := by decide +kernel
theorem dX5_addPart_10 : decode cX5_addPart 10 = .ok (.aload_n 1, 1) := by decide +kernel
theorem dX5_addPart_11 : decode cX5_addPart 11 = .ok (.iload_n 2, 1) := by decide +kernel
theorem dX5_addPart_12 : decode cX5_addPart 12 = .ok (.iload 4, 2) := by decide +kernel
theorem dX5_addPart_14 : decode cX5_addPart 14 = .ok (.iadd, 1) := by decide +kernel
theorem dX5_addPart_15 : decode cX5_addPart 15 = .ok (.invokevirtual 27, 3) := by decide +kernel
theorem dX5_addPart_18 : decode cX5_addPart 18 = .ok (.invokevirtual 23, 3) := by decide +kernel
theorem dX5_addPart_21 : decode cX5_addPart 21 = .ok (.iinc 4 1, 3) := by decide +kernel
theorem dX5_addPart_24 : decode cX5_addPart 24 = .ok (.goto (-21), 3) := by decide +kernel
theorem dX5_addPart_27 : decode cX5_addPart 27 = .ok (.return_, 1) := by decide +kernel
set_option maxRecDepth 20000 in
theorem ggX5_addAll_X5_count : GoodIn wsX5_addAll wsX5_count := goodIn_r _ [5, 6, 20, 21] (by decide +kernel) (by decide +kernel)
set_option maxRecDepth 20000 in
theorem gX5_addAll_X5_count : GoodIn wsX5_addAll (wsV RX5 31 RX5 yX5_count wsX5_count) := goodIn_app (goodIn_of _ (by decide +kernel)) ggX5_addAll_X5_count
set_option maxRecDepth 20000 in
theorem ggX5_addAll_X5_addPart : GoodIn wsX5_addAll wsX5_addPart := goodIn_ca (goodIn_r _ [10, 11, 12, 13, 4, 14, 6, 15, 16, 17, 18, 19, 20, 21] (by decide +kernel) (by decide +kernel)) (goodIn_sub (fun _ h => List.mem_cons_of_mem _ (List.mem_append_right _ h)) (by decide +kernel))
set_option maxRecDepth 20000 in
theorem gX5_addAll_X5_addPart : GoodIn wsX5_addAll (wsV RX5 34 RX5 yX5_addPart wsX5_addPart) := goodIn_app (goodIn_of _ (by decide +kernel)) ggX5_addAll_X5_addPart
theorem dX5_addAll_0 : decode cX5_addAll 0 = .ok (.aload_n 0, 1) := by decide +kernel
theorem dX5_addAll_1 : decode cX5_addAll 1 = .ok (.aload_n 1, 1) := by decide +kernel
theorem dX5_addAll_2 : decode cX5_addAll 2 = .ok (.iconst 0, 1) := by decide +kernel
theorem dX5_addAll_3 : decode cX5_addAll 3 = .ok (.aload_n 1, 1) := by decide +kernel
theorem dX5_addAll_4 : decode cX5_addAll 4 = .ok (.invokevirtual 31, 3) := by decide +kernel
theorem dX5_addAll_7 : decode cX5_addAll 7 = .ok (.invokevirtual 34, 3) := by decide +kernel
theorem dX5_addAll_10 : decode cX5_addAll 10 = .ok (.return_, 1) := by decide +kernel
set_option maxRecDepth 20000 in
theorem ggX5_addFill_X5_add : GoodIn wsX5_addFill wsX5_add := goodIn_ca (goodIn_r _ [5, 6, 7, 8, 9] (by decide +kernel) (by decide +kernel)) (goodIn_sub (fun _ h => List.mem_cons_of_mem _ (List.mem_append_right _ h)) (by decide +kernel))
set_option maxRecDepth 20000 in
theorem gX5_addFill_X5_add : GoodIn wsX5_addFill (wsV RX5 23 RX5 yX5_add wsX5_add) := goodIn_app (goodIn_of _ (by decide +kernel)) ggX5_addFill_X5_add
theorem dX5_addFill_0 : decode cX5_addFill 0 = .ok (.iconst 0, 1) := by decide +kernel
theorem dX5_addFill_1 : decode cX5_addFill 1 = .ok (.istore_n 2, 1) := by decide +kernel
theorem dX5_addFill_2 : decode cX5_addFill 2 = .ok (.iload_n 2, 1) := by decide +kernel
theorem dX5_addFill_3 : decode cX5_addFill 3 = .ok (.iload_n 1, 1) := by decide +kernel
theorem dX5_addFill_4 : decode cX5_addFill 4 = .ok (.if_icmp .ge 26, 3) := by decide +kernel
theorem dX5_addFill_7 : decode cX5_addFill 7 = .ok (.iload_n 2, 1) := by decide +kernel
theorem dX5_addFill_8 : decode cX5_addFill 8 = .ok (.getstatic 38, 3) := by decide +kernel
theorem dX5_addFill_11 : decode cX5_addFill 11 = .ok (.arraylength, 1) := by decide +kernel
theorem dX5_addFill_12 : decode cX5_addFill 12 = .ok (.if_icmp .ge 18, 3) := by decide +kernel
theorem dX5_addFill_15 : decode cX5_addFill 15 = .ok (.aload_n 0, 1) := by decide +kernel
theorem dX5_addFill_16 : decode cX5_addFill 16 = .ok (.getstatic 38, 3) := by decide +kernel
theorem dX5_addFill_19 : decode cX5_addFill 19 = .ok (.iload_n 2, 1) := by decide +kernel
theorem dX5_addFill_20 : decode cX5_addFill 20 = .ok (.iaload, 1) := by decide +kernel
theorem dX5_addFill_21 : decode cX5_addFill 21 = .ok (.invokevirtual 23, 3) := by decide +kernel
theorem dX5_addFill_24 : decode cX5_addFill 24 = .ok (.iinc 2 1, 3) := by decide +kernel
theorem dX5_addFill_27 : decode cX5_addFill 27 = .ok (.goto (-25), 3) := by decide +kernel
theorem dX5_addFill_30 : decode cX5_addFill 30 = .ok (.return_, 1) := by decide +kernel
set_option maxRecDepth 20000 in
theorem ggX5_copy_X5_clear : GoodIn wsX5_copy wsX5_clear := goodIn_r _ [5, 6, 24, 25] (by decide +kernel) (by decide +kernel)
set_option maxRecDepth 20000 in
theorem gX5_copy_X5_clear : GoodIn wsX5_copy (wsV RX5 43 RX5 yX5_clear wsX5_clear) := goodIn_app (goodIn_of _ (by decide +kernel)) ggX5_copy_X5_clear
set_option maxRecDepth 20000 in
theorem ggX5_copy_X5_count : GoodIn wsX5_copy wsX5_count := goodIn_r _ [10, 6, 24, 25] (by decide +kernel) (by decide +kernel)
set_option maxRecDepth 20000 in
theorem gX5_copy_X5_count : GoodIn wsX5_copy (wsV RX5 31 RX5 yX5_count wsX5_count) := goodIn_app (goodIn_of _ (by decide +kernel)) ggX5_copy_X5_count
set_option maxRecDepth 20000 in
theorem ggX5_copy_X5_addPart : GoodIn wsX5_copy wsX5_addPart := goodIn_ca (goodIn_r _ [14, 15, 16, 17, 4, 18, 6, 19, 20, 21, 22, 23, 24, 25] (by decide +kernel) (by decide +kernel)) (goodIn_sub (fun _ h => List.mem_cons_of_mem _ (List.mem_append_right _ h)) (by decide +kernel))
set_option maxRecDepth 20000 in
theorem gX5_copy_X5_addPart : GoodIn wsX5_copy (wsV RX5 34 RX5 yX5_addPart wsX5_addPart) := goodIn_app (goodIn_of _ (by decide +kernel)) ggX5_copy_X5_addPart
theorem dX5_copy_0 : decode cX5_copy 0 = .ok (.aload_n 0, 1) := by decide +kernel
theorem dX5_copy_1 : decode cX5_copy 1 = .ok (.invokevirtual 43, 3) := by decide +kernel
theorem dX5_copy_4 : decode cX5_copy 4 = .ok (.aload_n 0, 1) := by decide +kernel
theorem dX5_copy_5 : decode cX5_copy 5 = .ok (.aload_n 1, 1) := by decide +kernel
theorem dX5_copy_6 : decode cX5_copy 6 = .ok (.iconst 0, 1) := by decide +kernel
theorem dX5_copy_7 : decode cX5_copy 7 = .ok (.aload_n 1, 1) := by decide +kernel
theorem dX5_copy_8 : decode cX5_copy 8 = .ok (.invokevirtual 31, 3) := by decide +kernel
theorem dX5_copy_11 : decode cX5_copy 11 = .ok (.invokevirtual 34, 3) := by decide +kernel
theorem dX5_copy_14 : decode cX5_copy 14 = .ok (.return_, 1) := by decide +kernel
theorem dX5_clear_0 : decode cX5_clear 0 = .ok (.aload_n 0, 1) := by decide +kernel
theorem dX5_clear_1 : decode cX5_clear 1 = .ok (.iconst 0, 1) := by decide +kernel
theorem dX5_clear_2 : decode cX5_clear 2 = .ok (.putfield 19, 3) := by decide +kernel
theorem dX5_clear_5 : decode cX5_clear 5 = .ok (.return_, 1) := by decide +kernel
theorem dX5_cut_0 : decode cX5_cut 0 = .ok (.aload_n 0, 1) := by decide +kernel
theorem dX5_cut_1 : decode cX5_cut 1 = .ok (.iconst 0, 1) := by decide +kernel
theorem dX5_cut_2 : decode cX5_cut 2 = .ok (.aload_n 0, 1) := by decide +kernel
theorem dX5_cut_3 : decode cX5_cut 3 = .ok (.getfield 19, 3) := by decide +kernel
theorem dX5_cut_6 : decode cX5_cut 6 = .ok (.iload_n 1, 1) := by decide +kernel
theorem dX5_cut_7 : decode cX5_cut 7 = .ok (.invokestatic 46, 3) := by decide +kernel
theorem dX5_cut_10 : decode cX5_cut 10 = .ok (.invokestatic 7, 3) := by decide +kernel
theorem dX5_cut_13 : decode cX5_cut 13 = .ok (.putfield 19, 3) := by decide +kernel
theorem dX5_cut_16 : decode cX5_cut 16 = .ok (.return_, 1) := by decide +kernel
set_option maxRecDepth 20000 in
theorem ggX5_drop_X5_at : GoodIn wsX5_drop wsX5_at := goodIn_ca (goodIn_r _ [10, 1, 11, 23, 24] (by decide +kernel) (by decide +kernel)) (goodIn_sub (fun _ h => List.mem_cons_of_mem _ (List.mem_append_right _ h)) (by decide +kernel))
set_option maxRecDepth 20000 in
theorem gX5_drop_X5_at : GoodIn wsX5_drop (wsV RX5 27 RX5 yX5_at wsX5_at) := goodIn_app (goodIn_of _ (by decide +kernel)) ggX5_drop_X5_at
set_option maxRecDepth 20000 in
theorem ggX5_drop_X5_put : GoodIn wsX5_drop wsX5_put := goodIn_ca (goodIn_r _ [15, 1, 11, 23, 24] (by decide +kernel) (by decide +kernel)) (goodIn_sub (fun _ h => List.mem_cons_of_mem _ (List.mem_append_right _ h)) (by decide +kernel))
set_option maxRecDepth 20000 in
theorem gX5_drop_X5_put : GoodIn wsX5_drop (wsV RX5 49 RX5 yX5_put wsX5_put) := goodIn_app (goodIn_of _ (by decide +kernel)) ggX5_drop_X5_put
set_option maxRecDepth 20000 in
theorem ggX5_drop_X5_cut : GoodIn wsX5_drop wsX5_cut := goodIn_r _ [19, 1, 20, 21, 4, 22, 2, 3, 5, 23, 24] (by decide +kernel) (by decide +kernel)
set_option maxRecDepth 20000 in
theorem gX5_drop_X5_cut : GoodIn wsX5_drop (wsV RX5 53 RX5 yX5_cut wsX5_cut) := goodIn_app (goodIn_of _ (by decide +kernel)) ggX5_drop_X5_cut
theorem dX5_drop_0 : decode cX5_drop 0 = .ok (.iconst 0, 1) := by decide +kernel
theorem dX5_drop_1 : decode cX5_drop 1 = .ok (.aload_n 0, 1) := by decide +kernel
theorem dX5_drop_2 : decode cX5_drop 2 = .ok (.getfield 19, 3) := by decide +kernel
theorem dX5_drop_5 : decode cX5_drop 5 = .ok (.iload_n 1, 1) := by decide +kernel
theorem dX5_drop_6 : decode cX5_drop 6 = .ok (.isub, 1) := by decide +kernel
theorem dX5_drop_7 : decode cX5_drop 7 = .ok (.invokestatic 7, 3) := by decide +kernel
theorem dX5_drop_10 : decode cX5_drop 10 = .ok (.istore_n 2, 1) := by decide +kernel
theorem dX5_drop_11 : decode cX5_drop 11 = .ok (.iconst 0, 1) := by decide +kernel
theorem dX5_drop_12 : decode cX5_drop 12 = .ok (.istore_n 3, 1) := by decide +kernel
theorem dX5_drop_13 : decode cX5_drop 13 = .ok (.iload_n 3, 1) := by decide +kernel
theorem dX5_drop_14 : decode cX5_drop 14 = .ok (.iload_n 2, 1) := by decide +kernel
theorem dX5_drop_15 : decode cX5_drop 15 = .ok (.if_icmp .ge 21, 3) := by decide +kernel
theorem dX5_drop_18 : decode cX5_drop 18 = .ok (.aload_n 0, 1) := by decide +kernel
theorem dX5_drop_19 : decode cX5_drop 19 = .ok (.iload_n 3, 1) := by decide +kernel
theorem dX5_drop_20 : decode cX5_drop 20 = .ok (.aload_n 0, 1) := by decide +kernel
theorem dX5_drop_21 : decode cX5_drop 21 = .ok (.iload_n 3, 1) := by decide +kernel
theorem dX5_drop_22 : decode cX5_drop 22 = .ok (.iload_n 1, 1) := by decide +kernel
theorem dX5_drop_23 : decode cX5_drop 23 = .ok (.iadd, 1) := by decide +kernel
theorem dX5_drop_24 : decode cX5_drop 24 = .ok (.invokevirtual 27, 3) := by decide +kernel
theorem dX5_drop_27 : decode cX5_drop 27 = .ok (.invokevirtual 49, 3) := by decide +kernel
theorem dX5_drop_30 : decode cX5_drop 30 = .ok (.iinc 3 1, 3) := by decide +kernel
theorem dX5_drop_33 : decode cX5_drop 33 = .ok (.goto (-20), 3) := by decide +kernel
theorem dX5_drop_36 : decode cX5_drop 36 = .ok (.aload_n 0, 1) := by decide +kernel
theorem dX5_drop_37 : decode cX5_drop 37 = .ok (.iload_n 2, 1) := by decide +kernel
theorem dX5_drop_38 : decode cX5_drop 38 = .ok (.invokevirtual 53, 3) := by decide +kernel
theorem dX5_drop_41 : decode cX5_drop 41 = .ok (.return_, 1) := by decide +kernel
set_option maxRecDepth 20000 in
theorem ggX5_startsLike_X5_at : GoodIn wsX5_startsLike wsX5_at := goodIn_ca (goodIn_r _ [5, 6, 7, 8, 9] (by decide +kernel) (by decide +kernel)) (goodIn_sub (fun _ h => List.mem_cons_of_mem _ (List.mem_append_right _ h)) (by decide +kernel))
set_option maxRecDepth 20000 in
theorem gX5_startsLike_X5_at : GoodIn wsX5_startsLike (wsV RX5 27 RX5 yX5_at wsX5_at) := goodIn_app (goodIn_of _ (by decide +kernel)) ggX5_startsLike_X5_at
theorem dX5_startsLike_0 : decode cX5_startsLike 0 = .ok (.iconst 0, 1) := by decide +kernel
theorem dX5_startsLike_1 : decode cX5_startsLike 1 = .ok (.istore_n 3, 1) := by decide +kernel
theorem dX5_startsLike_2 : decode cX5_startsLike 2 = .ok (.iload_n 3, 1) := by decide +kernel
theorem dX5_startsLike_3 : decode cX5_startsLike 3 = .ok (.iload_n 2, 1) := by decide +kernel
theorem dX5_startsLike_4 : decode cX5_startsLike 4 = .ok (.if_icmp .ge 24, 3) := by decide +kernel
theorem dX5_startsLike_7 : decode cX5_startsLike 7 = .ok (.aload_n 0, 1) := by decide +kernel
theorem dX5_startsLike_8 : decode cX5_startsLike 8 = .ok (.iload_n 3, 1) := by decide +kernel
theorem dX5_startsLike_9 : decode cX5_startsLike 9 = .ok (.invokevirtual 27, 3) := by decide +kernel
theorem dX5_startsLike_12 : decode cX5_startsLike 12 = .ok (.aload_n 1, 1) := by decide +kernel
theorem dX5_startsLike_13 : decode cX5_startsLike 13 = .ok (.iload_n 3, 1) := by decide +kernel
theorem dX5_startsLike_14 : decode cX5_startsLike 14 = .ok (.invokevirtual 27, 3) := by decide +kernel
theorem dX5_startsLike_17 : decode cX5_startsLike 17 = .ok (.if_icmp .eq 5, 3) := by decide +kernel
theorem dX5_startsLike_20 : decode cX5_startsLike 20 = .ok (.iconst 0, 1) := by decide +kernel
theorem dX5_startsLike_21 : decode cX5_startsLike 21 = .ok (.ireturn, 1) := by decide +kernel
theorem dX5_startsLike_22 : decode cX5_startsLike 22 = .ok (.iinc 3 1, 3) := by decide +kernel
theorem dX5_startsLike_25 : decode cX5_startsLike 25 = .ok (.goto (-23), 3) := by decide +kernel
theorem dX5_startsLike_28 : decode cX5_startsLike 28 = .ok (.iconst 1, 1) := by decide +kernel
theorem dX5_startsLike_29 : decode cX5_startsLike 29 = .ok (.ireturn, 1) := by decide +kernel
theorem dX6_init_0 : decode cX6_init 0 = .ok (.aload_n 0, 1) := by decide +kernel
theorem dX6_init_1 : decode cX6_init 1 = .ok (.invokespecial 1, 3) := by decide +kernel
theorem dX6_init_4 : decode cX6_init 4 = .ok (.aload_n 0, 1) := by decide +kernel
theorem dX6_init_5 : decode cX6_init 5 = .ok (.bipush 16, 2) := by decide +kernel
theorem dX6_init_7 : decode cX6_init 7 = .ok (.newarray .int, 2) := by decide +kernel
theorem dX6_init_9 : decode cX6_init 9 = .ok (.putfield 7, 3) := by decide +kernel
theorem dX6_init_12 : decode cX6_init 12 = .ok (.aload_n 0, 1) := by decide +kernel
theorem dX6_init_13 : decode cX6_init 13 = .ok (.iconst 4, 1) := by decide +kernel
theorem dX6_init_14 : decode cX6_init 14 = .ok (.newarray .int, 2) := by decide +kernel
theorem dX6_init_16 : decode cX6_init 16 = .ok (.putfield 13, 3) := by decide +kernel
theorem dX6_init_19 : decode cX6_init 19 = .ok (.return_, 1) := by decide +kernel
set_option maxRecDepth 20000 in
theorem ggX6_sum_X5_count : GoodIn wsX6_sum wsX5_count := goodIn_r _ [11, 12, 49, 50] (by decide +kernel) (by decide +kernel)
set_option maxRecDepth 20000 in
theorem gX6_sum_X5_count : GoodIn wsX6_sum (wsV RX6 20 RX5 yX5_count wsX5_count) := goodIn_app (goodIn_of _ (by decide +kernel)) ggX6_sum_X5_count
set_option maxRecDepth 20000 in
theorem ggX6_sum_X6_load : GoodIn wsX6_sum wsX6_load := goodIn_ca (goodIn_r _ [17, 6, 18, 19, 20, 10, 21, 12, 22, 47, 48, 49, 50] (by decide +kernel) (by decide +kernel)) (goodIn_sub (fun _ h => List.mem_cons_of_mem _ (List.mem_append_right _ h)) (by decide +kernel))
set_option maxRecDepth 20000 in
theorem gX6_sum_X6_load : GoodIn wsX6_sum (wsV RX6 26 RX6 yX6_load wsX6_load) := goodIn_app (goodIn_of _ (by decide +kernel)) ggX6_sum_X6_load
set_option maxRecDepth 20000 in
theorem ggX6_sum_X6_mix : GoodIn wsX6_sum wsX6_mix := goodIn_ca (goodIn_r _ [26, 1, 27, 6, 28, 29, 30, 16, 31, 32, 33, 34, 47, 48] (by decide +kernel) (by decide +kernel)) (goodIn_sub (fun _ h => List.mem_cons_of_mem _ (List.mem_append_right _ h)) (by decide +kernel))
set_option maxRecDepth 20000 in
theorem gX6_sum_X6_mix : GoodIn wsX6_sum (wsV RX6 30 RX6 yX6_mix wsX6_mix) := goodIn_app (goodIn_of _ (by decide +kernel)) ggX6_sum_X6_mix
set_option maxRecDepth 20000 in
theorem ggX6_sum_X5_clear : GoodIn wsX6_sum wsX5_clear := goodIn_r _ [38, 12, 49, 50] (by decide +kernel) (by decide +kernel)
set_option maxRecDepth 20000 in
theorem gX6_sum_X5_clear : GoodIn wsX6_sum (wsV RX6 33 RX5 yX5_clear wsX5_clear) := goodIn_app (goodIn_of _ (by decide +kernel)) ggX6_sum_X5_clear
set_option maxRecDepth 20000 in
theorem ggX6_sum_X5_addNumber : GoodIn wsX6_sum wsX5_addNumber := goodIn_ca (goodIn_r _ [42, 43, 44, 45, 10, 46, 12, 22, 49, 50] (by decide +kernel) (by decide +kernel)) (goodIn_sub (fun _ h => List.mem_cons_of_mem _ (List.mem_append_right _ h)) (by decide +kernel))
set_option maxRecDepth 20000 in
theorem gX6_sum_X5_addNumber : GoodIn wsX6_sum (wsV RX6 36 RX5 yX5_addNumber wsX5_addNumber) := goodIn_app (goodIn_of _ (by decide +kernel)) ggX6_sum_X5_addNumber
theorem dX6_sum_0 : decode cX6_sum 0 = .ok (.aload_n 0, 1) := by decide +kernel
theorem dX6_sum_1 : decode cX6_sum 1 = .ok (.getfield 13, 3) := by decide +kernel
theorem dX6_sum_4 : decode cX6_sum 4 = .ok (.iconst 0, 1) := by decide +kernel
theorem dX6_sum_5 : decode cX6_sum 5 = .ok (.ldc 16, 2) := by decide +kernel
theorem dX6_sum_7 : decode cX6_sum 7 = .ok (.iastore, 1) := by decide +kernel
theorem dX6_sum_8 : decode cX6_sum 8 = .ok (.aload_n 0, 1) := by decide +kernel
theorem dX6_sum_9 : decode cX6_sum 9 = .ok (.getfield 13, 3) := by decide +kernel
theorem dX6_sum_12 : decode cX6_sum 12 = .ok (.iconst 1, 1) := by decide +kernel
theorem dX6_sum_13 : decode cX6_sum 13 = .ok (.ldc 17, 2) := by decide +kernel
theorem dX6_sum_15 : decode cX6_sum 15 = .ok (.iastore, 1) := by decide +kernel
theorem dX6_sum_16 : decode cX6_sum 16 = .ok (.aload_n 0, 1) := by decide +kernel
theorem dX6_sum_17 : decode cX6_sum 17 = .ok (.getfield 13, 3) := by decide +kernel
theorem dX6_sum_20 : decode cX6_sum 20 = .ok (.iconst 2, 1) := by decide +kernel
theorem dX6_sum_21 : decode cX6_sum 21 = .ok (.ldc 18, 2) := by decide +kernel
theorem dX6_sum_23 : decode cX6_sum 23 = .ok (.iastore, 1) := by decide +kernel
theorem dX6_sum_24 : decode cX6_sum 24 = .ok (.aload_n 0, 1) := by decide +kernel
theorem dX6_sum_25 : decode cX6_sum 25 = .ok (.getfield 13, 3) := by decide +kernel
theorem dX6_sum_28 : decode cX6_sum 28 = .ok (.iconst 3, 1) := by decide +kernel
theorem dX6_sum_29 : decode cX6_sum 29 = .ok (.ldc 19, 2) := by decide +kernel
theorem dX6_sum_31 : decode cX6_sum 31 = .ok (.iastore, 1) := by decide +kernel
theorem dX6_sum_32 : decode cX6_sum 32 = .ok (.aload_n 1, 1) := by decide +kernel
theorem dX6_sum_33 : decode cX6_sum 33 = .ok (.invokevirtual 20, 3) := by decide +kernel
theorem dX6_sum_36 : decode cX6_sum 36 = .ok (.bipush 8, 2) := by decide +kernel
theorem dX6_sum_38 : decode cX6_sum 38 = .ok (.iadd, 1) := by decide +kernel
theorem dX6_sum_39 : decode cX6_sum 39 = .ok (.bipush 64, 2) := by decide +kernel
theorem dX6_sum_41 : decode cX6_sum 41 = .ok (.idiv, 1) := by decide +kernel
theorem dX6_sum_42 : decode cX6_sum 42 = .ok (.iconst 1, 1) := by decide +kernel
theorem dX6_sum_43 : decode cX6_sum 43 = .ok (.iadd, 1) := by decide +kernel
theorem dX6_sum_44 : decode cX6_sum 44 = .ok (.istore_n 3, 1) := by decide +kernel
theorem dX6_sum_45 : decode cX6_sum 45 = .ok (.iconst 0, 1) := by decide +kernel
theorem dX6_sum_46 : decode cX6_sum 46 = .ok (.istore 4, 2) := by decide +kernel
theorem dX6_sum_48 : decode cX6_sum 48 = .ok (.iload 4, 2) := by decide +kernel
theorem dX6_sum_50 : decode cX6_sum 50 = .ok (.iload_n 3, 1) := by decide +kernel
theorem dX6_sum_51 : decode cX6_sum 51 = .ok (.if_icmp .ge 45, 3) := by decide +kernel
theorem dX6_sum_54 : decode cX6_sum 54 = .ok (.aload_n 0, 1) := by decide +kernel
theorem dX6_sum_55 : decode cX6_sum 55 = .ok (.aload_n 1, 1) := by decide +kernel
theorem dX6_sum_56 : decode cX6_sum 56 = .ok (.bipush 64, 2) := by decide +kernel
theorem dX6_sum_58 : decode cX6_sum 58 = .ok (.iload 4, 2) := by decide +kernel
theorem dX6_sum_60 : decode cX6_sum 60 = .ok (.imul, 1) := by decide +kernel
theorem dX6_sum_61 : decode cX6_sum 61 = .ok (.invokevirtual 26, 3) := by decide +kernel
theorem dX6_sum_64 : decode cX6_sum 64 = .ok (.iload 4, 2) := by decide +kernel
theorem dX6_sum_66 : decode cX6_sum 66 = .ok (.iload_n 3, 1) := by decide +kernel
theorem dX6_sum_67 : decode cX6_sum 67 = .ok (.iconst 1, 1) := by decide +kernel
theorem dX6_sum_68 : decode cX6_sum 68 = .ok (.isub, 1) := by decide +kernel
theorem dX6_sum_69 : decode cX6_sum 69 = .ok (.if_icmp .ne 17, 3) := by decide +kernel
theorem dX6_sum_72 : decode cX6_sum 72 = .ok (.aload_n 0, 1) := by decide +kernel
theorem dX6_sum_73 : decode cX6_sum 73 = .ok (.getfield 7, 3) := by decide +kernel
theorem dX6_sum_76 : decode cX6_sum 76 = .ok (.bipush 14, 2) := by decide +kernel
theorem dX6_sum_78 : decode cX6_sum 78 = .ok (.bipush 8, 2) := by decide +kernel
theorem dX6_sum_80 : decode cX6_sum 80 = .ok (.aload_n 1, 1) := by decide +kernel
theorem dX6_sum_81 : decode cX6_sum 81 = .ok (.invokevirtual 20, 3) := by decide +kernel
theorem dX6_sum_84 : decode cX6_sum 84 = .ok (.imul, 1) := by decide +kernel
theorem dX6_sum_85 : decode cX6_sum 85 = .ok (.iastore, 1) := by decide +kernel
theorem dX6_sum_86 : decode cX6_sum 86 = .ok (.aload_n 0, 1) := by decide +kernel
theorem dX6_sum_87 : decode cX6_sum 87 = .ok (.invokevirtual 30, 3) := by decide +kernel
theorem dX6_sum_90 : decode cX6_sum 90 = .ok (.iinc 4 1, 3) := by decide +kernel
theorem dX6_sum_93 : decode cX6_sum 93 = .ok (.goto (-45), 3) := by decide +kernel
theorem dX6_sum_96 : decode cX6_sum 96 = .ok (.aload_n 2, 1) := by decide +kernel
theorem dX6_sum_97 : decode cX6_sum 97 = .ok (.invokevirtual 33, 3) := by decide +kernel
theorem dX6_sum_100 : decode cX6_sum 100 = .ok (.iconst 0, 1) := by decide +kernel
theorem dX6_sum_101 : decode cX6_sum 101 = .ok (.istore 4, 2) := by decide +kernel
theorem dX6_sum_103 : decode cX6_sum 103 = .ok (.iload 4, 2) := by decide +kernel
theorem dX6_sum_105 : decode cX6_sum 105 = .ok (.iconst 4, 1) := by decide +kernel
theorem dX6_sum_106 : decode cX6_sum 106 = .ok (.if_icmp .ge 21, 3) := by decide +kernel
theorem dX6_sum_109 : decode cX6_sum 109 = .ok (.aload_n 2, 1) := by decide +kernel
theorem dX6_sum_110 : decode cX6_sum 110 = .ok (.aload_n 0, 1) := by decide +kernel
theorem dX6_sum_111 : decode cX6_sum 111 = .ok (.getfield 13, 3) := by decide +kernel
theorem dX6_sum_114 : decode cX6_sum 114 = .ok (.iload 4, 2) := by decide +kernel
theorem dX6_sum_116 : decode cX6_sum 116 = .ok (.iaload, 1) := by decide +kernel
theorem dX6_sum_117 : decode cX6_sum 117 = .ok (.iconst 4, 1) := by decide +kernel
theorem dX6_sum_118 : decode cX6_sum 118 = .ok (.invokevirtual 36, 3) := by decide +kernel
theorem dX6_sum_121 : decode cX6_sum 121 = .ok (.iinc 4 1, 3) := by decide +kernel
theorem dX6_sum_124 : decode cX6_sum 124 = .ok (.goto (-21), 3) := by decide +kernel
theorem dX6_sum_127 : decode cX6_sum 127 = .ok (.return_, 1) := by decide +kernel
set_option maxRecDepth 20000 in
theorem ggX6_load_X5_closedAt : GoodIn wsX6_load wsX5_closedAt := goodIn_ca (goodIn_r _ [6, 7, 8, 11, 12] (by decide +kernel) (by decide +kernel)) (goodIn_sub (fun _ h => List.mem_cons_of_mem _ (List.mem_append_right _ h)) (by decide +kernel))
set_option maxRecDepth 20000 in
theorem gX6_load_X5_closedAt : GoodIn wsX6_load (wsV RX6 40 RX5 yX5_closedAt wsX5_closedAt) := goodIn_app (goodIn_of _ (by decide +kernel)) ggX6_load_X5_closedAt
theorem dX6_load_0 : decode cX6_load 0 = .ok (.iconst 0, 1) := by decide +kernel
theorem dX6_load_1 : decode cX6_load 1 = .ok (.istore_n 3, 1) := by decide +kernel
theorem dX6_load_2 : decode cX6_load 2 = .ok (.iload_n 3, 1) := by decide +kernel
theorem dX6_load_3 : decode cX6_load 3 = .ok (.bipush 16, 2) := by decide +kernel
theorem dX6_load_5 : decode cX6_load 5 = .ok (.if_icmp .ge 54, 3) := by decide +kernel
theorem dX6_load_8 : decode cX6_load 8 = .ok (.iconst 0, 1) := by decide +kernel
theorem dX6_load_9 : decode cX6_load 9 = .ok (.istore 4, 2) := by decide +kernel
theorem dX6_load_11 : decode cX6_load 11 = .ok (.iconst 3, 1) := by decide +kernel
theorem dX6_load_12 : decode cX6_load 12 = .ok (.istore 5, 2) := by decide +kernel
theorem dX6_load_14 : decode cX6_load 14 = .ok (.iload 5, 2) := by decide +kernel
theorem dX6_load_16 : decode cX6_load 16 = .ok (.ifCond .lt 29, 3) := by decide +kernel
theorem dX6_load_19 : decode cX6_load 19 = .ok (.iload 4, 2) := by decide +kernel
theorem dX6_load_21 : decode cX6_load 21 = .ok (.bipush 8, 2) := by decide +kernel
theorem dX6_load_23 : decode cX6_load 23 = .ok (.ishl, 1) := by decide +kernel
theorem dX6_load_24 : decode cX6_load 24 = .ok (.aload_n 1, 1) := by decide +kernel
theorem dX6_load_25 : decode cX6_load 25 = .ok (.iload_n 2, 1) := by decide +kernel
theorem dX6_load_26 : decode cX6_load 26 = .ok (.iconst 4, 1) := by decide +kernel
theorem dX6_load_27 : decode cX6_load 27 = .ok (.iload_n 3, 1) := by decide +kernel
theorem dX6_load_28 : decode cX6_load 28 = .ok (.imul, 1) := by decide +kernel
theorem dX6_load_29 : decode cX6_load 29 = .ok (.iadd, 1) := by decide +kernel
theorem dX6_load_30 : decode cX6_load 30 = .ok (.iload 5, 2) := by decide +kernel
theorem dX6_load_32 : decode cX6_load 32 = .ok (.iadd, 1) := by decide +kernel
theorem dX6_load_33 : decode cX6_load 33 = .ok (.invokevirtual 40, 3) := by decide +kernel
theorem dX6_load_36 : decode cX6_load 36 = .ok (.ior, 1) := by decide +kernel
theorem dX6_load_37 : decode cX6_load 37 = .ok (.istore 4, 2) := by decide +kernel
theorem dX6_load_39 : decode cX6_load 39 = .ok (.iinc 5 (-1), 3) := by decide +kernel
theorem dX6_load_42 : decode cX6_load 42 = .ok (.goto (-28), 3) := by decide +kernel
theorem dX6_load_45 : decode cX6_load 45 = .ok (.aload_n 0, 1) := by decide +kernel
theorem dX6_load_46 : decode cX6_load 46 = .ok (.getfield 7, 3) := by decide +kernel
theorem dX6_load_49 : decode cX6_load 49 = .ok (.iload_n 3, 1) := by decide +kernel
theorem dX6_load_50 : decode cX6_load 50 = .ok (.iload 4, 2) := by decide +kernel
theorem dX6_load_52 : decode cX6_load 52 = .ok (.iastore, 1) := by decide +kernel
theorem dX6_load_53 : decode cX6_load 53 = .ok (.iinc 3 1, 3) := by decide +kernel
theorem dX6_load_56 : decode cX6_load 56 = .ok (.goto (-54), 3) := by decide +kernel
theorem dX6_load_59 : decode cX6_load 59 = .ok (.return_, 1) := by decide +kernel
set_option maxRecDepth 20000 in
theorem ggX6_mix_X6_pick : GoodIn wsX6_mix wsX6_pick := goodIn_r _ [8] (by decide +kernel) (by decide +kernel)
set_option maxRecDepth 20000 in
theorem gX6_mix_X6_pick : GoodIn wsX6_mix (va_wsS RX6 47 yX6_pick wsX6_pick) := goodIn_app (goodIn_of _ (by decide +kernel)) ggX6_mix_X6_pick
set_option maxRecDepth 20000 in
theorem ggX6_mix_X6_blend : GoodIn wsX6_mix wsX6_blend := goodIn_r _ [11] (by decide +kernel) (by decide +kernel)
set_option maxRecDepth 20000 in
theorem gX6_mix_X6_blend : GoodIn wsX6_mix (va_wsS RX6 51 yX6_blend wsX6_blend) := goodIn_app (goodIn_of _ (by decide +kernel)) ggX6_mix_X6_blend
theorem dX6_mix_0 : decode cX6_mix 0 = .ok (.aload_n 0, 1) := by decide +kernel
theorem dX6_mix_1 : decode cX6_mix 1 = .ok (.getfield 13, 3) := by decide +kernel
theorem dX6_mix_4 : decode cX6_mix 4 = .ok (.iconst 0, 1) := by decide +kernel
theorem dX6_mix_5 : decode cX6_mix 5 = .ok (.iaload, 1) := by decide +kernel
theorem dX6_mix_6 : decode cX6_mix 6 = .ok (.istore_n 1, 1) := by decide +kernel
theorem dX6_mix_7 : decode cX6_mix 7 = .ok (.aload_n 0, 1) := by decide +kernel
theorem dX6_mix_8 : decode cX6_mix 8 = .ok (.getfield 13, 3) := by decide +kernel
theorem dX6_mix_11 : decode cX6_mix 11 = .ok (.iconst 1, 1) := by decide +kernel
theorem dX6_mix_12 : decode cX6_mix 12 = .ok (.iaload, 1) := by decide +kernel
theorem dX6_mix_13 : decode cX6_mix 13 = .ok (.istore_n 2, 1) := by decide +kernel
theorem dX6_mix_14 : decode cX6_mix 14 = .ok (.aload_n 0, 1) := by decide +kernel
theorem dX6_mix_15 : decode cX6_mix 15 = .ok (.getfield 13, 3) := by decide +kernel
theorem dX6_mix_18 : decode cX6_mix 18 = .ok (.iconst 2, 1) := by decide +kernel
theorem dX6_mix_19 : decode cX6_mix 19 = .ok (.iaload, 1) := by decide +kernel
theorem dX6_mix_20 : decode cX6_mix 20 = .ok (.istore_n 3, 1) := by decide +kernel
theorem dX6_mix_21 : decode cX6_mix 21 = .ok (.aload_n 0, 1) := by decide +kernel
theorem dX6_mix_22 : decode cX6_mix 22 = .ok (.getfield 13, 3) := by decide +kernel
theorem dX6_mix_25 : decode cX6_mix 25 = .ok (.iconst 3, 1) := by decide +kernel
theorem dX6_mix_26 : decode cX6_mix 26 = .ok (.iaload, 1) := by decide +kernel
theorem dX6_mix_27 : decode cX6_mix 27 = .ok (.istore 4, 2) := by decide +kernel
theorem dX6_mix_29 : decode cX6_mix 29 = .ok (.iconst 0, 1) := by decide +kernel
theorem dX6_mix_30 : decode cX6_mix 30 = .ok (.istore 5, 2) := by decide +kernel
theorem dX6_mix_32 : decode cX6_mix 32 = .ok (.iload 5, 2) := by decide +kernel
theorem dX6_mix_34 : decode cX6_mix 34 = .ok (.bipush 64, 2) := by decide +kernel
theorem dX6_mix_36 : decode cX6_mix 36 = .ok (.if_icmp .ge 88, 3) := by decide +kernel
theorem dX6_mix_39 : decode cX6_mix 39 = .ok (.iload 5, 2) := by decide +kernel
theorem dX6_mix_41 : decode cX6_mix 41 = .ok (.iconst 4, 1) := by decide +kernel
theorem dX6_mix_42 : decode cX6_mix 42 = .ok (.ishr, 1) := by decide +kernel
theorem dX6_mix_43 : decode cX6_mix 43 = .ok (.istore 6, 2) := by decide +kernel
theorem dX6_mix_45 : decode cX6_mix 45 = .ok (.iload_n 1, 1) := by decide +kernel
theorem dX6_mix_46 : decode cX6_mix 46 = .ok (.getstatic 44, 3) := by decide +kernel
theorem dX6_mix_49 : decode cX6_mix 49 = .ok (.iload 5, 2) := by decide +kernel
theorem dX6_mix_51 : decode cX6_mix 51 = .ok (.iaload, 1) := by decide +kernel
theorem dX6_mix_52 : decode cX6_mix 52 = .ok (.iadd, 1) := by decide +kernel
theorem dX6_mix_53 : decode cX6_mix 53 = .ok (.aload_n 0, 1) := by decide +kernel
theorem dX6_mix_54 : decode cX6_mix 54 = .ok (.getfield 7, 3) := by decide +kernel
theorem dX6_mix_57 : decode cX6_mix 57 = .ok (.iload 6, 2) := by decide +kernel
theorem dX6_mix_59 : decode cX6_mix 59 = .ok (.iload 5, 2) := by decide +kernel
theorem dX6_mix_61 : decode cX6_mix 61 = .ok (.invokestatic 47, 3) := by decide +kernel
theorem dX6_mix_64 : decode cX6_mix 64 = .ok (.iaload, 1) := by decide +kernel
theorem dX6_mix_65 : decode cX6_mix 65 = .ok (.iadd, 1) := by decide +kernel
theorem dX6_mix_66 : decode cX6_mix 66 = .ok (.iload 6, 2) := by decide +kernel
theorem dX6_mix_68 : decode cX6_mix 68 = .ok (.iload_n 2, 1) := by decide +kernel
theorem dX6_mix_69 : decode cX6_mix 69 = .ok (.iload_n 3, 1) := by decide +kernel
theorem dX6_mix_70 : decode cX6_mix 70 = .ok (.iload 4, 2) := by decide +kernel
theorem dX6_mix_72 : decode cX6_mix 72 = .ok (.invokestatic 51, 3) := by decide +kernel
theorem dX6_mix_75 : decode cX6_mix 75 = .ok (.iadd, 1) := by decide +kernel
theorem dX6_mix_76 : decode cX6_mix 76 = .ok (.istore 7, 2) := by decide +kernel
theorem dX6_mix_78 : decode cX6_mix 78 = .ok (.getstatic 55, 3) := by decide +kernel
theorem dX6_mix_81 : decode cX6_mix 81 = .ok (.iconst 4, 1) := by decide +kernel
theorem dX6_mix_82 : decode cX6_mix 82 = .ok (.iload 6, 2) := by decide +kernel
theorem dX6_mix_84 : decode cX6_mix 84 = .ok (.imul, 1) := by decide +kernel
theorem dX6_mix_85 : decode cX6_mix 85 = .ok (.iload 5, 2) := by decide +kernel
theorem dX6_mix_87 : decode cX6_mix 87 = .ok (.iconst 3, 1) := by decide +kernel
theorem dX6_mix_88 : decode cX6_mix 88 = .ok (.iand, 1) := by decide +kernel
theorem dX6_mix_89 : decode cX6_mix 89 = .ok (.iadd, 1) := by decide +kernel
theorem dX6_mix_90 : decode cX6_mix 90 = .ok (.iaload, 1) := by decide +kernel
theorem dX6_mix_91 : decode cX6_mix 91 = .ok (.istore 8, 2) := by decide +kernel
theorem dX6_mix_93 : decode cX6_mix 93 = .ok (.iload 4, 2) := by decide +kernel
theorem dX6_mix_95 : decode cX6_mix 95 = .ok (.istore_n 1, 1) := by decide +kernel
theorem dX6_mix_96 : decode cX6_mix 96 = .ok (.iload_n 3, 1) := by decide +kernel
theorem dX6_mix_97 : decode cX6_mix 97 = .ok (.istore 4, 2) := by decide +kernel
theorem dX6_mix_99 : decode cX6_mix 99 = .ok (.iload_n 2, 1) := by decide +kernel
theorem dX6_mix_100 : decode cX6_mix 100 = .ok (.istore_n 3, 1) := by decide +kernel
theorem dX6_mix_101 : decode cX6_mix 101 = .ok (.iload_n 2, 1) := by decide +kernel
theorem dX6_mix_102 : decode cX6_mix 102 = .ok (.iload 7, 2) := by decide +kernel
theorem dX6_mix_104 : decode cX6_mix 104 = .ok (.iload 8, 2) := by decide +kernel
theorem dX6_mix_106 : decode cX6_mix 106 = .ok (.ishl, 1) := by decide +kernel
theorem dX6_mix_107 : decode cX6_mix 107 = .ok (.iload 7, 2) := by decide +kernel
theorem dX6_mix_109 : decode cX6_mix 109 = .ok (.bipush 32, 2) := by decide +kernel
theorem dX6_mix_111 : decode cX6_mix 111 = .ok (.iload 8, 2) := by decide +kernel
theorem dX6_mix_113 : decode cX6_mix 113 = .ok (.isub, 1) := by decide +kernel
theorem dX6_mix_114 : decode cX6_mix 114 = .ok (.iushr, 1) := by decide +kernel
theorem dX6_mix_115 : decode cX6_mix 115 = .ok (.ior, 1) := by decide +kernel
theorem dX6_mix_116 : decode cX6_mix 116 = .ok (.iadd, 1) := by decide +kernel
theorem dX6_mix_117 : decode cX6_mix 117 = .ok (.istore_n 2, 1) := by decide +kernel
theorem dX6_mix_118 : decode cX6_mix 118 = .ok (.iinc 5 1, 3) := by decide +kernel
theorem dX6_mix_121 : decode cX6_mix 121 = .ok (.goto (-89), 3) := by decide +kernel
theorem dX6_mix_124 : decode cX6_mix 124 = .ok (.aload_n 0, 1) := by decide +kernel
theorem dX6_mix_125 : decode cX6_mix 125 = .ok (.getfield 13, 3) := by decide +kernel
theorem dX6_mix_128 : decode cX6_mix 128 = .ok (.iconst 0, 1) := by decide +kernel
theorem dX6_mix_129 : decode cX6_mix 129 = .ok (.dup2, 1) := by decide +kernel
theorem dX6_mix_130 : decode cX6_mix 130 = .ok (.iaload, 1) := by decide +kernel
theorem dX6_mix_131 : decode cX6_mix 131 = .ok (.iload_n 1, 1) := by decide +kernel
theorem dX6_mix_132 : decode cX6_mix 132 = .ok (.iadd, 1) := by decide +kernel
theorem dX6_mix_133 : decode cX6_mix 133 = .ok (.iastore, 1) := by decide +kernel
theorem dX6_mix_134 : decode cX6_mix 134 = .ok (.aload_n 0, 1) := by decide +kernel
theorem dX6_mix_135 : decode cX6_mix 135 = .ok (.getfield 13, 3) := by decide +kernel
theorem dX6_mix_138 : decode cX6_mix 138 = .ok (.iconst 1, 1) := by decide +kernel
theorem dX6_mix_139 : decode cX6_mix 139 = .ok (.dup2, 1) := by decide +kernel
theorem dX6_mix_140 : decode cX6_mix 140 = .ok (.iaload, 1) := by decide +kernel
theorem dX6_mix_141 : decode cX6_mix 141 = .ok (.iload_n 2, 1) := by decide +kernel
theorem dX6_mix_142 : decode cX6_mix 142 = .ok (.iadd, 1) := by decide +kernel
theorem dX6_mix_143 : decode cX6_mix 143 = .ok (.iastore, 1) := by decide +kernel
theorem dX6_mix_144 : decode cX6_mix 144 = .ok (.aload_n 0, 1) := by decide +kernel
theorem dX6_mix_145 : decode cX6_mix 145 = .ok (.getfield 13, 3) := by decide +kernel
theorem dX6_mix_148 : decode cX6_mix 148 = .ok (.iconst 2, 1) := by decide +kernel
theorem dX6_mix_149 : decode cX6_mix 149 = .ok (.dup2, 1) := by decide +kernel
theorem dX6_mix_150 : decode cX6_mix 150 = .ok (.iaload, 1) := by decide +kernel
theorem dX6_mix_151 : decode cX6_mix 151 = .ok (.iload_n 3, 1) := by decide +kernel
theorem dX6_mix_152 : decode cX6_mix 152 = .ok (.iadd, 1) := by decide +kernel
theorem dX6_mix_153 : decode cX6_mix 153 = .ok (.iastore, 1) := by decide +kernel
theorem dX6_mix_154 : decode cX6_mix 154 = .ok (.aload_n 0, 1) := by decide +kernel
theorem dX6_mix_155 : decode cX6_mix 155 = .ok (.getfield 13, 3) := by decide +kernel
theorem dX6_mix_158 : decode cX6_mix 158 = .ok (.iconst 3, 1) := by decide +kernel
theorem dX6_mix_159 : decode cX6_mix 159 = .ok (.dup2, 1) := by decide +kernel
theorem dX6_mix_160 : decode cX6_mix 160 = .ok (.iaload, 1) := by decide +kernel
theorem dX6_mix_161 : decode cX6_mix 161 = .ok (.iload 4, 2) := by decide +kernel
theorem dX6_mix_163 : decode cX6_mix 163 = .ok (.iadd, 1) := by decide +kernel
theorem dX6_mix_164 : decode cX6_mix 164 = .ok (.iastore, 1) := by decide +kernel
theorem dX6_mix_165 : decode cX6_mix 165 = .ok (.return_, 1) := by decide +kernel
theorem dX6_pick_0 : decode cX6_pick 0 = .ok (.iload_n 0, 1) := by decide +kernel
theorem dX6_pick_1 : decode cX6_pick 1 = .ok (.tableswitch 50 0 2 #[27, 32, 41], 27) := by decide +kernel
theorem dX6_pick_28 : decode cX6_pick 28 = .ok (.iload_n 1, 1) := by decide +kernel
theorem dX6_pick_29 : decode cX6_pick 29 = .ok (.bipush 15, 2) := by decide +kernel
theorem dX6_pick_31 : decode cX6_pick 31 = .ok (.iand, 1) := by decide +kernel
theorem dX6_pick_32 : decode cX6_pick 32 = .ok (.ireturn, 1) := by decide +kernel
theorem dX6_pick_33 : decode cX6_pick 33 = .ok (.iconst 5, 1) := by decide +kernel
theorem dX6_pick_34 : decode cX6_pick 34 = .ok (.iload_n 1, 1) := by decide +kernel
theorem dX6_pick_35 : decode cX6_pick 35 = .ok (.imul, 1) := by decide +kernel
theorem dX6_pick_36 : decode cX6_pick 36 = .ok (.iconst 1, 1) := by decide +kernel
theorem dX6_pick_37 : decode cX6_pick 37 = .ok (.iadd, 1) := by decide +kernel
theorem dX6_pick_38 : decode cX6_pick 38 = .ok (.bipush 15, 2) := by decide +kernel
theorem dX6_pick_40 : decode cX6_pick 40 = .ok (.iand, 1) := by decide +kernel
theorem dX6_pick_41 : decode cX6_pick 41 = .ok (.ireturn, 1) := by decide +kernel
theorem dX6_pick_42 : decode cX6_pick 42 = .ok (.iconst 3, 1) := by decide +kernel
theorem dX6_pick_43 : decode cX6_pick 43 = .ok (.iload_n 1, 1) := by decide +kernel
theorem dX6_pick_44 : decode cX6_pick 44 = .ok (.imul, 1) := by decide +kernel
theorem dX6_pick_45 : decode cX6_pick 45 = .ok (.iconst 5, 1) := by decide +kernel
theorem dX6_pick_46 : decode cX6_pick 46 = .ok (.iadd, 1) := by decide +kernel
theorem dX6_pick_47 : decode cX6_pick 47 = .ok (.bipush 15, 2) := by decide +kernel
theorem dX6_pick_49 : decode cX6_pick 49 = .ok (.iand, 1) := by decide +kernel
theorem dX6_pick_50 : decode cX6_pick 50 = .ok (.ireturn, 1) := by decide +kernel
theorem dX6_pick_51 : decode cX6_pick 51 = .ok (.bipush 7, 2) := by decide +kernel
theorem dX6_pick_53 : decode cX6_pick 53 = .ok (.iload_n 1, 1) := by decide +kernel
theorem dX6_pick_54 : decode cX6_pick 54 = .ok (.imul, 1) := by decide +kernel
theorem dX6_pick_55 : decode cX6_pick 55 = .ok (.bipush 15, 2) := by decide +kernel
theorem dX6_pick_57 : decode cX6_pick 57 = .ok (.iand, 1) := by decide +kernel
theorem dX6_pick_58 : decode cX6_pick 58 = .ok (.ireturn, 1) := by decide +kernel
theorem dX6_blend_0 : decode cX6_blend 0 = .ok (.iload_n 0, 1) := by decide +kernel
theorem dX6_blend_1 : decode cX6_blend 1 = .ok (.tableswitch 53 0 2 #[27, 37, 47], 27) := by decide +kernel
theorem dX6_blend_28 : decode cX6_blend 28 = .ok (.iload_n 1, 1) := by decide +kernel
theorem dX6_blend_29 : decode cX6_blend 29 = .ok (.iload_n 2, 1) := by decide +kernel
theorem dX6_blend_30 : decode cX6_blend 30 = .ok (.iand, 1) := by decide +kernel
theorem dX6_blend_31 : decode cX6_blend 31 = .ok (.iload_n 1, 1) := by decide +kernel
theorem dX6_blend_32 : decode cX6_blend 32 = .ok (.iconst (-1), 1) := by decide +kernel
theorem dX6_blend_33 : decode cX6_blend 33 = .ok (.ixor, 1) := by decide +kernel
theorem dX6_blend_34 : decode cX6_blend 34 = .ok (.iload_n 3, 1) := by decide +kernel
theorem dX6_blend_35 : decode cX6_blend 35 = .ok (.iand, 1) := by decide +kernel
theorem dX6_blend_36 : decode cX6_blend 36 = .ok (.ior, 1) := by decide +kernel
theorem dX6_blend_37 : decode cX6_blend 37 = .ok (.ireturn, 1) := by decide +kernel
theorem dX6_blend_38 : decode cX6_blend 38 = .ok (.iload_n 3, 1) := by decide +kernel
theorem dX6_blend_39 : decode cX6_blend 39 = .ok (.iload_n 1, 1) := by decide +kernel
theorem dX6_blend_40 : decode cX6_blend 40 = .ok (.iand, 1) := by decide +kernel
theorem dX6_blend_41 : decode cX6_blend 41 = .ok (.iload_n 3, 1) := by decide +kernel
theorem dX6_blend_42 : decode cX6_blend 42 = .ok (.iconst (-1), 1) := by decide +kernel
theorem dX6_blend_43 : decode cX6_blend 43 = .ok (.ixor, 1) := by decide +kernel
theorem dX6_blend_44 : decode cX6_blend 44 = .ok (.iload_n 2, 1) := by decide +kernel
theorem dX6_blend_45 : decode cX6_blend 45 = .ok (.iand, 1) := by decide +kernel
theorem dX6_blend_46 : decode cX6_blend 46 = .ok (.ior, 1) := by decide +kernel
theorem dX6_blend_47 : decode cX6_blend 47 = .ok (.ireturn, 1) := by decide +kernel
theorem dX6_blend_48 : decode cX6_blend 48 = .ok (.iload_n 1, 1) := by decide +kernel
theorem dX6_blend_49 : decode cX6_blend 49 = .ok (.iload_n 2, 1) := by decide +kernel
theorem dX6_blend_50 : decode cX6_blend 50 = .ok (.ixor, 1) := by decide +kernel
theorem dX6_blend_51 : decode cX6_blend 51 = .ok (.iload_n 3, 1) := by decide +kernel
theorem dX6_blend_52 : decode cX6_blend 52 = .ok (.ixor, 1) := by decide +kernel
theorem dX6_blend_53 : decode cX6_blend 53 = .ok (.ireturn, 1) := by decide +kernel
theorem dX6_blend_54 : decode cX6_blend 54 = .ok (.iload_n 2, 1) := by decide +kernel
theorem dX6_blend_55 : decode cX6_blend 55 = .ok (.iload_n 1, 1) := by decide +kernel
theorem dX6_blend_56 : decode cX6_blend 56 = .ok (.iload_n 3, 1) := by decide +kernel
theorem dX6_blend_57 : decode cX6_blend 57 = .ok (.iconst (-1), 1) := by decide +kernel
theorem dX6_blend_58 : decode cX6_blend 58 = .ok (.ixor, 1) := by decide +kernel
theorem dX6_blend_59 : decode cX6_blend 59 = .ok (.ior, 1) := by decide +kernel
theorem dX6_blend_60 : decode cX6_blend 60 = .ok (.ixor, 1) := by decide +kernel
theorem dX6_blend_61 : decode cX6_blend 61 = .ok (.ireturn, 1) := by decide +kernel
theorem dX7_init_0 : decode cX7_init 0 = .ok (.aload_n 0, 1) := by decide +kernel
theorem dX7_init_1 : decode cX7_init 1 = .ok (.invokespecial 1, 3) := by decide +kernel
theorem dX7_init_4 : decode cX7_init 4 = .ok (.aload_n 0, 1) := by decide +kernel
theorem dX7_init_5 : decode cX7_init 5 = .ok (.sipush 256, 3) := by decide +kernel
theorem dX7_init_8 : decode cX7_init 8 = .ok (.newarray .int, 2) := by decide +kernel
theorem dX7_init_10 : decode cX7_init 10 = .ok (.putfield 7, 3) := by decide +kernel
theorem dX7_init_13 : decode cX7_init 13 = .ok (.return_, 1) := by decide +kernel
set_option maxRecDepth 20000 in
theorem ggX7_turn_X7_mixKey : GoodIn wsX7_turn wsX7_mixKey := goodIn_ca (goodIn_r _ [6, 1, 7, 8, 9, 10, 11, 12, 13, 14, 15, 16, 5, 17, 18, 19, 20, 21, 26, 27, 28] (by decide +kernel) (by decide +kernel)) (goodIn_sub (fun _ h => List.mem_cons_of_mem _ (List.mem_append_right _ h)) (by decide +kernel))
set_option maxRecDepth 20000 in
theorem gX7_turn_X7_mixKey : GoodIn wsX7_turn (wsV RX7 13 RX7 yX7_mixKey wsX7_mixKey) := goodIn_app (goodIn_of _ (by decide +kernel)) ggX7_turn_X7_mixKey
set_option maxRecDepth 20000 in
theorem ggX7_turn_X5_count : GoodIn wsX7_turn wsX5_count := goodIn_r _ [21, 12, 27, 28] (by decide +kernel) (by decide +kernel)
set_option maxRecDepth 20000 in
theorem gX7_turn_X5_count : GoodIn wsX7_turn (wsV RX7 17 RX5 yX5_count wsX5_count) := goodIn_app (goodIn_of _ (by decide +kernel)) ggX7_turn_X5_count
set_option maxRecDepth 20000 in
theorem ggX7_turn_X7_swap : GoodIn wsX7_turn wsX7_swap := goodIn_ca (goodIn_r _ [17, 1, 26] (by decide +kernel) (by decide +kernel)) (goodIn_sub (fun _ h => List.mem_cons_of_mem _ (List.mem_append_right _ h)) (by decide +kernel))
set_option maxRecDepth 20000 in
theorem gX7_turn_X7_swap : GoodIn wsX7_turn (wsV RX7 23 RX7 yX7_swap wsX7_swap) := goodIn_app (goodIn_of _ (by decide +kernel)) ggX7_turn_X7_swap
set_option maxRecDepth 20000 in
theorem ggX7_turn_X5_at : GoodIn wsX7_turn wsX5_at := goodIn_ca (goodIn_r _ [11, 12, 13, 27, 28] (by decide +kernel) (by decide +kernel)) (goodIn_sub (fun _ h => List.mem_cons_of_mem _ (List.mem_append_right _ h)) (by decide +kernel))
set_option maxRecDepth 20000 in
theorem gX7_turn_X5_at : GoodIn wsX7_turn (wsV RX7 27 RX5 yX5_at wsX5_at) := goodIn_app (goodIn_of _ (by decide +kernel)) ggX7_turn_X5_at
set_option maxRecDepth 20000 in
theorem ggX7_turn_X5_put : GoodIn wsX7_turn wsX5_put := goodIn_ca (goodIn_r _ [25, 12, 13, 27, 28] (by decide +kernel) (by decide +kernel)) (goodIn_sub (fun _ h => List.mem_cons_of_mem _ (List.mem_append_right _ h)) (by decide +kernel))
set_option maxRecDepth 20000 in
theorem gX7_turn_X5_put : GoodIn wsX7_turn (wsV RX7 31 RX5 yX5_put wsX5_put) := goodIn_app (goodIn_of _ (by decide +kernel)) ggX7_turn_X5_put
theorem dX7_turn_0 : decode cX7_turn 0 = .ok (.aload_n 0, 1) := by decide +kernel
theorem dX7_turn_1 : decode cX7_turn 1 = .ok (.aload_n 1, 1) := by decide +kernel
theorem dX7_turn_2 : decode cX7_turn 2 = .ok (.iload_n 2, 1) := by decide +kernel
theorem dX7_turn_3 : decode cX7_turn 3 = .ok (.invokevirtual 13, 3) := by decide +kernel
theorem dX7_turn_6 : decode cX7_turn 6 = .ok (.iconst 0, 1) := by decide +kernel
theorem dX7_turn_7 : decode cX7_turn 7 = .ok (.istore 4, 2) := by decide +kernel
theorem dX7_turn_9 : decode cX7_turn 9 = .ok (.iconst 0, 1) := by decide +kernel
theorem dX7_turn_10 : decode cX7_turn 10 = .ok (.istore 5, 2) := by decide +kernel
theorem dX7_turn_12 : decode cX7_turn 12 = .ok (.iconst 0, 1) := by decide +kernel
theorem dX7_turn_13 : decode cX7_turn 13 = .ok (.istore 6, 2) := by decide +kernel
theorem dX7_turn_15 : decode cX7_turn 15 = .ok (.iload 6, 2) := by decide +kernel
theorem dX7_turn_17 : decode cX7_turn 17 = .ok (.aload_n 3, 1) := by decide +kernel
theorem dX7_turn_18 : decode cX7_turn 18 = .ok (.invokevirtual 17, 3) := by decide +kernel
theorem dX7_turn_21 : decode cX7_turn 21 = .ok (.if_icmp .ge 80, 3) := by decide +kernel
theorem dX7_turn_24 : decode cX7_turn 24 = .ok (.iload 4, 2) := by decide +kernel
theorem dX7_turn_26 : decode cX7_turn 26 = .ok (.iconst 1, 1) := by decide +kernel
theorem dX7_turn_27 : decode cX7_turn 27 = .ok (.iadd, 1) := by decide +kernel
theorem dX7_turn_28 : decode cX7_turn 28 = .ok (.sipush 255, 3) := by decide +kernel
theorem dX7_turn_31 : decode cX7_turn 31 = .ok (.iand, 1) := by decide +kernel
theorem dX7_turn_32 : decode cX7_turn 32 = .ok (.istore 4, 2) := by decide +kernel
theorem dX7_turn_34 : decode cX7_turn 34 = .ok (.iload 5, 2) := by decide +kernel
theorem dX7_turn_36 : decode cX7_turn 36 = .ok (.aload_n 0, 1) := by decide +kernel
theorem dX7_turn_37 : decode cX7_turn 37 = .ok (.getfield 7, 3) := by decide +kernel
theorem dX7_turn_40 : decode cX7_turn 40 = .ok (.iload 4, 2) := by decide +kernel
theorem dX7_turn_42 : decode cX7_turn 42 = .ok (.iaload, 1) := by decide +kernel
theorem dX7_turn_43 : decode cX7_turn 43 = .ok (.iadd, 1) := by decide +kernel
theorem dX7_turn_44 : decode cX7_turn 44 = .ok (.sipush 255, 3) := by decide +kernel
theorem dX7_turn_47 : decode cX7_turn 47 = .ok (.iand, 1) := by decide +kernel
theorem dX7_turn_48 : decode cX7_turn 48 = .ok (.istore 5, 2) := by decide +kernel
theorem dX7_turn_50 : decode cX7_turn 50 = .ok (.aload_n 0, 1) := by decide +kernel
theorem dX7_turn_51 : decode cX7_turn 51 = .ok (.iload 4, 2) := by decide +kernel
theorem dX7_turn_53 : decode cX7_turn 53 = .ok (.iload 5, 2) := by decide +kernel
theorem dX7_turn_55 : decode cX7_turn 55 = .ok (.invokevirtual 23, 3) := by decide +kernel
theorem dX7_turn_58 : decode cX7_turn 58 = .ok (.aload_n 3, 1) := by decide +kernel
