theorem dX11_tape_53 : decode cX11_tape 53 = .ok (.aload_n 0, 1) := by decide +kernel
theorem dX11_tape_54 : decode cX11_tape 54 = .ok (.dup, 1) := by decide +kernel
theorem dX11_tape_55 : decode cX11_tape 55 = .ok (.getfield 369, 3) := by decide +kernel
theorem dX11_tape_58 : decode cX11_tape 58 = .ok (.iconst 1, 1) := by decide +kernel
theorem dX11_tape_59 : decode cX11_tape 59 = .ok (.iadd, 1) := by decide +kernel
theorem dX11_tape_60 : decode cX11_tape 60 = .ok (.putfield 369, 3) := by decide +kernel
theorem dX11_tape_63 : decode cX11_tape 63 = .ok (.iinc 2 (-8), 3) := by decide +kernel
theorem dX11_tape_66 : decode cX11_tape 66 = .ok (.goto (-33), 3) := by decide +kernel
theorem dX11_tape_69 : decode cX11_tape 69 = .ok (.aload_n 0, 1) := by decide +kernel
theorem dX11_tape_70 : decode cX11_tape 70 = .ok (.getfield 369, 3) := by decide +kernel
theorem dX11_tape_73 : decode cX11_tape 73 = .ok (.ireturn, 1) := by decide +kernel
theorem dX11_metadata_0 : decode cX11_metadata 0 = .ok (.aload_n 0, 1) := by decide +kernel
theorem dX11_metadata_1 : decode cX11_metadata 1 = .ok (.iconst 0, 1) := by decide +kernel
theorem dX11_metadata_2 : decode cX11_metadata 2 = .ok (.putfield 230, 3) := by decide +kernel
theorem dX11_metadata_5 : decode cX11_metadata 5 = .ok (.aload_n 0, 1) := by decide +kernel
theorem dX11_metadata_6 : decode cX11_metadata 6 = .ok (.getfield 312, 3) := by decide +kernel
theorem dX11_metadata_9 : decode cX11_metadata 9 = .ok (.ifCond .eq 7, 3) := by decide +kernel
theorem dX11_metadata_12 : decode cX11_metadata 12 = .ok (.iconst 1, 1) := by decide +kernel
theorem dX11_metadata_13 : decode cX11_metadata 13 = .ok (.goto 4, 3) := by decide +kernel
theorem dX11_metadata_16 : decode cX11_metadata 16 = .ok (.iconst 0, 1) := by decide +kernel
theorem dX11_metadata_17 : decode cX11_metadata 17 = .ok (.istore_n 2, 1) := by decide +kernel
theorem dX11_metadata_18 : decode cX11_metadata 18 = .ok (.aload_n 0, 1) := by decide +kernel
theorem dX11_metadata_19 : decode cX11_metadata 19 = .ok (.iload_n 1, 1) := by decide +kernel
theorem dX11_metadata_20 : decode cX11_metadata 20 = .ok (.putfield 312, 3) := by decide +kernel
theorem dX11_metadata_23 : decode cX11_metadata 23 = .ok (.iload_n 2, 1) := by decide +kernel
theorem dX11_metadata_24 : decode cX11_metadata 24 = .ok (.ireturn, 1) := by decide +kernel
theorem dX11_shutAll_0 : decode cX11_shutAll 0 = .ok (.aload_n 0, 1) := by decide +kernel
theorem dX11_shutAll_1 : decode cX11_shutAll 1 = .ok (.iconst 0, 1) := by decide +kernel
theorem dX11_shutAll_2 : decode cX11_shutAll 2 = .ok (.putfield 372, 3) := by decide +kernel
theorem dX11_shutAll_5 : decode cX11_shutAll 5 = .ok (.aload_n 0, 1) := by decide +kernel
theorem dX11_shutAll_6 : decode cX11_shutAll 6 = .ok (.iconst 0, 1) := by decide +kernel
theorem dX11_shutAll_7 : decode cX11_shutAll 7 = .ok (.putfield 375, 3) := by decide +kernel
theorem dX11_shutAll_10 : decode cX11_shutAll 10 = .ok (.return_, 1) := by decide +kernel
set_option maxRecDepth 20000 in
theorem ggX11_make_X11_shutAll : GoodIn wsX11_make wsX11_shutAll := goodIn_r _ [10, 11, 12, 168, 169, 170, 171, 172, 173, 174, 175, 176, 177, 178, 179, 180, 181, 182, 183, 184, 185, 186, 187, 188, 189, 190, 191, 192, 193, 194, 195, 196, 197, 198, 199, 200, 201, 202, 203, 204, 205, 206, 207, 208, 209, 210, 211, 212] (by decide +kernel) (by decide +kernel)
set_option maxRecDepth 20000 in
theorem gX11_make_X11_shutAll : GoodIn wsX11_make (wsV RX11 378 RX11 yX11_shutAll wsX11_shutAll) := goodIn_app (goodIn_of _ (by decide +kernel)) ggX11_make_X11_shutAll
set_option maxRecDepth 20000 in
theorem ggX11_make_X11_makeEarly : GoodIn wsX11_make wsX11_makeEarly := goodIn_ca (goodIn_r _ [16, 17, 18, 19, 20, 21, 22, 23, 1, 24, 25, 26, 27, 9, 28, 29, 30, 31, 32, 33, 34, 35, 36, 37, 38, 39, 40, 41, 42, 43, 44, 45, 46, 47, 48, 49, 50, 51, 52, 53, 54, 55, 56, 57, 58, 59, 60, 61, 62, 63, 64, 65, 66, 67, 68, 69, 70, 71, 72, 73, 74, 75, 76, 77, 78, 79, 80, 81, 82, 83, 84, 85, 86, 87, 88, 89, 90, 5, 91, 92, 93, 94, 95, 96, 97, 98, 99, 100, 101, 102, 168, 169, 170, 171, 172, 173, 174, 175, 176, 177, 178, 179, 180, 181, 182, 183, 184, 185, 186, 187, 188, 189, 190, 191, 192, 193, 194, 195, 196, 197, 198, 199, 200, 201, 202, 203, 204, 205, 206, 207, 208, 209, 210, 211, 212] (by decide +kernel) (by decide +kernel)) (goodIn_sub (fun _ h => List.mem_cons_of_mem _ (List.mem_append_right _ h)) (by decide +kernel))
set_option maxRecDepth 20000 in
theorem gX11_make_X11_makeEarly : GoodIn wsX11_make (wsV RX11 381 RX11 yX11_makeEarly wsX11_makeEarly) := goodIn_app (goodIn_of _ (by decide +kernel)) ggX11_make_X11_makeEarly
set_option maxRecDepth 20000 in
theorem ggX11_make_X11_makeLate : GoodIn wsX11_make wsX11_makeLate := goodIn_ca (goodIn_r _ [106, 17, 94, 19, 20, 21, 18, 22, 5, 93, 107, 108, 109, 9, 110, 3, 111, 112, 113, 114, 115, 35, 116, 117, 118, 119, 120, 34, 36, 37, 38, 39, 40, 41, 42, 43, 44, 121, 122, 123, 124, 49, 125, 126, 127, 128, 129, 130, 131, 132, 55, 133, 134, 56, 57, 58, 59, 60, 61, 62, 63, 67, 68, 69, 70, 71, 72, 73, 135, 136, 137, 138, 139, 140, 141, 142, 143, 144, 145, 146, 147, 148, 149, 150, 151, 152, 153, 154, 155, 156, 157, 158, 159, 160, 161, 162, 163, 164, 165, 166, 167, 168, 169, 170, 171, 172, 173, 174, 175, 176, 177, 178, 179, 180, 181, 182, 183, 184, 185, 186, 187, 188, 189, 190, 191, 192, 193, 194, 195, 196, 197, 198, 199, 200, 201, 202, 203, 204, 205, 206, 207, 208, 209, 210, 211, 212] rfl (by decide +kernel)) (goodIn_sub (fun _ h => List.mem_cons_of_mem _ (List.mem_append_right _ h)) (by decide +kernel))
set_option maxRecDepth 20000 in
theorem gX11_make_X11_makeLate : GoodIn wsX11_make (wsV RX11 384 RX11 yX11_makeLate wsX11_makeLate) := goodIn_app (goodIn_of _ (by decide +kernel)) ggX11_make_X11_makeLate
theorem dX11_make_0 : decode cX11_make 0 = .ok (.aload_n 0, 1) := by decide +kernel
theorem dX11_make_1 : decode cX11_make 1 = .ok (.aload_n 0, 1) := by decide +kernel
theorem dX11_make_2 : decode cX11_make 2 = .ok (.getfield 219, 3) := by decide +kernel
theorem dX11_make_5 : decode cX11_make 5 = .ok (.iconst 5, 1) := by decide +kernel
theorem dX11_make_6 : decode cX11_make 6 = .ok (.if_icmp .ne 21, 3) := by decide +kernel
theorem dX11_make_9 : decode cX11_make 9 = .ok (.aload_n 0, 1) := by decide +kernel
theorem dX11_make_10 : decode cX11_make 10 = .ok (.getfield 369, 3) := by decide +kernel
theorem dX11_make_13 : decode cX11_make 13 = .ok (.aload_n 0, 1) := by decide +kernel
theorem dX11_make_14 : decode cX11_make 14 = .ok (.getfield 346, 3) := by decide +kernel
theorem dX11_make_17 : decode cX11_make 17 = .ok (.isub, 1) := by decide +kernel
theorem dX11_make_18 : decode cX11_make 18 = .ok (.bipush 68, 2) := by decide +kernel
theorem dX11_make_20 : decode cX11_make 20 = .ok (.if_icmp .ge 7, 3) := by decide +kernel
theorem dX11_make_23 : decode cX11_make 23 = .ok (.iconst 1, 1) := by decide +kernel
theorem dX11_make_24 : decode cX11_make 24 = .ok (.goto 4, 3) := by decide +kernel
theorem dX11_make_27 : decode cX11_make 27 = .ok (.iconst 0, 1) := by decide +kernel
theorem dX11_make_28 : decode cX11_make 28 = .ok (.putfield 230, 3) := by decide +kernel
theorem dX11_make_31 : decode cX11_make 31 = .ok (.aload_n 0, 1) := by decide +kernel
theorem dX11_make_32 : decode cX11_make 32 = .ok (.getfield 230, 3) := by decide +kernel
theorem dX11_make_35 : decode cX11_make 35 = .ok (.ifCond .le 5, 3) := by decide +kernel
theorem dX11_make_38 : decode cX11_make 38 = .ok (.iconst 0, 1) := by decide +kernel
theorem dX11_make_39 : decode cX11_make 39 = .ok (.ireturn, 1) := by decide +kernel
theorem dX11_make_40 : decode cX11_make 40 = .ok (.aload_n 0, 1) := by decide +kernel
theorem dX11_make_41 : decode cX11_make 41 = .ok (.iload_n 1, 1) := by decide +kernel
theorem dX11_make_42 : decode cX11_make 42 = .ok (.putfield 302, 3) := by decide +kernel
theorem dX11_make_45 : decode cX11_make 45 = .ok (.aload_n 0, 1) := by decide +kernel
theorem dX11_make_46 : decode cX11_make 46 = .ok (.invokevirtual 378, 3) := by decide +kernel
theorem dX11_make_49 : decode cX11_make 49 = .ok (.aload_n 0, 1) := by decide +kernel
theorem dX11_make_50 : decode cX11_make 50 = .ok (.getfield 219, 3) := by decide +kernel
theorem dX11_make_53 : decode cX11_make 53 = .ok (.iconst 5, 1) := by decide +kernel
theorem dX11_make_54 : decode cX11_make 54 = .ok (.if_icmp .ge 10, 3) := by decide +kernel
theorem dX11_make_57 : decode cX11_make 57 = .ok (.aload_n 0, 1) := by decide +kernel
theorem dX11_make_58 : decode cX11_make 58 = .ok (.invokevirtual 381, 3) := by decide +kernel
theorem dX11_make_61 : decode cX11_make 61 = .ok (.goto 7, 3) := by decide +kernel
theorem dX11_make_64 : decode cX11_make 64 = .ok (.aload_n 0, 1) := by decide +kernel
theorem dX11_make_65 : decode cX11_make 65 = .ok (.invokevirtual 384, 3) := by decide +kernel
theorem dX11_make_68 : decode cX11_make 68 = .ok (.ireturn, 1) := by decide +kernel
theorem dX11_isEntry_0 : decode cX11_isEntry 0 = .ok (.iload_n 1, 1) := by decide +kernel
theorem dX11_isEntry_1 : decode cX11_isEntry 1 = .ok (.ifCond .lt 26, 3) := by decide +kernel
theorem dX11_isEntry_4 : decode cX11_isEntry 4 = .ok (.iload_n 1, 1) := by decide +kernel
theorem dX11_isEntry_5 : decode cX11_isEntry 5 = .ok (.iconst 5, 1) := by decide +kernel
theorem dX11_isEntry_6 : decode cX11_isEntry 6 = .ok (.if_icmp .ge 21, 3) := by decide +kernel
theorem dX11_isEntry_9 : decode cX11_isEntry 9 = .ok (.iload_n 2, 1) := by decide +kernel
theorem dX11_isEntry_10 : decode cX11_isEntry 10 = .ok (.ifCond .lt 17, 3) := by decide +kernel
theorem dX11_isEntry_13 : decode cX11_isEntry 13 = .ok (.iload_n 2, 1) := by decide +kernel
theorem dX11_isEntry_14 : decode cX11_isEntry 14 = .ok (.aload_n 0, 1) := by decide +kernel
theorem dX11_isEntry_15 : decode cX11_isEntry 15 = .ok (.getfield 28, 3) := by decide +kernel
theorem dX11_isEntry_18 : decode cX11_isEntry 18 = .ok (.iload_n 1, 1) := by decide +kernel
theorem dX11_isEntry_19 : decode cX11_isEntry 19 = .ok (.iaload, 1) := by decide +kernel
theorem dX11_isEntry_20 : decode cX11_isEntry 20 = .ok (.if_icmp .ge 7, 3) := by decide +kernel
theorem dX11_isEntry_23 : decode cX11_isEntry 23 = .ok (.iconst 1, 1) := by decide +kernel
theorem dX11_isEntry_24 : decode cX11_isEntry 24 = .ok (.goto 4, 3) := by decide +kernel
theorem dX11_isEntry_27 : decode cX11_isEntry 27 = .ok (.iconst 0, 1) := by decide +kernel
theorem dX11_isEntry_28 : decode cX11_isEntry 28 = .ok (.ireturn, 1) := by decide +kernel
set_option maxRecDepth 20000 in
theorem ggX11_entry_X11_isEntry : GoodIn wsX11_entry wsX11_isEntry := goodIn_ca (goodIn_r _ [8, 2, 9, 10, 11, 12, 13, 14, 15, 16, 17, 18, 19, 20, 21, 22, 23, 24, 25, 26, 27, 28, 29, 30, 31, 32, 33, 34, 35, 36, 37, 38, 39, 40, 41, 42, 43, 44, 45, 46, 47, 48, 49, 50, 51, 52, 53] (by decide +kernel) (by decide +kernel)) (goodIn_sub (fun _ h => List.mem_cons_of_mem _ (List.mem_append_right _ h)) (by decide +kernel))
set_option maxRecDepth 20000 in
theorem gX11_entry_X11_isEntry : GoodIn wsX11_entry (wsV RX11 387 RX11 yX11_isEntry wsX11_isEntry) := goodIn_app (goodIn_of _ (by decide +kernel)) ggX11_entry_X11_isEntry
theorem dX11_entry_0 : decode cX11_entry 0 = .ok (.aload_n 0, 1) := by decide +kernel
theorem dX11_entry_1 : decode cX11_entry 1 = .ok (.aload_n 0, 1) := by decide +kernel
theorem dX11_entry_2 : decode cX11_entry 2 = .ok (.iload_n 1, 1) := by decide +kernel
theorem dX11_entry_3 : decode cX11_entry 3 = .ok (.iload_n 2, 1) := by decide +kernel
theorem dX11_entry_4 : decode cX11_entry 4 = .ok (.iconst (-1), 1) := by decide +kernel
theorem dX11_entry_5 : decode cX11_entry 5 = .ok (.if_icmp .ne 7, 3) := by decide +kernel
theorem dX11_entry_8 : decode cX11_entry 8 = .ok (.iconst 0, 1) := by decide +kernel
theorem dX11_entry_9 : decode cX11_entry 9 = .ok (.goto 4, 3) := by decide +kernel
theorem dX11_entry_12 : decode cX11_entry 12 = .ok (.iload_n 2, 1) := by decide +kernel
theorem dX11_entry_13 : decode cX11_entry 13 = .ok (.invokevirtual 387, 3) := by decide +kernel
theorem dX11_entry_16 : decode cX11_entry 16 = .ok (.ifCond .eq 7, 3) := by decide +kernel
theorem dX11_entry_19 : decode cX11_entry 19 = .ok (.iconst 0, 1) := by decide +kernel
theorem dX11_entry_20 : decode cX11_entry 20 = .ok (.goto 4, 3) := by decide +kernel
theorem dX11_entry_23 : decode cX11_entry 23 = .ok (.iconst 1, 1) := by decide +kernel
theorem dX11_entry_24 : decode cX11_entry 24 = .ok (.putfield 230, 3) := by decide +kernel
theorem dX11_entry_27 : decode cX11_entry 27 = .ok (.aload_n 0, 1) := by decide +kernel
theorem dX11_entry_28 : decode cX11_entry 28 = .ok (.getfield 230, 3) := by decide +kernel
theorem dX11_entry_31 : decode cX11_entry 31 = .ok (.ifCond .le 7, 3) := by decide +kernel
theorem dX11_entry_34 : decode cX11_entry 34 = .ok (.iconst 0, 1) := by decide +kernel
theorem dX11_entry_35 : decode cX11_entry 35 = .ok (.goto 28, 3) := by decide +kernel
theorem dX11_entry_38 : decode cX11_entry 38 = .ok (.iload_n 2, 1) := by decide +kernel
theorem dX11_entry_39 : decode cX11_entry 39 = .ok (.iconst (-1), 1) := by decide +kernel
theorem dX11_entry_40 : decode cX11_entry 40 = .ok (.if_icmp .ne 12, 3) := by decide +kernel
theorem dX11_entry_43 : decode cX11_entry 43 = .ok (.aload_n 0, 1) := by decide +kernel
theorem dX11_entry_44 : decode cX11_entry 44 = .ok (.getfield 28, 3) := by decide +kernel
theorem dX11_entry_47 : decode cX11_entry 47 = .ok (.iload_n 1, 1) := by decide +kernel
theorem dX11_entry_48 : decode cX11_entry 48 = .ok (.iaload, 1) := by decide +kernel
theorem dX11_entry_49 : decode cX11_entry 49 = .ok (.goto 14, 3) := by decide +kernel
theorem dX11_entry_52 : decode cX11_entry 52 = .ok (.aload_n 0, 1) := by decide +kernel
theorem dX11_entry_53 : decode cX11_entry 53 = .ok (.getfield 25, 3) := by decide +kernel
theorem dX11_entry_56 : decode cX11_entry 56 = .ok (.bipush 48, 2) := by decide +kernel
theorem dX11_entry_58 : decode cX11_entry 58 = .ok (.iload_n 1, 1) := by decide +kernel
theorem dX11_entry_59 : decode cX11_entry 59 = .ok (.imul, 1) := by decide +kernel
theorem dX11_entry_60 : decode cX11_entry 60 = .ok (.iload_n 2, 1) := by decide +kernel
theorem dX11_entry_61 : decode cX11_entry 61 = .ok (.iadd, 1) := by decide +kernel
theorem dX11_entry_62 : decode cX11_entry 62 = .ok (.iaload, 1) := by decide +kernel
theorem dX11_entry_63 : decode cX11_entry 63 = .ok (.ireturn, 1) := by decide +kernel
set_option maxRecDepth 20000 in
theorem ggX11_alter_X11_isEntry : GoodIn wsX11_alter wsX11_isEntry := goodIn_ca (goodIn_r _ [7, 8, 15, 16, 17, 18, 19, 20, 21, 22, 23, 24, 25, 26, 27, 28, 29, 30, 31, 32, 33, 34, 35, 36, 37, 38, 39, 40, 41, 42, 43, 44, 45, 46, 47, 48, 49, 50, 51, 52, 53, 54, 55, 56, 57, 58, 59] (by decide +kernel) (by decide +kernel)) (goodIn_sub (fun _ h => List.mem_cons_of_mem _ (List.mem_append_right _ h)) (by decide +kernel))
set_option maxRecDepth 20000 in
theorem gX11_alter_X11_isEntry : GoodIn wsX11_alter (wsV RX11 387 RX11 yX11_isEntry wsX11_isEntry) := goodIn_app (goodIn_of _ (by decide +kernel)) ggX11_alter_X11_isEntry
set_option maxRecDepth 20000 in
theorem ggX11_alter_X11_shutAll : GoodIn wsX11_alter wsX11_shutAll := goodIn_r _ [12, 13, 14, 15, 16, 17, 18, 19, 20, 21, 22, 23, 24, 25, 26, 27, 28, 29, 30, 31, 32, 33, 34, 35, 36, 37, 38, 39, 40, 41, 42, 43, 44, 45, 46, 47, 48, 49, 50, 51, 52, 53, 54, 55, 56, 57, 58, 59] (by decide +kernel) (by decide +kernel)
set_option maxRecDepth 20000 in
theorem gX11_alter_X11_shutAll : GoodIn wsX11_alter (wsV RX11 378 RX11 yX11_shutAll wsX11_shutAll) := goodIn_app (goodIn_of _ (by decide +kernel)) ggX11_alter_X11_shutAll
theorem dX11_alter_0 : decode cX11_alter 0 = .ok (.aload_n 0, 1) := by decide +kernel
theorem dX11_alter_1 : decode cX11_alter 1 = .ok (.aload_n 0, 1) := by decide +kernel
theorem dX11_alter_2 : decode cX11_alter 2 = .ok (.iload_n 1, 1) := by decide +kernel
theorem dX11_alter_3 : decode cX11_alter 3 = .ok (.iload_n 2, 1) := by decide +kernel
theorem dX11_alter_4 : decode cX11_alter 4 = .ok (.invokevirtual 387, 3) := by decide +kernel
theorem dX11_alter_7 : decode cX11_alter 7 = .ok (.ifCond .eq 7, 3) := by decide +kernel
theorem dX11_alter_10 : decode cX11_alter 10 = .ok (.iconst 0, 1) := by decide +kernel
theorem dX11_alter_11 : decode cX11_alter 11 = .ok (.goto 4, 3) := by decide +kernel
theorem dX11_alter_14 : decode cX11_alter 14 = .ok (.iconst 1, 1) := by decide +kernel
theorem dX11_alter_15 : decode cX11_alter 15 = .ok (.putfield 230, 3) := by decide +kernel
theorem dX11_alter_18 : decode cX11_alter 18 = .ok (.aload_n 0, 1) := by decide +kernel
theorem dX11_alter_19 : decode cX11_alter 19 = .ok (.getfield 230, 3) := by decide +kernel
theorem dX11_alter_22 : decode cX11_alter 22 = .ok (.ifCond .ne 23, 3) := by decide +kernel
theorem dX11_alter_25 : decode cX11_alter 25 = .ok (.aload_n 0, 1) := by decide +kernel
theorem dX11_alter_26 : decode cX11_alter 26 = .ok (.getfield 25, 3) := by decide +kernel
theorem dX11_alter_29 : decode cX11_alter 29 = .ok (.bipush 48, 2) := by decide +kernel
theorem dX11_alter_31 : decode cX11_alter 31 = .ok (.iload_n 1, 1) := by decide +kernel
theorem dX11_alter_32 : decode cX11_alter 32 = .ok (.imul, 1) := by decide +kernel
theorem dX11_alter_33 : decode cX11_alter 33 = .ok (.iload_n 2, 1) := by decide +kernel
theorem dX11_alter_34 : decode cX11_alter 34 = .ok (.iadd, 1) := by decide +kernel
theorem dX11_alter_35 : decode cX11_alter 35 = .ok (.iload_n 3, 1) := by decide +kernel
theorem dX11_alter_36 : decode cX11_alter 36 = .ok (.sipush 255, 3) := by decide +kernel
theorem dX11_alter_39 : decode cX11_alter 39 = .ok (.iand, 1) := by decide +kernel
theorem dX11_alter_40 : decode cX11_alter 40 = .ok (.iastore, 1) := by decide +kernel
theorem dX11_alter_41 : decode cX11_alter 41 = .ok (.aload_n 0, 1) := by decide +kernel
theorem dX11_alter_42 : decode cX11_alter 42 = .ok (.invokevirtual 378, 3) := by decide +kernel
theorem dX11_alter_45 : decode cX11_alter 45 = .ok (.return_, 1) := by decide +kernel
set_option maxRecDepth 20000 in
theorem ggX11_open_X11_openEarly : GoodIn wsX11_open wsX11_openEarly := goodIn_ca (goodIn_r _ [11, 4, 2, 12, 13, 5, 14, 15, 16, 17, 10, 18, 19, 20, 21, 22, 23, 24, 25, 26, 27, 28, 29, 30, 31, 32, 33, 34, 35, 36, 37, 38, 39, 40, 41, 42, 43, 44, 45, 46, 47, 48, 49, 50, 51, 52, 53, 54, 55, 56, 57, 58, 59, 60, 61, 62, 63, 64, 65, 66, 67, 68, 69, 70, 71, 72, 73, 74, 75, 76, 77, 78, 79, 80, 81, 82, 83, 84, 85, 86, 87, 88, 89, 90, 91, 92, 93, 94, 95, 96, 97, 98, 159, 160, 161, 162, 163, 164, 165, 166, 167, 168, 169, 170, 171, 172, 173, 174, 175, 176, 177, 178, 179, 180, 181, 182, 183, 184, 185, 186, 187, 188, 189, 190, 191, 192, 193, 194, 195, 196, 197, 198, 199, 200, 201, 202, 203] (by decide +kernel) (by decide +kernel)) (goodIn_sub (fun _ h => List.mem_cons_of_mem _ (List.mem_append_right _ h)) (by decide +kernel))
set_option maxRecDepth 20000 in
theorem gX11_open_X11_openEarly : GoodIn wsX11_open (wsV RX11 391 RX11 yX11_openEarly wsX11_openEarly) := goodIn_app (goodIn_of _ (by decide +kernel)) ggX11_open_X11_openEarly
set_option maxRecDepth 20000 in
theorem ggX11_open_X11_opensLate : GoodIn wsX11_open wsX11_opensLate := goodIn_ca (goodIn_r _ [102, 4, 2, 35, 13, 24, 34, 103, 104, 105, 10, 106, 29, 36, 37, 38, 39, 40, 41, 42, 43, 44, 107, 108, 109, 110, 53, 111, 112, 113, 114, 115, 116, 117, 118, 59, 119, 120, 60, 61, 62, 63, 64, 65, 66, 67, 71, 72, 73, 74, 75, 76, 77, 121, 122, 123, 124, 125, 126, 127, 128, 129, 130, 131, 132, 133, 134, 135, 136, 137, 138, 139, 140, 141, 142, 143, 144, 145, 146, 147, 148, 149, 150, 151, 152, 153, 159, 160, 161, 162, 163, 164, 165, 166, 167, 168, 169, 170, 171, 172, 173, 174, 175, 176, 177, 178, 179, 180, 181, 182, 183, 184, 185, 186, 187, 188, 189, 190, 191, 192, 193, 194, 195, 196, 197, 198, 199, 200, 201, 202, 203] rfl (by decide +kernel)) (goodIn_sub (fun _ h => List.mem_cons_of_mem _ (List.mem_append_right _ h)) (by decide +kernel))
set_option maxRecDepth 20000 in
theorem gX11_open_X11_opensLate : GoodIn wsX11_open (wsV RX11 394 RX11 yX11_opensLate wsX11_opensLate) := goodIn_app (goodIn_of _ (by decide +kernel)) ggX11_open_X11_opensLate
set_option maxRecDepth 20000 in
theorem ggX11_open_X11_shutAll : GoodIn wsX11_open wsX11_shutAll := goodIn_r _ [157, 6, 158, 159, 160, 161, 162, 163, 164, 165, 166, 167, 168, 169, 170, 171, 172, 173, 174, 175, 176, 177, 178, 179, 180, 181, 182, 183, 184, 185, 186, 187, 188, 189, 190, 191, 192, 193, 194, 195, 196, 197, 198, 199, 200, 201, 202, 203] (by decide +kernel) (by decide +kernel)
set_option maxRecDepth 20000 in
theorem gX11_open_X11_shutAll : GoodIn wsX11_open (wsV RX11 378 RX11 yX11_shutAll wsX11_shutAll) := goodIn_app (goodIn_of _ (by decide +kernel)) ggX11_open_X11_shutAll
theorem dX11_open_0 : decode cX11_open 0 = .ok (.aload_n 0, 1) := by decide +kernel
theorem dX11_open_1 : decode cX11_open 1 = .ok (.iload_n 1, 1) := by decide +kernel
theorem dX11_open_2 : decode cX11_open 2 = .ok (.iconst (-1), 1) := by decide +kernel
theorem dX11_open_3 : decode cX11_open 3 = .ok (.if_icmp .lt 10, 3) := by decide +kernel
theorem dX11_open_6 : decode cX11_open 6 = .ok (.iload_n 1, 1) := by decide +kernel
theorem dX11_open_7 : decode cX11_open 7 = .ok (.sipush 255, 3) := by decide +kernel
theorem dX11_open_10 : decode cX11_open 10 = .ok (.if_icmp .le 7, 3) := by decide +kernel
theorem dX11_open_13 : decode cX11_open 13 = .ok (.iconst 1, 1) := by decide +kernel
theorem dX11_open_14 : decode cX11_open 14 = .ok (.goto 39, 3) := by decide +kernel
theorem dX11_open_17 : decode cX11_open 17 = .ok (.iload_n 1, 1) := by decide +kernel
theorem dX11_open_18 : decode cX11_open 18 = .ok (.iconst (-1), 1) := by decide +kernel
theorem dX11_open_19 : decode cX11_open 19 = .ok (.if_icmp .ne 16, 3) := by decide +kernel
theorem dX11_open_22 : decode cX11_open 22 = .ok (.aload_n 0, 1) := by decide +kernel
theorem dX11_open_23 : decode cX11_open 23 = .ok (.getfield 28, 3) := by decide +kernel
theorem dX11_open_26 : decode cX11_open 26 = .ok (.iconst 0, 1) := by decide +kernel
theorem dX11_open_27 : decode cX11_open 27 = .ok (.iaload, 1) := by decide +kernel
theorem dX11_open_28 : decode cX11_open 28 = .ok (.ifCond .ne 7, 3) := by decide +kernel
theorem dX11_open_31 : decode cX11_open 31 = .ok (.iconst 2, 1) := by decide +kernel
theorem dX11_open_32 : decode cX11_open 32 = .ok (.goto 21, 3) := by decide +kernel
theorem dX11_open_35 : decode cX11_open 35 = .ok (.iload_n 1, 1) := by decide +kernel
theorem dX11_open_36 : decode cX11_open 36 = .ok (.ifCond .lt 16, 3) := by decide +kernel
theorem dX11_open_39 : decode cX11_open 39 = .ok (.aload_n 0, 1) := by decide +kernel
theorem dX11_open_40 : decode cX11_open 40 = .ok (.getfield 339, 3) := by decide +kernel
theorem dX11_open_43 : decode cX11_open 43 = .ok (.bipush 127, 2) := by decide +kernel
theorem dX11_open_45 : decode cX11_open 45 = .ok (.if_icmp .ne 7, 3) := by decide +kernel
theorem dX11_open_48 : decode cX11_open 48 = .ok (.iconst 3, 1) := by decide +kernel
theorem dX11_open_49 : decode cX11_open 49 = .ok (.goto 4, 3) := by decide +kernel
theorem dX11_open_52 : decode cX11_open 52 = .ok (.iconst 0, 1) := by decide +kernel
theorem dX11_open_53 : decode cX11_open 53 = .ok (.putfield 230, 3) := by decide +kernel
theorem dX11_open_56 : decode cX11_open 56 = .ok (.aload_n 0, 1) := by decide +kernel
theorem dX11_open_57 : decode cX11_open 57 = .ok (.getfield 230, 3) := by decide +kernel
theorem dX11_open_60 : decode cX11_open 60 = .ok (.ifCond .le 5, 3) := by decide +kernel
theorem dX11_open_63 : decode cX11_open 63 = .ok (.iconst 0, 1) := by decide +kernel
theorem dX11_open_64 : decode cX11_open 64 = .ok (.ireturn, 1) := by decide +kernel
theorem dX11_open_65 : decode cX11_open 65 = .ok (.iload_n 1, 1) := by decide +kernel
theorem dX11_open_66 : decode cX11_open 66 = .ok (.ifCond .lt 28, 3) := by decide +kernel
theorem dX11_open_69 : decode cX11_open 69 = .ok (.aload_n 0, 1) := by decide +kernel
theorem dX11_open_70 : decode cX11_open 70 = .ok (.getfield 16, 3) := by decide +kernel
theorem dX11_open_73 : decode cX11_open 73 = .ok (.aload_n 0, 1) := by decide +kernel
theorem dX11_open_74 : decode cX11_open 74 = .ok (.getfield 339, 3) := by decide +kernel
theorem dX11_open_77 : decode cX11_open 77 = .ok (.iload_n 1, 1) := by decide +kernel
theorem dX11_open_78 : decode cX11_open 78 = .ok (.iastore, 1) := by decide +kernel
theorem dX11_open_79 : decode cX11_open 79 = .ok (.aload_n 0, 1) := by decide +kernel
theorem dX11_open_80 : decode cX11_open 80 = .ok (.dup, 1) := by decide +kernel
theorem dX11_open_81 : decode cX11_open 81 = .ok (.getfield 339, 3) := by decide +kernel
theorem dX11_open_84 : decode cX11_open 84 = .ok (.iconst 1, 1) := by decide +kernel
theorem dX11_open_85 : decode cX11_open 85 = .ok (.iadd, 1) := by decide +kernel
theorem dX11_open_86 : decode cX11_open 86 = .ok (.putfield 339, 3) := by decide +kernel
theorem dX11_open_89 : decode cX11_open 89 = .ok (.aload_n 0, 1) := by decide +kernel
theorem dX11_open_90 : decode cX11_open 90 = .ok (.getfield 339, 3) := by decide +kernel
theorem dX11_open_93 : decode cX11_open 93 = .ok (.ireturn, 1) := by decide +kernel
theorem dX11_open_94 : decode cX11_open 94 = .ok (.aload_n 0, 1) := by decide +kernel
theorem dX11_open_95 : decode cX11_open 95 = .ok (.getfield 219, 3) := by decide +kernel
theorem dX11_open_98 : decode cX11_open 98 = .ok (.iconst 5, 1) := by decide +kernel
theorem dX11_open_99 : decode cX11_open 99 = .ok (.if_icmp .ge 10, 3) := by decide +kernel
theorem dX11_open_102 : decode cX11_open 102 = .ok (.aload_n 0, 1) := by decide +kernel
theorem dX11_open_103 : decode cX11_open 103 = .ok (.invokevirtual 391, 3) := by decide +kernel
theorem dX11_open_106 : decode cX11_open 106 = .ok (.goto 32, 3) := by decide +kernel
theorem dX11_open_109 : decode cX11_open 109 = .ok (.aload_n 0, 1) := by decide +kernel
theorem dX11_open_110 : decode cX11_open 110 = .ok (.iconst 1, 1) := by decide +kernel
theorem dX11_open_111 : decode cX11_open 111 = .ok (.iconst 3, 1) := by decide +kernel
theorem dX11_open_112 : decode cX11_open 112 = .ok (.iconst 0, 1) := by decide +kernel
theorem dX11_open_113 : decode cX11_open 113 = .ok (.invokevirtual 394, 3) := by decide +kernel
theorem dX11_open_116 : decode cX11_open 116 = .ok (.ifCond .eq 7, 3) := by decide +kernel
theorem dX11_open_119 : decode cX11_open 119 = .ok (.iconst 1, 1) := by decide +kernel
theorem dX11_open_120 : decode cX11_open 120 = .ok (.goto 18, 3) := by decide +kernel
theorem dX11_open_123 : decode cX11_open 123 = .ok (.aload_n 0, 1) := by decide +kernel
theorem dX11_open_124 : decode cX11_open 124 = .ok (.iconst 0, 1) := by decide +kernel
theorem dX11_open_125 : decode cX11_open 125 = .ok (.iconst 2, 1) := by decide +kernel
theorem dX11_open_126 : decode cX11_open 126 = .ok (.iconst 1, 1) := by decide +kernel
theorem dX11_open_127 : decode cX11_open 127 = .ok (.invokevirtual 394, 3) := by decide +kernel
theorem dX11_open_130 : decode cX11_open 130 = .ok (.ifCond .eq 7, 3) := by decide +kernel
theorem dX11_open_133 : decode cX11_open 133 = .ok (.iconst 2, 1) := by decide +kernel
theorem dX11_open_134 : decode cX11_open 134 = .ok (.goto 4, 3) := by decide +kernel
theorem dX11_open_137 : decode cX11_open 137 = .ok (.iconst 0, 1) := by decide +kernel
theorem dX11_open_138 : decode cX11_open 138 = .ok (.istore_n 2, 1) := by decide +kernel
theorem dX11_open_139 : decode cX11_open 139 = .ok (.aload_n 0, 1) := by decide +kernel
theorem dX11_open_140 : decode cX11_open 140 = .ok (.iconst 0, 1) := by decide +kernel
theorem dX11_open_141 : decode cX11_open 141 = .ok (.putfield 339, 3) := by decide +kernel
theorem dX11_open_144 : decode cX11_open 144 = .ok (.aload_n 0, 1) := by decide +kernel
theorem dX11_open_145 : decode cX11_open 145 = .ok (.iload_n 2, 1) := by decide +kernel
theorem dX11_open_146 : decode cX11_open 146 = .ok (.ifCond .le 7, 3) := by decide +kernel
theorem dX11_open_149 : decode cX11_open 149 = .ok (.iconst 1, 1) := by decide +kernel
theorem dX11_open_150 : decode cX11_open 150 = .ok (.goto 4, 3) := by decide +kernel
theorem dX11_open_153 : decode cX11_open 153 = .ok (.iconst 0, 1) := by decide +kernel
theorem dX11_open_154 : decode cX11_open 154 = .ok (.putfield 372, 3) := by decide +kernel
theorem dX11_open_157 : decode cX11_open 157 = .ok (.aload_n 0, 1) := by decide +kernel
theorem dX11_open_158 : decode cX11_open 158 = .ok (.getfield 372, 3) := by decide +kernel
theorem dX11_open_161 : decode cX11_open 161 = .ok (.ifCond .ne 7, 3) := by decide +kernel
theorem dX11_open_164 : decode cX11_open 164 = .ok (.aload_n 0, 1) := by decide +kernel
theorem dX11_open_165 : decode cX11_open 165 = .ok (.invokevirtual 378, 3) := by decide +kernel
theorem dX11_open_168 : decode cX11_open 168 = .ok (.iload_n 2, 1) := by decide +kernel
theorem dX11_open_169 : decode cX11_open 169 = .ok (.ireturn, 1) := by decide +kernel
set_option maxRecDepth 20000 in
theorem ggX11_objectKey_X11_keySize : GoodIn wsX11_objectKey wsX11_keySize := goodIn_r _ [11, 1, 54, 55, 56, 57, 58, 59, 60, 61, 62, 63, 64, 65, 66, 67, 68, 69, 70, 71, 72, 73, 74, 75, 76, 77, 78, 79, 80, 81, 82, 83, 84, 85, 86, 87, 88, 89, 90, 91, 92, 93, 94, 95, 96, 97, 98] (by decide +kernel) (by decide +kernel)
set_option maxRecDepth 20000 in
theorem gX11_objectKey_X11_keySize : GoodIn wsX11_objectKey (wsV RX11 288 RX11 yX11_keySize wsX11_keySize) := goodIn_app (goodIn_of _ (by decide +kernel)) ggX11_objectKey_X11_keySize
set_option maxRecDepth 20000 in
theorem ggX11_objectKey_X11_sayRow : GoodIn wsX11_objectKey wsX11_sayRow := goodIn_ca (goodIn_r _ [15, 16, 17, 18, 10, 19, 20, 4, 54, 55, 56, 57, 58, 59, 60, 61, 62, 63, 64, 65, 66, 67, 68, 69, 70, 71, 72, 73, 74, 75, 76, 77, 78, 79, 80, 81, 82, 83, 84, 85, 86, 87, 88, 89, 90, 91, 92, 93, 94, 95, 96, 97, 98] (by decide +kernel) (by decide +kernel)) (goodIn_sub (fun _ h => List.mem_cons_of_mem _ (List.mem_append_right _ h)) (by decide +kernel))
set_option maxRecDepth 20000 in
theorem gX11_objectKey_X11_sayRow : GoodIn wsX11_objectKey (wsV RX11 292 RX11 yX11_sayRow wsX11_sayRow) := goodIn_app (goodIn_of _ (by decide +kernel)) ggX11_objectKey_X11_sayRow
set_option maxRecDepth 20000 in
theorem ggX11_objectKey_X11_sayLow : GoodIn wsX11_objectKey wsX11_sayLow := goodIn_ca (goodIn_r _ [24, 16, 17, 18, 10, 19, 20, 4, 54, 55, 56, 57, 58, 59, 60, 61, 62, 63, 64, 65, 66, 67, 68, 69, 70, 71, 72, 73, 74, 75, 76, 77, 78, 79, 80, 81, 82, 83, 84, 85, 86, 87, 88, 89, 90, 91, 92, 93, 94, 95, 96, 97, 98] (by decide +kernel) (by decide +kernel)) (goodIn_sub (fun _ h => List.mem_cons_of_mem _ (List.mem_append_right _ h)) (by decide +kernel))
set_option maxRecDepth 20000 in
theorem gX11_objectKey_X11_sayLow : GoodIn wsX11_objectKey (wsV RX11 305 RX11 yX11_sayLow wsX11_sayLow) := goodIn_app (goodIn_of _ (by decide +kernel)) ggX11_objectKey_X11_sayLow
set_option maxRecDepth 20000 in
theorem ggX11_objectKey_X11_small : GoodIn wsX11_objectKey wsX11_small := goodIn_ca (goodIn_r _ [28, 29, 30, 31, 32, 33, 34, 35, 36, 37, 38, 10, 39, 4, 16, 17, 18, 19, 20, 40, 41, 42, 43, 44, 45, 46, 47, 48, 49, 50, 51, 52, 53, 2, 54, 55, 56, 57, 58, 59, 60, 61, 62, 63, 64, 65, 66, 67, 68, 69, 70, 71, 72, 73, 74, 75, 76, 77, 78, 79, 80, 81, 82, 83, 84, 85, 86, 87, 88, 89, 90, 91, 92, 93, 94, 95, 96, 97, 98] (by decide +kernel) (by decide +kernel)) (goodIn_sub (fun _ h => List.mem_cons_of_mem _ (List.mem_append_right _ h)) (by decide +kernel))
set_option maxRecDepth 20000 in
theorem gX11_objectKey_X11_small : GoodIn wsX11_objectKey (wsV RX11 296 RX11 yX11_small wsX11_small) := goodIn_app (goodIn_of _ (by decide +kernel)) ggX11_objectKey_X11_small
theorem dX11_objectKey_0 : decode cX11_objectKey 0 = .ok (.aload_n 0, 1) := by decide +kernel
theorem dX11_objectKey_1 : decode cX11_objectKey 1 = .ok (.getfield 219, 3) := by decide +kernel
theorem dX11_objectKey_4 : decode cX11_objectKey 4 = .ok (.iconst 5, 1) := by decide +kernel
theorem dX11_objectKey_5 : decode cX11_objectKey 5 = .ok (.if_icmp .ne 32, 3) := by decide +kernel
theorem dX11_objectKey_8 : decode cX11_objectKey 8 = .ok (.iconst 0, 1) := by decide +kernel
theorem dX11_objectKey_9 : decode cX11_objectKey 9 = .ok (.istore_n 3, 1) := by decide +kernel
theorem dX11_objectKey_10 : decode cX11_objectKey 10 = .ok (.iload_n 3, 1) := by decide +kernel
theorem dX11_objectKey_11 : decode cX11_objectKey 11 = .ok (.bipush 32, 2) := by decide +kernel
theorem dX11_objectKey_13 : decode cX11_objectKey 13 = .ok (.if_icmp .ge 21, 3) := by decide +kernel
theorem dX11_objectKey_16 : decode cX11_objectKey 16 = .ok (.aload_n 0, 1) := by decide +kernel
theorem dX11_objectKey_17 : decode cX11_objectKey 17 = .ok (.getfield 43, 3) := by decide +kernel
theorem dX11_objectKey_20 : decode cX11_objectKey 20 = .ok (.iload_n 3, 1) := by decide +kernel
theorem dX11_objectKey_21 : decode cX11_objectKey 21 = .ok (.aload_n 0, 1) := by decide +kernel
theorem dX11_objectKey_22 : decode cX11_objectKey 22 = .ok (.getfield 31, 3) := by decide +kernel
theorem dX11_objectKey_25 : decode cX11_objectKey 25 = .ok (.iload_n 3, 1) := by decide +kernel
theorem dX11_objectKey_26 : decode cX11_objectKey 26 = .ok (.iaload, 1) := by decide +kernel
theorem dX11_objectKey_27 : decode cX11_objectKey 27 = .ok (.iastore, 1) := by decide +kernel
theorem dX11_objectKey_28 : decode cX11_objectKey 28 = .ok (.iinc 3 1, 3) := by decide +kernel
theorem dX11_objectKey_31 : decode cX11_objectKey 31 = .ok (.goto (-21), 3) := by decide +kernel
theorem dX11_objectKey_34 : decode cX11_objectKey 34 = .ok (.bipush 32, 2) := by decide +kernel
theorem dX11_objectKey_36 : decode cX11_objectKey 36 = .ok (.ireturn, 1) := by decide +kernel
theorem dX11_objectKey_37 : decode cX11_objectKey 37 = .ok (.aload_n 0, 1) := by decide +kernel
theorem dX11_objectKey_38 : decode cX11_objectKey 38 = .ok (.iconst 0, 1) := by decide +kernel
theorem dX11_objectKey_39 : decode cX11_objectKey 39 = .ok (.putfield 233, 3) := by decide +kernel
theorem dX11_objectKey_42 : decode cX11_objectKey 42 = .ok (.aload_n 0, 1) := by decide +kernel
theorem dX11_objectKey_43 : decode cX11_objectKey 43 = .ok (.aload_n 0, 1) := by decide +kernel
theorem dX11_objectKey_44 : decode cX11_objectKey 44 = .ok (.getfield 31, 3) := by decide +kernel
theorem dX11_objectKey_47 : decode cX11_objectKey 47 = .ok (.iconst 0, 1) := by decide +kernel
theorem dX11_objectKey_48 : decode cX11_objectKey 48 = .ok (.aload_n 0, 1) := by decide +kernel
theorem dX11_objectKey_49 : decode cX11_objectKey 49 = .ok (.invokevirtual 288, 3) := by decide +kernel
theorem dX11_objectKey_52 : decode cX11_objectKey 52 = .ok (.invokevirtual 292, 3) := by decide +kernel
theorem dX11_objectKey_55 : decode cX11_objectKey 55 = .ok (.aload_n 0, 1) := by decide +kernel
theorem dX11_objectKey_56 : decode cX11_objectKey 56 = .ok (.iload_n 1, 1) := by decide +kernel
theorem dX11_objectKey_57 : decode cX11_objectKey 57 = .ok (.iconst 3, 1) := by decide +kernel
theorem dX11_objectKey_58 : decode cX11_objectKey 58 = .ok (.invokevirtual 305, 3) := by decide +kernel
theorem dX11_objectKey_61 : decode cX11_objectKey 61 = .ok (.aload_n 0, 1) := by decide +kernel
theorem dX11_objectKey_62 : decode cX11_objectKey 62 = .ok (.iload_n 2, 1) := by decide +kernel
theorem dX11_objectKey_63 : decode cX11_objectKey 63 = .ok (.iconst 2, 1) := by decide +kernel
theorem dX11_objectKey_64 : decode cX11_objectKey 64 = .ok (.invokevirtual 305, 3) := by decide +kernel
theorem dX11_objectKey_67 : decode cX11_objectKey 67 = .ok (.aload_n 0, 1) := by decide +kernel
theorem dX11_objectKey_68 : decode cX11_objectKey 68 = .ok (.getfield 223, 3) := by decide +kernel
theorem dX11_objectKey_71 : decode cX11_objectKey 71 = .ok (.iconst 2, 1) := by decide +kernel
theorem dX11_objectKey_72 : decode cX11_objectKey 72 = .ok (.if_icmp .ne 11, 3) := by decide +kernel
theorem dX11_objectKey_75 : decode cX11_objectKey 75 = .ok (.aload_n 0, 1) := by decide +kernel
theorem dX11_objectKey_76 : decode cX11_objectKey 76 = .ok (.ldc_w 398, 3) := by decide +kernel
theorem dX11_objectKey_79 : decode cX11_objectKey 79 = .ok (.iconst 4, 1) := by decide +kernel
theorem dX11_objectKey_80 : decode cX11_objectKey 80 = .ok (.invokevirtual 305, 3) := by decide +kernel
theorem dX11_objectKey_83 : decode cX11_objectKey 83 = .ok (.aload_n 0, 1) := by decide +kernel
theorem dX11_objectKey_84 : decode cX11_objectKey 84 = .ok (.invokevirtual 296, 3) := by decide +kernel
theorem dX11_objectKey_87 : decode cX11_objectKey 87 = .ok (.aload_n 0, 1) := by decide +kernel
theorem dX11_objectKey_88 : decode cX11_objectKey 88 = .ok (.invokevirtual 288, 3) := by decide +kernel
theorem dX11_objectKey_91 : decode cX11_objectKey 91 = .ok (.iconst 5, 1) := by decide +kernel
theorem dX11_objectKey_92 : decode cX11_objectKey 92 = .ok (.iadd, 1) := by decide +kernel
theorem dX11_objectKey_93 : decode cX11_objectKey 93 = .ok (.bipush 16, 2) := by decide +kernel
theorem dX11_objectKey_95 : decode cX11_objectKey 95 = .ok (.if_icmp .ge 12, 3) := by decide +kernel
theorem dX11_objectKey_98 : decode cX11_objectKey 98 = .ok (.aload_n 0, 1) := by decide +kernel
theorem dX11_objectKey_99 : decode cX11_objectKey 99 = .ok (.invokevirtual 288, 3) := by decide +kernel
theorem dX11_objectKey_102 : decode cX11_objectKey 102 = .ok (.iconst 5, 1) := by decide +kernel
theorem dX11_objectKey_103 : decode cX11_objectKey 103 = .ok (.iadd, 1) := by decide +kernel
theorem dX11_objectKey_104 : decode cX11_objectKey 104 = .ok (.goto 5, 3) := by decide +kernel
theorem dX11_objectKey_107 : decode cX11_objectKey 107 = .ok (.bipush 16, 2) := by decide +kernel
theorem dX11_objectKey_109 : decode cX11_objectKey 109 = .ok (.ireturn, 1) := by decide +kernel
theorem dX11_become_0 : decode cX11_become 0 = .ok (.iconst 0, 1) := by decide +kernel
theorem dX11_become_1 : decode cX11_become 1 = .ok (.istore 4, 2) := by decide +kernel
theorem dX11_become_3 : decode cX11_become 3 = .ok (.iload 4, 2) := by decide +kernel
theorem dX11_become_5 : decode cX11_become 5 = .ok (.iload_n 3, 1) := by decide +kernel
theorem dX11_become_6 : decode cX11_become 6 = .ok (.if_icmp .ge 22, 3) := by decide +kernel
theorem dX11_become_9 : decode cX11_become 9 = .ok (.aload_n 0, 1) := by decide +kernel
theorem dX11_become_10 : decode cX11_become 10 = .ok (.getfield 37, 3) := by decide +kernel
theorem dX11_become_13 : decode cX11_become 13 = .ok (.iload 4, 2) := by decide +kernel
theorem dX11_become_15 : decode cX11_become 15 = .ok (.aload_n 1, 1) := by decide +kernel
theorem dX11_become_16 : decode cX11_become 16 = .ok (.iload_n 2, 1) := by decide +kernel
theorem dX11_become_17 : decode cX11_become 17 = .ok (.iload 4, 2) := by decide +kernel
theorem dX11_become_19 : decode cX11_become 19 = .ok (.iadd, 1) := by decide +kernel
theorem dX11_become_20 : decode cX11_become 20 = .ok (.iaload, 1) := by decide +kernel
theorem dX11_become_21 : decode cX11_become 21 = .ok (.iastore, 1) := by decide +kernel
theorem dX11_become_22 : decode cX11_become 22 = .ok (.iinc 4 1, 3) := by decide +kernel
theorem dX11_become_25 : decode cX11_become 25 = .ok (.goto (-22), 3) := by decide +kernel
theorem dX11_become_28 : decode cX11_become 28 = .ok (.aload_n 0, 1) := by decide +kernel
theorem dX11_become_29 : decode cX11_become 29 = .ok (.iload_n 3, 1) := by decide +kernel
theorem dX11_become_30 : decode cX11_become 30 = .ok (.putfield 399, 3) := by decide +kernel
theorem dX11_become_33 : decode cX11_become 33 = .ok (.iload_n 3, 1) := by decide +kernel
theorem dX11_become_34 : decode cX11_become 34 = .ok (.ireturn, 1) := by decide +kernel
set_option maxRecDepth 20000 in
theorem ggX11_key_X11_objectKey : GoodIn wsX11_key wsX11_objectKey := goodIn_ca (goodIn_r _ [8, 9, 3, 10, 11, 12, 13, 14, 15, 16, 7, 17, 18, 19, 20, 21, 22, 23, 24, 25, 26, 27, 28, 29, 30, 31, 32, 33, 34, 35, 36, 37, 38, 39, 40, 41, 42, 43, 44, 45, 46, 47, 48, 49, 50, 51, 52, 53, 54, 55, 56, 57, 58, 59, 66, 67, 68, 69, 70, 71, 72, 73, 74, 75, 76, 77, 78, 79, 80, 81, 82, 83, 84, 85, 86, 87, 88, 89, 90, 91, 92, 93, 94, 95, 96, 97, 98, 99, 100, 101, 102, 103, 104, 105, 106, 107, 108, 109, 110] (by decide +kernel) (by decide +kernel)) (goodIn_sub (fun _ h => List.mem_cons_of_mem _ (List.mem_append_right _ h)) (by decide +kernel))
set_option maxRecDepth 20000 in
theorem gX11_key_X11_objectKey : GoodIn wsX11_key (wsV RX11 402 RX11 yX11_objectKey wsX11_objectKey) := goodIn_app (goodIn_of _ (by decide +kernel)) ggX11_key_X11_objectKey
set_option maxRecDepth 20000 in
theorem ggX11_key_X11_become : GoodIn wsX11_key wsX11_become := goodIn_ca (goodIn_r _ [63, 64, 65, 66, 67, 68, 69, 70, 71, 72, 73, 74, 75, 76, 77, 78, 79, 80, 81, 82, 83, 84, 85, 86, 87, 88, 89, 90, 91, 92, 93, 94, 95, 96, 97, 98, 99, 100, 101, 102, 103, 104, 105, 106, 107, 108, 109, 110] (by decide +kernel) (by decide +kernel)) (goodIn_sub (fun _ h => List.mem_cons_of_mem _ (List.mem_append_right _ h)) (by decide +kernel))
set_option maxRecDepth 20000 in
theorem gX11_key_X11_become : GoodIn wsX11_key (wsV RX11 405 RX11 yX11_become wsX11_become) := goodIn_app (goodIn_of _ (by decide +kernel)) ggX11_key_X11_become
theorem dX11_key_0 : decode cX11_key 0 = .ok (.aload_n 0, 1) := by decide +kernel
theorem dX11_key_1 : decode cX11_key 1 = .ok (.aload_n 0, 1) := by decide +kernel
theorem dX11_key_2 : decode cX11_key 2 = .ok (.getfield 372, 3) := by decide +kernel
theorem dX11_key_5 : decode cX11_key 5 = .ok (.ifCond .eq 7, 3) := by decide +kernel
theorem dX11_key_8 : decode cX11_key 8 = .ok (.iconst 0, 1) := by decide +kernel
theorem dX11_key_9 : decode cX11_key 9 = .ok (.goto 4, 3) := by decide +kernel
theorem dX11_key_12 : decode cX11_key 12 = .ok (.iconst 1, 1) := by decide +kernel
theorem dX11_key_13 : decode cX11_key 13 = .ok (.putfield 230, 3) := by decide +kernel
theorem dX11_key_16 : decode cX11_key 16 = .ok (.aload_n 0, 1) := by decide +kernel
theorem dX11_key_17 : decode cX11_key 17 = .ok (.getfield 230, 3) := by decide +kernel
theorem dX11_key_20 : decode cX11_key 20 = .ok (.ifCond .le 7, 3) := by decide +kernel
theorem dX11_key_23 : decode cX11_key 23 = .ok (.iconst 0, 1) := by decide +kernel
theorem dX11_key_24 : decode cX11_key 24 = .ok (.goto 18, 3) := by decide +kernel
theorem dX11_key_27 : decode cX11_key 27 = .ok (.aload_n 0, 1) := by decide +kernel
