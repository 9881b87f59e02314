theorem dX7_init_18 : decode cX7_init 18 = .ok (.newarray .int, 2) := by decide +kernel
theorem dX7_init_20 : decode cX7_init 20 = .ok (.putfield 16, 3) := by decide +kernel
theorem dX7_init_23 : decode cX7_init 23 = .ok (.aload_n 0, 1) := by decide +kernel
theorem dX7_init_24 : decode cX7_init 24 = .ok (.bipush 16, 2) := by decide +kernel
theorem dX7_init_26 : decode cX7_init 26 = .ok (.iconst 3, 1) := by decide +kernel
theorem dX7_init_27 : decode cX7_init 27 = .ok (.multianewarray 20 2, 4) := by decide +kernel
theorem dX7_init_31 : decode cX7_init 31 = .ok (.putfield 22, 3) := by decide +kernel
theorem dX7_init_34 : decode cX7_init 34 = .ok (.aload_n 0, 1) := by decide +kernel
theorem dX7_init_35 : decode cX7_init 35 = .ok (.bipush 16, 2) := by decide +kernel
theorem dX7_init_37 : decode cX7_init 37 = .ok (.iconst 2, 1) := by decide +kernel
theorem dX7_init_38 : decode cX7_init 38 = .ok (.multianewarray 25 2, 4) := by decide +kernel
theorem dX7_init_42 : decode cX7_init 42 = .ok (.putfield 27, 3) := by decide +kernel
theorem dX7_init_45 : decode cX7_init 45 = .ok (.aload_n 0, 1) := by decide +kernel
theorem dX7_init_46 : decode cX7_init 46 = .ok (.iconst 0, 1) := by decide +kernel
theorem dX7_init_47 : decode cX7_init 47 = .ok (.anewarray 30, 3) := by decide +kernel
theorem dX7_init_50 : decode cX7_init 50 = .ok (.putfield 31, 3) := by decide +kernel
theorem dX7_init_53 : decode cX7_init 53 = .ok (.aload_n 0, 1) := by decide +kernel
theorem dX7_init_54 : decode cX7_init 54 = .ok (.iconst 3, 1) := by decide +kernel
theorem dX7_init_55 : decode cX7_init 55 = .ok (.newarray .int, 2) := by decide +kernel
theorem dX7_init_57 : decode cX7_init 57 = .ok (.dup, 1) := by decide +kernel
theorem dX7_init_58 : decode cX7_init 58 = .ok (.iconst 0, 1) := by decide +kernel
theorem dX7_init_59 : decode cX7_init 59 = .ok (.bipush 40, 2) := by decide +kernel
theorem dX7_init_61 : decode cX7_init 61 = .ok (.iastore, 1) := by decide +kernel
theorem dX7_init_62 : decode cX7_init 62 = .ok (.dup, 1) := by decide +kernel
theorem dX7_init_63 : decode cX7_init 63 = .ok (.iconst 1, 1) := by decide +kernel
theorem dX7_init_64 : decode cX7_init 64 = .ok (.bipush 40, 2) := by decide +kernel
theorem dX7_init_66 : decode cX7_init 66 = .ok (.iastore, 1) := by decide +kernel
theorem dX7_init_67 : decode cX7_init 67 = .ok (.dup, 1) := by decide +kernel
theorem dX7_init_68 : decode cX7_init 68 = .ok (.iconst 2, 1) := by decide +kernel
theorem dX7_init_69 : decode cX7_init 69 = .ok (.bipush 40, 2) := by decide +kernel
theorem dX7_init_71 : decode cX7_init 71 = .ok (.iastore, 1) := by decide +kernel
theorem dX7_init_72 : decode cX7_init 72 = .ok (.putfield 34, 3) := by decide +kernel
theorem dX7_init_75 : decode cX7_init 75 = .ok (.aload_n 0, 1) := by decide +kernel
theorem dX7_init_76 : decode cX7_init 76 = .ok (.bipush 10, 2) := by decide +kernel
theorem dX7_init_78 : decode cX7_init 78 = .ok (.putfield 37, 3) := by decide +kernel
theorem dX7_init_81 : decode cX7_init 81 = .ok (.aload_n 0, 1) := by decide +kernel
theorem dX7_init_82 : decode cX7_init 82 = .ok (.sipush 300, 3) := by decide +kernel
theorem dX7_init_85 : decode cX7_init 85 = .ok (.putfield 41, 3) := by decide +kernel
theorem dX7_init_88 : decode cX7_init 88 = .ok (.aload_n 0, 1) := by decide +kernel
theorem dX7_init_89 : decode cX7_init 89 = .ok (.bipush 6, 2) := by decide +kernel
theorem dX7_init_91 : decode cX7_init 91 = .ok (.newarray .int, 2) := by decide +kernel
theorem dX7_init_93 : decode cX7_init 93 = .ok (.putfield 44, 3) := by decide +kernel
theorem dX7_init_96 : decode cX7_init 96 = .ok (.aload_n 0, 1) := by decide +kernel
theorem dX7_init_97 : decode cX7_init 97 = .ok (.aload_n 1, 1) := by decide +kernel
theorem dX7_init_98 : decode cX7_init 98 = .ok (.putfield 47, 3) := by decide +kernel
theorem dX7_init_101 : decode cX7_init 101 = .ok (.aload_n 0, 1) := by decide +kernel
theorem dX7_init_102 : decode cX7_init 102 = .ok (.iload_n 2, 1) := by decide +kernel
theorem dX7_init_103 : decode cX7_init 103 = .ok (.putfield 50, 3) := by decide +kernel
theorem dX7_init_106 : decode cX7_init 106 = .ok (.iconst 0, 1) := by decide +kernel
theorem dX7_init_107 : decode cX7_init 107 = .ok (.istore_n 3, 1) := by decide +kernel
theorem dX7_init_108 : decode cX7_init 108 = .ok (.iload_n 3, 1) := by decide +kernel
theorem dX7_init_109 : decode cX7_init 109 = .ok (.bipush 16, 2) := by decide +kernel
theorem dX7_init_111 : decode cX7_init 111 = .ok (.if_icmp .ge 17, 3) := by decide +kernel
theorem dX7_init_114 : decode cX7_init 114 = .ok (.aload_n 0, 1) := by decide +kernel
theorem dX7_init_115 : decode cX7_init 115 = .ok (.getfield 16, 3) := by decide +kernel
theorem dX7_init_118 : decode cX7_init 118 = .ok (.iload_n 3, 1) := by decide +kernel
theorem dX7_init_119 : decode cX7_init 119 = .ok (.bipush 40, 2) := by decide +kernel
theorem dX7_init_121 : decode cX7_init 121 = .ok (.iastore, 1) := by decide +kernel
theorem dX7_init_122 : decode cX7_init 122 = .ok (.iinc 3 1, 3) := by decide +kernel
theorem dX7_init_125 : decode cX7_init 125 = .ok (.goto (-17), 3) := by decide +kernel
theorem dX7_init_128 : decode cX7_init 128 = .ok (.return_, 1) := by decide +kernel
set_option maxRecDepth 20000 in
theorem ggX7_draw_L_cell : GoodIn wsX7_draw wsL_cell := goodIn_r _ [5, 6] (by decide +kernel) (by decide +kernel)
set_option maxRecDepth 20000 in
theorem gX7_draw_L_cell_n53 : GoodIn wsX7_draw (wsL_cell) := ggX7_draw_L_cell
set_option maxRecDepth 20000 in
theorem ggX7_draw_L_below : GoodIn wsX7_draw wsL_below := goodIn_r _ [8, 9] (by decide +kernel) (by decide +kernel)
set_option maxRecDepth 20000 in
theorem gX7_draw_L_below_n59 : GoodIn wsX7_draw (wsL_below) := ggX7_draw_L_below
theorem dX7_draw_0 : decode cX7_draw 0 = .ok (.aload_n 0, 1) := by decide +kernel
theorem dX7_draw_1 : decode cX7_draw 1 = .ok (.getfield 47, 3) := by decide +kernel
theorem dX7_draw_4 : decode cX7_draw 4 = .ok (.aload_n 0, 1) := by decide +kernel
theorem dX7_draw_5 : decode cX7_draw 5 = .ok (.getfield 50, 3) := by decide +kernel
theorem dX7_draw_8 : decode cX7_draw 8 = .ok (.bipush 24, 2) := by decide +kernel
theorem dX7_draw_10 : decode cX7_draw 10 = .ok (.irem, 1) := by decide +kernel
theorem dX7_draw_11 : decode cX7_draw 11 = .ok (.invokestatic 53, 3) := by decide +kernel
theorem dX7_draw_14 : decode cX7_draw 14 = .ok (.aload_n 0, 1) := by decide +kernel
theorem dX7_draw_15 : decode cX7_draw 15 = .ok (.getfield 50, 3) := by decide +kernel
theorem dX7_draw_18 : decode cX7_draw 18 = .ok (.bipush 24, 2) := by decide +kernel
theorem dX7_draw_20 : decode cX7_draw 20 = .ok (.idiv, 1) := by decide +kernel
theorem dX7_draw_21 : decode cX7_draw 21 = .ok (.bipush 8, 2) := by decide +kernel
theorem dX7_draw_23 : decode cX7_draw 23 = .ok (.irem, 1) := by decide +kernel
theorem dX7_draw_24 : decode cX7_draw 24 = .ok (.ishr, 1) := by decide +kernel
theorem dX7_draw_25 : decode cX7_draw 25 = .ok (.sipush 283, 3) := by decide +kernel
theorem dX7_draw_28 : decode cX7_draw 28 = .ok (.aload_n 0, 1) := by decide +kernel
theorem dX7_draw_29 : decode cX7_draw 29 = .ok (.getfield 50, 3) := by decide +kernel
theorem dX7_draw_32 : decode cX7_draw 32 = .ok (.imul, 1) := by decide +kernel
theorem dX7_draw_33 : decode cX7_draw 33 = .ok (.iadd, 1) := by decide +kernel
theorem dX7_draw_34 : decode cX7_draw 34 = .ok (.iload_n 1, 1) := by decide +kernel
theorem dX7_draw_35 : decode cX7_draw 35 = .ok (.invokestatic 59, 3) := by decide +kernel
theorem dX7_draw_38 : decode cX7_draw 38 = .ok (.istore_n 2, 1) := by decide +kernel
theorem dX7_draw_39 : decode cX7_draw 39 = .ok (.aload_n 0, 1) := by decide +kernel
theorem dX7_draw_40 : decode cX7_draw 40 = .ok (.dup, 1) := by decide +kernel
theorem dX7_draw_41 : decode cX7_draw 41 = .ok (.getfield 50, 3) := by decide +kernel
theorem dX7_draw_44 : decode cX7_draw 44 = .ok (.iconst 1, 1) := by decide +kernel
theorem dX7_draw_45 : decode cX7_draw 45 = .ok (.iadd, 1) := by decide +kernel
theorem dX7_draw_46 : decode cX7_draw 46 = .ok (.putfield 50, 3) := by decide +kernel
theorem dX7_draw_49 : decode cX7_draw 49 = .ok (.iload_n 2, 1) := by decide +kernel
theorem dX7_draw_50 : decode cX7_draw 50 = .ok (.ireturn, 1) := by decide +kernel
set_option maxRecDepth 20000 in
theorem ggX7_lay_X6_cell : GoodIn wsX7_lay wsX6_cell := goodIn_ca (goodIn_ca (goodIn_r _ [9, 10, 11, 12, 13, 14, 15, 8, 16, 17, 18, 19, 20, 21, 22, 23, 24, 25, 26, 27, 28, 29, 30, 31, 32, 33, 34, 57, 58, 59, 60, 61, 62, 63, 64, 65, 66, 67, 68, 69, 70, 71, 72, 73, 74, 75, 76, 77, 78, 79, 80, 81, 82, 83] (by decide +kernel) (by decide +kernel)) (goodIn_sub (fun _ h => List.mem_cons_of_mem _ (List.mem_append_left _ (List.mem_append_right _ h))) (by decide +kernel))) (goodIn_sub (fun _ h => List.mem_cons_of_mem _ (List.mem_append_right _ h)) (by decide +kernel))
set_option maxRecDepth 20000 in
theorem gX7_lay_X6_cell : GoodIn wsX7_lay (wsV RX7 63 RX6 yX6_cell wsX6_cell) := goodIn_app (goodIn_of _ (by decide +kernel)) ggX7_lay_X6_cell
set_option maxRecDepth 20000 in
theorem ggX7_lay_X7_pressure : GoodIn wsX7_lay wsX7_pressure := goodIn_r _ [39, 2, 40, 41, 42, 38, 43, 3, 44, 45, 46, 47, 48, 49, 50, 51, 52, 53, 54, 55, 56] (by decide +kernel) (by decide +kernel)
set_option maxRecDepth 20000 in
theorem gX7_lay_X7_pressure : GoodIn wsX7_lay (wsV RX7 66 RX7 yX7_pressure wsX7_pressure) := goodIn_app (goodIn_of _ (by decide +kernel)) ggX7_lay_X7_pressure
theorem dX7_lay_0 : decode cX7_lay 0 = .ok (.iconst 3, 1) := by decide +kernel
theorem dX7_lay_1 : decode cX7_lay 1 = .ok (.newarray .int, 2) := by decide +kernel
theorem dX7_lay_3 : decode cX7_lay 3 = .ok (.dup, 1) := by decide +kernel
theorem dX7_lay_4 : decode cX7_lay 4 = .ok (.iconst 0, 1) := by decide +kernel
theorem dX7_lay_5 : decode cX7_lay 5 = .ok (.iload_n 3, 1) := by decide +kernel
theorem dX7_lay_6 : decode cX7_lay 6 = .ok (.iastore, 1) := by decide +kernel
theorem dX7_lay_7 : decode cX7_lay 7 = .ok (.dup, 1) := by decide +kernel
theorem dX7_lay_8 : decode cX7_lay 8 = .ok (.iconst 1, 1) := by decide +kernel
theorem dX7_lay_9 : decode cX7_lay 9 = .ok (.iload 4, 2) := by decide +kernel
theorem dX7_lay_11 : decode cX7_lay 11 = .ok (.iastore, 1) := by decide +kernel
theorem dX7_lay_12 : decode cX7_lay 12 = .ok (.dup, 1) := by decide +kernel
theorem dX7_lay_13 : decode cX7_lay 13 = .ok (.iconst 2, 1) := by decide +kernel
theorem dX7_lay_14 : decode cX7_lay 14 = .ok (.iload 5, 2) := by decide +kernel
theorem dX7_lay_16 : decode cX7_lay 16 = .ok (.iastore, 1) := by decide +kernel
theorem dX7_lay_17 : decode cX7_lay 17 = .ok (.astore 6, 2) := by decide +kernel
theorem dX7_lay_19 : decode cX7_lay 19 = .ok (.aload_n 0, 1) := by decide +kernel
theorem dX7_lay_20 : decode cX7_lay 20 = .ok (.getfield 16, 3) := by decide +kernel
theorem dX7_lay_23 : decode cX7_lay 23 = .ok (.iload_n 1, 1) := by decide +kernel
theorem dX7_lay_24 : decode cX7_lay 24 = .ok (.iload_n 2, 1) := by decide +kernel
theorem dX7_lay_25 : decode cX7_lay 25 = .ok (.iastore, 1) := by decide +kernel
theorem dX7_lay_26 : decode cX7_lay 26 = .ok (.aload_n 0, 1) := by decide +kernel
theorem dX7_lay_27 : decode cX7_lay 27 = .ok (.getfield 22, 3) := by decide +kernel
theorem dX7_lay_30 : decode cX7_lay 30 = .ok (.iload_n 1, 1) := by decide +kernel
theorem dX7_lay_31 : decode cX7_lay 31 = .ok (.aload 6, 2) := by decide +kernel
theorem dX7_lay_33 : decode cX7_lay 33 = .ok (.aastore, 1) := by decide +kernel
theorem dX7_lay_34 : decode cX7_lay 34 = .ok (.aload_n 0, 1) := by decide +kernel
theorem dX7_lay_35 : decode cX7_lay 35 = .ok (.getfield 10, 3) := by decide +kernel
theorem dX7_lay_38 : decode cX7_lay 38 = .ok (.iload_n 1, 1) := by decide +kernel
theorem dX7_lay_39 : decode cX7_lay 39 = .ok (.iload_n 2, 1) := by decide +kernel
theorem dX7_lay_40 : decode cX7_lay 40 = .ok (.iload_n 3, 1) := by decide +kernel
theorem dX7_lay_41 : decode cX7_lay 41 = .ok (.iload 4, 2) := by decide +kernel
theorem dX7_lay_43 : decode cX7_lay 43 = .ok (.iload 5, 2) := by decide +kernel
theorem dX7_lay_45 : decode cX7_lay 45 = .ok (.invokevirtual 63, 3) := by decide +kernel
theorem dX7_lay_48 : decode cX7_lay 48 = .ok (.aload_n 0, 1) := by decide +kernel
theorem dX7_lay_49 : decode cX7_lay 49 = .ok (.iload_n 1, 1) := by decide +kernel
theorem dX7_lay_50 : decode cX7_lay 50 = .ok (.invokevirtual 66, 3) := by decide +kernel
theorem dX7_lay_53 : decode cX7_lay 53 = .ok (.if_icmp .ne 7, 3) := by decide +kernel
theorem dX7_lay_56 : decode cX7_lay 56 = .ok (.iconst 1, 1) := by decide +kernel
theorem dX7_lay_57 : decode cX7_lay 57 = .ok (.goto 4, 3) := by decide +kernel
theorem dX7_lay_60 : decode cX7_lay 60 = .ok (.iconst 0, 1) := by decide +kernel
theorem dX7_lay_61 : decode cX7_lay 61 = .ok (.ireturn, 1) := by decide +kernel
set_option maxRecDepth 20000 in
theorem ggX7_well_X6_well : GoodIn wsX7_well wsX6_well := goodIn_ca (goodIn_ca (goodIn_ca (goodIn_r _ [13, 14, 15, 16, 17, 18, 19, 20, 21, 22, 12, 23, 24, 25, 26, 27, 28, 29, 30, 44, 45, 46, 47, 48, 49, 50, 51, 52, 53, 54, 55, 56, 57, 58, 59, 60, 61, 62, 63, 64, 65, 66, 67, 68, 69, 70, 71] (by decide +kernel) (by decide +kernel)) (goodIn_sub (fun _ h => List.mem_cons_of_mem _ (List.mem_append_left _ (List.mem_append_left _ (List.mem_append_right _ h)))) (by decide +kernel))) (goodIn_sub (fun _ h => List.mem_cons_of_mem _ (List.mem_append_left _ (List.mem_append_right _ h))) (by decide +kernel))) (goodIn_sub (fun _ h => List.mem_cons_of_mem _ (List.mem_append_right _ h)) (by decide +kernel))
set_option maxRecDepth 20000 in
theorem gX7_well_X6_well : GoodIn wsX7_well (wsV RX7 76 RX6 yX6_well wsX6_well) := goodIn_app (goodIn_of _ (by decide +kernel)) ggX7_well_X6_well
theorem dX7_well_0 : decode cX7_well 0 = .ok (.aload_n 0, 1) := by decide +kernel
theorem dX7_well_1 : decode cX7_well 1 = .ok (.getfield 31, 3) := by decide +kernel
theorem dX7_well_4 : decode cX7_well 4 = .ok (.arraylength, 1) := by decide +kernel
theorem dX7_well_5 : decode cX7_well 5 = .ok (.iconst 1, 1) := by decide +kernel
theorem dX7_well_6 : decode cX7_well 6 = .ok (.iadd, 1) := by decide +kernel
theorem dX7_well_7 : decode cX7_well 7 = .ok (.anewarray 30, 3) := by decide +kernel
theorem dX7_well_10 : decode cX7_well 10 = .ok (.astore_n 3, 1) := by decide +kernel
theorem dX7_well_11 : decode cX7_well 11 = .ok (.aload_n 0, 1) := by decide +kernel
theorem dX7_well_12 : decode cX7_well 12 = .ok (.getfield 31, 3) := by decide +kernel
theorem dX7_well_15 : decode cX7_well 15 = .ok (.iconst 0, 1) := by decide +kernel
theorem dX7_well_16 : decode cX7_well 16 = .ok (.aload_n 3, 1) := by decide +kernel
theorem dX7_well_17 : decode cX7_well 17 = .ok (.iconst 0, 1) := by decide +kernel
theorem dX7_well_18 : decode cX7_well 18 = .ok (.aload_n 0, 1) := by decide +kernel
theorem dX7_well_19 : decode cX7_well 19 = .ok (.getfield 31, 3) := by decide +kernel
theorem dX7_well_22 : decode cX7_well 22 = .ok (.arraylength, 1) := by decide +kernel
theorem dX7_well_23 : decode cX7_well 23 = .ok (.invokestatic 70, 3) := by decide +kernel
theorem dX7_well_26 : decode cX7_well 26 = .ok (.bipush 14, 2) := by decide +kernel
theorem dX7_well_28 : decode cX7_well 28 = .ok (.newarray .int, 2) := by decide +kernel
theorem dX7_well_30 : decode cX7_well 30 = .ok (.dup, 1) := by decide +kernel
theorem dX7_well_31 : decode cX7_well 31 = .ok (.iconst 0, 1) := by decide +kernel
theorem dX7_well_32 : decode cX7_well 32 = .ok (.iload_n 1, 1) := by decide +kernel
theorem dX7_well_33 : decode cX7_well 33 = .ok (.iastore, 1) := by decide +kernel
theorem dX7_well_34 : decode cX7_well 34 = .ok (.dup, 1) := by decide +kernel
theorem dX7_well_35 : decode cX7_well 35 = .ok (.iconst 1, 1) := by decide +kernel
theorem dX7_well_36 : decode cX7_well 36 = .ok (.iload_n 2, 1) := by decide +kernel
theorem dX7_well_37 : decode cX7_well 37 = .ok (.iastore, 1) := by decide +kernel
theorem dX7_well_38 : decode cX7_well 38 = .ok (.dup, 1) := by decide +kernel
theorem dX7_well_39 : decode cX7_well 39 = .ok (.iconst 2, 1) := by decide +kernel
theorem dX7_well_40 : decode cX7_well 40 = .ok (.iconst 0, 1) := by decide +kernel
theorem dX7_well_41 : decode cX7_well 41 = .ok (.iastore, 1) := by decide +kernel
theorem dX7_well_42 : decode cX7_well 42 = .ok (.dup, 1) := by decide +kernel
theorem dX7_well_43 : decode cX7_well 43 = .ok (.iconst 3, 1) := by decide +kernel
theorem dX7_well_44 : decode cX7_well 44 = .ok (.iconst 5, 1) := by decide +kernel
theorem dX7_well_45 : decode cX7_well 45 = .ok (.iastore, 1) := by decide +kernel
theorem dX7_well_46 : decode cX7_well 46 = .ok (.dup, 1) := by decide +kernel
theorem dX7_well_47 : decode cX7_well 47 = .ok (.iconst 4, 1) := by decide +kernel
theorem dX7_well_48 : decode cX7_well 48 = .ok (.iconst 0, 1) := by decide +kernel
theorem dX7_well_49 : decode cX7_well 49 = .ok (.iastore, 1) := by decide +kernel
theorem dX7_well_50 : decode cX7_well 50 = .ok (.dup, 1) := by decide +kernel
theorem dX7_well_51 : decode cX7_well 51 = .ok (.iconst 5, 1) := by decide +kernel
theorem dX7_well_52 : decode cX7_well 52 = .ok (.iconst 0, 1) := by decide +kernel
theorem dX7_well_53 : decode cX7_well 53 = .ok (.iastore, 1) := by decide +kernel
theorem dX7_well_54 : decode cX7_well 54 = .ok (.dup, 1) := by decide +kernel
theorem dX7_well_55 : decode cX7_well 55 = .ok (.bipush 6, 2) := by decide +kernel
theorem dX7_well_57 : decode cX7_well 57 = .ok (.iconst 0, 1) := by decide +kernel
theorem dX7_well_58 : decode cX7_well 58 = .ok (.iastore, 1) := by decide +kernel
theorem dX7_well_59 : decode cX7_well 59 = .ok (.dup, 1) := by decide +kernel
theorem dX7_well_60 : decode cX7_well 60 = .ok (.bipush 7, 2) := by decide +kernel
theorem dX7_well_62 : decode cX7_well 62 = .ok (.iconst 0, 1) := by decide +kernel
theorem dX7_well_63 : decode cX7_well 63 = .ok (.iastore, 1) := by decide +kernel
theorem dX7_well_64 : decode cX7_well 64 = .ok (.dup, 1) := by decide +kernel
theorem dX7_well_65 : decode cX7_well 65 = .ok (.bipush 8, 2) := by decide +kernel
theorem dX7_well_67 : decode cX7_well 67 = .ok (.iconst 0, 1) := by decide +kernel
theorem dX7_well_68 : decode cX7_well 68 = .ok (.iastore, 1) := by decide +kernel
theorem dX7_well_69 : decode cX7_well 69 = .ok (.dup, 1) := by decide +kernel
theorem dX7_well_70 : decode cX7_well 70 = .ok (.bipush 9, 2) := by decide +kernel
theorem dX7_well_72 : decode cX7_well 72 = .ok (.iconst 0, 1) := by decide +kernel
theorem dX7_well_73 : decode cX7_well 73 = .ok (.iastore, 1) := by decide +kernel
theorem dX7_well_74 : decode cX7_well 74 = .ok (.dup, 1) := by decide +kernel
theorem dX7_well_75 : decode cX7_well 75 = .ok (.bipush 10, 2) := by decide +kernel
theorem dX7_well_77 : decode cX7_well 77 = .ok (.iconst 0, 1) := by decide +kernel
theorem dX7_well_78 : decode cX7_well 78 = .ok (.iastore, 1) := by decide +kernel
theorem dX7_well_79 : decode cX7_well 79 = .ok (.dup, 1) := by decide +kernel
theorem dX7_well_80 : decode cX7_well 80 = .ok (.bipush 11, 2) := by decide +kernel
theorem dX7_well_82 : decode cX7_well 82 = .ok (.iconst 0, 1) := by decide +kernel
theorem dX7_well_83 : decode cX7_well 83 = .ok (.iastore, 1) := by decide +kernel
theorem dX7_well_84 : decode cX7_well 84 = .ok (.dup, 1) := by decide +kernel
theorem dX7_well_85 : decode cX7_well 85 = .ok (.bipush 12, 2) := by decide +kernel
theorem dX7_well_87 : decode cX7_well 87 = .ok (.iconst 0, 1) := by decide +kernel
theorem dX7_well_88 : decode cX7_well 88 = .ok (.iastore, 1) := by decide +kernel
theorem dX7_well_89 : decode cX7_well 89 = .ok (.dup, 1) := by decide +kernel
theorem dX7_well_90 : decode cX7_well 90 = .ok (.bipush 13, 2) := by decide +kernel
theorem dX7_well_92 : decode cX7_well 92 = .ok (.iconst 0, 1) := by decide +kernel
theorem dX7_well_93 : decode cX7_well 93 = .ok (.iastore, 1) := by decide +kernel
theorem dX7_well_94 : decode cX7_well 94 = .ok (.astore 4, 2) := by decide +kernel
theorem dX7_well_96 : decode cX7_well 96 = .ok (.aload_n 3, 1) := by decide +kernel
theorem dX7_well_97 : decode cX7_well 97 = .ok (.aload_n 0, 1) := by decide +kernel
theorem dX7_well_98 : decode cX7_well 98 = .ok (.getfield 31, 3) := by decide +kernel
theorem dX7_well_101 : decode cX7_well 101 = .ok (.arraylength, 1) := by decide +kernel
theorem dX7_well_102 : decode cX7_well 102 = .ok (.aload 4, 2) := by decide +kernel
theorem dX7_well_104 : decode cX7_well 104 = .ok (.aastore, 1) := by decide +kernel
theorem dX7_well_105 : decode cX7_well 105 = .ok (.aload_n 0, 1) := by decide +kernel
theorem dX7_well_106 : decode cX7_well 106 = .ok (.aload_n 3, 1) := by decide +kernel
theorem dX7_well_107 : decode cX7_well 107 = .ok (.putfield 31, 3) := by decide +kernel
theorem dX7_well_110 : decode cX7_well 110 = .ok (.aload_n 0, 1) := by decide +kernel
theorem dX7_well_111 : decode cX7_well 111 = .ok (.getfield 10, 3) := by decide +kernel
theorem dX7_well_114 : decode cX7_well 114 = .ok (.iload_n 1, 1) := by decide +kernel
theorem dX7_well_115 : decode cX7_well 115 = .ok (.iload_n 2, 1) := by decide +kernel
theorem dX7_well_116 : decode cX7_well 116 = .ok (.invokevirtual 76, 3) := by decide +kernel
theorem dX7_well_119 : decode cX7_well 119 = .ok (.aload_n 0, 1) := by decide +kernel
theorem dX7_well_120 : decode cX7_well 120 = .ok (.getfield 31, 3) := by decide +kernel
theorem dX7_well_123 : decode cX7_well 123 = .ok (.arraylength, 1) := by decide +kernel
theorem dX7_well_124 : decode cX7_well 124 = .ok (.iconst 1, 1) := by decide +kernel
theorem dX7_well_125 : decode cX7_well 125 = .ok (.isub, 1) := by decide +kernel
theorem dX7_well_126 : decode cX7_well 126 = .ok (.if_icmp .ne 7, 3) := by decide +kernel
theorem dX7_well_129 : decode cX7_well 129 = .ok (.iconst 1, 1) := by decide +kernel
theorem dX7_well_130 : decode cX7_well 130 = .ok (.goto 4, 3) := by decide +kernel
theorem dX7_well_133 : decode cX7_well 133 = .ok (.iconst 0, 1) := by decide +kernel
theorem dX7_well_134 : decode cX7_well 134 = .ok (.ireturn, 1) := by decide +kernel
set_option maxRecDepth 20000 in
theorem ggX7_choke_X6_choke : GoodIn wsX7_choke wsX6_choke := goodIn_ca (goodIn_ca (goodIn_ca (goodIn_r _ [7, 8, 9, 10, 11, 12, 13, 6, 14, 15, 16, 17, 18, 19, 20, 21, 22, 23, 24, 25, 26, 27, 28, 29, 43, 44, 45, 46, 47, 48, 49, 50, 51, 52, 53, 54, 55, 56, 57, 58, 59, 60, 61, 62, 63, 64, 65, 66, 67, 68, 69, 70, 71, 72, 73, 74, 75] (by decide +kernel) (by decide +kernel)) (goodIn_sub (fun _ h => List.mem_cons_of_mem _ (List.mem_append_left _ (List.mem_append_left _ (List.mem_append_right _ h)))) (by decide +kernel))) (goodIn_sub (fun _ h => List.mem_cons_of_mem _ (List.mem_append_left _ (List.mem_append_right _ h))) (by decide +kernel))) (goodIn_sub (fun _ h => List.mem_cons_of_mem _ (List.mem_append_right _ h)) (by decide +kernel))
set_option maxRecDepth 20000 in
theorem gX7_choke_X6_choke : GoodIn wsX7_choke (wsV RX7 79 RX6 yX6_choke wsX6_choke) := goodIn_app (goodIn_of _ (by decide +kernel)) ggX7_choke_X6_choke
theorem dX7_choke_0 : decode cX7_choke 0 = .ok (.aload_n 0, 1) := by decide +kernel
theorem dX7_choke_1 : decode cX7_choke 1 = .ok (.getfield 31, 3) := by decide +kernel
theorem dX7_choke_4 : decode cX7_choke 4 = .ok (.iload_n 1, 1) := by decide +kernel
theorem dX7_choke_5 : decode cX7_choke 5 = .ok (.aaload, 1) := by decide +kernel
theorem dX7_choke_6 : decode cX7_choke 6 = .ok (.iconst 2, 1) := by decide +kernel
theorem dX7_choke_7 : decode cX7_choke 7 = .ok (.iaload, 1) := by decide +kernel
theorem dX7_choke_8 : decode cX7_choke 8 = .ok (.istore_n 3, 1) := by decide +kernel
theorem dX7_choke_9 : decode cX7_choke 9 = .ok (.aload_n 0, 1) := by decide +kernel
theorem dX7_choke_10 : decode cX7_choke 10 = .ok (.getfield 31, 3) := by decide +kernel
theorem dX7_choke_13 : decode cX7_choke 13 = .ok (.iload_n 1, 1) := by decide +kernel
theorem dX7_choke_14 : decode cX7_choke 14 = .ok (.aaload, 1) := by decide +kernel
theorem dX7_choke_15 : decode cX7_choke 15 = .ok (.iconst 2, 1) := by decide +kernel
theorem dX7_choke_16 : decode cX7_choke 16 = .ok (.iload_n 2, 1) := by decide +kernel
theorem dX7_choke_17 : decode cX7_choke 17 = .ok (.iastore, 1) := by decide +kernel
theorem dX7_choke_18 : decode cX7_choke 18 = .ok (.aload_n 0, 1) := by decide +kernel
theorem dX7_choke_19 : decode cX7_choke 19 = .ok (.getfield 10, 3) := by decide +kernel
theorem dX7_choke_22 : decode cX7_choke 22 = .ok (.iload_n 1, 1) := by decide +kernel
theorem dX7_choke_23 : decode cX7_choke 23 = .ok (.iload_n 2, 1) := by decide +kernel
theorem dX7_choke_24 : decode cX7_choke 24 = .ok (.invokevirtual 79, 3) := by decide +kernel
theorem dX7_choke_27 : decode cX7_choke 27 = .ok (.iload_n 3, 1) := by decide +kernel
theorem dX7_choke_28 : decode cX7_choke 28 = .ok (.if_icmp .ne 7, 3) := by decide +kernel
theorem dX7_choke_31 : decode cX7_choke 31 = .ok (.iconst 1, 1) := by decide +kernel
theorem dX7_choke_32 : decode cX7_choke 32 = .ok (.goto 4, 3) := by decide +kernel
theorem dX7_choke_35 : decode cX7_choke 35 = .ok (.iconst 0, 1) := by decide +kernel
theorem dX7_choke_36 : decode cX7_choke 36 = .ok (.ireturn, 1) := by decide +kernel
set_option maxRecDepth 20000 in
theorem ggX7_fault_X6_fault : GoodIn wsX7_fault wsX6_fault := goodIn_ca (goodIn_r _ [7, 8, 9, 10, 11, 6, 12, 13, 14, 15, 16, 17, 18, 19, 20, 21, 22, 23, 24, 25, 26, 27, 28, 29, 30, 31, 45, 46, 47, 48, 49, 50, 51, 52, 53, 54, 55, 56, 57, 58, 59, 60, 61, 62, 63, 64, 65, 66, 67, 68, 69, 70, 71] (by decide +kernel) (by decide +kernel)) (goodIn_sub (fun _ h => List.mem_cons_of_mem _ (List.mem_append_right _ h)) (by decide +kernel))
set_option maxRecDepth 20000 in
theorem gX7_fault_X6_fault : GoodIn wsX7_fault (wsV RX7 82 RX6 yX6_fault wsX6_fault) := goodIn_app (goodIn_of _ (by decide +kernel)) ggX7_fault_X6_fault
theorem dX7_fault_0 : decode cX7_fault 0 = .ok (.aload_n 0, 1) := by decide +kernel
theorem dX7_fault_1 : decode cX7_fault 1 = .ok (.getfield 27, 3) := by decide +kernel
theorem dX7_fault_4 : decode cX7_fault 4 = .ok (.iload_n 1, 1) := by decide +kernel
theorem dX7_fault_5 : decode cX7_fault 5 = .ok (.aaload, 1) := by decide +kernel
theorem dX7_fault_6 : decode cX7_fault 6 = .ok (.iload_n 2, 1) := by decide +kernel
theorem dX7_fault_7 : decode cX7_fault 7 = .ok (.ifCond .eq 7, 3) := by decide +kernel
theorem dX7_fault_10 : decode cX7_fault 10 = .ok (.iconst 0, 1) := by decide +kernel
theorem dX7_fault_11 : decode cX7_fault 11 = .ok (.goto 4, 3) := by decide +kernel
theorem dX7_fault_14 : decode cX7_fault 14 = .ok (.iconst 1, 1) := by decide +kernel
theorem dX7_fault_15 : decode cX7_fault 15 = .ok (.baload, 1) := by decide +kernel
theorem dX7_fault_16 : decode cX7_fault 16 = .ok (.istore 4, 2) := by decide +kernel
theorem dX7_fault_18 : decode cX7_fault 18 = .ok (.aload_n 0, 1) := by decide +kernel
theorem dX7_fault_19 : decode cX7_fault 19 = .ok (.getfield 27, 3) := by decide +kernel
theorem dX7_fault_22 : decode cX7_fault 22 = .ok (.iload_n 1, 1) := by decide +kernel
theorem dX7_fault_23 : decode cX7_fault 23 = .ok (.aaload, 1) := by decide +kernel
theorem dX7_fault_24 : decode cX7_fault 24 = .ok (.iload_n 2, 1) := by decide +kernel
theorem dX7_fault_25 : decode cX7_fault 25 = .ok (.ifCond .eq 7, 3) := by decide +kernel
theorem dX7_fault_28 : decode cX7_fault 28 = .ok (.iconst 0, 1) := by decide +kernel
theorem dX7_fault_29 : decode cX7_fault 29 = .ok (.goto 4, 3) := by decide +kernel
theorem dX7_fault_32 : decode cX7_fault 32 = .ok (.iconst 1, 1) := by decide +kernel
theorem dX7_fault_33 : decode cX7_fault 33 = .ok (.iload_n 3, 1) := by decide +kernel
theorem dX7_fault_34 : decode cX7_fault 34 = .ok (.bastore, 1) := by decide +kernel
theorem dX7_fault_35 : decode cX7_fault 35 = .ok (.aload_n 0, 1) := by decide +kernel
theorem dX7_fault_36 : decode cX7_fault 36 = .ok (.getfield 10, 3) := by decide +kernel
theorem dX7_fault_39 : decode cX7_fault 39 = .ok (.iload_n 1, 1) := by decide +kernel
theorem dX7_fault_40 : decode cX7_fault 40 = .ok (.iload_n 2, 1) := by decide +kernel
theorem dX7_fault_41 : decode cX7_fault 41 = .ok (.iload_n 3, 1) := by decide +kernel
theorem dX7_fault_42 : decode cX7_fault 42 = .ok (.invokevirtual 82, 3) := by decide +kernel
theorem dX7_fault_45 : decode cX7_fault 45 = .ok (.iload 4, 2) := by decide +kernel
theorem dX7_fault_47 : decode cX7_fault 47 = .ok (.if_icmp .ne 7, 3) := by decide +kernel
theorem dX7_fault_50 : decode cX7_fault 50 = .ok (.iconst 1, 1) := by decide +kernel
theorem dX7_fault_51 : decode cX7_fault 51 = .ok (.goto 4, 3) := by decide +kernel
theorem dX7_fault_54 : decode cX7_fault 54 = .ok (.iconst 0, 1) := by decide +kernel
theorem dX7_fault_55 : decode cX7_fault 55 = .ok (.ireturn, 1) := by decide +kernel
theorem dX7_all_0 : decode cX7_all 0 = .ok (.aload_n 0, 1) := by decide +kernel
theorem dX7_all_1 : decode cX7_all 1 = .ok (.getfield 22, 3) := by decide +kernel
theorem dX7_all_4 : decode cX7_all 4 = .ok (.iload_n 1, 1) := by decide +kernel
theorem dX7_all_5 : decode cX7_all 5 = .ok (.aaload, 1) := by decide +kernel
theorem dX7_all_6 : decode cX7_all 6 = .ok (.iconst 0, 1) := by decide +kernel
theorem dX7_all_7 : decode cX7_all 7 = .ok (.iaload, 1) := by decide +kernel
theorem dX7_all_8 : decode cX7_all 8 = .ok (.aload_n 0, 1) := by decide +kernel
theorem dX7_all_9 : decode cX7_all 9 = .ok (.getfield 22, 3) := by decide +kernel
theorem dX7_all_12 : decode cX7_all 12 = .ok (.iload_n 1, 1) := by decide +kernel
theorem dX7_all_13 : decode cX7_all 13 = .ok (.aaload, 1) := by decide +kernel
theorem dX7_all_14 : decode cX7_all 14 = .ok (.iconst 1, 1) := by decide +kernel
theorem dX7_all_15 : decode cX7_all 15 = .ok (.iaload, 1) := by decide +kernel
theorem dX7_all_16 : decode cX7_all 16 = .ok (.iadd, 1) := by decide +kernel
theorem dX7_all_17 : decode cX7_all 17 = .ok (.aload_n 0, 1) := by decide +kernel
theorem dX7_all_18 : decode cX7_all 18 = .ok (.getfield 22, 3) := by decide +kernel
theorem dX7_all_21 : decode cX7_all 21 = .ok (.iload_n 1, 1) := by decide +kernel
theorem dX7_all_22 : decode cX7_all 22 = .ok (.aaload, 1) := by decide +kernel
theorem dX7_all_23 : decode cX7_all 23 = .ok (.iconst 2, 1) := by decide +kernel
theorem dX7_all_24 : decode cX7_all 24 = .ok (.iaload, 1) := by decide +kernel
theorem dX7_all_25 : decode cX7_all 25 = .ok (.iadd, 1) := by decide +kernel
theorem dX7_all_26 : decode cX7_all 26 = .ok (.ireturn, 1) := by decide +kernel
set_option maxRecDepth 20000 in
theorem ggX7_pressure_X7_all : GoodIn wsX7_pressure wsX7_all := goodIn_r _ [6, 7, 8, 9, 10, 11, 12, 13, 14, 15, 16, 17, 18, 19, 20] (by decide +kernel) (by decide +kernel)
set_option maxRecDepth 20000 in
theorem gX7_pressure_X7_all : GoodIn wsX7_pressure (wsV RX7 86 RX7 yX7_all wsX7_all) := goodIn_app (goodIn_of _ (by decide +kernel)) ggX7_pressure_X7_all
theorem dX7_pressure_0 : decode cX7_pressure 0 = .ok (.bipush 100, 2) := by decide +kernel
theorem dX7_pressure_2 : decode cX7_pressure 2 = .ok (.aload_n 0, 1) := by decide +kernel
theorem dX7_pressure_3 : decode cX7_pressure 3 = .ok (.iload_n 1, 1) := by decide +kernel
theorem dX7_pressure_4 : decode cX7_pressure 4 = .ok (.invokevirtual 86, 3) := by decide +kernel
theorem dX7_pressure_7 : decode cX7_pressure 7 = .ok (.imul, 1) := by decide +kernel
theorem dX7_pressure_8 : decode cX7_pressure 8 = .ok (.aload_n 0, 1) := by decide +kernel
theorem dX7_pressure_9 : decode cX7_pressure 9 = .ok (.getfield 16, 3) := by decide +kernel
theorem dX7_pressure_12 : decode cX7_pressure 12 = .ok (.iload_n 1, 1) := by decide +kernel
theorem dX7_pressure_13 : decode cX7_pressure 13 = .ok (.iaload, 1) := by decide +kernel
theorem dX7_pressure_14 : decode cX7_pressure 14 = .ok (.idiv, 1) := by decide +kernel
theorem dX7_pressure_15 : decode cX7_pressure 15 = .ok (.ireturn, 1) := by decide +kernel
set_option maxRecDepth 20000 in
theorem ggX7_found_X7_draw : GoodIn wsX7_found wsX7_draw := goodIn_r _ [5, 6, 7, 8, 9, 10, 11, 12, 13, 14, 121, 122, 123, 124, 125, 126, 127, 128, 129, 130, 131, 132, 133] (by decide +kernel) (by decide +kernel)
set_option maxRecDepth 20000 in
theorem gX7_found_X7_draw : GoodIn wsX7_found (wsV RX7 123 RX7 yX7_draw wsX7_draw) := goodIn_app (goodIn_of _ (by decide +kernel)) ggX7_found_X7_draw
set_option maxRecDepth 20000 in
theorem ggX7_found_X7_lay : GoodIn wsX7_found wsX7_lay := goodIn_ca (goodIn_ca (goodIn_r _ [18, 19, 20, 21, 22, 23, 24, 25, 26, 27, 28, 29, 30, 31, 32, 33, 34, 35, 36, 37, 38, 39, 40, 41, 42, 43, 44, 45, 46, 47, 48, 49, 50, 51, 52, 53, 54, 55, 4, 56, 57, 58, 59, 60, 121, 122, 123, 124, 125, 126, 127, 128, 129, 130, 131, 132, 133, 134, 135, 136, 137, 138, 139, 140, 141, 142, 143, 144, 145, 146, 147, 148, 149, 150, 151, 152, 153, 154, 155, 156, 157, 158, 159, 160] (by decide +kernel) (by decide +kernel)) (goodIn_sub (fun _ h => List.mem_cons_of_mem _ (List.mem_append_left _ (List.mem_append_left _ (List.mem_append_right _ h)))) (by decide +kernel))) (goodIn_sub (fun _ h => List.mem_cons_of_mem _ (List.mem_append_left _ (List.mem_append_right _ h))) (by decide +kernel))
set_option maxRecDepth 20000 in
theorem gX7_found_X7_lay : GoodIn wsX7_found (wsV RX7 126 RX7 yX7_lay wsX7_lay) := goodIn_app (goodIn_of _ (by decide +kernel)) ggX7_found_X7_lay
set_option maxRecDepth 20000 in
theorem ggX7_found_X7_fault : GoodIn wsX7_found wsX7_fault := goodIn_ca (goodIn_r _ [64, 65, 22, 66, 67, 68, 26, 69, 28, 29, 70, 71, 72, 35, 36, 32, 33, 34, 73, 74, 75, 76, 77, 78, 45, 79, 80, 81, 82, 83, 84, 85, 121, 122, 123, 124, 125, 126, 127, 128, 129, 130, 131, 132, 133, 134, 135, 136, 137, 138, 139, 140, 141, 142, 143, 144, 145, 146, 147, 148, 149, 150, 151, 152, 153, 154, 155, 156, 157, 158, 159, 160] (by decide +kernel) (by decide +kernel)) (goodIn_sub (fun _ h => List.mem_cons_of_mem _ (List.mem_append_left _ (List.mem_append_left _ (List.mem_append_right _ h)))) (by decide +kernel))
set_option maxRecDepth 20000 in
theorem gX7_found_X7_fault : GoodIn wsX7_found (wsV RX7 130 RX7 yX7_fault wsX7_fault) := goodIn_app (goodIn_of _ (by decide +kernel)) ggX7_found_X7_fault
set_option maxRecDepth 20000 in
theorem ggX7_found_X7_well : GoodIn wsX7_found wsX7_well := goodIn_ca (goodIn_ca (goodIn_ca (goodIn_r _ [89, 90, 91, 92, 93, 94, 95, 19, 22, 96, 97, 98, 26, 99, 100, 101, 28, 102, 103, 104, 105, 32, 33, 34, 35, 36, 37, 38, 39, 40, 41, 121, 122, 123, 124, 125, 126, 127, 128, 129, 130, 131, 132, 133, 134, 135, 136, 137, 138, 139, 140, 141, 142, 143, 144, 145, 146, 147, 148, 149, 150, 151, 152, 153, 154, 155, 156, 161, 162, 163, 164, 165] (by decide +kernel) (by decide +kernel)) (goodIn_sub (fun _ h => List.mem_cons_of_mem _ (List.mem_append_right _ h)) (by decide +kernel))) (goodIn_sub (fun _ h => List.mem_cons_of_mem _ (List.mem_append_left _ (List.mem_append_left _ (List.mem_append_right _ h)))) (by decide +kernel))) (goodIn_sub (fun _ h => List.mem_cons_of_mem _ (List.mem_append_left _ (List.mem_append_right _ h))) (by decide +kernel))
set_option maxRecDepth 20000 in
theorem gX7_found_X7_well : GoodIn wsX7_found (wsV RX7 131 RX7 yX7_well wsX7_well) := goodIn_app (goodIn_of _ (by decide +kernel)) ggX7_found_X7_well
set_option maxRecDepth 20000 in
theorem ggX7_found_X7_choke : GoodIn wsX7_found wsX7_choke := goodIn_ca (goodIn_ca (goodIn_ca (goodIn_r _ [109, 90, 22, 110, 111, 112, 26, 113, 28, 102, 103, 114, 32, 33, 34, 35, 36, 37, 38, 39, 40, 41, 115, 116, 117, 118, 100, 101, 119, 120, 121, 122, 123, 124, 125, 126, 127, 128, 129, 130, 131, 132, 133, 134, 135, 136, 137, 138, 139, 140, 141, 142, 143, 144, 145, 146, 147, 148, 149, 150, 151, 152, 153, 154, 155, 156, 161, 162, 163, 164, 165, 166, 167, 168, 169, 170] (by decide +kernel) (by decide +kernel)) (goodIn_sub (fun _ h => List.mem_cons_of_mem _ (List.mem_append_left _ (List.mem_append_left _ (List.mem_append_right _ h)))) (by decide +kernel))) (goodIn_sub (fun _ h => List.mem_cons_of_mem _ (List.mem_append_left _ (List.mem_append_right _ h))) (by decide +kernel))) (goodIn_sub (fun _ h => List.mem_cons_of_mem _ (List.mem_append_right _ h)) (by decide +kernel))
set_option maxRecDepth 20000 in
theorem gX7_found_X7_choke : GoodIn wsX7_found (wsV RX7 134 RX7 yX7_choke wsX7_choke) := goodIn_app (goodIn_of _ (by decide +kernel)) ggX7_found_X7_choke
theorem dX7_found_0 : decode cX7_found 0 = .ok (.iconst 0, 1) := by decide +kernel
theorem dX7_found_1 : decode cX7_found 1 = .ok (.istore_n 2, 1) := by decide +kernel
theorem dX7_found_2 : decode cX7_found 2 = .ok (.iload_n 2, 1) := by decide +kernel
theorem dX7_found_3 : decode cX7_found 3 = .ok (.bipush 16, 2) := by decide +kernel
theorem dX7_found_5 : decode cX7_found 5 = .ok (.if_icmp .ge 54, 3) := by decide +kernel
theorem dX7_found_8 : decode cX7_found 8 = .ok (.aload_n 0, 1) := by decide +kernel
theorem dX7_found_9 : decode cX7_found 9 = .ok (.iconst 3, 1) := by decide +kernel
theorem dX7_found_10 : decode cX7_found 10 = .ok (.invokevirtual 123, 3) := by decide +kernel
theorem dX7_found_13 : decode cX7_found 13 = .ok (.ifCond .le 40, 3) := by decide +kernel
theorem dX7_found_16 : decode cX7_found 16 = .ok (.aload_n 0, 1) := by decide +kernel
theorem dX7_found_17 : decode cX7_found 17 = .ok (.iload_n 2, 1) := by decide +kernel
theorem dX7_found_18 : decode cX7_found 18 = .ok (.bipush 15, 2) := by decide +kernel
theorem dX7_found_20 : decode cX7_found 20 = .ok (.aload_n 0, 1) := by decide +kernel
theorem dX7_found_21 : decode cX7_found 21 = .ok (.bipush 60, 2) := by decide +kernel
theorem dX7_found_23 : decode cX7_found 23 = .ok (.invokevirtual 123, 3) := by decide +kernel
theorem dX7_found_26 : decode cX7_found 26 = .ok (.iadd, 1) := by decide +kernel
theorem dX7_found_27 : decode cX7_found 27 = .ok (.aload_n 0, 1) := by decide +kernel
theorem dX7_found_28 : decode cX7_found 28 = .ok (.bipush 90, 2) := by decide +kernel
theorem dX7_found_30 : decode cX7_found 30 = .ok (.invokevirtual 123, 3) := by decide +kernel
theorem dX7_found_33 : decode cX7_found 33 = .ok (.aload_n 0, 1) := by decide +kernel
theorem dX7_found_34 : decode cX7_found 34 = .ok (.bipush 60, 2) := by decide +kernel
theorem dX7_found_36 : decode cX7_found 36 = .ok (.invokevirtual 123, 3) := by decide +kernel
theorem dX7_found_39 : decode cX7_found 39 = .ok (.aload_n 0, 1) := by decide +kernel
theorem dX7_found_40 : decode cX7_found 40 = .ok (.bipush 40, 2) := by decide +kernel
theorem dX7_found_42 : decode cX7_found 42 = .ok (.invokevirtual 123, 3) := by decide +kernel
theorem dX7_found_45 : decode cX7_found 45 = .ok (.invokevirtual 126, 3) := by decide +kernel
theorem dX7_found_48 : decode cX7_found 48 = .ok (.ifCond .ne 5, 3) := by decide +kernel
theorem dX7_found_51 : decode cX7_found 51 = .ok (.iconst 0, 1) := by decide +kernel
theorem dX7_found_52 : decode cX7_found 52 = .ok (.ireturn, 1) := by decide +kernel
theorem dX7_found_53 : decode cX7_found 53 = .ok (.iinc 2 1, 3) := by decide +kernel
theorem dX7_found_56 : decode cX7_found 56 = .ok (.goto (-54), 3) := by decide +kernel
theorem dX7_found_59 : decode cX7_found 59 = .ok (.iconst 0, 1) := by decide +kernel
theorem dX7_found_60 : decode cX7_found 60 = .ok (.istore_n 2, 1) := by decide +kernel
theorem dX7_found_61 : decode cX7_found 61 = .ok (.iload_n 2, 1) := by decide +kernel
theorem dX7_found_62 : decode cX7_found 62 = .ok (.iconst 5, 1) := by decide +kernel
theorem dX7_found_63 : decode cX7_found 63 = .ok (.if_icmp .ge 72, 3) := by decide +kernel
theorem dX7_found_66 : decode cX7_found 66 = .ok (.aload_n 0, 1) := by decide +kernel
theorem dX7_found_67 : decode cX7_found 67 = .ok (.aload_n 0, 1) := by decide +kernel
theorem dX7_found_68 : decode cX7_found 68 = .ok (.iconst 3, 1) := by decide +kernel
theorem dX7_found_69 : decode cX7_found 69 = .ok (.invokevirtual 123, 3) := by decide +kernel
theorem dX7_found_72 : decode cX7_found 72 = .ok (.iconst 4, 1) := by decide +kernel
theorem dX7_found_73 : decode cX7_found 73 = .ok (.aload_n 0, 1) := by decide +kernel
theorem dX7_found_74 : decode cX7_found 74 = .ok (.iconst 4, 1) := by decide +kernel
theorem dX7_found_75 : decode cX7_found 75 = .ok (.invokevirtual 123, 3) := by decide +kernel
theorem dX7_found_78 : decode cX7_found 78 = .ok (.imul, 1) := by decide +kernel
theorem dX7_found_79 : decode cX7_found 79 = .ok (.iadd, 1) := by decide +kernel
theorem dX7_found_80 : decode cX7_found 80 = .ok (.iconst 1, 1) := by decide +kernel
theorem dX7_found_81 : decode cX7_found 81 = .ok (.aload_n 0, 1) := by decide +kernel
theorem dX7_found_82 : decode cX7_found 82 = .ok (.iconst 3, 1) := by decide +kernel
theorem dX7_found_83 : decode cX7_found 83 = .ok (.invokevirtual 123, 3) := by decide +kernel
theorem dX7_found_86 : decode cX7_found 86 = .ok (.ifCond .le 7, 3) := by decide +kernel
theorem dX7_found_89 : decode cX7_found 89 = .ok (.iconst 1, 1) := by decide +kernel
theorem dX7_found_90 : decode cX7_found 90 = .ok (.goto 4, 3) := by decide +kernel
theorem dX7_found_93 : decode cX7_found 93 = .ok (.iconst 0, 1) := by decide +kernel
theorem dX7_found_94 : decode cX7_found 94 = .ok (.invokevirtual 130, 3) := by decide +kernel
theorem dX7_found_97 : decode cX7_found 97 = .ok (.ifCond .eq 30, 3) := by decide +kernel
theorem dX7_found_100 : decode cX7_found 100 = .ok (.aload_n 0, 1) := by decide +kernel
theorem dX7_found_101 : decode cX7_found 101 = .ok (.aload_n 0, 1) := by decide +kernel
theorem dX7_found_102 : decode cX7_found 102 = .ok (.bipush 12, 2) := by decide +kernel
theorem dX7_found_104 : decode cX7_found 104 = .ok (.invokevirtual 123, 3) := by decide +kernel
theorem dX7_found_107 : decode cX7_found 107 = .ok (.iconst 0, 1) := by decide +kernel
theorem dX7_found_108 : decode cX7_found 108 = .ok (.aload_n 0, 1) := by decide +kernel
theorem dX7_found_109 : decode cX7_found 109 = .ok (.iconst 3, 1) := by decide +kernel
theorem dX7_found_110 : decode cX7_found 110 = .ok (.invokevirtual 123, 3) := by decide +kernel
theorem dX7_found_113 : decode cX7_found 113 = .ok (.ifCond .le 7, 3) := by decide +kernel
theorem dX7_found_116 : decode cX7_found 116 = .ok (.iconst 1, 1) := by decide +kernel
theorem dX7_found_117 : decode cX7_found 117 = .ok (.goto 4, 3) := by decide +kernel
theorem dX7_found_120 : decode cX7_found 120 = .ok (.iconst 0, 1) := by decide +kernel
theorem dX7_found_121 : decode cX7_found 121 = .ok (.invokevirtual 130, 3) := by decide +kernel
theorem dX7_found_124 : decode cX7_found 124 = .ok (.ifCond .ne 5, 3) := by decide +kernel
theorem dX7_found_127 : decode cX7_found 127 = .ok (.iconst 0, 1) := by decide +kernel
theorem dX7_found_128 : decode cX7_found 128 = .ok (.ireturn, 1) := by decide +kernel
theorem dX7_found_129 : decode cX7_found 129 = .ok (.iinc 2 1, 3) := by decide +kernel
theorem dX7_found_132 : decode cX7_found 132 = .ok (.goto (-71), 3) := by decide +kernel
theorem dX7_found_135 : decode cX7_found 135 = .ok (.iconst 0, 1) := by decide +kernel
theorem dX7_found_136 : decode cX7_found 136 = .ok (.istore_n 2, 1) := by decide +kernel
theorem dX7_found_137 : decode cX7_found 137 = .ok (.iload_n 2, 1) := by decide +kernel
theorem dX7_found_138 : decode cX7_found 138 = .ok (.iload_n 1, 1) := by decide +kernel
theorem dX7_found_139 : decode cX7_found 139 = .ok (.if_icmp .ge 68, 3) := by decide +kernel
theorem dX7_found_142 : decode cX7_found 142 = .ok (.aload_n 0, 1) := by decide +kernel
theorem dX7_found_143 : decode cX7_found 143 = .ok (.iload_n 2, 1) := by decide +kernel
theorem dX7_found_144 : decode cX7_found 144 = .ok (.ifCond .ne 7, 3) := by decide +kernel
theorem dX7_found_147 : decode cX7_found 147 = .ok (.iconst 0, 1) := by decide +kernel
theorem dX7_found_148 : decode cX7_found 148 = .ok (.goto 23, 3) := by decide +kernel
theorem dX7_found_151 : decode cX7_found 151 = .ok (.aload_n 0, 1) := by decide +kernel
theorem dX7_found_152 : decode cX7_found 152 = .ok (.iconst 5, 1) := by decide +kernel
theorem dX7_found_153 : decode cX7_found 153 = .ok (.invokevirtual 123, 3) := by decide +kernel
theorem dX7_found_156 : decode cX7_found 156 = .ok (.iconst 3, 1) := by decide +kernel
theorem dX7_found_157 : decode cX7_found 157 = .ok (.if_icmp .ge 7, 3) := by decide +kernel
theorem dX7_found_160 : decode cX7_found 160 = .ok (.iconst 0, 1) := by decide +kernel
theorem dX7_found_161 : decode cX7_found 161 = .ok (.goto 10, 3) := by decide +kernel
theorem dX7_found_164 : decode cX7_found 164 = .ok (.iconst 1, 1) := by decide +kernel
theorem dX7_found_165 : decode cX7_found 165 = .ok (.aload_n 0, 1) := by decide +kernel
theorem dX7_found_166 : decode cX7_found 166 = .ok (.iconst 2, 1) := by decide +kernel
theorem dX7_found_167 : decode cX7_found 167 = .ok (.invokevirtual 123, 3) := by decide +kernel
theorem dX7_found_170 : decode cX7_found 170 = .ok (.iadd, 1) := by decide +kernel
theorem dX7_found_171 : decode cX7_found 171 = .ok (.aload_n 0, 1) := by decide +kernel
theorem dX7_found_172 : decode cX7_found 172 = .ok (.bipush 16, 2) := by decide +kernel
theorem dX7_found_174 : decode cX7_found 174 = .ok (.invokevirtual 123, 3) := by decide +kernel
theorem dX7_found_177 : decode cX7_found 177 = .ok (.invokevirtual 131, 3) := by decide +kernel
theorem dX7_found_180 : decode cX7_found 180 = .ok (.ifCond .eq 19, 3) := by decide +kernel
theorem dX7_found_183 : decode cX7_found 183 = .ok (.aload_n 0, 1) := by decide +kernel
theorem dX7_found_184 : decode cX7_found 184 = .ok (.iload_n 2, 1) := by decide +kernel
theorem dX7_found_185 : decode cX7_found 185 = .ok (.iconst 2, 1) := by decide +kernel
theorem dX7_found_186 : decode cX7_found 186 = .ok (.aload_n 0, 1) := by decide +kernel
theorem dX7_found_187 : decode cX7_found 187 = .ok (.bipush 8, 2) := by decide +kernel
theorem dX7_found_189 : decode cX7_found 189 = .ok (.invokevirtual 123, 3) := by decide +kernel
theorem dX7_found_192 : decode cX7_found 192 = .ok (.iadd, 1) := by decide +kernel
theorem dX7_found_193 : decode cX7_found 193 = .ok (.invokevirtual 134, 3) := by decide +kernel
theorem dX7_found_196 : decode cX7_found 196 = .ok (.ifCond .ne 5, 3) := by decide +kernel
theorem dX7_found_199 : decode cX7_found 199 = .ok (.iconst 0, 1) := by decide +kernel
theorem dX7_found_200 : decode cX7_found 200 = .ok (.ireturn, 1) := by decide +kernel
theorem dX7_found_201 : decode cX7_found 201 = .ok (.iinc 2 1, 3) := by decide +kernel
theorem dX7_found_204 : decode cX7_found 204 = .ok (.goto (-67), 3) := by decide +kernel
theorem dX7_found_207 : decode cX7_found 207 = .ok (.iconst 1, 1) := by decide +kernel
theorem dX7_found_208 : decode cX7_found 208 = .ok (.ireturn, 1) := by decide +kernel
set_option maxRecDepth 20000 in
theorem ggX7_turn_X7_draw : GoodIn wsX7_turn wsX7_draw := goodIn_r _ [9, 10, 11, 12, 13, 14, 15, 16, 17, 18, 102, 103, 104, 105, 106, 107, 108, 109, 110, 111, 112, 113, 114] (by decide +kernel) (by decide +kernel)
set_option maxRecDepth 20000 in
theorem gX7_turn_X7_draw : GoodIn wsX7_turn (wsV RX7 123 RX7 yX7_draw wsX7_draw) := goodIn_app (goodIn_of _ (by decide +kernel)) ggX7_turn_X7_draw
set_option maxRecDepth 20000 in
theorem ggX7_turn_X7_choke : GoodIn wsX7_turn wsX7_choke := goodIn_ca (goodIn_ca (goodIn_ca (goodIn_r _ [22, 1, 2, 23, 24, 25, 26, 27, 28, 29, 30, 31, 32, 33, 34, 35, 36, 37, 38, 39, 40, 41, 42, 43, 44, 45, 46, 47, 48, 49, 102, 103, 104, 105, 106, 107, 108, 109, 110, 111, 112, 113, 114, 115, 116, 117, 118, 119, 120, 121, 122, 123, 124, 125, 126, 127, 128, 129, 130, 131, 132, 133, 134, 135, 136, 137, 138, 139, 140, 141, 142, 143, 144, 145, 146, 147] (by decide +kernel) (by decide +kernel)) (goodIn_sub (fun _ h => List.mem_cons_of_mem _ (List.mem_append_left _ (List.mem_append_left _ (List.mem_append_right _ h)))) (by decide +kernel))) (goodIn_sub (fun _ h => List.mem_cons_of_mem _ (List.mem_append_left _ (List.mem_append_right _ h))) (by decide +kernel))) (goodIn_sub (fun _ h => List.mem_cons_of_mem _ (List.mem_append_right _ h)) (by decide +kernel))
set_option maxRecDepth 20000 in
theorem gX7_turn_X7_choke : GoodIn wsX7_turn (wsV RX7 134 RX7 yX7_choke wsX7_choke) := goodIn_app (goodIn_of _ (by decide +kernel)) ggX7_turn_X7_choke
set_option maxRecDepth 20000 in
theorem ggX7_turn_X6_rank : GoodIn wsX7_turn wsX6_rank := goodIn_ca (goodIn_ca (goodIn_r _ [53, 28, 29, 30, 54, 32, 33, 26, 34, 35, 36, 37, 38, 39, 40, 41, 115, 116, 117, 118, 119, 120, 121, 122, 123, 124, 125, 126, 127, 128, 129, 130, 131, 132, 133, 134, 135, 136, 137, 138, 139, 140, 141, 142] (by decide +kernel) (by decide +kernel)) (goodIn_sub (fun _ h => List.mem_cons_of_mem _ (List.mem_append_left _ (List.mem_append_left _ (List.mem_append_right _ h)))) (by decide +kernel))) (goodIn_sub (fun _ h => List.mem_cons_of_mem _ (List.mem_append_left _ (List.mem_append_right _ h))) (by decide +kernel))
