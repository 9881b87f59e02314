theorem dX8_init_32 : decode cX8_init 32 = .ok (.iconst 0, 1) := by decide +kernel
theorem dX8_init_33 : decode cX8_init 33 = .ok (.iastore, 1) := by decide +kernel
theorem dX8_init_34 : decode cX8_init 34 = .ok (.dup, 1) := by decide +kernel
theorem dX8_init_35 : decode cX8_init 35 = .ok (.iconst 2, 1) := by decide +kernel
theorem dX8_init_36 : decode cX8_init 36 = .ok (.iconst 0, 1) := by decide +kernel
theorem dX8_init_37 : decode cX8_init 37 = .ok (.iastore, 1) := by decide +kernel
theorem dX8_init_38 : decode cX8_init 38 = .ok (.dup, 1) := by decide +kernel
theorem dX8_init_39 : decode cX8_init 39 = .ok (.iconst 3, 1) := by decide +kernel
theorem dX8_init_40 : decode cX8_init 40 = .ok (.iconst 0, 1) := by decide +kernel
theorem dX8_init_41 : decode cX8_init 41 = .ok (.iastore, 1) := by decide +kernel
theorem dX8_init_42 : decode cX8_init 42 = .ok (.aastore, 1) := by decide +kernel
theorem dX8_init_43 : decode cX8_init 43 = .ok (.dup, 1) := by decide +kernel
theorem dX8_init_44 : decode cX8_init 44 = .ok (.iconst 1, 1) := by decide +kernel
theorem dX8_init_45 : decode cX8_init 45 = .ok (.iconst 4, 1) := by decide +kernel
theorem dX8_init_46 : decode cX8_init 46 = .ok (.newarray .int, 2) := by decide +kernel
theorem dX8_init_48 : decode cX8_init 48 = .ok (.dup, 1) := by decide +kernel
theorem dX8_init_49 : decode cX8_init 49 = .ok (.iconst 0, 1) := by decide +kernel
theorem dX8_init_50 : decode cX8_init 50 = .ok (.iconst 0, 1) := by decide +kernel
theorem dX8_init_51 : decode cX8_init 51 = .ok (.iastore, 1) := by decide +kernel
theorem dX8_init_52 : decode cX8_init 52 = .ok (.dup, 1) := by decide +kernel
theorem dX8_init_53 : decode cX8_init 53 = .ok (.iconst 1, 1) := by decide +kernel
theorem dX8_init_54 : decode cX8_init 54 = .ok (.iconst 0, 1) := by decide +kernel
theorem dX8_init_55 : decode cX8_init 55 = .ok (.iastore, 1) := by decide +kernel
theorem dX8_init_56 : decode cX8_init 56 = .ok (.dup, 1) := by decide +kernel
theorem dX8_init_57 : decode cX8_init 57 = .ok (.iconst 2, 1) := by decide +kernel
theorem dX8_init_58 : decode cX8_init 58 = .ok (.iconst 0, 1) := by decide +kernel
theorem dX8_init_59 : decode cX8_init 59 = .ok (.iastore, 1) := by decide +kernel
theorem dX8_init_60 : decode cX8_init 60 = .ok (.dup, 1) := by decide +kernel
theorem dX8_init_61 : decode cX8_init 61 = .ok (.iconst 3, 1) := by decide +kernel
theorem dX8_init_62 : decode cX8_init 62 = .ok (.iconst 0, 1) := by decide +kernel
theorem dX8_init_63 : decode cX8_init 63 = .ok (.iastore, 1) := by decide +kernel
theorem dX8_init_64 : decode cX8_init 64 = .ok (.aastore, 1) := by decide +kernel
theorem dX8_init_65 : decode cX8_init 65 = .ok (.dup, 1) := by decide +kernel
theorem dX8_init_66 : decode cX8_init 66 = .ok (.iconst 2, 1) := by decide +kernel
theorem dX8_init_67 : decode cX8_init 67 = .ok (.iconst 4, 1) := by decide +kernel
theorem dX8_init_68 : decode cX8_init 68 = .ok (.newarray .int, 2) := by decide +kernel
theorem dX8_init_70 : decode cX8_init 70 = .ok (.dup, 1) := by decide +kernel
theorem dX8_init_71 : decode cX8_init 71 = .ok (.iconst 0, 1) := by decide +kernel
theorem dX8_init_72 : decode cX8_init 72 = .ok (.iconst 0, 1) := by decide +kernel
theorem dX8_init_73 : decode cX8_init 73 = .ok (.iastore, 1) := by decide +kernel
theorem dX8_init_74 : decode cX8_init 74 = .ok (.dup, 1) := by decide +kernel
theorem dX8_init_75 : decode cX8_init 75 = .ok (.iconst 1, 1) := by decide +kernel
theorem dX8_init_76 : decode cX8_init 76 = .ok (.iconst 0, 1) := by decide +kernel
theorem dX8_init_77 : decode cX8_init 77 = .ok (.iastore, 1) := by decide +kernel
theorem dX8_init_78 : decode cX8_init 78 = .ok (.dup, 1) := by decide +kernel
theorem dX8_init_79 : decode cX8_init 79 = .ok (.iconst 2, 1) := by decide +kernel
theorem dX8_init_80 : decode cX8_init 80 = .ok (.iconst 0, 1) := by decide +kernel
theorem dX8_init_81 : decode cX8_init 81 = .ok (.iastore, 1) := by decide +kernel
theorem dX8_init_82 : decode cX8_init 82 = .ok (.dup, 1) := by decide +kernel
theorem dX8_init_83 : decode cX8_init 83 = .ok (.iconst 3, 1) := by decide +kernel
theorem dX8_init_84 : decode cX8_init 84 = .ok (.iconst 0, 1) := by decide +kernel
theorem dX8_init_85 : decode cX8_init 85 = .ok (.iastore, 1) := by decide +kernel
theorem dX8_init_86 : decode cX8_init 86 = .ok (.aastore, 1) := by decide +kernel
theorem dX8_init_87 : decode cX8_init 87 = .ok (.putfield 18, 3) := by decide +kernel
theorem dX8_init_90 : decode cX8_init 90 = .ok (.aload_n 0, 1) := by decide +kernel
theorem dX8_init_91 : decode cX8_init 91 = .ok (.iconst 5, 1) := by decide +kernel
theorem dX8_init_92 : decode cX8_init 92 = .ok (.newarray .int, 2) := by decide +kernel
theorem dX8_init_94 : decode cX8_init 94 = .ok (.dup, 1) := by decide +kernel
theorem dX8_init_95 : decode cX8_init 95 = .ok (.iconst 0, 1) := by decide +kernel
theorem dX8_init_96 : decode cX8_init 96 = .ok (.iconst 0, 1) := by decide +kernel
theorem dX8_init_97 : decode cX8_init 97 = .ok (.iastore, 1) := by decide +kernel
theorem dX8_init_98 : decode cX8_init 98 = .ok (.dup, 1) := by decide +kernel
theorem dX8_init_99 : decode cX8_init 99 = .ok (.iconst 1, 1) := by decide +kernel
theorem dX8_init_100 : decode cX8_init 100 = .ok (.iconst 0, 1) := by decide +kernel
theorem dX8_init_101 : decode cX8_init 101 = .ok (.iastore, 1) := by decide +kernel
theorem dX8_init_102 : decode cX8_init 102 = .ok (.dup, 1) := by decide +kernel
theorem dX8_init_103 : decode cX8_init 103 = .ok (.iconst 2, 1) := by decide +kernel
theorem dX8_init_104 : decode cX8_init 104 = .ok (.iconst 0, 1) := by decide +kernel
theorem dX8_init_105 : decode cX8_init 105 = .ok (.iastore, 1) := by decide +kernel
theorem dX8_init_106 : decode cX8_init 106 = .ok (.dup, 1) := by decide +kernel
theorem dX8_init_107 : decode cX8_init 107 = .ok (.iconst 3, 1) := by decide +kernel
theorem dX8_init_108 : decode cX8_init 108 = .ok (.iconst 0, 1) := by decide +kernel
theorem dX8_init_109 : decode cX8_init 109 = .ok (.iastore, 1) := by decide +kernel
theorem dX8_init_110 : decode cX8_init 110 = .ok (.dup, 1) := by decide +kernel
theorem dX8_init_111 : decode cX8_init 111 = .ok (.iconst 4, 1) := by decide +kernel
theorem dX8_init_112 : decode cX8_init 112 = .ok (.iconst (-1), 1) := by decide +kernel
theorem dX8_init_113 : decode cX8_init 113 = .ok (.iastore, 1) := by decide +kernel
theorem dX8_init_114 : decode cX8_init 114 = .ok (.putfield 22, 3) := by decide +kernel
theorem dX8_init_117 : decode cX8_init 117 = .ok (.aload_n 0, 1) := by decide +kernel
theorem dX8_init_118 : decode cX8_init 118 = .ok (.iconst 5, 1) := by decide +kernel
theorem dX8_init_119 : decode cX8_init 119 = .ok (.putfield 25, 3) := by decide +kernel
theorem dX8_init_122 : decode cX8_init 122 = .ok (.return_, 1) := by decide +kernel
theorem dX8_thrown_0 : decode cX8_thrown 0 = .ok (.aload_n 0, 1) := by decide +kernel
theorem dX8_thrown_1 : decode cX8_thrown 1 = .ok (.getfield 29, 3) := by decide +kernel
theorem dX8_thrown_4 : decode cX8_thrown 4 = .ok (.ireturn, 1) := by decide +kernel
theorem dX8_no_0 : decode cX8_no 0 = .ok (.aload_n 0, 1) := by decide +kernel
theorem dX8_no_1 : decode cX8_no 1 = .ok (.iload_n 1, 1) := by decide +kernel
theorem dX8_no_2 : decode cX8_no 2 = .ok (.putfield 29, 3) := by decide +kernel
theorem dX8_no_5 : decode cX8_no 5 = .ok (.iconst 0, 1) := by decide +kernel
theorem dX8_no_6 : decode cX8_no 6 = .ok (.ireturn, 1) := by decide +kernel
theorem dX8_in_0 : decode cX8_in 0 = .ok (.iload_n 0, 1) := by decide +kernel
theorem dX8_in_1 : decode cX8_in 1 = .ok (.iload_n 1, 1) := by decide +kernel
theorem dX8_in_2 : decode cX8_in 2 = .ok (.if_icmp .lt 12, 3) := by decide +kernel
theorem dX8_in_5 : decode cX8_in 5 = .ok (.iload_n 0, 1) := by decide +kernel
theorem dX8_in_6 : decode cX8_in 6 = .ok (.iload_n 2, 1) := by decide +kernel
theorem dX8_in_7 : decode cX8_in 7 = .ok (.if_icmp .gt 7, 3) := by decide +kernel
theorem dX8_in_10 : decode cX8_in 10 = .ok (.iconst 1, 1) := by decide +kernel
theorem dX8_in_11 : decode cX8_in 11 = .ok (.goto 4, 3) := by decide +kernel
theorem dX8_in_14 : decode cX8_in 14 = .ok (.iconst 0, 1) := by decide +kernel
theorem dX8_in_15 : decode cX8_in 15 = .ok (.ireturn, 1) := by decide +kernel
set_option maxRecDepth 20000 in
theorem ggX8_isCell_X8_in : GoodIn wsX8_isCell wsX8_in := goodIn_r _ [4] (by decide +kernel) (by decide +kernel)
set_option maxRecDepth 20000 in
theorem gX8_isCell_X8_in : GoodIn wsX8_isCell (va_wsS RX8 32 yX8_in wsX8_in) := goodIn_app (goodIn_of _ (by decide +kernel)) ggX8_isCell_X8_in
theorem dX8_isCell_0 : decode cX8_isCell 0 = .ok (.iload_n 0, 1) := by decide +kernel
theorem dX8_isCell_1 : decode cX8_isCell 1 = .ok (.iconst 0, 1) := by decide +kernel
theorem dX8_isCell_2 : decode cX8_isCell 2 = .ok (.bipush 15, 2) := by decide +kernel
theorem dX8_isCell_4 : decode cX8_isCell 4 = .ok (.invokestatic 32, 3) := by decide +kernel
theorem dX8_isCell_7 : decode cX8_isCell 7 = .ok (.ireturn, 1) := by decide +kernel
set_option maxRecDepth 20000 in
theorem ggX8_isBeside_X8_isCell : GoodIn wsX8_isBeside wsX8_isCell := goodIn_r _ [4, 5, 6, 3, 7] (by decide +kernel) (by decide +kernel)
set_option maxRecDepth 20000 in
theorem gX8_isBeside_X8_isCell : GoodIn wsX8_isBeside (va_wsS RX8 36 yX8_isCell wsX8_isCell) := goodIn_app (goodIn_of _ (by decide +kernel)) ggX8_isBeside_X8_isCell
theorem dX8_isBeside_0 : decode cX8_isBeside 0 = .ok (.iload_n 0, 1) := by decide +kernel
theorem dX8_isBeside_1 : decode cX8_isBeside 1 = .ok (.invokestatic 36, 3) := by decide +kernel
theorem dX8_isBeside_4 : decode cX8_isBeside 4 = .ok (.ifCond .eq 27, 3) := by decide +kernel
theorem dX8_isBeside_7 : decode cX8_isBeside 7 = .ok (.iload_n 1, 1) := by decide +kernel
theorem dX8_isBeside_8 : decode cX8_isBeside 8 = .ok (.ifCond .eq 13, 3) := by decide +kernel
theorem dX8_isBeside_11 : decode cX8_isBeside 11 = .ok (.iload_n 0, 1) := by decide +kernel
theorem dX8_isBeside_12 : decode cX8_isBeside 12 = .ok (.iconst 4, 1) := by decide +kernel
theorem dX8_isBeside_13 : decode cX8_isBeside 13 = .ok (.irem, 1) := by decide +kernel
theorem dX8_isBeside_14 : decode cX8_isBeside 14 = .ok (.iconst 3, 1) := by decide +kernel
theorem dX8_isBeside_15 : decode cX8_isBeside 15 = .ok (.if_icmp .ge 16, 3) := by decide +kernel
theorem dX8_isBeside_18 : decode cX8_isBeside 18 = .ok (.goto 9, 3) := by decide +kernel
theorem dX8_isBeside_21 : decode cX8_isBeside 21 = .ok (.iload_n 0, 1) := by decide +kernel
theorem dX8_isBeside_22 : decode cX8_isBeside 22 = .ok (.bipush 12, 2) := by decide +kernel
theorem dX8_isBeside_24 : decode cX8_isBeside 24 = .ok (.if_icmp .ge 7, 3) := by decide +kernel
theorem dX8_isBeside_27 : decode cX8_isBeside 27 = .ok (.iconst 1, 1) := by decide +kernel
theorem dX8_isBeside_28 : decode cX8_isBeside 28 = .ok (.goto 4, 3) := by decide +kernel
theorem dX8_isBeside_31 : decode cX8_isBeside 31 = .ok (.iconst 0, 1) := by decide +kernel
theorem dX8_isBeside_32 : decode cX8_isBeside 32 = .ok (.ireturn, 1) := by decide +kernel
set_option maxRecDepth 20000 in
theorem ggX8_isWell_X8_in : GoodIn wsX8_isWell wsX8_in := goodIn_r _ [6] (by decide +kernel) (by decide +kernel)
set_option maxRecDepth 20000 in
theorem gX8_isWell_X8_in : GoodIn wsX8_isWell (va_wsS RX8 32 yX8_in wsX8_in) := goodIn_app (goodIn_of _ (by decide +kernel)) ggX8_isWell_X8_in
theorem dX8_isWell_0 : decode cX8_isWell 0 = .ok (.iload_n 1, 1) := by decide +kernel
theorem dX8_isWell_1 : decode cX8_isWell 1 = .ok (.iconst 0, 1) := by decide +kernel
theorem dX8_isWell_2 : decode cX8_isWell 2 = .ok (.aload_n 0, 1) := by decide +kernel
theorem dX8_isWell_3 : decode cX8_isWell 3 = .ok (.getfield 10, 3) := by decide +kernel
theorem dX8_isWell_6 : decode cX8_isWell 6 = .ok (.getfield 40, 3) := by decide +kernel
theorem dX8_isWell_9 : decode cX8_isWell 9 = .ok (.iconst 1, 1) := by decide +kernel
theorem dX8_isWell_10 : decode cX8_isWell 10 = .ok (.isub, 1) := by decide +kernel
theorem dX8_isWell_11 : decode cX8_isWell 11 = .ok (.invokestatic 32, 3) := by decide +kernel
theorem dX8_isWell_14 : decode cX8_isWell 14 = .ok (.ireturn, 1) := by decide +kernel
set_option maxRecDepth 20000 in
theorem ggX8_cell_X8_isCell : GoodIn wsX8_cell wsX8_isCell := goodIn_r _ [8, 9, 10, 7, 11] (by decide +kernel) (by decide +kernel)
set_option maxRecDepth 20000 in
theorem gX8_cell_X8_isCell : GoodIn wsX8_cell (va_wsS RX8 36 yX8_isCell wsX8_isCell) := goodIn_app (goodIn_of _ (by decide +kernel)) ggX8_cell_X8_isCell
set_option maxRecDepth 20000 in
theorem ggX8_cell_X8_no : GoodIn wsX8_cell wsX8_no := goodIn_r _ [15, 1, 27, 28, 29, 30, 31, 32, 33, 34] (by decide +kernel) (by decide +kernel)
set_option maxRecDepth 20000 in
theorem gX8_cell_X8_no : GoodIn wsX8_cell (wsV RX8 43 RX8 yX8_no wsX8_no) := goodIn_app (goodIn_of _ (by decide +kernel)) ggX8_cell_X8_no
set_option maxRecDepth 20000 in
theorem ggX8_cell_X8_in : GoodIn wsX8_cell wsX8_in := goodIn_r _ [11] (by decide +kernel) (by decide +kernel)
set_option maxRecDepth 20000 in
theorem gX8_cell_X8_in : GoodIn wsX8_cell (va_wsS RX8 32 yX8_in wsX8_in) := goodIn_app (goodIn_of _ (by decide +kernel)) ggX8_cell_X8_in
set_option maxRecDepth 20000 in
theorem ggX8_cell_X7_pressure : GoodIn wsX8_cell wsX7_pressure := goodIn_r _ [20, 21, 22, 23, 24, 19, 25, 26, 35, 36, 37, 38, 39, 40, 41, 42, 43, 44, 45, 46, 47, 48] (by decide +kernel) (by decide +kernel)
set_option maxRecDepth 20000 in
theorem gX8_cell_X7_pressure : GoodIn wsX8_cell (wsV RX8 53 RX7 yX7_pressure wsX7_pressure) := goodIn_app (goodIn_of _ (by decide +kernel)) ggX8_cell_X7_pressure
theorem dX8_cell_0 : decode cX8_cell 0 = .ok (.aload_n 0, 1) := by decide +kernel
theorem dX8_cell_1 : decode cX8_cell 1 = .ok (.iconst 0, 1) := by decide +kernel
theorem dX8_cell_2 : decode cX8_cell 2 = .ok (.putfield 29, 3) := by decide +kernel
theorem dX8_cell_5 : decode cX8_cell 5 = .ok (.iload_n 1, 1) := by decide +kernel
theorem dX8_cell_6 : decode cX8_cell 6 = .ok (.invokestatic 36, 3) := by decide +kernel
theorem dX8_cell_9 : decode cX8_cell 9 = .ok (.ifCond .ne 9, 3) := by decide +kernel
theorem dX8_cell_12 : decode cX8_cell 12 = .ok (.aload_n 0, 1) := by decide +kernel
theorem dX8_cell_13 : decode cX8_cell 13 = .ok (.iconst 1, 1) := by decide +kernel
theorem dX8_cell_14 : decode cX8_cell 14 = .ok (.invokevirtual 43, 3) := by decide +kernel
theorem dX8_cell_17 : decode cX8_cell 17 = .ok (.ireturn, 1) := by decide +kernel
theorem dX8_cell_18 : decode cX8_cell 18 = .ok (.iload_n 2, 1) := by decide +kernel
theorem dX8_cell_19 : decode cX8_cell 19 = .ok (.bipush 10, 2) := by decide +kernel
theorem dX8_cell_21 : decode cX8_cell 21 = .ok (.bipush 90, 2) := by decide +kernel
theorem dX8_cell_23 : decode cX8_cell 23 = .ok (.invokestatic 32, 3) := by decide +kernel
theorem dX8_cell_26 : decode cX8_cell 26 = .ok (.ifCond .eq 35, 3) := by decide +kernel
theorem dX8_cell_29 : decode cX8_cell 29 = .ok (.iload_n 3, 1) := by decide +kernel
theorem dX8_cell_30 : decode cX8_cell 30 = .ok (.iconst 0, 1) := by decide +kernel
theorem dX8_cell_31 : decode cX8_cell 31 = .ok (.bipush 99, 2) := by decide +kernel
theorem dX8_cell_33 : decode cX8_cell 33 = .ok (.invokestatic 32, 3) := by decide +kernel
theorem dX8_cell_36 : decode cX8_cell 36 = .ok (.ifCond .eq 25, 3) := by decide +kernel
theorem dX8_cell_39 : decode cX8_cell 39 = .ok (.iload 4, 2) := by decide +kernel
theorem dX8_cell_41 : decode cX8_cell 41 = .ok (.iconst 0, 1) := by decide +kernel
theorem dX8_cell_42 : decode cX8_cell 42 = .ok (.bipush 99, 2) := by decide +kernel
theorem dX8_cell_44 : decode cX8_cell 44 = .ok (.invokestatic 32, 3) := by decide +kernel
theorem dX8_cell_47 : decode cX8_cell 47 = .ok (.ifCond .eq 14, 3) := by decide +kernel
theorem dX8_cell_50 : decode cX8_cell 50 = .ok (.iload 5, 2) := by decide +kernel
theorem dX8_cell_52 : decode cX8_cell 52 = .ok (.iconst 0, 1) := by decide +kernel
theorem dX8_cell_53 : decode cX8_cell 53 = .ok (.bipush 99, 2) := by decide +kernel
theorem dX8_cell_55 : decode cX8_cell 55 = .ok (.invokestatic 32, 3) := by decide +kernel
theorem dX8_cell_58 : decode cX8_cell 58 = .ok (.ifCond .ne 9, 3) := by decide +kernel
theorem dX8_cell_61 : decode cX8_cell 61 = .ok (.aload_n 0, 1) := by decide +kernel
theorem dX8_cell_62 : decode cX8_cell 62 = .ok (.iconst 2, 1) := by decide +kernel
theorem dX8_cell_63 : decode cX8_cell 63 = .ok (.invokevirtual 43, 3) := by decide +kernel
theorem dX8_cell_66 : decode cX8_cell 66 = .ok (.ireturn, 1) := by decide +kernel
theorem dX8_cell_67 : decode cX8_cell 67 = .ok (.aload_n 0, 1) := by decide +kernel
theorem dX8_cell_68 : decode cX8_cell 68 = .ok (.getfield 10, 3) := by decide +kernel
theorem dX8_cell_71 : decode cX8_cell 71 = .ok (.getfield 47, 3) := by decide +kernel
theorem dX8_cell_74 : decode cX8_cell 74 = .ok (.iload_n 1, 1) := by decide +kernel
theorem dX8_cell_75 : decode cX8_cell 75 = .ok (.iload_n 2, 1) := by decide +kernel
theorem dX8_cell_76 : decode cX8_cell 76 = .ok (.iastore, 1) := by decide +kernel
theorem dX8_cell_77 : decode cX8_cell 77 = .ok (.aload_n 0, 1) := by decide +kernel
theorem dX8_cell_78 : decode cX8_cell 78 = .ok (.getfield 10, 3) := by decide +kernel
theorem dX8_cell_81 : decode cX8_cell 81 = .ok (.getfield 50, 3) := by decide +kernel
theorem dX8_cell_84 : decode cX8_cell 84 = .ok (.iconst 3, 1) := by decide +kernel
theorem dX8_cell_85 : decode cX8_cell 85 = .ok (.iload_n 1, 1) := by decide +kernel
theorem dX8_cell_86 : decode cX8_cell 86 = .ok (.imul, 1) := by decide +kernel
theorem dX8_cell_87 : decode cX8_cell 87 = .ok (.iload_n 3, 1) := by decide +kernel
theorem dX8_cell_88 : decode cX8_cell 88 = .ok (.iastore, 1) := by decide +kernel
theorem dX8_cell_89 : decode cX8_cell 89 = .ok (.aload_n 0, 1) := by decide +kernel
theorem dX8_cell_90 : decode cX8_cell 90 = .ok (.getfield 10, 3) := by decide +kernel
theorem dX8_cell_93 : decode cX8_cell 93 = .ok (.getfield 50, 3) := by decide +kernel
theorem dX8_cell_96 : decode cX8_cell 96 = .ok (.iconst 3, 1) := by decide +kernel
theorem dX8_cell_97 : decode cX8_cell 97 = .ok (.iload_n 1, 1) := by decide +kernel
theorem dX8_cell_98 : decode cX8_cell 98 = .ok (.imul, 1) := by decide +kernel
theorem dX8_cell_99 : decode cX8_cell 99 = .ok (.iconst 1, 1) := by decide +kernel
theorem dX8_cell_100 : decode cX8_cell 100 = .ok (.iadd, 1) := by decide +kernel
theorem dX8_cell_101 : decode cX8_cell 101 = .ok (.iload 4, 2) := by decide +kernel
theorem dX8_cell_103 : decode cX8_cell 103 = .ok (.iastore, 1) := by decide +kernel
theorem dX8_cell_104 : decode cX8_cell 104 = .ok (.aload_n 0, 1) := by decide +kernel
theorem dX8_cell_105 : decode cX8_cell 105 = .ok (.getfield 10, 3) := by decide +kernel
theorem dX8_cell_108 : decode cX8_cell 108 = .ok (.getfield 50, 3) := by decide +kernel
theorem dX8_cell_111 : decode cX8_cell 111 = .ok (.iconst 3, 1) := by decide +kernel
theorem dX8_cell_112 : decode cX8_cell 112 = .ok (.iload_n 1, 1) := by decide +kernel
theorem dX8_cell_113 : decode cX8_cell 113 = .ok (.imul, 1) := by decide +kernel
theorem dX8_cell_114 : decode cX8_cell 114 = .ok (.iconst 2, 1) := by decide +kernel
theorem dX8_cell_115 : decode cX8_cell 115 = .ok (.iadd, 1) := by decide +kernel
theorem dX8_cell_116 : decode cX8_cell 116 = .ok (.iload 5, 2) := by decide +kernel
theorem dX8_cell_118 : decode cX8_cell 118 = .ok (.iastore, 1) := by decide +kernel
theorem dX8_cell_119 : decode cX8_cell 119 = .ok (.aload_n 0, 1) := by decide +kernel
theorem dX8_cell_120 : decode cX8_cell 120 = .ok (.getfield 10, 3) := by decide +kernel
theorem dX8_cell_123 : decode cX8_cell 123 = .ok (.iload_n 1, 1) := by decide +kernel
theorem dX8_cell_124 : decode cX8_cell 124 = .ok (.invokevirtual 53, 3) := by decide +kernel
theorem dX8_cell_127 : decode cX8_cell 127 = .ok (.ireturn, 1) := by decide +kernel
set_option maxRecDepth 20000 in
theorem ggX8_fault_X8_isBeside : GoodIn wsX8_fault wsX8_isBeside := goodIn_r _ [8, 9, 10, 7, 11, 12, 13, 14] (by decide +kernel) (by decide +kernel)
set_option maxRecDepth 20000 in
theorem gX8_fault_X8_isBeside : GoodIn wsX8_fault (va_wsS RX8 56 yX8_isBeside wsX8_isBeside) := goodIn_app (goodIn_of _ (by decide +kernel)) ggX8_fault_X8_isBeside
set_option maxRecDepth 20000 in
theorem ggX8_fault_X8_no : GoodIn wsX8_fault wsX8_no := goodIn_r _ [18, 1, 19, 20, 21, 22, 23, 24, 25, 26] (by decide +kernel) (by decide +kernel)
set_option maxRecDepth 20000 in
theorem gX8_fault_X8_no : GoodIn wsX8_fault (wsV RX8 43 RX8 yX8_no wsX8_no) := goodIn_app (goodIn_of _ (by decide +kernel)) ggX8_fault_X8_no
theorem dX8_fault_0 : decode cX8_fault 0 = .ok (.aload_n 0, 1) := by decide +kernel
theorem dX8_fault_1 : decode cX8_fault 1 = .ok (.iconst 0, 1) := by decide +kernel
theorem dX8_fault_2 : decode cX8_fault 2 = .ok (.putfield 29, 3) := by decide +kernel
theorem dX8_fault_5 : decode cX8_fault 5 = .ok (.iload_n 1, 1) := by decide +kernel
theorem dX8_fault_6 : decode cX8_fault 6 = .ok (.iload_n 2, 1) := by decide +kernel
theorem dX8_fault_7 : decode cX8_fault 7 = .ok (.invokestatic 56, 3) := by decide +kernel
theorem dX8_fault_10 : decode cX8_fault 10 = .ok (.ifCond .ne 17, 3) := by decide +kernel
theorem dX8_fault_13 : decode cX8_fault 13 = .ok (.aload_n 0, 1) := by decide +kernel
theorem dX8_fault_14 : decode cX8_fault 14 = .ok (.iconst 1, 1) := by decide +kernel
theorem dX8_fault_15 : decode cX8_fault 15 = .ok (.invokevirtual 43, 3) := by decide +kernel
theorem dX8_fault_18 : decode cX8_fault 18 = .ok (.ifCond .le 7, 3) := by decide +kernel
theorem dX8_fault_21 : decode cX8_fault 21 = .ok (.iconst 1, 1) := by decide +kernel
theorem dX8_fault_22 : decode cX8_fault 22 = .ok (.goto 4, 3) := by decide +kernel
theorem dX8_fault_25 : decode cX8_fault 25 = .ok (.iconst 0, 1) := by decide +kernel
theorem dX8_fault_26 : decode cX8_fault 26 = .ok (.ireturn, 1) := by decide +kernel
theorem dX8_fault_27 : decode cX8_fault 27 = .ok (.iload_n 2, 1) := by decide +kernel
theorem dX8_fault_28 : decode cX8_fault 28 = .ok (.ifCond .eq 13, 3) := by decide +kernel
theorem dX8_fault_31 : decode cX8_fault 31 = .ok (.aload_n 0, 1) := by decide +kernel
theorem dX8_fault_32 : decode cX8_fault 32 = .ok (.getfield 10, 3) := by decide +kernel
theorem dX8_fault_35 : decode cX8_fault 35 = .ok (.getfield 60, 3) := by decide +kernel
theorem dX8_fault_38 : decode cX8_fault 38 = .ok (.goto 10, 3) := by decide +kernel
theorem dX8_fault_41 : decode cX8_fault 41 = .ok (.aload_n 0, 1) := by decide +kernel
theorem dX8_fault_42 : decode cX8_fault 42 = .ok (.getfield 10, 3) := by decide +kernel
theorem dX8_fault_45 : decode cX8_fault 45 = .ok (.getfield 64, 3) := by decide +kernel
theorem dX8_fault_48 : decode cX8_fault 48 = .ok (.astore 4, 2) := by decide +kernel
theorem dX8_fault_50 : decode cX8_fault 50 = .ok (.aload 4, 2) := by decide +kernel
theorem dX8_fault_52 : decode cX8_fault 52 = .ok (.iload_n 1, 1) := by decide +kernel
theorem dX8_fault_53 : decode cX8_fault 53 = .ok (.baload, 1) := by decide +kernel
theorem dX8_fault_54 : decode cX8_fault 54 = .ok (.istore 5, 2) := by decide +kernel
theorem dX8_fault_56 : decode cX8_fault 56 = .ok (.aload 4, 2) := by decide +kernel
theorem dX8_fault_58 : decode cX8_fault 58 = .ok (.iload_n 1, 1) := by decide +kernel
theorem dX8_fault_59 : decode cX8_fault 59 = .ok (.iload_n 3, 1) := by decide +kernel
theorem dX8_fault_60 : decode cX8_fault 60 = .ok (.bastore, 1) := by decide +kernel
theorem dX8_fault_61 : decode cX8_fault 61 = .ok (.iload 5, 2) := by decide +kernel
theorem dX8_fault_63 : decode cX8_fault 63 = .ok (.ireturn, 1) := by decide +kernel
set_option maxRecDepth 20000 in
theorem ggX8_well_X8_isCell : GoodIn wsX8_well wsX8_isCell := goodIn_r _ [8, 9, 10, 7, 11] (by decide +kernel) (by decide +kernel)
set_option maxRecDepth 20000 in
theorem gX8_well_X8_isCell : GoodIn wsX8_well (va_wsS RX8 36 yX8_isCell wsX8_isCell) := goodIn_app (goodIn_of _ (by decide +kernel)) ggX8_well_X8_isCell
set_option maxRecDepth 20000 in
theorem ggX8_well_X8_no : GoodIn wsX8_well wsX8_no := goodIn_r _ [15, 1, 16, 17, 18, 19, 20, 21, 22, 23] (by decide +kernel) (by decide +kernel)
set_option maxRecDepth 20000 in
theorem gX8_well_X8_no : GoodIn wsX8_well (wsV RX8 43 RX8 yX8_no wsX8_no) := goodIn_app (goodIn_of _ (by decide +kernel)) ggX8_well_X8_no
set_option maxRecDepth 20000 in
theorem ggX8_well_X8_in : GoodIn wsX8_well wsX8_in := goodIn_r _ [11] (by decide +kernel) (by decide +kernel)
set_option maxRecDepth 20000 in
theorem gX8_well_X8_in : GoodIn wsX8_well (va_wsS RX8 32 yX8_in wsX8_in) := goodIn_app (goodIn_of _ (by decide +kernel)) ggX8_well_X8_in
theorem dX8_well_0 : decode cX8_well 0 = .ok (.aload_n 0, 1) := by decide +kernel
theorem dX8_well_1 : decode cX8_well 1 = .ok (.iconst 0, 1) := by decide +kernel
theorem dX8_well_2 : decode cX8_well 2 = .ok (.putfield 29, 3) := by decide +kernel
theorem dX8_well_5 : decode cX8_well 5 = .ok (.iload_n 2, 1) := by decide +kernel
theorem dX8_well_6 : decode cX8_well 6 = .ok (.invokestatic 36, 3) := by decide +kernel
theorem dX8_well_9 : decode cX8_well 9 = .ok (.ifCond .ne 9, 3) := by decide +kernel
theorem dX8_well_12 : decode cX8_well 12 = .ok (.aload_n 0, 1) := by decide +kernel
theorem dX8_well_13 : decode cX8_well 13 = .ok (.iconst 1, 1) := by decide +kernel
theorem dX8_well_14 : decode cX8_well 14 = .ok (.invokevirtual 43, 3) := by decide +kernel
theorem dX8_well_17 : decode cX8_well 17 = .ok (.ireturn, 1) := by decide +kernel
theorem dX8_well_18 : decode cX8_well 18 = .ok (.iload_n 1, 1) := by decide +kernel
theorem dX8_well_19 : decode cX8_well 19 = .ok (.iconst 0, 1) := by decide +kernel
theorem dX8_well_20 : decode cX8_well 20 = .ok (.iconst 2, 1) := by decide +kernel
theorem dX8_well_21 : decode cX8_well 21 = .ok (.invokestatic 32, 3) := by decide +kernel
theorem dX8_well_24 : decode cX8_well 24 = .ok (.ifCond .ne 9, 3) := by decide +kernel
theorem dX8_well_27 : decode cX8_well 27 = .ok (.aload_n 0, 1) := by decide +kernel
theorem dX8_well_28 : decode cX8_well 28 = .ok (.iconst 2, 1) := by decide +kernel
theorem dX8_well_29 : decode cX8_well 29 = .ok (.invokevirtual 43, 3) := by decide +kernel
theorem dX8_well_32 : decode cX8_well 32 = .ok (.ireturn, 1) := by decide +kernel
theorem dX8_well_33 : decode cX8_well 33 = .ok (.aload_n 0, 1) := by decide +kernel
theorem dX8_well_34 : decode cX8_well 34 = .ok (.getfield 10, 3) := by decide +kernel
theorem dX8_well_37 : decode cX8_well 37 = .ok (.getfield 40, 3) := by decide +kernel
theorem dX8_well_40 : decode cX8_well 40 = .ok (.bipush 6, 2) := by decide +kernel
theorem dX8_well_42 : decode cX8_well 42 = .ok (.if_icmp .ne 9, 3) := by decide +kernel
theorem dX8_well_45 : decode cX8_well 45 = .ok (.aload_n 0, 1) := by decide +kernel
theorem dX8_well_46 : decode cX8_well 46 = .ok (.iconst 3, 1) := by decide +kernel
theorem dX8_well_47 : decode cX8_well 47 = .ok (.invokevirtual 43, 3) := by decide +kernel
theorem dX8_well_50 : decode cX8_well 50 = .ok (.ireturn, 1) := by decide +kernel
theorem dX8_well_51 : decode cX8_well 51 = .ok (.aload_n 0, 1) := by decide +kernel
theorem dX8_well_52 : decode cX8_well 52 = .ok (.getfield 10, 3) := by decide +kernel
theorem dX8_well_55 : decode cX8_well 55 = .ok (.getfield 67, 3) := by decide +kernel
theorem dX8_well_58 : decode cX8_well 58 = .ok (.aload_n 0, 1) := by decide +kernel
theorem dX8_well_59 : decode cX8_well 59 = .ok (.getfield 10, 3) := by decide +kernel
theorem dX8_well_62 : decode cX8_well 62 = .ok (.getfield 40, 3) := by decide +kernel
theorem dX8_well_65 : decode cX8_well 65 = .ok (.aaload, 1) := by decide +kernel
theorem dX8_well_66 : decode cX8_well 66 = .ok (.astore_n 3, 1) := by decide +kernel
theorem dX8_well_67 : decode cX8_well 67 = .ok (.aload_n 3, 1) := by decide +kernel
theorem dX8_well_68 : decode cX8_well 68 = .ok (.iconst 0, 1) := by decide +kernel
theorem dX8_well_69 : decode cX8_well 69 = .ok (.iload_n 1, 1) := by decide +kernel
theorem dX8_well_70 : decode cX8_well 70 = .ok (.iastore, 1) := by decide +kernel
theorem dX8_well_71 : decode cX8_well 71 = .ok (.aload_n 3, 1) := by decide +kernel
theorem dX8_well_72 : decode cX8_well 72 = .ok (.iconst 1, 1) := by decide +kernel
theorem dX8_well_73 : decode cX8_well 73 = .ok (.iload_n 2, 1) := by decide +kernel
theorem dX8_well_74 : decode cX8_well 74 = .ok (.iastore, 1) := by decide +kernel
theorem dX8_well_75 : decode cX8_well 75 = .ok (.aload_n 3, 1) := by decide +kernel
theorem dX8_well_76 : decode cX8_well 76 = .ok (.iconst 3, 1) := by decide +kernel
theorem dX8_well_77 : decode cX8_well 77 = .ok (.iconst 5, 1) := by decide +kernel
theorem dX8_well_78 : decode cX8_well 78 = .ok (.iastore, 1) := by decide +kernel
theorem dX8_well_79 : decode cX8_well 79 = .ok (.aload_n 0, 1) := by decide +kernel
theorem dX8_well_80 : decode cX8_well 80 = .ok (.getfield 10, 3) := by decide +kernel
theorem dX8_well_83 : decode cX8_well 83 = .ok (.dup, 1) := by decide +kernel
theorem dX8_well_84 : decode cX8_well 84 = .ok (.getfield 40, 3) := by decide +kernel
theorem dX8_well_87 : decode cX8_well 87 = .ok (.dup_x1, 1) := by decide +kernel
theorem dX8_well_88 : decode cX8_well 88 = .ok (.iconst 1, 1) := by decide +kernel
theorem dX8_well_89 : decode cX8_well 89 = .ok (.iadd, 1) := by decide +kernel
theorem dX8_well_90 : decode cX8_well 90 = .ok (.putfield 40, 3) := by decide +kernel
theorem dX8_well_93 : decode cX8_well 93 = .ok (.ireturn, 1) := by decide +kernel
set_option maxRecDepth 20000 in
theorem ggX8_choke_X8_isWell : GoodIn wsX8_choke wsX8_isWell := goodIn_r _ [8, 2, 9, 10, 11, 7, 12, 17, 18, 19, 20, 21, 22, 23, 24, 25, 26, 27, 28, 29, 30, 31, 32, 33, 34, 35, 36, 37, 38] (by decide +kernel) (by decide +kernel)
set_option maxRecDepth 20000 in
theorem gX8_choke_X8_isWell : GoodIn wsX8_choke (wsV RX8 70 RX8 yX8_isWell wsX8_isWell) := goodIn_app (goodIn_of _ (by decide +kernel)) ggX8_choke_X8_isWell
set_option maxRecDepth 20000 in
theorem ggX8_choke_X8_no : GoodIn wsX8_choke wsX8_no := goodIn_r _ [16, 1, 17, 18, 19, 20, 21, 22, 23, 24] (by decide +kernel) (by decide +kernel)
set_option maxRecDepth 20000 in
theorem gX8_choke_X8_no : GoodIn wsX8_choke (wsV RX8 43 RX8 yX8_no wsX8_no) := goodIn_app (goodIn_of _ (by decide +kernel)) ggX8_choke_X8_no
set_option maxRecDepth 20000 in
theorem ggX8_choke_X8_in : GoodIn wsX8_choke wsX8_in := goodIn_r _ [12] (by decide +kernel) (by decide +kernel)
set_option maxRecDepth 20000 in
theorem gX8_choke_X8_in : GoodIn wsX8_choke (va_wsS RX8 32 yX8_in wsX8_in) := goodIn_app (goodIn_of _ (by decide +kernel)) ggX8_choke_X8_in
theorem dX8_choke_0 : decode cX8_choke 0 = .ok (.aload_n 0, 1) := by decide +kernel
theorem dX8_choke_1 : decode cX8_choke 1 = .ok (.iconst 0, 1) := by decide +kernel
theorem dX8_choke_2 : decode cX8_choke 2 = .ok (.putfield 29, 3) := by decide +kernel
theorem dX8_choke_5 : decode cX8_choke 5 = .ok (.aload_n 0, 1) := by decide +kernel
theorem dX8_choke_6 : decode cX8_choke 6 = .ok (.iload_n 1, 1) := by decide +kernel
theorem dX8_choke_7 : decode cX8_choke 7 = .ok (.invokevirtual 70, 3) := by decide +kernel
theorem dX8_choke_10 : decode cX8_choke 10 = .ok (.ifCond .ne 9, 3) := by decide +kernel
theorem dX8_choke_13 : decode cX8_choke 13 = .ok (.aload_n 0, 1) := by decide +kernel
theorem dX8_choke_14 : decode cX8_choke 14 = .ok (.iconst 1, 1) := by decide +kernel
theorem dX8_choke_15 : decode cX8_choke 15 = .ok (.invokevirtual 43, 3) := by decide +kernel
theorem dX8_choke_18 : decode cX8_choke 18 = .ok (.ireturn, 1) := by decide +kernel
theorem dX8_choke_19 : decode cX8_choke 19 = .ok (.iload_n 2, 1) := by decide +kernel
theorem dX8_choke_20 : decode cX8_choke 20 = .ok (.iconst 0, 1) := by decide +kernel
theorem dX8_choke_21 : decode cX8_choke 21 = .ok (.bipush 9, 2) := by decide +kernel
theorem dX8_choke_23 : decode cX8_choke 23 = .ok (.invokestatic 32, 3) := by decide +kernel
theorem dX8_choke_26 : decode cX8_choke 26 = .ok (.ifCond .ne 9, 3) := by decide +kernel
theorem dX8_choke_29 : decode cX8_choke 29 = .ok (.aload_n 0, 1) := by decide +kernel
theorem dX8_choke_30 : decode cX8_choke 30 = .ok (.iconst 2, 1) := by decide +kernel
theorem dX8_choke_31 : decode cX8_choke 31 = .ok (.invokevirtual 43, 3) := by decide +kernel
theorem dX8_choke_34 : decode cX8_choke 34 = .ok (.ireturn, 1) := by decide +kernel
theorem dX8_choke_35 : decode cX8_choke 35 = .ok (.aload_n 0, 1) := by decide +kernel
theorem dX8_choke_36 : decode cX8_choke 36 = .ok (.getfield 10, 3) := by decide +kernel
theorem dX8_choke_39 : decode cX8_choke 39 = .ok (.getfield 67, 3) := by decide +kernel
theorem dX8_choke_42 : decode cX8_choke 42 = .ok (.iload_n 1, 1) := by decide +kernel
theorem dX8_choke_43 : decode cX8_choke 43 = .ok (.aaload, 1) := by decide +kernel
theorem dX8_choke_44 : decode cX8_choke 44 = .ok (.astore_n 3, 1) := by decide +kernel
theorem dX8_choke_45 : decode cX8_choke 45 = .ok (.aload_n 3, 1) := by decide +kernel
theorem dX8_choke_46 : decode cX8_choke 46 = .ok (.iconst 4, 1) := by decide +kernel
theorem dX8_choke_47 : decode cX8_choke 47 = .ok (.iaload, 1) := by decide +kernel
theorem dX8_choke_48 : decode cX8_choke 48 = .ok (.iconst 1, 1) := by decide +kernel
theorem dX8_choke_49 : decode cX8_choke 49 = .ok (.if_icmp .ne 9, 3) := by decide +kernel
theorem dX8_choke_52 : decode cX8_choke 52 = .ok (.aload_n 0, 1) := by decide +kernel
theorem dX8_choke_53 : decode cX8_choke 53 = .ok (.iconst 3, 1) := by decide +kernel
theorem dX8_choke_54 : decode cX8_choke 54 = .ok (.invokevirtual 43, 3) := by decide +kernel
theorem dX8_choke_57 : decode cX8_choke 57 = .ok (.ireturn, 1) := by decide +kernel
theorem dX8_choke_58 : decode cX8_choke 58 = .ok (.aload_n 3, 1) := by decide +kernel
theorem dX8_choke_59 : decode cX8_choke 59 = .ok (.iconst 2, 1) := by decide +kernel
theorem dX8_choke_60 : decode cX8_choke 60 = .ok (.iaload, 1) := by decide +kernel
theorem dX8_choke_61 : decode cX8_choke 61 = .ok (.istore 4, 2) := by decide +kernel
theorem dX8_choke_63 : decode cX8_choke 63 = .ok (.aload_n 3, 1) := by decide +kernel
theorem dX8_choke_64 : decode cX8_choke 64 = .ok (.iconst 2, 1) := by decide +kernel
theorem dX8_choke_65 : decode cX8_choke 65 = .ok (.iload_n 2, 1) := by decide +kernel
theorem dX8_choke_66 : decode cX8_choke 66 = .ok (.iastore, 1) := by decide +kernel
theorem dX8_choke_67 : decode cX8_choke 67 = .ok (.iload 4, 2) := by decide +kernel
theorem dX8_choke_69 : decode cX8_choke 69 = .ok (.ireturn, 1) := by decide +kernel
set_option maxRecDepth 20000 in
theorem ggX8_rank_X8_isWell : GoodIn wsX8_rank wsX8_isWell := goodIn_r _ [8, 2, 9, 10, 11, 7, 12, 17, 18, 19, 20, 21, 22, 23, 24, 25, 26, 27, 28, 29, 30, 31, 32, 33, 34, 35, 36, 37, 38] (by decide +kernel) (by decide +kernel)
set_option maxRecDepth 20000 in
theorem gX8_rank_X8_isWell : GoodIn wsX8_rank (wsV RX8 70 RX8 yX8_isWell wsX8_isWell) := goodIn_app (goodIn_of _ (by decide +kernel)) ggX8_rank_X8_isWell
set_option maxRecDepth 20000 in
theorem ggX8_rank_X8_no : GoodIn wsX8_rank wsX8_no := goodIn_r _ [16, 1, 17, 18, 19, 20, 21, 22, 23, 24] (by decide +kernel) (by decide +kernel)
set_option maxRecDepth 20000 in
theorem gX8_rank_X8_no : GoodIn wsX8_rank (wsV RX8 43 RX8 yX8_no wsX8_no) := goodIn_app (goodIn_of _ (by decide +kernel)) ggX8_rank_X8_no
set_option maxRecDepth 20000 in
theorem ggX8_rank_X8_in : GoodIn wsX8_rank wsX8_in := goodIn_r _ [12] (by decide +kernel) (by decide +kernel)
set_option maxRecDepth 20000 in
theorem gX8_rank_X8_in : GoodIn wsX8_rank (va_wsS RX8 32 yX8_in wsX8_in) := goodIn_app (goodIn_of _ (by decide +kernel)) ggX8_rank_X8_in
theorem dX8_rank_0 : decode cX8_rank 0 = .ok (.aload_n 0, 1) := by decide +kernel
theorem dX8_rank_1 : decode cX8_rank 1 = .ok (.iconst 0, 1) := by decide +kernel
theorem dX8_rank_2 : decode cX8_rank 2 = .ok (.putfield 29, 3) := by decide +kernel
theorem dX8_rank_5 : decode cX8_rank 5 = .ok (.aload_n 0, 1) := by decide +kernel
theorem dX8_rank_6 : decode cX8_rank 6 = .ok (.iload_n 1, 1) := by decide +kernel
theorem dX8_rank_7 : decode cX8_rank 7 = .ok (.invokevirtual 70, 3) := by decide +kernel
theorem dX8_rank_10 : decode cX8_rank 10 = .ok (.ifCond .ne 9, 3) := by decide +kernel
theorem dX8_rank_13 : decode cX8_rank 13 = .ok (.aload_n 0, 1) := by decide +kernel
theorem dX8_rank_14 : decode cX8_rank 14 = .ok (.iconst 1, 1) := by decide +kernel
theorem dX8_rank_15 : decode cX8_rank 15 = .ok (.invokevirtual 43, 3) := by decide +kernel
theorem dX8_rank_18 : decode cX8_rank 18 = .ok (.ireturn, 1) := by decide +kernel
theorem dX8_rank_19 : decode cX8_rank 19 = .ok (.iload_n 2, 1) := by decide +kernel
theorem dX8_rank_20 : decode cX8_rank 20 = .ok (.iconst 1, 1) := by decide +kernel
theorem dX8_rank_21 : decode cX8_rank 21 = .ok (.bipush 9, 2) := by decide +kernel
theorem dX8_rank_23 : decode cX8_rank 23 = .ok (.invokestatic 32, 3) := by decide +kernel
theorem dX8_rank_26 : decode cX8_rank 26 = .ok (.ifCond .ne 9, 3) := by decide +kernel
theorem dX8_rank_29 : decode cX8_rank 29 = .ok (.aload_n 0, 1) := by decide +kernel
theorem dX8_rank_30 : decode cX8_rank 30 = .ok (.iconst 2, 1) := by decide +kernel
theorem dX8_rank_31 : decode cX8_rank 31 = .ok (.invokevirtual 43, 3) := by decide +kernel
theorem dX8_rank_34 : decode cX8_rank 34 = .ok (.ireturn, 1) := by decide +kernel
theorem dX8_rank_35 : decode cX8_rank 35 = .ok (.aload_n 0, 1) := by decide +kernel
theorem dX8_rank_36 : decode cX8_rank 36 = .ok (.getfield 10, 3) := by decide +kernel
theorem dX8_rank_39 : decode cX8_rank 39 = .ok (.getfield 67, 3) := by decide +kernel
theorem dX8_rank_42 : decode cX8_rank 42 = .ok (.iload_n 1, 1) := by decide +kernel
theorem dX8_rank_43 : decode cX8_rank 43 = .ok (.aaload, 1) := by decide +kernel
theorem dX8_rank_44 : decode cX8_rank 44 = .ok (.iconst 3, 1) := by decide +kernel
theorem dX8_rank_45 : decode cX8_rank 45 = .ok (.iaload, 1) := by decide +kernel
theorem dX8_rank_46 : decode cX8_rank 46 = .ok (.istore_n 3, 1) := by decide +kernel
theorem dX8_rank_47 : decode cX8_rank 47 = .ok (.aload_n 0, 1) := by decide +kernel
theorem dX8_rank_48 : decode cX8_rank 48 = .ok (.getfield 10, 3) := by decide +kernel
theorem dX8_rank_51 : decode cX8_rank 51 = .ok (.getfield 67, 3) := by decide +kernel
theorem dX8_rank_54 : decode cX8_rank 54 = .ok (.iload_n 1, 1) := by decide +kernel
theorem dX8_rank_55 : decode cX8_rank 55 = .ok (.aaload, 1) := by decide +kernel
theorem dX8_rank_56 : decode cX8_rank 56 = .ok (.iconst 3, 1) := by decide +kernel
theorem dX8_rank_57 : decode cX8_rank 57 = .ok (.iload_n 2, 1) := by decide +kernel
theorem dX8_rank_58 : decode cX8_rank 58 = .ok (.iastore, 1) := by decide +kernel
theorem dX8_rank_59 : decode cX8_rank 59 = .ok (.iload_n 3, 1) := by decide +kernel
theorem dX8_rank_60 : decode cX8_rank 60 = .ok (.ireturn, 1) := by decide +kernel
set_option maxRecDepth 20000 in
theorem ggX8_test_X8_isWell : GoodIn wsX8_test wsX8_isWell := goodIn_r _ [8, 2, 9, 10, 11, 7, 12, 17, 18, 19, 20, 21, 22, 23, 24, 25, 26, 27, 28, 29, 30, 31, 32, 33, 34, 35, 36, 37, 38] (by decide +kernel) (by decide +kernel)
set_option maxRecDepth 20000 in
theorem gX8_test_X8_isWell : GoodIn wsX8_test (wsV RX8 70 RX8 yX8_isWell wsX8_isWell) := goodIn_app (goodIn_of _ (by decide +kernel)) ggX8_test_X8_isWell
set_option maxRecDepth 20000 in
theorem ggX8_test_X8_no : GoodIn wsX8_test wsX8_no := goodIn_r _ [16, 1, 17, 18, 19, 20, 21, 22, 23, 24] (by decide +kernel) (by decide +kernel)
set_option maxRecDepth 20000 in
theorem gX8_test_X8_no : GoodIn wsX8_test (wsV RX8 43 RX8 yX8_no wsX8_no) := goodIn_app (goodIn_of _ (by decide +kernel)) ggX8_test_X8_no
theorem dX8_test_0 : decode cX8_test 0 = .ok (.aload_n 0, 1) := by decide +kernel
theorem dX8_test_1 : decode cX8_test 1 = .ok (.iconst 0, 1) := by decide +kernel
theorem dX8_test_2 : decode cX8_test 2 = .ok (.putfield 29, 3) := by decide +kernel
theorem dX8_test_5 : decode cX8_test 5 = .ok (.aload_n 0, 1) := by decide +kernel
theorem dX8_test_6 : decode cX8_test 6 = .ok (.iload_n 1, 1) := by decide +kernel
theorem dX8_test_7 : decode cX8_test 7 = .ok (.invokevirtual 70, 3) := by decide +kernel
theorem dX8_test_10 : decode cX8_test 10 = .ok (.ifCond .ne 17, 3) := by decide +kernel
theorem dX8_test_13 : decode cX8_test 13 = .ok (.aload_n 0, 1) := by decide +kernel
theorem dX8_test_14 : decode cX8_test 14 = .ok (.iconst 1, 1) := by decide +kernel
theorem dX8_test_15 : decode cX8_test 15 = .ok (.invokevirtual 43, 3) := by decide +kernel
theorem dX8_test_18 : decode cX8_test 18 = .ok (.ifCond .le 7, 3) := by decide +kernel
theorem dX8_test_21 : decode cX8_test 21 = .ok (.iconst 1, 1) := by decide +kernel
theorem dX8_test_22 : decode cX8_test 22 = .ok (.goto 4, 3) := by decide +kernel
theorem dX8_test_25 : decode cX8_test 25 = .ok (.iconst 0, 1) := by decide +kernel
theorem dX8_test_26 : decode cX8_test 26 = .ok (.ireturn, 1) := by decide +kernel
theorem dX8_test_27 : decode cX8_test 27 = .ok (.aload_n 0, 1) := by decide +kernel
theorem dX8_test_28 : decode cX8_test 28 = .ok (.getfield 10, 3) := by decide +kernel
theorem dX8_test_31 : decode cX8_test 31 = .ok (.getfield 67, 3) := by decide +kernel
theorem dX8_test_34 : decode cX8_test 34 = .ok (.iload_n 1, 1) := by decide +kernel
theorem dX8_test_35 : decode cX8_test 35 = .ok (.aaload, 1) := by decide +kernel
theorem dX8_test_36 : decode cX8_test 36 = .ok (.astore_n 2, 1) := by decide +kernel
theorem dX8_test_37 : decode cX8_test 37 = .ok (.aload_n 2, 1) := by decide +kernel
theorem dX8_test_38 : decode cX8_test 38 = .ok (.iconst 0, 1) := by decide +kernel
theorem dX8_test_39 : decode cX8_test 39 = .ok (.iaload, 1) := by decide +kernel
theorem dX8_test_40 : decode cX8_test 40 = .ok (.ifCond .ne 10, 3) := by decide +kernel
theorem dX8_test_43 : decode cX8_test 43 = .ok (.aload_n 2, 1) := by decide +kernel
theorem dX8_test_44 : decode cX8_test 44 = .ok (.iconst 4, 1) := by decide +kernel
theorem dX8_test_45 : decode cX8_test 45 = .ok (.iaload, 1) := by decide +kernel
theorem dX8_test_46 : decode cX8_test 46 = .ok (.iconst 1, 1) := by decide +kernel
theorem dX8_test_47 : decode cX8_test 47 = .ok (.if_icmp .ne 17, 3) := by decide +kernel
theorem dX8_test_50 : decode cX8_test 50 = .ok (.aload_n 0, 1) := by decide +kernel
theorem dX8_test_51 : decode cX8_test 51 = .ok (.iconst 2, 1) := by decide +kernel
theorem dX8_test_52 : decode cX8_test 52 = .ok (.invokevirtual 43, 3) := by decide +kernel
theorem dX8_test_55 : decode cX8_test 55 = .ok (.ifCond .le 7, 3) := by decide +kernel
theorem dX8_test_58 : decode cX8_test 58 = .ok (.iconst 1, 1) := by decide +kernel
theorem dX8_test_59 : decode cX8_test 59 = .ok (.goto 4, 3) := by decide +kernel
theorem dX8_test_62 : decode cX8_test 62 = .ok (.iconst 0, 1) := by decide +kernel
theorem dX8_test_63 : decode cX8_test 63 = .ok (.ireturn, 1) := by decide +kernel
theorem dX8_test_64 : decode cX8_test 64 = .ok (.aload_n 2, 1) := by decide +kernel
theorem dX8_test_65 : decode cX8_test 65 = .ok (.bipush 13, 2) := by decide +kernel
theorem dX8_test_67 : decode cX8_test 67 = .ok (.iaload, 1) := by decide +kernel
theorem dX8_test_68 : decode cX8_test 68 = .ok (.iconst 1, 1) := by decide +kernel
theorem dX8_test_69 : decode cX8_test 69 = .ok (.if_icmp .ne 7, 3) := by decide +kernel
theorem dX8_test_72 : decode cX8_test 72 = .ok (.iconst 1, 1) := by decide +kernel
theorem dX8_test_73 : decode cX8_test 73 = .ok (.goto 4, 3) := by decide +kernel
theorem dX8_test_76 : decode cX8_test 76 = .ok (.iconst 0, 1) := by decide +kernel
theorem dX8_test_77 : decode cX8_test 77 = .ok (.istore_n 3, 1) := by decide +kernel
theorem dX8_test_78 : decode cX8_test 78 = .ok (.aload_n 2, 1) := by decide +kernel
theorem dX8_test_79 : decode cX8_test 79 = .ok (.bipush 13, 2) := by decide +kernel
theorem dX8_test_81 : decode cX8_test 81 = .ok (.iconst 1, 1) := by decide +kernel
theorem dX8_test_82 : decode cX8_test 82 = .ok (.iastore, 1) := by decide +kernel
theorem dX8_test_83 : decode cX8_test 83 = .ok (.iload_n 3, 1) := by decide +kernel
theorem dX8_test_84 : decode cX8_test 84 = .ok (.ireturn, 1) := by decide +kernel
set_option maxRecDepth 20000 in
theorem ggX8_plug_X8_isWell : GoodIn wsX8_plug wsX8_isWell := goodIn_r _ [8, 2, 9, 10, 11, 7, 12, 17, 18, 19, 20, 21, 22, 23, 24, 25, 26, 27, 28, 29, 30, 31, 32, 33, 34, 35, 36, 37, 38] (by decide +kernel) (by decide +kernel)
set_option maxRecDepth 20000 in
theorem gX8_plug_X8_isWell : GoodIn wsX8_plug (wsV RX8 70 RX8 yX8_isWell wsX8_isWell) := goodIn_app (goodIn_of _ (by decide +kernel)) ggX8_plug_X8_isWell
set_option maxRecDepth 20000 in
theorem ggX8_plug_X8_no : GoodIn wsX8_plug wsX8_no := goodIn_r _ [16, 1, 17, 18, 19, 20, 21, 22, 23, 24] (by decide +kernel) (by decide +kernel)
set_option maxRecDepth 20000 in
theorem gX8_plug_X8_no : GoodIn wsX8_plug (wsV RX8 43 RX8 yX8_no wsX8_no) := goodIn_app (goodIn_of _ (by decide +kernel)) ggX8_plug_X8_no
