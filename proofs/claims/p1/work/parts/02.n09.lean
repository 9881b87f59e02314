theorem dX7_fits_7 : decode cX7_fits 7 = .ok (.getfield 39, 3) := by decide +kernel
theorem dX7_fits_10 : decode cX7_fits 10 = .ok (.iconst 0, 1) := by decide +kernel
theorem dX7_fits_11 : decode cX7_fits 11 = .ok (.iaload, 1) := by decide +kernel
theorem dX7_fits_12 : decode cX7_fits 12 = .ok (.aload_n 0, 1) := by decide +kernel
theorem dX7_fits_13 : decode cX7_fits 13 = .ok (.getfield 46, 3) := by decide +kernel
theorem dX7_fits_16 : decode cX7_fits 16 = .ok (.aload_n 0, 1) := by decide +kernel
theorem dX7_fits_17 : decode cX7_fits 17 = .ok (.getfield 62, 3) := by decide +kernel
theorem dX7_fits_20 : decode cX7_fits 20 = .ok (.isub, 1) := by decide +kernel
theorem dX7_fits_21 : decode cX7_fits 21 = .ok (.invokestatic 69, 3) := by decide +kernel
theorem dX7_fits_24 : decode cX7_fits 24 = .ok (.if_icmp .gt 37, 3) := by decide +kernel
theorem dX7_fits_27 : decode cX7_fits 27 = .ok (.aload_n 0, 1) := by decide +kernel
theorem dX7_fits_28 : decode cX7_fits 28 = .ok (.getfield 36, 3) := by decide +kernel
theorem dX7_fits_31 : decode cX7_fits 31 = .ok (.iconst 1, 1) := by decide +kernel
theorem dX7_fits_32 : decode cX7_fits 32 = .ok (.iaload, 1) := by decide +kernel
theorem dX7_fits_33 : decode cX7_fits 33 = .ok (.aload_n 0, 1) := by decide +kernel
theorem dX7_fits_34 : decode cX7_fits 34 = .ok (.getfield 39, 3) := by decide +kernel
theorem dX7_fits_37 : decode cX7_fits 37 = .ok (.iconst 1, 1) := by decide +kernel
theorem dX7_fits_38 : decode cX7_fits 38 = .ok (.iaload, 1) := by decide +kernel
theorem dX7_fits_39 : decode cX7_fits 39 = .ok (.if_icmp .gt 22, 3) := by decide +kernel
theorem dX7_fits_42 : decode cX7_fits 42 = .ok (.aload_n 0, 1) := by decide +kernel
theorem dX7_fits_43 : decode cX7_fits 43 = .ok (.getfield 36, 3) := by decide +kernel
theorem dX7_fits_46 : decode cX7_fits 46 = .ok (.iconst 2, 1) := by decide +kernel
theorem dX7_fits_47 : decode cX7_fits 47 = .ok (.iaload, 1) := by decide +kernel
theorem dX7_fits_48 : decode cX7_fits 48 = .ok (.aload_n 0, 1) := by decide +kernel
theorem dX7_fits_49 : decode cX7_fits 49 = .ok (.getfield 39, 3) := by decide +kernel
theorem dX7_fits_52 : decode cX7_fits 52 = .ok (.iconst 2, 1) := by decide +kernel
theorem dX7_fits_53 : decode cX7_fits 53 = .ok (.iaload, 1) := by decide +kernel
theorem dX7_fits_54 : decode cX7_fits 54 = .ok (.if_icmp .gt 7, 3) := by decide +kernel
theorem dX7_fits_57 : decode cX7_fits 57 = .ok (.iconst 1, 1) := by decide +kernel
theorem dX7_fits_58 : decode cX7_fits 58 = .ok (.goto 4, 3) := by decide +kernel
theorem dX7_fits_61 : decode cX7_fits 61 = .ok (.iconst 0, 1) := by decide +kernel
theorem dX7_fits_62 : decode cX7_fits 62 = .ok (.ireturn, 1) := by decide +kernel
set_option maxRecDepth 20000 in
theorem ggX7_produce_X7_all : GoodIn wsX7_produce wsX7_all := goodIn_r _ [16, 17, 36, 37, 38, 39, 40, 41, 42, 43, 44, 45, 46, 47, 48, 49] (by decide +kernel) (by decide +kernel)
set_option maxRecDepth 20000 in
theorem gX7_produce_X7_all : GoodIn wsX7_produce (wsV RX7 65 RX7 yX7_all wsX7_all) := goodIn_app (goodIn_of _ (by decide +kernel)) ggX7_produce_X7_all
set_option maxRecDepth 20000 in
theorem ggX7_produce_X7_pressure : GoodIn wsX7_produce wsX7_pressure := goodIn_r _ [21, 22, 12, 13, 14, 15, 16, 17, 36, 37, 38, 39, 40, 41, 42, 43, 44, 45, 46, 47, 48, 49] (by decide +kernel) (by decide +kernel)
set_option maxRecDepth 20000 in
theorem gX7_produce_X7_pressure : GoodIn wsX7_produce (wsV RX7 98 RX7 yX7_pressure wsX7_pressure) := goodIn_app (goodIn_of _ (by decide +kernel)) ggX7_produce_X7_pressure
set_option maxRecDepth 20000 in
theorem ggX7_produce_X7_reckon : GoodIn wsX7_produce wsX7_reckon := goodIn_r _ [26, 9, 17, 5, 6, 3, 7, 12, 13, 14, 15, 16, 36, 37, 38, 39, 40, 41, 42, 43, 44, 45, 46, 47, 48, 49] (by decide +kernel) (by decide +kernel)
set_option maxRecDepth 20000 in
theorem gX7_produce_X7_reckon : GoodIn wsX7_produce (wsV RX7 104 RX7 yX7_reckon wsX7_reckon) := goodIn_app (goodIn_of _ (by decide +kernel)) ggX7_produce_X7_reckon
set_option maxRecDepth 20000 in
theorem ggX7_produce_X7_fits : GoodIn wsX7_produce wsX7_fits := goodIn_r _ [30, 9, 10, 31, 8, 5, 6, 3, 7, 36, 37, 38, 39, 40, 41, 42, 43, 44, 45, 46, 47, 48, 49] (by decide +kernel) (by decide +kernel)
set_option maxRecDepth 20000 in
theorem gX7_produce_X7_fits : GoodIn wsX7_produce (wsV RX7 107 RX7 yX7_fits wsX7_fits) := goodIn_app (goodIn_of _ (by decide +kernel)) ggX7_produce_X7_fits
set_option maxRecDepth 20000 in
theorem ggX7_produce_X7_out : GoodIn wsX7_produce wsX7_out := goodIn_r _ [35, 17, 9, 36, 37, 38, 39, 40, 41, 42, 43, 44, 45, 46, 47, 48, 49] (by decide +kernel) (by decide +kernel)
set_option maxRecDepth 20000 in
theorem gX7_produce_X7_out : GoodIn wsX7_produce (wsV RX7 111 RX7 yX7_out wsX7_out) := goodIn_app (goodIn_of _ (by decide +kernel)) ggX7_produce_X7_out
theorem dX7_produce_0 : decode cX7_produce 0 = .ok (.aload_n 1, 1) := by decide +kernel
theorem dX7_produce_1 : decode cX7_produce 1 = .ok (.iconst 1, 1) := by decide +kernel
theorem dX7_produce_2 : decode cX7_produce 2 = .ok (.iaload, 1) := by decide +kernel
theorem dX7_produce_3 : decode cX7_produce 3 = .ok (.istore_n 2, 1) := by decide +kernel
theorem dX7_produce_4 : decode cX7_produce 4 = .ok (.aload_n 0, 1) := by decide +kernel
theorem dX7_produce_5 : decode cX7_produce 5 = .ok (.iload_n 2, 1) := by decide +kernel
theorem dX7_produce_6 : decode cX7_produce 6 = .ok (.invokevirtual 65, 3) := by decide +kernel
theorem dX7_produce_9 : decode cX7_produce 9 = .ok (.aload_n 1, 1) := by decide +kernel
theorem dX7_produce_10 : decode cX7_produce 10 = .ok (.iconst 2, 1) := by decide +kernel
theorem dX7_produce_11 : decode cX7_produce 11 = .ok (.iaload, 1) := by decide +kernel
theorem dX7_produce_12 : decode cX7_produce 12 = .ok (.iconst 0, 1) := by decide +kernel
theorem dX7_produce_13 : decode cX7_produce 13 = .ok (.aload_n 0, 1) := by decide +kernel
theorem dX7_produce_14 : decode cX7_produce 14 = .ok (.iload_n 2, 1) := by decide +kernel
theorem dX7_produce_15 : decode cX7_produce 15 = .ok (.invokevirtual 98, 3) := by decide +kernel
theorem dX7_produce_18 : decode cX7_produce 18 = .ok (.bipush 50, 2) := by decide +kernel
theorem dX7_produce_20 : decode cX7_produce 20 = .ok (.isub, 1) := by decide +kernel
theorem dX7_produce_21 : decode cX7_produce 21 = .ok (.invokestatic 101, 3) := by decide +kernel
theorem dX7_produce_24 : decode cX7_produce 24 = .ok (.imul, 1) := by decide +kernel
theorem dX7_produce_25 : decode cX7_produce 25 = .ok (.bipush 100, 2) := by decide +kernel
theorem dX7_produce_27 : decode cX7_produce 27 = .ok (.idiv, 1) := by decide +kernel
theorem dX7_produce_28 : decode cX7_produce 28 = .ok (.invokestatic 69, 3) := by decide +kernel
theorem dX7_produce_31 : decode cX7_produce 31 = .ok (.istore_n 3, 1) := by decide +kernel
theorem dX7_produce_32 : decode cX7_produce 32 = .ok (.aload_n 0, 1) := by decide +kernel
theorem dX7_produce_33 : decode cX7_produce 33 = .ok (.iload_n 2, 1) := by decide +kernel
theorem dX7_produce_34 : decode cX7_produce 34 = .ok (.iload_n 3, 1) := by decide +kernel
theorem dX7_produce_35 : decode cX7_produce 35 = .ok (.invokevirtual 104, 3) := by decide +kernel
theorem dX7_produce_38 : decode cX7_produce 38 = .ok (.aload_n 0, 1) := by decide +kernel
theorem dX7_produce_39 : decode cX7_produce 39 = .ok (.invokevirtual 107, 3) := by decide +kernel
theorem dX7_produce_42 : decode cX7_produce 42 = .ok (.ifCond .ne 15, 3) := by decide +kernel
theorem dX7_produce_45 : decode cX7_produce 45 = .ok (.aload_n 0, 1) := by decide +kernel
theorem dX7_produce_46 : decode cX7_produce 46 = .ok (.iload_n 2, 1) := by decide +kernel
theorem dX7_produce_47 : decode cX7_produce 47 = .ok (.iinc 3 (-1), 3) := by decide +kernel
theorem dX7_produce_50 : decode cX7_produce 50 = .ok (.iload_n 3, 1) := by decide +kernel
theorem dX7_produce_51 : decode cX7_produce 51 = .ok (.invokevirtual 104, 3) := by decide +kernel
theorem dX7_produce_54 : decode cX7_produce 54 = .ok (.goto (-16), 3) := by decide +kernel
theorem dX7_produce_57 : decode cX7_produce 57 = .ok (.aload_n 0, 1) := by decide +kernel
theorem dX7_produce_58 : decode cX7_produce 58 = .ok (.iload_n 2, 1) := by decide +kernel
theorem dX7_produce_59 : decode cX7_produce 59 = .ok (.invokevirtual 111, 3) := by decide +kernel
theorem dX7_produce_62 : decode cX7_produce 62 = .ok (.aload_n 0, 1) := by decide +kernel
theorem dX7_produce_63 : decode cX7_produce 63 = .ok (.dup, 1) := by decide +kernel
theorem dX7_produce_64 : decode cX7_produce 64 = .ok (.getfield 62, 3) := by decide +kernel
theorem dX7_produce_67 : decode cX7_produce 67 = .ok (.aload_n 0, 1) := by decide +kernel
theorem dX7_produce_68 : decode cX7_produce 68 = .ok (.getfield 36, 3) := by decide +kernel
theorem dX7_produce_71 : decode cX7_produce 71 = .ok (.iconst 0, 1) := by decide +kernel
theorem dX7_produce_72 : decode cX7_produce 72 = .ok (.iaload, 1) := by decide +kernel
theorem dX7_produce_73 : decode cX7_produce 73 = .ok (.iadd, 1) := by decide +kernel
theorem dX7_produce_74 : decode cX7_produce 74 = .ok (.putfield 62, 3) := by decide +kernel
theorem dX7_produce_77 : decode cX7_produce 77 = .ok (.iconst 0, 1) := by decide +kernel
theorem dX7_produce_78 : decode cX7_produce 78 = .ok (.istore 4, 2) := by decide +kernel
theorem dX7_produce_80 : decode cX7_produce 80 = .ok (.iload 4, 2) := by decide +kernel
theorem dX7_produce_82 : decode cX7_produce 82 = .ok (.iconst 3, 1) := by decide +kernel
theorem dX7_produce_83 : decode cX7_produce 83 = .ok (.if_icmp .ge 57, 3) := by decide +kernel
theorem dX7_produce_86 : decode cX7_produce 86 = .ok (.aload_n 0, 1) := by decide +kernel
theorem dX7_produce_87 : decode cX7_produce 87 = .ok (.getfield 39, 3) := by decide +kernel
theorem dX7_produce_90 : decode cX7_produce 90 = .ok (.iload 4, 2) := by decide +kernel
theorem dX7_produce_92 : decode cX7_produce 92 = .ok (.dup2, 1) := by decide +kernel
theorem dX7_produce_93 : decode cX7_produce 93 = .ok (.iaload, 1) := by decide +kernel
theorem dX7_produce_94 : decode cX7_produce 94 = .ok (.aload_n 0, 1) := by decide +kernel
theorem dX7_produce_95 : decode cX7_produce 95 = .ok (.getfield 36, 3) := by decide +kernel
theorem dX7_produce_98 : decode cX7_produce 98 = .ok (.iload 4, 2) := by decide +kernel
theorem dX7_produce_100 : decode cX7_produce 100 = .ok (.iaload, 1) := by decide +kernel
theorem dX7_produce_101 : decode cX7_produce 101 = .ok (.isub, 1) := by decide +kernel
theorem dX7_produce_102 : decode cX7_produce 102 = .ok (.iastore, 1) := by decide +kernel
theorem dX7_produce_103 : decode cX7_produce 103 = .ok (.aload_n 0, 1) := by decide +kernel
theorem dX7_produce_104 : decode cX7_produce 104 = .ok (.getfield 33, 3) := by decide +kernel
theorem dX7_produce_107 : decode cX7_produce 107 = .ok (.iload 4, 2) := by decide +kernel
theorem dX7_produce_109 : decode cX7_produce 109 = .ok (.dup2, 1) := by decide +kernel
theorem dX7_produce_110 : decode cX7_produce 110 = .ok (.iaload, 1) := by decide +kernel
theorem dX7_produce_111 : decode cX7_produce 111 = .ok (.aload_n 0, 1) := by decide +kernel
theorem dX7_produce_112 : decode cX7_produce 112 = .ok (.getfield 36, 3) := by decide +kernel
theorem dX7_produce_115 : decode cX7_produce 115 = .ok (.iload 4, 2) := by decide +kernel
theorem dX7_produce_117 : decode cX7_produce 117 = .ok (.iaload, 1) := by decide +kernel
theorem dX7_produce_118 : decode cX7_produce 118 = .ok (.iadd, 1) := by decide +kernel
theorem dX7_produce_119 : decode cX7_produce 119 = .ok (.iastore, 1) := by decide +kernel
theorem dX7_produce_120 : decode cX7_produce 120 = .ok (.aload_n 1, 1) := by decide +kernel
theorem dX7_produce_121 : decode cX7_produce 121 = .ok (.bipush 8, 2) := by decide +kernel
theorem dX7_produce_123 : decode cX7_produce 123 = .ok (.iload 4, 2) := by decide +kernel
theorem dX7_produce_125 : decode cX7_produce 125 = .ok (.iadd, 1) := by decide +kernel
theorem dX7_produce_126 : decode cX7_produce 126 = .ok (.aload_n 0, 1) := by decide +kernel
theorem dX7_produce_127 : decode cX7_produce 127 = .ok (.getfield 36, 3) := by decide +kernel
theorem dX7_produce_130 : decode cX7_produce 130 = .ok (.iload 4, 2) := by decide +kernel
theorem dX7_produce_132 : decode cX7_produce 132 = .ok (.iaload, 1) := by decide +kernel
theorem dX7_produce_133 : decode cX7_produce 133 = .ok (.iastore, 1) := by decide +kernel
theorem dX7_produce_134 : decode cX7_produce 134 = .ok (.iinc 4 1, 3) := by decide +kernel
theorem dX7_produce_137 : decode cX7_produce 137 = .ok (.goto (-57), 3) := by decide +kernel
theorem dX7_produce_140 : decode cX7_produce 140 = .ok (.aload_n 1, 1) := by decide +kernel
theorem dX7_produce_141 : decode cX7_produce 141 = .ok (.bipush 11, 2) := by decide +kernel
theorem dX7_produce_143 : decode cX7_produce 143 = .ok (.dup2, 1) := by decide +kernel
theorem dX7_produce_144 : decode cX7_produce 144 = .ok (.iaload, 1) := by decide +kernel
theorem dX7_produce_145 : decode cX7_produce 145 = .ok (.aload_n 0, 1) := by decide +kernel
theorem dX7_produce_146 : decode cX7_produce 146 = .ok (.getfield 36, 3) := by decide +kernel
theorem dX7_produce_149 : decode cX7_produce 149 = .ok (.iconst 0, 1) := by decide +kernel
theorem dX7_produce_150 : decode cX7_produce 150 = .ok (.iaload, 1) := by decide +kernel
theorem dX7_produce_151 : decode cX7_produce 151 = .ok (.iadd, 1) := by decide +kernel
theorem dX7_produce_152 : decode cX7_produce 152 = .ok (.iastore, 1) := by decide +kernel
theorem dX7_produce_153 : decode cX7_produce 153 = .ok (.return_, 1) := by decide +kernel
theorem dX7_giveBack_0 : decode cX7_giveBack 0 = .ok (.aload_n 1, 1) := by decide +kernel
theorem dX7_giveBack_1 : decode cX7_giveBack 1 = .ok (.iconst 0, 1) := by decide +kernel
theorem dX7_giveBack_2 : decode cX7_giveBack 2 = .ok (.iaload, 1) := by decide +kernel
theorem dX7_giveBack_3 : decode cX7_giveBack 3 = .ok (.iconst 2, 1) := by decide +kernel
theorem dX7_giveBack_4 : decode cX7_giveBack 4 = .ok (.if_icmp .eq 5, 3) := by decide +kernel
theorem dX7_giveBack_7 : decode cX7_giveBack 7 = .ok (.iconst 0, 1) := by decide +kernel
theorem dX7_giveBack_8 : decode cX7_giveBack 8 = .ok (.ireturn, 1) := by decide +kernel
theorem dX7_giveBack_9 : decode cX7_giveBack 9 = .ok (.iload_n 2, 1) := by decide +kernel
theorem dX7_giveBack_10 : decode cX7_giveBack 10 = .ok (.iconst 2, 1) := by decide +kernel
theorem dX7_giveBack_11 : decode cX7_giveBack 11 = .ok (.aload_n 1, 1) := by decide +kernel
theorem dX7_giveBack_12 : decode cX7_giveBack 12 = .ok (.iconst 2, 1) := by decide +kernel
theorem dX7_giveBack_13 : decode cX7_giveBack 13 = .ok (.iaload, 1) := by decide +kernel
theorem dX7_giveBack_14 : decode cX7_giveBack 14 = .ok (.imul, 1) := by decide +kernel
theorem dX7_giveBack_15 : decode cX7_giveBack 15 = .ok (.invokestatic 69, 3) := by decide +kernel
theorem dX7_giveBack_18 : decode cX7_giveBack 18 = .ok (.istore_n 3, 1) := by decide +kernel
theorem dX7_giveBack_19 : decode cX7_giveBack 19 = .ok (.aload_n 0, 1) := by decide +kernel
theorem dX7_giveBack_20 : decode cX7_giveBack 20 = .ok (.getfield 15, 3) := by decide +kernel
theorem dX7_giveBack_23 : decode cX7_giveBack 23 = .ok (.iconst 3, 1) := by decide +kernel
theorem dX7_giveBack_24 : decode cX7_giveBack 24 = .ok (.aload_n 1, 1) := by decide +kernel
theorem dX7_giveBack_25 : decode cX7_giveBack 25 = .ok (.iconst 1, 1) := by decide +kernel
theorem dX7_giveBack_26 : decode cX7_giveBack 26 = .ok (.iaload, 1) := by decide +kernel
theorem dX7_giveBack_27 : decode cX7_giveBack 27 = .ok (.imul, 1) := by decide +kernel
theorem dX7_giveBack_28 : decode cX7_giveBack 28 = .ok (.iconst 2, 1) := by decide +kernel
theorem dX7_giveBack_29 : decode cX7_giveBack 29 = .ok (.iadd, 1) := by decide +kernel
theorem dX7_giveBack_30 : decode cX7_giveBack 30 = .ok (.dup2, 1) := by decide +kernel
theorem dX7_giveBack_31 : decode cX7_giveBack 31 = .ok (.iaload, 1) := by decide +kernel
theorem dX7_giveBack_32 : decode cX7_giveBack 32 = .ok (.iload_n 3, 1) := by decide +kernel
theorem dX7_giveBack_33 : decode cX7_giveBack 33 = .ok (.iadd, 1) := by decide +kernel
theorem dX7_giveBack_34 : decode cX7_giveBack 34 = .ok (.iastore, 1) := by decide +kernel
theorem dX7_giveBack_35 : decode cX7_giveBack 35 = .ok (.aload_n 1, 1) := by decide +kernel
theorem dX7_giveBack_36 : decode cX7_giveBack 36 = .ok (.bipush 10, 2) := by decide +kernel
theorem dX7_giveBack_38 : decode cX7_giveBack 38 = .ok (.iload_n 3, 1) := by decide +kernel
theorem dX7_giveBack_39 : decode cX7_giveBack 39 = .ok (.iastore, 1) := by decide +kernel
theorem dX7_giveBack_40 : decode cX7_giveBack 40 = .ok (.aload_n 0, 1) := by decide +kernel
theorem dX7_giveBack_41 : decode cX7_giveBack 41 = .ok (.getfield 33, 3) := by decide +kernel
theorem dX7_giveBack_44 : decode cX7_giveBack 44 = .ok (.iconst 4, 1) := by decide +kernel
theorem dX7_giveBack_45 : decode cX7_giveBack 45 = .ok (.dup2, 1) := by decide +kernel
theorem dX7_giveBack_46 : decode cX7_giveBack 46 = .ok (.iaload, 1) := by decide +kernel
theorem dX7_giveBack_47 : decode cX7_giveBack 47 = .ok (.iload_n 3, 1) := by decide +kernel
theorem dX7_giveBack_48 : decode cX7_giveBack 48 = .ok (.iadd, 1) := by decide +kernel
theorem dX7_giveBack_49 : decode cX7_giveBack 49 = .ok (.iastore, 1) := by decide +kernel
theorem dX7_giveBack_50 : decode cX7_giveBack 50 = .ok (.iload_n 3, 1) := by decide +kernel
theorem dX7_giveBack_51 : decode cX7_giveBack 51 = .ok (.ireturn, 1) := by decide +kernel
set_option maxRecDepth 20000 in
theorem ggX7_flood_X7_pressure : GoodIn wsX7_flood wsX7_pressure := goodIn_r _ [7, 8, 9, 10, 11, 6, 12, 1, 13, 14, 15, 16, 17, 18, 19, 20, 21, 22, 23, 24, 25, 26] (by decide +kernel) (by decide +kernel)
set_option maxRecDepth 20000 in
theorem gX7_flood_X7_pressure : GoodIn wsX7_flood (wsV RX7 98 RX7 yX7_pressure wsX7_pressure) := goodIn_app (goodIn_of _ (by decide +kernel)) ggX7_flood_X7_pressure
theorem dX7_flood_0 : decode cX7_flood 0 = .ok (.aload_n 1, 1) := by decide +kernel
theorem dX7_flood_1 : decode cX7_flood 1 = .ok (.iconst 0, 1) := by decide +kernel
theorem dX7_flood_2 : decode cX7_flood 2 = .ok (.iaload, 1) := by decide +kernel
theorem dX7_flood_3 : decode cX7_flood 3 = .ok (.iconst 1, 1) := by decide +kernel
theorem dX7_flood_4 : decode cX7_flood 4 = .ok (.if_icmp .ne 16, 3) := by decide +kernel
theorem dX7_flood_7 : decode cX7_flood 7 = .ok (.aload_n 0, 1) := by decide +kernel
theorem dX7_flood_8 : decode cX7_flood 8 = .ok (.aload_n 1, 1) := by decide +kernel
theorem dX7_flood_9 : decode cX7_flood 9 = .ok (.iconst 1, 1) := by decide +kernel
theorem dX7_flood_10 : decode cX7_flood 10 = .ok (.iaload, 1) := by decide +kernel
theorem dX7_flood_11 : decode cX7_flood 11 = .ok (.invokevirtual 98, 3) := by decide +kernel
theorem dX7_flood_14 : decode cX7_flood 14 = .ok (.sipush 200, 3) := by decide +kernel
theorem dX7_flood_17 : decode cX7_flood 17 = .ok (.if_icmp .lt 4, 3) := by decide +kernel
theorem dX7_flood_20 : decode cX7_flood 20 = .ok (.return_, 1) := by decide +kernel
theorem dX7_flood_21 : decode cX7_flood 21 = .ok (.iconst 2, 1) := by decide +kernel
theorem dX7_flood_22 : decode cX7_flood 22 = .ok (.aload_n 1, 1) := by decide +kernel
theorem dX7_flood_23 : decode cX7_flood 23 = .ok (.iconst 2, 1) := by decide +kernel
theorem dX7_flood_24 : decode cX7_flood 24 = .ok (.iaload, 1) := by decide +kernel
theorem dX7_flood_25 : decode cX7_flood 25 = .ok (.imul, 1) := by decide +kernel
theorem dX7_flood_26 : decode cX7_flood 26 = .ok (.istore_n 2, 1) := by decide +kernel
theorem dX7_flood_27 : decode cX7_flood 27 = .ok (.aload_n 0, 1) := by decide +kernel
theorem dX7_flood_28 : decode cX7_flood 28 = .ok (.getfield 15, 3) := by decide +kernel
theorem dX7_flood_31 : decode cX7_flood 31 = .ok (.iconst 3, 1) := by decide +kernel
theorem dX7_flood_32 : decode cX7_flood 32 = .ok (.aload_n 1, 1) := by decide +kernel
theorem dX7_flood_33 : decode cX7_flood 33 = .ok (.iconst 1, 1) := by decide +kernel
theorem dX7_flood_34 : decode cX7_flood 34 = .ok (.iaload, 1) := by decide +kernel
theorem dX7_flood_35 : decode cX7_flood 35 = .ok (.imul, 1) := by decide +kernel
theorem dX7_flood_36 : decode cX7_flood 36 = .ok (.iconst 1, 1) := by decide +kernel
theorem dX7_flood_37 : decode cX7_flood 37 = .ok (.iadd, 1) := by decide +kernel
theorem dX7_flood_38 : decode cX7_flood 38 = .ok (.dup2, 1) := by decide +kernel
theorem dX7_flood_39 : decode cX7_flood 39 = .ok (.iaload, 1) := by decide +kernel
theorem dX7_flood_40 : decode cX7_flood 40 = .ok (.iload_n 2, 1) := by decide +kernel
theorem dX7_flood_41 : decode cX7_flood 41 = .ok (.iadd, 1) := by decide +kernel
theorem dX7_flood_42 : decode cX7_flood 42 = .ok (.iastore, 1) := by decide +kernel
theorem dX7_flood_43 : decode cX7_flood 43 = .ok (.aload_n 1, 1) := by decide +kernel
theorem dX7_flood_44 : decode cX7_flood 44 = .ok (.bipush 9, 2) := by decide +kernel
theorem dX7_flood_46 : decode cX7_flood 46 = .ok (.iload_n 2, 1) := by decide +kernel
theorem dX7_flood_47 : decode cX7_flood 47 = .ok (.iastore, 1) := by decide +kernel
theorem dX7_flood_48 : decode cX7_flood 48 = .ok (.aload_n 0, 1) := by decide +kernel
theorem dX7_flood_49 : decode cX7_flood 49 = .ok (.getfield 33, 3) := by decide +kernel
theorem dX7_flood_52 : decode cX7_flood 52 = .ok (.iconst 5, 1) := by decide +kernel
theorem dX7_flood_53 : decode cX7_flood 53 = .ok (.dup2, 1) := by decide +kernel
theorem dX7_flood_54 : decode cX7_flood 54 = .ok (.iaload, 1) := by decide +kernel
theorem dX7_flood_55 : decode cX7_flood 55 = .ok (.iload_n 2, 1) := by decide +kernel
theorem dX7_flood_56 : decode cX7_flood 56 = .ok (.iadd, 1) := by decide +kernel
theorem dX7_flood_57 : decode cX7_flood 57 = .ok (.iastore, 1) := by decide +kernel
theorem dX7_flood_58 : decode cX7_flood 58 = .ok (.return_, 1) := by decide +kernel
set_option maxRecDepth 20000 in
theorem ggX7_level_X7_pressure : GoodIn wsX7_level wsX7_pressure := goodIn_r _ [14, 15, 16, 17, 18, 13, 19, 8, 28, 29, 30, 31, 32, 33, 34, 35, 36, 37, 38, 39, 40, 41] (by decide +kernel) (by decide +kernel)
set_option maxRecDepth 20000 in
theorem gX7_level_X7_pressure : GoodIn wsX7_level (wsV RX7 98 RX7 yX7_pressure wsX7_pressure) := goodIn_app (goodIn_of _ (by decide +kernel)) ggX7_level_X7_pressure
set_option maxRecDepth 20000 in
theorem ggX7_level_X7_all : GoodIn wsX7_level wsX7_all := goodIn_r _ [19, 8, 28, 29, 30, 31, 32, 33, 34, 35, 36, 37, 38, 39, 40, 41] (by decide +kernel) (by decide +kernel)
set_option maxRecDepth 20000 in
theorem gX7_level_X7_all : GoodIn wsX7_level (wsV RX7 65 RX7 yX7_all wsX7_all) := goodIn_app (goodIn_of _ (by decide +kernel)) ggX7_level_X7_all
set_option maxRecDepth 20000 in
theorem ggX7_level_X7_reckon : GoodIn wsX7_level wsX7_reckon := goodIn_r _ [23, 9, 8, 5, 6, 3, 7, 16, 17, 18, 13, 19, 28, 29, 30, 31, 32, 33, 34, 35, 36, 37, 38, 39, 40, 41] (by decide +kernel) (by decide +kernel)
set_option maxRecDepth 20000 in
theorem gX7_level_X7_reckon : GoodIn wsX7_level (wsV RX7 104 RX7 yX7_reckon wsX7_reckon) := goodIn_app (goodIn_of _ (by decide +kernel)) ggX7_level_X7_reckon
set_option maxRecDepth 20000 in
theorem ggX7_level_X7_out : GoodIn wsX7_level wsX7_out := goodIn_r _ [27, 8, 9, 28, 29, 30, 31, 32, 33, 34, 35, 36, 37, 38, 39, 40, 41] (by decide +kernel) (by decide +kernel)
set_option maxRecDepth 20000 in
theorem gX7_level_X7_out : GoodIn wsX7_level (wsV RX7 111 RX7 yX7_out wsX7_out) := goodIn_app (goodIn_of _ (by decide +kernel)) ggX7_level_X7_out
theorem dX7_level_0 : decode cX7_level 0 = .ok (.aload_n 0, 1) := by decide +kernel
theorem dX7_level_1 : decode cX7_level 1 = .ok (.iload_n 1, 1) := by decide +kernel
theorem dX7_level_2 : decode cX7_level 2 = .ok (.invokevirtual 98, 3) := by decide +kernel
theorem dX7_level_5 : decode cX7_level 5 = .ok (.aload_n 0, 1) := by decide +kernel
theorem dX7_level_6 : decode cX7_level 6 = .ok (.iload_n 2, 1) := by decide +kernel
theorem dX7_level_7 : decode cX7_level 7 = .ok (.invokevirtual 98, 3) := by decide +kernel
theorem dX7_level_10 : decode cX7_level 10 = .ok (.isub, 1) := by decide +kernel
theorem dX7_level_11 : decode cX7_level 11 = .ok (.istore_n 3, 1) := by decide +kernel
theorem dX7_level_12 : decode cX7_level 12 = .ok (.iload_n 3, 1) := by decide +kernel
theorem dX7_level_13 : decode cX7_level 13 = .ok (.ifCond .le 7, 3) := by decide +kernel
theorem dX7_level_16 : decode cX7_level 16 = .ok (.iload_n 1, 1) := by decide +kernel
theorem dX7_level_17 : decode cX7_level 17 = .ok (.goto 4, 3) := by decide +kernel
theorem dX7_level_20 : decode cX7_level 20 = .ok (.iload_n 2, 1) := by decide +kernel
theorem dX7_level_21 : decode cX7_level 21 = .ok (.istore 4, 2) := by decide +kernel
theorem dX7_level_23 : decode cX7_level 23 = .ok (.iload_n 3, 1) := by decide +kernel
theorem dX7_level_24 : decode cX7_level 24 = .ok (.ifCond .le 7, 3) := by decide +kernel
theorem dX7_level_27 : decode cX7_level 27 = .ok (.iload_n 2, 1) := by decide +kernel
theorem dX7_level_28 : decode cX7_level 28 = .ok (.goto 4, 3) := by decide +kernel
theorem dX7_level_31 : decode cX7_level 31 = .ok (.iload_n 1, 1) := by decide +kernel
theorem dX7_level_32 : decode cX7_level 32 = .ok (.istore 5, 2) := by decide +kernel
theorem dX7_level_34 : decode cX7_level 34 = .ok (.aload_n 0, 1) := by decide +kernel
theorem dX7_level_35 : decode cX7_level 35 = .ok (.iload 4, 2) := by decide +kernel
theorem dX7_level_37 : decode cX7_level 37 = .ok (.aload_n 0, 1) := by decide +kernel
theorem dX7_level_38 : decode cX7_level 38 = .ok (.iload 4, 2) := by decide +kernel
theorem dX7_level_40 : decode cX7_level 40 = .ok (.invokevirtual 65, 3) := by decide +kernel
theorem dX7_level_43 : decode cX7_level 43 = .ok (.iload_n 3, 1) := by decide +kernel
theorem dX7_level_44 : decode cX7_level 44 = .ok (.invokestatic 114, 3) := by decide +kernel
theorem dX7_level_47 : decode cX7_level 47 = .ok (.bipush 20, 2) := by decide +kernel
theorem dX7_level_49 : decode cX7_level 49 = .ok (.idiv, 1) := by decide +kernel
theorem dX7_level_50 : decode cX7_level 50 = .ok (.invokestatic 69, 3) := by decide +kernel
theorem dX7_level_53 : decode cX7_level 53 = .ok (.invokevirtual 104, 3) := by decide +kernel
theorem dX7_level_56 : decode cX7_level 56 = .ok (.aload_n 0, 1) := by decide +kernel
theorem dX7_level_57 : decode cX7_level 57 = .ok (.iload 4, 2) := by decide +kernel
theorem dX7_level_59 : decode cX7_level 59 = .ok (.invokevirtual 111, 3) := by decide +kernel
theorem dX7_level_62 : decode cX7_level 62 = .ok (.iconst 0, 1) := by decide +kernel
theorem dX7_level_63 : decode cX7_level 63 = .ok (.istore 6, 2) := by decide +kernel
theorem dX7_level_65 : decode cX7_level 65 = .ok (.iload 6, 2) := by decide +kernel
theorem dX7_level_67 : decode cX7_level 67 = .ok (.iconst 3, 1) := by decide +kernel
theorem dX7_level_68 : decode cX7_level 68 = .ok (.if_icmp .ge 31, 3) := by decide +kernel
theorem dX7_level_71 : decode cX7_level 71 = .ok (.aload_n 0, 1) := by decide +kernel
theorem dX7_level_72 : decode cX7_level 72 = .ok (.getfield 15, 3) := by decide +kernel
theorem dX7_level_75 : decode cX7_level 75 = .ok (.iconst 3, 1) := by decide +kernel
theorem dX7_level_76 : decode cX7_level 76 = .ok (.iload 5, 2) := by decide +kernel
theorem dX7_level_78 : decode cX7_level 78 = .ok (.imul, 1) := by decide +kernel
theorem dX7_level_79 : decode cX7_level 79 = .ok (.iload 6, 2) := by decide +kernel
theorem dX7_level_81 : decode cX7_level 81 = .ok (.iadd, 1) := by decide +kernel
theorem dX7_level_82 : decode cX7_level 82 = .ok (.dup2, 1) := by decide +kernel
theorem dX7_level_83 : decode cX7_level 83 = .ok (.iaload, 1) := by decide +kernel
theorem dX7_level_84 : decode cX7_level 84 = .ok (.aload_n 0, 1) := by decide +kernel
theorem dX7_level_85 : decode cX7_level 85 = .ok (.getfield 36, 3) := by decide +kernel
theorem dX7_level_88 : decode cX7_level 88 = .ok (.iload 6, 2) := by decide +kernel
theorem dX7_level_90 : decode cX7_level 90 = .ok (.iaload, 1) := by decide +kernel
theorem dX7_level_91 : decode cX7_level 91 = .ok (.iadd, 1) := by decide +kernel
theorem dX7_level_92 : decode cX7_level 92 = .ok (.iastore, 1) := by decide +kernel
theorem dX7_level_93 : decode cX7_level 93 = .ok (.iinc 6 1, 3) := by decide +kernel
theorem dX7_level_96 : decode cX7_level 96 = .ok (.goto (-31), 3) := by decide +kernel
theorem dX7_level_99 : decode cX7_level 99 = .ok (.return_, 1) := by decide +kernel
theorem dX7_gave_0 : decode cX7_gave 0 = .ok (.aload_n 0, 1) := by decide +kernel
theorem dX7_gave_1 : decode cX7_gave 1 = .ok (.iconst 0, 1) := by decide +kernel
theorem dX7_gave_2 : decode cX7_gave 2 = .ok (.iaload, 1) := by decide +kernel
theorem dX7_gave_3 : decode cX7_gave 3 = .ok (.ifCond .ne 24, 3) := by decide +kernel
theorem dX7_gave_6 : decode cX7_gave 6 = .ok (.aload_n 0, 1) := by decide +kernel
theorem dX7_gave_7 : decode cX7_gave 7 = .ok (.bipush 8, 2) := by decide +kernel
theorem dX7_gave_9 : decode cX7_gave 9 = .ok (.iaload, 1) := by decide +kernel
theorem dX7_gave_10 : decode cX7_gave 10 = .ok (.aload_n 0, 1) := by decide +kernel
theorem dX7_gave_11 : decode cX7_gave 11 = .ok (.bipush 9, 2) := by decide +kernel
theorem dX7_gave_13 : decode cX7_gave 13 = .ok (.iaload, 1) := by decide +kernel
theorem dX7_gave_14 : decode cX7_gave 14 = .ok (.iadd, 1) := by decide +kernel
theorem dX7_gave_15 : decode cX7_gave 15 = .ok (.aload_n 0, 1) := by decide +kernel
theorem dX7_gave_16 : decode cX7_gave 16 = .ok (.bipush 10, 2) := by decide +kernel
theorem dX7_gave_18 : decode cX7_gave 18 = .ok (.iaload, 1) := by decide +kernel
theorem dX7_gave_19 : decode cX7_gave 19 = .ok (.iadd, 1) := by decide +kernel
theorem dX7_gave_20 : decode cX7_gave 20 = .ok (.ifCond .le 7, 3) := by decide +kernel
theorem dX7_gave_23 : decode cX7_gave 23 = .ok (.iconst 1, 1) := by decide +kernel
theorem dX7_gave_24 : decode cX7_gave 24 = .ok (.goto 4, 3) := by decide +kernel
theorem dX7_gave_27 : decode cX7_gave 27 = .ok (.iconst 0, 1) := by decide +kernel
theorem dX7_gave_28 : decode cX7_gave 28 = .ok (.ireturn, 1) := by decide +kernel
set_option maxRecDepth 20000 in
theorem ggX7_allocate_X7_gave : GoodIn wsX7_allocate wsX7_gave := goodIn_r _ [10] (by decide +kernel) (by decide +kernel)
set_option maxRecDepth 20000 in
theorem gX7_allocate_X7_gave : GoodIn wsX7_allocate (va_wsS RX7 117 yX7_gave wsX7_gave) := goodIn_app (goodIn_of _ (by decide +kernel)) ggX7_allocate_X7_gave
theorem dX7_allocate_0 : decode cX7_allocate 0 = .ok (.iconst 0, 1) := by decide +kernel
theorem dX7_allocate_1 : decode cX7_allocate 1 = .ok (.istore_n 2, 1) := by decide +kernel
theorem dX7_allocate_2 : decode cX7_allocate 2 = .ok (.iconst 0, 1) := by decide +kernel
theorem dX7_allocate_3 : decode cX7_allocate 3 = .ok (.istore_n 3, 1) := by decide +kernel
theorem dX7_allocate_4 : decode cX7_allocate 4 = .ok (.iload_n 3, 1) := by decide +kernel
theorem dX7_allocate_5 : decode cX7_allocate 5 = .ok (.aload_n 0, 1) := by decide +kernel
theorem dX7_allocate_6 : decode cX7_allocate 6 = .ok (.getfield 56, 3) := by decide +kernel
theorem dX7_allocate_9 : decode cX7_allocate 9 = .ok (.if_icmp .ge 36, 3) := by decide +kernel
theorem dX7_allocate_12 : decode cX7_allocate 12 = .ok (.iload_n 2, 1) := by decide +kernel
theorem dX7_allocate_13 : decode cX7_allocate 13 = .ok (.aload_n 0, 1) := by decide +kernel
theorem dX7_allocate_14 : decode cX7_allocate 14 = .ok (.getfield 27, 3) := by decide +kernel
theorem dX7_allocate_17 : decode cX7_allocate 17 = .ok (.iload_n 3, 1) := by decide +kernel
theorem dX7_allocate_18 : decode cX7_allocate 18 = .ok (.aaload, 1) := by decide +kernel
theorem dX7_allocate_19 : decode cX7_allocate 19 = .ok (.invokestatic 117, 3) := by decide +kernel
theorem dX7_allocate_22 : decode cX7_allocate 22 = .ok (.ifCond .eq 14, 3) := by decide +kernel
theorem dX7_allocate_25 : decode cX7_allocate 25 = .ok (.aload_n 0, 1) := by decide +kernel
theorem dX7_allocate_26 : decode cX7_allocate 26 = .ok (.getfield 27, 3) := by decide +kernel
theorem dX7_allocate_29 : decode cX7_allocate 29 = .ok (.iload_n 3, 1) := by decide +kernel
theorem dX7_allocate_30 : decode cX7_allocate 30 = .ok (.aaload, 1) := by decide +kernel
theorem dX7_allocate_31 : decode cX7_allocate 31 = .ok (.iconst 5, 1) := by decide +kernel
theorem dX7_allocate_32 : decode cX7_allocate 32 = .ok (.iaload, 1) := by decide +kernel
theorem dX7_allocate_33 : decode cX7_allocate 33 = .ok (.goto 4, 3) := by decide +kernel
theorem dX7_allocate_36 : decode cX7_allocate 36 = .ok (.iconst 0, 1) := by decide +kernel
theorem dX7_allocate_37 : decode cX7_allocate 37 = .ok (.iadd, 1) := by decide +kernel
theorem dX7_allocate_38 : decode cX7_allocate 38 = .ok (.istore_n 2, 1) := by decide +kernel
theorem dX7_allocate_39 : decode cX7_allocate 39 = .ok (.iinc 3 1, 3) := by decide +kernel
theorem dX7_allocate_42 : decode cX7_allocate 42 = .ok (.goto (-38), 3) := by decide +kernel
theorem dX7_allocate_45 : decode cX7_allocate 45 = .ok (.iload_n 1, 1) := by decide +kernel
theorem dX7_allocate_46 : decode cX7_allocate 46 = .ok (.istore_n 3, 1) := by decide +kernel
theorem dX7_allocate_47 : decode cX7_allocate 47 = .ok (.iconst 0, 1) := by decide +kernel
theorem dX7_allocate_48 : decode cX7_allocate 48 = .ok (.istore 4, 2) := by decide +kernel
theorem dX7_allocate_50 : decode cX7_allocate 50 = .ok (.iload 4, 2) := by decide +kernel
theorem dX7_allocate_52 : decode cX7_allocate 52 = .ok (.aload_n 0, 1) := by decide +kernel
theorem dX7_allocate_53 : decode cX7_allocate 53 = .ok (.getfield 56, 3) := by decide +kernel
theorem dX7_allocate_56 : decode cX7_allocate 56 = .ok (.if_icmp .ge 64, 3) := by decide +kernel
theorem dX7_allocate_59 : decode cX7_allocate 59 = .ok (.iload_n 2, 1) := by decide +kernel
theorem dX7_allocate_60 : decode cX7_allocate 60 = .ok (.ifCond .le 60, 3) := by decide +kernel
theorem dX7_allocate_63 : decode cX7_allocate 63 = .ok (.aload_n 0, 1) := by decide +kernel
theorem dX7_allocate_64 : decode cX7_allocate 64 = .ok (.getfield 27, 3) := by decide +kernel
theorem dX7_allocate_67 : decode cX7_allocate 67 = .ok (.iload 4, 2) := by decide +kernel
theorem dX7_allocate_69 : decode cX7_allocate 69 = .ok (.aaload, 1) := by decide +kernel
theorem dX7_allocate_70 : decode cX7_allocate 70 = .ok (.invokestatic 117, 3) := by decide +kernel
theorem dX7_allocate_73 : decode cX7_allocate 73 = .ok (.ifCond .ne 6, 3) := by decide +kernel
theorem dX7_allocate_76 : decode cX7_allocate 76 = .ok (.goto 38, 3) := by decide +kernel
theorem dX7_allocate_79 : decode cX7_allocate 79 = .ok (.iload_n 1, 1) := by decide +kernel
theorem dX7_allocate_80 : decode cX7_allocate 80 = .ok (.aload_n 0, 1) := by decide +kernel
theorem dX7_allocate_81 : decode cX7_allocate 81 = .ok (.getfield 27, 3) := by decide +kernel
theorem dX7_allocate_84 : decode cX7_allocate 84 = .ok (.iload 4, 2) := by decide +kernel
theorem dX7_allocate_86 : decode cX7_allocate 86 = .ok (.aaload, 1) := by decide +kernel
theorem dX7_allocate_87 : decode cX7_allocate 87 = .ok (.iconst 5, 1) := by decide +kernel
theorem dX7_allocate_88 : decode cX7_allocate 88 = .ok (.iaload, 1) := by decide +kernel
theorem dX7_allocate_89 : decode cX7_allocate 89 = .ok (.imul, 1) := by decide +kernel
theorem dX7_allocate_90 : decode cX7_allocate 90 = .ok (.iload_n 2, 1) := by decide +kernel
theorem dX7_allocate_91 : decode cX7_allocate 91 = .ok (.idiv, 1) := by decide +kernel
theorem dX7_allocate_92 : decode cX7_allocate 92 = .ok (.istore 5, 2) := by decide +kernel
theorem dX7_allocate_94 : decode cX7_allocate 94 = .ok (.aload_n 0, 1) := by decide +kernel
theorem dX7_allocate_95 : decode cX7_allocate 95 = .ok (.getfield 27, 3) := by decide +kernel
theorem dX7_allocate_98 : decode cX7_allocate 98 = .ok (.iload 4, 2) := by decide +kernel
theorem dX7_allocate_100 : decode cX7_allocate 100 = .ok (.aaload, 1) := by decide +kernel
theorem dX7_allocate_101 : decode cX7_allocate 101 = .ok (.bipush 12, 2) := by decide +kernel
theorem dX7_allocate_103 : decode cX7_allocate 103 = .ok (.dup2, 1) := by decide +kernel
theorem dX7_allocate_104 : decode cX7_allocate 104 = .ok (.iaload, 1) := by decide +kernel
theorem dX7_allocate_105 : decode cX7_allocate 105 = .ok (.iload 5, 2) := by decide +kernel
theorem dX7_allocate_107 : decode cX7_allocate 107 = .ok (.iadd, 1) := by decide +kernel
theorem dX7_allocate_108 : decode cX7_allocate 108 = .ok (.iastore, 1) := by decide +kernel
theorem dX7_allocate_109 : decode cX7_allocate 109 = .ok (.iload_n 3, 1) := by decide +kernel
theorem dX7_allocate_110 : decode cX7_allocate 110 = .ok (.iload 5, 2) := by decide +kernel
theorem dX7_allocate_112 : decode cX7_allocate 112 = .ok (.isub, 1) := by decide +kernel
theorem dX7_allocate_113 : decode cX7_allocate 113 = .ok (.istore_n 3, 1) := by decide +kernel
theorem dX7_allocate_114 : decode cX7_allocate 114 = .ok (.iinc 4 1, 3) := by decide +kernel
theorem dX7_allocate_117 : decode cX7_allocate 117 = .ok (.goto (-67), 3) := by decide +kernel
theorem dX7_allocate_120 : decode cX7_allocate 120 = .ok (.iload_n 3, 1) := by decide +kernel
theorem dX7_allocate_121 : decode cX7_allocate 121 = .ok (.ifCond .le 61, 3) := by decide +kernel
theorem dX7_allocate_124 : decode cX7_allocate 124 = .ok (.iconst 0, 1) := by decide +kernel
theorem dX7_allocate_125 : decode cX7_allocate 125 = .ok (.istore 4, 2) := by decide +kernel
theorem dX7_allocate_127 : decode cX7_allocate 127 = .ok (.iload 4, 2) := by decide +kernel
theorem dX7_allocate_129 : decode cX7_allocate 129 = .ok (.aload_n 0, 1) := by decide +kernel
theorem dX7_allocate_130 : decode cX7_allocate 130 = .ok (.getfield 56, 3) := by decide +kernel
theorem dX7_allocate_133 : decode cX7_allocate 133 = .ok (.if_icmp .ge 46, 3) := by decide +kernel
theorem dX7_allocate_136 : decode cX7_allocate 136 = .ok (.iload_n 3, 1) := by decide +kernel
theorem dX7_allocate_137 : decode cX7_allocate 137 = .ok (.ifCond .eq 36, 3) := by decide +kernel
theorem dX7_allocate_140 : decode cX7_allocate 140 = .ok (.aload_n 0, 1) := by decide +kernel
theorem dX7_allocate_141 : decode cX7_allocate 141 = .ok (.getfield 27, 3) := by decide +kernel
theorem dX7_allocate_144 : decode cX7_allocate 144 = .ok (.iload 4, 2) := by decide +kernel
theorem dX7_allocate_146 : decode cX7_allocate 146 = .ok (.aaload, 1) := by decide +kernel
theorem dX7_allocate_147 : decode cX7_allocate 147 = .ok (.invokestatic 117, 3) := by decide +kernel
theorem dX7_allocate_150 : decode cX7_allocate 150 = .ok (.ifCond .ne 6, 3) := by decide +kernel
theorem dX7_allocate_153 : decode cX7_allocate 153 = .ok (.goto 20, 3) := by decide +kernel
theorem dX7_allocate_156 : decode cX7_allocate 156 = .ok (.aload_n 0, 1) := by decide +kernel
theorem dX7_allocate_157 : decode cX7_allocate 157 = .ok (.getfield 27, 3) := by decide +kernel
theorem dX7_allocate_160 : decode cX7_allocate 160 = .ok (.iload 4, 2) := by decide +kernel
theorem dX7_allocate_162 : decode cX7_allocate 162 = .ok (.aaload, 1) := by decide +kernel
theorem dX7_allocate_163 : decode cX7_allocate 163 = .ok (.bipush 12, 2) := by decide +kernel
theorem dX7_allocate_165 : decode cX7_allocate 165 = .ok (.dup2, 1) := by decide +kernel
theorem dX7_allocate_166 : decode cX7_allocate 166 = .ok (.iaload, 1) := by decide +kernel
theorem dX7_allocate_167 : decode cX7_allocate 167 = .ok (.iconst 1, 1) := by decide +kernel
theorem dX7_allocate_168 : decode cX7_allocate 168 = .ok (.iadd, 1) := by decide +kernel
theorem dX7_allocate_169 : decode cX7_allocate 169 = .ok (.iastore, 1) := by decide +kernel
theorem dX7_allocate_170 : decode cX7_allocate 170 = .ok (.iinc 3 (-1), 3) := by decide +kernel
theorem dX7_allocate_173 : decode cX7_allocate 173 = .ok (.iinc 4 1, 3) := by decide +kernel
theorem dX7_allocate_176 : decode cX7_allocate 176 = .ok (.goto (-49), 3) := by decide +kernel
theorem dX7_allocate_179 : decode cX7_allocate 179 = .ok (.goto (-59), 3) := by decide +kernel
theorem dX7_allocate_182 : decode cX7_allocate 182 = .ok (.iconst 0, 1) := by decide +kernel
theorem dX7_allocate_183 : decode cX7_allocate 183 = .ok (.istore 4, 2) := by decide +kernel
theorem dX7_allocate_185 : decode cX7_allocate 185 = .ok (.iload 4, 2) := by decide +kernel
theorem dX7_allocate_187 : decode cX7_allocate 187 = .ok (.aload_n 0, 1) := by decide +kernel
theorem dX7_allocate_188 : decode cX7_allocate 188 = .ok (.getfield 56, 3) := by decide +kernel
theorem dX7_allocate_191 : decode cX7_allocate 191 = .ok (.if_icmp .ge 57, 3) := by decide +kernel
theorem dX7_allocate_194 : decode cX7_allocate 194 = .ok (.aload_n 0, 1) := by decide +kernel
theorem dX7_allocate_195 : decode cX7_allocate 195 = .ok (.getfield 27, 3) := by decide +kernel
theorem dX7_allocate_198 : decode cX7_allocate 198 = .ok (.iload 4, 2) := by decide +kernel
theorem dX7_allocate_200 : decode cX7_allocate 200 = .ok (.aaload, 1) := by decide +kernel
theorem dX7_allocate_201 : decode cX7_allocate 201 = .ok (.bipush 13, 2) := by decide +kernel
theorem dX7_allocate_203 : decode cX7_allocate 203 = .ok (.iaload, 1) := by decide +kernel
theorem dX7_allocate_204 : decode cX7_allocate 204 = .ok (.ifCond .ne 6, 3) := by decide +kernel
theorem dX7_allocate_207 : decode cX7_allocate 207 = .ok (.goto 35, 3) := by decide +kernel
theorem dX7_allocate_210 : decode cX7_allocate 210 = .ok (.aload_n 0, 1) := by decide +kernel
theorem dX7_allocate_211 : decode cX7_allocate 211 = .ok (.getfield 27, 3) := by decide +kernel
theorem dX7_allocate_214 : decode cX7_allocate 214 = .ok (.iload 4, 2) := by decide +kernel
theorem dX7_allocate_216 : decode cX7_allocate 216 = .ok (.aaload, 1) := by decide +kernel
theorem dX7_allocate_217 : decode cX7_allocate 217 = .ok (.bipush 8, 2) := by decide +kernel
theorem dX7_allocate_219 : decode cX7_allocate 219 = .ok (.aload_n 0, 1) := by decide +kernel
theorem dX7_allocate_220 : decode cX7_allocate 220 = .ok (.getfield 27, 3) := by decide +kernel
theorem dX7_allocate_223 : decode cX7_allocate 223 = .ok (.iload 4, 2) := by decide +kernel
theorem dX7_allocate_225 : decode cX7_allocate 225 = .ok (.aaload, 1) := by decide +kernel
theorem dX7_allocate_226 : decode cX7_allocate 226 = .ok (.iconst 5, 1) := by decide +kernel
theorem dX7_allocate_227 : decode cX7_allocate 227 = .ok (.iconst 3, 1) := by decide +kernel
theorem dX7_allocate_228 : decode cX7_allocate 228 = .ok (.invokestatic 50, 3) := by decide +kernel
theorem dX7_allocate_231 : decode cX7_allocate 231 = .ok (.aload_n 0, 1) := by decide +kernel
theorem dX7_allocate_232 : decode cX7_allocate 232 = .ok (.getfield 27, 3) := by decide +kernel
theorem dX7_allocate_235 : decode cX7_allocate 235 = .ok (.iload 4, 2) := by decide +kernel
theorem dX7_allocate_237 : decode cX7_allocate 237 = .ok (.aaload, 1) := by decide +kernel
theorem dX7_allocate_238 : decode cX7_allocate 238 = .ok (.bipush 13, 2) := by decide +kernel
theorem dX7_allocate_240 : decode cX7_allocate 240 = .ok (.iconst 0, 1) := by decide +kernel
theorem dX7_allocate_241 : decode cX7_allocate 241 = .ok (.iastore, 1) := by decide +kernel
theorem dX7_allocate_242 : decode cX7_allocate 242 = .ok (.iinc 4 1, 3) := by decide +kernel
theorem dX7_allocate_245 : decode cX7_allocate 245 = .ok (.goto (-60), 3) := by decide +kernel
theorem dX7_allocate_248 : decode cX7_allocate 248 = .ok (.return_, 1) := by decide +kernel
set_option maxRecDepth 20000 in
theorem ggX7_run_X7_month : GoodIn wsX7_run wsX7_month := goodIn_r _ [5, 6, 7, 8, 9, 10, 11, 12, 13, 14, 15, 16, 17, 18, 19, 20, 21, 22, 23, 24, 25, 4, 26, 27, 28, 29, 30, 31, 32, 33, 34, 35, 36, 37, 38, 39, 40, 41, 42, 43, 44, 45, 46, 47, 48, 49, 50, 51, 52, 53, 54, 55, 56, 57, 58, 59, 60, 61, 62, 63, 64, 65, 66, 67, 68, 69, 70, 71, 72, 73, 74, 75, 76, 77, 78, 79, 80, 81, 82, 83, 84, 85, 86, 87, 88, 89, 90, 91, 92, 93, 94] (by decide +kernel) (by decide +kernel)
set_option maxRecDepth 20000 in
theorem gX7_run_X7_month : GoodIn wsX7_run (wsV RX7 121 RX7 yX7_month wsX7_month) := goodIn_app (goodIn_of _ (by decide +kernel)) ggX7_run_X7_month
theorem dX7_run_0 : decode cX7_run 0 = .ok (.iconst 0, 1) := by decide +kernel
theorem dX7_run_1 : decode cX7_run 1 = .ok (.istore_n 2, 1) := by decide +kernel
theorem dX7_run_2 : decode cX7_run 2 = .ok (.iconst 0, 1) := by decide +kernel
theorem dX7_run_3 : decode cX7_run 3 = .ok (.istore_n 3, 1) := by decide +kernel
theorem dX7_run_4 : decode cX7_run 4 = .ok (.iload_n 3, 1) := by decide +kernel
theorem dX7_run_5 : decode cX7_run 5 = .ok (.iload_n 1, 1) := by decide +kernel
theorem dX7_run_6 : decode cX7_run 6 = .ok (.if_icmp .ge 16, 3) := by decide +kernel
theorem dX7_run_9 : decode cX7_run 9 = .ok (.iload_n 2, 1) := by decide +kernel
theorem dX7_run_10 : decode cX7_run 10 = .ok (.aload_n 0, 1) := by decide +kernel
theorem dX7_run_11 : decode cX7_run 11 = .ok (.invokevirtual 121, 3) := by decide +kernel
theorem dX7_run_14 : decode cX7_run 14 = .ok (.iadd, 1) := by decide +kernel
theorem dX7_run_15 : decode cX7_run 15 = .ok (.istore_n 2, 1) := by decide +kernel
theorem dX7_run_16 : decode cX7_run 16 = .ok (.iinc 3 1, 3) := by decide +kernel
theorem dX7_run_19 : decode cX7_run 19 = .ok (.goto (-15), 3) := by decide +kernel
theorem dX7_run_22 : decode cX7_run 22 = .ok (.iload_n 2, 1) := by decide +kernel
theorem dX7_run_23 : decode cX7_run 23 = .ok (.ireturn, 1) := by decide +kernel
set_option maxRecDepth 20000 in
theorem ggX8_init_X7_init : GoodIn wsX8_init wsX7_init := goodIn_r _ [15, 16, 2, 3, 9, 17, 18, 19, 20, 21, 22, 23, 24, 25, 26, 27, 28, 29, 30, 31, 32, 33, 34, 35, 36, 37, 38, 39, 40, 41, 42, 43] (by decide +kernel) (by decide +kernel)
set_option maxRecDepth 20000 in
theorem gX8_init_X7_init : GoodIn wsX8_init (wsX7_init) := ggX8_init_X7_init
theorem dX8_init_0 : decode cX8_init 0 = .ok (.aload_n 0, 1) := by decide +kernel
theorem dX8_init_1 : decode cX8_init 1 = .ok (.invokespecial 1, 3) := by decide +kernel
theorem dX8_init_4 : decode cX8_init 4 = .ok (.aload_n 0, 1) := by decide +kernel
theorem dX8_init_5 : decode cX8_init 5 = .ok (.new 7, 3) := by decide +kernel
theorem dX8_init_8 : decode cX8_init 8 = .ok (.dup, 1) := by decide +kernel
theorem dX8_init_9 : decode cX8_init 9 = .ok (.invokespecial 9, 3) := by decide +kernel
theorem dX8_init_12 : decode cX8_init 12 = .ok (.putfield 10, 3) := by decide +kernel
theorem dX8_init_15 : decode cX8_init 15 = .ok (.aload_n 0, 1) := by decide +kernel
theorem dX8_init_16 : decode cX8_init 16 = .ok (.iconst 3, 1) := by decide +kernel
theorem dX8_init_17 : decode cX8_init 17 = .ok (.anewarray 16, 3) := by decide +kernel
theorem dX8_init_20 : decode cX8_init 20 = .ok (.dup, 1) := by decide +kernel
theorem dX8_init_21 : decode cX8_init 21 = .ok (.iconst 0, 1) := by decide +kernel
theorem dX8_init_22 : decode cX8_init 22 = .ok (.iconst 4, 1) := by decide +kernel
theorem dX8_init_23 : decode cX8_init 23 = .ok (.newarray .int, 2) := by decide +kernel
theorem dX8_init_25 : decode cX8_init 25 = .ok (.dup, 1) := by decide +kernel
theorem dX8_init_26 : decode cX8_init 26 = .ok (.iconst 0, 1) := by decide +kernel
theorem dX8_init_27 : decode cX8_init 27 = .ok (.bipush 100, 2) := by decide +kernel
theorem dX8_init_29 : decode cX8_init 29 = .ok (.iastore, 1) := by decide +kernel
theorem dX8_init_30 : decode cX8_init 30 = .ok (.dup, 1) := by decide +kernel
theorem dX8_init_31 : decode cX8_init 31 = .ok (.iconst 1, 1) := by decide +kernel
