theorem dX7_init_25 : decode cX7_init 25 = .ok (.putfield 18, 3) := by decide +kernel
theorem dX7_init_28 : decode cX7_init 28 = .ok (.aload_n 0, 1) := by decide +kernel
theorem dX7_init_29 : decode cX7_init 29 = .ok (.bipush 16, 2) := by decide +kernel
theorem dX7_init_31 : decode cX7_init 31 = .ok (.newarray .boolean, 2) := by decide +kernel
theorem dX7_init_33 : decode cX7_init 33 = .ok (.putfield 22, 3) := by decide +kernel
theorem dX7_init_36 : decode cX7_init 36 = .ok (.aload_n 0, 1) := by decide +kernel
theorem dX7_init_37 : decode cX7_init 37 = .ok (.bipush 6, 2) := by decide +kernel
theorem dX7_init_39 : decode cX7_init 39 = .ok (.bipush 14, 2) := by decide +kernel
theorem dX7_init_41 : decode cX7_init 41 = .ok (.multianewarray 25 2, 4) := by decide +kernel
theorem dX7_init_45 : decode cX7_init 45 = .ok (.putfield 27, 3) := by decide +kernel
theorem dX7_init_48 : decode cX7_init 48 = .ok (.aload_n 0, 1) := by decide +kernel
theorem dX7_init_49 : decode cX7_init 49 = .ok (.iconst 3, 1) := by decide +kernel
theorem dX7_init_50 : decode cX7_init 50 = .ok (.newarray .int, 2) := by decide +kernel
theorem dX7_init_52 : decode cX7_init 52 = .ok (.dup, 1) := by decide +kernel
theorem dX7_init_53 : decode cX7_init 53 = .ok (.iconst 0, 1) := by decide +kernel
theorem dX7_init_54 : decode cX7_init 54 = .ok (.bipush 40, 2) := by decide +kernel
theorem dX7_init_56 : decode cX7_init 56 = .ok (.iastore, 1) := by decide +kernel
theorem dX7_init_57 : decode cX7_init 57 = .ok (.dup, 1) := by decide +kernel
theorem dX7_init_58 : decode cX7_init 58 = .ok (.iconst 1, 1) := by decide +kernel
theorem dX7_init_59 : decode cX7_init 59 = .ok (.bipush 40, 2) := by decide +kernel
theorem dX7_init_61 : decode cX7_init 61 = .ok (.iastore, 1) := by decide +kernel
theorem dX7_init_62 : decode cX7_init 62 = .ok (.dup, 1) := by decide +kernel
theorem dX7_init_63 : decode cX7_init 63 = .ok (.iconst 2, 1) := by decide +kernel
theorem dX7_init_64 : decode cX7_init 64 = .ok (.bipush 40, 2) := by decide +kernel
theorem dX7_init_66 : decode cX7_init 66 = .ok (.iastore, 1) := by decide +kernel
theorem dX7_init_67 : decode cX7_init 67 = .ok (.putfield 30, 3) := by decide +kernel
theorem dX7_init_70 : decode cX7_init 70 = .ok (.aload_n 0, 1) := by decide +kernel
theorem dX7_init_71 : decode cX7_init 71 = .ok (.bipush 6, 2) := by decide +kernel
theorem dX7_init_73 : decode cX7_init 73 = .ok (.newarray .int, 2) := by decide +kernel
theorem dX7_init_75 : decode cX7_init 75 = .ok (.putfield 33, 3) := by decide +kernel
theorem dX7_init_78 : decode cX7_init 78 = .ok (.aload_n 0, 1) := by decide +kernel
theorem dX7_init_79 : decode cX7_init 79 = .ok (.iconst 3, 1) := by decide +kernel
theorem dX7_init_80 : decode cX7_init 80 = .ok (.newarray .int, 2) := by decide +kernel
theorem dX7_init_82 : decode cX7_init 82 = .ok (.putfield 36, 3) := by decide +kernel
theorem dX7_init_85 : decode cX7_init 85 = .ok (.aload_n 0, 1) := by decide +kernel
theorem dX7_init_86 : decode cX7_init 86 = .ok (.iconst 3, 1) := by decide +kernel
theorem dX7_init_87 : decode cX7_init 87 = .ok (.newarray .int, 2) := by decide +kernel
theorem dX7_init_89 : decode cX7_init 89 = .ok (.putfield 39, 3) := by decide +kernel
theorem dX7_init_92 : decode cX7_init 92 = .ok (.aload_n 0, 1) := by decide +kernel
theorem dX7_init_93 : decode cX7_init 93 = .ok (.bipush 10, 2) := by decide +kernel
theorem dX7_init_95 : decode cX7_init 95 = .ok (.putfield 42, 3) := by decide +kernel
theorem dX7_init_98 : decode cX7_init 98 = .ok (.aload_n 0, 1) := by decide +kernel
theorem dX7_init_99 : decode cX7_init 99 = .ok (.sipush 300, 3) := by decide +kernel
theorem dX7_init_102 : decode cX7_init 102 = .ok (.putfield 46, 3) := by decide +kernel
theorem dX7_init_105 : decode cX7_init 105 = .ok (.iconst 0, 1) := by decide +kernel
theorem dX7_init_106 : decode cX7_init 106 = .ok (.istore_n 1, 1) := by decide +kernel
theorem dX7_init_107 : decode cX7_init 107 = .ok (.iload_n 1, 1) := by decide +kernel
theorem dX7_init_108 : decode cX7_init 108 = .ok (.bipush 16, 2) := by decide +kernel
theorem dX7_init_110 : decode cX7_init 110 = .ok (.if_icmp .ge 17, 3) := by decide +kernel
theorem dX7_init_113 : decode cX7_init 113 = .ok (.aload_n 0, 1) := by decide +kernel
theorem dX7_init_114 : decode cX7_init 114 = .ok (.getfield 9, 3) := by decide +kernel
theorem dX7_init_117 : decode cX7_init 117 = .ok (.iload_n 1, 1) := by decide +kernel
theorem dX7_init_118 : decode cX7_init 118 = .ok (.bipush 40, 2) := by decide +kernel
theorem dX7_init_120 : decode cX7_init 120 = .ok (.iastore, 1) := by decide +kernel
theorem dX7_init_121 : decode cX7_init 121 = .ok (.iinc 1 1, 3) := by decide +kernel
theorem dX7_init_124 : decode cX7_init 124 = .ok (.goto (-17), 3) := by decide +kernel
theorem dX7_init_127 : decode cX7_init 127 = .ok (.return_, 1) := by decide +kernel
set_option maxRecDepth 20000 in
theorem ggX7_copy_X7_init : GoodIn wsX7_copy wsX7_init := goodIn_r _ [22, 23, 24, 25, 26, 4, 9, 27, 10, 11, 28, 13, 14, 15, 29, 30, 17, 18, 31, 32, 33, 34, 35, 36, 37, 38, 39, 40, 41, 42, 43, 44] (by decide +kernel) (by decide +kernel)
set_option maxRecDepth 20000 in
theorem gX7_copy_X7_init : GoodIn wsX7_copy (wsX7_init) := ggX7_copy_X7_init
theorem dX7_copy_0 : decode cX7_copy 0 = .ok (.new 10, 3) := by decide +kernel
theorem dX7_copy_3 : decode cX7_copy 3 = .ok (.dup, 1) := by decide +kernel
theorem dX7_copy_4 : decode cX7_copy 4 = .ok (.invokespecial 49, 3) := by decide +kernel
theorem dX7_copy_7 : decode cX7_copy 7 = .ok (.astore_n 1, 1) := by decide +kernel
theorem dX7_copy_8 : decode cX7_copy 8 = .ok (.aload_n 0, 1) := by decide +kernel
theorem dX7_copy_9 : decode cX7_copy 9 = .ok (.getfield 9, 3) := by decide +kernel
theorem dX7_copy_12 : decode cX7_copy 12 = .ok (.iconst 0, 1) := by decide +kernel
theorem dX7_copy_13 : decode cX7_copy 13 = .ok (.aload_n 1, 1) := by decide +kernel
theorem dX7_copy_14 : decode cX7_copy 14 = .ok (.getfield 9, 3) := by decide +kernel
theorem dX7_copy_17 : decode cX7_copy 17 = .ok (.iconst 0, 1) := by decide +kernel
theorem dX7_copy_18 : decode cX7_copy 18 = .ok (.bipush 16, 2) := by decide +kernel
theorem dX7_copy_20 : decode cX7_copy 20 = .ok (.invokestatic 50, 3) := by decide +kernel
theorem dX7_copy_23 : decode cX7_copy 23 = .ok (.aload_n 0, 1) := by decide +kernel
theorem dX7_copy_24 : decode cX7_copy 24 = .ok (.getfield 15, 3) := by decide +kernel
theorem dX7_copy_27 : decode cX7_copy 27 = .ok (.iconst 0, 1) := by decide +kernel
theorem dX7_copy_28 : decode cX7_copy 28 = .ok (.aload_n 1, 1) := by decide +kernel
theorem dX7_copy_29 : decode cX7_copy 29 = .ok (.getfield 15, 3) := by decide +kernel
theorem dX7_copy_32 : decode cX7_copy 32 = .ok (.iconst 0, 1) := by decide +kernel
theorem dX7_copy_33 : decode cX7_copy 33 = .ok (.bipush 48, 2) := by decide +kernel
theorem dX7_copy_35 : decode cX7_copy 35 = .ok (.invokestatic 50, 3) := by decide +kernel
theorem dX7_copy_38 : decode cX7_copy 38 = .ok (.aload_n 0, 1) := by decide +kernel
theorem dX7_copy_39 : decode cX7_copy 39 = .ok (.getfield 18, 3) := by decide +kernel
theorem dX7_copy_42 : decode cX7_copy 42 = .ok (.iconst 0, 1) := by decide +kernel
theorem dX7_copy_43 : decode cX7_copy 43 = .ok (.aload_n 1, 1) := by decide +kernel
theorem dX7_copy_44 : decode cX7_copy 44 = .ok (.getfield 18, 3) := by decide +kernel
theorem dX7_copy_47 : decode cX7_copy 47 = .ok (.iconst 0, 1) := by decide +kernel
theorem dX7_copy_48 : decode cX7_copy 48 = .ok (.bipush 16, 2) := by decide +kernel
theorem dX7_copy_50 : decode cX7_copy 50 = .ok (.invokestatic 50, 3) := by decide +kernel
theorem dX7_copy_53 : decode cX7_copy 53 = .ok (.aload_n 0, 1) := by decide +kernel
theorem dX7_copy_54 : decode cX7_copy 54 = .ok (.getfield 22, 3) := by decide +kernel
theorem dX7_copy_57 : decode cX7_copy 57 = .ok (.iconst 0, 1) := by decide +kernel
theorem dX7_copy_58 : decode cX7_copy 58 = .ok (.aload_n 1, 1) := by decide +kernel
theorem dX7_copy_59 : decode cX7_copy 59 = .ok (.getfield 22, 3) := by decide +kernel
theorem dX7_copy_62 : decode cX7_copy 62 = .ok (.iconst 0, 1) := by decide +kernel
theorem dX7_copy_63 : decode cX7_copy 63 = .ok (.bipush 16, 2) := by decide +kernel
theorem dX7_copy_65 : decode cX7_copy 65 = .ok (.invokestatic 50, 3) := by decide +kernel
theorem dX7_copy_68 : decode cX7_copy 68 = .ok (.iconst 0, 1) := by decide +kernel
theorem dX7_copy_69 : decode cX7_copy 69 = .ok (.istore_n 2, 1) := by decide +kernel
theorem dX7_copy_70 : decode cX7_copy 70 = .ok (.iload_n 2, 1) := by decide +kernel
theorem dX7_copy_71 : decode cX7_copy 71 = .ok (.aload_n 0, 1) := by decide +kernel
theorem dX7_copy_72 : decode cX7_copy 72 = .ok (.getfield 56, 3) := by decide +kernel
theorem dX7_copy_75 : decode cX7_copy 75 = .ok (.if_icmp .ge 28, 3) := by decide +kernel
theorem dX7_copy_78 : decode cX7_copy 78 = .ok (.aload_n 0, 1) := by decide +kernel
theorem dX7_copy_79 : decode cX7_copy 79 = .ok (.getfield 27, 3) := by decide +kernel
theorem dX7_copy_82 : decode cX7_copy 82 = .ok (.iload_n 2, 1) := by decide +kernel
theorem dX7_copy_83 : decode cX7_copy 83 = .ok (.aaload, 1) := by decide +kernel
theorem dX7_copy_84 : decode cX7_copy 84 = .ok (.iconst 0, 1) := by decide +kernel
theorem dX7_copy_85 : decode cX7_copy 85 = .ok (.aload_n 1, 1) := by decide +kernel
theorem dX7_copy_86 : decode cX7_copy 86 = .ok (.getfield 27, 3) := by decide +kernel
theorem dX7_copy_89 : decode cX7_copy 89 = .ok (.iload_n 2, 1) := by decide +kernel
theorem dX7_copy_90 : decode cX7_copy 90 = .ok (.aaload, 1) := by decide +kernel
theorem dX7_copy_91 : decode cX7_copy 91 = .ok (.iconst 0, 1) := by decide +kernel
theorem dX7_copy_92 : decode cX7_copy 92 = .ok (.bipush 14, 2) := by decide +kernel
theorem dX7_copy_94 : decode cX7_copy 94 = .ok (.invokestatic 50, 3) := by decide +kernel
theorem dX7_copy_97 : decode cX7_copy 97 = .ok (.iinc 2 1, 3) := by decide +kernel
theorem dX7_copy_100 : decode cX7_copy 100 = .ok (.goto (-30), 3) := by decide +kernel
theorem dX7_copy_103 : decode cX7_copy 103 = .ok (.aload_n 0, 1) := by decide +kernel
theorem dX7_copy_104 : decode cX7_copy 104 = .ok (.getfield 30, 3) := by decide +kernel
theorem dX7_copy_107 : decode cX7_copy 107 = .ok (.iconst 0, 1) := by decide +kernel
theorem dX7_copy_108 : decode cX7_copy 108 = .ok (.aload_n 1, 1) := by decide +kernel
theorem dX7_copy_109 : decode cX7_copy 109 = .ok (.getfield 30, 3) := by decide +kernel
theorem dX7_copy_112 : decode cX7_copy 112 = .ok (.iconst 0, 1) := by decide +kernel
theorem dX7_copy_113 : decode cX7_copy 113 = .ok (.iconst 3, 1) := by decide +kernel
theorem dX7_copy_114 : decode cX7_copy 114 = .ok (.invokestatic 50, 3) := by decide +kernel
theorem dX7_copy_117 : decode cX7_copy 117 = .ok (.aload_n 0, 1) := by decide +kernel
theorem dX7_copy_118 : decode cX7_copy 118 = .ok (.getfield 33, 3) := by decide +kernel
theorem dX7_copy_121 : decode cX7_copy 121 = .ok (.iconst 0, 1) := by decide +kernel
theorem dX7_copy_122 : decode cX7_copy 122 = .ok (.aload_n 1, 1) := by decide +kernel
theorem dX7_copy_123 : decode cX7_copy 123 = .ok (.getfield 33, 3) := by decide +kernel
theorem dX7_copy_126 : decode cX7_copy 126 = .ok (.iconst 0, 1) := by decide +kernel
theorem dX7_copy_127 : decode cX7_copy 127 = .ok (.bipush 6, 2) := by decide +kernel
theorem dX7_copy_129 : decode cX7_copy 129 = .ok (.invokestatic 50, 3) := by decide +kernel
theorem dX7_copy_132 : decode cX7_copy 132 = .ok (.aload_n 1, 1) := by decide +kernel
theorem dX7_copy_133 : decode cX7_copy 133 = .ok (.aload_n 0, 1) := by decide +kernel
theorem dX7_copy_134 : decode cX7_copy 134 = .ok (.getfield 56, 3) := by decide +kernel
theorem dX7_copy_137 : decode cX7_copy 137 = .ok (.putfield 56, 3) := by decide +kernel
theorem dX7_copy_140 : decode cX7_copy 140 = .ok (.aload_n 1, 1) := by decide +kernel
theorem dX7_copy_141 : decode cX7_copy 141 = .ok (.aload_n 0, 1) := by decide +kernel
theorem dX7_copy_142 : decode cX7_copy 142 = .ok (.getfield 59, 3) := by decide +kernel
theorem dX7_copy_145 : decode cX7_copy 145 = .ok (.putfield 59, 3) := by decide +kernel
theorem dX7_copy_148 : decode cX7_copy 148 = .ok (.aload_n 1, 1) := by decide +kernel
theorem dX7_copy_149 : decode cX7_copy 149 = .ok (.aload_n 0, 1) := by decide +kernel
theorem dX7_copy_150 : decode cX7_copy 150 = .ok (.getfield 42, 3) := by decide +kernel
theorem dX7_copy_153 : decode cX7_copy 153 = .ok (.putfield 42, 3) := by decide +kernel
theorem dX7_copy_156 : decode cX7_copy 156 = .ok (.aload_n 1, 1) := by decide +kernel
theorem dX7_copy_157 : decode cX7_copy 157 = .ok (.aload_n 0, 1) := by decide +kernel
theorem dX7_copy_158 : decode cX7_copy 158 = .ok (.getfield 46, 3) := by decide +kernel
theorem dX7_copy_161 : decode cX7_copy 161 = .ok (.putfield 46, 3) := by decide +kernel
theorem dX7_copy_164 : decode cX7_copy 164 = .ok (.aload_n 1, 1) := by decide +kernel
theorem dX7_copy_165 : decode cX7_copy 165 = .ok (.aload_n 0, 1) := by decide +kernel
theorem dX7_copy_166 : decode cX7_copy 166 = .ok (.getfield 62, 3) := by decide +kernel
theorem dX7_copy_169 : decode cX7_copy 169 = .ok (.putfield 62, 3) := by decide +kernel
theorem dX7_copy_172 : decode cX7_copy 172 = .ok (.aload_n 1, 1) := by decide +kernel
theorem dX7_copy_173 : decode cX7_copy 173 = .ok (.areturn, 1) := by decide +kernel
theorem dX7_all_0 : decode cX7_all 0 = .ok (.aload_n 0, 1) := by decide +kernel
theorem dX7_all_1 : decode cX7_all 1 = .ok (.getfield 15, 3) := by decide +kernel
theorem dX7_all_4 : decode cX7_all 4 = .ok (.iconst 3, 1) := by decide +kernel
theorem dX7_all_5 : decode cX7_all 5 = .ok (.iload_n 1, 1) := by decide +kernel
theorem dX7_all_6 : decode cX7_all 6 = .ok (.imul, 1) := by decide +kernel
theorem dX7_all_7 : decode cX7_all 7 = .ok (.iaload, 1) := by decide +kernel
theorem dX7_all_8 : decode cX7_all 8 = .ok (.aload_n 0, 1) := by decide +kernel
theorem dX7_all_9 : decode cX7_all 9 = .ok (.getfield 15, 3) := by decide +kernel
theorem dX7_all_12 : decode cX7_all 12 = .ok (.iconst 3, 1) := by decide +kernel
theorem dX7_all_13 : decode cX7_all 13 = .ok (.iload_n 1, 1) := by decide +kernel
theorem dX7_all_14 : decode cX7_all 14 = .ok (.imul, 1) := by decide +kernel
theorem dX7_all_15 : decode cX7_all 15 = .ok (.iconst 1, 1) := by decide +kernel
theorem dX7_all_16 : decode cX7_all 16 = .ok (.iadd, 1) := by decide +kernel
theorem dX7_all_17 : decode cX7_all 17 = .ok (.iaload, 1) := by decide +kernel
theorem dX7_all_18 : decode cX7_all 18 = .ok (.iadd, 1) := by decide +kernel
theorem dX7_all_19 : decode cX7_all 19 = .ok (.aload_n 0, 1) := by decide +kernel
theorem dX7_all_20 : decode cX7_all 20 = .ok (.getfield 15, 3) := by decide +kernel
theorem dX7_all_23 : decode cX7_all 23 = .ok (.iconst 3, 1) := by decide +kernel
theorem dX7_all_24 : decode cX7_all 24 = .ok (.iload_n 1, 1) := by decide +kernel
theorem dX7_all_25 : decode cX7_all 25 = .ok (.imul, 1) := by decide +kernel
theorem dX7_all_26 : decode cX7_all 26 = .ok (.iconst 2, 1) := by decide +kernel
theorem dX7_all_27 : decode cX7_all 27 = .ok (.iadd, 1) := by decide +kernel
theorem dX7_all_28 : decode cX7_all 28 = .ok (.iaload, 1) := by decide +kernel
theorem dX7_all_29 : decode cX7_all 29 = .ok (.iadd, 1) := by decide +kernel
theorem dX7_all_30 : decode cX7_all 30 = .ok (.ireturn, 1) := by decide +kernel
set_option maxRecDepth 20000 in
theorem ggX7_pressure_X7_all : GoodIn wsX7_pressure wsX7_all := goodIn_r _ [6, 7, 8, 9, 10, 11, 12, 13, 14, 15, 16, 17, 18, 19, 20, 21] (by decide +kernel) (by decide +kernel)
set_option maxRecDepth 20000 in
theorem gX7_pressure_X7_all : GoodIn wsX7_pressure (wsV RX7 65 RX7 yX7_all wsX7_all) := goodIn_app (goodIn_of _ (by decide +kernel)) ggX7_pressure_X7_all
theorem dX7_pressure_0 : decode cX7_pressure 0 = .ok (.bipush 100, 2) := by decide +kernel
theorem dX7_pressure_2 : decode cX7_pressure 2 = .ok (.aload_n 0, 1) := by decide +kernel
theorem dX7_pressure_3 : decode cX7_pressure 3 = .ok (.iload_n 1, 1) := by decide +kernel
theorem dX7_pressure_4 : decode cX7_pressure 4 = .ok (.invokevirtual 65, 3) := by decide +kernel
theorem dX7_pressure_7 : decode cX7_pressure 7 = .ok (.imul, 1) := by decide +kernel
theorem dX7_pressure_8 : decode cX7_pressure 8 = .ok (.aload_n 0, 1) := by decide +kernel
theorem dX7_pressure_9 : decode cX7_pressure 9 = .ok (.getfield 9, 3) := by decide +kernel
theorem dX7_pressure_12 : decode cX7_pressure 12 = .ok (.iload_n 1, 1) := by decide +kernel
theorem dX7_pressure_13 : decode cX7_pressure 13 = .ok (.iaload, 1) := by decide +kernel
theorem dX7_pressure_14 : decode cX7_pressure 14 = .ok (.idiv, 1) := by decide +kernel
theorem dX7_pressure_15 : decode cX7_pressure 15 = .ok (.ireturn, 1) := by decide +kernel
set_option maxRecDepth 20000 in
theorem ggX7_reckon_X7_all : GoodIn wsX7_reckon wsX7_all := goodIn_r _ [11, 2, 12, 13, 14, 15, 16, 17, 18, 19, 20, 21, 22, 23, 24, 25] (by decide +kernel) (by decide +kernel)
set_option maxRecDepth 20000 in
theorem gX7_reckon_X7_all : GoodIn wsX7_reckon (wsV RX7 65 RX7 yX7_all wsX7_all) := goodIn_app (goodIn_of _ (by decide +kernel)) ggX7_reckon_X7_all
theorem dX7_reckon_0 : decode cX7_reckon 0 = .ok (.aload_n 0, 1) := by decide +kernel
theorem dX7_reckon_1 : decode cX7_reckon 1 = .ok (.iload_n 1, 1) := by decide +kernel
theorem dX7_reckon_2 : decode cX7_reckon 2 = .ok (.invokevirtual 65, 3) := by decide +kernel
theorem dX7_reckon_5 : decode cX7_reckon 5 = .ok (.istore_n 3, 1) := by decide +kernel
theorem dX7_reckon_6 : decode cX7_reckon 6 = .ok (.iconst 0, 1) := by decide +kernel
theorem dX7_reckon_7 : decode cX7_reckon 7 = .ok (.istore 4, 2) := by decide +kernel
theorem dX7_reckon_9 : decode cX7_reckon 9 = .ok (.iload 4, 2) := by decide +kernel
theorem dX7_reckon_11 : decode cX7_reckon 11 = .ok (.iconst 3, 1) := by decide +kernel
theorem dX7_reckon_12 : decode cX7_reckon 12 = .ok (.if_icmp .ge 65, 3) := by decide +kernel
theorem dX7_reckon_15 : decode cX7_reckon 15 = .ok (.aload_n 0, 1) := by decide +kernel
theorem dX7_reckon_16 : decode cX7_reckon 16 = .ok (.getfield 36, 3) := by decide +kernel
theorem dX7_reckon_19 : decode cX7_reckon 19 = .ok (.iload 4, 2) := by decide +kernel
theorem dX7_reckon_21 : decode cX7_reckon 21 = .ok (.iload_n 3, 1) := by decide +kernel
theorem dX7_reckon_22 : decode cX7_reckon 22 = .ok (.ifCond .ne 7, 3) := by decide +kernel
theorem dX7_reckon_25 : decode cX7_reckon 25 = .ok (.iconst 0, 1) := by decide +kernel
theorem dX7_reckon_26 : decode cX7_reckon 26 = .ok (.goto 44, 3) := by decide +kernel
theorem dX7_reckon_29 : decode cX7_reckon 29 = .ok (.aload_n 0, 1) := by decide +kernel
theorem dX7_reckon_30 : decode cX7_reckon 30 = .ok (.getfield 15, 3) := by decide +kernel
theorem dX7_reckon_33 : decode cX7_reckon 33 = .ok (.iconst 3, 1) := by decide +kernel
theorem dX7_reckon_34 : decode cX7_reckon 34 = .ok (.iload_n 1, 1) := by decide +kernel
theorem dX7_reckon_35 : decode cX7_reckon 35 = .ok (.imul, 1) := by decide +kernel
theorem dX7_reckon_36 : decode cX7_reckon 36 = .ok (.iload 4, 2) := by decide +kernel
theorem dX7_reckon_38 : decode cX7_reckon 38 = .ok (.iadd, 1) := by decide +kernel
theorem dX7_reckon_39 : decode cX7_reckon 39 = .ok (.iaload, 1) := by decide +kernel
theorem dX7_reckon_40 : decode cX7_reckon 40 = .ok (.iload 4, 2) := by decide +kernel
theorem dX7_reckon_42 : decode cX7_reckon 42 = .ok (.iconst 2, 1) := by decide +kernel
theorem dX7_reckon_43 : decode cX7_reckon 43 = .ok (.if_icmp .ne 7, 3) := by decide +kernel
theorem dX7_reckon_46 : decode cX7_reckon 46 = .ok (.iconst 2, 1) := by decide +kernel
theorem dX7_reckon_47 : decode cX7_reckon 47 = .ok (.goto 4, 3) := by decide +kernel
theorem dX7_reckon_50 : decode cX7_reckon 50 = .ok (.iconst 1, 1) := by decide +kernel
theorem dX7_reckon_51 : decode cX7_reckon 51 = .ok (.aload_n 0, 1) := by decide +kernel
theorem dX7_reckon_52 : decode cX7_reckon 52 = .ok (.getfield 15, 3) := by decide +kernel
theorem dX7_reckon_55 : decode cX7_reckon 55 = .ok (.iconst 3, 1) := by decide +kernel
theorem dX7_reckon_56 : decode cX7_reckon 56 = .ok (.iload_n 1, 1) := by decide +kernel
theorem dX7_reckon_57 : decode cX7_reckon 57 = .ok (.imul, 1) := by decide +kernel
theorem dX7_reckon_58 : decode cX7_reckon 58 = .ok (.iload 4, 2) := by decide +kernel
theorem dX7_reckon_60 : decode cX7_reckon 60 = .ok (.iadd, 1) := by decide +kernel
theorem dX7_reckon_61 : decode cX7_reckon 61 = .ok (.iaload, 1) := by decide +kernel
theorem dX7_reckon_62 : decode cX7_reckon 62 = .ok (.imul, 1) := by decide +kernel
theorem dX7_reckon_63 : decode cX7_reckon 63 = .ok (.iload_n 2, 1) := by decide +kernel
theorem dX7_reckon_64 : decode cX7_reckon 64 = .ok (.imul, 1) := by decide +kernel
theorem dX7_reckon_65 : decode cX7_reckon 65 = .ok (.iload_n 3, 1) := by decide +kernel
theorem dX7_reckon_66 : decode cX7_reckon 66 = .ok (.idiv, 1) := by decide +kernel
theorem dX7_reckon_67 : decode cX7_reckon 67 = .ok (.invokestatic 69, 3) := by decide +kernel
theorem dX7_reckon_70 : decode cX7_reckon 70 = .ok (.iastore, 1) := by decide +kernel
theorem dX7_reckon_71 : decode cX7_reckon 71 = .ok (.iinc 4 1, 3) := by decide +kernel
theorem dX7_reckon_74 : decode cX7_reckon 74 = .ok (.goto (-65), 3) := by decide +kernel
theorem dX7_reckon_77 : decode cX7_reckon 77 = .ok (.return_, 1) := by decide +kernel
theorem dX7_out_0 : decode cX7_out 0 = .ok (.iconst 0, 1) := by decide +kernel
theorem dX7_out_1 : decode cX7_out 1 = .ok (.istore_n 2, 1) := by decide +kernel
theorem dX7_out_2 : decode cX7_out 2 = .ok (.iload_n 2, 1) := by decide +kernel
theorem dX7_out_3 : decode cX7_out 3 = .ok (.iconst 3, 1) := by decide +kernel
theorem dX7_out_4 : decode cX7_out 4 = .ok (.if_icmp .ge 28, 3) := by decide +kernel
theorem dX7_out_7 : decode cX7_out 7 = .ok (.aload_n 0, 1) := by decide +kernel
theorem dX7_out_8 : decode cX7_out 8 = .ok (.getfield 15, 3) := by decide +kernel
theorem dX7_out_11 : decode cX7_out 11 = .ok (.iconst 3, 1) := by decide +kernel
theorem dX7_out_12 : decode cX7_out 12 = .ok (.iload_n 1, 1) := by decide +kernel
theorem dX7_out_13 : decode cX7_out 13 = .ok (.imul, 1) := by decide +kernel
theorem dX7_out_14 : decode cX7_out 14 = .ok (.iload_n 2, 1) := by decide +kernel
theorem dX7_out_15 : decode cX7_out 15 = .ok (.iadd, 1) := by decide +kernel
theorem dX7_out_16 : decode cX7_out 16 = .ok (.dup2, 1) := by decide +kernel
theorem dX7_out_17 : decode cX7_out 17 = .ok (.iaload, 1) := by decide +kernel
theorem dX7_out_18 : decode cX7_out 18 = .ok (.aload_n 0, 1) := by decide +kernel
theorem dX7_out_19 : decode cX7_out 19 = .ok (.getfield 36, 3) := by decide +kernel
theorem dX7_out_22 : decode cX7_out 22 = .ok (.iload_n 2, 1) := by decide +kernel
theorem dX7_out_23 : decode cX7_out 23 = .ok (.iaload, 1) := by decide +kernel
theorem dX7_out_24 : decode cX7_out 24 = .ok (.isub, 1) := by decide +kernel
theorem dX7_out_25 : decode cX7_out 25 = .ok (.iastore, 1) := by decide +kernel
theorem dX7_out_26 : decode cX7_out 26 = .ok (.iinc 2 1, 3) := by decide +kernel
theorem dX7_out_29 : decode cX7_out 29 = .ok (.goto (-27), 3) := by decide +kernel
theorem dX7_out_32 : decode cX7_out 32 = .ok (.return_, 1) := by decide +kernel
theorem dX7_canTake_0 : decode cX7_canTake 0 = .ok (.iconst 0, 1) := by decide +kernel
theorem dX7_canTake_1 : decode cX7_canTake 1 = .ok (.istore_n 1, 1) := by decide +kernel
theorem dX7_canTake_2 : decode cX7_canTake 2 = .ok (.iconst 0, 1) := by decide +kernel
theorem dX7_canTake_3 : decode cX7_canTake 3 = .ok (.istore_n 2, 1) := by decide +kernel
theorem dX7_canTake_4 : decode cX7_canTake 4 = .ok (.iload_n 2, 1) := by decide +kernel
theorem dX7_canTake_5 : decode cX7_canTake 5 = .ok (.aload_n 0, 1) := by decide +kernel
theorem dX7_canTake_6 : decode cX7_canTake 6 = .ok (.getfield 56, 3) := by decide +kernel
theorem dX7_canTake_9 : decode cX7_canTake 9 = .ok (.if_icmp .ge 38, 3) := by decide +kernel
theorem dX7_canTake_12 : decode cX7_canTake 12 = .ok (.iload_n 1, 1) := by decide +kernel
theorem dX7_canTake_13 : decode cX7_canTake 13 = .ok (.aload_n 0, 1) := by decide +kernel
theorem dX7_canTake_14 : decode cX7_canTake 14 = .ok (.getfield 27, 3) := by decide +kernel
theorem dX7_canTake_17 : decode cX7_canTake 17 = .ok (.iload_n 2, 1) := by decide +kernel
theorem dX7_canTake_18 : decode cX7_canTake 18 = .ok (.aaload, 1) := by decide +kernel
theorem dX7_canTake_19 : decode cX7_canTake 19 = .ok (.iconst 0, 1) := by decide +kernel
theorem dX7_canTake_20 : decode cX7_canTake 20 = .ok (.iaload, 1) := by decide +kernel
theorem dX7_canTake_21 : decode cX7_canTake 21 = .ok (.iconst 2, 1) := by decide +kernel
theorem dX7_canTake_22 : decode cX7_canTake 22 = .ok (.if_icmp .ne 16, 3) := by decide +kernel
theorem dX7_canTake_25 : decode cX7_canTake 25 = .ok (.iconst 2, 1) := by decide +kernel
theorem dX7_canTake_26 : decode cX7_canTake 26 = .ok (.aload_n 0, 1) := by decide +kernel
theorem dX7_canTake_27 : decode cX7_canTake 27 = .ok (.getfield 27, 3) := by decide +kernel
theorem dX7_canTake_30 : decode cX7_canTake 30 = .ok (.iload_n 2, 1) := by decide +kernel
theorem dX7_canTake_31 : decode cX7_canTake 31 = .ok (.aaload, 1) := by decide +kernel
theorem dX7_canTake_32 : decode cX7_canTake 32 = .ok (.iconst 2, 1) := by decide +kernel
theorem dX7_canTake_33 : decode cX7_canTake 33 = .ok (.iaload, 1) := by decide +kernel
theorem dX7_canTake_34 : decode cX7_canTake 34 = .ok (.imul, 1) := by decide +kernel
theorem dX7_canTake_35 : decode cX7_canTake 35 = .ok (.goto 4, 3) := by decide +kernel
theorem dX7_canTake_38 : decode cX7_canTake 38 = .ok (.iconst 0, 1) := by decide +kernel
theorem dX7_canTake_39 : decode cX7_canTake 39 = .ok (.iadd, 1) := by decide +kernel
theorem dX7_canTake_40 : decode cX7_canTake 40 = .ok (.istore_n 1, 1) := by decide +kernel
theorem dX7_canTake_41 : decode cX7_canTake 41 = .ok (.iinc 2 1, 3) := by decide +kernel
theorem dX7_canTake_44 : decode cX7_canTake 44 = .ok (.goto (-40), 3) := by decide +kernel
theorem dX7_canTake_47 : decode cX7_canTake 47 = .ok (.iload_n 1, 1) := by decide +kernel
theorem dX7_canTake_48 : decode cX7_canTake 48 = .ok (.ireturn, 1) := by decide +kernel
set_option maxRecDepth 20000 in
theorem ggX7_month_X7_canTake : GoodIn wsX7_month wsX7_canTake := goodIn_r _ [22, 13, 14, 77, 78, 79, 80, 81, 82, 83, 84, 85, 86, 87, 88, 89, 90] (by decide +kernel) (by decide +kernel)
set_option maxRecDepth 20000 in
theorem gX7_month_X7_canTake : GoodIn wsX7_month (wsV RX7 75 RX7 yX7_canTake wsX7_canTake) := goodIn_app (goodIn_of _ (by decide +kernel)) ggX7_month_X7_canTake
set_option maxRecDepth 20000 in
theorem ggX7_month_X7_produce : GoodIn wsX7_month wsX7_produce := goodIn_r _ [26, 27, 28, 11, 29, 9, 10, 12, 30, 31, 3, 15, 32, 33, 34, 21, 35, 36, 37, 38, 39, 40, 41, 42, 43, 44, 45, 46, 47, 48, 49, 50, 51, 52, 53, 54, 77, 78, 79, 80, 81, 82, 83, 84, 85, 86, 87, 88, 89, 90] (by decide +kernel) (by decide +kernel)
set_option maxRecDepth 20000 in
theorem gX7_month_X7_produce : GoodIn wsX7_month (wsV RX7 79 RX7 yX7_produce wsX7_produce) := goodIn_app (goodIn_of _ (by decide +kernel)) ggX7_month_X7_produce
set_option maxRecDepth 20000 in
theorem ggX7_month_X7_giveBack : GoodIn wsX7_month wsX7_giveBack := goodIn_r _ [58, 9, 10, 11, 12, 36, 15, 77, 78, 79, 80, 81, 82, 83, 84, 85, 86, 87, 88, 89, 90] (by decide +kernel) (by decide +kernel)
set_option maxRecDepth 20000 in
theorem gX7_month_X7_giveBack : GoodIn wsX7_month (wsV RX7 83 RX7 yX7_giveBack wsX7_giveBack) := goodIn_app (goodIn_of _ (by decide +kernel)) ggX7_month_X7_giveBack
set_option maxRecDepth 20000 in
theorem ggX7_month_X7_flood : GoodIn wsX7_month wsX7_flood := goodIn_r _ [62, 36, 15, 37, 38, 39, 21, 40, 41, 32, 33, 34, 35, 77, 78, 79, 80, 81, 82, 83, 84, 85, 86, 87, 88, 89, 90] (by decide +kernel) (by decide +kernel)
set_option maxRecDepth 20000 in
theorem gX7_month_X7_flood : GoodIn wsX7_month (wsV RX7 87 RX7 yX7_flood wsX7_flood) := goodIn_app (goodIn_of _ (by decide +kernel)) ggX7_month_X7_flood
set_option maxRecDepth 20000 in
theorem ggX7_month_X7_level : GoodIn wsX7_month wsX7_level := goodIn_r _ [66, 67, 68, 11, 69, 9, 10, 12, 36, 31, 37, 38, 39, 21, 40, 41, 32, 33, 34, 35, 42, 43, 44, 45, 51, 52, 53, 54, 77, 78, 79, 80, 81, 82, 83, 84, 85, 86, 87, 88, 89, 90] (by decide +kernel) (by decide +kernel)
set_option maxRecDepth 20000 in
theorem gX7_month_X7_level : GoodIn wsX7_month (wsV RX7 90 RX7 yX7_level wsX7_level) := goodIn_app (goodIn_of _ (by decide +kernel)) ggX7_month_X7_level
set_option maxRecDepth 20000 in
theorem ggX7_month_X7_allocate : GoodIn wsX7_month wsX7_allocate := goodIn_r _ [73, 13, 14, 4, 5, 6, 7, 74, 75, 21, 76, 77, 78, 79, 80, 81, 82, 83, 84, 85, 86, 87, 88, 89, 90] (by decide +kernel) (by decide +kernel)
set_option maxRecDepth 20000 in
theorem gX7_month_X7_allocate : GoodIn wsX7_month (wsV RX7 94 RX7 yX7_allocate wsX7_allocate) := goodIn_app (goodIn_of _ (by decide +kernel)) ggX7_month_X7_allocate
theorem dX7_month_0 : decode cX7_month 0 = .ok (.aload_n 0, 1) := by decide +kernel
theorem dX7_month_1 : decode cX7_month 1 = .ok (.dup, 1) := by decide +kernel
theorem dX7_month_2 : decode cX7_month 2 = .ok (.getfield 59, 3) := by decide +kernel
theorem dX7_month_5 : decode cX7_month 5 = .ok (.iconst 1, 1) := by decide +kernel
theorem dX7_month_6 : decode cX7_month 6 = .ok (.iadd, 1) := by decide +kernel
theorem dX7_month_7 : decode cX7_month 7 = .ok (.putfield 59, 3) := by decide +kernel
theorem dX7_month_10 : decode cX7_month 10 = .ok (.aload_n 0, 1) := by decide +kernel
theorem dX7_month_11 : decode cX7_month 11 = .ok (.getfield 30, 3) := by decide +kernel
theorem dX7_month_14 : decode cX7_month 14 = .ok (.iconst 0, 1) := by decide +kernel
theorem dX7_month_15 : decode cX7_month 15 = .ok (.aload_n 0, 1) := by decide +kernel
theorem dX7_month_16 : decode cX7_month 16 = .ok (.getfield 39, 3) := by decide +kernel
theorem dX7_month_19 : decode cX7_month 19 = .ok (.iconst 0, 1) := by decide +kernel
theorem dX7_month_20 : decode cX7_month 20 = .ok (.iconst 3, 1) := by decide +kernel
theorem dX7_month_21 : decode cX7_month 21 = .ok (.invokestatic 50, 3) := by decide +kernel
theorem dX7_month_24 : decode cX7_month 24 = .ok (.aload_n 0, 1) := by decide +kernel
theorem dX7_month_25 : decode cX7_month 25 = .ok (.getfield 39, 3) := by decide +kernel
theorem dX7_month_28 : decode cX7_month 28 = .ok (.iconst 2, 1) := by decide +kernel
theorem dX7_month_29 : decode cX7_month 29 = .ok (.aload_n 0, 1) := by decide +kernel
theorem dX7_month_30 : decode cX7_month 30 = .ok (.getfield 30, 3) := by decide +kernel
theorem dX7_month_33 : decode cX7_month 33 = .ok (.iconst 2, 1) := by decide +kernel
theorem dX7_month_34 : decode cX7_month 34 = .ok (.iaload, 1) := by decide +kernel
theorem dX7_month_35 : decode cX7_month 35 = .ok (.aload_n 0, 1) := by decide +kernel
theorem dX7_month_36 : decode cX7_month 36 = .ok (.getfield 42, 3) := by decide +kernel
theorem dX7_month_39 : decode cX7_month 39 = .ok (.aload_n 0, 1) := by decide +kernel
theorem dX7_month_40 : decode cX7_month 40 = .ok (.invokevirtual 75, 3) := by decide +kernel
theorem dX7_month_43 : decode cX7_month 43 = .ok (.iadd, 1) := by decide +kernel
theorem dX7_month_44 : decode cX7_month 44 = .ok (.invokestatic 69, 3) := by decide +kernel
theorem dX7_month_47 : decode cX7_month 47 = .ok (.iastore, 1) := by decide +kernel
theorem dX7_month_48 : decode cX7_month 48 = .ok (.iconst 0, 1) := by decide +kernel
theorem dX7_month_49 : decode cX7_month 49 = .ok (.istore_n 1, 1) := by decide +kernel
theorem dX7_month_50 : decode cX7_month 50 = .ok (.iconst 0, 1) := by decide +kernel
theorem dX7_month_51 : decode cX7_month 51 = .ok (.istore_n 2, 1) := by decide +kernel
theorem dX7_month_52 : decode cX7_month 52 = .ok (.iconst 0, 1) := by decide +kernel
theorem dX7_month_53 : decode cX7_month 53 = .ok (.istore_n 3, 1) := by decide +kernel
theorem dX7_month_54 : decode cX7_month 54 = .ok (.iload_n 3, 1) := by decide +kernel
theorem dX7_month_55 : decode cX7_month 55 = .ok (.aload_n 0, 1) := by decide +kernel
theorem dX7_month_56 : decode cX7_month 56 = .ok (.getfield 56, 3) := by decide +kernel
theorem dX7_month_59 : decode cX7_month 59 = .ok (.if_icmp .ge 37, 3) := by decide +kernel
theorem dX7_month_62 : decode cX7_month 62 = .ok (.iconst 0, 1) := by decide +kernel
theorem dX7_month_63 : decode cX7_month 63 = .ok (.istore 4, 2) := by decide +kernel
theorem dX7_month_65 : decode cX7_month 65 = .ok (.iload 4, 2) := by decide +kernel
theorem dX7_month_67 : decode cX7_month 67 = .ok (.iconst 3, 1) := by decide +kernel
theorem dX7_month_68 : decode cX7_month 68 = .ok (.if_icmp .ge 22, 3) := by decide +kernel
theorem dX7_month_71 : decode cX7_month 71 = .ok (.aload_n 0, 1) := by decide +kernel
theorem dX7_month_72 : decode cX7_month 72 = .ok (.getfield 27, 3) := by decide +kernel
theorem dX7_month_75 : decode cX7_month 75 = .ok (.iload_n 3, 1) := by decide +kernel
theorem dX7_month_76 : decode cX7_month 76 = .ok (.aaload, 1) := by decide +kernel
theorem dX7_month_77 : decode cX7_month 77 = .ok (.bipush 8, 2) := by decide +kernel
theorem dX7_month_79 : decode cX7_month 79 = .ok (.iload 4, 2) := by decide +kernel
theorem dX7_month_81 : decode cX7_month 81 = .ok (.iadd, 1) := by decide +kernel
theorem dX7_month_82 : decode cX7_month 82 = .ok (.iconst 0, 1) := by decide +kernel
theorem dX7_month_83 : decode cX7_month 83 = .ok (.iastore, 1) := by decide +kernel
theorem dX7_month_84 : decode cX7_month 84 = .ok (.iinc 4 1, 3) := by decide +kernel
theorem dX7_month_87 : decode cX7_month 87 = .ok (.goto (-22), 3) := by decide +kernel
theorem dX7_month_90 : decode cX7_month 90 = .ok (.iinc 3 1, 3) := by decide +kernel
theorem dX7_month_93 : decode cX7_month 93 = .ok (.goto (-39), 3) := by decide +kernel
theorem dX7_month_96 : decode cX7_month 96 = .ok (.iconst 1, 1) := by decide +kernel
theorem dX7_month_97 : decode cX7_month 97 = .ok (.istore_n 3, 1) := by decide +kernel
theorem dX7_month_98 : decode cX7_month 98 = .ok (.iload_n 3, 1) := by decide +kernel
theorem dX7_month_99 : decode cX7_month 99 = .ok (.bipush 9, 2) := by decide +kernel
theorem dX7_month_101 : decode cX7_month 101 = .ok (.if_icmp .gt 84, 3) := by decide +kernel
theorem dX7_month_104 : decode cX7_month 104 = .ok (.iconst 0, 1) := by decide +kernel
theorem dX7_month_105 : decode cX7_month 105 = .ok (.istore 4, 2) := by decide +kernel
theorem dX7_month_107 : decode cX7_month 107 = .ok (.iload 4, 2) := by decide +kernel
theorem dX7_month_109 : decode cX7_month 109 = .ok (.aload_n 0, 1) := by decide +kernel
theorem dX7_month_110 : decode cX7_month 110 = .ok (.getfield 56, 3) := by decide +kernel
theorem dX7_month_113 : decode cX7_month 113 = .ok (.if_icmp .ge 66, 3) := by decide +kernel
theorem dX7_month_116 : decode cX7_month 116 = .ok (.aload_n 0, 1) := by decide +kernel
theorem dX7_month_117 : decode cX7_month 117 = .ok (.getfield 27, 3) := by decide +kernel
theorem dX7_month_120 : decode cX7_month 120 = .ok (.iload 4, 2) := by decide +kernel
theorem dX7_month_122 : decode cX7_month 122 = .ok (.aaload, 1) := by decide +kernel
theorem dX7_month_123 : decode cX7_month 123 = .ok (.astore 5, 2) := by decide +kernel
theorem dX7_month_125 : decode cX7_month 125 = .ok (.aload 5, 2) := by decide +kernel
theorem dX7_month_127 : decode cX7_month 127 = .ok (.iconst 0, 1) := by decide +kernel
theorem dX7_month_128 : decode cX7_month 128 = .ok (.iaload, 1) := by decide +kernel
theorem dX7_month_129 : decode cX7_month 129 = .ok (.ifCond .ne 44, 3) := by decide +kernel
theorem dX7_month_132 : decode cX7_month 132 = .ok (.aload 5, 2) := by decide +kernel
theorem dX7_month_134 : decode cX7_month 134 = .ok (.iconst 4, 1) := by decide +kernel
theorem dX7_month_135 : decode cX7_month 135 = .ok (.iaload, 1) := by decide +kernel
theorem dX7_month_136 : decode cX7_month 136 = .ok (.iconst 1, 1) := by decide +kernel
theorem dX7_month_137 : decode cX7_month 137 = .ok (.if_icmp .eq 36, 3) := by decide +kernel
theorem dX7_month_140 : decode cX7_month 140 = .ok (.aload 5, 2) := by decide +kernel
theorem dX7_month_142 : decode cX7_month 142 = .ok (.iconst 3, 1) := by decide +kernel
theorem dX7_month_143 : decode cX7_month 143 = .ok (.iaload, 1) := by decide +kernel
theorem dX7_month_144 : decode cX7_month 144 = .ok (.iload_n 3, 1) := by decide +kernel
theorem dX7_month_145 : decode cX7_month 145 = .ok (.if_icmp .eq 6, 3) := by decide +kernel
theorem dX7_month_148 : decode cX7_month 148 = .ok (.goto 25, 3) := by decide +kernel
theorem dX7_month_151 : decode cX7_month 151 = .ok (.aload_n 0, 1) := by decide +kernel
theorem dX7_month_152 : decode cX7_month 152 = .ok (.aload 5, 2) := by decide +kernel
theorem dX7_month_154 : decode cX7_month 154 = .ok (.invokevirtual 79, 3) := by decide +kernel
theorem dX7_month_157 : decode cX7_month 157 = .ok (.iload_n 1, 1) := by decide +kernel
theorem dX7_month_158 : decode cX7_month 158 = .ok (.aload 5, 2) := by decide +kernel
theorem dX7_month_160 : decode cX7_month 160 = .ok (.bipush 8, 2) := by decide +kernel
theorem dX7_month_162 : decode cX7_month 162 = .ok (.iaload, 1) := by decide +kernel
theorem dX7_month_163 : decode cX7_month 163 = .ok (.iadd, 1) := by decide +kernel
theorem dX7_month_164 : decode cX7_month 164 = .ok (.istore_n 1, 1) := by decide +kernel
theorem dX7_month_165 : decode cX7_month 165 = .ok (.iload_n 2, 1) := by decide +kernel
theorem dX7_month_166 : decode cX7_month 166 = .ok (.aload 5, 2) := by decide +kernel
theorem dX7_month_168 : decode cX7_month 168 = .ok (.bipush 10, 2) := by decide +kernel
theorem dX7_month_170 : decode cX7_month 170 = .ok (.iaload, 1) := by decide +kernel
theorem dX7_month_171 : decode cX7_month 171 = .ok (.iadd, 1) := by decide +kernel
theorem dX7_month_172 : decode cX7_month 172 = .ok (.istore_n 2, 1) := by decide +kernel
theorem dX7_month_173 : decode cX7_month 173 = .ok (.iinc 4 1, 3) := by decide +kernel
theorem dX7_month_176 : decode cX7_month 176 = .ok (.goto (-69), 3) := by decide +kernel
theorem dX7_month_179 : decode cX7_month 179 = .ok (.iinc 3 1, 3) := by decide +kernel
theorem dX7_month_182 : decode cX7_month 182 = .ok (.goto (-84), 3) := by decide +kernel
theorem dX7_month_185 : decode cX7_month 185 = .ok (.iconst 0, 1) := by decide +kernel
theorem dX7_month_186 : decode cX7_month 186 = .ok (.istore_n 3, 1) := by decide +kernel
theorem dX7_month_187 : decode cX7_month 187 = .ok (.iload_n 3, 1) := by decide +kernel
theorem dX7_month_188 : decode cX7_month 188 = .ok (.aload_n 0, 1) := by decide +kernel
theorem dX7_month_189 : decode cX7_month 189 = .ok (.getfield 56, 3) := by decide +kernel
theorem dX7_month_192 : decode cX7_month 192 = .ok (.if_icmp .ge 23, 3) := by decide +kernel
theorem dX7_month_195 : decode cX7_month 195 = .ok (.iload_n 2, 1) := by decide +kernel
theorem dX7_month_196 : decode cX7_month 196 = .ok (.aload_n 0, 1) := by decide +kernel
theorem dX7_month_197 : decode cX7_month 197 = .ok (.aload_n 0, 1) := by decide +kernel
theorem dX7_month_198 : decode cX7_month 198 = .ok (.getfield 27, 3) := by decide +kernel
theorem dX7_month_201 : decode cX7_month 201 = .ok (.iload_n 3, 1) := by decide +kernel
theorem dX7_month_202 : decode cX7_month 202 = .ok (.aaload, 1) := by decide +kernel
theorem dX7_month_203 : decode cX7_month 203 = .ok (.iload_n 2, 1) := by decide +kernel
theorem dX7_month_204 : decode cX7_month 204 = .ok (.invokevirtual 83, 3) := by decide +kernel
theorem dX7_month_207 : decode cX7_month 207 = .ok (.isub, 1) := by decide +kernel
theorem dX7_month_208 : decode cX7_month 208 = .ok (.istore_n 2, 1) := by decide +kernel
theorem dX7_month_209 : decode cX7_month 209 = .ok (.iinc 3 1, 3) := by decide +kernel
theorem dX7_month_212 : decode cX7_month 212 = .ok (.goto (-25), 3) := by decide +kernel
theorem dX7_month_215 : decode cX7_month 215 = .ok (.aload_n 0, 1) := by decide +kernel
theorem dX7_month_216 : decode cX7_month 216 = .ok (.getfield 33, 3) := by decide +kernel
theorem dX7_month_219 : decode cX7_month 219 = .ok (.iconst 3, 1) := by decide +kernel
theorem dX7_month_220 : decode cX7_month 220 = .ok (.dup2, 1) := by decide +kernel
theorem dX7_month_221 : decode cX7_month 221 = .ok (.iaload, 1) := by decide +kernel
theorem dX7_month_222 : decode cX7_month 222 = .ok (.iload_n 2, 1) := by decide +kernel
theorem dX7_month_223 : decode cX7_month 223 = .ok (.iadd, 1) := by decide +kernel
theorem dX7_month_224 : decode cX7_month 224 = .ok (.iastore, 1) := by decide +kernel
theorem dX7_month_225 : decode cX7_month 225 = .ok (.iconst 0, 1) := by decide +kernel
theorem dX7_month_226 : decode cX7_month 226 = .ok (.istore_n 3, 1) := by decide +kernel
theorem dX7_month_227 : decode cX7_month 227 = .ok (.iload_n 3, 1) := by decide +kernel
theorem dX7_month_228 : decode cX7_month 228 = .ok (.aload_n 0, 1) := by decide +kernel
theorem dX7_month_229 : decode cX7_month 229 = .ok (.getfield 56, 3) := by decide +kernel
theorem dX7_month_232 : decode cX7_month 232 = .ok (.if_icmp .ge 19, 3) := by decide +kernel
theorem dX7_month_235 : decode cX7_month 235 = .ok (.aload_n 0, 1) := by decide +kernel
theorem dX7_month_236 : decode cX7_month 236 = .ok (.aload_n 0, 1) := by decide +kernel
theorem dX7_month_237 : decode cX7_month 237 = .ok (.getfield 27, 3) := by decide +kernel
theorem dX7_month_240 : decode cX7_month 240 = .ok (.iload_n 3, 1) := by decide +kernel
theorem dX7_month_241 : decode cX7_month 241 = .ok (.aaload, 1) := by decide +kernel
theorem dX7_month_242 : decode cX7_month 242 = .ok (.invokevirtual 87, 3) := by decide +kernel
theorem dX7_month_245 : decode cX7_month 245 = .ok (.iinc 3 1, 3) := by decide +kernel
theorem dX7_month_248 : decode cX7_month 248 = .ok (.goto (-21), 3) := by decide +kernel
theorem dX7_month_251 : decode cX7_month 251 = .ok (.iconst 0, 1) := by decide +kernel
theorem dX7_month_252 : decode cX7_month 252 = .ok (.istore_n 3, 1) := by decide +kernel
theorem dX7_month_253 : decode cX7_month 253 = .ok (.iload_n 3, 1) := by decide +kernel
theorem dX7_month_254 : decode cX7_month 254 = .ok (.bipush 16, 2) := by decide +kernel
theorem dX7_month_256 : decode cX7_month 256 = .ok (.if_icmp .ge 56, 3) := by decide +kernel
theorem dX7_month_259 : decode cX7_month 259 = .ok (.iload_n 3, 1) := by decide +kernel
theorem dX7_month_260 : decode cX7_month 260 = .ok (.iconst 4, 1) := by decide +kernel
theorem dX7_month_261 : decode cX7_month 261 = .ok (.irem, 1) := by decide +kernel
theorem dX7_month_262 : decode cX7_month 262 = .ok (.iconst 3, 1) := by decide +kernel
theorem dX7_month_263 : decode cX7_month 263 = .ok (.if_icmp .ge 20, 3) := by decide +kernel
theorem dX7_month_266 : decode cX7_month 266 = .ok (.aload_n 0, 1) := by decide +kernel
theorem dX7_month_267 : decode cX7_month 267 = .ok (.getfield 18, 3) := by decide +kernel
theorem dX7_month_270 : decode cX7_month 270 = .ok (.iload_n 3, 1) := by decide +kernel
theorem dX7_month_271 : decode cX7_month 271 = .ok (.baload, 1) := by decide +kernel
theorem dX7_month_272 : decode cX7_month 272 = .ok (.ifCond .ne 11, 3) := by decide +kernel
theorem dX7_month_275 : decode cX7_month 275 = .ok (.aload_n 0, 1) := by decide +kernel
theorem dX7_month_276 : decode cX7_month 276 = .ok (.iload_n 3, 1) := by decide +kernel
theorem dX7_month_277 : decode cX7_month 277 = .ok (.iload_n 3, 1) := by decide +kernel
theorem dX7_month_278 : decode cX7_month 278 = .ok (.iconst 1, 1) := by decide +kernel
theorem dX7_month_279 : decode cX7_month 279 = .ok (.iadd, 1) := by decide +kernel
theorem dX7_month_280 : decode cX7_month 280 = .ok (.invokevirtual 90, 3) := by decide +kernel
theorem dX7_month_283 : decode cX7_month 283 = .ok (.iload_n 3, 1) := by decide +kernel
theorem dX7_month_284 : decode cX7_month 284 = .ok (.bipush 12, 2) := by decide +kernel
theorem dX7_month_286 : decode cX7_month 286 = .ok (.if_icmp .ge 20, 3) := by decide +kernel
theorem dX7_month_289 : decode cX7_month 289 = .ok (.aload_n 0, 1) := by decide +kernel
theorem dX7_month_290 : decode cX7_month 290 = .ok (.getfield 22, 3) := by decide +kernel
theorem dX7_month_293 : decode cX7_month 293 = .ok (.iload_n 3, 1) := by decide +kernel
theorem dX7_month_294 : decode cX7_month 294 = .ok (.baload, 1) := by decide +kernel
theorem dX7_month_295 : decode cX7_month 295 = .ok (.ifCond .ne 11, 3) := by decide +kernel
theorem dX7_month_298 : decode cX7_month 298 = .ok (.aload_n 0, 1) := by decide +kernel
theorem dX7_month_299 : decode cX7_month 299 = .ok (.iload_n 3, 1) := by decide +kernel
theorem dX7_month_300 : decode cX7_month 300 = .ok (.iload_n 3, 1) := by decide +kernel
theorem dX7_month_301 : decode cX7_month 301 = .ok (.iconst 4, 1) := by decide +kernel
theorem dX7_month_302 : decode cX7_month 302 = .ok (.iadd, 1) := by decide +kernel
theorem dX7_month_303 : decode cX7_month 303 = .ok (.invokevirtual 90, 3) := by decide +kernel
theorem dX7_month_306 : decode cX7_month 306 = .ok (.iinc 3 1, 3) := by decide +kernel
theorem dX7_month_309 : decode cX7_month 309 = .ok (.goto (-56), 3) := by decide +kernel
theorem dX7_month_312 : decode cX7_month 312 = .ok (.aload_n 0, 1) := by decide +kernel
theorem dX7_month_313 : decode cX7_month 313 = .ok (.iload_n 1, 1) := by decide +kernel
theorem dX7_month_314 : decode cX7_month 314 = .ok (.invokevirtual 94, 3) := by decide +kernel
theorem dX7_month_317 : decode cX7_month 317 = .ok (.iload_n 1, 1) := by decide +kernel
theorem dX7_month_318 : decode cX7_month 318 = .ok (.ireturn, 1) := by decide +kernel
theorem dX7_fits_0 : decode cX7_fits 0 = .ok (.aload_n 0, 1) := by decide +kernel
theorem dX7_fits_1 : decode cX7_fits 1 = .ok (.getfield 36, 3) := by decide +kernel
theorem dX7_fits_4 : decode cX7_fits 4 = .ok (.iconst 0, 1) := by decide +kernel
theorem dX7_fits_5 : decode cX7_fits 5 = .ok (.iaload, 1) := by decide +kernel
theorem dX7_fits_6 : decode cX7_fits 6 = .ok (.aload_n 0, 1) := by decide +kernel
