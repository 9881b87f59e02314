theorem dX6_ofCell_49 : decode cX6_ofCell 49 = .ok (.isub, 1) := by decide +kernel
theorem dX6_ofCell_50 : decode cX6_ofCell 50 = .ok (.iaload, 1) := by decide +kernel
theorem dX6_ofCell_51 : decode cX6_ofCell 51 = .ok (.ireturn, 1) := by decide +kernel
set_option maxRecDepth 20000 in
theorem ggX6_ofWell_X6_needIndex : GoodIn wsX6_ofWell wsX6_needIndex := goodIn_ca (goodIn_r _ [18, 19, 20] (by decide +kernel) (by decide +kernel)) (goodIn_sub (fun _ h => List.mem_cons_of_mem _ (List.mem_append_left _ (List.mem_append_right _ h))) (by decide +kernel))
set_option maxRecDepth 20000 in
theorem gX6_ofWell_X6_needIndex : GoodIn wsX6_ofWell (va_wsS RX6 51 yX6_needIndex wsX6_needIndex) := goodIn_app (goodIn_of _ (by decide +kernel)) ggX6_ofWell_X6_needIndex
set_option maxRecDepth 20000 in
theorem ggX6_ofWell_X6_needWithin : GoodIn wsX6_ofWell wsX6_needWithin := goodIn_ca (goodIn_r _ [23, 24, 25] (by decide +kernel) (by decide +kernel)) (goodIn_sub (fun _ h => List.mem_cons_of_mem _ (List.mem_append_right _ h)) (by decide +kernel))
set_option maxRecDepth 20000 in
theorem gX6_ofWell_X6_needWithin : GoodIn wsX6_ofWell (va_wsS RX6 55 yX6_needWithin wsX6_needWithin) := goodIn_app (goodIn_of _ (by decide +kernel)) ggX6_ofWell_X6_needWithin
theorem dX6_ofWell_0 : decode cX6_ofWell 0 = .ok (.iload_n 1, 1) := by decide +kernel
theorem dX6_ofWell_1 : decode cX6_ofWell 1 = .ok (.aload_n 0, 1) := by decide +kernel
theorem dX6_ofWell_2 : decode cX6_ofWell 2 = .ok (.getfield 10, 3) := by decide +kernel
theorem dX6_ofWell_5 : decode cX6_ofWell 5 = .ok (.getfield 87, 3) := by decide +kernel
theorem dX6_ofWell_8 : decode cX6_ofWell 8 = .ok (.invokestatic 51, 3) := by decide +kernel
theorem dX6_ofWell_11 : decode cX6_ofWell 11 = .ok (.iload_n 2, 1) := by decide +kernel
theorem dX6_ofWell_12 : decode cX6_ofWell 12 = .ok (.iconst 0, 1) := by decide +kernel
theorem dX6_ofWell_13 : decode cX6_ofWell 13 = .ok (.bipush 13, 2) := by decide +kernel
theorem dX6_ofWell_15 : decode cX6_ofWell 15 = .ok (.invokestatic 55, 3) := by decide +kernel
theorem dX6_ofWell_18 : decode cX6_ofWell 18 = .ok (.aload_n 0, 1) := by decide +kernel
theorem dX6_ofWell_19 : decode cX6_ofWell 19 = .ok (.getfield 10, 3) := by decide +kernel
theorem dX6_ofWell_22 : decode cX6_ofWell 22 = .ok (.getfield 97, 3) := by decide +kernel
theorem dX6_ofWell_25 : decode cX6_ofWell 25 = .ok (.iload_n 1, 1) := by decide +kernel
theorem dX6_ofWell_26 : decode cX6_ofWell 26 = .ok (.aaload, 1) := by decide +kernel
theorem dX6_ofWell_27 : decode cX6_ofWell 27 = .ok (.astore_n 3, 1) := by decide +kernel
theorem dX6_ofWell_28 : decode cX6_ofWell 28 = .ok (.aload_n 0, 1) := by decide +kernel
theorem dX6_ofWell_29 : decode cX6_ofWell 29 = .ok (.getfield 21, 3) := by decide +kernel
theorem dX6_ofWell_32 : decode cX6_ofWell 32 = .ok (.iload_n 1, 1) := by decide +kernel
theorem dX6_ofWell_33 : decode cX6_ofWell 33 = .ok (.aaload, 1) := by decide +kernel
theorem dX6_ofWell_34 : decode cX6_ofWell 34 = .ok (.astore 4, 2) := by decide +kernel
theorem dX6_ofWell_36 : decode cX6_ofWell 36 = .ok (.iload_n 2, 1) := by decide +kernel
theorem dX6_ofWell_37 : decode cX6_ofWell 37 = .ok (.tableswitch 133 0 12 #[67, 72, 77, 82, 87, 101, 101, 101, 111, 111, 111, 121, 127], 67) := by decide +kernel
theorem dX6_ofWell_104 : decode cX6_ofWell 104 = .ok (.aload_n 3, 1) := by decide +kernel
theorem dX6_ofWell_105 : decode cX6_ofWell 105 = .ok (.getfield 101, 3) := by decide +kernel
theorem dX6_ofWell_108 : decode cX6_ofWell 108 = .ok (.ireturn, 1) := by decide +kernel
theorem dX6_ofWell_109 : decode cX6_ofWell 109 = .ok (.aload_n 3, 1) := by decide +kernel
theorem dX6_ofWell_110 : decode cX6_ofWell 110 = .ok (.getfield 106, 3) := by decide +kernel
theorem dX6_ofWell_113 : decode cX6_ofWell 113 = .ok (.ireturn, 1) := by decide +kernel
theorem dX6_ofWell_114 : decode cX6_ofWell 114 = .ok (.aload_n 3, 1) := by decide +kernel
theorem dX6_ofWell_115 : decode cX6_ofWell 115 = .ok (.getfield 113, 3) := by decide +kernel
theorem dX6_ofWell_118 : decode cX6_ofWell 118 = .ok (.ireturn, 1) := by decide +kernel
theorem dX6_ofWell_119 : decode cX6_ofWell 119 = .ok (.aload_n 3, 1) := by decide +kernel
theorem dX6_ofWell_120 : decode cX6_ofWell 120 = .ok (.getfield 116, 3) := by decide +kernel
theorem dX6_ofWell_123 : decode cX6_ofWell 123 = .ok (.ireturn, 1) := by decide +kernel
theorem dX6_ofWell_124 : decode cX6_ofWell 124 = .ok (.aload 4, 2) := by decide +kernel
theorem dX6_ofWell_126 : decode cX6_ofWell 126 = .ok (.getfield 125, 3) := by decide +kernel
theorem dX6_ofWell_129 : decode cX6_ofWell 129 = .ok (.ifCond .eq 7, 3) := by decide +kernel
theorem dX6_ofWell_132 : decode cX6_ofWell 132 = .ok (.iconst 1, 1) := by decide +kernel
theorem dX6_ofWell_133 : decode cX6_ofWell 133 = .ok (.goto 4, 3) := by decide +kernel
theorem dX6_ofWell_136 : decode cX6_ofWell 136 = .ok (.iconst 0, 1) := by decide +kernel
theorem dX6_ofWell_137 : decode cX6_ofWell 137 = .ok (.ireturn, 1) := by decide +kernel
theorem dX6_ofWell_138 : decode cX6_ofWell 138 = .ok (.aload 4, 2) := by decide +kernel
theorem dX6_ofWell_140 : decode cX6_ofWell 140 = .ok (.getfield 205, 3) := by decide +kernel
theorem dX6_ofWell_143 : decode cX6_ofWell 143 = .ok (.iload_n 2, 1) := by decide +kernel
theorem dX6_ofWell_144 : decode cX6_ofWell 144 = .ok (.iconst 5, 1) := by decide +kernel
theorem dX6_ofWell_145 : decode cX6_ofWell 145 = .ok (.isub, 1) := by decide +kernel
theorem dX6_ofWell_146 : decode cX6_ofWell 146 = .ok (.iaload, 1) := by decide +kernel
theorem dX6_ofWell_147 : decode cX6_ofWell 147 = .ok (.ireturn, 1) := by decide +kernel
theorem dX6_ofWell_148 : decode cX6_ofWell 148 = .ok (.aload_n 3, 1) := by decide +kernel
theorem dX6_ofWell_149 : decode cX6_ofWell 149 = .ok (.getfield 208, 3) := by decide +kernel
theorem dX6_ofWell_152 : decode cX6_ofWell 152 = .ok (.iload_n 2, 1) := by decide +kernel
theorem dX6_ofWell_153 : decode cX6_ofWell 153 = .ok (.bipush 8, 2) := by decide +kernel
theorem dX6_ofWell_155 : decode cX6_ofWell 155 = .ok (.isub, 1) := by decide +kernel
theorem dX6_ofWell_156 : decode cX6_ofWell 156 = .ok (.iaload, 1) := by decide +kernel
theorem dX6_ofWell_157 : decode cX6_ofWell 157 = .ok (.ireturn, 1) := by decide +kernel
theorem dX6_ofWell_158 : decode cX6_ofWell 158 = .ok (.aload 4, 2) := by decide +kernel
theorem dX6_ofWell_160 : decode cX6_ofWell 160 = .ok (.getfield 211, 3) := by decide +kernel
theorem dX6_ofWell_163 : decode cX6_ofWell 163 = .ok (.ireturn, 1) := by decide +kernel
theorem dX6_ofWell_164 : decode cX6_ofWell 164 = .ok (.aload 4, 2) := by decide +kernel
theorem dX6_ofWell_166 : decode cX6_ofWell 166 = .ok (.getfield 214, 3) := by decide +kernel
theorem dX6_ofWell_169 : decode cX6_ofWell 169 = .ok (.ireturn, 1) := by decide +kernel
theorem dX6_ofWell_170 : decode cX6_ofWell 170 = .ok (.aload 4, 2) := by decide +kernel
theorem dX6_ofWell_172 : decode cX6_ofWell 172 = .ok (.getfield 121, 3) := by decide +kernel
theorem dX6_ofWell_175 : decode cX6_ofWell 175 = .ok (.ifCond .eq 7, 3) := by decide +kernel
theorem dX6_ofWell_178 : decode cX6_ofWell 178 = .ok (.iconst 1, 1) := by decide +kernel
theorem dX6_ofWell_179 : decode cX6_ofWell 179 = .ok (.goto 4, 3) := by decide +kernel
theorem dX6_ofWell_182 : decode cX6_ofWell 182 = .ok (.iconst 0, 1) := by decide +kernel
theorem dX6_ofWell_183 : decode cX6_ofWell 183 = .ok (.ireturn, 1) := by decide +kernel
set_option maxRecDepth 20000 in
theorem ggX6_ofPartner_X6_needIndex : GoodIn wsX6_ofPartner wsX6_needIndex := goodIn_ca (goodIn_r _ [9, 10, 11] (by decide +kernel) (by decide +kernel)) (goodIn_sub (fun _ h => List.mem_cons_of_mem _ (List.mem_append_left _ (List.mem_append_right _ h))) (by decide +kernel))
set_option maxRecDepth 20000 in
theorem gX6_ofPartner_X6_needIndex : GoodIn wsX6_ofPartner (va_wsS RX6 51 yX6_needIndex wsX6_needIndex) := goodIn_app (goodIn_of _ (by decide +kernel)) ggX6_ofPartner_X6_needIndex
set_option maxRecDepth 20000 in
theorem ggX6_ofPartner_X6_needWithin : GoodIn wsX6_ofPartner wsX6_needWithin := goodIn_ca (goodIn_r _ [14, 15, 16] (by decide +kernel) (by decide +kernel)) (goodIn_sub (fun _ h => List.mem_cons_of_mem _ (List.mem_append_right _ h)) (by decide +kernel))
set_option maxRecDepth 20000 in
theorem gX6_ofPartner_X6_needWithin : GoodIn wsX6_ofPartner (va_wsS RX6 55 yX6_needWithin wsX6_needWithin) := goodIn_app (goodIn_of _ (by decide +kernel)) ggX6_ofPartner_X6_needWithin
theorem dX6_ofPartner_0 : decode cX6_ofPartner 0 = .ok (.iload_n 1, 1) := by decide +kernel
theorem dX6_ofPartner_1 : decode cX6_ofPartner 1 = .ok (.iconst 3, 1) := by decide +kernel
theorem dX6_ofPartner_2 : decode cX6_ofPartner 2 = .ok (.invokestatic 51, 3) := by decide +kernel
theorem dX6_ofPartner_5 : decode cX6_ofPartner 5 = .ok (.iload_n 2, 1) := by decide +kernel
theorem dX6_ofPartner_6 : decode cX6_ofPartner 6 = .ok (.iconst 0, 1) := by decide +kernel
theorem dX6_ofPartner_7 : decode cX6_ofPartner 7 = .ok (.iconst 3, 1) := by decide +kernel
theorem dX6_ofPartner_8 : decode cX6_ofPartner 8 = .ok (.invokestatic 55, 3) := by decide +kernel
theorem dX6_ofPartner_11 : decode cX6_ofPartner 11 = .ok (.aload_n 0, 1) := by decide +kernel
theorem dX6_ofPartner_12 : decode cX6_ofPartner 12 = .ok (.getfield 27, 3) := by decide +kernel
theorem dX6_ofPartner_15 : decode cX6_ofPartner 15 = .ok (.iload_n 1, 1) := by decide +kernel
theorem dX6_ofPartner_16 : decode cX6_ofPartner 16 = .ok (.aaload, 1) := by decide +kernel
theorem dX6_ofPartner_17 : decode cX6_ofPartner 17 = .ok (.astore_n 3, 1) := by decide +kernel
theorem dX6_ofPartner_18 : decode cX6_ofPartner 18 = .ok (.iload_n 2, 1) := by decide +kernel
theorem dX6_ofPartner_19 : decode cX6_ofPartner 19 = .ok (.tableswitch 40 0 2 #[25, 30, 35], 25) := by decide +kernel
theorem dX6_ofPartner_44 : decode cX6_ofPartner 44 = .ok (.aload_n 3, 1) := by decide +kernel
theorem dX6_ofPartner_45 : decode cX6_ofPartner 45 = .ok (.getfield 48, 3) := by decide +kernel
theorem dX6_ofPartner_48 : decode cX6_ofPartner 48 = .ok (.ireturn, 1) := by decide +kernel
theorem dX6_ofPartner_49 : decode cX6_ofPartner 49 = .ok (.aload_n 3, 1) := by decide +kernel
theorem dX6_ofPartner_50 : decode cX6_ofPartner 50 = .ok (.getfield 217, 3) := by decide +kernel
theorem dX6_ofPartner_53 : decode cX6_ofPartner 53 = .ok (.ireturn, 1) := by decide +kernel
theorem dX6_ofPartner_54 : decode cX6_ofPartner 54 = .ok (.aload_n 3, 1) := by decide +kernel
theorem dX6_ofPartner_55 : decode cX6_ofPartner 55 = .ok (.getfield 173, 3) := by decide +kernel
theorem dX6_ofPartner_58 : decode cX6_ofPartner 58 = .ok (.ireturn, 1) := by decide +kernel
theorem dX6_ofPartner_59 : decode cX6_ofPartner 59 = .ok (.aload_n 3, 1) := by decide +kernel
theorem dX6_ofPartner_60 : decode cX6_ofPartner 60 = .ok (.getfield 176, 3) := by decide +kernel
theorem dX6_ofPartner_63 : decode cX6_ofPartner 63 = .ok (.ireturn, 1) := by decide +kernel
set_option maxRecDepth 20000 in
theorem ggX6_booked_X6_needWithin : GoodIn wsX6_booked wsX6_needWithin := goodIn_ca (goodIn_r _ [10, 11, 12] (by decide +kernel) (by decide +kernel)) (goodIn_sub (fun _ h => List.mem_cons_of_mem _ (List.mem_append_right _ h)) (by decide +kernel))
set_option maxRecDepth 20000 in
theorem gX6_booked_X6_needWithin : GoodIn wsX6_booked (va_wsS RX6 55 yX6_needWithin wsX6_needWithin) := goodIn_app (goodIn_of _ (by decide +kernel)) ggX6_booked_X6_needWithin
theorem dX6_booked_0 : decode cX6_booked 0 = .ok (.iload_n 1, 1) := by decide +kernel
theorem dX6_booked_1 : decode cX6_booked 1 = .ok (.iconst 0, 1) := by decide +kernel
theorem dX6_booked_2 : decode cX6_booked 2 = .ok (.iconst 4, 1) := by decide +kernel
theorem dX6_booked_3 : decode cX6_booked 3 = .ok (.invokestatic 55, 3) := by decide +kernel
theorem dX6_booked_6 : decode cX6_booked 6 = .ok (.iload_n 1, 1) := by decide +kernel
theorem dX6_booked_7 : decode cX6_booked 7 = .ok (.tableswitch 61 0 3 #[29, 37, 45, 53], 29) := by decide +kernel
theorem dX6_booked_36 : decode cX6_booked 36 = .ok (.aload_n 0, 1) := by decide +kernel
theorem dX6_booked_37 : decode cX6_booked 37 = .ok (.getfield 34, 3) := by decide +kernel
theorem dX6_booked_40 : decode cX6_booked 40 = .ok (.getfield 190, 3) := by decide +kernel
theorem dX6_booked_43 : decode cX6_booked 43 = .ok (.ireturn, 1) := by decide +kernel
theorem dX6_booked_44 : decode cX6_booked 44 = .ok (.aload_n 0, 1) := by decide +kernel
theorem dX6_booked_45 : decode cX6_booked 45 = .ok (.getfield 34, 3) := by decide +kernel
theorem dX6_booked_48 : decode cX6_booked 48 = .ok (.getfield 196, 3) := by decide +kernel
theorem dX6_booked_51 : decode cX6_booked 51 = .ok (.ireturn, 1) := by decide +kernel
theorem dX6_booked_52 : decode cX6_booked 52 = .ok (.aload_n 0, 1) := by decide +kernel
theorem dX6_booked_53 : decode cX6_booked 53 = .ok (.getfield 34, 3) := by decide +kernel
theorem dX6_booked_56 : decode cX6_booked 56 = .ok (.getfield 199, 3) := by decide +kernel
theorem dX6_booked_59 : decode cX6_booked 59 = .ok (.ireturn, 1) := by decide +kernel
theorem dX6_booked_60 : decode cX6_booked 60 = .ok (.aload_n 0, 1) := by decide +kernel
theorem dX6_booked_61 : decode cX6_booked 61 = .ok (.getfield 34, 3) := by decide +kernel
theorem dX6_booked_64 : decode cX6_booked 64 = .ok (.getfield 193, 3) := by decide +kernel
theorem dX6_booked_67 : decode cX6_booked 67 = .ok (.ireturn, 1) := by decide +kernel
theorem dX6_booked_68 : decode cX6_booked 68 = .ok (.aload_n 0, 1) := by decide +kernel
theorem dX6_booked_69 : decode cX6_booked 69 = .ok (.getfield 34, 3) := by decide +kernel
theorem dX6_booked_72 : decode cX6_booked 72 = .ok (.getfield 202, 3) := by decide +kernel
theorem dX6_booked_75 : decode cX6_booked 75 = .ok (.ireturn, 1) := by decide +kernel
set_option maxRecDepth 20000 in
theorem ggX6_many_X6_needWithin : GoodIn wsX6_many wsX6_needWithin := goodIn_ca (goodIn_r _ [14, 15, 16] (by decide +kernel) (by decide +kernel)) (goodIn_sub (fun _ h => List.mem_cons_of_mem _ (List.mem_append_right _ h)) (by decide +kernel))
set_option maxRecDepth 20000 in
theorem gX6_many_X6_needWithin : GoodIn wsX6_many (va_wsS RX6 55 yX6_needWithin wsX6_needWithin) := goodIn_app (goodIn_of _ (by decide +kernel)) ggX6_many_X6_needWithin
set_option maxRecDepth 20000 in
theorem ggX6_many_X2_inAllCells : GoodIn wsX6_many wsX2_inAllCells := goodIn_r _ [21, 22, 23, 46, 47, 48, 49, 50, 51, 52, 53, 54, 55, 56, 57, 66, 67, 68, 69] (by decide +kernel) (by decide +kernel)
set_option maxRecDepth 20000 in
theorem gX6_many_X2_inAllCells : GoodIn wsX6_many (wsV RX6 220 RX2 yX2_inAllCells wsX2_inAllCells) := goodIn_app (goodIn_of _ (by decide +kernel)) ggX6_many_X2_inAllCells
set_option maxRecDepth 20000 in
theorem ggX6_many_X2_faults : GoodIn wsX6_many wsX2_faults := goodIn_r _ [27, 22, 28, 29, 30, 31, 32, 33, 34, 46, 47, 48, 49, 50, 51, 52, 53, 54, 55, 56, 57, 66, 67, 68, 69] (by decide +kernel) (by decide +kernel)
set_option maxRecDepth 20000 in
theorem gX6_many_X2_faults : GoodIn wsX6_many (wsV RX6 232 RX2 yX2_faults wsX2_faults) := goodIn_app (goodIn_of _ (by decide +kernel)) ggX6_many_X2_faults
theorem dX6_many_0 : decode cX6_many 0 = .ok (.iload_n 1, 1) := by decide +kernel
theorem dX6_many_1 : decode cX6_many 1 = .ok (.iconst 0, 1) := by decide +kernel
theorem dX6_many_2 : decode cX6_many 2 = .ok (.bipush 14, 2) := by decide +kernel
theorem dX6_many_4 : decode cX6_many 4 = .ok (.invokestatic 55, 3) := by decide +kernel
theorem dX6_many_7 : decode cX6_many 7 = .ok (.iload_n 1, 1) := by decide +kernel
theorem dX6_many_8 : decode cX6_many 8 = .ok (.tableswitch 142 0 13 #[72, 77, 85, 85, 85, 96, 96, 96, 105, 113, 118, 123, 128, 134], 72) := by decide +kernel
theorem dX6_many_80 : decode cX6_many 80 = .ok (.aload_n 0, 1) := by decide +kernel
theorem dX6_many_81 : decode cX6_many 81 = .ok (.getfield 145, 3) := by decide +kernel
theorem dX6_many_84 : decode cX6_many 84 = .ok (.ireturn, 1) := by decide +kernel
theorem dX6_many_85 : decode cX6_many 85 = .ok (.aload_n 0, 1) := by decide +kernel
theorem dX6_many_86 : decode cX6_many 86 = .ok (.getfield 10, 3) := by decide +kernel
theorem dX6_many_89 : decode cX6_many 89 = .ok (.getfield 87, 3) := by decide +kernel
theorem dX6_many_92 : decode cX6_many 92 = .ok (.ireturn, 1) := by decide +kernel
theorem dX6_many_93 : decode cX6_many 93 = .ok (.aload_n 0, 1) := by decide +kernel
theorem dX6_many_94 : decode cX6_many 94 = .ok (.getfield 10, 3) := by decide +kernel
theorem dX6_many_97 : decode cX6_many 97 = .ok (.iload_n 1, 1) := by decide +kernel
theorem dX6_many_98 : decode cX6_many 98 = .ok (.iconst 2, 1) := by decide +kernel
theorem dX6_many_99 : decode cX6_many 99 = .ok (.isub, 1) := by decide +kernel
theorem dX6_many_100 : decode cX6_many 100 = .ok (.invokevirtual 220, 3) := by decide +kernel
theorem dX6_many_103 : decode cX6_many 103 = .ok (.ireturn, 1) := by decide +kernel
theorem dX6_many_104 : decode cX6_many 104 = .ok (.aload_n 0, 1) := by decide +kernel
theorem dX6_many_105 : decode cX6_many 105 = .ok (.getfield 38, 3) := by decide +kernel
theorem dX6_many_108 : decode cX6_many 108 = .ok (.iload_n 1, 1) := by decide +kernel
theorem dX6_many_109 : decode cX6_many 109 = .ok (.iconst 5, 1) := by decide +kernel
theorem dX6_many_110 : decode cX6_many 110 = .ok (.isub, 1) := by decide +kernel
theorem dX6_many_111 : decode cX6_many 111 = .ok (.iaload, 1) := by decide +kernel
theorem dX6_many_112 : decode cX6_many 112 = .ok (.ireturn, 1) := by decide +kernel
theorem dX6_many_113 : decode cX6_many 113 = .ok (.aload_n 0, 1) := by decide +kernel
theorem dX6_many_114 : decode cX6_many 114 = .ok (.getfield 10, 3) := by decide +kernel
theorem dX6_many_117 : decode cX6_many 117 = .ok (.getfield 134, 3) := by decide +kernel
theorem dX6_many_120 : decode cX6_many 120 = .ok (.ireturn, 1) := by decide +kernel
theorem dX6_many_121 : decode cX6_many 121 = .ok (.aload_n 0, 1) := by decide +kernel
theorem dX6_many_122 : decode cX6_many 122 = .ok (.getfield 223, 3) := by decide +kernel
theorem dX6_many_125 : decode cX6_many 125 = .ok (.ireturn, 1) := by decide +kernel
theorem dX6_many_126 : decode cX6_many 126 = .ok (.aload_n 0, 1) := by decide +kernel
theorem dX6_many_127 : decode cX6_many 127 = .ok (.getfield 226, 3) := by decide +kernel
theorem dX6_many_130 : decode cX6_many 130 = .ok (.ireturn, 1) := by decide +kernel
theorem dX6_many_131 : decode cX6_many 131 = .ok (.aload_n 0, 1) := by decide +kernel
theorem dX6_many_132 : decode cX6_many 132 = .ok (.getfield 229, 3) := by decide +kernel
theorem dX6_many_135 : decode cX6_many 135 = .ok (.ireturn, 1) := by decide +kernel
theorem dX6_many_136 : decode cX6_many 136 = .ok (.aload_n 0, 1) := by decide +kernel
theorem dX6_many_137 : decode cX6_many 137 = .ok (.getfield 223, 3) := by decide +kernel
theorem dX6_many_140 : decode cX6_many 140 = .ok (.ineg, 1) := by decide +kernel
theorem dX6_many_141 : decode cX6_many 141 = .ok (.ireturn, 1) := by decide +kernel
theorem dX6_many_142 : decode cX6_many 142 = .ok (.aload_n 0, 1) := by decide +kernel
theorem dX6_many_143 : decode cX6_many 143 = .ok (.getfield 10, 3) := by decide +kernel
theorem dX6_many_146 : decode cX6_many 146 = .ok (.invokevirtual 232, 3) := by decide +kernel
theorem dX6_many_149 : decode cX6_many 149 = .ok (.ireturn, 1) := by decide +kernel
theorem dX6_many_150 : decode cX6_many 150 = .ok (.aload_n 0, 1) := by decide +kernel
theorem dX6_many_151 : decode cX6_many 151 = .ok (.getfield 34, 3) := by decide +kernel
theorem dX6_many_154 : decode cX6_many 154 = .ok (.getfield 184, 3) := by decide +kernel
theorem dX6_many_157 : decode cX6_many 157 = .ok (.ireturn, 1) := by decide +kernel
set_option maxRecDepth 20000 in
theorem ggX6_meanPressure_X1_pressure : GoodIn wsX6_meanPressure wsX1_pressure := goodIn_r _ [8, 9, 10, 11, 12, 7, 13, 14, 38, 39, 40, 41] (by decide +kernel) (by decide +kernel)
set_option maxRecDepth 20000 in
theorem gX6_meanPressure_X1_pressure : GoodIn wsX6_meanPressure (wsV RX6 71 RX1 yX1_pressure wsX1_pressure) := goodIn_app (goodIn_of _ (by decide +kernel)) ggX6_meanPressure_X1_pressure
theorem dX6_meanPressure_0 : decode cX6_meanPressure 0 = .ok (.iconst 0, 1) := by decide +kernel
theorem dX6_meanPressure_1 : decode cX6_meanPressure 1 = .ok (.istore_n 1, 1) := by decide +kernel
theorem dX6_meanPressure_2 : decode cX6_meanPressure 2 = .ok (.iconst 0, 1) := by decide +kernel
theorem dX6_meanPressure_3 : decode cX6_meanPressure 3 = .ok (.istore_n 2, 1) := by decide +kernel
theorem dX6_meanPressure_4 : decode cX6_meanPressure 4 = .ok (.iload_n 2, 1) := by decide +kernel
theorem dX6_meanPressure_5 : decode cX6_meanPressure 5 = .ok (.bipush 16, 2) := by decide +kernel
theorem dX6_meanPressure_7 : decode cX6_meanPressure 7 = .ok (.if_icmp .ge 24, 3) := by decide +kernel
theorem dX6_meanPressure_10 : decode cX6_meanPressure 10 = .ok (.iload_n 1, 1) := by decide +kernel
theorem dX6_meanPressure_11 : decode cX6_meanPressure 11 = .ok (.aload_n 0, 1) := by decide +kernel
theorem dX6_meanPressure_12 : decode cX6_meanPressure 12 = .ok (.getfield 10, 3) := by decide +kernel
theorem dX6_meanPressure_15 : decode cX6_meanPressure 15 = .ok (.getfield 59, 3) := by decide +kernel
theorem dX6_meanPressure_18 : decode cX6_meanPressure 18 = .ok (.iload_n 2, 1) := by decide +kernel
theorem dX6_meanPressure_19 : decode cX6_meanPressure 19 = .ok (.aaload, 1) := by decide +kernel
theorem dX6_meanPressure_20 : decode cX6_meanPressure 20 = .ok (.invokevirtual 71, 3) := by decide +kernel
theorem dX6_meanPressure_23 : decode cX6_meanPressure 23 = .ok (.iadd, 1) := by decide +kernel
theorem dX6_meanPressure_24 : decode cX6_meanPressure 24 = .ok (.istore_n 1, 1) := by decide +kernel
theorem dX6_meanPressure_25 : decode cX6_meanPressure 25 = .ok (.iinc 2 1, 3) := by decide +kernel
theorem dX6_meanPressure_28 : decode cX6_meanPressure 28 = .ok (.goto (-24), 3) := by decide +kernel
theorem dX6_meanPressure_31 : decode cX6_meanPressure 31 = .ok (.iload_n 1, 1) := by decide +kernel
theorem dX6_meanPressure_32 : decode cX6_meanPressure 32 = .ok (.i2d, 1) := by decide +kernel
theorem dX6_meanPressure_33 : decode cX6_meanPressure 33 = .ok (.ldc2_w 235, 3) := by decide +kernel
theorem dX6_meanPressure_36 : decode cX6_meanPressure 36 = .ok (.ddiv, 1) := by decide +kernel
theorem dX6_meanPressure_37 : decode cX6_meanPressure 37 = .ok (.dreturn, 1) := by decide +kernel
set_option maxRecDepth 20000 in
theorem ggX6_wouldGive_X6_needWithin : GoodIn wsX6_wouldGive wsX6_needWithin := goodIn_ca (goodIn_r _ [6, 7, 8] (by decide +kernel) (by decide +kernel)) (goodIn_sub (fun _ h => List.mem_cons_of_mem _ (List.mem_append_right _ h)) (by decide +kernel))
set_option maxRecDepth 20000 in
theorem gX6_wouldGive_X6_needWithin : GoodIn wsX6_wouldGive (va_wsS RX6 55 yX6_needWithin wsX6_needWithin) := goodIn_app (goodIn_of _ (by decide +kernel)) ggX6_wouldGive_X6_needWithin
set_option maxRecDepth 20000 in
theorem ggX6_wouldGive_X2_take : GoodIn wsX6_wouldGive wsX2_take := goodIn_r _ [13, 14, 15, 16, 17, 18, 19, 20, 21, 22, 23, 24, 25, 26, 27, 28, 29, 30, 31, 32, 33, 34, 35, 36, 37, 38, 39, 40, 41, 42, 43, 145, 146, 147, 148, 149, 150, 151, 152, 153, 154, 155, 156, 157, 158, 159, 160, 161, 162, 163, 164, 165] (by decide +kernel) (by decide +kernel)
set_option maxRecDepth 20000 in
theorem gX6_wouldGive_X2_take : GoodIn wsX6_wouldGive (wsV RX6 237 RX2 yX2_take wsX2_take) := goodIn_app (goodIn_of _ (by decide +kernel)) ggX6_wouldGive_X2_take
set_option maxRecDepth 20000 in
theorem ggX6_wouldGive_X2_passMonths : GoodIn wsX6_wouldGive wsX2_passMonths := goodIn_r _ [47, 48, 49, 50, 12, 51, 16, 15, 52, 53, 54, 55, 56, 57, 58, 59, 60, 22, 61, 62, 63, 64, 65, 38, 66, 67, 68, 69, 70, 71, 14, 72, 73, 74, 75, 76, 77, 78, 79, 80, 24, 81, 82, 83, 28, 84, 30, 85, 86, 87, 88, 31, 89, 90, 91, 92, 17, 23, 93, 94, 95, 96, 97, 98, 99, 100, 101, 102, 103, 104, 105, 106, 107, 108, 109, 110, 111, 112, 113, 114, 115, 116, 117, 118, 119, 120, 121, 122, 123, 124, 125, 126, 127, 128, 5, 129, 130, 131, 132, 133, 33, 34, 145, 146, 147, 148, 149, 150, 151, 152, 153, 154, 155, 156, 161, 162, 163, 164, 165, 157, 158, 159, 160] (by decide +kernel) (by decide +kernel)
set_option maxRecDepth 20000 in
theorem gX6_wouldGive_X2_passMonths : GoodIn wsX6_wouldGive (wsV RX6 241 RX2 yX2_passMonths wsX2_passMonths) := goodIn_app (goodIn_of _ (by decide +kernel)) ggX6_wouldGive_X2_passMonths
theorem dX6_wouldGive_0 : decode cX6_wouldGive 0 = .ok (.iload_n 1, 1) := by decide +kernel
theorem dX6_wouldGive_1 : decode cX6_wouldGive 1 = .ok (.iconst 1, 1) := by decide +kernel
theorem dX6_wouldGive_2 : decode cX6_wouldGive 2 = .ok (.bipush 12, 2) := by decide +kernel
theorem dX6_wouldGive_4 : decode cX6_wouldGive 4 = .ok (.invokestatic 55, 3) := by decide +kernel
theorem dX6_wouldGive_7 : decode cX6_wouldGive 7 = .ok (.aload_n 0, 1) := by decide +kernel
theorem dX6_wouldGive_8 : decode cX6_wouldGive 8 = .ok (.getfield 16, 3) := by decide +kernel
theorem dX6_wouldGive_11 : decode cX6_wouldGive 11 = .ok (.aload_n 0, 1) := by decide +kernel
theorem dX6_wouldGive_12 : decode cX6_wouldGive 12 = .ok (.getfield 10, 3) := by decide +kernel
theorem dX6_wouldGive_15 : decode cX6_wouldGive 15 = .ok (.invokevirtual 237, 3) := by decide +kernel
theorem dX6_wouldGive_18 : decode cX6_wouldGive 18 = .ok (.aload_n 0, 1) := by decide +kernel
theorem dX6_wouldGive_19 : decode cX6_wouldGive 19 = .ok (.getfield 16, 3) := by decide +kernel
theorem dX6_wouldGive_22 : decode cX6_wouldGive 22 = .ok (.iload_n 1, 1) := by decide +kernel
theorem dX6_wouldGive_23 : decode cX6_wouldGive 23 = .ok (.invokevirtual 241, 3) := by decide +kernel
theorem dX6_wouldGive_26 : decode cX6_wouldGive 26 = .ok (.ireturn, 1) := by decide +kernel
set_option maxRecDepth 20000 in
theorem ggX6_bestChoke_X6_needIndex : GoodIn wsX6_bestChoke wsX6_needIndex := goodIn_ca (goodIn_r _ [9, 10, 11] (by decide +kernel) (by decide +kernel)) (goodIn_sub (fun _ h => List.mem_cons_of_mem _ (List.mem_append_left _ (List.mem_append_left _ (List.mem_append_right _ h)))) (by decide +kernel))
set_option maxRecDepth 20000 in
theorem gX6_bestChoke_X6_needIndex : GoodIn wsX6_bestChoke (va_wsS RX6 51 yX6_needIndex wsX6_needIndex) := goodIn_app (goodIn_of _ (by decide +kernel)) ggX6_bestChoke_X6_needIndex
set_option maxRecDepth 20000 in
theorem ggX6_bestChoke_X6_needWithin : GoodIn wsX6_bestChoke wsX6_needWithin := goodIn_ca (goodIn_r _ [14, 15, 16] (by decide +kernel) (by decide +kernel)) (goodIn_sub (fun _ h => List.mem_cons_of_mem _ (List.mem_append_left _ (List.mem_append_right _ h))) (by decide +kernel))
set_option maxRecDepth 20000 in
theorem gX6_bestChoke_X6_needWithin : GoodIn wsX6_bestChoke (va_wsS RX6 55 yX6_needWithin wsX6_needWithin) := goodIn_app (goodIn_of _ (by decide +kernel)) ggX6_bestChoke_X6_needWithin
set_option maxRecDepth 20000 in
theorem ggX6_bestChoke_X6_needOpen : GoodIn wsX6_bestChoke wsX6_needOpen := goodIn_ca (goodIn_r _ [20, 21, 22, 23, 24, 150, 151, 152, 153, 154, 155, 156, 157, 158, 159, 160, 178, 179, 180, 181, 182] (by decide +kernel) (by decide +kernel)) (goodIn_sub (fun _ h => List.mem_cons_of_mem _ (List.mem_append_right _ h)) (by decide +kernel))
set_option maxRecDepth 20000 in
theorem gX6_bestChoke_X6_needOpen : GoodIn wsX6_bestChoke (wsV RX6 109 RX6 yX6_needOpen wsX6_needOpen) := goodIn_app (goodIn_of _ (by decide +kernel)) ggX6_bestChoke_X6_needOpen
set_option maxRecDepth 20000 in
theorem ggX6_bestChoke_X2_take : GoodIn wsX6_bestChoke wsX2_take := goodIn_r _ [29, 30, 31, 32, 33, 34, 35, 36, 37, 38, 39, 40, 41, 42, 43, 44, 45, 46, 47, 48, 49, 50, 51, 52, 53, 54, 55, 56, 57, 58, 59, 161, 162, 163, 164, 165, 166, 167, 168, 169, 170, 171, 172, 183, 184, 185, 186, 173, 174, 175, 176, 177] (by decide +kernel) (by decide +kernel)
set_option maxRecDepth 20000 in
theorem gX6_bestChoke_X2_take : GoodIn wsX6_bestChoke (wsV RX6 237 RX2 yX2_take wsX2_take) := goodIn_app (goodIn_of _ (by decide +kernel)) ggX6_bestChoke_X2_take
set_option maxRecDepth 20000 in
theorem ggX6_bestChoke_X2_passMonths : GoodIn wsX6_bestChoke wsX2_passMonths := goodIn_r _ [63, 64, 65, 66, 28, 67, 32, 31, 68, 69, 70, 71, 72, 73, 74, 75, 76, 38, 77, 78, 79, 80, 81, 54, 82, 83, 84, 85, 86, 87, 30, 88, 89, 90, 91, 92, 93, 94, 95, 96, 40, 97, 98, 99, 44, 100, 46, 101, 102, 103, 104, 47, 105, 106, 107, 108, 33, 39, 109, 110, 111, 112, 113, 114, 115, 116, 117, 118, 119, 120, 121, 122, 123, 124, 125, 126, 127, 128, 129, 130, 131, 132, 133, 134, 135, 136, 137, 138, 139, 140, 141, 142, 143, 144, 8, 145, 146, 147, 148, 149, 49, 50, 161, 162, 163, 164, 165, 166, 167, 168, 169, 170, 171, 172, 173, 174, 175, 176, 177, 183, 184, 185, 186] (by decide +kernel) (by decide +kernel)
set_option maxRecDepth 20000 in
theorem gX6_bestChoke_X2_passMonths : GoodIn wsX6_bestChoke (wsV RX6 241 RX2 yX2_passMonths wsX2_passMonths) := goodIn_app (goodIn_of _ (by decide +kernel)) ggX6_bestChoke_X2_passMonths
theorem dX6_bestChoke_0 : decode cX6_bestChoke 0 = .ok (.iload_n 1, 1) := by decide +kernel
theorem dX6_bestChoke_1 : decode cX6_bestChoke 1 = .ok (.aload_n 0, 1) := by decide +kernel
theorem dX6_bestChoke_2 : decode cX6_bestChoke 2 = .ok (.getfield 10, 3) := by decide +kernel
theorem dX6_bestChoke_5 : decode cX6_bestChoke 5 = .ok (.getfield 87, 3) := by decide +kernel
theorem dX6_bestChoke_8 : decode cX6_bestChoke 8 = .ok (.invokestatic 51, 3) := by decide +kernel
theorem dX6_bestChoke_11 : decode cX6_bestChoke 11 = .ok (.iload_n 2, 1) := by decide +kernel
theorem dX6_bestChoke_12 : decode cX6_bestChoke 12 = .ok (.iconst 1, 1) := by decide +kernel
theorem dX6_bestChoke_13 : decode cX6_bestChoke 13 = .ok (.bipush 6, 2) := by decide +kernel
theorem dX6_bestChoke_15 : decode cX6_bestChoke 15 = .ok (.invokestatic 55, 3) := by decide +kernel
theorem dX6_bestChoke_18 : decode cX6_bestChoke 18 = .ok (.aload_n 0, 1) := by decide +kernel
theorem dX6_bestChoke_19 : decode cX6_bestChoke 19 = .ok (.iload_n 1, 1) := by decide +kernel
theorem dX6_bestChoke_20 : decode cX6_bestChoke 20 = .ok (.invokevirtual 109, 3) := by decide +kernel
theorem dX6_bestChoke_23 : decode cX6_bestChoke 23 = .ok (.iconst 0, 1) := by decide +kernel
theorem dX6_bestChoke_24 : decode cX6_bestChoke 24 = .ok (.istore_n 3, 1) := by decide +kernel
theorem dX6_bestChoke_25 : decode cX6_bestChoke 25 = .ok (.iconst (-1), 1) := by decide +kernel
theorem dX6_bestChoke_26 : decode cX6_bestChoke 26 = .ok (.istore 4, 2) := by decide +kernel
theorem dX6_bestChoke_28 : decode cX6_bestChoke 28 = .ok (.iconst 0, 1) := by decide +kernel
theorem dX6_bestChoke_29 : decode cX6_bestChoke 29 = .ok (.istore 5, 2) := by decide +kernel
theorem dX6_bestChoke_31 : decode cX6_bestChoke 31 = .ok (.iload 5, 2) := by decide +kernel
theorem dX6_bestChoke_33 : decode cX6_bestChoke 33 = .ok (.bipush 9, 2) := by decide +kernel
theorem dX6_bestChoke_35 : decode cX6_bestChoke 35 = .ok (.if_icmp .gt 58, 3) := by decide +kernel
theorem dX6_bestChoke_38 : decode cX6_bestChoke 38 = .ok (.aload_n 0, 1) := by decide +kernel
theorem dX6_bestChoke_39 : decode cX6_bestChoke 39 = .ok (.getfield 16, 3) := by decide +kernel
theorem dX6_bestChoke_42 : decode cX6_bestChoke 42 = .ok (.aload_n 0, 1) := by decide +kernel
theorem dX6_bestChoke_43 : decode cX6_bestChoke 43 = .ok (.getfield 10, 3) := by decide +kernel
theorem dX6_bestChoke_46 : decode cX6_bestChoke 46 = .ok (.invokevirtual 237, 3) := by decide +kernel
theorem dX6_bestChoke_49 : decode cX6_bestChoke 49 = .ok (.aload_n 0, 1) := by decide +kernel
theorem dX6_bestChoke_50 : decode cX6_bestChoke 50 = .ok (.getfield 16, 3) := by decide +kernel
theorem dX6_bestChoke_53 : decode cX6_bestChoke 53 = .ok (.getfield 97, 3) := by decide +kernel
theorem dX6_bestChoke_56 : decode cX6_bestChoke 56 = .ok (.iload_n 1, 1) := by decide +kernel
theorem dX6_bestChoke_57 : decode cX6_bestChoke 57 = .ok (.aaload, 1) := by decide +kernel
theorem dX6_bestChoke_58 : decode cX6_bestChoke 58 = .ok (.iload 5, 2) := by decide +kernel
theorem dX6_bestChoke_60 : decode cX6_bestChoke 60 = .ok (.putfield 113, 3) := by decide +kernel
theorem dX6_bestChoke_63 : decode cX6_bestChoke 63 = .ok (.aload_n 0, 1) := by decide +kernel
theorem dX6_bestChoke_64 : decode cX6_bestChoke 64 = .ok (.getfield 16, 3) := by decide +kernel
theorem dX6_bestChoke_67 : decode cX6_bestChoke 67 = .ok (.iload_n 2, 1) := by decide +kernel
theorem dX6_bestChoke_68 : decode cX6_bestChoke 68 = .ok (.invokevirtual 241, 3) := by decide +kernel
theorem dX6_bestChoke_71 : decode cX6_bestChoke 71 = .ok (.istore 6, 2) := by decide +kernel
theorem dX6_bestChoke_73 : decode cX6_bestChoke 73 = .ok (.iload 6, 2) := by decide +kernel
theorem dX6_bestChoke_75 : decode cX6_bestChoke 75 = .ok (.iload 4, 2) := by decide +kernel
theorem dX6_bestChoke_77 : decode cX6_bestChoke 77 = .ok (.if_icmp .le 10, 3) := by decide +kernel
theorem dX6_bestChoke_80 : decode cX6_bestChoke 80 = .ok (.iload 6, 2) := by decide +kernel
theorem dX6_bestChoke_82 : decode cX6_bestChoke 82 = .ok (.istore 4, 2) := by decide +kernel
theorem dX6_bestChoke_84 : decode cX6_bestChoke 84 = .ok (.iload 5, 2) := by decide +kernel
theorem dX6_bestChoke_86 : decode cX6_bestChoke 86 = .ok (.istore_n 3, 1) := by decide +kernel
theorem dX6_bestChoke_87 : decode cX6_bestChoke 87 = .ok (.iinc 5 1, 3) := by decide +kernel
theorem dX6_bestChoke_90 : decode cX6_bestChoke 90 = .ok (.goto (-59), 3) := by decide +kernel
theorem dX6_bestChoke_93 : decode cX6_bestChoke 93 = .ok (.iload_n 3, 1) := by decide +kernel
theorem dX6_bestChoke_94 : decode cX6_bestChoke 94 = .ok (.ireturn, 1) := by decide +kernel
set_option maxRecDepth 20000 in
theorem ggX6_keptBack_X6_needNeighbour : GoodIn wsX6_keptBack wsX6_needNeighbour := goodIn_ca (goodIn_r _ [7, 8, 9, 10, 11, 6, 12, 13, 14, 15] (by decide +kernel) (by decide +kernel)) (goodIn_sub (fun _ h => List.mem_cons_of_mem _ (List.mem_append_left _ (List.mem_append_right _ h))) (by decide +kernel))
set_option maxRecDepth 20000 in
theorem gX6_keptBack_X6_needNeighbour : GoodIn wsX6_keptBack (va_wsS RX6 75 yX6_needNeighbour wsX6_needNeighbour) := goodIn_app (goodIn_of _ (by decide +kernel)) ggX6_keptBack_X6_needNeighbour
set_option maxRecDepth 20000 in
theorem ggX6_keptBack_X6_needWithin : GoodIn wsX6_keptBack wsX6_needWithin := goodIn_ca (goodIn_r _ [18, 19, 20] (by decide +kernel) (by decide +kernel)) (goodIn_sub (fun _ h => List.mem_cons_of_mem _ (List.mem_append_right _ h)) (by decide +kernel))
set_option maxRecDepth 20000 in
theorem gX6_keptBack_X6_needWithin : GoodIn wsX6_keptBack (va_wsS RX6 55 yX6_needWithin wsX6_needWithin) := goodIn_app (goodIn_of _ (by decide +kernel)) ggX6_keptBack_X6_needWithin
set_option maxRecDepth 20000 in
theorem ggX6_keptBack_X1_isShut : GoodIn wsX6_keptBack wsX1_isShut := goodIn_r _ [25, 26, 27, 172, 173, 174, 175] (by decide +kernel) (by decide +kernel)
set_option maxRecDepth 20000 in
theorem gX6_keptBack_X1_isShut : GoodIn wsX6_keptBack (wsV RX6 79 RX1 yX1_isShut wsX1_isShut) := goodIn_app (goodIn_of _ (by decide +kernel)) ggX6_keptBack_X1_isShut
set_option maxRecDepth 20000 in
theorem ggX6_keptBack_X2_take : GoodIn wsX6_keptBack wsX2_take := goodIn_r _ [32, 33, 34, 35, 36, 37, 38, 39, 40, 41, 42, 43, 44, 45, 46, 24, 47, 48, 49, 50, 26, 27, 51, 52, 53, 54, 55, 56, 57, 58, 59, 160, 161, 162, 163, 164, 165, 166, 167, 168, 169, 170, 171, 172, 173, 174, 175, 176, 177, 178, 179, 180] (by decide +kernel) (by decide +kernel)
set_option maxRecDepth 20000 in
theorem gX6_keptBack_X2_take : GoodIn wsX6_keptBack (wsV RX6 237 RX2 yX2_take wsX2_take) := goodIn_app (goodIn_of _ (by decide +kernel)) ggX6_keptBack_X2_take
set_option maxRecDepth 20000 in
theorem ggX6_keptBack_X2_passMonths : GoodIn wsX6_keptBack wsX2_passMonths := goodIn_r _ [63, 64, 65, 66, 31, 67, 35, 34, 68, 69, 70, 71, 72, 73, 74, 75, 76, 41, 77, 78, 79, 80, 81, 54, 82, 83, 84, 85, 86, 87, 33, 88, 89, 90, 91, 92, 93, 94, 95, 96, 43, 97, 98, 99, 24, 100, 48, 101, 102, 103, 104, 49, 105, 106, 107, 108, 36, 42, 109, 110, 111, 112, 113, 114, 115, 116, 117, 118, 119, 120, 121, 122, 123, 124, 125, 126, 127, 128, 129, 130, 131, 132, 133, 134, 135, 136, 137, 138, 139, 140, 141, 142, 143, 14, 6, 15, 144, 22, 23, 25, 26, 27, 160, 161, 162, 163, 164, 165, 166, 167, 168, 169, 170, 171, 176, 177, 178, 179, 180, 172, 173, 174, 175] (by decide +kernel) (by decide +kernel)
set_option maxRecDepth 20000 in
theorem gX6_keptBack_X2_passMonths : GoodIn wsX6_keptBack (wsV RX6 241 RX2 yX2_passMonths wsX2_passMonths) := goodIn_app (goodIn_of _ (by decide +kernel)) ggX6_keptBack_X2_passMonths
set_option maxRecDepth 20000 in
theorem ggX6_keptBack_X1_shut : GoodIn wsX6_keptBack wsX1_shut := goodIn_r _ [148, 26, 27, 172, 173, 174, 175] (by decide +kernel) (by decide +kernel)
set_option maxRecDepth 20000 in
theorem gX6_keptBack_X1_shut : GoodIn wsX6_keptBack (wsV RX6 83 RX1 yX1_shut wsX1_shut) := goodIn_app (goodIn_of _ (by decide +kernel)) ggX6_keptBack_X1_shut
theorem dX6_keptBack_0 : decode cX6_keptBack 0 = .ok (.iload_n 1, 1) := by decide +kernel
theorem dX6_keptBack_1 : decode cX6_keptBack 1 = .ok (.iload_n 2, 1) := by decide +kernel
theorem dX6_keptBack_2 : decode cX6_keptBack 2 = .ok (.invokestatic 75, 3) := by decide +kernel
theorem dX6_keptBack_5 : decode cX6_keptBack 5 = .ok (.iload_n 3, 1) := by decide +kernel
theorem dX6_keptBack_6 : decode cX6_keptBack 6 = .ok (.iconst 1, 1) := by decide +kernel
theorem dX6_keptBack_7 : decode cX6_keptBack 7 = .ok (.bipush 6, 2) := by decide +kernel
theorem dX6_keptBack_9 : decode cX6_keptBack 9 = .ok (.invokestatic 55, 3) := by decide +kernel
theorem dX6_keptBack_12 : decode cX6_keptBack 12 = .ok (.aload_n 0, 1) := by decide +kernel
theorem dX6_keptBack_13 : decode cX6_keptBack 13 = .ok (.getfield 10, 3) := by decide +kernel
theorem dX6_keptBack_16 : decode cX6_keptBack 16 = .ok (.getfield 59, 3) := by decide +kernel
theorem dX6_keptBack_19 : decode cX6_keptBack 19 = .ok (.iload_n 1, 1) := by decide +kernel
theorem dX6_keptBack_20 : decode cX6_keptBack 20 = .ok (.aaload, 1) := by decide +kernel
theorem dX6_keptBack_21 : decode cX6_keptBack 21 = .ok (.iload_n 2, 1) := by decide +kernel
theorem dX6_keptBack_22 : decode cX6_keptBack 22 = .ok (.invokevirtual 79, 3) := by decide +kernel
theorem dX6_keptBack_25 : decode cX6_keptBack 25 = .ok (.ifCond .ne 5, 3) := by decide +kernel
theorem dX6_keptBack_28 : decode cX6_keptBack 28 = .ok (.iconst 0, 1) := by decide +kernel
theorem dX6_keptBack_29 : decode cX6_keptBack 29 = .ok (.ireturn, 1) := by decide +kernel
theorem dX6_keptBack_30 : decode cX6_keptBack 30 = .ok (.aload_n 0, 1) := by decide +kernel
theorem dX6_keptBack_31 : decode cX6_keptBack 31 = .ok (.getfield 16, 3) := by decide +kernel
theorem dX6_keptBack_34 : decode cX6_keptBack 34 = .ok (.aload_n 0, 1) := by decide +kernel
theorem dX6_keptBack_35 : decode cX6_keptBack 35 = .ok (.getfield 10, 3) := by decide +kernel
theorem dX6_keptBack_38 : decode cX6_keptBack 38 = .ok (.invokevirtual 237, 3) := by decide +kernel
theorem dX6_keptBack_41 : decode cX6_keptBack 41 = .ok (.aload_n 0, 1) := by decide +kernel
theorem dX6_keptBack_42 : decode cX6_keptBack 42 = .ok (.getfield 16, 3) := by decide +kernel
theorem dX6_keptBack_45 : decode cX6_keptBack 45 = .ok (.iload_n 3, 1) := by decide +kernel
theorem dX6_keptBack_46 : decode cX6_keptBack 46 = .ok (.invokevirtual 241, 3) := by decide +kernel
theorem dX6_keptBack_49 : decode cX6_keptBack 49 = .ok (.istore 4, 2) := by decide +kernel
theorem dX6_keptBack_51 : decode cX6_keptBack 51 = .ok (.aload_n 0, 1) := by decide +kernel
theorem dX6_keptBack_52 : decode cX6_keptBack 52 = .ok (.getfield 16, 3) := by decide +kernel
theorem dX6_keptBack_55 : decode cX6_keptBack 55 = .ok (.aload_n 0, 1) := by decide +kernel
theorem dX6_keptBack_56 : decode cX6_keptBack 56 = .ok (.getfield 10, 3) := by decide +kernel
theorem dX6_keptBack_59 : decode cX6_keptBack 59 = .ok (.invokevirtual 237, 3) := by decide +kernel
theorem dX6_keptBack_62 : decode cX6_keptBack 62 = .ok (.aload_n 0, 1) := by decide +kernel
theorem dX6_keptBack_63 : decode cX6_keptBack 63 = .ok (.getfield 16, 3) := by decide +kernel
theorem dX6_keptBack_66 : decode cX6_keptBack 66 = .ok (.getfield 59, 3) := by decide +kernel
theorem dX6_keptBack_69 : decode cX6_keptBack 69 = .ok (.iload_n 1, 1) := by decide +kernel
theorem dX6_keptBack_70 : decode cX6_keptBack 70 = .ok (.aaload, 1) := by decide +kernel
theorem dX6_keptBack_71 : decode cX6_keptBack 71 = .ok (.iload_n 2, 1) := by decide +kernel
theorem dX6_keptBack_72 : decode cX6_keptBack 72 = .ok (.iconst 0, 1) := by decide +kernel
theorem dX6_keptBack_73 : decode cX6_keptBack 73 = .ok (.invokevirtual 83, 3) := by decide +kernel
theorem dX6_keptBack_76 : decode cX6_keptBack 76 = .ok (.aload_n 0, 1) := by decide +kernel
theorem dX6_keptBack_77 : decode cX6_keptBack 77 = .ok (.getfield 16, 3) := by decide +kernel
theorem dX6_keptBack_80 : decode cX6_keptBack 80 = .ok (.iload_n 3, 1) := by decide +kernel
theorem dX6_keptBack_81 : decode cX6_keptBack 81 = .ok (.invokevirtual 241, 3) := by decide +kernel
theorem dX6_keptBack_84 : decode cX6_keptBack 84 = .ok (.iload 4, 2) := by decide +kernel
theorem dX6_keptBack_86 : decode cX6_keptBack 86 = .ok (.isub, 1) := by decide +kernel
theorem dX6_keptBack_87 : decode cX6_keptBack 87 = .ok (.ireturn, 1) := by decide +kernel
set_option maxRecDepth 20000 in
theorem ggX6_mayLift_X6_needIndex : GoodIn wsX6_mayLift wsX6_needIndex := goodIn_ca (goodIn_r _ [13, 14, 15] (by decide +kernel) (by decide +kernel)) (goodIn_sub (fun _ h => List.mem_cons_of_mem _ (List.mem_append_right _ h)) (by decide +kernel))
set_option maxRecDepth 20000 in
theorem gX6_mayLift_X6_needIndex : GoodIn wsX6_mayLift (va_wsS RX6 51 yX6_needIndex wsX6_needIndex) := goodIn_app (goodIn_of _ (by decide +kernel)) ggX6_mayLift_X6_needIndex
theorem dX6_mayLift_0 : decode cX6_mayLift 0 = .ok (.iload_n 1, 1) := by decide +kernel
theorem dX6_mayLift_1 : decode cX6_mayLift 1 = .ok (.iconst 3, 1) := by decide +kernel
theorem dX6_mayLift_2 : decode cX6_mayLift 2 = .ok (.invokestatic 51, 3) := by decide +kernel
theorem dX6_mayLift_5 : decode cX6_mayLift 5 = .ok (.aload_n 0, 1) := by decide +kernel
theorem dX6_mayLift_6 : decode cX6_mayLift 6 = .ok (.getfield 27, 3) := by decide +kernel
theorem dX6_mayLift_9 : decode cX6_mayLift 9 = .ok (.iload_n 1, 1) := by decide +kernel
theorem dX6_mayLift_10 : decode cX6_mayLift 10 = .ok (.aaload, 1) := by decide +kernel
theorem dX6_mayLift_11 : decode cX6_mayLift 11 = .ok (.astore_n 2, 1) := by decide +kernel
theorem dX6_mayLift_12 : decode cX6_mayLift 12 = .ok (.aload_n 0, 1) := by decide +kernel
theorem dX6_mayLift_13 : decode cX6_mayLift 13 = .ok (.getfield 10, 3) := by decide +kernel
theorem dX6_mayLift_16 : decode cX6_mayLift 16 = .ok (.getfield 134, 3) := by decide +kernel
theorem dX6_mayLift_19 : decode cX6_mayLift 19 = .ok (.aload_n 2, 1) := by decide +kernel
theorem dX6_mayLift_20 : decode cX6_mayLift 20 = .ok (.getfield 217, 3) := by decide +kernel
theorem dX6_mayLift_23 : decode cX6_mayLift 23 = .ok (.aload_n 2, 1) := by decide +kernel
theorem dX6_mayLift_24 : decode cX6_mayLift 24 = .ok (.getfield 173, 3) := by decide +kernel
theorem dX6_mayLift_27 : decode cX6_mayLift 27 = .ok (.isub, 1) := by decide +kernel
theorem dX6_mayLift_28 : decode cX6_mayLift 28 = .ok (.bipush 20, 2) := by decide +kernel
theorem dX6_mayLift_30 : decode cX6_mayLift 30 = .ok (.iadd, 1) := by decide +kernel
theorem dX6_mayLift_31 : decode cX6_mayLift 31 = .ok (.invokestatic 167, 3) := by decide +kernel
theorem dX6_mayLift_34 : decode cX6_mayLift 34 = .ok (.ireturn, 1) := by decide +kernel
set_option maxRecDepth 20000 in
theorem ggX6_digest_X6_many : GoodIn wsX6_digest wsX6_many := goodIn_ca (goodIn_r _ [11, 12, 3, 4, 13, 14, 15, 16, 17, 18, 19, 20, 21, 10, 22, 23, 24, 25, 26, 27, 28, 29, 30, 31, 32, 33, 34, 35, 36, 37, 38, 39, 40, 41, 42, 236, 237, 238, 239, 240, 241, 242, 243, 244, 245, 246, 247, 248, 249, 250, 251, 252, 253, 254, 255, 256, 257, 258, 264, 265, 266, 267, 268, 269, 270, 271, 272, 273, 274, 275] (by decide +kernel) (by decide +kernel)) (goodIn_sub (fun _ h => List.mem_cons_of_mem _ (List.mem_append_left _ (List.mem_append_left _ (List.mem_append_right _ h)))) (by decide +kernel))
set_option maxRecDepth 20000 in
theorem gX6_digest_X6_many : GoodIn wsX6_digest (wsV RX6 248 RX6 yX6_many wsX6_many) := goodIn_app (goodIn_of _ (by decide +kernel)) ggX6_digest_X6_many
set_option maxRecDepth 20000 in
theorem ggX6_digest_X6_ofCell : GoodIn wsX6_digest wsX6_ofCell := goodIn_ca (goodIn_ca (goodIn_r _ [46, 3, 47, 48, 49, 50, 51, 10, 52, 53, 54, 20, 21, 22, 23, 24, 55, 56, 57, 39, 58, 59, 60, 61, 62, 63, 64, 236, 237, 238, 239, 240, 241, 242, 243, 244, 245, 246, 247, 248, 249, 250, 251, 252, 253, 254, 255, 256, 257, 258, 272, 273, 274, 275] (by decide +kernel) (by decide +kernel)) (goodIn_sub (fun _ h => List.mem_cons_of_mem _ (List.mem_append_left _ (List.mem_append_right _ h))) (by decide +kernel))) (goodIn_sub (fun _ h => List.mem_cons_of_mem _ (List.mem_append_left _ (List.mem_append_left _ (List.mem_append_right _ h)))) (by decide +kernel))
set_option maxRecDepth 20000 in
theorem gX6_digest_X6_ofCell : GoodIn wsX6_digest (wsV RX6 251 RX6 yX6_ofCell wsX6_ofCell) := goodIn_app (goodIn_of _ (by decide +kernel)) ggX6_digest_X6_ofCell
set_option maxRecDepth 20000 in
theorem ggX6_digest_X6_ofWell : GoodIn wsX6_digest wsX6_ofWell := goodIn_ca (goodIn_ca (goodIn_r _ [68, 3, 4, 69, 5, 70, 71, 72, 73, 6, 74, 75, 76, 77, 78, 50, 51, 10, 52, 53, 54, 20, 21, 22, 23, 24, 236, 237, 238, 239, 240, 241, 242, 243, 244, 245, 246, 247, 248, 249, 250, 251, 252, 253, 254, 255, 256, 257, 258, 276, 277, 278, 279, 280, 259, 260, 261, 262, 263] (by decide +kernel) (by decide +kernel)) (goodIn_sub (fun _ h => List.mem_cons_of_mem _ (List.mem_append_left _ (List.mem_append_right _ h))) (by decide +kernel))) (goodIn_sub (fun _ h => List.mem_cons_of_mem _ (List.mem_append_left _ (List.mem_append_left _ (List.mem_append_right _ h)))) (by decide +kernel))
set_option maxRecDepth 20000 in
theorem gX6_digest_X6_ofWell : GoodIn wsX6_digest (wsV RX6 254 RX6 yX6_ofWell wsX6_ofWell) := goodIn_app (goodIn_of _ (by decide +kernel)) ggX6_digest_X6_ofWell
set_option maxRecDepth 20000 in
theorem ggX6_digest_X6_bestChoke : GoodIn wsX6_digest wsX6_bestChoke := goodIn_ca (goodIn_ca (goodIn_ca (goodIn_r _ [82, 3, 4, 83, 69, 72, 50, 51, 10, 52, 53, 54, 20, 21, 22, 23, 24, 84, 85, 86, 87, 88, 89, 5, 6, 90, 91, 92, 28, 93, 30, 94, 95, 96, 97, 98, 99, 100, 101, 102, 103, 104, 105, 106, 39, 107, 59, 64, 108, 41, 42, 109, 110, 111, 112, 113, 114, 115, 116, 117, 118, 119, 120, 121, 122, 123, 124, 125, 126, 127, 128, 129, 130, 131, 132, 133, 134, 135, 136, 137, 138, 139, 140, 141, 142, 143, 144, 145, 146, 147, 148, 149, 150, 151, 152, 153, 154, 155, 56, 57, 58, 60, 61, 62, 63, 156, 157, 158, 159, 160, 161, 162, 163, 164, 165, 166, 167, 168, 169, 170, 171, 172, 173, 174, 175, 176, 177, 178, 179, 180, 181, 182, 183, 184, 185, 31, 186, 187, 188, 189, 190, 191, 192, 193, 194, 195, 36, 37, 38, 40, 236, 237, 238, 239, 240, 241, 242, 243, 244, 245, 246, 247, 248, 249, 250, 251, 252, 253, 254, 255, 256, 257, 258, 276, 277, 278, 279, 280, 259, 260, 261, 262, 263, 272, 273, 274, 275] (by decide +kernel) (by decide +kernel)) (goodIn_sub (fun _ h => List.mem_cons_of_mem _ (List.mem_append_left _ (List.mem_append_right _ h))) (by decide +kernel))) (goodIn_sub (fun _ h => List.mem_cons_of_mem _ (List.mem_append_left _ (List.mem_append_left _ (List.mem_append_right _ h)))) (by decide +kernel))) (goodIn_sub (fun _ h => List.mem_cons_of_mem _ (List.mem_append_right _ h)) (by decide +kernel))
set_option maxRecDepth 20000 in
theorem gX6_digest_X6_bestChoke : GoodIn wsX6_digest (wsV RX6 257 RX6 yX6_bestChoke wsX6_bestChoke) := goodIn_app (goodIn_of _ (by decide +kernel)) ggX6_digest_X6_bestChoke
set_option maxRecDepth 20000 in
theorem ggX6_digest_X6_ofPartner : GoodIn wsX6_digest wsX6_ofPartner := goodIn_ca (goodIn_ca (goodIn_r _ [199, 200, 201, 202, 203, 204, 50, 51, 10, 52, 53, 54, 20, 21, 22, 23, 24, 236, 237, 238, 239, 240, 241, 242, 243, 244, 245, 246, 281, 282, 283, 284] (by decide +kernel) (by decide +kernel)) (goodIn_sub (fun _ h => List.mem_cons_of_mem _ (List.mem_append_left _ (List.mem_append_right _ h))) (by decide +kernel))) (goodIn_sub (fun _ h => List.mem_cons_of_mem _ (List.mem_append_left _ (List.mem_append_left _ (List.mem_append_right _ h)))) (by decide +kernel))
set_option maxRecDepth 20000 in
theorem gX6_digest_X6_ofPartner : GoodIn wsX6_digest (wsV RX6 260 RX6 yX6_ofPartner wsX6_ofPartner) := goodIn_app (goodIn_of _ (by decide +kernel)) ggX6_digest_X6_ofPartner
set_option maxRecDepth 20000 in
theorem ggX6_digest_X6_mayLift : GoodIn wsX6_digest wsX6_mayLift := goodIn_ca (goodIn_r _ [208, 200, 3, 14, 202, 203, 209, 152, 149, 153, 50, 51, 10, 52, 53, 54, 236, 237, 238, 239, 240, 241, 242, 243, 244, 245, 246, 247, 248, 249, 250, 251, 252, 253, 254, 255, 256, 257, 258, 281, 282, 283, 284] (by decide +kernel) (by decide +kernel)) (goodIn_sub (fun _ h => List.mem_cons_of_mem _ (List.mem_append_left _ (List.mem_append_right _ h))) (by decide +kernel))
set_option maxRecDepth 20000 in
theorem gX6_digest_X6_mayLift : GoodIn wsX6_digest (wsV RX6 163 RX6 yX6_mayLift wsX6_mayLift) := goodIn_app (goodIn_of _ (by decide +kernel)) ggX6_digest_X6_mayLift
set_option maxRecDepth 20000 in
theorem ggX6_digest_X6_booked : GoodIn wsX6_digest wsX6_booked := goodIn_ca (goodIn_r _ [213, 18, 214, 215, 216, 217, 218, 20, 21, 10, 22, 23, 24, 236, 237, 238, 239, 240, 241, 242, 243, 244, 245, 246, 264, 265, 266, 267, 268, 269, 270, 271] (by decide +kernel) (by decide +kernel)) (goodIn_sub (fun _ h => List.mem_cons_of_mem _ (List.mem_append_left _ (List.mem_append_left _ (List.mem_append_right _ h)))) (by decide +kernel))
set_option maxRecDepth 20000 in
theorem gX6_digest_X6_booked : GoodIn wsX6_digest (wsV RX6 263 RX6 yX6_booked wsX6_booked) := goodIn_app (goodIn_of _ (by decide +kernel)) ggX6_digest_X6_booked
set_option maxRecDepth 20000 in
theorem ggX6_digest_X6_wouldGive : GoodIn wsX6_digest wsX6_wouldGive := goodIn_ca (goodIn_r _ [222, 83, 3, 20, 21, 10, 22, 23, 24, 90, 91, 92, 28, 93, 30, 94, 95, 96, 97, 98, 99, 100, 101, 102, 103, 104, 105, 106, 39, 107, 59, 64, 108, 41, 42, 109, 110, 111, 112, 113, 114, 115, 116, 117, 118, 119, 120, 121, 122, 123, 124, 125, 126, 127, 128, 129, 130, 131, 132, 133, 134, 135, 136, 137, 138, 139, 140, 141, 142, 143, 144, 145, 146, 147, 148, 149, 150, 151, 152, 153, 154, 155, 56, 57, 58, 60, 61, 62, 63, 156, 157, 158, 159, 160, 161, 162, 163, 164, 165, 166, 167, 168, 169, 170, 171, 172, 173, 174, 175, 176, 177, 178, 179, 180, 181, 182, 183, 184, 185, 31, 186, 187, 188, 189, 190, 191, 192, 193, 194, 195, 36, 37, 38, 40, 236, 237, 238, 239, 240, 241, 242, 243, 244, 245, 246, 247, 248, 249, 250, 251, 252, 253, 254, 255, 256, 257, 258, 272, 273, 274, 275, 276, 277, 278, 279, 280] (by decide +kernel) (by decide +kernel)) (goodIn_sub (fun _ h => List.mem_cons_of_mem _ (List.mem_append_left _ (List.mem_append_left _ (List.mem_append_right _ h)))) (by decide +kernel))
set_option maxRecDepth 20000 in
theorem gX6_digest_X6_wouldGive : GoodIn wsX6_digest (wsV RX6 266 RX6 yX6_wouldGive wsX6_wouldGive) := goodIn_app (goodIn_of _ (by decide +kernel)) ggX6_digest_X6_wouldGive
set_option maxRecDepth 20000 in
theorem ggX6_digest_X6_keptBack : GoodIn wsX6_digest wsX6_keptBack := goodIn_ca (goodIn_ca (goodIn_r _ [226, 3, 47, 83, 227, 228, 10, 229, 53, 54, 50, 51, 52, 230, 194, 195, 20, 21, 22, 23, 24, 231, 37, 38, 39, 40, 41, 42, 90, 91, 92, 28, 93, 30, 94, 95, 96, 97, 98, 99, 100, 101, 102, 103, 104, 105, 106, 107, 59, 64, 108, 109, 110, 111, 112, 113, 114, 115, 116, 117, 118, 119, 120, 121, 122, 123, 124, 125, 126, 127, 128, 129, 130, 131, 132, 133, 134, 135, 136, 137, 138, 139, 140, 141, 142, 143, 144, 145, 146, 147, 148, 149, 150, 151, 152, 153, 154, 155, 56, 57, 58, 60, 61, 62, 63, 156, 157, 158, 159, 160, 161, 162, 163, 164, 165, 166, 167, 168, 169, 170, 171, 172, 173, 174, 175, 176, 177, 178, 179, 180, 181, 182, 183, 184, 185, 31, 186, 187, 188, 189, 190, 191, 192, 193, 36, 232, 233, 234, 235, 236, 237, 238, 239, 240, 241, 242, 243, 244, 245, 246, 247, 248, 249, 250, 251, 252, 253, 254, 255, 256, 257, 258, 272, 273, 274, 275, 276, 277, 278, 279, 280] (by decide +kernel) (by decide +kernel)) (goodIn_sub (fun _ h => List.mem_cons_of_mem _ (List.mem_append_left _ (List.mem_append_right _ h))) (by decide +kernel))) (goodIn_sub (fun _ h => List.mem_cons_of_mem _ (List.mem_append_left _ (List.mem_append_left _ (List.mem_append_right _ h)))) (by decide +kernel))
set_option maxRecDepth 20000 in
theorem gX6_digest_X6_keptBack : GoodIn wsX6_digest (wsV RX6 269 RX6 yX6_keptBack wsX6_keptBack) := goodIn_app (goodIn_of _ (by decide +kernel)) ggX6_digest_X6_keptBack
theorem dX6_digest_0 : decode cX6_digest 0 = .ok (.ldc2_w 244, 3) := by decide +kernel
theorem dX6_digest_3 : decode cX6_digest 3 = .ok (.lstore_n 1, 1) := by decide +kernel
theorem dX6_digest_4 : decode cX6_digest 4 = .ok (.iconst 0, 1) := by decide +kernel
theorem dX6_digest_5 : decode cX6_digest 5 = .ok (.istore_n 3, 1) := by decide +kernel
theorem dX6_digest_6 : decode cX6_digest 6 = .ok (.iload_n 3, 1) := by decide +kernel
theorem dX6_digest_7 : decode cX6_digest 7 = .ok (.bipush 14, 2) := by decide +kernel
theorem dX6_digest_9 : decode cX6_digest 9 = .ok (.if_icmp .gt 22, 3) := by decide +kernel
theorem dX6_digest_12 : decode cX6_digest 12 = .ok (.lload_n 1, 1) := by decide +kernel
theorem dX6_digest_13 : decode cX6_digest 13 = .ok (.ldc2_w 246, 3) := by decide +kernel
theorem dX6_digest_16 : decode cX6_digest 16 = .ok (.lmul, 1) := by decide +kernel
theorem dX6_digest_17 : decode cX6_digest 17 = .ok (.aload_n 0, 1) := by decide +kernel
theorem dX6_digest_18 : decode cX6_digest 18 = .ok (.iload_n 3, 1) := by decide +kernel
theorem dX6_digest_19 : decode cX6_digest 19 = .ok (.invokevirtual 248, 3) := by decide +kernel
theorem dX6_digest_22 : decode cX6_digest 22 = .ok (.i2l, 1) := by decide +kernel
theorem dX6_digest_23 : decode cX6_digest 23 = .ok (.ladd, 1) := by decide +kernel
theorem dX6_digest_24 : decode cX6_digest 24 = .ok (.lstore_n 1, 1) := by decide +kernel
theorem dX6_digest_25 : decode cX6_digest 25 = .ok (.iinc 3 1, 3) := by decide +kernel
theorem dX6_digest_28 : decode cX6_digest 28 = .ok (.goto (-22), 3) := by decide +kernel
theorem dX6_digest_31 : decode cX6_digest 31 = .ok (.iconst 0, 1) := by decide +kernel
theorem dX6_digest_32 : decode cX6_digest 32 = .ok (.istore_n 3, 1) := by decide +kernel
theorem dX6_digest_33 : decode cX6_digest 33 = .ok (.iload_n 3, 1) := by decide +kernel
theorem dX6_digest_34 : decode cX6_digest 34 = .ok (.bipush 16, 2) := by decide +kernel
theorem dX6_digest_36 : decode cX6_digest 36 = .ok (.if_icmp .ge 39, 3) := by decide +kernel
theorem dX6_digest_39 : decode cX6_digest 39 = .ok (.iconst 0, 1) := by decide +kernel
theorem dX6_digest_40 : decode cX6_digest 40 = .ok (.istore 4, 2) := by decide +kernel
theorem dX6_digest_42 : decode cX6_digest 42 = .ok (.iload 4, 2) := by decide +kernel
theorem dX6_digest_44 : decode cX6_digest 44 = .ok (.iconst 4, 1) := by decide +kernel
theorem dX6_digest_45 : decode cX6_digest 45 = .ok (.if_icmp .gt 24, 3) := by decide +kernel
theorem dX6_digest_48 : decode cX6_digest 48 = .ok (.lload_n 1, 1) := by decide +kernel
theorem dX6_digest_49 : decode cX6_digest 49 = .ok (.ldc2_w 246, 3) := by decide +kernel
theorem dX6_digest_52 : decode cX6_digest 52 = .ok (.lmul, 1) := by decide +kernel
theorem dX6_digest_53 : decode cX6_digest 53 = .ok (.aload_n 0, 1) := by decide +kernel
theorem dX6_digest_54 : decode cX6_digest 54 = .ok (.iload_n 3, 1) := by decide +kernel
theorem dX6_digest_55 : decode cX6_digest 55 = .ok (.iload 4, 2) := by decide +kernel
theorem dX6_digest_57 : decode cX6_digest 57 = .ok (.invokevirtual 251, 3) := by decide +kernel
theorem dX6_digest_60 : decode cX6_digest 60 = .ok (.i2l, 1) := by decide +kernel
theorem dX6_digest_61 : decode cX6_digest 61 = .ok (.ladd, 1) := by decide +kernel
theorem dX6_digest_62 : decode cX6_digest 62 = .ok (.lstore_n 1, 1) := by decide +kernel
theorem dX6_digest_63 : decode cX6_digest 63 = .ok (.iinc 4 1, 3) := by decide +kernel
theorem dX6_digest_66 : decode cX6_digest 66 = .ok (.goto (-24), 3) := by decide +kernel
theorem dX6_digest_69 : decode cX6_digest 69 = .ok (.iinc 3 1, 3) := by decide +kernel
theorem dX6_digest_72 : decode cX6_digest 72 = .ok (.goto (-39), 3) := by decide +kernel
theorem dX6_digest_75 : decode cX6_digest 75 = .ok (.iconst 0, 1) := by decide +kernel
theorem dX6_digest_76 : decode cX6_digest 76 = .ok (.istore_n 3, 1) := by decide +kernel
theorem dX6_digest_77 : decode cX6_digest 77 = .ok (.iload_n 3, 1) := by decide +kernel
theorem dX6_digest_78 : decode cX6_digest 78 = .ok (.aload_n 0, 1) := by decide +kernel
theorem dX6_digest_79 : decode cX6_digest 79 = .ok (.getfield 10, 3) := by decide +kernel
theorem dX6_digest_82 : decode cX6_digest 82 = .ok (.getfield 87, 3) := by decide +kernel
theorem dX6_digest_85 : decode cX6_digest 85 = .ok (.if_icmp .ge 66, 3) := by decide +kernel
theorem dX6_digest_88 : decode cX6_digest 88 = .ok (.iconst 0, 1) := by decide +kernel
theorem dX6_digest_89 : decode cX6_digest 89 = .ok (.istore 4, 2) := by decide +kernel
theorem dX6_digest_91 : decode cX6_digest 91 = .ok (.iload 4, 2) := by decide +kernel
theorem dX6_digest_93 : decode cX6_digest 93 = .ok (.bipush 13, 2) := by decide +kernel
theorem dX6_digest_95 : decode cX6_digest 95 = .ok (.if_icmp .gt 24, 3) := by decide +kernel
theorem dX6_digest_98 : decode cX6_digest 98 = .ok (.lload_n 1, 1) := by decide +kernel
theorem dX6_digest_99 : decode cX6_digest 99 = .ok (.ldc2_w 246, 3) := by decide +kernel
theorem dX6_digest_102 : decode cX6_digest 102 = .ok (.lmul, 1) := by decide +kernel
theorem dX6_digest_103 : decode cX6_digest 103 = .ok (.aload_n 0, 1) := by decide +kernel
theorem dX6_digest_104 : decode cX6_digest 104 = .ok (.iload_n 3, 1) := by decide +kernel
theorem dX6_digest_105 : decode cX6_digest 105 = .ok (.iload 4, 2) := by decide +kernel
