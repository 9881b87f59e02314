theorem dX8_book_81 : decode cX8_book 81 = .ok (.iload_n 3, 1) := by decide +kernel
theorem dX8_book_82 : decode cX8_book 82 = .ok (.isub, 1) := by decide +kernel
theorem dX8_book_83 : decode cX8_book 83 = .ok (.iastore, 1) := by decide +kernel
theorem dX8_book_84 : decode cX8_book 84 = .ok (.dup, 1) := by decide +kernel
theorem dX8_book_85 : decode cX8_book 85 = .ok (.iconst 4, 1) := by decide +kernel
theorem dX8_book_86 : decode cX8_book 86 = .ok (.aload_n 0, 1) := by decide +kernel
theorem dX8_book_87 : decode cX8_book 87 = .ok (.getfield 10, 3) := by decide +kernel
theorem dX8_book_90 : decode cX8_book 90 = .ok (.getfield 124, 3) := by decide +kernel
theorem dX8_book_93 : decode cX8_book 93 = .ok (.iastore, 1) := by decide +kernel
theorem dX8_book_94 : decode cX8_book 94 = .ok (.astore 4, 2) := by decide +kernel
theorem dX8_book_96 : decode cX8_book 96 = .ok (.aload 4, 2) := by decide +kernel
theorem dX8_book_98 : decode cX8_book 98 = .ok (.iconst 0, 1) := by decide +kernel
theorem dX8_book_99 : decode cX8_book 99 = .ok (.aload_n 0, 1) := by decide +kernel
theorem dX8_book_100 : decode cX8_book 100 = .ok (.getfield 22, 3) := by decide +kernel
theorem dX8_book_103 : decode cX8_book 103 = .ok (.iconst 0, 1) := by decide +kernel
theorem dX8_book_104 : decode cX8_book 104 = .ok (.iconst 5, 1) := by decide +kernel
theorem dX8_book_105 : decode cX8_book 105 = .ok (.invokestatic 127, 3) := by decide +kernel
theorem dX8_book_108 : decode cX8_book 108 = .ok (.aload_n 0, 1) := by decide +kernel
theorem dX8_book_109 : decode cX8_book 109 = .ok (.dup, 1) := by decide +kernel
theorem dX8_book_110 : decode cX8_book 110 = .ok (.getfield 112, 3) := by decide +kernel
theorem dX8_book_113 : decode cX8_book 113 = .ok (.iconst 1, 1) := by decide +kernel
theorem dX8_book_114 : decode cX8_book 114 = .ok (.iadd, 1) := by decide +kernel
theorem dX8_book_115 : decode cX8_book 115 = .ok (.putfield 112, 3) := by decide +kernel
theorem dX8_book_118 : decode cX8_book 118 = .ok (.aload_n 0, 1) := by decide +kernel
theorem dX8_book_119 : decode cX8_book 119 = .ok (.aload_n 0, 1) := by decide +kernel
theorem dX8_book_120 : decode cX8_book 120 = .ok (.getfield 10, 3) := by decide +kernel
theorem dX8_book_123 : decode cX8_book 123 = .ok (.getfield 118, 3) := by decide +kernel
theorem dX8_book_126 : decode cX8_book 126 = .ok (.iconst 0, 1) := by decide +kernel
theorem dX8_book_127 : decode cX8_book 127 = .ok (.iaload, 1) := by decide +kernel
theorem dX8_book_128 : decode cX8_book 128 = .ok (.putfield 115, 3) := by decide +kernel
theorem dX8_book_131 : decode cX8_book 131 = .ok (.aload_n 0, 1) := by decide +kernel
theorem dX8_book_132 : decode cX8_book 132 = .ok (.aload_n 0, 1) := by decide +kernel
theorem dX8_book_133 : decode cX8_book 133 = .ok (.getfield 10, 3) := by decide +kernel
theorem dX8_book_136 : decode cX8_book 136 = .ok (.getfield 40, 3) := by decide +kernel
theorem dX8_book_139 : decode cX8_book 139 = .ok (.putfield 121, 3) := by decide +kernel
theorem dX8_book_142 : decode cX8_book 142 = .ok (.iload_n 1, 1) := by decide +kernel
theorem dX8_book_143 : decode cX8_book 143 = .ok (.ireturn, 1) := by decide +kernel
set_option maxRecDepth 20000 in
theorem ggX8_cellNow_X7_pressure : GoodIn wsX8_cellNow wsX7_pressure := goodIn_r _ [8, 9, 10, 11, 12, 7, 13, 14, 23, 24, 25, 26, 27, 28, 29, 30, 31, 32, 33, 34, 35, 36] (by decide +kernel) (by decide +kernel)
set_option maxRecDepth 20000 in
theorem gX8_cellNow_X7_pressure : GoodIn wsX8_cellNow (wsV RX8 53 RX7 yX7_pressure wsX7_pressure) := goodIn_app (goodIn_of _ (by decide +kernel)) ggX8_cellNow_X7_pressure
theorem dX8_cellNow_0 : decode cX8_cellNow 0 = .ok (.iload_n 2, 1) := by decide +kernel
theorem dX8_cellNow_1 : decode cX8_cellNow 1 = .ok (.ifCond .ne 15, 3) := by decide +kernel
theorem dX8_cellNow_4 : decode cX8_cellNow 4 = .ok (.aload_n 0, 1) := by decide +kernel
theorem dX8_cellNow_5 : decode cX8_cellNow 5 = .ok (.getfield 10, 3) := by decide +kernel
theorem dX8_cellNow_8 : decode cX8_cellNow 8 = .ok (.getfield 47, 3) := by decide +kernel
theorem dX8_cellNow_11 : decode cX8_cellNow 11 = .ok (.iload_n 1, 1) := by decide +kernel
theorem dX8_cellNow_12 : decode cX8_cellNow 12 = .ok (.iaload, 1) := by decide +kernel
theorem dX8_cellNow_13 : decode cX8_cellNow 13 = .ok (.goto 34, 3) := by decide +kernel
theorem dX8_cellNow_16 : decode cX8_cellNow 16 = .ok (.iload_n 2, 1) := by decide +kernel
theorem dX8_cellNow_17 : decode cX8_cellNow 17 = .ok (.iconst 4, 1) := by decide +kernel
theorem dX8_cellNow_18 : decode cX8_cellNow 18 = .ok (.if_icmp .ne 14, 3) := by decide +kernel
theorem dX8_cellNow_21 : decode cX8_cellNow 21 = .ok (.aload_n 0, 1) := by decide +kernel
theorem dX8_cellNow_22 : decode cX8_cellNow 22 = .ok (.getfield 10, 3) := by decide +kernel
theorem dX8_cellNow_25 : decode cX8_cellNow 25 = .ok (.iload_n 1, 1) := by decide +kernel
theorem dX8_cellNow_26 : decode cX8_cellNow 26 = .ok (.invokevirtual 53, 3) := by decide +kernel
theorem dX8_cellNow_29 : decode cX8_cellNow 29 = .ok (.goto 18, 3) := by decide +kernel
theorem dX8_cellNow_32 : decode cX8_cellNow 32 = .ok (.aload_n 0, 1) := by decide +kernel
theorem dX8_cellNow_33 : decode cX8_cellNow 33 = .ok (.getfield 10, 3) := by decide +kernel
theorem dX8_cellNow_36 : decode cX8_cellNow 36 = .ok (.getfield 50, 3) := by decide +kernel
theorem dX8_cellNow_39 : decode cX8_cellNow 39 = .ok (.iconst 3, 1) := by decide +kernel
theorem dX8_cellNow_40 : decode cX8_cellNow 40 = .ok (.iload_n 1, 1) := by decide +kernel
theorem dX8_cellNow_41 : decode cX8_cellNow 41 = .ok (.imul, 1) := by decide +kernel
theorem dX8_cellNow_42 : decode cX8_cellNow 42 = .ok (.iload_n 2, 1) := by decide +kernel
theorem dX8_cellNow_43 : decode cX8_cellNow 43 = .ok (.iadd, 1) := by decide +kernel
theorem dX8_cellNow_44 : decode cX8_cellNow 44 = .ok (.iconst 1, 1) := by decide +kernel
theorem dX8_cellNow_45 : decode cX8_cellNow 45 = .ok (.isub, 1) := by decide +kernel
theorem dX8_cellNow_46 : decode cX8_cellNow 46 = .ok (.iaload, 1) := by decide +kernel
theorem dX8_cellNow_47 : decode cX8_cellNow 47 = .ok (.ireturn, 1) := by decide +kernel
set_option maxRecDepth 20000 in
theorem ggX8_ofCell_X8_isCell : GoodIn wsX8_ofCell wsX8_isCell := goodIn_r _ [5, 6, 7, 4, 8] (by decide +kernel) (by decide +kernel)
set_option maxRecDepth 20000 in
theorem gX8_ofCell_X8_isCell : GoodIn wsX8_ofCell (va_wsS RX8 36 yX8_isCell wsX8_isCell) := goodIn_app (goodIn_of _ (by decide +kernel)) ggX8_ofCell_X8_isCell
set_option maxRecDepth 20000 in
theorem ggX8_ofCell_X8_no : GoodIn wsX8_ofCell wsX8_no := goodIn_r _ [12, 1, 31, 32, 33, 34, 35, 36, 37, 38] (by decide +kernel) (by decide +kernel)
set_option maxRecDepth 20000 in
theorem gX8_ofCell_X8_no : GoodIn wsX8_ofCell (wsV RX8 43 RX8 yX8_no wsX8_no) := goodIn_app (goodIn_of _ (by decide +kernel)) ggX8_ofCell_X8_no
set_option maxRecDepth 20000 in
theorem ggX8_ofCell_X8_in : GoodIn wsX8_ofCell wsX8_in := goodIn_r _ [8] (by decide +kernel) (by decide +kernel)
set_option maxRecDepth 20000 in
theorem gX8_ofCell_X8_in : GoodIn wsX8_ofCell (va_wsS RX8 32 yX8_in wsX8_in) := goodIn_app (goodIn_of _ (by decide +kernel)) ggX8_ofCell_X8_in
set_option maxRecDepth 20000 in
theorem ggX8_ofCell_X8_cellNow : GoodIn wsX8_ofCell wsX8_cellNow := goodIn_r _ [16, 17, 18, 19, 20, 21, 22, 23, 24, 25, 26, 27, 28, 29, 30, 31, 32, 33, 34, 35, 36, 37, 38, 39, 40, 41, 42, 43, 44, 45, 46, 47, 48, 49, 50, 51, 52] (by decide +kernel) (by decide +kernel)
set_option maxRecDepth 20000 in
theorem gX8_ofCell_X8_cellNow : GoodIn wsX8_ofCell (wsV RX8 133 RX8 yX8_cellNow wsX8_cellNow) := goodIn_app (goodIn_of _ (by decide +kernel)) ggX8_ofCell_X8_cellNow
theorem dX8_ofCell_0 : decode cX8_ofCell 0 = .ok (.aload_n 0, 1) := by decide +kernel
theorem dX8_ofCell_1 : decode cX8_ofCell 1 = .ok (.iconst 0, 1) := by decide +kernel
theorem dX8_ofCell_2 : decode cX8_ofCell 2 = .ok (.putfield 29, 3) := by decide +kernel
theorem dX8_ofCell_5 : decode cX8_ofCell 5 = .ok (.iload_n 1, 1) := by decide +kernel
theorem dX8_ofCell_6 : decode cX8_ofCell 6 = .ok (.invokestatic 36, 3) := by decide +kernel
theorem dX8_ofCell_9 : decode cX8_ofCell 9 = .ok (.ifCond .ne 9, 3) := by decide +kernel
theorem dX8_ofCell_12 : decode cX8_ofCell 12 = .ok (.aload_n 0, 1) := by decide +kernel
theorem dX8_ofCell_13 : decode cX8_ofCell 13 = .ok (.iconst 1, 1) := by decide +kernel
theorem dX8_ofCell_14 : decode cX8_ofCell 14 = .ok (.invokevirtual 43, 3) := by decide +kernel
theorem dX8_ofCell_17 : decode cX8_ofCell 17 = .ok (.ireturn, 1) := by decide +kernel
theorem dX8_ofCell_18 : decode cX8_ofCell 18 = .ok (.iload_n 2, 1) := by decide +kernel
theorem dX8_ofCell_19 : decode cX8_ofCell 19 = .ok (.iconst 0, 1) := by decide +kernel
theorem dX8_ofCell_20 : decode cX8_ofCell 20 = .ok (.iconst 4, 1) := by decide +kernel
theorem dX8_ofCell_21 : decode cX8_ofCell 21 = .ok (.invokestatic 32, 3) := by decide +kernel
theorem dX8_ofCell_24 : decode cX8_ofCell 24 = .ok (.ifCond .ne 9, 3) := by decide +kernel
theorem dX8_ofCell_27 : decode cX8_ofCell 27 = .ok (.aload_n 0, 1) := by decide +kernel
theorem dX8_ofCell_28 : decode cX8_ofCell 28 = .ok (.iconst 2, 1) := by decide +kernel
theorem dX8_ofCell_29 : decode cX8_ofCell 29 = .ok (.invokevirtual 43, 3) := by decide +kernel
theorem dX8_ofCell_32 : decode cX8_ofCell 32 = .ok (.ireturn, 1) := by decide +kernel
theorem dX8_ofCell_33 : decode cX8_ofCell 33 = .ok (.aload_n 0, 1) := by decide +kernel
theorem dX8_ofCell_34 : decode cX8_ofCell 34 = .ok (.iload_n 1, 1) := by decide +kernel
theorem dX8_ofCell_35 : decode cX8_ofCell 35 = .ok (.iload_n 2, 1) := by decide +kernel
theorem dX8_ofCell_36 : decode cX8_ofCell 36 = .ok (.invokevirtual 133, 3) := by decide +kernel
theorem dX8_ofCell_39 : decode cX8_ofCell 39 = .ok (.ireturn, 1) := by decide +kernel
set_option maxRecDepth 20000 in
theorem ggX8_ofWell_X8_isWell : GoodIn wsX8_ofWell wsX8_isWell := goodIn_r _ [8, 2, 9, 10, 11, 7, 12, 17, 18, 19, 20, 21, 22, 23, 24, 25, 26, 27, 28, 29, 30, 31, 32, 33, 34, 35, 36, 37, 38] (by decide +kernel) (by decide +kernel)
set_option maxRecDepth 20000 in
theorem gX8_ofWell_X8_isWell : GoodIn wsX8_ofWell (wsV RX8 70 RX8 yX8_isWell wsX8_isWell) := goodIn_app (goodIn_of _ (by decide +kernel)) ggX8_ofWell_X8_isWell
set_option maxRecDepth 20000 in
theorem ggX8_ofWell_X8_no : GoodIn wsX8_ofWell wsX8_no := goodIn_r _ [16, 1, 17, 18, 19, 20, 21, 22, 23, 24] (by decide +kernel) (by decide +kernel)
set_option maxRecDepth 20000 in
theorem gX8_ofWell_X8_no : GoodIn wsX8_ofWell (wsV RX8 43 RX8 yX8_no wsX8_no) := goodIn_app (goodIn_of _ (by decide +kernel)) ggX8_ofWell_X8_no
set_option maxRecDepth 20000 in
theorem ggX8_ofWell_X8_in : GoodIn wsX8_ofWell wsX8_in := goodIn_r _ [12] (by decide +kernel) (by decide +kernel)
set_option maxRecDepth 20000 in
theorem gX8_ofWell_X8_in : GoodIn wsX8_ofWell (va_wsS RX8 32 yX8_in wsX8_in) := goodIn_app (goodIn_of _ (by decide +kernel)) ggX8_ofWell_X8_in
theorem dX8_ofWell_0 : decode cX8_ofWell 0 = .ok (.aload_n 0, 1) := by decide +kernel
theorem dX8_ofWell_1 : decode cX8_ofWell 1 = .ok (.iconst 0, 1) := by decide +kernel
theorem dX8_ofWell_2 : decode cX8_ofWell 2 = .ok (.putfield 29, 3) := by decide +kernel
theorem dX8_ofWell_5 : decode cX8_ofWell 5 = .ok (.aload_n 0, 1) := by decide +kernel
theorem dX8_ofWell_6 : decode cX8_ofWell 6 = .ok (.iload_n 1, 1) := by decide +kernel
theorem dX8_ofWell_7 : decode cX8_ofWell 7 = .ok (.invokevirtual 70, 3) := by decide +kernel
theorem dX8_ofWell_10 : decode cX8_ofWell 10 = .ok (.ifCond .ne 9, 3) := by decide +kernel
theorem dX8_ofWell_13 : decode cX8_ofWell 13 = .ok (.aload_n 0, 1) := by decide +kernel
theorem dX8_ofWell_14 : decode cX8_ofWell 14 = .ok (.iconst 1, 1) := by decide +kernel
theorem dX8_ofWell_15 : decode cX8_ofWell 15 = .ok (.invokevirtual 43, 3) := by decide +kernel
theorem dX8_ofWell_18 : decode cX8_ofWell 18 = .ok (.ireturn, 1) := by decide +kernel
theorem dX8_ofWell_19 : decode cX8_ofWell 19 = .ok (.iload_n 2, 1) := by decide +kernel
theorem dX8_ofWell_20 : decode cX8_ofWell 20 = .ok (.iconst 0, 1) := by decide +kernel
theorem dX8_ofWell_21 : decode cX8_ofWell 21 = .ok (.bipush 13, 2) := by decide +kernel
theorem dX8_ofWell_23 : decode cX8_ofWell 23 = .ok (.invokestatic 32, 3) := by decide +kernel
theorem dX8_ofWell_26 : decode cX8_ofWell 26 = .ok (.ifCond .ne 9, 3) := by decide +kernel
theorem dX8_ofWell_29 : decode cX8_ofWell 29 = .ok (.aload_n 0, 1) := by decide +kernel
theorem dX8_ofWell_30 : decode cX8_ofWell 30 = .ok (.iconst 2, 1) := by decide +kernel
theorem dX8_ofWell_31 : decode cX8_ofWell 31 = .ok (.invokevirtual 43, 3) := by decide +kernel
theorem dX8_ofWell_34 : decode cX8_ofWell 34 = .ok (.ireturn, 1) := by decide +kernel
theorem dX8_ofWell_35 : decode cX8_ofWell 35 = .ok (.aload_n 0, 1) := by decide +kernel
theorem dX8_ofWell_36 : decode cX8_ofWell 36 = .ok (.getfield 10, 3) := by decide +kernel
theorem dX8_ofWell_39 : decode cX8_ofWell 39 = .ok (.getfield 67, 3) := by decide +kernel
theorem dX8_ofWell_42 : decode cX8_ofWell 42 = .ok (.iload_n 1, 1) := by decide +kernel
theorem dX8_ofWell_43 : decode cX8_ofWell 43 = .ok (.aaload, 1) := by decide +kernel
theorem dX8_ofWell_44 : decode cX8_ofWell 44 = .ok (.iload_n 2, 1) := by decide +kernel
theorem dX8_ofWell_45 : decode cX8_ofWell 45 = .ok (.iaload, 1) := by decide +kernel
theorem dX8_ofWell_46 : decode cX8_ofWell 46 = .ok (.ireturn, 1) := by decide +kernel
set_option maxRecDepth 20000 in
theorem ggX8_ofPartner_X8_in : GoodIn wsX8_ofPartner wsX8_in := goodIn_r _ [6] (by decide +kernel) (by decide +kernel)
set_option maxRecDepth 20000 in
theorem gX8_ofPartner_X8_in : GoodIn wsX8_ofPartner (va_wsS RX8 32 yX8_in wsX8_in) := goodIn_app (goodIn_of _ (by decide +kernel)) ggX8_ofPartner_X8_in
set_option maxRecDepth 20000 in
theorem ggX8_ofPartner_X8_no : GoodIn wsX8_ofPartner wsX8_no := goodIn_r _ [10, 1, 11, 12, 13, 14, 15, 16, 17, 18] (by decide +kernel) (by decide +kernel)
set_option maxRecDepth 20000 in
theorem gX8_ofPartner_X8_no : GoodIn wsX8_ofPartner (wsV RX8 43 RX8 yX8_no wsX8_no) := goodIn_app (goodIn_of _ (by decide +kernel)) ggX8_ofPartner_X8_no
theorem dX8_ofPartner_0 : decode cX8_ofPartner 0 = .ok (.aload_n 0, 1) := by decide +kernel
theorem dX8_ofPartner_1 : decode cX8_ofPartner 1 = .ok (.iconst 0, 1) := by decide +kernel
theorem dX8_ofPartner_2 : decode cX8_ofPartner 2 = .ok (.putfield 29, 3) := by decide +kernel
theorem dX8_ofPartner_5 : decode cX8_ofPartner 5 = .ok (.iload_n 1, 1) := by decide +kernel
theorem dX8_ofPartner_6 : decode cX8_ofPartner 6 = .ok (.iconst 0, 1) := by decide +kernel
theorem dX8_ofPartner_7 : decode cX8_ofPartner 7 = .ok (.iconst 2, 1) := by decide +kernel
theorem dX8_ofPartner_8 : decode cX8_ofPartner 8 = .ok (.invokestatic 32, 3) := by decide +kernel
theorem dX8_ofPartner_11 : decode cX8_ofPartner 11 = .ok (.ifCond .ne 9, 3) := by decide +kernel
theorem dX8_ofPartner_14 : decode cX8_ofPartner 14 = .ok (.aload_n 0, 1) := by decide +kernel
theorem dX8_ofPartner_15 : decode cX8_ofPartner 15 = .ok (.iconst 1, 1) := by decide +kernel
theorem dX8_ofPartner_16 : decode cX8_ofPartner 16 = .ok (.invokevirtual 43, 3) := by decide +kernel
theorem dX8_ofPartner_19 : decode cX8_ofPartner 19 = .ok (.ireturn, 1) := by decide +kernel
theorem dX8_ofPartner_20 : decode cX8_ofPartner 20 = .ok (.iload_n 2, 1) := by decide +kernel
theorem dX8_ofPartner_21 : decode cX8_ofPartner 21 = .ok (.iconst 0, 1) := by decide +kernel
theorem dX8_ofPartner_22 : decode cX8_ofPartner 22 = .ok (.iconst 3, 1) := by decide +kernel
theorem dX8_ofPartner_23 : decode cX8_ofPartner 23 = .ok (.invokestatic 32, 3) := by decide +kernel
theorem dX8_ofPartner_26 : decode cX8_ofPartner 26 = .ok (.ifCond .ne 9, 3) := by decide +kernel
theorem dX8_ofPartner_29 : decode cX8_ofPartner 29 = .ok (.aload_n 0, 1) := by decide +kernel
theorem dX8_ofPartner_30 : decode cX8_ofPartner 30 = .ok (.iconst 2, 1) := by decide +kernel
theorem dX8_ofPartner_31 : decode cX8_ofPartner 31 = .ok (.invokevirtual 43, 3) := by decide +kernel
theorem dX8_ofPartner_34 : decode cX8_ofPartner 34 = .ok (.ireturn, 1) := by decide +kernel
theorem dX8_ofPartner_35 : decode cX8_ofPartner 35 = .ok (.aload_n 0, 1) := by decide +kernel
theorem dX8_ofPartner_36 : decode cX8_ofPartner 36 = .ok (.getfield 18, 3) := by decide +kernel
theorem dX8_ofPartner_39 : decode cX8_ofPartner 39 = .ok (.iload_n 1, 1) := by decide +kernel
theorem dX8_ofPartner_40 : decode cX8_ofPartner 40 = .ok (.aaload, 1) := by decide +kernel
theorem dX8_ofPartner_41 : decode cX8_ofPartner 41 = .ok (.iload_n 2, 1) := by decide +kernel
theorem dX8_ofPartner_42 : decode cX8_ofPartner 42 = .ok (.iaload, 1) := by decide +kernel
theorem dX8_ofPartner_43 : decode cX8_ofPartner 43 = .ok (.ireturn, 1) := by decide +kernel
set_option maxRecDepth 20000 in
theorem ggX8_booked_X8_in : GoodIn wsX8_booked wsX8_in := goodIn_r _ [6] (by decide +kernel) (by decide +kernel)
set_option maxRecDepth 20000 in
theorem gX8_booked_X8_in : GoodIn wsX8_booked (va_wsS RX8 32 yX8_in wsX8_in) := goodIn_app (goodIn_of _ (by decide +kernel)) ggX8_booked_X8_in
set_option maxRecDepth 20000 in
theorem ggX8_booked_X8_no : GoodIn wsX8_booked wsX8_no := goodIn_r _ [10, 1, 11, 12, 13, 14, 15, 16, 17, 18] (by decide +kernel) (by decide +kernel)
set_option maxRecDepth 20000 in
theorem gX8_booked_X8_no : GoodIn wsX8_booked (wsV RX8 43 RX8 yX8_no wsX8_no) := goodIn_app (goodIn_of _ (by decide +kernel)) ggX8_booked_X8_no
theorem dX8_booked_0 : decode cX8_booked 0 = .ok (.aload_n 0, 1) := by decide +kernel
theorem dX8_booked_1 : decode cX8_booked 1 = .ok (.iconst 0, 1) := by decide +kernel
theorem dX8_booked_2 : decode cX8_booked 2 = .ok (.putfield 29, 3) := by decide +kernel
theorem dX8_booked_5 : decode cX8_booked 5 = .ok (.iload_n 1, 1) := by decide +kernel
theorem dX8_booked_6 : decode cX8_booked 6 = .ok (.iconst 0, 1) := by decide +kernel
theorem dX8_booked_7 : decode cX8_booked 7 = .ok (.iconst 4, 1) := by decide +kernel
theorem dX8_booked_8 : decode cX8_booked 8 = .ok (.invokestatic 32, 3) := by decide +kernel
theorem dX8_booked_11 : decode cX8_booked 11 = .ok (.ifCond .ne 9, 3) := by decide +kernel
theorem dX8_booked_14 : decode cX8_booked 14 = .ok (.aload_n 0, 1) := by decide +kernel
theorem dX8_booked_15 : decode cX8_booked 15 = .ok (.iconst 1, 1) := by decide +kernel
theorem dX8_booked_16 : decode cX8_booked 16 = .ok (.invokevirtual 43, 3) := by decide +kernel
theorem dX8_booked_19 : decode cX8_booked 19 = .ok (.ireturn, 1) := by decide +kernel
theorem dX8_booked_20 : decode cX8_booked 20 = .ok (.aload_n 0, 1) := by decide +kernel
theorem dX8_booked_21 : decode cX8_booked 21 = .ok (.getfield 22, 3) := by decide +kernel
theorem dX8_booked_24 : decode cX8_booked 24 = .ok (.iload_n 1, 1) := by decide +kernel
theorem dX8_booked_25 : decode cX8_booked 25 = .ok (.iaload, 1) := by decide +kernel
theorem dX8_booked_26 : decode cX8_booked 26 = .ok (.ireturn, 1) := by decide +kernel
set_option maxRecDepth 20000 in
theorem ggX8_manyNow_X8_in : GoodIn wsX8_manyNow wsX8_in := goodIn_r _ [13] (by decide +kernel) (by decide +kernel)
set_option maxRecDepth 20000 in
theorem gX8_manyNow_X8_in : GoodIn wsX8_manyNow (va_wsS RX8 32 yX8_in wsX8_in) := goodIn_app (goodIn_of _ (by decide +kernel)) ggX8_manyNow_X8_in
theorem dX8_manyNow_0 : decode cX8_manyNow 0 = .ok (.iconst 0, 1) := by decide +kernel
theorem dX8_manyNow_1 : decode cX8_manyNow 1 = .ok (.istore_n 2, 1) := by decide +kernel
theorem dX8_manyNow_2 : decode cX8_manyNow 2 = .ok (.iconst 0, 1) := by decide +kernel
theorem dX8_manyNow_3 : decode cX8_manyNow 3 = .ok (.istore_n 3, 1) := by decide +kernel
theorem dX8_manyNow_4 : decode cX8_manyNow 4 = .ok (.iload_n 3, 1) := by decide +kernel
theorem dX8_manyNow_5 : decode cX8_manyNow 5 = .ok (.bipush 16, 2) := by decide +kernel
theorem dX8_manyNow_7 : decode cX8_manyNow 7 = .ok (.if_icmp .ge 84, 3) := by decide +kernel
theorem dX8_manyNow_10 : decode cX8_manyNow 10 = .ok (.iload_n 2, 1) := by decide +kernel
theorem dX8_manyNow_11 : decode cX8_manyNow 11 = .ok (.iload_n 1, 1) := by decide +kernel
theorem dX8_manyNow_12 : decode cX8_manyNow 12 = .ok (.iconst 2, 1) := by decide +kernel
theorem dX8_manyNow_13 : decode cX8_manyNow 13 = .ok (.iconst 4, 1) := by decide +kernel
theorem dX8_manyNow_14 : decode cX8_manyNow 14 = .ok (.invokestatic 32, 3) := by decide +kernel
theorem dX8_manyNow_17 : decode cX8_manyNow 17 = .ok (.ifCond .eq 21, 3) := by decide +kernel
theorem dX8_manyNow_20 : decode cX8_manyNow 20 = .ok (.aload_n 0, 1) := by decide +kernel
theorem dX8_manyNow_21 : decode cX8_manyNow 21 = .ok (.getfield 10, 3) := by decide +kernel
theorem dX8_manyNow_24 : decode cX8_manyNow 24 = .ok (.getfield 50, 3) := by decide +kernel
theorem dX8_manyNow_27 : decode cX8_manyNow 27 = .ok (.iconst 3, 1) := by decide +kernel
theorem dX8_manyNow_28 : decode cX8_manyNow 28 = .ok (.iload_n 3, 1) := by decide +kernel
theorem dX8_manyNow_29 : decode cX8_manyNow 29 = .ok (.imul, 1) := by decide +kernel
theorem dX8_manyNow_30 : decode cX8_manyNow 30 = .ok (.iload_n 1, 1) := by decide +kernel
theorem dX8_manyNow_31 : decode cX8_manyNow 31 = .ok (.iadd, 1) := by decide +kernel
theorem dX8_manyNow_32 : decode cX8_manyNow 32 = .ok (.iconst 2, 1) := by decide +kernel
theorem dX8_manyNow_33 : decode cX8_manyNow 33 = .ok (.isub, 1) := by decide +kernel
theorem dX8_manyNow_34 : decode cX8_manyNow 34 = .ok (.iaload, 1) := by decide +kernel
theorem dX8_manyNow_35 : decode cX8_manyNow 35 = .ok (.goto 48, 3) := by decide +kernel
theorem dX8_manyNow_38 : decode cX8_manyNow 38 = .ok (.iload_n 1, 1) := by decide +kernel
theorem dX8_manyNow_39 : decode cX8_manyNow 39 = .ok (.bipush 13, 2) := by decide +kernel
theorem dX8_manyNow_41 : decode cX8_manyNow 41 = .ok (.if_icmp .ne 41, 3) := by decide +kernel
theorem dX8_manyNow_44 : decode cX8_manyNow 44 = .ok (.aload_n 0, 1) := by decide +kernel
theorem dX8_manyNow_45 : decode cX8_manyNow 45 = .ok (.getfield 10, 3) := by decide +kernel
theorem dX8_manyNow_48 : decode cX8_manyNow 48 = .ok (.getfield 60, 3) := by decide +kernel
theorem dX8_manyNow_51 : decode cX8_manyNow 51 = .ok (.iload_n 3, 1) := by decide +kernel
theorem dX8_manyNow_52 : decode cX8_manyNow 52 = .ok (.baload, 1) := by decide +kernel
theorem dX8_manyNow_53 : decode cX8_manyNow 53 = .ok (.ifCond .eq 7, 3) := by decide +kernel
theorem dX8_manyNow_56 : decode cX8_manyNow 56 = .ok (.iconst 1, 1) := by decide +kernel
theorem dX8_manyNow_57 : decode cX8_manyNow 57 = .ok (.goto 4, 3) := by decide +kernel
theorem dX8_manyNow_60 : decode cX8_manyNow 60 = .ok (.iconst 0, 1) := by decide +kernel
theorem dX8_manyNow_61 : decode cX8_manyNow 61 = .ok (.aload_n 0, 1) := by decide +kernel
theorem dX8_manyNow_62 : decode cX8_manyNow 62 = .ok (.getfield 10, 3) := by decide +kernel
theorem dX8_manyNow_65 : decode cX8_manyNow 65 = .ok (.getfield 64, 3) := by decide +kernel
theorem dX8_manyNow_68 : decode cX8_manyNow 68 = .ok (.iload_n 3, 1) := by decide +kernel
theorem dX8_manyNow_69 : decode cX8_manyNow 69 = .ok (.baload, 1) := by decide +kernel
theorem dX8_manyNow_70 : decode cX8_manyNow 70 = .ok (.ifCond .eq 7, 3) := by decide +kernel
theorem dX8_manyNow_73 : decode cX8_manyNow 73 = .ok (.iconst 1, 1) := by decide +kernel
theorem dX8_manyNow_74 : decode cX8_manyNow 74 = .ok (.goto 4, 3) := by decide +kernel
theorem dX8_manyNow_77 : decode cX8_manyNow 77 = .ok (.iconst 0, 1) := by decide +kernel
theorem dX8_manyNow_78 : decode cX8_manyNow 78 = .ok (.iadd, 1) := by decide +kernel
theorem dX8_manyNow_79 : decode cX8_manyNow 79 = .ok (.goto 4, 3) := by decide +kernel
theorem dX8_manyNow_82 : decode cX8_manyNow 82 = .ok (.iconst 0, 1) := by decide +kernel
theorem dX8_manyNow_83 : decode cX8_manyNow 83 = .ok (.iadd, 1) := by decide +kernel
theorem dX8_manyNow_84 : decode cX8_manyNow 84 = .ok (.istore_n 2, 1) := by decide +kernel
theorem dX8_manyNow_85 : decode cX8_manyNow 85 = .ok (.iinc 3 1, 3) := by decide +kernel
theorem dX8_manyNow_88 : decode cX8_manyNow 88 = .ok (.goto (-84), 3) := by decide +kernel
theorem dX8_manyNow_91 : decode cX8_manyNow 91 = .ok (.iload_n 1, 1) := by decide +kernel
theorem dX8_manyNow_92 : decode cX8_manyNow 92 = .ok (.tableswitch 118 0 14 #[76, 84, 92, 92, 92, 118, 118, 118, 94, 118, 118, 118, 102, 92, 113], 76) := by decide +kernel
theorem dX8_manyNow_168 : decode cX8_manyNow 168 = .ok (.aload_n 0, 1) := by decide +kernel
theorem dX8_manyNow_169 : decode cX8_manyNow 169 = .ok (.getfield 10, 3) := by decide +kernel
theorem dX8_manyNow_172 : decode cX8_manyNow 172 = .ok (.getfield 124, 3) := by decide +kernel
theorem dX8_manyNow_175 : decode cX8_manyNow 175 = .ok (.ireturn, 1) := by decide +kernel
theorem dX8_manyNow_176 : decode cX8_manyNow 176 = .ok (.aload_n 0, 1) := by decide +kernel
theorem dX8_manyNow_177 : decode cX8_manyNow 177 = .ok (.getfield 10, 3) := by decide +kernel
theorem dX8_manyNow_180 : decode cX8_manyNow 180 = .ok (.getfield 40, 3) := by decide +kernel
theorem dX8_manyNow_183 : decode cX8_manyNow 183 = .ok (.ireturn, 1) := by decide +kernel
theorem dX8_manyNow_184 : decode cX8_manyNow 184 = .ok (.iload_n 2, 1) := by decide +kernel
theorem dX8_manyNow_185 : decode cX8_manyNow 185 = .ok (.ireturn, 1) := by decide +kernel
theorem dX8_manyNow_186 : decode cX8_manyNow 186 = .ok (.aload_n 0, 1) := by decide +kernel
theorem dX8_manyNow_187 : decode cX8_manyNow 187 = .ok (.getfield 10, 3) := by decide +kernel
theorem dX8_manyNow_190 : decode cX8_manyNow 190 = .ok (.getfield 79, 3) := by decide +kernel
theorem dX8_manyNow_193 : decode cX8_manyNow 193 = .ok (.ireturn, 1) := by decide +kernel
theorem dX8_manyNow_194 : decode cX8_manyNow 194 = .ok (.aload_n 0, 1) := by decide +kernel
theorem dX8_manyNow_195 : decode cX8_manyNow 195 = .ok (.getfield 10, 3) := by decide +kernel
theorem dX8_manyNow_198 : decode cX8_manyNow 198 = .ok (.getfield 118, 3) := by decide +kernel
theorem dX8_manyNow_201 : decode cX8_manyNow 201 = .ok (.iconst 3, 1) := by decide +kernel
theorem dX8_manyNow_202 : decode cX8_manyNow 202 = .ok (.iaload, 1) := by decide +kernel
theorem dX8_manyNow_203 : decode cX8_manyNow 203 = .ok (.ineg, 1) := by decide +kernel
theorem dX8_manyNow_204 : decode cX8_manyNow 204 = .ok (.ireturn, 1) := by decide +kernel
theorem dX8_manyNow_205 : decode cX8_manyNow 205 = .ok (.aload_n 0, 1) := by decide +kernel
theorem dX8_manyNow_206 : decode cX8_manyNow 206 = .ok (.getfield 112, 3) := by decide +kernel
theorem dX8_manyNow_209 : decode cX8_manyNow 209 = .ok (.ireturn, 1) := by decide +kernel
theorem dX8_manyNow_210 : decode cX8_manyNow 210 = .ok (.aload_n 0, 1) := by decide +kernel
theorem dX8_manyNow_211 : decode cX8_manyNow 211 = .ok (.getfield 10, 3) := by decide +kernel
theorem dX8_manyNow_214 : decode cX8_manyNow 214 = .ok (.getfield 118, 3) := by decide +kernel
theorem dX8_manyNow_217 : decode cX8_manyNow 217 = .ok (.iload_n 1, 1) := by decide +kernel
theorem dX8_manyNow_218 : decode cX8_manyNow 218 = .ok (.bipush 8, 2) := by decide +kernel
theorem dX8_manyNow_220 : decode cX8_manyNow 220 = .ok (.if_icmp .ge 9, 3) := by decide +kernel
theorem dX8_manyNow_223 : decode cX8_manyNow 223 = .ok (.iload_n 1, 1) := by decide +kernel
theorem dX8_manyNow_224 : decode cX8_manyNow 224 = .ok (.iconst 5, 1) := by decide +kernel
theorem dX8_manyNow_225 : decode cX8_manyNow 225 = .ok (.isub, 1) := by decide +kernel
theorem dX8_manyNow_226 : decode cX8_manyNow 226 = .ok (.goto 7, 3) := by decide +kernel
theorem dX8_manyNow_229 : decode cX8_manyNow 229 = .ok (.iload_n 1, 1) := by decide +kernel
theorem dX8_manyNow_230 : decode cX8_manyNow 230 = .ok (.bipush 6, 2) := by decide +kernel
theorem dX8_manyNow_232 : decode cX8_manyNow 232 = .ok (.isub, 1) := by decide +kernel
theorem dX8_manyNow_233 : decode cX8_manyNow 233 = .ok (.iaload, 1) := by decide +kernel
theorem dX8_manyNow_234 : decode cX8_manyNow 234 = .ok (.ireturn, 1) := by decide +kernel
set_option maxRecDepth 20000 in
theorem ggX8_many_X8_in : GoodIn wsX8_many wsX8_in := goodIn_r _ [5] (by decide +kernel) (by decide +kernel)
set_option maxRecDepth 20000 in
theorem gX8_many_X8_in : GoodIn wsX8_many (va_wsS RX8 32 yX8_in wsX8_in) := goodIn_app (goodIn_of _ (by decide +kernel)) ggX8_many_X8_in
set_option maxRecDepth 20000 in
theorem ggX8_many_X8_no : GoodIn wsX8_many wsX8_no := goodIn_r _ [9, 1, 23, 24, 25, 26, 27, 28, 29, 30] (by decide +kernel) (by decide +kernel)
set_option maxRecDepth 20000 in
theorem gX8_many_X8_no : GoodIn wsX8_many (wsV RX8 43 RX8 yX8_no wsX8_no) := goodIn_app (goodIn_of _ (by decide +kernel)) ggX8_many_X8_no
set_option maxRecDepth 20000 in
theorem ggX8_many_X8_manyNow : GoodIn wsX8_many wsX8_manyNow := goodIn_r _ [13, 14, 15, 16, 17, 18, 19, 20, 21, 22, 2, 3, 4, 5, 23, 24, 25, 26, 27, 28, 29, 30, 31, 32, 33, 34, 35, 36, 37, 38, 39, 40, 41, 42, 43, 44] (by decide +kernel) (by decide +kernel)
set_option maxRecDepth 20000 in
theorem gX8_many_X8_manyNow : GoodIn wsX8_many (wsV RX8 136 RX8 yX8_manyNow wsX8_manyNow) := goodIn_app (goodIn_of _ (by decide +kernel)) ggX8_many_X8_manyNow
theorem dX8_many_0 : decode cX8_many 0 = .ok (.aload_n 0, 1) := by decide +kernel
theorem dX8_many_1 : decode cX8_many 1 = .ok (.iconst 0, 1) := by decide +kernel
theorem dX8_many_2 : decode cX8_many 2 = .ok (.putfield 29, 3) := by decide +kernel
theorem dX8_many_5 : decode cX8_many 5 = .ok (.iload_n 1, 1) := by decide +kernel
theorem dX8_many_6 : decode cX8_many 6 = .ok (.iconst 0, 1) := by decide +kernel
theorem dX8_many_7 : decode cX8_many 7 = .ok (.bipush 14, 2) := by decide +kernel
theorem dX8_many_9 : decode cX8_many 9 = .ok (.invokestatic 32, 3) := by decide +kernel
theorem dX8_many_12 : decode cX8_many 12 = .ok (.ifCond .ne 9, 3) := by decide +kernel
theorem dX8_many_15 : decode cX8_many 15 = .ok (.aload_n 0, 1) := by decide +kernel
theorem dX8_many_16 : decode cX8_many 16 = .ok (.iconst 1, 1) := by decide +kernel
theorem dX8_many_17 : decode cX8_many 17 = .ok (.invokevirtual 43, 3) := by decide +kernel
theorem dX8_many_20 : decode cX8_many 20 = .ok (.ireturn, 1) := by decide +kernel
theorem dX8_many_21 : decode cX8_many 21 = .ok (.aload_n 0, 1) := by decide +kernel
theorem dX8_many_22 : decode cX8_many 22 = .ok (.iload_n 1, 1) := by decide +kernel
theorem dX8_many_23 : decode cX8_many 23 = .ok (.invokevirtual 136, 3) := by decide +kernel
theorem dX8_many_26 : decode cX8_many 26 = .ok (.ireturn, 1) := by decide +kernel
set_option maxRecDepth 20000 in
theorem ggX8_meanPressure_X7_pressure : GoodIn wsX8_meanPressure wsX7_pressure := goodIn_r _ [8, 9, 10, 11, 12, 7, 13, 14, 23, 24, 25, 26, 27, 28, 29, 30, 31, 32, 33, 34, 35, 36] (by decide +kernel) (by decide +kernel)
set_option maxRecDepth 20000 in
theorem gX8_meanPressure_X7_pressure : GoodIn wsX8_meanPressure (wsV RX8 53 RX7 yX7_pressure wsX7_pressure) := goodIn_app (goodIn_of _ (by decide +kernel)) ggX8_meanPressure_X7_pressure
theorem dX8_meanPressure_0 : decode cX8_meanPressure 0 = .ok (.aload_n 0, 1) := by decide +kernel
theorem dX8_meanPressure_1 : decode cX8_meanPressure 1 = .ok (.iconst 0, 1) := by decide +kernel
theorem dX8_meanPressure_2 : decode cX8_meanPressure 2 = .ok (.putfield 29, 3) := by decide +kernel
theorem dX8_meanPressure_5 : decode cX8_meanPressure 5 = .ok (.iconst 0, 1) := by decide +kernel
theorem dX8_meanPressure_6 : decode cX8_meanPressure 6 = .ok (.istore_n 1, 1) := by decide +kernel
theorem dX8_meanPressure_7 : decode cX8_meanPressure 7 = .ok (.iconst 0, 1) := by decide +kernel
theorem dX8_meanPressure_8 : decode cX8_meanPressure 8 = .ok (.istore_n 2, 1) := by decide +kernel
theorem dX8_meanPressure_9 : decode cX8_meanPressure 9 = .ok (.iload_n 2, 1) := by decide +kernel
theorem dX8_meanPressure_10 : decode cX8_meanPressure 10 = .ok (.bipush 16, 2) := by decide +kernel
theorem dX8_meanPressure_12 : decode cX8_meanPressure 12 = .ok (.if_icmp .ge 20, 3) := by decide +kernel
theorem dX8_meanPressure_15 : decode cX8_meanPressure 15 = .ok (.iload_n 1, 1) := by decide +kernel
theorem dX8_meanPressure_16 : decode cX8_meanPressure 16 = .ok (.aload_n 0, 1) := by decide +kernel
theorem dX8_meanPressure_17 : decode cX8_meanPressure 17 = .ok (.getfield 10, 3) := by decide +kernel
theorem dX8_meanPressure_20 : decode cX8_meanPressure 20 = .ok (.iload_n 2, 1) := by decide +kernel
theorem dX8_meanPressure_21 : decode cX8_meanPressure 21 = .ok (.invokevirtual 53, 3) := by decide +kernel
theorem dX8_meanPressure_24 : decode cX8_meanPressure 24 = .ok (.iadd, 1) := by decide +kernel
theorem dX8_meanPressure_25 : decode cX8_meanPressure 25 = .ok (.istore_n 1, 1) := by decide +kernel
theorem dX8_meanPressure_26 : decode cX8_meanPressure 26 = .ok (.iinc 2 1, 3) := by decide +kernel
theorem dX8_meanPressure_29 : decode cX8_meanPressure 29 = .ok (.goto (-20), 3) := by decide +kernel
theorem dX8_meanPressure_32 : decode cX8_meanPressure 32 = .ok (.iload_n 1, 1) := by decide +kernel
theorem dX8_meanPressure_33 : decode cX8_meanPressure 33 = .ok (.i2d, 1) := by decide +kernel
theorem dX8_meanPressure_34 : decode cX8_meanPressure 34 = .ok (.ldc2_w 139, 3) := by decide +kernel
theorem dX8_meanPressure_37 : decode cX8_meanPressure 37 = .ok (.ddiv, 1) := by decide +kernel
theorem dX8_meanPressure_38 : decode cX8_meanPressure 38 = .ok (.dreturn, 1) := by decide +kernel
set_option maxRecDepth 20000 in
theorem ggX8_wouldGive_X8_in : GoodIn wsX8_wouldGive wsX8_in := goodIn_r _ [6] (by decide +kernel) (by decide +kernel)
set_option maxRecDepth 20000 in
theorem gX8_wouldGive_X8_in : GoodIn wsX8_wouldGive (va_wsS RX8 32 yX8_in wsX8_in) := goodIn_app (goodIn_of _ (by decide +kernel)) ggX8_wouldGive_X8_in
set_option maxRecDepth 20000 in
theorem ggX8_wouldGive_X8_no : GoodIn wsX8_wouldGive wsX8_no := goodIn_r _ [10, 1, 110, 111, 112, 113, 114, 115, 116, 117] (by decide +kernel) (by decide +kernel)
set_option maxRecDepth 20000 in
theorem gX8_wouldGive_X8_no : GoodIn wsX8_wouldGive (wsV RX8 43 RX8 yX8_no wsX8_no) := goodIn_app (goodIn_of _ (by decide +kernel)) ggX8_wouldGive_X8_no
set_option maxRecDepth 20000 in
theorem ggX8_wouldGive_X7_copy : GoodIn wsX8_wouldGive wsX7_copy := goodIn_r _ [15, 16, 17, 14, 18, 19, 20, 21, 22, 23, 24, 25, 26, 27, 28, 29, 30, 31, 32, 33, 34, 35, 36, 37, 38, 39, 40, 41, 42, 43, 44, 118, 119, 120, 121, 122, 123, 124, 125, 126, 127, 128, 129, 130, 131] (by decide +kernel) (by decide +kernel)
set_option maxRecDepth 20000 in
theorem gX8_wouldGive_X7_copy : GoodIn wsX8_wouldGive (wsV RX8 101 RX7 yX7_copy wsX7_copy) := goodIn_app (goodIn_of _ (by decide +kernel)) ggX8_wouldGive_X7_copy
set_option maxRecDepth 20000 in
theorem ggX8_wouldGive_X7_run : GoodIn wsX8_wouldGive wsX7_run := goodIn_r _ [48, 49, 50, 51, 14, 52, 30, 28, 44, 19, 20, 21, 22, 31, 53, 54, 55, 56, 26, 27, 29, 24, 25, 57, 58, 59, 60, 61, 62, 63, 64, 65, 66, 67, 33, 43, 68, 69, 70, 71, 23, 72, 73, 74, 75, 18, 76, 77, 78, 79, 80, 81, 82, 83, 32, 84, 85, 86, 87, 88, 89, 90, 91, 92, 93, 94, 95, 96, 97, 98, 99, 100, 101, 102, 103, 104, 105, 106, 107, 108, 109, 118, 119, 120, 121, 122, 123, 124, 125, 126, 127, 128, 129, 130, 131] (by decide +kernel) (by decide +kernel)
set_option maxRecDepth 20000 in
theorem gX8_wouldGive_X7_run : GoodIn wsX8_wouldGive (wsV RX8 106 RX7 yX7_run wsX7_run) := goodIn_app (goodIn_of _ (by decide +kernel)) ggX8_wouldGive_X7_run
theorem dX8_wouldGive_0 : decode cX8_wouldGive 0 = .ok (.aload_n 0, 1) := by decide +kernel
theorem dX8_wouldGive_1 : decode cX8_wouldGive 1 = .ok (.iconst 0, 1) := by decide +kernel
theorem dX8_wouldGive_2 : decode cX8_wouldGive 2 = .ok (.putfield 29, 3) := by decide +kernel
theorem dX8_wouldGive_5 : decode cX8_wouldGive 5 = .ok (.iload_n 1, 1) := by decide +kernel
theorem dX8_wouldGive_6 : decode cX8_wouldGive 6 = .ok (.iconst 1, 1) := by decide +kernel
theorem dX8_wouldGive_7 : decode cX8_wouldGive 7 = .ok (.bipush 12, 2) := by decide +kernel
theorem dX8_wouldGive_9 : decode cX8_wouldGive 9 = .ok (.invokestatic 32, 3) := by decide +kernel
theorem dX8_wouldGive_12 : decode cX8_wouldGive 12 = .ok (.ifCond .ne 9, 3) := by decide +kernel
theorem dX8_wouldGive_15 : decode cX8_wouldGive 15 = .ok (.aload_n 0, 1) := by decide +kernel
theorem dX8_wouldGive_16 : decode cX8_wouldGive 16 = .ok (.iconst 1, 1) := by decide +kernel
theorem dX8_wouldGive_17 : decode cX8_wouldGive 17 = .ok (.invokevirtual 43, 3) := by decide +kernel
theorem dX8_wouldGive_20 : decode cX8_wouldGive 20 = .ok (.ireturn, 1) := by decide +kernel
theorem dX8_wouldGive_21 : decode cX8_wouldGive 21 = .ok (.aload_n 0, 1) := by decide +kernel
theorem dX8_wouldGive_22 : decode cX8_wouldGive 22 = .ok (.getfield 10, 3) := by decide +kernel
theorem dX8_wouldGive_25 : decode cX8_wouldGive 25 = .ok (.invokevirtual 101, 3) := by decide +kernel
theorem dX8_wouldGive_28 : decode cX8_wouldGive 28 = .ok (.iload_n 1, 1) := by decide +kernel
theorem dX8_wouldGive_29 : decode cX8_wouldGive 29 = .ok (.invokevirtual 106, 3) := by decide +kernel
theorem dX8_wouldGive_32 : decode cX8_wouldGive 32 = .ok (.ireturn, 1) := by decide +kernel
set_option maxRecDepth 20000 in
theorem ggX8_bestNow_X7_copy : GoodIn wsX8_bestNow wsX7_copy := goodIn_r _ [11, 12, 13, 10, 14, 15, 16, 17, 18, 19, 20, 21, 22, 23, 24, 25, 26, 27, 28, 29, 30, 31, 32, 33, 34, 35, 36, 37, 38, 39, 40, 111, 112, 113, 114, 115, 116, 117, 118, 119, 120, 121, 122, 123, 124] (by decide +kernel) (by decide +kernel)
set_option maxRecDepth 20000 in
theorem gX8_bestNow_X7_copy : GoodIn wsX8_bestNow (wsV RX8 101 RX7 yX7_copy wsX7_copy) := goodIn_app (goodIn_of _ (by decide +kernel)) ggX8_bestNow_X7_copy
set_option maxRecDepth 20000 in
theorem ggX8_bestNow_X7_run : GoodIn wsX8_bestNow wsX7_run := goodIn_r _ [44, 45, 46, 47, 10, 48, 26, 24, 40, 15, 16, 17, 18, 27, 49, 50, 5, 51, 22, 23, 25, 20, 21, 52, 53, 54, 55, 56, 57, 58, 59, 60, 4, 6, 29, 39, 61, 62, 63, 64, 19, 65, 66, 67, 68, 14, 69, 70, 71, 72, 73, 74, 75, 76, 28, 77, 78, 79, 80, 81, 82, 83, 84, 85, 86, 87, 88, 89, 90, 91, 92, 93, 94, 95, 96, 97, 98, 99, 100, 101, 102, 111, 112, 113, 114, 115, 116, 117, 118, 119, 120, 121, 122, 123, 124] (by decide +kernel) (by decide +kernel)
set_option maxRecDepth 20000 in
theorem gX8_bestNow_X7_run : GoodIn wsX8_bestNow (wsV RX8 106 RX7 yX7_run wsX7_run) := goodIn_app (goodIn_of _ (by decide +kernel)) ggX8_bestNow_X7_run
theorem dX8_bestNow_0 : decode cX8_bestNow 0 = .ok (.iconst 0, 1) := by decide +kernel
theorem dX8_bestNow_1 : decode cX8_bestNow 1 = .ok (.istore_n 3, 1) := by decide +kernel
theorem dX8_bestNow_2 : decode cX8_bestNow 2 = .ok (.iconst (-1), 1) := by decide +kernel
theorem dX8_bestNow_3 : decode cX8_bestNow 3 = .ok (.istore 4, 2) := by decide +kernel
theorem dX8_bestNow_5 : decode cX8_bestNow 5 = .ok (.iconst 0, 1) := by decide +kernel
theorem dX8_bestNow_6 : decode cX8_bestNow 6 = .ok (.istore 5, 2) := by decide +kernel
theorem dX8_bestNow_8 : decode cX8_bestNow 8 = .ok (.iload 5, 2) := by decide +kernel
theorem dX8_bestNow_10 : decode cX8_bestNow 10 = .ok (.bipush 9, 2) := by decide +kernel
theorem dX8_bestNow_12 : decode cX8_bestNow 12 = .ok (.if_icmp .gt 60, 3) := by decide +kernel
theorem dX8_bestNow_15 : decode cX8_bestNow 15 = .ok (.aload_n 0, 1) := by decide +kernel
theorem dX8_bestNow_16 : decode cX8_bestNow 16 = .ok (.getfield 10, 3) := by decide +kernel
theorem dX8_bestNow_19 : decode cX8_bestNow 19 = .ok (.invokevirtual 101, 3) := by decide +kernel
theorem dX8_bestNow_22 : decode cX8_bestNow 22 = .ok (.astore 6, 2) := by decide +kernel
theorem dX8_bestNow_24 : decode cX8_bestNow 24 = .ok (.aload 6, 2) := by decide +kernel
theorem dX8_bestNow_26 : decode cX8_bestNow 26 = .ok (.getfield 67, 3) := by decide +kernel
theorem dX8_bestNow_29 : decode cX8_bestNow 29 = .ok (.iload_n 1, 1) := by decide +kernel
theorem dX8_bestNow_30 : decode cX8_bestNow 30 = .ok (.aaload, 1) := by decide +kernel
theorem dX8_bestNow_31 : decode cX8_bestNow 31 = .ok (.iconst 2, 1) := by decide +kernel
theorem dX8_bestNow_32 : decode cX8_bestNow 32 = .ok (.iload 5, 2) := by decide +kernel
theorem dX8_bestNow_34 : decode cX8_bestNow 34 = .ok (.iastore, 1) := by decide +kernel
theorem dX8_bestNow_35 : decode cX8_bestNow 35 = .ok (.aload 6, 2) := by decide +kernel
theorem dX8_bestNow_37 : decode cX8_bestNow 37 = .ok (.iload_n 2, 1) := by decide +kernel
theorem dX8_bestNow_38 : decode cX8_bestNow 38 = .ok (.invokevirtual 106, 3) := by decide +kernel
theorem dX8_bestNow_41 : decode cX8_bestNow 41 = .ok (.istore 7, 2) := by decide +kernel
theorem dX8_bestNow_43 : decode cX8_bestNow 43 = .ok (.iload 7, 2) := by decide +kernel
theorem dX8_bestNow_45 : decode cX8_bestNow 45 = .ok (.iload 4, 2) := by decide +kernel
theorem dX8_bestNow_47 : decode cX8_bestNow 47 = .ok (.if_icmp .le 8, 3) := by decide +kernel
theorem dX8_bestNow_50 : decode cX8_bestNow 50 = .ok (.iload 5, 2) := by decide +kernel
theorem dX8_bestNow_52 : decode cX8_bestNow 52 = .ok (.goto 4, 3) := by decide +kernel
theorem dX8_bestNow_55 : decode cX8_bestNow 55 = .ok (.iload_n 3, 1) := by decide +kernel
theorem dX8_bestNow_56 : decode cX8_bestNow 56 = .ok (.istore_n 3, 1) := by decide +kernel
theorem dX8_bestNow_57 : decode cX8_bestNow 57 = .ok (.iload 4, 2) := by decide +kernel
theorem dX8_bestNow_59 : decode cX8_bestNow 59 = .ok (.iload 7, 2) := by decide +kernel
theorem dX8_bestNow_61 : decode cX8_bestNow 61 = .ok (.invokestatic 95, 3) := by decide +kernel
theorem dX8_bestNow_64 : decode cX8_bestNow 64 = .ok (.istore 4, 2) := by decide +kernel
theorem dX8_bestNow_66 : decode cX8_bestNow 66 = .ok (.iinc 5 1, 3) := by decide +kernel
theorem dX8_bestNow_69 : decode cX8_bestNow 69 = .ok (.goto (-61), 3) := by decide +kernel
theorem dX8_bestNow_72 : decode cX8_bestNow 72 = .ok (.iload_n 3, 1) := by decide +kernel
theorem dX8_bestNow_73 : decode cX8_bestNow 73 = .ok (.ireturn, 1) := by decide +kernel
set_option maxRecDepth 20000 in
theorem ggX8_bestChoke_X8_isWell : GoodIn wsX8_bestChoke wsX8_isWell := goodIn_r _ [8, 2, 9, 10, 11, 7, 12, 121, 122, 123, 124, 125, 126, 127, 128, 129, 130, 131, 132, 133, 134, 135, 136, 137, 138, 139, 140, 141, 142] (by decide +kernel) (by decide +kernel)
set_option maxRecDepth 20000 in
theorem gX8_bestChoke_X8_isWell : GoodIn wsX8_bestChoke (wsV RX8 70 RX8 yX8_isWell wsX8_isWell) := goodIn_app (goodIn_of _ (by decide +kernel)) ggX8_bestChoke_X8_isWell
set_option maxRecDepth 20000 in
theorem ggX8_bestChoke_X8_no : GoodIn wsX8_bestChoke wsX8_no := goodIn_r _ [16, 1, 121, 122, 123, 124, 125, 126, 127, 128] (by decide +kernel) (by decide +kernel)
set_option maxRecDepth 20000 in
theorem gX8_bestChoke_X8_no : GoodIn wsX8_bestChoke (wsV RX8 43 RX8 yX8_no wsX8_no) := goodIn_app (goodIn_of _ (by decide +kernel)) ggX8_bestChoke_X8_no
set_option maxRecDepth 20000 in
theorem ggX8_bestChoke_X8_in : GoodIn wsX8_bestChoke wsX8_in := goodIn_r _ [12] (by decide +kernel) (by decide +kernel)
set_option maxRecDepth 20000 in
theorem gX8_bestChoke_X8_in : GoodIn wsX8_bestChoke (va_wsS RX8 32 yX8_in wsX8_in) := goodIn_app (goodIn_of _ (by decide +kernel)) ggX8_bestChoke_X8_in
set_option maxRecDepth 20000 in
theorem ggX8_bestChoke_X8_bestNow : GoodIn wsX8_bestChoke wsX8_bestNow := goodIn_r _ [20, 2, 3, 21, 22, 23, 24, 25, 26, 27, 28, 29, 30, 31, 32, 33, 34, 35, 36, 37, 38, 39, 40, 41, 42, 43, 44, 45, 46, 47, 48, 49, 50, 51, 52, 53, 54, 55, 56, 57, 58, 59, 60, 61, 62, 63, 64, 65, 66, 67, 68, 69, 70, 71, 72, 73, 74, 75, 76, 77, 78, 79, 80, 81, 82, 83, 84, 85, 86, 87, 88, 89, 90, 91, 92, 93, 94, 95, 96, 97, 98, 99, 100, 101, 102, 103, 104, 105, 106, 107, 108, 109, 110, 111, 112, 113, 114, 115, 116, 117, 118, 119, 120, 121, 122, 123, 124, 125, 126, 127, 128, 129, 130, 131, 132, 133, 134, 135, 136, 137, 138, 139, 140, 141, 142] (by decide +kernel) (by decide +kernel)
set_option maxRecDepth 20000 in
theorem gX8_bestChoke_X8_bestNow : GoodIn wsX8_bestChoke (wsV RX8 141 RX8 yX8_bestNow wsX8_bestNow) := goodIn_app (goodIn_of _ (by decide +kernel)) ggX8_bestChoke_X8_bestNow
theorem dX8_bestChoke_0 : decode cX8_bestChoke 0 = .ok (.aload_n 0, 1) := by decide +kernel
theorem dX8_bestChoke_1 : decode cX8_bestChoke 1 = .ok (.iconst 0, 1) := by decide +kernel
theorem dX8_bestChoke_2 : decode cX8_bestChoke 2 = .ok (.putfield 29, 3) := by decide +kernel
theorem dX8_bestChoke_5 : decode cX8_bestChoke 5 = .ok (.aload_n 0, 1) := by decide +kernel
theorem dX8_bestChoke_6 : decode cX8_bestChoke 6 = .ok (.iload_n 1, 1) := by decide +kernel
theorem dX8_bestChoke_7 : decode cX8_bestChoke 7 = .ok (.invokevirtual 70, 3) := by decide +kernel
theorem dX8_bestChoke_10 : decode cX8_bestChoke 10 = .ok (.ifCond .ne 9, 3) := by decide +kernel
theorem dX8_bestChoke_13 : decode cX8_bestChoke 13 = .ok (.aload_n 0, 1) := by decide +kernel
theorem dX8_bestChoke_14 : decode cX8_bestChoke 14 = .ok (.iconst 1, 1) := by decide +kernel
theorem dX8_bestChoke_15 : decode cX8_bestChoke 15 = .ok (.invokevirtual 43, 3) := by decide +kernel
theorem dX8_bestChoke_18 : decode cX8_bestChoke 18 = .ok (.ireturn, 1) := by decide +kernel
theorem dX8_bestChoke_19 : decode cX8_bestChoke 19 = .ok (.iload_n 2, 1) := by decide +kernel
theorem dX8_bestChoke_20 : decode cX8_bestChoke 20 = .ok (.iconst 1, 1) := by decide +kernel
theorem dX8_bestChoke_21 : decode cX8_bestChoke 21 = .ok (.bipush 6, 2) := by decide +kernel
theorem dX8_bestChoke_23 : decode cX8_bestChoke 23 = .ok (.invokestatic 32, 3) := by decide +kernel
theorem dX8_bestChoke_26 : decode cX8_bestChoke 26 = .ok (.ifCond .ne 9, 3) := by decide +kernel
theorem dX8_bestChoke_29 : decode cX8_bestChoke 29 = .ok (.aload_n 0, 1) := by decide +kernel
theorem dX8_bestChoke_30 : decode cX8_bestChoke 30 = .ok (.iconst 2, 1) := by decide +kernel
theorem dX8_bestChoke_31 : decode cX8_bestChoke 31 = .ok (.invokevirtual 43, 3) := by decide +kernel
theorem dX8_bestChoke_34 : decode cX8_bestChoke 34 = .ok (.ireturn, 1) := by decide +kernel
theorem dX8_bestChoke_35 : decode cX8_bestChoke 35 = .ok (.aload_n 0, 1) := by decide +kernel
theorem dX8_bestChoke_36 : decode cX8_bestChoke 36 = .ok (.getfield 10, 3) := by decide +kernel
theorem dX8_bestChoke_39 : decode cX8_bestChoke 39 = .ok (.getfield 67, 3) := by decide +kernel
theorem dX8_bestChoke_42 : decode cX8_bestChoke 42 = .ok (.iload_n 1, 1) := by decide +kernel
theorem dX8_bestChoke_43 : decode cX8_bestChoke 43 = .ok (.aaload, 1) := by decide +kernel
theorem dX8_bestChoke_44 : decode cX8_bestChoke 44 = .ok (.iconst 4, 1) := by decide +kernel
theorem dX8_bestChoke_45 : decode cX8_bestChoke 45 = .ok (.iaload, 1) := by decide +kernel
theorem dX8_bestChoke_46 : decode cX8_bestChoke 46 = .ok (.iconst 1, 1) := by decide +kernel
theorem dX8_bestChoke_47 : decode cX8_bestChoke 47 = .ok (.if_icmp .ne 9, 3) := by decide +kernel
theorem dX8_bestChoke_50 : decode cX8_bestChoke 50 = .ok (.aload_n 0, 1) := by decide +kernel
theorem dX8_bestChoke_51 : decode cX8_bestChoke 51 = .ok (.iconst 3, 1) := by decide +kernel
theorem dX8_bestChoke_52 : decode cX8_bestChoke 52 = .ok (.invokevirtual 43, 3) := by decide +kernel
theorem dX8_bestChoke_55 : decode cX8_bestChoke 55 = .ok (.ireturn, 1) := by decide +kernel
theorem dX8_bestChoke_56 : decode cX8_bestChoke 56 = .ok (.aload_n 0, 1) := by decide +kernel
theorem dX8_bestChoke_57 : decode cX8_bestChoke 57 = .ok (.iload_n 1, 1) := by decide +kernel
theorem dX8_bestChoke_58 : decode cX8_bestChoke 58 = .ok (.iload_n 2, 1) := by decide +kernel
theorem dX8_bestChoke_59 : decode cX8_bestChoke 59 = .ok (.invokevirtual 141, 3) := by decide +kernel
theorem dX8_bestChoke_62 : decode cX8_bestChoke 62 = .ok (.ireturn, 1) := by decide +kernel
set_option maxRecDepth 20000 in
theorem ggX8_keptNow_X7_copy : GoodIn wsX8_keptNow wsX7_copy := goodIn_r _ [8, 9, 10, 7, 11, 12, 13, 14, 15, 16, 17, 18, 19, 20, 21, 22, 23, 24, 25, 26, 27, 28, 29, 30, 31, 32, 33, 34, 35, 36, 37, 111, 112, 113, 114, 115, 116, 117, 118, 119, 120, 121, 122, 123, 124] (by decide +kernel) (by decide +kernel)
set_option maxRecDepth 20000 in
theorem gX8_keptNow_X7_copy : GoodIn wsX8_keptNow (wsV RX8 101 RX7 yX7_copy wsX7_copy) := goodIn_app (goodIn_of _ (by decide +kernel)) ggX8_keptNow_X7_copy
set_option maxRecDepth 20000 in
theorem ggX8_keptNow_X7_run : GoodIn wsX8_keptNow wsX7_run := goodIn_r _ [41, 42, 43, 44, 7, 45, 23, 21, 37, 12, 13, 14, 15, 24, 46, 47, 48, 49, 19, 20, 22, 17, 18, 50, 51, 52, 53, 54, 55, 56, 57, 58, 59, 60, 26, 36, 61, 62, 63, 64, 16, 65, 66, 67, 68, 11, 69, 70, 71, 72, 73, 74, 75, 76, 25, 77, 78, 79, 80, 81, 82, 83, 84, 85, 86, 87, 88, 89, 90, 91, 92, 93, 94, 95, 96, 97, 98, 99, 100, 101, 102, 111, 112, 113, 114, 115, 116, 117, 118, 119, 120, 121, 122, 123, 124] (by decide +kernel) (by decide +kernel)
set_option maxRecDepth 20000 in
theorem gX8_keptNow_X7_run : GoodIn wsX8_keptNow (wsV RX8 106 RX7 yX7_run wsX7_run) := goodIn_app (goodIn_of _ (by decide +kernel)) ggX8_keptNow_X7_run
theorem dX8_keptNow_0 : decode cX8_keptNow 0 = .ok (.iload_n 2, 1) := by decide +kernel
theorem dX8_keptNow_1 : decode cX8_keptNow 1 = .ok (.ifCond .eq 13, 3) := by decide +kernel
theorem dX8_keptNow_4 : decode cX8_keptNow 4 = .ok (.aload_n 0, 1) := by decide +kernel
theorem dX8_keptNow_5 : decode cX8_keptNow 5 = .ok (.getfield 10, 3) := by decide +kernel
theorem dX8_keptNow_8 : decode cX8_keptNow 8 = .ok (.getfield 60, 3) := by decide +kernel
theorem dX8_keptNow_11 : decode cX8_keptNow 11 = .ok (.goto 10, 3) := by decide +kernel
theorem dX8_keptNow_14 : decode cX8_keptNow 14 = .ok (.aload_n 0, 1) := by decide +kernel
theorem dX8_keptNow_15 : decode cX8_keptNow 15 = .ok (.getfield 10, 3) := by decide +kernel
theorem dX8_keptNow_18 : decode cX8_keptNow 18 = .ok (.getfield 64, 3) := by decide +kernel
theorem dX8_keptNow_21 : decode cX8_keptNow 21 = .ok (.iload_n 1, 1) := by decide +kernel
theorem dX8_keptNow_22 : decode cX8_keptNow 22 = .ok (.baload, 1) := by decide +kernel
theorem dX8_keptNow_23 : decode cX8_keptNow 23 = .ok (.ifCond .ne 5, 3) := by decide +kernel
theorem dX8_keptNow_26 : decode cX8_keptNow 26 = .ok (.iconst 0, 1) := by decide +kernel
