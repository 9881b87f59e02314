theorem dX8_keptNow_27 : decode cX8_keptNow 27 = .ok (.ireturn, 1) := by decide +kernel
theorem dX8_keptNow_28 : decode cX8_keptNow 28 = .ok (.aload_n 0, 1) := by decide +kernel
theorem dX8_keptNow_29 : decode cX8_keptNow 29 = .ok (.getfield 10, 3) := by decide +kernel
theorem dX8_keptNow_32 : decode cX8_keptNow 32 = .ok (.invokevirtual 101, 3) := by decide +kernel
theorem dX8_keptNow_35 : decode cX8_keptNow 35 = .ok (.astore 4, 2) := by decide +kernel
theorem dX8_keptNow_37 : decode cX8_keptNow 37 = .ok (.iload_n 2, 1) := by decide +kernel
theorem dX8_keptNow_38 : decode cX8_keptNow 38 = .ok (.ifCond .eq 11, 3) := by decide +kernel
theorem dX8_keptNow_41 : decode cX8_keptNow 41 = .ok (.aload 4, 2) := by decide +kernel
theorem dX8_keptNow_43 : decode cX8_keptNow 43 = .ok (.getfield 60, 3) := by decide +kernel
theorem dX8_keptNow_46 : decode cX8_keptNow 46 = .ok (.goto 8, 3) := by decide +kernel
theorem dX8_keptNow_49 : decode cX8_keptNow 49 = .ok (.aload 4, 2) := by decide +kernel
theorem dX8_keptNow_51 : decode cX8_keptNow 51 = .ok (.getfield 64, 3) := by decide +kernel
theorem dX8_keptNow_54 : decode cX8_keptNow 54 = .ok (.iload_n 1, 1) := by decide +kernel
theorem dX8_keptNow_55 : decode cX8_keptNow 55 = .ok (.iconst 0, 1) := by decide +kernel
theorem dX8_keptNow_56 : decode cX8_keptNow 56 = .ok (.bastore, 1) := by decide +kernel
theorem dX8_keptNow_57 : decode cX8_keptNow 57 = .ok (.aload 4, 2) := by decide +kernel
theorem dX8_keptNow_59 : decode cX8_keptNow 59 = .ok (.iload_n 3, 1) := by decide +kernel
theorem dX8_keptNow_60 : decode cX8_keptNow 60 = .ok (.invokevirtual 106, 3) := by decide +kernel
theorem dX8_keptNow_63 : decode cX8_keptNow 63 = .ok (.aload_n 0, 1) := by decide +kernel
theorem dX8_keptNow_64 : decode cX8_keptNow 64 = .ok (.getfield 10, 3) := by decide +kernel
theorem dX8_keptNow_67 : decode cX8_keptNow 67 = .ok (.invokevirtual 101, 3) := by decide +kernel
theorem dX8_keptNow_70 : decode cX8_keptNow 70 = .ok (.iload_n 3, 1) := by decide +kernel
theorem dX8_keptNow_71 : decode cX8_keptNow 71 = .ok (.invokevirtual 106, 3) := by decide +kernel
theorem dX8_keptNow_74 : decode cX8_keptNow 74 = .ok (.isub, 1) := by decide +kernel
theorem dX8_keptNow_75 : decode cX8_keptNow 75 = .ok (.ireturn, 1) := by decide +kernel
set_option maxRecDepth 20000 in
theorem ggX8_keptBack_X8_isBeside : GoodIn wsX8_keptBack wsX8_isBeside := goodIn_r _ [5, 6, 7, 4, 8, 9, 10, 11] (by decide +kernel) (by decide +kernel)
set_option maxRecDepth 20000 in
theorem gX8_keptBack_X8_isBeside : GoodIn wsX8_keptBack (va_wsS RX8 56 yX8_isBeside wsX8_isBeside) := goodIn_app (goodIn_of _ (by decide +kernel)) ggX8_keptBack_X8_isBeside
set_option maxRecDepth 20000 in
theorem ggX8_keptBack_X8_no : GoodIn wsX8_keptBack wsX8_no := goodIn_r _ [15, 1, 122, 123, 124, 125, 126, 127, 128, 129] (by decide +kernel) (by decide +kernel)
set_option maxRecDepth 20000 in
theorem gX8_keptBack_X8_no : GoodIn wsX8_keptBack (wsV RX8 43 RX8 yX8_no wsX8_no) := goodIn_app (goodIn_of _ (by decide +kernel)) ggX8_keptBack_X8_no
set_option maxRecDepth 20000 in
theorem ggX8_keptBack_X8_in : GoodIn wsX8_keptBack wsX8_in := goodIn_r _ [11] (by decide +kernel) (by decide +kernel)
set_option maxRecDepth 20000 in
theorem gX8_keptBack_X8_in : GoodIn wsX8_keptBack (va_wsS RX8 32 yX8_in wsX8_in) := goodIn_app (goodIn_of _ (by decide +kernel)) ggX8_keptBack_X8_in
set_option maxRecDepth 20000 in
theorem ggX8_keptBack_X8_keptNow : GoodIn wsX8_keptBack wsX8_keptNow := goodIn_r _ [19, 20, 21, 22, 23, 24, 25, 26, 27, 28, 29, 30, 31, 32, 33, 34, 35, 36, 37, 38, 39, 40, 41, 42, 43, 44, 45, 46, 47, 48, 49, 50, 51, 52, 53, 54, 55, 56, 57, 58, 59, 60, 61, 62, 63, 64, 65, 66, 67, 68, 69, 70, 71, 72, 73, 74, 75, 76, 77, 78, 79, 80, 81, 82, 83, 84, 85, 86, 87, 88, 89, 90, 91, 92, 93, 94, 95, 96, 97, 98, 99, 100, 101, 102, 103, 104, 105, 106, 107, 108, 109, 110, 111, 112, 113, 114, 115, 116, 117, 118, 119, 120, 121, 122, 123, 124, 125, 126, 127, 128, 129, 130, 131, 132, 133, 134, 135, 136, 137, 138, 139, 140, 141, 142, 143] (by decide +kernel) (by decide +kernel)
set_option maxRecDepth 20000 in
theorem gX8_keptBack_X8_keptNow : GoodIn wsX8_keptBack (wsV RX8 144 RX8 yX8_keptNow wsX8_keptNow) := goodIn_app (goodIn_of _ (by decide +kernel)) ggX8_keptBack_X8_keptNow
theorem dX8_keptBack_0 : decode cX8_keptBack 0 = .ok (.aload_n 0, 1) := by decide +kernel
theorem dX8_keptBack_1 : decode cX8_keptBack 1 = .ok (.iconst 0, 1) := by decide +kernel
theorem dX8_keptBack_2 : decode cX8_keptBack 2 = .ok (.putfield 29, 3) := by decide +kernel
theorem dX8_keptBack_5 : decode cX8_keptBack 5 = .ok (.iload_n 1, 1) := by decide +kernel
theorem dX8_keptBack_6 : decode cX8_keptBack 6 = .ok (.iload_n 2, 1) := by decide +kernel
theorem dX8_keptBack_7 : decode cX8_keptBack 7 = .ok (.invokestatic 56, 3) := by decide +kernel
theorem dX8_keptBack_10 : decode cX8_keptBack 10 = .ok (.ifCond .ne 9, 3) := by decide +kernel
theorem dX8_keptBack_13 : decode cX8_keptBack 13 = .ok (.aload_n 0, 1) := by decide +kernel
theorem dX8_keptBack_14 : decode cX8_keptBack 14 = .ok (.iconst 1, 1) := by decide +kernel
theorem dX8_keptBack_15 : decode cX8_keptBack 15 = .ok (.invokevirtual 43, 3) := by decide +kernel
theorem dX8_keptBack_18 : decode cX8_keptBack 18 = .ok (.ireturn, 1) := by decide +kernel
theorem dX8_keptBack_19 : decode cX8_keptBack 19 = .ok (.iload_n 3, 1) := by decide +kernel
theorem dX8_keptBack_20 : decode cX8_keptBack 20 = .ok (.iconst 1, 1) := by decide +kernel
theorem dX8_keptBack_21 : decode cX8_keptBack 21 = .ok (.bipush 6, 2) := by decide +kernel
theorem dX8_keptBack_23 : decode cX8_keptBack 23 = .ok (.invokestatic 32, 3) := by decide +kernel
theorem dX8_keptBack_26 : decode cX8_keptBack 26 = .ok (.ifCond .ne 9, 3) := by decide +kernel
theorem dX8_keptBack_29 : decode cX8_keptBack 29 = .ok (.aload_n 0, 1) := by decide +kernel
theorem dX8_keptBack_30 : decode cX8_keptBack 30 = .ok (.iconst 2, 1) := by decide +kernel
theorem dX8_keptBack_31 : decode cX8_keptBack 31 = .ok (.invokevirtual 43, 3) := by decide +kernel
theorem dX8_keptBack_34 : decode cX8_keptBack 34 = .ok (.ireturn, 1) := by decide +kernel
theorem dX8_keptBack_35 : decode cX8_keptBack 35 = .ok (.aload_n 0, 1) := by decide +kernel
theorem dX8_keptBack_36 : decode cX8_keptBack 36 = .ok (.iload_n 1, 1) := by decide +kernel
theorem dX8_keptBack_37 : decode cX8_keptBack 37 = .ok (.iload_n 2, 1) := by decide +kernel
theorem dX8_keptBack_38 : decode cX8_keptBack 38 = .ok (.iload_n 3, 1) := by decide +kernel
theorem dX8_keptBack_39 : decode cX8_keptBack 39 = .ok (.invokevirtual 144, 3) := by decide +kernel
theorem dX8_keptBack_42 : decode cX8_keptBack 42 = .ok (.ireturn, 1) := by decide +kernel
set_option maxRecDepth 20000 in
theorem ggX8_mayLift_X8_in : GoodIn wsX8_mayLift wsX8_in := goodIn_r _ [5] (by decide +kernel) (by decide +kernel)
set_option maxRecDepth 20000 in
theorem gX8_mayLift_X8_in : GoodIn wsX8_mayLift (va_wsS RX8 32 yX8_in wsX8_in) := goodIn_app (goodIn_of _ (by decide +kernel)) ggX8_mayLift_X8_in
set_option maxRecDepth 20000 in
theorem ggX8_mayLift_X8_no : GoodIn wsX8_mayLift wsX8_no := goodIn_r _ [9, 1, 24, 25, 26, 27, 28, 29, 30, 31] (by decide +kernel) (by decide +kernel)
set_option maxRecDepth 20000 in
theorem gX8_mayLift_X8_no : GoodIn wsX8_mayLift (wsV RX8 43 RX8 yX8_no wsX8_no) := goodIn_app (goodIn_of _ (by decide +kernel)) ggX8_mayLift_X8_no
set_option maxRecDepth 20000 in
theorem ggX8_mayLift_X8_mayNow : GoodIn wsX8_mayLift wsX8_mayNow := goodIn_r _ [13, 14, 15, 16, 17, 18, 19, 20, 21, 22, 23, 24, 25, 26, 27, 28, 29, 30, 31, 32, 33, 34, 35, 36, 37, 38, 39, 40, 41, 42, 43, 44, 45] (by decide +kernel) (by decide +kernel)
set_option maxRecDepth 20000 in
theorem gX8_mayLift_X8_mayNow : GoodIn wsX8_mayLift (wsV RX8 98 RX8 yX8_mayNow wsX8_mayNow) := goodIn_app (goodIn_of _ (by decide +kernel)) ggX8_mayLift_X8_mayNow
theorem dX8_mayLift_0 : decode cX8_mayLift 0 = .ok (.aload_n 0, 1) := by decide +kernel
theorem dX8_mayLift_1 : decode cX8_mayLift 1 = .ok (.iconst 0, 1) := by decide +kernel
theorem dX8_mayLift_2 : decode cX8_mayLift 2 = .ok (.putfield 29, 3) := by decide +kernel
theorem dX8_mayLift_5 : decode cX8_mayLift 5 = .ok (.iload_n 1, 1) := by decide +kernel
theorem dX8_mayLift_6 : decode cX8_mayLift 6 = .ok (.iconst 0, 1) := by decide +kernel
theorem dX8_mayLift_7 : decode cX8_mayLift 7 = .ok (.iconst 2, 1) := by decide +kernel
theorem dX8_mayLift_8 : decode cX8_mayLift 8 = .ok (.invokestatic 32, 3) := by decide +kernel
theorem dX8_mayLift_11 : decode cX8_mayLift 11 = .ok (.ifCond .ne 9, 3) := by decide +kernel
theorem dX8_mayLift_14 : decode cX8_mayLift 14 = .ok (.aload_n 0, 1) := by decide +kernel
theorem dX8_mayLift_15 : decode cX8_mayLift 15 = .ok (.iconst 1, 1) := by decide +kernel
theorem dX8_mayLift_16 : decode cX8_mayLift 16 = .ok (.invokevirtual 43, 3) := by decide +kernel
theorem dX8_mayLift_19 : decode cX8_mayLift 19 = .ok (.ireturn, 1) := by decide +kernel
theorem dX8_mayLift_20 : decode cX8_mayLift 20 = .ok (.aload_n 0, 1) := by decide +kernel
theorem dX8_mayLift_21 : decode cX8_mayLift 21 = .ok (.iload_n 1, 1) := by decide +kernel
theorem dX8_mayLift_22 : decode cX8_mayLift 22 = .ok (.invokevirtual 98, 3) := by decide +kernel
theorem dX8_mayLift_25 : decode cX8_mayLift 25 = .ok (.ireturn, 1) := by decide +kernel
set_option maxRecDepth 20000 in
theorem ggX8_digest_X8_manyNow : GoodIn wsX8_digest wsX8_manyNow := goodIn_r _ [13, 4, 14, 15, 16, 17, 5, 18, 19, 20, 21, 22, 12, 23, 143, 144, 145, 146, 147, 148, 149, 150, 151, 152, 153, 154, 155, 156, 157, 158, 159, 160, 161, 162, 163, 164] (by decide +kernel) (by decide +kernel)
set_option maxRecDepth 20000 in
theorem gX8_digest_X8_manyNow : GoodIn wsX8_digest (wsV RX8 136 RX8 yX8_manyNow wsX8_manyNow) := goodIn_app (goodIn_of _ (by decide +kernel)) ggX8_digest_X8_manyNow
set_option maxRecDepth 20000 in
theorem ggX8_digest_X8_cellNow : GoodIn wsX8_digest wsX8_cellNow := goodIn_r _ [27, 4, 28, 14, 29, 30, 31, 32, 33, 34, 35, 36, 37, 38, 39, 143, 144, 145, 146, 147, 148, 149, 150, 151, 152, 153, 154, 155, 156, 157, 158, 159, 160, 161, 162, 163, 164] (by decide +kernel) (by decide +kernel)
set_option maxRecDepth 20000 in
theorem gX8_digest_X8_cellNow : GoodIn wsX8_digest (wsV RX8 133 RX8 yX8_cellNow wsX8_cellNow) := goodIn_app (goodIn_of _ (by decide +kernel)) ggX8_digest_X8_cellNow
set_option maxRecDepth 20000 in
theorem ggX8_digest_X8_bestNow : GoodIn wsX8_digest wsX8_bestNow := goodIn_r _ [43, 4, 6, 44, 45, 46, 47, 48, 49, 50, 32, 51, 52, 53, 34, 54, 55, 56, 57, 39, 58, 59, 60, 61, 62, 63, 64, 65, 66, 67, 68, 69, 70, 71, 72, 73, 74, 75, 76, 77, 78, 79, 80, 81, 82, 83, 84, 85, 86, 87, 88, 89, 90, 91, 92, 93, 94, 95, 96, 97, 98, 35, 36, 37, 38, 99, 30, 31, 33, 100, 101, 102, 103, 104, 105, 106, 107, 108, 109, 110, 111, 112, 113, 114, 115, 116, 117, 118, 119, 120, 121, 122, 123, 124, 125, 126, 127, 128, 129, 130, 131, 132, 133, 143, 144, 145, 146, 147, 148, 149, 150, 151, 152, 153, 154, 155, 156, 157, 158, 159, 160, 161, 162, 163, 164] (by decide +kernel) (by decide +kernel)
set_option maxRecDepth 20000 in
theorem gX8_digest_X8_bestNow : GoodIn wsX8_digest (wsV RX8 141 RX8 yX8_bestNow wsX8_bestNow) := goodIn_app (goodIn_of _ (by decide +kernel)) ggX8_digest_X8_bestNow
set_option maxRecDepth 20000 in
theorem ggX8_digest_X8_mayNow : GoodIn wsX8_digest wsX8_mayNow := goodIn_r _ [137, 4, 18, 7, 138, 88, 46, 89, 44, 45, 47, 143, 144, 145, 146, 147, 148, 149, 150, 151, 152, 153, 154, 155, 156, 157, 158, 159, 160, 161, 162, 163, 164] (by decide +kernel) (by decide +kernel)
set_option maxRecDepth 20000 in
theorem gX8_digest_X8_mayNow : GoodIn wsX8_digest (wsV RX8 98 RX8 yX8_mayNow wsX8_mayNow) := goodIn_app (goodIn_of _ (by decide +kernel)) ggX8_digest_X8_mayNow
set_option maxRecDepth 20000 in
theorem ggX8_digest_X7_copy : GoodIn wsX8_digest wsX7_copy := goodIn_r _ [51, 52, 53, 32, 34, 54, 55, 56, 57, 39, 58, 59, 60, 61, 62, 63, 64, 65, 66, 67, 68, 69, 70, 71, 72, 73, 74, 75, 76, 77, 78, 151, 152, 153, 154, 155, 156, 157, 158, 159, 160, 161, 162, 163, 164] (by decide +kernel) (by decide +kernel)
set_option maxRecDepth 20000 in
theorem gX8_digest_X7_copy : GoodIn wsX8_digest (wsV RX8 101 RX7 yX7_copy wsX7_copy) := goodIn_app (goodIn_of _ (by decide +kernel)) ggX8_digest_X7_copy
set_option maxRecDepth 20000 in
theorem ggX8_digest_X7_run : GoodIn wsX8_digest wsX7_run := goodIn_r _ [82, 83, 84, 85, 32, 86, 64, 62, 78, 54, 55, 56, 57, 65, 87, 88, 46, 89, 60, 61, 63, 58, 59, 90, 91, 92, 93, 94, 95, 96, 97, 98, 45, 47, 67, 77, 35, 36, 37, 38, 39, 99, 30, 31, 33, 34, 100, 101, 102, 103, 104, 105, 106, 107, 66, 108, 109, 110, 111, 112, 113, 114, 115, 116, 117, 118, 119, 120, 121, 122, 123, 124, 125, 126, 127, 128, 129, 130, 131, 132, 133, 151, 152, 153, 154, 155, 156, 157, 158, 159, 160, 161, 162, 163, 164] (by decide +kernel) (by decide +kernel)
set_option maxRecDepth 20000 in
theorem gX8_digest_X7_run : GoodIn wsX8_digest (wsV RX8 106 RX7 yX7_run wsX7_run) := goodIn_app (goodIn_of _ (by decide +kernel)) ggX8_digest_X7_run
set_option maxRecDepth 20000 in
theorem ggX8_digest_X8_keptNow : GoodIn wsX8_digest wsX8_keptNow := goodIn_r _ [142, 4, 15, 16, 48, 49, 50, 32, 51, 52, 53, 34, 54, 55, 56, 57, 39, 58, 59, 60, 61, 62, 63, 64, 65, 66, 67, 68, 69, 70, 71, 72, 73, 74, 75, 76, 77, 78, 79, 80, 81, 82, 83, 84, 85, 86, 87, 88, 46, 89, 90, 91, 92, 93, 94, 95, 96, 97, 98, 45, 47, 35, 36, 37, 38, 99, 30, 31, 33, 100, 101, 102, 103, 104, 105, 106, 107, 108, 109, 110, 111, 112, 113, 114, 115, 116, 117, 118, 119, 120, 121, 122, 123, 124, 125, 126, 127, 128, 129, 130, 131, 132, 133, 143, 144, 145, 146, 147, 148, 149, 150, 151, 152, 153, 154, 155, 156, 157, 158, 159, 160, 161, 162, 163, 164] (by decide +kernel) (by decide +kernel)
set_option maxRecDepth 20000 in
theorem gX8_digest_X8_keptNow : GoodIn wsX8_digest (wsV RX8 144 RX8 yX8_keptNow wsX8_keptNow) := goodIn_app (goodIn_of _ (by decide +kernel)) ggX8_digest_X8_keptNow
theorem dX8_digest_0 : decode cX8_digest 0 = .ok (.aload_n 0, 1) := by decide +kernel
theorem dX8_digest_1 : decode cX8_digest 1 = .ok (.iconst 0, 1) := by decide +kernel
theorem dX8_digest_2 : decode cX8_digest 2 = .ok (.putfield 29, 3) := by decide +kernel
theorem dX8_digest_5 : decode cX8_digest 5 = .ok (.ldc2_w 148, 3) := by decide +kernel
theorem dX8_digest_8 : decode cX8_digest 8 = .ok (.lstore_n 1, 1) := by decide +kernel
theorem dX8_digest_9 : decode cX8_digest 9 = .ok (.iconst 0, 1) := by decide +kernel
theorem dX8_digest_10 : decode cX8_digest 10 = .ok (.istore_n 3, 1) := by decide +kernel
theorem dX8_digest_11 : decode cX8_digest 11 = .ok (.iload_n 3, 1) := by decide +kernel
theorem dX8_digest_12 : decode cX8_digest 12 = .ok (.bipush 14, 2) := by decide +kernel
theorem dX8_digest_14 : decode cX8_digest 14 = .ok (.if_icmp .gt 22, 3) := by decide +kernel
theorem dX8_digest_17 : decode cX8_digest 17 = .ok (.lload_n 1, 1) := by decide +kernel
theorem dX8_digest_18 : decode cX8_digest 18 = .ok (.ldc2_w 150, 3) := by decide +kernel
theorem dX8_digest_21 : decode cX8_digest 21 = .ok (.lmul, 1) := by decide +kernel
theorem dX8_digest_22 : decode cX8_digest 22 = .ok (.aload_n 0, 1) := by decide +kernel
theorem dX8_digest_23 : decode cX8_digest 23 = .ok (.iload_n 3, 1) := by decide +kernel
theorem dX8_digest_24 : decode cX8_digest 24 = .ok (.invokevirtual 136, 3) := by decide +kernel
theorem dX8_digest_27 : decode cX8_digest 27 = .ok (.i2l, 1) := by decide +kernel
theorem dX8_digest_28 : decode cX8_digest 28 = .ok (.ladd, 1) := by decide +kernel
theorem dX8_digest_29 : decode cX8_digest 29 = .ok (.lstore_n 1, 1) := by decide +kernel
theorem dX8_digest_30 : decode cX8_digest 30 = .ok (.iinc 3 1, 3) := by decide +kernel
theorem dX8_digest_33 : decode cX8_digest 33 = .ok (.goto (-22), 3) := by decide +kernel
theorem dX8_digest_36 : decode cX8_digest 36 = .ok (.iconst 0, 1) := by decide +kernel
theorem dX8_digest_37 : decode cX8_digest 37 = .ok (.istore_n 3, 1) := by decide +kernel
theorem dX8_digest_38 : decode cX8_digest 38 = .ok (.iload_n 3, 1) := by decide +kernel
theorem dX8_digest_39 : decode cX8_digest 39 = .ok (.bipush 16, 2) := by decide +kernel
theorem dX8_digest_41 : decode cX8_digest 41 = .ok (.if_icmp .ge 39, 3) := by decide +kernel
theorem dX8_digest_44 : decode cX8_digest 44 = .ok (.iconst 0, 1) := by decide +kernel
theorem dX8_digest_45 : decode cX8_digest 45 = .ok (.istore 4, 2) := by decide +kernel
theorem dX8_digest_47 : decode cX8_digest 47 = .ok (.iload 4, 2) := by decide +kernel
theorem dX8_digest_49 : decode cX8_digest 49 = .ok (.iconst 4, 1) := by decide +kernel
theorem dX8_digest_50 : decode cX8_digest 50 = .ok (.if_icmp .gt 24, 3) := by decide +kernel
theorem dX8_digest_53 : decode cX8_digest 53 = .ok (.lload_n 1, 1) := by decide +kernel
theorem dX8_digest_54 : decode cX8_digest 54 = .ok (.ldc2_w 150, 3) := by decide +kernel
theorem dX8_digest_57 : decode cX8_digest 57 = .ok (.lmul, 1) := by decide +kernel
theorem dX8_digest_58 : decode cX8_digest 58 = .ok (.aload_n 0, 1) := by decide +kernel
theorem dX8_digest_59 : decode cX8_digest 59 = .ok (.iload_n 3, 1) := by decide +kernel
theorem dX8_digest_60 : decode cX8_digest 60 = .ok (.iload 4, 2) := by decide +kernel
theorem dX8_digest_62 : decode cX8_digest 62 = .ok (.invokevirtual 133, 3) := by decide +kernel
theorem dX8_digest_65 : decode cX8_digest 65 = .ok (.i2l, 1) := by decide +kernel
theorem dX8_digest_66 : decode cX8_digest 66 = .ok (.ladd, 1) := by decide +kernel
theorem dX8_digest_67 : decode cX8_digest 67 = .ok (.lstore_n 1, 1) := by decide +kernel
theorem dX8_digest_68 : decode cX8_digest 68 = .ok (.iinc 4 1, 3) := by decide +kernel
theorem dX8_digest_71 : decode cX8_digest 71 = .ok (.goto (-24), 3) := by decide +kernel
theorem dX8_digest_74 : decode cX8_digest 74 = .ok (.iinc 3 1, 3) := by decide +kernel
theorem dX8_digest_77 : decode cX8_digest 77 = .ok (.goto (-39), 3) := by decide +kernel
theorem dX8_digest_80 : decode cX8_digest 80 = .ok (.iconst 0, 1) := by decide +kernel
theorem dX8_digest_81 : decode cX8_digest 81 = .ok (.istore_n 3, 1) := by decide +kernel
theorem dX8_digest_82 : decode cX8_digest 82 = .ok (.iload_n 3, 1) := by decide +kernel
theorem dX8_digest_83 : decode cX8_digest 83 = .ok (.aload_n 0, 1) := by decide +kernel
theorem dX8_digest_84 : decode cX8_digest 84 = .ok (.getfield 10, 3) := by decide +kernel
theorem dX8_digest_87 : decode cX8_digest 87 = .ok (.getfield 40, 3) := by decide +kernel
theorem dX8_digest_90 : decode cX8_digest 90 = .ok (.if_icmp .ge 73, 3) := by decide +kernel
theorem dX8_digest_93 : decode cX8_digest 93 = .ok (.iconst 0, 1) := by decide +kernel
theorem dX8_digest_94 : decode cX8_digest 94 = .ok (.istore 4, 2) := by decide +kernel
theorem dX8_digest_96 : decode cX8_digest 96 = .ok (.iload 4, 2) := by decide +kernel
theorem dX8_digest_98 : decode cX8_digest 98 = .ok (.bipush 13, 2) := by decide +kernel
theorem dX8_digest_100 : decode cX8_digest 100 = .ok (.if_icmp .gt 29, 3) := by decide +kernel
theorem dX8_digest_103 : decode cX8_digest 103 = .ok (.lload_n 1, 1) := by decide +kernel
theorem dX8_digest_104 : decode cX8_digest 104 = .ok (.ldc2_w 150, 3) := by decide +kernel
theorem dX8_digest_107 : decode cX8_digest 107 = .ok (.lmul, 1) := by decide +kernel
theorem dX8_digest_108 : decode cX8_digest 108 = .ok (.aload_n 0, 1) := by decide +kernel
theorem dX8_digest_109 : decode cX8_digest 109 = .ok (.getfield 10, 3) := by decide +kernel
theorem dX8_digest_112 : decode cX8_digest 112 = .ok (.getfield 67, 3) := by decide +kernel
theorem dX8_digest_115 : decode cX8_digest 115 = .ok (.iload_n 3, 1) := by decide +kernel
theorem dX8_digest_116 : decode cX8_digest 116 = .ok (.aaload, 1) := by decide +kernel
theorem dX8_digest_117 : decode cX8_digest 117 = .ok (.iload 4, 2) := by decide +kernel
theorem dX8_digest_119 : decode cX8_digest 119 = .ok (.iaload, 1) := by decide +kernel
theorem dX8_digest_120 : decode cX8_digest 120 = .ok (.i2l, 1) := by decide +kernel
theorem dX8_digest_121 : decode cX8_digest 121 = .ok (.ladd, 1) := by decide +kernel
theorem dX8_digest_122 : decode cX8_digest 122 = .ok (.lstore_n 1, 1) := by decide +kernel
theorem dX8_digest_123 : decode cX8_digest 123 = .ok (.iinc 4 1, 3) := by decide +kernel
theorem dX8_digest_126 : decode cX8_digest 126 = .ok (.goto (-30), 3) := by decide +kernel
theorem dX8_digest_129 : decode cX8_digest 129 = .ok (.aload_n 0, 1) := by decide +kernel
theorem dX8_digest_130 : decode cX8_digest 130 = .ok (.getfield 10, 3) := by decide +kernel
theorem dX8_digest_133 : decode cX8_digest 133 = .ok (.getfield 67, 3) := by decide +kernel
theorem dX8_digest_136 : decode cX8_digest 136 = .ok (.iload_n 3, 1) := by decide +kernel
theorem dX8_digest_137 : decode cX8_digest 137 = .ok (.aaload, 1) := by decide +kernel
theorem dX8_digest_138 : decode cX8_digest 138 = .ok (.iconst 4, 1) := by decide +kernel
theorem dX8_digest_139 : decode cX8_digest 139 = .ok (.iaload, 1) := by decide +kernel
theorem dX8_digest_140 : decode cX8_digest 140 = .ok (.ifCond .ne 17, 3) := by decide +kernel
theorem dX8_digest_143 : decode cX8_digest 143 = .ok (.lload_n 1, 1) := by decide +kernel
theorem dX8_digest_144 : decode cX8_digest 144 = .ok (.ldc2_w 150, 3) := by decide +kernel
theorem dX8_digest_147 : decode cX8_digest 147 = .ok (.lmul, 1) := by decide +kernel
theorem dX8_digest_148 : decode cX8_digest 148 = .ok (.aload_n 0, 1) := by decide +kernel
theorem dX8_digest_149 : decode cX8_digest 149 = .ok (.iload_n 3, 1) := by decide +kernel
theorem dX8_digest_150 : decode cX8_digest 150 = .ok (.iconst 2, 1) := by decide +kernel
theorem dX8_digest_151 : decode cX8_digest 151 = .ok (.invokevirtual 141, 3) := by decide +kernel
theorem dX8_digest_154 : decode cX8_digest 154 = .ok (.i2l, 1) := by decide +kernel
theorem dX8_digest_155 : decode cX8_digest 155 = .ok (.ladd, 1) := by decide +kernel
theorem dX8_digest_156 : decode cX8_digest 156 = .ok (.lstore_n 1, 1) := by decide +kernel
theorem dX8_digest_157 : decode cX8_digest 157 = .ok (.iinc 3 1, 3) := by decide +kernel
theorem dX8_digest_160 : decode cX8_digest 160 = .ok (.goto (-78), 3) := by decide +kernel
theorem dX8_digest_163 : decode cX8_digest 163 = .ok (.iconst 0, 1) := by decide +kernel
theorem dX8_digest_164 : decode cX8_digest 164 = .ok (.istore_n 3, 1) := by decide +kernel
theorem dX8_digest_165 : decode cX8_digest 165 = .ok (.iload_n 3, 1) := by decide +kernel
theorem dX8_digest_166 : decode cX8_digest 166 = .ok (.iconst 3, 1) := by decide +kernel
theorem dX8_digest_167 : decode cX8_digest 167 = .ok (.if_icmp .ge 54, 3) := by decide +kernel
theorem dX8_digest_170 : decode cX8_digest 170 = .ok (.iconst 0, 1) := by decide +kernel
theorem dX8_digest_171 : decode cX8_digest 171 = .ok (.istore 4, 2) := by decide +kernel
theorem dX8_digest_173 : decode cX8_digest 173 = .ok (.iload 4, 2) := by decide +kernel
theorem dX8_digest_175 : decode cX8_digest 175 = .ok (.iconst 3, 1) := by decide +kernel
theorem dX8_digest_176 : decode cX8_digest 176 = .ok (.if_icmp .gt 26, 3) := by decide +kernel
theorem dX8_digest_179 : decode cX8_digest 179 = .ok (.lload_n 1, 1) := by decide +kernel
theorem dX8_digest_180 : decode cX8_digest 180 = .ok (.ldc2_w 150, 3) := by decide +kernel
theorem dX8_digest_183 : decode cX8_digest 183 = .ok (.lmul, 1) := by decide +kernel
theorem dX8_digest_184 : decode cX8_digest 184 = .ok (.aload_n 0, 1) := by decide +kernel
theorem dX8_digest_185 : decode cX8_digest 185 = .ok (.getfield 18, 3) := by decide +kernel
theorem dX8_digest_188 : decode cX8_digest 188 = .ok (.iload_n 3, 1) := by decide +kernel
theorem dX8_digest_189 : decode cX8_digest 189 = .ok (.aaload, 1) := by decide +kernel
theorem dX8_digest_190 : decode cX8_digest 190 = .ok (.iload 4, 2) := by decide +kernel
theorem dX8_digest_192 : decode cX8_digest 192 = .ok (.iaload, 1) := by decide +kernel
theorem dX8_digest_193 : decode cX8_digest 193 = .ok (.i2l, 1) := by decide +kernel
theorem dX8_digest_194 : decode cX8_digest 194 = .ok (.ladd, 1) := by decide +kernel
theorem dX8_digest_195 : decode cX8_digest 195 = .ok (.lstore_n 1, 1) := by decide +kernel
theorem dX8_digest_196 : decode cX8_digest 196 = .ok (.iinc 4 1, 3) := by decide +kernel
theorem dX8_digest_199 : decode cX8_digest 199 = .ok (.goto (-26), 3) := by decide +kernel
theorem dX8_digest_202 : decode cX8_digest 202 = .ok (.lload_n 1, 1) := by decide +kernel
theorem dX8_digest_203 : decode cX8_digest 203 = .ok (.ldc2_w 150, 3) := by decide +kernel
theorem dX8_digest_206 : decode cX8_digest 206 = .ok (.lmul, 1) := by decide +kernel
theorem dX8_digest_207 : decode cX8_digest 207 = .ok (.aload_n 0, 1) := by decide +kernel
theorem dX8_digest_208 : decode cX8_digest 208 = .ok (.iload_n 3, 1) := by decide +kernel
theorem dX8_digest_209 : decode cX8_digest 209 = .ok (.invokevirtual 98, 3) := by decide +kernel
theorem dX8_digest_212 : decode cX8_digest 212 = .ok (.i2l, 1) := by decide +kernel
theorem dX8_digest_213 : decode cX8_digest 213 = .ok (.ladd, 1) := by decide +kernel
theorem dX8_digest_214 : decode cX8_digest 214 = .ok (.lstore_n 1, 1) := by decide +kernel
theorem dX8_digest_215 : decode cX8_digest 215 = .ok (.iinc 3 1, 3) := by decide +kernel
theorem dX8_digest_218 : decode cX8_digest 218 = .ok (.goto (-53), 3) := by decide +kernel
theorem dX8_digest_221 : decode cX8_digest 221 = .ok (.iconst 0, 1) := by decide +kernel
theorem dX8_digest_222 : decode cX8_digest 222 = .ok (.istore_n 3, 1) := by decide +kernel
theorem dX8_digest_223 : decode cX8_digest 223 = .ok (.iload_n 3, 1) := by decide +kernel
theorem dX8_digest_224 : decode cX8_digest 224 = .ok (.iconst 4, 1) := by decide +kernel
theorem dX8_digest_225 : decode cX8_digest 225 = .ok (.if_icmp .gt 23, 3) := by decide +kernel
theorem dX8_digest_228 : decode cX8_digest 228 = .ok (.lload_n 1, 1) := by decide +kernel
theorem dX8_digest_229 : decode cX8_digest 229 = .ok (.ldc2_w 150, 3) := by decide +kernel
theorem dX8_digest_232 : decode cX8_digest 232 = .ok (.lmul, 1) := by decide +kernel
theorem dX8_digest_233 : decode cX8_digest 233 = .ok (.aload_n 0, 1) := by decide +kernel
theorem dX8_digest_234 : decode cX8_digest 234 = .ok (.getfield 22, 3) := by decide +kernel
theorem dX8_digest_237 : decode cX8_digest 237 = .ok (.iload_n 3, 1) := by decide +kernel
theorem dX8_digest_238 : decode cX8_digest 238 = .ok (.iaload, 1) := by decide +kernel
theorem dX8_digest_239 : decode cX8_digest 239 = .ok (.i2l, 1) := by decide +kernel
theorem dX8_digest_240 : decode cX8_digest 240 = .ok (.ladd, 1) := by decide +kernel
theorem dX8_digest_241 : decode cX8_digest 241 = .ok (.lstore_n 1, 1) := by decide +kernel
theorem dX8_digest_242 : decode cX8_digest 242 = .ok (.iinc 3 1, 3) := by decide +kernel
theorem dX8_digest_245 : decode cX8_digest 245 = .ok (.goto (-22), 3) := by decide +kernel
theorem dX8_digest_248 : decode cX8_digest 248 = .ok (.lload_n 1, 1) := by decide +kernel
theorem dX8_digest_249 : decode cX8_digest 249 = .ok (.ldc2_w 150, 3) := by decide +kernel
theorem dX8_digest_252 : decode cX8_digest 252 = .ok (.lmul, 1) := by decide +kernel
theorem dX8_digest_253 : decode cX8_digest 253 = .ok (.aload_n 0, 1) := by decide +kernel
theorem dX8_digest_254 : decode cX8_digest 254 = .ok (.getfield 10, 3) := by decide +kernel
theorem dX8_digest_257 : decode cX8_digest 257 = .ok (.invokevirtual 101, 3) := by decide +kernel
theorem dX8_digest_260 : decode cX8_digest 260 = .ok (.iconst 3, 1) := by decide +kernel
theorem dX8_digest_261 : decode cX8_digest 261 = .ok (.invokevirtual 106, 3) := by decide +kernel
theorem dX8_digest_264 : decode cX8_digest 264 = .ok (.i2l, 1) := by decide +kernel
theorem dX8_digest_265 : decode cX8_digest 265 = .ok (.ladd, 1) := by decide +kernel
theorem dX8_digest_266 : decode cX8_digest 266 = .ok (.lstore_n 1, 1) := by decide +kernel
theorem dX8_digest_267 : decode cX8_digest 267 = .ok (.lload_n 1, 1) := by decide +kernel
theorem dX8_digest_268 : decode cX8_digest 268 = .ok (.ldc2_w 150, 3) := by decide +kernel
theorem dX8_digest_271 : decode cX8_digest 271 = .ok (.lmul, 1) := by decide +kernel
theorem dX8_digest_272 : decode cX8_digest 272 = .ok (.aload_n 0, 1) := by decide +kernel
theorem dX8_digest_273 : decode cX8_digest 273 = .ok (.iconst 5, 1) := by decide +kernel
theorem dX8_digest_274 : decode cX8_digest 274 = .ok (.iconst 1, 1) := by decide +kernel
theorem dX8_digest_275 : decode cX8_digest 275 = .ok (.iconst 2, 1) := by decide +kernel
theorem dX8_digest_276 : decode cX8_digest 276 = .ok (.invokevirtual 144, 3) := by decide +kernel
theorem dX8_digest_279 : decode cX8_digest 279 = .ok (.i2l, 1) := by decide +kernel
theorem dX8_digest_280 : decode cX8_digest 280 = .ok (.ladd, 1) := by decide +kernel
theorem dX8_digest_281 : decode cX8_digest 281 = .ok (.ldc2_w 150, 3) := by decide +kernel
theorem dX8_digest_284 : decode cX8_digest 284 = .ok (.lmul, 1) := by decide +kernel
theorem dX8_digest_285 : decode cX8_digest 285 = .ok (.aload_n 0, 1) := by decide +kernel
theorem dX8_digest_286 : decode cX8_digest 286 = .ok (.iconst 5, 1) := by decide +kernel
theorem dX8_digest_287 : decode cX8_digest 287 = .ok (.iconst 0, 1) := by decide +kernel
theorem dX8_digest_288 : decode cX8_digest 288 = .ok (.iconst 2, 1) := by decide +kernel
theorem dX8_digest_289 : decode cX8_digest 289 = .ok (.invokevirtual 144, 3) := by decide +kernel
theorem dX8_digest_292 : decode cX8_digest 292 = .ok (.i2l, 1) := by decide +kernel
theorem dX8_digest_293 : decode cX8_digest 293 = .ok (.ladd, 1) := by decide +kernel
theorem dX8_digest_294 : decode cX8_digest 294 = .ok (.lreturn, 1) := by decide +kernel
theorem dJ9_abs_0f7a4_0 : decode cJ9_abs_0f7a4 0 = .ok (.iload_n 0, 1) := by decide +kernel
theorem dJ9_abs_0f7a4_1 : decode cJ9_abs_0f7a4 1 = .ok (.ifCond .ge 8, 3) := by decide +kernel
theorem dJ9_abs_0f7a4_4 : decode cJ9_abs_0f7a4 4 = .ok (.iload_n 0, 1) := by decide +kernel
theorem dJ9_abs_0f7a4_5 : decode cJ9_abs_0f7a4 5 = .ok (.ineg, 1) := by decide +kernel
theorem dJ9_abs_0f7a4_6 : decode cJ9_abs_0f7a4 6 = .ok (.goto 4, 3) := by decide +kernel
theorem dJ9_abs_0f7a4_9 : decode cJ9_abs_0f7a4 9 = .ok (.iload_n 0, 1) := by decide +kernel
theorem dJ9_abs_0f7a4_10 : decode cJ9_abs_0f7a4 10 = .ok (.ireturn, 1) := by decide +kernel
theorem dJ9_max_7cf53_0 : decode cJ9_max_7cf53 0 = .ok (.iload_n 0, 1) := by decide +kernel
theorem dJ9_max_7cf53_1 : decode cJ9_max_7cf53 1 = .ok (.iload_n 1, 1) := by decide +kernel
theorem dJ9_max_7cf53_2 : decode cJ9_max_7cf53 2 = .ok (.if_icmp .lt 7, 3) := by decide +kernel
theorem dJ9_max_7cf53_5 : decode cJ9_max_7cf53 5 = .ok (.iload_n 0, 1) := by decide +kernel
theorem dJ9_max_7cf53_6 : decode cJ9_max_7cf53 6 = .ok (.goto 4, 3) := by decide +kernel
theorem dJ9_max_7cf53_9 : decode cJ9_max_7cf53 9 = .ok (.iload_n 1, 1) := by decide +kernel
theorem dJ9_max_7cf53_10 : decode cJ9_max_7cf53 10 = .ok (.ireturn, 1) := by decide +kernel
theorem dJ9_min_7cf53_0 : decode cJ9_min_7cf53 0 = .ok (.iload_n 0, 1) := by decide +kernel
theorem dJ9_min_7cf53_1 : decode cJ9_min_7cf53 1 = .ok (.iload_n 1, 1) := by decide +kernel
theorem dJ9_min_7cf53_2 : decode cJ9_min_7cf53 2 = .ok (.if_icmp .gt 7, 3) := by decide +kernel
theorem dJ9_min_7cf53_5 : decode cJ9_min_7cf53 5 = .ok (.iload_n 0, 1) := by decide +kernel
theorem dJ9_min_7cf53_6 : decode cJ9_min_7cf53 6 = .ok (.goto 4, 3) := by decide +kernel
theorem dJ9_min_7cf53_9 : decode cJ9_min_7cf53 9 = .ok (.iload_n 1, 1) := by decide +kernel
theorem dJ9_min_7cf53_10 : decode cJ9_min_7cf53 10 = .ok (.ireturn, 1) := by decide +kernel
theorem dJ9_min_f86c9_0 : decode cJ9_min_f86c9 0 = .ok (.lload_n 0, 1) := by decide +kernel
theorem dJ9_min_f86c9_1 : decode cJ9_min_f86c9 1 = .ok (.lload_n 2, 1) := by decide +kernel
theorem dJ9_min_f86c9_2 : decode cJ9_min_f86c9 2 = .ok (.lcmp, 1) := by decide +kernel
theorem dJ9_min_f86c9_3 : decode cJ9_min_f86c9 3 = .ok (.ifCond .gt 7, 3) := by decide +kernel
theorem dJ9_min_f86c9_6 : decode cJ9_min_f86c9 6 = .ok (.lload_n 0, 1) := by decide +kernel
theorem dJ9_min_f86c9_7 : decode cJ9_min_f86c9 7 = .ok (.goto 4, 3) := by decide +kernel
theorem dJ9_min_f86c9_10 : decode cJ9_min_f86c9 10 = .ok (.lload_n 2, 1) := by decide +kernel
theorem dJ9_min_f86c9_11 : decode cJ9_min_f86c9 11 = .ok (.lreturn, 1) := by decide +kernel
set_option maxRecDepth 20000 in
theorem ggL_cell_X6_cell : GoodIn wsL_cell wsX6_cell := goodIn_ca (goodIn_ca (goodIn_r _ [7, 8, 9, 10, 11, 12, 13, 6, 14, 15, 16, 17, 18, 19, 20, 21, 22, 23, 24, 25, 26, 27, 28, 29, 30, 31, 32, 33, 34, 35, 36, 37, 38, 39, 40, 41, 42, 43, 44, 45, 46, 47, 48, 49, 50, 51, 52, 53, 54, 55, 56, 57, 58, 59] (by decide +kernel) (by decide +kernel)) (goodIn_sub (fun _ h => List.mem_cons_of_mem _ (List.mem_append_left _ (List.mem_append_right _ h))) (by decide +kernel))) (goodIn_sub (fun _ h => List.mem_cons_of_mem _ (List.mem_append_right _ h)) (by decide +kernel))
set_option maxRecDepth 20000 in
theorem gL_cell_X6_cell : GoodIn wsL_cell (wsV RL 7 RX6 yX6_cell wsX6_cell) := goodIn_app (goodIn_of _ (by decide +kernel)) ggL_cell_X6_cell
theorem dL_cell_0 : decode cL_cell 0 = .ok (.aload 6, 2) := by decide +kernel
theorem dL_cell_2 : decode cL_cell 2 = .ok (.iconst 0, 1) := by decide +kernel
theorem dL_cell_3 : decode cL_cell 3 = .ok (.aload_n 0, 1) := by decide +kernel
theorem dL_cell_4 : decode cL_cell 4 = .ok (.iload_n 1, 1) := by decide +kernel
theorem dL_cell_5 : decode cL_cell 5 = .ok (.iload_n 2, 1) := by decide +kernel
theorem dL_cell_6 : decode cL_cell 6 = .ok (.iload_n 3, 1) := by decide +kernel
theorem dL_cell_7 : decode cL_cell 7 = .ok (.iload 4, 2) := by decide +kernel
theorem dL_cell_9 : decode cL_cell 9 = .ok (.iload 5, 2) := by decide +kernel
theorem dL_cell_11 : decode cL_cell 11 = .ok (.invokevirtual 7, 3) := by decide +kernel
theorem dL_cell_14 : decode cL_cell 14 = .ok (.i2l, 1) := by decide +kernel
theorem dL_cell_15 : decode cL_cell 15 = .ok (.lastore, 1) := by decide +kernel
theorem dL_cell_16 : decode cL_cell 16 = .ok (.goto 11, 3) := by decide +kernel
theorem dL_cell_19 : decode cL_cell 19 = .ok (.astore 7, 2) := by decide +kernel
theorem dL_cell_21 : decode cL_cell 21 = .ok (.iconst 1, 1) := by decide +kernel
theorem dL_cell_22 : decode cL_cell 22 = .ok (.ireturn, 1) := by decide +kernel
theorem dL_cell_23 : decode cL_cell 23 = .ok (.astore 7, 2) := by decide +kernel
theorem dL_cell_25 : decode cL_cell 25 = .ok (.iconst 2, 1) := by decide +kernel
theorem dL_cell_26 : decode cL_cell 26 = .ok (.ireturn, 1) := by decide +kernel
theorem dL_cell_27 : decode cL_cell 27 = .ok (.iconst 0, 1) := by decide +kernel
theorem dL_cell_28 : decode cL_cell 28 = .ok (.ireturn, 1) := by decide +kernel
set_option maxRecDepth 20000 in
theorem ggL_fault_X6_fault : GoodIn wsL_fault wsX6_fault := goodIn_ca (goodIn_r _ [6, 7, 8, 9, 10, 5, 11, 12, 13, 14, 15, 16, 17, 18, 19, 20, 21, 22, 23, 24, 25, 26, 27, 28, 29, 30, 31, 32, 33, 34, 35, 36, 37, 38, 39, 40, 41, 42, 43, 44, 45, 46, 47, 48, 49, 50, 51, 52, 53, 54, 55, 56, 57] (by decide +kernel) (by decide +kernel)) (goodIn_sub (fun _ h => List.mem_cons_of_mem _ (List.mem_append_right _ h)) (by decide +kernel))
set_option maxRecDepth 20000 in
theorem gL_fault_X6_fault : GoodIn wsL_fault (wsV RL 17 RX6 yX6_fault wsX6_fault) := goodIn_app (goodIn_of _ (by decide +kernel)) ggL_fault_X6_fault
theorem dL_fault_0 : decode cL_fault 0 = .ok (.aload 4, 2) := by decide +kernel
theorem dL_fault_2 : decode cL_fault 2 = .ok (.iconst 0, 1) := by decide +kernel
theorem dL_fault_3 : decode cL_fault 3 = .ok (.aload_n 0, 1) := by decide +kernel
theorem dL_fault_4 : decode cL_fault 4 = .ok (.iload_n 1, 1) := by decide +kernel
theorem dL_fault_5 : decode cL_fault 5 = .ok (.iload_n 2, 1) := by decide +kernel
theorem dL_fault_6 : decode cL_fault 6 = .ok (.iload_n 3, 1) := by decide +kernel
theorem dL_fault_7 : decode cL_fault 7 = .ok (.invokevirtual 17, 3) := by decide +kernel
theorem dL_fault_10 : decode cL_fault 10 = .ok (.ifCond .eq 7, 3) := by decide +kernel
theorem dL_fault_13 : decode cL_fault 13 = .ok (.lconst 1, 1) := by decide +kernel
theorem dL_fault_14 : decode cL_fault 14 = .ok (.goto 4, 3) := by decide +kernel
theorem dL_fault_17 : decode cL_fault 17 = .ok (.lconst 0, 1) := by decide +kernel
theorem dL_fault_18 : decode cL_fault 18 = .ok (.lastore, 1) := by decide +kernel
theorem dL_fault_19 : decode cL_fault 19 = .ok (.goto 7, 3) := by decide +kernel
theorem dL_fault_22 : decode cL_fault 22 = .ok (.astore 5, 2) := by decide +kernel
theorem dL_fault_24 : decode cL_fault 24 = .ok (.iconst 1, 1) := by decide +kernel
theorem dL_fault_25 : decode cL_fault 25 = .ok (.ireturn, 1) := by decide +kernel
theorem dL_fault_26 : decode cL_fault 26 = .ok (.iconst 0, 1) := by decide +kernel
theorem dL_fault_27 : decode cL_fault 27 = .ok (.ireturn, 1) := by decide +kernel
set_option maxRecDepth 20000 in
theorem ggL_well_X6_well : GoodIn wsL_well wsX6_well := goodIn_ca (goodIn_ca (goodIn_ca (goodIn_r _ [8, 9, 10, 11, 12, 13, 14, 15, 16, 17, 7, 18, 19, 20, 21, 22, 23, 24, 25, 26, 27, 28, 29, 30, 31, 32, 33, 34, 35, 36, 37, 38, 39, 40, 41, 42, 43, 44, 45, 46, 47, 48, 49, 50, 51, 52, 53] (by decide +kernel) (by decide +kernel)) (goodIn_sub (fun _ h => List.mem_cons_of_mem _ (List.mem_append_left _ (List.mem_append_left _ (List.mem_append_right _ h)))) (by decide +kernel))) (goodIn_sub (fun _ h => List.mem_cons_of_mem _ (List.mem_append_left _ (List.mem_append_right _ h))) (by decide +kernel))) (goodIn_sub (fun _ h => List.mem_cons_of_mem _ (List.mem_append_right _ h)) (by decide +kernel))
set_option maxRecDepth 20000 in
theorem gL_well_X6_well : GoodIn wsL_well (wsV RL 21 RX6 yX6_well wsX6_well) := goodIn_app (goodIn_of _ (by decide +kernel)) ggL_well_X6_well
theorem dL_well_0 : decode cL_well 0 = .ok (.aload_n 3, 1) := by decide +kernel
theorem dL_well_1 : decode cL_well 1 = .ok (.iconst 0, 1) := by decide +kernel
theorem dL_well_2 : decode cL_well 2 = .ok (.aload_n 0, 1) := by decide +kernel
theorem dL_well_3 : decode cL_well 3 = .ok (.iload_n 1, 1) := by decide +kernel
theorem dL_well_4 : decode cL_well 4 = .ok (.iload_n 2, 1) := by decide +kernel
theorem dL_well_5 : decode cL_well 5 = .ok (.invokevirtual 21, 3) := by decide +kernel
theorem dL_well_8 : decode cL_well 8 = .ok (.i2l, 1) := by decide +kernel
theorem dL_well_9 : decode cL_well 9 = .ok (.lastore, 1) := by decide +kernel
theorem dL_well_10 : decode cL_well 10 = .ok (.goto 15, 3) := by decide +kernel
theorem dL_well_13 : decode cL_well 13 = .ok (.astore 4, 2) := by decide +kernel
theorem dL_well_15 : decode cL_well 15 = .ok (.iconst 1, 1) := by decide +kernel
theorem dL_well_16 : decode cL_well 16 = .ok (.ireturn, 1) := by decide +kernel
theorem dL_well_17 : decode cL_well 17 = .ok (.astore 4, 2) := by decide +kernel
theorem dL_well_19 : decode cL_well 19 = .ok (.iconst 2, 1) := by decide +kernel
theorem dL_well_20 : decode cL_well 20 = .ok (.ireturn, 1) := by decide +kernel
theorem dL_well_21 : decode cL_well 21 = .ok (.astore 4, 2) := by decide +kernel
theorem dL_well_23 : decode cL_well 23 = .ok (.iconst 3, 1) := by decide +kernel
theorem dL_well_24 : decode cL_well 24 = .ok (.ireturn, 1) := by decide +kernel
theorem dL_well_25 : decode cL_well 25 = .ok (.iconst 0, 1) := by decide +kernel
theorem dL_well_26 : decode cL_well 26 = .ok (.ireturn, 1) := by decide +kernel
set_option maxRecDepth 20000 in
theorem ggL_choke_X6_choke : GoodIn wsL_choke wsX6_choke := goodIn_ca (goodIn_ca (goodIn_ca (goodIn_r _ [8, 9, 10, 11, 12, 13, 14, 7, 15, 16, 17, 18, 19, 20, 21, 22, 23, 24, 25, 26, 27, 28, 29, 30, 31, 32, 33, 34, 35, 36, 37, 38, 39, 40, 41, 42, 43, 44, 45, 46, 47, 48, 49, 50, 51, 52, 53, 54, 55, 56, 57, 58, 59, 60, 61, 62, 63] (by decide +kernel) (by decide +kernel)) (goodIn_sub (fun _ h => List.mem_cons_of_mem _ (List.mem_append_left _ (List.mem_append_left _ (List.mem_append_right _ h)))) (by decide +kernel))) (goodIn_sub (fun _ h => List.mem_cons_of_mem _ (List.mem_append_left _ (List.mem_append_right _ h))) (by decide +kernel))) (goodIn_sub (fun _ h => List.mem_cons_of_mem _ (List.mem_append_right _ h)) (by decide +kernel))
set_option maxRecDepth 20000 in
theorem gL_choke_X6_choke : GoodIn wsL_choke (wsV RL 27 RX6 yX6_choke wsX6_choke) := goodIn_app (goodIn_of _ (by decide +kernel)) ggL_choke_X6_choke
theorem dL_choke_0 : decode cL_choke 0 = .ok (.aload_n 3, 1) := by decide +kernel
theorem dL_choke_1 : decode cL_choke 1 = .ok (.iconst 0, 1) := by decide +kernel
theorem dL_choke_2 : decode cL_choke 2 = .ok (.aload_n 0, 1) := by decide +kernel
theorem dL_choke_3 : decode cL_choke 3 = .ok (.iload_n 1, 1) := by decide +kernel
theorem dL_choke_4 : decode cL_choke 4 = .ok (.iload_n 2, 1) := by decide +kernel
theorem dL_choke_5 : decode cL_choke 5 = .ok (.invokevirtual 27, 3) := by decide +kernel
theorem dL_choke_8 : decode cL_choke 8 = .ok (.i2l, 1) := by decide +kernel
theorem dL_choke_9 : decode cL_choke 9 = .ok (.lastore, 1) := by decide +kernel
theorem dL_choke_10 : decode cL_choke 10 = .ok (.goto 15, 3) := by decide +kernel
theorem dL_choke_13 : decode cL_choke 13 = .ok (.astore 4, 2) := by decide +kernel
theorem dL_choke_15 : decode cL_choke 15 = .ok (.iconst 1, 1) := by decide +kernel
theorem dL_choke_16 : decode cL_choke 16 = .ok (.ireturn, 1) := by decide +kernel
theorem dL_choke_17 : decode cL_choke 17 = .ok (.astore 4, 2) := by decide +kernel
theorem dL_choke_19 : decode cL_choke 19 = .ok (.iconst 2, 1) := by decide +kernel
theorem dL_choke_20 : decode cL_choke 20 = .ok (.ireturn, 1) := by decide +kernel
theorem dL_choke_21 : decode cL_choke 21 = .ok (.astore 4, 2) := by decide +kernel
theorem dL_choke_23 : decode cL_choke 23 = .ok (.iconst 3, 1) := by decide +kernel
theorem dL_choke_24 : decode cL_choke 24 = .ok (.ireturn, 1) := by decide +kernel
theorem dL_choke_25 : decode cL_choke 25 = .ok (.iconst 0, 1) := by decide +kernel
theorem dL_choke_26 : decode cL_choke 26 = .ok (.ireturn, 1) := by decide +kernel
set_option maxRecDepth 20000 in
theorem ggL_rank_X6_rank : GoodIn wsL_rank wsX6_rank := goodIn_ca (goodIn_ca (goodIn_r _ [7, 8, 9, 10, 11, 12, 13, 6, 14, 15, 16, 17, 18, 19, 20, 21, 22, 23, 24, 25, 26, 27, 28, 29, 30, 31, 32, 33, 34, 35, 36, 37, 38, 39, 40, 41, 42, 43, 44, 45, 46, 47, 48, 49] (by decide +kernel) (by decide +kernel)) (goodIn_sub (fun _ h => List.mem_cons_of_mem _ (List.mem_append_left _ (List.mem_append_right _ h))) (by decide +kernel))) (goodIn_sub (fun _ h => List.mem_cons_of_mem _ (List.mem_append_right _ h)) (by decide +kernel))
set_option maxRecDepth 20000 in
theorem gL_rank_X6_rank : GoodIn wsL_rank (wsV RL 30 RX6 yX6_rank wsX6_rank) := goodIn_app (goodIn_of _ (by decide +kernel)) ggL_rank_X6_rank
theorem dL_rank_0 : decode cL_rank 0 = .ok (.aload_n 3, 1) := by decide +kernel
theorem dL_rank_1 : decode cL_rank 1 = .ok (.iconst 0, 1) := by decide +kernel
theorem dL_rank_2 : decode cL_rank 2 = .ok (.aload_n 0, 1) := by decide +kernel
theorem dL_rank_3 : decode cL_rank 3 = .ok (.iload_n 1, 1) := by decide +kernel
theorem dL_rank_4 : decode cL_rank 4 = .ok (.iload_n 2, 1) := by decide +kernel
theorem dL_rank_5 : decode cL_rank 5 = .ok (.invokevirtual 30, 3) := by decide +kernel
theorem dL_rank_8 : decode cL_rank 8 = .ok (.i2l, 1) := by decide +kernel
theorem dL_rank_9 : decode cL_rank 9 = .ok (.lastore, 1) := by decide +kernel
theorem dL_rank_10 : decode cL_rank 10 = .ok (.goto 11, 3) := by decide +kernel
theorem dL_rank_13 : decode cL_rank 13 = .ok (.astore 4, 2) := by decide +kernel
theorem dL_rank_15 : decode cL_rank 15 = .ok (.iconst 1, 1) := by decide +kernel
theorem dL_rank_16 : decode cL_rank 16 = .ok (.ireturn, 1) := by decide +kernel
theorem dL_rank_17 : decode cL_rank 17 = .ok (.astore 4, 2) := by decide +kernel
theorem dL_rank_19 : decode cL_rank 19 = .ok (.iconst 2, 1) := by decide +kernel
theorem dL_rank_20 : decode cL_rank 20 = .ok (.ireturn, 1) := by decide +kernel
theorem dL_rank_21 : decode cL_rank 21 = .ok (.iconst 0, 1) := by decide +kernel
theorem dL_rank_22 : decode cL_rank 22 = .ok (.ireturn, 1) := by decide +kernel
set_option maxRecDepth 20000 in
theorem ggL_test_X6_test : GoodIn wsL_test wsX6_test := goodIn_ca (goodIn_ca (goodIn_r _ [7, 8, 9, 10, 11, 12, 13, 14, 15, 16, 17, 6, 18, 19, 20, 21, 22, 23, 24, 25, 26, 27, 28, 29, 30, 31, 32, 33, 34, 35, 36, 37, 38, 39, 40, 41, 42, 43, 44, 45, 46, 47, 48, 49, 50, 51, 52, 53, 54, 55, 56, 57, 58] (by decide +kernel) (by decide +kernel)) (goodIn_sub (fun _ h => List.mem_cons_of_mem _ (List.mem_append_left _ (List.mem_append_right _ h))) (by decide +kernel))) (goodIn_sub (fun _ h => List.mem_cons_of_mem _ (List.mem_append_right _ h)) (by decide +kernel))
set_option maxRecDepth 20000 in
theorem gL_test_X6_test : GoodIn wsL_test (wsV RL 33 RX6 yX6_test wsX6_test) := goodIn_app (goodIn_of _ (by decide +kernel)) ggL_test_X6_test
theorem dL_test_0 : decode cL_test 0 = .ok (.aload_n 2, 1) := by decide +kernel
theorem dL_test_1 : decode cL_test 1 = .ok (.iconst 0, 1) := by decide +kernel
theorem dL_test_2 : decode cL_test 2 = .ok (.aload_n 0, 1) := by decide +kernel
theorem dL_test_3 : decode cL_test 3 = .ok (.iload_n 1, 1) := by decide +kernel
theorem dL_test_4 : decode cL_test 4 = .ok (.invokevirtual 33, 3) := by decide +kernel
theorem dL_test_7 : decode cL_test 7 = .ok (.ifCond .eq 7, 3) := by decide +kernel
theorem dL_test_10 : decode cL_test 10 = .ok (.lconst 1, 1) := by decide +kernel
theorem dL_test_11 : decode cL_test 11 = .ok (.goto 4, 3) := by decide +kernel
theorem dL_test_14 : decode cL_test 14 = .ok (.lconst 0, 1) := by decide +kernel
theorem dL_test_15 : decode cL_test 15 = .ok (.lastore, 1) := by decide +kernel
theorem dL_test_16 : decode cL_test 16 = .ok (.goto 9, 3) := by decide +kernel
theorem dL_test_19 : decode cL_test 19 = .ok (.astore_n 3, 1) := by decide +kernel
theorem dL_test_20 : decode cL_test 20 = .ok (.iconst 1, 1) := by decide +kernel
theorem dL_test_21 : decode cL_test 21 = .ok (.ireturn, 1) := by decide +kernel
theorem dL_test_22 : decode cL_test 22 = .ok (.astore_n 3, 1) := by decide +kernel
theorem dL_test_23 : decode cL_test 23 = .ok (.iconst 2, 1) := by decide +kernel
theorem dL_test_24 : decode cL_test 24 = .ok (.ireturn, 1) := by decide +kernel
theorem dL_test_25 : decode cL_test 25 = .ok (.iconst 0, 1) := by decide +kernel
theorem dL_test_26 : decode cL_test 26 = .ok (.ireturn, 1) := by decide +kernel
set_option maxRecDepth 20000 in
theorem ggL_plug_X6_plug : GoodIn wsL_plug wsX6_plug := goodIn_ca (goodIn_ca (goodIn_r _ [7, 8, 9, 10, 11, 12, 13, 14, 15, 6, 16, 17, 18, 19, 20, 21, 22, 23, 24, 25, 26, 27, 28, 29, 30, 31, 32, 33, 34, 35, 36, 37, 38, 39, 40, 41, 42, 43, 44, 45, 46, 47, 48, 49, 50, 51, 52, 53, 54, 55, 56, 57] (by decide +kernel) (by decide +kernel)) (goodIn_sub (fun _ h => List.mem_cons_of_mem _ (List.mem_append_left _ (List.mem_append_right _ h))) (by decide +kernel))) (goodIn_sub (fun _ h => List.mem_cons_of_mem _ (List.mem_append_right _ h)) (by decide +kernel))
set_option maxRecDepth 20000 in
theorem gL_plug_X6_plug : GoodIn wsL_plug (wsV RL 37 RX6 yX6_plug wsX6_plug) := goodIn_app (goodIn_of _ (by decide +kernel)) ggL_plug_X6_plug
theorem dL_plug_0 : decode cL_plug 0 = .ok (.aload_n 2, 1) := by decide +kernel
theorem dL_plug_1 : decode cL_plug 1 = .ok (.iconst 0, 1) := by decide +kernel
theorem dL_plug_2 : decode cL_plug 2 = .ok (.aload_n 0, 1) := by decide +kernel
theorem dL_plug_3 : decode cL_plug 3 = .ok (.iload_n 1, 1) := by decide +kernel
theorem dL_plug_4 : decode cL_plug 4 = .ok (.invokevirtual 37, 3) := by decide +kernel
theorem dL_plug_7 : decode cL_plug 7 = .ok (.i2l, 1) := by decide +kernel
theorem dL_plug_8 : decode cL_plug 8 = .ok (.lastore, 1) := by decide +kernel
theorem dL_plug_9 : decode cL_plug 9 = .ok (.goto 9, 3) := by decide +kernel
theorem dL_plug_12 : decode cL_plug 12 = .ok (.astore_n 3, 1) := by decide +kernel
theorem dL_plug_13 : decode cL_plug 13 = .ok (.iconst 1, 1) := by decide +kernel
theorem dL_plug_14 : decode cL_plug 14 = .ok (.ireturn, 1) := by decide +kernel
theorem dL_plug_15 : decode cL_plug 15 = .ok (.astore_n 3, 1) := by decide +kernel
theorem dL_plug_16 : decode cL_plug 16 = .ok (.iconst 2, 1) := by decide +kernel
theorem dL_plug_17 : decode cL_plug 17 = .ok (.ireturn, 1) := by decide +kernel
theorem dL_plug_18 : decode cL_plug 18 = .ok (.iconst 0, 1) := by decide +kernel
theorem dL_plug_19 : decode cL_plug 19 = .ok (.ireturn, 1) := by decide +kernel
set_option maxRecDepth 20000 in
theorem ggL_capacity_X6_capacity : GoodIn wsL_capacity wsX6_capacity := goodIn_ca (goodIn_ca (goodIn_r _ [7, 8, 9, 10, 11, 6, 12, 13, 14, 15, 16, 17, 18, 19, 20, 21, 22, 23, 24, 25, 26, 27, 28, 29, 30, 31, 32, 33, 34, 35, 36, 37, 38, 39, 40, 41, 42] (by decide +kernel) (by decide +kernel)) (goodIn_sub (fun _ h => List.mem_cons_of_mem _ (List.mem_append_left _ (List.mem_append_right _ h))) (by decide +kernel))) (goodIn_sub (fun _ h => List.mem_cons_of_mem _ (List.mem_append_right _ h)) (by decide +kernel))
set_option maxRecDepth 20000 in
theorem gL_capacity_X6_capacity : GoodIn wsL_capacity (wsV RL 41 RX6 yX6_capacity wsX6_capacity) := goodIn_app (goodIn_of _ (by decide +kernel)) ggL_capacity_X6_capacity
theorem dL_capacity_0 : decode cL_capacity 0 = .ok (.aload_n 3, 1) := by decide +kernel
theorem dL_capacity_1 : decode cL_capacity 1 = .ok (.iconst 0, 1) := by decide +kernel
theorem dL_capacity_2 : decode cL_capacity 2 = .ok (.aload_n 0, 1) := by decide +kernel
theorem dL_capacity_3 : decode cL_capacity 3 = .ok (.iload_n 1, 1) := by decide +kernel
theorem dL_capacity_4 : decode cL_capacity 4 = .ok (.iload_n 2, 1) := by decide +kernel
theorem dL_capacity_5 : decode cL_capacity 5 = .ok (.invokevirtual 41, 3) := by decide +kernel
theorem dL_capacity_8 : decode cL_capacity 8 = .ok (.i2l, 1) := by decide +kernel
theorem dL_capacity_9 : decode cL_capacity 9 = .ok (.lastore, 1) := by decide +kernel
theorem dL_capacity_10 : decode cL_capacity 10 = .ok (.goto 11, 3) := by decide +kernel
theorem dL_capacity_13 : decode cL_capacity 13 = .ok (.astore 4, 2) := by decide +kernel
theorem dL_capacity_15 : decode cL_capacity 15 = .ok (.iconst 1, 1) := by decide +kernel
theorem dL_capacity_16 : decode cL_capacity 16 = .ok (.ireturn, 1) := by decide +kernel
theorem dL_capacity_17 : decode cL_capacity 17 = .ok (.astore 4, 2) := by decide +kernel
theorem dL_capacity_19 : decode cL_capacity 19 = .ok (.iconst 2, 1) := by decide +kernel
theorem dL_capacity_20 : decode cL_capacity 20 = .ok (.ireturn, 1) := by decide +kernel
theorem dL_capacity_21 : decode cL_capacity 21 = .ok (.iconst 0, 1) := by decide +kernel
theorem dL_capacity_22 : decode cL_capacity 22 = .ok (.ireturn, 1) := by decide +kernel
set_option maxRecDepth 20000 in
theorem ggL_permit_X6_permit : GoodIn wsL_permit wsX6_permit := goodIn_ca (goodIn_r _ [6, 7, 8, 9, 10, 5, 11, 12, 13, 14, 15, 16, 17, 18, 19, 20, 21, 22, 23, 24, 25, 26, 27, 28, 29, 30, 31, 32, 33, 34, 35, 36] (by decide +kernel) (by decide +kernel)) (goodIn_sub (fun _ h => List.mem_cons_of_mem _ (List.mem_append_right _ h)) (by decide +kernel))
set_option maxRecDepth 20000 in
theorem gL_permit_X6_permit : GoodIn wsL_permit (wsV RL 44 RX6 yX6_permit wsX6_permit) := goodIn_app (goodIn_of _ (by decide +kernel)) ggL_permit_X6_permit
theorem dL_permit_0 : decode cL_permit 0 = .ok (.aload_n 2, 1) := by decide +kernel
theorem dL_permit_1 : decode cL_permit 1 = .ok (.iconst 0, 1) := by decide +kernel
theorem dL_permit_2 : decode cL_permit 2 = .ok (.aload_n 0, 1) := by decide +kernel
theorem dL_permit_3 : decode cL_permit 3 = .ok (.iload_n 1, 1) := by decide +kernel
theorem dL_permit_4 : decode cL_permit 4 = .ok (.invokevirtual 44, 3) := by decide +kernel
theorem dL_permit_7 : decode cL_permit 7 = .ok (.i2l, 1) := by decide +kernel
theorem dL_permit_8 : decode cL_permit 8 = .ok (.lastore, 1) := by decide +kernel
theorem dL_permit_9 : decode cL_permit 9 = .ok (.goto 6, 3) := by decide +kernel
theorem dL_permit_12 : decode cL_permit 12 = .ok (.astore_n 3, 1) := by decide +kernel
theorem dL_permit_13 : decode cL_permit 13 = .ok (.iconst 1, 1) := by decide +kernel
