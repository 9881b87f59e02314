theorem dX1_mostTimes_43 : decode cX1_mostTimes 43 = .ok (.ireturn, 1) := by decide +kernel
set_option maxRecDepth 20000 in
theorem ggX1_moveOut_X1_all : GoodIn wsX1_moveOut wsX1_all := goodIn_r _ [13, 1, 19, 20, 21, 22] (by decide +kernel) (by decide +kernel)
set_option maxRecDepth 20000 in
theorem gX1_moveOut_X1_all : GoodIn wsX1_moveOut (wsV RX1 32 RX1 yX1_all wsX1_all) := goodIn_app (goodIn_of _ (by decide +kernel)) ggX1_moveOut_X1_all
set_option maxRecDepth 20000 in
theorem ggX1_moveOut_X1_flow : GoodIn wsX1_moveOut wsX1_flow := goodIn_r _ [17, 18, 1, 19, 20, 21, 22] (by decide +kernel) (by decide +kernel)
set_option maxRecDepth 20000 in
theorem gX1_moveOut_X1_flow : GoodIn wsX1_moveOut (wsV RX1 38 RX1 yX1_flow wsX1_flow) := goodIn_app (goodIn_of _ (by decide +kernel)) ggX1_moveOut_X1_flow
theorem dX1_moveOut_0 : decode cX1_moveOut 0 = .ok (.aload_n 0, 1) := by decide +kernel
theorem dX1_moveOut_1 : decode cX1_moveOut 1 = .ok (.invokevirtual 32, 3) := by decide +kernel
theorem dX1_moveOut_4 : decode cX1_moveOut 4 = .ok (.istore_n 3, 1) := by decide +kernel
theorem dX1_moveOut_5 : decode cX1_moveOut 5 = .ok (.iload_n 3, 1) := by decide +kernel
theorem dX1_moveOut_6 : decode cX1_moveOut 6 = .ok (.ifCond .gt 4, 3) := by decide +kernel
theorem dX1_moveOut_9 : decode cX1_moveOut 9 = .ok (.return_, 1) := by decide +kernel
theorem dX1_moveOut_10 : decode cX1_moveOut 10 = .ok (.iconst 0, 1) := by decide +kernel
theorem dX1_moveOut_11 : decode cX1_moveOut 11 = .ok (.istore 4, 2) := by decide +kernel
theorem dX1_moveOut_13 : decode cX1_moveOut 13 = .ok (.iload 4, 2) := by decide +kernel
theorem dX1_moveOut_15 : decode cX1_moveOut 15 = .ok (.iconst 3, 1) := by decide +kernel
theorem dX1_moveOut_16 : decode cX1_moveOut 16 = .ok (.if_icmp .ge 60, 3) := by decide +kernel
theorem dX1_moveOut_19 : decode cX1_moveOut 19 = .ok (.aload_n 0, 1) := by decide +kernel
theorem dX1_moveOut_20 : decode cX1_moveOut 20 = .ok (.getfield 15, 3) := by decide +kernel
theorem dX1_moveOut_23 : decode cX1_moveOut 23 = .ok (.iload 4, 2) := by decide +kernel
theorem dX1_moveOut_25 : decode cX1_moveOut 25 = .ok (.iaload, 1) := by decide +kernel
theorem dX1_moveOut_26 : decode cX1_moveOut 26 = .ok (.i2l, 1) := by decide +kernel
theorem dX1_moveOut_27 : decode cX1_moveOut 27 = .ok (.aload_n 0, 1) := by decide +kernel
theorem dX1_moveOut_28 : decode cX1_moveOut 28 = .ok (.iload 4, 2) := by decide +kernel
theorem dX1_moveOut_30 : decode cX1_moveOut 30 = .ok (.invokevirtual 38, 3) := by decide +kernel
theorem dX1_moveOut_33 : decode cX1_moveOut 33 = .ok (.iload_n 1, 1) := by decide +kernel
theorem dX1_moveOut_34 : decode cX1_moveOut 34 = .ok (.iload_n 3, 1) := by decide +kernel
theorem dX1_moveOut_35 : decode cX1_moveOut 35 = .ok (.invokestatic 42, 3) := by decide +kernel
theorem dX1_moveOut_38 : decode cX1_moveOut 38 = .ok (.i2l, 1) := by decide +kernel
theorem dX1_moveOut_39 : decode cX1_moveOut 39 = .ok (.lmul, 1) := by decide +kernel
theorem dX1_moveOut_40 : decode cX1_moveOut 40 = .ok (.iload_n 3, 1) := by decide +kernel
theorem dX1_moveOut_41 : decode cX1_moveOut 41 = .ok (.i2l, 1) := by decide +kernel
theorem dX1_moveOut_42 : decode cX1_moveOut 42 = .ok (.ldiv, 1) := by decide +kernel
theorem dX1_moveOut_43 : decode cX1_moveOut 43 = .ok (.invokestatic 48, 3) := by decide +kernel
theorem dX1_moveOut_46 : decode cX1_moveOut 46 = .ok (.l2i, 1) := by decide +kernel
theorem dX1_moveOut_47 : decode cX1_moveOut 47 = .ok (.istore 5, 2) := by decide +kernel
theorem dX1_moveOut_49 : decode cX1_moveOut 49 = .ok (.aload_n 0, 1) := by decide +kernel
theorem dX1_moveOut_50 : decode cX1_moveOut 50 = .ok (.getfield 15, 3) := by decide +kernel
theorem dX1_moveOut_53 : decode cX1_moveOut 53 = .ok (.iload 4, 2) := by decide +kernel
theorem dX1_moveOut_55 : decode cX1_moveOut 55 = .ok (.dup2, 1) := by decide +kernel
theorem dX1_moveOut_56 : decode cX1_moveOut 56 = .ok (.iaload, 1) := by decide +kernel
theorem dX1_moveOut_57 : decode cX1_moveOut 57 = .ok (.iload 5, 2) := by decide +kernel
theorem dX1_moveOut_59 : decode cX1_moveOut 59 = .ok (.isub, 1) := by decide +kernel
theorem dX1_moveOut_60 : decode cX1_moveOut 60 = .ok (.iastore, 1) := by decide +kernel
theorem dX1_moveOut_61 : decode cX1_moveOut 61 = .ok (.aload_n 2, 1) := by decide +kernel
theorem dX1_moveOut_62 : decode cX1_moveOut 62 = .ok (.iload 4, 2) := by decide +kernel
theorem dX1_moveOut_64 : decode cX1_moveOut 64 = .ok (.dup2, 1) := by decide +kernel
theorem dX1_moveOut_65 : decode cX1_moveOut 65 = .ok (.iaload, 1) := by decide +kernel
theorem dX1_moveOut_66 : decode cX1_moveOut 66 = .ok (.iload 5, 2) := by decide +kernel
theorem dX1_moveOut_68 : decode cX1_moveOut 68 = .ok (.iadd, 1) := by decide +kernel
theorem dX1_moveOut_69 : decode cX1_moveOut 69 = .ok (.iastore, 1) := by decide +kernel
theorem dX1_moveOut_70 : decode cX1_moveOut 70 = .ok (.iinc 4 1, 3) := by decide +kernel
theorem dX1_moveOut_73 : decode cX1_moveOut 73 = .ok (.goto (-60), 3) := by decide +kernel
theorem dX1_moveOut_76 : decode cX1_moveOut 76 = .ok (.return_, 1) := by decide +kernel
set_option maxRecDepth 20000 in
theorem ggX2_init_X1_init : GoodIn wsX2_init wsX1_init := goodIn_r _ [18, 19, 2, 3, 20, 8, 21, 39, 40, 41, 42] (by decide +kernel) (by decide +kernel)
set_option maxRecDepth 20000 in
theorem gX2_init_X1_init_n37 : GoodIn wsX2_init (wsX1_init) := ggX2_init_X1_init
set_option maxRecDepth 20000 in
theorem ggX2_init_X4_init : GoodIn wsX2_init wsX4_init := goodIn_r _ [23, 24, 2, 3, 25, 8, 26, 43, 44, 45, 46, 47] (by decide +kernel) (by decide +kernel)
set_option maxRecDepth 20000 in
theorem gX2_init_X4_init_n38 : GoodIn wsX2_init (wsX4_init) := ggX2_init_X4_init
theorem dX2_init_0 : decode cX2_init 0 = .ok (.aload_n 0, 1) := by decide +kernel
theorem dX2_init_1 : decode cX2_init 1 = .ok (.invokespecial 3, 3) := by decide +kernel
theorem dX2_init_4 : decode cX2_init 4 = .ok (.aload_n 0, 1) := by decide +kernel
theorem dX2_init_5 : decode cX2_init 5 = .ok (.bipush 16, 2) := by decide +kernel
theorem dX2_init_7 : decode cX2_init 7 = .ok (.anewarray 9, 3) := by decide +kernel
theorem dX2_init_10 : decode cX2_init 10 = .ok (.putfield 11, 3) := by decide +kernel
theorem dX2_init_13 : decode cX2_init 13 = .ok (.aload_n 0, 1) := by decide +kernel
theorem dX2_init_14 : decode cX2_init 14 = .ok (.bipush 6, 2) := by decide +kernel
theorem dX2_init_16 : decode cX2_init 16 = .ok (.anewarray 17, 3) := by decide +kernel
theorem dX2_init_19 : decode cX2_init 19 = .ok (.putfield 19, 3) := by decide +kernel
theorem dX2_init_22 : decode cX2_init 22 = .ok (.aload_n 0, 1) := by decide +kernel
theorem dX2_init_23 : decode cX2_init 23 = .ok (.iconst 3, 1) := by decide +kernel
theorem dX2_init_24 : decode cX2_init 24 = .ok (.newarray .int, 2) := by decide +kernel
theorem dX2_init_26 : decode cX2_init 26 = .ok (.putfield 23, 3) := by decide +kernel
theorem dX2_init_29 : decode cX2_init 29 = .ok (.aload_n 0, 1) := by decide +kernel
theorem dX2_init_30 : decode cX2_init 30 = .ok (.bipush 10, 2) := by decide +kernel
theorem dX2_init_32 : decode cX2_init 32 = .ok (.putfield 27, 3) := by decide +kernel
theorem dX2_init_35 : decode cX2_init 35 = .ok (.aload_n 0, 1) := by decide +kernel
theorem dX2_init_36 : decode cX2_init 36 = .ok (.sipush 300, 3) := by decide +kernel
theorem dX2_init_39 : decode cX2_init 39 = .ok (.putfield 31, 3) := by decide +kernel
theorem dX2_init_42 : decode cX2_init 42 = .ok (.aload_n 0, 1) := by decide +kernel
theorem dX2_init_43 : decode cX2_init 43 = .ok (.iconst 3, 1) := by decide +kernel
theorem dX2_init_44 : decode cX2_init 44 = .ok (.newarray .int, 2) := by decide +kernel
theorem dX2_init_46 : decode cX2_init 46 = .ok (.putfield 34, 3) := by decide +kernel
theorem dX2_init_49 : decode cX2_init 49 = .ok (.iconst 0, 1) := by decide +kernel
theorem dX2_init_50 : decode cX2_init 50 = .ok (.istore_n 1, 1) := by decide +kernel
theorem dX2_init_51 : decode cX2_init 51 = .ok (.iload_n 1, 1) := by decide +kernel
theorem dX2_init_52 : decode cX2_init 52 = .ok (.bipush 16, 2) := by decide +kernel
theorem dX2_init_54 : decode cX2_init 54 = .ok (.if_icmp .ge 22, 3) := by decide +kernel
theorem dX2_init_57 : decode cX2_init 57 = .ok (.aload_n 0, 1) := by decide +kernel
theorem dX2_init_58 : decode cX2_init 58 = .ok (.getfield 11, 3) := by decide +kernel
theorem dX2_init_61 : decode cX2_init 61 = .ok (.iload_n 1, 1) := by decide +kernel
theorem dX2_init_62 : decode cX2_init 62 = .ok (.new 9, 3) := by decide +kernel
theorem dX2_init_65 : decode cX2_init 65 = .ok (.dup, 1) := by decide +kernel
theorem dX2_init_66 : decode cX2_init 66 = .ok (.invokespecial 37, 3) := by decide +kernel
theorem dX2_init_69 : decode cX2_init 69 = .ok (.aastore, 1) := by decide +kernel
theorem dX2_init_70 : decode cX2_init 70 = .ok (.iinc 1 1, 3) := by decide +kernel
theorem dX2_init_73 : decode cX2_init 73 = .ok (.goto (-22), 3) := by decide +kernel
theorem dX2_init_76 : decode cX2_init 76 = .ok (.iconst 0, 1) := by decide +kernel
theorem dX2_init_77 : decode cX2_init 77 = .ok (.istore_n 1, 1) := by decide +kernel
theorem dX2_init_78 : decode cX2_init 78 = .ok (.iload_n 1, 1) := by decide +kernel
theorem dX2_init_79 : decode cX2_init 79 = .ok (.bipush 6, 2) := by decide +kernel
theorem dX2_init_81 : decode cX2_init 81 = .ok (.if_icmp .ge 22, 3) := by decide +kernel
theorem dX2_init_84 : decode cX2_init 84 = .ok (.aload_n 0, 1) := by decide +kernel
theorem dX2_init_85 : decode cX2_init 85 = .ok (.getfield 19, 3) := by decide +kernel
theorem dX2_init_88 : decode cX2_init 88 = .ok (.iload_n 1, 1) := by decide +kernel
theorem dX2_init_89 : decode cX2_init 89 = .ok (.new 17, 3) := by decide +kernel
theorem dX2_init_92 : decode cX2_init 92 = .ok (.dup, 1) := by decide +kernel
theorem dX2_init_93 : decode cX2_init 93 = .ok (.invokespecial 38, 3) := by decide +kernel
theorem dX2_init_96 : decode cX2_init 96 = .ok (.aastore, 1) := by decide +kernel
theorem dX2_init_97 : decode cX2_init 97 = .ok (.iinc 1 1, 3) := by decide +kernel
theorem dX2_init_100 : decode cX2_init 100 = .ok (.goto (-22), 3) := by decide +kernel
theorem dX2_init_103 : decode cX2_init 103 = .ok (.iconst 0, 1) := by decide +kernel
theorem dX2_init_104 : decode cX2_init 104 = .ok (.istore_n 1, 1) := by decide +kernel
theorem dX2_init_105 : decode cX2_init 105 = .ok (.iload_n 1, 1) := by decide +kernel
theorem dX2_init_106 : decode cX2_init 106 = .ok (.iconst 3, 1) := by decide +kernel
theorem dX2_init_107 : decode cX2_init 107 = .ok (.if_icmp .ge 17, 3) := by decide +kernel
theorem dX2_init_110 : decode cX2_init 110 = .ok (.aload_n 0, 1) := by decide +kernel
theorem dX2_init_111 : decode cX2_init 111 = .ok (.getfield 23, 3) := by decide +kernel
theorem dX2_init_114 : decode cX2_init 114 = .ok (.iload_n 1, 1) := by decide +kernel
theorem dX2_init_115 : decode cX2_init 115 = .ok (.bipush 40, 2) := by decide +kernel
theorem dX2_init_117 : decode cX2_init 117 = .ok (.iastore, 1) := by decide +kernel
theorem dX2_init_118 : decode cX2_init 118 = .ok (.iinc 1 1, 3) := by decide +kernel
theorem dX2_init_121 : decode cX2_init 121 = .ok (.goto (-16), 3) := by decide +kernel
theorem dX2_init_124 : decode cX2_init 124 = .ok (.return_, 1) := by decide +kernel
set_option maxRecDepth 20000 in
theorem ggX2_take_X1_take : GoodIn wsX2_take wsX1_take := goodIn_r _ [16, 17, 18, 19, 6, 7, 8, 20, 21, 43, 44, 45, 46] (by decide +kernel) (by decide +kernel)
set_option maxRecDepth 20000 in
theorem gX2_take_X1_take : GoodIn wsX2_take (wsV RX2 39 RX1 yX1_take wsX1_take) := goodIn_app (goodIn_of _ (by decide +kernel)) ggX2_take_X1_take
set_option maxRecDepth 20000 in
theorem ggX2_take_X4_take : GoodIn wsX2_take wsX4_take := goodIn_r _ [26, 27, 28, 29, 30, 47, 48, 49, 50, 51] (by decide +kernel) (by decide +kernel)
set_option maxRecDepth 20000 in
theorem gX2_take_X4_take : GoodIn wsX2_take (wsV RX2 43 RX4 yX4_take wsX4_take) := goodIn_app (goodIn_of _ (by decide +kernel)) ggX2_take_X4_take
theorem dX2_take_0 : decode cX2_take 0 = .ok (.iconst 0, 1) := by decide +kernel
theorem dX2_take_1 : decode cX2_take 1 = .ok (.istore_n 2, 1) := by decide +kernel
theorem dX2_take_2 : decode cX2_take 2 = .ok (.iload_n 2, 1) := by decide +kernel
theorem dX2_take_3 : decode cX2_take 3 = .ok (.bipush 16, 2) := by decide +kernel
theorem dX2_take_5 : decode cX2_take 5 = .ok (.if_icmp .ge 24, 3) := by decide +kernel
theorem dX2_take_8 : decode cX2_take 8 = .ok (.aload_n 0, 1) := by decide +kernel
theorem dX2_take_9 : decode cX2_take 9 = .ok (.getfield 11, 3) := by decide +kernel
theorem dX2_take_12 : decode cX2_take 12 = .ok (.iload_n 2, 1) := by decide +kernel
theorem dX2_take_13 : decode cX2_take 13 = .ok (.aaload, 1) := by decide +kernel
theorem dX2_take_14 : decode cX2_take 14 = .ok (.aload_n 1, 1) := by decide +kernel
theorem dX2_take_15 : decode cX2_take 15 = .ok (.getfield 11, 3) := by decide +kernel
theorem dX2_take_18 : decode cX2_take 18 = .ok (.iload_n 2, 1) := by decide +kernel
theorem dX2_take_19 : decode cX2_take 19 = .ok (.aaload, 1) := by decide +kernel
theorem dX2_take_20 : decode cX2_take 20 = .ok (.invokevirtual 39, 3) := by decide +kernel
theorem dX2_take_23 : decode cX2_take 23 = .ok (.iinc 2 1, 3) := by decide +kernel
theorem dX2_take_26 : decode cX2_take 26 = .ok (.goto (-24), 3) := by decide +kernel
theorem dX2_take_29 : decode cX2_take 29 = .ok (.iconst 0, 1) := by decide +kernel
theorem dX2_take_30 : decode cX2_take 30 = .ok (.istore_n 2, 1) := by decide +kernel
theorem dX2_take_31 : decode cX2_take 31 = .ok (.iload_n 2, 1) := by decide +kernel
theorem dX2_take_32 : decode cX2_take 32 = .ok (.bipush 6, 2) := by decide +kernel
theorem dX2_take_34 : decode cX2_take 34 = .ok (.if_icmp .ge 24, 3) := by decide +kernel
theorem dX2_take_37 : decode cX2_take 37 = .ok (.aload_n 0, 1) := by decide +kernel
theorem dX2_take_38 : decode cX2_take 38 = .ok (.getfield 19, 3) := by decide +kernel
theorem dX2_take_41 : decode cX2_take 41 = .ok (.iload_n 2, 1) := by decide +kernel
theorem dX2_take_42 : decode cX2_take 42 = .ok (.aaload, 1) := by decide +kernel
theorem dX2_take_43 : decode cX2_take 43 = .ok (.aload_n 1, 1) := by decide +kernel
theorem dX2_take_44 : decode cX2_take 44 = .ok (.getfield 19, 3) := by decide +kernel
theorem dX2_take_47 : decode cX2_take 47 = .ok (.iload_n 2, 1) := by decide +kernel
theorem dX2_take_48 : decode cX2_take 48 = .ok (.aaload, 1) := by decide +kernel
theorem dX2_take_49 : decode cX2_take 49 = .ok (.invokevirtual 43, 3) := by decide +kernel
theorem dX2_take_52 : decode cX2_take 52 = .ok (.iinc 2 1, 3) := by decide +kernel
theorem dX2_take_55 : decode cX2_take 55 = .ok (.goto (-24), 3) := by decide +kernel
theorem dX2_take_58 : decode cX2_take 58 = .ok (.aload_n 0, 1) := by decide +kernel
theorem dX2_take_59 : decode cX2_take 59 = .ok (.aload_n 1, 1) := by decide +kernel
theorem dX2_take_60 : decode cX2_take 60 = .ok (.getfield 46, 3) := by decide +kernel
theorem dX2_take_63 : decode cX2_take 63 = .ok (.putfield 46, 3) := by decide +kernel
theorem dX2_take_66 : decode cX2_take 66 = .ok (.aload_n 1, 1) := by decide +kernel
theorem dX2_take_67 : decode cX2_take 67 = .ok (.getfield 23, 3) := by decide +kernel
theorem dX2_take_70 : decode cX2_take 70 = .ok (.iconst 0, 1) := by decide +kernel
theorem dX2_take_71 : decode cX2_take 71 = .ok (.aload_n 0, 1) := by decide +kernel
theorem dX2_take_72 : decode cX2_take 72 = .ok (.getfield 23, 3) := by decide +kernel
theorem dX2_take_75 : decode cX2_take 75 = .ok (.iconst 0, 1) := by decide +kernel
theorem dX2_take_76 : decode cX2_take 76 = .ok (.iconst 3, 1) := by decide +kernel
theorem dX2_take_77 : decode cX2_take 77 = .ok (.invokestatic 49, 3) := by decide +kernel
theorem dX2_take_80 : decode cX2_take 80 = .ok (.aload_n 0, 1) := by decide +kernel
theorem dX2_take_81 : decode cX2_take 81 = .ok (.aload_n 1, 1) := by decide +kernel
theorem dX2_take_82 : decode cX2_take 82 = .ok (.getfield 27, 3) := by decide +kernel
theorem dX2_take_85 : decode cX2_take 85 = .ok (.putfield 27, 3) := by decide +kernel
theorem dX2_take_88 : decode cX2_take 88 = .ok (.aload_n 0, 1) := by decide +kernel
theorem dX2_take_89 : decode cX2_take 89 = .ok (.aload_n 1, 1) := by decide +kernel
theorem dX2_take_90 : decode cX2_take 90 = .ok (.getfield 31, 3) := by decide +kernel
theorem dX2_take_93 : decode cX2_take 93 = .ok (.putfield 31, 3) := by decide +kernel
theorem dX2_take_96 : decode cX2_take 96 = .ok (.aload_n 0, 1) := by decide +kernel
theorem dX2_take_97 : decode cX2_take 97 = .ok (.aload_n 1, 1) := by decide +kernel
theorem dX2_take_98 : decode cX2_take 98 = .ok (.getfield 55, 3) := by decide +kernel
theorem dX2_take_101 : decode cX2_take 101 = .ok (.putfield 55, 3) := by decide +kernel
theorem dX2_take_104 : decode cX2_take 104 = .ok (.return_, 1) := by decide +kernel
theorem dX2_inAllCells_0 : decode cX2_inAllCells 0 = .ok (.iconst 0, 1) := by decide +kernel
theorem dX2_inAllCells_1 : decode cX2_inAllCells 1 = .ok (.istore_n 2, 1) := by decide +kernel
theorem dX2_inAllCells_2 : decode cX2_inAllCells 2 = .ok (.iconst 0, 1) := by decide +kernel
theorem dX2_inAllCells_3 : decode cX2_inAllCells 3 = .ok (.istore_n 3, 1) := by decide +kernel
theorem dX2_inAllCells_4 : decode cX2_inAllCells 4 = .ok (.iload_n 3, 1) := by decide +kernel
theorem dX2_inAllCells_5 : decode cX2_inAllCells 5 = .ok (.bipush 16, 2) := by decide +kernel
theorem dX2_inAllCells_7 : decode cX2_inAllCells 7 = .ok (.if_icmp .ge 23, 3) := by decide +kernel
theorem dX2_inAllCells_10 : decode cX2_inAllCells 10 = .ok (.iload_n 2, 1) := by decide +kernel
theorem dX2_inAllCells_11 : decode cX2_inAllCells 11 = .ok (.aload_n 0, 1) := by decide +kernel
theorem dX2_inAllCells_12 : decode cX2_inAllCells 12 = .ok (.getfield 11, 3) := by decide +kernel
theorem dX2_inAllCells_15 : decode cX2_inAllCells 15 = .ok (.iload_n 3, 1) := by decide +kernel
theorem dX2_inAllCells_16 : decode cX2_inAllCells 16 = .ok (.aaload, 1) := by decide +kernel
theorem dX2_inAllCells_17 : decode cX2_inAllCells 17 = .ok (.getfield 58, 3) := by decide +kernel
theorem dX2_inAllCells_20 : decode cX2_inAllCells 20 = .ok (.iload_n 1, 1) := by decide +kernel
theorem dX2_inAllCells_21 : decode cX2_inAllCells 21 = .ok (.iaload, 1) := by decide +kernel
theorem dX2_inAllCells_22 : decode cX2_inAllCells 22 = .ok (.iadd, 1) := by decide +kernel
theorem dX2_inAllCells_23 : decode cX2_inAllCells 23 = .ok (.istore_n 2, 1) := by decide +kernel
theorem dX2_inAllCells_24 : decode cX2_inAllCells 24 = .ok (.iinc 3 1, 3) := by decide +kernel
theorem dX2_inAllCells_27 : decode cX2_inAllCells 27 = .ok (.goto (-23), 3) := by decide +kernel
theorem dX2_inAllCells_30 : decode cX2_inAllCells 30 = .ok (.iload_n 2, 1) := by decide +kernel
theorem dX2_inAllCells_31 : decode cX2_inAllCells 31 = .ok (.ireturn, 1) := by decide +kernel
set_option maxRecDepth 20000 in
theorem ggX2_faults_X1_isShut : GoodIn wsX2_faults wsX1_isShut := goodIn_r _ [6, 7, 8, 21, 22, 23, 24] (by decide +kernel) (by decide +kernel)
set_option maxRecDepth 20000 in
theorem gX2_faults_X1_isShut : GoodIn wsX2_faults (wsV RX2 61 RX1 yX1_isShut wsX1_isShut) := goodIn_app (goodIn_of _ (by decide +kernel)) ggX2_faults_X1_isShut
theorem dX2_faults_0 : decode cX2_faults 0 = .ok (.iconst 0, 1) := by decide +kernel
theorem dX2_faults_1 : decode cX2_faults 1 = .ok (.istore_n 1, 1) := by decide +kernel
theorem dX2_faults_2 : decode cX2_faults 2 = .ok (.iconst 0, 1) := by decide +kernel
theorem dX2_faults_3 : decode cX2_faults 3 = .ok (.istore_n 2, 1) := by decide +kernel
theorem dX2_faults_4 : decode cX2_faults 4 = .ok (.iload_n 2, 1) := by decide +kernel
theorem dX2_faults_5 : decode cX2_faults 5 = .ok (.bipush 16, 2) := by decide +kernel
theorem dX2_faults_7 : decode cX2_faults 7 = .ok (.if_icmp .ge 51, 3) := by decide +kernel
theorem dX2_faults_10 : decode cX2_faults 10 = .ok (.iload_n 1, 1) := by decide +kernel
theorem dX2_faults_11 : decode cX2_faults 11 = .ok (.aload_n 0, 1) := by decide +kernel
theorem dX2_faults_12 : decode cX2_faults 12 = .ok (.getfield 11, 3) := by decide +kernel
theorem dX2_faults_15 : decode cX2_faults 15 = .ok (.iload_n 2, 1) := by decide +kernel
theorem dX2_faults_16 : decode cX2_faults 16 = .ok (.aaload, 1) := by decide +kernel
theorem dX2_faults_17 : decode cX2_faults 17 = .ok (.iconst 1, 1) := by decide +kernel
theorem dX2_faults_18 : decode cX2_faults 18 = .ok (.invokevirtual 61, 3) := by decide +kernel
theorem dX2_faults_21 : decode cX2_faults 21 = .ok (.ifCond .eq 7, 3) := by decide +kernel
theorem dX2_faults_24 : decode cX2_faults 24 = .ok (.iconst 1, 1) := by decide +kernel
theorem dX2_faults_25 : decode cX2_faults 25 = .ok (.goto 4, 3) := by decide +kernel
theorem dX2_faults_28 : decode cX2_faults 28 = .ok (.iconst 0, 1) := by decide +kernel
theorem dX2_faults_29 : decode cX2_faults 29 = .ok (.iadd, 1) := by decide +kernel
theorem dX2_faults_30 : decode cX2_faults 30 = .ok (.istore_n 1, 1) := by decide +kernel
theorem dX2_faults_31 : decode cX2_faults 31 = .ok (.iload_n 1, 1) := by decide +kernel
theorem dX2_faults_32 : decode cX2_faults 32 = .ok (.aload_n 0, 1) := by decide +kernel
theorem dX2_faults_33 : decode cX2_faults 33 = .ok (.getfield 11, 3) := by decide +kernel
theorem dX2_faults_36 : decode cX2_faults 36 = .ok (.iload_n 2, 1) := by decide +kernel
theorem dX2_faults_37 : decode cX2_faults 37 = .ok (.aaload, 1) := by decide +kernel
theorem dX2_faults_38 : decode cX2_faults 38 = .ok (.iconst 0, 1) := by decide +kernel
theorem dX2_faults_39 : decode cX2_faults 39 = .ok (.invokevirtual 61, 3) := by decide +kernel
theorem dX2_faults_42 : decode cX2_faults 42 = .ok (.ifCond .eq 7, 3) := by decide +kernel
theorem dX2_faults_45 : decode cX2_faults 45 = .ok (.iconst 1, 1) := by decide +kernel
theorem dX2_faults_46 : decode cX2_faults 46 = .ok (.goto 4, 3) := by decide +kernel
theorem dX2_faults_49 : decode cX2_faults 49 = .ok (.iconst 0, 1) := by decide +kernel
theorem dX2_faults_50 : decode cX2_faults 50 = .ok (.iadd, 1) := by decide +kernel
theorem dX2_faults_51 : decode cX2_faults 51 = .ok (.istore_n 1, 1) := by decide +kernel
theorem dX2_faults_52 : decode cX2_faults 52 = .ok (.iinc 2 1, 3) := by decide +kernel
theorem dX2_faults_55 : decode cX2_faults 55 = .ok (.goto (-51), 3) := by decide +kernel
theorem dX2_faults_58 : decode cX2_faults 58 = .ok (.iload_n 1, 1) := by decide +kernel
theorem dX2_faults_59 : decode cX2_faults 59 = .ok (.ireturn, 1) := by decide +kernel
set_option maxRecDepth 20000 in
theorem ggX2_passMonths_X2_passMonth : GoodIn wsX2_passMonths wsX2_passMonth := goodIn_r _ [5, 6, 7, 8, 9, 10, 11, 12, 13, 4, 14, 15, 16, 17, 18, 19, 20, 21, 22, 23, 24, 25, 26, 27, 28, 29, 30, 31, 32, 33, 34, 35, 36, 37, 38, 39, 40, 41, 42, 43, 44, 45, 46, 47, 48, 49, 50, 51, 52, 53, 54, 55, 56, 57, 58, 59, 60, 61, 62, 63, 64, 65, 66, 67, 68, 69, 70, 71, 72, 73, 74, 75, 76, 77, 78, 79, 80, 81, 82, 83, 84, 85, 86, 87, 88, 89, 90, 91, 92, 93, 94, 95, 96, 97, 98, 99, 100, 101, 102, 103, 104, 105, 106, 107, 108, 109, 110, 111, 112, 113, 114, 115, 116, 117, 118, 119, 120, 121, 122] (by decide +kernel) (by decide +kernel)
set_option maxRecDepth 20000 in
theorem gX2_passMonths_X2_passMonth : GoodIn wsX2_passMonths (wsV RX2 65 RX2 yX2_passMonth wsX2_passMonth) := goodIn_app (goodIn_of _ (by decide +kernel)) ggX2_passMonths_X2_passMonth
theorem dX2_passMonths_0 : decode cX2_passMonths 0 = .ok (.iconst 0, 1) := by decide +kernel
theorem dX2_passMonths_1 : decode cX2_passMonths 1 = .ok (.istore_n 2, 1) := by decide +kernel
theorem dX2_passMonths_2 : decode cX2_passMonths 2 = .ok (.iconst 0, 1) := by decide +kernel
theorem dX2_passMonths_3 : decode cX2_passMonths 3 = .ok (.istore_n 3, 1) := by decide +kernel
theorem dX2_passMonths_4 : decode cX2_passMonths 4 = .ok (.iload_n 3, 1) := by decide +kernel
theorem dX2_passMonths_5 : decode cX2_passMonths 5 = .ok (.iload_n 1, 1) := by decide +kernel
theorem dX2_passMonths_6 : decode cX2_passMonths 6 = .ok (.if_icmp .ge 16, 3) := by decide +kernel
theorem dX2_passMonths_9 : decode cX2_passMonths 9 = .ok (.iload_n 2, 1) := by decide +kernel
theorem dX2_passMonths_10 : decode cX2_passMonths 10 = .ok (.aload_n 0, 1) := by decide +kernel
theorem dX2_passMonths_11 : decode cX2_passMonths 11 = .ok (.invokevirtual 65, 3) := by decide +kernel
theorem dX2_passMonths_14 : decode cX2_passMonths 14 = .ok (.iadd, 1) := by decide +kernel
theorem dX2_passMonths_15 : decode cX2_passMonths 15 = .ok (.istore_n 2, 1) := by decide +kernel
theorem dX2_passMonths_16 : decode cX2_passMonths 16 = .ok (.iinc 3 1, 3) := by decide +kernel
theorem dX2_passMonths_19 : decode cX2_passMonths 19 = .ok (.goto (-15), 3) := by decide +kernel
theorem dX2_passMonths_22 : decode cX2_passMonths 22 = .ok (.iload_n 2, 1) := by decide +kernel
theorem dX2_passMonths_23 : decode cX2_passMonths 23 = .ok (.ireturn, 1) := by decide +kernel
set_option maxRecDepth 20000 in
theorem ggX2_passMonth_X2_startMonth : GoodIn wsX2_passMonth wsX2_startMonth := goodIn_r _ [10, 5, 11, 12, 13, 14, 1, 2, 3, 15, 16, 17, 18, 19, 20, 21, 98, 99, 100, 101, 102, 103, 104, 105, 106, 107, 108, 109, 110, 111, 112, 113, 114] (by decide +kernel) (by decide +kernel)
set_option maxRecDepth 20000 in
theorem gX2_passMonth_X2_startMonth : GoodIn wsX2_passMonth (wsV RX2 69 RX2 yX2_startMonth wsX2_startMonth) := goodIn_app (goodIn_of _ (by decide +kernel)) ggX2_passMonth_X2_startMonth
set_option maxRecDepth 20000 in
theorem ggX2_passMonth_X2_produce : GoodIn wsX2_passMonth wsX2_produce := goodIn_r _ [25, 26, 27, 28, 29, 30, 31, 15, 32, 33, 34, 35, 5, 36, 37, 38, 39, 40, 41, 42, 43, 44, 45, 46, 47, 48, 49, 50, 9, 51, 52, 53, 14, 54, 55, 56, 57, 58, 59, 60, 61, 62, 63, 64, 65, 66, 67, 68, 69, 70, 98, 99, 100, 101, 102, 103, 104, 105, 106, 107, 108, 109, 110, 111, 112, 113, 114, 115, 116, 117, 118] (by decide +kernel) (by decide +kernel)
set_option maxRecDepth 20000 in
theorem gX2_passMonth_X2_produce : GoodIn wsX2_passMonth (wsV RX2 78 RX2 yX2_produce wsX2_produce) := goodIn_app (goodIn_of _ (by decide +kernel)) ggX2_passMonth_X2_produce
set_option maxRecDepth 20000 in
theorem ggX2_passMonth_X2_putGasBack : GoodIn wsX2_passMonth wsX2_putGasBack := goodIn_r _ [74, 5, 1, 2, 3, 15, 32, 33, 30, 34, 11, 75, 76, 77, 78, 9, 79, 26, 27, 80, 35, 98, 99, 100, 101, 102, 103, 104, 105, 106, 107, 108, 109, 110, 111, 112, 113, 114, 115, 116, 117, 118] (by decide +kernel) (by decide +kernel)
set_option maxRecDepth 20000 in
theorem gX2_passMonth_X2_putGasBack : GoodIn wsX2_passMonth (wsV RX2 81 RX2 yX2_putGasBack wsX2_putGasBack) := goodIn_app (goodIn_of _ (by decide +kernel)) ggX2_passMonth_X2_putGasBack
set_option maxRecDepth 20000 in
theorem ggX2_passMonth_X2_putWaterIn : GoodIn wsX2_passMonth wsX2_putWaterIn := goodIn_r _ [84, 1, 2, 3, 26, 27, 15, 12, 37, 38, 39, 40, 41, 42, 43, 44, 45, 46, 47, 76, 77, 78, 9, 79, 80, 35, 98, 99, 100, 101, 102, 103, 104, 105, 106, 107, 108, 109, 110, 111, 112, 113, 114, 115, 116, 117, 118] (by decide +kernel) (by decide +kernel)
set_option maxRecDepth 20000 in
theorem gX2_passMonth_X2_putWaterIn : GoodIn wsX2_passMonth (wsV RX2 84 RX2 yX2_putWaterIn wsX2_putWaterIn) := goodIn_app (goodIn_of _ (by decide +kernel)) ggX2_passMonth_X2_putWaterIn
set_option maxRecDepth 20000 in
theorem ggX2_passMonth_X2_evenOut : GoodIn wsX2_passMonth wsX2_evenOut := goodIn_r _ [88, 26, 80, 89, 90, 91, 92, 93, 94, 40, 95, 96, 97, 37, 38, 39, 41, 42, 43, 44, 45, 46, 47, 63, 64, 65, 66, 67, 33, 30, 34, 68, 69, 70, 58, 59, 60, 61, 62, 98, 99, 100, 101, 102, 103, 104, 105, 106, 107, 108, 109, 115, 116, 117, 118] (by decide +kernel) (by decide +kernel)
set_option maxRecDepth 20000 in
theorem gX2_passMonth_X2_evenOut : GoodIn wsX2_passMonth (wsV RX2 87 RX2 yX2_evenOut wsX2_evenOut) := goodIn_app (goodIn_of _ (by decide +kernel)) ggX2_passMonth_X2_evenOut
theorem dX2_passMonth_0 : decode cX2_passMonth 0 = .ok (.aload_n 0, 1) := by decide +kernel
theorem dX2_passMonth_1 : decode cX2_passMonth 1 = .ok (.invokevirtual 69, 3) := by decide +kernel
theorem dX2_passMonth_4 : decode cX2_passMonth 4 = .ok (.iconst 1, 1) := by decide +kernel
theorem dX2_passMonth_5 : decode cX2_passMonth 5 = .ok (.istore_n 1, 1) := by decide +kernel
theorem dX2_passMonth_6 : decode cX2_passMonth 6 = .ok (.iload_n 1, 1) := by decide +kernel
theorem dX2_passMonth_7 : decode cX2_passMonth 7 = .ok (.bipush 9, 2) := by decide +kernel
theorem dX2_passMonth_9 : decode cX2_passMonth 9 = .ok (.if_icmp .gt 60, 3) := by decide +kernel
theorem dX2_passMonth_12 : decode cX2_passMonth 12 = .ok (.iconst 0, 1) := by decide +kernel
theorem dX2_passMonth_13 : decode cX2_passMonth 13 = .ok (.istore_n 2, 1) := by decide +kernel
theorem dX2_passMonth_14 : decode cX2_passMonth 14 = .ok (.iload_n 2, 1) := by decide +kernel
theorem dX2_passMonth_15 : decode cX2_passMonth 15 = .ok (.aload_n 0, 1) := by decide +kernel
theorem dX2_passMonth_16 : decode cX2_passMonth 16 = .ok (.getfield 46, 3) := by decide +kernel
theorem dX2_passMonth_19 : decode cX2_passMonth 19 = .ok (.if_icmp .ge 44, 3) := by decide +kernel
theorem dX2_passMonth_22 : decode cX2_passMonth 22 = .ok (.aload_n 0, 1) := by decide +kernel
theorem dX2_passMonth_23 : decode cX2_passMonth 23 = .ok (.getfield 19, 3) := by decide +kernel
theorem dX2_passMonth_26 : decode cX2_passMonth 26 = .ok (.iload_n 2, 1) := by decide +kernel
theorem dX2_passMonth_27 : decode cX2_passMonth 27 = .ok (.aaload, 1) := by decide +kernel
theorem dX2_passMonth_28 : decode cX2_passMonth 28 = .ok (.getfield 72, 3) := by decide +kernel
theorem dX2_passMonth_31 : decode cX2_passMonth 31 = .ok (.ifCond .ne 26, 3) := by decide +kernel
theorem dX2_passMonth_34 : decode cX2_passMonth 34 = .ok (.aload_n 0, 1) := by decide +kernel
theorem dX2_passMonth_35 : decode cX2_passMonth 35 = .ok (.getfield 19, 3) := by decide +kernel
theorem dX2_passMonth_38 : decode cX2_passMonth 38 = .ok (.iload_n 2, 1) := by decide +kernel
theorem dX2_passMonth_39 : decode cX2_passMonth 39 = .ok (.aaload, 1) := by decide +kernel
theorem dX2_passMonth_40 : decode cX2_passMonth 40 = .ok (.getfield 75, 3) := by decide +kernel
theorem dX2_passMonth_43 : decode cX2_passMonth 43 = .ok (.iload_n 1, 1) := by decide +kernel
theorem dX2_passMonth_44 : decode cX2_passMonth 44 = .ok (.if_icmp .ne 13, 3) := by decide +kernel
theorem dX2_passMonth_47 : decode cX2_passMonth 47 = .ok (.aload_n 0, 1) := by decide +kernel
theorem dX2_passMonth_48 : decode cX2_passMonth 48 = .ok (.aload_n 0, 1) := by decide +kernel
theorem dX2_passMonth_49 : decode cX2_passMonth 49 = .ok (.getfield 19, 3) := by decide +kernel
theorem dX2_passMonth_52 : decode cX2_passMonth 52 = .ok (.iload_n 2, 1) := by decide +kernel
theorem dX2_passMonth_53 : decode cX2_passMonth 53 = .ok (.aaload, 1) := by decide +kernel
theorem dX2_passMonth_54 : decode cX2_passMonth 54 = .ok (.invokevirtual 78, 3) := by decide +kernel
theorem dX2_passMonth_57 : decode cX2_passMonth 57 = .ok (.iinc 2 1, 3) := by decide +kernel
theorem dX2_passMonth_60 : decode cX2_passMonth 60 = .ok (.goto (-46), 3) := by decide +kernel
theorem dX2_passMonth_63 : decode cX2_passMonth 63 = .ok (.iinc 1 1, 3) := by decide +kernel
theorem dX2_passMonth_66 : decode cX2_passMonth 66 = .ok (.goto (-60), 3) := by decide +kernel
theorem dX2_passMonth_69 : decode cX2_passMonth 69 = .ok (.aload_n 0, 1) := by decide +kernel
theorem dX2_passMonth_70 : decode cX2_passMonth 70 = .ok (.invokevirtual 81, 3) := by decide +kernel
theorem dX2_passMonth_73 : decode cX2_passMonth 73 = .ok (.aload_n 0, 1) := by decide +kernel
theorem dX2_passMonth_74 : decode cX2_passMonth 74 = .ok (.invokevirtual 84, 3) := by decide +kernel
theorem dX2_passMonth_77 : decode cX2_passMonth 77 = .ok (.iconst 0, 1) := by decide +kernel
theorem dX2_passMonth_78 : decode cX2_passMonth 78 = .ok (.istore_n 1, 1) := by decide +kernel
theorem dX2_passMonth_79 : decode cX2_passMonth 79 = .ok (.iload_n 1, 1) := by decide +kernel
theorem dX2_passMonth_80 : decode cX2_passMonth 80 = .ok (.bipush 16, 2) := by decide +kernel
theorem dX2_passMonth_82 : decode cX2_passMonth 82 = .ok (.if_icmp .ge 21, 3) := by decide +kernel
theorem dX2_passMonth_85 : decode cX2_passMonth 85 = .ok (.aload_n 0, 1) := by decide +kernel
theorem dX2_passMonth_86 : decode cX2_passMonth 86 = .ok (.iload_n 1, 1) := by decide +kernel
theorem dX2_passMonth_87 : decode cX2_passMonth 87 = .ok (.iconst 1, 1) := by decide +kernel
theorem dX2_passMonth_88 : decode cX2_passMonth 88 = .ok (.invokevirtual 87, 3) := by decide +kernel
theorem dX2_passMonth_91 : decode cX2_passMonth 91 = .ok (.aload_n 0, 1) := by decide +kernel
theorem dX2_passMonth_92 : decode cX2_passMonth 92 = .ok (.iload_n 1, 1) := by decide +kernel
theorem dX2_passMonth_93 : decode cX2_passMonth 93 = .ok (.iconst 0, 1) := by decide +kernel
theorem dX2_passMonth_94 : decode cX2_passMonth 94 = .ok (.invokevirtual 87, 3) := by decide +kernel
theorem dX2_passMonth_97 : decode cX2_passMonth 97 = .ok (.iinc 1 1, 3) := by decide +kernel
theorem dX2_passMonth_100 : decode cX2_passMonth 100 = .ok (.goto (-21), 3) := by decide +kernel
theorem dX2_passMonth_103 : decode cX2_passMonth 103 = .ok (.aload_n 0, 1) := by decide +kernel
theorem dX2_passMonth_104 : decode cX2_passMonth 104 = .ok (.getfield 34, 3) := by decide +kernel
theorem dX2_passMonth_107 : decode cX2_passMonth 107 = .ok (.iconst 0, 1) := by decide +kernel
theorem dX2_passMonth_108 : decode cX2_passMonth 108 = .ok (.iaload, 1) := by decide +kernel
theorem dX2_passMonth_109 : decode cX2_passMonth 109 = .ok (.ireturn, 1) := by decide +kernel
set_option maxRecDepth 20000 in
theorem ggX2_startMonth_X4_forgetMonth : GoodIn wsX2_startMonth wsX4_forgetMonth := goodIn_r _ [14, 15, 28, 29, 30, 31, 32] (by decide +kernel) (by decide +kernel)
set_option maxRecDepth 20000 in
theorem gX2_startMonth_X4_forgetMonth : GoodIn wsX2_startMonth (wsV RX2 100 RX4 yX4_forgetMonth wsX4_forgetMonth) := goodIn_app (goodIn_of _ (by decide +kernel)) ggX2_startMonth_X4_forgetMonth
theorem dX2_startMonth_0 : decode cX2_startMonth 0 = .ok (.iconst 0, 1) := by decide +kernel
theorem dX2_startMonth_1 : decode cX2_startMonth 1 = .ok (.istore_n 1, 1) := by decide +kernel
theorem dX2_startMonth_2 : decode cX2_startMonth 2 = .ok (.iload_n 1, 1) := by decide +kernel
theorem dX2_startMonth_3 : decode cX2_startMonth 3 = .ok (.iconst 3, 1) := by decide +kernel
theorem dX2_startMonth_4 : decode cX2_startMonth 4 = .ok (.if_icmp .ge 16, 3) := by decide +kernel
theorem dX2_startMonth_7 : decode cX2_startMonth 7 = .ok (.aload_n 0, 1) := by decide +kernel
theorem dX2_startMonth_8 : decode cX2_startMonth 8 = .ok (.getfield 34, 3) := by decide +kernel
theorem dX2_startMonth_11 : decode cX2_startMonth 11 = .ok (.iload_n 1, 1) := by decide +kernel
theorem dX2_startMonth_12 : decode cX2_startMonth 12 = .ok (.iconst 0, 1) := by decide +kernel
theorem dX2_startMonth_13 : decode cX2_startMonth 13 = .ok (.iastore, 1) := by decide +kernel
theorem dX2_startMonth_14 : decode cX2_startMonth 14 = .ok (.iinc 1 1, 3) := by decide +kernel
theorem dX2_startMonth_17 : decode cX2_startMonth 17 = .ok (.goto (-15), 3) := by decide +kernel
theorem dX2_startMonth_20 : decode cX2_startMonth 20 = .ok (.aload_n 0, 1) := by decide +kernel
theorem dX2_startMonth_21 : decode cX2_startMonth 21 = .ok (.iconst 0, 1) := by decide +kernel
theorem dX2_startMonth_22 : decode cX2_startMonth 22 = .ok (.putfield 91, 3) := by decide +kernel
theorem dX2_startMonth_25 : decode cX2_startMonth 25 = .ok (.aload_n 0, 1) := by decide +kernel
theorem dX2_startMonth_26 : decode cX2_startMonth 26 = .ok (.iconst 0, 1) := by decide +kernel
theorem dX2_startMonth_27 : decode cX2_startMonth 27 = .ok (.putfield 94, 3) := by decide +kernel
theorem dX2_startMonth_30 : decode cX2_startMonth 30 = .ok (.aload_n 0, 1) := by decide +kernel
theorem dX2_startMonth_31 : decode cX2_startMonth 31 = .ok (.aload_n 0, 1) := by decide +kernel
theorem dX2_startMonth_32 : decode cX2_startMonth 32 = .ok (.getfield 27, 3) := by decide +kernel
theorem dX2_startMonth_35 : decode cX2_startMonth 35 = .ok (.putfield 97, 3) := by decide +kernel
theorem dX2_startMonth_38 : decode cX2_startMonth 38 = .ok (.iconst 0, 1) := by decide +kernel
theorem dX2_startMonth_39 : decode cX2_startMonth 39 = .ok (.istore_n 1, 1) := by decide +kernel
theorem dX2_startMonth_40 : decode cX2_startMonth 40 = .ok (.iload_n 1, 1) := by decide +kernel
theorem dX2_startMonth_41 : decode cX2_startMonth 41 = .ok (.aload_n 0, 1) := by decide +kernel
theorem dX2_startMonth_42 : decode cX2_startMonth 42 = .ok (.getfield 46, 3) := by decide +kernel
theorem dX2_startMonth_45 : decode cX2_startMonth 45 = .ok (.if_icmp .ge 51, 3) := by decide +kernel
theorem dX2_startMonth_48 : decode cX2_startMonth 48 = .ok (.aload_n 0, 1) := by decide +kernel
theorem dX2_startMonth_49 : decode cX2_startMonth 49 = .ok (.getfield 19, 3) := by decide +kernel
theorem dX2_startMonth_52 : decode cX2_startMonth 52 = .ok (.iload_n 1, 1) := by decide +kernel
theorem dX2_startMonth_53 : decode cX2_startMonth 53 = .ok (.aaload, 1) := by decide +kernel
theorem dX2_startMonth_54 : decode cX2_startMonth 54 = .ok (.invokevirtual 100, 3) := by decide +kernel
theorem dX2_startMonth_57 : decode cX2_startMonth 57 = .ok (.aload_n 0, 1) := by decide +kernel
theorem dX2_startMonth_58 : decode cX2_startMonth 58 = .ok (.getfield 19, 3) := by decide +kernel
theorem dX2_startMonth_61 : decode cX2_startMonth 61 = .ok (.iload_n 1, 1) := by decide +kernel
theorem dX2_startMonth_62 : decode cX2_startMonth 62 = .ok (.aaload, 1) := by decide +kernel
theorem dX2_startMonth_63 : decode cX2_startMonth 63 = .ok (.getfield 72, 3) := by decide +kernel
theorem dX2_startMonth_66 : decode cX2_startMonth 66 = .ok (.iconst 2, 1) := by decide +kernel
theorem dX2_startMonth_67 : decode cX2_startMonth 67 = .ok (.if_icmp .ne 23, 3) := by decide +kernel
theorem dX2_startMonth_70 : decode cX2_startMonth 70 = .ok (.aload_n 0, 1) := by decide +kernel
theorem dX2_startMonth_71 : decode cX2_startMonth 71 = .ok (.dup, 1) := by decide +kernel
theorem dX2_startMonth_72 : decode cX2_startMonth 72 = .ok (.getfield 97, 3) := by decide +kernel
theorem dX2_startMonth_75 : decode cX2_startMonth 75 = .ok (.iconst 2, 1) := by decide +kernel
theorem dX2_startMonth_76 : decode cX2_startMonth 76 = .ok (.aload_n 0, 1) := by decide +kernel
theorem dX2_startMonth_77 : decode cX2_startMonth 77 = .ok (.getfield 19, 3) := by decide +kernel
theorem dX2_startMonth_80 : decode cX2_startMonth 80 = .ok (.iload_n 1, 1) := by decide +kernel
theorem dX2_startMonth_81 : decode cX2_startMonth 81 = .ok (.aaload, 1) := by decide +kernel
theorem dX2_startMonth_82 : decode cX2_startMonth 82 = .ok (.getfield 103, 3) := by decide +kernel
theorem dX2_startMonth_85 : decode cX2_startMonth 85 = .ok (.imul, 1) := by decide +kernel
theorem dX2_startMonth_86 : decode cX2_startMonth 86 = .ok (.iadd, 1) := by decide +kernel
theorem dX2_startMonth_87 : decode cX2_startMonth 87 = .ok (.putfield 97, 3) := by decide +kernel
theorem dX2_startMonth_90 : decode cX2_startMonth 90 = .ok (.iinc 1 1, 3) := by decide +kernel
theorem dX2_startMonth_93 : decode cX2_startMonth 93 = .ok (.goto (-53), 3) := by decide +kernel
theorem dX2_startMonth_96 : decode cX2_startMonth 96 = .ok (.return_, 1) := by decide +kernel
set_option maxRecDepth 20000 in
theorem ggX2_produce_X1_pressure : GoodIn wsX2_produce wsX1_pressure := goodIn_r _ [18, 19, 20, 21, 22, 17, 23, 24, 67, 68, 69, 70] (by decide +kernel) (by decide +kernel)
set_option maxRecDepth 20000 in
theorem gX2_produce_X1_pressure : GoodIn wsX2_produce (wsV RX2 109 RX1 yX1_pressure wsX1_pressure) := goodIn_app (goodIn_of _ (by decide +kernel)) ggX2_produce_X1_pressure
set_option maxRecDepth 20000 in
theorem ggX2_produce_X2_mayComeUp : GoodIn wsX2_produce wsX2_mayComeUp := goodIn_r _ [29, 30, 12, 31, 13, 8, 9, 5, 10, 32, 50, 51, 52, 53, 54, 55, 56, 57, 58, 59, 60, 61] (by decide +kernel) (by decide +kernel)
set_option maxRecDepth 20000 in
theorem gX2_produce_X2_mayComeUp : GoodIn wsX2_produce (wsV RX2 118 RX2 yX2_mayComeUp wsX2_mayComeUp) := goodIn_app (goodIn_of _ (by decide +kernel)) ggX2_produce_X2_mayComeUp
set_option maxRecDepth 20000 in
theorem ggX2_produce_X1_mostTimes : GoodIn wsX2_produce wsX1_mostTimes := goodIn_r _ [36, 24, 20, 21, 22, 17, 23, 37, 38, 39, 40, 41, 67, 68, 69, 70] (by decide +kernel) (by decide +kernel)
set_option maxRecDepth 20000 in
theorem gX2_produce_X1_mostTimes : GoodIn wsX2_produce (wsV RX2 122 RX1 yX1_mostTimes wsX1_mostTimes) := goodIn_app (goodIn_of _ (by decide +kernel)) ggX2_produce_X1_mostTimes
set_option maxRecDepth 20000 in
theorem ggX2_produce_X1_moveOut : GoodIn wsX2_produce wsX1_moveOut := goodIn_r _ [45, 24, 46, 9, 5, 10, 47, 48, 49, 20, 21, 22, 17, 23, 37, 38, 39, 40, 41, 67, 68, 69, 70] (by decide +kernel) (by decide +kernel)
set_option maxRecDepth 20000 in
theorem gX2_produce_X1_moveOut : GoodIn wsX2_produce (wsV RX2 131 RX1 yX1_moveOut wsX1_moveOut) := goodIn_app (goodIn_of _ (by decide +kernel)) ggX2_produce_X1_moveOut
theorem dX2_produce_0 : decode cX2_produce 0 = .ok (.aload_n 0, 1) := by decide +kernel
theorem dX2_produce_1 : decode cX2_produce 1 = .ok (.getfield 11, 3) := by decide +kernel
theorem dX2_produce_4 : decode cX2_produce 4 = .ok (.aload_n 1, 1) := by decide +kernel
theorem dX2_produce_5 : decode cX2_produce 5 = .ok (.getfield 106, 3) := by decide +kernel
theorem dX2_produce_8 : decode cX2_produce 8 = .ok (.aaload, 1) := by decide +kernel
theorem dX2_produce_9 : decode cX2_produce 9 = .ok (.astore_n 2, 1) := by decide +kernel
theorem dX2_produce_10 : decode cX2_produce 10 = .ok (.iconst 0, 1) := by decide +kernel
theorem dX2_produce_11 : decode cX2_produce 11 = .ok (.aload_n 2, 1) := by decide +kernel
theorem dX2_produce_12 : decode cX2_produce 12 = .ok (.invokevirtual 109, 3) := by decide +kernel
theorem dX2_produce_15 : decode cX2_produce 15 = .ok (.bipush 50, 2) := by decide +kernel
theorem dX2_produce_17 : decode cX2_produce 17 = .ok (.isub, 1) := by decide +kernel
theorem dX2_produce_18 : decode cX2_produce 18 = .ok (.invokestatic 112, 3) := by decide +kernel
theorem dX2_produce_21 : decode cX2_produce 21 = .ok (.istore_n 3, 1) := by decide +kernel
theorem dX2_produce_22 : decode cX2_produce 22 = .ok (.aload_n 1, 1) := by decide +kernel
theorem dX2_produce_23 : decode cX2_produce 23 = .ok (.getfield 103, 3) := by decide +kernel
theorem dX2_produce_26 : decode cX2_produce 26 = .ok (.iload_n 3, 1) := by decide +kernel
theorem dX2_produce_27 : decode cX2_produce 27 = .ok (.imul, 1) := by decide +kernel
theorem dX2_produce_28 : decode cX2_produce 28 = .ok (.bipush 100, 2) := by decide +kernel
theorem dX2_produce_30 : decode cX2_produce 30 = .ok (.idiv, 1) := by decide +kernel
theorem dX2_produce_31 : decode cX2_produce 31 = .ok (.istore 4, 2) := by decide +kernel
theorem dX2_produce_33 : decode cX2_produce 33 = .ok (.iconst 0, 1) := by decide +kernel
theorem dX2_produce_34 : decode cX2_produce 34 = .ok (.istore 5, 2) := by decide +kernel
theorem dX2_produce_36 : decode cX2_produce 36 = .ok (.iload 5, 2) := by decide +kernel
theorem dX2_produce_38 : decode cX2_produce 38 = .ok (.iconst 3, 1) := by decide +kernel
theorem dX2_produce_39 : decode cX2_produce 39 = .ok (.if_icmp .ge 28, 3) := by decide +kernel
theorem dX2_produce_42 : decode cX2_produce 42 = .ok (.iload 4, 2) := by decide +kernel
theorem dX2_produce_44 : decode cX2_produce 44 = .ok (.aload_n 2, 1) := by decide +kernel
theorem dX2_produce_45 : decode cX2_produce 45 = .ok (.iload 5, 2) := by decide +kernel
theorem dX2_produce_47 : decode cX2_produce 47 = .ok (.aload_n 0, 1) := by decide +kernel
theorem dX2_produce_48 : decode cX2_produce 48 = .ok (.iload 5, 2) := by decide +kernel
theorem dX2_produce_50 : decode cX2_produce 50 = .ok (.invokevirtual 118, 3) := by decide +kernel
theorem dX2_produce_53 : decode cX2_produce 53 = .ok (.invokevirtual 122, 3) := by decide +kernel
theorem dX2_produce_56 : decode cX2_produce 56 = .ok (.invokestatic 125, 3) := by decide +kernel
theorem dX2_produce_59 : decode cX2_produce 59 = .ok (.istore 4, 2) := by decide +kernel
theorem dX2_produce_61 : decode cX2_produce 61 = .ok (.iinc 5 1, 3) := by decide +kernel
theorem dX2_produce_64 : decode cX2_produce 64 = .ok (.goto (-28), 3) := by decide +kernel
theorem dX2_produce_67 : decode cX2_produce 67 = .ok (.aload_n 2, 1) := by decide +kernel
theorem dX2_produce_68 : decode cX2_produce 68 = .ok (.iload 4, 2) := by decide +kernel
theorem dX2_produce_70 : decode cX2_produce 70 = .ok (.aload_n 1, 1) := by decide +kernel
theorem dX2_produce_71 : decode cX2_produce 71 = .ok (.getfield 128, 3) := by decide +kernel
theorem dX2_produce_74 : decode cX2_produce 74 = .ok (.invokevirtual 131, 3) := by decide +kernel
theorem dX2_produce_77 : decode cX2_produce 77 = .ok (.iconst 0, 1) := by decide +kernel
theorem dX2_produce_78 : decode cX2_produce 78 = .ok (.istore 5, 2) := by decide +kernel
theorem dX2_produce_80 : decode cX2_produce 80 = .ok (.iload 5, 2) := by decide +kernel
theorem dX2_produce_82 : decode cX2_produce 82 = .ok (.iconst 3, 1) := by decide +kernel
theorem dX2_produce_83 : decode cX2_produce 83 = .ok (.if_icmp .ge 26, 3) := by decide +kernel
theorem dX2_produce_86 : decode cX2_produce 86 = .ok (.aload_n 0, 1) := by decide +kernel
theorem dX2_produce_87 : decode cX2_produce 87 = .ok (.getfield 34, 3) := by decide +kernel
theorem dX2_produce_90 : decode cX2_produce 90 = .ok (.iload 5, 2) := by decide +kernel
theorem dX2_produce_92 : decode cX2_produce 92 = .ok (.dup2, 1) := by decide +kernel
theorem dX2_produce_93 : decode cX2_produce 93 = .ok (.iaload, 1) := by decide +kernel
theorem dX2_produce_94 : decode cX2_produce 94 = .ok (.aload_n 1, 1) := by decide +kernel
theorem dX2_produce_95 : decode cX2_produce 95 = .ok (.getfield 128, 3) := by decide +kernel
theorem dX2_produce_98 : decode cX2_produce 98 = .ok (.iload 5, 2) := by decide +kernel
theorem dX2_produce_100 : decode cX2_produce 100 = .ok (.iaload, 1) := by decide +kernel
theorem dX2_produce_101 : decode cX2_produce 101 = .ok (.iadd, 1) := by decide +kernel
theorem dX2_produce_102 : decode cX2_produce 102 = .ok (.iastore, 1) := by decide +kernel
theorem dX2_produce_103 : decode cX2_produce 103 = .ok (.iinc 5 1, 3) := by decide +kernel
theorem dX2_produce_106 : decode cX2_produce 106 = .ok (.goto (-26), 3) := by decide +kernel
theorem dX2_produce_109 : decode cX2_produce 109 = .ok (.aload_n 0, 1) := by decide +kernel
theorem dX2_produce_110 : decode cX2_produce 110 = .ok (.dup, 1) := by decide +kernel
theorem dX2_produce_111 : decode cX2_produce 111 = .ok (.getfield 55, 3) := by decide +kernel
theorem dX2_produce_114 : decode cX2_produce 114 = .ok (.aload_n 1, 1) := by decide +kernel
theorem dX2_produce_115 : decode cX2_produce 115 = .ok (.getfield 128, 3) := by decide +kernel
theorem dX2_produce_118 : decode cX2_produce 118 = .ok (.iconst 0, 1) := by decide +kernel
theorem dX2_produce_119 : decode cX2_produce 119 = .ok (.iaload, 1) := by decide +kernel
theorem dX2_produce_120 : decode cX2_produce 120 = .ok (.iadd, 1) := by decide +kernel
theorem dX2_produce_121 : decode cX2_produce 121 = .ok (.putfield 55, 3) := by decide +kernel
theorem dX2_produce_124 : decode cX2_produce 124 = .ok (.return_, 1) := by decide +kernel
theorem dX2_mayComeUp_0 : decode cX2_mayComeUp 0 = .ok (.aload_n 0, 1) := by decide +kernel
theorem dX2_mayComeUp_1 : decode cX2_mayComeUp 1 = .ok (.getfield 23, 3) := by decide +kernel
theorem dX2_mayComeUp_4 : decode cX2_mayComeUp 4 = .ok (.iload_n 1, 1) := by decide +kernel
theorem dX2_mayComeUp_5 : decode cX2_mayComeUp 5 = .ok (.iaload, 1) := by decide +kernel
theorem dX2_mayComeUp_6 : decode cX2_mayComeUp 6 = .ok (.aload_n 0, 1) := by decide +kernel
theorem dX2_mayComeUp_7 : decode cX2_mayComeUp 7 = .ok (.getfield 34, 3) := by decide +kernel
theorem dX2_mayComeUp_10 : decode cX2_mayComeUp 10 = .ok (.iload_n 1, 1) := by decide +kernel
theorem dX2_mayComeUp_11 : decode cX2_mayComeUp 11 = .ok (.iaload, 1) := by decide +kernel
theorem dX2_mayComeUp_12 : decode cX2_mayComeUp 12 = .ok (.isub, 1) := by decide +kernel
theorem dX2_mayComeUp_13 : decode cX2_mayComeUp 13 = .ok (.istore_n 2, 1) := by decide +kernel
theorem dX2_mayComeUp_14 : decode cX2_mayComeUp 14 = .ok (.iload_n 1, 1) := by decide +kernel
theorem dX2_mayComeUp_15 : decode cX2_mayComeUp 15 = .ok (.ifCond .ne 17, 3) := by decide +kernel
theorem dX2_mayComeUp_18 : decode cX2_mayComeUp 18 = .ok (.iload_n 2, 1) := by decide +kernel
theorem dX2_mayComeUp_19 : decode cX2_mayComeUp 19 = .ok (.aload_n 0, 1) := by decide +kernel
theorem dX2_mayComeUp_20 : decode cX2_mayComeUp 20 = .ok (.getfield 31, 3) := by decide +kernel
theorem dX2_mayComeUp_23 : decode cX2_mayComeUp 23 = .ok (.aload_n 0, 1) := by decide +kernel
theorem dX2_mayComeUp_24 : decode cX2_mayComeUp 24 = .ok (.getfield 55, 3) := by decide +kernel
theorem dX2_mayComeUp_27 : decode cX2_mayComeUp 27 = .ok (.isub, 1) := by decide +kernel
theorem dX2_mayComeUp_28 : decode cX2_mayComeUp 28 = .ok (.invokestatic 125, 3) := by decide +kernel
