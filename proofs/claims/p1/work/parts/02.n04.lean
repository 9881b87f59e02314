theorem dX2_mayComeUp_31 : decode cX2_mayComeUp 31 = .ok (.ireturn, 1) := by decide +kernel
theorem dX2_mayComeUp_32 : decode cX2_mayComeUp 32 = .ok (.iload_n 1, 1) := by decide +kernel
theorem dX2_mayComeUp_33 : decode cX2_mayComeUp 33 = .ok (.iconst 2, 1) := by decide +kernel
theorem dX2_mayComeUp_34 : decode cX2_mayComeUp 34 = .ok (.if_icmp .ne 21, 3) := by decide +kernel
theorem dX2_mayComeUp_37 : decode cX2_mayComeUp 37 = .ok (.iload_n 2, 1) := by decide +kernel
theorem dX2_mayComeUp_38 : decode cX2_mayComeUp 38 = .ok (.aload_n 0, 1) := by decide +kernel
theorem dX2_mayComeUp_39 : decode cX2_mayComeUp 39 = .ok (.getfield 97, 3) := by decide +kernel
theorem dX2_mayComeUp_42 : decode cX2_mayComeUp 42 = .ok (.aload_n 0, 1) := by decide +kernel
theorem dX2_mayComeUp_43 : decode cX2_mayComeUp 43 = .ok (.getfield 34, 3) := by decide +kernel
theorem dX2_mayComeUp_46 : decode cX2_mayComeUp 46 = .ok (.iconst 2, 1) := by decide +kernel
theorem dX2_mayComeUp_47 : decode cX2_mayComeUp 47 = .ok (.iaload, 1) := by decide +kernel
theorem dX2_mayComeUp_48 : decode cX2_mayComeUp 48 = .ok (.isub, 1) := by decide +kernel
theorem dX2_mayComeUp_49 : decode cX2_mayComeUp 49 = .ok (.invokestatic 125, 3) := by decide +kernel
theorem dX2_mayComeUp_52 : decode cX2_mayComeUp 52 = .ok (.goto 4, 3) := by decide +kernel
theorem dX2_mayComeUp_55 : decode cX2_mayComeUp 55 = .ok (.iload_n 2, 1) := by decide +kernel
theorem dX2_mayComeUp_56 : decode cX2_mayComeUp 56 = .ok (.ireturn, 1) := by decide +kernel
set_option maxRecDepth 20000 in
theorem ggX2_putGasBack_X2_putIn : GoodIn wsX2_putGasBack wsX2_putIn := goodIn_r _ [16, 17, 18, 19, 20, 21, 22, 23, 24, 25, 26, 27, 28, 29, 30, 31, 32, 33, 34, 35, 36, 37, 38, 39, 40, 41] (by decide +kernel) (by decide +kernel)
set_option maxRecDepth 20000 in
theorem gX2_putGasBack_X2_putIn : GoodIn wsX2_putGasBack (wsV RX2 135 RX2 yX2_putIn wsX2_putIn) := goodIn_app (goodIn_of _ (by decide +kernel)) ggX2_putGasBack_X2_putIn
theorem dX2_putGasBack_0 : decode cX2_putGasBack 0 = .ok (.aload_n 0, 1) := by decide +kernel
theorem dX2_putGasBack_1 : decode cX2_putGasBack 1 = .ok (.getfield 34, 3) := by decide +kernel
theorem dX2_putGasBack_4 : decode cX2_putGasBack 4 = .ok (.iconst 2, 1) := by decide +kernel
theorem dX2_putGasBack_5 : decode cX2_putGasBack 5 = .ok (.iaload, 1) := by decide +kernel
theorem dX2_putGasBack_6 : decode cX2_putGasBack 6 = .ok (.istore_n 1, 1) := by decide +kernel
theorem dX2_putGasBack_7 : decode cX2_putGasBack 7 = .ok (.iconst 0, 1) := by decide +kernel
theorem dX2_putGasBack_8 : decode cX2_putGasBack 8 = .ok (.istore_n 2, 1) := by decide +kernel
theorem dX2_putGasBack_9 : decode cX2_putGasBack 9 = .ok (.iload_n 2, 1) := by decide +kernel
theorem dX2_putGasBack_10 : decode cX2_putGasBack 10 = .ok (.aload_n 0, 1) := by decide +kernel
theorem dX2_putGasBack_11 : decode cX2_putGasBack 11 = .ok (.getfield 46, 3) := by decide +kernel
theorem dX2_putGasBack_14 : decode cX2_putGasBack 14 = .ok (.if_icmp .ge 64, 3) := by decide +kernel
theorem dX2_putGasBack_17 : decode cX2_putGasBack 17 = .ok (.aload_n 0, 1) := by decide +kernel
theorem dX2_putGasBack_18 : decode cX2_putGasBack 18 = .ok (.getfield 19, 3) := by decide +kernel
theorem dX2_putGasBack_21 : decode cX2_putGasBack 21 = .ok (.iload_n 2, 1) := by decide +kernel
theorem dX2_putGasBack_22 : decode cX2_putGasBack 22 = .ok (.aaload, 1) := by decide +kernel
theorem dX2_putGasBack_23 : decode cX2_putGasBack 23 = .ok (.getfield 72, 3) := by decide +kernel
theorem dX2_putGasBack_26 : decode cX2_putGasBack 26 = .ok (.iconst 2, 1) := by decide +kernel
theorem dX2_putGasBack_27 : decode cX2_putGasBack 27 = .ok (.if_icmp .ne 45, 3) := by decide +kernel
theorem dX2_putGasBack_30 : decode cX2_putGasBack 30 = .ok (.iload_n 1, 1) := by decide +kernel
theorem dX2_putGasBack_31 : decode cX2_putGasBack 31 = .ok (.iconst 2, 1) := by decide +kernel
theorem dX2_putGasBack_32 : decode cX2_putGasBack 32 = .ok (.aload_n 0, 1) := by decide +kernel
theorem dX2_putGasBack_33 : decode cX2_putGasBack 33 = .ok (.getfield 19, 3) := by decide +kernel
theorem dX2_putGasBack_36 : decode cX2_putGasBack 36 = .ok (.iload_n 2, 1) := by decide +kernel
theorem dX2_putGasBack_37 : decode cX2_putGasBack 37 = .ok (.aaload, 1) := by decide +kernel
theorem dX2_putGasBack_38 : decode cX2_putGasBack 38 = .ok (.getfield 103, 3) := by decide +kernel
theorem dX2_putGasBack_41 : decode cX2_putGasBack 41 = .ok (.imul, 1) := by decide +kernel
theorem dX2_putGasBack_42 : decode cX2_putGasBack 42 = .ok (.invokestatic 125, 3) := by decide +kernel
theorem dX2_putGasBack_45 : decode cX2_putGasBack 45 = .ok (.istore_n 3, 1) := by decide +kernel
theorem dX2_putGasBack_46 : decode cX2_putGasBack 46 = .ok (.aload_n 0, 1) := by decide +kernel
theorem dX2_putGasBack_47 : decode cX2_putGasBack 47 = .ok (.aload_n 0, 1) := by decide +kernel
theorem dX2_putGasBack_48 : decode cX2_putGasBack 48 = .ok (.getfield 19, 3) := by decide +kernel
theorem dX2_putGasBack_51 : decode cX2_putGasBack 51 = .ok (.iload_n 2, 1) := by decide +kernel
theorem dX2_putGasBack_52 : decode cX2_putGasBack 52 = .ok (.aaload, 1) := by decide +kernel
theorem dX2_putGasBack_53 : decode cX2_putGasBack 53 = .ok (.iconst 2, 1) := by decide +kernel
theorem dX2_putGasBack_54 : decode cX2_putGasBack 54 = .ok (.iload_n 3, 1) := by decide +kernel
theorem dX2_putGasBack_55 : decode cX2_putGasBack 55 = .ok (.invokevirtual 135, 3) := by decide +kernel
theorem dX2_putGasBack_58 : decode cX2_putGasBack 58 = .ok (.iload_n 1, 1) := by decide +kernel
theorem dX2_putGasBack_59 : decode cX2_putGasBack 59 = .ok (.iload_n 3, 1) := by decide +kernel
theorem dX2_putGasBack_60 : decode cX2_putGasBack 60 = .ok (.isub, 1) := by decide +kernel
theorem dX2_putGasBack_61 : decode cX2_putGasBack 61 = .ok (.istore_n 1, 1) := by decide +kernel
theorem dX2_putGasBack_62 : decode cX2_putGasBack 62 = .ok (.aload_n 0, 1) := by decide +kernel
theorem dX2_putGasBack_63 : decode cX2_putGasBack 63 = .ok (.dup, 1) := by decide +kernel
theorem dX2_putGasBack_64 : decode cX2_putGasBack 64 = .ok (.getfield 91, 3) := by decide +kernel
theorem dX2_putGasBack_67 : decode cX2_putGasBack 67 = .ok (.iload_n 3, 1) := by decide +kernel
theorem dX2_putGasBack_68 : decode cX2_putGasBack 68 = .ok (.iadd, 1) := by decide +kernel
theorem dX2_putGasBack_69 : decode cX2_putGasBack 69 = .ok (.putfield 91, 3) := by decide +kernel
theorem dX2_putGasBack_72 : decode cX2_putGasBack 72 = .ok (.iinc 2 1, 3) := by decide +kernel
theorem dX2_putGasBack_75 : decode cX2_putGasBack 75 = .ok (.goto (-66), 3) := by decide +kernel
theorem dX2_putGasBack_78 : decode cX2_putGasBack 78 = .ok (.aload_n 0, 1) := by decide +kernel
theorem dX2_putGasBack_79 : decode cX2_putGasBack 79 = .ok (.iload_n 1, 1) := by decide +kernel
theorem dX2_putGasBack_80 : decode cX2_putGasBack 80 = .ok (.putfield 139, 3) := by decide +kernel
theorem dX2_putGasBack_83 : decode cX2_putGasBack 83 = .ok (.return_, 1) := by decide +kernel
set_option maxRecDepth 20000 in
theorem ggX2_putWaterIn_X1_pressure : GoodIn wsX2_putWaterIn wsX1_pressure := goodIn_r _ [12, 13, 14, 15, 16, 11, 17, 18, 43, 44, 45, 46] (by decide +kernel) (by decide +kernel)
set_option maxRecDepth 20000 in
theorem gX2_putWaterIn_X1_pressure : GoodIn wsX2_putWaterIn (wsV RX2 109 RX1 yX1_pressure wsX1_pressure) := goodIn_app (goodIn_of _ (by decide +kernel)) ggX2_putWaterIn_X1_pressure
set_option maxRecDepth 20000 in
theorem ggX2_putWaterIn_X2_putIn : GoodIn wsX2_putWaterIn wsX2_putIn := goodIn_r _ [23, 4, 5, 24, 25, 26, 27, 28, 29, 30, 31, 32, 33, 34, 35, 36, 37, 38, 39, 40, 41, 42, 43, 44, 45, 46] (by decide +kernel) (by decide +kernel)
set_option maxRecDepth 20000 in
theorem gX2_putWaterIn_X2_putIn : GoodIn wsX2_putWaterIn (wsV RX2 135 RX2 yX2_putIn wsX2_putIn) := goodIn_app (goodIn_of _ (by decide +kernel)) ggX2_putWaterIn_X2_putIn
theorem dX2_putWaterIn_0 : decode cX2_putWaterIn 0 = .ok (.iconst 0, 1) := by decide +kernel
theorem dX2_putWaterIn_1 : decode cX2_putWaterIn 1 = .ok (.istore_n 1, 1) := by decide +kernel
theorem dX2_putWaterIn_2 : decode cX2_putWaterIn 2 = .ok (.iload_n 1, 1) := by decide +kernel
theorem dX2_putWaterIn_3 : decode cX2_putWaterIn 3 = .ok (.aload_n 0, 1) := by decide +kernel
theorem dX2_putWaterIn_4 : decode cX2_putWaterIn 4 = .ok (.getfield 46, 3) := by decide +kernel
theorem dX2_putWaterIn_7 : decode cX2_putWaterIn 7 = .ok (.if_icmp .ge 79, 3) := by decide +kernel
theorem dX2_putWaterIn_10 : decode cX2_putWaterIn 10 = .ok (.aload_n 0, 1) := by decide +kernel
theorem dX2_putWaterIn_11 : decode cX2_putWaterIn 11 = .ok (.getfield 19, 3) := by decide +kernel
theorem dX2_putWaterIn_14 : decode cX2_putWaterIn 14 = .ok (.iload_n 1, 1) := by decide +kernel
theorem dX2_putWaterIn_15 : decode cX2_putWaterIn 15 = .ok (.aaload, 1) := by decide +kernel
theorem dX2_putWaterIn_16 : decode cX2_putWaterIn 16 = .ok (.getfield 72, 3) := by decide +kernel
theorem dX2_putWaterIn_19 : decode cX2_putWaterIn 19 = .ok (.iconst 1, 1) := by decide +kernel
theorem dX2_putWaterIn_20 : decode cX2_putWaterIn 20 = .ok (.if_icmp .ne 60, 3) := by decide +kernel
theorem dX2_putWaterIn_23 : decode cX2_putWaterIn 23 = .ok (.aload_n 0, 1) := by decide +kernel
theorem dX2_putWaterIn_24 : decode cX2_putWaterIn 24 = .ok (.getfield 11, 3) := by decide +kernel
theorem dX2_putWaterIn_27 : decode cX2_putWaterIn 27 = .ok (.aload_n 0, 1) := by decide +kernel
theorem dX2_putWaterIn_28 : decode cX2_putWaterIn 28 = .ok (.getfield 19, 3) := by decide +kernel
theorem dX2_putWaterIn_31 : decode cX2_putWaterIn 31 = .ok (.iload_n 1, 1) := by decide +kernel
theorem dX2_putWaterIn_32 : decode cX2_putWaterIn 32 = .ok (.aaload, 1) := by decide +kernel
theorem dX2_putWaterIn_33 : decode cX2_putWaterIn 33 = .ok (.getfield 106, 3) := by decide +kernel
theorem dX2_putWaterIn_36 : decode cX2_putWaterIn 36 = .ok (.aaload, 1) := by decide +kernel
theorem dX2_putWaterIn_37 : decode cX2_putWaterIn 37 = .ok (.invokevirtual 109, 3) := by decide +kernel
theorem dX2_putWaterIn_40 : decode cX2_putWaterIn 40 = .ok (.sipush 200, 3) := by decide +kernel
theorem dX2_putWaterIn_43 : decode cX2_putWaterIn 43 = .ok (.if_icmp .ge 37, 3) := by decide +kernel
theorem dX2_putWaterIn_46 : decode cX2_putWaterIn 46 = .ok (.iconst 2, 1) := by decide +kernel
theorem dX2_putWaterIn_47 : decode cX2_putWaterIn 47 = .ok (.aload_n 0, 1) := by decide +kernel
theorem dX2_putWaterIn_48 : decode cX2_putWaterIn 48 = .ok (.getfield 19, 3) := by decide +kernel
theorem dX2_putWaterIn_51 : decode cX2_putWaterIn 51 = .ok (.iload_n 1, 1) := by decide +kernel
theorem dX2_putWaterIn_52 : decode cX2_putWaterIn 52 = .ok (.aaload, 1) := by decide +kernel
theorem dX2_putWaterIn_53 : decode cX2_putWaterIn 53 = .ok (.getfield 103, 3) := by decide +kernel
theorem dX2_putWaterIn_56 : decode cX2_putWaterIn 56 = .ok (.imul, 1) := by decide +kernel
theorem dX2_putWaterIn_57 : decode cX2_putWaterIn 57 = .ok (.istore_n 2, 1) := by decide +kernel
theorem dX2_putWaterIn_58 : decode cX2_putWaterIn 58 = .ok (.aload_n 0, 1) := by decide +kernel
theorem dX2_putWaterIn_59 : decode cX2_putWaterIn 59 = .ok (.aload_n 0, 1) := by decide +kernel
theorem dX2_putWaterIn_60 : decode cX2_putWaterIn 60 = .ok (.getfield 19, 3) := by decide +kernel
theorem dX2_putWaterIn_63 : decode cX2_putWaterIn 63 = .ok (.iload_n 1, 1) := by decide +kernel
theorem dX2_putWaterIn_64 : decode cX2_putWaterIn 64 = .ok (.aaload, 1) := by decide +kernel
theorem dX2_putWaterIn_65 : decode cX2_putWaterIn 65 = .ok (.iconst 1, 1) := by decide +kernel
theorem dX2_putWaterIn_66 : decode cX2_putWaterIn 66 = .ok (.iload_n 2, 1) := by decide +kernel
theorem dX2_putWaterIn_67 : decode cX2_putWaterIn 67 = .ok (.invokevirtual 135, 3) := by decide +kernel
theorem dX2_putWaterIn_70 : decode cX2_putWaterIn 70 = .ok (.aload_n 0, 1) := by decide +kernel
theorem dX2_putWaterIn_71 : decode cX2_putWaterIn 71 = .ok (.dup, 1) := by decide +kernel
theorem dX2_putWaterIn_72 : decode cX2_putWaterIn 72 = .ok (.getfield 94, 3) := by decide +kernel
theorem dX2_putWaterIn_75 : decode cX2_putWaterIn 75 = .ok (.iload_n 2, 1) := by decide +kernel
theorem dX2_putWaterIn_76 : decode cX2_putWaterIn 76 = .ok (.iadd, 1) := by decide +kernel
theorem dX2_putWaterIn_77 : decode cX2_putWaterIn 77 = .ok (.putfield 94, 3) := by decide +kernel
theorem dX2_putWaterIn_80 : decode cX2_putWaterIn 80 = .ok (.iinc 1 1, 3) := by decide +kernel
theorem dX2_putWaterIn_83 : decode cX2_putWaterIn 83 = .ok (.goto (-81), 3) := by decide +kernel
theorem dX2_putWaterIn_86 : decode cX2_putWaterIn 86 = .ok (.return_, 1) := by decide +kernel
theorem dX2_putIn_0 : decode cX2_putIn 0 = .ok (.aload_n 0, 1) := by decide +kernel
theorem dX2_putIn_1 : decode cX2_putIn 1 = .ok (.getfield 11, 3) := by decide +kernel
theorem dX2_putIn_4 : decode cX2_putIn 4 = .ok (.aload_n 1, 1) := by decide +kernel
theorem dX2_putIn_5 : decode cX2_putIn 5 = .ok (.getfield 106, 3) := by decide +kernel
theorem dX2_putIn_8 : decode cX2_putIn 8 = .ok (.aaload, 1) := by decide +kernel
theorem dX2_putIn_9 : decode cX2_putIn 9 = .ok (.getfield 58, 3) := by decide +kernel
theorem dX2_putIn_12 : decode cX2_putIn 12 = .ok (.iload_n 2, 1) := by decide +kernel
theorem dX2_putIn_13 : decode cX2_putIn 13 = .ok (.dup2, 1) := by decide +kernel
theorem dX2_putIn_14 : decode cX2_putIn 14 = .ok (.iaload, 1) := by decide +kernel
theorem dX2_putIn_15 : decode cX2_putIn 15 = .ok (.iload_n 3, 1) := by decide +kernel
theorem dX2_putIn_16 : decode cX2_putIn 16 = .ok (.iadd, 1) := by decide +kernel
theorem dX2_putIn_17 : decode cX2_putIn 17 = .ok (.iastore, 1) := by decide +kernel
theorem dX2_putIn_18 : decode cX2_putIn 18 = .ok (.aload_n 1, 1) := by decide +kernel
theorem dX2_putIn_19 : decode cX2_putIn 19 = .ok (.getfield 128, 3) := by decide +kernel
theorem dX2_putIn_22 : decode cX2_putIn 22 = .ok (.iload_n 2, 1) := by decide +kernel
theorem dX2_putIn_23 : decode cX2_putIn 23 = .ok (.iload_n 3, 1) := by decide +kernel
theorem dX2_putIn_24 : decode cX2_putIn 24 = .ok (.iastore, 1) := by decide +kernel
theorem dX2_putIn_25 : decode cX2_putIn 25 = .ok (.return_, 1) := by decide +kernel
set_option maxRecDepth 20000 in
theorem ggX2_evenOut_X6_neighbour : GoodIn wsX2_evenOut wsX6_neighbour := goodIn_r _ [5] (by decide +kernel) (by decide +kernel)
set_option maxRecDepth 20000 in
theorem gX2_evenOut_X6_neighbour_n142 : GoodIn wsX2_evenOut (wsX6_neighbour) := ggX2_evenOut_X6_neighbour
set_option maxRecDepth 20000 in
theorem ggX2_evenOut_X1_isShut : GoodIn wsX2_evenOut wsX1_isShut := goodIn_r _ [10, 11, 12, 51, 52, 53, 54] (by decide +kernel) (by decide +kernel)
set_option maxRecDepth 20000 in
theorem gX2_evenOut_X1_isShut : GoodIn wsX2_evenOut (wsV RX2 61 RX1 yX1_isShut wsX1_isShut) := goodIn_app (goodIn_of _ (by decide +kernel)) ggX2_evenOut_X1_isShut
set_option maxRecDepth 20000 in
theorem ggX2_evenOut_X1_pressure : GoodIn wsX2_evenOut wsX1_pressure := goodIn_r _ [16, 17, 18, 19, 20, 9, 21, 22, 51, 52, 53, 54] (by decide +kernel) (by decide +kernel)
set_option maxRecDepth 20000 in
theorem gX2_evenOut_X1_pressure : GoodIn wsX2_evenOut (wsV RX2 109 RX1 yX1_pressure wsX1_pressure) := goodIn_app (goodIn_of _ (by decide +kernel)) ggX2_evenOut_X1_pressure
set_option maxRecDepth 20000 in
theorem ggX2_evenOut_X1_moveOut : GoodIn wsX2_evenOut wsX1_moveOut := goodIn_r _ [26, 22, 27, 28, 29, 30, 31, 32, 33, 18, 19, 20, 9, 21, 34, 35, 36, 37, 38, 51, 52, 53, 54] (by decide +kernel) (by decide +kernel)
set_option maxRecDepth 20000 in
theorem gX2_evenOut_X1_moveOut : GoodIn wsX2_evenOut (wsV RX2 131 RX1 yX1_moveOut wsX1_moveOut) := goodIn_app (goodIn_of _ (by decide +kernel)) ggX2_evenOut_X1_moveOut
theorem dX2_evenOut_0 : decode cX2_evenOut 0 = .ok (.iload_n 1, 1) := by decide +kernel
theorem dX2_evenOut_1 : decode cX2_evenOut 1 = .ok (.iload_n 2, 1) := by decide +kernel
theorem dX2_evenOut_2 : decode cX2_evenOut 2 = .ok (.invokestatic 142, 3) := by decide +kernel
theorem dX2_evenOut_5 : decode cX2_evenOut 5 = .ok (.istore_n 3, 1) := by decide +kernel
theorem dX2_evenOut_6 : decode cX2_evenOut 6 = .ok (.iload_n 3, 1) := by decide +kernel
theorem dX2_evenOut_7 : decode cX2_evenOut 7 = .ok (.iconst (-1), 1) := by decide +kernel
theorem dX2_evenOut_8 : decode cX2_evenOut 8 = .ok (.if_icmp .eq 16, 3) := by decide +kernel
theorem dX2_evenOut_11 : decode cX2_evenOut 11 = .ok (.aload_n 0, 1) := by decide +kernel
theorem dX2_evenOut_12 : decode cX2_evenOut 12 = .ok (.getfield 11, 3) := by decide +kernel
theorem dX2_evenOut_15 : decode cX2_evenOut 15 = .ok (.iload_n 1, 1) := by decide +kernel
theorem dX2_evenOut_16 : decode cX2_evenOut 16 = .ok (.aaload, 1) := by decide +kernel
theorem dX2_evenOut_17 : decode cX2_evenOut 17 = .ok (.iload_n 2, 1) := by decide +kernel
theorem dX2_evenOut_18 : decode cX2_evenOut 18 = .ok (.invokevirtual 61, 3) := by decide +kernel
theorem dX2_evenOut_21 : decode cX2_evenOut 21 = .ok (.ifCond .eq 4, 3) := by decide +kernel
theorem dX2_evenOut_24 : decode cX2_evenOut 24 = .ok (.return_, 1) := by decide +kernel
theorem dX2_evenOut_25 : decode cX2_evenOut 25 = .ok (.aload_n 0, 1) := by decide +kernel
theorem dX2_evenOut_26 : decode cX2_evenOut 26 = .ok (.getfield 11, 3) := by decide +kernel
theorem dX2_evenOut_29 : decode cX2_evenOut 29 = .ok (.iload_n 1, 1) := by decide +kernel
theorem dX2_evenOut_30 : decode cX2_evenOut 30 = .ok (.aaload, 1) := by decide +kernel
theorem dX2_evenOut_31 : decode cX2_evenOut 31 = .ok (.astore 4, 2) := by decide +kernel
theorem dX2_evenOut_33 : decode cX2_evenOut 33 = .ok (.aload_n 0, 1) := by decide +kernel
theorem dX2_evenOut_34 : decode cX2_evenOut 34 = .ok (.getfield 11, 3) := by decide +kernel
theorem dX2_evenOut_37 : decode cX2_evenOut 37 = .ok (.iload_n 3, 1) := by decide +kernel
theorem dX2_evenOut_38 : decode cX2_evenOut 38 = .ok (.aaload, 1) := by decide +kernel
theorem dX2_evenOut_39 : decode cX2_evenOut 39 = .ok (.astore 5, 2) := by decide +kernel
theorem dX2_evenOut_41 : decode cX2_evenOut 41 = .ok (.aload 4, 2) := by decide +kernel
theorem dX2_evenOut_43 : decode cX2_evenOut 43 = .ok (.invokevirtual 109, 3) := by decide +kernel
theorem dX2_evenOut_46 : decode cX2_evenOut 46 = .ok (.aload 5, 2) := by decide +kernel
theorem dX2_evenOut_48 : decode cX2_evenOut 48 = .ok (.invokevirtual 109, 3) := by decide +kernel
theorem dX2_evenOut_51 : decode cX2_evenOut 51 = .ok (.isub, 1) := by decide +kernel
theorem dX2_evenOut_52 : decode cX2_evenOut 52 = .ok (.istore 6, 2) := by decide +kernel
theorem dX2_evenOut_54 : decode cX2_evenOut 54 = .ok (.iload 6, 2) := by decide +kernel
theorem dX2_evenOut_56 : decode cX2_evenOut 56 = .ok (.ifCond .le 21, 3) := by decide +kernel
theorem dX2_evenOut_59 : decode cX2_evenOut 59 = .ok (.aload 4, 2) := by decide +kernel
theorem dX2_evenOut_61 : decode cX2_evenOut 61 = .ok (.iload 6, 2) := by decide +kernel
theorem dX2_evenOut_63 : decode cX2_evenOut 63 = .ok (.bipush 20, 2) := by decide +kernel
theorem dX2_evenOut_65 : decode cX2_evenOut 65 = .ok (.idiv, 1) := by decide +kernel
theorem dX2_evenOut_66 : decode cX2_evenOut 66 = .ok (.aload 5, 2) := by decide +kernel
theorem dX2_evenOut_68 : decode cX2_evenOut 68 = .ok (.getfield 58, 3) := by decide +kernel
theorem dX2_evenOut_71 : decode cX2_evenOut 71 = .ok (.invokevirtual 131, 3) := by decide +kernel
theorem dX2_evenOut_74 : decode cX2_evenOut 74 = .ok (.goto 19, 3) := by decide +kernel
theorem dX2_evenOut_77 : decode cX2_evenOut 77 = .ok (.aload 5, 2) := by decide +kernel
theorem dX2_evenOut_79 : decode cX2_evenOut 79 = .ok (.iload 6, 2) := by decide +kernel
theorem dX2_evenOut_81 : decode cX2_evenOut 81 = .ok (.ineg, 1) := by decide +kernel
theorem dX2_evenOut_82 : decode cX2_evenOut 82 = .ok (.bipush 20, 2) := by decide +kernel
theorem dX2_evenOut_84 : decode cX2_evenOut 84 = .ok (.idiv, 1) := by decide +kernel
theorem dX2_evenOut_85 : decode cX2_evenOut 85 = .ok (.aload 4, 2) := by decide +kernel
theorem dX2_evenOut_87 : decode cX2_evenOut 87 = .ok (.getfield 58, 3) := by decide +kernel
theorem dX2_evenOut_90 : decode cX2_evenOut 90 = .ok (.invokevirtual 131, 3) := by decide +kernel
theorem dX2_evenOut_93 : decode cX2_evenOut 93 = .ok (.return_, 1) := by decide +kernel
theorem dX3_init_0 : decode cX3_init 0 = .ok (.aload_n 0, 1) := by decide +kernel
theorem dX3_init_1 : decode cX3_init 1 = .ok (.invokespecial 1, 3) := by decide +kernel
theorem dX3_init_4 : decode cX3_init 4 = .ok (.return_, 1) := by decide +kernel
theorem dX4_init_0 : decode cX4_init 0 = .ok (.aload_n 0, 1) := by decide +kernel
theorem dX4_init_1 : decode cX4_init 1 = .ok (.invokespecial 3, 3) := by decide +kernel
theorem dX4_init_4 : decode cX4_init 4 = .ok (.aload_n 0, 1) := by decide +kernel
theorem dX4_init_5 : decode cX4_init 5 = .ok (.iconst 5, 1) := by decide +kernel
theorem dX4_init_6 : decode cX4_init 6 = .ok (.putfield 9, 3) := by decide +kernel
theorem dX4_init_9 : decode cX4_init 9 = .ok (.aload_n 0, 1) := by decide +kernel
theorem dX4_init_10 : decode cX4_init 10 = .ok (.iconst 3, 1) := by decide +kernel
theorem dX4_init_11 : decode cX4_init 11 = .ok (.newarray .int, 2) := by decide +kernel
theorem dX4_init_13 : decode cX4_init 13 = .ok (.putfield 15, 3) := by decide +kernel
theorem dX4_init_16 : decode cX4_init 16 = .ok (.return_, 1) := by decide +kernel
theorem dX4_take_0 : decode cX4_take 0 = .ok (.aload_n 0, 1) := by decide +kernel
theorem dX4_take_1 : decode cX4_take 1 = .ok (.aload_n 1, 1) := by decide +kernel
theorem dX4_take_2 : decode cX4_take 2 = .ok (.getfield 19, 3) := by decide +kernel
theorem dX4_take_5 : decode cX4_take 5 = .ok (.putfield 19, 3) := by decide +kernel
theorem dX4_take_8 : decode cX4_take 8 = .ok (.aload_n 0, 1) := by decide +kernel
theorem dX4_take_9 : decode cX4_take 9 = .ok (.aload_n 1, 1) := by decide +kernel
theorem dX4_take_10 : decode cX4_take 10 = .ok (.getfield 22, 3) := by decide +kernel
theorem dX4_take_13 : decode cX4_take 13 = .ok (.putfield 22, 3) := by decide +kernel
theorem dX4_take_16 : decode cX4_take 16 = .ok (.aload_n 0, 1) := by decide +kernel
theorem dX4_take_17 : decode cX4_take 17 = .ok (.aload_n 1, 1) := by decide +kernel
theorem dX4_take_18 : decode cX4_take 18 = .ok (.getfield 25, 3) := by decide +kernel
theorem dX4_take_21 : decode cX4_take 21 = .ok (.putfield 25, 3) := by decide +kernel
theorem dX4_take_24 : decode cX4_take 24 = .ok (.aload_n 0, 1) := by decide +kernel
theorem dX4_take_25 : decode cX4_take 25 = .ok (.aload_n 1, 1) := by decide +kernel
theorem dX4_take_26 : decode cX4_take 26 = .ok (.getfield 9, 3) := by decide +kernel
theorem dX4_take_29 : decode cX4_take 29 = .ok (.putfield 9, 3) := by decide +kernel
theorem dX4_take_32 : decode cX4_take 32 = .ok (.return_, 1) := by decide +kernel
theorem dX4_forgetMonth_0 : decode cX4_forgetMonth 0 = .ok (.iconst 0, 1) := by decide +kernel
theorem dX4_forgetMonth_1 : decode cX4_forgetMonth 1 = .ok (.istore_n 1, 1) := by decide +kernel
theorem dX4_forgetMonth_2 : decode cX4_forgetMonth 2 = .ok (.iload_n 1, 1) := by decide +kernel
theorem dX4_forgetMonth_3 : decode cX4_forgetMonth 3 = .ok (.iconst 3, 1) := by decide +kernel
theorem dX4_forgetMonth_4 : decode cX4_forgetMonth 4 = .ok (.if_icmp .ge 16, 3) := by decide +kernel
theorem dX4_forgetMonth_7 : decode cX4_forgetMonth 7 = .ok (.aload_n 0, 1) := by decide +kernel
theorem dX4_forgetMonth_8 : decode cX4_forgetMonth 8 = .ok (.getfield 15, 3) := by decide +kernel
theorem dX4_forgetMonth_11 : decode cX4_forgetMonth 11 = .ok (.iload_n 1, 1) := by decide +kernel
theorem dX4_forgetMonth_12 : decode cX4_forgetMonth 12 = .ok (.iconst 0, 1) := by decide +kernel
theorem dX4_forgetMonth_13 : decode cX4_forgetMonth 13 = .ok (.iastore, 1) := by decide +kernel
theorem dX4_forgetMonth_14 : decode cX4_forgetMonth 14 = .ok (.iinc 1 1, 3) := by decide +kernel
theorem dX4_forgetMonth_17 : decode cX4_forgetMonth 17 = .ok (.goto (-15), 3) := by decide +kernel
theorem dX4_forgetMonth_20 : decode cX4_forgetMonth 20 = .ok (.return_, 1) := by decide +kernel
theorem dX4_hasProduced_0 : decode cX4_hasProduced 0 = .ok (.aload_n 0, 1) := by decide +kernel
theorem dX4_hasProduced_1 : decode cX4_hasProduced 1 = .ok (.getfield 19, 3) := by decide +kernel
theorem dX4_hasProduced_4 : decode cX4_hasProduced 4 = .ok (.ifCond .ne 30, 3) := by decide +kernel
theorem dX4_hasProduced_7 : decode cX4_hasProduced 7 = .ok (.aload_n 0, 1) := by decide +kernel
theorem dX4_hasProduced_8 : decode cX4_hasProduced 8 = .ok (.getfield 15, 3) := by decide +kernel
theorem dX4_hasProduced_11 : decode cX4_hasProduced 11 = .ok (.iconst 0, 1) := by decide +kernel
theorem dX4_hasProduced_12 : decode cX4_hasProduced 12 = .ok (.iaload, 1) := by decide +kernel
theorem dX4_hasProduced_13 : decode cX4_hasProduced 13 = .ok (.aload_n 0, 1) := by decide +kernel
theorem dX4_hasProduced_14 : decode cX4_hasProduced 14 = .ok (.getfield 15, 3) := by decide +kernel
theorem dX4_hasProduced_17 : decode cX4_hasProduced 17 = .ok (.iconst 1, 1) := by decide +kernel
theorem dX4_hasProduced_18 : decode cX4_hasProduced 18 = .ok (.iaload, 1) := by decide +kernel
theorem dX4_hasProduced_19 : decode cX4_hasProduced 19 = .ok (.iadd, 1) := by decide +kernel
theorem dX4_hasProduced_20 : decode cX4_hasProduced 20 = .ok (.aload_n 0, 1) := by decide +kernel
theorem dX4_hasProduced_21 : decode cX4_hasProduced 21 = .ok (.getfield 15, 3) := by decide +kernel
theorem dX4_hasProduced_24 : decode cX4_hasProduced 24 = .ok (.iconst 2, 1) := by decide +kernel
theorem dX4_hasProduced_25 : decode cX4_hasProduced 25 = .ok (.iaload, 1) := by decide +kernel
theorem dX4_hasProduced_26 : decode cX4_hasProduced 26 = .ok (.iadd, 1) := by decide +kernel
theorem dX4_hasProduced_27 : decode cX4_hasProduced 27 = .ok (.ifCond .le 7, 3) := by decide +kernel
theorem dX4_hasProduced_30 : decode cX4_hasProduced 30 = .ok (.iconst 1, 1) := by decide +kernel
theorem dX4_hasProduced_31 : decode cX4_hasProduced 31 = .ok (.goto 4, 3) := by decide +kernel
theorem dX4_hasProduced_34 : decode cX4_hasProduced 34 = .ok (.iconst 0, 1) := by decide +kernel
theorem dX4_hasProduced_35 : decode cX4_hasProduced 35 = .ok (.ireturn, 1) := by decide +kernel
theorem dX5_init_0 : decode cX5_init 0 = .ok (.aload_n 0, 1) := by decide +kernel
theorem dX5_init_1 : decode cX5_init 1 = .ok (.invokespecial 3, 3) := by decide +kernel
theorem dX5_init_4 : decode cX5_init 4 = .ok (.aload_n 0, 1) := by decide +kernel
theorem dX5_init_5 : decode cX5_init 5 = .ok (.iconst 3, 1) := by decide +kernel
theorem dX5_init_6 : decode cX5_init 6 = .ok (.newarray .int, 2) := by decide +kernel
theorem dX5_init_8 : decode cX5_init 8 = .ok (.putfield 9, 3) := by decide +kernel
theorem dX5_init_11 : decode cX5_init 11 = .ok (.return_, 1) := by decide +kernel
set_option maxRecDepth 20000 in
theorem ggX6_init_X2_init : GoodIn wsX6_init wsX2_init := goodIn_r _ [27, 28, 2, 3, 29, 30, 31, 32, 17, 33, 34, 35, 36, 37, 38, 39, 40, 41, 42, 43, 44, 45, 46, 47, 48, 49, 50, 62, 63, 64, 65, 66, 67, 68, 69, 70, 71, 72, 73, 102, 103, 104, 105, 106, 107, 108, 109, 110] (by decide +kernel) (by decide +kernel)
set_option maxRecDepth 20000 in
theorem gX6_init_X2_init : GoodIn wsX6_init (wsX2_init) := ggX6_init_X2_init
set_option maxRecDepth 20000 in
theorem ggX6_init_X0_init : GoodIn wsX6_init wsX0_init := goodIn_r _ [52, 53, 2, 3, 54, 85, 86, 87, 88, 89, 90, 91, 92] (by decide +kernel) (by decide +kernel)
set_option maxRecDepth 20000 in
theorem gX6_init_X0_init_n33 : GoodIn wsX6_init (wsX0_init) := ggX6_init_X0_init
set_option maxRecDepth 20000 in
theorem ggX6_init_X5_init : GoodIn wsX6_init wsX5_init := goodIn_r _ [56, 57, 2, 3, 17, 58, 93, 94, 95, 96, 97] (by decide +kernel) (by decide +kernel)
set_option maxRecDepth 20000 in
theorem gX6_init_X5_init_n46 : GoodIn wsX6_init (wsX5_init) := ggX6_init_X5_init
set_option maxRecDepth 20000 in
theorem ggX6_init_X3_init : GoodIn wsX6_init wsX3_init := goodIn_r _ [60, 61, 2, 3] (by decide +kernel) (by decide +kernel)
set_option maxRecDepth 20000 in
theorem gX6_init_X3_init_n47 : GoodIn wsX6_init (wsX3_init) := ggX6_init_X3_init
theorem dX6_init_0 : decode cX6_init 0 = .ok (.aload_n 0, 1) := by decide +kernel
theorem dX6_init_1 : decode cX6_init 1 = .ok (.invokespecial 1, 3) := by decide +kernel
theorem dX6_init_4 : decode cX6_init 4 = .ok (.aload_n 0, 1) := by decide +kernel
theorem dX6_init_5 : decode cX6_init 5 = .ok (.new 7, 3) := by decide +kernel
theorem dX6_init_8 : decode cX6_init 8 = .ok (.dup, 1) := by decide +kernel
theorem dX6_init_9 : decode cX6_init 9 = .ok (.invokespecial 9, 3) := by decide +kernel
theorem dX6_init_12 : decode cX6_init 12 = .ok (.putfield 10, 3) := by decide +kernel
theorem dX6_init_15 : decode cX6_init 15 = .ok (.aload_n 0, 1) := by decide +kernel
theorem dX6_init_16 : decode cX6_init 16 = .ok (.new 7, 3) := by decide +kernel
theorem dX6_init_19 : decode cX6_init 19 = .ok (.dup, 1) := by decide +kernel
theorem dX6_init_20 : decode cX6_init 20 = .ok (.invokespecial 9, 3) := by decide +kernel
theorem dX6_init_23 : decode cX6_init 23 = .ok (.putfield 16, 3) := by decide +kernel
theorem dX6_init_26 : decode cX6_init 26 = .ok (.aload_n 0, 1) := by decide +kernel
theorem dX6_init_27 : decode cX6_init 27 = .ok (.bipush 6, 2) := by decide +kernel
theorem dX6_init_29 : decode cX6_init 29 = .ok (.anewarray 19, 3) := by decide +kernel
theorem dX6_init_32 : decode cX6_init 32 = .ok (.putfield 21, 3) := by decide +kernel
theorem dX6_init_35 : decode cX6_init 35 = .ok (.aload_n 0, 1) := by decide +kernel
theorem dX6_init_36 : decode cX6_init 36 = .ok (.iconst 3, 1) := by decide +kernel
theorem dX6_init_37 : decode cX6_init 37 = .ok (.anewarray 25, 3) := by decide +kernel
theorem dX6_init_40 : decode cX6_init 40 = .ok (.putfield 27, 3) := by decide +kernel
theorem dX6_init_43 : decode cX6_init 43 = .ok (.aload_n 0, 1) := by decide +kernel
theorem dX6_init_44 : decode cX6_init 44 = .ok (.new 31, 3) := by decide +kernel
theorem dX6_init_47 : decode cX6_init 47 = .ok (.dup, 1) := by decide +kernel
theorem dX6_init_48 : decode cX6_init 48 = .ok (.invokespecial 33, 3) := by decide +kernel
theorem dX6_init_51 : decode cX6_init 51 = .ok (.putfield 34, 3) := by decide +kernel
theorem dX6_init_54 : decode cX6_init 54 = .ok (.aload_n 0, 1) := by decide +kernel
theorem dX6_init_55 : decode cX6_init 55 = .ok (.iconst 3, 1) := by decide +kernel
theorem dX6_init_56 : decode cX6_init 56 = .ok (.newarray .int, 2) := by decide +kernel
theorem dX6_init_58 : decode cX6_init 58 = .ok (.putfield 38, 3) := by decide +kernel
theorem dX6_init_61 : decode cX6_init 61 = .ok (.aload_n 0, 1) := by decide +kernel
theorem dX6_init_62 : decode cX6_init 62 = .ok (.iconst 5, 1) := by decide +kernel
theorem dX6_init_63 : decode cX6_init 63 = .ok (.putfield 42, 3) := by decide +kernel
theorem dX6_init_66 : decode cX6_init 66 = .ok (.iconst 0, 1) := by decide +kernel
theorem dX6_init_67 : decode cX6_init 67 = .ok (.istore_n 1, 1) := by decide +kernel
theorem dX6_init_68 : decode cX6_init 68 = .ok (.iload_n 1, 1) := by decide +kernel
theorem dX6_init_69 : decode cX6_init 69 = .ok (.bipush 6, 2) := by decide +kernel
theorem dX6_init_71 : decode cX6_init 71 = .ok (.if_icmp .ge 22, 3) := by decide +kernel
theorem dX6_init_74 : decode cX6_init 74 = .ok (.aload_n 0, 1) := by decide +kernel
theorem dX6_init_75 : decode cX6_init 75 = .ok (.getfield 21, 3) := by decide +kernel
theorem dX6_init_78 : decode cX6_init 78 = .ok (.iload_n 1, 1) := by decide +kernel
theorem dX6_init_79 : decode cX6_init 79 = .ok (.new 19, 3) := by decide +kernel
theorem dX6_init_82 : decode cX6_init 82 = .ok (.dup, 1) := by decide +kernel
theorem dX6_init_83 : decode cX6_init 83 = .ok (.invokespecial 46, 3) := by decide +kernel
theorem dX6_init_86 : decode cX6_init 86 = .ok (.aastore, 1) := by decide +kernel
theorem dX6_init_87 : decode cX6_init 87 = .ok (.iinc 1 1, 3) := by decide +kernel
theorem dX6_init_90 : decode cX6_init 90 = .ok (.goto (-22), 3) := by decide +kernel
theorem dX6_init_93 : decode cX6_init 93 = .ok (.iconst 0, 1) := by decide +kernel
theorem dX6_init_94 : decode cX6_init 94 = .ok (.istore_n 1, 1) := by decide +kernel
theorem dX6_init_95 : decode cX6_init 95 = .ok (.iload_n 1, 1) := by decide +kernel
theorem dX6_init_96 : decode cX6_init 96 = .ok (.iconst 3, 1) := by decide +kernel
theorem dX6_init_97 : decode cX6_init 97 = .ok (.if_icmp .ge 22, 3) := by decide +kernel
theorem dX6_init_100 : decode cX6_init 100 = .ok (.aload_n 0, 1) := by decide +kernel
theorem dX6_init_101 : decode cX6_init 101 = .ok (.getfield 27, 3) := by decide +kernel
theorem dX6_init_104 : decode cX6_init 104 = .ok (.iload_n 1, 1) := by decide +kernel
theorem dX6_init_105 : decode cX6_init 105 = .ok (.new 25, 3) := by decide +kernel
theorem dX6_init_108 : decode cX6_init 108 = .ok (.dup, 1) := by decide +kernel
theorem dX6_init_109 : decode cX6_init 109 = .ok (.invokespecial 47, 3) := by decide +kernel
theorem dX6_init_112 : decode cX6_init 112 = .ok (.aastore, 1) := by decide +kernel
theorem dX6_init_113 : decode cX6_init 113 = .ok (.iinc 1 1, 3) := by decide +kernel
theorem dX6_init_116 : decode cX6_init 116 = .ok (.goto (-21), 3) := by decide +kernel
theorem dX6_init_119 : decode cX6_init 119 = .ok (.aload_n 0, 1) := by decide +kernel
theorem dX6_init_120 : decode cX6_init 120 = .ok (.getfield 27, 3) := by decide +kernel
theorem dX6_init_123 : decode cX6_init 123 = .ok (.iconst 0, 1) := by decide +kernel
theorem dX6_init_124 : decode cX6_init 124 = .ok (.aaload, 1) := by decide +kernel
theorem dX6_init_125 : decode cX6_init 125 = .ok (.bipush 100, 2) := by decide +kernel
theorem dX6_init_127 : decode cX6_init 127 = .ok (.putfield 48, 3) := by decide +kernel
theorem dX6_init_130 : decode cX6_init 130 = .ok (.return_, 1) := by decide +kernel
set_option maxRecDepth 20000 in
theorem ggX6_cell_X6_needIndex : GoodIn wsX6_cell wsX6_needIndex := goodIn_ca (goodIn_r _ [8, 9, 10] (by decide +kernel) (by decide +kernel)) (goodIn_sub (fun _ h => List.mem_cons_of_mem _ (List.mem_append_left _ (List.mem_append_right _ h))) (by decide +kernel))
set_option maxRecDepth 20000 in
theorem gX6_cell_X6_needIndex : GoodIn wsX6_cell (va_wsS RX6 51 yX6_needIndex wsX6_needIndex) := goodIn_app (goodIn_of _ (by decide +kernel)) ggX6_cell_X6_needIndex
set_option maxRecDepth 20000 in
theorem ggX6_cell_X6_needWithin : GoodIn wsX6_cell wsX6_needWithin := goodIn_ca (goodIn_r _ [13, 14, 15] (by decide +kernel) (by decide +kernel)) (goodIn_sub (fun _ h => List.mem_cons_of_mem _ (List.mem_append_right _ h)) (by decide +kernel))
set_option maxRecDepth 20000 in
theorem gX6_cell_X6_needWithin : GoodIn wsX6_cell (va_wsS RX6 55 yX6_needWithin wsX6_needWithin) := goodIn_app (goodIn_of _ (by decide +kernel)) ggX6_cell_X6_needWithin
set_option maxRecDepth 20000 in
theorem ggX6_cell_X1_pressure : GoodIn wsX6_cell wsX1_pressure := goodIn_r _ [20, 21, 22, 23, 24, 19, 25, 26, 50, 51, 52, 53] (by decide +kernel) (by decide +kernel)
set_option maxRecDepth 20000 in
theorem gX6_cell_X1_pressure : GoodIn wsX6_cell (wsV RX6 71 RX1 yX1_pressure wsX1_pressure) := goodIn_app (goodIn_of _ (by decide +kernel)) ggX6_cell_X1_pressure
theorem dX6_cell_0 : decode cX6_cell 0 = .ok (.iload_n 1, 1) := by decide +kernel
theorem dX6_cell_1 : decode cX6_cell 1 = .ok (.bipush 16, 2) := by decide +kernel
theorem dX6_cell_3 : decode cX6_cell 3 = .ok (.invokestatic 51, 3) := by decide +kernel
theorem dX6_cell_6 : decode cX6_cell 6 = .ok (.iload_n 2, 1) := by decide +kernel
theorem dX6_cell_7 : decode cX6_cell 7 = .ok (.bipush 10, 2) := by decide +kernel
theorem dX6_cell_9 : decode cX6_cell 9 = .ok (.bipush 90, 2) := by decide +kernel
theorem dX6_cell_11 : decode cX6_cell 11 = .ok (.invokestatic 55, 3) := by decide +kernel
theorem dX6_cell_14 : decode cX6_cell 14 = .ok (.iload_n 3, 1) := by decide +kernel
theorem dX6_cell_15 : decode cX6_cell 15 = .ok (.iconst 0, 1) := by decide +kernel
theorem dX6_cell_16 : decode cX6_cell 16 = .ok (.bipush 99, 2) := by decide +kernel
theorem dX6_cell_18 : decode cX6_cell 18 = .ok (.invokestatic 55, 3) := by decide +kernel
theorem dX6_cell_21 : decode cX6_cell 21 = .ok (.iload 4, 2) := by decide +kernel
theorem dX6_cell_23 : decode cX6_cell 23 = .ok (.iconst 0, 1) := by decide +kernel
theorem dX6_cell_24 : decode cX6_cell 24 = .ok (.bipush 99, 2) := by decide +kernel
theorem dX6_cell_26 : decode cX6_cell 26 = .ok (.invokestatic 55, 3) := by decide +kernel
theorem dX6_cell_29 : decode cX6_cell 29 = .ok (.iload 5, 2) := by decide +kernel
theorem dX6_cell_31 : decode cX6_cell 31 = .ok (.iconst 0, 1) := by decide +kernel
theorem dX6_cell_32 : decode cX6_cell 32 = .ok (.bipush 99, 2) := by decide +kernel
theorem dX6_cell_34 : decode cX6_cell 34 = .ok (.invokestatic 55, 3) := by decide +kernel
theorem dX6_cell_37 : decode cX6_cell 37 = .ok (.aload_n 0, 1) := by decide +kernel
theorem dX6_cell_38 : decode cX6_cell 38 = .ok (.getfield 10, 3) := by decide +kernel
theorem dX6_cell_41 : decode cX6_cell 41 = .ok (.getfield 59, 3) := by decide +kernel
theorem dX6_cell_44 : decode cX6_cell 44 = .ok (.iload_n 1, 1) := by decide +kernel
theorem dX6_cell_45 : decode cX6_cell 45 = .ok (.aaload, 1) := by decide +kernel
theorem dX6_cell_46 : decode cX6_cell 46 = .ok (.astore 6, 2) := by decide +kernel
theorem dX6_cell_48 : decode cX6_cell 48 = .ok (.aload 6, 2) := by decide +kernel
theorem dX6_cell_50 : decode cX6_cell 50 = .ok (.iload_n 2, 1) := by decide +kernel
theorem dX6_cell_51 : decode cX6_cell 51 = .ok (.putfield 63, 3) := by decide +kernel
theorem dX6_cell_54 : decode cX6_cell 54 = .ok (.aload 6, 2) := by decide +kernel
theorem dX6_cell_56 : decode cX6_cell 56 = .ok (.getfield 68, 3) := by decide +kernel
theorem dX6_cell_59 : decode cX6_cell 59 = .ok (.iconst 0, 1) := by decide +kernel
theorem dX6_cell_60 : decode cX6_cell 60 = .ok (.iload_n 3, 1) := by decide +kernel
theorem dX6_cell_61 : decode cX6_cell 61 = .ok (.iastore, 1) := by decide +kernel
theorem dX6_cell_62 : decode cX6_cell 62 = .ok (.aload 6, 2) := by decide +kernel
theorem dX6_cell_64 : decode cX6_cell 64 = .ok (.getfield 68, 3) := by decide +kernel
theorem dX6_cell_67 : decode cX6_cell 67 = .ok (.iconst 1, 1) := by decide +kernel
theorem dX6_cell_68 : decode cX6_cell 68 = .ok (.iload 4, 2) := by decide +kernel
theorem dX6_cell_70 : decode cX6_cell 70 = .ok (.iastore, 1) := by decide +kernel
theorem dX6_cell_71 : decode cX6_cell 71 = .ok (.aload 6, 2) := by decide +kernel
theorem dX6_cell_73 : decode cX6_cell 73 = .ok (.getfield 68, 3) := by decide +kernel
theorem dX6_cell_76 : decode cX6_cell 76 = .ok (.iconst 2, 1) := by decide +kernel
theorem dX6_cell_77 : decode cX6_cell 77 = .ok (.iload 5, 2) := by decide +kernel
theorem dX6_cell_79 : decode cX6_cell 79 = .ok (.iastore, 1) := by decide +kernel
theorem dX6_cell_80 : decode cX6_cell 80 = .ok (.aload 6, 2) := by decide +kernel
theorem dX6_cell_82 : decode cX6_cell 82 = .ok (.invokevirtual 71, 3) := by decide +kernel
theorem dX6_cell_85 : decode cX6_cell 85 = .ok (.ireturn, 1) := by decide +kernel
set_option maxRecDepth 20000 in
theorem ggX6_fault_X6_needNeighbour : GoodIn wsX6_fault wsX6_needNeighbour := goodIn_ca (goodIn_r _ [6, 7, 8, 9, 10, 5, 11, 12, 13, 14] (by decide +kernel) (by decide +kernel)) (goodIn_sub (fun _ h => List.mem_cons_of_mem _ (List.mem_append_right _ h)) (by decide +kernel))
set_option maxRecDepth 20000 in
theorem gX6_fault_X6_needNeighbour : GoodIn wsX6_fault (va_wsS RX6 75 yX6_needNeighbour wsX6_needNeighbour) := goodIn_app (goodIn_of _ (by decide +kernel)) ggX6_fault_X6_needNeighbour
set_option maxRecDepth 20000 in
theorem ggX6_fault_X1_isShut : GoodIn wsX6_fault wsX1_isShut := goodIn_r _ [19, 20, 21, 49, 50, 51, 52] (by decide +kernel) (by decide +kernel)
set_option maxRecDepth 20000 in
theorem gX6_fault_X1_isShut : GoodIn wsX6_fault (wsV RX6 79 RX1 yX1_isShut wsX1_isShut) := goodIn_app (goodIn_of _ (by decide +kernel)) ggX6_fault_X1_isShut
set_option maxRecDepth 20000 in
theorem ggX6_fault_X1_shut : GoodIn wsX6_fault wsX1_shut := goodIn_r _ [25, 20, 21, 49, 50, 51, 52] (by decide +kernel) (by decide +kernel)
set_option maxRecDepth 20000 in
theorem gX6_fault_X1_shut : GoodIn wsX6_fault (wsV RX6 83 RX1 yX1_shut wsX1_shut) := goodIn_app (goodIn_of _ (by decide +kernel)) ggX6_fault_X1_shut
theorem dX6_fault_0 : decode cX6_fault 0 = .ok (.iload_n 1, 1) := by decide +kernel
theorem dX6_fault_1 : decode cX6_fault 1 = .ok (.iload_n 2, 1) := by decide +kernel
theorem dX6_fault_2 : decode cX6_fault 2 = .ok (.invokestatic 75, 3) := by decide +kernel
theorem dX6_fault_5 : decode cX6_fault 5 = .ok (.aload_n 0, 1) := by decide +kernel
theorem dX6_fault_6 : decode cX6_fault 6 = .ok (.getfield 10, 3) := by decide +kernel
theorem dX6_fault_9 : decode cX6_fault 9 = .ok (.getfield 59, 3) := by decide +kernel
theorem dX6_fault_12 : decode cX6_fault 12 = .ok (.iload_n 1, 1) := by decide +kernel
theorem dX6_fault_13 : decode cX6_fault 13 = .ok (.aaload, 1) := by decide +kernel
theorem dX6_fault_14 : decode cX6_fault 14 = .ok (.astore 4, 2) := by decide +kernel
theorem dX6_fault_16 : decode cX6_fault 16 = .ok (.aload 4, 2) := by decide +kernel
theorem dX6_fault_18 : decode cX6_fault 18 = .ok (.iload_n 2, 1) := by decide +kernel
theorem dX6_fault_19 : decode cX6_fault 19 = .ok (.invokevirtual 79, 3) := by decide +kernel
theorem dX6_fault_22 : decode cX6_fault 22 = .ok (.istore 5, 2) := by decide +kernel
theorem dX6_fault_24 : decode cX6_fault 24 = .ok (.aload 4, 2) := by decide +kernel
theorem dX6_fault_26 : decode cX6_fault 26 = .ok (.iload_n 2, 1) := by decide +kernel
theorem dX6_fault_27 : decode cX6_fault 27 = .ok (.iload_n 3, 1) := by decide +kernel
theorem dX6_fault_28 : decode cX6_fault 28 = .ok (.invokevirtual 83, 3) := by decide +kernel
theorem dX6_fault_31 : decode cX6_fault 31 = .ok (.iload 5, 2) := by decide +kernel
theorem dX6_fault_33 : decode cX6_fault 33 = .ok (.ireturn, 1) := by decide +kernel
set_option maxRecDepth 20000 in
theorem ggX6_well_X6_needIndex : GoodIn wsX6_well wsX6_needIndex := goodIn_ca (goodIn_r _ [11, 12, 13] (by decide +kernel) (by decide +kernel)) (goodIn_sub (fun _ h => List.mem_cons_of_mem _ (List.mem_append_left _ (List.mem_append_right _ h))) (by decide +kernel))
set_option maxRecDepth 20000 in
theorem gX6_well_X6_needIndex : GoodIn wsX6_well (va_wsS RX6 51 yX6_needIndex wsX6_needIndex) := goodIn_app (goodIn_of _ (by decide +kernel)) ggX6_well_X6_needIndex
set_option maxRecDepth 20000 in
theorem ggX6_well_X6_needWithin : GoodIn wsX6_well wsX6_needWithin := goodIn_ca (goodIn_r _ [16, 17, 18] (by decide +kernel) (by decide +kernel)) (goodIn_sub (fun _ h => List.mem_cons_of_mem _ (List.mem_append_right _ h)) (by decide +kernel))
set_option maxRecDepth 20000 in
theorem gX6_well_X6_needWithin : GoodIn wsX6_well (va_wsS RX6 55 yX6_needWithin wsX6_needWithin) := goodIn_app (goodIn_of _ (by decide +kernel)) ggX6_well_X6_needWithin
theorem dX6_well_0 : decode cX6_well 0 = .ok (.iload_n 2, 1) := by decide +kernel
theorem dX6_well_1 : decode cX6_well 1 = .ok (.bipush 16, 2) := by decide +kernel
theorem dX6_well_3 : decode cX6_well 3 = .ok (.invokestatic 51, 3) := by decide +kernel
theorem dX6_well_6 : decode cX6_well 6 = .ok (.iload_n 1, 1) := by decide +kernel
theorem dX6_well_7 : decode cX6_well 7 = .ok (.iconst 0, 1) := by decide +kernel
theorem dX6_well_8 : decode cX6_well 8 = .ok (.iconst 2, 1) := by decide +kernel
theorem dX6_well_9 : decode cX6_well 9 = .ok (.invokestatic 55, 3) := by decide +kernel
theorem dX6_well_12 : decode cX6_well 12 = .ok (.aload_n 0, 1) := by decide +kernel
theorem dX6_well_13 : decode cX6_well 13 = .ok (.getfield 10, 3) := by decide +kernel
theorem dX6_well_16 : decode cX6_well 16 = .ok (.getfield 87, 3) := by decide +kernel
theorem dX6_well_19 : decode cX6_well 19 = .ok (.bipush 6, 2) := by decide +kernel
theorem dX6_well_21 : decode cX6_well 21 = .ok (.if_icmp .lt 13, 3) := by decide +kernel
theorem dX6_well_24 : decode cX6_well 24 = .ok (.new 90, 3) := by decide +kernel
theorem dX6_well_27 : decode cX6_well 27 = .ok (.dup, 1) := by decide +kernel
theorem dX6_well_28 : decode cX6_well 28 = .ok (.ldc 92, 2) := by decide +kernel
theorem dX6_well_30 : decode cX6_well 30 = .ok (.invokespecial 94, 3) := by decide +kernel
theorem dX6_well_33 : decode cX6_well 33 = .ok (.athrow, 1) := by decide +kernel
theorem dX6_well_34 : decode cX6_well 34 = .ok (.aload_n 0, 1) := by decide +kernel
theorem dX6_well_35 : decode cX6_well 35 = .ok (.getfield 10, 3) := by decide +kernel
theorem dX6_well_38 : decode cX6_well 38 = .ok (.getfield 87, 3) := by decide +kernel
theorem dX6_well_41 : decode cX6_well 41 = .ok (.istore_n 3, 1) := by decide +kernel
theorem dX6_well_42 : decode cX6_well 42 = .ok (.aload_n 0, 1) := by decide +kernel
theorem dX6_well_43 : decode cX6_well 43 = .ok (.getfield 10, 3) := by decide +kernel
theorem dX6_well_46 : decode cX6_well 46 = .ok (.getfield 97, 3) := by decide +kernel
theorem dX6_well_49 : decode cX6_well 49 = .ok (.iload_n 3, 1) := by decide +kernel
theorem dX6_well_50 : decode cX6_well 50 = .ok (.aaload, 1) := by decide +kernel
theorem dX6_well_51 : decode cX6_well 51 = .ok (.iload_n 1, 1) := by decide +kernel
theorem dX6_well_52 : decode cX6_well 52 = .ok (.putfield 101, 3) := by decide +kernel
theorem dX6_well_55 : decode cX6_well 55 = .ok (.aload_n 0, 1) := by decide +kernel
theorem dX6_well_56 : decode cX6_well 56 = .ok (.getfield 10, 3) := by decide +kernel
theorem dX6_well_59 : decode cX6_well 59 = .ok (.getfield 97, 3) := by decide +kernel
theorem dX6_well_62 : decode cX6_well 62 = .ok (.iload_n 3, 1) := by decide +kernel
theorem dX6_well_63 : decode cX6_well 63 = .ok (.aaload, 1) := by decide +kernel
theorem dX6_well_64 : decode cX6_well 64 = .ok (.iload_n 2, 1) := by decide +kernel
theorem dX6_well_65 : decode cX6_well 65 = .ok (.putfield 106, 3) := by decide +kernel
theorem dX6_well_68 : decode cX6_well 68 = .ok (.aload_n 0, 1) := by decide +kernel
theorem dX6_well_69 : decode cX6_well 69 = .ok (.getfield 10, 3) := by decide +kernel
theorem dX6_well_72 : decode cX6_well 72 = .ok (.iload_n 3, 1) := by decide +kernel
theorem dX6_well_73 : decode cX6_well 73 = .ok (.iconst 1, 1) := by decide +kernel
theorem dX6_well_74 : decode cX6_well 74 = .ok (.iadd, 1) := by decide +kernel
theorem dX6_well_75 : decode cX6_well 75 = .ok (.putfield 87, 3) := by decide +kernel
theorem dX6_well_78 : decode cX6_well 78 = .ok (.iload_n 3, 1) := by decide +kernel
theorem dX6_well_79 : decode cX6_well 79 = .ok (.ireturn, 1) := by decide +kernel
set_option maxRecDepth 20000 in
theorem ggX6_choke_X6_needIndex : GoodIn wsX6_choke wsX6_needIndex := goodIn_ca (goodIn_r _ [8, 9, 10] (by decide +kernel) (by decide +kernel)) (goodIn_sub (fun _ h => List.mem_cons_of_mem _ (List.mem_append_left _ (List.mem_append_left _ (List.mem_append_right _ h)))) (by decide +kernel))
set_option maxRecDepth 20000 in
theorem gX6_choke_X6_needIndex : GoodIn wsX6_choke (va_wsS RX6 51 yX6_needIndex wsX6_needIndex) := goodIn_app (goodIn_of _ (by decide +kernel)) ggX6_choke_X6_needIndex
set_option maxRecDepth 20000 in
theorem ggX6_choke_X6_needWithin : GoodIn wsX6_choke wsX6_needWithin := goodIn_ca (goodIn_r _ [13, 14, 15] (by decide +kernel) (by decide +kernel)) (goodIn_sub (fun _ h => List.mem_cons_of_mem _ (List.mem_append_left _ (List.mem_append_right _ h))) (by decide +kernel))
set_option maxRecDepth 20000 in
theorem gX6_choke_X6_needWithin : GoodIn wsX6_choke (va_wsS RX6 55 yX6_needWithin wsX6_needWithin) := goodIn_app (goodIn_of _ (by decide +kernel)) ggX6_choke_X6_needWithin
set_option maxRecDepth 20000 in
theorem ggX6_choke_X6_needOpen : GoodIn wsX6_choke wsX6_needOpen := goodIn_ca (goodIn_r _ [19, 20, 21, 22, 23, 24, 25, 26, 27, 28, 29, 30, 31, 32, 33, 34, 52, 53, 54, 55, 56] (by decide +kernel) (by decide +kernel)) (goodIn_sub (fun _ h => List.mem_cons_of_mem _ (List.mem_append_right _ h)) (by decide +kernel))
set_option maxRecDepth 20000 in
theorem gX6_choke_X6_needOpen : GoodIn wsX6_choke (wsV RX6 109 RX6 yX6_needOpen wsX6_needOpen) := goodIn_app (goodIn_of _ (by decide +kernel)) ggX6_choke_X6_needOpen
