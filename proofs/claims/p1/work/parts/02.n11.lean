theorem dX8_plug_0 : decode cX8_plug 0 = .ok (.aload_n 0, 1) := by decide +kernel
theorem dX8_plug_1 : decode cX8_plug 1 = .ok (.iconst 0, 1) := by decide +kernel
theorem dX8_plug_2 : decode cX8_plug 2 = .ok (.putfield 29, 3) := by decide +kernel
theorem dX8_plug_5 : decode cX8_plug 5 = .ok (.aload_n 0, 1) := by decide +kernel
theorem dX8_plug_6 : decode cX8_plug 6 = .ok (.iload_n 1, 1) := by decide +kernel
theorem dX8_plug_7 : decode cX8_plug 7 = .ok (.invokevirtual 70, 3) := by decide +kernel
theorem dX8_plug_10 : decode cX8_plug 10 = .ok (.ifCond .ne 9, 3) := by decide +kernel
theorem dX8_plug_13 : decode cX8_plug 13 = .ok (.aload_n 0, 1) := by decide +kernel
theorem dX8_plug_14 : decode cX8_plug 14 = .ok (.iconst 1, 1) := by decide +kernel
theorem dX8_plug_15 : decode cX8_plug 15 = .ok (.invokevirtual 43, 3) := by decide +kernel
theorem dX8_plug_18 : decode cX8_plug 18 = .ok (.ireturn, 1) := by decide +kernel
theorem dX8_plug_19 : decode cX8_plug 19 = .ok (.aload_n 0, 1) := by decide +kernel
theorem dX8_plug_20 : decode cX8_plug 20 = .ok (.getfield 10, 3) := by decide +kernel
theorem dX8_plug_23 : decode cX8_plug 23 = .ok (.getfield 67, 3) := by decide +kernel
theorem dX8_plug_26 : decode cX8_plug 26 = .ok (.iload_n 1, 1) := by decide +kernel
theorem dX8_plug_27 : decode cX8_plug 27 = .ok (.aaload, 1) := by decide +kernel
theorem dX8_plug_28 : decode cX8_plug 28 = .ok (.astore_n 2, 1) := by decide +kernel
theorem dX8_plug_29 : decode cX8_plug 29 = .ok (.aload_n 2, 1) := by decide +kernel
theorem dX8_plug_30 : decode cX8_plug 30 = .ok (.iconst 4, 1) := by decide +kernel
theorem dX8_plug_31 : decode cX8_plug 31 = .ok (.iaload, 1) := by decide +kernel
theorem dX8_plug_32 : decode cX8_plug 32 = .ok (.iconst 1, 1) := by decide +kernel
theorem dX8_plug_33 : decode cX8_plug 33 = .ok (.if_icmp .ne 9, 3) := by decide +kernel
theorem dX8_plug_36 : decode cX8_plug 36 = .ok (.aload_n 0, 1) := by decide +kernel
theorem dX8_plug_37 : decode cX8_plug 37 = .ok (.iconst 2, 1) := by decide +kernel
theorem dX8_plug_38 : decode cX8_plug 38 = .ok (.invokevirtual 43, 3) := by decide +kernel
theorem dX8_plug_41 : decode cX8_plug 41 = .ok (.ireturn, 1) := by decide +kernel
theorem dX8_plug_42 : decode cX8_plug 42 = .ok (.aload_n 2, 1) := by decide +kernel
theorem dX8_plug_43 : decode cX8_plug 43 = .ok (.iconst 2, 1) := by decide +kernel
theorem dX8_plug_44 : decode cX8_plug 44 = .ok (.iaload, 1) := by decide +kernel
theorem dX8_plug_45 : decode cX8_plug 45 = .ok (.istore_n 3, 1) := by decide +kernel
theorem dX8_plug_46 : decode cX8_plug 46 = .ok (.aload_n 2, 1) := by decide +kernel
theorem dX8_plug_47 : decode cX8_plug 47 = .ok (.iconst 2, 1) := by decide +kernel
theorem dX8_plug_48 : decode cX8_plug 48 = .ok (.iconst 0, 1) := by decide +kernel
theorem dX8_plug_49 : decode cX8_plug 49 = .ok (.iastore, 1) := by decide +kernel
theorem dX8_plug_50 : decode cX8_plug 50 = .ok (.aload_n 2, 1) := by decide +kernel
theorem dX8_plug_51 : decode cX8_plug 51 = .ok (.iconst 4, 1) := by decide +kernel
theorem dX8_plug_52 : decode cX8_plug 52 = .ok (.iconst 1, 1) := by decide +kernel
theorem dX8_plug_53 : decode cX8_plug 53 = .ok (.iastore, 1) := by decide +kernel
theorem dX8_plug_54 : decode cX8_plug 54 = .ok (.iload_n 3, 1) := by decide +kernel
theorem dX8_plug_55 : decode cX8_plug 55 = .ok (.ireturn, 1) := by decide +kernel
set_option maxRecDepth 20000 in
theorem ggX8_capacity_X8_in : GoodIn wsX8_capacity wsX8_in := goodIn_r _ [7] (by decide +kernel) (by decide +kernel)
set_option maxRecDepth 20000 in
theorem gX8_capacity_X8_in : GoodIn wsX8_capacity (va_wsS RX8 32 yX8_in wsX8_in) := goodIn_app (goodIn_of _ (by decide +kernel)) ggX8_capacity_X8_in
set_option maxRecDepth 20000 in
theorem ggX8_capacity_X8_no : GoodIn wsX8_capacity wsX8_no := goodIn_r _ [11, 1, 12, 13, 14, 15, 16, 17, 18, 19] (by decide +kernel) (by decide +kernel)
set_option maxRecDepth 20000 in
theorem gX8_capacity_X8_no : GoodIn wsX8_capacity (wsV RX8 43 RX8 yX8_no wsX8_no) := goodIn_app (goodIn_of _ (by decide +kernel)) ggX8_capacity_X8_no
theorem dX8_capacity_0 : decode cX8_capacity 0 = .ok (.aload_n 0, 1) := by decide +kernel
theorem dX8_capacity_1 : decode cX8_capacity 1 = .ok (.iconst 0, 1) := by decide +kernel
theorem dX8_capacity_2 : decode cX8_capacity 2 = .ok (.putfield 29, 3) := by decide +kernel
theorem dX8_capacity_5 : decode cX8_capacity 5 = .ok (.iload_n 1, 1) := by decide +kernel
theorem dX8_capacity_6 : decode cX8_capacity 6 = .ok (.iconst 0, 1) := by decide +kernel
theorem dX8_capacity_7 : decode cX8_capacity 7 = .ok (.iconst 2, 1) := by decide +kernel
theorem dX8_capacity_8 : decode cX8_capacity 8 = .ok (.invokestatic 32, 3) := by decide +kernel
theorem dX8_capacity_11 : decode cX8_capacity 11 = .ok (.ifCond .ne 9, 3) := by decide +kernel
theorem dX8_capacity_14 : decode cX8_capacity 14 = .ok (.aload_n 0, 1) := by decide +kernel
theorem dX8_capacity_15 : decode cX8_capacity 15 = .ok (.iconst 1, 1) := by decide +kernel
theorem dX8_capacity_16 : decode cX8_capacity 16 = .ok (.invokevirtual 43, 3) := by decide +kernel
theorem dX8_capacity_19 : decode cX8_capacity 19 = .ok (.ireturn, 1) := by decide +kernel
theorem dX8_capacity_20 : decode cX8_capacity 20 = .ok (.iload_n 2, 1) := by decide +kernel
theorem dX8_capacity_21 : decode cX8_capacity 21 = .ok (.iconst 0, 1) := by decide +kernel
theorem dX8_capacity_22 : decode cX8_capacity 22 = .ok (.bipush 99, 2) := by decide +kernel
theorem dX8_capacity_24 : decode cX8_capacity 24 = .ok (.invokestatic 32, 3) := by decide +kernel
theorem dX8_capacity_27 : decode cX8_capacity 27 = .ok (.ifCond .ne 9, 3) := by decide +kernel
theorem dX8_capacity_30 : decode cX8_capacity 30 = .ok (.aload_n 0, 1) := by decide +kernel
theorem dX8_capacity_31 : decode cX8_capacity 31 = .ok (.iconst 2, 1) := by decide +kernel
theorem dX8_capacity_32 : decode cX8_capacity 32 = .ok (.invokevirtual 43, 3) := by decide +kernel
theorem dX8_capacity_35 : decode cX8_capacity 35 = .ok (.ireturn, 1) := by decide +kernel
theorem dX8_capacity_36 : decode cX8_capacity 36 = .ok (.aload_n 0, 1) := by decide +kernel
theorem dX8_capacity_37 : decode cX8_capacity 37 = .ok (.getfield 10, 3) := by decide +kernel
theorem dX8_capacity_40 : decode cX8_capacity 40 = .ok (.getfield 73, 3) := by decide +kernel
theorem dX8_capacity_43 : decode cX8_capacity 43 = .ok (.iload_n 1, 1) := by decide +kernel
theorem dX8_capacity_44 : decode cX8_capacity 44 = .ok (.iaload, 1) := by decide +kernel
theorem dX8_capacity_45 : decode cX8_capacity 45 = .ok (.istore_n 3, 1) := by decide +kernel
theorem dX8_capacity_46 : decode cX8_capacity 46 = .ok (.aload_n 0, 1) := by decide +kernel
theorem dX8_capacity_47 : decode cX8_capacity 47 = .ok (.getfield 10, 3) := by decide +kernel
theorem dX8_capacity_50 : decode cX8_capacity 50 = .ok (.getfield 73, 3) := by decide +kernel
theorem dX8_capacity_53 : decode cX8_capacity 53 = .ok (.iload_n 1, 1) := by decide +kernel
theorem dX8_capacity_54 : decode cX8_capacity 54 = .ok (.iload_n 2, 1) := by decide +kernel
theorem dX8_capacity_55 : decode cX8_capacity 55 = .ok (.iastore, 1) := by decide +kernel
theorem dX8_capacity_56 : decode cX8_capacity 56 = .ok (.iload_n 3, 1) := by decide +kernel
theorem dX8_capacity_57 : decode cX8_capacity 57 = .ok (.ireturn, 1) := by decide +kernel
set_option maxRecDepth 20000 in
theorem ggX8_permit_X8_in : GoodIn wsX8_permit wsX8_in := goodIn_r _ [7] (by decide +kernel) (by decide +kernel)
set_option maxRecDepth 20000 in
theorem gX8_permit_X8_in : GoodIn wsX8_permit (va_wsS RX8 32 yX8_in wsX8_in) := goodIn_app (goodIn_of _ (by decide +kernel)) ggX8_permit_X8_in
set_option maxRecDepth 20000 in
theorem ggX8_permit_X8_no : GoodIn wsX8_permit wsX8_no := goodIn_r _ [11, 1, 12, 13, 14, 15, 16, 17, 18, 19] (by decide +kernel) (by decide +kernel)
set_option maxRecDepth 20000 in
theorem gX8_permit_X8_no : GoodIn wsX8_permit (wsV RX8 43 RX8 yX8_no wsX8_no) := goodIn_app (goodIn_of _ (by decide +kernel)) ggX8_permit_X8_no
theorem dX8_permit_0 : decode cX8_permit 0 = .ok (.aload_n 0, 1) := by decide +kernel
theorem dX8_permit_1 : decode cX8_permit 1 = .ok (.iconst 0, 1) := by decide +kernel
theorem dX8_permit_2 : decode cX8_permit 2 = .ok (.putfield 29, 3) := by decide +kernel
theorem dX8_permit_5 : decode cX8_permit 5 = .ok (.iload_n 1, 1) := by decide +kernel
theorem dX8_permit_6 : decode cX8_permit 6 = .ok (.iconst 0, 1) := by decide +kernel
theorem dX8_permit_7 : decode cX8_permit 7 = .ok (.bipush 99, 2) := by decide +kernel
theorem dX8_permit_9 : decode cX8_permit 9 = .ok (.invokestatic 32, 3) := by decide +kernel
theorem dX8_permit_12 : decode cX8_permit 12 = .ok (.ifCond .ne 9, 3) := by decide +kernel
theorem dX8_permit_15 : decode cX8_permit 15 = .ok (.aload_n 0, 1) := by decide +kernel
theorem dX8_permit_16 : decode cX8_permit 16 = .ok (.iconst 1, 1) := by decide +kernel
theorem dX8_permit_17 : decode cX8_permit 17 = .ok (.invokevirtual 43, 3) := by decide +kernel
theorem dX8_permit_20 : decode cX8_permit 20 = .ok (.ireturn, 1) := by decide +kernel
theorem dX8_permit_21 : decode cX8_permit 21 = .ok (.aload_n 0, 1) := by decide +kernel
theorem dX8_permit_22 : decode cX8_permit 22 = .ok (.getfield 10, 3) := by decide +kernel
theorem dX8_permit_25 : decode cX8_permit 25 = .ok (.getfield 76, 3) := by decide +kernel
theorem dX8_permit_28 : decode cX8_permit 28 = .ok (.istore_n 2, 1) := by decide +kernel
theorem dX8_permit_29 : decode cX8_permit 29 = .ok (.aload_n 0, 1) := by decide +kernel
theorem dX8_permit_30 : decode cX8_permit 30 = .ok (.getfield 10, 3) := by decide +kernel
theorem dX8_permit_33 : decode cX8_permit 33 = .ok (.iload_n 1, 1) := by decide +kernel
theorem dX8_permit_34 : decode cX8_permit 34 = .ok (.putfield 76, 3) := by decide +kernel
theorem dX8_permit_37 : decode cX8_permit 37 = .ok (.iload_n 2, 1) := by decide +kernel
theorem dX8_permit_38 : decode cX8_permit 38 = .ok (.ireturn, 1) := by decide +kernel
set_option maxRecDepth 20000 in
theorem ggX8_tank_X8_in : GoodIn wsX8_tank wsX8_in := goodIn_r _ [8] (by decide +kernel) (by decide +kernel)
set_option maxRecDepth 20000 in
theorem gX8_tank_X8_in : GoodIn wsX8_tank (va_wsS RX8 32 yX8_in wsX8_in) := goodIn_app (goodIn_of _ (by decide +kernel)) ggX8_tank_X8_in
set_option maxRecDepth 20000 in
theorem ggX8_tank_X8_no : GoodIn wsX8_tank wsX8_no := goodIn_r _ [12, 1, 13, 14, 15, 16, 17, 18, 19, 20] (by decide +kernel) (by decide +kernel)
set_option maxRecDepth 20000 in
theorem gX8_tank_X8_no : GoodIn wsX8_tank (wsV RX8 43 RX8 yX8_no wsX8_no) := goodIn_app (goodIn_of _ (by decide +kernel)) ggX8_tank_X8_no
theorem dX8_tank_0 : decode cX8_tank 0 = .ok (.aload_n 0, 1) := by decide +kernel
theorem dX8_tank_1 : decode cX8_tank 1 = .ok (.iconst 0, 1) := by decide +kernel
theorem dX8_tank_2 : decode cX8_tank 2 = .ok (.putfield 29, 3) := by decide +kernel
theorem dX8_tank_5 : decode cX8_tank 5 = .ok (.iload_n 1, 1) := by decide +kernel
theorem dX8_tank_6 : decode cX8_tank 6 = .ok (.iconst 0, 1) := by decide +kernel
theorem dX8_tank_7 : decode cX8_tank 7 = .ok (.sipush 999, 3) := by decide +kernel
theorem dX8_tank_10 : decode cX8_tank 10 = .ok (.invokestatic 32, 3) := by decide +kernel
theorem dX8_tank_13 : decode cX8_tank 13 = .ok (.ifCond .ne 9, 3) := by decide +kernel
theorem dX8_tank_16 : decode cX8_tank 16 = .ok (.aload_n 0, 1) := by decide +kernel
theorem dX8_tank_17 : decode cX8_tank 17 = .ok (.iconst 1, 1) := by decide +kernel
theorem dX8_tank_18 : decode cX8_tank 18 = .ok (.invokevirtual 43, 3) := by decide +kernel
theorem dX8_tank_21 : decode cX8_tank 21 = .ok (.ireturn, 1) := by decide +kernel
theorem dX8_tank_22 : decode cX8_tank 22 = .ok (.aload_n 0, 1) := by decide +kernel
theorem dX8_tank_23 : decode cX8_tank 23 = .ok (.getfield 10, 3) := by decide +kernel
theorem dX8_tank_26 : decode cX8_tank 26 = .ok (.getfield 79, 3) := by decide +kernel
theorem dX8_tank_29 : decode cX8_tank 29 = .ok (.iload_n 1, 1) := by decide +kernel
theorem dX8_tank_30 : decode cX8_tank 30 = .ok (.if_icmp .le 9, 3) := by decide +kernel
theorem dX8_tank_33 : decode cX8_tank 33 = .ok (.aload_n 0, 1) := by decide +kernel
theorem dX8_tank_34 : decode cX8_tank 34 = .ok (.iconst 2, 1) := by decide +kernel
theorem dX8_tank_35 : decode cX8_tank 35 = .ok (.invokevirtual 43, 3) := by decide +kernel
theorem dX8_tank_38 : decode cX8_tank 38 = .ok (.ireturn, 1) := by decide +kernel
theorem dX8_tank_39 : decode cX8_tank 39 = .ok (.aload_n 0, 1) := by decide +kernel
theorem dX8_tank_40 : decode cX8_tank 40 = .ok (.getfield 10, 3) := by decide +kernel
theorem dX8_tank_43 : decode cX8_tank 43 = .ok (.iload_n 1, 1) := by decide +kernel
theorem dX8_tank_44 : decode cX8_tank 44 = .ok (.putfield 82, 3) := by decide +kernel
theorem dX8_tank_47 : decode cX8_tank 47 = .ok (.aload_n 0, 1) := by decide +kernel
theorem dX8_tank_48 : decode cX8_tank 48 = .ok (.getfield 10, 3) := by decide +kernel
theorem dX8_tank_51 : decode cX8_tank 51 = .ok (.getfield 79, 3) := by decide +kernel
theorem dX8_tank_54 : decode cX8_tank 54 = .ok (.ireturn, 1) := by decide +kernel
set_option maxRecDepth 20000 in
theorem ggX8_shares_X8_no : GoodIn wsX8_shares wsX8_no := goodIn_r _ [7, 1, 8, 9, 10, 11, 12, 13, 14, 15] (by decide +kernel) (by decide +kernel)
set_option maxRecDepth 20000 in
theorem gX8_shares_X8_no : GoodIn wsX8_shares (wsV RX8 43 RX8 yX8_no wsX8_no) := goodIn_app (goodIn_of _ (by decide +kernel)) ggX8_shares_X8_no
theorem dX8_shares_0 : decode cX8_shares 0 = .ok (.aload_n 0, 1) := by decide +kernel
theorem dX8_shares_1 : decode cX8_shares 1 = .ok (.iconst 0, 1) := by decide +kernel
theorem dX8_shares_2 : decode cX8_shares 2 = .ok (.putfield 29, 3) := by decide +kernel
theorem dX8_shares_5 : decode cX8_shares 5 = .ok (.iload_n 1, 1) := by decide +kernel
theorem dX8_shares_6 : decode cX8_shares 6 = .ok (.ifCond .lt 21, 3) := by decide +kernel
theorem dX8_shares_9 : decode cX8_shares 9 = .ok (.iload_n 2, 1) := by decide +kernel
theorem dX8_shares_10 : decode cX8_shares 10 = .ok (.ifCond .lt 17, 3) := by decide +kernel
theorem dX8_shares_13 : decode cX8_shares 13 = .ok (.iload_n 1, 1) := by decide +kernel
theorem dX8_shares_14 : decode cX8_shares 14 = .ok (.bipush 100, 2) := by decide +kernel
theorem dX8_shares_16 : decode cX8_shares 16 = .ok (.if_icmp .gt 11, 3) := by decide +kernel
theorem dX8_shares_19 : decode cX8_shares 19 = .ok (.iload_n 2, 1) := by decide +kernel
theorem dX8_shares_20 : decode cX8_shares 20 = .ok (.bipush 100, 2) := by decide +kernel
theorem dX8_shares_22 : decode cX8_shares 22 = .ok (.iload_n 1, 1) := by decide +kernel
theorem dX8_shares_23 : decode cX8_shares 23 = .ok (.isub, 1) := by decide +kernel
theorem dX8_shares_24 : decode cX8_shares 24 = .ok (.if_icmp .le 9, 3) := by decide +kernel
theorem dX8_shares_27 : decode cX8_shares 27 = .ok (.aload_n 0, 1) := by decide +kernel
theorem dX8_shares_28 : decode cX8_shares 28 = .ok (.iconst 1, 1) := by decide +kernel
theorem dX8_shares_29 : decode cX8_shares 29 = .ok (.invokevirtual 43, 3) := by decide +kernel
theorem dX8_shares_32 : decode cX8_shares 32 = .ok (.ireturn, 1) := by decide +kernel
theorem dX8_shares_33 : decode cX8_shares 33 = .ok (.aload_n 0, 1) := by decide +kernel
theorem dX8_shares_34 : decode cX8_shares 34 = .ok (.getfield 18, 3) := by decide +kernel
theorem dX8_shares_37 : decode cX8_shares 37 = .ok (.iconst 0, 1) := by decide +kernel
theorem dX8_shares_38 : decode cX8_shares 38 = .ok (.aaload, 1) := by decide +kernel
theorem dX8_shares_39 : decode cX8_shares 39 = .ok (.iconst 0, 1) := by decide +kernel
theorem dX8_shares_40 : decode cX8_shares 40 = .ok (.iload_n 1, 1) := by decide +kernel
theorem dX8_shares_41 : decode cX8_shares 41 = .ok (.iastore, 1) := by decide +kernel
theorem dX8_shares_42 : decode cX8_shares 42 = .ok (.aload_n 0, 1) := by decide +kernel
theorem dX8_shares_43 : decode cX8_shares 43 = .ok (.getfield 18, 3) := by decide +kernel
theorem dX8_shares_46 : decode cX8_shares 46 = .ok (.iconst 1, 1) := by decide +kernel
theorem dX8_shares_47 : decode cX8_shares 47 = .ok (.aaload, 1) := by decide +kernel
theorem dX8_shares_48 : decode cX8_shares 48 = .ok (.iconst 0, 1) := by decide +kernel
theorem dX8_shares_49 : decode cX8_shares 49 = .ok (.iload_n 2, 1) := by decide +kernel
theorem dX8_shares_50 : decode cX8_shares 50 = .ok (.iastore, 1) := by decide +kernel
theorem dX8_shares_51 : decode cX8_shares 51 = .ok (.aload_n 0, 1) := by decide +kernel
theorem dX8_shares_52 : decode cX8_shares 52 = .ok (.getfield 18, 3) := by decide +kernel
theorem dX8_shares_55 : decode cX8_shares 55 = .ok (.iconst 2, 1) := by decide +kernel
theorem dX8_shares_56 : decode cX8_shares 56 = .ok (.aaload, 1) := by decide +kernel
theorem dX8_shares_57 : decode cX8_shares 57 = .ok (.iconst 0, 1) := by decide +kernel
theorem dX8_shares_58 : decode cX8_shares 58 = .ok (.bipush 100, 2) := by decide +kernel
theorem dX8_shares_60 : decode cX8_shares 60 = .ok (.iload_n 1, 1) := by decide +kernel
theorem dX8_shares_61 : decode cX8_shares 61 = .ok (.isub, 1) := by decide +kernel
theorem dX8_shares_62 : decode cX8_shares 62 = .ok (.iload_n 2, 1) := by decide +kernel
theorem dX8_shares_63 : decode cX8_shares 63 = .ok (.isub, 1) := by decide +kernel
theorem dX8_shares_64 : decode cX8_shares 64 = .ok (.iastore, 1) := by decide +kernel
theorem dX8_shares_65 : decode cX8_shares 65 = .ok (.aload_n 0, 1) := by decide +kernel
theorem dX8_shares_66 : decode cX8_shares 66 = .ok (.getfield 18, 3) := by decide +kernel
theorem dX8_shares_69 : decode cX8_shares 69 = .ok (.iconst 2, 1) := by decide +kernel
theorem dX8_shares_70 : decode cX8_shares 70 = .ok (.aaload, 1) := by decide +kernel
theorem dX8_shares_71 : decode cX8_shares 71 = .ok (.iconst 0, 1) := by decide +kernel
theorem dX8_shares_72 : decode cX8_shares 72 = .ok (.iaload, 1) := by decide +kernel
theorem dX8_shares_73 : decode cX8_shares 73 = .ok (.ireturn, 1) := by decide +kernel
set_option maxRecDepth 20000 in
theorem ggX8_price_X8_in : GoodIn wsX8_price wsX8_in := goodIn_r _ [6] (by decide +kernel) (by decide +kernel)
set_option maxRecDepth 20000 in
theorem gX8_price_X8_in : GoodIn wsX8_price (va_wsS RX8 32 yX8_in wsX8_in) := goodIn_app (goodIn_of _ (by decide +kernel)) ggX8_price_X8_in
set_option maxRecDepth 20000 in
theorem ggX8_price_X8_no : GoodIn wsX8_price wsX8_no := goodIn_r _ [10, 1, 11, 12, 13, 14, 15, 16, 17, 18] (by decide +kernel) (by decide +kernel)
set_option maxRecDepth 20000 in
theorem gX8_price_X8_no : GoodIn wsX8_price (wsV RX8 43 RX8 yX8_no wsX8_no) := goodIn_app (goodIn_of _ (by decide +kernel)) ggX8_price_X8_no
theorem dX8_price_0 : decode cX8_price 0 = .ok (.aload_n 0, 1) := by decide +kernel
theorem dX8_price_1 : decode cX8_price 1 = .ok (.iconst 0, 1) := by decide +kernel
theorem dX8_price_2 : decode cX8_price 2 = .ok (.putfield 29, 3) := by decide +kernel
theorem dX8_price_5 : decode cX8_price 5 = .ok (.iload_n 1, 1) := by decide +kernel
theorem dX8_price_6 : decode cX8_price 6 = .ok (.iconst 0, 1) := by decide +kernel
theorem dX8_price_7 : decode cX8_price 7 = .ok (.bipush 99, 2) := by decide +kernel
theorem dX8_price_9 : decode cX8_price 9 = .ok (.invokestatic 32, 3) := by decide +kernel
theorem dX8_price_12 : decode cX8_price 12 = .ok (.ifCond .ne 9, 3) := by decide +kernel
theorem dX8_price_15 : decode cX8_price 15 = .ok (.aload_n 0, 1) := by decide +kernel
theorem dX8_price_16 : decode cX8_price 16 = .ok (.iconst 1, 1) := by decide +kernel
theorem dX8_price_17 : decode cX8_price 17 = .ok (.invokevirtual 43, 3) := by decide +kernel
theorem dX8_price_20 : decode cX8_price 20 = .ok (.ireturn, 1) := by decide +kernel
theorem dX8_price_21 : decode cX8_price 21 = .ok (.aload_n 0, 1) := by decide +kernel
theorem dX8_price_22 : decode cX8_price 22 = .ok (.getfield 25, 3) := by decide +kernel
theorem dX8_price_25 : decode cX8_price 25 = .ok (.istore_n 2, 1) := by decide +kernel
theorem dX8_price_26 : decode cX8_price 26 = .ok (.aload_n 0, 1) := by decide +kernel
theorem dX8_price_27 : decode cX8_price 27 = .ok (.iload_n 1, 1) := by decide +kernel
theorem dX8_price_28 : decode cX8_price 28 = .ok (.putfield 25, 3) := by decide +kernel
theorem dX8_price_31 : decode cX8_price 31 = .ok (.iload_n 2, 1) := by decide +kernel
theorem dX8_price_32 : decode cX8_price 32 = .ok (.ireturn, 1) := by decide +kernel
set_option maxRecDepth 20000 in
theorem ggX8_pass_X8_in : GoodIn wsX8_pass wsX8_in := goodIn_r _ [7] (by decide +kernel) (by decide +kernel)
set_option maxRecDepth 20000 in
theorem gX8_pass_X8_in : GoodIn wsX8_pass (va_wsS RX8 32 yX8_in wsX8_in) := goodIn_app (goodIn_of _ (by decide +kernel)) ggX8_pass_X8_in
set_option maxRecDepth 20000 in
theorem ggX8_pass_X8_no : GoodIn wsX8_pass wsX8_no := goodIn_r _ [11, 1, 92, 93, 94, 95, 96, 97, 98, 99] (by decide +kernel) (by decide +kernel)
set_option maxRecDepth 20000 in
theorem gX8_pass_X8_no : GoodIn wsX8_pass (wsV RX8 43 RX8 yX8_no wsX8_no) := goodIn_app (goodIn_of _ (by decide +kernel)) ggX8_pass_X8_no
set_option maxRecDepth 20000 in
theorem ggX8_pass_X7_month : GoodIn wsX8_pass wsX7_month := goodIn_r _ [16, 17, 18, 19, 20, 21, 22, 23, 24, 25, 26, 27, 28, 29, 30, 31, 32, 33, 34, 35, 36, 15, 37, 38, 39, 40, 41, 42, 43, 44, 45, 46, 47, 48, 49, 50, 51, 52, 53, 54, 55, 56, 57, 58, 59, 60, 61, 62, 63, 64, 65, 66, 67, 68, 69, 70, 71, 72, 73, 74, 75, 76, 77, 78, 79, 80, 81, 82, 83, 84, 85, 86, 87, 88, 89, 90, 91, 100, 101, 102, 103, 104, 105, 106, 107, 108, 109, 110, 111, 112, 113] (by decide +kernel) (by decide +kernel)
set_option maxRecDepth 20000 in
theorem gX8_pass_X7_month : GoodIn wsX8_pass (wsV RX8 85 RX7 yX7_month wsX7_month) := goodIn_app (goodIn_of _ (by decide +kernel)) ggX8_pass_X7_month
theorem dX8_pass_0 : decode cX8_pass 0 = .ok (.aload_n 0, 1) := by decide +kernel
theorem dX8_pass_1 : decode cX8_pass 1 = .ok (.iconst 0, 1) := by decide +kernel
theorem dX8_pass_2 : decode cX8_pass 2 = .ok (.putfield 29, 3) := by decide +kernel
theorem dX8_pass_5 : decode cX8_pass 5 = .ok (.iload_n 1, 1) := by decide +kernel
theorem dX8_pass_6 : decode cX8_pass 6 = .ok (.iconst 1, 1) := by decide +kernel
theorem dX8_pass_7 : decode cX8_pass 7 = .ok (.bipush 24, 2) := by decide +kernel
theorem dX8_pass_9 : decode cX8_pass 9 = .ok (.invokestatic 32, 3) := by decide +kernel
theorem dX8_pass_12 : decode cX8_pass 12 = .ok (.ifCond .ne 9, 3) := by decide +kernel
theorem dX8_pass_15 : decode cX8_pass 15 = .ok (.aload_n 0, 1) := by decide +kernel
theorem dX8_pass_16 : decode cX8_pass 16 = .ok (.iconst 1, 1) := by decide +kernel
theorem dX8_pass_17 : decode cX8_pass 17 = .ok (.invokevirtual 43, 3) := by decide +kernel
theorem dX8_pass_20 : decode cX8_pass 20 = .ok (.ireturn, 1) := by decide +kernel
theorem dX8_pass_21 : decode cX8_pass 21 = .ok (.iconst 0, 1) := by decide +kernel
theorem dX8_pass_22 : decode cX8_pass 22 = .ok (.istore_n 2, 1) := by decide +kernel
theorem dX8_pass_23 : decode cX8_pass 23 = .ok (.iconst 0, 1) := by decide +kernel
theorem dX8_pass_24 : decode cX8_pass 24 = .ok (.istore_n 3, 1) := by decide +kernel
theorem dX8_pass_25 : decode cX8_pass 25 = .ok (.iload_n 3, 1) := by decide +kernel
theorem dX8_pass_26 : decode cX8_pass 26 = .ok (.iload_n 1, 1) := by decide +kernel
theorem dX8_pass_27 : decode cX8_pass 27 = .ok (.if_icmp .ge 106, 3) := by decide +kernel
theorem dX8_pass_30 : decode cX8_pass 30 = .ok (.aload_n 0, 1) := by decide +kernel
theorem dX8_pass_31 : decode cX8_pass 31 = .ok (.getfield 10, 3) := by decide +kernel
theorem dX8_pass_34 : decode cX8_pass 34 = .ok (.invokevirtual 85, 3) := by decide +kernel
theorem dX8_pass_37 : decode cX8_pass 37 = .ok (.istore 4, 2) := by decide +kernel
theorem dX8_pass_39 : decode cX8_pass 39 = .ok (.iload 4, 2) := by decide +kernel
theorem dX8_pass_41 : decode cX8_pass 41 = .ok (.istore 5, 2) := by decide +kernel
theorem dX8_pass_43 : decode cX8_pass 43 = .ok (.aload_n 0, 1) := by decide +kernel
theorem dX8_pass_44 : decode cX8_pass 44 = .ok (.getfield 18, 3) := by decide +kernel
theorem dX8_pass_47 : decode cX8_pass 47 = .ok (.astore 6, 2) := by decide +kernel
theorem dX8_pass_49 : decode cX8_pass 49 = .ok (.aload 6, 2) := by decide +kernel
theorem dX8_pass_51 : decode cX8_pass 51 = .ok (.arraylength, 1) := by decide +kernel
theorem dX8_pass_52 : decode cX8_pass 52 = .ok (.istore 7, 2) := by decide +kernel
theorem dX8_pass_54 : decode cX8_pass 54 = .ok (.iconst 0, 1) := by decide +kernel
theorem dX8_pass_55 : decode cX8_pass 55 = .ok (.istore 8, 2) := by decide +kernel
theorem dX8_pass_57 : decode cX8_pass 57 = .ok (.iload 8, 2) := by decide +kernel
theorem dX8_pass_59 : decode cX8_pass 59 = .ok (.iload 7, 2) := by decide +kernel
theorem dX8_pass_61 : decode cX8_pass 61 = .ok (.if_icmp .ge 48, 3) := by decide +kernel
theorem dX8_pass_64 : decode cX8_pass 64 = .ok (.aload 6, 2) := by decide +kernel
theorem dX8_pass_66 : decode cX8_pass 66 = .ok (.iload 8, 2) := by decide +kernel
theorem dX8_pass_68 : decode cX8_pass 68 = .ok (.aaload, 1) := by decide +kernel
theorem dX8_pass_69 : decode cX8_pass 69 = .ok (.astore 9, 2) := by decide +kernel
theorem dX8_pass_71 : decode cX8_pass 71 = .ok (.aload 9, 2) := by decide +kernel
theorem dX8_pass_73 : decode cX8_pass 73 = .ok (.iconst 1, 1) := by decide +kernel
theorem dX8_pass_74 : decode cX8_pass 74 = .ok (.dup2, 1) := by decide +kernel
theorem dX8_pass_75 : decode cX8_pass 75 = .ok (.iaload, 1) := by decide +kernel
theorem dX8_pass_76 : decode cX8_pass 76 = .ok (.iload 4, 2) := by decide +kernel
theorem dX8_pass_78 : decode cX8_pass 78 = .ok (.aload 9, 2) := by decide +kernel
theorem dX8_pass_80 : decode cX8_pass 80 = .ok (.iconst 0, 1) := by decide +kernel
theorem dX8_pass_81 : decode cX8_pass 81 = .ok (.iaload, 1) := by decide +kernel
theorem dX8_pass_82 : decode cX8_pass 82 = .ok (.imul, 1) := by decide +kernel
theorem dX8_pass_83 : decode cX8_pass 83 = .ok (.bipush 100, 2) := by decide +kernel
theorem dX8_pass_85 : decode cX8_pass 85 = .ok (.idiv, 1) := by decide +kernel
theorem dX8_pass_86 : decode cX8_pass 86 = .ok (.iadd, 1) := by decide +kernel
theorem dX8_pass_87 : decode cX8_pass 87 = .ok (.iastore, 1) := by decide +kernel
theorem dX8_pass_88 : decode cX8_pass 88 = .ok (.iload 5, 2) := by decide +kernel
theorem dX8_pass_90 : decode cX8_pass 90 = .ok (.iload 4, 2) := by decide +kernel
theorem dX8_pass_92 : decode cX8_pass 92 = .ok (.aload 9, 2) := by decide +kernel
theorem dX8_pass_94 : decode cX8_pass 94 = .ok (.iconst 0, 1) := by decide +kernel
theorem dX8_pass_95 : decode cX8_pass 95 = .ok (.iaload, 1) := by decide +kernel
theorem dX8_pass_96 : decode cX8_pass 96 = .ok (.imul, 1) := by decide +kernel
theorem dX8_pass_97 : decode cX8_pass 97 = .ok (.bipush 100, 2) := by decide +kernel
theorem dX8_pass_99 : decode cX8_pass 99 = .ok (.idiv, 1) := by decide +kernel
theorem dX8_pass_100 : decode cX8_pass 100 = .ok (.isub, 1) := by decide +kernel
theorem dX8_pass_101 : decode cX8_pass 101 = .ok (.istore 5, 2) := by decide +kernel
theorem dX8_pass_103 : decode cX8_pass 103 = .ok (.iinc 8 1, 3) := by decide +kernel
theorem dX8_pass_106 : decode cX8_pass 106 = .ok (.goto (-49), 3) := by decide +kernel
theorem dX8_pass_109 : decode cX8_pass 109 = .ok (.aload_n 0, 1) := by decide +kernel
theorem dX8_pass_110 : decode cX8_pass 110 = .ok (.getfield 18, 3) := by decide +kernel
theorem dX8_pass_113 : decode cX8_pass 113 = .ok (.iconst 0, 1) := by decide +kernel
theorem dX8_pass_114 : decode cX8_pass 114 = .ok (.aaload, 1) := by decide +kernel
theorem dX8_pass_115 : decode cX8_pass 115 = .ok (.iconst 1, 1) := by decide +kernel
theorem dX8_pass_116 : decode cX8_pass 116 = .ok (.dup2, 1) := by decide +kernel
theorem dX8_pass_117 : decode cX8_pass 117 = .ok (.iaload, 1) := by decide +kernel
theorem dX8_pass_118 : decode cX8_pass 118 = .ok (.iload 5, 2) := by decide +kernel
theorem dX8_pass_120 : decode cX8_pass 120 = .ok (.iadd, 1) := by decide +kernel
theorem dX8_pass_121 : decode cX8_pass 121 = .ok (.iastore, 1) := by decide +kernel
theorem dX8_pass_122 : decode cX8_pass 122 = .ok (.iload_n 2, 1) := by decide +kernel
theorem dX8_pass_123 : decode cX8_pass 123 = .ok (.iload 4, 2) := by decide +kernel
theorem dX8_pass_125 : decode cX8_pass 125 = .ok (.iadd, 1) := by decide +kernel
theorem dX8_pass_126 : decode cX8_pass 126 = .ok (.istore_n 2, 1) := by decide +kernel
theorem dX8_pass_127 : decode cX8_pass 127 = .ok (.iinc 3 1, 3) := by decide +kernel
theorem dX8_pass_130 : decode cX8_pass 130 = .ok (.goto (-105), 3) := by decide +kernel
theorem dX8_pass_133 : decode cX8_pass 133 = .ok (.iload_n 2, 1) := by decide +kernel
theorem dX8_pass_134 : decode cX8_pass 134 = .ok (.ireturn, 1) := by decide +kernel
theorem dX8_mayNow_0 : decode cX8_mayNow 0 = .ok (.iconst 0, 1) := by decide +kernel
theorem dX8_mayNow_1 : decode cX8_mayNow 1 = .ok (.aload_n 0, 1) := by decide +kernel
theorem dX8_mayNow_2 : decode cX8_mayNow 2 = .ok (.getfield 10, 3) := by decide +kernel
theorem dX8_mayNow_5 : decode cX8_mayNow 5 = .ok (.getfield 79, 3) := by decide +kernel
theorem dX8_mayNow_8 : decode cX8_mayNow 8 = .ok (.aload_n 0, 1) := by decide +kernel
theorem dX8_mayNow_9 : decode cX8_mayNow 9 = .ok (.getfield 18, 3) := by decide +kernel
theorem dX8_mayNow_12 : decode cX8_mayNow 12 = .ok (.iload_n 1, 1) := by decide +kernel
theorem dX8_mayNow_13 : decode cX8_mayNow 13 = .ok (.aaload, 1) := by decide +kernel
theorem dX8_mayNow_14 : decode cX8_mayNow 14 = .ok (.iconst 1, 1) := by decide +kernel
theorem dX8_mayNow_15 : decode cX8_mayNow 15 = .ok (.iaload, 1) := by decide +kernel
theorem dX8_mayNow_16 : decode cX8_mayNow 16 = .ok (.aload_n 0, 1) := by decide +kernel
theorem dX8_mayNow_17 : decode cX8_mayNow 17 = .ok (.getfield 18, 3) := by decide +kernel
theorem dX8_mayNow_20 : decode cX8_mayNow 20 = .ok (.iload_n 1, 1) := by decide +kernel
theorem dX8_mayNow_21 : decode cX8_mayNow 21 = .ok (.aaload, 1) := by decide +kernel
theorem dX8_mayNow_22 : decode cX8_mayNow 22 = .ok (.iconst 2, 1) := by decide +kernel
theorem dX8_mayNow_23 : decode cX8_mayNow 23 = .ok (.iaload, 1) := by decide +kernel
theorem dX8_mayNow_24 : decode cX8_mayNow 24 = .ok (.isub, 1) := by decide +kernel
theorem dX8_mayNow_25 : decode cX8_mayNow 25 = .ok (.bipush 20, 2) := by decide +kernel
theorem dX8_mayNow_27 : decode cX8_mayNow 27 = .ok (.iadd, 1) := by decide +kernel
theorem dX8_mayNow_28 : decode cX8_mayNow 28 = .ok (.invokestatic 89, 3) := by decide +kernel
theorem dX8_mayNow_31 : decode cX8_mayNow 31 = .ok (.invokestatic 95, 3) := by decide +kernel
theorem dX8_mayNow_34 : decode cX8_mayNow 34 = .ok (.ireturn, 1) := by decide +kernel
set_option maxRecDepth 20000 in
theorem ggX8_lift_X8_in : GoodIn wsX8_lift wsX8_in := goodIn_r _ [13] (by decide +kernel) (by decide +kernel)
set_option maxRecDepth 20000 in
theorem gX8_lift_X8_in : GoodIn wsX8_lift (va_wsS RX8 32 yX8_in wsX8_in) := goodIn_app (goodIn_of _ (by decide +kernel)) ggX8_lift_X8_in
set_option maxRecDepth 20000 in
theorem ggX8_lift_X8_no : GoodIn wsX8_lift wsX8_no := goodIn_r _ [17, 1, 25, 26, 27, 28, 29, 30, 31, 32] (by decide +kernel) (by decide +kernel)
set_option maxRecDepth 20000 in
theorem gX8_lift_X8_no : GoodIn wsX8_lift (wsV RX8 43 RX8 yX8_no wsX8_no) := goodIn_app (goodIn_of _ (by decide +kernel)) ggX8_lift_X8_no
set_option maxRecDepth 20000 in
theorem ggX8_lift_X8_mayNow : GoodIn wsX8_lift wsX8_mayNow := goodIn_r _ [21, 6, 7, 8, 2, 3, 4, 5, 22, 23, 24, 25, 26, 27, 28, 29, 30, 31, 32, 33, 34, 35, 36, 37, 38, 39, 40, 41, 42, 43, 44, 45, 46] (by decide +kernel) (by decide +kernel)
set_option maxRecDepth 20000 in
theorem gX8_lift_X8_mayNow : GoodIn wsX8_lift (wsV RX8 98 RX8 yX8_mayNow wsX8_mayNow) := goodIn_app (goodIn_of _ (by decide +kernel)) ggX8_lift_X8_mayNow
theorem dX8_lift_0 : decode cX8_lift 0 = .ok (.aload_n 0, 1) := by decide +kernel
theorem dX8_lift_1 : decode cX8_lift 1 = .ok (.iconst 0, 1) := by decide +kernel
theorem dX8_lift_2 : decode cX8_lift 2 = .ok (.putfield 29, 3) := by decide +kernel
theorem dX8_lift_5 : decode cX8_lift 5 = .ok (.iload_n 1, 1) := by decide +kernel
theorem dX8_lift_6 : decode cX8_lift 6 = .ok (.iconst 0, 1) := by decide +kernel
theorem dX8_lift_7 : decode cX8_lift 7 = .ok (.iconst 2, 1) := by decide +kernel
theorem dX8_lift_8 : decode cX8_lift 8 = .ok (.invokestatic 32, 3) := by decide +kernel
theorem dX8_lift_11 : decode cX8_lift 11 = .ok (.ifCond .ne 9, 3) := by decide +kernel
theorem dX8_lift_14 : decode cX8_lift 14 = .ok (.aload_n 0, 1) := by decide +kernel
theorem dX8_lift_15 : decode cX8_lift 15 = .ok (.iconst 1, 1) := by decide +kernel
theorem dX8_lift_16 : decode cX8_lift 16 = .ok (.invokevirtual 43, 3) := by decide +kernel
theorem dX8_lift_19 : decode cX8_lift 19 = .ok (.ireturn, 1) := by decide +kernel
theorem dX8_lift_20 : decode cX8_lift 20 = .ok (.iload_n 2, 1) := by decide +kernel
theorem dX8_lift_21 : decode cX8_lift 21 = .ok (.iconst 1, 1) := by decide +kernel
theorem dX8_lift_22 : decode cX8_lift 22 = .ok (.sipush 999, 3) := by decide +kernel
theorem dX8_lift_25 : decode cX8_lift 25 = .ok (.invokestatic 32, 3) := by decide +kernel
theorem dX8_lift_28 : decode cX8_lift 28 = .ok (.ifCond .ne 9, 3) := by decide +kernel
theorem dX8_lift_31 : decode cX8_lift 31 = .ok (.aload_n 0, 1) := by decide +kernel
theorem dX8_lift_32 : decode cX8_lift 32 = .ok (.iconst 2, 1) := by decide +kernel
theorem dX8_lift_33 : decode cX8_lift 33 = .ok (.invokevirtual 43, 3) := by decide +kernel
theorem dX8_lift_36 : decode cX8_lift 36 = .ok (.ireturn, 1) := by decide +kernel
theorem dX8_lift_37 : decode cX8_lift 37 = .ok (.iload_n 2, 1) := by decide +kernel
theorem dX8_lift_38 : decode cX8_lift 38 = .ok (.aload_n 0, 1) := by decide +kernel
theorem dX8_lift_39 : decode cX8_lift 39 = .ok (.iload_n 1, 1) := by decide +kernel
theorem dX8_lift_40 : decode cX8_lift 40 = .ok (.invokevirtual 98, 3) := by decide +kernel
theorem dX8_lift_43 : decode cX8_lift 43 = .ok (.invokestatic 89, 3) := by decide +kernel
theorem dX8_lift_46 : decode cX8_lift 46 = .ok (.istore_n 3, 1) := by decide +kernel
theorem dX8_lift_47 : decode cX8_lift 47 = .ok (.aload_n 0, 1) := by decide +kernel
theorem dX8_lift_48 : decode cX8_lift 48 = .ok (.getfield 10, 3) := by decide +kernel
theorem dX8_lift_51 : decode cX8_lift 51 = .ok (.dup, 1) := by decide +kernel
theorem dX8_lift_52 : decode cX8_lift 52 = .ok (.getfield 79, 3) := by decide +kernel
theorem dX8_lift_55 : decode cX8_lift 55 = .ok (.iload_n 3, 1) := by decide +kernel
theorem dX8_lift_56 : decode cX8_lift 56 = .ok (.isub, 1) := by decide +kernel
theorem dX8_lift_57 : decode cX8_lift 57 = .ok (.putfield 79, 3) := by decide +kernel
theorem dX8_lift_60 : decode cX8_lift 60 = .ok (.aload_n 0, 1) := by decide +kernel
theorem dX8_lift_61 : decode cX8_lift 61 = .ok (.getfield 18, 3) := by decide +kernel
theorem dX8_lift_64 : decode cX8_lift 64 = .ok (.iload_n 1, 1) := by decide +kernel
theorem dX8_lift_65 : decode cX8_lift 65 = .ok (.aaload, 1) := by decide +kernel
theorem dX8_lift_66 : decode cX8_lift 66 = .ok (.iconst 2, 1) := by decide +kernel
theorem dX8_lift_67 : decode cX8_lift 67 = .ok (.dup2, 1) := by decide +kernel
theorem dX8_lift_68 : decode cX8_lift 68 = .ok (.iaload, 1) := by decide +kernel
theorem dX8_lift_69 : decode cX8_lift 69 = .ok (.iload_n 3, 1) := by decide +kernel
theorem dX8_lift_70 : decode cX8_lift 70 = .ok (.iadd, 1) := by decide +kernel
theorem dX8_lift_71 : decode cX8_lift 71 = .ok (.iastore, 1) := by decide +kernel
theorem dX8_lift_72 : decode cX8_lift 72 = .ok (.aload_n 0, 1) := by decide +kernel
theorem dX8_lift_73 : decode cX8_lift 73 = .ok (.getfield 18, 3) := by decide +kernel
theorem dX8_lift_76 : decode cX8_lift 76 = .ok (.iload_n 1, 1) := by decide +kernel
theorem dX8_lift_77 : decode cX8_lift 77 = .ok (.aaload, 1) := by decide +kernel
theorem dX8_lift_78 : decode cX8_lift 78 = .ok (.iconst 3, 1) := by decide +kernel
theorem dX8_lift_79 : decode cX8_lift 79 = .ok (.dup2, 1) := by decide +kernel
theorem dX8_lift_80 : decode cX8_lift 80 = .ok (.iaload, 1) := by decide +kernel
theorem dX8_lift_81 : decode cX8_lift 81 = .ok (.iload_n 3, 1) := by decide +kernel
theorem dX8_lift_82 : decode cX8_lift 82 = .ok (.aload_n 0, 1) := by decide +kernel
theorem dX8_lift_83 : decode cX8_lift 83 = .ok (.getfield 25, 3) := by decide +kernel
theorem dX8_lift_86 : decode cX8_lift 86 = .ok (.imul, 1) := by decide +kernel
theorem dX8_lift_87 : decode cX8_lift 87 = .ok (.iadd, 1) := by decide +kernel
theorem dX8_lift_88 : decode cX8_lift 88 = .ok (.iastore, 1) := by decide +kernel
theorem dX8_lift_89 : decode cX8_lift 89 = .ok (.iload_n 3, 1) := by decide +kernel
theorem dX8_lift_90 : decode cX8_lift 90 = .ok (.ireturn, 1) := by decide +kernel
set_option maxRecDepth 20000 in
theorem ggX8_reserves_X7_copy : GoodIn wsX8_reserves wsX7_copy := goodIn_r _ [10, 11, 12, 9, 13, 14, 15, 16, 17, 18, 19, 20, 21, 22, 23, 24, 25, 26, 27, 28, 29, 30, 31, 32, 33, 34, 35, 36, 37, 38, 39, 113, 114, 115, 116, 117, 118, 119, 120, 121, 122, 123, 124, 125, 126] (by decide +kernel) (by decide +kernel)
set_option maxRecDepth 20000 in
theorem gX8_reserves_X7_copy : GoodIn wsX8_reserves (wsV RX8 101 RX7 yX7_copy wsX7_copy) := goodIn_app (goodIn_of _ (by decide +kernel)) ggX8_reserves_X7_copy
set_option maxRecDepth 20000 in
theorem ggX8_reserves_X7_run : GoodIn wsX8_reserves wsX7_run := goodIn_r _ [43, 44, 45, 46, 9, 47, 25, 23, 39, 14, 15, 16, 17, 26, 48, 49, 50, 51, 21, 22, 24, 19, 20, 52, 53, 54, 55, 56, 57, 58, 59, 60, 61, 62, 28, 38, 63, 64, 65, 66, 18, 67, 68, 69, 70, 13, 71, 72, 73, 74, 75, 76, 77, 78, 27, 79, 80, 81, 82, 83, 84, 85, 86, 87, 88, 89, 90, 91, 92, 93, 94, 95, 96, 97, 98, 99, 100, 101, 102, 103, 104, 113, 114, 115, 116, 117, 118, 119, 120, 121, 122, 123, 124, 125, 126] (by decide +kernel) (by decide +kernel)
set_option maxRecDepth 20000 in
theorem gX8_reserves_X7_run : GoodIn wsX8_reserves (wsV RX8 106 RX7 yX7_run wsX7_run) := goodIn_app (goodIn_of _ (by decide +kernel)) ggX8_reserves_X7_run
theorem dX8_reserves_0 : decode cX8_reserves 0 = .ok (.aload_n 0, 1) := by decide +kernel
theorem dX8_reserves_1 : decode cX8_reserves 1 = .ok (.getfield 10, 3) := by decide +kernel
theorem dX8_reserves_4 : decode cX8_reserves 4 = .ok (.invokevirtual 101, 3) := by decide +kernel
theorem dX8_reserves_7 : decode cX8_reserves 7 = .ok (.astore_n 2, 1) := by decide +kernel
theorem dX8_reserves_8 : decode cX8_reserves 8 = .ok (.aload_n 2, 1) := by decide +kernel
theorem dX8_reserves_9 : decode cX8_reserves 9 = .ok (.ldc 105, 2) := by decide +kernel
theorem dX8_reserves_11 : decode cX8_reserves 11 = .ok (.putfield 82, 3) := by decide +kernel
theorem dX8_reserves_14 : decode cX8_reserves 14 = .ok (.iload_n 1, 1) := by decide +kernel
theorem dX8_reserves_15 : decode cX8_reserves 15 = .ok (.istore_n 3, 1) := by decide +kernel
theorem dX8_reserves_16 : decode cX8_reserves 16 = .ok (.iload_n 3, 1) := by decide +kernel
theorem dX8_reserves_17 : decode cX8_reserves 17 = .ok (.aload_n 2, 1) := by decide +kernel
theorem dX8_reserves_18 : decode cX8_reserves 18 = .ok (.getfield 40, 3) := by decide +kernel
theorem dX8_reserves_21 : decode cX8_reserves 21 = .ok (.if_icmp .ge 27, 3) := by decide +kernel
theorem dX8_reserves_24 : decode cX8_reserves 24 = .ok (.aload_n 2, 1) := by decide +kernel
theorem dX8_reserves_25 : decode cX8_reserves 25 = .ok (.getfield 67, 3) := by decide +kernel
theorem dX8_reserves_28 : decode cX8_reserves 28 = .ok (.iload_n 3, 1) := by decide +kernel
theorem dX8_reserves_29 : decode cX8_reserves 29 = .ok (.aaload, 1) := by decide +kernel
theorem dX8_reserves_30 : decode cX8_reserves 30 = .ok (.iconst 4, 1) := by decide +kernel
theorem dX8_reserves_31 : decode cX8_reserves 31 = .ok (.iconst 1, 1) := by decide +kernel
theorem dX8_reserves_32 : decode cX8_reserves 32 = .ok (.iastore, 1) := by decide +kernel
theorem dX8_reserves_33 : decode cX8_reserves 33 = .ok (.aload_n 2, 1) := by decide +kernel
theorem dX8_reserves_34 : decode cX8_reserves 34 = .ok (.getfield 67, 3) := by decide +kernel
theorem dX8_reserves_37 : decode cX8_reserves 37 = .ok (.iload_n 3, 1) := by decide +kernel
theorem dX8_reserves_38 : decode cX8_reserves 38 = .ok (.aaload, 1) := by decide +kernel
theorem dX8_reserves_39 : decode cX8_reserves 39 = .ok (.iconst 2, 1) := by decide +kernel
theorem dX8_reserves_40 : decode cX8_reserves 40 = .ok (.iconst 0, 1) := by decide +kernel
theorem dX8_reserves_41 : decode cX8_reserves 41 = .ok (.iastore, 1) := by decide +kernel
theorem dX8_reserves_42 : decode cX8_reserves 42 = .ok (.iinc 3 1, 3) := by decide +kernel
theorem dX8_reserves_45 : decode cX8_reserves 45 = .ok (.goto (-29), 3) := by decide +kernel
theorem dX8_reserves_48 : decode cX8_reserves 48 = .ok (.aload_n 2, 1) := by decide +kernel
theorem dX8_reserves_49 : decode cX8_reserves 49 = .ok (.bipush 12, 2) := by decide +kernel
theorem dX8_reserves_51 : decode cX8_reserves 51 = .ok (.invokevirtual 106, 3) := by decide +kernel
theorem dX8_reserves_54 : decode cX8_reserves 54 = .ok (.ireturn, 1) := by decide +kernel
set_option maxRecDepth 20000 in
theorem ggX8_book_X8_reserves : GoodIn wsX8_book wsX8_reserves := goodIn_r _ [19, 2, 20, 21, 3, 22, 23, 24, 25, 26, 27, 28, 29, 30, 31, 12, 13, 14, 32, 33, 34, 35, 36, 37, 38, 39, 40, 41, 42, 43, 44, 45, 46, 47, 48, 8, 49, 50, 51, 52, 53, 54, 55, 56, 57, 58, 59, 60, 61, 62, 63, 64, 65, 66, 67, 68, 69, 70, 71, 72, 73, 74, 75, 76, 77, 78, 79, 80, 81, 82, 83, 84, 85, 86, 87, 88, 89, 90, 91, 92, 93, 94, 95, 96, 97, 98, 99, 100, 101, 102, 103, 104, 105, 106, 107, 108, 109, 110, 111, 112, 113, 114, 115, 116, 117, 118, 119, 120, 121, 122, 123, 124, 125, 126, 127, 128, 129, 130, 131, 132, 133, 134, 135, 136, 137, 138, 139] (by decide +kernel) (by decide +kernel)
set_option maxRecDepth 20000 in
theorem gX8_book_X8_reserves : GoodIn wsX8_book (wsV RX8 109 RX8 yX8_reserves wsX8_reserves) := goodIn_app (goodIn_of _ (by decide +kernel)) ggX8_book_X8_reserves
theorem dX8_book_0 : decode cX8_book 0 = .ok (.aload_n 0, 1) := by decide +kernel
theorem dX8_book_1 : decode cX8_book 1 = .ok (.iconst 0, 1) := by decide +kernel
theorem dX8_book_2 : decode cX8_book 2 = .ok (.putfield 29, 3) := by decide +kernel
theorem dX8_book_5 : decode cX8_book 5 = .ok (.aload_n 0, 1) := by decide +kernel
theorem dX8_book_6 : decode cX8_book 6 = .ok (.aload_n 0, 1) := by decide +kernel
theorem dX8_book_7 : decode cX8_book 7 = .ok (.getfield 10, 3) := by decide +kernel
theorem dX8_book_10 : decode cX8_book 10 = .ok (.getfield 40, 3) := by decide +kernel
theorem dX8_book_13 : decode cX8_book 13 = .ok (.invokevirtual 109, 3) := by decide +kernel
theorem dX8_book_16 : decode cX8_book 16 = .ok (.istore_n 1, 1) := by decide +kernel
theorem dX8_book_17 : decode cX8_book 17 = .ok (.aload_n 0, 1) := by decide +kernel
theorem dX8_book_18 : decode cX8_book 18 = .ok (.getfield 112, 3) := by decide +kernel
theorem dX8_book_21 : decode cX8_book 21 = .ok (.ifCond .ne 7, 3) := by decide +kernel
theorem dX8_book_24 : decode cX8_book 24 = .ok (.iconst 0, 1) := by decide +kernel
theorem dX8_book_25 : decode cX8_book 25 = .ok (.goto 17, 3) := by decide +kernel
theorem dX8_book_28 : decode cX8_book 28 = .ok (.aload_n 0, 1) := by decide +kernel
theorem dX8_book_29 : decode cX8_book 29 = .ok (.getfield 115, 3) := by decide +kernel
theorem dX8_book_32 : decode cX8_book 32 = .ok (.aload_n 0, 1) := by decide +kernel
theorem dX8_book_33 : decode cX8_book 33 = .ok (.getfield 10, 3) := by decide +kernel
theorem dX8_book_36 : decode cX8_book 36 = .ok (.getfield 118, 3) := by decide +kernel
theorem dX8_book_39 : decode cX8_book 39 = .ok (.iconst 0, 1) := by decide +kernel
theorem dX8_book_40 : decode cX8_book 40 = .ok (.iaload, 1) := by decide +kernel
theorem dX8_book_41 : decode cX8_book 41 = .ok (.isub, 1) := by decide +kernel
theorem dX8_book_42 : decode cX8_book 42 = .ok (.istore_n 2, 1) := by decide +kernel
theorem dX8_book_43 : decode cX8_book 43 = .ok (.iload_n 1, 1) := by decide +kernel
theorem dX8_book_44 : decode cX8_book 44 = .ok (.aload_n 0, 1) := by decide +kernel
theorem dX8_book_45 : decode cX8_book 45 = .ok (.aload_n 0, 1) := by decide +kernel
theorem dX8_book_46 : decode cX8_book 46 = .ok (.getfield 121, 3) := by decide +kernel
theorem dX8_book_49 : decode cX8_book 49 = .ok (.invokevirtual 109, 3) := by decide +kernel
theorem dX8_book_52 : decode cX8_book 52 = .ok (.isub, 1) := by decide +kernel
theorem dX8_book_53 : decode cX8_book 53 = .ok (.istore_n 3, 1) := by decide +kernel
theorem dX8_book_54 : decode cX8_book 54 = .ok (.iconst 5, 1) := by decide +kernel
theorem dX8_book_55 : decode cX8_book 55 = .ok (.newarray .int, 2) := by decide +kernel
theorem dX8_book_57 : decode cX8_book 57 = .ok (.dup, 1) := by decide +kernel
theorem dX8_book_58 : decode cX8_book 58 = .ok (.iconst 0, 1) := by decide +kernel
theorem dX8_book_59 : decode cX8_book 59 = .ok (.iload_n 1, 1) := by decide +kernel
theorem dX8_book_60 : decode cX8_book 60 = .ok (.iastore, 1) := by decide +kernel
theorem dX8_book_61 : decode cX8_book 61 = .ok (.dup, 1) := by decide +kernel
theorem dX8_book_62 : decode cX8_book 62 = .ok (.iconst 1, 1) := by decide +kernel
theorem dX8_book_63 : decode cX8_book 63 = .ok (.iload_n 2, 1) := by decide +kernel
theorem dX8_book_64 : decode cX8_book 64 = .ok (.iastore, 1) := by decide +kernel
theorem dX8_book_65 : decode cX8_book 65 = .ok (.dup, 1) := by decide +kernel
theorem dX8_book_66 : decode cX8_book 66 = .ok (.iconst 2, 1) := by decide +kernel
theorem dX8_book_67 : decode cX8_book 67 = .ok (.iload_n 3, 1) := by decide +kernel
theorem dX8_book_68 : decode cX8_book 68 = .ok (.iastore, 1) := by decide +kernel
theorem dX8_book_69 : decode cX8_book 69 = .ok (.dup, 1) := by decide +kernel
theorem dX8_book_70 : decode cX8_book 70 = .ok (.iconst 3, 1) := by decide +kernel
theorem dX8_book_71 : decode cX8_book 71 = .ok (.iload_n 1, 1) := by decide +kernel
theorem dX8_book_72 : decode cX8_book 72 = .ok (.aload_n 0, 1) := by decide +kernel
theorem dX8_book_73 : decode cX8_book 73 = .ok (.getfield 22, 3) := by decide +kernel
theorem dX8_book_76 : decode cX8_book 76 = .ok (.iconst 0, 1) := by decide +kernel
theorem dX8_book_77 : decode cX8_book 77 = .ok (.iaload, 1) := by decide +kernel
theorem dX8_book_78 : decode cX8_book 78 = .ok (.isub, 1) := by decide +kernel
theorem dX8_book_79 : decode cX8_book 79 = .ok (.iload_n 2, 1) := by decide +kernel
theorem dX8_book_80 : decode cX8_book 80 = .ok (.isub, 1) := by decide +kernel
