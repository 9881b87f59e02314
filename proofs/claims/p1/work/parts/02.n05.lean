theorem dX6_choke_0 : decode cX6_choke 0 = .ok (.iload_n 1, 1) := by decide +kernel
theorem dX6_choke_1 : decode cX6_choke 1 = .ok (.aload_n 0, 1) := by decide +kernel
theorem dX6_choke_2 : decode cX6_choke 2 = .ok (.getfield 10, 3) := by decide +kernel
theorem dX6_choke_5 : decode cX6_choke 5 = .ok (.getfield 87, 3) := by decide +kernel
theorem dX6_choke_8 : decode cX6_choke 8 = .ok (.invokestatic 51, 3) := by decide +kernel
theorem dX6_choke_11 : decode cX6_choke 11 = .ok (.iload_n 2, 1) := by decide +kernel
theorem dX6_choke_12 : decode cX6_choke 12 = .ok (.iconst 0, 1) := by decide +kernel
theorem dX6_choke_13 : decode cX6_choke 13 = .ok (.bipush 9, 2) := by decide +kernel
theorem dX6_choke_15 : decode cX6_choke 15 = .ok (.invokestatic 55, 3) := by decide +kernel
theorem dX6_choke_18 : decode cX6_choke 18 = .ok (.aload_n 0, 1) := by decide +kernel
theorem dX6_choke_19 : decode cX6_choke 19 = .ok (.iload_n 1, 1) := by decide +kernel
theorem dX6_choke_20 : decode cX6_choke 20 = .ok (.invokevirtual 109, 3) := by decide +kernel
theorem dX6_choke_23 : decode cX6_choke 23 = .ok (.aload_n 0, 1) := by decide +kernel
theorem dX6_choke_24 : decode cX6_choke 24 = .ok (.getfield 10, 3) := by decide +kernel
theorem dX6_choke_27 : decode cX6_choke 27 = .ok (.getfield 97, 3) := by decide +kernel
theorem dX6_choke_30 : decode cX6_choke 30 = .ok (.iload_n 1, 1) := by decide +kernel
theorem dX6_choke_31 : decode cX6_choke 31 = .ok (.aaload, 1) := by decide +kernel
theorem dX6_choke_32 : decode cX6_choke 32 = .ok (.getfield 113, 3) := by decide +kernel
theorem dX6_choke_35 : decode cX6_choke 35 = .ok (.istore_n 3, 1) := by decide +kernel
theorem dX6_choke_36 : decode cX6_choke 36 = .ok (.aload_n 0, 1) := by decide +kernel
theorem dX6_choke_37 : decode cX6_choke 37 = .ok (.getfield 10, 3) := by decide +kernel
theorem dX6_choke_40 : decode cX6_choke 40 = .ok (.getfield 97, 3) := by decide +kernel
theorem dX6_choke_43 : decode cX6_choke 43 = .ok (.iload_n 1, 1) := by decide +kernel
theorem dX6_choke_44 : decode cX6_choke 44 = .ok (.aaload, 1) := by decide +kernel
theorem dX6_choke_45 : decode cX6_choke 45 = .ok (.iload_n 2, 1) := by decide +kernel
theorem dX6_choke_46 : decode cX6_choke 46 = .ok (.putfield 113, 3) := by decide +kernel
theorem dX6_choke_49 : decode cX6_choke 49 = .ok (.iload_n 3, 1) := by decide +kernel
theorem dX6_choke_50 : decode cX6_choke 50 = .ok (.ireturn, 1) := by decide +kernel
set_option maxRecDepth 20000 in
theorem ggX6_rank_X6_needIndex : GoodIn wsX6_rank wsX6_needIndex := goodIn_ca (goodIn_r _ [8, 9, 10] (by decide +kernel) (by decide +kernel)) (goodIn_sub (fun _ h => List.mem_cons_of_mem _ (List.mem_append_left _ (List.mem_append_right _ h))) (by decide +kernel))
set_option maxRecDepth 20000 in
theorem gX6_rank_X6_needIndex : GoodIn wsX6_rank (va_wsS RX6 51 yX6_needIndex wsX6_needIndex) := goodIn_app (goodIn_of _ (by decide +kernel)) ggX6_rank_X6_needIndex
set_option maxRecDepth 20000 in
theorem ggX6_rank_X6_needWithin : GoodIn wsX6_rank wsX6_needWithin := goodIn_ca (goodIn_r _ [13, 14, 15] (by decide +kernel) (by decide +kernel)) (goodIn_sub (fun _ h => List.mem_cons_of_mem _ (List.mem_append_right _ h)) (by decide +kernel))
set_option maxRecDepth 20000 in
theorem gX6_rank_X6_needWithin : GoodIn wsX6_rank (va_wsS RX6 55 yX6_needWithin wsX6_needWithin) := goodIn_app (goodIn_of _ (by decide +kernel)) ggX6_rank_X6_needWithin
theorem dX6_rank_0 : decode cX6_rank 0 = .ok (.iload_n 1, 1) := by decide +kernel
theorem dX6_rank_1 : decode cX6_rank 1 = .ok (.aload_n 0, 1) := by decide +kernel
theorem dX6_rank_2 : decode cX6_rank 2 = .ok (.getfield 10, 3) := by decide +kernel
theorem dX6_rank_5 : decode cX6_rank 5 = .ok (.getfield 87, 3) := by decide +kernel
theorem dX6_rank_8 : decode cX6_rank 8 = .ok (.invokestatic 51, 3) := by decide +kernel
theorem dX6_rank_11 : decode cX6_rank 11 = .ok (.iload_n 2, 1) := by decide +kernel
theorem dX6_rank_12 : decode cX6_rank 12 = .ok (.iconst 1, 1) := by decide +kernel
theorem dX6_rank_13 : decode cX6_rank 13 = .ok (.bipush 9, 2) := by decide +kernel
theorem dX6_rank_15 : decode cX6_rank 15 = .ok (.invokestatic 55, 3) := by decide +kernel
theorem dX6_rank_18 : decode cX6_rank 18 = .ok (.aload_n 0, 1) := by decide +kernel
theorem dX6_rank_19 : decode cX6_rank 19 = .ok (.getfield 10, 3) := by decide +kernel
theorem dX6_rank_22 : decode cX6_rank 22 = .ok (.getfield 97, 3) := by decide +kernel
theorem dX6_rank_25 : decode cX6_rank 25 = .ok (.iload_n 1, 1) := by decide +kernel
theorem dX6_rank_26 : decode cX6_rank 26 = .ok (.aaload, 1) := by decide +kernel
theorem dX6_rank_27 : decode cX6_rank 27 = .ok (.getfield 116, 3) := by decide +kernel
theorem dX6_rank_30 : decode cX6_rank 30 = .ok (.istore_n 3, 1) := by decide +kernel
theorem dX6_rank_31 : decode cX6_rank 31 = .ok (.aload_n 0, 1) := by decide +kernel
theorem dX6_rank_32 : decode cX6_rank 32 = .ok (.getfield 10, 3) := by decide +kernel
theorem dX6_rank_35 : decode cX6_rank 35 = .ok (.getfield 97, 3) := by decide +kernel
theorem dX6_rank_38 : decode cX6_rank 38 = .ok (.iload_n 1, 1) := by decide +kernel
theorem dX6_rank_39 : decode cX6_rank 39 = .ok (.aaload, 1) := by decide +kernel
theorem dX6_rank_40 : decode cX6_rank 40 = .ok (.iload_n 2, 1) := by decide +kernel
theorem dX6_rank_41 : decode cX6_rank 41 = .ok (.putfield 116, 3) := by decide +kernel
theorem dX6_rank_44 : decode cX6_rank 44 = .ok (.iload_n 3, 1) := by decide +kernel
theorem dX6_rank_45 : decode cX6_rank 45 = .ok (.ireturn, 1) := by decide +kernel
set_option maxRecDepth 20000 in
theorem ggX6_test_X6_needIndex : GoodIn wsX6_test wsX6_needIndex := goodIn_ca (goodIn_r _ [12, 13, 14] (by decide +kernel) (by decide +kernel)) (goodIn_sub (fun _ h => List.mem_cons_of_mem _ (List.mem_append_right _ h)) (by decide +kernel))
set_option maxRecDepth 20000 in
theorem gX6_test_X6_needIndex : GoodIn wsX6_test (va_wsS RX6 51 yX6_needIndex wsX6_needIndex) := goodIn_app (goodIn_of _ (by decide +kernel)) ggX6_test_X6_needIndex
set_option maxRecDepth 20000 in
theorem ggX6_test_X6_needOpen : GoodIn wsX6_test wsX6_needOpen := goodIn_ca (goodIn_r _ [18, 1, 2, 7, 19, 20, 21, 22, 23, 24, 25, 26, 27, 28, 29, 30, 48, 49, 50, 51, 52] (by decide +kernel) (by decide +kernel)) (goodIn_sub (fun _ h => List.mem_cons_of_mem _ (List.mem_append_left _ (List.mem_append_right _ h))) (by decide +kernel))
set_option maxRecDepth 20000 in
theorem gX6_test_X6_needOpen : GoodIn wsX6_test (wsV RX6 109 RX6 yX6_needOpen wsX6_needOpen) := goodIn_app (goodIn_of _ (by decide +kernel)) ggX6_test_X6_needOpen
theorem dX6_test_0 : decode cX6_test 0 = .ok (.iload_n 1, 1) := by decide +kernel
theorem dX6_test_1 : decode cX6_test 1 = .ok (.aload_n 0, 1) := by decide +kernel
theorem dX6_test_2 : decode cX6_test 2 = .ok (.getfield 10, 3) := by decide +kernel
theorem dX6_test_5 : decode cX6_test 5 = .ok (.getfield 87, 3) := by decide +kernel
theorem dX6_test_8 : decode cX6_test 8 = .ok (.invokestatic 51, 3) := by decide +kernel
theorem dX6_test_11 : decode cX6_test 11 = .ok (.aload_n 0, 1) := by decide +kernel
theorem dX6_test_12 : decode cX6_test 12 = .ok (.iload_n 1, 1) := by decide +kernel
theorem dX6_test_13 : decode cX6_test 13 = .ok (.invokevirtual 109, 3) := by decide +kernel
theorem dX6_test_16 : decode cX6_test 16 = .ok (.aload_n 0, 1) := by decide +kernel
theorem dX6_test_17 : decode cX6_test 17 = .ok (.getfield 10, 3) := by decide +kernel
theorem dX6_test_20 : decode cX6_test 20 = .ok (.getfield 97, 3) := by decide +kernel
theorem dX6_test_23 : decode cX6_test 23 = .ok (.iload_n 1, 1) := by decide +kernel
theorem dX6_test_24 : decode cX6_test 24 = .ok (.aaload, 1) := by decide +kernel
theorem dX6_test_25 : decode cX6_test 25 = .ok (.getfield 101, 3) := by decide +kernel
theorem dX6_test_28 : decode cX6_test 28 = .ok (.ifCond .eq 13, 3) := by decide +kernel
theorem dX6_test_31 : decode cX6_test 31 = .ok (.new 90, 3) := by decide +kernel
theorem dX6_test_34 : decode cX6_test 34 = .ok (.dup, 1) := by decide +kernel
theorem dX6_test_35 : decode cX6_test 35 = .ok (.ldc 119, 2) := by decide +kernel
theorem dX6_test_37 : decode cX6_test 37 = .ok (.invokespecial 94, 3) := by decide +kernel
theorem dX6_test_40 : decode cX6_test 40 = .ok (.athrow, 1) := by decide +kernel
theorem dX6_test_41 : decode cX6_test 41 = .ok (.aload_n 0, 1) := by decide +kernel
theorem dX6_test_42 : decode cX6_test 42 = .ok (.getfield 21, 3) := by decide +kernel
theorem dX6_test_45 : decode cX6_test 45 = .ok (.iload_n 1, 1) := by decide +kernel
theorem dX6_test_46 : decode cX6_test 46 = .ok (.aaload, 1) := by decide +kernel
theorem dX6_test_47 : decode cX6_test 47 = .ok (.getfield 121, 3) := by decide +kernel
theorem dX6_test_50 : decode cX6_test 50 = .ok (.istore_n 2, 1) := by decide +kernel
theorem dX6_test_51 : decode cX6_test 51 = .ok (.aload_n 0, 1) := by decide +kernel
theorem dX6_test_52 : decode cX6_test 52 = .ok (.getfield 21, 3) := by decide +kernel
theorem dX6_test_55 : decode cX6_test 55 = .ok (.iload_n 1, 1) := by decide +kernel
theorem dX6_test_56 : decode cX6_test 56 = .ok (.aaload, 1) := by decide +kernel
theorem dX6_test_57 : decode cX6_test 57 = .ok (.iconst 1, 1) := by decide +kernel
theorem dX6_test_58 : decode cX6_test 58 = .ok (.putfield 121, 3) := by decide +kernel
theorem dX6_test_61 : decode cX6_test 61 = .ok (.iload_n 2, 1) := by decide +kernel
theorem dX6_test_62 : decode cX6_test 62 = .ok (.ireturn, 1) := by decide +kernel
set_option maxRecDepth 20000 in
theorem ggX6_plug_X6_needIndex : GoodIn wsX6_plug wsX6_needIndex := goodIn_ca (goodIn_r _ [10, 11, 12] (by decide +kernel) (by decide +kernel)) (goodIn_sub (fun _ h => List.mem_cons_of_mem _ (List.mem_append_left _ (List.mem_append_right _ h))) (by decide +kernel))
set_option maxRecDepth 20000 in
theorem gX6_plug_X6_needIndex : GoodIn wsX6_plug (va_wsS RX6 51 yX6_needIndex wsX6_needIndex) := goodIn_app (goodIn_of _ (by decide +kernel)) ggX6_plug_X6_needIndex
set_option maxRecDepth 20000 in
theorem ggX6_plug_X6_needOpen : GoodIn wsX6_plug wsX6_needOpen := goodIn_ca (goodIn_r _ [16, 17, 18, 5, 6, 19, 20, 21, 22, 23, 24, 25, 26, 27, 28, 29, 47, 48, 49, 50, 51] (by decide +kernel) (by decide +kernel)) (goodIn_sub (fun _ h => List.mem_cons_of_mem _ (List.mem_append_right _ h)) (by decide +kernel))
set_option maxRecDepth 20000 in
theorem gX6_plug_X6_needOpen : GoodIn wsX6_plug (wsV RX6 109 RX6 yX6_needOpen wsX6_needOpen) := goodIn_app (goodIn_of _ (by decide +kernel)) ggX6_plug_X6_needOpen
theorem dX6_plug_0 : decode cX6_plug 0 = .ok (.iload_n 1, 1) := by decide +kernel
theorem dX6_plug_1 : decode cX6_plug 1 = .ok (.aload_n 0, 1) := by decide +kernel
theorem dX6_plug_2 : decode cX6_plug 2 = .ok (.getfield 10, 3) := by decide +kernel
theorem dX6_plug_5 : decode cX6_plug 5 = .ok (.getfield 87, 3) := by decide +kernel
theorem dX6_plug_8 : decode cX6_plug 8 = .ok (.invokestatic 51, 3) := by decide +kernel
theorem dX6_plug_11 : decode cX6_plug 11 = .ok (.aload_n 0, 1) := by decide +kernel
theorem dX6_plug_12 : decode cX6_plug 12 = .ok (.iload_n 1, 1) := by decide +kernel
theorem dX6_plug_13 : decode cX6_plug 13 = .ok (.invokevirtual 109, 3) := by decide +kernel
theorem dX6_plug_16 : decode cX6_plug 16 = .ok (.aload_n 0, 1) := by decide +kernel
theorem dX6_plug_17 : decode cX6_plug 17 = .ok (.getfield 10, 3) := by decide +kernel
theorem dX6_plug_20 : decode cX6_plug 20 = .ok (.getfield 97, 3) := by decide +kernel
theorem dX6_plug_23 : decode cX6_plug 23 = .ok (.iload_n 1, 1) := by decide +kernel
theorem dX6_plug_24 : decode cX6_plug 24 = .ok (.aaload, 1) := by decide +kernel
theorem dX6_plug_25 : decode cX6_plug 25 = .ok (.getfield 113, 3) := by decide +kernel
theorem dX6_plug_28 : decode cX6_plug 28 = .ok (.istore_n 2, 1) := by decide +kernel
theorem dX6_plug_29 : decode cX6_plug 29 = .ok (.aload_n 0, 1) := by decide +kernel
theorem dX6_plug_30 : decode cX6_plug 30 = .ok (.getfield 10, 3) := by decide +kernel
theorem dX6_plug_33 : decode cX6_plug 33 = .ok (.getfield 97, 3) := by decide +kernel
theorem dX6_plug_36 : decode cX6_plug 36 = .ok (.iload_n 1, 1) := by decide +kernel
theorem dX6_plug_37 : decode cX6_plug 37 = .ok (.aaload, 1) := by decide +kernel
theorem dX6_plug_38 : decode cX6_plug 38 = .ok (.iconst 0, 1) := by decide +kernel
theorem dX6_plug_39 : decode cX6_plug 39 = .ok (.putfield 113, 3) := by decide +kernel
theorem dX6_plug_42 : decode cX6_plug 42 = .ok (.aload_n 0, 1) := by decide +kernel
theorem dX6_plug_43 : decode cX6_plug 43 = .ok (.getfield 21, 3) := by decide +kernel
theorem dX6_plug_46 : decode cX6_plug 46 = .ok (.iload_n 1, 1) := by decide +kernel
theorem dX6_plug_47 : decode cX6_plug 47 = .ok (.aaload, 1) := by decide +kernel
theorem dX6_plug_48 : decode cX6_plug 48 = .ok (.iconst 1, 1) := by decide +kernel
theorem dX6_plug_49 : decode cX6_plug 49 = .ok (.putfield 125, 3) := by decide +kernel
theorem dX6_plug_52 : decode cX6_plug 52 = .ok (.iload_n 2, 1) := by decide +kernel
theorem dX6_plug_53 : decode cX6_plug 53 = .ok (.ireturn, 1) := by decide +kernel
set_option maxRecDepth 20000 in
theorem ggX6_capacity_X6_needIndex : GoodIn wsX6_capacity wsX6_needIndex := goodIn_ca (goodIn_r _ [6, 7, 8] (by decide +kernel) (by decide +kernel)) (goodIn_sub (fun _ h => List.mem_cons_of_mem _ (List.mem_append_left _ (List.mem_append_right _ h))) (by decide +kernel))
set_option maxRecDepth 20000 in
theorem gX6_capacity_X6_needIndex : GoodIn wsX6_capacity (va_wsS RX6 51 yX6_needIndex wsX6_needIndex) := goodIn_app (goodIn_of _ (by decide +kernel)) ggX6_capacity_X6_needIndex
set_option maxRecDepth 20000 in
theorem ggX6_capacity_X6_needWithin : GoodIn wsX6_capacity wsX6_needWithin := goodIn_ca (goodIn_r _ [11, 12, 13] (by decide +kernel) (by decide +kernel)) (goodIn_sub (fun _ h => List.mem_cons_of_mem _ (List.mem_append_right _ h)) (by decide +kernel))
set_option maxRecDepth 20000 in
theorem gX6_capacity_X6_needWithin : GoodIn wsX6_capacity (va_wsS RX6 55 yX6_needWithin wsX6_needWithin) := goodIn_app (goodIn_of _ (by decide +kernel)) ggX6_capacity_X6_needWithin
theorem dX6_capacity_0 : decode cX6_capacity 0 = .ok (.iload_n 1, 1) := by decide +kernel
theorem dX6_capacity_1 : decode cX6_capacity 1 = .ok (.iconst 3, 1) := by decide +kernel
theorem dX6_capacity_2 : decode cX6_capacity 2 = .ok (.invokestatic 51, 3) := by decide +kernel
theorem dX6_capacity_5 : decode cX6_capacity 5 = .ok (.iload_n 2, 1) := by decide +kernel
theorem dX6_capacity_6 : decode cX6_capacity 6 = .ok (.iconst 0, 1) := by decide +kernel
theorem dX6_capacity_7 : decode cX6_capacity 7 = .ok (.bipush 99, 2) := by decide +kernel
theorem dX6_capacity_9 : decode cX6_capacity 9 = .ok (.invokestatic 55, 3) := by decide +kernel
theorem dX6_capacity_12 : decode cX6_capacity 12 = .ok (.aload_n 0, 1) := by decide +kernel
theorem dX6_capacity_13 : decode cX6_capacity 13 = .ok (.getfield 10, 3) := by decide +kernel
theorem dX6_capacity_16 : decode cX6_capacity 16 = .ok (.getfield 128, 3) := by decide +kernel
theorem dX6_capacity_19 : decode cX6_capacity 19 = .ok (.iload_n 1, 1) := by decide +kernel
theorem dX6_capacity_20 : decode cX6_capacity 20 = .ok (.iaload, 1) := by decide +kernel
theorem dX6_capacity_21 : decode cX6_capacity 21 = .ok (.istore_n 3, 1) := by decide +kernel
theorem dX6_capacity_22 : decode cX6_capacity 22 = .ok (.aload_n 0, 1) := by decide +kernel
theorem dX6_capacity_23 : decode cX6_capacity 23 = .ok (.getfield 10, 3) := by decide +kernel
theorem dX6_capacity_26 : decode cX6_capacity 26 = .ok (.getfield 128, 3) := by decide +kernel
theorem dX6_capacity_29 : decode cX6_capacity 29 = .ok (.iload_n 1, 1) := by decide +kernel
theorem dX6_capacity_30 : decode cX6_capacity 30 = .ok (.iload_n 2, 1) := by decide +kernel
theorem dX6_capacity_31 : decode cX6_capacity 31 = .ok (.iastore, 1) := by decide +kernel
theorem dX6_capacity_32 : decode cX6_capacity 32 = .ok (.iload_n 3, 1) := by decide +kernel
theorem dX6_capacity_33 : decode cX6_capacity 33 = .ok (.ireturn, 1) := by decide +kernel
set_option maxRecDepth 20000 in
theorem ggX6_permit_X6_needWithin : GoodIn wsX6_permit wsX6_needWithin := goodIn_ca (goodIn_r _ [6, 7, 8] (by decide +kernel) (by decide +kernel)) (goodIn_sub (fun _ h => List.mem_cons_of_mem _ (List.mem_append_right _ h)) (by decide +kernel))
set_option maxRecDepth 20000 in
theorem gX6_permit_X6_needWithin : GoodIn wsX6_permit (va_wsS RX6 55 yX6_needWithin wsX6_needWithin) := goodIn_app (goodIn_of _ (by decide +kernel)) ggX6_permit_X6_needWithin
theorem dX6_permit_0 : decode cX6_permit 0 = .ok (.iload_n 1, 1) := by decide +kernel
theorem dX6_permit_1 : decode cX6_permit 1 = .ok (.iconst 0, 1) := by decide +kernel
theorem dX6_permit_2 : decode cX6_permit 2 = .ok (.bipush 99, 2) := by decide +kernel
theorem dX6_permit_4 : decode cX6_permit 4 = .ok (.invokestatic 55, 3) := by decide +kernel
theorem dX6_permit_7 : decode cX6_permit 7 = .ok (.aload_n 0, 1) := by decide +kernel
theorem dX6_permit_8 : decode cX6_permit 8 = .ok (.getfield 10, 3) := by decide +kernel
theorem dX6_permit_11 : decode cX6_permit 11 = .ok (.getfield 131, 3) := by decide +kernel
theorem dX6_permit_14 : decode cX6_permit 14 = .ok (.istore_n 2, 1) := by decide +kernel
theorem dX6_permit_15 : decode cX6_permit 15 = .ok (.aload_n 0, 1) := by decide +kernel
theorem dX6_permit_16 : decode cX6_permit 16 = .ok (.getfield 10, 3) := by decide +kernel
theorem dX6_permit_19 : decode cX6_permit 19 = .ok (.iload_n 1, 1) := by decide +kernel
theorem dX6_permit_20 : decode cX6_permit 20 = .ok (.putfield 131, 3) := by decide +kernel
theorem dX6_permit_23 : decode cX6_permit 23 = .ok (.iload_n 2, 1) := by decide +kernel
theorem dX6_permit_24 : decode cX6_permit 24 = .ok (.ireturn, 1) := by decide +kernel
set_option maxRecDepth 20000 in
theorem ggX6_tank_X6_needWithin : GoodIn wsX6_tank wsX6_needWithin := goodIn_ca (goodIn_r _ [9, 10, 11] (by decide +kernel) (by decide +kernel)) (goodIn_sub (fun _ h => List.mem_cons_of_mem _ (List.mem_append_right _ h)) (by decide +kernel))
set_option maxRecDepth 20000 in
theorem gX6_tank_X6_needWithin : GoodIn wsX6_tank (va_wsS RX6 55 yX6_needWithin wsX6_needWithin) := goodIn_app (goodIn_of _ (by decide +kernel)) ggX6_tank_X6_needWithin
theorem dX6_tank_0 : decode cX6_tank 0 = .ok (.iload_n 1, 1) := by decide +kernel
theorem dX6_tank_1 : decode cX6_tank 1 = .ok (.iconst 0, 1) := by decide +kernel
theorem dX6_tank_2 : decode cX6_tank 2 = .ok (.sipush 999, 3) := by decide +kernel
theorem dX6_tank_5 : decode cX6_tank 5 = .ok (.invokestatic 55, 3) := by decide +kernel
theorem dX6_tank_8 : decode cX6_tank 8 = .ok (.aload_n 0, 1) := by decide +kernel
theorem dX6_tank_9 : decode cX6_tank 9 = .ok (.getfield 10, 3) := by decide +kernel
theorem dX6_tank_12 : decode cX6_tank 12 = .ok (.getfield 134, 3) := by decide +kernel
theorem dX6_tank_15 : decode cX6_tank 15 = .ok (.iload_n 1, 1) := by decide +kernel
theorem dX6_tank_16 : decode cX6_tank 16 = .ok (.if_icmp .le 13, 3) := by decide +kernel
theorem dX6_tank_19 : decode cX6_tank 19 = .ok (.new 90, 3) := by decide +kernel
theorem dX6_tank_22 : decode cX6_tank 22 = .ok (.dup, 1) := by decide +kernel
theorem dX6_tank_23 : decode cX6_tank 23 = .ok (.ldc 137, 2) := by decide +kernel
theorem dX6_tank_25 : decode cX6_tank 25 = .ok (.invokespecial 94, 3) := by decide +kernel
theorem dX6_tank_28 : decode cX6_tank 28 = .ok (.athrow, 1) := by decide +kernel
theorem dX6_tank_29 : decode cX6_tank 29 = .ok (.aload_n 0, 1) := by decide +kernel
theorem dX6_tank_30 : decode cX6_tank 30 = .ok (.getfield 10, 3) := by decide +kernel
theorem dX6_tank_33 : decode cX6_tank 33 = .ok (.iload_n 1, 1) := by decide +kernel
theorem dX6_tank_34 : decode cX6_tank 34 = .ok (.putfield 139, 3) := by decide +kernel
theorem dX6_tank_37 : decode cX6_tank 37 = .ok (.aload_n 0, 1) := by decide +kernel
theorem dX6_tank_38 : decode cX6_tank 38 = .ok (.getfield 10, 3) := by decide +kernel
theorem dX6_tank_41 : decode cX6_tank 41 = .ok (.getfield 134, 3) := by decide +kernel
theorem dX6_tank_44 : decode cX6_tank 44 = .ok (.ireturn, 1) := by decide +kernel
set_option maxRecDepth 20000 in
theorem ggX6_shares_X6_needWithin : GoodIn wsX6_shares wsX6_needWithin := goodIn_ca (goodIn_r _ [6, 7, 8] (by decide +kernel) (by decide +kernel)) (goodIn_sub (fun _ h => List.mem_cons_of_mem _ (List.mem_append_right _ h)) (by decide +kernel))
set_option maxRecDepth 20000 in
theorem gX6_shares_X6_needWithin : GoodIn wsX6_shares (va_wsS RX6 55 yX6_needWithin wsX6_needWithin) := goodIn_app (goodIn_of _ (by decide +kernel)) ggX6_shares_X6_needWithin
theorem dX6_shares_0 : decode cX6_shares 0 = .ok (.iload_n 1, 1) := by decide +kernel
theorem dX6_shares_1 : decode cX6_shares 1 = .ok (.iconst 0, 1) := by decide +kernel
theorem dX6_shares_2 : decode cX6_shares 2 = .ok (.bipush 100, 2) := by decide +kernel
theorem dX6_shares_4 : decode cX6_shares 4 = .ok (.invokestatic 55, 3) := by decide +kernel
theorem dX6_shares_7 : decode cX6_shares 7 = .ok (.iload_n 2, 1) := by decide +kernel
theorem dX6_shares_8 : decode cX6_shares 8 = .ok (.iconst 0, 1) := by decide +kernel
theorem dX6_shares_9 : decode cX6_shares 9 = .ok (.bipush 100, 2) := by decide +kernel
theorem dX6_shares_11 : decode cX6_shares 11 = .ok (.iload_n 1, 1) := by decide +kernel
theorem dX6_shares_12 : decode cX6_shares 12 = .ok (.isub, 1) := by decide +kernel
theorem dX6_shares_13 : decode cX6_shares 13 = .ok (.invokestatic 55, 3) := by decide +kernel
theorem dX6_shares_16 : decode cX6_shares 16 = .ok (.aload_n 0, 1) := by decide +kernel
theorem dX6_shares_17 : decode cX6_shares 17 = .ok (.getfield 27, 3) := by decide +kernel
theorem dX6_shares_20 : decode cX6_shares 20 = .ok (.iconst 0, 1) := by decide +kernel
theorem dX6_shares_21 : decode cX6_shares 21 = .ok (.aaload, 1) := by decide +kernel
theorem dX6_shares_22 : decode cX6_shares 22 = .ok (.iload_n 1, 1) := by decide +kernel
theorem dX6_shares_23 : decode cX6_shares 23 = .ok (.putfield 48, 3) := by decide +kernel
theorem dX6_shares_26 : decode cX6_shares 26 = .ok (.aload_n 0, 1) := by decide +kernel
theorem dX6_shares_27 : decode cX6_shares 27 = .ok (.getfield 27, 3) := by decide +kernel
theorem dX6_shares_30 : decode cX6_shares 30 = .ok (.iconst 1, 1) := by decide +kernel
theorem dX6_shares_31 : decode cX6_shares 31 = .ok (.aaload, 1) := by decide +kernel
theorem dX6_shares_32 : decode cX6_shares 32 = .ok (.iload_n 2, 1) := by decide +kernel
theorem dX6_shares_33 : decode cX6_shares 33 = .ok (.putfield 48, 3) := by decide +kernel
theorem dX6_shares_36 : decode cX6_shares 36 = .ok (.aload_n 0, 1) := by decide +kernel
theorem dX6_shares_37 : decode cX6_shares 37 = .ok (.getfield 27, 3) := by decide +kernel
theorem dX6_shares_40 : decode cX6_shares 40 = .ok (.iconst 2, 1) := by decide +kernel
theorem dX6_shares_41 : decode cX6_shares 41 = .ok (.aaload, 1) := by decide +kernel
theorem dX6_shares_42 : decode cX6_shares 42 = .ok (.bipush 100, 2) := by decide +kernel
theorem dX6_shares_44 : decode cX6_shares 44 = .ok (.iload_n 1, 1) := by decide +kernel
theorem dX6_shares_45 : decode cX6_shares 45 = .ok (.isub, 1) := by decide +kernel
theorem dX6_shares_46 : decode cX6_shares 46 = .ok (.iload_n 2, 1) := by decide +kernel
theorem dX6_shares_47 : decode cX6_shares 47 = .ok (.isub, 1) := by decide +kernel
theorem dX6_shares_48 : decode cX6_shares 48 = .ok (.putfield 48, 3) := by decide +kernel
theorem dX6_shares_51 : decode cX6_shares 51 = .ok (.aload_n 0, 1) := by decide +kernel
theorem dX6_shares_52 : decode cX6_shares 52 = .ok (.getfield 27, 3) := by decide +kernel
theorem dX6_shares_55 : decode cX6_shares 55 = .ok (.iconst 2, 1) := by decide +kernel
theorem dX6_shares_56 : decode cX6_shares 56 = .ok (.aaload, 1) := by decide +kernel
theorem dX6_shares_57 : decode cX6_shares 57 = .ok (.getfield 48, 3) := by decide +kernel
theorem dX6_shares_60 : decode cX6_shares 60 = .ok (.ireturn, 1) := by decide +kernel
set_option maxRecDepth 20000 in
theorem ggX6_price_X6_needWithin : GoodIn wsX6_price wsX6_needWithin := goodIn_ca (goodIn_r _ [5, 6, 7] (by decide +kernel) (by decide +kernel)) (goodIn_sub (fun _ h => List.mem_cons_of_mem _ (List.mem_append_right _ h)) (by decide +kernel))
set_option maxRecDepth 20000 in
theorem gX6_price_X6_needWithin : GoodIn wsX6_price (va_wsS RX6 55 yX6_needWithin wsX6_needWithin) := goodIn_app (goodIn_of _ (by decide +kernel)) ggX6_price_X6_needWithin
theorem dX6_price_0 : decode cX6_price 0 = .ok (.iload_n 1, 1) := by decide +kernel
theorem dX6_price_1 : decode cX6_price 1 = .ok (.iconst 0, 1) := by decide +kernel
theorem dX6_price_2 : decode cX6_price 2 = .ok (.bipush 99, 2) := by decide +kernel
theorem dX6_price_4 : decode cX6_price 4 = .ok (.invokestatic 55, 3) := by decide +kernel
theorem dX6_price_7 : decode cX6_price 7 = .ok (.aload_n 0, 1) := by decide +kernel
theorem dX6_price_8 : decode cX6_price 8 = .ok (.getfield 42, 3) := by decide +kernel
theorem dX6_price_11 : decode cX6_price 11 = .ok (.istore_n 2, 1) := by decide +kernel
theorem dX6_price_12 : decode cX6_price 12 = .ok (.aload_n 0, 1) := by decide +kernel
theorem dX6_price_13 : decode cX6_price 13 = .ok (.iload_n 1, 1) := by decide +kernel
theorem dX6_price_14 : decode cX6_price 14 = .ok (.putfield 42, 3) := by decide +kernel
theorem dX6_price_17 : decode cX6_price 17 = .ok (.iload_n 2, 1) := by decide +kernel
theorem dX6_price_18 : decode cX6_price 18 = .ok (.ireturn, 1) := by decide +kernel
set_option maxRecDepth 20000 in
theorem ggX6_pass_X6_needWithin : GoodIn wsX6_pass wsX6_needWithin := goodIn_ca (goodIn_r _ [7, 8, 9] (by decide +kernel) (by decide +kernel)) (goodIn_sub (fun _ h => List.mem_cons_of_mem _ (List.mem_append_right _ h)) (by decide +kernel))
set_option maxRecDepth 20000 in
theorem gX6_pass_X6_needWithin : GoodIn wsX6_pass (va_wsS RX6 55 yX6_needWithin wsX6_needWithin) := goodIn_app (goodIn_of _ (by decide +kernel)) ggX6_pass_X6_needWithin
set_option maxRecDepth 20000 in
theorem ggX6_pass_X2_passMonth : GoodIn wsX6_pass wsX2_passMonth := goodIn_r _ [14, 15, 16, 17, 18, 19, 20, 21, 22, 13, 23, 24, 25, 26, 27, 28, 29, 30, 31, 32, 33, 34, 35, 36, 37, 38, 39, 40, 41, 42, 43, 44, 45, 46, 47, 48, 49, 50, 51, 52, 53, 54, 55, 56, 57, 58, 59, 60, 61, 62, 63, 64, 65, 66, 67, 68, 69, 70, 71, 72, 73, 74, 75, 76, 77, 78, 79, 80, 81, 82, 83, 84, 85, 86, 87, 88, 89, 90, 91, 92, 93, 94, 95, 96, 97, 98, 99, 100, 101, 102, 6, 103, 104, 105, 106, 107, 108, 109, 169, 170, 171, 172, 173, 174, 175, 176, 177, 178, 179, 180, 181, 182, 183, 184, 185, 186, 187, 188, 189] (by decide +kernel) (by decide +kernel)
set_option maxRecDepth 20000 in
theorem gX6_pass_X2_passMonth : GoodIn wsX6_pass (wsV RX6 142 RX2 yX2_passMonth wsX2_passMonth) := goodIn_app (goodIn_of _ (by decide +kernel)) ggX6_pass_X2_passMonth
set_option maxRecDepth 20000 in
theorem ggX6_pass_X6_countMonth : GoodIn wsX6_pass wsX6_countMonth := goodIn_r _ [113, 114, 1, 3, 115, 116, 117, 118, 119, 120, 121, 122, 123, 124, 125, 126, 158, 159, 160, 161, 162, 163, 164, 165, 166, 167, 168, 169, 170, 171, 172, 173, 174, 175, 176, 177, 178, 179, 180, 181, 182, 183, 184, 185, 190, 191, 192, 193, 194] (by decide +kernel) (by decide +kernel)
set_option maxRecDepth 20000 in
theorem gX6_pass_X6_countMonth : GoodIn wsX6_pass (wsV RX6 148 RX6 yX6_countMonth wsX6_countMonth) := goodIn_app (goodIn_of _ (by decide +kernel)) ggX6_pass_X6_countMonth
set_option maxRecDepth 20000 in
theorem ggX6_pass_X6_allocate : GoodIn wsX6_pass wsX6_allocate := goodIn_r _ [130, 1, 121, 122, 124, 131, 132, 133, 134, 135, 32, 136, 137, 34, 138, 139, 140, 6, 141, 158, 159, 160, 161, 162, 163, 164, 165, 166, 167, 168, 169, 170, 171, 172, 173, 174, 175, 176, 177, 178, 179, 180, 190, 191, 192, 193, 194, 181, 182, 183, 184, 185] (by decide +kernel) (by decide +kernel)
set_option maxRecDepth 20000 in
theorem gX6_pass_X6_allocate : GoodIn wsX6_pass (wsV RX6 154 RX6 yX6_allocate wsX6_allocate) := goodIn_app (goodIn_of _ (by decide +kernel)) ggX6_pass_X6_allocate
set_option maxRecDepth 20000 in
theorem ggX6_pass_X6_keepTests : GoodIn wsX6_pass wsX6_keepTests := goodIn_r _ [145, 1, 121, 124, 146, 122, 126, 131, 147, 148, 149, 150, 158, 159, 160, 161, 162, 163, 164, 165, 166, 167, 168, 169, 170, 171, 172, 173, 174, 175, 176, 177, 178, 179, 180, 190, 191, 192, 193, 194, 181, 182, 183, 184, 185] (by decide +kernel) (by decide +kernel)
set_option maxRecDepth 20000 in
theorem gX6_pass_X6_keepTests : GoodIn wsX6_pass (wsV RX6 157 RX6 yX6_keepTests wsX6_keepTests) := goodIn_app (goodIn_of _ (by decide +kernel)) ggX6_pass_X6_keepTests
set_option maxRecDepth 20000 in
theorem ggX6_pass_X6_entitle : GoodIn wsX6_pass wsX6_entitle := goodIn_r _ [154, 155, 156, 157, 158, 159, 160, 161, 162, 163, 164, 165, 166, 167, 168, 195, 196, 197, 198] (by decide +kernel) (by decide +kernel)
set_option maxRecDepth 20000 in
theorem gX6_pass_X6_entitle : GoodIn wsX6_pass (wsV RX6 160 RX6 yX6_entitle wsX6_entitle) := goodIn_app (goodIn_of _ (by decide +kernel)) ggX6_pass_X6_entitle
theorem dX6_pass_0 : decode cX6_pass 0 = .ok (.iload_n 1, 1) := by decide +kernel
theorem dX6_pass_1 : decode cX6_pass 1 = .ok (.iconst 1, 1) := by decide +kernel
theorem dX6_pass_2 : decode cX6_pass 2 = .ok (.bipush 24, 2) := by decide +kernel
theorem dX6_pass_4 : decode cX6_pass 4 = .ok (.invokestatic 55, 3) := by decide +kernel
theorem dX6_pass_7 : decode cX6_pass 7 = .ok (.iconst 0, 1) := by decide +kernel
theorem dX6_pass_8 : decode cX6_pass 8 = .ok (.istore_n 2, 1) := by decide +kernel
theorem dX6_pass_9 : decode cX6_pass 9 = .ok (.iconst 0, 1) := by decide +kernel
theorem dX6_pass_10 : decode cX6_pass 10 = .ok (.istore_n 3, 1) := by decide +kernel
theorem dX6_pass_11 : decode cX6_pass 11 = .ok (.iload_n 3, 1) := by decide +kernel
theorem dX6_pass_12 : decode cX6_pass 12 = .ok (.iload_n 1, 1) := by decide +kernel
theorem dX6_pass_13 : decode cX6_pass 13 = .ok (.if_icmp .ge 63, 3) := by decide +kernel
theorem dX6_pass_16 : decode cX6_pass 16 = .ok (.iload_n 2, 1) := by decide +kernel
theorem dX6_pass_17 : decode cX6_pass 17 = .ok (.aload_n 0, 1) := by decide +kernel
theorem dX6_pass_18 : decode cX6_pass 18 = .ok (.getfield 10, 3) := by decide +kernel
theorem dX6_pass_21 : decode cX6_pass 21 = .ok (.invokevirtual 142, 3) := by decide +kernel
theorem dX6_pass_24 : decode cX6_pass 24 = .ok (.iadd, 1) := by decide +kernel
theorem dX6_pass_25 : decode cX6_pass 25 = .ok (.istore_n 2, 1) := by decide +kernel
theorem dX6_pass_26 : decode cX6_pass 26 = .ok (.aload_n 0, 1) := by decide +kernel
theorem dX6_pass_27 : decode cX6_pass 27 = .ok (.dup, 1) := by decide +kernel
theorem dX6_pass_28 : decode cX6_pass 28 = .ok (.getfield 145, 3) := by decide +kernel
theorem dX6_pass_31 : decode cX6_pass 31 = .ok (.iconst 1, 1) := by decide +kernel
theorem dX6_pass_32 : decode cX6_pass 32 = .ok (.iadd, 1) := by decide +kernel
theorem dX6_pass_33 : decode cX6_pass 33 = .ok (.putfield 145, 3) := by decide +kernel
theorem dX6_pass_36 : decode cX6_pass 36 = .ok (.aload_n 0, 1) := by decide +kernel
theorem dX6_pass_37 : decode cX6_pass 37 = .ok (.invokevirtual 148, 3) := by decide +kernel
theorem dX6_pass_40 : decode cX6_pass 40 = .ok (.aload_n 0, 1) := by decide +kernel
theorem dX6_pass_41 : decode cX6_pass 41 = .ok (.aload_n 0, 1) := by decide +kernel
theorem dX6_pass_42 : decode cX6_pass 42 = .ok (.getfield 10, 3) := by decide +kernel
theorem dX6_pass_45 : decode cX6_pass 45 = .ok (.getfield 151, 3) := by decide +kernel
theorem dX6_pass_48 : decode cX6_pass 48 = .ok (.iconst 0, 1) := by decide +kernel
theorem dX6_pass_49 : decode cX6_pass 49 = .ok (.iaload, 1) := by decide +kernel
theorem dX6_pass_50 : decode cX6_pass 50 = .ok (.invokevirtual 154, 3) := by decide +kernel
theorem dX6_pass_53 : decode cX6_pass 53 = .ok (.aload_n 0, 1) := by decide +kernel
theorem dX6_pass_54 : decode cX6_pass 54 = .ok (.invokevirtual 157, 3) := by decide +kernel
theorem dX6_pass_57 : decode cX6_pass 57 = .ok (.aload_n 0, 1) := by decide +kernel
theorem dX6_pass_58 : decode cX6_pass 58 = .ok (.aload_n 0, 1) := by decide +kernel
theorem dX6_pass_59 : decode cX6_pass 59 = .ok (.getfield 10, 3) := by decide +kernel
theorem dX6_pass_62 : decode cX6_pass 62 = .ok (.getfield 151, 3) := by decide +kernel
theorem dX6_pass_65 : decode cX6_pass 65 = .ok (.iconst 0, 1) := by decide +kernel
theorem dX6_pass_66 : decode cX6_pass 66 = .ok (.iaload, 1) := by decide +kernel
theorem dX6_pass_67 : decode cX6_pass 67 = .ok (.invokevirtual 160, 3) := by decide +kernel
theorem dX6_pass_70 : decode cX6_pass 70 = .ok (.iinc 3 1, 3) := by decide +kernel
theorem dX6_pass_73 : decode cX6_pass 73 = .ok (.goto (-62), 3) := by decide +kernel
theorem dX6_pass_76 : decode cX6_pass 76 = .ok (.iload_n 2, 1) := by decide +kernel
theorem dX6_pass_77 : decode cX6_pass 77 = .ok (.ireturn, 1) := by decide +kernel
set_option maxRecDepth 20000 in
theorem ggX6_lift_X6_needIndex : GoodIn wsX6_lift wsX6_needIndex := goodIn_ca (goodIn_r _ [14, 15, 16] (by decide +kernel) (by decide +kernel)) (goodIn_sub (fun _ h => List.mem_cons_of_mem _ (List.mem_append_left _ (List.mem_append_right _ h))) (by decide +kernel))
set_option maxRecDepth 20000 in
theorem gX6_lift_X6_needIndex : GoodIn wsX6_lift (va_wsS RX6 51 yX6_needIndex wsX6_needIndex) := goodIn_app (goodIn_of _ (by decide +kernel)) ggX6_lift_X6_needIndex
set_option maxRecDepth 20000 in
theorem ggX6_lift_X6_needWithin : GoodIn wsX6_lift wsX6_needWithin := goodIn_ca (goodIn_r _ [19, 20, 21] (by decide +kernel) (by decide +kernel)) (goodIn_sub (fun _ h => List.mem_cons_of_mem _ (List.mem_append_right _ h)) (by decide +kernel))
set_option maxRecDepth 20000 in
theorem gX6_lift_X6_needWithin : GoodIn wsX6_lift (va_wsS RX6 55 yX6_needWithin wsX6_needWithin) := goodIn_app (goodIn_of _ (by decide +kernel)) ggX6_lift_X6_needWithin
set_option maxRecDepth 20000 in
theorem ggX6_lift_X6_mayLift : GoodIn wsX6_lift wsX6_mayLift := goodIn_ca (goodIn_r _ [25, 7, 5, 6, 26, 8, 1, 2, 3, 4, 11, 12, 13, 14, 15, 16, 27, 28, 29, 30, 31, 32, 33, 34, 35, 36, 37, 38, 39, 40, 41, 42, 43, 44, 45, 46, 47, 48, 49, 50, 51, 52, 53] (by decide +kernel) (by decide +kernel)) (goodIn_sub (fun _ h => List.mem_cons_of_mem _ (List.mem_append_left _ (List.mem_append_right _ h))) (by decide +kernel))
set_option maxRecDepth 20000 in
theorem gX6_lift_X6_mayLift : GoodIn wsX6_lift (wsV RX6 163 RX6 yX6_mayLift wsX6_mayLift) := goodIn_app (goodIn_of _ (by decide +kernel)) ggX6_lift_X6_mayLift
theorem dX6_lift_0 : decode cX6_lift 0 = .ok (.iload_n 1, 1) := by decide +kernel
theorem dX6_lift_1 : decode cX6_lift 1 = .ok (.iconst 3, 1) := by decide +kernel
theorem dX6_lift_2 : decode cX6_lift 2 = .ok (.invokestatic 51, 3) := by decide +kernel
theorem dX6_lift_5 : decode cX6_lift 5 = .ok (.iload_n 2, 1) := by decide +kernel
theorem dX6_lift_6 : decode cX6_lift 6 = .ok (.iconst 1, 1) := by decide +kernel
theorem dX6_lift_7 : decode cX6_lift 7 = .ok (.sipush 999, 3) := by decide +kernel
theorem dX6_lift_10 : decode cX6_lift 10 = .ok (.invokestatic 55, 3) := by decide +kernel
theorem dX6_lift_13 : decode cX6_lift 13 = .ok (.iload_n 2, 1) := by decide +kernel
theorem dX6_lift_14 : decode cX6_lift 14 = .ok (.aload_n 0, 1) := by decide +kernel
theorem dX6_lift_15 : decode cX6_lift 15 = .ok (.iload_n 1, 1) := by decide +kernel
theorem dX6_lift_16 : decode cX6_lift 16 = .ok (.invokevirtual 163, 3) := by decide +kernel
theorem dX6_lift_19 : decode cX6_lift 19 = .ok (.invokestatic 167, 3) := by decide +kernel
theorem dX6_lift_22 : decode cX6_lift 22 = .ok (.istore_n 3, 1) := by decide +kernel
theorem dX6_lift_23 : decode cX6_lift 23 = .ok (.aload_n 0, 1) := by decide +kernel
theorem dX6_lift_24 : decode cX6_lift 24 = .ok (.getfield 10, 3) := by decide +kernel
theorem dX6_lift_27 : decode cX6_lift 27 = .ok (.dup, 1) := by decide +kernel
theorem dX6_lift_28 : decode cX6_lift 28 = .ok (.getfield 134, 3) := by decide +kernel
theorem dX6_lift_31 : decode cX6_lift 31 = .ok (.iload_n 3, 1) := by decide +kernel
theorem dX6_lift_32 : decode cX6_lift 32 = .ok (.isub, 1) := by decide +kernel
theorem dX6_lift_33 : decode cX6_lift 33 = .ok (.putfield 134, 3) := by decide +kernel
theorem dX6_lift_36 : decode cX6_lift 36 = .ok (.aload_n 0, 1) := by decide +kernel
theorem dX6_lift_37 : decode cX6_lift 37 = .ok (.getfield 27, 3) := by decide +kernel
theorem dX6_lift_40 : decode cX6_lift 40 = .ok (.iload_n 1, 1) := by decide +kernel
theorem dX6_lift_41 : decode cX6_lift 41 = .ok (.aaload, 1) := by decide +kernel
theorem dX6_lift_42 : decode cX6_lift 42 = .ok (.dup, 1) := by decide +kernel
theorem dX6_lift_43 : decode cX6_lift 43 = .ok (.getfield 173, 3) := by decide +kernel
theorem dX6_lift_46 : decode cX6_lift 46 = .ok (.iload_n 3, 1) := by decide +kernel
theorem dX6_lift_47 : decode cX6_lift 47 = .ok (.iadd, 1) := by decide +kernel
theorem dX6_lift_48 : decode cX6_lift 48 = .ok (.putfield 173, 3) := by decide +kernel
theorem dX6_lift_51 : decode cX6_lift 51 = .ok (.aload_n 0, 1) := by decide +kernel
theorem dX6_lift_52 : decode cX6_lift 52 = .ok (.getfield 27, 3) := by decide +kernel
theorem dX6_lift_55 : decode cX6_lift 55 = .ok (.iload_n 1, 1) := by decide +kernel
theorem dX6_lift_56 : decode cX6_lift 56 = .ok (.aaload, 1) := by decide +kernel
theorem dX6_lift_57 : decode cX6_lift 57 = .ok (.dup, 1) := by decide +kernel
theorem dX6_lift_58 : decode cX6_lift 58 = .ok (.getfield 176, 3) := by decide +kernel
theorem dX6_lift_61 : decode cX6_lift 61 = .ok (.iload_n 3, 1) := by decide +kernel
theorem dX6_lift_62 : decode cX6_lift 62 = .ok (.aload_n 0, 1) := by decide +kernel
theorem dX6_lift_63 : decode cX6_lift 63 = .ok (.getfield 42, 3) := by decide +kernel
theorem dX6_lift_66 : decode cX6_lift 66 = .ok (.imul, 1) := by decide +kernel
theorem dX6_lift_67 : decode cX6_lift 67 = .ok (.iadd, 1) := by decide +kernel
theorem dX6_lift_68 : decode cX6_lift 68 = .ok (.putfield 176, 3) := by decide +kernel
theorem dX6_lift_71 : decode cX6_lift 71 = .ok (.iload_n 3, 1) := by decide +kernel
theorem dX6_lift_72 : decode cX6_lift 72 = .ok (.ireturn, 1) := by decide +kernel
set_option maxRecDepth 20000 in
theorem ggX6_book_X6_reservesOf : GoodIn wsX6_book wsX6_reservesOf := goodIn_r _ [18, 19, 1, 20, 21, 2, 22, 23, 24, 25, 26, 27, 28, 29, 30, 31, 32, 33, 34, 35, 36, 37, 38, 39, 40, 41, 42, 43, 44, 45, 46, 47, 48, 49, 50, 51, 52, 53, 54, 55, 56, 57, 58, 59, 60, 61, 62, 63, 64, 65, 66, 67, 68, 69, 70, 71, 72, 73, 74, 75, 76, 77, 78, 79, 80, 81, 82, 83, 84, 85, 86, 87, 88, 89, 90, 91, 92, 93, 94, 95, 96, 97, 98, 99, 100, 101, 102, 103, 104, 105, 106, 107, 108, 109, 110, 111, 112, 113, 114, 115, 116, 117, 118, 119, 120, 121, 122, 123, 124, 125, 126, 127, 128, 129, 130, 131, 132, 133, 134, 135, 136, 137, 138, 139, 140, 141, 142, 143, 17, 144, 145, 146, 147, 148, 149, 150, 151, 152, 153, 154, 155, 156, 157, 158, 159, 160, 161, 162, 163, 164, 165, 166, 167, 168, 169, 170, 171, 180, 181, 182, 183, 184, 185, 186, 187, 188] (by decide +kernel) (by decide +kernel)
set_option maxRecDepth 20000 in
theorem gX6_book_X6_reservesOf : GoodIn wsX6_book (wsV RX6 179 RX6 yX6_reservesOf wsX6_reservesOf) := goodIn_app (goodIn_of _ (by decide +kernel)) ggX6_book_X6_reservesOf
theorem dX6_book_0 : decode cX6_book 0 = .ok (.aload_n 0, 1) := by decide +kernel
theorem dX6_book_1 : decode cX6_book 1 = .ok (.aload_n 0, 1) := by decide +kernel
theorem dX6_book_2 : decode cX6_book 2 = .ok (.getfield 10, 3) := by decide +kernel
theorem dX6_book_5 : decode cX6_book 5 = .ok (.getfield 87, 3) := by decide +kernel
theorem dX6_book_8 : decode cX6_book 8 = .ok (.invokevirtual 179, 3) := by decide +kernel
theorem dX6_book_11 : decode cX6_book 11 = .ok (.istore_n 1, 1) := by decide +kernel
theorem dX6_book_12 : decode cX6_book 12 = .ok (.iload_n 1, 1) := by decide +kernel
theorem dX6_book_13 : decode cX6_book 13 = .ok (.aload_n 0, 1) := by decide +kernel
theorem dX6_book_14 : decode cX6_book 14 = .ok (.aload_n 0, 1) := by decide +kernel
theorem dX6_book_15 : decode cX6_book 15 = .ok (.getfield 34, 3) := by decide +kernel
theorem dX6_book_18 : decode cX6_book 18 = .ok (.getfield 182, 3) := by decide +kernel
theorem dX6_book_21 : decode cX6_book 21 = .ok (.invokevirtual 179, 3) := by decide +kernel
theorem dX6_book_24 : decode cX6_book 24 = .ok (.isub, 1) := by decide +kernel
theorem dX6_book_25 : decode cX6_book 25 = .ok (.istore_n 2, 1) := by decide +kernel
theorem dX6_book_26 : decode cX6_book 26 = .ok (.aload_n 0, 1) := by decide +kernel
theorem dX6_book_27 : decode cX6_book 27 = .ok (.getfield 34, 3) := by decide +kernel
theorem dX6_book_30 : decode cX6_book 30 = .ok (.getfield 184, 3) := by decide +kernel
theorem dX6_book_33 : decode cX6_book 33 = .ok (.ifCond .ne 7, 3) := by decide +kernel
theorem dX6_book_36 : decode cX6_book 36 = .ok (.iconst 0, 1) := by decide +kernel
theorem dX6_book_37 : decode cX6_book 37 = .ok (.goto 17, 3) := by decide +kernel
theorem dX6_book_40 : decode cX6_book 40 = .ok (.aload_n 0, 1) := by decide +kernel
theorem dX6_book_41 : decode cX6_book 41 = .ok (.getfield 34, 3) := by decide +kernel
theorem dX6_book_44 : decode cX6_book 44 = .ok (.getfield 187, 3) := by decide +kernel
theorem dX6_book_47 : decode cX6_book 47 = .ok (.aload_n 0, 1) := by decide +kernel
theorem dX6_book_48 : decode cX6_book 48 = .ok (.getfield 38, 3) := by decide +kernel
theorem dX6_book_51 : decode cX6_book 51 = .ok (.iconst 0, 1) := by decide +kernel
theorem dX6_book_52 : decode cX6_book 52 = .ok (.iaload, 1) := by decide +kernel
theorem dX6_book_53 : decode cX6_book 53 = .ok (.isub, 1) := by decide +kernel
theorem dX6_book_54 : decode cX6_book 54 = .ok (.istore_n 3, 1) := by decide +kernel
theorem dX6_book_55 : decode cX6_book 55 = .ok (.aload_n 0, 1) := by decide +kernel
theorem dX6_book_56 : decode cX6_book 56 = .ok (.getfield 34, 3) := by decide +kernel
theorem dX6_book_59 : decode cX6_book 59 = .ok (.iload_n 1, 1) := by decide +kernel
theorem dX6_book_60 : decode cX6_book 60 = .ok (.aload_n 0, 1) := by decide +kernel
theorem dX6_book_61 : decode cX6_book 61 = .ok (.getfield 34, 3) := by decide +kernel
theorem dX6_book_64 : decode cX6_book 64 = .ok (.getfield 190, 3) := by decide +kernel
theorem dX6_book_67 : decode cX6_book 67 = .ok (.isub, 1) := by decide +kernel
theorem dX6_book_68 : decode cX6_book 68 = .ok (.iload_n 3, 1) := by decide +kernel
theorem dX6_book_69 : decode cX6_book 69 = .ok (.isub, 1) := by decide +kernel
theorem dX6_book_70 : decode cX6_book 70 = .ok (.iload_n 2, 1) := by decide +kernel
theorem dX6_book_71 : decode cX6_book 71 = .ok (.isub, 1) := by decide +kernel
theorem dX6_book_72 : decode cX6_book 72 = .ok (.putfield 193, 3) := by decide +kernel
theorem dX6_book_75 : decode cX6_book 75 = .ok (.aload_n 0, 1) := by decide +kernel
theorem dX6_book_76 : decode cX6_book 76 = .ok (.getfield 34, 3) := by decide +kernel
theorem dX6_book_79 : decode cX6_book 79 = .ok (.iload_n 1, 1) := by decide +kernel
theorem dX6_book_80 : decode cX6_book 80 = .ok (.putfield 190, 3) := by decide +kernel
theorem dX6_book_83 : decode cX6_book 83 = .ok (.aload_n 0, 1) := by decide +kernel
theorem dX6_book_84 : decode cX6_book 84 = .ok (.getfield 34, 3) := by decide +kernel
theorem dX6_book_87 : decode cX6_book 87 = .ok (.iload_n 3, 1) := by decide +kernel
theorem dX6_book_88 : decode cX6_book 88 = .ok (.putfield 196, 3) := by decide +kernel
theorem dX6_book_91 : decode cX6_book 91 = .ok (.aload_n 0, 1) := by decide +kernel
theorem dX6_book_92 : decode cX6_book 92 = .ok (.getfield 34, 3) := by decide +kernel
theorem dX6_book_95 : decode cX6_book 95 = .ok (.iload_n 2, 1) := by decide +kernel
theorem dX6_book_96 : decode cX6_book 96 = .ok (.putfield 199, 3) := by decide +kernel
theorem dX6_book_99 : decode cX6_book 99 = .ok (.aload_n 0, 1) := by decide +kernel
theorem dX6_book_100 : decode cX6_book 100 = .ok (.getfield 34, 3) := by decide +kernel
theorem dX6_book_103 : decode cX6_book 103 = .ok (.aload_n 0, 1) := by decide +kernel
theorem dX6_book_104 : decode cX6_book 104 = .ok (.getfield 145, 3) := by decide +kernel
theorem dX6_book_107 : decode cX6_book 107 = .ok (.putfield 202, 3) := by decide +kernel
theorem dX6_book_110 : decode cX6_book 110 = .ok (.aload_n 0, 1) := by decide +kernel
theorem dX6_book_111 : decode cX6_book 111 = .ok (.getfield 34, 3) := by decide +kernel
theorem dX6_book_114 : decode cX6_book 114 = .ok (.aload_n 0, 1) := by decide +kernel
theorem dX6_book_115 : decode cX6_book 115 = .ok (.getfield 10, 3) := by decide +kernel
theorem dX6_book_118 : decode cX6_book 118 = .ok (.getfield 87, 3) := by decide +kernel
theorem dX6_book_121 : decode cX6_book 121 = .ok (.putfield 182, 3) := by decide +kernel
theorem dX6_book_124 : decode cX6_book 124 = .ok (.aload_n 0, 1) := by decide +kernel
theorem dX6_book_125 : decode cX6_book 125 = .ok (.getfield 34, 3) := by decide +kernel
theorem dX6_book_128 : decode cX6_book 128 = .ok (.aload_n 0, 1) := by decide +kernel
theorem dX6_book_129 : decode cX6_book 129 = .ok (.getfield 38, 3) := by decide +kernel
theorem dX6_book_132 : decode cX6_book 132 = .ok (.iconst 0, 1) := by decide +kernel
theorem dX6_book_133 : decode cX6_book 133 = .ok (.iaload, 1) := by decide +kernel
theorem dX6_book_134 : decode cX6_book 134 = .ok (.putfield 187, 3) := by decide +kernel
theorem dX6_book_137 : decode cX6_book 137 = .ok (.aload_n 0, 1) := by decide +kernel
theorem dX6_book_138 : decode cX6_book 138 = .ok (.getfield 34, 3) := by decide +kernel
theorem dX6_book_141 : decode cX6_book 141 = .ok (.dup, 1) := by decide +kernel
theorem dX6_book_142 : decode cX6_book 142 = .ok (.getfield 184, 3) := by decide +kernel
theorem dX6_book_145 : decode cX6_book 145 = .ok (.iconst 1, 1) := by decide +kernel
theorem dX6_book_146 : decode cX6_book 146 = .ok (.iadd, 1) := by decide +kernel
theorem dX6_book_147 : decode cX6_book 147 = .ok (.putfield 184, 3) := by decide +kernel
theorem dX6_book_150 : decode cX6_book 150 = .ok (.iload_n 1, 1) := by decide +kernel
theorem dX6_book_151 : decode cX6_book 151 = .ok (.ireturn, 1) := by decide +kernel
set_option maxRecDepth 20000 in
theorem ggX6_ofCell_X6_needIndex : GoodIn wsX6_ofCell wsX6_needIndex := goodIn_ca (goodIn_r _ [8, 9, 10] (by decide +kernel) (by decide +kernel)) (goodIn_sub (fun _ h => List.mem_cons_of_mem _ (List.mem_append_left _ (List.mem_append_right _ h))) (by decide +kernel))
set_option maxRecDepth 20000 in
theorem gX6_ofCell_X6_needIndex : GoodIn wsX6_ofCell (va_wsS RX6 51 yX6_needIndex wsX6_needIndex) := goodIn_app (goodIn_of _ (by decide +kernel)) ggX6_ofCell_X6_needIndex
set_option maxRecDepth 20000 in
theorem ggX6_ofCell_X6_needWithin : GoodIn wsX6_ofCell wsX6_needWithin := goodIn_ca (goodIn_r _ [13, 14, 15] (by decide +kernel) (by decide +kernel)) (goodIn_sub (fun _ h => List.mem_cons_of_mem _ (List.mem_append_right _ h)) (by decide +kernel))
set_option maxRecDepth 20000 in
theorem gX6_ofCell_X6_needWithin : GoodIn wsX6_ofCell (va_wsS RX6 55 yX6_needWithin wsX6_needWithin) := goodIn_app (goodIn_of _ (by decide +kernel)) ggX6_ofCell_X6_needWithin
set_option maxRecDepth 20000 in
theorem ggX6_ofCell_X1_pressure : GoodIn wsX6_ofCell wsX1_pressure := goodIn_r _ [20, 21, 22, 23, 24, 19, 25, 26, 50, 51, 52, 53] (by decide +kernel) (by decide +kernel)
set_option maxRecDepth 20000 in
theorem gX6_ofCell_X1_pressure : GoodIn wsX6_ofCell (wsV RX6 71 RX1 yX1_pressure wsX1_pressure) := goodIn_app (goodIn_of _ (by decide +kernel)) ggX6_ofCell_X1_pressure
theorem dX6_ofCell_0 : decode cX6_ofCell 0 = .ok (.iload_n 1, 1) := by decide +kernel
theorem dX6_ofCell_1 : decode cX6_ofCell 1 = .ok (.bipush 16, 2) := by decide +kernel
theorem dX6_ofCell_3 : decode cX6_ofCell 3 = .ok (.invokestatic 51, 3) := by decide +kernel
theorem dX6_ofCell_6 : decode cX6_ofCell 6 = .ok (.iload_n 2, 1) := by decide +kernel
theorem dX6_ofCell_7 : decode cX6_ofCell 7 = .ok (.iconst 0, 1) := by decide +kernel
theorem dX6_ofCell_8 : decode cX6_ofCell 8 = .ok (.iconst 4, 1) := by decide +kernel
theorem dX6_ofCell_9 : decode cX6_ofCell 9 = .ok (.invokestatic 55, 3) := by decide +kernel
theorem dX6_ofCell_12 : decode cX6_ofCell 12 = .ok (.aload_n 0, 1) := by decide +kernel
theorem dX6_ofCell_13 : decode cX6_ofCell 13 = .ok (.getfield 10, 3) := by decide +kernel
theorem dX6_ofCell_16 : decode cX6_ofCell 16 = .ok (.getfield 59, 3) := by decide +kernel
theorem dX6_ofCell_19 : decode cX6_ofCell 19 = .ok (.iload_n 1, 1) := by decide +kernel
theorem dX6_ofCell_20 : decode cX6_ofCell 20 = .ok (.aaload, 1) := by decide +kernel
theorem dX6_ofCell_21 : decode cX6_ofCell 21 = .ok (.astore_n 3, 1) := by decide +kernel
theorem dX6_ofCell_22 : decode cX6_ofCell 22 = .ok (.iload_n 2, 1) := by decide +kernel
theorem dX6_ofCell_23 : decode cX6_ofCell 23 = .ok (.ifCond .ne 8, 3) := by decide +kernel
theorem dX6_ofCell_26 : decode cX6_ofCell 26 = .ok (.aload_n 3, 1) := by decide +kernel
theorem dX6_ofCell_27 : decode cX6_ofCell 27 = .ok (.getfield 63, 3) := by decide +kernel
theorem dX6_ofCell_30 : decode cX6_ofCell 30 = .ok (.ireturn, 1) := by decide +kernel
theorem dX6_ofCell_31 : decode cX6_ofCell 31 = .ok (.iload_n 2, 1) := by decide +kernel
theorem dX6_ofCell_32 : decode cX6_ofCell 32 = .ok (.iconst 4, 1) := by decide +kernel
theorem dX6_ofCell_33 : decode cX6_ofCell 33 = .ok (.if_icmp .ne 10, 3) := by decide +kernel
theorem dX6_ofCell_36 : decode cX6_ofCell 36 = .ok (.aload_n 3, 1) := by decide +kernel
theorem dX6_ofCell_37 : decode cX6_ofCell 37 = .ok (.invokevirtual 71, 3) := by decide +kernel
theorem dX6_ofCell_40 : decode cX6_ofCell 40 = .ok (.goto 11, 3) := by decide +kernel
theorem dX6_ofCell_43 : decode cX6_ofCell 43 = .ok (.aload_n 3, 1) := by decide +kernel
theorem dX6_ofCell_44 : decode cX6_ofCell 44 = .ok (.getfield 68, 3) := by decide +kernel
theorem dX6_ofCell_47 : decode cX6_ofCell 47 = .ok (.iload_n 2, 1) := by decide +kernel
theorem dX6_ofCell_48 : decode cX6_ofCell 48 = .ok (.iconst 1, 1) := by decide +kernel
