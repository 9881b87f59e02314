theorem dL_permit_14 : decode cL_permit 14 = .ok (.ireturn, 1) := by decide +kernel
theorem dL_permit_15 : decode cL_permit 15 = .ok (.iconst 0, 1) := by decide +kernel
theorem dL_permit_16 : decode cL_permit 16 = .ok (.ireturn, 1) := by decide +kernel
set_option maxRecDepth 20000 in
theorem ggL_tank_X6_tank : GoodIn wsL_tank wsX6_tank := goodIn_ca (goodIn_ca (goodIn_r _ [7, 8, 9, 10, 11, 12, 13, 14, 6, 15, 16, 17, 18, 19, 20, 21, 22, 23, 24, 25, 26, 27, 28, 29, 30, 31, 32, 33, 34, 35, 36, 37, 38, 39, 40] (by decide +kernel) (by decide +kernel)) (goodIn_sub (fun _ h => List.mem_cons_of_mem _ (List.mem_append_left _ (List.mem_append_right _ h))) (by decide +kernel))) (goodIn_sub (fun _ h => List.mem_cons_of_mem _ (List.mem_append_right _ h)) (by decide +kernel))
set_option maxRecDepth 20000 in
theorem gL_tank_X6_tank : GoodIn wsL_tank (wsV RL 47 RX6 yX6_tank wsX6_tank) := goodIn_app (goodIn_of _ (by decide +kernel)) ggL_tank_X6_tank
theorem dL_tank_0 : decode cL_tank 0 = .ok (.aload_n 2, 1) := by decide +kernel
theorem dL_tank_1 : decode cL_tank 1 = .ok (.iconst 0, 1) := by decide +kernel
theorem dL_tank_2 : decode cL_tank 2 = .ok (.aload_n 0, 1) := by decide +kernel
theorem dL_tank_3 : decode cL_tank 3 = .ok (.iload_n 1, 1) := by decide +kernel
theorem dL_tank_4 : decode cL_tank 4 = .ok (.invokevirtual 47, 3) := by decide +kernel
theorem dL_tank_7 : decode cL_tank 7 = .ok (.i2l, 1) := by decide +kernel
theorem dL_tank_8 : decode cL_tank 8 = .ok (.lastore, 1) := by decide +kernel
theorem dL_tank_9 : decode cL_tank 9 = .ok (.goto 9, 3) := by decide +kernel
theorem dL_tank_12 : decode cL_tank 12 = .ok (.astore_n 3, 1) := by decide +kernel
theorem dL_tank_13 : decode cL_tank 13 = .ok (.iconst 1, 1) := by decide +kernel
theorem dL_tank_14 : decode cL_tank 14 = .ok (.ireturn, 1) := by decide +kernel
theorem dL_tank_15 : decode cL_tank 15 = .ok (.astore_n 3, 1) := by decide +kernel
theorem dL_tank_16 : decode cL_tank 16 = .ok (.iconst 2, 1) := by decide +kernel
theorem dL_tank_17 : decode cL_tank 17 = .ok (.ireturn, 1) := by decide +kernel
theorem dL_tank_18 : decode cL_tank 18 = .ok (.iconst 0, 1) := by decide +kernel
theorem dL_tank_19 : decode cL_tank 19 = .ok (.ireturn, 1) := by decide +kernel
set_option maxRecDepth 20000 in
theorem ggL_shares_X6_shares : GoodIn wsL_shares wsX6_shares := goodIn_ca (goodIn_r _ [6, 7, 8, 9, 10, 5, 11, 12, 13, 14, 15, 16, 17, 18, 19, 20, 21, 22, 23, 24, 25, 26, 27, 28] (by decide +kernel) (by decide +kernel)) (goodIn_sub (fun _ h => List.mem_cons_of_mem _ (List.mem_append_right _ h)) (by decide +kernel))
set_option maxRecDepth 20000 in
theorem gL_shares_X6_shares : GoodIn wsL_shares (wsV RL 50 RX6 yX6_shares wsX6_shares) := goodIn_app (goodIn_of _ (by decide +kernel)) ggL_shares_X6_shares
theorem dL_shares_0 : decode cL_shares 0 = .ok (.aload_n 3, 1) := by decide +kernel
theorem dL_shares_1 : decode cL_shares 1 = .ok (.iconst 0, 1) := by decide +kernel
theorem dL_shares_2 : decode cL_shares 2 = .ok (.aload_n 0, 1) := by decide +kernel
theorem dL_shares_3 : decode cL_shares 3 = .ok (.iload_n 1, 1) := by decide +kernel
theorem dL_shares_4 : decode cL_shares 4 = .ok (.iload_n 2, 1) := by decide +kernel
theorem dL_shares_5 : decode cL_shares 5 = .ok (.invokevirtual 50, 3) := by decide +kernel
theorem dL_shares_8 : decode cL_shares 8 = .ok (.i2l, 1) := by decide +kernel
theorem dL_shares_9 : decode cL_shares 9 = .ok (.lastore, 1) := by decide +kernel
theorem dL_shares_10 : decode cL_shares 10 = .ok (.goto 7, 3) := by decide +kernel
theorem dL_shares_13 : decode cL_shares 13 = .ok (.astore 4, 2) := by decide +kernel
theorem dL_shares_15 : decode cL_shares 15 = .ok (.iconst 1, 1) := by decide +kernel
theorem dL_shares_16 : decode cL_shares 16 = .ok (.ireturn, 1) := by decide +kernel
theorem dL_shares_17 : decode cL_shares 17 = .ok (.iconst 0, 1) := by decide +kernel
theorem dL_shares_18 : decode cL_shares 18 = .ok (.ireturn, 1) := by decide +kernel
set_option maxRecDepth 20000 in
theorem ggL_price_X6_price : GoodIn wsL_price wsX6_price := goodIn_ca (goodIn_r _ [6, 7, 8, 9, 5, 10, 11, 12, 13, 14, 15, 16, 17, 18, 19, 20, 21, 22, 23] (by decide +kernel) (by decide +kernel)) (goodIn_sub (fun _ h => List.mem_cons_of_mem _ (List.mem_append_right _ h)) (by decide +kernel))
set_option maxRecDepth 20000 in
theorem gL_price_X6_price : GoodIn wsL_price (wsV RL 53 RX6 yX6_price wsX6_price) := goodIn_app (goodIn_of _ (by decide +kernel)) ggL_price_X6_price
theorem dL_price_0 : decode cL_price 0 = .ok (.aload_n 2, 1) := by decide +kernel
theorem dL_price_1 : decode cL_price 1 = .ok (.iconst 0, 1) := by decide +kernel
theorem dL_price_2 : decode cL_price 2 = .ok (.aload_n 0, 1) := by decide +kernel
theorem dL_price_3 : decode cL_price 3 = .ok (.iload_n 1, 1) := by decide +kernel
theorem dL_price_4 : decode cL_price 4 = .ok (.invokevirtual 53, 3) := by decide +kernel
theorem dL_price_7 : decode cL_price 7 = .ok (.i2l, 1) := by decide +kernel
theorem dL_price_8 : decode cL_price 8 = .ok (.lastore, 1) := by decide +kernel
theorem dL_price_9 : decode cL_price 9 = .ok (.goto 6, 3) := by decide +kernel
theorem dL_price_12 : decode cL_price 12 = .ok (.astore_n 3, 1) := by decide +kernel
theorem dL_price_13 : decode cL_price 13 = .ok (.iconst 1, 1) := by decide +kernel
theorem dL_price_14 : decode cL_price 14 = .ok (.ireturn, 1) := by decide +kernel
theorem dL_price_15 : decode cL_price 15 = .ok (.iconst 0, 1) := by decide +kernel
theorem dL_price_16 : decode cL_price 16 = .ok (.ireturn, 1) := by decide +kernel
set_option maxRecDepth 20000 in
theorem ggL_pass_X6_pass : GoodIn wsL_pass wsX6_pass := goodIn_ca (goodIn_r _ [6, 7, 8, 9, 10, 11, 5, 12, 13, 14, 15, 16, 17, 18, 19, 20, 21, 22, 23, 24, 25, 26, 27, 28, 29, 30, 31, 32, 33, 34, 35, 36, 37, 38, 39, 40, 41, 42, 43, 44, 45, 46, 47, 48, 49, 50, 51, 52, 53, 54, 55, 56, 57, 58, 59, 60, 61, 62, 63, 64, 65, 66, 67, 68, 69, 70, 71, 72, 73, 74, 75, 76, 77, 78, 79, 80, 81, 82, 83, 84, 85, 86, 87, 88, 89, 90, 91, 92, 93, 94, 95, 96, 97, 98, 99, 100, 101, 102, 103, 104, 105, 106, 107, 108, 109, 110, 111, 112, 113, 114, 115, 116, 117, 118, 119, 120, 121, 122, 123, 124, 125, 126, 127, 128, 129, 130, 131, 132, 133, 134, 135, 136, 137, 138, 139, 140, 141, 142, 143, 144, 145, 146, 147, 148, 149, 150, 151, 152, 153, 154, 155, 156, 157, 158, 159, 160, 161, 162, 163, 164, 165, 166, 167, 168, 169, 170, 171, 172, 173, 174, 175, 176, 177, 178, 179, 180, 181, 182, 183, 184, 185, 186, 187, 188, 189, 190, 191, 192, 193, 194, 195, 196, 197, 198, 199, 200, 201, 202, 203] (by decide +kernel) (by decide +kernel)) (goodIn_sub (fun _ h => List.mem_cons_of_mem _ (List.mem_append_right _ h)) (by decide +kernel))
set_option maxRecDepth 20000 in
theorem gL_pass_X6_pass : GoodIn wsL_pass (wsV RL 56 RX6 yX6_pass wsX6_pass) := goodIn_app (goodIn_of _ (by decide +kernel)) ggL_pass_X6_pass
theorem dL_pass_0 : decode cL_pass 0 = .ok (.aload_n 2, 1) := by decide +kernel
theorem dL_pass_1 : decode cL_pass 1 = .ok (.iconst 0, 1) := by decide +kernel
theorem dL_pass_2 : decode cL_pass 2 = .ok (.aload_n 0, 1) := by decide +kernel
theorem dL_pass_3 : decode cL_pass 3 = .ok (.iload_n 1, 1) := by decide +kernel
theorem dL_pass_4 : decode cL_pass 4 = .ok (.invokevirtual 56, 3) := by decide +kernel
theorem dL_pass_7 : decode cL_pass 7 = .ok (.i2l, 1) := by decide +kernel
theorem dL_pass_8 : decode cL_pass 8 = .ok (.lastore, 1) := by decide +kernel
theorem dL_pass_9 : decode cL_pass 9 = .ok (.goto 6, 3) := by decide +kernel
theorem dL_pass_12 : decode cL_pass 12 = .ok (.astore_n 3, 1) := by decide +kernel
theorem dL_pass_13 : decode cL_pass 13 = .ok (.iconst 1, 1) := by decide +kernel
theorem dL_pass_14 : decode cL_pass 14 = .ok (.ireturn, 1) := by decide +kernel
theorem dL_pass_15 : decode cL_pass 15 = .ok (.iconst 0, 1) := by decide +kernel
theorem dL_pass_16 : decode cL_pass 16 = .ok (.ireturn, 1) := by decide +kernel
set_option maxRecDepth 20000 in
theorem ggL_lift_X6_lift : GoodIn wsL_lift wsX6_lift := goodIn_ca (goodIn_ca (goodIn_r _ [7, 8, 9, 10, 11, 12, 13, 14, 15, 16, 17, 18, 19, 6, 20, 21, 22, 23, 24, 25, 26, 27, 28, 29, 30, 31, 32, 33, 34, 35, 36, 37, 38, 39, 40, 41, 42, 43, 44, 45, 46, 47, 48, 49, 50, 51, 52, 53, 54, 55, 56, 57, 58, 59] (by decide +kernel) (by decide +kernel)) (goodIn_sub (fun _ h => List.mem_cons_of_mem _ (List.mem_append_left _ (List.mem_append_right _ h))) (by decide +kernel))) (goodIn_sub (fun _ h => List.mem_cons_of_mem _ (List.mem_append_right _ h)) (by decide +kernel))
set_option maxRecDepth 20000 in
theorem gL_lift_X6_lift : GoodIn wsL_lift (wsV RL 59 RX6 yX6_lift wsX6_lift) := goodIn_app (goodIn_of _ (by decide +kernel)) ggL_lift_X6_lift
theorem dL_lift_0 : decode cL_lift 0 = .ok (.aload_n 3, 1) := by decide +kernel
theorem dL_lift_1 : decode cL_lift 1 = .ok (.iconst 0, 1) := by decide +kernel
theorem dL_lift_2 : decode cL_lift 2 = .ok (.aload_n 0, 1) := by decide +kernel
theorem dL_lift_3 : decode cL_lift 3 = .ok (.iload_n 1, 1) := by decide +kernel
theorem dL_lift_4 : decode cL_lift 4 = .ok (.iload_n 2, 1) := by decide +kernel
theorem dL_lift_5 : decode cL_lift 5 = .ok (.invokevirtual 59, 3) := by decide +kernel
theorem dL_lift_8 : decode cL_lift 8 = .ok (.i2l, 1) := by decide +kernel
theorem dL_lift_9 : decode cL_lift 9 = .ok (.lastore, 1) := by decide +kernel
theorem dL_lift_10 : decode cL_lift 10 = .ok (.goto 11, 3) := by decide +kernel
theorem dL_lift_13 : decode cL_lift 13 = .ok (.astore 4, 2) := by decide +kernel
theorem dL_lift_15 : decode cL_lift 15 = .ok (.iconst 1, 1) := by decide +kernel
theorem dL_lift_16 : decode cL_lift 16 = .ok (.ireturn, 1) := by decide +kernel
theorem dL_lift_17 : decode cL_lift 17 = .ok (.astore 4, 2) := by decide +kernel
theorem dL_lift_19 : decode cL_lift 19 = .ok (.iconst 2, 1) := by decide +kernel
theorem dL_lift_20 : decode cL_lift 20 = .ok (.ireturn, 1) := by decide +kernel
theorem dL_lift_21 : decode cL_lift 21 = .ok (.iconst 0, 1) := by decide +kernel
theorem dL_lift_22 : decode cL_lift 22 = .ok (.ireturn, 1) := by decide +kernel
set_option maxRecDepth 20000 in
theorem ggL_ofCell_X6_ofCell : GoodIn wsL_ofCell wsX6_ofCell := goodIn_ca (goodIn_ca (goodIn_r _ [7, 8, 9, 10, 11, 12, 13, 6, 14, 15, 16, 17, 18, 19, 20, 21, 22, 23, 24, 25, 26, 27, 28, 29, 30, 31, 32, 33, 34, 35, 36, 37, 38, 39, 40, 41, 42, 43, 44, 45, 46, 47, 48, 49, 50, 51, 52, 53, 54, 55, 56, 57, 58, 59] (by decide +kernel) (by decide +kernel)) (goodIn_sub (fun _ h => List.mem_cons_of_mem _ (List.mem_append_left _ (List.mem_append_right _ h))) (by decide +kernel))) (goodIn_sub (fun _ h => List.mem_cons_of_mem _ (List.mem_append_right _ h)) (by decide +kernel))
set_option maxRecDepth 20000 in
theorem gL_ofCell_X6_ofCell : GoodIn wsL_ofCell (wsV RL 62 RX6 yX6_ofCell wsX6_ofCell) := goodIn_app (goodIn_of _ (by decide +kernel)) ggL_ofCell_X6_ofCell
theorem dL_ofCell_0 : decode cL_ofCell 0 = .ok (.aload_n 3, 1) := by decide +kernel
theorem dL_ofCell_1 : decode cL_ofCell 1 = .ok (.iconst 0, 1) := by decide +kernel
theorem dL_ofCell_2 : decode cL_ofCell 2 = .ok (.aload_n 0, 1) := by decide +kernel
theorem dL_ofCell_3 : decode cL_ofCell 3 = .ok (.iload_n 1, 1) := by decide +kernel
theorem dL_ofCell_4 : decode cL_ofCell 4 = .ok (.iload_n 2, 1) := by decide +kernel
theorem dL_ofCell_5 : decode cL_ofCell 5 = .ok (.invokevirtual 62, 3) := by decide +kernel
theorem dL_ofCell_8 : decode cL_ofCell 8 = .ok (.i2l, 1) := by decide +kernel
theorem dL_ofCell_9 : decode cL_ofCell 9 = .ok (.lastore, 1) := by decide +kernel
theorem dL_ofCell_10 : decode cL_ofCell 10 = .ok (.goto 11, 3) := by decide +kernel
theorem dL_ofCell_13 : decode cL_ofCell 13 = .ok (.astore 4, 2) := by decide +kernel
theorem dL_ofCell_15 : decode cL_ofCell 15 = .ok (.iconst 1, 1) := by decide +kernel
theorem dL_ofCell_16 : decode cL_ofCell 16 = .ok (.ireturn, 1) := by decide +kernel
theorem dL_ofCell_17 : decode cL_ofCell 17 = .ok (.astore 4, 2) := by decide +kernel
theorem dL_ofCell_19 : decode cL_ofCell 19 = .ok (.iconst 2, 1) := by decide +kernel
theorem dL_ofCell_20 : decode cL_ofCell 20 = .ok (.ireturn, 1) := by decide +kernel
theorem dL_ofCell_21 : decode cL_ofCell 21 = .ok (.iconst 0, 1) := by decide +kernel
theorem dL_ofCell_22 : decode cL_ofCell 22 = .ok (.ireturn, 1) := by decide +kernel
set_option maxRecDepth 20000 in
theorem ggL_ofWell_X6_ofWell : GoodIn wsL_ofWell wsX6_ofWell := goodIn_ca (goodIn_ca (goodIn_r _ [7, 8, 9, 10, 11, 12, 13, 14, 15, 16, 17, 18, 19, 20, 21, 22, 23, 6, 24, 25, 26, 27, 28, 29, 30, 31, 32, 33, 34, 35, 36, 37, 38, 39, 40, 41, 42, 43, 44, 45, 46, 47, 48, 49, 50, 51, 52, 53, 54, 55, 56, 57, 58, 59, 60, 61, 62, 63, 64] (by decide +kernel) (by decide +kernel)) (goodIn_sub (fun _ h => List.mem_cons_of_mem _ (List.mem_append_left _ (List.mem_append_right _ h))) (by decide +kernel))) (goodIn_sub (fun _ h => List.mem_cons_of_mem _ (List.mem_append_right _ h)) (by decide +kernel))
set_option maxRecDepth 20000 in
theorem gL_ofWell_X6_ofWell : GoodIn wsL_ofWell (wsV RL 65 RX6 yX6_ofWell wsX6_ofWell) := goodIn_app (goodIn_of _ (by decide +kernel)) ggL_ofWell_X6_ofWell
theorem dL_ofWell_0 : decode cL_ofWell 0 = .ok (.aload_n 3, 1) := by decide +kernel
theorem dL_ofWell_1 : decode cL_ofWell 1 = .ok (.iconst 0, 1) := by decide +kernel
theorem dL_ofWell_2 : decode cL_ofWell 2 = .ok (.aload_n 0, 1) := by decide +kernel
theorem dL_ofWell_3 : decode cL_ofWell 3 = .ok (.iload_n 1, 1) := by decide +kernel
theorem dL_ofWell_4 : decode cL_ofWell 4 = .ok (.iload_n 2, 1) := by decide +kernel
theorem dL_ofWell_5 : decode cL_ofWell 5 = .ok (.invokevirtual 65, 3) := by decide +kernel
theorem dL_ofWell_8 : decode cL_ofWell 8 = .ok (.i2l, 1) := by decide +kernel
theorem dL_ofWell_9 : decode cL_ofWell 9 = .ok (.lastore, 1) := by decide +kernel
theorem dL_ofWell_10 : decode cL_ofWell 10 = .ok (.goto 11, 3) := by decide +kernel
theorem dL_ofWell_13 : decode cL_ofWell 13 = .ok (.astore 4, 2) := by decide +kernel
theorem dL_ofWell_15 : decode cL_ofWell 15 = .ok (.iconst 1, 1) := by decide +kernel
theorem dL_ofWell_16 : decode cL_ofWell 16 = .ok (.ireturn, 1) := by decide +kernel
theorem dL_ofWell_17 : decode cL_ofWell 17 = .ok (.astore 4, 2) := by decide +kernel
theorem dL_ofWell_19 : decode cL_ofWell 19 = .ok (.iconst 2, 1) := by decide +kernel
theorem dL_ofWell_20 : decode cL_ofWell 20 = .ok (.ireturn, 1) := by decide +kernel
theorem dL_ofWell_21 : decode cL_ofWell 21 = .ok (.iconst 0, 1) := by decide +kernel
theorem dL_ofWell_22 : decode cL_ofWell 22 = .ok (.ireturn, 1) := by decide +kernel
set_option maxRecDepth 20000 in
theorem ggL_ofPartner_X6_ofPartner : GoodIn wsL_ofPartner wsX6_ofPartner := goodIn_ca (goodIn_ca (goodIn_r _ [7, 8, 9, 10, 11, 12, 13, 14, 6, 15, 16, 17, 18, 19, 20, 21, 22, 23, 24, 25, 26, 27, 28, 29, 30, 31, 32, 33, 34, 35, 36, 37] (by decide +kernel) (by decide +kernel)) (goodIn_sub (fun _ h => List.mem_cons_of_mem _ (List.mem_append_left _ (List.mem_append_right _ h))) (by decide +kernel))) (goodIn_sub (fun _ h => List.mem_cons_of_mem _ (List.mem_append_right _ h)) (by decide +kernel))
set_option maxRecDepth 20000 in
theorem gL_ofPartner_X6_ofPartner : GoodIn wsL_ofPartner (wsV RL 68 RX6 yX6_ofPartner wsX6_ofPartner) := goodIn_app (goodIn_of _ (by decide +kernel)) ggL_ofPartner_X6_ofPartner
theorem dL_ofPartner_0 : decode cL_ofPartner 0 = .ok (.aload_n 3, 1) := by decide +kernel
theorem dL_ofPartner_1 : decode cL_ofPartner 1 = .ok (.iconst 0, 1) := by decide +kernel
theorem dL_ofPartner_2 : decode cL_ofPartner 2 = .ok (.aload_n 0, 1) := by decide +kernel
theorem dL_ofPartner_3 : decode cL_ofPartner 3 = .ok (.iload_n 1, 1) := by decide +kernel
theorem dL_ofPartner_4 : decode cL_ofPartner 4 = .ok (.iload_n 2, 1) := by decide +kernel
theorem dL_ofPartner_5 : decode cL_ofPartner 5 = .ok (.invokevirtual 68, 3) := by decide +kernel
theorem dL_ofPartner_8 : decode cL_ofPartner 8 = .ok (.i2l, 1) := by decide +kernel
theorem dL_ofPartner_9 : decode cL_ofPartner 9 = .ok (.lastore, 1) := by decide +kernel
theorem dL_ofPartner_10 : decode cL_ofPartner 10 = .ok (.goto 11, 3) := by decide +kernel
theorem dL_ofPartner_13 : decode cL_ofPartner 13 = .ok (.astore 4, 2) := by decide +kernel
theorem dL_ofPartner_15 : decode cL_ofPartner 15 = .ok (.iconst 1, 1) := by decide +kernel
theorem dL_ofPartner_16 : decode cL_ofPartner 16 = .ok (.ireturn, 1) := by decide +kernel
theorem dL_ofPartner_17 : decode cL_ofPartner 17 = .ok (.astore 4, 2) := by decide +kernel
theorem dL_ofPartner_19 : decode cL_ofPartner 19 = .ok (.iconst 2, 1) := by decide +kernel
theorem dL_ofPartner_20 : decode cL_ofPartner 20 = .ok (.ireturn, 1) := by decide +kernel
theorem dL_ofPartner_21 : decode cL_ofPartner 21 = .ok (.iconst 0, 1) := by decide +kernel
theorem dL_ofPartner_22 : decode cL_ofPartner 22 = .ok (.ireturn, 1) := by decide +kernel
set_option maxRecDepth 20000 in
theorem ggL_booked_X6_booked : GoodIn wsL_booked wsX6_booked := goodIn_ca (goodIn_r _ [6, 7, 8, 9, 10, 11, 12, 13, 14, 5, 15, 16, 17, 18, 19, 20, 21, 22, 23, 24, 25, 26, 27, 28, 29, 30, 31, 32, 33, 34, 35, 36] (by decide +kernel) (by decide +kernel)) (goodIn_sub (fun _ h => List.mem_cons_of_mem _ (List.mem_append_right _ h)) (by decide +kernel))
set_option maxRecDepth 20000 in
theorem gL_booked_X6_booked : GoodIn wsL_booked (wsV RL 71 RX6 yX6_booked wsX6_booked) := goodIn_app (goodIn_of _ (by decide +kernel)) ggL_booked_X6_booked
theorem dL_booked_0 : decode cL_booked 0 = .ok (.aload_n 2, 1) := by decide +kernel
theorem dL_booked_1 : decode cL_booked 1 = .ok (.iconst 0, 1) := by decide +kernel
theorem dL_booked_2 : decode cL_booked 2 = .ok (.aload_n 0, 1) := by decide +kernel
theorem dL_booked_3 : decode cL_booked 3 = .ok (.iload_n 1, 1) := by decide +kernel
theorem dL_booked_4 : decode cL_booked 4 = .ok (.invokevirtual 71, 3) := by decide +kernel
theorem dL_booked_7 : decode cL_booked 7 = .ok (.i2l, 1) := by decide +kernel
theorem dL_booked_8 : decode cL_booked 8 = .ok (.lastore, 1) := by decide +kernel
theorem dL_booked_9 : decode cL_booked 9 = .ok (.goto 6, 3) := by decide +kernel
theorem dL_booked_12 : decode cL_booked 12 = .ok (.astore_n 3, 1) := by decide +kernel
theorem dL_booked_13 : decode cL_booked 13 = .ok (.iconst 1, 1) := by decide +kernel
theorem dL_booked_14 : decode cL_booked 14 = .ok (.ireturn, 1) := by decide +kernel
theorem dL_booked_15 : decode cL_booked 15 = .ok (.iconst 0, 1) := by decide +kernel
theorem dL_booked_16 : decode cL_booked 16 = .ok (.ireturn, 1) := by decide +kernel
set_option maxRecDepth 20000 in
theorem ggL_many_X6_many : GoodIn wsL_many wsX6_many := goodIn_ca (goodIn_r _ [6, 7, 8, 9, 10, 11, 12, 13, 14, 15, 16, 17, 18, 5, 19, 20, 21, 22, 23, 24, 25, 26, 27, 28, 29, 30, 31, 32, 33, 34, 35, 36, 37, 38, 39, 40, 41, 42, 43, 44, 45, 46, 47, 48, 49, 50, 51, 52, 53, 54, 55, 56, 57, 58, 59, 60, 61, 62, 63, 64, 65, 66, 67, 68, 69, 70, 71, 72, 73, 74] (by decide +kernel) (by decide +kernel)) (goodIn_sub (fun _ h => List.mem_cons_of_mem _ (List.mem_append_right _ h)) (by decide +kernel))
set_option maxRecDepth 20000 in
theorem gL_many_X6_many : GoodIn wsL_many (wsV RL 74 RX6 yX6_many wsX6_many) := goodIn_app (goodIn_of _ (by decide +kernel)) ggL_many_X6_many
theorem dL_many_0 : decode cL_many 0 = .ok (.aload_n 2, 1) := by decide +kernel
theorem dL_many_1 : decode cL_many 1 = .ok (.iconst 0, 1) := by decide +kernel
theorem dL_many_2 : decode cL_many 2 = .ok (.aload_n 0, 1) := by decide +kernel
theorem dL_many_3 : decode cL_many 3 = .ok (.iload_n 1, 1) := by decide +kernel
theorem dL_many_4 : decode cL_many 4 = .ok (.invokevirtual 74, 3) := by decide +kernel
theorem dL_many_7 : decode cL_many 7 = .ok (.i2l, 1) := by decide +kernel
theorem dL_many_8 : decode cL_many 8 = .ok (.lastore, 1) := by decide +kernel
theorem dL_many_9 : decode cL_many 9 = .ok (.goto 6, 3) := by decide +kernel
theorem dL_many_12 : decode cL_many 12 = .ok (.astore_n 3, 1) := by decide +kernel
theorem dL_many_13 : decode cL_many 13 = .ok (.iconst 1, 1) := by decide +kernel
theorem dL_many_14 : decode cL_many 14 = .ok (.ireturn, 1) := by decide +kernel
theorem dL_many_15 : decode cL_many 15 = .ok (.iconst 0, 1) := by decide +kernel
theorem dL_many_16 : decode cL_many 16 = .ok (.ireturn, 1) := by decide +kernel
set_option maxRecDepth 20000 in
theorem ggL_wouldGive_X6_wouldGive : GoodIn wsL_wouldGive wsX6_wouldGive := goodIn_ca (goodIn_r _ [6, 7, 8, 9, 10, 5, 11, 12, 13, 14, 15, 16, 17, 18, 19, 20, 21, 22, 23, 24, 25, 26, 27, 28, 29, 30, 31, 32, 33, 34, 35, 36, 37, 38, 39, 40, 41, 42, 43, 44, 45, 46, 47, 48, 49, 50, 51, 52, 53, 54, 55, 56, 57, 58, 59, 60, 61, 62, 63, 64, 65, 66, 67, 68, 69, 70, 71, 72, 73, 74, 75, 76, 77, 78, 79, 80, 81, 82, 83, 84, 85, 86, 87, 88, 89, 90, 91, 92, 93, 94, 95, 96, 97, 98, 99, 100, 101, 102, 103, 104, 105, 106, 107, 108, 109, 110, 111, 112, 113, 114, 115, 116, 117, 118, 119, 120, 121, 122, 123, 124, 125, 126, 127, 128, 129, 130, 131, 132, 133, 134, 135, 136, 137, 138, 139, 140, 141, 142, 143, 144, 145, 146, 147, 148, 149, 150, 151, 152, 153, 154, 155, 156, 157, 158, 159, 160, 161, 162, 163, 164, 165, 166, 167, 168, 169, 170] (by decide +kernel) (by decide +kernel)) (goodIn_sub (fun _ h => List.mem_cons_of_mem _ (List.mem_append_right _ h)) (by decide +kernel))
set_option maxRecDepth 20000 in
theorem gL_wouldGive_X6_wouldGive : GoodIn wsL_wouldGive (wsV RL 77 RX6 yX6_wouldGive wsX6_wouldGive) := goodIn_app (goodIn_of _ (by decide +kernel)) ggL_wouldGive_X6_wouldGive
theorem dL_wouldGive_0 : decode cL_wouldGive 0 = .ok (.aload_n 2, 1) := by decide +kernel
theorem dL_wouldGive_1 : decode cL_wouldGive 1 = .ok (.iconst 0, 1) := by decide +kernel
theorem dL_wouldGive_2 : decode cL_wouldGive 2 = .ok (.aload_n 0, 1) := by decide +kernel
theorem dL_wouldGive_3 : decode cL_wouldGive 3 = .ok (.iload_n 1, 1) := by decide +kernel
theorem dL_wouldGive_4 : decode cL_wouldGive 4 = .ok (.invokevirtual 77, 3) := by decide +kernel
theorem dL_wouldGive_7 : decode cL_wouldGive 7 = .ok (.i2l, 1) := by decide +kernel
theorem dL_wouldGive_8 : decode cL_wouldGive 8 = .ok (.lastore, 1) := by decide +kernel
theorem dL_wouldGive_9 : decode cL_wouldGive 9 = .ok (.goto 6, 3) := by decide +kernel
theorem dL_wouldGive_12 : decode cL_wouldGive 12 = .ok (.astore_n 3, 1) := by decide +kernel
theorem dL_wouldGive_13 : decode cL_wouldGive 13 = .ok (.iconst 1, 1) := by decide +kernel
theorem dL_wouldGive_14 : decode cL_wouldGive 14 = .ok (.ireturn, 1) := by decide +kernel
theorem dL_wouldGive_15 : decode cL_wouldGive 15 = .ok (.iconst 0, 1) := by decide +kernel
theorem dL_wouldGive_16 : decode cL_wouldGive 16 = .ok (.ireturn, 1) := by decide +kernel
set_option maxRecDepth 20000 in
theorem ggL_bestChoke_X6_bestChoke : GoodIn wsL_bestChoke wsX6_bestChoke := goodIn_ca (goodIn_ca (goodIn_ca (goodIn_r _ [8, 9, 10, 11, 12, 13, 14, 15, 7, 16, 17, 18, 19, 20, 21, 22, 23, 24, 25, 26, 27, 28, 29, 30, 31, 32, 33, 34, 35, 36, 37, 38, 39, 40, 41, 42, 43, 44, 45, 46, 47, 48, 49, 50, 51, 52, 53, 54, 55, 56, 57, 58, 59, 60, 61, 62, 63, 64, 65, 66, 67, 68, 69, 70, 71, 72, 73, 74, 75, 76, 77, 78, 79, 80, 81, 82, 83, 84, 85, 86, 87, 88, 89, 90, 91, 92, 93, 94, 95, 96, 97, 98, 99, 100, 101, 102, 103, 104, 105, 106, 107, 108, 109, 110, 111, 112, 113, 114, 115, 116, 117, 118, 119, 120, 121, 122, 123, 124, 125, 126, 127, 128, 129, 130, 131, 132, 133, 134, 135, 136, 137, 138, 139, 140, 141, 142, 143, 144, 145, 146, 147, 148, 149, 150, 151, 152, 153, 154, 155, 156, 157, 158, 159, 160, 161, 162, 163, 164, 165, 166, 167, 168, 169, 170, 171, 172, 173, 174, 175, 176, 177, 178, 179, 180, 181, 182, 183, 184, 185, 186, 187, 188, 189, 190, 191, 192, 193] (by decide +kernel) (by decide +kernel)) (goodIn_sub (fun _ h => List.mem_cons_of_mem _ (List.mem_append_left _ (List.mem_append_left _ (List.mem_append_right _ h)))) (by decide +kernel))) (goodIn_sub (fun _ h => List.mem_cons_of_mem _ (List.mem_append_left _ (List.mem_append_right _ h))) (by decide +kernel))) (goodIn_sub (fun _ h => List.mem_cons_of_mem _ (List.mem_append_right _ h)) (by decide +kernel))
set_option maxRecDepth 20000 in
theorem gL_bestChoke_X6_bestChoke : GoodIn wsL_bestChoke (wsV RL 80 RX6 yX6_bestChoke wsX6_bestChoke) := goodIn_app (goodIn_of _ (by decide +kernel)) ggL_bestChoke_X6_bestChoke
theorem dL_bestChoke_0 : decode cL_bestChoke 0 = .ok (.aload_n 3, 1) := by decide +kernel
theorem dL_bestChoke_1 : decode cL_bestChoke 1 = .ok (.iconst 0, 1) := by decide +kernel
theorem dL_bestChoke_2 : decode cL_bestChoke 2 = .ok (.aload_n 0, 1) := by decide +kernel
theorem dL_bestChoke_3 : decode cL_bestChoke 3 = .ok (.iload_n 1, 1) := by decide +kernel
theorem dL_bestChoke_4 : decode cL_bestChoke 4 = .ok (.iload_n 2, 1) := by decide +kernel
theorem dL_bestChoke_5 : decode cL_bestChoke 5 = .ok (.invokevirtual 80, 3) := by decide +kernel
theorem dL_bestChoke_8 : decode cL_bestChoke 8 = .ok (.i2l, 1) := by decide +kernel
theorem dL_bestChoke_9 : decode cL_bestChoke 9 = .ok (.lastore, 1) := by decide +kernel
theorem dL_bestChoke_10 : decode cL_bestChoke 10 = .ok (.goto 15, 3) := by decide +kernel
theorem dL_bestChoke_13 : decode cL_bestChoke 13 = .ok (.astore 4, 2) := by decide +kernel
theorem dL_bestChoke_15 : decode cL_bestChoke 15 = .ok (.iconst 1, 1) := by decide +kernel
theorem dL_bestChoke_16 : decode cL_bestChoke 16 = .ok (.ireturn, 1) := by decide +kernel
theorem dL_bestChoke_17 : decode cL_bestChoke 17 = .ok (.astore 4, 2) := by decide +kernel
theorem dL_bestChoke_19 : decode cL_bestChoke 19 = .ok (.iconst 2, 1) := by decide +kernel
theorem dL_bestChoke_20 : decode cL_bestChoke 20 = .ok (.ireturn, 1) := by decide +kernel
theorem dL_bestChoke_21 : decode cL_bestChoke 21 = .ok (.astore 4, 2) := by decide +kernel
theorem dL_bestChoke_23 : decode cL_bestChoke 23 = .ok (.iconst 3, 1) := by decide +kernel
theorem dL_bestChoke_24 : decode cL_bestChoke 24 = .ok (.ireturn, 1) := by decide +kernel
theorem dL_bestChoke_25 : decode cL_bestChoke 25 = .ok (.iconst 0, 1) := by decide +kernel
theorem dL_bestChoke_26 : decode cL_bestChoke 26 = .ok (.ireturn, 1) := by decide +kernel
set_option maxRecDepth 20000 in
theorem ggL_keptBack_X6_keptBack : GoodIn wsL_keptBack wsX6_keptBack := goodIn_ca (goodIn_ca (goodIn_r _ [7, 8, 9, 10, 11, 12, 6, 13, 14, 15, 16, 17, 18, 19, 20, 21, 22, 23, 24, 25, 26, 27, 28, 29, 30, 31, 32, 33, 34, 35, 36, 37, 38, 39, 40, 41, 42, 43, 44, 45, 46, 47, 48, 49, 50, 51, 52, 53, 54, 55, 56, 57, 58, 59, 60, 61, 62, 63, 64, 65, 66, 67, 68, 69, 70, 71, 72, 73, 74, 75, 76, 77, 78, 79, 80, 81, 82, 83, 84, 85, 86, 87, 88, 89, 90, 91, 92, 93, 94, 95, 96, 97, 98, 99, 100, 101, 102, 103, 104, 105, 106, 107, 108, 109, 110, 111, 112, 113, 114, 115, 116, 117, 118, 119, 120, 121, 122, 123, 124, 125, 126, 127, 128, 129, 130, 131, 132, 133, 134, 135, 136, 137, 138, 139, 140, 141, 142, 143, 144, 145, 146, 147, 148, 149, 150, 151, 152, 153, 154, 155, 156, 157, 158, 159, 160, 161, 162, 163, 164, 165, 166, 167, 168, 169, 170, 171, 172, 173, 174, 175, 176, 177, 178, 179, 180, 181, 182, 183, 184, 185, 186] (by decide +kernel) (by decide +kernel)) (goodIn_sub (fun _ h => List.mem_cons_of_mem _ (List.mem_append_left _ (List.mem_append_right _ h))) (by decide +kernel))) (goodIn_sub (fun _ h => List.mem_cons_of_mem _ (List.mem_append_right _ h)) (by decide +kernel))
set_option maxRecDepth 20000 in
theorem gL_keptBack_X6_keptBack : GoodIn wsL_keptBack (wsV RL 83 RX6 yX6_keptBack wsX6_keptBack) := goodIn_app (goodIn_of _ (by decide +kernel)) ggL_keptBack_X6_keptBack
theorem dL_keptBack_0 : decode cL_keptBack 0 = .ok (.aload 4, 2) := by decide +kernel
theorem dL_keptBack_2 : decode cL_keptBack 2 = .ok (.iconst 0, 1) := by decide +kernel
theorem dL_keptBack_3 : decode cL_keptBack 3 = .ok (.aload_n 0, 1) := by decide +kernel
theorem dL_keptBack_4 : decode cL_keptBack 4 = .ok (.iload_n 1, 1) := by decide +kernel
theorem dL_keptBack_5 : decode cL_keptBack 5 = .ok (.iload_n 2, 1) := by decide +kernel
theorem dL_keptBack_6 : decode cL_keptBack 6 = .ok (.iload_n 3, 1) := by decide +kernel
theorem dL_keptBack_7 : decode cL_keptBack 7 = .ok (.invokevirtual 83, 3) := by decide +kernel
theorem dL_keptBack_10 : decode cL_keptBack 10 = .ok (.i2l, 1) := by decide +kernel
theorem dL_keptBack_11 : decode cL_keptBack 11 = .ok (.lastore, 1) := by decide +kernel
theorem dL_keptBack_12 : decode cL_keptBack 12 = .ok (.goto 11, 3) := by decide +kernel
theorem dL_keptBack_15 : decode cL_keptBack 15 = .ok (.astore 5, 2) := by decide +kernel
theorem dL_keptBack_17 : decode cL_keptBack 17 = .ok (.iconst 1, 1) := by decide +kernel
theorem dL_keptBack_18 : decode cL_keptBack 18 = .ok (.ireturn, 1) := by decide +kernel
theorem dL_keptBack_19 : decode cL_keptBack 19 = .ok (.astore 5, 2) := by decide +kernel
theorem dL_keptBack_21 : decode cL_keptBack 21 = .ok (.iconst 2, 1) := by decide +kernel
theorem dL_keptBack_22 : decode cL_keptBack 22 = .ok (.ireturn, 1) := by decide +kernel
theorem dL_keptBack_23 : decode cL_keptBack 23 = .ok (.iconst 0, 1) := by decide +kernel
theorem dL_keptBack_24 : decode cL_keptBack 24 = .ok (.ireturn, 1) := by decide +kernel
set_option maxRecDepth 20000 in
theorem ggL_mayLift_X6_mayLift : GoodIn wsL_mayLift wsX6_mayLift := goodIn_ca (goodIn_r _ [6, 7, 8, 9, 10, 11, 12, 13, 14, 15, 16, 17, 5, 18, 19, 20, 21, 22, 23, 24, 25, 26, 27, 28, 29, 30, 31, 32, 33, 34, 35, 36, 37, 38, 39, 40, 41, 42, 43, 44, 45, 46, 47] (by decide +kernel) (by decide +kernel)) (goodIn_sub (fun _ h => List.mem_cons_of_mem _ (List.mem_append_right _ h)) (by decide +kernel))
set_option maxRecDepth 20000 in
theorem gL_mayLift_X6_mayLift : GoodIn wsL_mayLift (wsV RL 87 RX6 yX6_mayLift wsX6_mayLift) := goodIn_app (goodIn_of _ (by decide +kernel)) ggL_mayLift_X6_mayLift
theorem dL_mayLift_0 : decode cL_mayLift 0 = .ok (.aload_n 2, 1) := by decide +kernel
theorem dL_mayLift_1 : decode cL_mayLift 1 = .ok (.iconst 0, 1) := by decide +kernel
theorem dL_mayLift_2 : decode cL_mayLift 2 = .ok (.aload_n 0, 1) := by decide +kernel
theorem dL_mayLift_3 : decode cL_mayLift 3 = .ok (.iload_n 1, 1) := by decide +kernel
theorem dL_mayLift_4 : decode cL_mayLift 4 = .ok (.invokevirtual 87, 3) := by decide +kernel
theorem dL_mayLift_7 : decode cL_mayLift 7 = .ok (.i2l, 1) := by decide +kernel
theorem dL_mayLift_8 : decode cL_mayLift 8 = .ok (.lastore, 1) := by decide +kernel
theorem dL_mayLift_9 : decode cL_mayLift 9 = .ok (.goto 6, 3) := by decide +kernel
theorem dL_mayLift_12 : decode cL_mayLift 12 = .ok (.astore_n 3, 1) := by decide +kernel
theorem dL_mayLift_13 : decode cL_mayLift 13 = .ok (.iconst 1, 1) := by decide +kernel
theorem dL_mayLift_14 : decode cL_mayLift 14 = .ok (.ireturn, 1) := by decide +kernel
theorem dL_mayLift_15 : decode cL_mayLift 15 = .ok (.iconst 0, 1) := by decide +kernel
theorem dL_mayLift_16 : decode cL_mayLift 16 = .ok (.ireturn, 1) := by decide +kernel
set_option maxRecDepth 20000 in
theorem ggL_law_X6_init : GoodIn wsL_law wsX6_init := goodIn_r _ [9, 10, 11, 12, 13, 14, 15, 16, 17, 18, 19, 20, 21, 22, 23, 24, 25, 26, 27, 28, 29, 30, 31, 32, 33, 34, 35, 36, 37, 38, 39, 40, 41, 42, 43, 44, 45, 46, 47, 48, 49, 50, 51, 52, 53, 54, 55, 56, 57, 58, 59, 60, 61, 62, 63, 64, 65, 66, 67, 68, 69, 70, 768, 769, 770, 771, 772, 773, 774, 775, 776, 777, 778, 779, 749, 750, 751, 752, 753, 754, 755, 756, 757, 758, 759, 780, 781, 782, 783, 784, 785, 786, 787, 788, 789, 790, 791, 792, 793, 794, 795, 796, 797, 798, 799, 800, 801, 802, 803, 804, 805] (by decide +kernel) (by decide +kernel)
set_option maxRecDepth 20000 in
theorem gL_law_X6_init : GoodIn wsL_law (wsX6_init) := ggL_law_X6_init
set_option maxRecDepth 20000 in
theorem ggL_law_X8_init : GoodIn wsL_law wsX8_init := goodIn_r _ [73, 74, 11, 12, 75, 76, 77, 78, 79, 26, 80, 81, 82, 83, 84, 85, 86, 87, 88, 89, 90, 91, 92, 93, 94, 95, 96, 97, 98, 99, 806, 807, 808, 809, 810, 811, 812, 813, 814, 815, 816, 817, 818, 819, 760, 761, 762, 763, 764, 765, 766, 767] (by decide +kernel) (by decide +kernel)
set_option maxRecDepth 20000 in
theorem gL_law_X8_init : GoodIn wsL_law (wsX8_init) := ggL_law_X8_init
set_option maxRecDepth 20000 in
theorem ggL_law_L_cell : GoodIn wsL_law wsL_cell := goodIn_ca (goodIn_ca (goodIn_r _ [103, 104, 105, 106, 107, 108, 2, 109, 16, 110, 111, 112, 113, 114, 115, 116, 117, 118, 119, 120, 121, 122, 123, 124, 125, 47, 126, 53, 127, 128, 129, 130, 54, 749, 750, 751, 752, 753, 754, 755, 756, 757, 758, 759, 768, 769, 770, 771, 772, 773, 774, 775, 776, 777, 778, 779, 797, 798, 799, 800] (by decide +kernel) (by decide +kernel)) (goodIn_sub (fun _ h => List.mem_append_left _ (List.mem_append_left _ (List.mem_append_right _ h))) (by decide +kernel))) (goodIn_sub (fun _ h => List.mem_append_left _ (List.mem_append_right _ h)) (by decide +kernel))
set_option maxRecDepth 20000 in
theorem gL_law_L_cell : GoodIn wsL_law (va_wsS RL 94 yL_cell wsL_cell) := goodIn_app (goodIn_of _ (by decide +kernel)) ggL_law_L_cell
set_option maxRecDepth 20000 in
theorem ggL_law_X8_cell : GoodIn wsL_law wsX8_cell := goodIn_r _ [134, 135, 78, 136, 137, 138, 139, 5, 140, 141, 142, 143, 144, 145, 146, 147, 148, 149, 150, 77, 151, 87, 152, 153, 154, 155, 88, 760, 761, 762, 763, 764, 765, 766, 767, 806, 807, 808, 809, 810, 811, 812, 813, 814, 815, 816, 817, 818, 819] (by decide +kernel) (by decide +kernel)
set_option maxRecDepth 20000 in
theorem gL_law_X8_cell : GoodIn wsL_law (wsV RL 99 RX8 yX8_cell wsX8_cell) := goodIn_app (goodIn_of _ (by decide +kernel)) ggL_law_X8_cell
set_option maxRecDepth 20000 in
theorem ggL_law_X8_thrown : GoodIn wsL_law wsX8_thrown := goodIn_r _ [159, 135, 760, 761, 762, 763, 764, 765, 766, 767] (by decide +kernel) (by decide +kernel)
set_option maxRecDepth 20000 in
theorem gL_law_X8_thrown : GoodIn wsL_law (wsV RL 100 RX8 yX8_thrown wsX8_thrown) := goodIn_app (goodIn_of _ (by decide +kernel)) ggL_law_X8_thrown
set_option maxRecDepth 20000 in
theorem ggL_law_L_fault : GoodIn wsL_law wsL_fault := goodIn_ca (goodIn_r _ [162, 104, 163, 164, 165, 2, 166, 16, 110, 167, 168, 169, 116, 117, 113, 114, 115, 170, 171, 172, 173, 174, 175, 47, 176, 177, 178, 179, 180, 181, 182, 749, 750, 751, 752, 753, 754, 755, 756, 757, 758, 759, 768, 769, 770, 771, 772, 773, 774, 775, 776, 777, 778, 779, 797, 798, 799, 800] (by decide +kernel) (by decide +kernel)) (goodIn_sub (fun _ h => List.mem_append_left _ (List.mem_append_left _ (List.mem_append_right _ h))) (by decide +kernel))
set_option maxRecDepth 20000 in
theorem gL_law_L_fault : GoodIn wsL_law (va_wsS RL 104 yL_fault wsL_fault) := goodIn_app (goodIn_of _ (by decide +kernel)) ggL_law_L_fault
set_option maxRecDepth 20000 in
theorem ggL_law_X8_fault : GoodIn wsL_law wsX8_fault := goodIn_r _ [186, 135, 78, 187, 188, 189, 190, 5, 191, 138, 139, 140, 141, 142, 143, 144, 145, 146, 147, 760, 761, 762, 763, 764, 765, 766, 767, 806, 807, 808, 809, 810, 811, 812, 813, 814, 815, 816, 817, 818, 819] (by decide +kernel) (by decide +kernel)
set_option maxRecDepth 20000 in
theorem gL_law_X8_fault : GoodIn wsL_law (wsV RL 107 RX8 yX8_fault wsX8_fault) := goodIn_app (goodIn_of _ (by decide +kernel)) ggL_law_X8_fault
set_option maxRecDepth 20000 in
theorem ggL_law_L_well : GoodIn wsL_law wsL_well := goodIn_ca (goodIn_ca (goodIn_ca (goodIn_r _ [194, 104, 105, 195, 196, 197, 198, 2, 199, 200, 201, 16, 202, 203, 204, 205, 113, 114, 115, 116, 117, 118, 119, 120, 121, 122, 749, 750, 751, 752, 753, 754, 755, 756, 757, 758, 759, 768, 769, 770, 771, 772, 773, 774, 775, 776, 777, 778, 779, 801, 802, 803, 804, 805] (by decide +kernel) (by decide +kernel)) (goodIn_sub (fun _ h => List.mem_append_right _ h) (by decide +kernel))) (goodIn_sub (fun _ h => List.mem_append_left _ (List.mem_append_left _ (List.mem_append_right _ h))) (by decide +kernel))) (goodIn_sub (fun _ h => List.mem_append_left _ (List.mem_append_right _ h)) (by decide +kernel))
set_option maxRecDepth 20000 in
theorem gL_law_L_well : GoodIn wsL_law (va_wsS RL 108 yL_well wsL_well) := goodIn_app (goodIn_of _ (by decide +kernel)) ggL_law_L_well
set_option maxRecDepth 20000 in
theorem ggL_law_X8_well : GoodIn wsL_law wsX8_well := goodIn_r _ [209, 135, 78, 210, 211, 138, 139, 5, 140, 141, 142, 143, 144, 145, 146, 147, 760, 761, 762, 763, 764, 765, 766, 767, 806, 807, 808, 809, 810, 811, 812, 813, 814, 815, 816, 817, 818, 819] (by decide +kernel) (by decide +kernel)
set_option maxRecDepth 20000 in
theorem gL_law_X8_well : GoodIn wsL_law (wsV RL 111 RX8 yX8_well wsX8_well) := goodIn_app (goodIn_of _ (by decide +kernel)) ggL_law_X8_well
set_option maxRecDepth 20000 in
theorem ggL_law_L_choke : GoodIn wsL_law wsL_choke := goodIn_ca (goodIn_ca (goodIn_ca (goodIn_r _ [214, 104, 105, 195, 215, 216, 217, 2, 218, 16, 202, 203, 219, 113, 114, 115, 116, 117, 118, 119, 120, 121, 122, 220, 221, 222, 223, 200, 201, 19, 224, 749, 750, 751, 752, 753, 754, 755, 756, 757, 758, 759, 768, 769, 770, 771, 772, 773, 774, 775, 776, 777, 778, 779, 801, 802, 803, 804, 805, 788, 789, 790, 791, 792] (by decide +kernel) (by decide +kernel)) (goodIn_sub (fun _ h => List.mem_append_left _ (List.mem_append_left _ (List.mem_append_right _ h))) (by decide +kernel))) (goodIn_sub (fun _ h => List.mem_append_left _ (List.mem_append_right _ h)) (by decide +kernel))) (goodIn_sub (fun _ h => List.mem_append_right _ h) (by decide +kernel))
set_option maxRecDepth 20000 in
theorem gL_law_L_choke : GoodIn wsL_law (va_wsS RL 112 yL_choke wsL_choke) := goodIn_app (goodIn_of _ (by decide +kernel)) ggL_law_L_choke
set_option maxRecDepth 20000 in
theorem ggL_law_X8_choke : GoodIn wsL_law wsX8_choke := goodIn_r _ [228, 135, 78, 211, 229, 230, 231, 5, 232, 210, 141, 142, 143, 144, 145, 146, 147, 760, 761, 762, 763, 764, 765, 766, 767, 806, 807, 808, 809, 810, 811, 812, 813, 814, 815, 816, 817, 818, 819] (by decide +kernel) (by decide +kernel)
set_option maxRecDepth 20000 in
theorem gL_law_X8_choke : GoodIn wsL_law (wsV RL 114 RX8 yX8_choke wsX8_choke) := goodIn_app (goodIn_of _ (by decide +kernel)) ggL_law_X8_choke
set_option maxRecDepth 20000 in
theorem ggL_law_L_rank : GoodIn wsL_law wsL_rank := goodIn_ca (goodIn_ca (goodIn_r _ [235, 104, 105, 236, 237, 238, 2, 239, 16, 202, 203, 240, 113, 114, 115, 116, 117, 118, 119, 120, 121, 122, 749, 750, 751, 752, 753, 754, 755, 756, 757, 758, 759, 768, 769, 770, 771, 772, 773, 774, 775, 776, 777, 778, 779, 801, 802, 803, 804, 805] (by decide +kernel) (by decide +kernel)) (goodIn_sub (fun _ h => List.mem_append_left _ (List.mem_append_left _ (List.mem_append_right _ h))) (by decide +kernel))) (goodIn_sub (fun _ h => List.mem_append_left _ (List.mem_append_right _ h)) (by decide +kernel))
set_option maxRecDepth 20000 in
theorem gL_law_L_rank : GoodIn wsL_law (va_wsS RL 115 yL_rank wsL_rank) := goodIn_app (goodIn_of _ (by decide +kernel)) ggL_law_L_rank
set_option maxRecDepth 20000 in
theorem ggL_law_X8_rank : GoodIn wsL_law wsX8_rank := goodIn_r _ [244, 135, 78, 211, 229, 230, 231, 5, 232, 210, 141, 142, 143, 144, 145, 146, 147, 760, 761, 762, 763, 764, 765, 766, 767, 806, 807, 808, 809, 810, 811, 812, 813, 814, 815, 816, 817, 818, 819] (by decide +kernel) (by decide +kernel)
set_option maxRecDepth 20000 in
theorem gL_law_X8_rank : GoodIn wsL_law (wsV RL 117 RX8 yX8_rank wsX8_rank) := goodIn_app (goodIn_of _ (by decide +kernel)) ggL_law_X8_rank
set_option maxRecDepth 20000 in
theorem ggL_law_L_test : GoodIn wsL_law wsL_test := goodIn_ca (goodIn_ca (goodIn_r _ [247, 104, 195, 248, 249, 250, 2, 251, 200, 201, 16, 202, 203, 204, 19, 252, 113, 114, 115, 116, 117, 220, 221, 222, 223, 224, 749, 750, 751, 752, 753, 754, 755, 756, 757, 758, 759, 768, 769, 770, 771, 772, 773, 774, 775, 776, 777, 778, 779, 801, 802, 803, 804, 805, 788, 789, 790, 791, 792] (by decide +kernel) (by decide +kernel)) (goodIn_sub (fun _ h => List.mem_append_right _ h) (by decide +kernel))) (goodIn_sub (fun _ h => List.mem_append_left _ (List.mem_append_left _ (List.mem_append_right _ h))) (by decide +kernel))
set_option maxRecDepth 20000 in
theorem gL_law_L_test : GoodIn wsL_law (va_wsS RL 118 yL_test wsL_test) := goodIn_app (goodIn_of _ (by decide +kernel)) ggL_law_L_test
set_option maxRecDepth 20000 in
theorem ggL_law_X8_test : GoodIn wsL_law wsX8_test := goodIn_r _ [256, 135, 78, 211, 229, 230, 231, 5, 232, 210, 141, 142, 143, 144, 145, 146, 147, 760, 761, 762, 763, 764, 765, 766, 767, 806, 807, 808, 809, 810, 811, 812, 813, 814, 815, 816, 817, 818, 819] (by decide +kernel) (by decide +kernel)
set_option maxRecDepth 20000 in
theorem gL_law_X8_test : GoodIn wsL_law (wsV RL 121 RX8 yX8_test wsX8_test) := goodIn_app (goodIn_of _ (by decide +kernel)) ggL_law_X8_test
set_option maxRecDepth 20000 in
theorem ggL_law_L_plug : GoodIn wsL_law wsL_plug := goodIn_ca (goodIn_ca (goodIn_r _ [259, 104, 195, 260, 261, 262, 2, 263, 16, 202, 203, 219, 19, 224, 113, 114, 115, 116, 117, 220, 221, 222, 223, 200, 201, 749, 750, 751, 752, 753, 754, 755, 756, 757, 758, 759, 768, 769, 770, 771, 772, 773, 774, 775, 776, 777, 778, 779, 801, 802, 803, 804, 805, 788, 789, 790, 791, 792] (by decide +kernel) (by decide +kernel)) (goodIn_sub (fun _ h => List.mem_append_left _ (List.mem_append_left _ (List.mem_append_right _ h))) (by decide +kernel))) (goodIn_sub (fun _ h => List.mem_append_right _ h) (by decide +kernel))
set_option maxRecDepth 20000 in
theorem gL_law_L_plug : GoodIn wsL_law (va_wsS RL 122 yL_plug wsL_plug) := goodIn_app (goodIn_of _ (by decide +kernel)) ggL_law_L_plug
set_option maxRecDepth 20000 in
theorem ggL_law_X8_plug : GoodIn wsL_law wsX8_plug := goodIn_r _ [267, 135, 78, 211, 229, 230, 231, 5, 232, 210, 141, 142, 143, 144, 145, 146, 147, 760, 761, 762, 763, 764, 765, 766, 767, 806, 807, 808, 809, 810, 811, 812, 813, 814, 815, 816, 817, 818, 819] (by decide +kernel) (by decide +kernel)
set_option maxRecDepth 20000 in
theorem gL_law_X8_plug : GoodIn wsL_law (wsV RL 124 RX8 yX8_plug wsX8_plug) := goodIn_app (goodIn_of _ (by decide +kernel)) ggL_law_X8_plug
set_option maxRecDepth 20000 in
theorem ggL_law_L_capacity : GoodIn wsL_law wsL_capacity := goodIn_ca (goodIn_ca (goodIn_r _ [270, 104, 105, 271, 272, 273, 2, 274, 16, 275, 113, 114, 115, 116, 117, 118, 119, 120, 121, 122, 749, 750, 751, 752, 753, 754, 755, 756, 757, 758, 759, 768, 769, 770, 771, 772, 773, 774, 775, 776, 777, 778, 779] (by decide +kernel) (by decide +kernel)) (goodIn_sub (fun _ h => List.mem_append_left _ (List.mem_append_left _ (List.mem_append_right _ h))) (by decide +kernel))) (goodIn_sub (fun _ h => List.mem_append_left _ (List.mem_append_right _ h)) (by decide +kernel))
set_option maxRecDepth 20000 in
theorem gL_law_L_capacity : GoodIn wsL_law (va_wsS RL 125 yL_capacity wsL_capacity) := goodIn_app (goodIn_of _ (by decide +kernel)) ggL_law_L_capacity
set_option maxRecDepth 20000 in
theorem ggL_law_X8_capacity : GoodIn wsL_law wsX8_capacity := goodIn_r _ [279, 135, 78, 280, 141, 142, 5, 143, 144, 145, 146, 147, 760, 761, 762, 763, 764, 765, 766, 767, 806, 807, 808, 809, 810, 811, 812, 813, 814, 815, 816, 817, 818, 819] (by decide +kernel) (by decide +kernel)
set_option maxRecDepth 20000 in
theorem gL_law_X8_capacity : GoodIn wsL_law (wsV RL 127 RX8 yX8_capacity wsX8_capacity) := goodIn_app (goodIn_of _ (by decide +kernel)) ggL_law_X8_capacity
set_option maxRecDepth 20000 in
theorem ggL_law_L_permit : GoodIn wsL_law wsL_permit := goodIn_ca (goodIn_r _ [283, 105, 284, 285, 286, 2, 287, 16, 288, 118, 119, 120, 121, 122, 749, 750, 751, 752, 753, 754, 755, 756, 757, 758, 759, 768, 769, 770, 771, 772, 773, 774, 775, 776, 777, 778, 779] (by decide +kernel) (by decide +kernel)) (goodIn_sub (fun _ h => List.mem_append_left _ (List.mem_append_right _ h)) (by decide +kernel))
set_option maxRecDepth 20000 in
theorem gL_law_L_permit : GoodIn wsL_law (va_wsS RL 128 yL_permit wsL_permit) := goodIn_app (goodIn_of _ (by decide +kernel)) ggL_law_L_permit
set_option maxRecDepth 20000 in
theorem ggL_law_X8_permit : GoodIn wsL_law wsX8_permit := goodIn_r _ [292, 135, 78, 293, 141, 142, 5, 143, 144, 145, 146, 147, 760, 761, 762, 763, 764, 765, 766, 767, 806, 807, 808, 809, 810, 811, 812, 813, 814, 815, 816, 817, 818, 819] (by decide +kernel) (by decide +kernel)
set_option maxRecDepth 20000 in
theorem gL_law_X8_permit : GoodIn wsL_law (wsV RL 130 RX8 yX8_permit wsX8_permit) := goodIn_app (goodIn_of _ (by decide +kernel)) ggL_law_X8_permit
set_option maxRecDepth 20000 in
theorem ggL_law_L_tank : GoodIn wsL_law wsL_tank := goodIn_ca (goodIn_ca (goodIn_r _ [296, 105, 195, 297, 298, 299, 2, 300, 200, 201, 16, 301, 302, 118, 119, 120, 121, 122, 749, 750, 751, 752, 753, 754, 755, 756, 757, 758, 759, 768, 769, 770, 771, 772, 773, 774, 775, 776, 777, 778, 779] (by decide +kernel) (by decide +kernel)) (goodIn_sub (fun _ h => List.mem_append_right _ h) (by decide +kernel))) (goodIn_sub (fun _ h => List.mem_append_left _ (List.mem_append_right _ h)) (by decide +kernel))
set_option maxRecDepth 20000 in
theorem gL_law_L_tank : GoodIn wsL_law (va_wsS RL 131 yL_tank wsL_tank) := goodIn_app (goodIn_of _ (by decide +kernel)) ggL_law_L_tank
set_option maxRecDepth 20000 in
theorem ggL_law_X8_tank : GoodIn wsL_law wsX8_tank := goodIn_r _ [306, 135, 78, 307, 308, 141, 142, 5, 143, 144, 145, 146, 147, 760, 761, 762, 763, 764, 765, 766, 767, 806, 807, 808, 809, 810, 811, 812, 813, 814, 815, 816, 817, 818, 819] (by decide +kernel) (by decide +kernel)
set_option maxRecDepth 20000 in
theorem gL_law_X8_tank : GoodIn wsL_law (wsV RL 133 RX8 yX8_tank wsX8_tank) := goodIn_app (goodIn_of _ (by decide +kernel)) ggL_law_X8_tank
set_option maxRecDepth 20000 in
theorem ggL_law_L_shares : GoodIn wsL_law wsL_shares := goodIn_ca (goodIn_r _ [311, 105, 312, 313, 314, 2, 315, 21, 33, 118, 119, 120, 121, 122, 749, 750, 751, 752, 753, 754, 755, 756, 757, 758, 759, 793, 794, 795, 796] (by decide +kernel) (by decide +kernel)) (goodIn_sub (fun _ h => List.mem_append_left _ (List.mem_append_right _ h)) (by decide +kernel))
set_option maxRecDepth 20000 in
theorem gL_law_L_shares : GoodIn wsL_law (va_wsS RL 134 yL_shares wsL_shares) := goodIn_app (goodIn_of _ (by decide +kernel)) ggL_law_L_shares
set_option maxRecDepth 20000 in
theorem ggL_law_X8_shares : GoodIn wsL_law wsX8_shares := goodIn_r _ [319, 135, 80, 144, 145, 146, 5, 147, 760, 761, 762, 763, 764, 765, 766, 767] (by decide +kernel) (by decide +kernel)
set_option maxRecDepth 20000 in
theorem gL_law_X8_shares : GoodIn wsL_law (wsV RL 136 RX8 yX8_shares wsX8_shares) := goodIn_app (goodIn_of _ (by decide +kernel)) ggL_law_X8_shares
set_option maxRecDepth 20000 in
theorem ggL_law_L_price : GoodIn wsL_law wsL_price := goodIn_ca (goodIn_r _ [322, 105, 323, 324, 325, 2, 326, 28, 118, 119, 120, 121, 122, 749, 750, 751, 752, 753, 754, 755, 756, 757, 758, 759] (by decide +kernel) (by decide +kernel)) (goodIn_sub (fun _ h => List.mem_append_left _ (List.mem_append_right _ h)) (by decide +kernel))
set_option maxRecDepth 20000 in
theorem gL_law_L_price : GoodIn wsL_law (va_wsS RL 137 yL_price wsL_price) := goodIn_app (goodIn_of _ (by decide +kernel)) ggL_law_L_price
set_option maxRecDepth 20000 in
theorem ggL_law_X8_price : GoodIn wsL_law wsX8_price := goodIn_r _ [330, 135, 82, 141, 142, 5, 143, 144, 145, 146, 147, 760, 761, 762, 763, 764, 765, 766, 767] (by decide +kernel) (by decide +kernel)
set_option maxRecDepth 20000 in
theorem gL_law_X8_price : GoodIn wsL_law (wsV RL 139 RX8 yX8_price wsX8_price) := goodIn_app (goodIn_of _ (by decide +kernel)) ggL_law_X8_price
set_option maxRecDepth 20000 in
theorem ggL_law_L_pass : GoodIn wsL_law wsL_pass := goodIn_ca (goodIn_r _ [333, 105, 334, 335, 336, 2, 337, 16, 338, 339, 118, 119, 120, 121, 122, 340, 341, 342, 15, 343, 344, 41, 345, 346, 45, 347, 348, 349, 350, 351, 352, 43, 353, 354, 355, 356, 357, 49, 358, 59, 359, 360, 361, 362, 39, 363, 364, 365, 366, 367, 368, 369, 370, 371, 372, 373, 124, 125, 47, 126, 53, 127, 128, 129, 130, 54, 374, 375, 376, 377, 42, 44, 378, 379, 380, 381, 382, 383, 384, 385, 386, 387, 388, 389, 390, 391, 392, 393, 394, 395, 396, 397, 398, 399, 400, 401, 402, 403, 404, 405, 406, 407, 408, 409, 410, 411, 412, 171, 172, 413, 174, 175, 176, 177, 178, 414, 415, 416, 417, 27, 418, 419, 420, 421, 422, 423, 202, 203, 204, 19, 424, 425, 426, 427, 428, 429, 430, 431, 432, 433, 434, 435, 436, 437, 438, 439, 440, 441, 442, 443, 444, 252, 445, 446, 447, 448, 449, 450, 451, 452, 21, 33, 453, 749, 750, 751, 752, 753, 754, 755, 756, 757, 758, 759, 768, 769, 770, 771, 772, 773, 774, 775, 776, 777, 778, 779, 801, 802, 803, 804, 805, 797, 798, 799, 800, 788, 789, 790, 791, 792, 793, 794, 795, 796] (by decide +kernel) (by decide +kernel)) (goodIn_sub (fun _ h => List.mem_append_left _ (List.mem_append_right _ h)) (by decide +kernel))
set_option maxRecDepth 20000 in
theorem gL_law_L_pass : GoodIn wsL_law (va_wsS RL 140 yL_pass wsL_pass) := goodIn_app (goodIn_of _ (by decide +kernel)) ggL_law_L_pass
set_option maxRecDepth 20000 in
theorem ggL_law_X8_pass : GoodIn wsL_law wsX8_pass := goodIn_r _ [457, 135, 78, 80, 141, 142, 5, 143, 144, 145, 146, 147, 458, 459, 460, 77, 461, 462, 94, 97, 463, 446, 447, 448, 98, 464, 369, 366, 370, 465, 93, 95, 90, 91, 466, 467, 468, 469, 470, 471, 472, 473, 474, 365, 367, 475, 96, 152, 153, 154, 155, 88, 476, 149, 150, 151, 87, 477, 478, 479, 480, 481, 482, 483, 484, 99, 485, 486, 487, 488, 489, 490, 491, 492, 493, 494, 495, 496, 497, 498, 499, 500, 501, 502, 503, 504, 505, 506, 507, 508, 509, 510, 760, 761, 762, 763, 764, 765, 766, 767, 806, 807, 808, 809, 810, 811, 812, 813, 814, 815, 816, 817, 818, 819] (by decide +kernel) (by decide +kernel)
set_option maxRecDepth 20000 in
theorem gL_law_X8_pass : GoodIn wsL_law (wsV RL 142 RX8 yX8_pass wsX8_pass) := goodIn_app (goodIn_of _ (by decide +kernel)) ggL_law_X8_pass
set_option maxRecDepth 20000 in
theorem ggL_law_L_lift : GoodIn wsL_law wsL_lift := goodIn_ca (goodIn_ca (goodIn_r _ [513, 104, 105, 514, 515, 516, 2, 517, 518, 369, 366, 370, 16, 301, 21, 519, 520, 28, 113, 114, 115, 116, 117, 118, 119, 120, 121, 122, 521, 522, 523, 524, 453, 749, 750, 751, 752, 753, 754, 755, 756, 757, 758, 759, 768, 769, 770, 771, 772, 773, 774, 775, 776, 777, 778, 779, 793, 794, 795, 796] (by decide +kernel) (by decide +kernel)) (goodIn_sub (fun _ h => List.mem_append_left _ (List.mem_append_left _ (List.mem_append_right _ h))) (by decide +kernel))) (goodIn_sub (fun _ h => List.mem_append_left _ (List.mem_append_right _ h)) (by decide +kernel))
set_option maxRecDepth 20000 in
theorem gL_law_L_lift : GoodIn wsL_law (va_wsS RL 143 yL_lift wsL_lift) := goodIn_app (goodIn_of _ (by decide +kernel)) ggL_law_L_lift
set_option maxRecDepth 20000 in
theorem ggL_law_X8_lift : GoodIn wsL_law wsX8_lift := goodIn_r _ [528, 135, 529, 369, 366, 370, 78, 307, 80, 82, 141, 142, 5, 143, 144, 145, 146, 147, 530, 531, 532, 533, 534, 365, 367, 760, 761, 762, 763, 764, 765, 766, 767, 806, 807, 808, 809, 810, 811, 812, 813, 814, 815, 816, 817, 818, 819] (by decide +kernel) (by decide +kernel)
set_option maxRecDepth 20000 in
theorem gL_law_X8_lift : GoodIn wsL_law (wsV RL 145 RX8 yX8_lift wsX8_lift) := goodIn_app (goodIn_of _ (by decide +kernel)) ggL_law_X8_lift
set_option maxRecDepth 20000 in
theorem ggL_law_X6_book : GoodIn wsL_law wsX6_book := goodIn_r _ [538, 16, 202, 25, 539, 540, 541, 27, 542, 543, 544, 545, 338, 546, 547, 548, 549, 2, 550, 17, 551, 302, 203, 219, 552, 553, 554, 15, 555, 39, 41, 344, 42, 556, 446, 447, 448, 43, 44, 372, 557, 558, 559, 47, 560, 53, 54, 561, 177, 178, 562, 563, 564, 49, 565, 436, 566, 567, 58, 568, 569, 570, 571, 572, 341, 342, 343, 345, 346, 45, 347, 348, 349, 350, 351, 352, 353, 354, 355, 356, 357, 358, 59, 359, 360, 361, 362, 363, 364, 365, 366, 367, 368, 369, 370, 371, 373, 124, 125, 126, 127, 128, 129, 130, 374, 375, 376, 377, 378, 379, 380, 381, 382, 383, 384, 385, 386, 387, 388, 389, 390, 391, 392, 393, 394, 395, 396, 397, 398, 399, 400, 401, 402, 403, 404, 405, 406, 407, 408, 409, 410, 411, 412, 171, 172, 413, 174, 175, 176, 749, 750, 751, 752, 753, 754, 755, 756, 757, 758, 759, 768, 769, 770, 771, 772, 773, 774, 775, 776, 777, 778, 779, 780, 781, 782, 783, 784, 785, 786, 787, 801, 802, 803, 804, 805, 797, 798, 799, 800] (by decide +kernel) (by decide +kernel)
set_option maxRecDepth 20000 in
theorem gL_law_X6_book : GoodIn wsL_law (wsV RL 146 RX6 yX6_book wsX6_book) := goodIn_app (goodIn_of _ (by decide +kernel)) ggL_law_X6_book
set_option maxRecDepth 20000 in
theorem ggL_law_X8_book : GoodIn wsL_law wsX8_book := goodIn_r _ [576, 135, 78, 210, 577, 578, 579, 580, 26, 81, 581, 582, 446, 447, 448, 583, 584, 585, 5, 586, 587, 308, 211, 588, 589, 590, 77, 591, 592, 76, 87, 463, 88, 90, 91, 465, 93, 94, 95, 462, 98, 99, 475, 593, 84, 85, 86, 11, 12, 89, 92, 96, 97, 594, 595, 596, 597, 598, 459, 460, 461, 464, 369, 366, 370, 466, 467, 468, 469, 470, 471, 472, 473, 474, 365, 367, 152, 153, 154, 155, 476, 149, 150, 151, 477, 478, 479, 480, 481, 482, 483, 484, 485, 486, 487, 488, 489, 490, 491, 492, 493, 494, 495, 496, 497, 498, 499, 500, 501, 502, 503, 504, 505, 506, 507, 508, 509, 510, 760, 761, 762, 763, 764, 765, 766, 767, 806, 807, 808, 809, 810, 811, 812, 813, 814, 815, 816, 817, 818, 819] (by decide +kernel) (by decide +kernel)
set_option maxRecDepth 20000 in
theorem gL_law_X8_book : GoodIn wsL_law (wsV RL 149 RX8 yX8_book wsX8_book) := goodIn_app (goodIn_of _ (by decide +kernel)) ggL_law_X8_book
set_option maxRecDepth 20000 in
theorem ggL_law_L_ofCell : GoodIn wsL_law wsL_ofCell := goodIn_ca (goodIn_ca (goodIn_r _ [601, 104, 105, 602, 603, 604, 2, 605, 16, 110, 111, 112, 113, 114, 115, 116, 117, 118, 119, 120, 121, 122, 123, 124, 125, 47, 126, 53, 127, 128, 129, 130, 54, 749, 750, 751, 752, 753, 754, 755, 756, 757, 758, 759, 768, 769, 770, 771, 772, 773, 774, 775, 776, 777, 778, 779, 797, 798, 799, 800] (by decide +kernel) (by decide +kernel)) (goodIn_sub (fun _ h => List.mem_append_left _ (List.mem_append_left _ (List.mem_append_right _ h))) (by decide +kernel))) (goodIn_sub (fun _ h => List.mem_append_left _ (List.mem_append_right _ h)) (by decide +kernel))
set_option maxRecDepth 20000 in
theorem gL_law_L_ofCell : GoodIn wsL_law (va_wsS RL 150 yL_ofCell wsL_ofCell) := goodIn_app (goodIn_of _ (by decide +kernel)) ggL_law_L_ofCell
set_option maxRecDepth 20000 in
theorem ggL_law_X8_ofCell : GoodIn wsL_law wsX8_ofCell := goodIn_r _ [609, 135, 138, 139, 5, 140, 141, 142, 143, 144, 145, 146, 147, 610, 611, 612, 613, 78, 136, 137, 148, 149, 150, 77, 151, 87, 152, 153, 154, 155, 88, 760, 761, 762, 763, 764, 765, 766, 767, 806, 807, 808, 809, 810, 811, 812, 813, 814, 815, 816, 817, 818, 819] (by decide +kernel) (by decide +kernel)
set_option maxRecDepth 20000 in
theorem gL_law_X8_ofCell : GoodIn wsL_law (wsV RL 152 RX8 yX8_ofCell wsX8_ofCell) := goodIn_app (goodIn_of _ (by decide +kernel)) ggL_law_X8_ofCell
set_option maxRecDepth 20000 in
theorem ggL_law_L_ofWell : GoodIn wsL_law wsL_ofWell := goodIn_ca (goodIn_ca (goodIn_r _ [616, 104, 105, 617, 618, 619, 2, 620, 16, 202, 203, 19, 204, 205, 219, 240, 224, 430, 425, 424, 431, 252, 113, 114, 115, 116, 117, 118, 119, 120, 121, 122, 749, 750, 751, 752, 753, 754, 755, 756, 757, 758, 759, 768, 769, 770, 771, 772, 773, 774, 775, 776, 777, 778, 779, 801, 802, 803, 804, 805, 788, 789, 790, 791, 792] (by decide +kernel) (by decide +kernel)) (goodIn_sub (fun _ h => List.mem_append_left _ (List.mem_append_left _ (List.mem_append_right _ h))) (by decide +kernel))) (goodIn_sub (fun _ h => List.mem_append_left _ (List.mem_append_right _ h)) (by decide +kernel))
set_option maxRecDepth 20000 in
theorem gL_law_L_ofWell : GoodIn wsL_law (va_wsS RL 153 yL_ofWell wsL_ofWell) := goodIn_app (goodIn_of _ (by decide +kernel)) ggL_law_L_ofWell
set_option maxRecDepth 20000 in
theorem ggL_law_X8_ofWell : GoodIn wsL_law wsX8_ofWell := goodIn_r _ [624, 135, 78, 211, 229, 230, 231, 5, 232, 210, 141, 142, 143, 144, 145, 146, 147, 760, 761, 762, 763, 764, 765, 766, 767, 806, 807, 808, 809, 810, 811, 812, 813, 814, 815, 816, 817, 818, 819] (by decide +kernel) (by decide +kernel)
set_option maxRecDepth 20000 in
theorem gL_law_X8_ofWell : GoodIn wsL_law (wsV RL 155 RX8 yX8_ofWell wsX8_ofWell) := goodIn_app (goodIn_of _ (by decide +kernel)) ggL_law_X8_ofWell
set_option maxRecDepth 20000 in
theorem ggL_law_L_ofPartner : GoodIn wsL_law wsL_ofPartner := goodIn_ca (goodIn_ca (goodIn_r _ [627, 104, 105, 628, 629, 630, 2, 631, 21, 33, 453, 519, 520, 113, 114, 115, 116, 117, 118, 119, 120, 121, 122, 749, 750, 751, 752, 753, 754, 755, 756, 757, 758, 759, 793, 794, 795, 796] (by decide +kernel) (by decide +kernel)) (goodIn_sub (fun _ h => List.mem_append_left _ (List.mem_append_left _ (List.mem_append_right _ h))) (by decide +kernel))) (goodIn_sub (fun _ h => List.mem_append_left _ (List.mem_append_right _ h)) (by decide +kernel))
set_option maxRecDepth 20000 in
theorem gL_law_L_ofPartner : GoodIn wsL_law (va_wsS RL 156 yL_ofPartner wsL_ofPartner) := goodIn_app (goodIn_of _ (by decide +kernel)) ggL_law_L_ofPartner
set_option maxRecDepth 20000 in
theorem ggL_law_X8_ofPartner : GoodIn wsL_law wsX8_ofPartner := goodIn_r _ [635, 135, 80, 141, 142, 5, 143, 144, 145, 146, 147, 760, 761, 762, 763, 764, 765, 766, 767] (by decide +kernel) (by decide +kernel)
set_option maxRecDepth 20000 in
theorem gL_law_X8_ofPartner : GoodIn wsL_law (wsV RL 158 RX8 yX8_ofPartner wsX8_ofPartner) := goodIn_app (goodIn_of _ (by decide +kernel)) ggL_law_X8_ofPartner
set_option maxRecDepth 20000 in
theorem ggL_law_L_booked : GoodIn wsL_law wsL_booked := goodIn_ca (goodIn_r _ [638, 105, 639, 640, 641, 2, 642, 25, 542, 544, 545, 543, 546, 118, 119, 120, 121, 122, 749, 750, 751, 752, 753, 754, 755, 756, 757, 758, 759, 780, 781, 782, 783, 784, 785, 786, 787] (by decide +kernel) (by decide +kernel)) (goodIn_sub (fun _ h => List.mem_append_left _ (List.mem_append_right _ h)) (by decide +kernel))
set_option maxRecDepth 20000 in
theorem gL_law_L_booked : GoodIn wsL_law (va_wsS RL 159 yL_booked wsL_booked) := goodIn_app (goodIn_of _ (by decide +kernel)) ggL_law_L_booked
set_option maxRecDepth 20000 in
theorem ggL_law_X8_booked : GoodIn wsL_law wsX8_booked := goodIn_r _ [646, 135, 81, 141, 142, 5, 143, 144, 145, 146, 147, 760, 761, 762, 763, 764, 765, 766, 767] (by decide +kernel) (by decide +kernel)
set_option maxRecDepth 20000 in
theorem gL_law_X8_booked : GoodIn wsL_law (wsV RL 161 RX8 yX8_booked wsX8_booked) := goodIn_app (goodIn_of _ (by decide +kernel)) ggL_law_X8_booked
set_option maxRecDepth 20000 in
theorem ggL_law_L_many : GoodIn wsL_law wsL_many := goodIn_ca (goodIn_r _ [649, 105, 650, 651, 652, 2, 653, 338, 16, 202, 27, 301, 418, 420, 422, 25, 540, 118, 119, 120, 121, 122, 654, 655, 656, 15, 657, 39, 404, 658, 659, 660, 661, 413, 174, 175, 47, 176, 177, 178, 749, 750, 751, 752, 753, 754, 755, 756, 757, 758, 759, 768, 769, 770, 771, 772, 773, 774, 775, 776, 777, 778, 779, 780, 781, 782, 783, 784, 785, 786, 787, 797, 798, 799, 800] (by decide +kernel) (by decide +kernel)) (goodIn_sub (fun _ h => List.mem_append_left _ (List.mem_append_right _ h)) (by decide +kernel))
set_option maxRecDepth 20000 in
theorem gL_law_L_many : GoodIn wsL_law (va_wsS RL 162 yL_many wsL_many) := goodIn_app (goodIn_of _ (by decide +kernel)) ggL_law_L_many
set_option maxRecDepth 20000 in
theorem ggL_law_X8_many : GoodIn wsL_law wsX8_many := goodIn_r _ [665, 135, 141, 142, 5, 143, 144, 145, 146, 147, 666, 667, 668, 669, 78, 137, 187, 188, 581, 210, 307, 579, 577, 760, 761, 762, 763, 764, 765, 766, 767, 806, 807, 808, 809, 810, 811, 812, 813, 814, 815, 816, 817, 818, 819] (by decide +kernel) (by decide +kernel)
set_option maxRecDepth 20000 in
theorem gL_law_X8_many : GoodIn wsL_law (wsV RL 164 RX8 yX8_many wsX8_many) := goodIn_app (goodIn_of _ (by decide +kernel)) ggL_law_X8_many
set_option maxRecDepth 20000 in
theorem ggL_law_X6_meanPressure : GoodIn wsL_law wsX6_meanPressure := goodIn_r _ [673, 16, 110, 674, 123, 124, 125, 47, 126, 53, 127, 128, 129, 130, 54, 749, 750, 751, 752, 753, 754, 755, 756, 757, 758, 759, 768, 769, 770, 771, 772, 773, 774, 775, 776, 777, 778, 779, 797, 798, 799, 800] (by decide +kernel) (by decide +kernel)
set_option maxRecDepth 20000 in
theorem gL_law_X6_meanPressure : GoodIn wsL_law (wsV RL 165 RX6 yX6_meanPressure wsX6_meanPressure) := goodIn_app (goodIn_of _ (by decide +kernel)) ggL_law_X6_meanPressure
set_option maxRecDepth 20000 in
theorem ggL_law_X8_meanPressure : GoodIn wsL_law wsX8_meanPressure := goodIn_r _ [678, 135, 78, 679, 148, 149, 150, 77, 151, 87, 152, 153, 154, 155, 88, 760, 761, 762, 763, 764, 765, 766, 767, 806, 807, 808, 809, 810, 811, 812, 813, 814, 815, 816, 817, 818, 819] (by decide +kernel) (by decide +kernel)
set_option maxRecDepth 20000 in
theorem gL_law_X8_meanPressure : GoodIn wsL_law (wsV RL 169 RX8 yX8_meanPressure wsX8_meanPressure) := goodIn_app (goodIn_of _ (by decide +kernel)) ggL_law_X8_meanPressure
set_option maxRecDepth 20000 in
theorem ggL_law_L_wouldGive : GoodIn wsL_law wsL_wouldGive := goodIn_ca (goodIn_r _ [682, 105, 683, 684, 685, 2, 686, 17, 16, 118, 119, 120, 121, 122, 552, 553, 554, 15, 555, 39, 41, 344, 42, 556, 446, 447, 448, 43, 44, 372, 557, 558, 559, 47, 560, 53, 54, 561, 177, 178, 562, 563, 564, 49, 565, 436, 566, 567, 58, 568, 569, 570, 571, 572, 341, 342, 343, 345, 346, 45, 347, 348, 349, 350, 351, 352, 353, 354, 355, 356, 357, 358, 59, 359, 360, 361, 362, 363, 364, 365, 366, 367, 368, 369, 370, 371, 373, 124, 125, 126, 127, 128, 129, 130, 374, 375, 376, 377, 378, 379, 380, 381, 382, 383, 384, 385, 386, 387, 388, 389, 390, 391, 392, 393, 394, 395, 396, 397, 398, 399, 400, 401, 402, 403, 404, 405, 406, 407, 408, 409, 410, 411, 412, 171, 172, 413, 174, 175, 176, 749, 750, 751, 752, 753, 754, 755, 756, 757, 758, 759, 768, 769, 770, 771, 772, 773, 774, 775, 776, 777, 778, 779, 797, 798, 799, 800, 801, 802, 803, 804, 805] (by decide +kernel) (by decide +kernel)) (goodIn_sub (fun _ h => List.mem_append_left _ (List.mem_append_right _ h)) (by decide +kernel))
set_option maxRecDepth 20000 in
theorem gL_law_L_wouldGive : GoodIn wsL_law (va_wsS RL 170 yL_wouldGive wsL_wouldGive) := goodIn_app (goodIn_of _ (by decide +kernel)) ggL_law_L_wouldGive
set_option maxRecDepth 20000 in
theorem ggL_law_X8_wouldGive : GoodIn wsL_law wsX8_wouldGive := goodIn_r _ [690, 135, 78, 141, 142, 5, 143, 144, 145, 146, 147, 588, 589, 590, 77, 591, 592, 76, 87, 463, 446, 447, 448, 88, 90, 91, 465, 93, 94, 95, 462, 98, 99, 475, 593, 84, 85, 86, 11, 12, 26, 89, 92, 96, 97, 594, 595, 596, 597, 598, 459, 460, 461, 464, 369, 366, 370, 466, 467, 468, 469, 470, 471, 472, 473, 474, 365, 367, 152, 153, 154, 155, 476, 149, 150, 151, 477, 478, 479, 480, 481, 482, 483, 484, 485, 486, 487, 488, 489, 490, 491, 492, 493, 494, 495, 496, 497, 498, 499, 500, 501, 502, 503, 504, 505, 506, 507, 508, 509, 510, 760, 761, 762, 763, 764, 765, 766, 767, 806, 807, 808, 809, 810, 811, 812, 813, 814, 815, 816, 817, 818, 819] (by decide +kernel) (by decide +kernel)
set_option maxRecDepth 20000 in
theorem gL_law_X8_wouldGive : GoodIn wsL_law (wsV RL 172 RX8 yX8_wouldGive wsX8_wouldGive) := goodIn_app (goodIn_of _ (by decide +kernel)) ggL_law_X8_wouldGive
set_option maxRecDepth 20000 in
theorem ggL_law_L_bestChoke : GoodIn wsL_law wsL_bestChoke := goodIn_ca (goodIn_ca (goodIn_ca (goodIn_r _ [693, 104, 105, 195, 694, 695, 696, 2, 697, 16, 202, 17, 203, 219, 113, 114, 115, 116, 117, 118, 119, 120, 121, 122, 220, 221, 222, 223, 200, 201, 19, 224, 552, 553, 554, 15, 555, 39, 41, 344, 42, 556, 446, 447, 448, 43, 44, 372, 557, 558, 559, 47, 560, 53, 54, 561, 177, 178, 562, 563, 564, 49, 565, 436, 566, 567, 58, 568, 569, 570, 571, 572, 341, 342, 343, 345, 346, 45, 347, 348, 349, 350, 351, 352, 353, 354, 355, 356, 357, 358, 59, 359, 360, 361, 362, 363, 364, 365, 366, 367, 368, 369, 370, 371, 373, 124, 125, 126, 127, 128, 129, 130, 374, 375, 376, 377, 378, 379, 380, 381, 382, 383, 384, 385, 386, 387, 388, 389, 390, 391, 392, 393, 394, 395, 396, 397, 398, 399, 400, 401, 402, 403, 404, 405, 406, 407, 408, 409, 410, 411, 412, 171, 172, 413, 174, 175, 176, 749, 750, 751, 752, 753, 754, 755, 756, 757, 758, 759, 768, 769, 770, 771, 772, 773, 774, 775, 776, 777, 778, 779, 801, 802, 803, 804, 805, 788, 789, 790, 791, 792, 797, 798, 799, 800] (by decide +kernel) (by decide +kernel)) (goodIn_sub (fun _ h => List.mem_append_left _ (List.mem_append_left _ (List.mem_append_right _ h))) (by decide +kernel))) (goodIn_sub (fun _ h => List.mem_append_left _ (List.mem_append_right _ h)) (by decide +kernel))) (goodIn_sub (fun _ h => List.mem_append_right _ h) (by decide +kernel))
set_option maxRecDepth 20000 in
theorem gL_law_L_bestChoke : GoodIn wsL_law (va_wsS RL 173 yL_bestChoke wsL_bestChoke) := goodIn_app (goodIn_of _ (by decide +kernel)) ggL_law_L_bestChoke
set_option maxRecDepth 20000 in
theorem ggL_law_X8_bestChoke : GoodIn wsL_law wsX8_bestChoke := goodIn_r _ [701, 135, 78, 211, 229, 230, 231, 5, 232, 210, 141, 142, 143, 144, 145, 146, 147, 702, 703, 704, 705, 534, 365, 366, 367, 588, 589, 590, 77, 591, 592, 76, 87, 463, 446, 447, 448, 88, 90, 91, 465, 93, 94, 95, 462, 98, 99, 475, 593, 84, 85, 86, 11, 12, 26, 89, 92, 96, 97, 594, 595, 596, 597, 598, 459, 460, 461, 464, 369, 370, 466, 467, 468, 469, 470, 471, 472, 473, 474, 152, 153, 154, 155, 476, 149, 150, 151, 477, 478, 479, 480, 481, 482, 483, 484, 485, 486, 487, 488, 489, 490, 491, 492, 493, 494, 495, 496, 497, 498, 499, 500, 501, 502, 503, 504, 505, 506, 507, 508, 509, 510, 760, 761, 762, 763, 764, 765, 766, 767, 806, 807, 808, 809, 810, 811, 812, 813, 814, 815, 816, 817, 818, 819] (by decide +kernel) (by decide +kernel)
set_option maxRecDepth 20000 in
theorem gL_law_X8_bestChoke : GoodIn wsL_law (wsV RL 175 RX8 yX8_bestChoke wsX8_bestChoke) := goodIn_app (goodIn_of _ (by decide +kernel)) ggL_law_X8_bestChoke
set_option maxRecDepth 20000 in
theorem ggL_law_L_keptBack : GoodIn wsL_law wsL_keptBack := goodIn_ca (goodIn_ca (goodIn_r _ [708, 104, 105, 709, 710, 711, 2, 712, 16, 110, 17, 167, 168, 169, 116, 117, 113, 114, 115, 170, 171, 172, 118, 119, 120, 121, 122, 173, 174, 175, 47, 176, 177, 178, 552, 553, 554, 15, 555, 39, 41, 344, 42, 556, 446, 447, 448, 43, 44, 372, 557, 558, 559, 560, 53, 54, 561, 562, 563, 564, 49, 565, 436, 566, 567, 58, 568, 569, 570, 571, 572, 341, 342, 343, 345, 346, 45, 347, 348, 349, 350, 351, 352, 353, 354, 355, 356, 357, 358, 59, 359, 360, 361, 362, 363, 364, 365, 366, 367, 368, 369, 370, 371, 373, 124, 125, 126, 127, 128, 129, 130, 374, 375, 376, 377, 378, 379, 380, 381, 382, 383, 384, 385, 386, 387, 388, 389, 390, 391, 392, 393, 394, 395, 396, 397, 398, 399, 400, 401, 402, 403, 404, 405, 406, 407, 408, 409, 410, 411, 412, 413, 179, 180, 181, 182, 749, 750, 751, 752, 753, 754, 755, 756, 757, 758, 759, 768, 769, 770, 771, 772, 773, 774, 775, 776, 777, 778, 779, 797, 798, 799, 800, 801, 802, 803, 804, 805] (by decide +kernel) (by decide +kernel)) (goodIn_sub (fun _ h => List.mem_append_left _ (List.mem_append_left _ (List.mem_append_right _ h))) (by decide +kernel))) (goodIn_sub (fun _ h => List.mem_append_left _ (List.mem_append_right _ h)) (by decide +kernel))
set_option maxRecDepth 20000 in
theorem gL_law_L_keptBack : GoodIn wsL_law (va_wsS RL 176 yL_keptBack wsL_keptBack) := goodIn_app (goodIn_of _ (by decide +kernel)) ggL_law_L_keptBack
set_option maxRecDepth 20000 in
theorem ggL_law_X8_keptBack : GoodIn wsL_law wsX8_keptBack := goodIn_r _ [716, 135, 189, 190, 5, 191, 138, 139, 140, 141, 142, 143, 144, 145, 146, 147, 717, 718, 719, 720, 78, 187, 188, 588, 589, 590, 77, 591, 592, 76, 87, 463, 446, 447, 448, 88, 90, 91, 465, 93, 94, 95, 462, 98, 99, 475, 593, 84, 85, 86, 11, 12, 26, 89, 92, 96, 97, 594, 595, 596, 597, 598, 459, 460, 461, 464, 369, 366, 370, 466, 467, 468, 469, 470, 471, 472, 473, 474, 365, 367, 152, 153, 154, 155, 476, 149, 150, 151, 477, 478, 479, 480, 481, 482, 483, 484, 485, 486, 487, 488, 489, 490, 491, 492, 493, 494, 495, 496, 497, 498, 499, 500, 501, 502, 503, 504, 505, 506, 507, 508, 509, 510, 760, 761, 762, 763, 764, 765, 766, 767, 806, 807, 808, 809, 810, 811, 812, 813, 814, 815, 816, 817, 818, 819] (by decide +kernel) (by decide +kernel)
set_option maxRecDepth 20000 in
theorem gL_law_X8_keptBack : GoodIn wsL_law (wsV RL 179 RX8 yX8_keptBack wsX8_keptBack) := goodIn_app (goodIn_of _ (by decide +kernel)) ggL_law_X8_keptBack
set_option maxRecDepth 20000 in
theorem ggL_law_L_mayLift : GoodIn wsL_law wsL_mayLift := goodIn_ca (goodIn_r _ [723, 104, 724, 522, 523, 2, 524, 21, 16, 301, 453, 519, 518, 369, 366, 370, 113, 114, 115, 116, 117, 749, 750, 751, 752, 753, 754, 755, 756, 757, 758, 759, 768, 769, 770, 771, 772, 773, 774, 775, 776, 777, 778, 779, 793, 794, 795, 796] (by decide +kernel) (by decide +kernel)) (goodIn_sub (fun _ h => List.mem_append_left _ (List.mem_append_left _ (List.mem_append_right _ h))) (by decide +kernel))
set_option maxRecDepth 20000 in
theorem gL_law_L_mayLift : GoodIn wsL_law (va_wsS RL 180 yL_mayLift wsL_mayLift) := goodIn_app (goodIn_of _ (by decide +kernel)) ggL_law_L_mayLift
set_option maxRecDepth 20000 in
theorem ggL_law_X8_mayLift : GoodIn wsL_law wsX8_mayLift := goodIn_r _ [728, 135, 141, 142, 5, 143, 144, 145, 146, 147, 530, 531, 532, 533, 78, 307, 80, 529, 369, 366, 370, 534, 365, 367, 760, 761, 762, 763, 764, 765, 766, 767, 806, 807, 808, 809, 810, 811, 812, 813, 814, 815, 816, 817, 818, 819] (by decide +kernel) (by decide +kernel)
set_option maxRecDepth 20000 in
theorem gL_law_X8_mayLift : GoodIn wsL_law (wsV RL 182 RX8 yX8_mayLift wsX8_mayLift) := goodIn_app (goodIn_of _ (by decide +kernel)) ggL_law_X8_mayLift
set_option maxRecDepth 20000 in
theorem ggL_law_X6_digest : GoodIn wsL_law wsX6_digest := goodIn_ca (goodIn_ca (goodIn_ca (goodIn_r _ [732, 733, 734, 16, 202, 19, 224, 735, 651, 652, 2, 653, 338, 27, 301, 418, 420, 422, 25, 540, 118, 119, 120, 121, 122, 654, 655, 656, 15, 657, 39, 404, 658, 659, 660, 661, 413, 174, 175, 47, 176, 177, 178, 736, 603, 604, 605, 110, 111, 112, 113, 114, 115, 116, 117, 123, 124, 125, 126, 53, 127, 128, 129, 130, 54, 737, 618, 619, 620, 203, 204, 205, 219, 240, 430, 425, 424, 431, 252, 738, 695, 696, 697, 17, 220, 221, 222, 223, 200, 201, 552, 553, 554, 555, 41, 344, 42, 556, 446, 447, 448, 43, 44, 372, 557, 558, 559, 560, 561, 562, 563, 564, 49, 565, 436, 566, 567, 58, 568, 569, 570, 571, 572, 341, 342, 343, 345, 346, 45, 347, 348, 349, 350, 351, 352, 353, 354, 355, 356, 357, 358, 59, 359, 360, 361, 362, 363, 364, 365, 366, 367, 368, 369, 370, 371, 373, 374, 375, 376, 377, 378, 379, 380, 381, 382, 383, 384, 385, 386, 387, 388, 389, 390, 391, 392, 393, 394, 395, 396, 397, 398, 399, 400, 401, 402, 403, 405, 406, 407, 408, 409, 410, 411, 412, 171, 172, 739, 629, 630, 631, 21, 33, 453, 519, 520, 521, 522, 523, 524, 518, 740, 640, 641, 642, 542, 544, 545, 543, 546, 741, 684, 685, 686, 742, 710, 711, 712, 167, 168, 169, 170, 173, 179, 180, 181, 182, 749, 750, 751, 752, 753, 754, 755, 756, 757, 758, 759, 768, 769, 770, 771, 772, 773, 774, 775, 776, 777, 778, 779, 788, 789, 790, 791, 792, 780, 781, 782, 783, 784, 785, 786, 787, 797, 798, 799, 800, 801, 802, 803, 804, 805, 793, 794, 795, 796] (by decide +kernel) (by decide +kernel)) (goodIn_sub (fun _ h => List.mem_append_left _ (List.mem_append_right _ h)) (by decide +kernel))) (goodIn_sub (fun _ h => List.mem_append_left _ (List.mem_append_left _ (List.mem_append_right _ h))) (by decide +kernel))) (goodIn_sub (fun _ h => List.mem_append_right _ h) (by decide +kernel))
set_option maxRecDepth 20000 in
theorem gL_law_X6_digest : GoodIn wsL_law (wsV RL 183 RX6 yX6_digest wsX6_digest) := goodIn_app (goodIn_of _ (by decide +kernel)) ggL_law_X6_digest
set_option maxRecDepth 20000 in
theorem ggL_law_X8_digest : GoodIn wsL_law wsX8_digest := goodIn_r _ [746, 135, 747, 748, 78, 210, 211, 80, 81, 666, 667, 668, 5, 669, 137, 187, 188, 581, 307, 579, 577, 141, 142, 143, 610, 611, 612, 613, 136, 148, 149, 150, 77, 151, 87, 152, 153, 154, 155, 88, 702, 703, 704, 705, 534, 365, 366, 367, 588, 589, 590, 591, 592, 76, 463, 446, 447, 448, 90, 91, 465, 93, 94, 95, 462, 98, 99, 475, 593, 84, 85, 86, 11, 12, 26, 89, 92, 96, 97, 594, 595, 596, 597, 598, 459, 460, 461, 464, 369, 370, 466, 467, 468, 469, 470, 471, 472, 473, 474, 476, 477, 478, 479, 480, 481, 482, 483, 484, 485, 486, 487, 488, 489, 490, 491, 492, 493, 494, 495, 496, 497, 498, 499, 500, 501, 502, 503, 504, 505, 506, 507, 508, 509, 510, 530, 531, 532, 533, 529, 717, 718, 719, 720, 760, 761, 762, 763, 764, 765, 766, 767, 806, 807, 808, 809, 810, 811, 812, 813, 814, 815, 816, 817, 818, 819] (by decide +kernel) (by decide +kernel)
set_option maxRecDepth 20000 in
theorem gL_law_X8_digest : GoodIn wsL_law (wsV RL 187 RX8 yX8_digest wsX8_digest) := goodIn_app (goodIn_of _ (by decide +kernel)) ggL_law_X8_digest
theorem dL_law_0 : decode cL_law 0 = .ok (.new 8, 3) := by decide +kernel
theorem dL_law_3 : decode cL_law 3 = .ok (.dup, 1) := by decide +kernel
theorem dL_law_4 : decode cL_law 4 = .ok (.invokespecial 90, 3) := by decide +kernel
theorem dL_law_7 : decode cL_law 7 = .ok (.astore_n 1, 1) := by decide +kernel
theorem dL_law_8 : decode cL_law 8 = .ok (.new 91, 3) := by decide +kernel
theorem dL_law_11 : decode cL_law 11 = .ok (.dup, 1) := by decide +kernel
theorem dL_law_12 : decode cL_law 12 = .ok (.invokespecial 93, 3) := by decide +kernel
theorem dL_law_15 : decode cL_law 15 = .ok (.astore_n 2, 1) := by decide +kernel
theorem dL_law_16 : decode cL_law 16 = .ok (.iconst 1, 1) := by decide +kernel
theorem dL_law_17 : decode cL_law 17 = .ok (.newarray .long, 2) := by decide +kernel
theorem dL_law_19 : decode cL_law 19 = .ok (.astore_n 3, 1) := by decide +kernel
theorem dL_law_20 : decode cL_law 20 = .ok (.iconst 0, 1) := by decide +kernel
theorem dL_law_21 : decode cL_law 21 = .ok (.istore 4, 2) := by decide +kernel
theorem dL_law_23 : decode cL_law 23 = .ok (.iload 4, 2) := by decide +kernel
theorem dL_law_25 : decode cL_law 25 = .ok (.aload_n 0, 1) := by decide +kernel
theorem dL_law_26 : decode cL_law 26 = .ok (.arraylength, 1) := by decide +kernel
theorem dL_law_27 : decode cL_law 27 = .ok (.bipush 6, 2) := by decide +kernel
theorem dL_law_29 : decode cL_law 29 = .ok (.isub, 1) := by decide +kernel
theorem dL_law_30 : decode cL_law 30 = .ok (.if_icmp .gt 1770, 3) := by decide +kernel
theorem dL_law_33 : decode cL_law 33 = .ok (.aload_n 0, 1) := by decide +kernel
theorem dL_law_34 : decode cL_law 34 = .ok (.iload 4, 2) := by decide +kernel
theorem dL_law_36 : decode cL_law 36 = .ok (.iaload, 1) := by decide +kernel
theorem dL_law_37 : decode cL_law 37 = .ok (.bipush 31, 2) := by decide +kernel
theorem dL_law_39 : decode cL_law 39 = .ok (.iand, 1) := by decide +kernel
theorem dL_law_40 : decode cL_law 40 = .ok (.tableswitch 1754 0 25 #[120, 224, 343, 411, 479, 547, 610, 666, 734, 790, 846, 914, 970, 1026, 1094, 1107, 1175, 1243, 1311, 1367, 1423, 1464, 1520, 1588, 1684, 1740], 120) := by decide +kernel
theorem dL_law_160 : decode cL_law 160 = .ok (.aload_n 1, 1) := by decide +kernel
theorem dL_law_161 : decode cL_law 161 = .ok (.aload_n 0, 1) := by decide +kernel
