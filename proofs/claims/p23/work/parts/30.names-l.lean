theorem dL_dice_0 : decode cL_dice 0 = .ok (.iload_n 1, 1) := by decide +kernel
theorem dL_dice_1 : decode cL_dice 1 = .ok (.aload_n 0, 1) := by decide +kernel
theorem dL_dice_2 : decode cL_dice 2 = .ok (.arraylength, 1) := by decide +kernel
theorem dL_dice_3 : decode cL_dice 3 = .ok (.if_icmp .ge 9, 3) := by decide +kernel
theorem dL_dice_6 : decode cL_dice 6 = .ok (.aload_n 0, 1) := by decide +kernel
theorem dL_dice_7 : decode cL_dice 7 = .ok (.iload_n 1, 1) := by decide +kernel
theorem dL_dice_8 : decode cL_dice 8 = .ok (.iaload, 1) := by decide +kernel
theorem dL_dice_9 : decode cL_dice 9 = .ok (.goto 22, 3) := by decide +kernel
theorem dL_dice_12 : decode cL_dice 12 = .ok (.ldc 7, 2) := by decide +kernel
theorem dL_dice_14 : decode cL_dice 14 = .ok (.iload_n 1, 1) := by decide +kernel
theorem dL_dice_15 : decode cL_dice 15 = .ok (.sipush 167, 3) := by decide +kernel
theorem dL_dice_18 : decode cL_dice 18 = .ok (.iadd, 1) := by decide +kernel
theorem dL_dice_19 : decode cL_dice 19 = .ok (.imul, 1) := by decide +kernel
theorem dL_dice_20 : decode cL_dice 20 = .ok (.sipush 571, 3) := by decide +kernel
theorem dL_dice_23 : decode cL_dice 23 = .ok (.iload_n 1, 1) := by decide +kernel
theorem dL_dice_24 : decode cL_dice 24 = .ok (.imul, 1) := by decide +kernel
theorem dL_dice_25 : decode cL_dice 25 = .ok (.iload_n 1, 1) := by decide +kernel
theorem dL_dice_26 : decode cL_dice 26 = .ok (.imul, 1) := by decide +kernel
theorem dL_dice_27 : decode cL_dice 27 = .ok (.iadd, 1) := by decide +kernel
theorem dL_dice_28 : decode cL_dice 28 = .ok (.bipush 71, 2) := by decide +kernel
theorem dL_dice_30 : decode cL_dice 30 = .ok (.iadd, 1) := by decide +kernel
theorem dL_dice_31 : decode cL_dice 31 = .ok (.ldc 8, 2) := by decide +kernel
theorem dL_dice_33 : decode cL_dice 33 = .ok (.iand, 1) := by decide +kernel
theorem dL_dice_34 : decode cL_dice 34 = .ok (.ireturn, 1) := by decide +kernel
set_option maxRecDepth 20000 in
theorem ggL_setRates_X0_setRates : GoodIn wsL_setRates wsX0_setRates := goodIn_ca (goodIn_ca (goodIn_r _ [9, 10, 11, 12, 13, 8, 14, 15, 16, 17, 18, 19, 20, 21, 22, 23, 24, 25, 26, 27, 28, 29, 30, 31, 32, 33, 34, 35, 36, 37, 38, 39, 40] (by decide +kernel) (by decide +kernel)) (goodIn_sub (fun _ h => List.mem_cons_of_mem _ (List.mem_append_left _ (List.mem_append_right _ h))) (by decide +kernel))) (goodIn_sub (fun _ h => List.mem_cons_of_mem _ (List.mem_append_right _ h)) (by decide +kernel))
set_option maxRecDepth 20000 in
theorem gL_setRates_X0_setRates : GoodIn wsL_setRates (wsV RL 9 RX0 yX0_setRates wsX0_setRates) := goodIn_app (goodIn_of _ (by decide +kernel)) ggL_setRates_X0_setRates
theorem dL_setRates_0 : decode cL_setRates 0 = .ok (.aload_n 0, 1) := by decide +kernel
theorem dL_setRates_1 : decode cL_setRates 1 = .ok (.iload_n 1, 1) := by decide +kernel
theorem dL_setRates_2 : decode cL_setRates 2 = .ok (.iload_n 2, 1) := by decide +kernel
theorem dL_setRates_3 : decode cL_setRates 3 = .ok (.iload_n 3, 1) := by decide +kernel
theorem dL_setRates_4 : decode cL_setRates 4 = .ok (.invokevirtual 9, 3) := by decide +kernel
theorem dL_setRates_7 : decode cL_setRates 7 = .ok (.iconst 0, 1) := by decide +kernel
theorem dL_setRates_8 : decode cL_setRates 8 = .ok (.ireturn, 1) := by decide +kernel
theorem dL_setRates_9 : decode cL_setRates 9 = .ok (.astore 4, 2) := by decide +kernel
theorem dL_setRates_11 : decode cL_setRates 11 = .ok (.ldc 17, 2) := by decide +kernel
theorem dL_setRates_13 : decode cL_setRates 13 = .ok (.ireturn, 1) := by decide +kernel
theorem dL_setRates_14 : decode cL_setRates 14 = .ok (.astore 4, 2) := by decide +kernel
theorem dL_setRates_16 : decode cL_setRates 16 = .ok (.ldc 20, 2) := by decide +kernel
theorem dL_setRates_18 : decode cL_setRates 18 = .ok (.ireturn, 1) := by decide +kernel
set_option maxRecDepth 20000 in
theorem ggL_setMargins_X0_setMargins : GoodIn wsL_setMargins wsX0_setMargins := goodIn_ca (goodIn_ca (goodIn_r _ [9, 10, 11, 12, 13, 14, 8, 15, 16, 17, 18, 19, 20, 21, 22, 23, 24, 25, 26, 27, 28, 29, 30, 31, 32, 33, 34, 35, 36, 37, 38, 39, 40, 41] (by decide +kernel) (by decide +kernel)) (goodIn_sub (fun _ h => List.mem_cons_of_mem _ (List.mem_append_left _ (List.mem_append_right _ h))) (by decide +kernel))) (goodIn_sub (fun _ h => List.mem_cons_of_mem _ (List.mem_append_right _ h)) (by decide +kernel))
set_option maxRecDepth 20000 in
theorem gL_setMargins_X0_setMargins : GoodIn wsL_setMargins (wsV RL 21 RX0 yX0_setMargins wsX0_setMargins) := goodIn_app (goodIn_of _ (by decide +kernel)) ggL_setMargins_X0_setMargins
theorem dL_setMargins_0 : decode cL_setMargins 0 = .ok (.aload_n 0, 1) := by decide +kernel
theorem dL_setMargins_1 : decode cL_setMargins 1 = .ok (.iload_n 1, 1) := by decide +kernel
theorem dL_setMargins_2 : decode cL_setMargins 2 = .ok (.iload_n 2, 1) := by decide +kernel
theorem dL_setMargins_3 : decode cL_setMargins 3 = .ok (.iload_n 3, 1) := by decide +kernel
theorem dL_setMargins_4 : decode cL_setMargins 4 = .ok (.iload 4, 2) := by decide +kernel
theorem dL_setMargins_6 : decode cL_setMargins 6 = .ok (.invokevirtual 21, 3) := by decide +kernel
theorem dL_setMargins_9 : decode cL_setMargins 9 = .ok (.iconst 0, 1) := by decide +kernel
theorem dL_setMargins_10 : decode cL_setMargins 10 = .ok (.ireturn, 1) := by decide +kernel
theorem dL_setMargins_11 : decode cL_setMargins 11 = .ok (.astore 5, 2) := by decide +kernel
theorem dL_setMargins_13 : decode cL_setMargins 13 = .ok (.ldc 17, 2) := by decide +kernel
theorem dL_setMargins_15 : decode cL_setMargins 15 = .ok (.ireturn, 1) := by decide +kernel
theorem dL_setMargins_16 : decode cL_setMargins 16 = .ok (.astore 5, 2) := by decide +kernel
theorem dL_setMargins_18 : decode cL_setMargins 18 = .ok (.ldc 20, 2) := by decide +kernel
theorem dL_setMargins_20 : decode cL_setMargins 20 = .ok (.ireturn, 1) := by decide +kernel
set_option maxRecDepth 20000 in
theorem ggL_setEqual_X0_setEqual : GoodIn wsL_setEqual wsX0_setEqual := goodIn_ca (goodIn_r _ [7, 8, 9, 10, 11, 6, 12, 13, 14, 15, 16, 17, 18, 19, 20, 21, 22, 23, 24, 25, 26, 27, 28, 29, 30] (by decide +kernel) (by decide +kernel)) (goodIn_sub (fun _ h => List.mem_cons_of_mem _ (List.mem_append_right _ h)) (by decide +kernel))
set_option maxRecDepth 20000 in
theorem gL_setEqual_X0_setEqual : GoodIn wsL_setEqual (wsV RL 25 RX0 yX0_setEqual wsX0_setEqual) := goodIn_app (goodIn_of _ (by decide +kernel)) ggL_setEqual_X0_setEqual
theorem dL_setEqual_0 : decode cL_setEqual 0 = .ok (.aload_n 0, 1) := by decide +kernel
theorem dL_setEqual_1 : decode cL_setEqual 1 = .ok (.iload_n 1, 1) := by decide +kernel
theorem dL_setEqual_2 : decode cL_setEqual 2 = .ok (.iload_n 2, 1) := by decide +kernel
theorem dL_setEqual_3 : decode cL_setEqual 3 = .ok (.invokevirtual 25, 3) := by decide +kernel
theorem dL_setEqual_6 : decode cL_setEqual 6 = .ok (.iconst 0, 1) := by decide +kernel
theorem dL_setEqual_7 : decode cL_setEqual 7 = .ok (.ireturn, 1) := by decide +kernel
theorem dL_setEqual_8 : decode cL_setEqual 8 = .ok (.astore_n 3, 1) := by decide +kernel
theorem dL_setEqual_9 : decode cL_setEqual 9 = .ok (.ldc 20, 2) := by decide +kernel
theorem dL_setEqual_11 : decode cL_setEqual 11 = .ok (.ireturn, 1) := by decide +kernel
set_option maxRecDepth 20000 in
theorem ggL_act_X0_shift : GoodIn wsL_act wsX0_shift := goodIn_ca (goodIn_ca (goodIn_ca (goodIn_r _ [11, 12, 13, 14, 15, 16, 17, 18, 10, 19, 20, 21, 22, 23, 24, 25, 26, 27, 28, 29, 30, 31, 32, 33, 34, 35, 36, 37, 38, 39, 40, 41, 137, 138, 139, 140, 141, 142, 143, 144, 145, 146, 147, 148, 149, 150, 151, 152] (by decide +kernel) (by decide +kernel)) (goodIn_sub (fun _ h => List.mem_cons_of_mem _ (List.mem_append_left _ (List.mem_append_left _ (List.mem_append_right _ h)))) (by decide +kernel))) (goodIn_sub (fun _ h => List.mem_cons_of_mem _ (List.mem_append_left _ (List.mem_append_right _ h))) (by decide +kernel))) (goodIn_sub (fun _ h => List.mem_cons_of_mem _ (List.mem_append_right _ h)) (by decide +kernel))
set_option maxRecDepth 20000 in
theorem gL_act_X0_shift : GoodIn wsL_act (wsV RL 29 RX0 yX0_shift wsX0_shift) := goodIn_app (goodIn_of _ (by decide +kernel)) ggL_act_X0_shift
set_option maxRecDepth 20000 in
theorem ggL_act_X0_correct : GoodIn wsL_act wsX0_correct := goodIn_ca (goodIn_ca (goodIn_ca (goodIn_r _ [45, 12, 13, 16, 15, 17, 18, 10, 19, 20, 21, 22, 23, 24, 25, 26, 36, 37, 38, 32, 33, 34, 35, 27, 28, 29, 30, 31, 46, 47, 48, 49, 50, 39, 40, 41, 137, 138, 139, 140, 141, 142, 143, 144, 145, 146, 147, 148, 149, 150, 151, 152] (by decide +kernel) (by decide +kernel)) (goodIn_sub (fun _ h => List.mem_cons_of_mem _ (List.mem_append_left _ (List.mem_append_left _ (List.mem_append_right _ h)))) (by decide +kernel))) (goodIn_sub (fun _ h => List.mem_cons_of_mem _ (List.mem_append_left _ (List.mem_append_right _ h))) (by decide +kernel))) (goodIn_sub (fun _ h => List.mem_cons_of_mem _ (List.mem_append_right _ h)) (by decide +kernel))
set_option maxRecDepth 20000 in
theorem gL_act_X0_correct : GoodIn wsL_act (wsV RL 33 RX0 yX0_correct wsX0_correct) := goodIn_app (goodIn_of _ (by decide +kernel)) ggL_act_X0_correct
set_option maxRecDepth 20000 in
theorem ggL_act_X0_run : GoodIn wsL_act wsX0_run := goodIn_ca (goodIn_r _ [54, 55, 56, 17, 18, 10, 19, 20, 21, 57, 58, 59, 60, 12, 61, 62, 63, 64, 13, 15, 36, 37, 38, 65, 66, 67, 68, 69, 70, 71, 16, 14, 72, 73, 74, 75, 76, 77, 78, 79, 80, 81, 82, 83, 84, 85, 86, 87, 39, 40, 41, 88, 89, 90, 91, 92, 93, 94, 95, 96, 97, 98, 99, 100, 101, 102, 103, 104, 105, 106, 107, 108, 109, 110, 111, 112, 113, 114, 115, 116, 117, 118, 119, 120, 121, 122, 123, 124, 125, 126, 127, 128, 129, 130, 131, 132, 137, 138, 139, 140, 141, 142, 143, 144, 145, 146, 147, 148, 149, 150, 151, 152] (by decide +kernel) (by decide +kernel)) (goodIn_sub (fun _ h => List.mem_cons_of_mem _ (List.mem_append_left _ (List.mem_append_left _ (List.mem_append_right _ h)))) (by decide +kernel))
set_option maxRecDepth 20000 in
theorem gL_act_X0_run : GoodIn wsL_act (wsV RL 37 RX0 yX0_run wsX0_run) := goodIn_app (goodIn_of _ (by decide +kernel)) ggL_act_X0_run
set_option maxRecDepth 20000 in
theorem ggL_act_X0_takeHoliday : GoodIn wsL_act wsX0_takeHoliday := goodIn_ca (goodIn_ca (goodIn_ca (goodIn_r _ [136, 50, 17, 18, 10, 19, 20, 21, 22, 23, 24, 25, 26, 46, 47, 48, 49, 12, 13, 16, 36, 37, 38, 27, 28, 29, 30, 31, 39, 40, 41, 137, 138, 139, 140, 141, 142, 143, 144, 145, 146, 147, 148, 149, 150, 151, 152] (by decide +kernel) (by decide +kernel)) (goodIn_sub (fun _ h => List.mem_cons_of_mem _ (List.mem_append_left _ (List.mem_append_left _ (List.mem_append_right _ h)))) (by decide +kernel))) (goodIn_sub (fun _ h => List.mem_cons_of_mem _ (List.mem_append_left _ (List.mem_append_right _ h))) (by decide +kernel))) (goodIn_sub (fun _ h => List.mem_cons_of_mem _ (List.mem_append_right _ h)) (by decide +kernel))
set_option maxRecDepth 20000 in
theorem gL_act_X0_takeHoliday : GoodIn wsL_act (wsV RL 41 RX0 yX0_takeHoliday wsX0_takeHoliday) := goodIn_app (goodIn_of _ (by decide +kernel)) ggL_act_X0_takeHoliday
theorem dL_act_0 : decode cL_act 0 = .ok (.iload_n 1, 1) := by decide +kernel
theorem dL_act_1 : decode cL_act 1 = .ok (.ifCond .ne 16, 3) := by decide +kernel
theorem dL_act_4 : decode cL_act 4 = .ok (.aload_n 0, 1) := by decide +kernel
theorem dL_act_5 : decode cL_act 5 = .ok (.iload_n 2, 1) := by decide +kernel
theorem dL_act_6 : decode cL_act 6 = .ok (.iload_n 3, 1) := by decide +kernel
theorem dL_act_7 : decode cL_act 7 = .ok (.iload 4, 2) := by decide +kernel
theorem dL_act_9 : decode cL_act 9 = .ok (.iload 5, 2) := by decide +kernel
theorem dL_act_11 : decode cL_act 11 = .ok (.invokevirtual 29, 3) := by decide +kernel
theorem dL_act_14 : decode cL_act 14 = .ok (.goto 36, 3) := by decide +kernel
theorem dL_act_17 : decode cL_act 17 = .ok (.iload_n 1, 1) := by decide +kernel
theorem dL_act_18 : decode cL_act 18 = .ok (.iconst 1, 1) := by decide +kernel
theorem dL_act_19 : decode cL_act 19 = .ok (.if_icmp .ne 12, 3) := by decide +kernel
theorem dL_act_22 : decode cL_act 22 = .ok (.aload_n 0, 1) := by decide +kernel
theorem dL_act_23 : decode cL_act 23 = .ok (.iload_n 2, 1) := by decide +kernel
theorem dL_act_24 : decode cL_act 24 = .ok (.iload_n 3, 1) := by decide +kernel
theorem dL_act_25 : decode cL_act 25 = .ok (.invokevirtual 33, 3) := by decide +kernel
theorem dL_act_28 : decode cL_act 28 = .ok (.goto 22, 3) := by decide +kernel
theorem dL_act_31 : decode cL_act 31 = .ok (.iload_n 1, 1) := by decide +kernel
theorem dL_act_32 : decode cL_act 32 = .ok (.iconst 2, 1) := by decide +kernel
theorem dL_act_33 : decode cL_act 33 = .ok (.if_icmp .ne 11, 3) := by decide +kernel
theorem dL_act_36 : decode cL_act 36 = .ok (.aload_n 0, 1) := by decide +kernel
theorem dL_act_37 : decode cL_act 37 = .ok (.iload_n 2, 1) := by decide +kernel
theorem dL_act_38 : decode cL_act 38 = .ok (.invokevirtual 37, 3) := by decide +kernel
theorem dL_act_41 : decode cL_act 41 = .ok (.goto 9, 3) := by decide +kernel
theorem dL_act_44 : decode cL_act 44 = .ok (.aload_n 0, 1) := by decide +kernel
theorem dL_act_45 : decode cL_act 45 = .ok (.iload_n 2, 1) := by decide +kernel
theorem dL_act_46 : decode cL_act 46 = .ok (.iload_n 3, 1) := by decide +kernel
theorem dL_act_47 : decode cL_act 47 = .ok (.invokevirtual 41, 3) := by decide +kernel
theorem dL_act_50 : decode cL_act 50 = .ok (.ireturn, 1) := by decide +kernel
theorem dL_act_51 : decode cL_act 51 = .ok (.astore 6, 2) := by decide +kernel
theorem dL_act_53 : decode cL_act 53 = .ok (.ldc 17, 2) := by decide +kernel
theorem dL_act_55 : decode cL_act 55 = .ok (.ireturn, 1) := by decide +kernel
theorem dL_act_56 : decode cL_act 56 = .ok (.astore 6, 2) := by decide +kernel
theorem dL_act_58 : decode cL_act 58 = .ok (.ldc 20, 2) := by decide +kernel
theorem dL_act_60 : decode cL_act 60 = .ok (.ireturn, 1) := by decide +kernel
theorem dL_act_61 : decode cL_act 61 = .ok (.astore 6, 2) := by decide +kernel
theorem dL_act_63 : decode cL_act 63 = .ok (.ldc 46, 2) := by decide +kernel
theorem dL_act_65 : decode cL_act 65 = .ok (.ireturn, 1) := by decide +kernel
set_option maxRecDepth 20000 in
theorem ggL_of_X0_hours : GoodIn wsL_of wsX0_hours := goodIn_ca (goodIn_r _ [7, 8, 9, 10, 11, 6, 12, 13, 14, 15, 16, 17, 18, 19, 20, 21, 22, 23, 24, 25, 26, 151, 152, 153, 154, 155, 156, 157, 158, 159, 160, 161, 162, 163, 164, 165, 166] (by decide +kernel) (by decide +kernel)) (goodIn_sub (fun _ h => List.mem_cons_of_mem _ (List.mem_append_right _ h)) (by decide +kernel))
set_option maxRecDepth 20000 in
theorem gL_of_X0_hours : GoodIn wsL_of (wsV RL 47 RX0 yX0_hours wsX0_hours) := goodIn_app (goodIn_of _ (by decide +kernel)) ggL_of_X0_hours
set_option maxRecDepth 20000 in
theorem ggL_of_X0_overtime : GoodIn wsL_of wsX0_overtime := goodIn_ca (goodIn_r _ [30, 8, 10, 11, 6, 12, 13, 14, 31, 32, 33, 34, 9, 35, 20, 36, 37, 38, 39, 40, 41, 42, 43, 44, 45, 46, 19, 21, 22, 23, 24, 25, 26, 47, 48, 49, 15, 16, 17, 18, 50, 51, 52, 53, 54, 55, 56, 151, 152, 153, 154, 155, 156, 157, 158, 159, 160, 161, 162, 163, 164, 165, 166] (by decide +kernel) (by decide +kernel)) (goodIn_sub (fun _ h => List.mem_cons_of_mem _ (List.mem_append_right _ h)) (by decide +kernel))
set_option maxRecDepth 20000 in
theorem gL_of_X0_overtime : GoodIn wsL_of (wsV RL 50 RX0 yX0_overtime wsX0_overtime) := goodIn_app (goodIn_of _ (by decide +kernel)) ggL_of_X0_overtime
set_option maxRecDepth 20000 in
theorem ggL_of_X0_hasEqual : GoodIn wsL_of wsX0_hasEqual := goodIn_ca (goodIn_r _ [60, 10, 11, 6, 12, 13, 14, 61, 62, 63, 64, 65, 66, 67, 68, 69, 70, 8, 19, 71, 9, 20, 21, 22, 23, 24, 25, 26, 151, 152, 153, 154, 155, 156, 157, 158, 159, 160, 161, 162, 163, 164, 165, 166] (by decide +kernel) (by decide +kernel)) (goodIn_sub (fun _ h => List.mem_cons_of_mem _ (List.mem_append_right _ h)) (by decide +kernel))
set_option maxRecDepth 20000 in
theorem gL_of_X0_hasEqual : GoodIn wsL_of (wsV RL 53 RX0 yX0_hasEqual wsX0_hasEqual) := goodIn_app (goodIn_of _ (by decide +kernel)) ggL_of_X0_hasEqual
set_option maxRecDepth 20000 in
theorem ggL_of_X0_payOf : GoodIn wsL_of wsX0_payOf := goodIn_ca (goodIn_r _ [75, 8, 10, 11, 6, 12, 13, 14, 76, 77, 78, 79, 9, 19, 71, 20, 31, 32, 33, 34, 35, 36, 37, 38, 39, 40, 41, 42, 43, 44, 45, 46, 21, 22, 23, 24, 25, 26, 47, 48, 49, 15, 16, 17, 18, 50, 51, 52, 53, 54, 55, 56, 80, 81, 82, 83, 84, 85, 61, 62, 63, 64, 65, 66, 67, 68, 69, 70, 151, 152, 153, 154, 155, 156, 157, 158, 159, 160, 161, 162, 163, 164, 165, 166] (by decide +kernel) (by decide +kernel)) (goodIn_sub (fun _ h => List.mem_cons_of_mem _ (List.mem_append_right _ h)) (by decide +kernel))
set_option maxRecDepth 20000 in
theorem gL_of_X0_payOf : GoodIn wsL_of (wsV RL 57 RX0 yX0_payOf wsX0_payOf) := goodIn_app (goodIn_of _ (by decide +kernel)) ggL_of_X0_payOf
set_option maxRecDepth 20000 in
theorem ggL_of_X0_chargeOf : GoodIn wsL_of wsX0_chargeOf := goodIn_ca (goodIn_r _ [89, 8, 71, 20, 10, 11, 6, 12, 13, 14, 21, 22, 23, 24, 25, 26, 90, 91, 92, 93, 94, 95, 96, 97, 98, 99, 100, 9, 101, 102, 103, 104, 76, 77, 78, 79, 19, 31, 32, 33, 34, 35, 36, 37, 38, 39, 40, 41, 42, 43, 44, 45, 46, 47, 48, 49, 15, 16, 17, 18, 50, 51, 52, 53, 54, 55, 56, 80, 81, 82, 83, 84, 85, 61, 62, 63, 64, 65, 66, 67, 68, 69, 70, 105, 106, 107, 151, 152, 153, 154, 155, 156, 157, 158, 159, 160, 161, 162, 163, 164, 165, 166] (by decide +kernel) (by decide +kernel)) (goodIn_sub (fun _ h => List.mem_cons_of_mem _ (List.mem_append_right _ h)) (by decide +kernel))
set_option maxRecDepth 20000 in
theorem gL_of_X0_chargeOf : GoodIn wsL_of (wsV RL 60 RX0 yX0_chargeOf wsX0_chargeOf) := goodIn_app (goodIn_of _ (by decide +kernel)) ggL_of_X0_chargeOf
set_option maxRecDepth 20000 in
theorem ggL_of_X0_pay : GoodIn wsL_of wsX0_pay := goodIn_ca (goodIn_r _ [111, 10, 11, 6, 12, 13, 14, 112, 113, 114, 115, 8, 15, 16, 17, 18, 19, 20, 21, 22, 23, 24, 25, 26, 76, 77, 78, 79, 9, 71, 31, 32, 33, 34, 35, 36, 37, 38, 39, 40, 41, 42, 43, 44, 45, 46, 47, 48, 49, 50, 51, 52, 53, 54, 55, 56, 80, 81, 82, 83, 84, 85, 61, 62, 63, 64, 65, 66, 67, 68, 69, 70, 151, 152, 153, 154, 155, 156, 157, 158, 159, 160, 161, 162, 163, 164, 165, 166] (by decide +kernel) (by decide +kernel)) (goodIn_sub (fun _ h => List.mem_cons_of_mem _ (List.mem_append_right _ h)) (by decide +kernel))
set_option maxRecDepth 20000 in
theorem gL_of_X0_pay : GoodIn wsL_of (wsV RL 63 RX0 yX0_pay wsX0_pay) := goodIn_app (goodIn_of _ (by decide +kernel)) ggL_of_X0_pay
set_option maxRecDepth 20000 in
theorem ggL_of_X0_payByHours : GoodIn wsL_of wsX0_payByHours := goodIn_ca (goodIn_r _ [119, 8, 19, 20, 71, 9, 10, 11, 6, 12, 13, 14, 21, 22, 23, 80, 81, 82, 83, 84, 85, 61, 62, 63, 64, 65, 66, 67, 68, 69, 70, 24, 25, 26, 151, 152, 153, 154, 155, 156, 157, 158, 159, 160, 161, 162, 163, 164, 165, 166] (by decide +kernel) (by decide +kernel)) (goodIn_sub (fun _ h => List.mem_cons_of_mem _ (List.mem_append_right _ h)) (by decide +kernel))
set_option maxRecDepth 20000 in
theorem gL_of_X0_payByHours : GoodIn wsL_of (wsV RL 66 RX0 yX0_payByHours wsX0_payByHours) := goodIn_app (goodIn_of _ (by decide +kernel)) ggL_of_X0_payByHours
set_option maxRecDepth 20000 in
theorem ggL_of_X0_paid : GoodIn wsL_of wsX0_paid := goodIn_ca (goodIn_r _ [123, 124, 10, 11, 6, 12, 13, 14, 21, 22, 23, 151, 152, 153, 154, 155, 156, 157, 158, 159, 160, 161, 162, 163, 164, 165, 166] (by decide +kernel) (by decide +kernel)) (goodIn_sub (fun _ h => List.mem_cons_of_mem _ (List.mem_append_right _ h)) (by decide +kernel))
set_option maxRecDepth 20000 in
theorem gL_of_X0_paid : GoodIn wsL_of (wsV RL 69 RX0 yX0_paid wsX0_paid) := goodIn_app (goodIn_of _ (by decide +kernel)) ggL_of_X0_paid
set_option maxRecDepth 20000 in
theorem ggL_of_X0_billed : GoodIn wsL_of wsX0_billed := goodIn_ca (goodIn_r _ [128, 129, 10, 11, 6, 12, 13, 14, 21, 22, 23, 151, 152, 153, 154, 155, 156, 157, 158, 159, 160, 161, 162, 163, 164, 165, 166] (by decide +kernel) (by decide +kernel)) (goodIn_sub (fun _ h => List.mem_cons_of_mem _ (List.mem_append_right _ h)) (by decide +kernel))
set_option maxRecDepth 20000 in
theorem gL_of_X0_billed : GoodIn wsL_of (wsV RL 72 RX0 yX0_billed wsX0_billed) := goodIn_app (goodIn_of _ (by decide +kernel)) ggL_of_X0_billed
set_option maxRecDepth 20000 in
theorem ggL_of_X0_owing : GoodIn wsL_of wsX0_owing := goodIn_ca (goodIn_r _ [133, 124, 10, 11, 6, 12, 13, 14, 112, 113, 114, 115, 8, 15, 16, 17, 18, 19, 20, 21, 22, 23, 24, 25, 26, 76, 77, 78, 79, 9, 71, 31, 32, 33, 34, 35, 36, 37, 38, 39, 40, 41, 42, 43, 44, 45, 46, 47, 48, 49, 50, 51, 52, 53, 54, 55, 56, 80, 81, 82, 83, 84, 85, 61, 62, 63, 64, 65, 66, 67, 68, 69, 70, 151, 152, 153, 154, 155, 156, 157, 158, 159, 160, 161, 162, 163, 164, 165, 166] (by decide +kernel) (by decide +kernel)) (goodIn_sub (fun _ h => List.mem_cons_of_mem _ (List.mem_append_right _ h)) (by decide +kernel))
set_option maxRecDepth 20000 in
theorem gL_of_X0_owing : GoodIn wsL_of (wsV RL 75 RX0 yX0_owing wsX0_owing) := goodIn_app (goodIn_of _ (by decide +kernel)) ggL_of_X0_owing
set_option maxRecDepth 20000 in
theorem ggL_of_X0_toBill : GoodIn wsL_of wsX0_toBill := goodIn_ca (goodIn_r _ [137, 129, 10, 11, 6, 12, 13, 14, 138, 139, 140, 141, 8, 90, 91, 92, 93, 94, 95, 96, 97, 98, 99, 100, 9, 101, 102, 103, 104, 71, 20, 21, 22, 23, 24, 25, 26, 76, 77, 78, 79, 19, 31, 32, 33, 34, 35, 36, 37, 38, 39, 40, 41, 42, 43, 44, 45, 46, 47, 48, 49, 15, 16, 17, 18, 50, 51, 52, 53, 54, 55, 56, 80, 81, 82, 83, 84, 85, 61, 62, 63, 64, 65, 66, 67, 68, 69, 70, 105, 106, 107, 151, 152, 153, 154, 155, 156, 157, 158, 159, 160, 161, 162, 163, 164, 165, 166] (by decide +kernel) (by decide +kernel)) (goodIn_sub (fun _ h => List.mem_cons_of_mem _ (List.mem_append_right _ h)) (by decide +kernel))
set_option maxRecDepth 20000 in
theorem gL_of_X0_toBill : GoodIn wsL_of (wsV RL 78 RX0 yX0_toBill wsX0_toBill) := goodIn_app (goodIn_of _ (by decide +kernel)) ggL_of_X0_toBill
set_option maxRecDepth 20000 in
theorem ggL_of_X0_holiday : GoodIn wsL_of wsX0_holiday := goodIn_ca (goodIn_r _ [145, 10, 11, 6, 12, 13, 14, 146, 147, 148, 149, 8, 19, 9, 150, 21, 22, 23, 151, 152, 153, 154, 155, 156, 157, 158, 159, 160, 161, 162, 163, 164, 165, 166] (by decide +kernel) (by decide +kernel)) (goodIn_sub (fun _ h => List.mem_cons_of_mem _ (List.mem_append_right _ h)) (by decide +kernel))
set_option maxRecDepth 20000 in
theorem gL_of_X0_holiday : GoodIn wsL_of (wsV RL 81 RX0 yX0_holiday wsX0_holiday) := goodIn_app (goodIn_of _ (by decide +kernel)) ggL_of_X0_holiday
theorem dL_of_0 : decode cL_of 0 = .ok (.iload_n 1, 1) := by decide +kernel
theorem dL_of_1 : decode cL_of 1 = .ok (.ifCond .ne 12, 3) := by decide +kernel
theorem dL_of_4 : decode cL_of 4 = .ok (.aload_n 0, 1) := by decide +kernel
theorem dL_of_5 : decode cL_of 5 = .ok (.iload_n 2, 1) := by decide +kernel
theorem dL_of_6 : decode cL_of 6 = .ok (.iload_n 3, 1) := by decide +kernel
theorem dL_of_7 : decode cL_of 7 = .ok (.invokevirtual 47, 3) := by decide +kernel
theorem dL_of_10 : decode cL_of 10 = .ok (.goto 160, 3) := by decide +kernel
theorem dL_of_13 : decode cL_of 13 = .ok (.iload_n 1, 1) := by decide +kernel
theorem dL_of_14 : decode cL_of 14 = .ok (.iconst 1, 1) := by decide +kernel
theorem dL_of_15 : decode cL_of 15 = .ok (.if_icmp .ne 11, 3) := by decide +kernel
theorem dL_of_18 : decode cL_of 18 = .ok (.aload_n 0, 1) := by decide +kernel
theorem dL_of_19 : decode cL_of 19 = .ok (.iload_n 2, 1) := by decide +kernel
theorem dL_of_20 : decode cL_of 20 = .ok (.invokevirtual 50, 3) := by decide +kernel
theorem dL_of_23 : decode cL_of 23 = .ok (.goto 147, 3) := by decide +kernel
theorem dL_of_26 : decode cL_of 26 = .ok (.iload_n 1, 1) := by decide +kernel
theorem dL_of_27 : decode cL_of 27 = .ok (.iconst 2, 1) := by decide +kernel
theorem dL_of_28 : decode cL_of 28 = .ok (.if_icmp .ne 22, 3) := by decide +kernel
theorem dL_of_31 : decode cL_of 31 = .ok (.aload_n 0, 1) := by decide +kernel
theorem dL_of_32 : decode cL_of 32 = .ok (.iload_n 2, 1) := by decide +kernel
theorem dL_of_33 : decode cL_of 33 = .ok (.iload_n 3, 1) := by decide +kernel
theorem dL_of_34 : decode cL_of 34 = .ok (.iload 4, 2) := by decide +kernel
theorem dL_of_36 : decode cL_of 36 = .ok (.invokevirtual 53, 3) := by decide +kernel
theorem dL_of_39 : decode cL_of 39 = .ok (.ifCond .eq 7, 3) := by decide +kernel
theorem dL_of_42 : decode cL_of 42 = .ok (.iconst 1, 1) := by decide +kernel
theorem dL_of_43 : decode cL_of 43 = .ok (.goto 127, 3) := by decide +kernel
theorem dL_of_46 : decode cL_of 46 = .ok (.iconst 0, 1) := by decide +kernel
theorem dL_of_47 : decode cL_of 47 = .ok (.goto 123, 3) := by decide +kernel
theorem dL_of_50 : decode cL_of 50 = .ok (.iload_n 1, 1) := by decide +kernel
theorem dL_of_51 : decode cL_of 51 = .ok (.iconst 3, 1) := by decide +kernel
theorem dL_of_52 : decode cL_of 52 = .ok (.if_icmp .ne 11, 3) := by decide +kernel
theorem dL_of_55 : decode cL_of 55 = .ok (.aload_n 0, 1) := by decide +kernel
theorem dL_of_56 : decode cL_of 56 = .ok (.iload_n 2, 1) := by decide +kernel
theorem dL_of_57 : decode cL_of 57 = .ok (.invokevirtual 57, 3) := by decide +kernel
theorem dL_of_60 : decode cL_of 60 = .ok (.goto 110, 3) := by decide +kernel
theorem dL_of_63 : decode cL_of 63 = .ok (.iload_n 1, 1) := by decide +kernel
theorem dL_of_64 : decode cL_of 64 = .ok (.iconst 4, 1) := by decide +kernel
theorem dL_of_65 : decode cL_of 65 = .ok (.if_icmp .ne 11, 3) := by decide +kernel
theorem dL_of_68 : decode cL_of 68 = .ok (.aload_n 0, 1) := by decide +kernel
theorem dL_of_69 : decode cL_of 69 = .ok (.iload_n 2, 1) := by decide +kernel
theorem dL_of_70 : decode cL_of 70 = .ok (.invokevirtual 60, 3) := by decide +kernel
theorem dL_of_73 : decode cL_of 73 = .ok (.goto 97, 3) := by decide +kernel
theorem dL_of_76 : decode cL_of 76 = .ok (.iload_n 1, 1) := by decide +kernel
theorem dL_of_77 : decode cL_of 77 = .ok (.iconst 5, 1) := by decide +kernel
theorem dL_of_78 : decode cL_of 78 = .ok (.if_icmp .ne 12, 3) := by decide +kernel
theorem dL_of_81 : decode cL_of 81 = .ok (.aload_n 0, 1) := by decide +kernel
theorem dL_of_82 : decode cL_of 82 = .ok (.iload_n 2, 1) := by decide +kernel
theorem dL_of_83 : decode cL_of 83 = .ok (.iload_n 3, 1) := by decide +kernel
theorem dL_of_84 : decode cL_of 84 = .ok (.invokevirtual 63, 3) := by decide +kernel
theorem dL_of_87 : decode cL_of 87 = .ok (.goto 83, 3) := by decide +kernel
theorem dL_of_90 : decode cL_of 90 = .ok (.iload_n 1, 1) := by decide +kernel
theorem dL_of_91 : decode cL_of 91 = .ok (.bipush 6, 2) := by decide +kernel
theorem dL_of_93 : decode cL_of 93 = .ok (.if_icmp .ne 12, 3) := by decide +kernel
theorem dL_of_96 : decode cL_of 96 = .ok (.aload_n 0, 1) := by decide +kernel
theorem dL_of_97 : decode cL_of 97 = .ok (.iload_n 2, 1) := by decide +kernel
theorem dL_of_98 : decode cL_of 98 = .ok (.iload_n 3, 1) := by decide +kernel
theorem dL_of_99 : decode cL_of 99 = .ok (.invokevirtual 66, 3) := by decide +kernel
theorem dL_of_102 : decode cL_of 102 = .ok (.goto 68, 3) := by decide +kernel
theorem dL_of_105 : decode cL_of 105 = .ok (.iload_n 1, 1) := by decide +kernel
theorem dL_of_106 : decode cL_of 106 = .ok (.bipush 7, 2) := by decide +kernel
theorem dL_of_108 : decode cL_of 108 = .ok (.if_icmp .ne 12, 3) := by decide +kernel
theorem dL_of_111 : decode cL_of 111 = .ok (.aload_n 0, 1) := by decide +kernel
theorem dL_of_112 : decode cL_of 112 = .ok (.iload_n 2, 1) := by decide +kernel
theorem dL_of_113 : decode cL_of 113 = .ok (.iload_n 3, 1) := by decide +kernel
theorem dL_of_114 : decode cL_of 114 = .ok (.invokevirtual 69, 3) := by decide +kernel
theorem dL_of_117 : decode cL_of 117 = .ok (.goto 53, 3) := by decide +kernel
theorem dL_of_120 : decode cL_of 120 = .ok (.iload_n 1, 1) := by decide +kernel
theorem dL_of_121 : decode cL_of 121 = .ok (.bipush 8, 2) := by decide +kernel
theorem dL_of_123 : decode cL_of 123 = .ok (.if_icmp .ne 12, 3) := by decide +kernel
theorem dL_of_126 : decode cL_of 126 = .ok (.aload_n 0, 1) := by decide +kernel
theorem dL_of_127 : decode cL_of 127 = .ok (.iload_n 2, 1) := by decide +kernel
theorem dL_of_128 : decode cL_of 128 = .ok (.iload_n 3, 1) := by decide +kernel
theorem dL_of_129 : decode cL_of 129 = .ok (.invokevirtual 72, 3) := by decide +kernel
theorem dL_of_132 : decode cL_of 132 = .ok (.goto 38, 3) := by decide +kernel
theorem dL_of_135 : decode cL_of 135 = .ok (.iload_n 1, 1) := by decide +kernel
theorem dL_of_136 : decode cL_of 136 = .ok (.bipush 9, 2) := by decide +kernel
theorem dL_of_138 : decode cL_of 138 = .ok (.if_icmp .ne 12, 3) := by decide +kernel
theorem dL_of_141 : decode cL_of 141 = .ok (.aload_n 0, 1) := by decide +kernel
theorem dL_of_142 : decode cL_of 142 = .ok (.iload_n 2, 1) := by decide +kernel
theorem dL_of_143 : decode cL_of 143 = .ok (.iload_n 3, 1) := by decide +kernel
theorem dL_of_144 : decode cL_of 144 = .ok (.invokevirtual 75, 3) := by decide +kernel
theorem dL_of_147 : decode cL_of 147 = .ok (.goto 23, 3) := by decide +kernel
theorem dL_of_150 : decode cL_of 150 = .ok (.iload_n 1, 1) := by decide +kernel
theorem dL_of_151 : decode cL_of 151 = .ok (.bipush 10, 2) := by decide +kernel
theorem dL_of_153 : decode cL_of 153 = .ok (.if_icmp .ne 12, 3) := by decide +kernel
theorem dL_of_156 : decode cL_of 156 = .ok (.aload_n 0, 1) := by decide +kernel
theorem dL_of_157 : decode cL_of 157 = .ok (.iload_n 2, 1) := by decide +kernel
theorem dL_of_158 : decode cL_of 158 = .ok (.iload_n 3, 1) := by decide +kernel
theorem dL_of_159 : decode cL_of 159 = .ok (.invokevirtual 78, 3) := by decide +kernel
theorem dL_of_162 : decode cL_of 162 = .ok (.goto 8, 3) := by decide +kernel
theorem dL_of_165 : decode cL_of 165 = .ok (.aload_n 0, 1) := by decide +kernel
theorem dL_of_166 : decode cL_of 166 = .ok (.iload_n 2, 1) := by decide +kernel
theorem dL_of_167 : decode cL_of 167 = .ok (.invokevirtual 81, 3) := by decide +kernel
theorem dL_of_170 : decode cL_of 170 = .ok (.ireturn, 1) := by decide +kernel
theorem dL_of_171 : decode cL_of 171 = .ok (.astore 5, 2) := by decide +kernel
theorem dL_of_173 : decode cL_of 173 = .ok (.ldc 17, 2) := by decide +kernel
theorem dL_of_175 : decode cL_of 175 = .ok (.ireturn, 1) := by decide +kernel
theorem dL_hours_0 : decode cL_hours 0 = .ok (.aload_n 0, 1) := by decide +kernel
theorem dL_hours_1 : decode cL_hours 1 = .ok (.iload_n 1, 1) := by decide +kernel
theorem dL_hours_2 : decode cL_hours 2 = .ok (.iaload, 1) := by decide +kernel
theorem dL_hours_3 : decode cL_hours 3 = .ok (.bipush 14, 2) := by decide +kernel
theorem dL_hours_5 : decode cL_hours 5 = .ok (.ishr, 1) := by decide +kernel
theorem dL_hours_6 : decode cL_hours 6 = .ok (.ireturn, 1) := by decide +kernel
theorem dL_day_0 : decode cL_day 0 = .ok (.aload_n 0, 1) := by decide +kernel
theorem dL_day_1 : decode cL_day 1 = .ok (.iload_n 1, 1) := by decide +kernel
theorem dL_day_2 : decode cL_day 2 = .ok (.iaload, 1) := by decide +kernel
theorem dL_day_3 : decode cL_day 3 = .ok (.bipush 6, 2) := by decide +kernel
theorem dL_day_5 : decode cL_day 5 = .ok (.ishr, 1) := by decide +kernel
theorem dL_day_6 : decode cL_day 6 = .ok (.sipush 255, 3) := by decide +kernel
theorem dL_day_9 : decode cL_day 9 = .ok (.iand, 1) := by decide +kernel
theorem dL_day_10 : decode cL_day 10 = .ok (.ireturn, 1) := by decide +kernel
set_option maxRecDepth 20000 in
theorem ggL_all_X0_shifts : GoodIn wsL_all wsX0_shifts := goodIn_r _ [9, 10, 124, 125, 126, 127, 128, 129, 130, 131, 132, 133, 134, 135, 136, 137, 138, 139] (by decide +kernel) (by decide +kernel)
set_option maxRecDepth 20000 in
theorem gL_all_X0_shifts : GoodIn wsL_all (wsV RL 84 RX0 yX0_shifts wsX0_shifts) := goodIn_app (goodIn_of _ (by decide +kernel)) ggL_all_X0_shifts
set_option maxRecDepth 20000 in
theorem ggL_all_X0_payOf : GoodIn wsL_all wsX0_payOf := goodIn_ca (goodIn_r _ [14, 10, 15, 16, 8, 17, 18, 19, 20, 21, 22, 23, 24, 25, 26, 27, 28, 29, 30, 31, 32, 33, 34, 35, 36, 37, 38, 39, 40, 41, 42, 43, 44, 45, 46, 47, 48, 49, 50, 51, 52, 53, 54, 55, 56, 57, 58, 59, 60, 61, 62, 63, 64, 65, 66, 67, 68, 69, 70, 71, 72, 73, 74, 75, 76, 77, 78, 79, 124, 125, 126, 127, 128, 129, 130, 131, 132, 133, 134, 135, 136, 137, 138, 139] (by decide +kernel) (by decide +kernel)) (goodIn_sub (fun _ h => List.mem_cons_of_mem _ (List.mem_append_right _ h)) (by decide +kernel))
set_option maxRecDepth 20000 in
theorem gL_all_X0_payOf : GoodIn wsL_all (wsV RL 57 RX0 yX0_payOf wsX0_payOf) := goodIn_app (goodIn_of _ (by decide +kernel)) ggL_all_X0_payOf
set_option maxRecDepth 20000 in
theorem ggL_all_X0_chargeOf : GoodIn wsL_all wsX0_chargeOf := goodIn_ca (goodIn_r _ [83, 10, 26, 27, 15, 16, 8, 17, 18, 19, 44, 45, 46, 47, 48, 49, 84, 85, 86, 87, 88, 89, 90, 91, 92, 93, 94, 24, 95, 96, 97, 98, 20, 21, 22, 23, 25, 28, 29, 30, 31, 32, 33, 34, 35, 36, 37, 38, 39, 40, 41, 42, 43, 50, 51, 52, 53, 54, 55, 56, 57, 58, 59, 60, 61, 62, 63, 64, 65, 66, 67, 68, 69, 70, 71, 72, 73, 74, 75, 76, 77, 78, 79, 99, 100, 101, 124, 125, 126, 127, 128, 129, 130, 131, 132, 133, 134, 135, 136, 137, 138, 139] (by decide +kernel) (by decide +kernel)) (goodIn_sub (fun _ h => List.mem_cons_of_mem _ (List.mem_append_right _ h)) (by decide +kernel))
set_option maxRecDepth 20000 in
theorem gL_all_X0_chargeOf : GoodIn wsL_all (wsV RL 60 RX0 yX0_chargeOf wsX0_chargeOf) := goodIn_app (goodIn_of _ (by decide +kernel)) ggL_all_X0_chargeOf
set_option maxRecDepth 20000 in
theorem ggL_all_X0_holiday : GoodIn wsL_all wsX0_holiday := goodIn_ca (goodIn_r _ [105, 15, 16, 8, 17, 18, 19, 106, 107, 108, 109, 10, 25, 24, 110, 44, 45, 46, 124, 125, 126, 127, 128, 129, 130, 131, 132, 133, 134, 135, 136, 137, 138, 139] (by decide +kernel) (by decide +kernel)) (goodIn_sub (fun _ h => List.mem_cons_of_mem _ (List.mem_append_right _ h)) (by decide +kernel))
set_option maxRecDepth 20000 in
theorem gL_all_X0_holiday : GoodIn wsL_all (wsV RL 81 RX0 yX0_holiday wsX0_holiday) := goodIn_app (goodIn_of _ (by decide +kernel)) ggL_all_X0_holiday
set_option maxRecDepth 20000 in
theorem ggL_all_X0_paid : GoodIn wsL_all wsX0_paid := goodIn_ca (goodIn_r _ [114, 115, 15, 16, 8, 17, 18, 19, 44, 45, 46, 124, 125, 126, 127, 128, 129, 130, 131, 132, 133, 134, 135, 136, 137, 138, 139] (by decide +kernel) (by decide +kernel)) (goodIn_sub (fun _ h => List.mem_cons_of_mem _ (List.mem_append_right _ h)) (by decide +kernel))
set_option maxRecDepth 20000 in
theorem gL_all_X0_paid : GoodIn wsL_all (wsV RL 69 RX0 yX0_paid wsX0_paid) := goodIn_app (goodIn_of _ (by decide +kernel)) ggL_all_X0_paid
set_option maxRecDepth 20000 in
theorem ggL_all_X0_owing : GoodIn wsL_all wsX0_owing := goodIn_ca (goodIn_r _ [119, 115, 15, 16, 8, 17, 18, 19, 120, 121, 122, 123, 10, 53, 54, 55, 56, 25, 27, 44, 45, 46, 47, 48, 49, 20, 21, 22, 23, 24, 26, 28, 29, 30, 31, 32, 33, 34, 35, 36, 37, 38, 39, 40, 41, 42, 43, 50, 51, 52, 57, 58, 59, 60, 61, 62, 63, 64, 65, 66, 67, 68, 69, 70, 71, 72, 73, 74, 75, 76, 77, 78, 79, 124, 125, 126, 127, 128, 129, 130, 131, 132, 133, 134, 135, 136, 137, 138, 139] (by decide +kernel) (by decide +kernel)) (goodIn_sub (fun _ h => List.mem_cons_of_mem _ (List.mem_append_right _ h)) (by decide +kernel))
set_option maxRecDepth 20000 in
theorem gL_all_X0_owing : GoodIn wsL_all (wsV RL 75 RX0 yX0_owing wsX0_owing) := goodIn_app (goodIn_of _ (by decide +kernel)) ggL_all_X0_owing
theorem dL_all_0 : decode cL_all 0 = .ok (.aload_n 0, 1) := by decide +kernel
theorem dL_all_1 : decode cL_all 1 = .ok (.invokevirtual 84, 3) := by decide +kernel
theorem dL_all_4 : decode cL_all 4 = .ok (.i2l, 1) := by decide +kernel
theorem dL_all_5 : decode cL_all 5 = .ok (.lstore_n 2, 1) := by decide +kernel
theorem dL_all_6 : decode cL_all 6 = .ok (.iconst 0, 1) := by decide +kernel
theorem dL_all_7 : decode cL_all 7 = .ok (.istore 4, 2) := by decide +kernel
theorem dL_all_9 : decode cL_all 9 = .ok (.iload 4, 2) := by decide +kernel
theorem dL_all_11 : decode cL_all 11 = .ok (.aload_n 1, 1) := by decide +kernel
theorem dL_all_12 : decode cL_all 12 = .ok (.iconst 0, 1) := by decide +kernel
theorem dL_all_13 : decode cL_all 13 = .ok (.iaload, 1) := by decide +kernel
theorem dL_all_14 : decode cL_all 14 = .ok (.if_icmp .ge 35, 3) := by decide +kernel
theorem dL_all_17 : decode cL_all 17 = .ok (.ldc2_w 88, 3) := by decide +kernel
theorem dL_all_20 : decode cL_all 20 = .ok (.lload_n 2, 1) := by decide +kernel
theorem dL_all_21 : decode cL_all 21 = .ok (.lmul, 1) := by decide +kernel
theorem dL_all_22 : decode cL_all 22 = .ok (.aload_n 0, 1) := by decide +kernel
theorem dL_all_23 : decode cL_all 23 = .ok (.iload 4, 2) := by decide +kernel
theorem dL_all_25 : decode cL_all 25 = .ok (.invokevirtual 57, 3) := by decide +kernel
theorem dL_all_28 : decode cL_all 28 = .ok (.i2l, 1) := by decide +kernel
theorem dL_all_29 : decode cL_all 29 = .ok (.ladd, 1) := by decide +kernel
theorem dL_all_30 : decode cL_all 30 = .ok (.ldc2_w 90, 3) := by decide +kernel
theorem dL_all_33 : decode cL_all 33 = .ok (.aload_n 0, 1) := by decide +kernel
theorem dL_all_34 : decode cL_all 34 = .ok (.iload 4, 2) := by decide +kernel
theorem dL_all_36 : decode cL_all 36 = .ok (.invokevirtual 60, 3) := by decide +kernel
theorem dL_all_39 : decode cL_all 39 = .ok (.i2l, 1) := by decide +kernel
theorem dL_all_40 : decode cL_all 40 = .ok (.lmul, 1) := by decide +kernel
theorem dL_all_41 : decode cL_all 41 = .ok (.ladd, 1) := by decide +kernel
theorem dL_all_42 : decode cL_all 42 = .ok (.lstore_n 2, 1) := by decide +kernel
theorem dL_all_43 : decode cL_all 43 = .ok (.iinc 4 1, 3) := by decide +kernel
theorem dL_all_46 : decode cL_all 46 = .ok (.goto (-37), 3) := by decide +kernel
theorem dL_all_49 : decode cL_all 49 = .ok (.iconst 0, 1) := by decide +kernel
theorem dL_all_50 : decode cL_all 50 = .ok (.istore 4, 2) := by decide +kernel
theorem dL_all_52 : decode cL_all 52 = .ok (.iload 4, 2) := by decide +kernel
theorem dL_all_54 : decode cL_all 54 = .ok (.bipush 6, 2) := by decide +kernel
theorem dL_all_56 : decode cL_all 56 = .ok (.if_icmp .ge 49, 3) := by decide +kernel
theorem dL_all_59 : decode cL_all 59 = .ok (.ldc2_w 88, 3) := by decide +kernel
theorem dL_all_62 : decode cL_all 62 = .ok (.lload_n 2, 1) := by decide +kernel
theorem dL_all_63 : decode cL_all 63 = .ok (.lmul, 1) := by decide +kernel
theorem dL_all_64 : decode cL_all 64 = .ok (.aload_n 0, 1) := by decide +kernel
theorem dL_all_65 : decode cL_all 65 = .ok (.iload 4, 2) := by decide +kernel
theorem dL_all_67 : decode cL_all 67 = .ok (.invokevirtual 81, 3) := by decide +kernel
theorem dL_all_70 : decode cL_all 70 = .ok (.i2l, 1) := by decide +kernel
theorem dL_all_71 : decode cL_all 71 = .ok (.ladd, 1) := by decide +kernel
theorem dL_all_72 : decode cL_all 72 = .ok (.ldc2_w 92, 3) := by decide +kernel
theorem dL_all_75 : decode cL_all 75 = .ok (.aload_n 0, 1) := by decide +kernel
theorem dL_all_76 : decode cL_all 76 = .ok (.iload 4, 2) := by decide +kernel
theorem dL_all_78 : decode cL_all 78 = .ok (.iconst 0, 1) := by decide +kernel
theorem dL_all_79 : decode cL_all 79 = .ok (.invokevirtual 69, 3) := by decide +kernel
theorem dL_all_82 : decode cL_all 82 = .ok (.i2l, 1) := by decide +kernel
theorem dL_all_83 : decode cL_all 83 = .ok (.lmul, 1) := by decide +kernel
theorem dL_all_84 : decode cL_all 84 = .ok (.ladd, 1) := by decide +kernel
theorem dL_all_85 : decode cL_all 85 = .ok (.ldc2_w 94, 3) := by decide +kernel
theorem dL_all_88 : decode cL_all 88 = .ok (.aload_n 0, 1) := by decide +kernel
theorem dL_all_89 : decode cL_all 89 = .ok (.iload 4, 2) := by decide +kernel
theorem dL_all_91 : decode cL_all 91 = .ok (.iconst 1, 1) := by decide +kernel
theorem dL_all_92 : decode cL_all 92 = .ok (.invokevirtual 75, 3) := by decide +kernel
theorem dL_all_95 : decode cL_all 95 = .ok (.i2l, 1) := by decide +kernel
theorem dL_all_96 : decode cL_all 96 = .ok (.lmul, 1) := by decide +kernel
theorem dL_all_97 : decode cL_all 97 = .ok (.ladd, 1) := by decide +kernel
theorem dL_all_98 : decode cL_all 98 = .ok (.lstore_n 2, 1) := by decide +kernel
theorem dL_all_99 : decode cL_all 99 = .ok (.iinc 4 1, 3) := by decide +kernel
theorem dL_all_102 : decode cL_all 102 = .ok (.goto (-50), 3) := by decide +kernel
theorem dL_all_105 : decode cL_all 105 = .ok (.lload_n 2, 1) := by decide +kernel
theorem dL_all_106 : decode cL_all 106 = .ok (.lreturn, 1) := by decide +kernel
set_option maxRecDepth 20000 in
theorem ggL_isOvertime_L_day : GoodIn wsL_isOvertime wsL_day := goodIn_r _ [4] (by decide +kernel) (by decide +kernel)
set_option maxRecDepth 20000 in
theorem gL_isOvertime_L_day : GoodIn wsL_isOvertime (va_wsS RL 96 yL_day wsL_day) := goodIn_app (goodIn_of _ (by decide +kernel)) ggL_isOvertime_L_day
set_option maxRecDepth 20000 in
theorem ggL_isOvertime_X0_overtime : GoodIn wsL_isOvertime wsX0_overtime := goodIn_ca (goodIn_r _ [9, 10, 11, 12, 8, 13, 14, 15, 16, 17, 18, 19, 20, 21, 22, 23, 24, 25, 26, 27, 28, 29, 30, 31, 32, 33, 34, 35, 36, 37, 38, 39, 40, 41, 42, 43, 44, 45, 46, 47, 48, 49, 50, 51, 52, 53, 54, 62, 63, 64, 65, 66, 67, 68, 69, 70, 71, 72, 73, 74, 75, 76, 77] (by decide +kernel) (by decide +kernel)) (goodIn_sub (fun _ h => List.mem_cons_of_mem _ (List.mem_append_right _ h)) (by decide +kernel))
set_option maxRecDepth 20000 in
theorem gL_isOvertime_X0_overtime : GoodIn wsL_isOvertime (wsV RL 50 RX0 yX0_overtime wsX0_overtime) := goodIn_app (goodIn_of _ (by decide +kernel)) ggL_isOvertime_X0_overtime
set_option maxRecDepth 20000 in
theorem ggL_isOvertime_L_hours : GoodIn wsL_isOvertime wsL_hours := goodIn_r _ [57] (by decide +kernel) (by decide +kernel)
set_option maxRecDepth 20000 in
theorem gL_isOvertime_L_hours : GoodIn wsL_isOvertime (va_wsS RL 102 yL_hours wsL_hours) := goodIn_app (goodIn_of _ (by decide +kernel)) ggL_isOvertime_L_hours
set_option maxRecDepth 20000 in
theorem ggL_isOvertime_X0_hours : GoodIn wsL_isOvertime wsX0_hours := goodIn_ca (goodIn_r _ [61, 10, 20, 11, 12, 8, 13, 14, 15, 44, 45, 46, 47, 34, 22, 35, 36, 37, 38, 39, 40, 62, 63, 64, 65, 66, 67, 68, 69, 70, 71, 72, 73, 74, 75, 76, 77] (by decide +kernel) (by decide +kernel)) (goodIn_sub (fun _ h => List.mem_cons_of_mem _ (List.mem_append_right _ h)) (by decide +kernel))
set_option maxRecDepth 20000 in
theorem gL_isOvertime_X0_hours : GoodIn wsL_isOvertime (wsV RL 47 RX0 yX0_hours wsX0_hours) := goodIn_app (goodIn_of _ (by decide +kernel)) ggL_isOvertime_X0_hours
theorem dL_isOvertime_0 : decode cL_isOvertime 0 = .ok (.iconst 0, 1) := by decide +kernel
theorem dL_isOvertime_1 : decode cL_isOvertime 1 = .ok (.istore 5, 2) := by decide +kernel
theorem dL_isOvertime_3 : decode cL_isOvertime 3 = .ok (.iconst 0, 1) := by decide +kernel
theorem dL_isOvertime_4 : decode cL_isOvertime 4 = .ok (.istore 6, 2) := by decide +kernel
theorem dL_isOvertime_6 : decode cL_isOvertime 6 = .ok (.iconst 1, 1) := by decide +kernel
theorem dL_isOvertime_7 : decode cL_isOvertime 7 = .ok (.istore 7, 2) := by decide +kernel
theorem dL_isOvertime_9 : decode cL_isOvertime 9 = .ok (.bipush 7, 2) := by decide +kernel
theorem dL_isOvertime_11 : decode cL_isOvertime 11 = .ok (.iload 4, 2) := by decide +kernel
theorem dL_isOvertime_13 : decode cL_isOvertime 13 = .ok (.imul, 1) := by decide +kernel
theorem dL_isOvertime_14 : decode cL_isOvertime 14 = .ok (.istore 8, 2) := by decide +kernel
theorem dL_isOvertime_16 : decode cL_isOvertime 16 = .ok (.iload 8, 2) := by decide +kernel
theorem dL_isOvertime_18 : decode cL_isOvertime 18 = .ok (.bipush 7, 2) := by decide +kernel
theorem dL_isOvertime_20 : decode cL_isOvertime 20 = .ok (.iload 4, 2) := by decide +kernel
theorem dL_isOvertime_22 : decode cL_isOvertime 22 = .ok (.imul, 1) := by decide +kernel
theorem dL_isOvertime_23 : decode cL_isOvertime 23 = .ok (.bipush 7, 2) := by decide +kernel
theorem dL_isOvertime_25 : decode cL_isOvertime 25 = .ok (.iadd, 1) := by decide +kernel
theorem dL_isOvertime_26 : decode cL_isOvertime 26 = .ok (.if_icmp .ge 218, 3) := by decide +kernel
theorem dL_isOvertime_29 : decode cL_isOvertime 29 = .ok (.iconst 0, 1) := by decide +kernel
theorem dL_isOvertime_30 : decode cL_isOvertime 30 = .ok (.istore 9, 2) := by decide +kernel
theorem dL_isOvertime_32 : decode cL_isOvertime 32 = .ok (.iconst 0, 1) := by decide +kernel
theorem dL_isOvertime_33 : decode cL_isOvertime 33 = .ok (.istore 10, 2) := by decide +kernel
theorem dL_isOvertime_35 : decode cL_isOvertime 35 = .ok (.iconst 0, 1) := by decide +kernel
theorem dL_isOvertime_36 : decode cL_isOvertime 36 = .ok (.istore 11, 2) := by decide +kernel
theorem dL_isOvertime_38 : decode cL_isOvertime 38 = .ok (.iconst 0, 1) := by decide +kernel
theorem dL_isOvertime_39 : decode cL_isOvertime 39 = .ok (.istore 12, 2) := by decide +kernel
theorem dL_isOvertime_41 : decode cL_isOvertime 41 = .ok (.iload 12, 2) := by decide +kernel
theorem dL_isOvertime_43 : decode cL_isOvertime 43 = .ok (.aload_n 2, 1) := by decide +kernel
theorem dL_isOvertime_44 : decode cL_isOvertime 44 = .ok (.iconst 0, 1) := by decide +kernel
theorem dL_isOvertime_45 : decode cL_isOvertime 45 = .ok (.iaload, 1) := by decide +kernel
theorem dL_isOvertime_46 : decode cL_isOvertime 46 = .ok (.if_icmp .ge 118, 3) := by decide +kernel
theorem dL_isOvertime_49 : decode cL_isOvertime 49 = .ok (.aload_n 1, 1) := by decide +kernel
theorem dL_isOvertime_50 : decode cL_isOvertime 50 = .ok (.iload 12, 2) := by decide +kernel
theorem dL_isOvertime_52 : decode cL_isOvertime 52 = .ok (.iaload, 1) := by decide +kernel
theorem dL_isOvertime_53 : decode cL_isOvertime 53 = .ok (.bipush 7, 2) := by decide +kernel
theorem dL_isOvertime_55 : decode cL_isOvertime 55 = .ok (.iand, 1) := by decide +kernel
theorem dL_isOvertime_56 : decode cL_isOvertime 56 = .ok (.iload_n 3, 1) := by decide +kernel
theorem dL_isOvertime_57 : decode cL_isOvertime 57 = .ok (.if_icmp .ne 101, 3) := by decide +kernel
theorem dL_isOvertime_60 : decode cL_isOvertime 60 = .ok (.aload_n 1, 1) := by decide +kernel
theorem dL_isOvertime_61 : decode cL_isOvertime 61 = .ok (.iload 12, 2) := by decide +kernel
theorem dL_isOvertime_63 : decode cL_isOvertime 63 = .ok (.invokestatic 96, 3) := by decide +kernel
theorem dL_isOvertime_66 : decode cL_isOvertime 66 = .ok (.iload 8, 2) := by decide +kernel
theorem dL_isOvertime_68 : decode cL_isOvertime 68 = .ok (.if_icmp .ne 90, 3) := by decide +kernel
theorem dL_isOvertime_71 : decode cL_isOvertime 71 = .ok (.aload_n 0, 1) := by decide +kernel
theorem dL_isOvertime_72 : decode cL_isOvertime 72 = .ok (.iload 12, 2) := by decide +kernel
theorem dL_isOvertime_74 : decode cL_isOvertime 74 = .ok (.invokevirtual 50, 3) := by decide +kernel
theorem dL_isOvertime_77 : decode cL_isOvertime 77 = .ok (.istore 13, 2) := by decide +kernel
theorem dL_isOvertime_79 : decode cL_isOvertime 79 = .ok (.iload 9, 2) := by decide +kernel
theorem dL_isOvertime_81 : decode cL_isOvertime 81 = .ok (.aload_n 1, 1) := by decide +kernel
theorem dL_isOvertime_82 : decode cL_isOvertime 82 = .ok (.iload 12, 2) := by decide +kernel
theorem dL_isOvertime_84 : decode cL_isOvertime 84 = .ok (.invokestatic 102, 3) := by decide +kernel
theorem dL_isOvertime_87 : decode cL_isOvertime 87 = .ok (.iadd, 1) := by decide +kernel
theorem dL_isOvertime_88 : decode cL_isOvertime 88 = .ok (.istore 9, 2) := by decide +kernel
theorem dL_isOvertime_90 : decode cL_isOvertime 90 = .ok (.iload 10, 2) := by decide +kernel
theorem dL_isOvertime_92 : decode cL_isOvertime 92 = .ok (.iload 13, 2) := by decide +kernel
theorem dL_isOvertime_94 : decode cL_isOvertime 94 = .ok (.iadd, 1) := by decide +kernel
theorem dL_isOvertime_95 : decode cL_isOvertime 95 = .ok (.istore 10, 2) := by decide +kernel
theorem dL_isOvertime_97 : decode cL_isOvertime 97 = .ok (.iload 7, 2) := by decide +kernel
theorem dL_isOvertime_99 : decode cL_isOvertime 99 = .ok (.ifCond .eq 39, 3) := by decide +kernel
theorem dL_isOvertime_102 : decode cL_isOvertime 102 = .ok (.iload 13, 2) := by decide +kernel
theorem dL_isOvertime_104 : decode cL_isOvertime 104 = .ok (.ifCond .lt 34, 3) := by decide +kernel
theorem dL_isOvertime_107 : decode cL_isOvertime 107 = .ok (.iload 13, 2) := by decide +kernel
theorem dL_isOvertime_109 : decode cL_isOvertime 109 = .ok (.aload_n 1, 1) := by decide +kernel
theorem dL_isOvertime_110 : decode cL_isOvertime 110 = .ok (.iload 12, 2) := by decide +kernel
theorem dL_isOvertime_112 : decode cL_isOvertime 112 = .ok (.invokestatic 102, 3) := by decide +kernel
theorem dL_isOvertime_115 : decode cL_isOvertime 115 = .ok (.if_icmp .gt 23, 3) := by decide +kernel
theorem dL_isOvertime_118 : decode cL_isOvertime 118 = .ok (.iload 11, 2) := by decide +kernel
theorem dL_isOvertime_120 : decode cL_isOvertime 120 = .ok (.ifCond .eq 14, 3) := by decide +kernel
theorem dL_isOvertime_123 : decode cL_isOvertime 123 = .ok (.iload 13, 2) := by decide +kernel
theorem dL_isOvertime_125 : decode cL_isOvertime 125 = .ok (.aload_n 1, 1) := by decide +kernel
theorem dL_isOvertime_126 : decode cL_isOvertime 126 = .ok (.iload 12, 2) := by decide +kernel
theorem dL_isOvertime_128 : decode cL_isOvertime 128 = .ok (.invokestatic 102, 3) := by decide +kernel
theorem dL_isOvertime_131 : decode cL_isOvertime 131 = .ok (.if_icmp .ne 7, 3) := by decide +kernel
theorem dL_isOvertime_134 : decode cL_isOvertime 134 = .ok (.iconst 1, 1) := by decide +kernel
theorem dL_isOvertime_135 : decode cL_isOvertime 135 = .ok (.goto 4, 3) := by decide +kernel
theorem dL_isOvertime_138 : decode cL_isOvertime 138 = .ok (.iconst 0, 1) := by decide +kernel
theorem dL_isOvertime_139 : decode cL_isOvertime 139 = .ok (.istore 7, 2) := by decide +kernel
theorem dL_isOvertime_141 : decode cL_isOvertime 141 = .ok (.iload 11, 2) := by decide +kernel
theorem dL_isOvertime_143 : decode cL_isOvertime 143 = .ok (.ifCond .ne 8, 3) := by decide +kernel
theorem dL_isOvertime_146 : decode cL_isOvertime 146 = .ok (.iload 13, 2) := by decide +kernel
theorem dL_isOvertime_148 : decode cL_isOvertime 148 = .ok (.ifCond .le 7, 3) := by decide +kernel
theorem dL_isOvertime_151 : decode cL_isOvertime 151 = .ok (.iconst 1, 1) := by decide +kernel
theorem dL_isOvertime_152 : decode cL_isOvertime 152 = .ok (.goto 4, 3) := by decide +kernel
theorem dL_isOvertime_155 : decode cL_isOvertime 155 = .ok (.iconst 0, 1) := by decide +kernel
theorem dL_isOvertime_156 : decode cL_isOvertime 156 = .ok (.istore 11, 2) := by decide +kernel
theorem dL_isOvertime_158 : decode cL_isOvertime 158 = .ok (.iinc 12 1, 3) := by decide +kernel
theorem dL_isOvertime_161 : decode cL_isOvertime 161 = .ok (.goto (-120), 3) := by decide +kernel
theorem dL_isOvertime_164 : decode cL_isOvertime 164 = .ok (.iload 9, 2) := by decide +kernel
theorem dL_isOvertime_166 : decode cL_isOvertime 166 = .ok (.bipush 8, 2) := by decide +kernel
theorem dL_isOvertime_168 : decode cL_isOvertime 168 = .ok (.if_icmp .ge 8, 3) := by decide +kernel
theorem dL_isOvertime_171 : decode cL_isOvertime 171 = .ok (.iload 9, 2) := by decide +kernel
theorem dL_isOvertime_173 : decode cL_isOvertime 173 = .ok (.goto 5, 3) := by decide +kernel
theorem dL_isOvertime_176 : decode cL_isOvertime 176 = .ok (.bipush 8, 2) := by decide +kernel
theorem dL_isOvertime_178 : decode cL_isOvertime 178 = .ok (.istore 12, 2) := by decide +kernel
theorem dL_isOvertime_180 : decode cL_isOvertime 180 = .ok (.iload 12, 2) := by decide +kernel
theorem dL_isOvertime_182 : decode cL_isOvertime 182 = .ok (.bipush 40, 2) := by decide +kernel
theorem dL_isOvertime_184 : decode cL_isOvertime 184 = .ok (.iload 5, 2) := by decide +kernel
theorem dL_isOvertime_186 : decode cL_isOvertime 186 = .ok (.isub, 1) := by decide +kernel
theorem dL_isOvertime_187 : decode cL_isOvertime 187 = .ok (.if_icmp .ge 8, 3) := by decide +kernel
theorem dL_isOvertime_190 : decode cL_isOvertime 190 = .ok (.iload 12, 2) := by decide +kernel
theorem dL_isOvertime_192 : decode cL_isOvertime 192 = .ok (.goto 8, 3) := by decide +kernel
theorem dL_isOvertime_195 : decode cL_isOvertime 195 = .ok (.bipush 40, 2) := by decide +kernel
theorem dL_isOvertime_197 : decode cL_isOvertime 197 = .ok (.iload 5, 2) := by decide +kernel
theorem dL_isOvertime_199 : decode cL_isOvertime 199 = .ok (.isub, 1) := by decide +kernel
theorem dL_isOvertime_200 : decode cL_isOvertime 200 = .ok (.istore 12, 2) := by decide +kernel
theorem dL_isOvertime_202 : decode cL_isOvertime 202 = .ok (.iload 7, 2) := by decide +kernel
theorem dL_isOvertime_204 : decode cL_isOvertime 204 = .ok (.ifCond .eq 17, 3) := by decide +kernel
theorem dL_isOvertime_207 : decode cL_isOvertime 207 = .ok (.iload 9, 2) := by decide +kernel
theorem dL_isOvertime_209 : decode cL_isOvertime 209 = .ok (.iload 10, 2) := by decide +kernel
theorem dL_isOvertime_211 : decode cL_isOvertime 211 = .ok (.isub, 1) := by decide +kernel
theorem dL_isOvertime_212 : decode cL_isOvertime 212 = .ok (.iload 12, 2) := by decide +kernel
theorem dL_isOvertime_214 : decode cL_isOvertime 214 = .ok (.if_icmp .ne 7, 3) := by decide +kernel
theorem dL_isOvertime_217 : decode cL_isOvertime 217 = .ok (.iconst 1, 1) := by decide +kernel
theorem dL_isOvertime_218 : decode cL_isOvertime 218 = .ok (.goto 4, 3) := by decide +kernel
theorem dL_isOvertime_221 : decode cL_isOvertime 221 = .ok (.iconst 0, 1) := by decide +kernel
theorem dL_isOvertime_222 : decode cL_isOvertime 222 = .ok (.istore 7, 2) := by decide +kernel
theorem dL_isOvertime_224 : decode cL_isOvertime 224 = .ok (.iload 5, 2) := by decide +kernel
theorem dL_isOvertime_226 : decode cL_isOvertime 226 = .ok (.iload 12, 2) := by decide +kernel
theorem dL_isOvertime_228 : decode cL_isOvertime 228 = .ok (.iadd, 1) := by decide +kernel
theorem dL_isOvertime_229 : decode cL_isOvertime 229 = .ok (.istore 5, 2) := by decide +kernel
theorem dL_isOvertime_231 : decode cL_isOvertime 231 = .ok (.iload 6, 2) := by decide +kernel
theorem dL_isOvertime_233 : decode cL_isOvertime 233 = .ok (.iload 9, 2) := by decide +kernel
theorem dL_isOvertime_235 : decode cL_isOvertime 235 = .ok (.iadd, 1) := by decide +kernel
theorem dL_isOvertime_236 : decode cL_isOvertime 236 = .ok (.istore 6, 2) := by decide +kernel
theorem dL_isOvertime_238 : decode cL_isOvertime 238 = .ok (.iinc 8 1, 3) := by decide +kernel
theorem dL_isOvertime_241 : decode cL_isOvertime 241 = .ok (.goto (-225), 3) := by decide +kernel
theorem dL_isOvertime_244 : decode cL_isOvertime 244 = .ok (.iload 7, 2) := by decide +kernel
theorem dL_isOvertime_246 : decode cL_isOvertime 246 = .ok (.ifCond .eq 26, 3) := by decide +kernel
theorem dL_isOvertime_249 : decode cL_isOvertime 249 = .ok (.aload_n 0, 1) := by decide +kernel
theorem dL_isOvertime_250 : decode cL_isOvertime 250 = .ok (.iload_n 3, 1) := by decide +kernel
theorem dL_isOvertime_251 : decode cL_isOvertime 251 = .ok (.iload 4, 2) := by decide +kernel
theorem dL_isOvertime_253 : decode cL_isOvertime 253 = .ok (.invokevirtual 47, 3) := by decide +kernel
theorem dL_isOvertime_256 : decode cL_isOvertime 256 = .ok (.iload 6, 2) := by decide +kernel
theorem dL_isOvertime_258 : decode cL_isOvertime 258 = .ok (.if_icmp .ne 14, 3) := by decide +kernel
theorem dL_isOvertime_261 : decode cL_isOvertime 261 = .ok (.iload 5, 2) := by decide +kernel
theorem dL_isOvertime_263 : decode cL_isOvertime 263 = .ok (.bipush 40, 2) := by decide +kernel
theorem dL_isOvertime_265 : decode cL_isOvertime 265 = .ok (.if_icmp .gt 7, 3) := by decide +kernel
theorem dL_isOvertime_268 : decode cL_isOvertime 268 = .ok (.iconst 1, 1) := by decide +kernel
theorem dL_isOvertime_269 : decode cL_isOvertime 269 = .ok (.goto 4, 3) := by decide +kernel
theorem dL_isOvertime_272 : decode cL_isOvertime 272 = .ok (.iconst 0, 1) := by decide +kernel
theorem dL_isOvertime_273 : decode cL_isOvertime 273 = .ok (.ireturn, 1) := by decide +kernel
set_option maxRecDepth 20000 in
theorem ggL_isEqual_L_day : GoodIn wsL_isEqual wsL_day := goodIn_r _ [4] (by decide +kernel) (by decide +kernel)
set_option maxRecDepth 20000 in
theorem gL_isEqual_L_day : GoodIn wsL_isEqual (va_wsS RL 96 yL_day wsL_day) := goodIn_app (goodIn_of _ (by decide +kernel)) ggL_isEqual_L_day
set_option maxRecDepth 20000 in
theorem ggL_isEqual_L_hours : GoodIn wsL_isEqual wsL_hours := goodIn_r _ [7] (by decide +kernel) (by decide +kernel)
set_option maxRecDepth 20000 in
theorem gL_isEqual_L_hours : GoodIn wsL_isEqual (va_wsS RL 102 yL_hours wsL_hours) := goodIn_app (goodIn_of _ (by decide +kernel)) ggL_isEqual_L_hours
set_option maxRecDepth 20000 in
theorem ggL_isEqual_X0_hasEqual : GoodIn wsL_isEqual wsX0_hasEqual := goodIn_ca (goodIn_r _ [12, 13, 14, 11, 15, 16, 17, 18, 19, 20, 21, 22, 23, 24, 25, 26, 27, 28, 29, 30, 31, 32, 33, 34, 35, 36, 37, 38, 39, 40, 41, 42, 43, 44, 45, 46, 47, 48, 49, 50, 51, 52, 53, 54] (by decide +kernel) (by decide +kernel)) (goodIn_sub (fun _ h => List.mem_cons_of_mem _ (List.mem_append_right _ h)) (by decide +kernel))
set_option maxRecDepth 20000 in
theorem gL_isEqual_X0_hasEqual : GoodIn wsL_isEqual (wsV RL 53 RX0 yX0_hasEqual wsX0_hasEqual) := goodIn_app (goodIn_of _ (by decide +kernel)) ggL_isEqual_X0_hasEqual
theorem dL_isEqual_0 : decode cL_isEqual 0 = .ok (.iconst 0, 1) := by decide +kernel
theorem dL_isEqual_1 : decode cL_isEqual 1 = .ok (.istore 7, 2) := by decide +kernel
theorem dL_isEqual_3 : decode cL_isEqual 3 = .ok (.iconst 0, 1) := by decide +kernel
theorem dL_isEqual_4 : decode cL_isEqual 4 = .ok (.istore 8, 2) := by decide +kernel
theorem dL_isEqual_6 : decode cL_isEqual 6 = .ok (.iload 6, 2) := by decide +kernel
theorem dL_isEqual_8 : decode cL_isEqual 8 = .ok (.iconst 1, 1) := by decide +kernel
theorem dL_isEqual_9 : decode cL_isEqual 9 = .ok (.isub, 1) := by decide +kernel
theorem dL_isEqual_10 : decode cL_isEqual 10 = .ok (.istore 9, 2) := by decide +kernel
theorem dL_isEqual_12 : decode cL_isEqual 12 = .ok (.iload 9, 2) := by decide +kernel
theorem dL_isEqual_14 : decode cL_isEqual 14 = .ok (.ifCond .lt 143, 3) := by decide +kernel
theorem dL_isEqual_17 : decode cL_isEqual 17 = .ok (.iconst 0, 1) := by decide +kernel
theorem dL_isEqual_18 : decode cL_isEqual 18 = .ok (.istore 10, 2) := by decide +kernel
theorem dL_isEqual_20 : decode cL_isEqual 20 = .ok (.iconst 0, 1) := by decide +kernel
theorem dL_isEqual_21 : decode cL_isEqual 21 = .ok (.istore 11, 2) := by decide +kernel
theorem dL_isEqual_23 : decode cL_isEqual 23 = .ok (.iload 11, 2) := by decide +kernel
theorem dL_isEqual_25 : decode cL_isEqual 25 = .ok (.aload_n 3, 1) := by decide +kernel
theorem dL_isEqual_26 : decode cL_isEqual 26 = .ok (.iconst 0, 1) := by decide +kernel
theorem dL_isEqual_27 : decode cL_isEqual 27 = .ok (.iaload, 1) := by decide +kernel
theorem dL_isEqual_28 : decode cL_isEqual 28 = .ok (.if_icmp .ge 70, 3) := by decide +kernel
theorem dL_isEqual_31 : decode cL_isEqual 31 = .ok (.iload 10, 2) := by decide +kernel
theorem dL_isEqual_33 : decode cL_isEqual 33 = .ok (.ifCond .ne 52, 3) := by decide +kernel
theorem dL_isEqual_36 : decode cL_isEqual 36 = .ok (.aload_n 1, 1) := by decide +kernel
theorem dL_isEqual_37 : decode cL_isEqual 37 = .ok (.iload 11, 2) := by decide +kernel
theorem dL_isEqual_39 : decode cL_isEqual 39 = .ok (.iaload, 1) := by decide +kernel
theorem dL_isEqual_40 : decode cL_isEqual 40 = .ok (.bipush 7, 2) := by decide +kernel
theorem dL_isEqual_42 : decode cL_isEqual 42 = .ok (.iand, 1) := by decide +kernel
theorem dL_isEqual_43 : decode cL_isEqual 43 = .ok (.iload 4, 2) := by decide +kernel
theorem dL_isEqual_45 : decode cL_isEqual 45 = .ok (.if_icmp .ne 44, 3) := by decide +kernel
theorem dL_isEqual_48 : decode cL_isEqual 48 = .ok (.aload_n 1, 1) := by decide +kernel
theorem dL_isEqual_49 : decode cL_isEqual 49 = .ok (.iload 11, 2) := by decide +kernel
theorem dL_isEqual_51 : decode cL_isEqual 51 = .ok (.iaload, 1) := by decide +kernel
theorem dL_isEqual_52 : decode cL_isEqual 52 = .ok (.iconst 3, 1) := by decide +kernel
theorem dL_isEqual_53 : decode cL_isEqual 53 = .ok (.ishr, 1) := by decide +kernel
theorem dL_isEqual_54 : decode cL_isEqual 54 = .ok (.bipush 7, 2) := by decide +kernel
theorem dL_isEqual_56 : decode cL_isEqual 56 = .ok (.iand, 1) := by decide +kernel
theorem dL_isEqual_57 : decode cL_isEqual 57 = .ok (.iload 5, 2) := by decide +kernel
theorem dL_isEqual_59 : decode cL_isEqual 59 = .ok (.if_icmp .ne 30, 3) := by decide +kernel
theorem dL_isEqual_62 : decode cL_isEqual 62 = .ok (.aload_n 1, 1) := by decide +kernel
theorem dL_isEqual_63 : decode cL_isEqual 63 = .ok (.iload 11, 2) := by decide +kernel
theorem dL_isEqual_65 : decode cL_isEqual 65 = .ok (.invokestatic 96, 3) := by decide +kernel
theorem dL_isEqual_68 : decode cL_isEqual 68 = .ok (.bipush 7, 2) := by decide +kernel
theorem dL_isEqual_70 : decode cL_isEqual 70 = .ok (.idiv, 1) := by decide +kernel
theorem dL_isEqual_71 : decode cL_isEqual 71 = .ok (.iload 9, 2) := by decide +kernel
theorem dL_isEqual_73 : decode cL_isEqual 73 = .ok (.if_icmp .ne 16, 3) := by decide +kernel
theorem dL_isEqual_76 : decode cL_isEqual 76 = .ok (.aload_n 1, 1) := by decide +kernel
theorem dL_isEqual_77 : decode cL_isEqual 77 = .ok (.iload 11, 2) := by decide +kernel
theorem dL_isEqual_79 : decode cL_isEqual 79 = .ok (.invokestatic 102, 3) := by decide +kernel
theorem dL_isEqual_82 : decode cL_isEqual 82 = .ok (.ifCond .le 7, 3) := by decide +kernel
theorem dL_isEqual_85 : decode cL_isEqual 85 = .ok (.iconst 1, 1) := by decide +kernel
theorem dL_isEqual_86 : decode cL_isEqual 86 = .ok (.goto 4, 3) := by decide +kernel
theorem dL_isEqual_89 : decode cL_isEqual 89 = .ok (.iconst 0, 1) := by decide +kernel
theorem dL_isEqual_90 : decode cL_isEqual 90 = .ok (.istore 10, 2) := by decide +kernel
theorem dL_isEqual_92 : decode cL_isEqual 92 = .ok (.iinc 11 1, 3) := by decide +kernel
theorem dL_isEqual_95 : decode cL_isEqual 95 = .ok (.goto (-72), 3) := by decide +kernel
theorem dL_isEqual_98 : decode cL_isEqual 98 = .ok (.iload 7, 2) := by decide +kernel
theorem dL_isEqual_100 : decode cL_isEqual 100 = .ok (.iload 10, 2) := by decide +kernel
theorem dL_isEqual_102 : decode cL_isEqual 102 = .ok (.ifCond .eq 16, 3) := by decide +kernel
theorem dL_isEqual_105 : decode cL_isEqual 105 = .ok (.iload 8, 2) := by decide +kernel
theorem dL_isEqual_107 : decode cL_isEqual 107 = .ok (.aload_n 2, 1) := by decide +kernel
theorem dL_isEqual_108 : decode cL_isEqual 108 = .ok (.bipush 21, 2) := by decide +kernel
theorem dL_isEqual_110 : decode cL_isEqual 110 = .ok (.iaload, 1) := by decide +kernel
theorem dL_isEqual_111 : decode cL_isEqual 111 = .ok (.if_icmp .gt 7, 3) := by decide +kernel
theorem dL_isEqual_114 : decode cL_isEqual 114 = .ok (.iconst 1, 1) := by decide +kernel
theorem dL_isEqual_115 : decode cL_isEqual 115 = .ok (.goto 4, 3) := by decide +kernel
theorem dL_isEqual_118 : decode cL_isEqual 118 = .ok (.iconst 0, 1) := by decide +kernel
theorem dL_isEqual_119 : decode cL_isEqual 119 = .ok (.iadd, 1) := by decide +kernel
theorem dL_isEqual_120 : decode cL_isEqual 120 = .ok (.istore 7, 2) := by decide +kernel
theorem dL_isEqual_122 : decode cL_isEqual 122 = .ok (.iload 8, 2) := by decide +kernel
theorem dL_isEqual_124 : decode cL_isEqual 124 = .ok (.aload_n 2, 1) := by decide +kernel
theorem dL_isEqual_125 : decode cL_isEqual 125 = .ok (.bipush 21, 2) := by decide +kernel
theorem dL_isEqual_127 : decode cL_isEqual 127 = .ok (.iaload, 1) := by decide +kernel
theorem dL_isEqual_128 : decode cL_isEqual 128 = .ok (.if_icmp .le 8, 3) := by decide +kernel
theorem dL_isEqual_131 : decode cL_isEqual 131 = .ok (.iload 8, 2) := by decide +kernel
theorem dL_isEqual_133 : decode cL_isEqual 133 = .ok (.goto 16, 3) := by decide +kernel
theorem dL_isEqual_136 : decode cL_isEqual 136 = .ok (.iload 10, 2) := by decide +kernel
theorem dL_isEqual_138 : decode cL_isEqual 138 = .ok (.ifCond .eq 7, 3) := by decide +kernel
theorem dL_isEqual_141 : decode cL_isEqual 141 = .ok (.iconst 0, 1) := by decide +kernel
theorem dL_isEqual_142 : decode cL_isEqual 142 = .ok (.goto 7, 3) := by decide +kernel
theorem dL_isEqual_145 : decode cL_isEqual 145 = .ok (.iload 8, 2) := by decide +kernel
theorem dL_isEqual_147 : decode cL_isEqual 147 = .ok (.iconst 1, 1) := by decide +kernel
theorem dL_isEqual_148 : decode cL_isEqual 148 = .ok (.iadd, 1) := by decide +kernel
theorem dL_isEqual_149 : decode cL_isEqual 149 = .ok (.istore 8, 2) := by decide +kernel
theorem dL_isEqual_151 : decode cL_isEqual 151 = .ok (.iinc 9 (-1), 3) := by decide +kernel
theorem dL_isEqual_154 : decode cL_isEqual 154 = .ok (.goto (-142), 3) := by decide +kernel
theorem dL_isEqual_157 : decode cL_isEqual 157 = .ok (.aload_n 0, 1) := by decide +kernel
theorem dL_isEqual_158 : decode cL_isEqual 158 = .ok (.iload 4, 2) := by decide +kernel
theorem dL_isEqual_160 : decode cL_isEqual 160 = .ok (.iload 5, 2) := by decide +kernel
theorem dL_isEqual_162 : decode cL_isEqual 162 = .ok (.iload 6, 2) := by decide +kernel
theorem dL_isEqual_164 : decode cL_isEqual 164 = .ok (.invokevirtual 53, 3) := by decide +kernel
theorem dL_isEqual_167 : decode cL_isEqual 167 = .ok (.iload 7, 2) := by decide +kernel
theorem dL_isEqual_169 : decode cL_isEqual 169 = .ok (.aload_n 2, 1) := by decide +kernel
theorem dL_isEqual_170 : decode cL_isEqual 170 = .ok (.bipush 20, 2) := by decide +kernel
theorem dL_isEqual_172 : decode cL_isEqual 172 = .ok (.iaload, 1) := by decide +kernel
theorem dL_isEqual_173 : decode cL_isEqual 173 = .ok (.if_icmp .lt 7, 3) := by decide +kernel
theorem dL_isEqual_176 : decode cL_isEqual 176 = .ok (.iconst 1, 1) := by decide +kernel
theorem dL_isEqual_177 : decode cL_isEqual 177 = .ok (.goto 4, 3) := by decide +kernel
theorem dL_isEqual_180 : decode cL_isEqual 180 = .ok (.iconst 0, 1) := by decide +kernel
theorem dL_isEqual_181 : decode cL_isEqual 181 = .ok (.if_icmp .ne 7, 3) := by decide +kernel
theorem dL_isEqual_184 : decode cL_isEqual 184 = .ok (.iconst 1, 1) := by decide +kernel
theorem dL_isEqual_185 : decode cL_isEqual 185 = .ok (.goto 4, 3) := by decide +kernel
theorem dL_isEqual_188 : decode cL_isEqual 188 = .ok (.iconst 0, 1) := by decide +kernel
theorem dL_isEqual_189 : decode cL_isEqual 189 = .ok (.ireturn, 1) := by decide +kernel
set_option maxRecDepth 20000 in
theorem ggL_areShifts_X0_shifts : GoodIn wsL_areShifts wsX0_shifts := goodIn_r _ [5, 6, 113, 114, 115, 116, 117, 118, 119, 120, 121, 122, 123, 124, 125, 126, 127, 128] (by decide +kernel) (by decide +kernel)
set_option maxRecDepth 20000 in
theorem gL_areShifts_X0_shifts : GoodIn wsL_areShifts (wsV RL 84 RX0 yX0_shifts wsX0_shifts) := goodIn_app (goodIn_of _ (by decide +kernel)) ggL_areShifts_X0_shifts
set_option maxRecDepth 20000 in
theorem ggL_areShifts_L_day : GoodIn wsL_areShifts wsL_day := goodIn_r _ [10] (by decide +kernel) (by decide +kernel)
set_option maxRecDepth 20000 in
theorem gL_areShifts_L_day : GoodIn wsL_areShifts (va_wsS RL 96 yL_day wsL_day) := goodIn_app (goodIn_of _ (by decide +kernel)) ggL_areShifts_L_day
set_option maxRecDepth 20000 in
theorem ggL_areShifts_X0_hasEqual : GoodIn wsL_areShifts wsX0_hasEqual := goodIn_ca (goodIn_r _ [14, 15, 16, 4, 17, 18, 19, 20, 21, 22, 23, 24, 25, 26, 27, 28, 29, 6, 30, 31, 32, 33, 34, 35, 36, 37, 38, 39, 113, 114, 115, 116, 117, 118, 119, 120, 121, 122, 123, 124, 125, 126, 127, 128] (by decide +kernel) (by decide +kernel)) (goodIn_sub (fun _ h => List.mem_cons_of_mem _ (List.mem_append_right _ h)) (by decide +kernel))
set_option maxRecDepth 20000 in
theorem gL_areShifts_X0_hasEqual : GoodIn wsL_areShifts (wsV RL 53 RX0 yX0_hasEqual wsX0_hasEqual) := goodIn_app (goodIn_of _ (by decide +kernel)) ggL_areShifts_X0_hasEqual
set_option maxRecDepth 20000 in
theorem ggL_areShifts_L_hours : GoodIn wsL_areShifts wsL_hours := goodIn_r _ [42] (by decide +kernel) (by decide +kernel)
set_option maxRecDepth 20000 in
theorem gL_areShifts_L_hours : GoodIn wsL_areShifts (va_wsS RL 102 yL_hours wsL_hours) := goodIn_app (goodIn_of _ (by decide +kernel)) ggL_areShifts_L_hours
set_option maxRecDepth 20000 in
theorem ggL_areShifts_X0_payOf : GoodIn wsL_areShifts wsX0_payOf := goodIn_ca (goodIn_r _ [46, 6, 15, 16, 4, 17, 18, 19, 47, 48, 49, 50, 32, 30, 31, 33, 51, 52, 53, 54, 55, 56, 57, 58, 59, 60, 61, 62, 63, 64, 65, 66, 34, 35, 36, 37, 38, 39, 67, 68, 69, 70, 71, 72, 73, 74, 75, 76, 77, 78, 79, 80, 81, 82, 83, 84, 85, 86, 20, 21, 22, 23, 24, 25, 26, 27, 28, 29, 113, 114, 115, 116, 117, 118, 119, 120, 121, 122, 123, 124, 125, 126, 127, 128] (by decide +kernel) (by decide +kernel)) (goodIn_sub (fun _ h => List.mem_cons_of_mem _ (List.mem_append_right _ h)) (by decide +kernel))
set_option maxRecDepth 20000 in
theorem gL_areShifts_X0_payOf : GoodIn wsL_areShifts (wsV RL 57 RX0 yX0_payOf wsX0_payOf) := goodIn_app (goodIn_of _ (by decide +kernel)) ggL_areShifts_X0_payOf
set_option maxRecDepth 20000 in
theorem ggL_areShifts_X0_overtime : GoodIn wsL_areShifts wsX0_overtime := goodIn_ca (goodIn_r _ [90, 6, 15, 16, 4, 17, 18, 19, 51, 52, 53, 54, 32, 55, 33, 56, 57, 58, 59, 60, 61, 62, 63, 64, 65, 66, 30, 34, 35, 36, 37, 38, 39, 67, 68, 69, 70, 71, 72, 73, 74, 75, 76, 77, 78, 79, 80, 113, 114, 115, 116, 117, 118, 119, 120, 121, 122, 123, 124, 125, 126, 127, 128] (by decide +kernel) (by decide +kernel)) (goodIn_sub (fun _ h => List.mem_cons_of_mem _ (List.mem_append_right _ h)) (by decide +kernel))
set_option maxRecDepth 20000 in
theorem gL_areShifts_X0_overtime : GoodIn wsL_areShifts (wsV RL 50 RX0 yX0_overtime wsX0_overtime) := goodIn_app (goodIn_of _ (by decide +kernel)) ggL_areShifts_X0_overtime
set_option maxRecDepth 20000 in
theorem ggL_areShifts_X0_chargeOf : GoodIn wsL_areShifts wsX0_chargeOf := goodIn_ca (goodIn_r _ [94, 6, 31, 33, 15, 16, 4, 17, 18, 19, 34, 35, 36, 37, 38, 39, 95, 96, 97, 98, 99, 100, 101, 102, 103, 104, 105, 32, 106, 107, 108, 109, 47, 48, 49, 50, 30, 51, 52, 53, 54, 55, 56, 57, 58, 59, 60, 61, 62, 63, 64, 65, 66, 67, 68, 69, 70, 71, 72, 73, 74, 75, 76, 77, 78, 79, 80, 81, 82, 83, 84, 85, 86, 20, 21, 22, 23, 24, 25, 26, 27, 28, 29, 110, 111, 112, 113, 114, 115, 116, 117, 118, 119, 120, 121, 122, 123, 124, 125, 126, 127, 128] (by decide +kernel) (by decide +kernel)) (goodIn_sub (fun _ h => List.mem_cons_of_mem _ (List.mem_append_right _ h)) (by decide +kernel))
set_option maxRecDepth 20000 in
theorem gL_areShifts_X0_chargeOf : GoodIn wsL_areShifts (wsV RL 60 RX0 yX0_chargeOf wsX0_chargeOf) := goodIn_app (goodIn_of _ (by decide +kernel)) ggL_areShifts_X0_chargeOf
theorem dL_areShifts_0 : decode cL_areShifts 0 = .ok (.aload_n 0, 1) := by decide +kernel
theorem dL_areShifts_1 : decode cL_areShifts 1 = .ok (.invokevirtual 84, 3) := by decide +kernel
theorem dL_areShifts_4 : decode cL_areShifts 4 = .ok (.aload_n 3, 1) := by decide +kernel
theorem dL_areShifts_5 : decode cL_areShifts 5 = .ok (.iconst 0, 1) := by decide +kernel
theorem dL_areShifts_6 : decode cL_areShifts 6 = .ok (.iaload, 1) := by decide +kernel
theorem dL_areShifts_7 : decode cL_areShifts 7 = .ok (.if_icmp .ne 7, 3) := by decide +kernel
theorem dL_areShifts_10 : decode cL_areShifts 10 = .ok (.iconst 1, 1) := by decide +kernel
theorem dL_areShifts_11 : decode cL_areShifts 11 = .ok (.goto 4, 3) := by decide +kernel
theorem dL_areShifts_14 : decode cL_areShifts 14 = .ok (.iconst 0, 1) := by decide +kernel
theorem dL_areShifts_15 : decode cL_areShifts 15 = .ok (.istore 4, 2) := by decide +kernel
theorem dL_areShifts_17 : decode cL_areShifts 17 = .ok (.iconst 0, 1) := by decide +kernel
theorem dL_areShifts_18 : decode cL_areShifts 18 = .ok (.istore 5, 2) := by decide +kernel
theorem dL_areShifts_20 : decode cL_areShifts 20 = .ok (.iload 5, 2) := by decide +kernel
theorem dL_areShifts_22 : decode cL_areShifts 22 = .ok (.aload_n 3, 1) := by decide +kernel
theorem dL_areShifts_23 : decode cL_areShifts 23 = .ok (.iconst 0, 1) := by decide +kernel
theorem dL_areShifts_24 : decode cL_areShifts 24 = .ok (.iaload, 1) := by decide +kernel
theorem dL_areShifts_25 : decode cL_areShifts 25 = .ok (.if_icmp .ge 274, 3) := by decide +kernel
theorem dL_areShifts_28 : decode cL_areShifts 28 = .ok (.iload 4, 2) := by decide +kernel
theorem dL_areShifts_30 : decode cL_areShifts 30 = .ok (.ifCond .eq 269, 3) := by decide +kernel
theorem dL_areShifts_33 : decode cL_areShifts 33 = .ok (.iconst 5, 1) := by decide +kernel
theorem dL_areShifts_34 : decode cL_areShifts 34 = .ok (.aload_n 1, 1) := by decide +kernel
theorem dL_areShifts_35 : decode cL_areShifts 35 = .ok (.iload 5, 2) := by decide +kernel
theorem dL_areShifts_37 : decode cL_areShifts 37 = .ok (.iaload, 1) := by decide +kernel
theorem dL_areShifts_38 : decode cL_areShifts 38 = .ok (.iconst 3, 1) := by decide +kernel
theorem dL_areShifts_39 : decode cL_areShifts 39 = .ok (.ishr, 1) := by decide +kernel
theorem dL_areShifts_40 : decode cL_areShifts 40 = .ok (.bipush 7, 2) := by decide +kernel
theorem dL_areShifts_42 : decode cL_areShifts 42 = .ok (.iand, 1) := by decide +kernel
theorem dL_areShifts_43 : decode cL_areShifts 43 = .ok (.imul, 1) := by decide +kernel
theorem dL_areShifts_44 : decode cL_areShifts 44 = .ok (.istore 6, 2) := by decide +kernel
theorem dL_areShifts_46 : decode cL_areShifts 46 = .ok (.aload_n 0, 1) := by decide +kernel
theorem dL_areShifts_47 : decode cL_areShifts 47 = .ok (.aload_n 1, 1) := by decide +kernel
theorem dL_areShifts_48 : decode cL_areShifts 48 = .ok (.iload 5, 2) := by decide +kernel
theorem dL_areShifts_50 : decode cL_areShifts 50 = .ok (.iaload, 1) := by decide +kernel
theorem dL_areShifts_51 : decode cL_areShifts 51 = .ok (.bipush 7, 2) := by decide +kernel
theorem dL_areShifts_53 : decode cL_areShifts 53 = .ok (.iand, 1) := by decide +kernel
theorem dL_areShifts_54 : decode cL_areShifts 54 = .ok (.aload_n 1, 1) := by decide +kernel
theorem dL_areShifts_55 : decode cL_areShifts 55 = .ok (.iload 5, 2) := by decide +kernel
theorem dL_areShifts_57 : decode cL_areShifts 57 = .ok (.iaload, 1) := by decide +kernel
theorem dL_areShifts_58 : decode cL_areShifts 58 = .ok (.iconst 3, 1) := by decide +kernel
theorem dL_areShifts_59 : decode cL_areShifts 59 = .ok (.ishr, 1) := by decide +kernel
theorem dL_areShifts_60 : decode cL_areShifts 60 = .ok (.bipush 7, 2) := by decide +kernel
theorem dL_areShifts_62 : decode cL_areShifts 62 = .ok (.iand, 1) := by decide +kernel
theorem dL_areShifts_63 : decode cL_areShifts 63 = .ok (.aload_n 1, 1) := by decide +kernel
theorem dL_areShifts_64 : decode cL_areShifts 64 = .ok (.iload 5, 2) := by decide +kernel
theorem dL_areShifts_66 : decode cL_areShifts 66 = .ok (.invokestatic 96, 3) := by decide +kernel
theorem dL_areShifts_69 : decode cL_areShifts 69 = .ok (.bipush 7, 2) := by decide +kernel
theorem dL_areShifts_71 : decode cL_areShifts 71 = .ok (.idiv, 1) := by decide +kernel
theorem dL_areShifts_72 : decode cL_areShifts 72 = .ok (.invokevirtual 53, 3) := by decide +kernel
theorem dL_areShifts_75 : decode cL_areShifts 75 = .ok (.ifCond .eq 12, 3) := by decide +kernel
theorem dL_areShifts_78 : decode cL_areShifts 78 = .ok (.aload_n 2, 1) := by decide +kernel
theorem dL_areShifts_79 : decode cL_areShifts 79 = .ok (.iload 6, 2) := by decide +kernel
theorem dL_areShifts_81 : decode cL_areShifts 81 = .ok (.iconst 1, 1) := by decide +kernel
theorem dL_areShifts_82 : decode cL_areShifts 82 = .ok (.iadd, 1) := by decide +kernel
theorem dL_areShifts_83 : decode cL_areShifts 83 = .ok (.iaload, 1) := by decide +kernel
theorem dL_areShifts_84 : decode cL_areShifts 84 = .ok (.goto 7, 3) := by decide +kernel
theorem dL_areShifts_87 : decode cL_areShifts 87 = .ok (.aload_n 2, 1) := by decide +kernel
theorem dL_areShifts_88 : decode cL_areShifts 88 = .ok (.iload 6, 2) := by decide +kernel
theorem dL_areShifts_90 : decode cL_areShifts 90 = .ok (.iaload, 1) := by decide +kernel
theorem dL_areShifts_91 : decode cL_areShifts 91 = .ok (.istore 7, 2) := by decide +kernel
theorem dL_areShifts_93 : decode cL_areShifts 93 = .ok (.iconst 0, 1) := by decide +kernel
theorem dL_areShifts_94 : decode cL_areShifts 94 = .ok (.istore 8, 2) := by decide +kernel
theorem dL_areShifts_96 : decode cL_areShifts 96 = .ok (.iconst 0, 1) := by decide +kernel
theorem dL_areShifts_97 : decode cL_areShifts 97 = .ok (.istore 9, 2) := by decide +kernel
theorem dL_areShifts_99 : decode cL_areShifts 99 = .ok (.iload 9, 2) := by decide +kernel
theorem dL_areShifts_101 : decode cL_areShifts 101 = .ok (.aload_n 3, 1) := by decide +kernel
theorem dL_areShifts_102 : decode cL_areShifts 102 = .ok (.iconst 0, 1) := by decide +kernel
theorem dL_areShifts_103 : decode cL_areShifts 103 = .ok (.iaload, 1) := by decide +kernel
theorem dL_areShifts_104 : decode cL_areShifts 104 = .ok (.if_icmp .ge 66, 3) := by decide +kernel
theorem dL_areShifts_107 : decode cL_areShifts 107 = .ok (.iload 8, 2) := by decide +kernel
theorem dL_areShifts_109 : decode cL_areShifts 109 = .ok (.aload_n 1, 1) := by decide +kernel
theorem dL_areShifts_110 : decode cL_areShifts 110 = .ok (.iload 9, 2) := by decide +kernel
theorem dL_areShifts_112 : decode cL_areShifts 112 = .ok (.iaload, 1) := by decide +kernel
theorem dL_areShifts_113 : decode cL_areShifts 113 = .ok (.iconst 3, 1) := by decide +kernel
theorem dL_areShifts_114 : decode cL_areShifts 114 = .ok (.ishr, 1) := by decide +kernel
theorem dL_areShifts_115 : decode cL_areShifts 115 = .ok (.bipush 7, 2) := by decide +kernel
theorem dL_areShifts_117 : decode cL_areShifts 117 = .ok (.iand, 1) := by decide +kernel
theorem dL_areShifts_118 : decode cL_areShifts 118 = .ok (.aload_n 1, 1) := by decide +kernel
theorem dL_areShifts_119 : decode cL_areShifts 119 = .ok (.iload 5, 2) := by decide +kernel
theorem dL_areShifts_121 : decode cL_areShifts 121 = .ok (.iaload, 1) := by decide +kernel
theorem dL_areShifts_122 : decode cL_areShifts 122 = .ok (.iconst 3, 1) := by decide +kernel
theorem dL_areShifts_123 : decode cL_areShifts 123 = .ok (.ishr, 1) := by decide +kernel
theorem dL_areShifts_124 : decode cL_areShifts 124 = .ok (.bipush 7, 2) := by decide +kernel
theorem dL_areShifts_126 : decode cL_areShifts 126 = .ok (.iand, 1) := by decide +kernel
theorem dL_areShifts_127 : decode cL_areShifts 127 = .ok (.if_icmp .ne 33, 3) := by decide +kernel
theorem dL_areShifts_130 : decode cL_areShifts 130 = .ok (.aload_n 1, 1) := by decide +kernel
theorem dL_areShifts_131 : decode cL_areShifts 131 = .ok (.iload 9, 2) := by decide +kernel
theorem dL_areShifts_133 : decode cL_areShifts 133 = .ok (.invokestatic 96, 3) := by decide +kernel
theorem dL_areShifts_136 : decode cL_areShifts 136 = .ok (.bipush 7, 2) := by decide +kernel
theorem dL_areShifts_138 : decode cL_areShifts 138 = .ok (.idiv, 1) := by decide +kernel
theorem dL_areShifts_139 : decode cL_areShifts 139 = .ok (.aload_n 1, 1) := by decide +kernel
theorem dL_areShifts_140 : decode cL_areShifts 140 = .ok (.iload 5, 2) := by decide +kernel
theorem dL_areShifts_142 : decode cL_areShifts 142 = .ok (.invokestatic 96, 3) := by decide +kernel
theorem dL_areShifts_145 : decode cL_areShifts 145 = .ok (.bipush 7, 2) := by decide +kernel
theorem dL_areShifts_147 : decode cL_areShifts 147 = .ok (.idiv, 1) := by decide +kernel
theorem dL_areShifts_148 : decode cL_areShifts 148 = .ok (.if_icmp .ne 12, 3) := by decide +kernel
theorem dL_areShifts_151 : decode cL_areShifts 151 = .ok (.aload_n 1, 1) := by decide +kernel
theorem dL_areShifts_152 : decode cL_areShifts 152 = .ok (.iload 9, 2) := by decide +kernel
theorem dL_areShifts_154 : decode cL_areShifts 154 = .ok (.invokestatic 102, 3) := by decide +kernel
theorem dL_areShifts_157 : decode cL_areShifts 157 = .ok (.goto 4, 3) := by decide +kernel
theorem dL_areShifts_160 : decode cL_areShifts 160 = .ok (.iconst 0, 1) := by decide +kernel
theorem dL_areShifts_161 : decode cL_areShifts 161 = .ok (.iadd, 1) := by decide +kernel
theorem dL_areShifts_162 : decode cL_areShifts 162 = .ok (.istore 8, 2) := by decide +kernel
theorem dL_areShifts_164 : decode cL_areShifts 164 = .ok (.iinc 9 1, 3) := by decide +kernel
theorem dL_areShifts_167 : decode cL_areShifts 167 = .ok (.goto (-68), 3) := by decide +kernel
theorem dL_areShifts_170 : decode cL_areShifts 170 = .ok (.aload_n 0, 1) := by decide +kernel
theorem dL_areShifts_171 : decode cL_areShifts 171 = .ok (.iload 5, 2) := by decide +kernel
theorem dL_areShifts_173 : decode cL_areShifts 173 = .ok (.invokevirtual 57, 3) := by decide +kernel
theorem dL_areShifts_176 : decode cL_areShifts 176 = .ok (.istore 9, 2) := by decide +kernel
theorem dL_areShifts_178 : decode cL_areShifts 178 = .ok (.iconst 2, 1) := by decide +kernel
theorem dL_areShifts_179 : decode cL_areShifts 179 = .ok (.aload_n 1, 1) := by decide +kernel
theorem dL_areShifts_180 : decode cL_areShifts 180 = .ok (.iload 5, 2) := by decide +kernel
theorem dL_areShifts_182 : decode cL_areShifts 182 = .ok (.invokestatic 102, 3) := by decide +kernel
theorem dL_areShifts_185 : decode cL_areShifts 185 = .ok (.imul, 1) := by decide +kernel
theorem dL_areShifts_186 : decode cL_areShifts 186 = .ok (.aload_n 0, 1) := by decide +kernel
theorem dL_areShifts_187 : decode cL_areShifts 187 = .ok (.iload 5, 2) := by decide +kernel
theorem dL_areShifts_189 : decode cL_areShifts 189 = .ok (.invokevirtual 50, 3) := by decide +kernel
theorem dL_areShifts_192 : decode cL_areShifts 192 = .ok (.iadd, 1) := by decide +kernel
theorem dL_areShifts_193 : decode cL_areShifts 193 = .ok (.iload 7, 2) := by decide +kernel
theorem dL_areShifts_195 : decode cL_areShifts 195 = .ok (.imul, 1) := by decide +kernel
theorem dL_areShifts_196 : decode cL_areShifts 196 = .ok (.istore 10, 2) := by decide +kernel
theorem dL_areShifts_198 : decode cL_areShifts 198 = .ok (.bipush 100, 2) := by decide +kernel
theorem dL_areShifts_200 : decode cL_areShifts 200 = .ok (.iload 8, 2) := by decide +kernel
theorem dL_areShifts_202 : decode cL_areShifts 202 = .ok (.aload_n 2, 1) := by decide +kernel
theorem dL_areShifts_203 : decode cL_areShifts 203 = .ok (.iload 6, 2) := by decide +kernel
theorem dL_areShifts_205 : decode cL_areShifts 205 = .ok (.iconst 4, 1) := by decide +kernel
theorem dL_areShifts_206 : decode cL_areShifts 206 = .ok (.iadd, 1) := by decide +kernel
theorem dL_areShifts_207 : decode cL_areShifts 207 = .ok (.iaload, 1) := by decide +kernel
theorem dL_areShifts_208 : decode cL_areShifts 208 = .ok (.if_icmp .lt 12, 3) := by decide +kernel
theorem dL_areShifts_211 : decode cL_areShifts 211 = .ok (.aload_n 2, 1) := by decide +kernel
theorem dL_areShifts_212 : decode cL_areShifts 212 = .ok (.iload 6, 2) := by decide +kernel
theorem dL_areShifts_214 : decode cL_areShifts 214 = .ok (.iconst 3, 1) := by decide +kernel
theorem dL_areShifts_215 : decode cL_areShifts 215 = .ok (.iadd, 1) := by decide +kernel
theorem dL_areShifts_216 : decode cL_areShifts 216 = .ok (.iaload, 1) := by decide +kernel
theorem dL_areShifts_217 : decode cL_areShifts 217 = .ok (.goto 9, 3) := by decide +kernel
theorem dL_areShifts_220 : decode cL_areShifts 220 = .ok (.aload_n 2, 1) := by decide +kernel
theorem dL_areShifts_221 : decode cL_areShifts 221 = .ok (.iload 6, 2) := by decide +kernel
theorem dL_areShifts_223 : decode cL_areShifts 223 = .ok (.iconst 2, 1) := by decide +kernel
theorem dL_areShifts_224 : decode cL_areShifts 224 = .ok (.iadd, 1) := by decide +kernel
theorem dL_areShifts_225 : decode cL_areShifts 225 = .ok (.iaload, 1) := by decide +kernel
theorem dL_areShifts_226 : decode cL_areShifts 226 = .ok (.iadd, 1) := by decide +kernel
theorem dL_areShifts_227 : decode cL_areShifts 227 = .ok (.istore 11, 2) := by decide +kernel
theorem dL_areShifts_229 : decode cL_areShifts 229 = .ok (.iconst 2, 1) := by decide +kernel
theorem dL_areShifts_230 : decode cL_areShifts 230 = .ok (.iload 9, 2) := by decide +kernel
theorem dL_areShifts_232 : decode cL_areShifts 232 = .ok (.imul, 1) := by decide +kernel
theorem dL_areShifts_233 : decode cL_areShifts 233 = .ok (.iload 10, 2) := by decide +kernel
theorem dL_areShifts_235 : decode cL_areShifts 235 = .ok (.if_icmp .gt 55, 3) := by decide +kernel
theorem dL_areShifts_238 : decode cL_areShifts 238 = .ok (.iconst 2, 1) := by decide +kernel
theorem dL_areShifts_239 : decode cL_areShifts 239 = .ok (.iload 9, 2) := by decide +kernel
theorem dL_areShifts_241 : decode cL_areShifts 241 = .ok (.imul, 1) := by decide +kernel
theorem dL_areShifts_242 : decode cL_areShifts 242 = .ok (.iconst 2, 1) := by decide +kernel
theorem dL_areShifts_243 : decode cL_areShifts 243 = .ok (.iadd, 1) := by decide +kernel
theorem dL_areShifts_244 : decode cL_areShifts 244 = .ok (.iload 10, 2) := by decide +kernel
theorem dL_areShifts_246 : decode cL_areShifts 246 = .ok (.if_icmp .le 44, 3) := by decide +kernel
theorem dL_areShifts_249 : decode cL_areShifts 249 = .ok (.bipush 100, 2) := by decide +kernel
theorem dL_areShifts_251 : decode cL_areShifts 251 = .ok (.aload_n 0, 1) := by decide +kernel
theorem dL_areShifts_252 : decode cL_areShifts 252 = .ok (.iload 5, 2) := by decide +kernel
theorem dL_areShifts_254 : decode cL_areShifts 254 = .ok (.invokevirtual 60, 3) := by decide +kernel
theorem dL_areShifts_257 : decode cL_areShifts 257 = .ok (.imul, 1) := by decide +kernel
theorem dL_areShifts_258 : decode cL_areShifts 258 = .ok (.iload 9, 2) := by decide +kernel
theorem dL_areShifts_260 : decode cL_areShifts 260 = .ok (.iload 11, 2) := by decide +kernel
theorem dL_areShifts_262 : decode cL_areShifts 262 = .ok (.imul, 1) := by decide +kernel
theorem dL_areShifts_263 : decode cL_areShifts 263 = .ok (.if_icmp .gt 27, 3) := by decide +kernel
theorem dL_areShifts_266 : decode cL_areShifts 266 = .ok (.bipush 100, 2) := by decide +kernel
theorem dL_areShifts_268 : decode cL_areShifts 268 = .ok (.aload_n 0, 1) := by decide +kernel
theorem dL_areShifts_269 : decode cL_areShifts 269 = .ok (.iload 5, 2) := by decide +kernel
theorem dL_areShifts_271 : decode cL_areShifts 271 = .ok (.invokevirtual 60, 3) := by decide +kernel
theorem dL_areShifts_274 : decode cL_areShifts 274 = .ok (.imul, 1) := by decide +kernel
theorem dL_areShifts_275 : decode cL_areShifts 275 = .ok (.bipush 100, 2) := by decide +kernel
theorem dL_areShifts_277 : decode cL_areShifts 277 = .ok (.iadd, 1) := by decide +kernel
theorem dL_areShifts_278 : decode cL_areShifts 278 = .ok (.iload 9, 2) := by decide +kernel
theorem dL_areShifts_280 : decode cL_areShifts 280 = .ok (.iload 11, 2) := by decide +kernel
theorem dL_areShifts_282 : decode cL_areShifts 282 = .ok (.imul, 1) := by decide +kernel
theorem dL_areShifts_283 : decode cL_areShifts 283 = .ok (.if_icmp .le 7, 3) := by decide +kernel
theorem dL_areShifts_286 : decode cL_areShifts 286 = .ok (.iconst 1, 1) := by decide +kernel
theorem dL_areShifts_287 : decode cL_areShifts 287 = .ok (.goto 4, 3) := by decide +kernel
theorem dL_areShifts_290 : decode cL_areShifts 290 = .ok (.iconst 0, 1) := by decide +kernel
theorem dL_areShifts_291 : decode cL_areShifts 291 = .ok (.istore 4, 2) := by decide +kernel
theorem dL_areShifts_293 : decode cL_areShifts 293 = .ok (.iinc 5 1, 3) := by decide +kernel
theorem dL_areShifts_296 : decode cL_areShifts 296 = .ok (.goto (-276), 3) := by decide +kernel
theorem dL_areShifts_299 : decode cL_areShifts 299 = .ok (.iload 4, 2) := by decide +kernel
theorem dL_areShifts_301 : decode cL_areShifts 301 = .ok (.ireturn, 1) := by decide +kernel
set_option maxRecDepth 20000 in
theorem ggL_areSums_L_day : GoodIn wsL_areSums wsL_day := goodIn_r _ [4] (by decide +kernel) (by decide +kernel)
set_option maxRecDepth 20000 in
theorem gL_areSums_L_day : GoodIn wsL_areSums (va_wsS RL 96 yL_day wsL_day) := goodIn_app (goodIn_of _ (by decide +kernel)) ggL_areSums_L_day
set_option maxRecDepth 20000 in
theorem ggL_areSums_X0_payOf : GoodIn wsL_areSums wsX0_payOf := goodIn_ca (goodIn_r _ [9, 10, 11, 12, 8, 13, 14, 15, 16, 17, 18, 19, 20, 21, 22, 23, 24, 25, 26, 27, 28, 29, 30, 31, 32, 33, 34, 35, 36, 37, 38, 39, 40, 41, 42, 43, 44, 45, 46, 47, 48, 49, 50, 51, 52, 53, 54, 55, 56, 57, 58, 59, 60, 61, 62, 63, 64, 65, 66, 67, 68, 69, 70, 71, 72, 73, 74, 75, 144, 145, 146, 147, 148, 149, 150, 151, 152, 153, 154, 155, 156, 157, 158, 159] (by decide +kernel) (by decide +kernel)) (goodIn_sub (fun _ h => List.mem_cons_of_mem _ (List.mem_append_right _ h)) (by decide +kernel))
set_option maxRecDepth 20000 in
theorem gL_areSums_X0_payOf : GoodIn wsL_areSums (wsV RL 57 RX0 yX0_payOf wsX0_payOf) := goodIn_app (goodIn_of _ (by decide +kernel)) ggL_areSums_X0_payOf
set_option maxRecDepth 20000 in
theorem ggL_areSums_L_hours : GoodIn wsL_areSums wsL_hours := goodIn_r _ [78] (by decide +kernel) (by decide +kernel)
set_option maxRecDepth 20000 in
theorem gL_areSums_L_hours : GoodIn wsL_areSums (va_wsS RL 102 yL_hours wsL_hours) := goodIn_app (goodIn_of _ (by decide +kernel)) ggL_areSums_L_hours
set_option maxRecDepth 20000 in
theorem ggL_areSums_X0_pay : GoodIn wsL_areSums wsX0_pay := goodIn_ca (goodIn_r _ [82, 11, 12, 8, 13, 14, 15, 83, 84, 85, 86, 10, 49, 50, 51, 52, 21, 23, 40, 41, 42, 43, 44, 45, 16, 17, 18, 19, 20, 22, 24, 25, 26, 27, 28, 29, 30, 31, 32, 33, 34, 35, 36, 37, 38, 39, 46, 47, 48, 53, 54, 55, 56, 57, 58, 59, 60, 61, 62, 63, 64, 65, 66, 67, 68, 69, 70, 71, 72, 73, 74, 75, 144, 145, 146, 147, 148, 149, 150, 151, 152, 153, 154, 155, 156, 157, 158, 159] (by decide +kernel) (by decide +kernel)) (goodIn_sub (fun _ h => List.mem_cons_of_mem _ (List.mem_append_right _ h)) (by decide +kernel))
set_option maxRecDepth 20000 in
theorem gL_areSums_X0_pay : GoodIn wsL_areSums (wsV RL 63 RX0 yX0_pay wsX0_pay) := goodIn_app (goodIn_of _ (by decide +kernel)) ggL_areSums_X0_pay
set_option maxRecDepth 20000 in
theorem ggL_areSums_X0_payByHours : GoodIn wsL_areSums wsX0_payByHours := goodIn_ca (goodIn_r _ [90, 10, 21, 23, 22, 20, 11, 12, 8, 13, 14, 15, 40, 41, 42, 60, 61, 62, 63, 64, 65, 66, 67, 68, 69, 70, 71, 72, 73, 74, 75, 43, 44, 45, 144, 145, 146, 147, 148, 149, 150, 151, 152, 153, 154, 155, 156, 157, 158, 159] (by decide +kernel) (by decide +kernel)) (goodIn_sub (fun _ h => List.mem_cons_of_mem _ (List.mem_append_right _ h)) (by decide +kernel))
set_option maxRecDepth 20000 in
theorem gL_areSums_X0_payByHours : GoodIn wsL_areSums (wsV RL 66 RX0 yX0_payByHours wsX0_payByHours) := goodIn_app (goodIn_of _ (by decide +kernel)) ggL_areSums_X0_payByHours
set_option maxRecDepth 20000 in
theorem ggL_areSums_X0_paid : GoodIn wsL_areSums wsX0_paid := goodIn_ca (goodIn_r _ [94, 95, 11, 12, 8, 13, 14, 15, 40, 41, 42, 144, 145, 146, 147, 148, 149, 150, 151, 152, 153, 154, 155, 156, 157, 158, 159] (by decide +kernel) (by decide +kernel)) (goodIn_sub (fun _ h => List.mem_cons_of_mem _ (List.mem_append_right _ h)) (by decide +kernel))
set_option maxRecDepth 20000 in
theorem gL_areSums_X0_paid : GoodIn wsL_areSums (wsV RL 69 RX0 yX0_paid wsX0_paid) := goodIn_app (goodIn_of _ (by decide +kernel)) ggL_areSums_X0_paid
set_option maxRecDepth 20000 in
theorem ggL_areSums_X0_owing : GoodIn wsL_areSums wsX0_owing := goodIn_ca (goodIn_r _ [99, 95, 11, 12, 8, 13, 14, 15, 83, 84, 85, 86, 10, 49, 50, 51, 52, 21, 23, 40, 41, 42, 43, 44, 45, 16, 17, 18, 19, 20, 22, 24, 25, 26, 27, 28, 29, 30, 31, 32, 33, 34, 35, 36, 37, 38, 39, 46, 47, 48, 53, 54, 55, 56, 57, 58, 59, 60, 61, 62, 63, 64, 65, 66, 67, 68, 69, 70, 71, 72, 73, 74, 75, 144, 145, 146, 147, 148, 149, 150, 151, 152, 153, 154, 155, 156, 157, 158, 159] (by decide +kernel) (by decide +kernel)) (goodIn_sub (fun _ h => List.mem_cons_of_mem _ (List.mem_append_right _ h)) (by decide +kernel))
set_option maxRecDepth 20000 in
theorem gL_areSums_X0_owing : GoodIn wsL_areSums (wsV RL 75 RX0 yX0_owing wsX0_owing) := goodIn_app (goodIn_of _ (by decide +kernel)) ggL_areSums_X0_owing
set_option maxRecDepth 20000 in
theorem ggL_areSums_X0_holiday : GoodIn wsL_areSums wsX0_holiday := goodIn_ca (goodIn_r _ [103, 11, 12, 8, 13, 14, 15, 104, 105, 106, 107, 10, 21, 20, 108, 40, 41, 42, 144, 145, 146, 147, 148, 149, 150, 151, 152, 153, 154, 155, 156, 157, 158, 159] (by decide +kernel) (by decide +kernel)) (goodIn_sub (fun _ h => List.mem_cons_of_mem _ (List.mem_append_right _ h)) (by decide +kernel))
set_option maxRecDepth 20000 in
theorem gL_areSums_X0_holiday : GoodIn wsL_areSums (wsV RL 81 RX0 yX0_holiday wsX0_holiday) := goodIn_app (goodIn_of _ (by decide +kernel)) ggL_areSums_X0_holiday
set_option maxRecDepth 20000 in
theorem ggL_areSums_X0_chargeOf : GoodIn wsL_areSums wsX0_chargeOf := goodIn_ca (goodIn_r _ [112, 10, 22, 23, 11, 12, 8, 13, 14, 15, 40, 41, 42, 43, 44, 45, 113, 114, 115, 116, 117, 118, 119, 120, 121, 122, 123, 20, 124, 125, 126, 127, 16, 17, 18, 19, 21, 24, 25, 26, 27, 28, 29, 30, 31, 32, 33, 34, 35, 36, 37, 38, 39, 46, 47, 48, 49, 50, 51, 52, 53, 54, 55, 56, 57, 58, 59, 60, 61, 62, 63, 64, 65, 66, 67, 68, 69, 70, 71, 72, 73, 74, 75, 128, 129, 130, 144, 145, 146, 147, 148, 149, 150, 151, 152, 153, 154, 155, 156, 157, 158, 159] (by decide +kernel) (by decide +kernel)) (goodIn_sub (fun _ h => List.mem_cons_of_mem _ (List.mem_append_right _ h)) (by decide +kernel))
set_option maxRecDepth 20000 in
theorem gL_areSums_X0_chargeOf : GoodIn wsL_areSums (wsV RL 60 RX0 yX0_chargeOf wsX0_chargeOf) := goodIn_app (goodIn_of _ (by decide +kernel)) ggL_areSums_X0_chargeOf
set_option maxRecDepth 20000 in
theorem ggL_areSums_X0_billed : GoodIn wsL_areSums wsX0_billed := goodIn_ca (goodIn_r _ [134, 135, 11, 12, 8, 13, 14, 15, 40, 41, 42, 144, 145, 146, 147, 148, 149, 150, 151, 152, 153, 154, 155, 156, 157, 158, 159] (by decide +kernel) (by decide +kernel)) (goodIn_sub (fun _ h => List.mem_cons_of_mem _ (List.mem_append_right _ h)) (by decide +kernel))
set_option maxRecDepth 20000 in
theorem gL_areSums_X0_billed : GoodIn wsL_areSums (wsV RL 72 RX0 yX0_billed wsX0_billed) := goodIn_app (goodIn_of _ (by decide +kernel)) ggL_areSums_X0_billed
set_option maxRecDepth 20000 in
theorem ggL_areSums_X0_toBill : GoodIn wsL_areSums wsX0_toBill := goodIn_ca (goodIn_r _ [139, 135, 11, 12, 8, 13, 14, 15, 140, 141, 142, 143, 10, 113, 114, 115, 116, 117, 118, 119, 120, 121, 122, 123, 20, 124, 125, 126, 127, 22, 23, 40, 41, 42, 43, 44, 45, 16, 17, 18, 19, 21, 24, 25, 26, 27, 28, 29, 30, 31, 32, 33, 34, 35, 36, 37, 38, 39, 46, 47, 48, 49, 50, 51, 52, 53, 54, 55, 56, 57, 58, 59, 60, 61, 62, 63, 64, 65, 66, 67, 68, 69, 70, 71, 72, 73, 74, 75, 128, 129, 130, 144, 145, 146, 147, 148, 149, 150, 151, 152, 153, 154, 155, 156, 157, 158, 159] (by decide +kernel) (by decide +kernel)) (goodIn_sub (fun _ h => List.mem_cons_of_mem _ (List.mem_append_right _ h)) (by decide +kernel))
set_option maxRecDepth 20000 in
theorem gL_areSums_X0_toBill : GoodIn wsL_areSums (wsV RL 78 RX0 yX0_toBill wsX0_toBill) := goodIn_app (goodIn_of _ (by decide +kernel)) ggL_areSums_X0_toBill
theorem dL_areSums_0 : decode cL_areSums 0 = .ok (.iconst 0, 1) := by decide +kernel
theorem dL_areSums_1 : decode cL_areSums 1 = .ok (.istore 4, 2) := by decide +kernel
theorem dL_areSums_3 : decode cL_areSums 3 = .ok (.iconst 0, 1) := by decide +kernel
theorem dL_areSums_4 : decode cL_areSums 4 = .ok (.istore 5, 2) := by decide +kernel
theorem dL_areSums_6 : decode cL_areSums 6 = .ok (.iconst 1, 1) := by decide +kernel
theorem dL_areSums_7 : decode cL_areSums 7 = .ok (.istore 6, 2) := by decide +kernel
theorem dL_areSums_9 : decode cL_areSums 9 = .ok (.iconst 0, 1) := by decide +kernel
theorem dL_areSums_10 : decode cL_areSums 10 = .ok (.istore 7, 2) := by decide +kernel
theorem dL_areSums_12 : decode cL_areSums 12 = .ok (.iload 7, 2) := by decide +kernel
theorem dL_areSums_14 : decode cL_areSums 14 = .ok (.bipush 6, 2) := by decide +kernel
theorem dL_areSums_16 : decode cL_areSums 16 = .ok (.if_icmp .ge 192, 3) := by decide +kernel
theorem dL_areSums_19 : decode cL_areSums 19 = .ok (.iload 6, 2) := by decide +kernel
theorem dL_areSums_21 : decode cL_areSums 21 = .ok (.ifCond .eq 187, 3) := by decide +kernel
theorem dL_areSums_24 : decode cL_areSums 24 = .ok (.iconst 0, 1) := by decide +kernel
theorem dL_areSums_25 : decode cL_areSums 25 = .ok (.istore 8, 2) := by decide +kernel
theorem dL_areSums_27 : decode cL_areSums 27 = .ok (.iconst 0, 1) := by decide +kernel
theorem dL_areSums_28 : decode cL_areSums 28 = .ok (.istore 9, 2) := by decide +kernel
theorem dL_areSums_30 : decode cL_areSums 30 = .ok (.iconst 0, 1) := by decide +kernel
theorem dL_areSums_31 : decode cL_areSums 31 = .ok (.istore 10, 2) := by decide +kernel
theorem dL_areSums_33 : decode cL_areSums 33 = .ok (.iload 10, 2) := by decide +kernel
theorem dL_areSums_35 : decode cL_areSums 35 = .ok (.aload_n 2, 1) := by decide +kernel
theorem dL_areSums_36 : decode cL_areSums 36 = .ok (.iconst 0, 1) := by decide +kernel
theorem dL_areSums_37 : decode cL_areSums 37 = .ok (.iaload, 1) := by decide +kernel
theorem dL_areSums_38 : decode cL_areSums 38 = .ok (.if_icmp .ge 79, 3) := by decide +kernel
theorem dL_areSums_41 : decode cL_areSums 41 = .ok (.iload 8, 2) := by decide +kernel
theorem dL_areSums_43 : decode cL_areSums 43 = .ok (.aload_n 1, 1) := by decide +kernel
theorem dL_areSums_44 : decode cL_areSums 44 = .ok (.iload 10, 2) := by decide +kernel
theorem dL_areSums_46 : decode cL_areSums 46 = .ok (.iaload, 1) := by decide +kernel
theorem dL_areSums_47 : decode cL_areSums 47 = .ok (.bipush 7, 2) := by decide +kernel
theorem dL_areSums_49 : decode cL_areSums 49 = .ok (.iand, 1) := by decide +kernel
theorem dL_areSums_50 : decode cL_areSums 50 = .ok (.iload 7, 2) := by decide +kernel
theorem dL_areSums_52 : decode cL_areSums 52 = .ok (.if_icmp .ne 25, 3) := by decide +kernel
theorem dL_areSums_55 : decode cL_areSums 55 = .ok (.aload_n 1, 1) := by decide +kernel
theorem dL_areSums_56 : decode cL_areSums 56 = .ok (.iload 10, 2) := by decide +kernel
theorem dL_areSums_58 : decode cL_areSums 58 = .ok (.invokestatic 96, 3) := by decide +kernel
theorem dL_areSums_61 : decode cL_areSums 61 = .ok (.bipush 7, 2) := by decide +kernel
theorem dL_areSums_63 : decode cL_areSums 63 = .ok (.idiv, 1) := by decide +kernel
theorem dL_areSums_64 : decode cL_areSums 64 = .ok (.iload_n 3, 1) := by decide +kernel
theorem dL_areSums_65 : decode cL_areSums 65 = .ok (.if_icmp .ne 12, 3) := by decide +kernel
theorem dL_areSums_68 : decode cL_areSums 68 = .ok (.aload_n 0, 1) := by decide +kernel
theorem dL_areSums_69 : decode cL_areSums 69 = .ok (.iload 10, 2) := by decide +kernel
theorem dL_areSums_71 : decode cL_areSums 71 = .ok (.invokevirtual 57, 3) := by decide +kernel
theorem dL_areSums_74 : decode cL_areSums 74 = .ok (.goto 4, 3) := by decide +kernel
theorem dL_areSums_77 : decode cL_areSums 77 = .ok (.iconst 0, 1) := by decide +kernel
theorem dL_areSums_78 : decode cL_areSums 78 = .ok (.iadd, 1) := by decide +kernel
theorem dL_areSums_79 : decode cL_areSums 79 = .ok (.istore 8, 2) := by decide +kernel
theorem dL_areSums_81 : decode cL_areSums 81 = .ok (.iload 9, 2) := by decide +kernel
theorem dL_areSums_83 : decode cL_areSums 83 = .ok (.aload_n 1, 1) := by decide +kernel
theorem dL_areSums_84 : decode cL_areSums 84 = .ok (.iload 10, 2) := by decide +kernel
theorem dL_areSums_86 : decode cL_areSums 86 = .ok (.iaload, 1) := by decide +kernel
theorem dL_areSums_87 : decode cL_areSums 87 = .ok (.bipush 7, 2) := by decide +kernel
theorem dL_areSums_89 : decode cL_areSums 89 = .ok (.iand, 1) := by decide +kernel
theorem dL_areSums_90 : decode cL_areSums 90 = .ok (.iload 7, 2) := by decide +kernel
theorem dL_areSums_92 : decode cL_areSums 92 = .ok (.if_icmp .ne 15, 3) := by decide +kernel
theorem dL_areSums_95 : decode cL_areSums 95 = .ok (.bipush 7, 2) := by decide +kernel
theorem dL_areSums_97 : decode cL_areSums 97 = .ok (.aload_n 1, 1) := by decide +kernel
theorem dL_areSums_98 : decode cL_areSums 98 = .ok (.iload 10, 2) := by decide +kernel
theorem dL_areSums_100 : decode cL_areSums 100 = .ok (.invokestatic 102, 3) := by decide +kernel
theorem dL_areSums_103 : decode cL_areSums 103 = .ok (.imul, 1) := by decide +kernel
theorem dL_areSums_104 : decode cL_areSums 104 = .ok (.goto 4, 3) := by decide +kernel
theorem dL_areSums_107 : decode cL_areSums 107 = .ok (.iconst 0, 1) := by decide +kernel
theorem dL_areSums_108 : decode cL_areSums 108 = .ok (.iadd, 1) := by decide +kernel
theorem dL_areSums_109 : decode cL_areSums 109 = .ok (.istore 9, 2) := by decide +kernel
theorem dL_areSums_111 : decode cL_areSums 111 = .ok (.iinc 10 1, 3) := by decide +kernel
theorem dL_areSums_114 : decode cL_areSums 114 = .ok (.goto (-81), 3) := by decide +kernel
theorem dL_areSums_117 : decode cL_areSums 117 = .ok (.iload 4, 2) := by decide +kernel
theorem dL_areSums_119 : decode cL_areSums 119 = .ok (.iload 8, 2) := by decide +kernel
theorem dL_areSums_121 : decode cL_areSums 121 = .ok (.iadd, 1) := by decide +kernel
theorem dL_areSums_122 : decode cL_areSums 122 = .ok (.istore 4, 2) := by decide +kernel
theorem dL_areSums_124 : decode cL_areSums 124 = .ok (.aload_n 0, 1) := by decide +kernel
theorem dL_areSums_125 : decode cL_areSums 125 = .ok (.iload 7, 2) := by decide +kernel
theorem dL_areSums_127 : decode cL_areSums 127 = .ok (.iload_n 3, 1) := by decide +kernel
theorem dL_areSums_128 : decode cL_areSums 128 = .ok (.invokevirtual 63, 3) := by decide +kernel
theorem dL_areSums_131 : decode cL_areSums 131 = .ok (.iload 8, 2) := by decide +kernel
theorem dL_areSums_133 : decode cL_areSums 133 = .ok (.if_icmp .ne 66, 3) := by decide +kernel
theorem dL_areSums_136 : decode cL_areSums 136 = .ok (.aload_n 0, 1) := by decide +kernel
theorem dL_areSums_137 : decode cL_areSums 137 = .ok (.iload 7, 2) := by decide +kernel
theorem dL_areSums_139 : decode cL_areSums 139 = .ok (.iload_n 3, 1) := by decide +kernel
theorem dL_areSums_140 : decode cL_areSums 140 = .ok (.invokevirtual 66, 3) := by decide +kernel
theorem dL_areSums_143 : decode cL_areSums 143 = .ok (.iload 8, 2) := by decide +kernel
theorem dL_areSums_145 : decode cL_areSums 145 = .ok (.if_icmp .ne 54, 3) := by decide +kernel
theorem dL_areSums_148 : decode cL_areSums 148 = .ok (.aload_n 0, 1) := by decide +kernel
theorem dL_areSums_149 : decode cL_areSums 149 = .ok (.iload 7, 2) := by decide +kernel
theorem dL_areSums_151 : decode cL_areSums 151 = .ok (.iload_n 3, 1) := by decide +kernel
theorem dL_areSums_152 : decode cL_areSums 152 = .ok (.invokevirtual 69, 3) := by decide +kernel
theorem dL_areSums_155 : decode cL_areSums 155 = .ok (.aload_n 0, 1) := by decide +kernel
theorem dL_areSums_156 : decode cL_areSums 156 = .ok (.iload 7, 2) := by decide +kernel
theorem dL_areSums_158 : decode cL_areSums 158 = .ok (.iload_n 3, 1) := by decide +kernel
theorem dL_areSums_159 : decode cL_areSums 159 = .ok (.invokevirtual 75, 3) := by decide +kernel
theorem dL_areSums_162 : decode cL_areSums 162 = .ok (.iadd, 1) := by decide +kernel
theorem dL_areSums_163 : decode cL_areSums 163 = .ok (.iload 8, 2) := by decide +kernel
theorem dL_areSums_165 : decode cL_areSums 165 = .ok (.if_icmp .ne 34, 3) := by decide +kernel
theorem dL_areSums_168 : decode cL_areSums 168 = .ok (.aload_n 0, 1) := by decide +kernel
theorem dL_areSums_169 : decode cL_areSums 169 = .ok (.iload 7, 2) := by decide +kernel
theorem dL_areSums_171 : decode cL_areSums 171 = .ok (.invokevirtual 81, 3) := by decide +kernel
theorem dL_areSums_174 : decode cL_areSums 174 = .ok (.iload 9, 2) := by decide +kernel
theorem dL_areSums_176 : decode cL_areSums 176 = .ok (.aload_n 2, 1) := by decide +kernel
theorem dL_areSums_177 : decode cL_areSums 177 = .ok (.iconst 1, 1) := by decide +kernel
theorem dL_areSums_178 : decode cL_areSums 178 = .ok (.iload 7, 2) := by decide +kernel
theorem dL_areSums_180 : decode cL_areSums 180 = .ok (.iadd, 1) := by decide +kernel
theorem dL_areSums_181 : decode cL_areSums 181 = .ok (.iaload, 1) := by decide +kernel
theorem dL_areSums_182 : decode cL_areSums 182 = .ok (.isub, 1) := by decide +kernel
theorem dL_areSums_183 : decode cL_areSums 183 = .ok (.if_icmp .ne 16, 3) := by decide +kernel
theorem dL_areSums_186 : decode cL_areSums 186 = .ok (.aload_n 0, 1) := by decide +kernel
theorem dL_areSums_187 : decode cL_areSums 187 = .ok (.iload 7, 2) := by decide +kernel
theorem dL_areSums_189 : decode cL_areSums 189 = .ok (.invokevirtual 81, 3) := by decide +kernel
theorem dL_areSums_192 : decode cL_areSums 192 = .ok (.ifCond .lt 7, 3) := by decide +kernel
theorem dL_areSums_195 : decode cL_areSums 195 = .ok (.iconst 1, 1) := by decide +kernel
theorem dL_areSums_196 : decode cL_areSums 196 = .ok (.goto 4, 3) := by decide +kernel
theorem dL_areSums_199 : decode cL_areSums 199 = .ok (.iconst 0, 1) := by decide +kernel
theorem dL_areSums_200 : decode cL_areSums 200 = .ok (.istore 6, 2) := by decide +kernel
theorem dL_areSums_202 : decode cL_areSums 202 = .ok (.iinc 7 1, 3) := by decide +kernel
theorem dL_areSums_205 : decode cL_areSums 205 = .ok (.goto (-193), 3) := by decide +kernel
theorem dL_areSums_208 : decode cL_areSums 208 = .ok (.iconst 0, 1) := by decide +kernel
theorem dL_areSums_209 : decode cL_areSums 209 = .ok (.istore 7, 2) := by decide +kernel
theorem dL_areSums_211 : decode cL_areSums 211 = .ok (.iload 7, 2) := by decide +kernel
theorem dL_areSums_213 : decode cL_areSums 213 = .ok (.iconst 4, 1) := by decide +kernel
theorem dL_areSums_214 : decode cL_areSums 214 = .ok (.if_icmp .ge 110, 3) := by decide +kernel
theorem dL_areSums_217 : decode cL_areSums 217 = .ok (.iload 6, 2) := by decide +kernel
theorem dL_areSums_219 : decode cL_areSums 219 = .ok (.ifCond .eq 105, 3) := by decide +kernel
theorem dL_areSums_222 : decode cL_areSums 222 = .ok (.iconst 0, 1) := by decide +kernel
theorem dL_areSums_223 : decode cL_areSums 223 = .ok (.istore 8, 2) := by decide +kernel
theorem dL_areSums_225 : decode cL_areSums 225 = .ok (.iconst 0, 1) := by decide +kernel
theorem dL_areSums_226 : decode cL_areSums 226 = .ok (.istore 9, 2) := by decide +kernel
theorem dL_areSums_228 : decode cL_areSums 228 = .ok (.iload 9, 2) := by decide +kernel
theorem dL_areSums_230 : decode cL_areSums 230 = .ok (.aload_n 2, 1) := by decide +kernel
theorem dL_areSums_231 : decode cL_areSums 231 = .ok (.iconst 0, 1) := by decide +kernel
theorem dL_areSums_232 : decode cL_areSums 232 = .ok (.iaload, 1) := by decide +kernel
theorem dL_areSums_233 : decode cL_areSums 233 = .ok (.if_icmp .ge 51, 3) := by decide +kernel
theorem dL_areSums_236 : decode cL_areSums 236 = .ok (.iload 8, 2) := by decide +kernel
theorem dL_areSums_238 : decode cL_areSums 238 = .ok (.aload_n 1, 1) := by decide +kernel
theorem dL_areSums_239 : decode cL_areSums 239 = .ok (.iload 9, 2) := by decide +kernel
theorem dL_areSums_241 : decode cL_areSums 241 = .ok (.iaload, 1) := by decide +kernel
theorem dL_areSums_242 : decode cL_areSums 242 = .ok (.iconst 3, 1) := by decide +kernel
theorem dL_areSums_243 : decode cL_areSums 243 = .ok (.ishr, 1) := by decide +kernel
theorem dL_areSums_244 : decode cL_areSums 244 = .ok (.bipush 7, 2) := by decide +kernel
theorem dL_areSums_246 : decode cL_areSums 246 = .ok (.iand, 1) := by decide +kernel
theorem dL_areSums_247 : decode cL_areSums 247 = .ok (.iload 7, 2) := by decide +kernel
theorem dL_areSums_249 : decode cL_areSums 249 = .ok (.if_icmp .ne 25, 3) := by decide +kernel
theorem dL_areSums_252 : decode cL_areSums 252 = .ok (.aload_n 1, 1) := by decide +kernel
theorem dL_areSums_253 : decode cL_areSums 253 = .ok (.iload 9, 2) := by decide +kernel
theorem dL_areSums_255 : decode cL_areSums 255 = .ok (.invokestatic 96, 3) := by decide +kernel
theorem dL_areSums_258 : decode cL_areSums 258 = .ok (.bipush 7, 2) := by decide +kernel
theorem dL_areSums_260 : decode cL_areSums 260 = .ok (.idiv, 1) := by decide +kernel
theorem dL_areSums_261 : decode cL_areSums 261 = .ok (.iload_n 3, 1) := by decide +kernel
theorem dL_areSums_262 : decode cL_areSums 262 = .ok (.if_icmp .ne 12, 3) := by decide +kernel
theorem dL_areSums_265 : decode cL_areSums 265 = .ok (.aload_n 0, 1) := by decide +kernel
theorem dL_areSums_266 : decode cL_areSums 266 = .ok (.iload 9, 2) := by decide +kernel
theorem dL_areSums_268 : decode cL_areSums 268 = .ok (.invokevirtual 60, 3) := by decide +kernel
theorem dL_areSums_271 : decode cL_areSums 271 = .ok (.goto 4, 3) := by decide +kernel
theorem dL_areSums_274 : decode cL_areSums 274 = .ok (.iconst 0, 1) := by decide +kernel
theorem dL_areSums_275 : decode cL_areSums 275 = .ok (.iadd, 1) := by decide +kernel
theorem dL_areSums_276 : decode cL_areSums 276 = .ok (.istore 8, 2) := by decide +kernel
theorem dL_areSums_278 : decode cL_areSums 278 = .ok (.iinc 9 1, 3) := by decide +kernel
theorem dL_areSums_281 : decode cL_areSums 281 = .ok (.goto (-53), 3) := by decide +kernel
theorem dL_areSums_284 : decode cL_areSums 284 = .ok (.iload 5, 2) := by decide +kernel
theorem dL_areSums_286 : decode cL_areSums 286 = .ok (.iload 8, 2) := by decide +kernel
theorem dL_areSums_288 : decode cL_areSums 288 = .ok (.iadd, 1) := by decide +kernel
theorem dL_areSums_289 : decode cL_areSums 289 = .ok (.istore 5, 2) := by decide +kernel
theorem dL_areSums_291 : decode cL_areSums 291 = .ok (.aload_n 0, 1) := by decide +kernel
theorem dL_areSums_292 : decode cL_areSums 292 = .ok (.iload 7, 2) := by decide +kernel
theorem dL_areSums_294 : decode cL_areSums 294 = .ok (.iload_n 3, 1) := by decide +kernel
theorem dL_areSums_295 : decode cL_areSums 295 = .ok (.invokevirtual 72, 3) := by decide +kernel
theorem dL_areSums_298 : decode cL_areSums 298 = .ok (.aload_n 0, 1) := by decide +kernel
theorem dL_areSums_299 : decode cL_areSums 299 = .ok (.iload 7, 2) := by decide +kernel
theorem dL_areSums_301 : decode cL_areSums 301 = .ok (.iload_n 3, 1) := by decide +kernel
theorem dL_areSums_302 : decode cL_areSums 302 = .ok (.invokevirtual 78, 3) := by decide +kernel
theorem dL_areSums_305 : decode cL_areSums 305 = .ok (.iadd, 1) := by decide +kernel
theorem dL_areSums_306 : decode cL_areSums 306 = .ok (.iload 8, 2) := by decide +kernel
theorem dL_areSums_308 : decode cL_areSums 308 = .ok (.if_icmp .ne 7, 3) := by decide +kernel
theorem dL_areSums_311 : decode cL_areSums 311 = .ok (.iconst 1, 1) := by decide +kernel
theorem dL_areSums_312 : decode cL_areSums 312 = .ok (.goto 4, 3) := by decide +kernel
theorem dL_areSums_315 : decode cL_areSums 315 = .ok (.iconst 0, 1) := by decide +kernel
theorem dL_areSums_316 : decode cL_areSums 316 = .ok (.istore 6, 2) := by decide +kernel
theorem dL_areSums_318 : decode cL_areSums 318 = .ok (.iinc 7 1, 3) := by decide +kernel
theorem dL_areSums_321 : decode cL_areSums 321 = .ok (.goto (-110), 3) := by decide +kernel
theorem dL_areSums_324 : decode cL_areSums 324 = .ok (.iload 6, 2) := by decide +kernel
theorem dL_areSums_326 : decode cL_areSums 326 = .ok (.ifCond .eq 14, 3) := by decide +kernel
theorem dL_areSums_329 : decode cL_areSums 329 = .ok (.iload 5, 2) := by decide +kernel
theorem dL_areSums_331 : decode cL_areSums 331 = .ok (.iload 4, 2) := by decide +kernel
theorem dL_areSums_333 : decode cL_areSums 333 = .ok (.if_icmp .lt 7, 3) := by decide +kernel
theorem dL_areSums_336 : decode cL_areSums 336 = .ok (.iconst 1, 1) := by decide +kernel
theorem dL_areSums_337 : decode cL_areSums 337 = .ok (.goto 4, 3) := by decide +kernel
theorem dL_areSums_340 : decode cL_areSums 340 = .ok (.iconst 0, 1) := by decide +kernel
theorem dL_areSums_341 : decode cL_areSums 341 = .ok (.ireturn, 1) := by decide +kernel
set_option maxRecDepth 20000 in
theorem ggL_isRefused_L_all : GoodIn wsL_isRefused wsL_all := goodIn_ca (goodIn_r _ [7, 8, 9, 10, 11, 12, 13, 14, 15, 16, 17, 18, 19, 20, 21, 22, 23, 24, 25, 26, 27, 28, 29, 30, 31, 32, 33, 34, 35, 36, 37, 38, 39, 40, 41, 42, 43, 44, 45, 46, 47, 48, 49, 50, 51, 52, 53, 54, 55, 56, 57, 58, 59, 60, 61, 62, 63, 64, 65, 66, 67, 68, 69, 70, 71, 72, 73, 74, 75, 76, 77, 78, 79, 80, 81, 82, 83, 84, 85, 86, 87, 88, 89, 90, 91, 92, 93, 94, 95, 96, 97, 98, 99, 100, 101, 102, 103, 104, 105, 106, 107, 108, 109, 110, 111, 112, 113, 114, 115, 116, 117, 118, 119, 120, 121, 122, 123, 124, 125, 126, 127, 128, 129, 130, 224, 225, 226, 227, 228, 229, 230, 231, 232, 233, 234, 235, 236, 237, 238, 239] (by decide +kernel) (by decide +kernel)) (goodIn_sub (fun _ h => List.mem_cons_of_mem _ (List.mem_append_left _ (List.mem_append_left _ (List.mem_append_right _ h)))) (by decide +kernel))
set_option maxRecDepth 20000 in
theorem gL_isRefused_L_all : GoodIn wsL_isRefused (va_wsS RL 104 yL_all wsL_all) := goodIn_app (goodIn_of _ (by decide +kernel)) ggL_isRefused_L_all
set_option maxRecDepth 20000 in
theorem ggL_isRefused_L_setRates : GoodIn wsL_isRefused wsL_setRates := goodIn_ca (goodIn_ca (goodIn_r _ [133, 134, 135, 1, 2, 136, 137, 138, 15, 139, 76, 75, 22, 23, 24, 25, 26, 140, 141, 142, 143, 144, 57, 58, 59, 224, 225, 226, 227, 228, 229, 230, 231, 232, 233, 234, 235, 236, 237, 238, 239] (by decide +kernel) (by decide +kernel)) (goodIn_sub (fun _ h => List.mem_cons_of_mem _ (List.mem_append_left _ (List.mem_append_left _ (List.mem_append_right _ h)))) (by decide +kernel))) (goodIn_sub (fun _ h => List.mem_cons_of_mem _ (List.mem_append_left _ (List.mem_append_right _ h))) (by decide +kernel))
set_option maxRecDepth 20000 in
theorem gL_isRefused_L_setRates : GoodIn wsL_isRefused (va_wsS RL 108 yL_setRates wsL_setRates) := goodIn_app (goodIn_of _ (by decide +kernel)) ggL_isRefused_L_setRates
set_option maxRecDepth 20000 in
theorem ggL_isRefused_L_setMargins : GoodIn wsL_isRefused wsL_setMargins := goodIn_ca (goodIn_ca (goodIn_r _ [147, 134, 135, 1, 2, 148, 149, 150, 15, 151, 97, 96, 95, 22, 23, 24, 25, 26, 140, 141, 142, 143, 144, 57, 58, 59, 224, 225, 226, 227, 228, 229, 230, 231, 232, 233, 234, 235, 236, 237, 238, 239] (by decide +kernel) (by decide +kernel)) (goodIn_sub (fun _ h => List.mem_cons_of_mem _ (List.mem_append_left _ (List.mem_append_left _ (List.mem_append_right _ h)))) (by decide +kernel))) (goodIn_sub (fun _ h => List.mem_cons_of_mem _ (List.mem_append_left _ (List.mem_append_right _ h))) (by decide +kernel))
set_option maxRecDepth 20000 in
theorem gL_isRefused_L_setMargins : GoodIn wsL_isRefused (va_wsS RL 111 yL_setMargins wsL_setMargins) := goodIn_app (goodIn_of _ (by decide +kernel)) ggL_isRefused_L_setMargins
set_option maxRecDepth 20000 in
theorem ggL_isRefused_L_setEqual : GoodIn wsL_isRefused wsL_setEqual := goodIn_ca (goodIn_r _ [154, 135, 2, 155, 156, 157, 15, 158, 82, 81, 140, 141, 142, 143, 144, 224, 225, 226, 227, 228, 229, 230, 231, 232, 233, 234, 235, 236, 237, 238, 239] (by decide +kernel) (by decide +kernel)) (goodIn_sub (fun _ h => List.mem_cons_of_mem _ (List.mem_append_left _ (List.mem_append_right _ h))) (by decide +kernel))
set_option maxRecDepth 20000 in
theorem gL_isRefused_L_setEqual : GoodIn wsL_isRefused (va_wsS RL 114 yL_setEqual wsL_setEqual) := goodIn_app (goodIn_of _ (by decide +kernel)) ggL_isRefused_L_setEqual
set_option maxRecDepth 20000 in
theorem ggL_isRefused_L_act : GoodIn wsL_isRefused wsL_act := goodIn_ca (goodIn_ca (goodIn_ca (goodIn_r _ [161, 134, 135, 162, 1, 2, 3, 163, 164, 165, 15, 166, 17, 32, 33, 34, 31, 22, 23, 24, 25, 26, 140, 141, 142, 143, 144, 167, 168, 169, 170, 171, 172, 173, 174, 175, 51, 52, 53, 57, 58, 59, 176, 177, 178, 179, 113, 114, 115, 116, 117, 180, 181, 182, 183, 122, 184, 127, 128, 129, 130, 60, 61, 62, 63, 54, 55, 56, 27, 28, 29, 30, 35, 36, 37, 38, 39, 40, 41, 42, 43, 44, 45, 46, 47, 48, 49, 50, 64, 65, 66, 67, 68, 69, 70, 71, 72, 73, 74, 75, 76, 77, 78, 79, 80, 81, 82, 83, 84, 85, 86, 185, 186, 187, 188, 91, 92, 93, 94, 95, 96, 97, 98, 99, 100, 101, 102, 103, 104, 105, 106, 107, 108, 189, 190, 191, 192, 224, 225, 226, 227, 228, 229, 230, 231, 232, 233, 234, 235, 236, 237, 238, 239] (by decide +kernel) (by decide +kernel)) (goodIn_sub (fun _ h => List.mem_cons_of_mem _ (List.mem_append_left _ (List.mem_append_left _ (List.mem_append_right _ h)))) (by decide +kernel))) (goodIn_sub (fun _ h => List.mem_cons_of_mem _ (List.mem_append_left _ (List.mem_append_right _ h))) (by decide +kernel))) (goodIn_sub (fun _ h => List.mem_cons_of_mem _ (List.mem_append_right _ h)) (by decide +kernel))
set_option maxRecDepth 20000 in
theorem gL_isRefused_L_act : GoodIn wsL_isRefused (va_wsS RL 117 yL_act wsL_act) := goodIn_app (goodIn_of _ (by decide +kernel)) ggL_isRefused_L_act
set_option maxRecDepth 20000 in
theorem ggL_isRefused_L_of : GoodIn wsL_isRefused wsL_of := goodIn_ca (goodIn_r _ [195, 134, 1, 196, 197, 198, 15, 199, 17, 31, 22, 23, 24, 25, 26, 60, 61, 62, 63, 32, 34, 51, 52, 53, 54, 55, 56, 200, 201, 202, 203, 35, 36, 37, 38, 39, 40, 41, 42, 43, 44, 45, 46, 47, 48, 49, 50, 57, 58, 59, 64, 65, 66, 67, 68, 69, 70, 204, 205, 206, 207, 77, 78, 79, 80, 81, 82, 83, 84, 85, 86, 33, 18, 19, 20, 21, 27, 28, 29, 30, 71, 72, 73, 74, 75, 76, 87, 88, 89, 90, 91, 92, 93, 94, 95, 96, 97, 98, 99, 100, 101, 102, 103, 104, 105, 106, 107, 108, 208, 209, 210, 211, 127, 128, 129, 130, 212, 213, 214, 215, 118, 119, 120, 121, 122, 216, 217, 218, 219, 184, 123, 124, 125, 126, 220, 221, 222, 223, 185, 186, 187, 188, 109, 110, 111, 112, 113, 114, 115, 116, 117, 224, 225, 226, 227, 228, 229, 230, 231, 232, 233, 234, 235, 236, 237, 238, 239] (by decide +kernel) (by decide +kernel)) (goodIn_sub (fun _ h => List.mem_cons_of_mem _ (List.mem_append_left _ (List.mem_append_left _ (List.mem_append_right _ h)))) (by decide +kernel))
set_option maxRecDepth 20000 in
theorem gL_isRefused_L_of : GoodIn wsL_isRefused (va_wsS RL 121 yL_of wsL_of) := goodIn_app (goodIn_of _ (by decide +kernel)) ggL_isRefused_L_of
set_option maxRecDepth 20000 in
theorem ggL_isRefused_X0_holiday : GoodIn wsL_isRefused wsX0_holiday := goodIn_ca (goodIn_r _ [112, 22, 23, 15, 24, 25, 26, 113, 114, 115, 116, 17, 32, 31, 117, 51, 52, 53, 224, 225, 226, 227, 228, 229, 230, 231, 232, 233, 234, 235, 236, 237, 238, 239] (by decide +kernel) (by decide +kernel)) (goodIn_sub (fun _ h => List.mem_cons_of_mem _ (List.mem_append_left _ (List.mem_append_left _ (List.mem_append_right _ h)))) (by decide +kernel))
set_option maxRecDepth 20000 in
theorem gL_isRefused_X0_holiday : GoodIn wsL_isRefused (wsV RL 81 RX0 yX0_holiday wsX0_holiday) := goodIn_app (goodIn_of _ (by decide +kernel)) ggL_isRefused_X0_holiday
theorem dL_isRefused_0 : decode cL_isRefused 0 = .ok (.iload_n 3, 1) := by decide +kernel
theorem dL_isRefused_1 : decode cL_isRefused 1 = .ok (.iconst 2, 1) := by decide +kernel
theorem dL_isRefused_2 : decode cL_isRefused 2 = .ok (.irem, 1) := by decide +kernel
theorem dL_isRefused_3 : decode cL_isRefused 3 = .ok (.ifCond .ne 7, 3) := by decide +kernel
theorem dL_isRefused_6 : decode cL_isRefused 6 = .ok (.iconst 1, 1) := by decide +kernel
theorem dL_isRefused_7 : decode cL_isRefused 7 = .ok (.goto 4, 3) := by decide +kernel
theorem dL_isRefused_10 : decode cL_isRefused 10 = .ok (.iconst 0, 1) := by decide +kernel
theorem dL_isRefused_11 : decode cL_isRefused 11 = .ok (.istore 4, 2) := by decide +kernel
theorem dL_isRefused_13 : decode cL_isRefused 13 = .ok (.iload 4, 2) := by decide +kernel
theorem dL_isRefused_15 : decode cL_isRefused 15 = .ok (.ifCond .eq 12, 3) := by decide +kernel
theorem dL_isRefused_18 : decode cL_isRefused 18 = .ok (.iconst (-1), 1) := by decide +kernel
theorem dL_isRefused_19 : decode cL_isRefused 19 = .ok (.iload_n 3, 1) := by decide +kernel
theorem dL_isRefused_20 : decode cL_isRefused 20 = .ok (.bipush 30, 2) := by decide +kernel
theorem dL_isRefused_22 : decode cL_isRefused 22 = .ok (.irem, 1) := by decide +kernel
theorem dL_isRefused_23 : decode cL_isRefused 23 = .ok (.isub, 1) := by decide +kernel
theorem dL_isRefused_24 : decode cL_isRefused 24 = .ok (.goto 10, 3) := by decide +kernel
theorem dL_isRefused_27 : decode cL_isRefused 27 = .ok (.bipush 6, 2) := by decide +kernel
theorem dL_isRefused_29 : decode cL_isRefused 29 = .ok (.iload_n 3, 1) := by decide +kernel
theorem dL_isRefused_30 : decode cL_isRefused 30 = .ok (.bipush 30, 2) := by decide +kernel
theorem dL_isRefused_32 : decode cL_isRefused 32 = .ok (.irem, 1) := by decide +kernel
theorem dL_isRefused_33 : decode cL_isRefused 33 = .ok (.iadd, 1) := by decide +kernel
theorem dL_isRefused_34 : decode cL_isRefused 34 = .ok (.istore 5, 2) := by decide +kernel
theorem dL_isRefused_36 : decode cL_isRefused 36 = .ok (.iload 4, 2) := by decide +kernel
theorem dL_isRefused_38 : decode cL_isRefused 38 = .ok (.ifCond .eq 12, 3) := by decide +kernel
theorem dL_isRefused_41 : decode cL_isRefused 41 = .ok (.iconst (-1), 1) := by decide +kernel
theorem dL_isRefused_42 : decode cL_isRefused 42 = .ok (.iload_n 3, 1) := by decide +kernel
theorem dL_isRefused_43 : decode cL_isRefused 43 = .ok (.bipush 30, 2) := by decide +kernel
theorem dL_isRefused_45 : decode cL_isRefused 45 = .ok (.irem, 1) := by decide +kernel
theorem dL_isRefused_46 : decode cL_isRefused 46 = .ok (.isub, 1) := by decide +kernel
theorem dL_isRefused_47 : decode cL_isRefused 47 = .ok (.goto 9, 3) := by decide +kernel
theorem dL_isRefused_50 : decode cL_isRefused 50 = .ok (.iconst 4, 1) := by decide +kernel
theorem dL_isRefused_51 : decode cL_isRefused 51 = .ok (.iload_n 3, 1) := by decide +kernel
theorem dL_isRefused_52 : decode cL_isRefused 52 = .ok (.bipush 30, 2) := by decide +kernel
theorem dL_isRefused_54 : decode cL_isRefused 54 = .ok (.irem, 1) := by decide +kernel
theorem dL_isRefused_55 : decode cL_isRefused 55 = .ok (.iadd, 1) := by decide +kernel
theorem dL_isRefused_56 : decode cL_isRefused 56 = .ok (.istore 6, 2) := by decide +kernel
theorem dL_isRefused_58 : decode cL_isRefused 58 = .ok (.iload 4, 2) := by decide +kernel
theorem dL_isRefused_60 : decode cL_isRefused 60 = .ok (.ifCond .eq 12, 3) := by decide +kernel
theorem dL_isRefused_63 : decode cL_isRefused 63 = .ok (.iconst (-1), 1) := by decide +kernel
theorem dL_isRefused_64 : decode cL_isRefused 64 = .ok (.iload_n 3, 1) := by decide +kernel
theorem dL_isRefused_65 : decode cL_isRefused 65 = .ok (.bipush 30, 2) := by decide +kernel
theorem dL_isRefused_67 : decode cL_isRefused 67 = .ok (.irem, 1) := by decide +kernel
theorem dL_isRefused_68 : decode cL_isRefused 68 = .ok (.isub, 1) := by decide +kernel
theorem dL_isRefused_69 : decode cL_isRefused 69 = .ok (.goto 10, 3) := by decide +kernel
theorem dL_isRefused_72 : decode cL_isRefused 72 = .ok (.bipush 20, 2) := by decide +kernel
theorem dL_isRefused_74 : decode cL_isRefused 74 = .ok (.iload_n 3, 1) := by decide +kernel
theorem dL_isRefused_75 : decode cL_isRefused 75 = .ok (.bipush 30, 2) := by decide +kernel
theorem dL_isRefused_77 : decode cL_isRefused 77 = .ok (.irem, 1) := by decide +kernel
theorem dL_isRefused_78 : decode cL_isRefused 78 = .ok (.iadd, 1) := by decide +kernel
theorem dL_isRefused_79 : decode cL_isRefused 79 = .ok (.istore 7, 2) := by decide +kernel
theorem dL_isRefused_81 : decode cL_isRefused 81 = .ok (.iload 4, 2) := by decide +kernel
theorem dL_isRefused_83 : decode cL_isRefused 83 = .ok (.ifCond .eq 12, 3) := by decide +kernel
theorem dL_isRefused_86 : decode cL_isRefused 86 = .ok (.iconst (-1), 1) := by decide +kernel
theorem dL_isRefused_87 : decode cL_isRefused 87 = .ok (.iload_n 3, 1) := by decide +kernel
theorem dL_isRefused_88 : decode cL_isRefused 88 = .ok (.bipush 30, 2) := by decide +kernel
theorem dL_isRefused_90 : decode cL_isRefused 90 = .ok (.irem, 1) := by decide +kernel
theorem dL_isRefused_91 : decode cL_isRefused 91 = .ok (.isub, 1) := by decide +kernel
theorem dL_isRefused_92 : decode cL_isRefused 92 = .ok (.goto 11, 3) := by decide +kernel
theorem dL_isRefused_95 : decode cL_isRefused 95 = .ok (.aload_n 2, 1) := by decide +kernel
theorem dL_isRefused_96 : decode cL_isRefused 96 = .ok (.iconst 0, 1) := by decide +kernel
theorem dL_isRefused_97 : decode cL_isRefused 97 = .ok (.iaload, 1) := by decide +kernel
theorem dL_isRefused_98 : decode cL_isRefused 98 = .ok (.iload_n 3, 1) := by decide +kernel
theorem dL_isRefused_99 : decode cL_isRefused 99 = .ok (.bipush 30, 2) := by decide +kernel
theorem dL_isRefused_101 : decode cL_isRefused 101 = .ok (.irem, 1) := by decide +kernel
theorem dL_isRefused_102 : decode cL_isRefused 102 = .ok (.iadd, 1) := by decide +kernel
theorem dL_isRefused_103 : decode cL_isRefused 103 = .ok (.istore 8, 2) := by decide +kernel
theorem dL_isRefused_105 : decode cL_isRefused 105 = .ok (.aload_n 0, 1) := by decide +kernel
theorem dL_isRefused_106 : decode cL_isRefused 106 = .ok (.aload_n 2, 1) := by decide +kernel
theorem dL_isRefused_107 : decode cL_isRefused 107 = .ok (.invokestatic 104, 3) := by decide +kernel
theorem dL_isRefused_110 : decode cL_isRefused 110 = .ok (.lstore 9, 2) := by decide +kernel
theorem dL_isRefused_112 : decode cL_isRefused 112 = .ok (.aload_n 0, 1) := by decide +kernel
theorem dL_isRefused_113 : decode cL_isRefused 113 = .ok (.iload 6, 2) := by decide +kernel
theorem dL_isRefused_115 : decode cL_isRefused 115 = .ok (.iconst 0, 1) := by decide +kernel
theorem dL_isRefused_116 : decode cL_isRefused 116 = .ok (.iconst 0, 1) := by decide +kernel
theorem dL_isRefused_117 : decode cL_isRefused 117 = .ok (.invokestatic 108, 3) := by decide +kernel
theorem dL_isRefused_120 : decode cL_isRefused 120 = .ok (.ldc 17, 2) := by decide +kernel
theorem dL_isRefused_122 : decode cL_isRefused 122 = .ok (.if_icmp .ne 376, 3) := by decide +kernel
theorem dL_isRefused_125 : decode cL_isRefused 125 = .ok (.aload_n 0, 1) := by decide +kernel
theorem dL_isRefused_126 : decode cL_isRefused 126 = .ok (.iconst 2, 1) := by decide +kernel
theorem dL_isRefused_127 : decode cL_isRefused 127 = .ok (.iload 4, 2) := by decide +kernel
theorem dL_isRefused_129 : decode cL_isRefused 129 = .ok (.ifCond .eq 7, 3) := by decide +kernel
theorem dL_isRefused_132 : decode cL_isRefused 132 = .ok (.iconst 0, 1) := by decide +kernel
theorem dL_isRefused_133 : decode cL_isRefused 133 = .ok (.goto 6, 3) := by decide +kernel
theorem dL_isRefused_136 : decode cL_isRefused 136 = .ok (.sipush 10001, 3) := by decide +kernel
theorem dL_isRefused_139 : decode cL_isRefused 139 = .ok (.sipush 10001, 3) := by decide +kernel
theorem dL_isRefused_142 : decode cL_isRefused 142 = .ok (.invokestatic 108, 3) := by decide +kernel
theorem dL_isRefused_145 : decode cL_isRefused 145 = .ok (.ldc 20, 2) := by decide +kernel
theorem dL_isRefused_147 : decode cL_isRefused 147 = .ok (.if_icmp .ne 351, 3) := by decide +kernel
theorem dL_isRefused_150 : decode cL_isRefused 150 = .ok (.aload_n 0, 1) := by decide +kernel
theorem dL_isRefused_151 : decode cL_isRefused 151 = .ok (.iconst 2, 1) := by decide +kernel
theorem dL_isRefused_152 : decode cL_isRefused 152 = .ok (.sipush 700, 3) := by decide +kernel
theorem dL_isRefused_155 : decode cL_isRefused 155 = .ok (.iload 4, 2) := by decide +kernel
theorem dL_isRefused_157 : decode cL_isRefused 157 = .ok (.ifCond .eq 9, 3) := by decide +kernel
theorem dL_isRefused_160 : decode cL_isRefused 160 = .ok (.sipush 699, 3) := by decide +kernel
theorem dL_isRefused_163 : decode cL_isRefused 163 = .ok (.goto 6, 3) := by decide +kernel
theorem dL_isRefused_166 : decode cL_isRefused 166 = .ok (.sipush 10001, 3) := by decide +kernel
theorem dL_isRefused_169 : decode cL_isRefused 169 = .ok (.invokestatic 108, 3) := by decide +kernel
theorem dL_isRefused_172 : decode cL_isRefused 172 = .ok (.ldc 20, 2) := by decide +kernel
theorem dL_isRefused_174 : decode cL_isRefused 174 = .ok (.if_icmp .ne 324, 3) := by decide +kernel
theorem dL_isRefused_177 : decode cL_isRefused 177 = .ok (.aload_n 0, 1) := by decide +kernel
theorem dL_isRefused_178 : decode cL_isRefused 178 = .ok (.iload 6, 2) := by decide +kernel
theorem dL_isRefused_180 : decode cL_isRefused 180 = .ok (.iconst (-1), 1) := by decide +kernel
theorem dL_isRefused_181 : decode cL_isRefused 181 = .ok (.iconst 0, 1) := by decide +kernel
theorem dL_isRefused_182 : decode cL_isRefused 182 = .ok (.iconst 0, 1) := by decide +kernel
theorem dL_isRefused_183 : decode cL_isRefused 183 = .ok (.invokestatic 111, 3) := by decide +kernel
theorem dL_isRefused_186 : decode cL_isRefused 186 = .ok (.ldc 17, 2) := by decide +kernel
theorem dL_isRefused_188 : decode cL_isRefused 188 = .ok (.if_icmp .ne 310, 3) := by decide +kernel
theorem dL_isRefused_191 : decode cL_isRefused 191 = .ok (.aload_n 0, 1) := by decide +kernel
theorem dL_isRefused_192 : decode cL_isRefused 192 = .ok (.iconst 2, 1) := by decide +kernel
theorem dL_isRefused_193 : decode cL_isRefused 193 = .ok (.iload 4, 2) := by decide +kernel
theorem dL_isRefused_195 : decode cL_isRefused 195 = .ok (.ifCond .eq 7, 3) := by decide +kernel
theorem dL_isRefused_198 : decode cL_isRefused 198 = .ok (.iconst (-1), 1) := by decide +kernel
theorem dL_isRefused_199 : decode cL_isRefused 199 = .ok (.goto 5, 3) := by decide +kernel
theorem dL_isRefused_202 : decode cL_isRefused 202 = .ok (.bipush 101, 2) := by decide +kernel
theorem dL_isRefused_204 : decode cL_isRefused 204 = .ok (.iconst 0, 1) := by decide +kernel
theorem dL_isRefused_205 : decode cL_isRefused 205 = .ok (.iconst 5, 1) := by decide +kernel
theorem dL_isRefused_206 : decode cL_isRefused 206 = .ok (.invokestatic 111, 3) := by decide +kernel
theorem dL_isRefused_209 : decode cL_isRefused 209 = .ok (.ldc 20, 2) := by decide +kernel
theorem dL_isRefused_211 : decode cL_isRefused 211 = .ok (.if_icmp .ne 287, 3) := by decide +kernel
theorem dL_isRefused_214 : decode cL_isRefused 214 = .ok (.aload_n 0, 1) := by decide +kernel
theorem dL_isRefused_215 : decode cL_isRefused 215 = .ok (.iconst 2, 1) := by decide +kernel
theorem dL_isRefused_216 : decode cL_isRefused 216 = .ok (.bipush 9, 2) := by decide +kernel
theorem dL_isRefused_218 : decode cL_isRefused 218 = .ok (.iload 4, 2) := by decide +kernel
theorem dL_isRefused_220 : decode cL_isRefused 220 = .ok (.ifCond .eq 7, 3) := by decide +kernel
theorem dL_isRefused_223 : decode cL_isRefused 223 = .ok (.iconst (-1), 1) := by decide +kernel
theorem dL_isRefused_224 : decode cL_isRefused 224 = .ok (.goto 5, 3) := by decide +kernel
theorem dL_isRefused_227 : decode cL_isRefused 227 = .ok (.bipush 10, 2) := by decide +kernel
theorem dL_isRefused_229 : decode cL_isRefused 229 = .ok (.iconst 5, 1) := by decide +kernel
theorem dL_isRefused_230 : decode cL_isRefused 230 = .ok (.invokestatic 111, 3) := by decide +kernel
theorem dL_isRefused_233 : decode cL_isRefused 233 = .ok (.ldc 20, 2) := by decide +kernel
theorem dL_isRefused_235 : decode cL_isRefused 235 = .ok (.if_icmp .ne 263, 3) := by decide +kernel
theorem dL_isRefused_238 : decode cL_isRefused 238 = .ok (.aload_n 0, 1) := by decide +kernel
theorem dL_isRefused_239 : decode cL_isRefused 239 = .ok (.iconst 2, 1) := by decide +kernel
theorem dL_isRefused_240 : decode cL_isRefused 240 = .ok (.bipush 9, 2) := by decide +kernel
theorem dL_isRefused_242 : decode cL_isRefused 242 = .ok (.bipush 9, 2) := by decide +kernel
theorem dL_isRefused_244 : decode cL_isRefused 244 = .ok (.iload 4, 2) := by decide +kernel
theorem dL_isRefused_246 : decode cL_isRefused 246 = .ok (.ifCond .eq 7, 3) := by decide +kernel
theorem dL_isRefused_249 : decode cL_isRefused 249 = .ok (.iconst 0, 1) := by decide +kernel
theorem dL_isRefused_250 : decode cL_isRefused 250 = .ok (.goto 6, 3) := by decide +kernel
theorem dL_isRefused_253 : decode cL_isRefused 253 = .ok (.sipush 1001, 3) := by decide +kernel
theorem dL_isRefused_256 : decode cL_isRefused 256 = .ok (.invokestatic 111, 3) := by decide +kernel
theorem dL_isRefused_259 : decode cL_isRefused 259 = .ok (.ldc 20, 2) := by decide +kernel
theorem dL_isRefused_261 : decode cL_isRefused 261 = .ok (.if_icmp .ne 237, 3) := by decide +kernel
theorem dL_isRefused_264 : decode cL_isRefused 264 = .ok (.aload_n 0, 1) := by decide +kernel
theorem dL_isRefused_265 : decode cL_isRefused 265 = .ok (.iload 4, 2) := by decide +kernel
theorem dL_isRefused_267 : decode cL_isRefused 267 = .ok (.ifCond .eq 7, 3) := by decide +kernel
theorem dL_isRefused_270 : decode cL_isRefused 270 = .ok (.iconst 0, 1) := by decide +kernel
theorem dL_isRefused_271 : decode cL_isRefused 271 = .ok (.goto 5, 3) := by decide +kernel
theorem dL_isRefused_274 : decode cL_isRefused 274 = .ok (.bipush 13, 2) := by decide +kernel
theorem dL_isRefused_276 : decode cL_isRefused 276 = .ok (.iconst 2, 1) := by decide +kernel
theorem dL_isRefused_277 : decode cL_isRefused 277 = .ok (.invokestatic 114, 3) := by decide +kernel
theorem dL_isRefused_280 : decode cL_isRefused 280 = .ok (.ldc 20, 2) := by decide +kernel
theorem dL_isRefused_282 : decode cL_isRefused 282 = .ok (.if_icmp .ne 216, 3) := by decide +kernel
theorem dL_isRefused_285 : decode cL_isRefused 285 = .ok (.aload_n 0, 1) := by decide +kernel
theorem dL_isRefused_286 : decode cL_isRefused 286 = .ok (.iconst 2, 1) := by decide +kernel
theorem dL_isRefused_287 : decode cL_isRefused 287 = .ok (.iload 4, 2) := by decide +kernel
theorem dL_isRefused_289 : decode cL_isRefused 289 = .ok (.ifCond .eq 7, 3) := by decide +kernel
theorem dL_isRefused_292 : decode cL_isRefused 292 = .ok (.iconst (-1), 1) := by decide +kernel
theorem dL_isRefused_293 : decode cL_isRefused 293 = .ok (.goto 5, 3) := by decide +kernel
theorem dL_isRefused_296 : decode cL_isRefused 296 = .ok (.bipush 7, 2) := by decide +kernel
theorem dL_isRefused_298 : decode cL_isRefused 298 = .ok (.invokestatic 114, 3) := by decide +kernel
theorem dL_isRefused_301 : decode cL_isRefused 301 = .ok (.ldc 20, 2) := by decide +kernel
theorem dL_isRefused_303 : decode cL_isRefused 303 = .ok (.if_icmp .ne 195, 3) := by decide +kernel
theorem dL_isRefused_306 : decode cL_isRefused 306 = .ok (.aload_n 0, 1) := by decide +kernel
theorem dL_isRefused_307 : decode cL_isRefused 307 = .ok (.iconst 0, 1) := by decide +kernel
theorem dL_isRefused_308 : decode cL_isRefused 308 = .ok (.iload 5, 2) := by decide +kernel
theorem dL_isRefused_310 : decode cL_isRefused 310 = .ok (.iconst 0, 1) := by decide +kernel
theorem dL_isRefused_311 : decode cL_isRefused 311 = .ok (.iconst (-1), 1) := by decide +kernel
theorem dL_isRefused_312 : decode cL_isRefused 312 = .ok (.iconst 0, 1) := by decide +kernel
theorem dL_isRefused_313 : decode cL_isRefused 313 = .ok (.invokestatic 117, 3) := by decide +kernel
theorem dL_isRefused_316 : decode cL_isRefused 316 = .ok (.ldc 17, 2) := by decide +kernel
theorem dL_isRefused_318 : decode cL_isRefused 318 = .ok (.if_icmp .ne 180, 3) := by decide +kernel
theorem dL_isRefused_321 : decode cL_isRefused 321 = .ok (.aload_n 0, 1) := by decide +kernel
theorem dL_isRefused_322 : decode cL_isRefused 322 = .ok (.iconst 0, 1) := by decide +kernel
theorem dL_isRefused_323 : decode cL_isRefused 323 = .ok (.iconst 0, 1) := by decide +kernel
theorem dL_isRefused_324 : decode cL_isRefused 324 = .ok (.iload 6, 2) := by decide +kernel
theorem dL_isRefused_326 : decode cL_isRefused 326 = .ok (.iconst (-1), 1) := by decide +kernel
theorem dL_isRefused_327 : decode cL_isRefused 327 = .ok (.iconst 0, 1) := by decide +kernel
theorem dL_isRefused_328 : decode cL_isRefused 328 = .ok (.invokestatic 117, 3) := by decide +kernel
theorem dL_isRefused_331 : decode cL_isRefused 331 = .ok (.ldc 17, 2) := by decide +kernel
theorem dL_isRefused_333 : decode cL_isRefused 333 = .ok (.if_icmp .ne 165, 3) := by decide +kernel
theorem dL_isRefused_336 : decode cL_isRefused 336 = .ok (.aload_n 0, 1) := by decide +kernel
theorem dL_isRefused_337 : decode cL_isRefused 337 = .ok (.iconst 0, 1) := by decide +kernel
theorem dL_isRefused_338 : decode cL_isRefused 338 = .ok (.iconst 0, 1) := by decide +kernel
theorem dL_isRefused_339 : decode cL_isRefused 339 = .ok (.iconst 0, 1) := by decide +kernel
theorem dL_isRefused_340 : decode cL_isRefused 340 = .ok (.iload 4, 2) := by decide +kernel
theorem dL_isRefused_342 : decode cL_isRefused 342 = .ok (.ifCond .eq 12, 3) := by decide +kernel
theorem dL_isRefused_345 : decode cL_isRefused 345 = .ok (.iconst (-1), 1) := by decide +kernel
theorem dL_isRefused_346 : decode cL_isRefused 346 = .ok (.iload_n 3, 1) := by decide +kernel
theorem dL_isRefused_347 : decode cL_isRefused 347 = .ok (.bipush 30, 2) := by decide +kernel
theorem dL_isRefused_349 : decode cL_isRefused 349 = .ok (.irem, 1) := by decide +kernel
theorem dL_isRefused_350 : decode cL_isRefused 350 = .ok (.isub, 1) := by decide +kernel
theorem dL_isRefused_351 : decode cL_isRefused 351 = .ok (.goto 11, 3) := by decide +kernel
theorem dL_isRefused_354 : decode cL_isRefused 354 = .ok (.sipush 140, 3) := by decide +kernel
theorem dL_isRefused_357 : decode cL_isRefused 357 = .ok (.iload_n 3, 1) := by decide +kernel
theorem dL_isRefused_358 : decode cL_isRefused 358 = .ok (.bipush 30, 2) := by decide +kernel
theorem dL_isRefused_360 : decode cL_isRefused 360 = .ok (.irem, 1) := by decide +kernel
theorem dL_isRefused_361 : decode cL_isRefused 361 = .ok (.iadd, 1) := by decide +kernel
theorem dL_isRefused_362 : decode cL_isRefused 362 = .ok (.iconst 1, 1) := by decide +kernel
theorem dL_isRefused_363 : decode cL_isRefused 363 = .ok (.invokestatic 117, 3) := by decide +kernel
theorem dL_isRefused_366 : decode cL_isRefused 366 = .ok (.ldc 20, 2) := by decide +kernel
theorem dL_isRefused_368 : decode cL_isRefused 368 = .ok (.if_icmp .ne 130, 3) := by decide +kernel
theorem dL_isRefused_371 : decode cL_isRefused 371 = .ok (.aload_n 0, 1) := by decide +kernel
theorem dL_isRefused_372 : decode cL_isRefused 372 = .ok (.iconst 0, 1) := by decide +kernel
theorem dL_isRefused_373 : decode cL_isRefused 373 = .ok (.iconst 0, 1) := by decide +kernel
theorem dL_isRefused_374 : decode cL_isRefused 374 = .ok (.iconst 0, 1) := by decide +kernel
theorem dL_isRefused_375 : decode cL_isRefused 375 = .ok (.iconst 0, 1) := by decide +kernel
theorem dL_isRefused_376 : decode cL_isRefused 376 = .ok (.iload 4, 2) := by decide +kernel
theorem dL_isRefused_378 : decode cL_isRefused 378 = .ok (.ifCond .eq 7, 3) := by decide +kernel
theorem dL_isRefused_381 : decode cL_isRefused 381 = .ok (.iconst 0, 1) := by decide +kernel
theorem dL_isRefused_382 : decode cL_isRefused 382 = .ok (.goto 5, 3) := by decide +kernel
theorem dL_isRefused_385 : decode cL_isRefused 385 = .ok (.bipush 17, 2) := by decide +kernel
theorem dL_isRefused_387 : decode cL_isRefused 387 = .ok (.invokestatic 117, 3) := by decide +kernel
theorem dL_isRefused_390 : decode cL_isRefused 390 = .ok (.ldc 20, 2) := by decide +kernel
theorem dL_isRefused_392 : decode cL_isRefused 392 = .ok (.if_icmp .ne 106, 3) := by decide +kernel
theorem dL_isRefused_395 : decode cL_isRefused 395 = .ok (.aload_n 0, 1) := by decide +kernel
theorem dL_isRefused_396 : decode cL_isRefused 396 = .ok (.iconst 1, 1) := by decide +kernel
theorem dL_isRefused_397 : decode cL_isRefused 397 = .ok (.iload 8, 2) := by decide +kernel
theorem dL_isRefused_399 : decode cL_isRefused 399 = .ok (.iconst (-1), 1) := by decide +kernel
theorem dL_isRefused_400 : decode cL_isRefused 400 = .ok (.iconst 0, 1) := by decide +kernel
theorem dL_isRefused_401 : decode cL_isRefused 401 = .ok (.iconst 0, 1) := by decide +kernel
theorem dL_isRefused_402 : decode cL_isRefused 402 = .ok (.invokestatic 117, 3) := by decide +kernel
theorem dL_isRefused_405 : decode cL_isRefused 405 = .ok (.ldc 17, 2) := by decide +kernel
theorem dL_isRefused_407 : decode cL_isRefused 407 = .ok (.if_icmp .ne 91, 3) := by decide +kernel
theorem dL_isRefused_410 : decode cL_isRefused 410 = .ok (.aload_n 0, 1) := by decide +kernel
theorem dL_isRefused_411 : decode cL_isRefused 411 = .ok (.iconst 2, 1) := by decide +kernel
theorem dL_isRefused_412 : decode cL_isRefused 412 = .ok (.iload 7, 2) := by decide +kernel
theorem dL_isRefused_414 : decode cL_isRefused 414 = .ok (.iconst 0, 1) := by decide +kernel
theorem dL_isRefused_415 : decode cL_isRefused 415 = .ok (.iconst 0, 1) := by decide +kernel
theorem dL_isRefused_416 : decode cL_isRefused 416 = .ok (.iconst 0, 1) := by decide +kernel
theorem dL_isRefused_417 : decode cL_isRefused 417 = .ok (.invokestatic 117, 3) := by decide +kernel
theorem dL_isRefused_420 : decode cL_isRefused 420 = .ok (.ldc 17, 2) := by decide +kernel
theorem dL_isRefused_422 : decode cL_isRefused 422 = .ok (.if_icmp .ne 76, 3) := by decide +kernel
theorem dL_isRefused_425 : decode cL_isRefused 425 = .ok (.aload_n 0, 1) := by decide +kernel
theorem dL_isRefused_426 : decode cL_isRefused 426 = .ok (.iconst 3, 1) := by decide +kernel
theorem dL_isRefused_427 : decode cL_isRefused 427 = .ok (.iload 5, 2) := by decide +kernel
theorem dL_isRefused_429 : decode cL_isRefused 429 = .ok (.iconst 0, 1) := by decide +kernel
theorem dL_isRefused_430 : decode cL_isRefused 430 = .ok (.iconst 0, 1) := by decide +kernel
theorem dL_isRefused_431 : decode cL_isRefused 431 = .ok (.iconst 0, 1) := by decide +kernel
theorem dL_isRefused_432 : decode cL_isRefused 432 = .ok (.invokestatic 117, 3) := by decide +kernel
theorem dL_isRefused_435 : decode cL_isRefused 435 = .ok (.ldc 17, 2) := by decide +kernel
theorem dL_isRefused_437 : decode cL_isRefused 437 = .ok (.if_icmp .ne 61, 3) := by decide +kernel
theorem dL_isRefused_440 : decode cL_isRefused 440 = .ok (.aload_n 0, 1) := by decide +kernel
theorem dL_isRefused_441 : decode cL_isRefused 441 = .ok (.iconst 3, 1) := by decide +kernel
theorem dL_isRefused_442 : decode cL_isRefused 442 = .ok (.iconst 0, 1) := by decide +kernel
theorem dL_isRefused_443 : decode cL_isRefused 443 = .ok (.iload 4, 2) := by decide +kernel
theorem dL_isRefused_445 : decode cL_isRefused 445 = .ok (.ifCond .eq 12, 3) := by decide +kernel
theorem dL_isRefused_448 : decode cL_isRefused 448 = .ok (.iconst 0, 1) := by decide +kernel
theorem dL_isRefused_449 : decode cL_isRefused 449 = .ok (.iload_n 3, 1) := by decide +kernel
theorem dL_isRefused_450 : decode cL_isRefused 450 = .ok (.bipush 30, 2) := by decide +kernel
theorem dL_isRefused_452 : decode cL_isRefused 452 = .ok (.irem, 1) := by decide +kernel
theorem dL_isRefused_453 : decode cL_isRefused 453 = .ok (.isub, 1) := by decide +kernel
theorem dL_isRefused_454 : decode cL_isRefused 454 = .ok (.goto 6, 3) := by decide +kernel
theorem dL_isRefused_457 : decode cL_isRefused 457 = .ok (.sipush 10001, 3) := by decide +kernel
theorem dL_isRefused_460 : decode cL_isRefused 460 = .ok (.iconst 0, 1) := by decide +kernel
theorem dL_isRefused_461 : decode cL_isRefused 461 = .ok (.iconst 0, 1) := by decide +kernel
theorem dL_isRefused_462 : decode cL_isRefused 462 = .ok (.invokestatic 117, 3) := by decide +kernel
theorem dL_isRefused_465 : decode cL_isRefused 465 = .ok (.ldc 20, 2) := by decide +kernel
theorem dL_isRefused_467 : decode cL_isRefused 467 = .ok (.if_icmp .ne 31, 3) := by decide +kernel
theorem dL_isRefused_470 : decode cL_isRefused 470 = .ok (.aload_n 2, 1) := by decide +kernel
theorem dL_isRefused_471 : decode cL_isRefused 471 = .ok (.iconst 0, 1) := by decide +kernel
theorem dL_isRefused_472 : decode cL_isRefused 472 = .ok (.iaload, 1) := by decide +kernel
theorem dL_isRefused_473 : decode cL_isRefused 473 = .ok (.bipush 80, 2) := by decide +kernel
theorem dL_isRefused_475 : decode cL_isRefused 475 = .ok (.if_icmp .lt 19, 3) := by decide +kernel
theorem dL_isRefused_478 : decode cL_isRefused 478 = .ok (.aload_n 0, 1) := by decide +kernel
theorem dL_isRefused_479 : decode cL_isRefused 479 = .ok (.iconst 0, 1) := by decide +kernel
theorem dL_isRefused_480 : decode cL_isRefused 480 = .ok (.iconst 5, 1) := by decide +kernel
theorem dL_isRefused_481 : decode cL_isRefused 481 = .ok (.iconst 0, 1) := by decide +kernel
theorem dL_isRefused_482 : decode cL_isRefused 482 = .ok (.sipush 139, 3) := by decide +kernel
theorem dL_isRefused_485 : decode cL_isRefused 485 = .ok (.iconst 1, 1) := by decide +kernel
theorem dL_isRefused_486 : decode cL_isRefused 486 = .ok (.invokestatic 117, 3) := by decide +kernel
theorem dL_isRefused_489 : decode cL_isRefused 489 = .ok (.ldc 46, 2) := by decide +kernel
theorem dL_isRefused_491 : decode cL_isRefused 491 = .ok (.if_icmp .ne 7, 3) := by decide +kernel
theorem dL_isRefused_494 : decode cL_isRefused 494 = .ok (.iconst 1, 1) := by decide +kernel
theorem dL_isRefused_495 : decode cL_isRefused 495 = .ok (.goto 4, 3) := by decide +kernel
theorem dL_isRefused_498 : decode cL_isRefused 498 = .ok (.iconst 0, 1) := by decide +kernel
theorem dL_isRefused_499 : decode cL_isRefused 499 = .ok (.istore 11, 2) := by decide +kernel
theorem dL_isRefused_501 : decode cL_isRefused 501 = .ok (.iconst 0, 1) := by decide +kernel
theorem dL_isRefused_502 : decode cL_isRefused 502 = .ok (.istore 12, 2) := by decide +kernel
theorem dL_isRefused_504 : decode cL_isRefused 504 = .ok (.iload 12, 2) := by decide +kernel
theorem dL_isRefused_506 : decode cL_isRefused 506 = .ok (.bipush 12, 2) := by decide +kernel
theorem dL_isRefused_508 : decode cL_isRefused 508 = .ok (.if_icmp .ge 160, 3) := by decide +kernel
theorem dL_isRefused_511 : decode cL_isRefused 511 = .ok (.iload 11, 2) := by decide +kernel
theorem dL_isRefused_513 : decode cL_isRefused 513 = .ok (.ifCond .eq 155, 3) := by decide +kernel
theorem dL_isRefused_516 : decode cL_isRefused 516 = .ok (.iload 12, 2) := by decide +kernel
theorem dL_isRefused_518 : decode cL_isRefused 518 = .ok (.iconst 1, 1) := by decide +kernel
theorem dL_isRefused_519 : decode cL_isRefused 519 = .ok (.if_icmp .eq 15, 3) := by decide +kernel
theorem dL_isRefused_522 : decode cL_isRefused 522 = .ok (.iload 12, 2) := by decide +kernel
theorem dL_isRefused_524 : decode cL_isRefused 524 = .ok (.iconst 3, 1) := by decide +kernel
theorem dL_isRefused_525 : decode cL_isRefused 525 = .ok (.if_icmp .eq 9, 3) := by decide +kernel
theorem dL_isRefused_528 : decode cL_isRefused 528 = .ok (.iload 12, 2) := by decide +kernel
theorem dL_isRefused_530 : decode cL_isRefused 530 = .ok (.iconst 4, 1) := by decide +kernel
theorem dL_isRefused_531 : decode cL_isRefused 531 = .ok (.if_icmp .ne 7, 3) := by decide +kernel
theorem dL_isRefused_534 : decode cL_isRefused 534 = .ok (.iconst 1, 1) := by decide +kernel
theorem dL_isRefused_535 : decode cL_isRefused 535 = .ok (.goto 4, 3) := by decide +kernel
theorem dL_isRefused_538 : decode cL_isRefused 538 = .ok (.iconst 0, 1) := by decide +kernel
theorem dL_isRefused_539 : decode cL_isRefused 539 = .ok (.istore 13, 2) := by decide +kernel
theorem dL_isRefused_541 : decode cL_isRefused 541 = .ok (.iload 12, 2) := by decide +kernel
theorem dL_isRefused_543 : decode cL_isRefused 543 = .ok (.bipush 8, 2) := by decide +kernel
theorem dL_isRefused_545 : decode cL_isRefused 545 = .ok (.if_icmp .eq 10, 3) := by decide +kernel
theorem dL_isRefused_548 : decode cL_isRefused 548 = .ok (.iload 12, 2) := by decide +kernel
theorem dL_isRefused_550 : decode cL_isRefused 550 = .ok (.bipush 10, 2) := by decide +kernel
theorem dL_isRefused_552 : decode cL_isRefused 552 = .ok (.if_icmp .ne 7, 3) := by decide +kernel
theorem dL_isRefused_555 : decode cL_isRefused 555 = .ok (.iconst 1, 1) := by decide +kernel
theorem dL_isRefused_556 : decode cL_isRefused 556 = .ok (.goto 4, 3) := by decide +kernel
theorem dL_isRefused_559 : decode cL_isRefused 559 = .ok (.iconst 0, 1) := by decide +kernel
theorem dL_isRefused_560 : decode cL_isRefused 560 = .ok (.istore 14, 2) := by decide +kernel
theorem dL_isRefused_562 : decode cL_isRefused 562 = .ok (.aload_n 0, 1) := by decide +kernel
theorem dL_isRefused_563 : decode cL_isRefused 563 = .ok (.iload 12, 2) := by decide +kernel
theorem dL_isRefused_565 : decode cL_isRefused 565 = .ok (.iload 13, 2) := by decide +kernel
theorem dL_isRefused_567 : decode cL_isRefused 567 = .ok (.ifCond .eq 8, 3) := by decide +kernel
theorem dL_isRefused_570 : decode cL_isRefused 570 = .ok (.iload 8, 2) := by decide +kernel
theorem dL_isRefused_572 : decode cL_isRefused 572 = .ok (.goto 15, 3) := by decide +kernel
theorem dL_isRefused_575 : decode cL_isRefused 575 = .ok (.iload 14, 2) := by decide +kernel
theorem dL_isRefused_577 : decode cL_isRefused 577 = .ok (.ifCond .eq 8, 3) := by decide +kernel
theorem dL_isRefused_580 : decode cL_isRefused 580 = .ok (.iload 6, 2) := by decide +kernel
theorem dL_isRefused_582 : decode cL_isRefused 582 = .ok (.goto 5, 3) := by decide +kernel
theorem dL_isRefused_585 : decode cL_isRefused 585 = .ok (.iload 5, 2) := by decide +kernel
theorem dL_isRefused_587 : decode cL_isRefused 587 = .ok (.iconst 0, 1) := by decide +kernel
theorem dL_isRefused_588 : decode cL_isRefused 588 = .ok (.iconst 0, 1) := by decide +kernel
theorem dL_isRefused_589 : decode cL_isRefused 589 = .ok (.invokestatic 121, 3) := by decide +kernel
theorem dL_isRefused_592 : decode cL_isRefused 592 = .ok (.ldc 17, 2) := by decide +kernel
theorem dL_isRefused_594 : decode cL_isRefused 594 = .ok (.if_icmp .ne 65, 3) := by decide +kernel
theorem dL_isRefused_597 : decode cL_isRefused 597 = .ok (.iload 13, 2) := by decide +kernel
theorem dL_isRefused_599 : decode cL_isRefused 599 = .ok (.ifCond .ne 36, 3) := by decide +kernel
theorem dL_isRefused_602 : decode cL_isRefused 602 = .ok (.iload 12, 2) := by decide +kernel
theorem dL_isRefused_604 : decode cL_isRefused 604 = .ok (.bipush 11, 2) := by decide +kernel
theorem dL_isRefused_606 : decode cL_isRefused 606 = .ok (.if_icmp .eq 29, 3) := by decide +kernel
theorem dL_isRefused_609 : decode cL_isRefused 609 = .ok (.aload_n 0, 1) := by decide +kernel
theorem dL_isRefused_610 : decode cL_isRefused 610 = .ok (.iload 12, 2) := by decide +kernel
theorem dL_isRefused_612 : decode cL_isRefused 612 = .ok (.iconst 0, 1) := by decide +kernel
theorem dL_isRefused_613 : decode cL_isRefused 613 = .ok (.iload 12, 2) := by decide +kernel
theorem dL_isRefused_615 : decode cL_isRefused 615 = .ok (.iconst 2, 1) := by decide +kernel
theorem dL_isRefused_616 : decode cL_isRefused 616 = .ok (.if_icmp .ne 7, 3) := by decide +kernel
theorem dL_isRefused_619 : decode cL_isRefused 619 = .ok (.iconst 0, 1) := by decide +kernel
theorem dL_isRefused_620 : decode cL_isRefused 620 = .ok (.goto 5, 3) := by decide +kernel
theorem dL_isRefused_623 : decode cL_isRefused 623 = .ok (.iload 7, 2) := by decide +kernel
theorem dL_isRefused_625 : decode cL_isRefused 625 = .ok (.iload 7, 2) := by decide +kernel
theorem dL_isRefused_627 : decode cL_isRefused 627 = .ok (.invokestatic 121, 3) := by decide +kernel
theorem dL_isRefused_630 : decode cL_isRefused 630 = .ok (.ldc 17, 2) := by decide +kernel
theorem dL_isRefused_632 : decode cL_isRefused 632 = .ok (.if_icmp .ne 27, 3) := by decide +kernel
theorem dL_isRefused_635 : decode cL_isRefused 635 = .ok (.iload 12, 2) := by decide +kernel
theorem dL_isRefused_637 : decode cL_isRefused 637 = .ok (.iconst 2, 1) := by decide +kernel
theorem dL_isRefused_638 : decode cL_isRefused 638 = .ok (.if_icmp .ne 17, 3) := by decide +kernel
theorem dL_isRefused_641 : decode cL_isRefused 641 = .ok (.aload_n 0, 1) := by decide +kernel
theorem dL_isRefused_642 : decode cL_isRefused 642 = .ok (.iconst 2, 1) := by decide +kernel
theorem dL_isRefused_643 : decode cL_isRefused 643 = .ok (.iconst 0, 1) := by decide +kernel
theorem dL_isRefused_644 : decode cL_isRefused 644 = .ok (.iload 6, 2) := by decide +kernel
theorem dL_isRefused_646 : decode cL_isRefused 646 = .ok (.iconst 0, 1) := by decide +kernel
theorem dL_isRefused_647 : decode cL_isRefused 647 = .ok (.invokestatic 121, 3) := by decide +kernel
theorem dL_isRefused_650 : decode cL_isRefused 650 = .ok (.ldc 17, 2) := by decide +kernel
theorem dL_isRefused_652 : decode cL_isRefused 652 = .ok (.if_icmp .ne 7, 3) := by decide +kernel
theorem dL_isRefused_655 : decode cL_isRefused 655 = .ok (.iconst 1, 1) := by decide +kernel
theorem dL_isRefused_656 : decode cL_isRefused 656 = .ok (.goto 4, 3) := by decide +kernel
theorem dL_isRefused_659 : decode cL_isRefused 659 = .ok (.iconst 0, 1) := by decide +kernel
theorem dL_isRefused_660 : decode cL_isRefused 660 = .ok (.istore 11, 2) := by decide +kernel
theorem dL_isRefused_662 : decode cL_isRefused 662 = .ok (.iinc 12 1, 3) := by decide +kernel
theorem dL_isRefused_665 : decode cL_isRefused 665 = .ok (.goto (-161), 3) := by decide +kernel
theorem dL_isRefused_668 : decode cL_isRefused 668 = .ok (.iconst 0, 1) := by decide +kernel
theorem dL_isRefused_669 : decode cL_isRefused 669 = .ok (.istore 12, 2) := by decide +kernel
theorem dL_isRefused_671 : decode cL_isRefused 671 = .ok (.iload 12, 2) := by decide +kernel
theorem dL_isRefused_673 : decode cL_isRefused 673 = .ok (.aload_n 2, 1) := by decide +kernel
theorem dL_isRefused_674 : decode cL_isRefused 674 = .ok (.iconst 0, 1) := by decide +kernel
theorem dL_isRefused_675 : decode cL_isRefused 675 = .ok (.iaload, 1) := by decide +kernel
theorem dL_isRefused_676 : decode cL_isRefused 676 = .ok (.if_icmp .ge 46, 3) := by decide +kernel
theorem dL_isRefused_679 : decode cL_isRefused 679 = .ok (.iload 11, 2) := by decide +kernel
theorem dL_isRefused_681 : decode cL_isRefused 681 = .ok (.ifCond .eq 41, 3) := by decide +kernel
theorem dL_isRefused_684 : decode cL_isRefused 684 = .ok (.aload_n 0, 1) := by decide +kernel
theorem dL_isRefused_685 : decode cL_isRefused 685 = .ok (.iconst 1, 1) := by decide +kernel
theorem dL_isRefused_686 : decode cL_isRefused 686 = .ok (.iload 12, 2) := by decide +kernel
theorem dL_isRefused_688 : decode cL_isRefused 688 = .ok (.iload 4, 2) := by decide +kernel
theorem dL_isRefused_690 : decode cL_isRefused 690 = .ok (.ifCond .eq 7, 3) := by decide +kernel
theorem dL_isRefused_693 : decode cL_isRefused 693 = .ok (.iconst (-1), 1) := by decide +kernel
theorem dL_isRefused_694 : decode cL_isRefused 694 = .ok (.goto 5, 3) := by decide +kernel
theorem dL_isRefused_697 : decode cL_isRefused 697 = .ok (.bipush 17, 2) := by decide +kernel
theorem dL_isRefused_699 : decode cL_isRefused 699 = .ok (.iconst 0, 1) := by decide +kernel
theorem dL_isRefused_700 : decode cL_isRefused 700 = .ok (.iconst 0, 1) := by decide +kernel
theorem dL_isRefused_701 : decode cL_isRefused 701 = .ok (.invokestatic 117, 3) := by decide +kernel
theorem dL_isRefused_704 : decode cL_isRefused 704 = .ok (.ldc 20, 2) := by decide +kernel
theorem dL_isRefused_706 : decode cL_isRefused 706 = .ok (.if_icmp .ne 7, 3) := by decide +kernel
theorem dL_isRefused_709 : decode cL_isRefused 709 = .ok (.iconst 1, 1) := by decide +kernel
theorem dL_isRefused_710 : decode cL_isRefused 710 = .ok (.goto 4, 3) := by decide +kernel
theorem dL_isRefused_713 : decode cL_isRefused 713 = .ok (.iconst 0, 1) := by decide +kernel
theorem dL_isRefused_714 : decode cL_isRefused 714 = .ok (.istore 11, 2) := by decide +kernel
theorem dL_isRefused_716 : decode cL_isRefused 716 = .ok (.iinc 12 1, 3) := by decide +kernel
theorem dL_isRefused_719 : decode cL_isRefused 719 = .ok (.goto (-48), 3) := by decide +kernel
theorem dL_isRefused_722 : decode cL_isRefused 722 = .ok (.iconst 0, 1) := by decide +kernel
theorem dL_isRefused_723 : decode cL_isRefused 723 = .ok (.istore 12, 2) := by decide +kernel
theorem dL_isRefused_725 : decode cL_isRefused 725 = .ok (.iload 12, 2) := by decide +kernel
theorem dL_isRefused_727 : decode cL_isRefused 727 = .ok (.bipush 6, 2) := by decide +kernel
theorem dL_isRefused_729 : decode cL_isRefused 729 = .ok (.if_icmp .ge 55, 3) := by decide +kernel
theorem dL_isRefused_732 : decode cL_isRefused 732 = .ok (.iload 11, 2) := by decide +kernel
theorem dL_isRefused_734 : decode cL_isRefused 734 = .ok (.ifCond .eq 50, 3) := by decide +kernel
theorem dL_isRefused_737 : decode cL_isRefused 737 = .ok (.aload_n 0, 1) := by decide +kernel
theorem dL_isRefused_738 : decode cL_isRefused 738 = .ok (.iload 12, 2) := by decide +kernel
theorem dL_isRefused_740 : decode cL_isRefused 740 = .ok (.invokevirtual 81, 3) := by decide +kernel
theorem dL_isRefused_743 : decode cL_isRefused 743 = .ok (.istore 13, 2) := by decide +kernel
theorem dL_isRefused_745 : decode cL_isRefused 745 = .ok (.iload 13, 2) := by decide +kernel
theorem dL_isRefused_747 : decode cL_isRefused 747 = .ok (.sipush 9999, 3) := by decide +kernel
theorem dL_isRefused_750 : decode cL_isRefused 750 = .ok (.if_icmp .gt 21, 3) := by decide +kernel
theorem dL_isRefused_753 : decode cL_isRefused 753 = .ok (.aload_n 0, 1) := by decide +kernel
theorem dL_isRefused_754 : decode cL_isRefused 754 = .ok (.iconst 3, 1) := by decide +kernel
theorem dL_isRefused_755 : decode cL_isRefused 755 = .ok (.iload 12, 2) := by decide +kernel
theorem dL_isRefused_757 : decode cL_isRefused 757 = .ok (.iload 13, 2) := by decide +kernel
theorem dL_isRefused_759 : decode cL_isRefused 759 = .ok (.iconst 1, 1) := by decide +kernel
theorem dL_isRefused_760 : decode cL_isRefused 760 = .ok (.iadd, 1) := by decide +kernel
theorem dL_isRefused_761 : decode cL_isRefused 761 = .ok (.iconst 0, 1) := by decide +kernel
theorem dL_isRefused_762 : decode cL_isRefused 762 = .ok (.iconst 0, 1) := by decide +kernel
theorem dL_isRefused_763 : decode cL_isRefused 763 = .ok (.invokestatic 117, 3) := by decide +kernel
theorem dL_isRefused_766 : decode cL_isRefused 766 = .ok (.ldc 46, 2) := by decide +kernel
theorem dL_isRefused_768 : decode cL_isRefused 768 = .ok (.if_icmp .ne 7, 3) := by decide +kernel
theorem dL_isRefused_771 : decode cL_isRefused 771 = .ok (.iconst 1, 1) := by decide +kernel
theorem dL_isRefused_772 : decode cL_isRefused 772 = .ok (.goto 4, 3) := by decide +kernel
theorem dL_isRefused_775 : decode cL_isRefused 775 = .ok (.iconst 0, 1) := by decide +kernel
theorem dL_isRefused_776 : decode cL_isRefused 776 = .ok (.istore 11, 2) := by decide +kernel
theorem dL_isRefused_778 : decode cL_isRefused 778 = .ok (.iinc 12 1, 3) := by decide +kernel
theorem dL_isRefused_781 : decode cL_isRefused 781 = .ok (.goto (-56), 3) := by decide +kernel
theorem dL_isRefused_784 : decode cL_isRefused 784 = .ok (.iload 11, 2) := by decide +kernel
theorem dL_isRefused_786 : decode cL_isRefused 786 = .ok (.ifCond .eq 18, 3) := by decide +kernel
theorem dL_isRefused_789 : decode cL_isRefused 789 = .ok (.aload_n 0, 1) := by decide +kernel
theorem dL_isRefused_790 : decode cL_isRefused 790 = .ok (.aload_n 2, 1) := by decide +kernel
theorem dL_isRefused_791 : decode cL_isRefused 791 = .ok (.invokestatic 104, 3) := by decide +kernel
theorem dL_isRefused_794 : decode cL_isRefused 794 = .ok (.lload 9, 2) := by decide +kernel
theorem dL_isRefused_796 : decode cL_isRefused 796 = .ok (.lcmp, 1) := by decide +kernel
theorem dL_isRefused_797 : decode cL_isRefused 797 = .ok (.ifCond .ne 7, 3) := by decide +kernel
theorem dL_isRefused_800 : decode cL_isRefused 800 = .ok (.iconst 1, 1) := by decide +kernel
theorem dL_isRefused_801 : decode cL_isRefused 801 = .ok (.goto 4, 3) := by decide +kernel
theorem dL_isRefused_804 : decode cL_isRefused 804 = .ok (.iconst 0, 1) := by decide +kernel
theorem dL_isRefused_805 : decode cL_isRefused 805 = .ok (.ireturn, 1) := by decide +kernel
