set_option maxRecDepth 20000 in
theorem ggL_setRates_X0_setRates : GoodIn wsL_setRates wsX0_setRates := goodIn_ca (goodIn_ca (goodIn_r _ [7, 8, 9, 10, 11, 6, 12, 13, 14, 15, 16, 17, 18, 19, 20, 21, 22, 23, 24, 25, 26, 27, 28, 29, 30, 31, 32, 33, 34, 35, 36, 37, 38] (by decide +kernel) (by decide +kernel)) (goodIn_sub (fun _ h => List.mem_cons_of_mem _ (List.mem_append_left _ (List.mem_append_right _ h))) (by decide +kernel))) (goodIn_sub (fun _ h => List.mem_cons_of_mem _ (List.mem_append_right _ h)) (by decide +kernel))
set_option maxRecDepth 20000 in
theorem gL_setRates_X0_setRates : GoodIn wsL_setRates (wsV RL 7 RX0 yX0_setRates wsX0_setRates) := goodIn_app (goodIn_of _ (by decide +kernel)) ggL_setRates_X0_setRates
theorem dL_setRates_0 : decode cL_setRates 0 = .ok (.aload_n 0, 1) := by decide +kernel
theorem dL_setRates_1 : decode cL_setRates 1 = .ok (.iload_n 1, 1) := by decide +kernel
theorem dL_setRates_2 : decode cL_setRates 2 = .ok (.iload_n 2, 1) := by decide +kernel
theorem dL_setRates_3 : decode cL_setRates 3 = .ok (.iload_n 3, 1) := by decide +kernel
theorem dL_setRates_4 : decode cL_setRates 4 = .ok (.invokevirtual 7, 3) := by decide +kernel
theorem dL_setRates_7 : decode cL_setRates 7 = .ok (.goto 11, 3) := by decide +kernel
theorem dL_setRates_10 : decode cL_setRates 10 = .ok (.astore 4, 2) := by decide +kernel
theorem dL_setRates_12 : decode cL_setRates 12 = .ok (.iconst 1, 1) := by decide +kernel
theorem dL_setRates_13 : decode cL_setRates 13 = .ok (.ireturn, 1) := by decide +kernel
theorem dL_setRates_14 : decode cL_setRates 14 = .ok (.astore 4, 2) := by decide +kernel
theorem dL_setRates_16 : decode cL_setRates 16 = .ok (.iconst 2, 1) := by decide +kernel
theorem dL_setRates_17 : decode cL_setRates 17 = .ok (.ireturn, 1) := by decide +kernel
theorem dL_setRates_18 : decode cL_setRates 18 = .ok (.iconst 0, 1) := by decide +kernel
theorem dL_setRates_19 : decode cL_setRates 19 = .ok (.ireturn, 1) := by decide +kernel
set_option maxRecDepth 20000 in
theorem ggL_setMargins_X0_setMargins : GoodIn wsL_setMargins wsX0_setMargins := goodIn_ca (goodIn_ca (goodIn_r _ [7, 8, 9, 10, 11, 12, 6, 13, 14, 15, 16, 17, 18, 19, 20, 21, 22, 23, 24, 25, 26, 27, 28, 29, 30, 31, 32, 33, 34, 35, 36, 37, 38, 39] (by decide +kernel) (by decide +kernel)) (goodIn_sub (fun _ h => List.mem_cons_of_mem _ (List.mem_append_left _ (List.mem_append_right _ h))) (by decide +kernel))) (goodIn_sub (fun _ h => List.mem_cons_of_mem _ (List.mem_append_right _ h)) (by decide +kernel))
set_option maxRecDepth 20000 in
theorem gL_setMargins_X0_setMargins : GoodIn wsL_setMargins (wsV RL 17 RX0 yX0_setMargins wsX0_setMargins) := goodIn_app (goodIn_of _ (by decide +kernel)) ggL_setMargins_X0_setMargins
theorem dL_setMargins_0 : decode cL_setMargins 0 = .ok (.aload_n 0, 1) := by decide +kernel
theorem dL_setMargins_1 : decode cL_setMargins 1 = .ok (.iload_n 1, 1) := by decide +kernel
theorem dL_setMargins_2 : decode cL_setMargins 2 = .ok (.iload_n 2, 1) := by decide +kernel
theorem dL_setMargins_3 : decode cL_setMargins 3 = .ok (.iload_n 3, 1) := by decide +kernel
theorem dL_setMargins_4 : decode cL_setMargins 4 = .ok (.iload 4, 2) := by decide +kernel
theorem dL_setMargins_6 : decode cL_setMargins 6 = .ok (.invokevirtual 17, 3) := by decide +kernel
theorem dL_setMargins_9 : decode cL_setMargins 9 = .ok (.goto 11, 3) := by decide +kernel
theorem dL_setMargins_12 : decode cL_setMargins 12 = .ok (.astore 5, 2) := by decide +kernel
theorem dL_setMargins_14 : decode cL_setMargins 14 = .ok (.iconst 1, 1) := by decide +kernel
theorem dL_setMargins_15 : decode cL_setMargins 15 = .ok (.ireturn, 1) := by decide +kernel
theorem dL_setMargins_16 : decode cL_setMargins 16 = .ok (.astore 5, 2) := by decide +kernel
theorem dL_setMargins_18 : decode cL_setMargins 18 = .ok (.iconst 2, 1) := by decide +kernel
theorem dL_setMargins_19 : decode cL_setMargins 19 = .ok (.ireturn, 1) := by decide +kernel
theorem dL_setMargins_20 : decode cL_setMargins 20 = .ok (.iconst 0, 1) := by decide +kernel
theorem dL_setMargins_21 : decode cL_setMargins 21 = .ok (.ireturn, 1) := by decide +kernel
set_option maxRecDepth 20000 in
theorem ggL_setEqual_X0_setEqual : GoodIn wsL_setEqual wsX0_setEqual := goodIn_ca (goodIn_r _ [6, 7, 8, 9, 10, 5, 11, 12, 13, 14, 15, 16, 17, 18, 19, 20, 21, 22, 23, 24, 25, 26, 27, 28, 29] (by decide +kernel) (by decide +kernel)) (goodIn_sub (fun _ h => List.mem_cons_of_mem _ (List.mem_append_right _ h)) (by decide +kernel))
set_option maxRecDepth 20000 in
theorem gL_setEqual_X0_setEqual : GoodIn wsL_setEqual (wsV RL 21 RX0 yX0_setEqual wsX0_setEqual) := goodIn_app (goodIn_of _ (by decide +kernel)) ggL_setEqual_X0_setEqual
theorem dL_setEqual_0 : decode cL_setEqual 0 = .ok (.aload_n 0, 1) := by decide +kernel
theorem dL_setEqual_1 : decode cL_setEqual 1 = .ok (.iload_n 1, 1) := by decide +kernel
theorem dL_setEqual_2 : decode cL_setEqual 2 = .ok (.iload_n 2, 1) := by decide +kernel
theorem dL_setEqual_3 : decode cL_setEqual 3 = .ok (.invokevirtual 21, 3) := by decide +kernel
theorem dL_setEqual_6 : decode cL_setEqual 6 = .ok (.goto 6, 3) := by decide +kernel
theorem dL_setEqual_9 : decode cL_setEqual 9 = .ok (.astore_n 3, 1) := by decide +kernel
theorem dL_setEqual_10 : decode cL_setEqual 10 = .ok (.iconst 1, 1) := by decide +kernel
theorem dL_setEqual_11 : decode cL_setEqual 11 = .ok (.ireturn, 1) := by decide +kernel
theorem dL_setEqual_12 : decode cL_setEqual 12 = .ok (.iconst 0, 1) := by decide +kernel
theorem dL_setEqual_13 : decode cL_setEqual 13 = .ok (.ireturn, 1) := by decide +kernel
set_option maxRecDepth 20000 in
theorem ggL_shift_X0_shift : GoodIn wsL_shift wsX0_shift := goodIn_ca (goodIn_ca (goodIn_ca (goodIn_r _ [8, 9, 10, 11, 12, 13, 14, 15, 7, 16, 17, 18, 19, 20, 21, 22, 23, 24, 25, 26, 27, 28, 29, 30, 31, 32, 33, 34, 35, 36, 37, 38, 39, 40, 41, 42, 43, 44, 45, 46, 47, 48, 49, 50, 51, 52, 53, 54] (by decide +kernel) (by decide +kernel)) (goodIn_sub (fun _ h => List.mem_cons_of_mem _ (List.mem_append_left _ (List.mem_append_left _ (List.mem_append_right _ h)))) (by decide +kernel))) (goodIn_sub (fun _ h => List.mem_cons_of_mem _ (List.mem_append_left _ (List.mem_append_right _ h))) (by decide +kernel))) (goodIn_sub (fun _ h => List.mem_cons_of_mem _ (List.mem_append_right _ h)) (by decide +kernel))
set_option maxRecDepth 20000 in
theorem gL_shift_X0_shift : GoodIn wsL_shift (wsV RL 25 RX0 yX0_shift wsX0_shift) := goodIn_app (goodIn_of _ (by decide +kernel)) ggL_shift_X0_shift
theorem dL_shift_0 : decode cL_shift 0 = .ok (.aload 5, 2) := by decide +kernel
theorem dL_shift_2 : decode cL_shift 2 = .ok (.iconst 0, 1) := by decide +kernel
theorem dL_shift_3 : decode cL_shift 3 = .ok (.aload_n 0, 1) := by decide +kernel
theorem dL_shift_4 : decode cL_shift 4 = .ok (.iload_n 1, 1) := by decide +kernel
theorem dL_shift_5 : decode cL_shift 5 = .ok (.iload_n 2, 1) := by decide +kernel
theorem dL_shift_6 : decode cL_shift 6 = .ok (.iload_n 3, 1) := by decide +kernel
theorem dL_shift_7 : decode cL_shift 7 = .ok (.iload 4, 2) := by decide +kernel
theorem dL_shift_9 : decode cL_shift 9 = .ok (.invokevirtual 25, 3) := by decide +kernel
theorem dL_shift_12 : decode cL_shift 12 = .ok (.i2l, 1) := by decide +kernel
theorem dL_shift_13 : decode cL_shift 13 = .ok (.lastore, 1) := by decide +kernel
theorem dL_shift_14 : decode cL_shift 14 = .ok (.goto 15, 3) := by decide +kernel
theorem dL_shift_17 : decode cL_shift 17 = .ok (.astore 6, 2) := by decide +kernel
theorem dL_shift_19 : decode cL_shift 19 = .ok (.iconst 1, 1) := by decide +kernel
theorem dL_shift_20 : decode cL_shift 20 = .ok (.ireturn, 1) := by decide +kernel
theorem dL_shift_21 : decode cL_shift 21 = .ok (.astore 6, 2) := by decide +kernel
theorem dL_shift_23 : decode cL_shift 23 = .ok (.iconst 2, 1) := by decide +kernel
theorem dL_shift_24 : decode cL_shift 24 = .ok (.ireturn, 1) := by decide +kernel
theorem dL_shift_25 : decode cL_shift 25 = .ok (.astore 6, 2) := by decide +kernel
theorem dL_shift_27 : decode cL_shift 27 = .ok (.iconst 3, 1) := by decide +kernel
theorem dL_shift_28 : decode cL_shift 28 = .ok (.ireturn, 1) := by decide +kernel
theorem dL_shift_29 : decode cL_shift 29 = .ok (.iconst 0, 1) := by decide +kernel
theorem dL_shift_30 : decode cL_shift 30 = .ok (.ireturn, 1) := by decide +kernel
set_option maxRecDepth 20000 in
theorem ggL_correct_X0_correct : GoodIn wsL_correct wsX0_correct := goodIn_ca (goodIn_ca (goodIn_ca (goodIn_r _ [8, 9, 10, 11, 12, 13, 14, 7, 15, 16, 17, 18, 19, 20, 21, 22, 23, 24, 25, 26, 27, 28, 29, 30, 31, 32, 33, 34, 35, 36, 37, 38, 39, 40, 41, 42, 43, 44, 45, 46, 47, 48, 49, 50, 51, 52, 53, 54, 55, 56, 57, 58] (by decide +kernel) (by decide +kernel)) (goodIn_sub (fun _ h => List.mem_cons_of_mem _ (List.mem_append_left _ (List.mem_append_left _ (List.mem_append_right _ h)))) (by decide +kernel))) (goodIn_sub (fun _ h => List.mem_cons_of_mem _ (List.mem_append_left _ (List.mem_append_right _ h))) (by decide +kernel))) (goodIn_sub (fun _ h => List.mem_cons_of_mem _ (List.mem_append_right _ h)) (by decide +kernel))
set_option maxRecDepth 20000 in
theorem gL_correct_X0_correct : GoodIn wsL_correct (wsV RL 31 RX0 yX0_correct wsX0_correct) := goodIn_app (goodIn_of _ (by decide +kernel)) ggL_correct_X0_correct
theorem dL_correct_0 : decode cL_correct 0 = .ok (.aload_n 3, 1) := by decide +kernel
theorem dL_correct_1 : decode cL_correct 1 = .ok (.iconst 0, 1) := by decide +kernel
theorem dL_correct_2 : decode cL_correct 2 = .ok (.aload_n 0, 1) := by decide +kernel
theorem dL_correct_3 : decode cL_correct 3 = .ok (.iload_n 1, 1) := by decide +kernel
theorem dL_correct_4 : decode cL_correct 4 = .ok (.iload_n 2, 1) := by decide +kernel
theorem dL_correct_5 : decode cL_correct 5 = .ok (.invokevirtual 31, 3) := by decide +kernel
theorem dL_correct_8 : decode cL_correct 8 = .ok (.i2l, 1) := by decide +kernel
theorem dL_correct_9 : decode cL_correct 9 = .ok (.lastore, 1) := by decide +kernel
theorem dL_correct_10 : decode cL_correct 10 = .ok (.goto 15, 3) := by decide +kernel
theorem dL_correct_13 : decode cL_correct 13 = .ok (.astore 4, 2) := by decide +kernel
theorem dL_correct_15 : decode cL_correct 15 = .ok (.iconst 1, 1) := by decide +kernel
theorem dL_correct_16 : decode cL_correct 16 = .ok (.ireturn, 1) := by decide +kernel
theorem dL_correct_17 : decode cL_correct 17 = .ok (.astore 4, 2) := by decide +kernel
theorem dL_correct_19 : decode cL_correct 19 = .ok (.iconst 2, 1) := by decide +kernel
theorem dL_correct_20 : decode cL_correct 20 = .ok (.ireturn, 1) := by decide +kernel
theorem dL_correct_21 : decode cL_correct 21 = .ok (.astore 4, 2) := by decide +kernel
theorem dL_correct_23 : decode cL_correct 23 = .ok (.iconst 3, 1) := by decide +kernel
theorem dL_correct_24 : decode cL_correct 24 = .ok (.ireturn, 1) := by decide +kernel
theorem dL_correct_25 : decode cL_correct 25 = .ok (.iconst 0, 1) := by decide +kernel
theorem dL_correct_26 : decode cL_correct 26 = .ok (.ireturn, 1) := by decide +kernel
set_option maxRecDepth 20000 in
theorem ggL_hours_X0_hours : GoodIn wsL_hours wsX0_hours := goodIn_ca (goodIn_r _ [6, 7, 8, 9, 10, 5, 11, 12, 13, 14, 15, 16, 17, 18, 19, 20, 21, 22, 23, 24, 25, 26, 27, 28, 29, 30, 31, 32, 33, 34, 35, 36, 37, 38, 39, 40, 41] (by decide +kernel) (by decide +kernel)) (goodIn_sub (fun _ h => List.mem_cons_of_mem _ (List.mem_append_right _ h)) (by decide +kernel))
set_option maxRecDepth 20000 in
theorem gL_hours_X0_hours : GoodIn wsL_hours (wsV RL 35 RX0 yX0_hours wsX0_hours) := goodIn_app (goodIn_of _ (by decide +kernel)) ggL_hours_X0_hours
theorem dL_hours_0 : decode cL_hours 0 = .ok (.aload_n 3, 1) := by decide +kernel
theorem dL_hours_1 : decode cL_hours 1 = .ok (.iconst 0, 1) := by decide +kernel
theorem dL_hours_2 : decode cL_hours 2 = .ok (.aload_n 0, 1) := by decide +kernel
theorem dL_hours_3 : decode cL_hours 3 = .ok (.iload_n 1, 1) := by decide +kernel
theorem dL_hours_4 : decode cL_hours 4 = .ok (.iload_n 2, 1) := by decide +kernel
theorem dL_hours_5 : decode cL_hours 5 = .ok (.invokevirtual 35, 3) := by decide +kernel
theorem dL_hours_8 : decode cL_hours 8 = .ok (.i2l, 1) := by decide +kernel
theorem dL_hours_9 : decode cL_hours 9 = .ok (.lastore, 1) := by decide +kernel
theorem dL_hours_10 : decode cL_hours 10 = .ok (.goto 7, 3) := by decide +kernel
theorem dL_hours_13 : decode cL_hours 13 = .ok (.astore 4, 2) := by decide +kernel
theorem dL_hours_15 : decode cL_hours 15 = .ok (.iconst 1, 1) := by decide +kernel
theorem dL_hours_16 : decode cL_hours 16 = .ok (.ireturn, 1) := by decide +kernel
theorem dL_hours_17 : decode cL_hours 17 = .ok (.iconst 0, 1) := by decide +kernel
theorem dL_hours_18 : decode cL_hours 18 = .ok (.ireturn, 1) := by decide +kernel
set_option maxRecDepth 20000 in
theorem ggL_overtime_X0_overtime : GoodIn wsL_overtime wsX0_overtime := goodIn_ca (goodIn_r _ [6, 7, 8, 9, 5, 10, 11, 12, 13, 14, 15, 16, 17, 18, 19, 20, 21, 22, 23, 24, 25, 26, 27, 28, 29, 30, 31, 32, 33, 34, 35, 36, 37, 38, 39, 40, 41, 42, 43, 44, 45, 46, 47, 48, 49, 50, 51, 52, 53, 54, 55, 56, 57, 58, 59, 60, 61, 62, 63, 64, 65, 66, 67] (by decide +kernel) (by decide +kernel)) (goodIn_sub (fun _ h => List.mem_cons_of_mem _ (List.mem_append_right _ h)) (by decide +kernel))
set_option maxRecDepth 20000 in
theorem gL_overtime_X0_overtime : GoodIn wsL_overtime (wsV RL 38 RX0 yX0_overtime wsX0_overtime) := goodIn_app (goodIn_of _ (by decide +kernel)) ggL_overtime_X0_overtime
theorem dL_overtime_0 : decode cL_overtime 0 = .ok (.aload_n 2, 1) := by decide +kernel
theorem dL_overtime_1 : decode cL_overtime 1 = .ok (.iconst 0, 1) := by decide +kernel
theorem dL_overtime_2 : decode cL_overtime 2 = .ok (.aload_n 0, 1) := by decide +kernel
theorem dL_overtime_3 : decode cL_overtime 3 = .ok (.iload_n 1, 1) := by decide +kernel
theorem dL_overtime_4 : decode cL_overtime 4 = .ok (.invokevirtual 38, 3) := by decide +kernel
theorem dL_overtime_7 : decode cL_overtime 7 = .ok (.i2l, 1) := by decide +kernel
theorem dL_overtime_8 : decode cL_overtime 8 = .ok (.lastore, 1) := by decide +kernel
theorem dL_overtime_9 : decode cL_overtime 9 = .ok (.goto 6, 3) := by decide +kernel
theorem dL_overtime_12 : decode cL_overtime 12 = .ok (.astore_n 3, 1) := by decide +kernel
theorem dL_overtime_13 : decode cL_overtime 13 = .ok (.iconst 1, 1) := by decide +kernel
theorem dL_overtime_14 : decode cL_overtime 14 = .ok (.ireturn, 1) := by decide +kernel
theorem dL_overtime_15 : decode cL_overtime 15 = .ok (.iconst 0, 1) := by decide +kernel
theorem dL_overtime_16 : decode cL_overtime 16 = .ok (.ireturn, 1) := by decide +kernel
set_option maxRecDepth 20000 in
theorem ggL_hasEqual_X0_hasEqual : GoodIn wsL_hasEqual wsX0_hasEqual := goodIn_ca (goodIn_r _ [6, 7, 8, 5, 9, 10, 11, 12, 13, 14, 15, 16, 17, 18, 19, 20, 21, 22, 23, 24, 25, 26, 27, 28, 29, 30, 31, 32, 33, 34, 35, 36, 37, 38, 39, 40, 41, 42, 43, 44, 45, 46, 47, 48] (by decide +kernel) (by decide +kernel)) (goodIn_sub (fun _ h => List.mem_cons_of_mem _ (List.mem_append_right _ h)) (by decide +kernel))
set_option maxRecDepth 20000 in
theorem gL_hasEqual_X0_hasEqual : GoodIn wsL_hasEqual (wsV RL 42 RX0 yX0_hasEqual wsX0_hasEqual) := goodIn_app (goodIn_of _ (by decide +kernel)) ggL_hasEqual_X0_hasEqual
theorem dL_hasEqual_0 : decode cL_hasEqual 0 = .ok (.aload 4, 2) := by decide +kernel
theorem dL_hasEqual_2 : decode cL_hasEqual 2 = .ok (.iconst 0, 1) := by decide +kernel
theorem dL_hasEqual_3 : decode cL_hasEqual 3 = .ok (.aload_n 0, 1) := by decide +kernel
theorem dL_hasEqual_4 : decode cL_hasEqual 4 = .ok (.iload_n 1, 1) := by decide +kernel
theorem dL_hasEqual_5 : decode cL_hasEqual 5 = .ok (.iload_n 2, 1) := by decide +kernel
theorem dL_hasEqual_6 : decode cL_hasEqual 6 = .ok (.iload_n 3, 1) := by decide +kernel
theorem dL_hasEqual_7 : decode cL_hasEqual 7 = .ok (.invokevirtual 42, 3) := by decide +kernel
theorem dL_hasEqual_10 : decode cL_hasEqual 10 = .ok (.ifCond .eq 7, 3) := by decide +kernel
theorem dL_hasEqual_13 : decode cL_hasEqual 13 = .ok (.lconst 1, 1) := by decide +kernel
theorem dL_hasEqual_14 : decode cL_hasEqual 14 = .ok (.goto 4, 3) := by decide +kernel
theorem dL_hasEqual_17 : decode cL_hasEqual 17 = .ok (.lconst 0, 1) := by decide +kernel
theorem dL_hasEqual_18 : decode cL_hasEqual 18 = .ok (.lastore, 1) := by decide +kernel
theorem dL_hasEqual_19 : decode cL_hasEqual 19 = .ok (.goto 7, 3) := by decide +kernel
theorem dL_hasEqual_22 : decode cL_hasEqual 22 = .ok (.astore 5, 2) := by decide +kernel
theorem dL_hasEqual_24 : decode cL_hasEqual 24 = .ok (.iconst 1, 1) := by decide +kernel
theorem dL_hasEqual_25 : decode cL_hasEqual 25 = .ok (.ireturn, 1) := by decide +kernel
theorem dL_hasEqual_26 : decode cL_hasEqual 26 = .ok (.iconst 0, 1) := by decide +kernel
theorem dL_hasEqual_27 : decode cL_hasEqual 27 = .ok (.ireturn, 1) := by decide +kernel
set_option maxRecDepth 20000 in
theorem ggL_payOf_X0_payOf : GoodIn wsL_payOf wsX0_payOf := goodIn_ca (goodIn_r _ [6, 7, 8, 9, 5, 10, 11, 12, 13, 14, 15, 16, 17, 18, 19, 20, 21, 22, 23, 24, 25, 26, 27, 28, 29, 30, 31, 32, 33, 34, 35, 36, 37, 38, 39, 40, 41, 42, 43, 44, 45, 46, 47, 48, 49, 50, 51, 52, 53, 54, 55, 56, 57, 58, 59, 60, 61, 62, 63, 64, 65, 66, 67, 68, 69, 70, 71, 72, 73, 74, 75, 76, 77, 78, 79, 80, 81, 82, 83, 84, 85, 86, 87, 88] (by decide +kernel) (by decide +kernel)) (goodIn_sub (fun _ h => List.mem_cons_of_mem _ (List.mem_append_right _ h)) (by decide +kernel))
set_option maxRecDepth 20000 in
theorem gL_payOf_X0_payOf : GoodIn wsL_payOf (wsV RL 46 RX0 yX0_payOf wsX0_payOf) := goodIn_app (goodIn_of _ (by decide +kernel)) ggL_payOf_X0_payOf
theorem dL_payOf_0 : decode cL_payOf 0 = .ok (.aload_n 2, 1) := by decide +kernel
theorem dL_payOf_1 : decode cL_payOf 1 = .ok (.iconst 0, 1) := by decide +kernel
theorem dL_payOf_2 : decode cL_payOf 2 = .ok (.aload_n 0, 1) := by decide +kernel
theorem dL_payOf_3 : decode cL_payOf 3 = .ok (.iload_n 1, 1) := by decide +kernel
theorem dL_payOf_4 : decode cL_payOf 4 = .ok (.invokevirtual 46, 3) := by decide +kernel
theorem dL_payOf_7 : decode cL_payOf 7 = .ok (.i2l, 1) := by decide +kernel
theorem dL_payOf_8 : decode cL_payOf 8 = .ok (.lastore, 1) := by decide +kernel
theorem dL_payOf_9 : decode cL_payOf 9 = .ok (.goto 6, 3) := by decide +kernel
theorem dL_payOf_12 : decode cL_payOf 12 = .ok (.astore_n 3, 1) := by decide +kernel
theorem dL_payOf_13 : decode cL_payOf 13 = .ok (.iconst 1, 1) := by decide +kernel
theorem dL_payOf_14 : decode cL_payOf 14 = .ok (.ireturn, 1) := by decide +kernel
theorem dL_payOf_15 : decode cL_payOf 15 = .ok (.iconst 0, 1) := by decide +kernel
theorem dL_payOf_16 : decode cL_payOf 16 = .ok (.ireturn, 1) := by decide +kernel
set_option maxRecDepth 20000 in
theorem ggL_chargeOf_X0_chargeOf : GoodIn wsL_chargeOf wsX0_chargeOf := goodIn_ca (goodIn_r _ [6, 7, 8, 9, 10, 11, 5, 12, 13, 14, 15, 16, 17, 18, 19, 20, 21, 22, 23, 24, 25, 26, 27, 28, 29, 30, 31, 32, 33, 34, 35, 36, 37, 38, 39, 40, 41, 42, 43, 44, 45, 46, 47, 48, 49, 50, 51, 52, 53, 54, 55, 56, 57, 58, 59, 60, 61, 62, 63, 64, 65, 66, 67, 68, 69, 70, 71, 72, 73, 74, 75, 76, 77, 78, 79, 80, 81, 82, 83, 84, 85, 86, 87, 88, 89, 90, 91, 92, 93, 94, 95, 96, 97, 98, 99, 100, 101, 102, 103, 104, 105, 106] (by decide +kernel) (by decide +kernel)) (goodIn_sub (fun _ h => List.mem_cons_of_mem _ (List.mem_append_right _ h)) (by decide +kernel))
set_option maxRecDepth 20000 in
theorem gL_chargeOf_X0_chargeOf : GoodIn wsL_chargeOf (wsV RL 49 RX0 yX0_chargeOf wsX0_chargeOf) := goodIn_app (goodIn_of _ (by decide +kernel)) ggL_chargeOf_X0_chargeOf
theorem dL_chargeOf_0 : decode cL_chargeOf 0 = .ok (.aload_n 2, 1) := by decide +kernel
theorem dL_chargeOf_1 : decode cL_chargeOf 1 = .ok (.iconst 0, 1) := by decide +kernel
theorem dL_chargeOf_2 : decode cL_chargeOf 2 = .ok (.aload_n 0, 1) := by decide +kernel
theorem dL_chargeOf_3 : decode cL_chargeOf 3 = .ok (.iload_n 1, 1) := by decide +kernel
theorem dL_chargeOf_4 : decode cL_chargeOf 4 = .ok (.invokevirtual 49, 3) := by decide +kernel
theorem dL_chargeOf_7 : decode cL_chargeOf 7 = .ok (.i2l, 1) := by decide +kernel
theorem dL_chargeOf_8 : decode cL_chargeOf 8 = .ok (.lastore, 1) := by decide +kernel
theorem dL_chargeOf_9 : decode cL_chargeOf 9 = .ok (.goto 6, 3) := by decide +kernel
theorem dL_chargeOf_12 : decode cL_chargeOf 12 = .ok (.astore_n 3, 1) := by decide +kernel
theorem dL_chargeOf_13 : decode cL_chargeOf 13 = .ok (.iconst 1, 1) := by decide +kernel
theorem dL_chargeOf_14 : decode cL_chargeOf 14 = .ok (.ireturn, 1) := by decide +kernel
theorem dL_chargeOf_15 : decode cL_chargeOf 15 = .ok (.iconst 0, 1) := by decide +kernel
theorem dL_chargeOf_16 : decode cL_chargeOf 16 = .ok (.ireturn, 1) := by decide +kernel
set_option maxRecDepth 20000 in
theorem ggL_pay_X0_pay : GoodIn wsL_pay wsX0_pay := goodIn_ca (goodIn_r _ [6, 7, 8, 5, 9, 10, 11, 12, 13, 14, 15, 16, 17, 18, 19, 20, 21, 22, 23, 24, 25, 26, 27, 28, 29, 30, 31, 32, 33, 34, 35, 36, 37, 38, 39, 40, 41, 42, 43, 44, 45, 46, 47, 48, 49, 50, 51, 52, 53, 54, 55, 56, 57, 58, 59, 60, 61, 62, 63, 64, 65, 66, 67, 68, 69, 70, 71, 72, 73, 74, 75, 76, 77, 78, 79, 80, 81, 82, 83, 84, 85, 86, 87, 88, 89, 90, 91, 92] (by decide +kernel) (by decide +kernel)) (goodIn_sub (fun _ h => List.mem_cons_of_mem _ (List.mem_append_right _ h)) (by decide +kernel))
set_option maxRecDepth 20000 in
theorem gL_pay_X0_pay : GoodIn wsL_pay (wsV RL 52 RX0 yX0_pay wsX0_pay) := goodIn_app (goodIn_of _ (by decide +kernel)) ggL_pay_X0_pay
theorem dL_pay_0 : decode cL_pay 0 = .ok (.aload_n 3, 1) := by decide +kernel
theorem dL_pay_1 : decode cL_pay 1 = .ok (.iconst 0, 1) := by decide +kernel
theorem dL_pay_2 : decode cL_pay 2 = .ok (.aload_n 0, 1) := by decide +kernel
theorem dL_pay_3 : decode cL_pay 3 = .ok (.iload_n 1, 1) := by decide +kernel
theorem dL_pay_4 : decode cL_pay 4 = .ok (.iload_n 2, 1) := by decide +kernel
theorem dL_pay_5 : decode cL_pay 5 = .ok (.invokevirtual 52, 3) := by decide +kernel
theorem dL_pay_8 : decode cL_pay 8 = .ok (.i2l, 1) := by decide +kernel
theorem dL_pay_9 : decode cL_pay 9 = .ok (.lastore, 1) := by decide +kernel
theorem dL_pay_10 : decode cL_pay 10 = .ok (.goto 7, 3) := by decide +kernel
theorem dL_pay_13 : decode cL_pay 13 = .ok (.astore 4, 2) := by decide +kernel
theorem dL_pay_15 : decode cL_pay 15 = .ok (.iconst 1, 1) := by decide +kernel
theorem dL_pay_16 : decode cL_pay 16 = .ok (.ireturn, 1) := by decide +kernel
theorem dL_pay_17 : decode cL_pay 17 = .ok (.iconst 0, 1) := by decide +kernel
theorem dL_pay_18 : decode cL_pay 18 = .ok (.ireturn, 1) := by decide +kernel
set_option maxRecDepth 20000 in
theorem ggL_payByHours_X0_payByHours : GoodIn wsL_payByHours wsX0_payByHours := goodIn_ca (goodIn_r _ [6, 7, 8, 9, 10, 11, 12, 13, 5, 14, 15, 16, 17, 18, 19, 20, 21, 22, 23, 24, 25, 26, 27, 28, 29, 30, 31, 32, 33, 34, 35, 36, 37, 38, 39, 40, 41, 42, 43, 44, 45, 46, 47, 48, 49, 50, 51, 52, 53, 54] (by decide +kernel) (by decide +kernel)) (goodIn_sub (fun _ h => List.mem_cons_of_mem _ (List.mem_append_right _ h)) (by decide +kernel))
set_option maxRecDepth 20000 in
theorem gL_payByHours_X0_payByHours : GoodIn wsL_payByHours (wsV RL 55 RX0 yX0_payByHours wsX0_payByHours) := goodIn_app (goodIn_of _ (by decide +kernel)) ggL_payByHours_X0_payByHours
theorem dL_payByHours_0 : decode cL_payByHours 0 = .ok (.aload_n 3, 1) := by decide +kernel
theorem dL_payByHours_1 : decode cL_payByHours 1 = .ok (.iconst 0, 1) := by decide +kernel
theorem dL_payByHours_2 : decode cL_payByHours 2 = .ok (.aload_n 0, 1) := by decide +kernel
theorem dL_payByHours_3 : decode cL_payByHours 3 = .ok (.iload_n 1, 1) := by decide +kernel
theorem dL_payByHours_4 : decode cL_payByHours 4 = .ok (.iload_n 2, 1) := by decide +kernel
theorem dL_payByHours_5 : decode cL_payByHours 5 = .ok (.invokevirtual 55, 3) := by decide +kernel
theorem dL_payByHours_8 : decode cL_payByHours 8 = .ok (.i2l, 1) := by decide +kernel
theorem dL_payByHours_9 : decode cL_payByHours 9 = .ok (.lastore, 1) := by decide +kernel
theorem dL_payByHours_10 : decode cL_payByHours 10 = .ok (.goto 7, 3) := by decide +kernel
theorem dL_payByHours_13 : decode cL_payByHours 13 = .ok (.astore 4, 2) := by decide +kernel
theorem dL_payByHours_15 : decode cL_payByHours 15 = .ok (.iconst 1, 1) := by decide +kernel
theorem dL_payByHours_16 : decode cL_payByHours 16 = .ok (.ireturn, 1) := by decide +kernel
theorem dL_payByHours_17 : decode cL_payByHours 17 = .ok (.iconst 0, 1) := by decide +kernel
theorem dL_payByHours_18 : decode cL_payByHours 18 = .ok (.ireturn, 1) := by decide +kernel
set_option maxRecDepth 20000 in
theorem ggL_run_X0_run : GoodIn wsL_run wsX0_run := goodIn_ca (goodIn_r _ [6, 7, 8, 9, 10, 5, 11, 12, 13, 14, 15, 16, 17, 18, 19, 20, 21, 22, 23, 24, 25, 26, 27, 28, 29, 30, 31, 32, 33, 34, 35, 36, 37, 38, 39, 40, 41, 42, 43, 44, 45, 46, 47, 48, 49, 50, 51, 52, 53, 54, 55, 56, 57, 58, 59, 60, 61, 62, 63, 64, 65, 66, 67, 68, 69, 70, 71, 72, 73, 74, 75, 76, 77, 78, 79, 80, 81, 82, 83, 84, 85, 86, 87, 88, 89, 90, 91, 92, 93, 94, 95, 96, 97, 98, 99, 100, 101, 102, 103, 104, 105, 106, 107, 108, 109, 110, 111, 112, 113, 114, 115, 116] (by decide +kernel) (by decide +kernel)) (goodIn_sub (fun _ h => List.mem_cons_of_mem _ (List.mem_append_right _ h)) (by decide +kernel))
set_option maxRecDepth 20000 in
theorem gL_run_X0_run : GoodIn wsL_run (wsV RL 58 RX0 yX0_run wsX0_run) := goodIn_app (goodIn_of _ (by decide +kernel)) ggL_run_X0_run
theorem dL_run_0 : decode cL_run 0 = .ok (.aload_n 2, 1) := by decide +kernel
theorem dL_run_1 : decode cL_run 1 = .ok (.iconst 0, 1) := by decide +kernel
theorem dL_run_2 : decode cL_run 2 = .ok (.aload_n 0, 1) := by decide +kernel
theorem dL_run_3 : decode cL_run 3 = .ok (.iload_n 1, 1) := by decide +kernel
theorem dL_run_4 : decode cL_run 4 = .ok (.invokevirtual 58, 3) := by decide +kernel
theorem dL_run_7 : decode cL_run 7 = .ok (.i2l, 1) := by decide +kernel
theorem dL_run_8 : decode cL_run 8 = .ok (.lastore, 1) := by decide +kernel
theorem dL_run_9 : decode cL_run 9 = .ok (.goto 6, 3) := by decide +kernel
theorem dL_run_12 : decode cL_run 12 = .ok (.astore_n 3, 1) := by decide +kernel
theorem dL_run_13 : decode cL_run 13 = .ok (.iconst 1, 1) := by decide +kernel
theorem dL_run_14 : decode cL_run 14 = .ok (.ireturn, 1) := by decide +kernel
theorem dL_run_15 : decode cL_run 15 = .ok (.iconst 0, 1) := by decide +kernel
theorem dL_run_16 : decode cL_run 16 = .ok (.ireturn, 1) := by decide +kernel
set_option maxRecDepth 20000 in
theorem ggL_paid_X0_paid : GoodIn wsL_paid wsX0_paid := goodIn_ca (goodIn_r _ [6, 7, 8, 9, 5, 10, 11, 12, 13, 14, 15, 16, 17, 18, 19, 20, 21, 22, 23, 24, 25, 26, 27, 28, 29, 30, 31] (by decide +kernel) (by decide +kernel)) (goodIn_sub (fun _ h => List.mem_cons_of_mem _ (List.mem_append_right _ h)) (by decide +kernel))
set_option maxRecDepth 20000 in
theorem gL_paid_X0_paid : GoodIn wsL_paid (wsV RL 61 RX0 yX0_paid wsX0_paid) := goodIn_app (goodIn_of _ (by decide +kernel)) ggL_paid_X0_paid
theorem dL_paid_0 : decode cL_paid 0 = .ok (.aload_n 3, 1) := by decide +kernel
theorem dL_paid_1 : decode cL_paid 1 = .ok (.iconst 0, 1) := by decide +kernel
theorem dL_paid_2 : decode cL_paid 2 = .ok (.aload_n 0, 1) := by decide +kernel
theorem dL_paid_3 : decode cL_paid 3 = .ok (.iload_n 1, 1) := by decide +kernel
theorem dL_paid_4 : decode cL_paid 4 = .ok (.iload_n 2, 1) := by decide +kernel
theorem dL_paid_5 : decode cL_paid 5 = .ok (.invokevirtual 61, 3) := by decide +kernel
theorem dL_paid_8 : decode cL_paid 8 = .ok (.i2l, 1) := by decide +kernel
theorem dL_paid_9 : decode cL_paid 9 = .ok (.lastore, 1) := by decide +kernel
theorem dL_paid_10 : decode cL_paid 10 = .ok (.goto 7, 3) := by decide +kernel
theorem dL_paid_13 : decode cL_paid 13 = .ok (.astore 4, 2) := by decide +kernel
theorem dL_paid_15 : decode cL_paid 15 = .ok (.iconst 1, 1) := by decide +kernel
theorem dL_paid_16 : decode cL_paid 16 = .ok (.ireturn, 1) := by decide +kernel
theorem dL_paid_17 : decode cL_paid 17 = .ok (.iconst 0, 1) := by decide +kernel
theorem dL_paid_18 : decode cL_paid 18 = .ok (.ireturn, 1) := by decide +kernel
set_option maxRecDepth 20000 in
theorem ggL_billed_X0_billed : GoodIn wsL_billed wsX0_billed := goodIn_ca (goodIn_r _ [6, 7, 8, 9, 5, 10, 11, 12, 13, 14, 15, 16, 17, 18, 19, 20, 21, 22, 23, 24, 25, 26, 27, 28, 29, 30, 31] (by decide +kernel) (by decide +kernel)) (goodIn_sub (fun _ h => List.mem_cons_of_mem _ (List.mem_append_right _ h)) (by decide +kernel))
set_option maxRecDepth 20000 in
theorem gL_billed_X0_billed : GoodIn wsL_billed (wsV RL 64 RX0 yX0_billed wsX0_billed) := goodIn_app (goodIn_of _ (by decide +kernel)) ggL_billed_X0_billed
theorem dL_billed_0 : decode cL_billed 0 = .ok (.aload_n 3, 1) := by decide +kernel
theorem dL_billed_1 : decode cL_billed 1 = .ok (.iconst 0, 1) := by decide +kernel
theorem dL_billed_2 : decode cL_billed 2 = .ok (.aload_n 0, 1) := by decide +kernel
theorem dL_billed_3 : decode cL_billed 3 = .ok (.iload_n 1, 1) := by decide +kernel
theorem dL_billed_4 : decode cL_billed 4 = .ok (.iload_n 2, 1) := by decide +kernel
theorem dL_billed_5 : decode cL_billed 5 = .ok (.invokevirtual 64, 3) := by decide +kernel
theorem dL_billed_8 : decode cL_billed 8 = .ok (.i2l, 1) := by decide +kernel
theorem dL_billed_9 : decode cL_billed 9 = .ok (.lastore, 1) := by decide +kernel
theorem dL_billed_10 : decode cL_billed 10 = .ok (.goto 7, 3) := by decide +kernel
theorem dL_billed_13 : decode cL_billed 13 = .ok (.astore 4, 2) := by decide +kernel
theorem dL_billed_15 : decode cL_billed 15 = .ok (.iconst 1, 1) := by decide +kernel
theorem dL_billed_16 : decode cL_billed 16 = .ok (.ireturn, 1) := by decide +kernel
theorem dL_billed_17 : decode cL_billed 17 = .ok (.iconst 0, 1) := by decide +kernel
theorem dL_billed_18 : decode cL_billed 18 = .ok (.ireturn, 1) := by decide +kernel
set_option maxRecDepth 20000 in
theorem ggL_owing_X0_owing : GoodIn wsL_owing wsX0_owing := goodIn_ca (goodIn_r _ [6, 7, 8, 9, 5, 10, 11, 12, 13, 14, 15, 16, 17, 18, 19, 20, 21, 22, 23, 24, 25, 26, 27, 28, 29, 30, 31, 32, 33, 34, 35, 36, 37, 38, 39, 40, 41, 42, 43, 44, 45, 46, 47, 48, 49, 50, 51, 52, 53, 54, 55, 56, 57, 58, 59, 60, 61, 62, 63, 64, 65, 66, 67, 68, 69, 70, 71, 72, 73, 74, 75, 76, 77, 78, 79, 80, 81, 82, 83, 84, 85, 86, 87, 88, 89, 90, 91, 92, 93] (by decide +kernel) (by decide +kernel)) (goodIn_sub (fun _ h => List.mem_cons_of_mem _ (List.mem_append_right _ h)) (by decide +kernel))
set_option maxRecDepth 20000 in
theorem gL_owing_X0_owing : GoodIn wsL_owing (wsV RL 67 RX0 yX0_owing wsX0_owing) := goodIn_app (goodIn_of _ (by decide +kernel)) ggL_owing_X0_owing
theorem dL_owing_0 : decode cL_owing 0 = .ok (.aload_n 3, 1) := by decide +kernel
theorem dL_owing_1 : decode cL_owing 1 = .ok (.iconst 0, 1) := by decide +kernel
theorem dL_owing_2 : decode cL_owing 2 = .ok (.aload_n 0, 1) := by decide +kernel
theorem dL_owing_3 : decode cL_owing 3 = .ok (.iload_n 1, 1) := by decide +kernel
theorem dL_owing_4 : decode cL_owing 4 = .ok (.iload_n 2, 1) := by decide +kernel
theorem dL_owing_5 : decode cL_owing 5 = .ok (.invokevirtual 67, 3) := by decide +kernel
theorem dL_owing_8 : decode cL_owing 8 = .ok (.i2l, 1) := by decide +kernel
theorem dL_owing_9 : decode cL_owing 9 = .ok (.lastore, 1) := by decide +kernel
theorem dL_owing_10 : decode cL_owing 10 = .ok (.goto 7, 3) := by decide +kernel
theorem dL_owing_13 : decode cL_owing 13 = .ok (.astore 4, 2) := by decide +kernel
theorem dL_owing_15 : decode cL_owing 15 = .ok (.iconst 1, 1) := by decide +kernel
theorem dL_owing_16 : decode cL_owing 16 = .ok (.ireturn, 1) := by decide +kernel
theorem dL_owing_17 : decode cL_owing 17 = .ok (.iconst 0, 1) := by decide +kernel
theorem dL_owing_18 : decode cL_owing 18 = .ok (.ireturn, 1) := by decide +kernel
set_option maxRecDepth 20000 in
theorem ggL_toBill_X0_toBill : GoodIn wsL_toBill wsX0_toBill := goodIn_ca (goodIn_r _ [6, 7, 8, 9, 5, 10, 11, 12, 13, 14, 15, 16, 17, 18, 19, 20, 21, 22, 23, 24, 25, 26, 27, 28, 29, 30, 31, 32, 33, 34, 35, 36, 37, 38, 39, 40, 41, 42, 43, 44, 45, 46, 47, 48, 49, 50, 51, 52, 53, 54, 55, 56, 57, 58, 59, 60, 61, 62, 63, 64, 65, 66, 67, 68, 69, 70, 71, 72, 73, 74, 75, 76, 77, 78, 79, 80, 81, 82, 83, 84, 85, 86, 87, 88, 89, 90, 91, 92, 93, 94, 95, 96, 97, 98, 99, 100, 101, 102, 103, 104, 105, 106, 107, 108, 109, 110, 111] (by decide +kernel) (by decide +kernel)) (goodIn_sub (fun _ h => List.mem_cons_of_mem _ (List.mem_append_right _ h)) (by decide +kernel))
set_option maxRecDepth 20000 in
theorem gL_toBill_X0_toBill : GoodIn wsL_toBill (wsV RL 70 RX0 yX0_toBill wsX0_toBill) := goodIn_app (goodIn_of _ (by decide +kernel)) ggL_toBill_X0_toBill
theorem dL_toBill_0 : decode cL_toBill 0 = .ok (.aload_n 3, 1) := by decide +kernel
theorem dL_toBill_1 : decode cL_toBill 1 = .ok (.iconst 0, 1) := by decide +kernel
theorem dL_toBill_2 : decode cL_toBill 2 = .ok (.aload_n 0, 1) := by decide +kernel
theorem dL_toBill_3 : decode cL_toBill 3 = .ok (.iload_n 1, 1) := by decide +kernel
theorem dL_toBill_4 : decode cL_toBill 4 = .ok (.iload_n 2, 1) := by decide +kernel
theorem dL_toBill_5 : decode cL_toBill 5 = .ok (.invokevirtual 70, 3) := by decide +kernel
theorem dL_toBill_8 : decode cL_toBill 8 = .ok (.i2l, 1) := by decide +kernel
theorem dL_toBill_9 : decode cL_toBill 9 = .ok (.lastore, 1) := by decide +kernel
theorem dL_toBill_10 : decode cL_toBill 10 = .ok (.goto 7, 3) := by decide +kernel
theorem dL_toBill_13 : decode cL_toBill 13 = .ok (.astore 4, 2) := by decide +kernel
theorem dL_toBill_15 : decode cL_toBill 15 = .ok (.iconst 1, 1) := by decide +kernel
theorem dL_toBill_16 : decode cL_toBill 16 = .ok (.ireturn, 1) := by decide +kernel
theorem dL_toBill_17 : decode cL_toBill 17 = .ok (.iconst 0, 1) := by decide +kernel
theorem dL_toBill_18 : decode cL_toBill 18 = .ok (.ireturn, 1) := by decide +kernel
set_option maxRecDepth 20000 in
theorem ggL_takeHoliday_X0_takeHoliday : GoodIn wsL_takeHoliday wsX0_takeHoliday := goodIn_ca (goodIn_ca (goodIn_ca (goodIn_r _ [8, 9, 10, 11, 7, 12, 13, 14, 15, 16, 17, 18, 19, 20, 21, 22, 23, 24, 25, 26, 27, 28, 29, 30, 31, 32, 33, 34, 35, 36, 37, 38, 39, 40, 41, 42, 43, 44, 45, 46, 47, 48, 49, 50, 51, 52, 53] (by decide +kernel) (by decide +kernel)) (goodIn_sub (fun _ h => List.mem_cons_of_mem _ (List.mem_append_left _ (List.mem_append_left _ (List.mem_append_right _ h)))) (by decide +kernel))) (goodIn_sub (fun _ h => List.mem_cons_of_mem _ (List.mem_append_left _ (List.mem_append_right _ h))) (by decide +kernel))) (goodIn_sub (fun _ h => List.mem_cons_of_mem _ (List.mem_append_right _ h)) (by decide +kernel))
set_option maxRecDepth 20000 in
theorem gL_takeHoliday_X0_takeHoliday : GoodIn wsL_takeHoliday (wsV RL 73 RX0 yX0_takeHoliday wsX0_takeHoliday) := goodIn_app (goodIn_of _ (by decide +kernel)) ggL_takeHoliday_X0_takeHoliday
theorem dL_takeHoliday_0 : decode cL_takeHoliday 0 = .ok (.aload_n 3, 1) := by decide +kernel
theorem dL_takeHoliday_1 : decode cL_takeHoliday 1 = .ok (.iconst 0, 1) := by decide +kernel
theorem dL_takeHoliday_2 : decode cL_takeHoliday 2 = .ok (.aload_n 0, 1) := by decide +kernel
theorem dL_takeHoliday_3 : decode cL_takeHoliday 3 = .ok (.iload_n 1, 1) := by decide +kernel
theorem dL_takeHoliday_4 : decode cL_takeHoliday 4 = .ok (.iload_n 2, 1) := by decide +kernel
theorem dL_takeHoliday_5 : decode cL_takeHoliday 5 = .ok (.invokevirtual 73, 3) := by decide +kernel
theorem dL_takeHoliday_8 : decode cL_takeHoliday 8 = .ok (.i2l, 1) := by decide +kernel
theorem dL_takeHoliday_9 : decode cL_takeHoliday 9 = .ok (.lastore, 1) := by decide +kernel
theorem dL_takeHoliday_10 : decode cL_takeHoliday 10 = .ok (.goto 15, 3) := by decide +kernel
theorem dL_takeHoliday_13 : decode cL_takeHoliday 13 = .ok (.astore 4, 2) := by decide +kernel
theorem dL_takeHoliday_15 : decode cL_takeHoliday 15 = .ok (.iconst 1, 1) := by decide +kernel
theorem dL_takeHoliday_16 : decode cL_takeHoliday 16 = .ok (.ireturn, 1) := by decide +kernel
theorem dL_takeHoliday_17 : decode cL_takeHoliday 17 = .ok (.astore 4, 2) := by decide +kernel
theorem dL_takeHoliday_19 : decode cL_takeHoliday 19 = .ok (.iconst 2, 1) := by decide +kernel
theorem dL_takeHoliday_20 : decode cL_takeHoliday 20 = .ok (.ireturn, 1) := by decide +kernel
theorem dL_takeHoliday_21 : decode cL_takeHoliday 21 = .ok (.astore 4, 2) := by decide +kernel
theorem dL_takeHoliday_23 : decode cL_takeHoliday 23 = .ok (.iconst 3, 1) := by decide +kernel
theorem dL_takeHoliday_24 : decode cL_takeHoliday 24 = .ok (.ireturn, 1) := by decide +kernel
theorem dL_takeHoliday_25 : decode cL_takeHoliday 25 = .ok (.iconst 0, 1) := by decide +kernel
theorem dL_takeHoliday_26 : decode cL_takeHoliday 26 = .ok (.ireturn, 1) := by decide +kernel
set_option maxRecDepth 20000 in
theorem ggL_holiday_X0_holiday : GoodIn wsL_holiday wsX0_holiday := goodIn_ca (goodIn_r _ [6, 7, 8, 5, 9, 10, 11, 12, 13, 14, 15, 16, 17, 18, 19, 20, 21, 22, 23, 24, 25, 26, 27, 28, 29, 30, 31, 32, 33, 34, 35, 36, 37, 38] (by decide +kernel) (by decide +kernel)) (goodIn_sub (fun _ h => List.mem_cons_of_mem _ (List.mem_append_right _ h)) (by decide +kernel))
set_option maxRecDepth 20000 in
theorem gL_holiday_X0_holiday : GoodIn wsL_holiday (wsV RL 76 RX0 yX0_holiday wsX0_holiday) := goodIn_app (goodIn_of _ (by decide +kernel)) ggL_holiday_X0_holiday
theorem dL_holiday_0 : decode cL_holiday 0 = .ok (.aload_n 2, 1) := by decide +kernel
theorem dL_holiday_1 : decode cL_holiday 1 = .ok (.iconst 0, 1) := by decide +kernel
theorem dL_holiday_2 : decode cL_holiday 2 = .ok (.aload_n 0, 1) := by decide +kernel
theorem dL_holiday_3 : decode cL_holiday 3 = .ok (.iload_n 1, 1) := by decide +kernel
theorem dL_holiday_4 : decode cL_holiday 4 = .ok (.invokevirtual 76, 3) := by decide +kernel
theorem dL_holiday_7 : decode cL_holiday 7 = .ok (.i2l, 1) := by decide +kernel
theorem dL_holiday_8 : decode cL_holiday 8 = .ok (.lastore, 1) := by decide +kernel
theorem dL_holiday_9 : decode cL_holiday 9 = .ok (.goto 6, 3) := by decide +kernel
theorem dL_holiday_12 : decode cL_holiday 12 = .ok (.astore_n 3, 1) := by decide +kernel
theorem dL_holiday_13 : decode cL_holiday 13 = .ok (.iconst 1, 1) := by decide +kernel
theorem dL_holiday_14 : decode cL_holiday 14 = .ok (.ireturn, 1) := by decide +kernel
theorem dL_holiday_15 : decode cL_holiday 15 = .ok (.iconst 0, 1) := by decide +kernel
theorem dL_holiday_16 : decode cL_holiday 16 = .ok (.ireturn, 1) := by decide +kernel
