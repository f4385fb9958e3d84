set_option maxRecDepth 20000 in
theorem ggX0_init_X0_put : GoodIn wsX0_init wsX0_put := goodIn_r _ [24] (by decide +kernel) (by decide +kernel)
set_option maxRecDepth 20000 in
theorem gX0_init_X0_put : GoodIn wsX0_init (va_wsS RX0 59 yX0_put wsX0_put) := goodIn_app (goodIn_of _ (by decide +kernel)) ggX0_init_X0_put
theorem dX0_init_0 : decode cX0_init 0 = .ok (.aload_n 0, 1) := by decide +kernel
theorem dX0_init_1 : decode cX0_init 1 = .ok (.invokespecial 3, 3) := by decide +kernel
theorem dX0_init_4 : decode cX0_init 4 = .ok (.aload_n 0, 1) := by decide +kernel
theorem dX0_init_5 : decode cX0_init 5 = .ok (.iconst 4, 1) := by decide +kernel
theorem dX0_init_6 : decode cX0_init 6 = .ok (.newarray .int, 2) := by decide +kernel
theorem dX0_init_8 : decode cX0_init 8 = .ok (.putfield 9, 3) := by decide +kernel
theorem dX0_init_11 : decode cX0_init 11 = .ok (.aload_n 0, 1) := by decide +kernel
theorem dX0_init_12 : decode cX0_init 12 = .ok (.iconst 4, 1) := by decide +kernel
theorem dX0_init_13 : decode cX0_init 13 = .ok (.newarray .int, 2) := by decide +kernel
theorem dX0_init_15 : decode cX0_init 15 = .ok (.putfield 13, 3) := by decide +kernel
theorem dX0_init_18 : decode cX0_init 18 = .ok (.aload_n 0, 1) := by decide +kernel
theorem dX0_init_19 : decode cX0_init 19 = .ok (.iconst 4, 1) := by decide +kernel
theorem dX0_init_20 : decode cX0_init 20 = .ok (.newarray .int, 2) := by decide +kernel
theorem dX0_init_22 : decode cX0_init 22 = .ok (.putfield 16, 3) := by decide +kernel
theorem dX0_init_25 : decode cX0_init 25 = .ok (.aload_n 0, 1) := by decide +kernel
theorem dX0_init_26 : decode cX0_init 26 = .ok (.iconst 4, 1) := by decide +kernel
theorem dX0_init_27 : decode cX0_init 27 = .ok (.newarray .int, 2) := by decide +kernel
theorem dX0_init_29 : decode cX0_init 29 = .ok (.putfield 19, 3) := by decide +kernel
theorem dX0_init_32 : decode cX0_init 32 = .ok (.aload_n 0, 1) := by decide +kernel
theorem dX0_init_33 : decode cX0_init 33 = .ok (.iconst 4, 1) := by decide +kernel
theorem dX0_init_34 : decode cX0_init 34 = .ok (.newarray .int, 2) := by decide +kernel
theorem dX0_init_36 : decode cX0_init 36 = .ok (.putfield 22, 3) := by decide +kernel
theorem dX0_init_39 : decode cX0_init 39 = .ok (.aload_n 0, 1) := by decide +kernel
theorem dX0_init_40 : decode cX0_init 40 = .ok (.iconst 4, 1) := by decide +kernel
theorem dX0_init_41 : decode cX0_init 41 = .ok (.putfield 25, 3) := by decide +kernel
theorem dX0_init_44 : decode cX0_init 44 = .ok (.aload_n 0, 1) := by decide +kernel
theorem dX0_init_45 : decode cX0_init 45 = .ok (.iconst 2, 1) := by decide +kernel
theorem dX0_init_46 : decode cX0_init 46 = .ok (.putfield 29, 3) := by decide +kernel
theorem dX0_init_49 : decode cX0_init 49 = .ok (.aload_n 0, 1) := by decide +kernel
theorem dX0_init_50 : decode cX0_init 50 = .ok (.iconst 0, 1) := by decide +kernel
theorem dX0_init_51 : decode cX0_init 51 = .ok (.putfield 32, 3) := by decide +kernel
theorem dX0_init_54 : decode cX0_init 54 = .ok (.aload_n 0, 1) := by decide +kernel
theorem dX0_init_55 : decode cX0_init 55 = .ok (.bipush 80, 2) := by decide +kernel
theorem dX0_init_57 : decode cX0_init 57 = .ok (.newarray .int, 2) := by decide +kernel
theorem dX0_init_59 : decode cX0_init 59 = .ok (.putfield 35, 3) := by decide +kernel
theorem dX0_init_62 : decode cX0_init 62 = .ok (.aload_n 0, 1) := by decide +kernel
theorem dX0_init_63 : decode cX0_init 63 = .ok (.bipush 80, 2) := by decide +kernel
theorem dX0_init_65 : decode cX0_init 65 = .ok (.newarray .int, 2) := by decide +kernel
theorem dX0_init_67 : decode cX0_init 67 = .ok (.putfield 38, 3) := by decide +kernel
theorem dX0_init_70 : decode cX0_init 70 = .ok (.aload_n 0, 1) := by decide +kernel
theorem dX0_init_71 : decode cX0_init 71 = .ok (.bipush 80, 2) := by decide +kernel
theorem dX0_init_73 : decode cX0_init 73 = .ok (.newarray .int, 2) := by decide +kernel
theorem dX0_init_75 : decode cX0_init 75 = .ok (.putfield 41, 3) := by decide +kernel
theorem dX0_init_78 : decode cX0_init 78 = .ok (.aload_n 0, 1) := by decide +kernel
theorem dX0_init_79 : decode cX0_init 79 = .ok (.bipush 80, 2) := by decide +kernel
theorem dX0_init_81 : decode cX0_init 81 = .ok (.newarray .int, 2) := by decide +kernel
theorem dX0_init_83 : decode cX0_init 83 = .ok (.putfield 44, 3) := by decide +kernel
theorem dX0_init_86 : decode cX0_init 86 = .ok (.aload_n 0, 1) := by decide +kernel
theorem dX0_init_87 : decode cX0_init 87 = .ok (.bipush 120, 2) := by decide +kernel
theorem dX0_init_89 : decode cX0_init 89 = .ok (.newarray .int, 2) := by decide +kernel
theorem dX0_init_91 : decode cX0_init 91 = .ok (.putfield 47, 3) := by decide +kernel
theorem dX0_init_94 : decode cX0_init 94 = .ok (.aload_n 0, 1) := by decide +kernel
theorem dX0_init_95 : decode cX0_init 95 = .ok (.bipush 80, 2) := by decide +kernel
theorem dX0_init_97 : decode cX0_init 97 = .ok (.newarray .int, 2) := by decide +kernel
theorem dX0_init_99 : decode cX0_init 99 = .ok (.putfield 50, 3) := by decide +kernel
theorem dX0_init_102 : decode cX0_init 102 = .ok (.aload_n 0, 1) := by decide +kernel
theorem dX0_init_103 : decode cX0_init 103 = .ok (.bipush 6, 2) := by decide +kernel
theorem dX0_init_105 : decode cX0_init 105 = .ok (.newarray .int, 2) := by decide +kernel
theorem dX0_init_107 : decode cX0_init 107 = .ok (.putfield 53, 3) := by decide +kernel
theorem dX0_init_110 : decode cX0_init 110 = .ok (.aload_n 0, 1) := by decide +kernel
theorem dX0_init_111 : decode cX0_init 111 = .ok (.bipush 7, 2) := by decide +kernel
theorem dX0_init_113 : decode cX0_init 113 = .ok (.newarray .int, 2) := by decide +kernel
theorem dX0_init_115 : decode cX0_init 115 = .ok (.putfield 56, 3) := by decide +kernel
theorem dX0_init_118 : decode cX0_init 118 = .ok (.iconst 0, 1) := by decide +kernel
theorem dX0_init_119 : decode cX0_init 119 = .ok (.istore_n 1, 1) := by decide +kernel
theorem dX0_init_120 : decode cX0_init 120 = .ok (.iload_n 1, 1) := by decide +kernel
theorem dX0_init_121 : decode cX0_init 121 = .ok (.iconst 4, 1) := by decide +kernel
theorem dX0_init_122 : decode cX0_init 122 = .ok (.if_icmp .ge 61, 3) := by decide +kernel
theorem dX0_init_125 : decode cX0_init 125 = .ok (.aload_n 0, 1) := by decide +kernel
theorem dX0_init_126 : decode cX0_init 126 = .ok (.getfield 9, 3) := by decide +kernel
theorem dX0_init_129 : decode cX0_init 129 = .ok (.iload_n 1, 1) := by decide +kernel
theorem dX0_init_130 : decode cX0_init 130 = .ok (.sipush 1000, 3) := by decide +kernel
theorem dX0_init_133 : decode cX0_init 133 = .ok (.invokestatic 59, 3) := by decide +kernel
theorem dX0_init_136 : decode cX0_init 136 = .ok (.aload_n 0, 1) := by decide +kernel
theorem dX0_init_137 : decode cX0_init 137 = .ok (.getfield 13, 3) := by decide +kernel
theorem dX0_init_140 : decode cX0_init 140 = .ok (.iload_n 1, 1) := by decide +kernel
theorem dX0_init_141 : decode cX0_init 141 = .ok (.sipush 1200, 3) := by decide +kernel
theorem dX0_init_144 : decode cX0_init 144 = .ok (.invokestatic 59, 3) := by decide +kernel
theorem dX0_init_147 : decode cX0_init 147 = .ok (.aload_n 0, 1) := by decide +kernel
theorem dX0_init_148 : decode cX0_init 148 = .ok (.getfield 16, 3) := by decide +kernel
theorem dX0_init_151 : decode cX0_init 151 = .ok (.iload_n 1, 1) := by decide +kernel
theorem dX0_init_152 : decode cX0_init 152 = .ok (.bipush 20, 2) := by decide +kernel
theorem dX0_init_154 : decode cX0_init 154 = .ok (.invokestatic 59, 3) := by decide +kernel
theorem dX0_init_157 : decode cX0_init 157 = .ok (.aload_n 0, 1) := by decide +kernel
theorem dX0_init_158 : decode cX0_init 158 = .ok (.getfield 19, 3) := by decide +kernel
theorem dX0_init_161 : decode cX0_init 161 = .ok (.iload_n 1, 1) := by decide +kernel
theorem dX0_init_162 : decode cX0_init 162 = .ok (.bipush 10, 2) := by decide +kernel
theorem dX0_init_164 : decode cX0_init 164 = .ok (.invokestatic 59, 3) := by decide +kernel
theorem dX0_init_167 : decode cX0_init 167 = .ok (.aload_n 0, 1) := by decide +kernel
theorem dX0_init_168 : decode cX0_init 168 = .ok (.getfield 22, 3) := by decide +kernel
theorem dX0_init_171 : decode cX0_init 171 = .ok (.iload_n 1, 1) := by decide +kernel
theorem dX0_init_172 : decode cX0_init 172 = .ok (.bipush 100, 2) := by decide +kernel
theorem dX0_init_174 : decode cX0_init 174 = .ok (.invokestatic 59, 3) := by decide +kernel
theorem dX0_init_177 : decode cX0_init 177 = .ok (.iinc 1 1, 3) := by decide +kernel
theorem dX0_init_180 : decode cX0_init 180 = .ok (.goto (-60), 3) := by decide +kernel
theorem dX0_init_183 : decode cX0_init 183 = .ok (.return_, 1) := by decide +kernel
set_option maxRecDepth 20000 in
theorem ggX0_setRates_X0_needOneOf : GoodIn wsX0_setRates wsX0_needOneOf := goodIn_ca (goodIn_r _ [6, 7, 8] (by decide +kernel) (by decide +kernel)) (goodIn_sub (fun _ h => List.mem_cons_of_mem _ (List.mem_append_left _ (List.mem_append_right _ h))) (by decide +kernel))
set_option maxRecDepth 20000 in
theorem gX0_setRates_X0_needOneOf : GoodIn wsX0_setRates (va_wsS RX0 63 yX0_needOneOf wsX0_needOneOf) := goodIn_app (goodIn_of _ (by decide +kernel)) ggX0_setRates_X0_needOneOf
set_option maxRecDepth 20000 in
theorem ggX0_setRates_X0_needRange : GoodIn wsX0_setRates wsX0_needRange := goodIn_ca (goodIn_r _ [11, 12, 13] (by decide +kernel) (by decide +kernel)) (goodIn_sub (fun _ h => List.mem_cons_of_mem _ (List.mem_append_right _ h)) (by decide +kernel))
set_option maxRecDepth 20000 in
theorem gX0_setRates_X0_needRange : GoodIn wsX0_setRates (va_wsS RX0 67 yX0_needRange wsX0_needRange) := goodIn_app (goodIn_of _ (by decide +kernel)) ggX0_setRates_X0_needRange
set_option maxRecDepth 20000 in
theorem ggX0_setRates_X0_put : GoodIn wsX0_setRates wsX0_put := goodIn_r _ [16] (by decide +kernel) (by decide +kernel)
set_option maxRecDepth 20000 in
theorem gX0_setRates_X0_put : GoodIn wsX0_setRates (va_wsS RX0 59 yX0_put wsX0_put) := goodIn_app (goodIn_of _ (by decide +kernel)) ggX0_setRates_X0_put
theorem dX0_setRates_0 : decode cX0_setRates 0 = .ok (.iload_n 1, 1) := by decide +kernel
theorem dX0_setRates_1 : decode cX0_setRates 1 = .ok (.iconst 4, 1) := by decide +kernel
theorem dX0_setRates_2 : decode cX0_setRates 2 = .ok (.invokestatic 63, 3) := by decide +kernel
theorem dX0_setRates_5 : decode cX0_setRates 5 = .ok (.iload_n 2, 1) := by decide +kernel
theorem dX0_setRates_6 : decode cX0_setRates 6 = .ok (.iconst 1, 1) := by decide +kernel
theorem dX0_setRates_7 : decode cX0_setRates 7 = .ok (.sipush 10000, 3) := by decide +kernel
theorem dX0_setRates_10 : decode cX0_setRates 10 = .ok (.invokestatic 67, 3) := by decide +kernel
theorem dX0_setRates_13 : decode cX0_setRates 13 = .ok (.iload_n 3, 1) := by decide +kernel
theorem dX0_setRates_14 : decode cX0_setRates 14 = .ok (.iload_n 2, 1) := by decide +kernel
theorem dX0_setRates_15 : decode cX0_setRates 15 = .ok (.sipush 10000, 3) := by decide +kernel
theorem dX0_setRates_18 : decode cX0_setRates 18 = .ok (.invokestatic 67, 3) := by decide +kernel
theorem dX0_setRates_21 : decode cX0_setRates 21 = .ok (.aload_n 0, 1) := by decide +kernel
theorem dX0_setRates_22 : decode cX0_setRates 22 = .ok (.getfield 9, 3) := by decide +kernel
theorem dX0_setRates_25 : decode cX0_setRates 25 = .ok (.iload_n 1, 1) := by decide +kernel
theorem dX0_setRates_26 : decode cX0_setRates 26 = .ok (.iload_n 2, 1) := by decide +kernel
theorem dX0_setRates_27 : decode cX0_setRates 27 = .ok (.invokestatic 59, 3) := by decide +kernel
theorem dX0_setRates_30 : decode cX0_setRates 30 = .ok (.aload_n 0, 1) := by decide +kernel
theorem dX0_setRates_31 : decode cX0_setRates 31 = .ok (.getfield 13, 3) := by decide +kernel
theorem dX0_setRates_34 : decode cX0_setRates 34 = .ok (.iload_n 1, 1) := by decide +kernel
theorem dX0_setRates_35 : decode cX0_setRates 35 = .ok (.iload_n 3, 1) := by decide +kernel
theorem dX0_setRates_36 : decode cX0_setRates 36 = .ok (.invokestatic 59, 3) := by decide +kernel
theorem dX0_setRates_39 : decode cX0_setRates 39 = .ok (.return_, 1) := by decide +kernel
set_option maxRecDepth 20000 in
theorem ggX0_setMargins_X0_needOneOf : GoodIn wsX0_setMargins wsX0_needOneOf := goodIn_ca (goodIn_r _ [7, 8, 9] (by decide +kernel) (by decide +kernel)) (goodIn_sub (fun _ h => List.mem_cons_of_mem _ (List.mem_append_left _ (List.mem_append_right _ h))) (by decide +kernel))
set_option maxRecDepth 20000 in
theorem gX0_setMargins_X0_needOneOf : GoodIn wsX0_setMargins (va_wsS RX0 63 yX0_needOneOf wsX0_needOneOf) := goodIn_app (goodIn_of _ (by decide +kernel)) ggX0_setMargins_X0_needOneOf
set_option maxRecDepth 20000 in
theorem ggX0_setMargins_X0_needRange : GoodIn wsX0_setMargins wsX0_needRange := goodIn_ca (goodIn_r _ [12, 13, 14] (by decide +kernel) (by decide +kernel)) (goodIn_sub (fun _ h => List.mem_cons_of_mem _ (List.mem_append_right _ h)) (by decide +kernel))
set_option maxRecDepth 20000 in
theorem gX0_setMargins_X0_needRange : GoodIn wsX0_setMargins (va_wsS RX0 67 yX0_needRange wsX0_needRange) := goodIn_app (goodIn_of _ (by decide +kernel)) ggX0_setMargins_X0_needRange
set_option maxRecDepth 20000 in
theorem ggX0_setMargins_X0_put : GoodIn wsX0_setMargins wsX0_put := goodIn_r _ [17] (by decide +kernel) (by decide +kernel)
set_option maxRecDepth 20000 in
theorem gX0_setMargins_X0_put : GoodIn wsX0_setMargins (va_wsS RX0 59 yX0_put wsX0_put) := goodIn_app (goodIn_of _ (by decide +kernel)) ggX0_setMargins_X0_put
theorem dX0_setMargins_0 : decode cX0_setMargins 0 = .ok (.iload_n 1, 1) := by decide +kernel
theorem dX0_setMargins_1 : decode cX0_setMargins 1 = .ok (.iconst 4, 1) := by decide +kernel
theorem dX0_setMargins_2 : decode cX0_setMargins 2 = .ok (.invokestatic 63, 3) := by decide +kernel
theorem dX0_setMargins_5 : decode cX0_setMargins 5 = .ok (.iload_n 2, 1) := by decide +kernel
theorem dX0_setMargins_6 : decode cX0_setMargins 6 = .ok (.iconst 0, 1) := by decide +kernel
theorem dX0_setMargins_7 : decode cX0_setMargins 7 = .ok (.bipush 100, 2) := by decide +kernel
theorem dX0_setMargins_9 : decode cX0_setMargins 9 = .ok (.invokestatic 67, 3) := by decide +kernel
theorem dX0_setMargins_12 : decode cX0_setMargins 12 = .ok (.iload_n 3, 1) := by decide +kernel
theorem dX0_setMargins_13 : decode cX0_setMargins 13 = .ok (.iconst 0, 1) := by decide +kernel
theorem dX0_setMargins_14 : decode cX0_setMargins 14 = .ok (.iload_n 2, 1) := by decide +kernel
theorem dX0_setMargins_15 : decode cX0_setMargins 15 = .ok (.invokestatic 67, 3) := by decide +kernel
theorem dX0_setMargins_18 : decode cX0_setMargins 18 = .ok (.iload 4, 2) := by decide +kernel
theorem dX0_setMargins_20 : decode cX0_setMargins 20 = .ok (.iconst 1, 1) := by decide +kernel
theorem dX0_setMargins_21 : decode cX0_setMargins 21 = .ok (.sipush 1000, 3) := by decide +kernel
theorem dX0_setMargins_24 : decode cX0_setMargins 24 = .ok (.invokestatic 67, 3) := by decide +kernel
theorem dX0_setMargins_27 : decode cX0_setMargins 27 = .ok (.aload_n 0, 1) := by decide +kernel
theorem dX0_setMargins_28 : decode cX0_setMargins 28 = .ok (.getfield 16, 3) := by decide +kernel
theorem dX0_setMargins_31 : decode cX0_setMargins 31 = .ok (.iload_n 1, 1) := by decide +kernel
theorem dX0_setMargins_32 : decode cX0_setMargins 32 = .ok (.iload_n 2, 1) := by decide +kernel
theorem dX0_setMargins_33 : decode cX0_setMargins 33 = .ok (.invokestatic 59, 3) := by decide +kernel
theorem dX0_setMargins_36 : decode cX0_setMargins 36 = .ok (.aload_n 0, 1) := by decide +kernel
theorem dX0_setMargins_37 : decode cX0_setMargins 37 = .ok (.getfield 19, 3) := by decide +kernel
theorem dX0_setMargins_40 : decode cX0_setMargins 40 = .ok (.iload_n 1, 1) := by decide +kernel
theorem dX0_setMargins_41 : decode cX0_setMargins 41 = .ok (.iload_n 3, 1) := by decide +kernel
theorem dX0_setMargins_42 : decode cX0_setMargins 42 = .ok (.invokestatic 59, 3) := by decide +kernel
theorem dX0_setMargins_45 : decode cX0_setMargins 45 = .ok (.aload_n 0, 1) := by decide +kernel
theorem dX0_setMargins_46 : decode cX0_setMargins 46 = .ok (.getfield 22, 3) := by decide +kernel
theorem dX0_setMargins_49 : decode cX0_setMargins 49 = .ok (.iload_n 1, 1) := by decide +kernel
theorem dX0_setMargins_50 : decode cX0_setMargins 50 = .ok (.iload 4, 2) := by decide +kernel
theorem dX0_setMargins_52 : decode cX0_setMargins 52 = .ok (.invokestatic 59, 3) := by decide +kernel
theorem dX0_setMargins_55 : decode cX0_setMargins 55 = .ok (.return_, 1) := by decide +kernel
set_option maxRecDepth 20000 in
theorem ggX0_setEqual_X0_needRange : GoodIn wsX0_setEqual wsX0_needRange := goodIn_ca (goodIn_r _ [6, 7, 8] (by decide +kernel) (by decide +kernel)) (goodIn_sub (fun _ h => List.mem_cons_of_mem _ (List.mem_append_right _ h)) (by decide +kernel))
set_option maxRecDepth 20000 in
theorem gX0_setEqual_X0_needRange : GoodIn wsX0_setEqual (va_wsS RX0 67 yX0_needRange wsX0_needRange) := goodIn_app (goodIn_of _ (by decide +kernel)) ggX0_setEqual_X0_needRange
theorem dX0_setEqual_0 : decode cX0_setEqual 0 = .ok (.iload_n 1, 1) := by decide +kernel
theorem dX0_setEqual_1 : decode cX0_setEqual 1 = .ok (.iconst 1, 1) := by decide +kernel
theorem dX0_setEqual_2 : decode cX0_setEqual 2 = .ok (.bipush 12, 2) := by decide +kernel
theorem dX0_setEqual_4 : decode cX0_setEqual 4 = .ok (.invokestatic 67, 3) := by decide +kernel
theorem dX0_setEqual_7 : decode cX0_setEqual 7 = .ok (.iload_n 2, 1) := by decide +kernel
theorem dX0_setEqual_8 : decode cX0_setEqual 8 = .ok (.iconst 0, 1) := by decide +kernel
theorem dX0_setEqual_9 : decode cX0_setEqual 9 = .ok (.bipush 6, 2) := by decide +kernel
theorem dX0_setEqual_11 : decode cX0_setEqual 11 = .ok (.invokestatic 67, 3) := by decide +kernel
theorem dX0_setEqual_14 : decode cX0_setEqual 14 = .ok (.aload_n 0, 1) := by decide +kernel
theorem dX0_setEqual_15 : decode cX0_setEqual 15 = .ok (.iload_n 1, 1) := by decide +kernel
theorem dX0_setEqual_16 : decode cX0_setEqual 16 = .ok (.putfield 25, 3) := by decide +kernel
theorem dX0_setEqual_19 : decode cX0_setEqual 19 = .ok (.aload_n 0, 1) := by decide +kernel
theorem dX0_setEqual_20 : decode cX0_setEqual 20 = .ok (.iload_n 2, 1) := by decide +kernel
theorem dX0_setEqual_21 : decode cX0_setEqual 21 = .ok (.putfield 29, 3) := by decide +kernel
theorem dX0_setEqual_24 : decode cX0_setEqual 24 = .ok (.return_, 1) := by decide +kernel
set_option maxRecDepth 20000 in
theorem ggX0_shift_X0_needOneOf : GoodIn wsX0_shift wsX0_needOneOf := goodIn_ca (goodIn_r _ [9, 10, 11] (by decide +kernel) (by decide +kernel)) (goodIn_sub (fun _ h => List.mem_cons_of_mem _ (List.mem_append_left _ (List.mem_append_left _ (List.mem_append_right _ h)))) (by decide +kernel))
set_option maxRecDepth 20000 in
theorem gX0_shift_X0_needOneOf : GoodIn wsX0_shift (va_wsS RX0 63 yX0_needOneOf wsX0_needOneOf) := goodIn_app (goodIn_of _ (by decide +kernel)) ggX0_shift_X0_needOneOf
set_option maxRecDepth 20000 in
theorem ggX0_shift_X0_needRange : GoodIn wsX0_shift wsX0_needRange := goodIn_ca (goodIn_r _ [14, 15, 16] (by decide +kernel) (by decide +kernel)) (goodIn_sub (fun _ h => List.mem_cons_of_mem _ (List.mem_append_left _ (List.mem_append_right _ h))) (by decide +kernel))
set_option maxRecDepth 20000 in
theorem gX0_shift_X0_needRange : GoodIn wsX0_shift (va_wsS RX0 67 yX0_needRange wsX0_needRange) := goodIn_app (goodIn_of _ (by decide +kernel)) ggX0_shift_X0_needRange
set_option maxRecDepth 20000 in
theorem ggX0_shift_X0_needState : GoodIn wsX0_shift wsX0_needState := goodIn_ca (goodIn_r _ [19, 20, 21] (by decide +kernel) (by decide +kernel)) (goodIn_sub (fun _ h => List.mem_cons_of_mem _ (List.mem_append_right _ h)) (by decide +kernel))
set_option maxRecDepth 20000 in
theorem gX0_shift_X0_needState : GoodIn wsX0_shift (va_wsS RX0 71 yX0_needState wsX0_needState) := goodIn_app (goodIn_of _ (by decide +kernel)) ggX0_shift_X0_needState
set_option maxRecDepth 20000 in
theorem ggX0_shift_X0_hoursOnDay : GoodIn wsX0_shift wsX0_hoursOnDay := goodIn_r _ [25, 1, 2, 4, 5, 26, 27, 8, 28, 32, 33, 34, 35, 36, 37, 38, 39, 40, 41, 42, 43, 44, 45, 46, 47] (by decide +kernel) (by decide +kernel)
set_option maxRecDepth 20000 in
theorem gX0_shift_X0_hoursOnDay : GoodIn wsX0_shift (wsV RX0 75 RX0 yX0_hoursOnDay wsX0_hoursOnDay) := goodIn_app (goodIn_of _ (by decide +kernel)) ggX0_shift_X0_hoursOnDay
set_option maxRecDepth 20000 in
theorem ggX0_shift_X0_put : GoodIn wsX0_shift wsX0_put := goodIn_r _ [31] (by decide +kernel) (by decide +kernel)
set_option maxRecDepth 20000 in
theorem gX0_shift_X0_put : GoodIn wsX0_shift (va_wsS RX0 59 yX0_put wsX0_put) := goodIn_app (goodIn_of _ (by decide +kernel)) ggX0_shift_X0_put
theorem dX0_shift_0 : decode cX0_shift 0 = .ok (.iload_n 1, 1) := by decide +kernel
theorem dX0_shift_1 : decode cX0_shift 1 = .ok (.bipush 6, 2) := by decide +kernel
theorem dX0_shift_3 : decode cX0_shift 3 = .ok (.invokestatic 63, 3) := by decide +kernel
theorem dX0_shift_6 : decode cX0_shift 6 = .ok (.iload_n 2, 1) := by decide +kernel
theorem dX0_shift_7 : decode cX0_shift 7 = .ok (.iconst 4, 1) := by decide +kernel
theorem dX0_shift_8 : decode cX0_shift 8 = .ok (.invokestatic 63, 3) := by decide +kernel
theorem dX0_shift_11 : decode cX0_shift 11 = .ok (.iload_n 3, 1) := by decide +kernel
theorem dX0_shift_12 : decode cX0_shift 12 = .ok (.iconst 0, 1) := by decide +kernel
theorem dX0_shift_13 : decode cX0_shift 13 = .ok (.sipush 139, 3) := by decide +kernel
theorem dX0_shift_16 : decode cX0_shift 16 = .ok (.invokestatic 67, 3) := by decide +kernel
theorem dX0_shift_19 : decode cX0_shift 19 = .ok (.iload 4, 2) := by decide +kernel
theorem dX0_shift_21 : decode cX0_shift 21 = .ok (.iconst 1, 1) := by decide +kernel
theorem dX0_shift_22 : decode cX0_shift 22 = .ok (.bipush 16, 2) := by decide +kernel
theorem dX0_shift_24 : decode cX0_shift 24 = .ok (.invokestatic 67, 3) := by decide +kernel
theorem dX0_shift_27 : decode cX0_shift 27 = .ok (.aload_n 0, 1) := by decide +kernel
theorem dX0_shift_28 : decode cX0_shift 28 = .ok (.getfield 32, 3) := by decide +kernel
theorem dX0_shift_31 : decode cX0_shift 31 = .ok (.bipush 80, 2) := by decide +kernel
theorem dX0_shift_33 : decode cX0_shift 33 = .ok (.if_icmp .ge 7, 3) := by decide +kernel
theorem dX0_shift_36 : decode cX0_shift 36 = .ok (.iconst 1, 1) := by decide +kernel
theorem dX0_shift_37 : decode cX0_shift 37 = .ok (.goto 4, 3) := by decide +kernel
theorem dX0_shift_40 : decode cX0_shift 40 = .ok (.iconst 0, 1) := by decide +kernel
theorem dX0_shift_41 : decode cX0_shift 41 = .ok (.invokestatic 71, 3) := by decide +kernel
theorem dX0_shift_44 : decode cX0_shift 44 = .ok (.aload_n 0, 1) := by decide +kernel
theorem dX0_shift_45 : decode cX0_shift 45 = .ok (.iload_n 1, 1) := by decide +kernel
theorem dX0_shift_46 : decode cX0_shift 46 = .ok (.iload_n 3, 1) := by decide +kernel
theorem dX0_shift_47 : decode cX0_shift 47 = .ok (.invokevirtual 75, 3) := by decide +kernel
theorem dX0_shift_50 : decode cX0_shift 50 = .ok (.iload 4, 2) := by decide +kernel
theorem dX0_shift_52 : decode cX0_shift 52 = .ok (.iadd, 1) := by decide +kernel
theorem dX0_shift_53 : decode cX0_shift 53 = .ok (.bipush 24, 2) := by decide +kernel
theorem dX0_shift_55 : decode cX0_shift 55 = .ok (.if_icmp .gt 7, 3) := by decide +kernel
theorem dX0_shift_58 : decode cX0_shift 58 = .ok (.iconst 1, 1) := by decide +kernel
theorem dX0_shift_59 : decode cX0_shift 59 = .ok (.goto 4, 3) := by decide +kernel
theorem dX0_shift_62 : decode cX0_shift 62 = .ok (.iconst 0, 1) := by decide +kernel
theorem dX0_shift_63 : decode cX0_shift 63 = .ok (.invokestatic 71, 3) := by decide +kernel
theorem dX0_shift_66 : decode cX0_shift 66 = .ok (.aload_n 0, 1) := by decide +kernel
theorem dX0_shift_67 : decode cX0_shift 67 = .ok (.getfield 32, 3) := by decide +kernel
theorem dX0_shift_70 : decode cX0_shift 70 = .ok (.istore 5, 2) := by decide +kernel
theorem dX0_shift_72 : decode cX0_shift 72 = .ok (.aload_n 0, 1) := by decide +kernel
theorem dX0_shift_73 : decode cX0_shift 73 = .ok (.getfield 35, 3) := by decide +kernel
theorem dX0_shift_76 : decode cX0_shift 76 = .ok (.iload 5, 2) := by decide +kernel
theorem dX0_shift_78 : decode cX0_shift 78 = .ok (.iload_n 1, 1) := by decide +kernel
theorem dX0_shift_79 : decode cX0_shift 79 = .ok (.invokestatic 59, 3) := by decide +kernel
theorem dX0_shift_82 : decode cX0_shift 82 = .ok (.aload_n 0, 1) := by decide +kernel
theorem dX0_shift_83 : decode cX0_shift 83 = .ok (.getfield 38, 3) := by decide +kernel
theorem dX0_shift_86 : decode cX0_shift 86 = .ok (.iload 5, 2) := by decide +kernel
theorem dX0_shift_88 : decode cX0_shift 88 = .ok (.iload_n 2, 1) := by decide +kernel
theorem dX0_shift_89 : decode cX0_shift 89 = .ok (.invokestatic 59, 3) := by decide +kernel
theorem dX0_shift_92 : decode cX0_shift 92 = .ok (.aload_n 0, 1) := by decide +kernel
theorem dX0_shift_93 : decode cX0_shift 93 = .ok (.getfield 41, 3) := by decide +kernel
theorem dX0_shift_96 : decode cX0_shift 96 = .ok (.iload 5, 2) := by decide +kernel
theorem dX0_shift_98 : decode cX0_shift 98 = .ok (.iload_n 3, 1) := by decide +kernel
theorem dX0_shift_99 : decode cX0_shift 99 = .ok (.invokestatic 59, 3) := by decide +kernel
theorem dX0_shift_102 : decode cX0_shift 102 = .ok (.aload_n 0, 1) := by decide +kernel
theorem dX0_shift_103 : decode cX0_shift 103 = .ok (.getfield 44, 3) := by decide +kernel
theorem dX0_shift_106 : decode cX0_shift 106 = .ok (.iload 5, 2) := by decide +kernel
theorem dX0_shift_108 : decode cX0_shift 108 = .ok (.iload 4, 2) := by decide +kernel
theorem dX0_shift_110 : decode cX0_shift 110 = .ok (.invokestatic 59, 3) := by decide +kernel
theorem dX0_shift_113 : decode cX0_shift 113 = .ok (.aload_n 0, 1) := by decide +kernel
theorem dX0_shift_114 : decode cX0_shift 114 = .ok (.iload 5, 2) := by decide +kernel
theorem dX0_shift_116 : decode cX0_shift 116 = .ok (.iconst 1, 1) := by decide +kernel
theorem dX0_shift_117 : decode cX0_shift 117 = .ok (.iadd, 1) := by decide +kernel
theorem dX0_shift_118 : decode cX0_shift 118 = .ok (.putfield 32, 3) := by decide +kernel
theorem dX0_shift_121 : decode cX0_shift 121 = .ok (.iload 5, 2) := by decide +kernel
theorem dX0_shift_123 : decode cX0_shift 123 = .ok (.ireturn, 1) := by decide +kernel
set_option maxRecDepth 20000 in
theorem ggX0_correct_X0_needOneOf : GoodIn wsX0_correct wsX0_needOneOf := goodIn_ca (goodIn_r _ [8, 9, 10] (by decide +kernel) (by decide +kernel)) (goodIn_sub (fun _ h => List.mem_cons_of_mem _ (List.mem_append_left _ (List.mem_append_left _ (List.mem_append_right _ h)))) (by decide +kernel))
set_option maxRecDepth 20000 in
theorem gX0_correct_X0_needOneOf : GoodIn wsX0_correct (va_wsS RX0 63 yX0_needOneOf wsX0_needOneOf) := goodIn_app (goodIn_of _ (by decide +kernel)) ggX0_correct_X0_needOneOf
set_option maxRecDepth 20000 in
theorem ggX0_correct_X0_needRange : GoodIn wsX0_correct wsX0_needRange := goodIn_ca (goodIn_r _ [13, 14, 15] (by decide +kernel) (by decide +kernel)) (goodIn_sub (fun _ h => List.mem_cons_of_mem _ (List.mem_append_left _ (List.mem_append_right _ h))) (by decide +kernel))
set_option maxRecDepth 20000 in
theorem gX0_correct_X0_needRange : GoodIn wsX0_correct (va_wsS RX0 67 yX0_needRange wsX0_needRange) := goodIn_app (goodIn_of _ (by decide +kernel)) ggX0_correct_X0_needRange
set_option maxRecDepth 20000 in
theorem ggX0_correct_X0_at : GoodIn wsX0_correct wsX0_at := goodIn_r _ [18] (by decide +kernel) (by decide +kernel)
set_option maxRecDepth 20000 in
theorem gX0_correct_X0_at : GoodIn wsX0_correct (va_wsS RX0 79 yX0_at wsX0_at) := goodIn_app (goodIn_of _ (by decide +kernel)) ggX0_correct_X0_at
set_option maxRecDepth 20000 in
theorem ggX0_correct_X0_hoursOnDay : GoodIn wsX0_correct wsX0_hoursOnDay := goodIn_r _ [22, 1, 2, 4, 3, 16, 17, 7, 18, 36, 37, 38, 39, 40, 41, 42, 43, 44, 45, 46, 47, 48, 49, 50, 51] (by decide +kernel) (by decide +kernel)
set_option maxRecDepth 20000 in
theorem gX0_correct_X0_hoursOnDay : GoodIn wsX0_correct (wsV RX0 75 RX0 yX0_hoursOnDay wsX0_hoursOnDay) := goodIn_app (goodIn_of _ (by decide +kernel)) ggX0_correct_X0_hoursOnDay
set_option maxRecDepth 20000 in
theorem ggX0_correct_X0_needState : GoodIn wsX0_correct wsX0_needState := goodIn_ca (goodIn_r _ [25, 26, 27] (by decide +kernel) (by decide +kernel)) (goodIn_sub (fun _ h => List.mem_cons_of_mem _ (List.mem_append_right _ h)) (by decide +kernel))
set_option maxRecDepth 20000 in
theorem gX0_correct_X0_needState : GoodIn wsX0_correct (va_wsS RX0 71 yX0_needState wsX0_needState) := goodIn_app (goodIn_of _ (by decide +kernel)) ggX0_correct_X0_needState
set_option maxRecDepth 20000 in
theorem ggX0_correct_X0_minutesLeft : GoodIn wsX0_correct wsX0_minutesLeft := goodIn_r _ [31, 1, 2, 3, 32, 16, 17, 7, 18, 36, 37, 38, 39, 40, 41, 42, 43, 44, 45, 46, 47, 48, 49, 50, 51] (by decide +kernel) (by decide +kernel)
set_option maxRecDepth 20000 in
theorem gX0_correct_X0_minutesLeft : GoodIn wsX0_correct (wsV RX0 83 RX0 yX0_minutesLeft wsX0_minutesLeft) := goodIn_app (goodIn_of _ (by decide +kernel)) ggX0_correct_X0_minutesLeft
set_option maxRecDepth 20000 in
theorem ggX0_correct_X0_put : GoodIn wsX0_correct wsX0_put := goodIn_r _ [35] (by decide +kernel) (by decide +kernel)
set_option maxRecDepth 20000 in
theorem gX0_correct_X0_put : GoodIn wsX0_correct (va_wsS RX0 59 yX0_put wsX0_put) := goodIn_app (goodIn_of _ (by decide +kernel)) ggX0_correct_X0_put
theorem dX0_correct_0 : decode cX0_correct 0 = .ok (.iload_n 1, 1) := by decide +kernel
theorem dX0_correct_1 : decode cX0_correct 1 = .ok (.aload_n 0, 1) := by decide +kernel
theorem dX0_correct_2 : decode cX0_correct 2 = .ok (.getfield 32, 3) := by decide +kernel
theorem dX0_correct_5 : decode cX0_correct 5 = .ok (.invokestatic 63, 3) := by decide +kernel
theorem dX0_correct_8 : decode cX0_correct 8 = .ok (.iload_n 2, 1) := by decide +kernel
theorem dX0_correct_9 : decode cX0_correct 9 = .ok (.iconst 0, 1) := by decide +kernel
theorem dX0_correct_10 : decode cX0_correct 10 = .ok (.bipush 16, 2) := by decide +kernel
theorem dX0_correct_12 : decode cX0_correct 12 = .ok (.invokestatic 67, 3) := by decide +kernel
theorem dX0_correct_15 : decode cX0_correct 15 = .ok (.aload_n 0, 1) := by decide +kernel
theorem dX0_correct_16 : decode cX0_correct 16 = .ok (.getfield 35, 3) := by decide +kernel
theorem dX0_correct_19 : decode cX0_correct 19 = .ok (.iload_n 1, 1) := by decide +kernel
theorem dX0_correct_20 : decode cX0_correct 20 = .ok (.invokestatic 79, 3) := by decide +kernel
theorem dX0_correct_23 : decode cX0_correct 23 = .ok (.istore_n 3, 1) := by decide +kernel
theorem dX0_correct_24 : decode cX0_correct 24 = .ok (.aload_n 0, 1) := by decide +kernel
theorem dX0_correct_25 : decode cX0_correct 25 = .ok (.getfield 44, 3) := by decide +kernel
theorem dX0_correct_28 : decode cX0_correct 28 = .ok (.iload_n 1, 1) := by decide +kernel
theorem dX0_correct_29 : decode cX0_correct 29 = .ok (.invokestatic 79, 3) := by decide +kernel
theorem dX0_correct_32 : decode cX0_correct 32 = .ok (.istore 4, 2) := by decide +kernel
theorem dX0_correct_34 : decode cX0_correct 34 = .ok (.iload_n 2, 1) := by decide +kernel
theorem dX0_correct_35 : decode cX0_correct 35 = .ok (.iload 4, 2) := by decide +kernel
theorem dX0_correct_37 : decode cX0_correct 37 = .ok (.isub, 1) := by decide +kernel
theorem dX0_correct_38 : decode cX0_correct 38 = .ok (.istore 5, 2) := by decide +kernel
theorem dX0_correct_40 : decode cX0_correct 40 = .ok (.aload_n 0, 1) := by decide +kernel
theorem dX0_correct_41 : decode cX0_correct 41 = .ok (.iload_n 3, 1) := by decide +kernel
theorem dX0_correct_42 : decode cX0_correct 42 = .ok (.aload_n 0, 1) := by decide +kernel
theorem dX0_correct_43 : decode cX0_correct 43 = .ok (.getfield 41, 3) := by decide +kernel
theorem dX0_correct_46 : decode cX0_correct 46 = .ok (.iload_n 1, 1) := by decide +kernel
theorem dX0_correct_47 : decode cX0_correct 47 = .ok (.invokestatic 79, 3) := by decide +kernel
theorem dX0_correct_50 : decode cX0_correct 50 = .ok (.invokevirtual 75, 3) := by decide +kernel
theorem dX0_correct_53 : decode cX0_correct 53 = .ok (.iload 5, 2) := by decide +kernel
theorem dX0_correct_55 : decode cX0_correct 55 = .ok (.iadd, 1) := by decide +kernel
theorem dX0_correct_56 : decode cX0_correct 56 = .ok (.bipush 24, 2) := by decide +kernel
theorem dX0_correct_58 : decode cX0_correct 58 = .ok (.if_icmp .gt 7, 3) := by decide +kernel
theorem dX0_correct_61 : decode cX0_correct 61 = .ok (.iconst 1, 1) := by decide +kernel
theorem dX0_correct_62 : decode cX0_correct 62 = .ok (.goto 4, 3) := by decide +kernel
theorem dX0_correct_65 : decode cX0_correct 65 = .ok (.iconst 0, 1) := by decide +kernel
theorem dX0_correct_66 : decode cX0_correct 66 = .ok (.invokestatic 71, 3) := by decide +kernel
theorem dX0_correct_69 : decode cX0_correct 69 = .ok (.aload_n 0, 1) := by decide +kernel
theorem dX0_correct_70 : decode cX0_correct 70 = .ok (.iload_n 3, 1) := by decide +kernel
theorem dX0_correct_71 : decode cX0_correct 71 = .ok (.invokevirtual 83, 3) := by decide +kernel
theorem dX0_correct_74 : decode cX0_correct 74 = .ok (.bipush 7, 2) := by decide +kernel
theorem dX0_correct_76 : decode cX0_correct 76 = .ok (.iload 5, 2) := by decide +kernel
theorem dX0_correct_78 : decode cX0_correct 78 = .ok (.imul, 1) := by decide +kernel
theorem dX0_correct_79 : decode cX0_correct 79 = .ok (.iadd, 1) := by decide +kernel
theorem dX0_correct_80 : decode cX0_correct 80 = .ok (.ifCond .lt 7, 3) := by decide +kernel
theorem dX0_correct_83 : decode cX0_correct 83 = .ok (.iconst 1, 1) := by decide +kernel
theorem dX0_correct_84 : decode cX0_correct 84 = .ok (.goto 4, 3) := by decide +kernel
theorem dX0_correct_87 : decode cX0_correct 87 = .ok (.iconst 0, 1) := by decide +kernel
theorem dX0_correct_88 : decode cX0_correct 88 = .ok (.invokestatic 71, 3) := by decide +kernel
theorem dX0_correct_91 : decode cX0_correct 91 = .ok (.aload_n 0, 1) := by decide +kernel
theorem dX0_correct_92 : decode cX0_correct 92 = .ok (.getfield 44, 3) := by decide +kernel
theorem dX0_correct_95 : decode cX0_correct 95 = .ok (.iload_n 1, 1) := by decide +kernel
theorem dX0_correct_96 : decode cX0_correct 96 = .ok (.iload_n 2, 1) := by decide +kernel
theorem dX0_correct_97 : decode cX0_correct 97 = .ok (.invokestatic 59, 3) := by decide +kernel
theorem dX0_correct_100 : decode cX0_correct 100 = .ok (.iload 4, 2) := by decide +kernel
theorem dX0_correct_102 : decode cX0_correct 102 = .ok (.ireturn, 1) := by decide +kernel
theorem dX0_shifts_0 : decode cX0_shifts 0 = .ok (.aload_n 0, 1) := by decide +kernel
theorem dX0_shifts_1 : decode cX0_shifts 1 = .ok (.getfield 32, 3) := by decide +kernel
theorem dX0_shifts_4 : decode cX0_shifts 4 = .ok (.ireturn, 1) := by decide +kernel
set_option maxRecDepth 20000 in
theorem ggX0_hours_X0_needOneOf : GoodIn wsX0_hours wsX0_needOneOf := goodIn_ca (goodIn_r _ [6, 7, 8] (by decide +kernel) (by decide +kernel)) (goodIn_sub (fun _ h => List.mem_cons_of_mem _ (List.mem_append_right _ h)) (by decide +kernel))
set_option maxRecDepth 20000 in
theorem gX0_hours_X0_needOneOf : GoodIn wsX0_hours (va_wsS RX0 63 yX0_needOneOf wsX0_needOneOf) := goodIn_app (goodIn_of _ (by decide +kernel)) ggX0_hours_X0_needOneOf
set_option maxRecDepth 20000 in
theorem ggX0_hours_X0_isOfWorker : GoodIn wsX0_hours wsX0_isOfWorker := goodIn_r _ [12, 13, 14, 15, 16, 5, 17, 18, 19, 20, 21, 22, 23, 24, 25, 26, 27, 28, 29, 30, 31, 32, 33, 34, 35, 36] (by decide +kernel) (by decide +kernel)
set_option maxRecDepth 20000 in
theorem gX0_hours_X0_isOfWorker : GoodIn wsX0_hours (wsV RX0 87 RX0 yX0_isOfWorker wsX0_isOfWorker) := goodIn_app (goodIn_of _ (by decide +kernel)) ggX0_hours_X0_isOfWorker
set_option maxRecDepth 20000 in
theorem ggX0_hours_X0_at : GoodIn wsX0_hours wsX0_at := goodIn_r _ [17] (by decide +kernel) (by decide +kernel)
set_option maxRecDepth 20000 in
theorem gX0_hours_X0_at : GoodIn wsX0_hours (va_wsS RX0 79 yX0_at wsX0_at) := goodIn_app (goodIn_of _ (by decide +kernel)) ggX0_hours_X0_at
theorem dX0_hours_0 : decode cX0_hours 0 = .ok (.iload_n 1, 1) := by decide +kernel
theorem dX0_hours_1 : decode cX0_hours 1 = .ok (.bipush 6, 2) := by decide +kernel
theorem dX0_hours_3 : decode cX0_hours 3 = .ok (.invokestatic 63, 3) := by decide +kernel
theorem dX0_hours_6 : decode cX0_hours 6 = .ok (.iload_n 2, 1) := by decide +kernel
theorem dX0_hours_7 : decode cX0_hours 7 = .ok (.bipush 20, 2) := by decide +kernel
theorem dX0_hours_9 : decode cX0_hours 9 = .ok (.invokestatic 63, 3) := by decide +kernel
theorem dX0_hours_12 : decode cX0_hours 12 = .ok (.iconst 0, 1) := by decide +kernel
theorem dX0_hours_13 : decode cX0_hours 13 = .ok (.istore_n 3, 1) := by decide +kernel
theorem dX0_hours_14 : decode cX0_hours 14 = .ok (.iconst 0, 1) := by decide +kernel
theorem dX0_hours_15 : decode cX0_hours 15 = .ok (.istore 4, 2) := by decide +kernel
theorem dX0_hours_17 : decode cX0_hours 17 = .ok (.iload 4, 2) := by decide +kernel
theorem dX0_hours_19 : decode cX0_hours 19 = .ok (.aload_n 0, 1) := by decide +kernel
theorem dX0_hours_20 : decode cX0_hours 20 = .ok (.getfield 32, 3) := by decide +kernel
theorem dX0_hours_23 : decode cX0_hours 23 = .ok (.if_icmp .ge 32, 3) := by decide +kernel
theorem dX0_hours_26 : decode cX0_hours 26 = .ok (.aload_n 0, 1) := by decide +kernel
theorem dX0_hours_27 : decode cX0_hours 27 = .ok (.iload 4, 2) := by decide +kernel
theorem dX0_hours_29 : decode cX0_hours 29 = .ok (.iload_n 1, 1) := by decide +kernel
theorem dX0_hours_30 : decode cX0_hours 30 = .ok (.iload_n 2, 1) := by decide +kernel
theorem dX0_hours_31 : decode cX0_hours 31 = .ok (.invokevirtual 87, 3) := by decide +kernel
theorem dX0_hours_34 : decode cX0_hours 34 = .ok (.ifCond .eq 15, 3) := by decide +kernel
theorem dX0_hours_37 : decode cX0_hours 37 = .ok (.iload_n 3, 1) := by decide +kernel
theorem dX0_hours_38 : decode cX0_hours 38 = .ok (.aload_n 0, 1) := by decide +kernel
theorem dX0_hours_39 : decode cX0_hours 39 = .ok (.getfield 44, 3) := by decide +kernel
theorem dX0_hours_42 : decode cX0_hours 42 = .ok (.iload 4, 2) := by decide +kernel
theorem dX0_hours_44 : decode cX0_hours 44 = .ok (.invokestatic 79, 3) := by decide +kernel
theorem dX0_hours_47 : decode cX0_hours 47 = .ok (.iadd, 1) := by decide +kernel
theorem dX0_hours_48 : decode cX0_hours 48 = .ok (.istore_n 3, 1) := by decide +kernel
theorem dX0_hours_49 : decode cX0_hours 49 = .ok (.iinc 4 1, 3) := by decide +kernel
theorem dX0_hours_52 : decode cX0_hours 52 = .ok (.goto (-35), 3) := by decide +kernel
theorem dX0_hours_55 : decode cX0_hours 55 = .ok (.iload_n 3, 1) := by decide +kernel
theorem dX0_hours_56 : decode cX0_hours 56 = .ok (.ireturn, 1) := by decide +kernel
set_option maxRecDepth 20000 in
theorem ggX0_overtime_X0_needOneOf : GoodIn wsX0_overtime wsX0_needOneOf := goodIn_ca (goodIn_r _ [5, 6, 7] (by decide +kernel) (by decide +kernel)) (goodIn_sub (fun _ h => List.mem_cons_of_mem _ (List.mem_append_right _ h)) (by decide +kernel))
set_option maxRecDepth 20000 in
theorem gX0_overtime_X0_needOneOf : GoodIn wsX0_overtime (va_wsS RX0 63 yX0_needOneOf wsX0_needOneOf) := goodIn_app (goodIn_of _ (by decide +kernel)) ggX0_overtime_X0_needOneOf
set_option maxRecDepth 20000 in
theorem ggX0_overtime_X0_overtimeHours : GoodIn wsX0_overtime wsX0_overtimeHours := goodIn_r _ [11, 12, 13, 14, 15, 16, 17, 18, 19, 20, 21, 22, 23, 24, 4, 25, 26, 1, 27, 28, 29, 30, 31, 32, 33, 34, 35, 36, 37, 38, 39, 40, 41, 42, 43, 44, 45, 46, 47, 48, 49, 50, 51, 52, 53, 54, 55, 56, 57, 58, 59, 60, 61, 62] (by decide +kernel) (by decide +kernel)
set_option maxRecDepth 20000 in
theorem gX0_overtime_X0_overtimeHours : GoodIn wsX0_overtime (wsV RX0 91 RX0 yX0_overtimeHours wsX0_overtimeHours) := goodIn_app (goodIn_of _ (by decide +kernel)) ggX0_overtime_X0_overtimeHours
theorem dX0_overtime_0 : decode cX0_overtime 0 = .ok (.iload_n 1, 1) := by decide +kernel
theorem dX0_overtime_1 : decode cX0_overtime 1 = .ok (.aload_n 0, 1) := by decide +kernel
theorem dX0_overtime_2 : decode cX0_overtime 2 = .ok (.getfield 32, 3) := by decide +kernel
theorem dX0_overtime_5 : decode cX0_overtime 5 = .ok (.invokestatic 63, 3) := by decide +kernel
theorem dX0_overtime_8 : decode cX0_overtime 8 = .ok (.aload_n 0, 1) := by decide +kernel
theorem dX0_overtime_9 : decode cX0_overtime 9 = .ok (.iload_n 1, 1) := by decide +kernel
theorem dX0_overtime_10 : decode cX0_overtime 10 = .ok (.invokevirtual 91, 3) := by decide +kernel
theorem dX0_overtime_13 : decode cX0_overtime 13 = .ok (.ireturn, 1) := by decide +kernel
set_option maxRecDepth 20000 in
theorem ggX0_hasEqual_X0_needOneOf : GoodIn wsX0_hasEqual wsX0_needOneOf := goodIn_ca (goodIn_r _ [4, 5, 6] (by decide +kernel) (by decide +kernel)) (goodIn_sub (fun _ h => List.mem_cons_of_mem _ (List.mem_append_right _ h)) (by decide +kernel))
set_option maxRecDepth 20000 in
theorem gX0_hasEqual_X0_needOneOf : GoodIn wsX0_hasEqual (va_wsS RX0 63 yX0_needOneOf wsX0_needOneOf) := goodIn_app (goodIn_of _ (by decide +kernel)) ggX0_hasEqual_X0_needOneOf
set_option maxRecDepth 20000 in
theorem ggX0_hasEqual_X0_isEqual : GoodIn wsX0_hasEqual wsX0_isEqual := goodIn_r _ [10, 11, 12, 13, 14, 15, 3, 16, 17, 18, 19, 20, 21, 22, 23, 24, 25, 26, 27, 28, 29, 30, 31, 32, 33, 34, 35, 36, 37, 38, 39, 40, 41, 42, 43] (by decide +kernel) (by decide +kernel)
set_option maxRecDepth 20000 in
theorem gX0_hasEqual_X0_isEqual : GoodIn wsX0_hasEqual (wsV RX0 94 RX0 yX0_isEqual wsX0_isEqual) := goodIn_app (goodIn_of _ (by decide +kernel)) ggX0_hasEqual_X0_isEqual
theorem dX0_hasEqual_0 : decode cX0_hasEqual 0 = .ok (.iload_n 1, 1) := by decide +kernel
theorem dX0_hasEqual_1 : decode cX0_hasEqual 1 = .ok (.bipush 6, 2) := by decide +kernel
theorem dX0_hasEqual_3 : decode cX0_hasEqual 3 = .ok (.invokestatic 63, 3) := by decide +kernel
theorem dX0_hasEqual_6 : decode cX0_hasEqual 6 = .ok (.iload_n 2, 1) := by decide +kernel
theorem dX0_hasEqual_7 : decode cX0_hasEqual 7 = .ok (.iconst 4, 1) := by decide +kernel
theorem dX0_hasEqual_8 : decode cX0_hasEqual 8 = .ok (.invokestatic 63, 3) := by decide +kernel
theorem dX0_hasEqual_11 : decode cX0_hasEqual 11 = .ok (.iload_n 3, 1) := by decide +kernel
theorem dX0_hasEqual_12 : decode cX0_hasEqual 12 = .ok (.bipush 20, 2) := by decide +kernel
theorem dX0_hasEqual_14 : decode cX0_hasEqual 14 = .ok (.invokestatic 63, 3) := by decide +kernel
theorem dX0_hasEqual_17 : decode cX0_hasEqual 17 = .ok (.aload_n 0, 1) := by decide +kernel
theorem dX0_hasEqual_18 : decode cX0_hasEqual 18 = .ok (.iload_n 1, 1) := by decide +kernel
theorem dX0_hasEqual_19 : decode cX0_hasEqual 19 = .ok (.iload_n 2, 1) := by decide +kernel
theorem dX0_hasEqual_20 : decode cX0_hasEqual 20 = .ok (.iload_n 3, 1) := by decide +kernel
theorem dX0_hasEqual_21 : decode cX0_hasEqual 21 = .ok (.invokevirtual 94, 3) := by decide +kernel
theorem dX0_hasEqual_24 : decode cX0_hasEqual 24 = .ok (.ireturn, 1) := by decide +kernel
set_option maxRecDepth 20000 in
theorem ggX0_payOf_X0_needOneOf : GoodIn wsX0_payOf wsX0_needOneOf := goodIn_ca (goodIn_r _ [5, 6, 7] (by decide +kernel) (by decide +kernel)) (goodIn_sub (fun _ h => List.mem_cons_of_mem _ (List.mem_append_right _ h)) (by decide +kernel))
set_option maxRecDepth 20000 in
theorem gX0_payOf_X0_needOneOf : GoodIn wsX0_payOf (va_wsS RX0 63 yX0_needOneOf wsX0_needOneOf) := goodIn_app (goodIn_of _ (by decide +kernel)) ggX0_payOf_X0_needOneOf
set_option maxRecDepth 20000 in
theorem ggX0_payOf_X0_shiftPay : GoodIn wsX0_payOf wsX0_shiftPay := goodIn_r _ [11, 12, 13, 14, 15, 16, 17, 18, 4, 19, 20, 21, 22, 23, 24, 25, 26, 27, 28, 29, 30, 31, 1, 32, 33, 34, 35, 36, 37, 38, 39, 40, 41, 42, 43, 44, 45, 46, 47, 48, 49, 50, 51, 52, 53, 54, 55, 56, 57, 58, 59, 60, 61, 62, 63, 64, 65, 66, 67, 68, 69, 70, 71, 72, 73, 74, 75, 76, 77, 78, 79, 80, 81, 82, 83] (by decide +kernel) (by decide +kernel)
set_option maxRecDepth 20000 in
theorem gX0_payOf_X0_shiftPay : GoodIn wsX0_payOf (wsV RX0 97 RX0 yX0_shiftPay wsX0_shiftPay) := goodIn_app (goodIn_of _ (by decide +kernel)) ggX0_payOf_X0_shiftPay
theorem dX0_payOf_0 : decode cX0_payOf 0 = .ok (.iload_n 1, 1) := by decide +kernel
theorem dX0_payOf_1 : decode cX0_payOf 1 = .ok (.aload_n 0, 1) := by decide +kernel
theorem dX0_payOf_2 : decode cX0_payOf 2 = .ok (.getfield 32, 3) := by decide +kernel
theorem dX0_payOf_5 : decode cX0_payOf 5 = .ok (.invokestatic 63, 3) := by decide +kernel
theorem dX0_payOf_8 : decode cX0_payOf 8 = .ok (.aload_n 0, 1) := by decide +kernel
theorem dX0_payOf_9 : decode cX0_payOf 9 = .ok (.iload_n 1, 1) := by decide +kernel
theorem dX0_payOf_10 : decode cX0_payOf 10 = .ok (.invokevirtual 97, 3) := by decide +kernel
theorem dX0_payOf_13 : decode cX0_payOf 13 = .ok (.ireturn, 1) := by decide +kernel
set_option maxRecDepth 20000 in
theorem ggX0_chargeOf_X0_needOneOf : GoodIn wsX0_chargeOf wsX0_needOneOf := goodIn_ca (goodIn_r _ [7, 8, 9] (by decide +kernel) (by decide +kernel)) (goodIn_sub (fun _ h => List.mem_cons_of_mem _ (List.mem_append_right _ h)) (by decide +kernel))
set_option maxRecDepth 20000 in
theorem gX0_chargeOf_X0_needOneOf : GoodIn wsX0_chargeOf (va_wsS RX0 63 yX0_needOneOf wsX0_needOneOf) := goodIn_app (goodIn_of _ (by decide +kernel)) ggX0_chargeOf_X0_needOneOf
set_option maxRecDepth 20000 in
theorem ggX0_chargeOf_X0_at : GoodIn wsX0_chargeOf wsX0_at := goodIn_r _ [12] (by decide +kernel) (by decide +kernel)
set_option maxRecDepth 20000 in
theorem gX0_chargeOf_X0_at : GoodIn wsX0_chargeOf (va_wsS RX0 79 yX0_at wsX0_at) := goodIn_app (goodIn_of _ (by decide +kernel)) ggX0_chargeOf_X0_at
set_option maxRecDepth 20000 in
theorem ggX0_chargeOf_X0_weekOf : GoodIn wsX0_chargeOf wsX0_weekOf := goodIn_r _ [15] (by decide +kernel) (by decide +kernel)
set_option maxRecDepth 20000 in
theorem gX0_chargeOf_X0_weekOf : GoodIn wsX0_chargeOf (va_wsS RX0 100 yX0_weekOf wsX0_weekOf) := goodIn_app (goodIn_of _ (by decide +kernel)) ggX0_chargeOf_X0_weekOf
set_option maxRecDepth 20000 in
theorem ggX0_chargeOf_X0_marginAt : GoodIn wsX0_chargeOf wsX0_marginAt := goodIn_r _ [19, 20, 21, 22, 23, 24, 25, 6, 26, 1, 27, 28, 29, 30, 31, 2, 3, 10, 11, 12, 13, 14, 15, 86, 87, 88, 89, 90, 91, 92, 93, 94, 95, 96, 97, 98, 99, 100, 101] (by decide +kernel) (by decide +kernel)
set_option maxRecDepth 20000 in
theorem gX0_chargeOf_X0_marginAt : GoodIn wsX0_chargeOf (wsV RX0 103 RX0 yX0_marginAt wsX0_marginAt) := goodIn_app (goodIn_of _ (by decide +kernel)) ggX0_chargeOf_X0_marginAt
set_option maxRecDepth 20000 in
theorem ggX0_chargeOf_X0_shiftPay : GoodIn wsX0_chargeOf wsX0_shiftPay := goodIn_r _ [35, 27, 36, 2, 3, 37, 38, 39, 6, 40, 41, 42, 43, 44, 45, 46, 47, 48, 49, 50, 51, 52, 1, 10, 11, 12, 13, 14, 15, 53, 54, 55, 56, 57, 58, 59, 60, 61, 62, 63, 64, 65, 66, 67, 68, 69, 70, 71, 72, 73, 74, 75, 76, 77, 78, 79, 80, 81, 82, 86, 87, 88, 89, 90, 91, 92, 93, 94, 95, 96, 97, 98, 99, 100, 101] (by decide +kernel) (by decide +kernel)
set_option maxRecDepth 20000 in
theorem gX0_chargeOf_X0_shiftPay : GoodIn wsX0_chargeOf (wsV RX0 97 RX0 yX0_shiftPay wsX0_shiftPay) := goodIn_app (goodIn_of _ (by decide +kernel)) ggX0_chargeOf_X0_shiftPay
set_option maxRecDepth 20000 in
theorem ggX0_chargeOf_X0_chargeFor : GoodIn wsX0_chargeOf wsX0_chargeFor := goodIn_r _ [85] (by decide +kernel) (by decide +kernel)
set_option maxRecDepth 20000 in
theorem gX0_chargeOf_X0_chargeFor : GoodIn wsX0_chargeOf (va_wsS RX0 106 yX0_chargeFor wsX0_chargeFor) := goodIn_app (goodIn_of _ (by decide +kernel)) ggX0_chargeOf_X0_chargeFor
theorem dX0_chargeOf_0 : decode cX0_chargeOf 0 = .ok (.iload_n 1, 1) := by decide +kernel
theorem dX0_chargeOf_1 : decode cX0_chargeOf 1 = .ok (.aload_n 0, 1) := by decide +kernel
theorem dX0_chargeOf_2 : decode cX0_chargeOf 2 = .ok (.getfield 32, 3) := by decide +kernel
theorem dX0_chargeOf_5 : decode cX0_chargeOf 5 = .ok (.invokestatic 63, 3) := by decide +kernel
theorem dX0_chargeOf_8 : decode cX0_chargeOf 8 = .ok (.aload_n 0, 1) := by decide +kernel
theorem dX0_chargeOf_9 : decode cX0_chargeOf 9 = .ok (.aload_n 0, 1) := by decide +kernel
theorem dX0_chargeOf_10 : decode cX0_chargeOf 10 = .ok (.getfield 38, 3) := by decide +kernel
theorem dX0_chargeOf_13 : decode cX0_chargeOf 13 = .ok (.iload_n 1, 1) := by decide +kernel
theorem dX0_chargeOf_14 : decode cX0_chargeOf 14 = .ok (.invokestatic 79, 3) := by decide +kernel
theorem dX0_chargeOf_17 : decode cX0_chargeOf 17 = .ok (.aload_n 0, 1) := by decide +kernel
theorem dX0_chargeOf_18 : decode cX0_chargeOf 18 = .ok (.getfield 41, 3) := by decide +kernel
theorem dX0_chargeOf_21 : decode cX0_chargeOf 21 = .ok (.iload_n 1, 1) := by decide +kernel
theorem dX0_chargeOf_22 : decode cX0_chargeOf 22 = .ok (.invokestatic 79, 3) := by decide +kernel
theorem dX0_chargeOf_25 : decode cX0_chargeOf 25 = .ok (.invokestatic 100, 3) := by decide +kernel
theorem dX0_chargeOf_28 : decode cX0_chargeOf 28 = .ok (.invokevirtual 103, 3) := by decide +kernel
theorem dX0_chargeOf_31 : decode cX0_chargeOf 31 = .ok (.istore_n 2, 1) := by decide +kernel
theorem dX0_chargeOf_32 : decode cX0_chargeOf 32 = .ok (.aload_n 0, 1) := by decide +kernel
theorem dX0_chargeOf_33 : decode cX0_chargeOf 33 = .ok (.iload_n 1, 1) := by decide +kernel
theorem dX0_chargeOf_34 : decode cX0_chargeOf 34 = .ok (.invokevirtual 97, 3) := by decide +kernel
theorem dX0_chargeOf_37 : decode cX0_chargeOf 37 = .ok (.iload_n 2, 1) := by decide +kernel
theorem dX0_chargeOf_38 : decode cX0_chargeOf 38 = .ok (.invokestatic 106, 3) := by decide +kernel
theorem dX0_chargeOf_41 : decode cX0_chargeOf 41 = .ok (.ireturn, 1) := by decide +kernel
set_option maxRecDepth 20000 in
theorem ggX0_pay_X0_needOneOf : GoodIn wsX0_pay wsX0_needOneOf := goodIn_ca (goodIn_r _ [4, 5, 6] (by decide +kernel) (by decide +kernel)) (goodIn_sub (fun _ h => List.mem_cons_of_mem _ (List.mem_append_right _ h)) (by decide +kernel))
set_option maxRecDepth 20000 in
theorem gX0_pay_X0_needOneOf : GoodIn wsX0_pay (va_wsS RX0 63 yX0_needOneOf wsX0_needOneOf) := goodIn_app (goodIn_of _ (by decide +kernel)) ggX0_pay_X0_needOneOf
set_option maxRecDepth 20000 in
theorem ggX0_pay_X0_weekPay : GoodIn wsX0_pay wsX0_weekPay := goodIn_r _ [10, 11, 12, 13, 14, 3, 15, 16, 17, 18, 19, 20, 21, 22, 23, 24, 25, 26, 27, 28, 29, 30, 31, 32, 33, 34, 35, 36, 37, 38, 39, 40, 41, 42, 43, 44, 45, 46, 47, 48, 49, 50, 51, 52, 53, 54, 55, 56, 57, 58, 59, 60, 61, 62, 63, 64, 65, 66, 67, 68, 69, 70, 71, 72, 73, 74, 75, 76, 77, 78, 79, 80, 81, 82, 83, 84, 85, 86, 87] (by decide +kernel) (by decide +kernel)
set_option maxRecDepth 20000 in
theorem gX0_pay_X0_weekPay : GoodIn wsX0_pay (wsV RX0 109 RX0 yX0_weekPay wsX0_weekPay) := goodIn_app (goodIn_of _ (by decide +kernel)) ggX0_pay_X0_weekPay
theorem dX0_pay_0 : decode cX0_pay 0 = .ok (.iload_n 1, 1) := by decide +kernel
theorem dX0_pay_1 : decode cX0_pay 1 = .ok (.bipush 6, 2) := by decide +kernel
theorem dX0_pay_3 : decode cX0_pay 3 = .ok (.invokestatic 63, 3) := by decide +kernel
theorem dX0_pay_6 : decode cX0_pay 6 = .ok (.iload_n 2, 1) := by decide +kernel
theorem dX0_pay_7 : decode cX0_pay 7 = .ok (.bipush 20, 2) := by decide +kernel
theorem dX0_pay_9 : decode cX0_pay 9 = .ok (.invokestatic 63, 3) := by decide +kernel
theorem dX0_pay_12 : decode cX0_pay 12 = .ok (.aload_n 0, 1) := by decide +kernel
theorem dX0_pay_13 : decode cX0_pay 13 = .ok (.iload_n 1, 1) := by decide +kernel
theorem dX0_pay_14 : decode cX0_pay 14 = .ok (.iload_n 2, 1) := by decide +kernel
theorem dX0_pay_15 : decode cX0_pay 15 = .ok (.invokevirtual 109, 3) := by decide +kernel
theorem dX0_pay_18 : decode cX0_pay 18 = .ok (.ireturn, 1) := by decide +kernel
set_option maxRecDepth 20000 in
theorem ggX0_payByHours_X0_needOneOf : GoodIn wsX0_payByHours wsX0_needOneOf := goodIn_ca (goodIn_r _ [9, 10, 11] (by decide +kernel) (by decide +kernel)) (goodIn_sub (fun _ h => List.mem_cons_of_mem _ (List.mem_append_right _ h)) (by decide +kernel))
set_option maxRecDepth 20000 in
theorem gX0_payByHours_X0_needOneOf : GoodIn wsX0_payByHours (va_wsS RX0 63 yX0_needOneOf wsX0_needOneOf) := goodIn_app (goodIn_of _ (by decide +kernel)) ggX0_payByHours_X0_needOneOf
set_option maxRecDepth 20000 in
theorem ggX0_payByHours_X0_at : GoodIn wsX0_payByHours wsX0_at := goodIn_r _ [14] (by decide +kernel) (by decide +kernel)
set_option maxRecDepth 20000 in
theorem gX0_payByHours_X0_at : GoodIn wsX0_payByHours (va_wsS RX0 79 yX0_at wsX0_at) := goodIn_app (goodIn_of _ (by decide +kernel)) ggX0_payByHours_X0_at
set_option maxRecDepth 20000 in
theorem ggX0_payByHours_X0_rateThere : GoodIn wsX0_payByHours wsX0_rateThere := goodIn_r _ [18, 19, 20, 21, 22, 23, 8, 24, 25, 26, 27, 28, 29, 30, 1, 2, 4, 5, 3, 12, 13, 14, 31, 32, 33, 34, 35, 36, 37, 38, 39, 40, 41, 42, 43, 44, 45, 46, 47, 48, 49] (by decide +kernel) (by decide +kernel)
set_option maxRecDepth 20000 in
theorem gX0_payByHours_X0_rateThere : GoodIn wsX0_payByHours (wsV RX0 112 RX0 yX0_rateThere wsX0_rateThere) := goodIn_app (goodIn_of _ (by decide +kernel)) ggX0_payByHours_X0_rateThere
theorem dX0_payByHours_0 : decode cX0_payByHours 0 = .ok (.iload_n 1, 1) := by decide +kernel
theorem dX0_payByHours_1 : decode cX0_payByHours 1 = .ok (.bipush 6, 2) := by decide +kernel
theorem dX0_payByHours_3 : decode cX0_payByHours 3 = .ok (.invokestatic 63, 3) := by decide +kernel
theorem dX0_payByHours_6 : decode cX0_payByHours 6 = .ok (.iload_n 2, 1) := by decide +kernel
theorem dX0_payByHours_7 : decode cX0_payByHours 7 = .ok (.bipush 20, 2) := by decide +kernel
theorem dX0_payByHours_9 : decode cX0_payByHours 9 = .ok (.invokestatic 63, 3) := by decide +kernel
theorem dX0_payByHours_12 : decode cX0_payByHours 12 = .ok (.iconst 0, 1) := by decide +kernel
theorem dX0_payByHours_13 : decode cX0_payByHours 13 = .ok (.istore_n 3, 1) := by decide +kernel
theorem dX0_payByHours_14 : decode cX0_payByHours 14 = .ok (.iconst 0, 1) := by decide +kernel
theorem dX0_payByHours_15 : decode cX0_payByHours 15 = .ok (.istore 4, 2) := by decide +kernel
theorem dX0_payByHours_17 : decode cX0_payByHours 17 = .ok (.iconst 0, 1) := by decide +kernel
theorem dX0_payByHours_18 : decode cX0_payByHours 18 = .ok (.istore 5, 2) := by decide +kernel
theorem dX0_payByHours_20 : decode cX0_payByHours 20 = .ok (.iload 5, 2) := by decide +kernel
theorem dX0_payByHours_22 : decode cX0_payByHours 22 = .ok (.bipush 7, 2) := by decide +kernel
theorem dX0_payByHours_24 : decode cX0_payByHours 24 = .ok (.if_icmp .ge 161, 3) := by decide +kernel
theorem dX0_payByHours_27 : decode cX0_payByHours 27 = .ok (.iload_n 2, 1) := by decide +kernel
theorem dX0_payByHours_28 : decode cX0_payByHours 28 = .ok (.bipush 7, 2) := by decide +kernel
theorem dX0_payByHours_30 : decode cX0_payByHours 30 = .ok (.imul, 1) := by decide +kernel
theorem dX0_payByHours_31 : decode cX0_payByHours 31 = .ok (.iload 5, 2) := by decide +kernel
theorem dX0_payByHours_33 : decode cX0_payByHours 33 = .ok (.iadd, 1) := by decide +kernel
theorem dX0_payByHours_34 : decode cX0_payByHours 34 = .ok (.istore 6, 2) := by decide +kernel
theorem dX0_payByHours_36 : decode cX0_payByHours 36 = .ok (.iconst 0, 1) := by decide +kernel
theorem dX0_payByHours_37 : decode cX0_payByHours 37 = .ok (.istore 7, 2) := by decide +kernel
theorem dX0_payByHours_39 : decode cX0_payByHours 39 = .ok (.iconst 0, 1) := by decide +kernel
theorem dX0_payByHours_40 : decode cX0_payByHours 40 = .ok (.istore 8, 2) := by decide +kernel
theorem dX0_payByHours_42 : decode cX0_payByHours 42 = .ok (.iload 8, 2) := by decide +kernel
theorem dX0_payByHours_44 : decode cX0_payByHours 44 = .ok (.aload_n 0, 1) := by decide +kernel
theorem dX0_payByHours_45 : decode cX0_payByHours 45 = .ok (.getfield 32, 3) := by decide +kernel
theorem dX0_payByHours_48 : decode cX0_payByHours 48 = .ok (.if_icmp .ge 131, 3) := by decide +kernel
theorem dX0_payByHours_51 : decode cX0_payByHours 51 = .ok (.aload_n 0, 1) := by decide +kernel
theorem dX0_payByHours_52 : decode cX0_payByHours 52 = .ok (.getfield 35, 3) := by decide +kernel
theorem dX0_payByHours_55 : decode cX0_payByHours 55 = .ok (.iload 8, 2) := by decide +kernel
theorem dX0_payByHours_57 : decode cX0_payByHours 57 = .ok (.invokestatic 79, 3) := by decide +kernel
theorem dX0_payByHours_60 : decode cX0_payByHours 60 = .ok (.iload_n 1, 1) := by decide +kernel
theorem dX0_payByHours_61 : decode cX0_payByHours 61 = .ok (.if_icmp .ne 112, 3) := by decide +kernel
theorem dX0_payByHours_64 : decode cX0_payByHours 64 = .ok (.aload_n 0, 1) := by decide +kernel
theorem dX0_payByHours_65 : decode cX0_payByHours 65 = .ok (.getfield 41, 3) := by decide +kernel
theorem dX0_payByHours_68 : decode cX0_payByHours 68 = .ok (.iload 8, 2) := by decide +kernel
theorem dX0_payByHours_70 : decode cX0_payByHours 70 = .ok (.invokestatic 79, 3) := by decide +kernel
theorem dX0_payByHours_73 : decode cX0_payByHours 73 = .ok (.iload 6, 2) := by decide +kernel
theorem dX0_payByHours_75 : decode cX0_payByHours 75 = .ok (.if_icmp .ne 98, 3) := by decide +kernel
theorem dX0_payByHours_78 : decode cX0_payByHours 78 = .ok (.aload_n 0, 1) := by decide +kernel
theorem dX0_payByHours_79 : decode cX0_payByHours 79 = .ok (.iload_n 1, 1) := by decide +kernel
theorem dX0_payByHours_80 : decode cX0_payByHours 80 = .ok (.aload_n 0, 1) := by decide +kernel
theorem dX0_payByHours_81 : decode cX0_payByHours 81 = .ok (.getfield 38, 3) := by decide +kernel
theorem dX0_payByHours_84 : decode cX0_payByHours 84 = .ok (.iload 8, 2) := by decide +kernel
theorem dX0_payByHours_86 : decode cX0_payByHours 86 = .ok (.invokestatic 79, 3) := by decide +kernel
theorem dX0_payByHours_89 : decode cX0_payByHours 89 = .ok (.iload_n 2, 1) := by decide +kernel
theorem dX0_payByHours_90 : decode cX0_payByHours 90 = .ok (.invokevirtual 112, 3) := by decide +kernel
theorem dX0_payByHours_93 : decode cX0_payByHours 93 = .ok (.istore 9, 2) := by decide +kernel
theorem dX0_payByHours_95 : decode cX0_payByHours 95 = .ok (.aload_n 0, 1) := by decide +kernel
theorem dX0_payByHours_96 : decode cX0_payByHours 96 = .ok (.getfield 44, 3) := by decide +kernel
theorem dX0_payByHours_99 : decode cX0_payByHours 99 = .ok (.iload 8, 2) := by decide +kernel
theorem dX0_payByHours_101 : decode cX0_payByHours 101 = .ok (.invokestatic 79, 3) := by decide +kernel
theorem dX0_payByHours_104 : decode cX0_payByHours 104 = .ok (.istore 10, 2) := by decide +kernel
theorem dX0_payByHours_106 : decode cX0_payByHours 106 = .ok (.iconst 0, 1) := by decide +kernel
theorem dX0_payByHours_107 : decode cX0_payByHours 107 = .ok (.istore 11, 2) := by decide +kernel
theorem dX0_payByHours_109 : decode cX0_payByHours 109 = .ok (.iconst 0, 1) := by decide +kernel
theorem dX0_payByHours_110 : decode cX0_payByHours 110 = .ok (.istore 12, 2) := by decide +kernel
theorem dX0_payByHours_112 : decode cX0_payByHours 112 = .ok (.iload 12, 2) := by decide +kernel
theorem dX0_payByHours_114 : decode cX0_payByHours 114 = .ok (.iload 10, 2) := by decide +kernel
theorem dX0_payByHours_116 : decode cX0_payByHours 116 = .ok (.if_icmp .ge 50, 3) := by decide +kernel
theorem dX0_payByHours_119 : decode cX0_payByHours 119 = .ok (.iload 7, 2) := by decide +kernel
theorem dX0_payByHours_121 : decode cX0_payByHours 121 = .ok (.bipush 8, 2) := by decide +kernel
theorem dX0_payByHours_123 : decode cX0_payByHours 123 = .ok (.if_icmp .ge 10, 3) := by decide +kernel
theorem dX0_payByHours_126 : decode cX0_payByHours 126 = .ok (.iload 4, 2) := by decide +kernel
theorem dX0_payByHours_128 : decode cX0_payByHours 128 = .ok (.bipush 40, 2) := by decide +kernel
theorem dX0_payByHours_130 : decode cX0_payByHours 130 = .ok (.if_icmp .lt 15, 3) := by decide +kernel
theorem dX0_payByHours_133 : decode cX0_payByHours 133 = .ok (.iload 11, 2) := by decide +kernel
theorem dX0_payByHours_135 : decode cX0_payByHours 135 = .ok (.iconst 3, 1) := by decide +kernel
theorem dX0_payByHours_136 : decode cX0_payByHours 136 = .ok (.iload 9, 2) := by decide +kernel
theorem dX0_payByHours_138 : decode cX0_payByHours 138 = .ok (.imul, 1) := by decide +kernel
theorem dX0_payByHours_139 : decode cX0_payByHours 139 = .ok (.iadd, 1) := by decide +kernel
theorem dX0_payByHours_140 : decode cX0_payByHours 140 = .ok (.istore 11, 2) := by decide +kernel
theorem dX0_payByHours_142 : decode cX0_payByHours 142 = .ok (.goto 15, 3) := by decide +kernel
theorem dX0_payByHours_145 : decode cX0_payByHours 145 = .ok (.iload 11, 2) := by decide +kernel
theorem dX0_payByHours_147 : decode cX0_payByHours 147 = .ok (.iconst 2, 1) := by decide +kernel
theorem dX0_payByHours_148 : decode cX0_payByHours 148 = .ok (.iload 9, 2) := by decide +kernel
theorem dX0_payByHours_150 : decode cX0_payByHours 150 = .ok (.imul, 1) := by decide +kernel
theorem dX0_payByHours_151 : decode cX0_payByHours 151 = .ok (.iadd, 1) := by decide +kernel
theorem dX0_payByHours_152 : decode cX0_payByHours 152 = .ok (.istore 11, 2) := by decide +kernel
theorem dX0_payByHours_154 : decode cX0_payByHours 154 = .ok (.iinc 4 1, 3) := by decide +kernel
theorem dX0_payByHours_157 : decode cX0_payByHours 157 = .ok (.iinc 7 1, 3) := by decide +kernel
theorem dX0_payByHours_160 : decode cX0_payByHours 160 = .ok (.iinc 12 1, 3) := by decide +kernel
theorem dX0_payByHours_163 : decode cX0_payByHours 163 = .ok (.goto (-51), 3) := by decide +kernel
theorem dX0_payByHours_166 : decode cX0_payByHours 166 = .ok (.iload_n 3, 1) := by decide +kernel
theorem dX0_payByHours_167 : decode cX0_payByHours 167 = .ok (.iload 11, 2) := by decide +kernel
theorem dX0_payByHours_169 : decode cX0_payByHours 169 = .ok (.iconst 2, 1) := by decide +kernel
theorem dX0_payByHours_170 : decode cX0_payByHours 170 = .ok (.idiv, 1) := by decide +kernel
theorem dX0_payByHours_171 : decode cX0_payByHours 171 = .ok (.iadd, 1) := by decide +kernel
theorem dX0_payByHours_172 : decode cX0_payByHours 172 = .ok (.istore_n 3, 1) := by decide +kernel
theorem dX0_payByHours_173 : decode cX0_payByHours 173 = .ok (.iinc 8 1, 3) := by decide +kernel
theorem dX0_payByHours_176 : decode cX0_payByHours 176 = .ok (.goto (-134), 3) := by decide +kernel
theorem dX0_payByHours_179 : decode cX0_payByHours 179 = .ok (.iinc 5 1, 3) := by decide +kernel
theorem dX0_payByHours_182 : decode cX0_payByHours 182 = .ok (.goto (-162), 3) := by decide +kernel
theorem dX0_payByHours_185 : decode cX0_payByHours 185 = .ok (.iload_n 3, 1) := by decide +kernel
theorem dX0_payByHours_186 : decode cX0_payByHours 186 = .ok (.ireturn, 1) := by decide +kernel
set_option maxRecDepth 20000 in
theorem ggX0_run_X0_needOneOf : GoodIn wsX0_run wsX0_needOneOf := goodIn_ca (goodIn_r _ [6, 7, 8] (by decide +kernel) (by decide +kernel)) (goodIn_sub (fun _ h => List.mem_cons_of_mem _ (List.mem_append_right _ h)) (by decide +kernel))
set_option maxRecDepth 20000 in
theorem gX0_run_X0_needOneOf : GoodIn wsX0_run (va_wsS RX0 63 yX0_needOneOf wsX0_needOneOf) := goodIn_app (goodIn_of _ (by decide +kernel)) ggX0_run_X0_needOneOf
set_option maxRecDepth 20000 in
theorem ggX0_run_X0_weekPay : GoodIn wsX0_run wsX0_weekPay := goodIn_r _ [12, 13, 14, 15, 16, 5, 17, 18, 19, 20, 21, 22, 23, 24, 25, 26, 27, 28, 29, 30, 31, 32, 33, 34, 35, 36, 37, 38, 39, 40, 41, 42, 43, 44, 45, 46, 47, 48, 49, 50, 51, 52, 53, 54, 55, 56, 57, 58, 59, 60, 61, 62, 63, 64, 65, 66, 67, 68, 69, 70, 71, 72, 73, 96, 97, 98, 99, 100, 101, 102, 103, 104, 105, 106, 107, 108, 109, 110, 111] (by decide +kernel) (by decide +kernel)
set_option maxRecDepth 20000 in
theorem gX0_run_X0_weekPay : GoodIn wsX0_run (wsV RX0 109 RX0 yX0_weekPay wsX0_weekPay) := goodIn_app (goodIn_of _ (by decide +kernel)) ggX0_run_X0_weekPay
set_option maxRecDepth 20000 in
theorem ggX0_run_X0_at : GoodIn wsX0_run wsX0_at := goodIn_r _ [22] (by decide +kernel) (by decide +kernel)
set_option maxRecDepth 20000 in
theorem gX0_run_X0_at : GoodIn wsX0_run (va_wsS RX0 79 yX0_at wsX0_at) := goodIn_app (goodIn_of _ (by decide +kernel)) ggX0_run_X0_at
set_option maxRecDepth 20000 in
theorem ggX0_run_X0_put : GoodIn wsX0_run wsX0_put := goodIn_r _ [50] (by decide +kernel) (by decide +kernel)
set_option maxRecDepth 20000 in
theorem gX0_run_X0_put : GoodIn wsX0_run (va_wsS RX0 59 yX0_put wsX0_put) := goodIn_app (goodIn_of _ (by decide +kernel)) ggX0_run_X0_put
set_option maxRecDepth 20000 in
theorem ggX0_run_X0_weekCharge : GoodIn wsX0_run wsX0_weekCharge := goodIn_r _ [77, 13, 78, 79, 80, 5, 81, 82, 83, 84, 85, 86, 87, 88, 30, 89, 90, 91, 92, 31, 19, 20, 21, 22, 23, 24, 25, 26, 27, 28, 29, 18, 32, 33, 34, 35, 36, 37, 38, 39, 40, 41, 42, 43, 44, 45, 46, 47, 48, 49, 50, 14, 15, 16, 17, 51, 52, 53, 54, 55, 56, 57, 58, 59, 60, 61, 62, 63, 64, 65, 66, 67, 68, 69, 70, 71, 72, 73, 93, 94, 95, 96, 97, 98, 99, 100, 101, 102, 103, 104, 105, 106, 107, 108, 109, 110, 111] (by decide +kernel) (by decide +kernel)
set_option maxRecDepth 20000 in
theorem gX0_run_X0_weekCharge : GoodIn wsX0_run (wsV RX0 116 RX0 yX0_weekCharge wsX0_weekCharge) := goodIn_app (goodIn_of _ (by decide +kernel)) ggX0_run_X0_weekCharge
theorem dX0_run_0 : decode cX0_run 0 = .ok (.iload_n 1, 1) := by decide +kernel
theorem dX0_run_1 : decode cX0_run 1 = .ok (.bipush 20, 2) := by decide +kernel
theorem dX0_run_3 : decode cX0_run 3 = .ok (.invokestatic 63, 3) := by decide +kernel
theorem dX0_run_6 : decode cX0_run 6 = .ok (.iconst 0, 1) := by decide +kernel
theorem dX0_run_7 : decode cX0_run 7 = .ok (.istore_n 2, 1) := by decide +kernel
theorem dX0_run_8 : decode cX0_run 8 = .ok (.iconst 0, 1) := by decide +kernel
theorem dX0_run_9 : decode cX0_run 9 = .ok (.istore_n 3, 1) := by decide +kernel
theorem dX0_run_10 : decode cX0_run 10 = .ok (.iload_n 3, 1) := by decide +kernel
theorem dX0_run_11 : decode cX0_run 11 = .ok (.bipush 6, 2) := by decide +kernel
theorem dX0_run_13 : decode cX0_run 13 = .ok (.if_icmp .ge 51, 3) := by decide +kernel
theorem dX0_run_16 : decode cX0_run 16 = .ok (.aload_n 0, 1) := by decide +kernel
theorem dX0_run_17 : decode cX0_run 17 = .ok (.iload_n 3, 1) := by decide +kernel
theorem dX0_run_18 : decode cX0_run 18 = .ok (.iload_n 1, 1) := by decide +kernel
theorem dX0_run_19 : decode cX0_run 19 = .ok (.invokevirtual 109, 3) := by decide +kernel
theorem dX0_run_22 : decode cX0_run 22 = .ok (.istore 4, 2) := by decide +kernel
theorem dX0_run_24 : decode cX0_run 24 = .ok (.iload_n 3, 1) := by decide +kernel
theorem dX0_run_25 : decode cX0_run 25 = .ok (.bipush 20, 2) := by decide +kernel
theorem dX0_run_27 : decode cX0_run 27 = .ok (.imul, 1) := by decide +kernel
theorem dX0_run_28 : decode cX0_run 28 = .ok (.iload_n 1, 1) := by decide +kernel
theorem dX0_run_29 : decode cX0_run 29 = .ok (.iadd, 1) := by decide +kernel
theorem dX0_run_30 : decode cX0_run 30 = .ok (.istore 5, 2) := by decide +kernel
theorem dX0_run_32 : decode cX0_run 32 = .ok (.iload_n 2, 1) := by decide +kernel
theorem dX0_run_33 : decode cX0_run 33 = .ok (.iload 4, 2) := by decide +kernel
theorem dX0_run_35 : decode cX0_run 35 = .ok (.aload_n 0, 1) := by decide +kernel
theorem dX0_run_36 : decode cX0_run 36 = .ok (.getfield 47, 3) := by decide +kernel
theorem dX0_run_39 : decode cX0_run 39 = .ok (.iload 5, 2) := by decide +kernel
theorem dX0_run_41 : decode cX0_run 41 = .ok (.invokestatic 79, 3) := by decide +kernel
theorem dX0_run_44 : decode cX0_run 44 = .ok (.isub, 1) := by decide +kernel
theorem dX0_run_45 : decode cX0_run 45 = .ok (.iadd, 1) := by decide +kernel
theorem dX0_run_46 : decode cX0_run 46 = .ok (.istore_n 2, 1) := by decide +kernel
theorem dX0_run_47 : decode cX0_run 47 = .ok (.aload_n 0, 1) := by decide +kernel
theorem dX0_run_48 : decode cX0_run 48 = .ok (.getfield 47, 3) := by decide +kernel
theorem dX0_run_51 : decode cX0_run 51 = .ok (.iload 5, 2) := by decide +kernel
theorem dX0_run_53 : decode cX0_run 53 = .ok (.iload 4, 2) := by decide +kernel
theorem dX0_run_55 : decode cX0_run 55 = .ok (.invokestatic 59, 3) := by decide +kernel
theorem dX0_run_58 : decode cX0_run 58 = .ok (.iinc 3 1, 3) := by decide +kernel
theorem dX0_run_61 : decode cX0_run 61 = .ok (.goto (-51), 3) := by decide +kernel
theorem dX0_run_64 : decode cX0_run 64 = .ok (.iconst 0, 1) := by decide +kernel
theorem dX0_run_65 : decode cX0_run 65 = .ok (.istore_n 3, 1) := by decide +kernel
theorem dX0_run_66 : decode cX0_run 66 = .ok (.iload_n 3, 1) := by decide +kernel
theorem dX0_run_67 : decode cX0_run 67 = .ok (.iconst 4, 1) := by decide +kernel
theorem dX0_run_68 : decode cX0_run 68 = .ok (.if_icmp .ge 28, 3) := by decide +kernel
theorem dX0_run_71 : decode cX0_run 71 = .ok (.aload_n 0, 1) := by decide +kernel
theorem dX0_run_72 : decode cX0_run 72 = .ok (.getfield 50, 3) := by decide +kernel
theorem dX0_run_75 : decode cX0_run 75 = .ok (.iload_n 3, 1) := by decide +kernel
theorem dX0_run_76 : decode cX0_run 76 = .ok (.bipush 20, 2) := by decide +kernel
theorem dX0_run_78 : decode cX0_run 78 = .ok (.imul, 1) := by decide +kernel
theorem dX0_run_79 : decode cX0_run 79 = .ok (.iload_n 1, 1) := by decide +kernel
theorem dX0_run_80 : decode cX0_run 80 = .ok (.iadd, 1) := by decide +kernel
theorem dX0_run_81 : decode cX0_run 81 = .ok (.aload_n 0, 1) := by decide +kernel
theorem dX0_run_82 : decode cX0_run 82 = .ok (.iload_n 3, 1) := by decide +kernel
theorem dX0_run_83 : decode cX0_run 83 = .ok (.iload_n 1, 1) := by decide +kernel
theorem dX0_run_84 : decode cX0_run 84 = .ok (.invokevirtual 116, 3) := by decide +kernel
theorem dX0_run_87 : decode cX0_run 87 = .ok (.invokestatic 59, 3) := by decide +kernel
theorem dX0_run_90 : decode cX0_run 90 = .ok (.iinc 3 1, 3) := by decide +kernel
theorem dX0_run_93 : decode cX0_run 93 = .ok (.goto (-27), 3) := by decide +kernel
theorem dX0_run_96 : decode cX0_run 96 = .ok (.iload_n 2, 1) := by decide +kernel
theorem dX0_run_97 : decode cX0_run 97 = .ok (.ireturn, 1) := by decide +kernel
set_option maxRecDepth 20000 in
theorem ggX0_paid_X0_needOneOf : GoodIn wsX0_paid wsX0_needOneOf := goodIn_ca (goodIn_r _ [5, 6, 7] (by decide +kernel) (by decide +kernel)) (goodIn_sub (fun _ h => List.mem_cons_of_mem _ (List.mem_append_right _ h)) (by decide +kernel))
set_option maxRecDepth 20000 in
theorem gX0_paid_X0_needOneOf : GoodIn wsX0_paid (va_wsS RX0 63 yX0_needOneOf wsX0_needOneOf) := goodIn_app (goodIn_of _ (by decide +kernel)) ggX0_paid_X0_needOneOf
set_option maxRecDepth 20000 in
theorem ggX0_paid_X0_at : GoodIn wsX0_paid wsX0_at := goodIn_r _ [10] (by decide +kernel) (by decide +kernel)
set_option maxRecDepth 20000 in
theorem gX0_paid_X0_at : GoodIn wsX0_paid (va_wsS RX0 79 yX0_at wsX0_at) := goodIn_app (goodIn_of _ (by decide +kernel)) ggX0_paid_X0_at
theorem dX0_paid_0 : decode cX0_paid 0 = .ok (.iload_n 1, 1) := by decide +kernel
theorem dX0_paid_1 : decode cX0_paid 1 = .ok (.bipush 6, 2) := by decide +kernel
theorem dX0_paid_3 : decode cX0_paid 3 = .ok (.invokestatic 63, 3) := by decide +kernel
theorem dX0_paid_6 : decode cX0_paid 6 = .ok (.iload_n 2, 1) := by decide +kernel
theorem dX0_paid_7 : decode cX0_paid 7 = .ok (.bipush 20, 2) := by decide +kernel
theorem dX0_paid_9 : decode cX0_paid 9 = .ok (.invokestatic 63, 3) := by decide +kernel
theorem dX0_paid_12 : decode cX0_paid 12 = .ok (.aload_n 0, 1) := by decide +kernel
theorem dX0_paid_13 : decode cX0_paid 13 = .ok (.getfield 47, 3) := by decide +kernel
theorem dX0_paid_16 : decode cX0_paid 16 = .ok (.iload_n 1, 1) := by decide +kernel
theorem dX0_paid_17 : decode cX0_paid 17 = .ok (.bipush 20, 2) := by decide +kernel
theorem dX0_paid_19 : decode cX0_paid 19 = .ok (.imul, 1) := by decide +kernel
theorem dX0_paid_20 : decode cX0_paid 20 = .ok (.iload_n 2, 1) := by decide +kernel
theorem dX0_paid_21 : decode cX0_paid 21 = .ok (.iadd, 1) := by decide +kernel
theorem dX0_paid_22 : decode cX0_paid 22 = .ok (.invokestatic 79, 3) := by decide +kernel
theorem dX0_paid_25 : decode cX0_paid 25 = .ok (.ireturn, 1) := by decide +kernel
set_option maxRecDepth 20000 in
theorem ggX0_billed_X0_needOneOf : GoodIn wsX0_billed wsX0_needOneOf := goodIn_ca (goodIn_r _ [5, 6, 7] (by decide +kernel) (by decide +kernel)) (goodIn_sub (fun _ h => List.mem_cons_of_mem _ (List.mem_append_right _ h)) (by decide +kernel))
set_option maxRecDepth 20000 in
theorem gX0_billed_X0_needOneOf : GoodIn wsX0_billed (va_wsS RX0 63 yX0_needOneOf wsX0_needOneOf) := goodIn_app (goodIn_of _ (by decide +kernel)) ggX0_billed_X0_needOneOf
set_option maxRecDepth 20000 in
theorem ggX0_billed_X0_at : GoodIn wsX0_billed wsX0_at := goodIn_r _ [10] (by decide +kernel) (by decide +kernel)
set_option maxRecDepth 20000 in
theorem gX0_billed_X0_at : GoodIn wsX0_billed (va_wsS RX0 79 yX0_at wsX0_at) := goodIn_app (goodIn_of _ (by decide +kernel)) ggX0_billed_X0_at
theorem dX0_billed_0 : decode cX0_billed 0 = .ok (.iload_n 1, 1) := by decide +kernel
theorem dX0_billed_1 : decode cX0_billed 1 = .ok (.iconst 4, 1) := by decide +kernel
theorem dX0_billed_2 : decode cX0_billed 2 = .ok (.invokestatic 63, 3) := by decide +kernel
theorem dX0_billed_5 : decode cX0_billed 5 = .ok (.iload_n 2, 1) := by decide +kernel
theorem dX0_billed_6 : decode cX0_billed 6 = .ok (.bipush 20, 2) := by decide +kernel
theorem dX0_billed_8 : decode cX0_billed 8 = .ok (.invokestatic 63, 3) := by decide +kernel
theorem dX0_billed_11 : decode cX0_billed 11 = .ok (.aload_n 0, 1) := by decide +kernel
theorem dX0_billed_12 : decode cX0_billed 12 = .ok (.getfield 50, 3) := by decide +kernel
theorem dX0_billed_15 : decode cX0_billed 15 = .ok (.iload_n 1, 1) := by decide +kernel
theorem dX0_billed_16 : decode cX0_billed 16 = .ok (.bipush 20, 2) := by decide +kernel
theorem dX0_billed_18 : decode cX0_billed 18 = .ok (.imul, 1) := by decide +kernel
theorem dX0_billed_19 : decode cX0_billed 19 = .ok (.iload_n 2, 1) := by decide +kernel
theorem dX0_billed_20 : decode cX0_billed 20 = .ok (.iadd, 1) := by decide +kernel
theorem dX0_billed_21 : decode cX0_billed 21 = .ok (.invokestatic 79, 3) := by decide +kernel
theorem dX0_billed_24 : decode cX0_billed 24 = .ok (.ireturn, 1) := by decide +kernel
set_option maxRecDepth 20000 in
theorem ggX0_owing_X0_needOneOf : GoodIn wsX0_owing wsX0_needOneOf := goodIn_ca (goodIn_r _ [5, 6, 7] (by decide +kernel) (by decide +kernel)) (goodIn_sub (fun _ h => List.mem_cons_of_mem _ (List.mem_append_right _ h)) (by decide +kernel))
set_option maxRecDepth 20000 in
theorem gX0_owing_X0_needOneOf : GoodIn wsX0_owing (va_wsS RX0 63 yX0_needOneOf wsX0_needOneOf) := goodIn_app (goodIn_of _ (by decide +kernel)) ggX0_owing_X0_needOneOf
set_option maxRecDepth 20000 in
theorem ggX0_owing_X0_weekPay : GoodIn wsX0_owing wsX0_weekPay := goodIn_r _ [11, 12, 13, 14, 15, 4, 16, 17, 18, 19, 20, 21, 22, 23, 24, 25, 26, 27, 28, 29, 30, 31, 32, 33, 34, 35, 36, 37, 38, 39, 40, 41, 42, 43, 44, 45, 46, 47, 48, 49, 50, 51, 52, 53, 54, 55, 56, 57, 58, 59, 60, 61, 62, 63, 64, 65, 66, 67, 68, 69, 70, 71, 72, 73, 74, 75, 76, 77, 78, 79, 80, 81, 82, 83, 84, 85, 86, 87, 88] (by decide +kernel) (by decide +kernel)
set_option maxRecDepth 20000 in
theorem gX0_owing_X0_weekPay : GoodIn wsX0_owing (wsV RX0 109 RX0 yX0_weekPay wsX0_weekPay) := goodIn_app (goodIn_of _ (by decide +kernel)) ggX0_owing_X0_weekPay
set_option maxRecDepth 20000 in
theorem ggX0_owing_X0_at : GoodIn wsX0_owing wsX0_at := goodIn_r _ [21] (by decide +kernel) (by decide +kernel)
set_option maxRecDepth 20000 in
theorem gX0_owing_X0_at : GoodIn wsX0_owing (va_wsS RX0 79 yX0_at wsX0_at) := goodIn_app (goodIn_of _ (by decide +kernel)) ggX0_owing_X0_at
theorem dX0_owing_0 : decode cX0_owing 0 = .ok (.iload_n 1, 1) := by decide +kernel
theorem dX0_owing_1 : decode cX0_owing 1 = .ok (.bipush 6, 2) := by decide +kernel
theorem dX0_owing_3 : decode cX0_owing 3 = .ok (.invokestatic 63, 3) := by decide +kernel
theorem dX0_owing_6 : decode cX0_owing 6 = .ok (.iload_n 2, 1) := by decide +kernel
theorem dX0_owing_7 : decode cX0_owing 7 = .ok (.bipush 20, 2) := by decide +kernel
theorem dX0_owing_9 : decode cX0_owing 9 = .ok (.invokestatic 63, 3) := by decide +kernel
theorem dX0_owing_12 : decode cX0_owing 12 = .ok (.aload_n 0, 1) := by decide +kernel
theorem dX0_owing_13 : decode cX0_owing 13 = .ok (.iload_n 1, 1) := by decide +kernel
theorem dX0_owing_14 : decode cX0_owing 14 = .ok (.iload_n 2, 1) := by decide +kernel
theorem dX0_owing_15 : decode cX0_owing 15 = .ok (.invokevirtual 109, 3) := by decide +kernel
theorem dX0_owing_18 : decode cX0_owing 18 = .ok (.aload_n 0, 1) := by decide +kernel
theorem dX0_owing_19 : decode cX0_owing 19 = .ok (.getfield 47, 3) := by decide +kernel
theorem dX0_owing_22 : decode cX0_owing 22 = .ok (.iload_n 1, 1) := by decide +kernel
theorem dX0_owing_23 : decode cX0_owing 23 = .ok (.bipush 20, 2) := by decide +kernel
theorem dX0_owing_25 : decode cX0_owing 25 = .ok (.imul, 1) := by decide +kernel
theorem dX0_owing_26 : decode cX0_owing 26 = .ok (.iload_n 2, 1) := by decide +kernel
theorem dX0_owing_27 : decode cX0_owing 27 = .ok (.iadd, 1) := by decide +kernel
theorem dX0_owing_28 : decode cX0_owing 28 = .ok (.invokestatic 79, 3) := by decide +kernel
theorem dX0_owing_31 : decode cX0_owing 31 = .ok (.isub, 1) := by decide +kernel
theorem dX0_owing_32 : decode cX0_owing 32 = .ok (.ireturn, 1) := by decide +kernel
set_option maxRecDepth 20000 in
theorem ggX0_toBill_X0_needOneOf : GoodIn wsX0_toBill wsX0_needOneOf := goodIn_ca (goodIn_r _ [5, 6, 7] (by decide +kernel) (by decide +kernel)) (goodIn_sub (fun _ h => List.mem_cons_of_mem _ (List.mem_append_right _ h)) (by decide +kernel))
set_option maxRecDepth 20000 in
theorem gX0_toBill_X0_needOneOf : GoodIn wsX0_toBill (va_wsS RX0 63 yX0_needOneOf wsX0_needOneOf) := goodIn_app (goodIn_of _ (by decide +kernel)) ggX0_toBill_X0_needOneOf
set_option maxRecDepth 20000 in
theorem ggX0_toBill_X0_weekCharge : GoodIn wsX0_toBill wsX0_weekCharge := goodIn_r _ [11, 12, 13, 14, 15, 4, 16, 17, 18, 19, 20, 21, 22, 23, 24, 25, 26, 27, 28, 29, 30, 31, 32, 33, 34, 35, 36, 37, 38, 39, 40, 41, 42, 43, 44, 45, 46, 47, 48, 49, 50, 51, 52, 53, 54, 55, 56, 57, 58, 59, 60, 61, 62, 63, 64, 65, 66, 67, 68, 69, 70, 71, 72, 73, 74, 75, 76, 77, 78, 79, 80, 81, 82, 83, 84, 85, 86, 87, 88, 89, 90, 91, 92, 93, 94, 95, 96, 97, 98, 99, 100, 101, 102, 103, 104, 105, 106] (by decide +kernel) (by decide +kernel)
set_option maxRecDepth 20000 in
theorem gX0_toBill_X0_weekCharge : GoodIn wsX0_toBill (wsV RX0 116 RX0 yX0_weekCharge wsX0_weekCharge) := goodIn_app (goodIn_of _ (by decide +kernel)) ggX0_toBill_X0_weekCharge
set_option maxRecDepth 20000 in
theorem ggX0_toBill_X0_at : GoodIn wsX0_toBill wsX0_at := goodIn_r _ [33] (by decide +kernel) (by decide +kernel)
set_option maxRecDepth 20000 in
theorem gX0_toBill_X0_at : GoodIn wsX0_toBill (va_wsS RX0 79 yX0_at wsX0_at) := goodIn_app (goodIn_of _ (by decide +kernel)) ggX0_toBill_X0_at
theorem dX0_toBill_0 : decode cX0_toBill 0 = .ok (.iload_n 1, 1) := by decide +kernel
theorem dX0_toBill_1 : decode cX0_toBill 1 = .ok (.iconst 4, 1) := by decide +kernel
theorem dX0_toBill_2 : decode cX0_toBill 2 = .ok (.invokestatic 63, 3) := by decide +kernel
theorem dX0_toBill_5 : decode cX0_toBill 5 = .ok (.iload_n 2, 1) := by decide +kernel
theorem dX0_toBill_6 : decode cX0_toBill 6 = .ok (.bipush 20, 2) := by decide +kernel
theorem dX0_toBill_8 : decode cX0_toBill 8 = .ok (.invokestatic 63, 3) := by decide +kernel
theorem dX0_toBill_11 : decode cX0_toBill 11 = .ok (.aload_n 0, 1) := by decide +kernel
theorem dX0_toBill_12 : decode cX0_toBill 12 = .ok (.iload_n 1, 1) := by decide +kernel
theorem dX0_toBill_13 : decode cX0_toBill 13 = .ok (.iload_n 2, 1) := by decide +kernel
theorem dX0_toBill_14 : decode cX0_toBill 14 = .ok (.invokevirtual 116, 3) := by decide +kernel
theorem dX0_toBill_17 : decode cX0_toBill 17 = .ok (.aload_n 0, 1) := by decide +kernel
theorem dX0_toBill_18 : decode cX0_toBill 18 = .ok (.getfield 50, 3) := by decide +kernel
theorem dX0_toBill_21 : decode cX0_toBill 21 = .ok (.iload_n 1, 1) := by decide +kernel
theorem dX0_toBill_22 : decode cX0_toBill 22 = .ok (.bipush 20, 2) := by decide +kernel
theorem dX0_toBill_24 : decode cX0_toBill 24 = .ok (.imul, 1) := by decide +kernel
theorem dX0_toBill_25 : decode cX0_toBill 25 = .ok (.iload_n 2, 1) := by decide +kernel
theorem dX0_toBill_26 : decode cX0_toBill 26 = .ok (.iadd, 1) := by decide +kernel
theorem dX0_toBill_27 : decode cX0_toBill 27 = .ok (.invokestatic 79, 3) := by decide +kernel
theorem dX0_toBill_30 : decode cX0_toBill 30 = .ok (.isub, 1) := by decide +kernel
theorem dX0_toBill_31 : decode cX0_toBill 31 = .ok (.ireturn, 1) := by decide +kernel
set_option maxRecDepth 20000 in
theorem ggX0_takeHoliday_X0_needOneOf : GoodIn wsX0_takeHoliday wsX0_needOneOf := goodIn_ca (goodIn_r _ [5, 6, 7] (by decide +kernel) (by decide +kernel)) (goodIn_sub (fun _ h => List.mem_cons_of_mem _ (List.mem_append_left _ (List.mem_append_left _ (List.mem_append_right _ h)))) (by decide +kernel))
set_option maxRecDepth 20000 in
theorem gX0_takeHoliday_X0_needOneOf : GoodIn wsX0_takeHoliday (va_wsS RX0 63 yX0_needOneOf wsX0_needOneOf) := goodIn_app (goodIn_of _ (by decide +kernel)) ggX0_takeHoliday_X0_needOneOf
set_option maxRecDepth 20000 in
theorem ggX0_takeHoliday_X0_needRange : GoodIn wsX0_takeHoliday wsX0_needRange := goodIn_ca (goodIn_r _ [10, 11, 12] (by decide +kernel) (by decide +kernel)) (goodIn_sub (fun _ h => List.mem_cons_of_mem _ (List.mem_append_left _ (List.mem_append_right _ h))) (by decide +kernel))
set_option maxRecDepth 20000 in
theorem gX0_takeHoliday_X0_needRange : GoodIn wsX0_takeHoliday (va_wsS RX0 67 yX0_needRange wsX0_needRange) := goodIn_app (goodIn_of _ (by decide +kernel)) ggX0_takeHoliday_X0_needRange
set_option maxRecDepth 20000 in
theorem ggX0_takeHoliday_X0_minutesLeft : GoodIn wsX0_takeHoliday wsX0_minutesLeft := goodIn_r _ [16, 17, 18, 19, 1, 20, 21, 4, 22, 31, 32, 33, 34, 35, 36, 37, 38, 39, 40, 41, 42, 43, 44, 45, 46] (by decide +kernel) (by decide +kernel)
set_option maxRecDepth 20000 in
theorem gX0_takeHoliday_X0_minutesLeft : GoodIn wsX0_takeHoliday (wsV RX0 83 RX0 yX0_minutesLeft wsX0_minutesLeft) := goodIn_app (goodIn_of _ (by decide +kernel)) ggX0_takeHoliday_X0_minutesLeft
set_option maxRecDepth 20000 in
theorem ggX0_takeHoliday_X0_needState : GoodIn wsX0_takeHoliday wsX0_needState := goodIn_ca (goodIn_r _ [25, 26, 27] (by decide +kernel) (by decide +kernel)) (goodIn_sub (fun _ h => List.mem_cons_of_mem _ (List.mem_append_right _ h)) (by decide +kernel))
set_option maxRecDepth 20000 in
theorem gX0_takeHoliday_X0_needState : GoodIn wsX0_takeHoliday (va_wsS RX0 71 yX0_needState wsX0_needState) := goodIn_app (goodIn_of _ (by decide +kernel)) ggX0_takeHoliday_X0_needState
set_option maxRecDepth 20000 in
theorem ggX0_takeHoliday_X0_at : GoodIn wsX0_takeHoliday wsX0_at := goodIn_r _ [22] (by decide +kernel) (by decide +kernel)
set_option maxRecDepth 20000 in
theorem gX0_takeHoliday_X0_at : GoodIn wsX0_takeHoliday (va_wsS RX0 79 yX0_at wsX0_at) := goodIn_app (goodIn_of _ (by decide +kernel)) ggX0_takeHoliday_X0_at
set_option maxRecDepth 20000 in
theorem ggX0_takeHoliday_X0_put : GoodIn wsX0_takeHoliday wsX0_put := goodIn_r _ [30] (by decide +kernel) (by decide +kernel)
set_option maxRecDepth 20000 in
theorem gX0_takeHoliday_X0_put : GoodIn wsX0_takeHoliday (va_wsS RX0 59 yX0_put wsX0_put) := goodIn_app (goodIn_of _ (by decide +kernel)) ggX0_takeHoliday_X0_put
theorem dX0_takeHoliday_0 : decode cX0_takeHoliday 0 = .ok (.iload_n 1, 1) := by decide +kernel
theorem dX0_takeHoliday_1 : decode cX0_takeHoliday 1 = .ok (.bipush 6, 2) := by decide +kernel
theorem dX0_takeHoliday_3 : decode cX0_takeHoliday 3 = .ok (.invokestatic 63, 3) := by decide +kernel
theorem dX0_takeHoliday_6 : decode cX0_takeHoliday 6 = .ok (.iload_n 2, 1) := by decide +kernel
theorem dX0_takeHoliday_7 : decode cX0_takeHoliday 7 = .ok (.iconst 1, 1) := by decide +kernel
theorem dX0_takeHoliday_8 : decode cX0_takeHoliday 8 = .ok (.sipush 10000, 3) := by decide +kernel
theorem dX0_takeHoliday_11 : decode cX0_takeHoliday 11 = .ok (.invokestatic 67, 3) := by decide +kernel
theorem dX0_takeHoliday_14 : decode cX0_takeHoliday 14 = .ok (.aload_n 0, 1) := by decide +kernel
theorem dX0_takeHoliday_15 : decode cX0_takeHoliday 15 = .ok (.iload_n 1, 1) := by decide +kernel
theorem dX0_takeHoliday_16 : decode cX0_takeHoliday 16 = .ok (.invokevirtual 83, 3) := by decide +kernel
theorem dX0_takeHoliday_19 : decode cX0_takeHoliday 19 = .ok (.istore_n 3, 1) := by decide +kernel
theorem dX0_takeHoliday_20 : decode cX0_takeHoliday 20 = .ok (.iload_n 2, 1) := by decide +kernel
theorem dX0_takeHoliday_21 : decode cX0_takeHoliday 21 = .ok (.iload_n 3, 1) := by decide +kernel
theorem dX0_takeHoliday_22 : decode cX0_takeHoliday 22 = .ok (.if_icmp .gt 7, 3) := by decide +kernel
theorem dX0_takeHoliday_25 : decode cX0_takeHoliday 25 = .ok (.iconst 1, 1) := by decide +kernel
theorem dX0_takeHoliday_26 : decode cX0_takeHoliday 26 = .ok (.goto 4, 3) := by decide +kernel
theorem dX0_takeHoliday_29 : decode cX0_takeHoliday 29 = .ok (.iconst 0, 1) := by decide +kernel
theorem dX0_takeHoliday_30 : decode cX0_takeHoliday 30 = .ok (.invokestatic 71, 3) := by decide +kernel
theorem dX0_takeHoliday_33 : decode cX0_takeHoliday 33 = .ok (.aload_n 0, 1) := by decide +kernel
theorem dX0_takeHoliday_34 : decode cX0_takeHoliday 34 = .ok (.getfield 53, 3) := by decide +kernel
theorem dX0_takeHoliday_37 : decode cX0_takeHoliday 37 = .ok (.iload_n 1, 1) := by decide +kernel
theorem dX0_takeHoliday_38 : decode cX0_takeHoliday 38 = .ok (.aload_n 0, 1) := by decide +kernel
theorem dX0_takeHoliday_39 : decode cX0_takeHoliday 39 = .ok (.getfield 53, 3) := by decide +kernel
theorem dX0_takeHoliday_42 : decode cX0_takeHoliday 42 = .ok (.iload_n 1, 1) := by decide +kernel
theorem dX0_takeHoliday_43 : decode cX0_takeHoliday 43 = .ok (.invokestatic 79, 3) := by decide +kernel
theorem dX0_takeHoliday_46 : decode cX0_takeHoliday 46 = .ok (.iload_n 2, 1) := by decide +kernel
theorem dX0_takeHoliday_47 : decode cX0_takeHoliday 47 = .ok (.iadd, 1) := by decide +kernel
theorem dX0_takeHoliday_48 : decode cX0_takeHoliday 48 = .ok (.invokestatic 59, 3) := by decide +kernel
theorem dX0_takeHoliday_51 : decode cX0_takeHoliday 51 = .ok (.iload_n 3, 1) := by decide +kernel
theorem dX0_takeHoliday_52 : decode cX0_takeHoliday 52 = .ok (.iload_n 2, 1) := by decide +kernel
theorem dX0_takeHoliday_53 : decode cX0_takeHoliday 53 = .ok (.isub, 1) := by decide +kernel
theorem dX0_takeHoliday_54 : decode cX0_takeHoliday 54 = .ok (.ireturn, 1) := by decide +kernel
set_option maxRecDepth 20000 in
theorem ggX0_holiday_X0_needOneOf : GoodIn wsX0_holiday wsX0_needOneOf := goodIn_ca (goodIn_r _ [4, 5, 6] (by decide +kernel) (by decide +kernel)) (goodIn_sub (fun _ h => List.mem_cons_of_mem _ (List.mem_append_right _ h)) (by decide +kernel))
set_option maxRecDepth 20000 in
theorem gX0_holiday_X0_needOneOf : GoodIn wsX0_holiday (va_wsS RX0 63 yX0_needOneOf wsX0_needOneOf) := goodIn_app (goodIn_of _ (by decide +kernel)) ggX0_holiday_X0_needOneOf
set_option maxRecDepth 20000 in
theorem ggX0_holiday_X0_minutesLeft : GoodIn wsX0_holiday wsX0_minutesLeft := goodIn_r _ [10, 11, 12, 13, 14, 15, 16, 3, 17, 18, 19, 20, 21, 22, 23, 24, 25, 26, 27, 28, 29, 30, 31, 32, 33] (by decide +kernel) (by decide +kernel)
set_option maxRecDepth 20000 in
theorem gX0_holiday_X0_minutesLeft : GoodIn wsX0_holiday (wsV RX0 83 RX0 yX0_minutesLeft wsX0_minutesLeft) := goodIn_app (goodIn_of _ (by decide +kernel)) ggX0_holiday_X0_minutesLeft
theorem dX0_holiday_0 : decode cX0_holiday 0 = .ok (.iload_n 1, 1) := by decide +kernel
theorem dX0_holiday_1 : decode cX0_holiday 1 = .ok (.bipush 6, 2) := by decide +kernel
theorem dX0_holiday_3 : decode cX0_holiday 3 = .ok (.invokestatic 63, 3) := by decide +kernel
theorem dX0_holiday_6 : decode cX0_holiday 6 = .ok (.aload_n 0, 1) := by decide +kernel
theorem dX0_holiday_7 : decode cX0_holiday 7 = .ok (.iload_n 1, 1) := by decide +kernel
theorem dX0_holiday_8 : decode cX0_holiday 8 = .ok (.invokevirtual 83, 3) := by decide +kernel
theorem dX0_holiday_11 : decode cX0_holiday 11 = .ok (.ireturn, 1) := by decide +kernel
theorem dX0_weekOf_0 : decode cX0_weekOf 0 = .ok (.iload_n 0, 1) := by decide +kernel
theorem dX0_weekOf_1 : decode cX0_weekOf 1 = .ok (.bipush 7, 2) := by decide +kernel
theorem dX0_weekOf_3 : decode cX0_weekOf 3 = .ok (.idiv, 1) := by decide +kernel
theorem dX0_weekOf_4 : decode cX0_weekOf 4 = .ok (.ireturn, 1) := by decide +kernel
set_option maxRecDepth 20000 in
theorem ggX0_isOfWorker_X0_at : GoodIn wsX0_isOfWorker wsX0_at := goodIn_r _ [6] (by decide +kernel) (by decide +kernel)
set_option maxRecDepth 20000 in
theorem gX0_isOfWorker_X0_at : GoodIn wsX0_isOfWorker (va_wsS RX0 79 yX0_at wsX0_at) := goodIn_app (goodIn_of _ (by decide +kernel)) ggX0_isOfWorker_X0_at
set_option maxRecDepth 20000 in
theorem ggX0_isOfWorker_X0_weekOf : GoodIn wsX0_isOfWorker wsX0_weekOf := goodIn_r _ [9] (by decide +kernel) (by decide +kernel)
set_option maxRecDepth 20000 in
theorem gX0_isOfWorker_X0_weekOf : GoodIn wsX0_isOfWorker (va_wsS RX0 100 yX0_weekOf wsX0_weekOf) := goodIn_app (goodIn_of _ (by decide +kernel)) ggX0_isOfWorker_X0_weekOf
theorem dX0_isOfWorker_0 : decode cX0_isOfWorker 0 = .ok (.aload_n 0, 1) := by decide +kernel
theorem dX0_isOfWorker_1 : decode cX0_isOfWorker 1 = .ok (.getfield 35, 3) := by decide +kernel
theorem dX0_isOfWorker_4 : decode cX0_isOfWorker 4 = .ok (.iload_n 1, 1) := by decide +kernel
theorem dX0_isOfWorker_5 : decode cX0_isOfWorker 5 = .ok (.invokestatic 79, 3) := by decide +kernel
theorem dX0_isOfWorker_8 : decode cX0_isOfWorker 8 = .ok (.iload_n 2, 1) := by decide +kernel
theorem dX0_isOfWorker_9 : decode cX0_isOfWorker 9 = .ok (.if_icmp .ne 22, 3) := by decide +kernel
theorem dX0_isOfWorker_12 : decode cX0_isOfWorker 12 = .ok (.aload_n 0, 1) := by decide +kernel
theorem dX0_isOfWorker_13 : decode cX0_isOfWorker 13 = .ok (.getfield 41, 3) := by decide +kernel
theorem dX0_isOfWorker_16 : decode cX0_isOfWorker 16 = .ok (.iload_n 1, 1) := by decide +kernel
theorem dX0_isOfWorker_17 : decode cX0_isOfWorker 17 = .ok (.invokestatic 79, 3) := by decide +kernel
theorem dX0_isOfWorker_20 : decode cX0_isOfWorker 20 = .ok (.invokestatic 100, 3) := by decide +kernel
theorem dX0_isOfWorker_23 : decode cX0_isOfWorker 23 = .ok (.iload_n 3, 1) := by decide +kernel
theorem dX0_isOfWorker_24 : decode cX0_isOfWorker 24 = .ok (.if_icmp .ne 7, 3) := by decide +kernel
theorem dX0_isOfWorker_27 : decode cX0_isOfWorker 27 = .ok (.iconst 1, 1) := by decide +kernel
theorem dX0_isOfWorker_28 : decode cX0_isOfWorker 28 = .ok (.goto 4, 3) := by decide +kernel
theorem dX0_isOfWorker_31 : decode cX0_isOfWorker 31 = .ok (.iconst 0, 1) := by decide +kernel
theorem dX0_isOfWorker_32 : decode cX0_isOfWorker 32 = .ok (.ireturn, 1) := by decide +kernel
set_option maxRecDepth 20000 in
theorem ggX0_isAtSite_X0_at : GoodIn wsX0_isAtSite wsX0_at := goodIn_r _ [6] (by decide +kernel) (by decide +kernel)
set_option maxRecDepth 20000 in
theorem gX0_isAtSite_X0_at : GoodIn wsX0_isAtSite (va_wsS RX0 79 yX0_at wsX0_at) := goodIn_app (goodIn_of _ (by decide +kernel)) ggX0_isAtSite_X0_at
set_option maxRecDepth 20000 in
theorem ggX0_isAtSite_X0_weekOf : GoodIn wsX0_isAtSite wsX0_weekOf := goodIn_r _ [9] (by decide +kernel) (by decide +kernel)
set_option maxRecDepth 20000 in
theorem gX0_isAtSite_X0_weekOf : GoodIn wsX0_isAtSite (va_wsS RX0 100 yX0_weekOf wsX0_weekOf) := goodIn_app (goodIn_of _ (by decide +kernel)) ggX0_isAtSite_X0_weekOf
theorem dX0_isAtSite_0 : decode cX0_isAtSite 0 = .ok (.aload_n 0, 1) := by decide +kernel
theorem dX0_isAtSite_1 : decode cX0_isAtSite 1 = .ok (.getfield 38, 3) := by decide +kernel
theorem dX0_isAtSite_4 : decode cX0_isAtSite 4 = .ok (.iload_n 1, 1) := by decide +kernel
theorem dX0_isAtSite_5 : decode cX0_isAtSite 5 = .ok (.invokestatic 79, 3) := by decide +kernel
theorem dX0_isAtSite_8 : decode cX0_isAtSite 8 = .ok (.iload_n 2, 1) := by decide +kernel
theorem dX0_isAtSite_9 : decode cX0_isAtSite 9 = .ok (.if_icmp .ne 22, 3) := by decide +kernel
theorem dX0_isAtSite_12 : decode cX0_isAtSite 12 = .ok (.aload_n 0, 1) := by decide +kernel
theorem dX0_isAtSite_13 : decode cX0_isAtSite 13 = .ok (.getfield 41, 3) := by decide +kernel
theorem dX0_isAtSite_16 : decode cX0_isAtSite 16 = .ok (.iload_n 1, 1) := by decide +kernel
theorem dX0_isAtSite_17 : decode cX0_isAtSite 17 = .ok (.invokestatic 79, 3) := by decide +kernel
theorem dX0_isAtSite_20 : decode cX0_isAtSite 20 = .ok (.invokestatic 100, 3) := by decide +kernel
theorem dX0_isAtSite_23 : decode cX0_isAtSite 23 = .ok (.iload_n 3, 1) := by decide +kernel
theorem dX0_isAtSite_24 : decode cX0_isAtSite 24 = .ok (.if_icmp .ne 7, 3) := by decide +kernel
theorem dX0_isAtSite_27 : decode cX0_isAtSite 27 = .ok (.iconst 1, 1) := by decide +kernel
theorem dX0_isAtSite_28 : decode cX0_isAtSite 28 = .ok (.goto 4, 3) := by decide +kernel
theorem dX0_isAtSite_31 : decode cX0_isAtSite 31 = .ok (.iconst 0, 1) := by decide +kernel
theorem dX0_isAtSite_32 : decode cX0_isAtSite 32 = .ok (.ireturn, 1) := by decide +kernel
set_option maxRecDepth 20000 in
theorem ggX0_hoursOnDay_X0_at : GoodIn wsX0_hoursOnDay wsX0_at := goodIn_r _ [8] (by decide +kernel) (by decide +kernel)
set_option maxRecDepth 20000 in
theorem gX0_hoursOnDay_X0_at : GoodIn wsX0_hoursOnDay (va_wsS RX0 79 yX0_at wsX0_at) := goodIn_app (goodIn_of _ (by decide +kernel)) ggX0_hoursOnDay_X0_at
theorem dX0_hoursOnDay_0 : decode cX0_hoursOnDay 0 = .ok (.iconst 0, 1) := by decide +kernel
theorem dX0_hoursOnDay_1 : decode cX0_hoursOnDay 1 = .ok (.istore_n 3, 1) := by decide +kernel
theorem dX0_hoursOnDay_2 : decode cX0_hoursOnDay 2 = .ok (.iconst 0, 1) := by decide +kernel
theorem dX0_hoursOnDay_3 : decode cX0_hoursOnDay 3 = .ok (.istore 4, 2) := by decide +kernel
theorem dX0_hoursOnDay_5 : decode cX0_hoursOnDay 5 = .ok (.iload 4, 2) := by decide +kernel
theorem dX0_hoursOnDay_7 : decode cX0_hoursOnDay 7 = .ok (.aload_n 0, 1) := by decide +kernel
theorem dX0_hoursOnDay_8 : decode cX0_hoursOnDay 8 = .ok (.getfield 32, 3) := by decide +kernel
theorem dX0_hoursOnDay_11 : decode cX0_hoursOnDay 11 = .ok (.if_icmp .ge 47, 3) := by decide +kernel
theorem dX0_hoursOnDay_14 : decode cX0_hoursOnDay 14 = .ok (.aload_n 0, 1) := by decide +kernel
theorem dX0_hoursOnDay_15 : decode cX0_hoursOnDay 15 = .ok (.getfield 35, 3) := by decide +kernel
theorem dX0_hoursOnDay_18 : decode cX0_hoursOnDay 18 = .ok (.iload 4, 2) := by decide +kernel
theorem dX0_hoursOnDay_20 : decode cX0_hoursOnDay 20 = .ok (.invokestatic 79, 3) := by decide +kernel
theorem dX0_hoursOnDay_23 : decode cX0_hoursOnDay 23 = .ok (.iload_n 1, 1) := by decide +kernel
theorem dX0_hoursOnDay_24 : decode cX0_hoursOnDay 24 = .ok (.if_icmp .ne 28, 3) := by decide +kernel
theorem dX0_hoursOnDay_27 : decode cX0_hoursOnDay 27 = .ok (.aload_n 0, 1) := by decide +kernel
theorem dX0_hoursOnDay_28 : decode cX0_hoursOnDay 28 = .ok (.getfield 41, 3) := by decide +kernel
theorem dX0_hoursOnDay_31 : decode cX0_hoursOnDay 31 = .ok (.iload 4, 2) := by decide +kernel
theorem dX0_hoursOnDay_33 : decode cX0_hoursOnDay 33 = .ok (.invokestatic 79, 3) := by decide +kernel
theorem dX0_hoursOnDay_36 : decode cX0_hoursOnDay 36 = .ok (.iload_n 2, 1) := by decide +kernel
theorem dX0_hoursOnDay_37 : decode cX0_hoursOnDay 37 = .ok (.if_icmp .ne 15, 3) := by decide +kernel
theorem dX0_hoursOnDay_40 : decode cX0_hoursOnDay 40 = .ok (.iload_n 3, 1) := by decide +kernel
theorem dX0_hoursOnDay_41 : decode cX0_hoursOnDay 41 = .ok (.aload_n 0, 1) := by decide +kernel
theorem dX0_hoursOnDay_42 : decode cX0_hoursOnDay 42 = .ok (.getfield 44, 3) := by decide +kernel
theorem dX0_hoursOnDay_45 : decode cX0_hoursOnDay 45 = .ok (.iload 4, 2) := by decide +kernel
theorem dX0_hoursOnDay_47 : decode cX0_hoursOnDay 47 = .ok (.invokestatic 79, 3) := by decide +kernel
theorem dX0_hoursOnDay_50 : decode cX0_hoursOnDay 50 = .ok (.iadd, 1) := by decide +kernel
theorem dX0_hoursOnDay_51 : decode cX0_hoursOnDay 51 = .ok (.istore_n 3, 1) := by decide +kernel
theorem dX0_hoursOnDay_52 : decode cX0_hoursOnDay 52 = .ok (.iinc 4 1, 3) := by decide +kernel
theorem dX0_hoursOnDay_55 : decode cX0_hoursOnDay 55 = .ok (.goto (-50), 3) := by decide +kernel
theorem dX0_hoursOnDay_58 : decode cX0_hoursOnDay 58 = .ok (.iload_n 3, 1) := by decide +kernel
theorem dX0_hoursOnDay_59 : decode cX0_hoursOnDay 59 = .ok (.ireturn, 1) := by decide +kernel
set_option maxRecDepth 20000 in
theorem ggX0_hoursAtSite_X0_isAtSite : GoodIn wsX0_hoursAtSite wsX0_isAtSite := goodIn_r _ [7, 8, 9, 10, 11, 6, 12, 13, 14, 15, 16, 17, 18, 19, 20, 21, 22, 23, 24, 25, 26, 27, 28, 29, 30, 31] (by decide +kernel) (by decide +kernel)
set_option maxRecDepth 20000 in
theorem gX0_hoursAtSite_X0_isAtSite : GoodIn wsX0_hoursAtSite (wsV RX0 119 RX0 yX0_isAtSite wsX0_isAtSite) := goodIn_app (goodIn_of _ (by decide +kernel)) ggX0_hoursAtSite_X0_isAtSite
set_option maxRecDepth 20000 in
theorem ggX0_hoursAtSite_X0_at : GoodIn wsX0_hoursAtSite wsX0_at := goodIn_r _ [12] (by decide +kernel) (by decide +kernel)
set_option maxRecDepth 20000 in
theorem gX0_hoursAtSite_X0_at : GoodIn wsX0_hoursAtSite (va_wsS RX0 79 yX0_at wsX0_at) := goodIn_app (goodIn_of _ (by decide +kernel)) ggX0_hoursAtSite_X0_at
theorem dX0_hoursAtSite_0 : decode cX0_hoursAtSite 0 = .ok (.iconst 0, 1) := by decide +kernel
theorem dX0_hoursAtSite_1 : decode cX0_hoursAtSite 1 = .ok (.istore_n 3, 1) := by decide +kernel
theorem dX0_hoursAtSite_2 : decode cX0_hoursAtSite 2 = .ok (.iconst 0, 1) := by decide +kernel
theorem dX0_hoursAtSite_3 : decode cX0_hoursAtSite 3 = .ok (.istore 4, 2) := by decide +kernel
theorem dX0_hoursAtSite_5 : decode cX0_hoursAtSite 5 = .ok (.iload 4, 2) := by decide +kernel
theorem dX0_hoursAtSite_7 : decode cX0_hoursAtSite 7 = .ok (.aload_n 0, 1) := by decide +kernel
theorem dX0_hoursAtSite_8 : decode cX0_hoursAtSite 8 = .ok (.getfield 32, 3) := by decide +kernel
theorem dX0_hoursAtSite_11 : decode cX0_hoursAtSite 11 = .ok (.if_icmp .ge 32, 3) := by decide +kernel
theorem dX0_hoursAtSite_14 : decode cX0_hoursAtSite 14 = .ok (.aload_n 0, 1) := by decide +kernel
theorem dX0_hoursAtSite_15 : decode cX0_hoursAtSite 15 = .ok (.iload 4, 2) := by decide +kernel
theorem dX0_hoursAtSite_17 : decode cX0_hoursAtSite 17 = .ok (.iload_n 1, 1) := by decide +kernel
theorem dX0_hoursAtSite_18 : decode cX0_hoursAtSite 18 = .ok (.iload_n 2, 1) := by decide +kernel
theorem dX0_hoursAtSite_19 : decode cX0_hoursAtSite 19 = .ok (.invokevirtual 119, 3) := by decide +kernel
theorem dX0_hoursAtSite_22 : decode cX0_hoursAtSite 22 = .ok (.ifCond .eq 15, 3) := by decide +kernel
theorem dX0_hoursAtSite_25 : decode cX0_hoursAtSite 25 = .ok (.iload_n 3, 1) := by decide +kernel
theorem dX0_hoursAtSite_26 : decode cX0_hoursAtSite 26 = .ok (.aload_n 0, 1) := by decide +kernel
theorem dX0_hoursAtSite_27 : decode cX0_hoursAtSite 27 = .ok (.getfield 44, 3) := by decide +kernel
theorem dX0_hoursAtSite_30 : decode cX0_hoursAtSite 30 = .ok (.iload 4, 2) := by decide +kernel
theorem dX0_hoursAtSite_32 : decode cX0_hoursAtSite 32 = .ok (.invokestatic 79, 3) := by decide +kernel
theorem dX0_hoursAtSite_35 : decode cX0_hoursAtSite 35 = .ok (.iadd, 1) := by decide +kernel
theorem dX0_hoursAtSite_36 : decode cX0_hoursAtSite 36 = .ok (.istore_n 3, 1) := by decide +kernel
theorem dX0_hoursAtSite_37 : decode cX0_hoursAtSite 37 = .ok (.iinc 4 1, 3) := by decide +kernel
theorem dX0_hoursAtSite_40 : decode cX0_hoursAtSite 40 = .ok (.goto (-35), 3) := by decide +kernel
theorem dX0_hoursAtSite_43 : decode cX0_hoursAtSite 43 = .ok (.iload_n 3, 1) := by decide +kernel
theorem dX0_hoursAtSite_44 : decode cX0_hoursAtSite 44 = .ok (.ireturn, 1) := by decide +kernel
set_option maxRecDepth 20000 in
theorem ggX0_minutesLeft_X0_at : GoodIn wsX0_minutesLeft wsX0_at := goodIn_r _ [8] (by decide +kernel) (by decide +kernel)
set_option maxRecDepth 20000 in
theorem gX0_minutesLeft_X0_at : GoodIn wsX0_minutesLeft (va_wsS RX0 79 yX0_at wsX0_at) := goodIn_app (goodIn_of _ (by decide +kernel)) ggX0_minutesLeft_X0_at
theorem dX0_minutesLeft_0 : decode cX0_minutesLeft 0 = .ok (.iconst 0, 1) := by decide +kernel
theorem dX0_minutesLeft_1 : decode cX0_minutesLeft 1 = .ok (.istore_n 2, 1) := by decide +kernel
theorem dX0_minutesLeft_2 : decode cX0_minutesLeft 2 = .ok (.iconst 0, 1) := by decide +kernel
theorem dX0_minutesLeft_3 : decode cX0_minutesLeft 3 = .ok (.istore_n 3, 1) := by decide +kernel
theorem dX0_minutesLeft_4 : decode cX0_minutesLeft 4 = .ok (.iload_n 3, 1) := by decide +kernel
theorem dX0_minutesLeft_5 : decode cX0_minutesLeft 5 = .ok (.aload_n 0, 1) := by decide +kernel
theorem dX0_minutesLeft_6 : decode cX0_minutesLeft 6 = .ok (.getfield 32, 3) := by decide +kernel
theorem dX0_minutesLeft_9 : decode cX0_minutesLeft 9 = .ok (.if_icmp .ge 32, 3) := by decide +kernel
theorem dX0_minutesLeft_12 : decode cX0_minutesLeft 12 = .ok (.aload_n 0, 1) := by decide +kernel
theorem dX0_minutesLeft_13 : decode cX0_minutesLeft 13 = .ok (.getfield 35, 3) := by decide +kernel
theorem dX0_minutesLeft_16 : decode cX0_minutesLeft 16 = .ok (.iload_n 3, 1) := by decide +kernel
theorem dX0_minutesLeft_17 : decode cX0_minutesLeft 17 = .ok (.invokestatic 79, 3) := by decide +kernel
theorem dX0_minutesLeft_20 : decode cX0_minutesLeft 20 = .ok (.iload_n 1, 1) := by decide +kernel
theorem dX0_minutesLeft_21 : decode cX0_minutesLeft 21 = .ok (.if_icmp .ne 14, 3) := by decide +kernel
theorem dX0_minutesLeft_24 : decode cX0_minutesLeft 24 = .ok (.iload_n 2, 1) := by decide +kernel
theorem dX0_minutesLeft_25 : decode cX0_minutesLeft 25 = .ok (.aload_n 0, 1) := by decide +kernel
theorem dX0_minutesLeft_26 : decode cX0_minutesLeft 26 = .ok (.getfield 44, 3) := by decide +kernel
theorem dX0_minutesLeft_29 : decode cX0_minutesLeft 29 = .ok (.iload_n 3, 1) := by decide +kernel
theorem dX0_minutesLeft_30 : decode cX0_minutesLeft 30 = .ok (.invokestatic 79, 3) := by decide +kernel
theorem dX0_minutesLeft_33 : decode cX0_minutesLeft 33 = .ok (.iadd, 1) := by decide +kernel
theorem dX0_minutesLeft_34 : decode cX0_minutesLeft 34 = .ok (.istore_n 2, 1) := by decide +kernel
theorem dX0_minutesLeft_35 : decode cX0_minutesLeft 35 = .ok (.iinc 3 1, 3) := by decide +kernel
theorem dX0_minutesLeft_38 : decode cX0_minutesLeft 38 = .ok (.goto (-34), 3) := by decide +kernel
theorem dX0_minutesLeft_41 : decode cX0_minutesLeft 41 = .ok (.bipush 7, 2) := by decide +kernel
theorem dX0_minutesLeft_43 : decode cX0_minutesLeft 43 = .ok (.iload_n 2, 1) := by decide +kernel
theorem dX0_minutesLeft_44 : decode cX0_minutesLeft 44 = .ok (.imul, 1) := by decide +kernel
theorem dX0_minutesLeft_45 : decode cX0_minutesLeft 45 = .ok (.aload_n 0, 1) := by decide +kernel
theorem dX0_minutesLeft_46 : decode cX0_minutesLeft 46 = .ok (.getfield 53, 3) := by decide +kernel
theorem dX0_minutesLeft_49 : decode cX0_minutesLeft 49 = .ok (.iload_n 1, 1) := by decide +kernel
theorem dX0_minutesLeft_50 : decode cX0_minutesLeft 50 = .ok (.invokestatic 79, 3) := by decide +kernel
theorem dX0_minutesLeft_53 : decode cX0_minutesLeft 53 = .ok (.isub, 1) := by decide +kernel
theorem dX0_minutesLeft_54 : decode cX0_minutesLeft 54 = .ok (.ireturn, 1) := by decide +kernel
set_option maxRecDepth 20000 in
theorem ggX0_overtimeHours_X0_fillAheadOnDay : GoodIn wsX0_overtimeHours wsX0_fillAheadOnDay := goodIn_r _ [15, 16, 3, 2, 17, 1, 18, 19, 14, 20, 21, 22, 23, 24, 25, 26, 27, 28, 29, 30, 38, 39, 40, 41, 42, 43, 44, 45, 46, 47, 48, 49, 50, 51, 52, 53] (by decide +kernel) (by decide +kernel)
set_option maxRecDepth 20000 in
theorem gX0_overtimeHours_X0_fillAheadOnDay : GoodIn wsX0_overtimeHours (wsV RX0 122 RX0 yX0_fillAheadOnDay wsX0_fillAheadOnDay) := goodIn_app (goodIn_of _ (by decide +kernel)) ggX0_overtimeHours_X0_fillAheadOnDay
set_option maxRecDepth 20000 in
theorem ggX0_overtimeHours_X0_at : GoodIn wsX0_overtimeHours wsX0_at := goodIn_r _ [20] (by decide +kernel) (by decide +kernel)
set_option maxRecDepth 20000 in
theorem gX0_overtimeHours_X0_at : GoodIn wsX0_overtimeHours (va_wsS RX0 79 yX0_at wsX0_at) := goodIn_app (goodIn_of _ (by decide +kernel)) ggX0_overtimeHours_X0_at
set_option maxRecDepth 20000 in
theorem ggX0_overtimeHours_X0_plainOfDay : GoodIn wsX0_overtimeHours wsX0_plainOfDay := goodIn_r _ [33, 8, 9, 6, 10] (by decide +kernel) (by decide +kernel)
set_option maxRecDepth 20000 in
theorem gX0_overtimeHours_X0_plainOfDay : GoodIn wsX0_overtimeHours (va_wsS RX0 126 yX0_plainOfDay wsX0_plainOfDay) := goodIn_app (goodIn_of _ (by decide +kernel)) ggX0_overtimeHours_X0_plainOfDay
set_option maxRecDepth 20000 in
theorem ggX0_overtimeHours_X0_plainByDayAhead : GoodIn wsX0_overtimeHours wsX0_plainByDayAhead := goodIn_r _ [37, 2, 18, 19, 14, 20, 31, 32, 33, 8, 9, 6, 10, 38, 39, 40, 41, 42, 43, 44, 45, 46, 47, 48, 49, 50, 51, 52, 53] (by decide +kernel) (by decide +kernel)
set_option maxRecDepth 20000 in
theorem gX0_overtimeHours_X0_plainByDayAhead : GoodIn wsX0_overtimeHours (wsV RX0 129 RX0 yX0_plainByDayAhead wsX0_plainByDayAhead) := goodIn_app (goodIn_of _ (by decide +kernel)) ggX0_overtimeHours_X0_plainByDayAhead
theorem dX0_overtimeHours_0 : decode cX0_overtimeHours 0 = .ok (.aload_n 0, 1) := by decide +kernel
theorem dX0_overtimeHours_1 : decode cX0_overtimeHours 1 = .ok (.iload_n 1, 1) := by decide +kernel
theorem dX0_overtimeHours_2 : decode cX0_overtimeHours 2 = .ok (.invokevirtual 122, 3) := by decide +kernel
theorem dX0_overtimeHours_5 : decode cX0_overtimeHours 5 = .ok (.aload_n 0, 1) := by decide +kernel
theorem dX0_overtimeHours_6 : decode cX0_overtimeHours 6 = .ok (.getfield 44, 3) := by decide +kernel
theorem dX0_overtimeHours_9 : decode cX0_overtimeHours 9 = .ok (.iload_n 1, 1) := by decide +kernel
theorem dX0_overtimeHours_10 : decode cX0_overtimeHours 10 = .ok (.invokestatic 79, 3) := by decide +kernel
theorem dX0_overtimeHours_13 : decode cX0_overtimeHours 13 = .ok (.istore_n 2, 1) := by decide +kernel
theorem dX0_overtimeHours_14 : decode cX0_overtimeHours 14 = .ok (.aload_n 0, 1) := by decide +kernel
theorem dX0_overtimeHours_15 : decode cX0_overtimeHours 15 = .ok (.getfield 56, 3) := by decide +kernel
theorem dX0_overtimeHours_18 : decode cX0_overtimeHours 18 = .ok (.aload_n 0, 1) := by decide +kernel
theorem dX0_overtimeHours_19 : decode cX0_overtimeHours 19 = .ok (.getfield 41, 3) := by decide +kernel
theorem dX0_overtimeHours_22 : decode cX0_overtimeHours 22 = .ok (.iload_n 1, 1) := by decide +kernel
theorem dX0_overtimeHours_23 : decode cX0_overtimeHours 23 = .ok (.invokestatic 79, 3) := by decide +kernel
theorem dX0_overtimeHours_26 : decode cX0_overtimeHours 26 = .ok (.bipush 7, 2) := by decide +kernel
theorem dX0_overtimeHours_28 : decode cX0_overtimeHours 28 = .ok (.irem, 1) := by decide +kernel
theorem dX0_overtimeHours_29 : decode cX0_overtimeHours 29 = .ok (.invokestatic 79, 3) := by decide +kernel
theorem dX0_overtimeHours_32 : decode cX0_overtimeHours 32 = .ok (.istore_n 3, 1) := by decide +kernel
theorem dX0_overtimeHours_33 : decode cX0_overtimeHours 33 = .ok (.iload_n 3, 1) := by decide +kernel
theorem dX0_overtimeHours_34 : decode cX0_overtimeHours 34 = .ok (.iload_n 2, 1) := by decide +kernel
theorem dX0_overtimeHours_35 : decode cX0_overtimeHours 35 = .ok (.iadd, 1) := by decide +kernel
theorem dX0_overtimeHours_36 : decode cX0_overtimeHours 36 = .ok (.invokestatic 126, 3) := by decide +kernel
theorem dX0_overtimeHours_39 : decode cX0_overtimeHours 39 = .ok (.iload_n 3, 1) := by decide +kernel
theorem dX0_overtimeHours_40 : decode cX0_overtimeHours 40 = .ok (.invokestatic 126, 3) := by decide +kernel
theorem dX0_overtimeHours_43 : decode cX0_overtimeHours 43 = .ok (.isub, 1) := by decide +kernel
theorem dX0_overtimeHours_44 : decode cX0_overtimeHours 44 = .ok (.istore 4, 2) := by decide +kernel
theorem dX0_overtimeHours_46 : decode cX0_overtimeHours 46 = .ok (.iconst 0, 1) := by decide +kernel
theorem dX0_overtimeHours_47 : decode cX0_overtimeHours 47 = .ok (.bipush 40, 2) := by decide +kernel
theorem dX0_overtimeHours_49 : decode cX0_overtimeHours 49 = .ok (.aload_n 0, 1) := by decide +kernel
theorem dX0_overtimeHours_50 : decode cX0_overtimeHours 50 = .ok (.invokevirtual 129, 3) := by decide +kernel
theorem dX0_overtimeHours_53 : decode cX0_overtimeHours 53 = .ok (.isub, 1) := by decide +kernel
theorem dX0_overtimeHours_54 : decode cX0_overtimeHours 54 = .ok (.invokestatic 133, 3) := by decide +kernel
theorem dX0_overtimeHours_57 : decode cX0_overtimeHours 57 = .ok (.istore 5, 2) := by decide +kernel
theorem dX0_overtimeHours_59 : decode cX0_overtimeHours 59 = .ok (.iload_n 2, 1) := by decide +kernel
theorem dX0_overtimeHours_60 : decode cX0_overtimeHours 60 = .ok (.iload 4, 2) := by decide +kernel
theorem dX0_overtimeHours_62 : decode cX0_overtimeHours 62 = .ok (.iload 5, 2) := by decide +kernel
theorem dX0_overtimeHours_64 : decode cX0_overtimeHours 64 = .ok (.invokestatic 138, 3) := by decide +kernel
theorem dX0_overtimeHours_67 : decode cX0_overtimeHours 67 = .ok (.isub, 1) := by decide +kernel
theorem dX0_overtimeHours_68 : decode cX0_overtimeHours 68 = .ok (.ireturn, 1) := by decide +kernel
set_option maxRecDepth 20000 in
theorem ggX0_fillAheadOnDay_X0_at : GoodIn wsX0_fillAheadOnDay wsX0_at := goodIn_r _ [9] (by decide +kernel) (by decide +kernel)
set_option maxRecDepth 20000 in
theorem gX0_fillAheadOnDay_X0_at : GoodIn wsX0_fillAheadOnDay (va_wsS RX0 79 yX0_at wsX0_at) := goodIn_app (goodIn_of _ (by decide +kernel)) ggX0_fillAheadOnDay_X0_at
set_option maxRecDepth 20000 in
theorem ggX0_fillAheadOnDay_X0_weekOf : GoodIn wsX0_fillAheadOnDay wsX0_weekOf := goodIn_r _ [12] (by decide +kernel) (by decide +kernel)
set_option maxRecDepth 20000 in
theorem gX0_fillAheadOnDay_X0_weekOf : GoodIn wsX0_fillAheadOnDay (va_wsS RX0 100 yX0_weekOf wsX0_weekOf) := goodIn_app (goodIn_of _ (by decide +kernel)) ggX0_fillAheadOnDay_X0_weekOf
set_option maxRecDepth 20000 in
theorem ggX0_fillAheadOnDay_X0_put : GoodIn wsX0_fillAheadOnDay wsX0_put := goodIn_r _ [15] (by decide +kernel) (by decide +kernel)
set_option maxRecDepth 20000 in
theorem gX0_fillAheadOnDay_X0_put : GoodIn wsX0_fillAheadOnDay (va_wsS RX0 59 yX0_put wsX0_put) := goodIn_app (goodIn_of _ (by decide +kernel)) ggX0_fillAheadOnDay_X0_put
set_option maxRecDepth 20000 in
theorem ggX0_fillAheadOnDay_X0_isOfWorker : GoodIn wsX0_fillAheadOnDay wsX0_isOfWorker := goodIn_r _ [19, 1, 2, 6, 7, 8, 9, 10, 11, 12, 20, 21, 22, 23, 24, 25, 26, 27, 28, 29, 30, 31, 32, 33, 34, 35] (by decide +kernel) (by decide +kernel)
set_option maxRecDepth 20000 in
theorem gX0_fillAheadOnDay_X0_isOfWorker : GoodIn wsX0_fillAheadOnDay (wsV RX0 87 RX0 yX0_isOfWorker wsX0_isOfWorker) := goodIn_app (goodIn_of _ (by decide +kernel)) ggX0_fillAheadOnDay_X0_isOfWorker
theorem dX0_fillAheadOnDay_0 : decode cX0_fillAheadOnDay 0 = .ok (.aload_n 0, 1) := by decide +kernel
theorem dX0_fillAheadOnDay_1 : decode cX0_fillAheadOnDay 1 = .ok (.getfield 35, 3) := by decide +kernel
theorem dX0_fillAheadOnDay_4 : decode cX0_fillAheadOnDay 4 = .ok (.iload_n 1, 1) := by decide +kernel
theorem dX0_fillAheadOnDay_5 : decode cX0_fillAheadOnDay 5 = .ok (.invokestatic 79, 3) := by decide +kernel
theorem dX0_fillAheadOnDay_8 : decode cX0_fillAheadOnDay 8 = .ok (.istore_n 2, 1) := by decide +kernel
theorem dX0_fillAheadOnDay_9 : decode cX0_fillAheadOnDay 9 = .ok (.aload_n 0, 1) := by decide +kernel
theorem dX0_fillAheadOnDay_10 : decode cX0_fillAheadOnDay 10 = .ok (.getfield 41, 3) := by decide +kernel
theorem dX0_fillAheadOnDay_13 : decode cX0_fillAheadOnDay 13 = .ok (.iload_n 1, 1) := by decide +kernel
theorem dX0_fillAheadOnDay_14 : decode cX0_fillAheadOnDay 14 = .ok (.invokestatic 79, 3) := by decide +kernel
theorem dX0_fillAheadOnDay_17 : decode cX0_fillAheadOnDay 17 = .ok (.istore_n 3, 1) := by decide +kernel
theorem dX0_fillAheadOnDay_18 : decode cX0_fillAheadOnDay 18 = .ok (.iload_n 3, 1) := by decide +kernel
theorem dX0_fillAheadOnDay_19 : decode cX0_fillAheadOnDay 19 = .ok (.invokestatic 100, 3) := by decide +kernel
theorem dX0_fillAheadOnDay_22 : decode cX0_fillAheadOnDay 22 = .ok (.istore 4, 2) := by decide +kernel
theorem dX0_fillAheadOnDay_24 : decode cX0_fillAheadOnDay 24 = .ok (.iconst 0, 1) := by decide +kernel
theorem dX0_fillAheadOnDay_25 : decode cX0_fillAheadOnDay 25 = .ok (.istore 5, 2) := by decide +kernel
theorem dX0_fillAheadOnDay_27 : decode cX0_fillAheadOnDay 27 = .ok (.iload 5, 2) := by decide +kernel
theorem dX0_fillAheadOnDay_29 : decode cX0_fillAheadOnDay 29 = .ok (.bipush 7, 2) := by decide +kernel
theorem dX0_fillAheadOnDay_31 : decode cX0_fillAheadOnDay 31 = .ok (.if_icmp .ge 19, 3) := by decide +kernel
theorem dX0_fillAheadOnDay_34 : decode cX0_fillAheadOnDay 34 = .ok (.aload_n 0, 1) := by decide +kernel
theorem dX0_fillAheadOnDay_35 : decode cX0_fillAheadOnDay 35 = .ok (.getfield 56, 3) := by decide +kernel
theorem dX0_fillAheadOnDay_38 : decode cX0_fillAheadOnDay 38 = .ok (.iload 5, 2) := by decide +kernel
theorem dX0_fillAheadOnDay_40 : decode cX0_fillAheadOnDay 40 = .ok (.iconst 0, 1) := by decide +kernel
theorem dX0_fillAheadOnDay_41 : decode cX0_fillAheadOnDay 41 = .ok (.invokestatic 59, 3) := by decide +kernel
theorem dX0_fillAheadOnDay_44 : decode cX0_fillAheadOnDay 44 = .ok (.iinc 5 1, 3) := by decide +kernel
theorem dX0_fillAheadOnDay_47 : decode cX0_fillAheadOnDay 47 = .ok (.goto (-20), 3) := by decide +kernel
theorem dX0_fillAheadOnDay_50 : decode cX0_fillAheadOnDay 50 = .ok (.iconst 0, 1) := by decide +kernel
theorem dX0_fillAheadOnDay_51 : decode cX0_fillAheadOnDay 51 = .ok (.istore 5, 2) := by decide +kernel
theorem dX0_fillAheadOnDay_53 : decode cX0_fillAheadOnDay 53 = .ok (.iload 5, 2) := by decide +kernel
theorem dX0_fillAheadOnDay_55 : decode cX0_fillAheadOnDay 55 = .ok (.aload_n 0, 1) := by decide +kernel
theorem dX0_fillAheadOnDay_56 : decode cX0_fillAheadOnDay 56 = .ok (.getfield 32, 3) := by decide +kernel
theorem dX0_fillAheadOnDay_59 : decode cX0_fillAheadOnDay 59 = .ok (.if_icmp .ge 97, 3) := by decide +kernel
theorem dX0_fillAheadOnDay_62 : decode cX0_fillAheadOnDay 62 = .ok (.aload_n 0, 1) := by decide +kernel
theorem dX0_fillAheadOnDay_63 : decode cX0_fillAheadOnDay 63 = .ok (.getfield 41, 3) := by decide +kernel
theorem dX0_fillAheadOnDay_66 : decode cX0_fillAheadOnDay 66 = .ok (.iload 5, 2) := by decide +kernel
theorem dX0_fillAheadOnDay_68 : decode cX0_fillAheadOnDay 68 = .ok (.invokestatic 79, 3) := by decide +kernel
theorem dX0_fillAheadOnDay_71 : decode cX0_fillAheadOnDay 71 = .ok (.istore 6, 2) := by decide +kernel
theorem dX0_fillAheadOnDay_73 : decode cX0_fillAheadOnDay 73 = .ok (.iload 6, 2) := by decide +kernel
theorem dX0_fillAheadOnDay_75 : decode cX0_fillAheadOnDay 75 = .ok (.iload_n 3, 1) := by decide +kernel
theorem dX0_fillAheadOnDay_76 : decode cX0_fillAheadOnDay 76 = .ok (.if_icmp .lt 15, 3) := by decide +kernel
theorem dX0_fillAheadOnDay_79 : decode cX0_fillAheadOnDay 79 = .ok (.iload 6, 2) := by decide +kernel
theorem dX0_fillAheadOnDay_81 : decode cX0_fillAheadOnDay 81 = .ok (.iload_n 3, 1) := by decide +kernel
theorem dX0_fillAheadOnDay_82 : decode cX0_fillAheadOnDay 82 = .ok (.if_icmp .ne 13, 3) := by decide +kernel
theorem dX0_fillAheadOnDay_85 : decode cX0_fillAheadOnDay 85 = .ok (.iload 5, 2) := by decide +kernel
theorem dX0_fillAheadOnDay_87 : decode cX0_fillAheadOnDay 87 = .ok (.iload_n 1, 1) := by decide +kernel
theorem dX0_fillAheadOnDay_88 : decode cX0_fillAheadOnDay 88 = .ok (.if_icmp .ge 7, 3) := by decide +kernel
theorem dX0_fillAheadOnDay_91 : decode cX0_fillAheadOnDay 91 = .ok (.iconst 1, 1) := by decide +kernel
theorem dX0_fillAheadOnDay_92 : decode cX0_fillAheadOnDay 92 = .ok (.goto 4, 3) := by decide +kernel
theorem dX0_fillAheadOnDay_95 : decode cX0_fillAheadOnDay 95 = .ok (.iconst 0, 1) := by decide +kernel
theorem dX0_fillAheadOnDay_96 : decode cX0_fillAheadOnDay 96 = .ok (.istore 7, 2) := by decide +kernel
theorem dX0_fillAheadOnDay_98 : decode cX0_fillAheadOnDay 98 = .ok (.iload 7, 2) := by decide +kernel
theorem dX0_fillAheadOnDay_100 : decode cX0_fillAheadOnDay 100 = .ok (.ifCond .eq 50, 3) := by decide +kernel
theorem dX0_fillAheadOnDay_103 : decode cX0_fillAheadOnDay 103 = .ok (.aload_n 0, 1) := by decide +kernel
theorem dX0_fillAheadOnDay_104 : decode cX0_fillAheadOnDay 104 = .ok (.iload 5, 2) := by decide +kernel
theorem dX0_fillAheadOnDay_106 : decode cX0_fillAheadOnDay 106 = .ok (.iload_n 2, 1) := by decide +kernel
theorem dX0_fillAheadOnDay_107 : decode cX0_fillAheadOnDay 107 = .ok (.iload 4, 2) := by decide +kernel
theorem dX0_fillAheadOnDay_109 : decode cX0_fillAheadOnDay 109 = .ok (.invokevirtual 87, 3) := by decide +kernel
theorem dX0_fillAheadOnDay_112 : decode cX0_fillAheadOnDay 112 = .ok (.ifCond .eq 38, 3) := by decide +kernel
theorem dX0_fillAheadOnDay_115 : decode cX0_fillAheadOnDay 115 = .ok (.iload 6, 2) := by decide +kernel
theorem dX0_fillAheadOnDay_117 : decode cX0_fillAheadOnDay 117 = .ok (.bipush 7, 2) := by decide +kernel
theorem dX0_fillAheadOnDay_119 : decode cX0_fillAheadOnDay 119 = .ok (.irem, 1) := by decide +kernel
theorem dX0_fillAheadOnDay_120 : decode cX0_fillAheadOnDay 120 = .ok (.istore 8, 2) := by decide +kernel
theorem dX0_fillAheadOnDay_122 : decode cX0_fillAheadOnDay 122 = .ok (.aload_n 0, 1) := by decide +kernel
theorem dX0_fillAheadOnDay_123 : decode cX0_fillAheadOnDay 123 = .ok (.getfield 56, 3) := by decide +kernel
theorem dX0_fillAheadOnDay_126 : decode cX0_fillAheadOnDay 126 = .ok (.iload 8, 2) := by decide +kernel
theorem dX0_fillAheadOnDay_128 : decode cX0_fillAheadOnDay 128 = .ok (.aload_n 0, 1) := by decide +kernel
theorem dX0_fillAheadOnDay_129 : decode cX0_fillAheadOnDay 129 = .ok (.getfield 56, 3) := by decide +kernel
theorem dX0_fillAheadOnDay_132 : decode cX0_fillAheadOnDay 132 = .ok (.iload 8, 2) := by decide +kernel
theorem dX0_fillAheadOnDay_134 : decode cX0_fillAheadOnDay 134 = .ok (.invokestatic 79, 3) := by decide +kernel
theorem dX0_fillAheadOnDay_137 : decode cX0_fillAheadOnDay 137 = .ok (.aload_n 0, 1) := by decide +kernel
theorem dX0_fillAheadOnDay_138 : decode cX0_fillAheadOnDay 138 = .ok (.getfield 44, 3) := by decide +kernel
theorem dX0_fillAheadOnDay_141 : decode cX0_fillAheadOnDay 141 = .ok (.iload 5, 2) := by decide +kernel
theorem dX0_fillAheadOnDay_143 : decode cX0_fillAheadOnDay 143 = .ok (.invokestatic 79, 3) := by decide +kernel
theorem dX0_fillAheadOnDay_146 : decode cX0_fillAheadOnDay 146 = .ok (.iadd, 1) := by decide +kernel
theorem dX0_fillAheadOnDay_147 : decode cX0_fillAheadOnDay 147 = .ok (.invokestatic 59, 3) := by decide +kernel
theorem dX0_fillAheadOnDay_150 : decode cX0_fillAheadOnDay 150 = .ok (.iinc 5 1, 3) := by decide +kernel
theorem dX0_fillAheadOnDay_153 : decode cX0_fillAheadOnDay 153 = .ok (.goto (-100), 3) := by decide +kernel
theorem dX0_fillAheadOnDay_156 : decode cX0_fillAheadOnDay 156 = .ok (.return_, 1) := by decide +kernel
set_option maxRecDepth 20000 in
theorem ggX0_plainByDayAhead_X0_at : GoodIn wsX0_plainByDayAhead wsX0_at := goodIn_r _ [5] (by decide +kernel) (by decide +kernel)
set_option maxRecDepth 20000 in
theorem gX0_plainByDayAhead_X0_at : GoodIn wsX0_plainByDayAhead (va_wsS RX0 79 yX0_at wsX0_at) := goodIn_app (goodIn_of _ (by decide +kernel)) ggX0_plainByDayAhead_X0_at
set_option maxRecDepth 20000 in
theorem ggX0_plainByDayAhead_X0_plainOfDay : GoodIn wsX0_plainByDayAhead wsX0_plainOfDay := goodIn_r _ [8, 9, 10, 11, 12] (by decide +kernel) (by decide +kernel)
set_option maxRecDepth 20000 in
theorem gX0_plainByDayAhead_X0_plainOfDay : GoodIn wsX0_plainByDayAhead (va_wsS RX0 126 yX0_plainOfDay wsX0_plainOfDay) := goodIn_app (goodIn_of _ (by decide +kernel)) ggX0_plainByDayAhead_X0_plainOfDay
theorem dX0_plainByDayAhead_0 : decode cX0_plainByDayAhead 0 = .ok (.iconst 0, 1) := by decide +kernel
theorem dX0_plainByDayAhead_1 : decode cX0_plainByDayAhead 1 = .ok (.istore_n 1, 1) := by decide +kernel
theorem dX0_plainByDayAhead_2 : decode cX0_plainByDayAhead 2 = .ok (.iconst 0, 1) := by decide +kernel
theorem dX0_plainByDayAhead_3 : decode cX0_plainByDayAhead 3 = .ok (.istore_n 2, 1) := by decide +kernel
theorem dX0_plainByDayAhead_4 : decode cX0_plainByDayAhead 4 = .ok (.iload_n 2, 1) := by decide +kernel
theorem dX0_plainByDayAhead_5 : decode cX0_plainByDayAhead 5 = .ok (.bipush 7, 2) := by decide +kernel
theorem dX0_plainByDayAhead_7 : decode cX0_plainByDayAhead 7 = .ok (.if_icmp .ge 23, 3) := by decide +kernel
theorem dX0_plainByDayAhead_10 : decode cX0_plainByDayAhead 10 = .ok (.iload_n 1, 1) := by decide +kernel
theorem dX0_plainByDayAhead_11 : decode cX0_plainByDayAhead 11 = .ok (.aload_n 0, 1) := by decide +kernel
theorem dX0_plainByDayAhead_12 : decode cX0_plainByDayAhead 12 = .ok (.getfield 56, 3) := by decide +kernel
theorem dX0_plainByDayAhead_15 : decode cX0_plainByDayAhead 15 = .ok (.iload_n 2, 1) := by decide +kernel
theorem dX0_plainByDayAhead_16 : decode cX0_plainByDayAhead 16 = .ok (.invokestatic 79, 3) := by decide +kernel
theorem dX0_plainByDayAhead_19 : decode cX0_plainByDayAhead 19 = .ok (.invokestatic 126, 3) := by decide +kernel
theorem dX0_plainByDayAhead_22 : decode cX0_plainByDayAhead 22 = .ok (.iadd, 1) := by decide +kernel
theorem dX0_plainByDayAhead_23 : decode cX0_plainByDayAhead 23 = .ok (.istore_n 1, 1) := by decide +kernel
theorem dX0_plainByDayAhead_24 : decode cX0_plainByDayAhead 24 = .ok (.iinc 2 1, 3) := by decide +kernel
theorem dX0_plainByDayAhead_27 : decode cX0_plainByDayAhead 27 = .ok (.goto (-23), 3) := by decide +kernel
theorem dX0_plainByDayAhead_30 : decode cX0_plainByDayAhead 30 = .ok (.iload_n 1, 1) := by decide +kernel
theorem dX0_plainByDayAhead_31 : decode cX0_plainByDayAhead 31 = .ok (.ireturn, 1) := by decide +kernel
theorem dX0_plainOfDay_0 : decode cX0_plainOfDay 0 = .ok (.bipush 8, 2) := by decide +kernel
theorem dX0_plainOfDay_2 : decode cX0_plainOfDay 2 = .ok (.iload_n 0, 1) := by decide +kernel
theorem dX0_plainOfDay_3 : decode cX0_plainOfDay 3 = .ok (.invokestatic 138, 3) := by decide +kernel
theorem dX0_plainOfDay_6 : decode cX0_plainOfDay 6 = .ok (.ireturn, 1) := by decide +kernel
set_option maxRecDepth 20000 in
theorem ggX0_isEqual_X0_weeksWorked : GoodIn wsX0_isEqual wsX0_weeksWorked := goodIn_r _ [7, 8, 9, 10, 11, 12, 13, 14, 6, 15, 16, 17, 18, 19, 20, 21, 22, 23, 24, 25, 26, 27, 28, 29, 30, 31, 32, 33, 34] (by decide +kernel) (by decide +kernel)
set_option maxRecDepth 20000 in
theorem gX0_isEqual_X0_weeksWorked : GoodIn wsX0_isEqual (wsV RX0 141 RX0 yX0_weeksWorked wsX0_weeksWorked) := goodIn_app (goodIn_of _ (by decide +kernel)) ggX0_isEqual_X0_weeksWorked
theorem dX0_isEqual_0 : decode cX0_isEqual 0 = .ok (.aload_n 0, 1) := by decide +kernel
theorem dX0_isEqual_1 : decode cX0_isEqual 1 = .ok (.iload_n 1, 1) := by decide +kernel
theorem dX0_isEqual_2 : decode cX0_isEqual 2 = .ok (.iload_n 2, 1) := by decide +kernel
theorem dX0_isEqual_3 : decode cX0_isEqual 3 = .ok (.invokevirtual 141, 3) := by decide +kernel
theorem dX0_isEqual_6 : decode cX0_isEqual 6 = .ok (.istore 4, 2) := by decide +kernel
theorem dX0_isEqual_8 : decode cX0_isEqual 8 = .ok (.iconst 0, 1) := by decide +kernel
theorem dX0_isEqual_9 : decode cX0_isEqual 9 = .ok (.istore 5, 2) := by decide +kernel
theorem dX0_isEqual_11 : decode cX0_isEqual 11 = .ok (.iconst 0, 1) := by decide +kernel
theorem dX0_isEqual_12 : decode cX0_isEqual 12 = .ok (.istore 6, 2) := by decide +kernel
theorem dX0_isEqual_14 : decode cX0_isEqual 14 = .ok (.iload_n 3, 1) := by decide +kernel
theorem dX0_isEqual_15 : decode cX0_isEqual 15 = .ok (.iconst 1, 1) := by decide +kernel
theorem dX0_isEqual_16 : decode cX0_isEqual 16 = .ok (.isub, 1) := by decide +kernel
theorem dX0_isEqual_17 : decode cX0_isEqual 17 = .ok (.istore 7, 2) := by decide +kernel
theorem dX0_isEqual_19 : decode cX0_isEqual 19 = .ok (.iload 7, 2) := by decide +kernel
theorem dX0_isEqual_21 : decode cX0_isEqual 21 = .ok (.ifCond .lt 41, 3) := by decide +kernel
theorem dX0_isEqual_24 : decode cX0_isEqual 24 = .ok (.iload 6, 2) := by decide +kernel
theorem dX0_isEqual_26 : decode cX0_isEqual 26 = .ok (.aload_n 0, 1) := by decide +kernel
theorem dX0_isEqual_27 : decode cX0_isEqual 27 = .ok (.getfield 29, 3) := by decide +kernel
theorem dX0_isEqual_30 : decode cX0_isEqual 30 = .ok (.if_icmp .gt 32, 3) := by decide +kernel
theorem dX0_isEqual_33 : decode cX0_isEqual 33 = .ok (.iload 4, 2) := by decide +kernel
theorem dX0_isEqual_35 : decode cX0_isEqual 35 = .ok (.iload 7, 2) := by decide +kernel
theorem dX0_isEqual_37 : decode cX0_isEqual 37 = .ok (.ishr, 1) := by decide +kernel
theorem dX0_isEqual_38 : decode cX0_isEqual 38 = .ok (.iconst 1, 1) := by decide +kernel
theorem dX0_isEqual_39 : decode cX0_isEqual 39 = .ok (.iand, 1) := by decide +kernel
theorem dX0_isEqual_40 : decode cX0_isEqual 40 = .ok (.iconst 1, 1) := by decide +kernel
theorem dX0_isEqual_41 : decode cX0_isEqual 41 = .ok (.if_icmp .ne 12, 3) := by decide +kernel
theorem dX0_isEqual_44 : decode cX0_isEqual 44 = .ok (.iinc 5 1, 3) := by decide +kernel
theorem dX0_isEqual_47 : decode cX0_isEqual 47 = .ok (.iconst 0, 1) := by decide +kernel
theorem dX0_isEqual_48 : decode cX0_isEqual 48 = .ok (.istore 6, 2) := by decide +kernel
theorem dX0_isEqual_50 : decode cX0_isEqual 50 = .ok (.goto 6, 3) := by decide +kernel
theorem dX0_isEqual_53 : decode cX0_isEqual 53 = .ok (.iinc 6 1, 3) := by decide +kernel
theorem dX0_isEqual_56 : decode cX0_isEqual 56 = .ok (.iinc 7 (-1), 3) := by decide +kernel
theorem dX0_isEqual_59 : decode cX0_isEqual 59 = .ok (.goto (-40), 3) := by decide +kernel
theorem dX0_isEqual_62 : decode cX0_isEqual 62 = .ok (.iload 5, 2) := by decide +kernel
theorem dX0_isEqual_64 : decode cX0_isEqual 64 = .ok (.aload_n 0, 1) := by decide +kernel
theorem dX0_isEqual_65 : decode cX0_isEqual 65 = .ok (.getfield 25, 3) := by decide +kernel
theorem dX0_isEqual_68 : decode cX0_isEqual 68 = .ok (.if_icmp .lt 7, 3) := by decide +kernel
theorem dX0_isEqual_71 : decode cX0_isEqual 71 = .ok (.iconst 1, 1) := by decide +kernel
theorem dX0_isEqual_72 : decode cX0_isEqual 72 = .ok (.goto 4, 3) := by decide +kernel
theorem dX0_isEqual_75 : decode cX0_isEqual 75 = .ok (.iconst 0, 1) := by decide +kernel
theorem dX0_isEqual_76 : decode cX0_isEqual 76 = .ok (.ireturn, 1) := by decide +kernel
set_option maxRecDepth 20000 in
theorem ggX0_weeksWorked_X0_at : GoodIn wsX0_weeksWorked wsX0_at := goodIn_r _ [9] (by decide +kernel) (by decide +kernel)
set_option maxRecDepth 20000 in
theorem gX0_weeksWorked_X0_at : GoodIn wsX0_weeksWorked (va_wsS RX0 79 yX0_at wsX0_at) := goodIn_app (goodIn_of _ (by decide +kernel)) ggX0_weeksWorked_X0_at
set_option maxRecDepth 20000 in
theorem ggX0_weeksWorked_X0_weekOf : GoodIn wsX0_weeksWorked wsX0_weekOf := goodIn_r _ [12] (by decide +kernel) (by decide +kernel)
set_option maxRecDepth 20000 in
theorem gX0_weeksWorked_X0_weekOf : GoodIn wsX0_weeksWorked (va_wsS RX0 100 yX0_weekOf wsX0_weekOf) := goodIn_app (goodIn_of _ (by decide +kernel)) ggX0_weeksWorked_X0_weekOf
theorem dX0_weeksWorked_0 : decode cX0_weeksWorked 0 = .ok (.iconst 0, 1) := by decide +kernel
theorem dX0_weeksWorked_1 : decode cX0_weeksWorked 1 = .ok (.istore_n 3, 1) := by decide +kernel
theorem dX0_weeksWorked_2 : decode cX0_weeksWorked 2 = .ok (.iconst 0, 1) := by decide +kernel
theorem dX0_weeksWorked_3 : decode cX0_weeksWorked 3 = .ok (.istore 4, 2) := by decide +kernel
theorem dX0_weeksWorked_5 : decode cX0_weeksWorked 5 = .ok (.iload 4, 2) := by decide +kernel
theorem dX0_weeksWorked_7 : decode cX0_weeksWorked 7 = .ok (.aload_n 0, 1) := by decide +kernel
theorem dX0_weeksWorked_8 : decode cX0_weeksWorked 8 = .ok (.getfield 32, 3) := by decide +kernel
theorem dX0_weeksWorked_11 : decode cX0_weeksWorked 11 = .ok (.if_icmp .ge 65, 3) := by decide +kernel
theorem dX0_weeksWorked_14 : decode cX0_weeksWorked 14 = .ok (.aload_n 0, 1) := by decide +kernel
theorem dX0_weeksWorked_15 : decode cX0_weeksWorked 15 = .ok (.getfield 35, 3) := by decide +kernel
theorem dX0_weeksWorked_18 : decode cX0_weeksWorked 18 = .ok (.iload 4, 2) := by decide +kernel
theorem dX0_weeksWorked_20 : decode cX0_weeksWorked 20 = .ok (.invokestatic 79, 3) := by decide +kernel
theorem dX0_weeksWorked_23 : decode cX0_weeksWorked 23 = .ok (.iload_n 1, 1) := by decide +kernel
theorem dX0_weeksWorked_24 : decode cX0_weeksWorked 24 = .ok (.if_icmp .ne 46, 3) := by decide +kernel
theorem dX0_weeksWorked_27 : decode cX0_weeksWorked 27 = .ok (.aload_n 0, 1) := by decide +kernel
theorem dX0_weeksWorked_28 : decode cX0_weeksWorked 28 = .ok (.getfield 38, 3) := by decide +kernel
theorem dX0_weeksWorked_31 : decode cX0_weeksWorked 31 = .ok (.iload 4, 2) := by decide +kernel
theorem dX0_weeksWorked_33 : decode cX0_weeksWorked 33 = .ok (.invokestatic 79, 3) := by decide +kernel
theorem dX0_weeksWorked_36 : decode cX0_weeksWorked 36 = .ok (.iload_n 2, 1) := by decide +kernel
theorem dX0_weeksWorked_37 : decode cX0_weeksWorked 37 = .ok (.if_icmp .ne 33, 3) := by decide +kernel
theorem dX0_weeksWorked_40 : decode cX0_weeksWorked 40 = .ok (.aload_n 0, 1) := by decide +kernel
theorem dX0_weeksWorked_41 : decode cX0_weeksWorked 41 = .ok (.getfield 44, 3) := by decide +kernel
theorem dX0_weeksWorked_44 : decode cX0_weeksWorked 44 = .ok (.iload 4, 2) := by decide +kernel
theorem dX0_weeksWorked_46 : decode cX0_weeksWorked 46 = .ok (.invokestatic 79, 3) := by decide +kernel
theorem dX0_weeksWorked_49 : decode cX0_weeksWorked 49 = .ok (.iconst 1, 1) := by decide +kernel
theorem dX0_weeksWorked_50 : decode cX0_weeksWorked 50 = .ok (.if_icmp .lt 20, 3) := by decide +kernel
theorem dX0_weeksWorked_53 : decode cX0_weeksWorked 53 = .ok (.iload_n 3, 1) := by decide +kernel
theorem dX0_weeksWorked_54 : decode cX0_weeksWorked 54 = .ok (.iconst 1, 1) := by decide +kernel
theorem dX0_weeksWorked_55 : decode cX0_weeksWorked 55 = .ok (.aload_n 0, 1) := by decide +kernel
theorem dX0_weeksWorked_56 : decode cX0_weeksWorked 56 = .ok (.getfield 41, 3) := by decide +kernel
theorem dX0_weeksWorked_59 : decode cX0_weeksWorked 59 = .ok (.iload 4, 2) := by decide +kernel
theorem dX0_weeksWorked_61 : decode cX0_weeksWorked 61 = .ok (.invokestatic 79, 3) := by decide +kernel
theorem dX0_weeksWorked_64 : decode cX0_weeksWorked 64 = .ok (.invokestatic 100, 3) := by decide +kernel
theorem dX0_weeksWorked_67 : decode cX0_weeksWorked 67 = .ok (.ishl, 1) := by decide +kernel
theorem dX0_weeksWorked_68 : decode cX0_weeksWorked 68 = .ok (.ior, 1) := by decide +kernel
theorem dX0_weeksWorked_69 : decode cX0_weeksWorked 69 = .ok (.istore_n 3, 1) := by decide +kernel
theorem dX0_weeksWorked_70 : decode cX0_weeksWorked 70 = .ok (.iinc 4 1, 3) := by decide +kernel
theorem dX0_weeksWorked_73 : decode cX0_weeksWorked 73 = .ok (.goto (-68), 3) := by decide +kernel
theorem dX0_weeksWorked_76 : decode cX0_weeksWorked 76 = .ok (.iload_n 3, 1) := by decide +kernel
theorem dX0_weeksWorked_77 : decode cX0_weeksWorked 77 = .ok (.ireturn, 1) := by decide +kernel
set_option maxRecDepth 20000 in
theorem ggX0_rateThere_X0_isEqual : GoodIn wsX0_rateThere wsX0_isEqual := goodIn_r _ [7, 8, 9, 10, 11, 12, 6, 13, 14, 15, 16, 17, 18, 19, 20, 21, 22, 23, 24, 25, 26, 27, 28, 29, 30, 31, 32, 33, 34, 35, 36, 37, 38, 39, 40] (by decide +kernel) (by decide +kernel)
set_option maxRecDepth 20000 in
theorem gX0_rateThere_X0_isEqual : GoodIn wsX0_rateThere (wsV RX0 94 RX0 yX0_isEqual wsX0_isEqual) := goodIn_app (goodIn_of _ (by decide +kernel)) ggX0_rateThere_X0_isEqual
set_option maxRecDepth 20000 in
theorem ggX0_rateThere_X0_at : GoodIn wsX0_rateThere wsX0_at := goodIn_r _ [21] (by decide +kernel) (by decide +kernel)
set_option maxRecDepth 20000 in
theorem gX0_rateThere_X0_at : GoodIn wsX0_rateThere (va_wsS RX0 79 yX0_at wsX0_at) := goodIn_app (goodIn_of _ (by decide +kernel)) ggX0_rateThere_X0_at
theorem dX0_rateThere_0 : decode cX0_rateThere 0 = .ok (.aload_n 0, 1) := by decide +kernel
theorem dX0_rateThere_1 : decode cX0_rateThere 1 = .ok (.iload_n 1, 1) := by decide +kernel
theorem dX0_rateThere_2 : decode cX0_rateThere 2 = .ok (.iload_n 2, 1) := by decide +kernel
theorem dX0_rateThere_3 : decode cX0_rateThere 3 = .ok (.iload_n 3, 1) := by decide +kernel
theorem dX0_rateThere_4 : decode cX0_rateThere 4 = .ok (.invokevirtual 94, 3) := by decide +kernel
theorem dX0_rateThere_7 : decode cX0_rateThere 7 = .ok (.ifCond .eq 14, 3) := by decide +kernel
theorem dX0_rateThere_10 : decode cX0_rateThere 10 = .ok (.aload_n 0, 1) := by decide +kernel
theorem dX0_rateThere_11 : decode cX0_rateThere 11 = .ok (.getfield 13, 3) := by decide +kernel
theorem dX0_rateThere_14 : decode cX0_rateThere 14 = .ok (.iload_n 2, 1) := by decide +kernel
theorem dX0_rateThere_15 : decode cX0_rateThere 15 = .ok (.invokestatic 79, 3) := by decide +kernel
theorem dX0_rateThere_18 : decode cX0_rateThere 18 = .ok (.goto 11, 3) := by decide +kernel
theorem dX0_rateThere_21 : decode cX0_rateThere 21 = .ok (.aload_n 0, 1) := by decide +kernel
theorem dX0_rateThere_22 : decode cX0_rateThere 22 = .ok (.getfield 9, 3) := by decide +kernel
theorem dX0_rateThere_25 : decode cX0_rateThere 25 = .ok (.iload_n 2, 1) := by decide +kernel
theorem dX0_rateThere_26 : decode cX0_rateThere 26 = .ok (.invokestatic 79, 3) := by decide +kernel
theorem dX0_rateThere_29 : decode cX0_rateThere 29 = .ok (.ireturn, 1) := by decide +kernel
set_option maxRecDepth 20000 in
theorem ggX0_shiftPay_X0_overtimeHours : GoodIn wsX0_shiftPay wsX0_overtimeHours := goodIn_r _ [9, 1, 10, 4, 11, 12, 13, 14, 15, 16, 17, 18, 19, 20, 8, 21, 2, 22, 23, 24, 25, 26, 27, 28, 29, 30, 31, 32, 33, 34, 35, 36, 37, 38, 39, 40, 41, 42, 59, 60, 61, 62, 63, 64, 65, 66, 67, 68, 69, 70, 71, 72, 73, 74] (by decide +kernel) (by decide +kernel)
set_option maxRecDepth 20000 in
theorem gX0_shiftPay_X0_overtimeHours : GoodIn wsX0_shiftPay (wsV RX0 91 RX0 yX0_overtimeHours wsX0_overtimeHours) := goodIn_app (goodIn_of _ (by decide +kernel)) ggX0_shiftPay_X0_overtimeHours
set_option maxRecDepth 20000 in
theorem ggX0_shiftPay_X0_at : GoodIn wsX0_shiftPay wsX0_at := goodIn_r _ [25] (by decide +kernel) (by decide +kernel)
set_option maxRecDepth 20000 in
theorem gX0_shiftPay_X0_at : GoodIn wsX0_shiftPay (va_wsS RX0 79 yX0_at wsX0_at) := goodIn_app (goodIn_of _ (by decide +kernel)) ggX0_shiftPay_X0_at
set_option maxRecDepth 20000 in
theorem ggX0_shiftPay_X0_weekOf : GoodIn wsX0_shiftPay wsX0_weekOf := goodIn_r _ [28] (by decide +kernel) (by decide +kernel)
set_option maxRecDepth 20000 in
theorem gX0_shiftPay_X0_weekOf : GoodIn wsX0_shiftPay (va_wsS RX0 100 yX0_weekOf wsX0_weekOf) := goodIn_app (goodIn_of _ (by decide +kernel)) ggX0_shiftPay_X0_weekOf
set_option maxRecDepth 20000 in
theorem ggX0_shiftPay_X0_rateThere : GoodIn wsX0_shiftPay wsX0_rateThere := goodIn_r _ [46, 47, 48, 49, 50, 51, 8, 52, 53, 54, 55, 56, 57, 58, 22, 2, 3, 1, 4, 23, 24, 25, 26, 27, 28, 59, 60, 61, 62, 63, 64, 65, 66, 67, 68, 69, 70, 71, 72, 73, 74] (by decide +kernel) (by decide +kernel)
set_option maxRecDepth 20000 in
theorem gX0_shiftPay_X0_rateThere : GoodIn wsX0_shiftPay (wsV RX0 112 RX0 yX0_rateThere wsX0_rateThere) := goodIn_app (goodIn_of _ (by decide +kernel)) ggX0_shiftPay_X0_rateThere
theorem dX0_shiftPay_0 : decode cX0_shiftPay 0 = .ok (.aload_n 0, 1) := by decide +kernel
theorem dX0_shiftPay_1 : decode cX0_shiftPay 1 = .ok (.iload_n 1, 1) := by decide +kernel
theorem dX0_shiftPay_2 : decode cX0_shiftPay 2 = .ok (.invokevirtual 91, 3) := by decide +kernel
theorem dX0_shiftPay_5 : decode cX0_shiftPay 5 = .ok (.istore_n 2, 1) := by decide +kernel
theorem dX0_shiftPay_6 : decode cX0_shiftPay 6 = .ok (.aload_n 0, 1) := by decide +kernel
theorem dX0_shiftPay_7 : decode cX0_shiftPay 7 = .ok (.getfield 44, 3) := by decide +kernel
theorem dX0_shiftPay_10 : decode cX0_shiftPay 10 = .ok (.iload_n 1, 1) := by decide +kernel
theorem dX0_shiftPay_11 : decode cX0_shiftPay 11 = .ok (.invokestatic 79, 3) := by decide +kernel
theorem dX0_shiftPay_14 : decode cX0_shiftPay 14 = .ok (.iload_n 2, 1) := by decide +kernel
theorem dX0_shiftPay_15 : decode cX0_shiftPay 15 = .ok (.isub, 1) := by decide +kernel
theorem dX0_shiftPay_16 : decode cX0_shiftPay 16 = .ok (.istore_n 3, 1) := by decide +kernel
theorem dX0_shiftPay_17 : decode cX0_shiftPay 17 = .ok (.aload_n 0, 1) := by decide +kernel
theorem dX0_shiftPay_18 : decode cX0_shiftPay 18 = .ok (.aload_n 0, 1) := by decide +kernel
theorem dX0_shiftPay_19 : decode cX0_shiftPay 19 = .ok (.getfield 35, 3) := by decide +kernel
theorem dX0_shiftPay_22 : decode cX0_shiftPay 22 = .ok (.iload_n 1, 1) := by decide +kernel
theorem dX0_shiftPay_23 : decode cX0_shiftPay 23 = .ok (.invokestatic 79, 3) := by decide +kernel
theorem dX0_shiftPay_26 : decode cX0_shiftPay 26 = .ok (.aload_n 0, 1) := by decide +kernel
theorem dX0_shiftPay_27 : decode cX0_shiftPay 27 = .ok (.getfield 38, 3) := by decide +kernel
theorem dX0_shiftPay_30 : decode cX0_shiftPay 30 = .ok (.iload_n 1, 1) := by decide +kernel
theorem dX0_shiftPay_31 : decode cX0_shiftPay 31 = .ok (.invokestatic 79, 3) := by decide +kernel
theorem dX0_shiftPay_34 : decode cX0_shiftPay 34 = .ok (.aload_n 0, 1) := by decide +kernel
theorem dX0_shiftPay_35 : decode cX0_shiftPay 35 = .ok (.getfield 41, 3) := by decide +kernel
theorem dX0_shiftPay_38 : decode cX0_shiftPay 38 = .ok (.iload_n 1, 1) := by decide +kernel
theorem dX0_shiftPay_39 : decode cX0_shiftPay 39 = .ok (.invokestatic 79, 3) := by decide +kernel
theorem dX0_shiftPay_42 : decode cX0_shiftPay 42 = .ok (.invokestatic 100, 3) := by decide +kernel
theorem dX0_shiftPay_45 : decode cX0_shiftPay 45 = .ok (.invokevirtual 112, 3) := by decide +kernel
theorem dX0_shiftPay_48 : decode cX0_shiftPay 48 = .ok (.istore 4, 2) := by decide +kernel
theorem dX0_shiftPay_50 : decode cX0_shiftPay 50 = .ok (.iconst 2, 1) := by decide +kernel
theorem dX0_shiftPay_51 : decode cX0_shiftPay 51 = .ok (.iload_n 3, 1) := by decide +kernel
theorem dX0_shiftPay_52 : decode cX0_shiftPay 52 = .ok (.imul, 1) := by decide +kernel
theorem dX0_shiftPay_53 : decode cX0_shiftPay 53 = .ok (.iconst 3, 1) := by decide +kernel
theorem dX0_shiftPay_54 : decode cX0_shiftPay 54 = .ok (.iload_n 2, 1) := by decide +kernel
theorem dX0_shiftPay_55 : decode cX0_shiftPay 55 = .ok (.imul, 1) := by decide +kernel
theorem dX0_shiftPay_56 : decode cX0_shiftPay 56 = .ok (.iadd, 1) := by decide +kernel
theorem dX0_shiftPay_57 : decode cX0_shiftPay 57 = .ok (.iload 4, 2) := by decide +kernel
theorem dX0_shiftPay_59 : decode cX0_shiftPay 59 = .ok (.imul, 1) := by decide +kernel
theorem dX0_shiftPay_60 : decode cX0_shiftPay 60 = .ok (.iconst 2, 1) := by decide +kernel
theorem dX0_shiftPay_61 : decode cX0_shiftPay 61 = .ok (.idiv, 1) := by decide +kernel
theorem dX0_shiftPay_62 : decode cX0_shiftPay 62 = .ok (.ireturn, 1) := by decide +kernel
set_option maxRecDepth 20000 in
theorem ggX0_weekPay_X0_isOfWorker : GoodIn wsX0_weekPay wsX0_isOfWorker := goodIn_r _ [6, 7, 8, 9, 10, 5, 11, 12, 13, 14, 63, 64, 65, 66, 67, 68, 69, 70, 71, 72, 73, 74, 75, 76, 77, 78] (by decide +kernel) (by decide +kernel)
set_option maxRecDepth 20000 in
theorem gX0_weekPay_X0_isOfWorker : GoodIn wsX0_weekPay (wsV RX0 87 RX0 yX0_isOfWorker wsX0_isOfWorker) := goodIn_app (goodIn_of _ (by decide +kernel)) ggX0_weekPay_X0_isOfWorker
set_option maxRecDepth 20000 in
theorem ggX0_weekPay_X0_shiftPay : GoodIn wsX0_weekPay wsX0_shiftPay := goodIn_r _ [18, 19, 7, 20, 8, 21, 22, 23, 5, 24, 25, 26, 27, 28, 29, 30, 31, 32, 33, 34, 35, 36, 1, 9, 10, 11, 12, 13, 14, 37, 38, 39, 2, 3, 4, 6, 40, 41, 42, 43, 44, 45, 46, 47, 48, 49, 50, 51, 52, 53, 54, 55, 56, 57, 58, 59, 60, 61, 62, 63, 64, 65, 66, 67, 68, 69, 70, 71, 72, 73, 74, 75, 76, 77, 78] (by decide +kernel) (by decide +kernel)
set_option maxRecDepth 20000 in
theorem gX0_weekPay_X0_shiftPay : GoodIn wsX0_weekPay (wsV RX0 97 RX0 yX0_shiftPay wsX0_shiftPay) := goodIn_app (goodIn_of _ (by decide +kernel)) ggX0_weekPay_X0_shiftPay
theorem dX0_weekPay_0 : decode cX0_weekPay 0 = .ok (.iconst 0, 1) := by decide +kernel
theorem dX0_weekPay_1 : decode cX0_weekPay 1 = .ok (.istore_n 3, 1) := by decide +kernel
theorem dX0_weekPay_2 : decode cX0_weekPay 2 = .ok (.iconst 0, 1) := by decide +kernel
theorem dX0_weekPay_3 : decode cX0_weekPay 3 = .ok (.istore 4, 2) := by decide +kernel
theorem dX0_weekPay_5 : decode cX0_weekPay 5 = .ok (.iload 4, 2) := by decide +kernel
theorem dX0_weekPay_7 : decode cX0_weekPay 7 = .ok (.aload_n 0, 1) := by decide +kernel
theorem dX0_weekPay_8 : decode cX0_weekPay 8 = .ok (.getfield 32, 3) := by decide +kernel
theorem dX0_weekPay_11 : decode cX0_weekPay 11 = .ok (.if_icmp .ge 29, 3) := by decide +kernel
theorem dX0_weekPay_14 : decode cX0_weekPay 14 = .ok (.aload_n 0, 1) := by decide +kernel
theorem dX0_weekPay_15 : decode cX0_weekPay 15 = .ok (.iload 4, 2) := by decide +kernel
theorem dX0_weekPay_17 : decode cX0_weekPay 17 = .ok (.iload_n 1, 1) := by decide +kernel
theorem dX0_weekPay_18 : decode cX0_weekPay 18 = .ok (.iload_n 2, 1) := by decide +kernel
theorem dX0_weekPay_19 : decode cX0_weekPay 19 = .ok (.invokevirtual 87, 3) := by decide +kernel
theorem dX0_weekPay_22 : decode cX0_weekPay 22 = .ok (.ifCond .eq 12, 3) := by decide +kernel
theorem dX0_weekPay_25 : decode cX0_weekPay 25 = .ok (.iload_n 3, 1) := by decide +kernel
theorem dX0_weekPay_26 : decode cX0_weekPay 26 = .ok (.aload_n 0, 1) := by decide +kernel
theorem dX0_weekPay_27 : decode cX0_weekPay 27 = .ok (.iload 4, 2) := by decide +kernel
theorem dX0_weekPay_29 : decode cX0_weekPay 29 = .ok (.invokevirtual 97, 3) := by decide +kernel
theorem dX0_weekPay_32 : decode cX0_weekPay 32 = .ok (.iadd, 1) := by decide +kernel
theorem dX0_weekPay_33 : decode cX0_weekPay 33 = .ok (.istore_n 3, 1) := by decide +kernel
theorem dX0_weekPay_34 : decode cX0_weekPay 34 = .ok (.iinc 4 1, 3) := by decide +kernel
theorem dX0_weekPay_37 : decode cX0_weekPay 37 = .ok (.goto (-32), 3) := by decide +kernel
theorem dX0_weekPay_40 : decode cX0_weekPay 40 = .ok (.iload_n 3, 1) := by decide +kernel
theorem dX0_weekPay_41 : decode cX0_weekPay 41 = .ok (.ireturn, 1) := by decide +kernel
set_option maxRecDepth 20000 in
theorem ggX0_marginAt_X0_hoursAtSite : GoodIn wsX0_marginAt wsX0_hoursAtSite := goodIn_r _ [8, 9, 10, 11, 12, 13, 7, 14, 15, 16, 17, 18, 19, 20, 21, 22, 23, 24, 25, 26, 27, 28, 29, 30, 31, 32, 33, 34, 35, 36, 37, 38] (by decide +kernel) (by decide +kernel)
set_option maxRecDepth 20000 in
theorem gX0_marginAt_X0_hoursAtSite : GoodIn wsX0_marginAt (wsV RX0 144 RX0 yX0_hoursAtSite wsX0_hoursAtSite) := goodIn_app (goodIn_of _ (by decide +kernel)) ggX0_marginAt_X0_hoursAtSite
set_option maxRecDepth 20000 in
theorem ggX0_marginAt_X0_at : GoodIn wsX0_marginAt wsX0_at := goodIn_r _ [19] (by decide +kernel) (by decide +kernel)
set_option maxRecDepth 20000 in
theorem gX0_marginAt_X0_at : GoodIn wsX0_marginAt (va_wsS RX0 79 yX0_at wsX0_at) := goodIn_app (goodIn_of _ (by decide +kernel)) ggX0_marginAt_X0_at
theorem dX0_marginAt_0 : decode cX0_marginAt 0 = .ok (.aload_n 0, 1) := by decide +kernel
theorem dX0_marginAt_1 : decode cX0_marginAt 1 = .ok (.iload_n 1, 1) := by decide +kernel
theorem dX0_marginAt_2 : decode cX0_marginAt 2 = .ok (.iload_n 2, 1) := by decide +kernel
theorem dX0_marginAt_3 : decode cX0_marginAt 3 = .ok (.invokevirtual 144, 3) := by decide +kernel
theorem dX0_marginAt_6 : decode cX0_marginAt 6 = .ok (.aload_n 0, 1) := by decide +kernel
theorem dX0_marginAt_7 : decode cX0_marginAt 7 = .ok (.getfield 22, 3) := by decide +kernel
theorem dX0_marginAt_10 : decode cX0_marginAt 10 = .ok (.iload_n 1, 1) := by decide +kernel
theorem dX0_marginAt_11 : decode cX0_marginAt 11 = .ok (.invokestatic 79, 3) := by decide +kernel
theorem dX0_marginAt_14 : decode cX0_marginAt 14 = .ok (.if_icmp .lt 7, 3) := by decide +kernel
theorem dX0_marginAt_17 : decode cX0_marginAt 17 = .ok (.iconst 1, 1) := by decide +kernel
theorem dX0_marginAt_18 : decode cX0_marginAt 18 = .ok (.goto 4, 3) := by decide +kernel
theorem dX0_marginAt_21 : decode cX0_marginAt 21 = .ok (.iconst 0, 1) := by decide +kernel
theorem dX0_marginAt_22 : decode cX0_marginAt 22 = .ok (.istore_n 3, 1) := by decide +kernel
theorem dX0_marginAt_23 : decode cX0_marginAt 23 = .ok (.iload_n 3, 1) := by decide +kernel
theorem dX0_marginAt_24 : decode cX0_marginAt 24 = .ok (.ifCond .eq 14, 3) := by decide +kernel
theorem dX0_marginAt_27 : decode cX0_marginAt 27 = .ok (.aload_n 0, 1) := by decide +kernel
theorem dX0_marginAt_28 : decode cX0_marginAt 28 = .ok (.getfield 19, 3) := by decide +kernel
theorem dX0_marginAt_31 : decode cX0_marginAt 31 = .ok (.iload_n 1, 1) := by decide +kernel
theorem dX0_marginAt_32 : decode cX0_marginAt 32 = .ok (.invokestatic 79, 3) := by decide +kernel
theorem dX0_marginAt_35 : decode cX0_marginAt 35 = .ok (.goto 11, 3) := by decide +kernel
theorem dX0_marginAt_38 : decode cX0_marginAt 38 = .ok (.aload_n 0, 1) := by decide +kernel
theorem dX0_marginAt_39 : decode cX0_marginAt 39 = .ok (.getfield 16, 3) := by decide +kernel
theorem dX0_marginAt_42 : decode cX0_marginAt 42 = .ok (.iload_n 1, 1) := by decide +kernel
theorem dX0_marginAt_43 : decode cX0_marginAt 43 = .ok (.invokestatic 79, 3) := by decide +kernel
theorem dX0_marginAt_46 : decode cX0_marginAt 46 = .ok (.ireturn, 1) := by decide +kernel
theorem dX0_chargeFor_0 : decode cX0_chargeFor 0 = .ok (.iload_n 0, 1) := by decide +kernel
theorem dX0_chargeFor_1 : decode cX0_chargeFor 1 = .ok (.bipush 100, 2) := by decide +kernel
theorem dX0_chargeFor_3 : decode cX0_chargeFor 3 = .ok (.iload_n 1, 1) := by decide +kernel
theorem dX0_chargeFor_4 : decode cX0_chargeFor 4 = .ok (.iadd, 1) := by decide +kernel
theorem dX0_chargeFor_5 : decode cX0_chargeFor 5 = .ok (.imul, 1) := by decide +kernel
theorem dX0_chargeFor_6 : decode cX0_chargeFor 6 = .ok (.bipush 100, 2) := by decide +kernel
theorem dX0_chargeFor_8 : decode cX0_chargeFor 8 = .ok (.idiv, 1) := by decide +kernel
theorem dX0_chargeFor_9 : decode cX0_chargeFor 9 = .ok (.ireturn, 1) := by decide +kernel
set_option maxRecDepth 20000 in
theorem ggX0_weekCharge_X0_marginAt : GoodIn wsX0_weekCharge wsX0_marginAt := goodIn_r _ [6, 7, 8, 9, 10, 11, 12, 5, 13, 1, 14, 15, 16, 17, 18, 19, 20, 21, 22, 23, 24, 25, 26, 81, 82, 83, 84, 85, 86, 87, 88, 89, 90, 91, 92, 93, 94, 95, 96] (by decide +kernel) (by decide +kernel)
set_option maxRecDepth 20000 in
theorem gX0_weekCharge_X0_marginAt : GoodIn wsX0_weekCharge (wsV RX0 103 RX0 yX0_marginAt wsX0_marginAt) := goodIn_app (goodIn_of _ (by decide +kernel)) ggX0_weekCharge_X0_marginAt
set_option maxRecDepth 20000 in
theorem ggX0_weekCharge_X0_isAtSite : GoodIn wsX0_weekCharge wsX0_isAtSite := goodIn_r _ [18, 19, 20, 21, 22, 5, 23, 24, 25, 26, 81, 82, 83, 84, 85, 86, 87, 88, 89, 90, 91, 92, 93, 94, 95, 96] (by decide +kernel) (by decide +kernel)
set_option maxRecDepth 20000 in
theorem gX0_weekCharge_X0_isAtSite : GoodIn wsX0_weekCharge (wsV RX0 119 RX0 yX0_isAtSite wsX0_isAtSite) := goodIn_app (goodIn_of _ (by decide +kernel)) ggX0_weekCharge_X0_isAtSite
set_option maxRecDepth 20000 in
theorem ggX0_weekCharge_X0_shiftPay : GoodIn wsX0_weekCharge wsX0_shiftPay := goodIn_r _ [30, 14, 31, 19, 20, 32, 33, 34, 5, 35, 36, 37, 38, 39, 40, 41, 42, 43, 44, 45, 46, 47, 1, 21, 22, 23, 24, 25, 26, 48, 49, 50, 51, 52, 53, 54, 55, 56, 57, 58, 59, 60, 61, 62, 63, 64, 65, 66, 67, 68, 69, 70, 71, 72, 73, 74, 75, 76, 77, 81, 82, 83, 84, 85, 86, 87, 88, 89, 90, 91, 92, 93, 94, 95, 96] (by decide +kernel) (by decide +kernel)
set_option maxRecDepth 20000 in
theorem gX0_weekCharge_X0_shiftPay : GoodIn wsX0_weekCharge (wsV RX0 97 RX0 yX0_shiftPay wsX0_shiftPay) := goodIn_app (goodIn_of _ (by decide +kernel)) ggX0_weekCharge_X0_shiftPay
set_option maxRecDepth 20000 in
theorem ggX0_weekCharge_X0_chargeFor : GoodIn wsX0_weekCharge wsX0_chargeFor := goodIn_r _ [80] (by decide +kernel) (by decide +kernel)
set_option maxRecDepth 20000 in
theorem gX0_weekCharge_X0_chargeFor : GoodIn wsX0_weekCharge (va_wsS RX0 106 yX0_chargeFor wsX0_chargeFor) := goodIn_app (goodIn_of _ (by decide +kernel)) ggX0_weekCharge_X0_chargeFor
theorem dX0_weekCharge_0 : decode cX0_weekCharge 0 = .ok (.aload_n 0, 1) := by decide +kernel
theorem dX0_weekCharge_1 : decode cX0_weekCharge 1 = .ok (.iload_n 1, 1) := by decide +kernel
theorem dX0_weekCharge_2 : decode cX0_weekCharge 2 = .ok (.iload_n 2, 1) := by decide +kernel
theorem dX0_weekCharge_3 : decode cX0_weekCharge 3 = .ok (.invokevirtual 103, 3) := by decide +kernel
theorem dX0_weekCharge_6 : decode cX0_weekCharge 6 = .ok (.istore_n 3, 1) := by decide +kernel
theorem dX0_weekCharge_7 : decode cX0_weekCharge 7 = .ok (.iconst 0, 1) := by decide +kernel
theorem dX0_weekCharge_8 : decode cX0_weekCharge 8 = .ok (.istore 4, 2) := by decide +kernel
theorem dX0_weekCharge_10 : decode cX0_weekCharge 10 = .ok (.iconst 0, 1) := by decide +kernel
theorem dX0_weekCharge_11 : decode cX0_weekCharge 11 = .ok (.istore 5, 2) := by decide +kernel
theorem dX0_weekCharge_13 : decode cX0_weekCharge 13 = .ok (.iload 5, 2) := by decide +kernel
theorem dX0_weekCharge_15 : decode cX0_weekCharge 15 = .ok (.aload_n 0, 1) := by decide +kernel
theorem dX0_weekCharge_16 : decode cX0_weekCharge 16 = .ok (.getfield 32, 3) := by decide +kernel
theorem dX0_weekCharge_19 : decode cX0_weekCharge 19 = .ok (.if_icmp .ge 35, 3) := by decide +kernel
theorem dX0_weekCharge_22 : decode cX0_weekCharge 22 = .ok (.aload_n 0, 1) := by decide +kernel
theorem dX0_weekCharge_23 : decode cX0_weekCharge 23 = .ok (.iload 5, 2) := by decide +kernel
theorem dX0_weekCharge_25 : decode cX0_weekCharge 25 = .ok (.iload_n 1, 1) := by decide +kernel
theorem dX0_weekCharge_26 : decode cX0_weekCharge 26 = .ok (.iload_n 2, 1) := by decide +kernel
theorem dX0_weekCharge_27 : decode cX0_weekCharge 27 = .ok (.invokevirtual 119, 3) := by decide +kernel
theorem dX0_weekCharge_30 : decode cX0_weekCharge 30 = .ok (.ifCond .eq 18, 3) := by decide +kernel
theorem dX0_weekCharge_33 : decode cX0_weekCharge 33 = .ok (.iload 4, 2) := by decide +kernel
theorem dX0_weekCharge_35 : decode cX0_weekCharge 35 = .ok (.aload_n 0, 1) := by decide +kernel
theorem dX0_weekCharge_36 : decode cX0_weekCharge 36 = .ok (.iload 5, 2) := by decide +kernel
theorem dX0_weekCharge_38 : decode cX0_weekCharge 38 = .ok (.invokevirtual 97, 3) := by decide +kernel
theorem dX0_weekCharge_41 : decode cX0_weekCharge 41 = .ok (.iload_n 3, 1) := by decide +kernel
theorem dX0_weekCharge_42 : decode cX0_weekCharge 42 = .ok (.invokestatic 106, 3) := by decide +kernel
theorem dX0_weekCharge_45 : decode cX0_weekCharge 45 = .ok (.iadd, 1) := by decide +kernel
theorem dX0_weekCharge_46 : decode cX0_weekCharge 46 = .ok (.istore 4, 2) := by decide +kernel
theorem dX0_weekCharge_48 : decode cX0_weekCharge 48 = .ok (.iinc 5 1, 3) := by decide +kernel
theorem dX0_weekCharge_51 : decode cX0_weekCharge 51 = .ok (.goto (-38), 3) := by decide +kernel
theorem dX0_weekCharge_54 : decode cX0_weekCharge 54 = .ok (.iload 4, 2) := by decide +kernel
theorem dX0_weekCharge_56 : decode cX0_weekCharge 56 = .ok (.ireturn, 1) := by decide +kernel
theorem dX0_needOneOf_0 : decode cX0_needOneOf 0 = .ok (.iload_n 0, 1) := by decide +kernel
theorem dX0_needOneOf_1 : decode cX0_needOneOf 1 = .ok (.ifCond .lt 8, 3) := by decide +kernel
theorem dX0_needOneOf_4 : decode cX0_needOneOf 4 = .ok (.iload_n 0, 1) := by decide +kernel
theorem dX0_needOneOf_5 : decode cX0_needOneOf 5 = .ok (.iload_n 1, 1) := by decide +kernel
theorem dX0_needOneOf_6 : decode cX0_needOneOf 6 = .ok (.if_icmp .lt 13, 3) := by decide +kernel
theorem dX0_needOneOf_9 : decode cX0_needOneOf 9 = .ok (.new 147, 3) := by decide +kernel
theorem dX0_needOneOf_12 : decode cX0_needOneOf 12 = .ok (.dup, 1) := by decide +kernel
theorem dX0_needOneOf_13 : decode cX0_needOneOf 13 = .ok (.ldc 149, 2) := by decide +kernel
theorem dX0_needOneOf_15 : decode cX0_needOneOf 15 = .ok (.invokespecial 151, 3) := by decide +kernel
theorem dX0_needOneOf_18 : decode cX0_needOneOf 18 = .ok (.athrow, 1) := by decide +kernel
theorem dX0_needOneOf_19 : decode cX0_needOneOf 19 = .ok (.return_, 1) := by decide +kernel
theorem dX0_needRange_0 : decode cX0_needRange 0 = .ok (.iload_n 0, 1) := by decide +kernel
theorem dX0_needRange_1 : decode cX0_needRange 1 = .ok (.iload_n 1, 1) := by decide +kernel
theorem dX0_needRange_2 : decode cX0_needRange 2 = .ok (.if_icmp .lt 8, 3) := by decide +kernel
theorem dX0_needRange_5 : decode cX0_needRange 5 = .ok (.iload_n 0, 1) := by decide +kernel
theorem dX0_needRange_6 : decode cX0_needRange 6 = .ok (.iload_n 2, 1) := by decide +kernel
theorem dX0_needRange_7 : decode cX0_needRange 7 = .ok (.if_icmp .le 13, 3) := by decide +kernel
theorem dX0_needRange_10 : decode cX0_needRange 10 = .ok (.new 154, 3) := by decide +kernel
theorem dX0_needRange_13 : decode cX0_needRange 13 = .ok (.dup, 1) := by decide +kernel
theorem dX0_needRange_14 : decode cX0_needRange 14 = .ok (.ldc 156, 2) := by decide +kernel
theorem dX0_needRange_16 : decode cX0_needRange 16 = .ok (.invokespecial 158, 3) := by decide +kernel
theorem dX0_needRange_19 : decode cX0_needRange 19 = .ok (.athrow, 1) := by decide +kernel
theorem dX0_needRange_20 : decode cX0_needRange 20 = .ok (.return_, 1) := by decide +kernel
theorem dX0_needState_0 : decode cX0_needState 0 = .ok (.iload_n 0, 1) := by decide +kernel
theorem dX0_needState_1 : decode cX0_needState 1 = .ok (.ifCond .ne 13, 3) := by decide +kernel
theorem dX0_needState_4 : decode cX0_needState 4 = .ok (.new 159, 3) := by decide +kernel
theorem dX0_needState_7 : decode cX0_needState 7 = .ok (.dup, 1) := by decide +kernel
theorem dX0_needState_8 : decode cX0_needState 8 = .ok (.ldc 161, 2) := by decide +kernel
theorem dX0_needState_10 : decode cX0_needState 10 = .ok (.invokespecial 163, 3) := by decide +kernel
theorem dX0_needState_13 : decode cX0_needState 13 = .ok (.athrow, 1) := by decide +kernel
theorem dX0_needState_14 : decode cX0_needState 14 = .ok (.return_, 1) := by decide +kernel
theorem dX0_at_0 : decode cX0_at 0 = .ok (.iload_n 1, 1) := by decide +kernel
theorem dX0_at_1 : decode cX0_at 1 = .ok (.ifCond .lt 15, 3) := by decide +kernel
theorem dX0_at_4 : decode cX0_at 4 = .ok (.iload_n 1, 1) := by decide +kernel
theorem dX0_at_5 : decode cX0_at 5 = .ok (.aload_n 0, 1) := by decide +kernel
theorem dX0_at_6 : decode cX0_at 6 = .ok (.arraylength, 1) := by decide +kernel
theorem dX0_at_7 : decode cX0_at 7 = .ok (.if_icmp .ge 9, 3) := by decide +kernel
theorem dX0_at_10 : decode cX0_at 10 = .ok (.aload_n 0, 1) := by decide +kernel
theorem dX0_at_11 : decode cX0_at 11 = .ok (.iload_n 1, 1) := by decide +kernel
theorem dX0_at_12 : decode cX0_at 12 = .ok (.iaload, 1) := by decide +kernel
theorem dX0_at_13 : decode cX0_at 13 = .ok (.goto 4, 3) := by decide +kernel
theorem dX0_at_16 : decode cX0_at 16 = .ok (.iconst 0, 1) := by decide +kernel
theorem dX0_at_17 : decode cX0_at 17 = .ok (.ireturn, 1) := by decide +kernel
theorem dX0_put_0 : decode cX0_put 0 = .ok (.iload_n 1, 1) := by decide +kernel
theorem dX0_put_1 : decode cX0_put 1 = .ok (.ifCond .lt 13, 3) := by decide +kernel
theorem dX0_put_4 : decode cX0_put 4 = .ok (.iload_n 1, 1) := by decide +kernel
theorem dX0_put_5 : decode cX0_put 5 = .ok (.aload_n 0, 1) := by decide +kernel
theorem dX0_put_6 : decode cX0_put 6 = .ok (.arraylength, 1) := by decide +kernel
theorem dX0_put_7 : decode cX0_put 7 = .ok (.if_icmp .ge 7, 3) := by decide +kernel
theorem dX0_put_10 : decode cX0_put 10 = .ok (.aload_n 0, 1) := by decide +kernel
theorem dX0_put_11 : decode cX0_put 11 = .ok (.iload_n 1, 1) := by decide +kernel
theorem dX0_put_12 : decode cX0_put 12 = .ok (.iload_n 2, 1) := by decide +kernel
theorem dX0_put_13 : decode cX0_put 13 = .ok (.iastore, 1) := by decide +kernel
theorem dX0_put_14 : decode cX0_put 14 = .ok (.return_, 1) := by decide +kernel
