theorem dX1_init_0 : decode cX1_init 0 = .ok (.aload_n 0, 1) := by decide +kernel
theorem dX1_init_1 : decode cX1_init 1 = .ok (.invokespecial 1, 3) := by decide +kernel
theorem dX1_init_4 : decode cX1_init 4 = .ok (.aload_n 0, 1) := by decide +kernel
theorem dX1_init_5 : decode cX1_init 5 = .ok (.iconst 4, 1) := by decide +kernel
theorem dX1_init_6 : decode cX1_init 6 = .ok (.newarray .int, 2) := by decide +kernel
theorem dX1_init_8 : decode cX1_init 8 = .ok (.putfield 7, 3) := by decide +kernel
theorem dX1_init_11 : decode cX1_init 11 = .ok (.aload_n 0, 1) := by decide +kernel
theorem dX1_init_12 : decode cX1_init 12 = .ok (.iconst 4, 1) := by decide +kernel
theorem dX1_init_13 : decode cX1_init 13 = .ok (.newarray .int, 2) := by decide +kernel
theorem dX1_init_15 : decode cX1_init 15 = .ok (.putfield 13, 3) := by decide +kernel
theorem dX1_init_18 : decode cX1_init 18 = .ok (.aload_n 0, 1) := by decide +kernel
theorem dX1_init_19 : decode cX1_init 19 = .ok (.iconst 4, 1) := by decide +kernel
theorem dX1_init_20 : decode cX1_init 20 = .ok (.newarray .int, 2) := by decide +kernel
theorem dX1_init_22 : decode cX1_init 22 = .ok (.putfield 16, 3) := by decide +kernel
theorem dX1_init_25 : decode cX1_init 25 = .ok (.aload_n 0, 1) := by decide +kernel
theorem dX1_init_26 : decode cX1_init 26 = .ok (.iconst 4, 1) := by decide +kernel
theorem dX1_init_27 : decode cX1_init 27 = .ok (.newarray .int, 2) := by decide +kernel
theorem dX1_init_29 : decode cX1_init 29 = .ok (.putfield 19, 3) := by decide +kernel
theorem dX1_init_32 : decode cX1_init 32 = .ok (.aload_n 0, 1) := by decide +kernel
theorem dX1_init_33 : decode cX1_init 33 = .ok (.iconst 4, 1) := by decide +kernel
theorem dX1_init_34 : decode cX1_init 34 = .ok (.newarray .int, 2) := by decide +kernel
theorem dX1_init_36 : decode cX1_init 36 = .ok (.putfield 22, 3) := by decide +kernel
theorem dX1_init_39 : decode cX1_init 39 = .ok (.aload_n 0, 1) := by decide +kernel
theorem dX1_init_40 : decode cX1_init 40 = .ok (.iconst 4, 1) := by decide +kernel
theorem dX1_init_41 : decode cX1_init 41 = .ok (.putfield 25, 3) := by decide +kernel
theorem dX1_init_44 : decode cX1_init 44 = .ok (.aload_n 0, 1) := by decide +kernel
theorem dX1_init_45 : decode cX1_init 45 = .ok (.iconst 2, 1) := by decide +kernel
theorem dX1_init_46 : decode cX1_init 46 = .ok (.putfield 29, 3) := by decide +kernel
theorem dX1_init_49 : decode cX1_init 49 = .ok (.aload_n 0, 1) := by decide +kernel
theorem dX1_init_50 : decode cX1_init 50 = .ok (.bipush 80, 2) := by decide +kernel
theorem dX1_init_52 : decode cX1_init 52 = .ok (.newarray .int, 2) := by decide +kernel
theorem dX1_init_54 : decode cX1_init 54 = .ok (.putfield 32, 3) := by decide +kernel
theorem dX1_init_57 : decode cX1_init 57 = .ok (.aload_n 0, 1) := by decide +kernel
theorem dX1_init_58 : decode cX1_init 58 = .ok (.bipush 80, 2) := by decide +kernel
theorem dX1_init_60 : decode cX1_init 60 = .ok (.newarray .int, 2) := by decide +kernel
theorem dX1_init_62 : decode cX1_init 62 = .ok (.putfield 35, 3) := by decide +kernel
theorem dX1_init_65 : decode cX1_init 65 = .ok (.aload_n 0, 1) := by decide +kernel
theorem dX1_init_66 : decode cX1_init 66 = .ok (.bipush 80, 2) := by decide +kernel
theorem dX1_init_68 : decode cX1_init 68 = .ok (.newarray .int, 2) := by decide +kernel
theorem dX1_init_70 : decode cX1_init 70 = .ok (.putfield 38, 3) := by decide +kernel
theorem dX1_init_73 : decode cX1_init 73 = .ok (.aload_n 0, 1) := by decide +kernel
theorem dX1_init_74 : decode cX1_init 74 = .ok (.bipush 80, 2) := by decide +kernel
theorem dX1_init_76 : decode cX1_init 76 = .ok (.newarray .int, 2) := by decide +kernel
theorem dX1_init_78 : decode cX1_init 78 = .ok (.putfield 41, 3) := by decide +kernel
theorem dX1_init_81 : decode cX1_init 81 = .ok (.aload_n 0, 1) := by decide +kernel
theorem dX1_init_82 : decode cX1_init 82 = .ok (.bipush 120, 2) := by decide +kernel
theorem dX1_init_84 : decode cX1_init 84 = .ok (.newarray .int, 2) := by decide +kernel
theorem dX1_init_86 : decode cX1_init 86 = .ok (.putfield 44, 3) := by decide +kernel
theorem dX1_init_89 : decode cX1_init 89 = .ok (.aload_n 0, 1) := by decide +kernel
theorem dX1_init_90 : decode cX1_init 90 = .ok (.bipush 80, 2) := by decide +kernel
theorem dX1_init_92 : decode cX1_init 92 = .ok (.newarray .int, 2) := by decide +kernel
theorem dX1_init_94 : decode cX1_init 94 = .ok (.putfield 47, 3) := by decide +kernel
theorem dX1_init_97 : decode cX1_init 97 = .ok (.aload_n 0, 1) := by decide +kernel
theorem dX1_init_98 : decode cX1_init 98 = .ok (.bipush 6, 2) := by decide +kernel
theorem dX1_init_100 : decode cX1_init 100 = .ok (.newarray .int, 2) := by decide +kernel
theorem dX1_init_102 : decode cX1_init 102 = .ok (.putfield 50, 3) := by decide +kernel
theorem dX1_init_105 : decode cX1_init 105 = .ok (.iconst 0, 1) := by decide +kernel
theorem dX1_init_106 : decode cX1_init 106 = .ok (.istore_n 1, 1) := by decide +kernel
theorem dX1_init_107 : decode cX1_init 107 = .ok (.iload_n 1, 1) := by decide +kernel
theorem dX1_init_108 : decode cX1_init 108 = .ok (.iconst 4, 1) := by decide +kernel
theorem dX1_init_109 : decode cX1_init 109 = .ok (.if_icmp .ge 51, 3) := by decide +kernel
theorem dX1_init_112 : decode cX1_init 112 = .ok (.aload_n 0, 1) := by decide +kernel
theorem dX1_init_113 : decode cX1_init 113 = .ok (.getfield 7, 3) := by decide +kernel
theorem dX1_init_116 : decode cX1_init 116 = .ok (.iload_n 1, 1) := by decide +kernel
theorem dX1_init_117 : decode cX1_init 117 = .ok (.sipush 1000, 3) := by decide +kernel
theorem dX1_init_120 : decode cX1_init 120 = .ok (.iastore, 1) := by decide +kernel
theorem dX1_init_121 : decode cX1_init 121 = .ok (.aload_n 0, 1) := by decide +kernel
theorem dX1_init_122 : decode cX1_init 122 = .ok (.getfield 13, 3) := by decide +kernel
theorem dX1_init_125 : decode cX1_init 125 = .ok (.iload_n 1, 1) := by decide +kernel
theorem dX1_init_126 : decode cX1_init 126 = .ok (.sipush 1200, 3) := by decide +kernel
theorem dX1_init_129 : decode cX1_init 129 = .ok (.iastore, 1) := by decide +kernel
theorem dX1_init_130 : decode cX1_init 130 = .ok (.aload_n 0, 1) := by decide +kernel
theorem dX1_init_131 : decode cX1_init 131 = .ok (.getfield 16, 3) := by decide +kernel
theorem dX1_init_134 : decode cX1_init 134 = .ok (.iload_n 1, 1) := by decide +kernel
theorem dX1_init_135 : decode cX1_init 135 = .ok (.bipush 20, 2) := by decide +kernel
theorem dX1_init_137 : decode cX1_init 137 = .ok (.iastore, 1) := by decide +kernel
theorem dX1_init_138 : decode cX1_init 138 = .ok (.aload_n 0, 1) := by decide +kernel
theorem dX1_init_139 : decode cX1_init 139 = .ok (.getfield 19, 3) := by decide +kernel
theorem dX1_init_142 : decode cX1_init 142 = .ok (.iload_n 1, 1) := by decide +kernel
theorem dX1_init_143 : decode cX1_init 143 = .ok (.bipush 10, 2) := by decide +kernel
theorem dX1_init_145 : decode cX1_init 145 = .ok (.iastore, 1) := by decide +kernel
theorem dX1_init_146 : decode cX1_init 146 = .ok (.aload_n 0, 1) := by decide +kernel
theorem dX1_init_147 : decode cX1_init 147 = .ok (.getfield 22, 3) := by decide +kernel
theorem dX1_init_150 : decode cX1_init 150 = .ok (.iload_n 1, 1) := by decide +kernel
theorem dX1_init_151 : decode cX1_init 151 = .ok (.bipush 100, 2) := by decide +kernel
theorem dX1_init_153 : decode cX1_init 153 = .ok (.iastore, 1) := by decide +kernel
theorem dX1_init_154 : decode cX1_init 154 = .ok (.iinc 1 1, 3) := by decide +kernel
theorem dX1_init_157 : decode cX1_init 157 = .ok (.goto (-50), 3) := by decide +kernel
theorem dX1_init_160 : decode cX1_init 160 = .ok (.return_, 1) := by decide +kernel
theorem dX1_thrown_0 : decode cX1_thrown 0 = .ok (.aload_n 0, 1) := by decide +kernel
theorem dX1_thrown_1 : decode cX1_thrown 1 = .ok (.getfield 53, 3) := by decide +kernel
theorem dX1_thrown_4 : decode cX1_thrown 4 = .ok (.ireturn, 1) := by decide +kernel
theorem dX1_goes_0 : decode cX1_goes 0 = .ok (.aload_n 0, 1) := by decide +kernel
theorem dX1_goes_1 : decode cX1_goes 1 = .ok (.iload_n 1, 1) := by decide +kernel
theorem dX1_goes_2 : decode cX1_goes 2 = .ok (.putfield 53, 3) := by decide +kernel
theorem dX1_goes_5 : decode cX1_goes 5 = .ok (.iload_n 1, 1) := by decide +kernel
theorem dX1_goes_6 : decode cX1_goes 6 = .ok (.ifCond .ne 7, 3) := by decide +kernel
theorem dX1_goes_9 : decode cX1_goes 9 = .ok (.iconst 1, 1) := by decide +kernel
theorem dX1_goes_10 : decode cX1_goes 10 = .ok (.goto 4, 3) := by decide +kernel
theorem dX1_goes_13 : decode cX1_goes 13 = .ok (.iconst 0, 1) := by decide +kernel
theorem dX1_goes_14 : decode cX1_goes 14 = .ok (.ireturn, 1) := by decide +kernel
theorem dX1_isIn_0 : decode cX1_isIn 0 = .ok (.iload_n 0, 1) := by decide +kernel
theorem dX1_isIn_1 : decode cX1_isIn 1 = .ok (.iload_n 1, 1) := by decide +kernel
theorem dX1_isIn_2 : decode cX1_isIn 2 = .ok (.if_icmp .lt 12, 3) := by decide +kernel
theorem dX1_isIn_5 : decode cX1_isIn 5 = .ok (.iload_n 0, 1) := by decide +kernel
theorem dX1_isIn_6 : decode cX1_isIn 6 = .ok (.iload_n 2, 1) := by decide +kernel
theorem dX1_isIn_7 : decode cX1_isIn 7 = .ok (.if_icmp .gt 7, 3) := by decide +kernel
theorem dX1_isIn_10 : decode cX1_isIn 10 = .ok (.iconst 1, 1) := by decide +kernel
theorem dX1_isIn_11 : decode cX1_isIn 11 = .ok (.goto 4, 3) := by decide +kernel
theorem dX1_isIn_14 : decode cX1_isIn 14 = .ok (.iconst 0, 1) := by decide +kernel
theorem dX1_isIn_15 : decode cX1_isIn 15 = .ok (.ireturn, 1) := by decide +kernel
set_option maxRecDepth 20000 in
theorem ggX1_isWorker_X1_isIn : GoodIn wsX1_isWorker wsX1_isIn := goodIn_r _ [4] (by decide +kernel) (by decide +kernel)
set_option maxRecDepth 20000 in
theorem gX1_isWorker_X1_isIn : GoodIn wsX1_isWorker (va_wsS RX1 56 yX1_isIn wsX1_isIn) := goodIn_app (goodIn_of _ (by decide +kernel)) ggX1_isWorker_X1_isIn
theorem dX1_isWorker_0 : decode cX1_isWorker 0 = .ok (.iload_n 0, 1) := by decide +kernel
theorem dX1_isWorker_1 : decode cX1_isWorker 1 = .ok (.iconst 0, 1) := by decide +kernel
theorem dX1_isWorker_2 : decode cX1_isWorker 2 = .ok (.iconst 5, 1) := by decide +kernel
theorem dX1_isWorker_3 : decode cX1_isWorker 3 = .ok (.invokestatic 56, 3) := by decide +kernel
theorem dX1_isWorker_6 : decode cX1_isWorker 6 = .ok (.ireturn, 1) := by decide +kernel
set_option maxRecDepth 20000 in
theorem ggX1_isSite_X1_isIn : GoodIn wsX1_isSite wsX1_isIn := goodIn_r _ [4] (by decide +kernel) (by decide +kernel)
set_option maxRecDepth 20000 in
theorem gX1_isSite_X1_isIn : GoodIn wsX1_isSite (va_wsS RX1 56 yX1_isIn wsX1_isIn) := goodIn_app (goodIn_of _ (by decide +kernel)) ggX1_isSite_X1_isIn
theorem dX1_isSite_0 : decode cX1_isSite 0 = .ok (.iload_n 0, 1) := by decide +kernel
theorem dX1_isSite_1 : decode cX1_isSite 1 = .ok (.iconst 0, 1) := by decide +kernel
theorem dX1_isSite_2 : decode cX1_isSite 2 = .ok (.iconst 3, 1) := by decide +kernel
theorem dX1_isSite_3 : decode cX1_isSite 3 = .ok (.invokestatic 56, 3) := by decide +kernel
theorem dX1_isSite_6 : decode cX1_isSite 6 = .ok (.ireturn, 1) := by decide +kernel
set_option maxRecDepth 20000 in
theorem ggX1_isWeek_X1_isIn : GoodIn wsX1_isWeek wsX1_isIn := goodIn_r _ [4] (by decide +kernel) (by decide +kernel)
set_option maxRecDepth 20000 in
theorem gX1_isWeek_X1_isIn : GoodIn wsX1_isWeek (va_wsS RX1 56 yX1_isIn wsX1_isIn) := goodIn_app (goodIn_of _ (by decide +kernel)) ggX1_isWeek_X1_isIn
theorem dX1_isWeek_0 : decode cX1_isWeek 0 = .ok (.iload_n 0, 1) := by decide +kernel
theorem dX1_isWeek_1 : decode cX1_isWeek 1 = .ok (.iconst 0, 1) := by decide +kernel
theorem dX1_isWeek_2 : decode cX1_isWeek 2 = .ok (.bipush 19, 2) := by decide +kernel
theorem dX1_isWeek_4 : decode cX1_isWeek 4 = .ok (.invokestatic 56, 3) := by decide +kernel
theorem dX1_isWeek_7 : decode cX1_isWeek 7 = .ok (.ireturn, 1) := by decide +kernel
set_option maxRecDepth 20000 in
theorem ggX1_isShift_X1_isIn : GoodIn wsX1_isShift wsX1_isIn := goodIn_r _ [5] (by decide +kernel) (by decide +kernel)
set_option maxRecDepth 20000 in
theorem gX1_isShift_X1_isIn : GoodIn wsX1_isShift (va_wsS RX1 56 yX1_isIn wsX1_isIn) := goodIn_app (goodIn_of _ (by decide +kernel)) ggX1_isShift_X1_isIn
theorem dX1_isShift_0 : decode cX1_isShift 0 = .ok (.iload_n 1, 1) := by decide +kernel
theorem dX1_isShift_1 : decode cX1_isShift 1 = .ok (.iconst 0, 1) := by decide +kernel
theorem dX1_isShift_2 : decode cX1_isShift 2 = .ok (.aload_n 0, 1) := by decide +kernel
theorem dX1_isShift_3 : decode cX1_isShift 3 = .ok (.getfield 60, 3) := by decide +kernel
theorem dX1_isShift_6 : decode cX1_isShift 6 = .ok (.iconst 1, 1) := by decide +kernel
theorem dX1_isShift_7 : decode cX1_isShift 7 = .ok (.isub, 1) := by decide +kernel
theorem dX1_isShift_8 : decode cX1_isShift 8 = .ok (.invokestatic 56, 3) := by decide +kernel
theorem dX1_isShift_11 : decode cX1_isShift 11 = .ok (.ireturn, 1) := by decide +kernel
set_option maxRecDepth 20000 in
theorem ggX1_setRates_X1_isIn : GoodIn wsX1_setRates wsX1_isIn := goodIn_r _ [6] (by decide +kernel) (by decide +kernel)
set_option maxRecDepth 20000 in
theorem gX1_setRates_X1_isIn : GoodIn wsX1_setRates (va_wsS RX1 56 yX1_isIn wsX1_isIn) := goodIn_app (goodIn_of _ (by decide +kernel)) ggX1_setRates_X1_isIn
set_option maxRecDepth 20000 in
theorem ggX1_setRates_X1_isSite : GoodIn wsX1_setRates wsX1_isSite := goodIn_r _ [9, 3, 4, 5, 6] (by decide +kernel) (by decide +kernel)
set_option maxRecDepth 20000 in
theorem gX1_setRates_X1_isSite : GoodIn wsX1_setRates (va_wsS RX1 63 yX1_isSite wsX1_isSite) := goodIn_app (goodIn_of _ (by decide +kernel)) ggX1_setRates_X1_isSite
set_option maxRecDepth 20000 in
theorem ggX1_setRates_X1_goes : GoodIn wsX1_setRates wsX1_goes := goodIn_r _ [13, 14, 15, 16, 17, 18, 19, 20, 21, 22, 23, 24, 25, 26, 27, 28, 29, 30] (by decide +kernel) (by decide +kernel)
set_option maxRecDepth 20000 in
theorem gX1_setRates_X1_goes : GoodIn wsX1_setRates (wsV RX1 67 RX1 yX1_goes wsX1_goes) := goodIn_app (goodIn_of _ (by decide +kernel)) ggX1_setRates_X1_goes
theorem dX1_setRates_0 : decode cX1_setRates 0 = .ok (.iload_n 2, 1) := by decide +kernel
theorem dX1_setRates_1 : decode cX1_setRates 1 = .ok (.iconst 1, 1) := by decide +kernel
theorem dX1_setRates_2 : decode cX1_setRates 2 = .ok (.sipush 10000, 3) := by decide +kernel
theorem dX1_setRates_5 : decode cX1_setRates 5 = .ok (.invokestatic 56, 3) := by decide +kernel
theorem dX1_setRates_8 : decode cX1_setRates 8 = .ok (.ifCond .eq 18, 3) := by decide +kernel
theorem dX1_setRates_11 : decode cX1_setRates 11 = .ok (.iload_n 3, 1) := by decide +kernel
theorem dX1_setRates_12 : decode cX1_setRates 12 = .ok (.iload_n 2, 1) := by decide +kernel
theorem dX1_setRates_13 : decode cX1_setRates 13 = .ok (.sipush 10000, 3) := by decide +kernel
theorem dX1_setRates_16 : decode cX1_setRates 16 = .ok (.invokestatic 56, 3) := by decide +kernel
theorem dX1_setRates_19 : decode cX1_setRates 19 = .ok (.ifCond .eq 7, 3) := by decide +kernel
theorem dX1_setRates_22 : decode cX1_setRates 22 = .ok (.iconst 1, 1) := by decide +kernel
theorem dX1_setRates_23 : decode cX1_setRates 23 = .ok (.goto 4, 3) := by decide +kernel
theorem dX1_setRates_26 : decode cX1_setRates 26 = .ok (.iconst 0, 1) := by decide +kernel
theorem dX1_setRates_27 : decode cX1_setRates 27 = .ok (.istore 4, 2) := by decide +kernel
theorem dX1_setRates_29 : decode cX1_setRates 29 = .ok (.aload_n 0, 1) := by decide +kernel
theorem dX1_setRates_30 : decode cX1_setRates 30 = .ok (.iload_n 1, 1) := by decide +kernel
theorem dX1_setRates_31 : decode cX1_setRates 31 = .ok (.invokestatic 63, 3) := by decide +kernel
theorem dX1_setRates_34 : decode cX1_setRates 34 = .ok (.ifCond .ne 7, 3) := by decide +kernel
theorem dX1_setRates_37 : decode cX1_setRates 37 = .ok (.iconst 1, 1) := by decide +kernel
theorem dX1_setRates_38 : decode cX1_setRates 38 = .ok (.goto 13, 3) := by decide +kernel
theorem dX1_setRates_41 : decode cX1_setRates 41 = .ok (.iload 4, 2) := by decide +kernel
theorem dX1_setRates_43 : decode cX1_setRates 43 = .ok (.ifCond .eq 7, 3) := by decide +kernel
theorem dX1_setRates_46 : decode cX1_setRates 46 = .ok (.iconst 0, 1) := by decide +kernel
theorem dX1_setRates_47 : decode cX1_setRates 47 = .ok (.goto 4, 3) := by decide +kernel
theorem dX1_setRates_50 : decode cX1_setRates 50 = .ok (.iconst 2, 1) := by decide +kernel
theorem dX1_setRates_51 : decode cX1_setRates 51 = .ok (.invokevirtual 67, 3) := by decide +kernel
theorem dX1_setRates_54 : decode cX1_setRates 54 = .ok (.ifCond .eq 17, 3) := by decide +kernel
theorem dX1_setRates_57 : decode cX1_setRates 57 = .ok (.aload_n 0, 1) := by decide +kernel
theorem dX1_setRates_58 : decode cX1_setRates 58 = .ok (.getfield 7, 3) := by decide +kernel
theorem dX1_setRates_61 : decode cX1_setRates 61 = .ok (.iload_n 1, 1) := by decide +kernel
theorem dX1_setRates_62 : decode cX1_setRates 62 = .ok (.iload_n 2, 1) := by decide +kernel
theorem dX1_setRates_63 : decode cX1_setRates 63 = .ok (.iastore, 1) := by decide +kernel
theorem dX1_setRates_64 : decode cX1_setRates 64 = .ok (.aload_n 0, 1) := by decide +kernel
theorem dX1_setRates_65 : decode cX1_setRates 65 = .ok (.getfield 13, 3) := by decide +kernel
theorem dX1_setRates_68 : decode cX1_setRates 68 = .ok (.iload_n 1, 1) := by decide +kernel
theorem dX1_setRates_69 : decode cX1_setRates 69 = .ok (.iload_n 3, 1) := by decide +kernel
theorem dX1_setRates_70 : decode cX1_setRates 70 = .ok (.iastore, 1) := by decide +kernel
theorem dX1_setRates_71 : decode cX1_setRates 71 = .ok (.return_, 1) := by decide +kernel
set_option maxRecDepth 20000 in
theorem ggX1_setMargins_X1_isIn : GoodIn wsX1_setMargins wsX1_isIn := goodIn_r _ [7] (by decide +kernel) (by decide +kernel)
set_option maxRecDepth 20000 in
theorem gX1_setMargins_X1_isIn : GoodIn wsX1_setMargins (va_wsS RX1 56 yX1_isIn wsX1_isIn) := goodIn_app (goodIn_of _ (by decide +kernel)) ggX1_setMargins_X1_isIn
set_option maxRecDepth 20000 in
theorem ggX1_setMargins_X1_isSite : GoodIn wsX1_setMargins wsX1_isSite := goodIn_r _ [10, 4, 5, 6, 7] (by decide +kernel) (by decide +kernel)
set_option maxRecDepth 20000 in
theorem gX1_setMargins_X1_isSite : GoodIn wsX1_setMargins (va_wsS RX1 63 yX1_isSite wsX1_isSite) := goodIn_app (goodIn_of _ (by decide +kernel)) ggX1_setMargins_X1_isSite
set_option maxRecDepth 20000 in
theorem ggX1_setMargins_X1_goes : GoodIn wsX1_setMargins wsX1_goes := goodIn_r _ [14, 15, 16, 17, 18, 19, 20, 21, 22, 23, 24, 25, 26, 27, 28, 29, 30, 31] (by decide +kernel) (by decide +kernel)
set_option maxRecDepth 20000 in
theorem gX1_setMargins_X1_goes : GoodIn wsX1_setMargins (wsV RX1 67 RX1 yX1_goes wsX1_goes) := goodIn_app (goodIn_of _ (by decide +kernel)) ggX1_setMargins_X1_goes
theorem dX1_setMargins_0 : decode cX1_setMargins 0 = .ok (.iload_n 2, 1) := by decide +kernel
theorem dX1_setMargins_1 : decode cX1_setMargins 1 = .ok (.iconst 0, 1) := by decide +kernel
theorem dX1_setMargins_2 : decode cX1_setMargins 2 = .ok (.bipush 100, 2) := by decide +kernel
theorem dX1_setMargins_4 : decode cX1_setMargins 4 = .ok (.invokestatic 56, 3) := by decide +kernel
theorem dX1_setMargins_7 : decode cX1_setMargins 7 = .ok (.ifCond .eq 28, 3) := by decide +kernel
theorem dX1_setMargins_10 : decode cX1_setMargins 10 = .ok (.iload_n 3, 1) := by decide +kernel
theorem dX1_setMargins_11 : decode cX1_setMargins 11 = .ok (.iconst 0, 1) := by decide +kernel
theorem dX1_setMargins_12 : decode cX1_setMargins 12 = .ok (.iload_n 2, 1) := by decide +kernel
theorem dX1_setMargins_13 : decode cX1_setMargins 13 = .ok (.invokestatic 56, 3) := by decide +kernel
theorem dX1_setMargins_16 : decode cX1_setMargins 16 = .ok (.ifCond .eq 19, 3) := by decide +kernel
theorem dX1_setMargins_19 : decode cX1_setMargins 19 = .ok (.iload 4, 2) := by decide +kernel
theorem dX1_setMargins_21 : decode cX1_setMargins 21 = .ok (.iconst 1, 1) := by decide +kernel
theorem dX1_setMargins_22 : decode cX1_setMargins 22 = .ok (.sipush 1000, 3) := by decide +kernel
theorem dX1_setMargins_25 : decode cX1_setMargins 25 = .ok (.invokestatic 56, 3) := by decide +kernel
theorem dX1_setMargins_28 : decode cX1_setMargins 28 = .ok (.ifCond .eq 7, 3) := by decide +kernel
theorem dX1_setMargins_31 : decode cX1_setMargins 31 = .ok (.iconst 1, 1) := by decide +kernel
theorem dX1_setMargins_32 : decode cX1_setMargins 32 = .ok (.goto 4, 3) := by decide +kernel
theorem dX1_setMargins_35 : decode cX1_setMargins 35 = .ok (.iconst 0, 1) := by decide +kernel
theorem dX1_setMargins_36 : decode cX1_setMargins 36 = .ok (.istore 5, 2) := by decide +kernel
theorem dX1_setMargins_38 : decode cX1_setMargins 38 = .ok (.aload_n 0, 1) := by decide +kernel
theorem dX1_setMargins_39 : decode cX1_setMargins 39 = .ok (.iload_n 1, 1) := by decide +kernel
theorem dX1_setMargins_40 : decode cX1_setMargins 40 = .ok (.invokestatic 63, 3) := by decide +kernel
theorem dX1_setMargins_43 : decode cX1_setMargins 43 = .ok (.ifCond .ne 7, 3) := by decide +kernel
theorem dX1_setMargins_46 : decode cX1_setMargins 46 = .ok (.iconst 1, 1) := by decide +kernel
theorem dX1_setMargins_47 : decode cX1_setMargins 47 = .ok (.goto 13, 3) := by decide +kernel
theorem dX1_setMargins_50 : decode cX1_setMargins 50 = .ok (.iload 5, 2) := by decide +kernel
theorem dX1_setMargins_52 : decode cX1_setMargins 52 = .ok (.ifCond .eq 7, 3) := by decide +kernel
theorem dX1_setMargins_55 : decode cX1_setMargins 55 = .ok (.iconst 0, 1) := by decide +kernel
theorem dX1_setMargins_56 : decode cX1_setMargins 56 = .ok (.goto 4, 3) := by decide +kernel
theorem dX1_setMargins_59 : decode cX1_setMargins 59 = .ok (.iconst 2, 1) := by decide +kernel
theorem dX1_setMargins_60 : decode cX1_setMargins 60 = .ok (.invokevirtual 67, 3) := by decide +kernel
theorem dX1_setMargins_63 : decode cX1_setMargins 63 = .ok (.ifCond .eq 25, 3) := by decide +kernel
theorem dX1_setMargins_66 : decode cX1_setMargins 66 = .ok (.aload_n 0, 1) := by decide +kernel
theorem dX1_setMargins_67 : decode cX1_setMargins 67 = .ok (.getfield 16, 3) := by decide +kernel
theorem dX1_setMargins_70 : decode cX1_setMargins 70 = .ok (.iload_n 1, 1) := by decide +kernel
theorem dX1_setMargins_71 : decode cX1_setMargins 71 = .ok (.iload_n 2, 1) := by decide +kernel
theorem dX1_setMargins_72 : decode cX1_setMargins 72 = .ok (.iastore, 1) := by decide +kernel
theorem dX1_setMargins_73 : decode cX1_setMargins 73 = .ok (.aload_n 0, 1) := by decide +kernel
theorem dX1_setMargins_74 : decode cX1_setMargins 74 = .ok (.getfield 19, 3) := by decide +kernel
theorem dX1_setMargins_77 : decode cX1_setMargins 77 = .ok (.iload_n 1, 1) := by decide +kernel
theorem dX1_setMargins_78 : decode cX1_setMargins 78 = .ok (.iload_n 3, 1) := by decide +kernel
theorem dX1_setMargins_79 : decode cX1_setMargins 79 = .ok (.iastore, 1) := by decide +kernel
theorem dX1_setMargins_80 : decode cX1_setMargins 80 = .ok (.aload_n 0, 1) := by decide +kernel
theorem dX1_setMargins_81 : decode cX1_setMargins 81 = .ok (.getfield 22, 3) := by decide +kernel
theorem dX1_setMargins_84 : decode cX1_setMargins 84 = .ok (.iload_n 1, 1) := by decide +kernel
theorem dX1_setMargins_85 : decode cX1_setMargins 85 = .ok (.iload 4, 2) := by decide +kernel
theorem dX1_setMargins_87 : decode cX1_setMargins 87 = .ok (.iastore, 1) := by decide +kernel
theorem dX1_setMargins_88 : decode cX1_setMargins 88 = .ok (.return_, 1) := by decide +kernel
set_option maxRecDepth 20000 in
theorem ggX1_setEqual_X1_isIn : GoodIn wsX1_setEqual wsX1_isIn := goodIn_r _ [6] (by decide +kernel) (by decide +kernel)
set_option maxRecDepth 20000 in
theorem gX1_setEqual_X1_isIn : GoodIn wsX1_setEqual (va_wsS RX1 56 yX1_isIn wsX1_isIn) := goodIn_app (goodIn_of _ (by decide +kernel)) ggX1_setEqual_X1_isIn
set_option maxRecDepth 20000 in
theorem ggX1_setEqual_X1_goes : GoodIn wsX1_setEqual wsX1_goes := goodIn_r _ [10, 11, 12, 13, 14, 15, 16, 17, 18, 19, 20, 21, 22, 23, 24, 25, 26, 27] (by decide +kernel) (by decide +kernel)
set_option maxRecDepth 20000 in
theorem gX1_setEqual_X1_goes : GoodIn wsX1_setEqual (wsV RX1 67 RX1 yX1_goes wsX1_goes) := goodIn_app (goodIn_of _ (by decide +kernel)) ggX1_setEqual_X1_goes
theorem dX1_setEqual_0 : decode cX1_setEqual 0 = .ok (.aload_n 0, 1) := by decide +kernel
theorem dX1_setEqual_1 : decode cX1_setEqual 1 = .ok (.iload_n 1, 1) := by decide +kernel
theorem dX1_setEqual_2 : decode cX1_setEqual 2 = .ok (.iconst 1, 1) := by decide +kernel
theorem dX1_setEqual_3 : decode cX1_setEqual 3 = .ok (.bipush 12, 2) := by decide +kernel
theorem dX1_setEqual_5 : decode cX1_setEqual 5 = .ok (.invokestatic 56, 3) := by decide +kernel
theorem dX1_setEqual_8 : decode cX1_setEqual 8 = .ok (.ifCond .eq 17, 3) := by decide +kernel
theorem dX1_setEqual_11 : decode cX1_setEqual 11 = .ok (.iload_n 2, 1) := by decide +kernel
theorem dX1_setEqual_12 : decode cX1_setEqual 12 = .ok (.iconst 0, 1) := by decide +kernel
theorem dX1_setEqual_13 : decode cX1_setEqual 13 = .ok (.bipush 6, 2) := by decide +kernel
theorem dX1_setEqual_15 : decode cX1_setEqual 15 = .ok (.invokestatic 56, 3) := by decide +kernel
theorem dX1_setEqual_18 : decode cX1_setEqual 18 = .ok (.ifCond .eq 7, 3) := by decide +kernel
theorem dX1_setEqual_21 : decode cX1_setEqual 21 = .ok (.iconst 0, 1) := by decide +kernel
theorem dX1_setEqual_22 : decode cX1_setEqual 22 = .ok (.goto 4, 3) := by decide +kernel
theorem dX1_setEqual_25 : decode cX1_setEqual 25 = .ok (.iconst 1, 1) := by decide +kernel
theorem dX1_setEqual_26 : decode cX1_setEqual 26 = .ok (.invokevirtual 67, 3) := by decide +kernel
theorem dX1_setEqual_29 : decode cX1_setEqual 29 = .ok (.ifCond .eq 13, 3) := by decide +kernel
theorem dX1_setEqual_32 : decode cX1_setEqual 32 = .ok (.aload_n 0, 1) := by decide +kernel
theorem dX1_setEqual_33 : decode cX1_setEqual 33 = .ok (.iload_n 1, 1) := by decide +kernel
theorem dX1_setEqual_34 : decode cX1_setEqual 34 = .ok (.putfield 25, 3) := by decide +kernel
theorem dX1_setEqual_37 : decode cX1_setEqual 37 = .ok (.aload_n 0, 1) := by decide +kernel
theorem dX1_setEqual_38 : decode cX1_setEqual 38 = .ok (.iload_n 2, 1) := by decide +kernel
theorem dX1_setEqual_39 : decode cX1_setEqual 39 = .ok (.putfield 29, 3) := by decide +kernel
theorem dX1_setEqual_42 : decode cX1_setEqual 42 = .ok (.return_, 1) := by decide +kernel
theorem dX1_hoursOn_0 : decode cX1_hoursOn 0 = .ok (.iconst 0, 1) := by decide +kernel
theorem dX1_hoursOn_1 : decode cX1_hoursOn 1 = .ok (.istore_n 3, 1) := by decide +kernel
theorem dX1_hoursOn_2 : decode cX1_hoursOn 2 = .ok (.iconst 0, 1) := by decide +kernel
theorem dX1_hoursOn_3 : decode cX1_hoursOn 3 = .ok (.istore 4, 2) := by decide +kernel
theorem dX1_hoursOn_5 : decode cX1_hoursOn 5 = .ok (.iload 4, 2) := by decide +kernel
theorem dX1_hoursOn_7 : decode cX1_hoursOn 7 = .ok (.aload_n 0, 1) := by decide +kernel
theorem dX1_hoursOn_8 : decode cX1_hoursOn 8 = .ok (.getfield 60, 3) := by decide +kernel
theorem dX1_hoursOn_11 : decode cX1_hoursOn 11 = .ok (.if_icmp .ge 45, 3) := by decide +kernel
theorem dX1_hoursOn_14 : decode cX1_hoursOn 14 = .ok (.iload_n 3, 1) := by decide +kernel
theorem dX1_hoursOn_15 : decode cX1_hoursOn 15 = .ok (.aload_n 0, 1) := by decide +kernel
theorem dX1_hoursOn_16 : decode cX1_hoursOn 16 = .ok (.getfield 32, 3) := by decide +kernel
theorem dX1_hoursOn_19 : decode cX1_hoursOn 19 = .ok (.iload 4, 2) := by decide +kernel
theorem dX1_hoursOn_21 : decode cX1_hoursOn 21 = .ok (.iaload, 1) := by decide +kernel
theorem dX1_hoursOn_22 : decode cX1_hoursOn 22 = .ok (.iload_n 1, 1) := by decide +kernel
theorem dX1_hoursOn_23 : decode cX1_hoursOn 23 = .ok (.if_icmp .ne 24, 3) := by decide +kernel
theorem dX1_hoursOn_26 : decode cX1_hoursOn 26 = .ok (.aload_n 0, 1) := by decide +kernel
theorem dX1_hoursOn_27 : decode cX1_hoursOn 27 = .ok (.getfield 38, 3) := by decide +kernel
theorem dX1_hoursOn_30 : decode cX1_hoursOn 30 = .ok (.iload 4, 2) := by decide +kernel
theorem dX1_hoursOn_32 : decode cX1_hoursOn 32 = .ok (.iaload, 1) := by decide +kernel
theorem dX1_hoursOn_33 : decode cX1_hoursOn 33 = .ok (.iload_n 2, 1) := by decide +kernel
theorem dX1_hoursOn_34 : decode cX1_hoursOn 34 = .ok (.if_icmp .ne 13, 3) := by decide +kernel
theorem dX1_hoursOn_37 : decode cX1_hoursOn 37 = .ok (.aload_n 0, 1) := by decide +kernel
theorem dX1_hoursOn_38 : decode cX1_hoursOn 38 = .ok (.getfield 41, 3) := by decide +kernel
theorem dX1_hoursOn_41 : decode cX1_hoursOn 41 = .ok (.iload 4, 2) := by decide +kernel
theorem dX1_hoursOn_43 : decode cX1_hoursOn 43 = .ok (.iaload, 1) := by decide +kernel
theorem dX1_hoursOn_44 : decode cX1_hoursOn 44 = .ok (.goto 4, 3) := by decide +kernel
theorem dX1_hoursOn_47 : decode cX1_hoursOn 47 = .ok (.iconst 0, 1) := by decide +kernel
theorem dX1_hoursOn_48 : decode cX1_hoursOn 48 = .ok (.iadd, 1) := by decide +kernel
theorem dX1_hoursOn_49 : decode cX1_hoursOn 49 = .ok (.istore_n 3, 1) := by decide +kernel
theorem dX1_hoursOn_50 : decode cX1_hoursOn 50 = .ok (.iinc 4 1, 3) := by decide +kernel
theorem dX1_hoursOn_53 : decode cX1_hoursOn 53 = .ok (.goto (-48), 3) := by decide +kernel
theorem dX1_hoursOn_56 : decode cX1_hoursOn 56 = .ok (.iload_n 3, 1) := by decide +kernel
theorem dX1_hoursOn_57 : decode cX1_hoursOn 57 = .ok (.ireturn, 1) := by decide +kernel
set_option maxRecDepth 20000 in
theorem ggX1_shift_X1_isWorker : GoodIn wsX1_shift wsX1_isWorker := goodIn_r _ [9, 10, 11, 8, 12] (by decide +kernel) (by decide +kernel)
set_option maxRecDepth 20000 in
theorem gX1_shift_X1_isWorker : GoodIn wsX1_shift (va_wsS RX1 70 yX1_isWorker wsX1_isWorker) := goodIn_app (goodIn_of _ (by decide +kernel)) ggX1_shift_X1_isWorker
set_option maxRecDepth 20000 in
theorem ggX1_shift_X1_isSite : GoodIn wsX1_shift wsX1_isSite := goodIn_r _ [15, 10, 11, 8, 12] (by decide +kernel) (by decide +kernel)
set_option maxRecDepth 20000 in
theorem gX1_shift_X1_isSite : GoodIn wsX1_shift (va_wsS RX1 63 yX1_isSite wsX1_isSite) := goodIn_app (goodIn_of _ (by decide +kernel)) ggX1_shift_X1_isSite
set_option maxRecDepth 20000 in
theorem ggX1_shift_X1_isIn : GoodIn wsX1_shift wsX1_isIn := goodIn_r _ [12] (by decide +kernel) (by decide +kernel)
set_option maxRecDepth 20000 in
theorem gX1_shift_X1_isIn : GoodIn wsX1_shift (va_wsS RX1 56 yX1_isIn wsX1_isIn) := goodIn_app (goodIn_of _ (by decide +kernel)) ggX1_shift_X1_isIn
set_option maxRecDepth 20000 in
theorem ggX1_shift_X1_hoursOn : GoodIn wsX1_shift wsX1_hoursOn := goodIn_r _ [19, 1, 2, 4, 5, 25, 26, 27, 28, 29, 30, 31, 32, 33, 34, 35, 36, 37, 38, 39, 40] (by decide +kernel) (by decide +kernel)
set_option maxRecDepth 20000 in
theorem gX1_shift_X1_hoursOn : GoodIn wsX1_shift (wsV RX1 73 RX1 yX1_hoursOn wsX1_hoursOn) := goodIn_app (goodIn_of _ (by decide +kernel)) ggX1_shift_X1_hoursOn
set_option maxRecDepth 20000 in
theorem ggX1_shift_X1_goes : GoodIn wsX1_shift wsX1_goes := goodIn_r _ [23, 24, 25, 26, 27, 28, 29, 30, 31, 32, 33, 34, 35, 36, 37, 38, 39, 40] (by decide +kernel) (by decide +kernel)
set_option maxRecDepth 20000 in
theorem gX1_shift_X1_goes : GoodIn wsX1_shift (wsV RX1 67 RX1 yX1_goes wsX1_goes) := goodIn_app (goodIn_of _ (by decide +kernel)) ggX1_shift_X1_goes
theorem dX1_shift_0 : decode cX1_shift 0 = .ok (.iload_n 1, 1) := by decide +kernel
theorem dX1_shift_1 : decode cX1_shift 1 = .ok (.invokestatic 70, 3) := by decide +kernel
theorem dX1_shift_4 : decode cX1_shift 4 = .ok (.ifCond .eq 14, 3) := by decide +kernel
theorem dX1_shift_7 : decode cX1_shift 7 = .ok (.iload_n 2, 1) := by decide +kernel
theorem dX1_shift_8 : decode cX1_shift 8 = .ok (.invokestatic 63, 3) := by decide +kernel
theorem dX1_shift_11 : decode cX1_shift 11 = .ok (.ifCond .eq 7, 3) := by decide +kernel
theorem dX1_shift_14 : decode cX1_shift 14 = .ok (.iconst 1, 1) := by decide +kernel
theorem dX1_shift_15 : decode cX1_shift 15 = .ok (.goto 4, 3) := by decide +kernel
theorem dX1_shift_18 : decode cX1_shift 18 = .ok (.iconst 0, 1) := by decide +kernel
theorem dX1_shift_19 : decode cX1_shift 19 = .ok (.istore 5, 2) := by decide +kernel
theorem dX1_shift_21 : decode cX1_shift 21 = .ok (.iload_n 3, 1) := by decide +kernel
theorem dX1_shift_22 : decode cX1_shift 22 = .ok (.iconst 0, 1) := by decide +kernel
theorem dX1_shift_23 : decode cX1_shift 23 = .ok (.sipush 139, 3) := by decide +kernel
theorem dX1_shift_26 : decode cX1_shift 26 = .ok (.invokestatic 56, 3) := by decide +kernel
theorem dX1_shift_29 : decode cX1_shift 29 = .ok (.ifCond .eq 18, 3) := by decide +kernel
theorem dX1_shift_32 : decode cX1_shift 32 = .ok (.iload 4, 2) := by decide +kernel
theorem dX1_shift_34 : decode cX1_shift 34 = .ok (.iconst 1, 1) := by decide +kernel
theorem dX1_shift_35 : decode cX1_shift 35 = .ok (.bipush 16, 2) := by decide +kernel
theorem dX1_shift_37 : decode cX1_shift 37 = .ok (.invokestatic 56, 3) := by decide +kernel
theorem dX1_shift_40 : decode cX1_shift 40 = .ok (.ifCond .eq 7, 3) := by decide +kernel
theorem dX1_shift_43 : decode cX1_shift 43 = .ok (.iconst 1, 1) := by decide +kernel
theorem dX1_shift_44 : decode cX1_shift 44 = .ok (.goto 4, 3) := by decide +kernel
theorem dX1_shift_47 : decode cX1_shift 47 = .ok (.iconst 0, 1) := by decide +kernel
theorem dX1_shift_48 : decode cX1_shift 48 = .ok (.istore 6, 2) := by decide +kernel
theorem dX1_shift_50 : decode cX1_shift 50 = .ok (.aload_n 0, 1) := by decide +kernel
theorem dX1_shift_51 : decode cX1_shift 51 = .ok (.iload 5, 2) := by decide +kernel
theorem dX1_shift_53 : decode cX1_shift 53 = .ok (.ifCond .ne 7, 3) := by decide +kernel
theorem dX1_shift_56 : decode cX1_shift 56 = .ok (.iconst 1, 1) := by decide +kernel
theorem dX1_shift_57 : decode cX1_shift 57 = .ok (.goto 40, 3) := by decide +kernel
theorem dX1_shift_60 : decode cX1_shift 60 = .ok (.iload 6, 2) := by decide +kernel
theorem dX1_shift_62 : decode cX1_shift 62 = .ok (.ifCond .ne 7, 3) := by decide +kernel
theorem dX1_shift_65 : decode cX1_shift 65 = .ok (.iconst 2, 1) := by decide +kernel
theorem dX1_shift_66 : decode cX1_shift 66 = .ok (.goto 31, 3) := by decide +kernel
theorem dX1_shift_69 : decode cX1_shift 69 = .ok (.aload_n 0, 1) := by decide +kernel
theorem dX1_shift_70 : decode cX1_shift 70 = .ok (.getfield 60, 3) := by decide +kernel
theorem dX1_shift_73 : decode cX1_shift 73 = .ok (.bipush 80, 2) := by decide +kernel
theorem dX1_shift_75 : decode cX1_shift 75 = .ok (.if_icmp .eq 17, 3) := by decide +kernel
theorem dX1_shift_78 : decode cX1_shift 78 = .ok (.aload_n 0, 1) := by decide +kernel
theorem dX1_shift_79 : decode cX1_shift 79 = .ok (.iload_n 1, 1) := by decide +kernel
theorem dX1_shift_80 : decode cX1_shift 80 = .ok (.iload_n 3, 1) := by decide +kernel
theorem dX1_shift_81 : decode cX1_shift 81 = .ok (.invokevirtual 73, 3) := by decide +kernel
theorem dX1_shift_84 : decode cX1_shift 84 = .ok (.iload 4, 2) := by decide +kernel
theorem dX1_shift_86 : decode cX1_shift 86 = .ok (.iadd, 1) := by decide +kernel
theorem dX1_shift_87 : decode cX1_shift 87 = .ok (.bipush 24, 2) := by decide +kernel
theorem dX1_shift_89 : decode cX1_shift 89 = .ok (.if_icmp .le 7, 3) := by decide +kernel
theorem dX1_shift_92 : decode cX1_shift 92 = .ok (.iconst 3, 1) := by decide +kernel
theorem dX1_shift_93 : decode cX1_shift 93 = .ok (.goto 4, 3) := by decide +kernel
theorem dX1_shift_96 : decode cX1_shift 96 = .ok (.iconst 0, 1) := by decide +kernel
theorem dX1_shift_97 : decode cX1_shift 97 = .ok (.invokevirtual 67, 3) := by decide +kernel
theorem dX1_shift_100 : decode cX1_shift 100 = .ok (.ifCond .ne 5, 3) := by decide +kernel
theorem dX1_shift_103 : decode cX1_shift 103 = .ok (.iconst 0, 1) := by decide +kernel
theorem dX1_shift_104 : decode cX1_shift 104 = .ok (.ireturn, 1) := by decide +kernel
theorem dX1_shift_105 : decode cX1_shift 105 = .ok (.aload_n 0, 1) := by decide +kernel
theorem dX1_shift_106 : decode cX1_shift 106 = .ok (.getfield 32, 3) := by decide +kernel
theorem dX1_shift_109 : decode cX1_shift 109 = .ok (.aload_n 0, 1) := by decide +kernel
theorem dX1_shift_110 : decode cX1_shift 110 = .ok (.getfield 60, 3) := by decide +kernel
theorem dX1_shift_113 : decode cX1_shift 113 = .ok (.iload_n 1, 1) := by decide +kernel
theorem dX1_shift_114 : decode cX1_shift 114 = .ok (.iastore, 1) := by decide +kernel
theorem dX1_shift_115 : decode cX1_shift 115 = .ok (.aload_n 0, 1) := by decide +kernel
theorem dX1_shift_116 : decode cX1_shift 116 = .ok (.getfield 35, 3) := by decide +kernel
theorem dX1_shift_119 : decode cX1_shift 119 = .ok (.aload_n 0, 1) := by decide +kernel
theorem dX1_shift_120 : decode cX1_shift 120 = .ok (.getfield 60, 3) := by decide +kernel
theorem dX1_shift_123 : decode cX1_shift 123 = .ok (.iload_n 2, 1) := by decide +kernel
theorem dX1_shift_124 : decode cX1_shift 124 = .ok (.iastore, 1) := by decide +kernel
theorem dX1_shift_125 : decode cX1_shift 125 = .ok (.aload_n 0, 1) := by decide +kernel
theorem dX1_shift_126 : decode cX1_shift 126 = .ok (.getfield 38, 3) := by decide +kernel
theorem dX1_shift_129 : decode cX1_shift 129 = .ok (.aload_n 0, 1) := by decide +kernel
theorem dX1_shift_130 : decode cX1_shift 130 = .ok (.getfield 60, 3) := by decide +kernel
theorem dX1_shift_133 : decode cX1_shift 133 = .ok (.iload_n 3, 1) := by decide +kernel
theorem dX1_shift_134 : decode cX1_shift 134 = .ok (.iastore, 1) := by decide +kernel
theorem dX1_shift_135 : decode cX1_shift 135 = .ok (.aload_n 0, 1) := by decide +kernel
theorem dX1_shift_136 : decode cX1_shift 136 = .ok (.getfield 41, 3) := by decide +kernel
theorem dX1_shift_139 : decode cX1_shift 139 = .ok (.aload_n 0, 1) := by decide +kernel
theorem dX1_shift_140 : decode cX1_shift 140 = .ok (.getfield 60, 3) := by decide +kernel
theorem dX1_shift_143 : decode cX1_shift 143 = .ok (.iload 4, 2) := by decide +kernel
theorem dX1_shift_145 : decode cX1_shift 145 = .ok (.iastore, 1) := by decide +kernel
theorem dX1_shift_146 : decode cX1_shift 146 = .ok (.aload_n 0, 1) := by decide +kernel
theorem dX1_shift_147 : decode cX1_shift 147 = .ok (.dup, 1) := by decide +kernel
theorem dX1_shift_148 : decode cX1_shift 148 = .ok (.getfield 60, 3) := by decide +kernel
theorem dX1_shift_151 : decode cX1_shift 151 = .ok (.iconst 1, 1) := by decide +kernel
theorem dX1_shift_152 : decode cX1_shift 152 = .ok (.iadd, 1) := by decide +kernel
theorem dX1_shift_153 : decode cX1_shift 153 = .ok (.putfield 60, 3) := by decide +kernel
theorem dX1_shift_156 : decode cX1_shift 156 = .ok (.aload_n 0, 1) := by decide +kernel
theorem dX1_shift_157 : decode cX1_shift 157 = .ok (.getfield 60, 3) := by decide +kernel
theorem dX1_shift_160 : decode cX1_shift 160 = .ok (.iconst 1, 1) := by decide +kernel
theorem dX1_shift_161 : decode cX1_shift 161 = .ok (.isub, 1) := by decide +kernel
theorem dX1_shift_162 : decode cX1_shift 162 = .ok (.ireturn, 1) := by decide +kernel
theorem dX1_earned_0 : decode cX1_earned 0 = .ok (.iconst 0, 1) := by decide +kernel
theorem dX1_earned_1 : decode cX1_earned 1 = .ok (.istore_n 2, 1) := by decide +kernel
theorem dX1_earned_2 : decode cX1_earned 2 = .ok (.iconst 0, 1) := by decide +kernel
theorem dX1_earned_3 : decode cX1_earned 3 = .ok (.istore_n 3, 1) := by decide +kernel
theorem dX1_earned_4 : decode cX1_earned 4 = .ok (.iload_n 3, 1) := by decide +kernel
theorem dX1_earned_5 : decode cX1_earned 5 = .ok (.aload_n 0, 1) := by decide +kernel
theorem dX1_earned_6 : decode cX1_earned 6 = .ok (.getfield 60, 3) := by decide +kernel
theorem dX1_earned_9 : decode cX1_earned 9 = .ok (.if_icmp .ge 35, 3) := by decide +kernel
theorem dX1_earned_12 : decode cX1_earned 12 = .ok (.iload_n 2, 1) := by decide +kernel
theorem dX1_earned_13 : decode cX1_earned 13 = .ok (.aload_n 0, 1) := by decide +kernel
theorem dX1_earned_14 : decode cX1_earned 14 = .ok (.getfield 32, 3) := by decide +kernel
theorem dX1_earned_17 : decode cX1_earned 17 = .ok (.iload_n 3, 1) := by decide +kernel
theorem dX1_earned_18 : decode cX1_earned 18 = .ok (.iaload, 1) := by decide +kernel
theorem dX1_earned_19 : decode cX1_earned 19 = .ok (.iload_n 1, 1) := by decide +kernel
theorem dX1_earned_20 : decode cX1_earned 20 = .ok (.if_icmp .ne 15, 3) := by decide +kernel
theorem dX1_earned_23 : decode cX1_earned 23 = .ok (.bipush 7, 2) := by decide +kernel
theorem dX1_earned_25 : decode cX1_earned 25 = .ok (.aload_n 0, 1) := by decide +kernel
theorem dX1_earned_26 : decode cX1_earned 26 = .ok (.getfield 41, 3) := by decide +kernel
theorem dX1_earned_29 : decode cX1_earned 29 = .ok (.iload_n 3, 1) := by decide +kernel
theorem dX1_earned_30 : decode cX1_earned 30 = .ok (.iaload, 1) := by decide +kernel
theorem dX1_earned_31 : decode cX1_earned 31 = .ok (.imul, 1) := by decide +kernel
theorem dX1_earned_32 : decode cX1_earned 32 = .ok (.goto 4, 3) := by decide +kernel
theorem dX1_earned_35 : decode cX1_earned 35 = .ok (.iconst 0, 1) := by decide +kernel
theorem dX1_earned_36 : decode cX1_earned 36 = .ok (.iadd, 1) := by decide +kernel
theorem dX1_earned_37 : decode cX1_earned 37 = .ok (.istore_n 2, 1) := by decide +kernel
theorem dX1_earned_38 : decode cX1_earned 38 = .ok (.iinc 3 1, 3) := by decide +kernel
theorem dX1_earned_41 : decode cX1_earned 41 = .ok (.goto (-37), 3) := by decide +kernel
theorem dX1_earned_44 : decode cX1_earned 44 = .ok (.iload_n 2, 1) := by decide +kernel
theorem dX1_earned_45 : decode cX1_earned 45 = .ok (.ireturn, 1) := by decide +kernel
set_option maxRecDepth 20000 in
theorem ggX1_correct_X1_isShift : GoodIn wsX1_correct wsX1_isShift := goodIn_r _ [9, 10, 11, 12, 8, 13, 27, 28, 29, 30, 31, 32, 33, 34, 35, 36, 37, 38, 39, 40, 41, 42] (by decide +kernel) (by decide +kernel)
set_option maxRecDepth 20000 in
theorem gX1_correct_X1_isShift : GoodIn wsX1_correct (wsV RX1 77 RX1 yX1_isShift wsX1_isShift) := goodIn_app (goodIn_of _ (by decide +kernel)) ggX1_correct_X1_isShift
set_option maxRecDepth 20000 in
theorem ggX1_correct_X1_isIn : GoodIn wsX1_correct wsX1_isIn := goodIn_r _ [13] (by decide +kernel) (by decide +kernel)
set_option maxRecDepth 20000 in
theorem gX1_correct_X1_isIn : GoodIn wsX1_correct (va_wsS RX1 56 yX1_isIn wsX1_isIn) := goodIn_app (goodIn_of _ (by decide +kernel)) ggX1_correct_X1_isIn
set_option maxRecDepth 20000 in
theorem ggX1_correct_X1_goes : GoodIn wsX1_correct wsX1_goes := goodIn_r _ [17, 18, 27, 28, 29, 30, 31, 32, 33, 34, 35, 36, 37, 38, 39, 40, 41, 42] (by decide +kernel) (by decide +kernel)
set_option maxRecDepth 20000 in
theorem gX1_correct_X1_goes : GoodIn wsX1_correct (wsV RX1 67 RX1 yX1_goes wsX1_goes) := goodIn_app (goodIn_of _ (by decide +kernel)) ggX1_correct_X1_goes
set_option maxRecDepth 20000 in
theorem ggX1_correct_X1_hoursOn : GoodIn wsX1_correct wsX1_hoursOn := goodIn_r _ [22, 10, 1, 3, 2, 27, 28, 29, 30, 31, 32, 33, 34, 35, 36, 37, 38, 39, 40, 41, 42] (by decide +kernel) (by decide +kernel)
set_option maxRecDepth 20000 in
theorem gX1_correct_X1_hoursOn : GoodIn wsX1_correct (wsV RX1 73 RX1 yX1_hoursOn wsX1_hoursOn) := goodIn_app (goodIn_of _ (by decide +kernel)) ggX1_correct_X1_hoursOn
set_option maxRecDepth 20000 in
theorem ggX1_correct_X1_earned : GoodIn wsX1_correct wsX1_earned := goodIn_r _ [26, 10, 1, 2, 27, 28, 29, 30, 31, 32, 33, 34, 35, 36, 37, 38, 39, 40, 41, 42] (by decide +kernel) (by decide +kernel)
set_option maxRecDepth 20000 in
theorem gX1_correct_X1_earned : GoodIn wsX1_correct (wsV RX1 80 RX1 yX1_earned wsX1_earned) := goodIn_app (goodIn_of _ (by decide +kernel)) ggX1_correct_X1_earned
theorem dX1_correct_0 : decode cX1_correct 0 = .ok (.aload_n 0, 1) := by decide +kernel
theorem dX1_correct_1 : decode cX1_correct 1 = .ok (.aload_n 0, 1) := by decide +kernel
theorem dX1_correct_2 : decode cX1_correct 2 = .ok (.iload_n 1, 1) := by decide +kernel
theorem dX1_correct_3 : decode cX1_correct 3 = .ok (.invokevirtual 77, 3) := by decide +kernel
theorem dX1_correct_6 : decode cX1_correct 6 = .ok (.ifCond .ne 7, 3) := by decide +kernel
theorem dX1_correct_9 : decode cX1_correct 9 = .ok (.iconst 1, 1) := by decide +kernel
theorem dX1_correct_10 : decode cX1_correct 10 = .ok (.goto 18, 3) := by decide +kernel
theorem dX1_correct_13 : decode cX1_correct 13 = .ok (.iload_n 2, 1) := by decide +kernel
theorem dX1_correct_14 : decode cX1_correct 14 = .ok (.iconst 0, 1) := by decide +kernel
theorem dX1_correct_15 : decode cX1_correct 15 = .ok (.bipush 16, 2) := by decide +kernel
theorem dX1_correct_17 : decode cX1_correct 17 = .ok (.invokestatic 56, 3) := by decide +kernel
theorem dX1_correct_20 : decode cX1_correct 20 = .ok (.ifCond .eq 7, 3) := by decide +kernel
theorem dX1_correct_23 : decode cX1_correct 23 = .ok (.iconst 0, 1) := by decide +kernel
theorem dX1_correct_24 : decode cX1_correct 24 = .ok (.goto 4, 3) := by decide +kernel
theorem dX1_correct_27 : decode cX1_correct 27 = .ok (.iconst 2, 1) := by decide +kernel
theorem dX1_correct_28 : decode cX1_correct 28 = .ok (.invokevirtual 67, 3) := by decide +kernel
theorem dX1_correct_31 : decode cX1_correct 31 = .ok (.ifCond .ne 5, 3) := by decide +kernel
theorem dX1_correct_34 : decode cX1_correct 34 = .ok (.iconst 0, 1) := by decide +kernel
theorem dX1_correct_35 : decode cX1_correct 35 = .ok (.ireturn, 1) := by decide +kernel
theorem dX1_correct_36 : decode cX1_correct 36 = .ok (.aload_n 0, 1) := by decide +kernel
theorem dX1_correct_37 : decode cX1_correct 37 = .ok (.getfield 32, 3) := by decide +kernel
theorem dX1_correct_40 : decode cX1_correct 40 = .ok (.iload_n 1, 1) := by decide +kernel
theorem dX1_correct_41 : decode cX1_correct 41 = .ok (.iaload, 1) := by decide +kernel
theorem dX1_correct_42 : decode cX1_correct 42 = .ok (.istore_n 3, 1) := by decide +kernel
theorem dX1_correct_43 : decode cX1_correct 43 = .ok (.iload_n 2, 1) := by decide +kernel
theorem dX1_correct_44 : decode cX1_correct 44 = .ok (.aload_n 0, 1) := by decide +kernel
theorem dX1_correct_45 : decode cX1_correct 45 = .ok (.getfield 41, 3) := by decide +kernel
theorem dX1_correct_48 : decode cX1_correct 48 = .ok (.iload_n 1, 1) := by decide +kernel
theorem dX1_correct_49 : decode cX1_correct 49 = .ok (.iaload, 1) := by decide +kernel
theorem dX1_correct_50 : decode cX1_correct 50 = .ok (.isub, 1) := by decide +kernel
theorem dX1_correct_51 : decode cX1_correct 51 = .ok (.istore 4, 2) := by decide +kernel
theorem dX1_correct_53 : decode cX1_correct 53 = .ok (.aload_n 0, 1) := by decide +kernel
theorem dX1_correct_54 : decode cX1_correct 54 = .ok (.iload_n 3, 1) := by decide +kernel
theorem dX1_correct_55 : decode cX1_correct 55 = .ok (.aload_n 0, 1) := by decide +kernel
theorem dX1_correct_56 : decode cX1_correct 56 = .ok (.getfield 38, 3) := by decide +kernel
theorem dX1_correct_59 : decode cX1_correct 59 = .ok (.iload_n 1, 1) := by decide +kernel
theorem dX1_correct_60 : decode cX1_correct 60 = .ok (.iaload, 1) := by decide +kernel
theorem dX1_correct_61 : decode cX1_correct 61 = .ok (.invokevirtual 73, 3) := by decide +kernel
theorem dX1_correct_64 : decode cX1_correct 64 = .ok (.iload 4, 2) := by decide +kernel
theorem dX1_correct_66 : decode cX1_correct 66 = .ok (.iadd, 1) := by decide +kernel
theorem dX1_correct_67 : decode cX1_correct 67 = .ok (.bipush 24, 2) := by decide +kernel
theorem dX1_correct_69 : decode cX1_correct 69 = .ok (.if_icmp .gt 23, 3) := by decide +kernel
theorem dX1_correct_72 : decode cX1_correct 72 = .ok (.aload_n 0, 1) := by decide +kernel
theorem dX1_correct_73 : decode cX1_correct 73 = .ok (.getfield 50, 3) := by decide +kernel
theorem dX1_correct_76 : decode cX1_correct 76 = .ok (.iload_n 3, 1) := by decide +kernel
theorem dX1_correct_77 : decode cX1_correct 77 = .ok (.iaload, 1) := by decide +kernel
theorem dX1_correct_78 : decode cX1_correct 78 = .ok (.aload_n 0, 1) := by decide +kernel
theorem dX1_correct_79 : decode cX1_correct 79 = .ok (.iload_n 3, 1) := by decide +kernel
theorem dX1_correct_80 : decode cX1_correct 80 = .ok (.invokevirtual 80, 3) := by decide +kernel
theorem dX1_correct_83 : decode cX1_correct 83 = .ok (.bipush 7, 2) := by decide +kernel
theorem dX1_correct_85 : decode cX1_correct 85 = .ok (.iload 4, 2) := by decide +kernel
theorem dX1_correct_87 : decode cX1_correct 87 = .ok (.imul, 1) := by decide +kernel
theorem dX1_correct_88 : decode cX1_correct 88 = .ok (.iadd, 1) := by decide +kernel
theorem dX1_correct_89 : decode cX1_correct 89 = .ok (.if_icmp .le 7, 3) := by decide +kernel
theorem dX1_correct_92 : decode cX1_correct 92 = .ok (.iconst 1, 1) := by decide +kernel
theorem dX1_correct_93 : decode cX1_correct 93 = .ok (.goto 4, 3) := by decide +kernel
theorem dX1_correct_96 : decode cX1_correct 96 = .ok (.iconst 0, 1) := by decide +kernel
theorem dX1_correct_97 : decode cX1_correct 97 = .ok (.istore 5, 2) := by decide +kernel
theorem dX1_correct_99 : decode cX1_correct 99 = .ok (.aload_n 0, 1) := by decide +kernel
theorem dX1_correct_100 : decode cX1_correct 100 = .ok (.iload 5, 2) := by decide +kernel
theorem dX1_correct_102 : decode cX1_correct 102 = .ok (.ifCond .eq 7, 3) := by decide +kernel
theorem dX1_correct_105 : decode cX1_correct 105 = .ok (.iconst 3, 1) := by decide +kernel
theorem dX1_correct_106 : decode cX1_correct 106 = .ok (.goto 4, 3) := by decide +kernel
theorem dX1_correct_109 : decode cX1_correct 109 = .ok (.iconst 0, 1) := by decide +kernel
theorem dX1_correct_110 : decode cX1_correct 110 = .ok (.invokevirtual 67, 3) := by decide +kernel
theorem dX1_correct_113 : decode cX1_correct 113 = .ok (.ifCond .ne 5, 3) := by decide +kernel
theorem dX1_correct_116 : decode cX1_correct 116 = .ok (.iconst 0, 1) := by decide +kernel
theorem dX1_correct_117 : decode cX1_correct 117 = .ok (.ireturn, 1) := by decide +kernel
theorem dX1_correct_118 : decode cX1_correct 118 = .ok (.aload_n 0, 1) := by decide +kernel
theorem dX1_correct_119 : decode cX1_correct 119 = .ok (.getfield 41, 3) := by decide +kernel
theorem dX1_correct_122 : decode cX1_correct 122 = .ok (.iload_n 1, 1) := by decide +kernel
theorem dX1_correct_123 : decode cX1_correct 123 = .ok (.iload_n 2, 1) := by decide +kernel
theorem dX1_correct_124 : decode cX1_correct 124 = .ok (.iastore, 1) := by decide +kernel
theorem dX1_correct_125 : decode cX1_correct 125 = .ok (.iload_n 2, 1) := by decide +kernel
theorem dX1_correct_126 : decode cX1_correct 126 = .ok (.iload 4, 2) := by decide +kernel
theorem dX1_correct_128 : decode cX1_correct 128 = .ok (.isub, 1) := by decide +kernel
theorem dX1_correct_129 : decode cX1_correct 129 = .ok (.ireturn, 1) := by decide +kernel
theorem dX1_shifts_0 : decode cX1_shifts 0 = .ok (.aload_n 0, 1) := by decide +kernel
theorem dX1_shifts_1 : decode cX1_shifts 1 = .ok (.iconst 0, 1) := by decide +kernel
theorem dX1_shifts_2 : decode cX1_shifts 2 = .ok (.putfield 53, 3) := by decide +kernel
theorem dX1_shifts_5 : decode cX1_shifts 5 = .ok (.aload_n 0, 1) := by decide +kernel
theorem dX1_shifts_6 : decode cX1_shifts 6 = .ok (.getfield 60, 3) := by decide +kernel
theorem dX1_shifts_9 : decode cX1_shifts 9 = .ok (.ireturn, 1) := by decide +kernel
set_option maxRecDepth 20000 in
theorem ggX1_hours_X1_isWorker : GoodIn wsX1_hours wsX1_isWorker := goodIn_r _ [8, 9, 10, 7, 11] (by decide +kernel) (by decide +kernel)
set_option maxRecDepth 20000 in
theorem gX1_hours_X1_isWorker : GoodIn wsX1_hours (va_wsS RX1 70 yX1_isWorker wsX1_isWorker) := goodIn_app (goodIn_of _ (by decide +kernel)) ggX1_hours_X1_isWorker
set_option maxRecDepth 20000 in
theorem ggX1_hours_X1_isWeek : GoodIn wsX1_hours wsX1_isWeek := goodIn_r _ [14, 9, 10, 7, 11] (by decide +kernel) (by decide +kernel)
set_option maxRecDepth 20000 in
theorem gX1_hours_X1_isWeek : GoodIn wsX1_hours (va_wsS RX1 84 yX1_isWeek wsX1_isWeek) := goodIn_app (goodIn_of _ (by decide +kernel)) ggX1_hours_X1_isWeek
set_option maxRecDepth 20000 in
theorem ggX1_hours_X1_goes : GoodIn wsX1_hours wsX1_goes := goodIn_r _ [18, 19, 20, 21, 22, 23, 24, 25, 26, 27, 28, 29, 30, 31, 32, 33, 34, 35] (by decide +kernel) (by decide +kernel)
set_option maxRecDepth 20000 in
theorem gX1_hours_X1_goes : GoodIn wsX1_hours (wsV RX1 67 RX1 yX1_goes wsX1_goes) := goodIn_app (goodIn_of _ (by decide +kernel)) ggX1_hours_X1_goes
theorem dX1_hours_0 : decode cX1_hours 0 = .ok (.aload_n 0, 1) := by decide +kernel
theorem dX1_hours_1 : decode cX1_hours 1 = .ok (.iload_n 1, 1) := by decide +kernel
theorem dX1_hours_2 : decode cX1_hours 2 = .ok (.invokestatic 70, 3) := by decide +kernel
theorem dX1_hours_5 : decode cX1_hours 5 = .ok (.ifCond .eq 14, 3) := by decide +kernel
theorem dX1_hours_8 : decode cX1_hours 8 = .ok (.iload_n 2, 1) := by decide +kernel
theorem dX1_hours_9 : decode cX1_hours 9 = .ok (.invokestatic 84, 3) := by decide +kernel
theorem dX1_hours_12 : decode cX1_hours 12 = .ok (.ifCond .eq 7, 3) := by decide +kernel
theorem dX1_hours_15 : decode cX1_hours 15 = .ok (.iconst 0, 1) := by decide +kernel
theorem dX1_hours_16 : decode cX1_hours 16 = .ok (.goto 4, 3) := by decide +kernel
theorem dX1_hours_19 : decode cX1_hours 19 = .ok (.iconst 1, 1) := by decide +kernel
theorem dX1_hours_20 : decode cX1_hours 20 = .ok (.invokevirtual 67, 3) := by decide +kernel
theorem dX1_hours_23 : decode cX1_hours 23 = .ok (.ifCond .ne 5, 3) := by decide +kernel
theorem dX1_hours_26 : decode cX1_hours 26 = .ok (.iconst 0, 1) := by decide +kernel
theorem dX1_hours_27 : decode cX1_hours 27 = .ok (.ireturn, 1) := by decide +kernel
theorem dX1_hours_28 : decode cX1_hours 28 = .ok (.iconst 0, 1) := by decide +kernel
theorem dX1_hours_29 : decode cX1_hours 29 = .ok (.istore_n 3, 1) := by decide +kernel
theorem dX1_hours_30 : decode cX1_hours 30 = .ok (.iconst 0, 1) := by decide +kernel
theorem dX1_hours_31 : decode cX1_hours 31 = .ok (.istore 4, 2) := by decide +kernel
theorem dX1_hours_33 : decode cX1_hours 33 = .ok (.iload 4, 2) := by decide +kernel
theorem dX1_hours_35 : decode cX1_hours 35 = .ok (.aload_n 0, 1) := by decide +kernel
theorem dX1_hours_36 : decode cX1_hours 36 = .ok (.getfield 60, 3) := by decide +kernel
theorem dX1_hours_39 : decode cX1_hours 39 = .ok (.if_icmp .ge 48, 3) := by decide +kernel
theorem dX1_hours_42 : decode cX1_hours 42 = .ok (.iload_n 3, 1) := by decide +kernel
theorem dX1_hours_43 : decode cX1_hours 43 = .ok (.aload_n 0, 1) := by decide +kernel
theorem dX1_hours_44 : decode cX1_hours 44 = .ok (.getfield 32, 3) := by decide +kernel
theorem dX1_hours_47 : decode cX1_hours 47 = .ok (.iload 4, 2) := by decide +kernel
theorem dX1_hours_49 : decode cX1_hours 49 = .ok (.iaload, 1) := by decide +kernel
theorem dX1_hours_50 : decode cX1_hours 50 = .ok (.iload_n 1, 1) := by decide +kernel
theorem dX1_hours_51 : decode cX1_hours 51 = .ok (.if_icmp .ne 27, 3) := by decide +kernel
theorem dX1_hours_54 : decode cX1_hours 54 = .ok (.aload_n 0, 1) := by decide +kernel
theorem dX1_hours_55 : decode cX1_hours 55 = .ok (.getfield 38, 3) := by decide +kernel
theorem dX1_hours_58 : decode cX1_hours 58 = .ok (.iload 4, 2) := by decide +kernel
theorem dX1_hours_60 : decode cX1_hours 60 = .ok (.iaload, 1) := by decide +kernel
theorem dX1_hours_61 : decode cX1_hours 61 = .ok (.bipush 7, 2) := by decide +kernel
theorem dX1_hours_63 : decode cX1_hours 63 = .ok (.idiv, 1) := by decide +kernel
theorem dX1_hours_64 : decode cX1_hours 64 = .ok (.iload_n 2, 1) := by decide +kernel
theorem dX1_hours_65 : decode cX1_hours 65 = .ok (.if_icmp .ne 13, 3) := by decide +kernel
theorem dX1_hours_68 : decode cX1_hours 68 = .ok (.aload_n 0, 1) := by decide +kernel
theorem dX1_hours_69 : decode cX1_hours 69 = .ok (.getfield 41, 3) := by decide +kernel
theorem dX1_hours_72 : decode cX1_hours 72 = .ok (.iload 4, 2) := by decide +kernel
theorem dX1_hours_74 : decode cX1_hours 74 = .ok (.iaload, 1) := by decide +kernel
theorem dX1_hours_75 : decode cX1_hours 75 = .ok (.goto 4, 3) := by decide +kernel
theorem dX1_hours_78 : decode cX1_hours 78 = .ok (.iconst 0, 1) := by decide +kernel
theorem dX1_hours_79 : decode cX1_hours 79 = .ok (.iadd, 1) := by decide +kernel
theorem dX1_hours_80 : decode cX1_hours 80 = .ok (.istore_n 3, 1) := by decide +kernel
theorem dX1_hours_81 : decode cX1_hours 81 = .ok (.iinc 4 1, 3) := by decide +kernel
theorem dX1_hours_84 : decode cX1_hours 84 = .ok (.goto (-51), 3) := by decide +kernel
theorem dX1_hours_87 : decode cX1_hours 87 = .ok (.iload_n 3, 1) := by decide +kernel
theorem dX1_hours_88 : decode cX1_hours 88 = .ok (.ireturn, 1) := by decide +kernel
theorem dX1_over_0 : decode cX1_over 0 = .ok (.aload_n 0, 1) := by decide +kernel
theorem dX1_over_1 : decode cX1_over 1 = .ok (.getfield 38, 3) := by decide +kernel
theorem dX1_over_4 : decode cX1_over 4 = .ok (.iload_n 1, 1) := by decide +kernel
theorem dX1_over_5 : decode cX1_over 5 = .ok (.iaload, 1) := by decide +kernel
theorem dX1_over_6 : decode cX1_over 6 = .ok (.bipush 7, 2) := by decide +kernel
theorem dX1_over_8 : decode cX1_over 8 = .ok (.idiv, 1) := by decide +kernel
theorem dX1_over_9 : decode cX1_over 9 = .ok (.istore_n 2, 1) := by decide +kernel
theorem dX1_over_10 : decode cX1_over 10 = .ok (.iconst 0, 1) := by decide +kernel
theorem dX1_over_11 : decode cX1_over 11 = .ok (.istore_n 3, 1) := by decide +kernel
theorem dX1_over_12 : decode cX1_over 12 = .ok (.iconst 0, 1) := by decide +kernel
theorem dX1_over_13 : decode cX1_over 13 = .ok (.istore 4, 2) := by decide +kernel
theorem dX1_over_15 : decode cX1_over 15 = .ok (.bipush 7, 2) := by decide +kernel
theorem dX1_over_17 : decode cX1_over 17 = .ok (.iload_n 2, 1) := by decide +kernel
theorem dX1_over_18 : decode cX1_over 18 = .ok (.imul, 1) := by decide +kernel
theorem dX1_over_19 : decode cX1_over 19 = .ok (.istore 5, 2) := by decide +kernel
theorem dX1_over_21 : decode cX1_over 21 = .ok (.iload 5, 2) := by decide +kernel
theorem dX1_over_23 : decode cX1_over 23 = .ok (.aload_n 0, 1) := by decide +kernel
theorem dX1_over_24 : decode cX1_over 24 = .ok (.getfield 38, 3) := by decide +kernel
theorem dX1_over_27 : decode cX1_over 27 = .ok (.iload_n 1, 1) := by decide +kernel
theorem dX1_over_28 : decode cX1_over 28 = .ok (.iaload, 1) := by decide +kernel
theorem dX1_over_29 : decode cX1_over 29 = .ok (.if_icmp .gt 170, 3) := by decide +kernel
theorem dX1_over_32 : decode cX1_over 32 = .ok (.iconst 0, 1) := by decide +kernel
theorem dX1_over_33 : decode cX1_over 33 = .ok (.istore 6, 2) := by decide +kernel
theorem dX1_over_35 : decode cX1_over 35 = .ok (.iconst 0, 1) := by decide +kernel
theorem dX1_over_36 : decode cX1_over 36 = .ok (.istore 7, 2) := by decide +kernel
theorem dX1_over_38 : decode cX1_over 38 = .ok (.iload 7, 2) := by decide +kernel
theorem dX1_over_40 : decode cX1_over 40 = .ok (.aload_n 0, 1) := by decide +kernel
theorem dX1_over_41 : decode cX1_over 41 = .ok (.getfield 60, 3) := by decide +kernel
theorem dX1_over_44 : decode cX1_over 44 = .ok (.if_icmp .ge 149, 3) := by decide +kernel
theorem dX1_over_47 : decode cX1_over 47 = .ok (.aload_n 0, 1) := by decide +kernel
theorem dX1_over_48 : decode cX1_over 48 = .ok (.getfield 32, 3) := by decide +kernel
theorem dX1_over_51 : decode cX1_over 51 = .ok (.iload 7, 2) := by decide +kernel
theorem dX1_over_53 : decode cX1_over 53 = .ok (.iaload, 1) := by decide +kernel
theorem dX1_over_54 : decode cX1_over 54 = .ok (.aload_n 0, 1) := by decide +kernel
theorem dX1_over_55 : decode cX1_over 55 = .ok (.getfield 32, 3) := by decide +kernel
theorem dX1_over_58 : decode cX1_over 58 = .ok (.iload_n 1, 1) := by decide +kernel
theorem dX1_over_59 : decode cX1_over 59 = .ok (.iaload, 1) := by decide +kernel
theorem dX1_over_60 : decode cX1_over 60 = .ok (.if_icmp .ne 127, 3) := by decide +kernel
theorem dX1_over_63 : decode cX1_over 63 = .ok (.aload_n 0, 1) := by decide +kernel
theorem dX1_over_64 : decode cX1_over 64 = .ok (.getfield 38, 3) := by decide +kernel
theorem dX1_over_67 : decode cX1_over 67 = .ok (.iload 7, 2) := by decide +kernel
theorem dX1_over_69 : decode cX1_over 69 = .ok (.iaload, 1) := by decide +kernel
theorem dX1_over_70 : decode cX1_over 70 = .ok (.iload 5, 2) := by decide +kernel
theorem dX1_over_72 : decode cX1_over 72 = .ok (.if_icmp .ne 115, 3) := by decide +kernel
theorem dX1_over_75 : decode cX1_over 75 = .ok (.iload 5, 2) := by decide +kernel
theorem dX1_over_77 : decode cX1_over 77 = .ok (.aload_n 0, 1) := by decide +kernel
theorem dX1_over_78 : decode cX1_over 78 = .ok (.getfield 38, 3) := by decide +kernel
theorem dX1_over_81 : decode cX1_over 81 = .ok (.iload_n 1, 1) := by decide +kernel
theorem dX1_over_82 : decode cX1_over 82 = .ok (.iaload, 1) := by decide +kernel
theorem dX1_over_83 : decode cX1_over 83 = .ok (.if_icmp .lt 9, 3) := by decide +kernel
theorem dX1_over_86 : decode cX1_over 86 = .ok (.iload 7, 2) := by decide +kernel
theorem dX1_over_88 : decode cX1_over 88 = .ok (.iload_n 1, 1) := by decide +kernel
theorem dX1_over_89 : decode cX1_over 89 = .ok (.if_icmp .gt 98, 3) := by decide +kernel
theorem dX1_over_92 : decode cX1_over 92 = .ok (.iload 6, 2) := by decide +kernel
theorem dX1_over_94 : decode cX1_over 94 = .ok (.bipush 8, 2) := by decide +kernel
theorem dX1_over_96 : decode cX1_over 96 = .ok (.if_icmp .ge 11, 3) := by decide +kernel
theorem dX1_over_99 : decode cX1_over 99 = .ok (.bipush 8, 2) := by decide +kernel
theorem dX1_over_101 : decode cX1_over 101 = .ok (.iload 6, 2) := by decide +kernel
theorem dX1_over_103 : decode cX1_over 103 = .ok (.isub, 1) := by decide +kernel
theorem dX1_over_104 : decode cX1_over 104 = .ok (.goto 4, 3) := by decide +kernel
theorem dX1_over_107 : decode cX1_over 107 = .ok (.iconst 0, 1) := by decide +kernel
theorem dX1_over_108 : decode cX1_over 108 = .ok (.istore 8, 2) := by decide +kernel
theorem dX1_over_110 : decode cX1_over 110 = .ok (.bipush 40, 2) := by decide +kernel
theorem dX1_over_112 : decode cX1_over 112 = .ok (.iload_n 3, 1) := by decide +kernel
theorem dX1_over_113 : decode cX1_over 113 = .ok (.isub, 1) := by decide +kernel
theorem dX1_over_114 : decode cX1_over 114 = .ok (.istore 9, 2) := by decide +kernel
theorem dX1_over_116 : decode cX1_over 116 = .ok (.iload 8, 2) := by decide +kernel
theorem dX1_over_118 : decode cX1_over 118 = .ok (.iload 9, 2) := by decide +kernel
theorem dX1_over_120 : decode cX1_over 120 = .ok (.if_icmp .ge 8, 3) := by decide +kernel
theorem dX1_over_123 : decode cX1_over 123 = .ok (.iload 8, 2) := by decide +kernel
theorem dX1_over_125 : decode cX1_over 125 = .ok (.goto 5, 3) := by decide +kernel
theorem dX1_over_128 : decode cX1_over 128 = .ok (.iload 9, 2) := by decide +kernel
theorem dX1_over_130 : decode cX1_over 130 = .ok (.istore 10, 2) := by decide +kernel
theorem dX1_over_132 : decode cX1_over 132 = .ok (.aload_n 0, 1) := by decide +kernel
theorem dX1_over_133 : decode cX1_over 133 = .ok (.getfield 41, 3) := by decide +kernel
theorem dX1_over_136 : decode cX1_over 136 = .ok (.iload 7, 2) := by decide +kernel
theorem dX1_over_138 : decode cX1_over 138 = .ok (.iaload, 1) := by decide +kernel
theorem dX1_over_139 : decode cX1_over 139 = .ok (.iload 10, 2) := by decide +kernel
theorem dX1_over_141 : decode cX1_over 141 = .ok (.if_icmp .ge 13, 3) := by decide +kernel
theorem dX1_over_144 : decode cX1_over 144 = .ok (.aload_n 0, 1) := by decide +kernel
theorem dX1_over_145 : decode cX1_over 145 = .ok (.getfield 41, 3) := by decide +kernel
theorem dX1_over_148 : decode cX1_over 148 = .ok (.iload 7, 2) := by decide +kernel
theorem dX1_over_150 : decode cX1_over 150 = .ok (.iaload, 1) := by decide +kernel
theorem dX1_over_151 : decode cX1_over 151 = .ok (.goto 5, 3) := by decide +kernel
theorem dX1_over_154 : decode cX1_over 154 = .ok (.iload 10, 2) := by decide +kernel
theorem dX1_over_156 : decode cX1_over 156 = .ok (.istore 11, 2) := by decide +kernel
theorem dX1_over_158 : decode cX1_over 158 = .ok (.iload_n 3, 1) := by decide +kernel
theorem dX1_over_159 : decode cX1_over 159 = .ok (.iload 11, 2) := by decide +kernel
theorem dX1_over_161 : decode cX1_over 161 = .ok (.iadd, 1) := by decide +kernel
theorem dX1_over_162 : decode cX1_over 162 = .ok (.istore_n 3, 1) := by decide +kernel
theorem dX1_over_163 : decode cX1_over 163 = .ok (.iload 6, 2) := by decide +kernel
theorem dX1_over_165 : decode cX1_over 165 = .ok (.aload_n 0, 1) := by decide +kernel
theorem dX1_over_166 : decode cX1_over 166 = .ok (.getfield 41, 3) := by decide +kernel
theorem dX1_over_169 : decode cX1_over 169 = .ok (.iload 7, 2) := by decide +kernel
theorem dX1_over_171 : decode cX1_over 171 = .ok (.iaload, 1) := by decide +kernel
theorem dX1_over_172 : decode cX1_over 172 = .ok (.iadd, 1) := by decide +kernel
theorem dX1_over_173 : decode cX1_over 173 = .ok (.istore 6, 2) := by decide +kernel
theorem dX1_over_175 : decode cX1_over 175 = .ok (.aload_n 0, 1) := by decide +kernel
theorem dX1_over_176 : decode cX1_over 176 = .ok (.getfield 41, 3) := by decide +kernel
theorem dX1_over_179 : decode cX1_over 179 = .ok (.iload 7, 2) := by decide +kernel
theorem dX1_over_181 : decode cX1_over 181 = .ok (.iaload, 1) := by decide +kernel
theorem dX1_over_182 : decode cX1_over 182 = .ok (.iload 11, 2) := by decide +kernel
theorem dX1_over_184 : decode cX1_over 184 = .ok (.isub, 1) := by decide +kernel
theorem dX1_over_185 : decode cX1_over 185 = .ok (.istore 4, 2) := by decide +kernel
theorem dX1_over_187 : decode cX1_over 187 = .ok (.iinc 7 1, 3) := by decide +kernel
theorem dX1_over_190 : decode cX1_over 190 = .ok (.goto (-152), 3) := by decide +kernel
theorem dX1_over_193 : decode cX1_over 193 = .ok (.iinc 5 1, 3) := by decide +kernel
theorem dX1_over_196 : decode cX1_over 196 = .ok (.goto (-175), 3) := by decide +kernel
theorem dX1_over_199 : decode cX1_over 199 = .ok (.iload 4, 2) := by decide +kernel
theorem dX1_over_201 : decode cX1_over 201 = .ok (.ireturn, 1) := by decide +kernel
set_option maxRecDepth 20000 in
theorem ggX1_overtime_X1_isShift : GoodIn wsX1_overtime wsX1_isShift := goodIn_r _ [5, 6, 7, 8, 4, 9, 22, 23, 24, 25, 26, 27, 28, 29, 30, 31, 32, 33, 34, 35, 36, 37] (by decide +kernel) (by decide +kernel)
set_option maxRecDepth 20000 in
theorem gX1_overtime_X1_isShift : GoodIn wsX1_overtime (wsV RX1 77 RX1 yX1_isShift wsX1_isShift) := goodIn_app (goodIn_of _ (by decide +kernel)) ggX1_overtime_X1_isShift
set_option maxRecDepth 20000 in
theorem ggX1_overtime_X1_goes : GoodIn wsX1_overtime wsX1_goes := goodIn_r _ [13, 14, 22, 23, 24, 25, 26, 27, 28, 29, 30, 31, 32, 33, 34, 35, 36, 37] (by decide +kernel) (by decide +kernel)
set_option maxRecDepth 20000 in
theorem gX1_overtime_X1_goes : GoodIn wsX1_overtime (wsV RX1 67 RX1 yX1_goes wsX1_goes) := goodIn_app (goodIn_of _ (by decide +kernel)) ggX1_overtime_X1_goes
set_option maxRecDepth 20000 in
theorem ggX1_overtime_X1_over : GoodIn wsX1_overtime wsX1_over := goodIn_r _ [18, 19, 6, 20, 21, 22, 23, 24, 25, 26, 27, 28, 29, 30, 31, 32, 33, 34, 35, 36, 37] (by decide +kernel) (by decide +kernel)
set_option maxRecDepth 20000 in
theorem gX1_overtime_X1_over : GoodIn wsX1_overtime (wsV RX1 87 RX1 yX1_over wsX1_over) := goodIn_app (goodIn_of _ (by decide +kernel)) ggX1_overtime_X1_over
theorem dX1_overtime_0 : decode cX1_overtime 0 = .ok (.aload_n 0, 1) := by decide +kernel
theorem dX1_overtime_1 : decode cX1_overtime 1 = .ok (.aload_n 0, 1) := by decide +kernel
theorem dX1_overtime_2 : decode cX1_overtime 2 = .ok (.iload_n 1, 1) := by decide +kernel
theorem dX1_overtime_3 : decode cX1_overtime 3 = .ok (.invokevirtual 77, 3) := by decide +kernel
theorem dX1_overtime_6 : decode cX1_overtime 6 = .ok (.ifCond .eq 7, 3) := by decide +kernel
theorem dX1_overtime_9 : decode cX1_overtime 9 = .ok (.iconst 0, 1) := by decide +kernel
theorem dX1_overtime_10 : decode cX1_overtime 10 = .ok (.goto 4, 3) := by decide +kernel
theorem dX1_overtime_13 : decode cX1_overtime 13 = .ok (.iconst 1, 1) := by decide +kernel
theorem dX1_overtime_14 : decode cX1_overtime 14 = .ok (.invokevirtual 67, 3) := by decide +kernel
theorem dX1_overtime_17 : decode cX1_overtime 17 = .ok (.ifCond .eq 11, 3) := by decide +kernel
theorem dX1_overtime_20 : decode cX1_overtime 20 = .ok (.aload_n 0, 1) := by decide +kernel
theorem dX1_overtime_21 : decode cX1_overtime 21 = .ok (.iload_n 1, 1) := by decide +kernel
theorem dX1_overtime_22 : decode cX1_overtime 22 = .ok (.invokevirtual 87, 3) := by decide +kernel
theorem dX1_overtime_25 : decode cX1_overtime 25 = .ok (.goto 4, 3) := by decide +kernel
theorem dX1_overtime_28 : decode cX1_overtime 28 = .ok (.iconst 0, 1) := by decide +kernel
theorem dX1_overtime_29 : decode cX1_overtime 29 = .ok (.ireturn, 1) := by decide +kernel
theorem dX1_isWorked_0 : decode cX1_isWorked 0 = .ok (.iconst 0, 1) := by decide +kernel
theorem dX1_isWorked_1 : decode cX1_isWorked 1 = .ok (.istore 4, 2) := by decide +kernel
theorem dX1_isWorked_3 : decode cX1_isWorked 3 = .ok (.iconst 0, 1) := by decide +kernel
theorem dX1_isWorked_4 : decode cX1_isWorked 4 = .ok (.istore 5, 2) := by decide +kernel
theorem dX1_isWorked_6 : decode cX1_isWorked 6 = .ok (.iload 5, 2) := by decide +kernel
theorem dX1_isWorked_8 : decode cX1_isWorked 8 = .ok (.aload_n 0, 1) := by decide +kernel
theorem dX1_isWorked_9 : decode cX1_isWorked 9 = .ok (.getfield 60, 3) := by decide +kernel
theorem dX1_isWorked_12 : decode cX1_isWorked 12 = .ok (.if_icmp .ge 67, 3) := by decide +kernel
theorem dX1_isWorked_15 : decode cX1_isWorked 15 = .ok (.iload 4, 2) := by decide +kernel
theorem dX1_isWorked_17 : decode cX1_isWorked 17 = .ok (.ifCond .ne 49, 3) := by decide +kernel
theorem dX1_isWorked_20 : decode cX1_isWorked 20 = .ok (.aload_n 0, 1) := by decide +kernel
theorem dX1_isWorked_21 : decode cX1_isWorked 21 = .ok (.getfield 32, 3) := by decide +kernel
theorem dX1_isWorked_24 : decode cX1_isWorked 24 = .ok (.iload 5, 2) := by decide +kernel
theorem dX1_isWorked_26 : decode cX1_isWorked 26 = .ok (.iaload, 1) := by decide +kernel
theorem dX1_isWorked_27 : decode cX1_isWorked 27 = .ok (.iload_n 1, 1) := by decide +kernel
theorem dX1_isWorked_28 : decode cX1_isWorked 28 = .ok (.if_icmp .ne 42, 3) := by decide +kernel
theorem dX1_isWorked_31 : decode cX1_isWorked 31 = .ok (.aload_n 0, 1) := by decide +kernel
theorem dX1_isWorked_32 : decode cX1_isWorked 32 = .ok (.getfield 35, 3) := by decide +kernel
theorem dX1_isWorked_35 : decode cX1_isWorked 35 = .ok (.iload 5, 2) := by decide +kernel
theorem dX1_isWorked_37 : decode cX1_isWorked 37 = .ok (.iaload, 1) := by decide +kernel
theorem dX1_isWorked_38 : decode cX1_isWorked 38 = .ok (.iload_n 2, 1) := by decide +kernel
theorem dX1_isWorked_39 : decode cX1_isWorked 39 = .ok (.if_icmp .ne 31, 3) := by decide +kernel
theorem dX1_isWorked_42 : decode cX1_isWorked 42 = .ok (.aload_n 0, 1) := by decide +kernel
theorem dX1_isWorked_43 : decode cX1_isWorked 43 = .ok (.getfield 38, 3) := by decide +kernel
theorem dX1_isWorked_46 : decode cX1_isWorked 46 = .ok (.iload 5, 2) := by decide +kernel
theorem dX1_isWorked_48 : decode cX1_isWorked 48 = .ok (.iaload, 1) := by decide +kernel
theorem dX1_isWorked_49 : decode cX1_isWorked 49 = .ok (.bipush 7, 2) := by decide +kernel
theorem dX1_isWorked_51 : decode cX1_isWorked 51 = .ok (.idiv, 1) := by decide +kernel
theorem dX1_isWorked_52 : decode cX1_isWorked 52 = .ok (.iload_n 3, 1) := by decide +kernel
theorem dX1_isWorked_53 : decode cX1_isWorked 53 = .ok (.if_icmp .ne 17, 3) := by decide +kernel
theorem dX1_isWorked_56 : decode cX1_isWorked 56 = .ok (.aload_n 0, 1) := by decide +kernel
theorem dX1_isWorked_57 : decode cX1_isWorked 57 = .ok (.getfield 41, 3) := by decide +kernel
theorem dX1_isWorked_60 : decode cX1_isWorked 60 = .ok (.iload 5, 2) := by decide +kernel
theorem dX1_isWorked_62 : decode cX1_isWorked 62 = .ok (.iaload, 1) := by decide +kernel
theorem dX1_isWorked_63 : decode cX1_isWorked 63 = .ok (.ifCond .le 7, 3) := by decide +kernel
theorem dX1_isWorked_66 : decode cX1_isWorked 66 = .ok (.iconst 1, 1) := by decide +kernel
theorem dX1_isWorked_67 : decode cX1_isWorked 67 = .ok (.goto 4, 3) := by decide +kernel
theorem dX1_isWorked_70 : decode cX1_isWorked 70 = .ok (.iconst 0, 1) := by decide +kernel
theorem dX1_isWorked_71 : decode cX1_isWorked 71 = .ok (.istore 4, 2) := by decide +kernel
theorem dX1_isWorked_73 : decode cX1_isWorked 73 = .ok (.iinc 5 1, 3) := by decide +kernel
theorem dX1_isWorked_76 : decode cX1_isWorked 76 = .ok (.goto (-70), 3) := by decide +kernel
theorem dX1_isWorked_79 : decode cX1_isWorked 79 = .ok (.iload 4, 2) := by decide +kernel
theorem dX1_isWorked_81 : decode cX1_isWorked 81 = .ok (.ireturn, 1) := by decide +kernel
set_option maxRecDepth 20000 in
theorem ggX1_isEqual_X1_isWorked : GoodIn wsX1_isEqual wsX1_isWorked := goodIn_r _ [7, 8, 9, 10, 11, 12, 13, 14, 15, 16, 17, 18, 19, 20, 21, 22, 23, 24, 25, 26, 27, 28] (by decide +kernel) (by decide +kernel)
set_option maxRecDepth 20000 in
theorem gX1_isEqual_X1_isWorked : GoodIn wsX1_isEqual (wsV RX1 90 RX1 yX1_isWorked wsX1_isWorked) := goodIn_app (goodIn_of _ (by decide +kernel)) ggX1_isEqual_X1_isWorked
theorem dX1_isEqual_0 : decode cX1_isEqual 0 = .ok (.iconst 0, 1) := by decide +kernel
theorem dX1_isEqual_1 : decode cX1_isEqual 1 = .ok (.istore 4, 2) := by decide +kernel
theorem dX1_isEqual_3 : decode cX1_isEqual 3 = .ok (.iconst 0, 1) := by decide +kernel
theorem dX1_isEqual_4 : decode cX1_isEqual 4 = .ok (.istore 5, 2) := by decide +kernel
theorem dX1_isEqual_6 : decode cX1_isEqual 6 = .ok (.iload_n 3, 1) := by decide +kernel
theorem dX1_isEqual_7 : decode cX1_isEqual 7 = .ok (.iconst 1, 1) := by decide +kernel
theorem dX1_isEqual_8 : decode cX1_isEqual 8 = .ok (.isub, 1) := by decide +kernel
theorem dX1_isEqual_9 : decode cX1_isEqual 9 = .ok (.istore 6, 2) := by decide +kernel
theorem dX1_isEqual_11 : decode cX1_isEqual 11 = .ok (.iload 6, 2) := by decide +kernel
theorem dX1_isEqual_13 : decode cX1_isEqual 13 = .ok (.ifCond .lt 58, 3) := by decide +kernel
theorem dX1_isEqual_16 : decode cX1_isEqual 16 = .ok (.iload 5, 2) := by decide +kernel
theorem dX1_isEqual_18 : decode cX1_isEqual 18 = .ok (.aload_n 0, 1) := by decide +kernel
theorem dX1_isEqual_19 : decode cX1_isEqual 19 = .ok (.getfield 29, 3) := by decide +kernel
theorem dX1_isEqual_22 : decode cX1_isEqual 22 = .ok (.if_icmp .gt 49, 3) := by decide +kernel
theorem dX1_isEqual_25 : decode cX1_isEqual 25 = .ok (.aload_n 0, 1) := by decide +kernel
theorem dX1_isEqual_26 : decode cX1_isEqual 26 = .ok (.iload_n 1, 1) := by decide +kernel
theorem dX1_isEqual_27 : decode cX1_isEqual 27 = .ok (.iload_n 2, 1) := by decide +kernel
theorem dX1_isEqual_28 : decode cX1_isEqual 28 = .ok (.iload 6, 2) := by decide +kernel
theorem dX1_isEqual_30 : decode cX1_isEqual 30 = .ok (.invokevirtual 90, 3) := by decide +kernel
theorem dX1_isEqual_33 : decode cX1_isEqual 33 = .ok (.istore 7, 2) := by decide +kernel
theorem dX1_isEqual_35 : decode cX1_isEqual 35 = .ok (.iload 4, 2) := by decide +kernel
theorem dX1_isEqual_37 : decode cX1_isEqual 37 = .ok (.iload 7, 2) := by decide +kernel
theorem dX1_isEqual_39 : decode cX1_isEqual 39 = .ok (.ifCond .eq 7, 3) := by decide +kernel
theorem dX1_isEqual_42 : decode cX1_isEqual 42 = .ok (.iconst 1, 1) := by decide +kernel
theorem dX1_isEqual_43 : decode cX1_isEqual 43 = .ok (.goto 4, 3) := by decide +kernel
theorem dX1_isEqual_46 : decode cX1_isEqual 46 = .ok (.iconst 0, 1) := by decide +kernel
theorem dX1_isEqual_47 : decode cX1_isEqual 47 = .ok (.iadd, 1) := by decide +kernel
theorem dX1_isEqual_48 : decode cX1_isEqual 48 = .ok (.istore 4, 2) := by decide +kernel
theorem dX1_isEqual_50 : decode cX1_isEqual 50 = .ok (.iload 7, 2) := by decide +kernel
theorem dX1_isEqual_52 : decode cX1_isEqual 52 = .ok (.ifCond .eq 7, 3) := by decide +kernel
theorem dX1_isEqual_55 : decode cX1_isEqual 55 = .ok (.iconst 0, 1) := by decide +kernel
theorem dX1_isEqual_56 : decode cX1_isEqual 56 = .ok (.goto 7, 3) := by decide +kernel
theorem dX1_isEqual_59 : decode cX1_isEqual 59 = .ok (.iload 5, 2) := by decide +kernel
theorem dX1_isEqual_61 : decode cX1_isEqual 61 = .ok (.iconst 1, 1) := by decide +kernel
theorem dX1_isEqual_62 : decode cX1_isEqual 62 = .ok (.iadd, 1) := by decide +kernel
theorem dX1_isEqual_63 : decode cX1_isEqual 63 = .ok (.istore 5, 2) := by decide +kernel
theorem dX1_isEqual_65 : decode cX1_isEqual 65 = .ok (.iinc 6 (-1), 3) := by decide +kernel
theorem dX1_isEqual_68 : decode cX1_isEqual 68 = .ok (.goto (-57), 3) := by decide +kernel
theorem dX1_isEqual_71 : decode cX1_isEqual 71 = .ok (.iload 4, 2) := by decide +kernel
theorem dX1_isEqual_73 : decode cX1_isEqual 73 = .ok (.aload_n 0, 1) := by decide +kernel
theorem dX1_isEqual_74 : decode cX1_isEqual 74 = .ok (.getfield 25, 3) := by decide +kernel
theorem dX1_isEqual_77 : decode cX1_isEqual 77 = .ok (.if_icmp .lt 7, 3) := by decide +kernel
theorem dX1_isEqual_80 : decode cX1_isEqual 80 = .ok (.iconst 1, 1) := by decide +kernel
theorem dX1_isEqual_81 : decode cX1_isEqual 81 = .ok (.goto 4, 3) := by decide +kernel
theorem dX1_isEqual_84 : decode cX1_isEqual 84 = .ok (.iconst 0, 1) := by decide +kernel
theorem dX1_isEqual_85 : decode cX1_isEqual 85 = .ok (.ireturn, 1) := by decide +kernel
set_option maxRecDepth 20000 in
theorem ggX1_hasEqual_X1_isWorker : GoodIn wsX1_hasEqual wsX1_isWorker := goodIn_r _ [4, 5, 6, 3, 7] (by decide +kernel) (by decide +kernel)
set_option maxRecDepth 20000 in
theorem gX1_hasEqual_X1_isWorker : GoodIn wsX1_hasEqual (va_wsS RX1 70 yX1_isWorker wsX1_isWorker) := goodIn_app (goodIn_of _ (by decide +kernel)) ggX1_hasEqual_X1_isWorker
set_option maxRecDepth 20000 in
theorem ggX1_hasEqual_X1_isSite : GoodIn wsX1_hasEqual wsX1_isSite := goodIn_r _ [10, 5, 6, 3, 7] (by decide +kernel) (by decide +kernel)
set_option maxRecDepth 20000 in
theorem gX1_hasEqual_X1_isSite : GoodIn wsX1_hasEqual (va_wsS RX1 63 yX1_isSite wsX1_isSite) := goodIn_app (goodIn_of _ (by decide +kernel)) ggX1_hasEqual_X1_isSite
set_option maxRecDepth 20000 in
theorem ggX1_hasEqual_X1_isWeek : GoodIn wsX1_hasEqual wsX1_isWeek := goodIn_r _ [13, 5, 6, 3, 7] (by decide +kernel) (by decide +kernel)
set_option maxRecDepth 20000 in
theorem gX1_hasEqual_X1_isWeek : GoodIn wsX1_hasEqual (va_wsS RX1 84 yX1_isWeek wsX1_isWeek) := goodIn_app (goodIn_of _ (by decide +kernel)) ggX1_hasEqual_X1_isWeek
set_option maxRecDepth 20000 in
theorem ggX1_hasEqual_X1_goes : GoodIn wsX1_hasEqual wsX1_goes := goodIn_r _ [17, 18, 34, 35, 36, 37, 38, 39, 40, 41, 42, 43, 44, 45, 46, 47, 48, 49] (by decide +kernel) (by decide +kernel)
set_option maxRecDepth 20000 in
theorem gX1_hasEqual_X1_goes : GoodIn wsX1_hasEqual (wsV RX1 67 RX1 yX1_goes wsX1_goes) := goodIn_app (goodIn_of _ (by decide +kernel)) ggX1_hasEqual_X1_goes
set_option maxRecDepth 20000 in
theorem ggX1_hasEqual_X1_isEqual : GoodIn wsX1_hasEqual wsX1_isEqual := goodIn_r _ [22, 23, 24, 25, 26, 27, 3, 28, 29, 30, 31, 32, 33, 34, 35, 36, 37, 38, 39, 40, 41, 42, 43, 44, 45, 46, 47, 48, 49] (by decide +kernel) (by decide +kernel)
set_option maxRecDepth 20000 in
theorem gX1_hasEqual_X1_isEqual : GoodIn wsX1_hasEqual (wsV RX1 93 RX1 yX1_isEqual wsX1_isEqual) := goodIn_app (goodIn_of _ (by decide +kernel)) ggX1_hasEqual_X1_isEqual
theorem dX1_hasEqual_0 : decode cX1_hasEqual 0 = .ok (.aload_n 0, 1) := by decide +kernel
theorem dX1_hasEqual_1 : decode cX1_hasEqual 1 = .ok (.iload_n 1, 1) := by decide +kernel
theorem dX1_hasEqual_2 : decode cX1_hasEqual 2 = .ok (.invokestatic 70, 3) := by decide +kernel
theorem dX1_hasEqual_5 : decode cX1_hasEqual 5 = .ok (.ifCond .eq 21, 3) := by decide +kernel
theorem dX1_hasEqual_8 : decode cX1_hasEqual 8 = .ok (.iload_n 2, 1) := by decide +kernel
theorem dX1_hasEqual_9 : decode cX1_hasEqual 9 = .ok (.invokestatic 63, 3) := by decide +kernel
theorem dX1_hasEqual_12 : decode cX1_hasEqual 12 = .ok (.ifCond .eq 14, 3) := by decide +kernel
theorem dX1_hasEqual_15 : decode cX1_hasEqual 15 = .ok (.iload_n 3, 1) := by decide +kernel
theorem dX1_hasEqual_16 : decode cX1_hasEqual 16 = .ok (.invokestatic 84, 3) := by decide +kernel
theorem dX1_hasEqual_19 : decode cX1_hasEqual 19 = .ok (.ifCond .eq 7, 3) := by decide +kernel
theorem dX1_hasEqual_22 : decode cX1_hasEqual 22 = .ok (.iconst 0, 1) := by decide +kernel
theorem dX1_hasEqual_23 : decode cX1_hasEqual 23 = .ok (.goto 4, 3) := by decide +kernel
theorem dX1_hasEqual_26 : decode cX1_hasEqual 26 = .ok (.iconst 1, 1) := by decide +kernel
theorem dX1_hasEqual_27 : decode cX1_hasEqual 27 = .ok (.invokevirtual 67, 3) := by decide +kernel
theorem dX1_hasEqual_30 : decode cX1_hasEqual 30 = .ok (.ifCond .eq 17, 3) := by decide +kernel
theorem dX1_hasEqual_33 : decode cX1_hasEqual 33 = .ok (.aload_n 0, 1) := by decide +kernel
theorem dX1_hasEqual_34 : decode cX1_hasEqual 34 = .ok (.iload_n 1, 1) := by decide +kernel
theorem dX1_hasEqual_35 : decode cX1_hasEqual 35 = .ok (.iload_n 2, 1) := by decide +kernel
theorem dX1_hasEqual_36 : decode cX1_hasEqual 36 = .ok (.iload_n 3, 1) := by decide +kernel
theorem dX1_hasEqual_37 : decode cX1_hasEqual 37 = .ok (.invokevirtual 93, 3) := by decide +kernel
theorem dX1_hasEqual_40 : decode cX1_hasEqual 40 = .ok (.ifCond .eq 7, 3) := by decide +kernel
theorem dX1_hasEqual_43 : decode cX1_hasEqual 43 = .ok (.iconst 1, 1) := by decide +kernel
theorem dX1_hasEqual_44 : decode cX1_hasEqual 44 = .ok (.goto 4, 3) := by decide +kernel
theorem dX1_hasEqual_47 : decode cX1_hasEqual 47 = .ok (.iconst 0, 1) := by decide +kernel
theorem dX1_hasEqual_48 : decode cX1_hasEqual 48 = .ok (.ireturn, 1) := by decide +kernel
set_option maxRecDepth 20000 in
theorem ggX1_payFor_X1_over : GoodIn wsX1_payFor wsX1_over := goodIn_r _ [11, 3, 12, 1, 6, 23, 24, 25, 26, 27, 28, 29, 30, 31, 32, 33, 34, 35, 36, 37, 38] (by decide +kernel) (by decide +kernel)
set_option maxRecDepth 20000 in
theorem gX1_payFor_X1_over : GoodIn wsX1_payFor (wsV RX1 87 RX1 yX1_over wsX1_over) := goodIn_app (goodIn_of _ (by decide +kernel)) ggX1_payFor_X1_over
set_option maxRecDepth 20000 in
theorem ggX1_payFor_X1_isEqual : GoodIn wsX1_payFor wsX1_isEqual := goodIn_r _ [16, 17, 18, 19, 20, 21, 10, 22, 12, 1, 2, 3, 6, 23, 24, 25, 26, 27, 28, 29, 30, 31, 32, 33, 34, 35, 36, 37, 38] (by decide +kernel) (by decide +kernel)
set_option maxRecDepth 20000 in
theorem gX1_payFor_X1_isEqual : GoodIn wsX1_payFor (wsV RX1 93 RX1 yX1_isEqual wsX1_isEqual) := goodIn_app (goodIn_of _ (by decide +kernel)) ggX1_payFor_X1_isEqual
theorem dX1_payFor_0 : decode cX1_payFor 0 = .ok (.aload_n 0, 1) := by decide +kernel
theorem dX1_payFor_1 : decode cX1_payFor 1 = .ok (.iload_n 1, 1) := by decide +kernel
theorem dX1_payFor_2 : decode cX1_payFor 2 = .ok (.invokevirtual 87, 3) := by decide +kernel
theorem dX1_payFor_5 : decode cX1_payFor 5 = .ok (.istore_n 2, 1) := by decide +kernel
theorem dX1_payFor_6 : decode cX1_payFor 6 = .ok (.aload_n 0, 1) := by decide +kernel
theorem dX1_payFor_7 : decode cX1_payFor 7 = .ok (.aload_n 0, 1) := by decide +kernel
theorem dX1_payFor_8 : decode cX1_payFor 8 = .ok (.getfield 32, 3) := by decide +kernel
theorem dX1_payFor_11 : decode cX1_payFor 11 = .ok (.iload_n 1, 1) := by decide +kernel
theorem dX1_payFor_12 : decode cX1_payFor 12 = .ok (.iaload, 1) := by decide +kernel
theorem dX1_payFor_13 : decode cX1_payFor 13 = .ok (.aload_n 0, 1) := by decide +kernel
theorem dX1_payFor_14 : decode cX1_payFor 14 = .ok (.getfield 35, 3) := by decide +kernel
theorem dX1_payFor_17 : decode cX1_payFor 17 = .ok (.iload_n 1, 1) := by decide +kernel
theorem dX1_payFor_18 : decode cX1_payFor 18 = .ok (.iaload, 1) := by decide +kernel
theorem dX1_payFor_19 : decode cX1_payFor 19 = .ok (.aload_n 0, 1) := by decide +kernel
theorem dX1_payFor_20 : decode cX1_payFor 20 = .ok (.getfield 38, 3) := by decide +kernel
theorem dX1_payFor_23 : decode cX1_payFor 23 = .ok (.iload_n 1, 1) := by decide +kernel
theorem dX1_payFor_24 : decode cX1_payFor 24 = .ok (.iaload, 1) := by decide +kernel
theorem dX1_payFor_25 : decode cX1_payFor 25 = .ok (.bipush 7, 2) := by decide +kernel
theorem dX1_payFor_27 : decode cX1_payFor 27 = .ok (.idiv, 1) := by decide +kernel
theorem dX1_payFor_28 : decode cX1_payFor 28 = .ok (.invokevirtual 93, 3) := by decide +kernel
theorem dX1_payFor_31 : decode cX1_payFor 31 = .ok (.istore_n 3, 1) := by decide +kernel
theorem dX1_payFor_32 : decode cX1_payFor 32 = .ok (.iload_n 3, 1) := by decide +kernel
theorem dX1_payFor_33 : decode cX1_payFor 33 = .ok (.ifCond .eq 17, 3) := by decide +kernel
theorem dX1_payFor_36 : decode cX1_payFor 36 = .ok (.aload_n 0, 1) := by decide +kernel
theorem dX1_payFor_37 : decode cX1_payFor 37 = .ok (.getfield 13, 3) := by decide +kernel
theorem dX1_payFor_40 : decode cX1_payFor 40 = .ok (.aload_n 0, 1) := by decide +kernel
theorem dX1_payFor_41 : decode cX1_payFor 41 = .ok (.getfield 35, 3) := by decide +kernel
theorem dX1_payFor_44 : decode cX1_payFor 44 = .ok (.iload_n 1, 1) := by decide +kernel
theorem dX1_payFor_45 : decode cX1_payFor 45 = .ok (.iaload, 1) := by decide +kernel
theorem dX1_payFor_46 : decode cX1_payFor 46 = .ok (.iaload, 1) := by decide +kernel
theorem dX1_payFor_47 : decode cX1_payFor 47 = .ok (.goto 14, 3) := by decide +kernel
theorem dX1_payFor_50 : decode cX1_payFor 50 = .ok (.aload_n 0, 1) := by decide +kernel
theorem dX1_payFor_51 : decode cX1_payFor 51 = .ok (.getfield 7, 3) := by decide +kernel
theorem dX1_payFor_54 : decode cX1_payFor 54 = .ok (.aload_n 0, 1) := by decide +kernel
theorem dX1_payFor_55 : decode cX1_payFor 55 = .ok (.getfield 35, 3) := by decide +kernel
theorem dX1_payFor_58 : decode cX1_payFor 58 = .ok (.iload_n 1, 1) := by decide +kernel
theorem dX1_payFor_59 : decode cX1_payFor 59 = .ok (.iaload, 1) := by decide +kernel
theorem dX1_payFor_60 : decode cX1_payFor 60 = .ok (.iaload, 1) := by decide +kernel
theorem dX1_payFor_61 : decode cX1_payFor 61 = .ok (.istore 4, 2) := by decide +kernel
theorem dX1_payFor_63 : decode cX1_payFor 63 = .ok (.iconst 2, 1) := by decide +kernel
theorem dX1_payFor_64 : decode cX1_payFor 64 = .ok (.aload_n 0, 1) := by decide +kernel
theorem dX1_payFor_65 : decode cX1_payFor 65 = .ok (.getfield 41, 3) := by decide +kernel
theorem dX1_payFor_68 : decode cX1_payFor 68 = .ok (.iload_n 1, 1) := by decide +kernel
theorem dX1_payFor_69 : decode cX1_payFor 69 = .ok (.iaload, 1) := by decide +kernel
theorem dX1_payFor_70 : decode cX1_payFor 70 = .ok (.iload_n 2, 1) := by decide +kernel
theorem dX1_payFor_71 : decode cX1_payFor 71 = .ok (.isub, 1) := by decide +kernel
theorem dX1_payFor_72 : decode cX1_payFor 72 = .ok (.imul, 1) := by decide +kernel
theorem dX1_payFor_73 : decode cX1_payFor 73 = .ok (.iconst 3, 1) := by decide +kernel
theorem dX1_payFor_74 : decode cX1_payFor 74 = .ok (.iload_n 2, 1) := by decide +kernel
theorem dX1_payFor_75 : decode cX1_payFor 75 = .ok (.imul, 1) := by decide +kernel
theorem dX1_payFor_76 : decode cX1_payFor 76 = .ok (.iadd, 1) := by decide +kernel
theorem dX1_payFor_77 : decode cX1_payFor 77 = .ok (.iload 4, 2) := by decide +kernel
theorem dX1_payFor_79 : decode cX1_payFor 79 = .ok (.imul, 1) := by decide +kernel
theorem dX1_payFor_80 : decode cX1_payFor 80 = .ok (.iconst 2, 1) := by decide +kernel
theorem dX1_payFor_81 : decode cX1_payFor 81 = .ok (.idiv, 1) := by decide +kernel
theorem dX1_payFor_82 : decode cX1_payFor 82 = .ok (.ireturn, 1) := by decide +kernel
set_option maxRecDepth 20000 in
theorem ggX1_chargeFor_X1_payFor : GoodIn wsX1_chargeFor wsX1_payFor := goodIn_r _ [12, 13, 1, 3, 14, 15, 4, 16, 17, 18, 11, 19, 2, 20, 21, 22, 23, 24, 25, 26, 27, 28, 29, 30, 31, 32, 33, 34, 35, 36, 37, 38, 39, 40, 41, 42, 43, 44, 45] (by decide +kernel) (by decide +kernel)
set_option maxRecDepth 20000 in
theorem gX1_chargeFor_X1_payFor : GoodIn wsX1_chargeFor (wsV RX1 96 RX1 yX1_payFor wsX1_payFor) := goodIn_app (goodIn_of _ (by decide +kernel)) ggX1_chargeFor_X1_payFor
theorem dX1_chargeFor_0 : decode cX1_chargeFor 0 = .ok (.aload_n 0, 1) := by decide +kernel
theorem dX1_chargeFor_1 : decode cX1_chargeFor 1 = .ok (.getfield 35, 3) := by decide +kernel
theorem dX1_chargeFor_4 : decode cX1_chargeFor 4 = .ok (.iload_n 1, 1) := by decide +kernel
theorem dX1_chargeFor_5 : decode cX1_chargeFor 5 = .ok (.iaload, 1) := by decide +kernel
theorem dX1_chargeFor_6 : decode cX1_chargeFor 6 = .ok (.istore_n 2, 1) := by decide +kernel
theorem dX1_chargeFor_7 : decode cX1_chargeFor 7 = .ok (.iconst 0, 1) := by decide +kernel
theorem dX1_chargeFor_8 : decode cX1_chargeFor 8 = .ok (.istore_n 3, 1) := by decide +kernel
theorem dX1_chargeFor_9 : decode cX1_chargeFor 9 = .ok (.iconst 0, 1) := by decide +kernel
theorem dX1_chargeFor_10 : decode cX1_chargeFor 10 = .ok (.istore 4, 2) := by decide +kernel
theorem dX1_chargeFor_12 : decode cX1_chargeFor 12 = .ok (.iload 4, 2) := by decide +kernel
theorem dX1_chargeFor_14 : decode cX1_chargeFor 14 = .ok (.aload_n 0, 1) := by decide +kernel
theorem dX1_chargeFor_15 : decode cX1_chargeFor 15 = .ok (.getfield 60, 3) := by decide +kernel
theorem dX1_chargeFor_18 : decode cX1_chargeFor 18 = .ok (.if_icmp .ge 56, 3) := by decide +kernel
theorem dX1_chargeFor_21 : decode cX1_chargeFor 21 = .ok (.iload_n 3, 1) := by decide +kernel
theorem dX1_chargeFor_22 : decode cX1_chargeFor 22 = .ok (.aload_n 0, 1) := by decide +kernel
theorem dX1_chargeFor_23 : decode cX1_chargeFor 23 = .ok (.getfield 35, 3) := by decide +kernel
theorem dX1_chargeFor_26 : decode cX1_chargeFor 26 = .ok (.iload 4, 2) := by decide +kernel
theorem dX1_chargeFor_28 : decode cX1_chargeFor 28 = .ok (.iaload, 1) := by decide +kernel
theorem dX1_chargeFor_29 : decode cX1_chargeFor 29 = .ok (.iload_n 2, 1) := by decide +kernel
theorem dX1_chargeFor_30 : decode cX1_chargeFor 30 = .ok (.if_icmp .ne 35, 3) := by decide +kernel
theorem dX1_chargeFor_33 : decode cX1_chargeFor 33 = .ok (.aload_n 0, 1) := by decide +kernel
theorem dX1_chargeFor_34 : decode cX1_chargeFor 34 = .ok (.getfield 38, 3) := by decide +kernel
theorem dX1_chargeFor_37 : decode cX1_chargeFor 37 = .ok (.iload 4, 2) := by decide +kernel
theorem dX1_chargeFor_39 : decode cX1_chargeFor 39 = .ok (.iaload, 1) := by decide +kernel
theorem dX1_chargeFor_40 : decode cX1_chargeFor 40 = .ok (.bipush 7, 2) := by decide +kernel
theorem dX1_chargeFor_42 : decode cX1_chargeFor 42 = .ok (.idiv, 1) := by decide +kernel
theorem dX1_chargeFor_43 : decode cX1_chargeFor 43 = .ok (.aload_n 0, 1) := by decide +kernel
theorem dX1_chargeFor_44 : decode cX1_chargeFor 44 = .ok (.getfield 38, 3) := by decide +kernel
theorem dX1_chargeFor_47 : decode cX1_chargeFor 47 = .ok (.iload_n 1, 1) := by decide +kernel
theorem dX1_chargeFor_48 : decode cX1_chargeFor 48 = .ok (.iaload, 1) := by decide +kernel
theorem dX1_chargeFor_49 : decode cX1_chargeFor 49 = .ok (.bipush 7, 2) := by decide +kernel
theorem dX1_chargeFor_51 : decode cX1_chargeFor 51 = .ok (.idiv, 1) := by decide +kernel
theorem dX1_chargeFor_52 : decode cX1_chargeFor 52 = .ok (.if_icmp .ne 13, 3) := by decide +kernel
theorem dX1_chargeFor_55 : decode cX1_chargeFor 55 = .ok (.aload_n 0, 1) := by decide +kernel
theorem dX1_chargeFor_56 : decode cX1_chargeFor 56 = .ok (.getfield 41, 3) := by decide +kernel
theorem dX1_chargeFor_59 : decode cX1_chargeFor 59 = .ok (.iload 4, 2) := by decide +kernel
theorem dX1_chargeFor_61 : decode cX1_chargeFor 61 = .ok (.iaload, 1) := by decide +kernel
theorem dX1_chargeFor_62 : decode cX1_chargeFor 62 = .ok (.goto 4, 3) := by decide +kernel
theorem dX1_chargeFor_65 : decode cX1_chargeFor 65 = .ok (.iconst 0, 1) := by decide +kernel
theorem dX1_chargeFor_66 : decode cX1_chargeFor 66 = .ok (.iadd, 1) := by decide +kernel
theorem dX1_chargeFor_67 : decode cX1_chargeFor 67 = .ok (.istore_n 3, 1) := by decide +kernel
theorem dX1_chargeFor_68 : decode cX1_chargeFor 68 = .ok (.iinc 4 1, 3) := by decide +kernel
theorem dX1_chargeFor_71 : decode cX1_chargeFor 71 = .ok (.goto (-59), 3) := by decide +kernel
theorem dX1_chargeFor_74 : decode cX1_chargeFor 74 = .ok (.iload_n 3, 1) := by decide +kernel
theorem dX1_chargeFor_75 : decode cX1_chargeFor 75 = .ok (.aload_n 0, 1) := by decide +kernel
theorem dX1_chargeFor_76 : decode cX1_chargeFor 76 = .ok (.getfield 22, 3) := by decide +kernel
theorem dX1_chargeFor_79 : decode cX1_chargeFor 79 = .ok (.iload_n 2, 1) := by decide +kernel
theorem dX1_chargeFor_80 : decode cX1_chargeFor 80 = .ok (.iaload, 1) := by decide +kernel
theorem dX1_chargeFor_81 : decode cX1_chargeFor 81 = .ok (.if_icmp .lt 12, 3) := by decide +kernel
theorem dX1_chargeFor_84 : decode cX1_chargeFor 84 = .ok (.aload_n 0, 1) := by decide +kernel
theorem dX1_chargeFor_85 : decode cX1_chargeFor 85 = .ok (.getfield 19, 3) := by decide +kernel
theorem dX1_chargeFor_88 : decode cX1_chargeFor 88 = .ok (.iload_n 2, 1) := by decide +kernel
theorem dX1_chargeFor_89 : decode cX1_chargeFor 89 = .ok (.iaload, 1) := by decide +kernel
theorem dX1_chargeFor_90 : decode cX1_chargeFor 90 = .ok (.goto 9, 3) := by decide +kernel
theorem dX1_chargeFor_93 : decode cX1_chargeFor 93 = .ok (.aload_n 0, 1) := by decide +kernel
theorem dX1_chargeFor_94 : decode cX1_chargeFor 94 = .ok (.getfield 16, 3) := by decide +kernel
theorem dX1_chargeFor_97 : decode cX1_chargeFor 97 = .ok (.iload_n 2, 1) := by decide +kernel
theorem dX1_chargeFor_98 : decode cX1_chargeFor 98 = .ok (.iaload, 1) := by decide +kernel
theorem dX1_chargeFor_99 : decode cX1_chargeFor 99 = .ok (.istore 4, 2) := by decide +kernel
theorem dX1_chargeFor_101 : decode cX1_chargeFor 101 = .ok (.aload_n 0, 1) := by decide +kernel
theorem dX1_chargeFor_102 : decode cX1_chargeFor 102 = .ok (.iload_n 1, 1) := by decide +kernel
theorem dX1_chargeFor_103 : decode cX1_chargeFor 103 = .ok (.invokevirtual 96, 3) := by decide +kernel
theorem dX1_chargeFor_106 : decode cX1_chargeFor 106 = .ok (.bipush 100, 2) := by decide +kernel
theorem dX1_chargeFor_108 : decode cX1_chargeFor 108 = .ok (.iload 4, 2) := by decide +kernel
theorem dX1_chargeFor_110 : decode cX1_chargeFor 110 = .ok (.iadd, 1) := by decide +kernel
theorem dX1_chargeFor_111 : decode cX1_chargeFor 111 = .ok (.imul, 1) := by decide +kernel
theorem dX1_chargeFor_112 : decode cX1_chargeFor 112 = .ok (.bipush 100, 2) := by decide +kernel
theorem dX1_chargeFor_114 : decode cX1_chargeFor 114 = .ok (.idiv, 1) := by decide +kernel
theorem dX1_chargeFor_115 : decode cX1_chargeFor 115 = .ok (.ireturn, 1) := by decide +kernel
set_option maxRecDepth 20000 in
theorem ggX1_payOf_X1_isShift : GoodIn wsX1_payOf wsX1_isShift := goodIn_r _ [5, 6, 7, 8, 4, 9, 39, 40, 41, 42, 43, 44, 45, 46, 47, 48, 49, 50, 51, 52, 53, 54] (by decide +kernel) (by decide +kernel)
set_option maxRecDepth 20000 in
theorem gX1_payOf_X1_isShift : GoodIn wsX1_payOf (wsV RX1 77 RX1 yX1_isShift wsX1_isShift) := goodIn_app (goodIn_of _ (by decide +kernel)) ggX1_payOf_X1_isShift
set_option maxRecDepth 20000 in
theorem ggX1_payOf_X1_goes : GoodIn wsX1_payOf wsX1_goes := goodIn_r _ [13, 14, 39, 40, 41, 42, 43, 44, 45, 46, 47, 48, 49, 50, 51, 52, 53, 54] (by decide +kernel) (by decide +kernel)
set_option maxRecDepth 20000 in
theorem gX1_payOf_X1_goes : GoodIn wsX1_payOf (wsV RX1 67 RX1 yX1_goes wsX1_goes) := goodIn_app (goodIn_of _ (by decide +kernel)) ggX1_payOf_X1_goes
set_option maxRecDepth 20000 in
theorem ggX1_payOf_X1_payFor : GoodIn wsX1_payOf wsX1_payFor := goodIn_r _ [18, 19, 20, 21, 22, 23, 24, 25, 26, 27, 4, 28, 6, 29, 30, 31, 32, 33, 34, 35, 36, 37, 38, 39, 40, 41, 42, 43, 44, 45, 46, 47, 48, 49, 50, 51, 52, 53, 54] (by decide +kernel) (by decide +kernel)
set_option maxRecDepth 20000 in
theorem gX1_payOf_X1_payFor : GoodIn wsX1_payOf (wsV RX1 96 RX1 yX1_payFor wsX1_payFor) := goodIn_app (goodIn_of _ (by decide +kernel)) ggX1_payOf_X1_payFor
theorem dX1_payOf_0 : decode cX1_payOf 0 = .ok (.aload_n 0, 1) := by decide +kernel
theorem dX1_payOf_1 : decode cX1_payOf 1 = .ok (.aload_n 0, 1) := by decide +kernel
theorem dX1_payOf_2 : decode cX1_payOf 2 = .ok (.iload_n 1, 1) := by decide +kernel
theorem dX1_payOf_3 : decode cX1_payOf 3 = .ok (.invokevirtual 77, 3) := by decide +kernel
theorem dX1_payOf_6 : decode cX1_payOf 6 = .ok (.ifCond .eq 7, 3) := by decide +kernel
theorem dX1_payOf_9 : decode cX1_payOf 9 = .ok (.iconst 0, 1) := by decide +kernel
theorem dX1_payOf_10 : decode cX1_payOf 10 = .ok (.goto 4, 3) := by decide +kernel
theorem dX1_payOf_13 : decode cX1_payOf 13 = .ok (.iconst 1, 1) := by decide +kernel
theorem dX1_payOf_14 : decode cX1_payOf 14 = .ok (.invokevirtual 67, 3) := by decide +kernel
theorem dX1_payOf_17 : decode cX1_payOf 17 = .ok (.ifCond .eq 11, 3) := by decide +kernel
theorem dX1_payOf_20 : decode cX1_payOf 20 = .ok (.aload_n 0, 1) := by decide +kernel
theorem dX1_payOf_21 : decode cX1_payOf 21 = .ok (.iload_n 1, 1) := by decide +kernel
theorem dX1_payOf_22 : decode cX1_payOf 22 = .ok (.invokevirtual 96, 3) := by decide +kernel
theorem dX1_payOf_25 : decode cX1_payOf 25 = .ok (.goto 4, 3) := by decide +kernel
theorem dX1_payOf_28 : decode cX1_payOf 28 = .ok (.iconst 0, 1) := by decide +kernel
theorem dX1_payOf_29 : decode cX1_payOf 29 = .ok (.ireturn, 1) := by decide +kernel
set_option maxRecDepth 20000 in
theorem ggX1_chargeOf_X1_isShift : GoodIn wsX1_chargeOf wsX1_isShift := goodIn_r _ [5, 6, 7, 8, 4, 9, 46, 47, 48, 49, 50, 51, 52, 53, 54, 55, 56, 57, 58, 59, 60, 61] (by decide +kernel) (by decide +kernel)
set_option maxRecDepth 20000 in
theorem gX1_chargeOf_X1_isShift : GoodIn wsX1_chargeOf (wsV RX1 77 RX1 yX1_isShift wsX1_isShift) := goodIn_app (goodIn_of _ (by decide +kernel)) ggX1_chargeOf_X1_isShift
set_option maxRecDepth 20000 in
theorem ggX1_chargeOf_X1_goes : GoodIn wsX1_chargeOf wsX1_goes := goodIn_r _ [13, 14, 46, 47, 48, 49, 50, 51, 52, 53, 54, 55, 56, 57, 58, 59, 60, 61] (by decide +kernel) (by decide +kernel)
set_option maxRecDepth 20000 in
theorem gX1_chargeOf_X1_goes : GoodIn wsX1_chargeOf (wsV RX1 67 RX1 yX1_goes wsX1_goes) := goodIn_app (goodIn_of _ (by decide +kernel)) ggX1_chargeOf_X1_goes
set_option maxRecDepth 20000 in
theorem ggX1_chargeOf_X1_chargeFor : GoodIn wsX1_chargeOf wsX1_chargeFor := goodIn_r _ [18, 19, 6, 20, 21, 22, 23, 24, 25, 26, 27, 4, 28, 29, 30, 31, 32, 33, 34, 35, 36, 37, 38, 39, 40, 41, 42, 43, 44, 45, 46, 47, 48, 49, 50, 51, 52, 53, 54, 55, 56, 57, 58, 59, 60, 61] (by decide +kernel) (by decide +kernel)
set_option maxRecDepth 20000 in
theorem gX1_chargeOf_X1_chargeFor : GoodIn wsX1_chargeOf (wsV RX1 99 RX1 yX1_chargeFor wsX1_chargeFor) := goodIn_app (goodIn_of _ (by decide +kernel)) ggX1_chargeOf_X1_chargeFor
theorem dX1_chargeOf_0 : decode cX1_chargeOf 0 = .ok (.aload_n 0, 1) := by decide +kernel
theorem dX1_chargeOf_1 : decode cX1_chargeOf 1 = .ok (.aload_n 0, 1) := by decide +kernel
theorem dX1_chargeOf_2 : decode cX1_chargeOf 2 = .ok (.iload_n 1, 1) := by decide +kernel
theorem dX1_chargeOf_3 : decode cX1_chargeOf 3 = .ok (.invokevirtual 77, 3) := by decide +kernel
theorem dX1_chargeOf_6 : decode cX1_chargeOf 6 = .ok (.ifCond .eq 7, 3) := by decide +kernel
theorem dX1_chargeOf_9 : decode cX1_chargeOf 9 = .ok (.iconst 0, 1) := by decide +kernel
theorem dX1_chargeOf_10 : decode cX1_chargeOf 10 = .ok (.goto 4, 3) := by decide +kernel
theorem dX1_chargeOf_13 : decode cX1_chargeOf 13 = .ok (.iconst 1, 1) := by decide +kernel
theorem dX1_chargeOf_14 : decode cX1_chargeOf 14 = .ok (.invokevirtual 67, 3) := by decide +kernel
theorem dX1_chargeOf_17 : decode cX1_chargeOf 17 = .ok (.ifCond .eq 11, 3) := by decide +kernel
theorem dX1_chargeOf_20 : decode cX1_chargeOf 20 = .ok (.aload_n 0, 1) := by decide +kernel
theorem dX1_chargeOf_21 : decode cX1_chargeOf 21 = .ok (.iload_n 1, 1) := by decide +kernel
theorem dX1_chargeOf_22 : decode cX1_chargeOf 22 = .ok (.invokevirtual 99, 3) := by decide +kernel
theorem dX1_chargeOf_25 : decode cX1_chargeOf 25 = .ok (.goto 4, 3) := by decide +kernel
theorem dX1_chargeOf_28 : decode cX1_chargeOf 28 = .ok (.iconst 0, 1) := by decide +kernel
theorem dX1_chargeOf_29 : decode cX1_chargeOf 29 = .ok (.ireturn, 1) := by decide +kernel
set_option maxRecDepth 20000 in
theorem ggX1_payIn_X1_payFor : GoodIn wsX1_payIn wsX1_payFor := goodIn_r _ [8, 2, 9, 3, 10, 11, 12, 13, 14, 15, 7, 16, 1, 17, 18, 19, 20, 21, 22, 23, 24, 25, 26, 27, 28, 29, 30, 31, 32, 33, 34, 35, 36, 37, 38, 39, 40, 41, 42] (by decide +kernel) (by decide +kernel)
set_option maxRecDepth 20000 in
theorem gX1_payIn_X1_payFor : GoodIn wsX1_payIn (wsV RX1 96 RX1 yX1_payFor wsX1_payFor) := goodIn_app (goodIn_of _ (by decide +kernel)) ggX1_payIn_X1_payFor
theorem dX1_payIn_0 : decode cX1_payIn 0 = .ok (.iconst 0, 1) := by decide +kernel
theorem dX1_payIn_1 : decode cX1_payIn 1 = .ok (.istore_n 3, 1) := by decide +kernel
theorem dX1_payIn_2 : decode cX1_payIn 2 = .ok (.iconst 0, 1) := by decide +kernel
theorem dX1_payIn_3 : decode cX1_payIn 3 = .ok (.istore 4, 2) := by decide +kernel
theorem dX1_payIn_5 : decode cX1_payIn 5 = .ok (.iload 4, 2) := by decide +kernel
theorem dX1_payIn_7 : decode cX1_payIn 7 = .ok (.aload_n 0, 1) := by decide +kernel
theorem dX1_payIn_8 : decode cX1_payIn 8 = .ok (.getfield 60, 3) := by decide +kernel
theorem dX1_payIn_11 : decode cX1_payIn 11 = .ok (.if_icmp .ge 47, 3) := by decide +kernel
theorem dX1_payIn_14 : decode cX1_payIn 14 = .ok (.iload_n 3, 1) := by decide +kernel
theorem dX1_payIn_15 : decode cX1_payIn 15 = .ok (.aload_n 0, 1) := by decide +kernel
theorem dX1_payIn_16 : decode cX1_payIn 16 = .ok (.getfield 32, 3) := by decide +kernel
theorem dX1_payIn_19 : decode cX1_payIn 19 = .ok (.iload 4, 2) := by decide +kernel
theorem dX1_payIn_21 : decode cX1_payIn 21 = .ok (.iaload, 1) := by decide +kernel
theorem dX1_payIn_22 : decode cX1_payIn 22 = .ok (.iload_n 1, 1) := by decide +kernel
theorem dX1_payIn_23 : decode cX1_payIn 23 = .ok (.if_icmp .ne 26, 3) := by decide +kernel
theorem dX1_payIn_26 : decode cX1_payIn 26 = .ok (.aload_n 0, 1) := by decide +kernel
theorem dX1_payIn_27 : decode cX1_payIn 27 = .ok (.getfield 38, 3) := by decide +kernel
theorem dX1_payIn_30 : decode cX1_payIn 30 = .ok (.iload 4, 2) := by decide +kernel
theorem dX1_payIn_32 : decode cX1_payIn 32 = .ok (.iaload, 1) := by decide +kernel
theorem dX1_payIn_33 : decode cX1_payIn 33 = .ok (.bipush 7, 2) := by decide +kernel
theorem dX1_payIn_35 : decode cX1_payIn 35 = .ok (.idiv, 1) := by decide +kernel
theorem dX1_payIn_36 : decode cX1_payIn 36 = .ok (.iload_n 2, 1) := by decide +kernel
theorem dX1_payIn_37 : decode cX1_payIn 37 = .ok (.if_icmp .ne 12, 3) := by decide +kernel
theorem dX1_payIn_40 : decode cX1_payIn 40 = .ok (.aload_n 0, 1) := by decide +kernel
theorem dX1_payIn_41 : decode cX1_payIn 41 = .ok (.iload 4, 2) := by decide +kernel
theorem dX1_payIn_43 : decode cX1_payIn 43 = .ok (.invokevirtual 96, 3) := by decide +kernel
theorem dX1_payIn_46 : decode cX1_payIn 46 = .ok (.goto 4, 3) := by decide +kernel
theorem dX1_payIn_49 : decode cX1_payIn 49 = .ok (.iconst 0, 1) := by decide +kernel
theorem dX1_payIn_50 : decode cX1_payIn 50 = .ok (.iadd, 1) := by decide +kernel
theorem dX1_payIn_51 : decode cX1_payIn 51 = .ok (.istore_n 3, 1) := by decide +kernel
theorem dX1_payIn_52 : decode cX1_payIn 52 = .ok (.iinc 4 1, 3) := by decide +kernel
theorem dX1_payIn_55 : decode cX1_payIn 55 = .ok (.goto (-50), 3) := by decide +kernel
theorem dX1_payIn_58 : decode cX1_payIn 58 = .ok (.iload_n 3, 1) := by decide +kernel
theorem dX1_payIn_59 : decode cX1_payIn 59 = .ok (.ireturn, 1) := by decide +kernel
set_option maxRecDepth 20000 in
theorem ggX1_chargesIn_X1_chargeFor : GoodIn wsX1_chargesIn wsX1_chargeFor := goodIn_r _ [8, 2, 1, 3, 9, 10, 11, 12, 13, 14, 15, 7, 16, 17, 18, 19, 20, 21, 22, 23, 24, 25, 26, 27, 28, 29, 30, 31, 32, 33, 34, 35, 36, 37, 38, 39, 40, 41, 42, 43, 44, 45, 46, 47, 48, 49] (by decide +kernel) (by decide +kernel)
set_option maxRecDepth 20000 in
theorem gX1_chargesIn_X1_chargeFor : GoodIn wsX1_chargesIn (wsV RX1 99 RX1 yX1_chargeFor wsX1_chargeFor) := goodIn_app (goodIn_of _ (by decide +kernel)) ggX1_chargesIn_X1_chargeFor
theorem dX1_chargesIn_0 : decode cX1_chargesIn 0 = .ok (.iconst 0, 1) := by decide +kernel
theorem dX1_chargesIn_1 : decode cX1_chargesIn 1 = .ok (.istore_n 3, 1) := by decide +kernel
theorem dX1_chargesIn_2 : decode cX1_chargesIn 2 = .ok (.iconst 0, 1) := by decide +kernel
theorem dX1_chargesIn_3 : decode cX1_chargesIn 3 = .ok (.istore 4, 2) := by decide +kernel
theorem dX1_chargesIn_5 : decode cX1_chargesIn 5 = .ok (.iload 4, 2) := by decide +kernel
theorem dX1_chargesIn_7 : decode cX1_chargesIn 7 = .ok (.aload_n 0, 1) := by decide +kernel
theorem dX1_chargesIn_8 : decode cX1_chargesIn 8 = .ok (.getfield 60, 3) := by decide +kernel
theorem dX1_chargesIn_11 : decode cX1_chargesIn 11 = .ok (.if_icmp .ge 47, 3) := by decide +kernel
theorem dX1_chargesIn_14 : decode cX1_chargesIn 14 = .ok (.iload_n 3, 1) := by decide +kernel
theorem dX1_chargesIn_15 : decode cX1_chargesIn 15 = .ok (.aload_n 0, 1) := by decide +kernel
theorem dX1_chargesIn_16 : decode cX1_chargesIn 16 = .ok (.getfield 35, 3) := by decide +kernel
theorem dX1_chargesIn_19 : decode cX1_chargesIn 19 = .ok (.iload 4, 2) := by decide +kernel
theorem dX1_chargesIn_21 : decode cX1_chargesIn 21 = .ok (.iaload, 1) := by decide +kernel
theorem dX1_chargesIn_22 : decode cX1_chargesIn 22 = .ok (.iload_n 1, 1) := by decide +kernel
theorem dX1_chargesIn_23 : decode cX1_chargesIn 23 = .ok (.if_icmp .ne 26, 3) := by decide +kernel
theorem dX1_chargesIn_26 : decode cX1_chargesIn 26 = .ok (.aload_n 0, 1) := by decide +kernel
theorem dX1_chargesIn_27 : decode cX1_chargesIn 27 = .ok (.getfield 38, 3) := by decide +kernel
theorem dX1_chargesIn_30 : decode cX1_chargesIn 30 = .ok (.iload 4, 2) := by decide +kernel
theorem dX1_chargesIn_32 : decode cX1_chargesIn 32 = .ok (.iaload, 1) := by decide +kernel
theorem dX1_chargesIn_33 : decode cX1_chargesIn 33 = .ok (.bipush 7, 2) := by decide +kernel
theorem dX1_chargesIn_35 : decode cX1_chargesIn 35 = .ok (.idiv, 1) := by decide +kernel
theorem dX1_chargesIn_36 : decode cX1_chargesIn 36 = .ok (.iload_n 2, 1) := by decide +kernel
theorem dX1_chargesIn_37 : decode cX1_chargesIn 37 = .ok (.if_icmp .ne 12, 3) := by decide +kernel
theorem dX1_chargesIn_40 : decode cX1_chargesIn 40 = .ok (.aload_n 0, 1) := by decide +kernel
theorem dX1_chargesIn_41 : decode cX1_chargesIn 41 = .ok (.iload 4, 2) := by decide +kernel
theorem dX1_chargesIn_43 : decode cX1_chargesIn 43 = .ok (.invokevirtual 99, 3) := by decide +kernel
theorem dX1_chargesIn_46 : decode cX1_chargesIn 46 = .ok (.goto 4, 3) := by decide +kernel
theorem dX1_chargesIn_49 : decode cX1_chargesIn 49 = .ok (.iconst 0, 1) := by decide +kernel
theorem dX1_chargesIn_50 : decode cX1_chargesIn 50 = .ok (.iadd, 1) := by decide +kernel
theorem dX1_chargesIn_51 : decode cX1_chargesIn 51 = .ok (.istore_n 3, 1) := by decide +kernel
theorem dX1_chargesIn_52 : decode cX1_chargesIn 52 = .ok (.iinc 4 1, 3) := by decide +kernel
theorem dX1_chargesIn_55 : decode cX1_chargesIn 55 = .ok (.goto (-50), 3) := by decide +kernel
theorem dX1_chargesIn_58 : decode cX1_chargesIn 58 = .ok (.iload_n 3, 1) := by decide +kernel
theorem dX1_chargesIn_59 : decode cX1_chargesIn 59 = .ok (.ireturn, 1) := by decide +kernel
set_option maxRecDepth 20000 in
theorem ggX1_pay_X1_isWorker : GoodIn wsX1_pay wsX1_isWorker := goodIn_r _ [4, 5, 6, 3, 7] (by decide +kernel) (by decide +kernel)
set_option maxRecDepth 20000 in
theorem gX1_pay_X1_isWorker : GoodIn wsX1_pay (va_wsS RX1 70 yX1_isWorker wsX1_isWorker) := goodIn_app (goodIn_of _ (by decide +kernel)) ggX1_pay_X1_isWorker
set_option maxRecDepth 20000 in
theorem ggX1_pay_X1_isWeek : GoodIn wsX1_pay wsX1_isWeek := goodIn_r _ [10, 5, 6, 3, 7] (by decide +kernel) (by decide +kernel)
set_option maxRecDepth 20000 in
theorem gX1_pay_X1_isWeek : GoodIn wsX1_pay (va_wsS RX1 84 yX1_isWeek wsX1_isWeek) := goodIn_app (goodIn_of _ (by decide +kernel)) ggX1_pay_X1_isWeek
set_option maxRecDepth 20000 in
theorem ggX1_pay_X1_goes : GoodIn wsX1_pay wsX1_goes := goodIn_r _ [14, 15, 45, 46, 47, 48, 49, 50, 51, 52, 53, 54, 55, 56, 57, 58, 59, 60] (by decide +kernel) (by decide +kernel)
set_option maxRecDepth 20000 in
theorem gX1_pay_X1_goes : GoodIn wsX1_pay (wsV RX1 67 RX1 yX1_goes wsX1_goes) := goodIn_app (goodIn_of _ (by decide +kernel)) ggX1_pay_X1_goes
set_option maxRecDepth 20000 in
theorem ggX1_pay_X1_payIn : GoodIn wsX1_pay wsX1_payIn := goodIn_r _ [19, 20, 21, 22, 23, 24, 25, 3, 26, 27, 28, 29, 30, 31, 32, 33, 34, 35, 36, 37, 38, 39, 40, 41, 42, 43, 44, 45, 46, 47, 48, 49, 50, 51, 52, 53, 54, 55, 56, 57, 58, 59, 60] (by decide +kernel) (by decide +kernel)
set_option maxRecDepth 20000 in
theorem gX1_pay_X1_payIn : GoodIn wsX1_pay (wsV RX1 102 RX1 yX1_payIn wsX1_payIn) := goodIn_app (goodIn_of _ (by decide +kernel)) ggX1_pay_X1_payIn
theorem dX1_pay_0 : decode cX1_pay 0 = .ok (.aload_n 0, 1) := by decide +kernel
theorem dX1_pay_1 : decode cX1_pay 1 = .ok (.iload_n 1, 1) := by decide +kernel
theorem dX1_pay_2 : decode cX1_pay 2 = .ok (.invokestatic 70, 3) := by decide +kernel
theorem dX1_pay_5 : decode cX1_pay 5 = .ok (.ifCond .eq 14, 3) := by decide +kernel
theorem dX1_pay_8 : decode cX1_pay 8 = .ok (.iload_n 2, 1) := by decide +kernel
theorem dX1_pay_9 : decode cX1_pay 9 = .ok (.invokestatic 84, 3) := by decide +kernel
theorem dX1_pay_12 : decode cX1_pay 12 = .ok (.ifCond .eq 7, 3) := by decide +kernel
theorem dX1_pay_15 : decode cX1_pay 15 = .ok (.iconst 0, 1) := by decide +kernel
theorem dX1_pay_16 : decode cX1_pay 16 = .ok (.goto 4, 3) := by decide +kernel
theorem dX1_pay_19 : decode cX1_pay 19 = .ok (.iconst 1, 1) := by decide +kernel
theorem dX1_pay_20 : decode cX1_pay 20 = .ok (.invokevirtual 67, 3) := by decide +kernel
theorem dX1_pay_23 : decode cX1_pay 23 = .ok (.ifCond .eq 12, 3) := by decide +kernel
theorem dX1_pay_26 : decode cX1_pay 26 = .ok (.aload_n 0, 1) := by decide +kernel
theorem dX1_pay_27 : decode cX1_pay 27 = .ok (.iload_n 1, 1) := by decide +kernel
theorem dX1_pay_28 : decode cX1_pay 28 = .ok (.iload_n 2, 1) := by decide +kernel
theorem dX1_pay_29 : decode cX1_pay 29 = .ok (.invokevirtual 102, 3) := by decide +kernel
theorem dX1_pay_32 : decode cX1_pay 32 = .ok (.goto 4, 3) := by decide +kernel
theorem dX1_pay_35 : decode cX1_pay 35 = .ok (.iconst 0, 1) := by decide +kernel
theorem dX1_pay_36 : decode cX1_pay 36 = .ok (.ireturn, 1) := by decide +kernel
set_option maxRecDepth 20000 in
theorem ggX1_payByHours_X1_isWorker : GoodIn wsX1_payByHours wsX1_isWorker := goodIn_r _ [4, 5, 6, 3, 7] (by decide +kernel) (by decide +kernel)
set_option maxRecDepth 20000 in
theorem gX1_payByHours_X1_isWorker : GoodIn wsX1_payByHours (va_wsS RX1 70 yX1_isWorker wsX1_isWorker) := goodIn_app (goodIn_of _ (by decide +kernel)) ggX1_payByHours_X1_isWorker
set_option maxRecDepth 20000 in
theorem ggX1_payByHours_X1_isWeek : GoodIn wsX1_payByHours wsX1_isWeek := goodIn_r _ [10, 5, 6, 3, 7] (by decide +kernel) (by decide +kernel)
set_option maxRecDepth 20000 in
theorem gX1_payByHours_X1_isWeek : GoodIn wsX1_payByHours (va_wsS RX1 84 yX1_isWeek wsX1_isWeek) := goodIn_app (goodIn_of _ (by decide +kernel)) ggX1_payByHours_X1_isWeek
set_option maxRecDepth 20000 in
theorem ggX1_payByHours_X1_goes : GoodIn wsX1_payByHours wsX1_goes := goodIn_r _ [14, 15, 45, 46, 47, 48, 49, 50, 51, 52, 53, 54, 55, 56, 57, 58, 59, 60] (by decide +kernel) (by decide +kernel)
set_option maxRecDepth 20000 in
theorem gX1_payByHours_X1_goes : GoodIn wsX1_payByHours (wsV RX1 67 RX1 yX1_goes wsX1_goes) := goodIn_app (goodIn_of _ (by decide +kernel)) ggX1_payByHours_X1_goes
set_option maxRecDepth 20000 in
theorem ggX1_payByHours_X1_payIn : GoodIn wsX1_payByHours wsX1_payIn := goodIn_r _ [19, 20, 21, 22, 23, 24, 25, 3, 26, 27, 28, 29, 30, 31, 32, 33, 34, 35, 36, 37, 38, 39, 40, 41, 42, 43, 44, 45, 46, 47, 48, 49, 50, 51, 52, 53, 54, 55, 56, 57, 58, 59, 60] (by decide +kernel) (by decide +kernel)
set_option maxRecDepth 20000 in
theorem gX1_payByHours_X1_payIn : GoodIn wsX1_payByHours (wsV RX1 102 RX1 yX1_payIn wsX1_payIn) := goodIn_app (goodIn_of _ (by decide +kernel)) ggX1_payByHours_X1_payIn
theorem dX1_payByHours_0 : decode cX1_payByHours 0 = .ok (.aload_n 0, 1) := by decide +kernel
theorem dX1_payByHours_1 : decode cX1_payByHours 1 = .ok (.iload_n 1, 1) := by decide +kernel
theorem dX1_payByHours_2 : decode cX1_payByHours 2 = .ok (.invokestatic 70, 3) := by decide +kernel
theorem dX1_payByHours_5 : decode cX1_payByHours 5 = .ok (.ifCond .eq 14, 3) := by decide +kernel
theorem dX1_payByHours_8 : decode cX1_payByHours 8 = .ok (.iload_n 2, 1) := by decide +kernel
theorem dX1_payByHours_9 : decode cX1_payByHours 9 = .ok (.invokestatic 84, 3) := by decide +kernel
theorem dX1_payByHours_12 : decode cX1_payByHours 12 = .ok (.ifCond .eq 7, 3) := by decide +kernel
theorem dX1_payByHours_15 : decode cX1_payByHours 15 = .ok (.iconst 0, 1) := by decide +kernel
theorem dX1_payByHours_16 : decode cX1_payByHours 16 = .ok (.goto 4, 3) := by decide +kernel
theorem dX1_payByHours_19 : decode cX1_payByHours 19 = .ok (.iconst 1, 1) := by decide +kernel
theorem dX1_payByHours_20 : decode cX1_payByHours 20 = .ok (.invokevirtual 67, 3) := by decide +kernel
theorem dX1_payByHours_23 : decode cX1_payByHours 23 = .ok (.ifCond .eq 12, 3) := by decide +kernel
theorem dX1_payByHours_26 : decode cX1_payByHours 26 = .ok (.aload_n 0, 1) := by decide +kernel
theorem dX1_payByHours_27 : decode cX1_payByHours 27 = .ok (.iload_n 1, 1) := by decide +kernel
theorem dX1_payByHours_28 : decode cX1_payByHours 28 = .ok (.iload_n 2, 1) := by decide +kernel
theorem dX1_payByHours_29 : decode cX1_payByHours 29 = .ok (.invokevirtual 102, 3) := by decide +kernel
theorem dX1_payByHours_32 : decode cX1_payByHours 32 = .ok (.goto 4, 3) := by decide +kernel
theorem dX1_payByHours_35 : decode cX1_payByHours 35 = .ok (.iconst 0, 1) := by decide +kernel
theorem dX1_payByHours_36 : decode cX1_payByHours 36 = .ok (.ireturn, 1) := by decide +kernel
set_option maxRecDepth 20000 in
theorem ggX1_run_X1_isWeek : GoodIn wsX1_run wsX1_isWeek := goodIn_r _ [6, 7, 8, 5, 9] (by decide +kernel) (by decide +kernel)
set_option maxRecDepth 20000 in
theorem gX1_run_X1_isWeek : GoodIn wsX1_run (va_wsS RX1 84 yX1_isWeek wsX1_isWeek) := goodIn_app (goodIn_of _ (by decide +kernel)) ggX1_run_X1_isWeek
set_option maxRecDepth 20000 in
theorem ggX1_run_X1_goes : GoodIn wsX1_run wsX1_goes := goodIn_r _ [13, 14, 55, 56, 57, 58, 59, 60, 61, 62, 63, 64, 65, 66, 67, 68, 69, 70] (by decide +kernel) (by decide +kernel)
set_option maxRecDepth 20000 in
theorem gX1_run_X1_goes : GoodIn wsX1_run (wsV RX1 67 RX1 yX1_goes wsX1_goes) := goodIn_app (goodIn_of _ (by decide +kernel)) ggX1_run_X1_goes
set_option maxRecDepth 20000 in
theorem ggX1_run_X1_payIn : GoodIn wsX1_run wsX1_payIn := goodIn_r _ [18, 19, 20, 21, 22, 23, 24, 5, 25, 26, 27, 28, 29, 30, 31, 32, 33, 34, 35, 36, 37, 38, 39, 40, 41, 42, 43, 55, 56, 57, 58, 59, 60, 61, 62, 63, 64, 65, 66, 67, 68, 69, 70] (by decide +kernel) (by decide +kernel)
set_option maxRecDepth 20000 in
theorem gX1_run_X1_payIn : GoodIn wsX1_run (wsV RX1 102 RX1 yX1_payIn wsX1_payIn) := goodIn_app (goodIn_of _ (by decide +kernel)) ggX1_run_X1_payIn
set_option maxRecDepth 20000 in
theorem ggX1_run_X1_chargesIn : GoodIn wsX1_run wsX1_chargesIn := goodIn_r _ [47, 19, 26, 21, 48, 49, 50, 5, 51, 29, 52, 53, 54, 22, 23, 24, 25, 20, 27, 28, 30, 31, 32, 33, 34, 35, 36, 37, 38, 39, 40, 41, 42, 43, 55, 56, 57, 58, 59, 60, 61, 62, 63, 64, 65, 66, 67, 68, 69, 70] (by decide +kernel) (by decide +kernel)
set_option maxRecDepth 20000 in
theorem gX1_run_X1_chargesIn : GoodIn wsX1_run (wsV RX1 105 RX1 yX1_chargesIn wsX1_chargesIn) := goodIn_app (goodIn_of _ (by decide +kernel)) ggX1_run_X1_chargesIn
theorem dX1_run_0 : decode cX1_run 0 = .ok (.aload_n 0, 1) := by decide +kernel
theorem dX1_run_1 : decode cX1_run 1 = .ok (.iload_n 1, 1) := by decide +kernel
theorem dX1_run_2 : decode cX1_run 2 = .ok (.invokestatic 84, 3) := by decide +kernel
theorem dX1_run_5 : decode cX1_run 5 = .ok (.ifCond .eq 7, 3) := by decide +kernel
theorem dX1_run_8 : decode cX1_run 8 = .ok (.iconst 0, 1) := by decide +kernel
theorem dX1_run_9 : decode cX1_run 9 = .ok (.goto 4, 3) := by decide +kernel
theorem dX1_run_12 : decode cX1_run 12 = .ok (.iconst 1, 1) := by decide +kernel
theorem dX1_run_13 : decode cX1_run 13 = .ok (.invokevirtual 67, 3) := by decide +kernel
theorem dX1_run_16 : decode cX1_run 16 = .ok (.ifCond .ne 5, 3) := by decide +kernel
theorem dX1_run_19 : decode cX1_run 19 = .ok (.iconst 0, 1) := by decide +kernel
theorem dX1_run_20 : decode cX1_run 20 = .ok (.ireturn, 1) := by decide +kernel
theorem dX1_run_21 : decode cX1_run 21 = .ok (.iconst 0, 1) := by decide +kernel
theorem dX1_run_22 : decode cX1_run 22 = .ok (.istore_n 2, 1) := by decide +kernel
theorem dX1_run_23 : decode cX1_run 23 = .ok (.iconst 0, 1) := by decide +kernel
theorem dX1_run_24 : decode cX1_run 24 = .ok (.istore_n 3, 1) := by decide +kernel
theorem dX1_run_25 : decode cX1_run 25 = .ok (.iload_n 3, 1) := by decide +kernel
theorem dX1_run_26 : decode cX1_run 26 = .ok (.bipush 6, 2) := by decide +kernel
theorem dX1_run_28 : decode cX1_run 28 = .ok (.if_icmp .ge 47, 3) := by decide +kernel
theorem dX1_run_31 : decode cX1_run 31 = .ok (.aload_n 0, 1) := by decide +kernel
theorem dX1_run_32 : decode cX1_run 32 = .ok (.iload_n 3, 1) := by decide +kernel
theorem dX1_run_33 : decode cX1_run 33 = .ok (.iload_n 1, 1) := by decide +kernel
theorem dX1_run_34 : decode cX1_run 34 = .ok (.invokevirtual 102, 3) := by decide +kernel
theorem dX1_run_37 : decode cX1_run 37 = .ok (.istore 4, 2) := by decide +kernel
theorem dX1_run_39 : decode cX1_run 39 = .ok (.iload_n 2, 1) := by decide +kernel
theorem dX1_run_40 : decode cX1_run 40 = .ok (.iload 4, 2) := by decide +kernel
theorem dX1_run_42 : decode cX1_run 42 = .ok (.aload_n 0, 1) := by decide +kernel
theorem dX1_run_43 : decode cX1_run 43 = .ok (.getfield 44, 3) := by decide +kernel
theorem dX1_run_46 : decode cX1_run 46 = .ok (.bipush 20, 2) := by decide +kernel
theorem dX1_run_48 : decode cX1_run 48 = .ok (.iload_n 3, 1) := by decide +kernel
theorem dX1_run_49 : decode cX1_run 49 = .ok (.imul, 1) := by decide +kernel
theorem dX1_run_50 : decode cX1_run 50 = .ok (.iload_n 1, 1) := by decide +kernel
theorem dX1_run_51 : decode cX1_run 51 = .ok (.iadd, 1) := by decide +kernel
theorem dX1_run_52 : decode cX1_run 52 = .ok (.iaload, 1) := by decide +kernel
theorem dX1_run_53 : decode cX1_run 53 = .ok (.isub, 1) := by decide +kernel
theorem dX1_run_54 : decode cX1_run 54 = .ok (.iadd, 1) := by decide +kernel
theorem dX1_run_55 : decode cX1_run 55 = .ok (.istore_n 2, 1) := by decide +kernel
theorem dX1_run_56 : decode cX1_run 56 = .ok (.aload_n 0, 1) := by decide +kernel
theorem dX1_run_57 : decode cX1_run 57 = .ok (.getfield 44, 3) := by decide +kernel
theorem dX1_run_60 : decode cX1_run 60 = .ok (.bipush 20, 2) := by decide +kernel
theorem dX1_run_62 : decode cX1_run 62 = .ok (.iload_n 3, 1) := by decide +kernel
theorem dX1_run_63 : decode cX1_run 63 = .ok (.imul, 1) := by decide +kernel
theorem dX1_run_64 : decode cX1_run 64 = .ok (.iload_n 1, 1) := by decide +kernel
theorem dX1_run_65 : decode cX1_run 65 = .ok (.iadd, 1) := by decide +kernel
theorem dX1_run_66 : decode cX1_run 66 = .ok (.iload 4, 2) := by decide +kernel
theorem dX1_run_68 : decode cX1_run 68 = .ok (.iastore, 1) := by decide +kernel
theorem dX1_run_69 : decode cX1_run 69 = .ok (.iinc 3 1, 3) := by decide +kernel
theorem dX1_run_72 : decode cX1_run 72 = .ok (.goto (-47), 3) := by decide +kernel
theorem dX1_run_75 : decode cX1_run 75 = .ok (.iconst 0, 1) := by decide +kernel
theorem dX1_run_76 : decode cX1_run 76 = .ok (.istore_n 3, 1) := by decide +kernel
theorem dX1_run_77 : decode cX1_run 77 = .ok (.iload_n 3, 1) := by decide +kernel
theorem dX1_run_78 : decode cX1_run 78 = .ok (.iconst 4, 1) := by decide +kernel
theorem dX1_run_79 : decode cX1_run 79 = .ok (.if_icmp .ge 26, 3) := by decide +kernel
theorem dX1_run_82 : decode cX1_run 82 = .ok (.aload_n 0, 1) := by decide +kernel
theorem dX1_run_83 : decode cX1_run 83 = .ok (.getfield 47, 3) := by decide +kernel
theorem dX1_run_86 : decode cX1_run 86 = .ok (.bipush 20, 2) := by decide +kernel
theorem dX1_run_88 : decode cX1_run 88 = .ok (.iload_n 3, 1) := by decide +kernel
theorem dX1_run_89 : decode cX1_run 89 = .ok (.imul, 1) := by decide +kernel
theorem dX1_run_90 : decode cX1_run 90 = .ok (.iload_n 1, 1) := by decide +kernel
theorem dX1_run_91 : decode cX1_run 91 = .ok (.iadd, 1) := by decide +kernel
theorem dX1_run_92 : decode cX1_run 92 = .ok (.aload_n 0, 1) := by decide +kernel
theorem dX1_run_93 : decode cX1_run 93 = .ok (.iload_n 3, 1) := by decide +kernel
theorem dX1_run_94 : decode cX1_run 94 = .ok (.iload_n 1, 1) := by decide +kernel
theorem dX1_run_95 : decode cX1_run 95 = .ok (.invokevirtual 105, 3) := by decide +kernel
theorem dX1_run_98 : decode cX1_run 98 = .ok (.iastore, 1) := by decide +kernel
theorem dX1_run_99 : decode cX1_run 99 = .ok (.iinc 3 1, 3) := by decide +kernel
theorem dX1_run_102 : decode cX1_run 102 = .ok (.goto (-25), 3) := by decide +kernel
theorem dX1_run_105 : decode cX1_run 105 = .ok (.iload_n 2, 1) := by decide +kernel
theorem dX1_run_106 : decode cX1_run 106 = .ok (.ireturn, 1) := by decide +kernel
set_option maxRecDepth 20000 in
theorem ggX1_paid_X1_isWorker : GoodIn wsX1_paid wsX1_isWorker := goodIn_r _ [5, 6, 7, 4, 8] (by decide +kernel) (by decide +kernel)
set_option maxRecDepth 20000 in
theorem gX1_paid_X1_isWorker : GoodIn wsX1_paid (va_wsS RX1 70 yX1_isWorker wsX1_isWorker) := goodIn_app (goodIn_of _ (by decide +kernel)) ggX1_paid_X1_isWorker
set_option maxRecDepth 20000 in
theorem ggX1_paid_X1_isWeek : GoodIn wsX1_paid wsX1_isWeek := goodIn_r _ [11, 6, 7, 4, 8] (by decide +kernel) (by decide +kernel)
set_option maxRecDepth 20000 in
theorem gX1_paid_X1_isWeek : GoodIn wsX1_paid (va_wsS RX1 84 yX1_isWeek wsX1_isWeek) := goodIn_app (goodIn_of _ (by decide +kernel)) ggX1_paid_X1_isWeek
set_option maxRecDepth 20000 in
theorem ggX1_paid_X1_goes : GoodIn wsX1_paid wsX1_goes := goodIn_r _ [15, 16, 17, 18, 19, 20, 21, 22, 23, 24, 25, 26, 27, 28, 29, 30, 31, 32] (by decide +kernel) (by decide +kernel)
set_option maxRecDepth 20000 in
theorem gX1_paid_X1_goes : GoodIn wsX1_paid (wsV RX1 67 RX1 yX1_goes wsX1_goes) := goodIn_app (goodIn_of _ (by decide +kernel)) ggX1_paid_X1_goes
theorem dX1_paid_0 : decode cX1_paid 0 = .ok (.aload_n 0, 1) := by decide +kernel
theorem dX1_paid_1 : decode cX1_paid 1 = .ok (.iload_n 1, 1) := by decide +kernel
theorem dX1_paid_2 : decode cX1_paid 2 = .ok (.invokestatic 70, 3) := by decide +kernel
theorem dX1_paid_5 : decode cX1_paid 5 = .ok (.ifCond .eq 14, 3) := by decide +kernel
theorem dX1_paid_8 : decode cX1_paid 8 = .ok (.iload_n 2, 1) := by decide +kernel
theorem dX1_paid_9 : decode cX1_paid 9 = .ok (.invokestatic 84, 3) := by decide +kernel
theorem dX1_paid_12 : decode cX1_paid 12 = .ok (.ifCond .eq 7, 3) := by decide +kernel
theorem dX1_paid_15 : decode cX1_paid 15 = .ok (.iconst 0, 1) := by decide +kernel
theorem dX1_paid_16 : decode cX1_paid 16 = .ok (.goto 4, 3) := by decide +kernel
theorem dX1_paid_19 : decode cX1_paid 19 = .ok (.iconst 1, 1) := by decide +kernel
theorem dX1_paid_20 : decode cX1_paid 20 = .ok (.invokevirtual 67, 3) := by decide +kernel
theorem dX1_paid_23 : decode cX1_paid 23 = .ok (.ifCond .eq 17, 3) := by decide +kernel
theorem dX1_paid_26 : decode cX1_paid 26 = .ok (.aload_n 0, 1) := by decide +kernel
theorem dX1_paid_27 : decode cX1_paid 27 = .ok (.getfield 44, 3) := by decide +kernel
theorem dX1_paid_30 : decode cX1_paid 30 = .ok (.bipush 20, 2) := by decide +kernel
theorem dX1_paid_32 : decode cX1_paid 32 = .ok (.iload_n 1, 1) := by decide +kernel
theorem dX1_paid_33 : decode cX1_paid 33 = .ok (.imul, 1) := by decide +kernel
theorem dX1_paid_34 : decode cX1_paid 34 = .ok (.iload_n 2, 1) := by decide +kernel
theorem dX1_paid_35 : decode cX1_paid 35 = .ok (.iadd, 1) := by decide +kernel
theorem dX1_paid_36 : decode cX1_paid 36 = .ok (.iaload, 1) := by decide +kernel
theorem dX1_paid_37 : decode cX1_paid 37 = .ok (.goto 4, 3) := by decide +kernel
theorem dX1_paid_40 : decode cX1_paid 40 = .ok (.iconst 0, 1) := by decide +kernel
theorem dX1_paid_41 : decode cX1_paid 41 = .ok (.ireturn, 1) := by decide +kernel
set_option maxRecDepth 20000 in
theorem ggX1_billed_X1_isSite : GoodIn wsX1_billed wsX1_isSite := goodIn_r _ [5, 6, 7, 4, 8] (by decide +kernel) (by decide +kernel)
set_option maxRecDepth 20000 in
theorem gX1_billed_X1_isSite : GoodIn wsX1_billed (va_wsS RX1 63 yX1_isSite wsX1_isSite) := goodIn_app (goodIn_of _ (by decide +kernel)) ggX1_billed_X1_isSite
set_option maxRecDepth 20000 in
theorem ggX1_billed_X1_isWeek : GoodIn wsX1_billed wsX1_isWeek := goodIn_r _ [11, 6, 7, 4, 8] (by decide +kernel) (by decide +kernel)
set_option maxRecDepth 20000 in
theorem gX1_billed_X1_isWeek : GoodIn wsX1_billed (va_wsS RX1 84 yX1_isWeek wsX1_isWeek) := goodIn_app (goodIn_of _ (by decide +kernel)) ggX1_billed_X1_isWeek
set_option maxRecDepth 20000 in
theorem ggX1_billed_X1_goes : GoodIn wsX1_billed wsX1_goes := goodIn_r _ [15, 16, 17, 18, 19, 20, 21, 22, 23, 24, 25, 26, 27, 28, 29, 30, 31, 32] (by decide +kernel) (by decide +kernel)
set_option maxRecDepth 20000 in
theorem gX1_billed_X1_goes : GoodIn wsX1_billed (wsV RX1 67 RX1 yX1_goes wsX1_goes) := goodIn_app (goodIn_of _ (by decide +kernel)) ggX1_billed_X1_goes
theorem dX1_billed_0 : decode cX1_billed 0 = .ok (.aload_n 0, 1) := by decide +kernel
theorem dX1_billed_1 : decode cX1_billed 1 = .ok (.iload_n 1, 1) := by decide +kernel
theorem dX1_billed_2 : decode cX1_billed 2 = .ok (.invokestatic 63, 3) := by decide +kernel
theorem dX1_billed_5 : decode cX1_billed 5 = .ok (.ifCond .eq 14, 3) := by decide +kernel
theorem dX1_billed_8 : decode cX1_billed 8 = .ok (.iload_n 2, 1) := by decide +kernel
theorem dX1_billed_9 : decode cX1_billed 9 = .ok (.invokestatic 84, 3) := by decide +kernel
theorem dX1_billed_12 : decode cX1_billed 12 = .ok (.ifCond .eq 7, 3) := by decide +kernel
theorem dX1_billed_15 : decode cX1_billed 15 = .ok (.iconst 0, 1) := by decide +kernel
theorem dX1_billed_16 : decode cX1_billed 16 = .ok (.goto 4, 3) := by decide +kernel
theorem dX1_billed_19 : decode cX1_billed 19 = .ok (.iconst 1, 1) := by decide +kernel
theorem dX1_billed_20 : decode cX1_billed 20 = .ok (.invokevirtual 67, 3) := by decide +kernel
theorem dX1_billed_23 : decode cX1_billed 23 = .ok (.ifCond .eq 17, 3) := by decide +kernel
theorem dX1_billed_26 : decode cX1_billed 26 = .ok (.aload_n 0, 1) := by decide +kernel
theorem dX1_billed_27 : decode cX1_billed 27 = .ok (.getfield 47, 3) := by decide +kernel
theorem dX1_billed_30 : decode cX1_billed 30 = .ok (.bipush 20, 2) := by decide +kernel
theorem dX1_billed_32 : decode cX1_billed 32 = .ok (.iload_n 1, 1) := by decide +kernel
theorem dX1_billed_33 : decode cX1_billed 33 = .ok (.imul, 1) := by decide +kernel
theorem dX1_billed_34 : decode cX1_billed 34 = .ok (.iload_n 2, 1) := by decide +kernel
theorem dX1_billed_35 : decode cX1_billed 35 = .ok (.iadd, 1) := by decide +kernel
theorem dX1_billed_36 : decode cX1_billed 36 = .ok (.iaload, 1) := by decide +kernel
theorem dX1_billed_37 : decode cX1_billed 37 = .ok (.goto 4, 3) := by decide +kernel
theorem dX1_billed_40 : decode cX1_billed 40 = .ok (.iconst 0, 1) := by decide +kernel
theorem dX1_billed_41 : decode cX1_billed 41 = .ok (.ireturn, 1) := by decide +kernel
set_option maxRecDepth 20000 in
theorem ggX1_owing_X1_isWorker : GoodIn wsX1_owing wsX1_isWorker := goodIn_r _ [5, 6, 7, 4, 8] (by decide +kernel) (by decide +kernel)
set_option maxRecDepth 20000 in
theorem gX1_owing_X1_isWorker : GoodIn wsX1_owing (va_wsS RX1 70 yX1_isWorker wsX1_isWorker) := goodIn_app (goodIn_of _ (by decide +kernel)) ggX1_owing_X1_isWorker
set_option maxRecDepth 20000 in
theorem ggX1_owing_X1_isWeek : GoodIn wsX1_owing wsX1_isWeek := goodIn_r _ [11, 6, 7, 4, 8] (by decide +kernel) (by decide +kernel)
set_option maxRecDepth 20000 in
theorem gX1_owing_X1_isWeek : GoodIn wsX1_owing (va_wsS RX1 84 yX1_isWeek wsX1_isWeek) := goodIn_app (goodIn_of _ (by decide +kernel)) ggX1_owing_X1_isWeek
set_option maxRecDepth 20000 in
theorem ggX1_owing_X1_goes : GoodIn wsX1_owing wsX1_goes := goodIn_r _ [15, 16, 46, 47, 48, 49, 50, 51, 52, 53, 54, 55, 56, 57, 58, 59, 60, 61] (by decide +kernel) (by decide +kernel)
set_option maxRecDepth 20000 in
theorem gX1_owing_X1_goes : GoodIn wsX1_owing (wsV RX1 67 RX1 yX1_goes wsX1_goes) := goodIn_app (goodIn_of _ (by decide +kernel)) ggX1_owing_X1_goes
set_option maxRecDepth 20000 in
theorem ggX1_owing_X1_payIn : GoodIn wsX1_owing wsX1_payIn := goodIn_r _ [20, 21, 22, 23, 24, 25, 26, 4, 27, 28, 29, 30, 31, 32, 33, 34, 35, 36, 37, 38, 39, 40, 41, 42, 43, 44, 45, 46, 47, 48, 49, 50, 51, 52, 53, 54, 55, 56, 57, 58, 59, 60, 61] (by decide +kernel) (by decide +kernel)
set_option maxRecDepth 20000 in
theorem gX1_owing_X1_payIn : GoodIn wsX1_owing (wsV RX1 102 RX1 yX1_payIn wsX1_payIn) := goodIn_app (goodIn_of _ (by decide +kernel)) ggX1_owing_X1_payIn
theorem dX1_owing_0 : decode cX1_owing 0 = .ok (.aload_n 0, 1) := by decide +kernel
theorem dX1_owing_1 : decode cX1_owing 1 = .ok (.iload_n 1, 1) := by decide +kernel
theorem dX1_owing_2 : decode cX1_owing 2 = .ok (.invokestatic 70, 3) := by decide +kernel
theorem dX1_owing_5 : decode cX1_owing 5 = .ok (.ifCond .eq 14, 3) := by decide +kernel
theorem dX1_owing_8 : decode cX1_owing 8 = .ok (.iload_n 2, 1) := by decide +kernel
theorem dX1_owing_9 : decode cX1_owing 9 = .ok (.invokestatic 84, 3) := by decide +kernel
theorem dX1_owing_12 : decode cX1_owing 12 = .ok (.ifCond .eq 7, 3) := by decide +kernel
theorem dX1_owing_15 : decode cX1_owing 15 = .ok (.iconst 0, 1) := by decide +kernel
theorem dX1_owing_16 : decode cX1_owing 16 = .ok (.goto 4, 3) := by decide +kernel
theorem dX1_owing_19 : decode cX1_owing 19 = .ok (.iconst 1, 1) := by decide +kernel
theorem dX1_owing_20 : decode cX1_owing 20 = .ok (.invokevirtual 67, 3) := by decide +kernel
theorem dX1_owing_23 : decode cX1_owing 23 = .ok (.ifCond .eq 24, 3) := by decide +kernel
theorem dX1_owing_26 : decode cX1_owing 26 = .ok (.aload_n 0, 1) := by decide +kernel
theorem dX1_owing_27 : decode cX1_owing 27 = .ok (.iload_n 1, 1) := by decide +kernel
theorem dX1_owing_28 : decode cX1_owing 28 = .ok (.iload_n 2, 1) := by decide +kernel
theorem dX1_owing_29 : decode cX1_owing 29 = .ok (.invokevirtual 102, 3) := by decide +kernel
theorem dX1_owing_32 : decode cX1_owing 32 = .ok (.aload_n 0, 1) := by decide +kernel
theorem dX1_owing_33 : decode cX1_owing 33 = .ok (.getfield 44, 3) := by decide +kernel
theorem dX1_owing_36 : decode cX1_owing 36 = .ok (.bipush 20, 2) := by decide +kernel
theorem dX1_owing_38 : decode cX1_owing 38 = .ok (.iload_n 1, 1) := by decide +kernel
theorem dX1_owing_39 : decode cX1_owing 39 = .ok (.imul, 1) := by decide +kernel
theorem dX1_owing_40 : decode cX1_owing 40 = .ok (.iload_n 2, 1) := by decide +kernel
theorem dX1_owing_41 : decode cX1_owing 41 = .ok (.iadd, 1) := by decide +kernel
theorem dX1_owing_42 : decode cX1_owing 42 = .ok (.iaload, 1) := by decide +kernel
theorem dX1_owing_43 : decode cX1_owing 43 = .ok (.isub, 1) := by decide +kernel
theorem dX1_owing_44 : decode cX1_owing 44 = .ok (.goto 4, 3) := by decide +kernel
theorem dX1_owing_47 : decode cX1_owing 47 = .ok (.iconst 0, 1) := by decide +kernel
theorem dX1_owing_48 : decode cX1_owing 48 = .ok (.ireturn, 1) := by decide +kernel
set_option maxRecDepth 20000 in
theorem ggX1_toBill_X1_isSite : GoodIn wsX1_toBill wsX1_isSite := goodIn_r _ [5, 6, 7, 4, 8] (by decide +kernel) (by decide +kernel)
set_option maxRecDepth 20000 in
theorem gX1_toBill_X1_isSite : GoodIn wsX1_toBill (va_wsS RX1 63 yX1_isSite wsX1_isSite) := goodIn_app (goodIn_of _ (by decide +kernel)) ggX1_toBill_X1_isSite
set_option maxRecDepth 20000 in
theorem ggX1_toBill_X1_isWeek : GoodIn wsX1_toBill wsX1_isWeek := goodIn_r _ [11, 6, 7, 4, 8] (by decide +kernel) (by decide +kernel)
set_option maxRecDepth 20000 in
theorem gX1_toBill_X1_isWeek : GoodIn wsX1_toBill (va_wsS RX1 84 yX1_isWeek wsX1_isWeek) := goodIn_app (goodIn_of _ (by decide +kernel)) ggX1_toBill_X1_isWeek
set_option maxRecDepth 20000 in
theorem ggX1_toBill_X1_goes : GoodIn wsX1_toBill wsX1_goes := goodIn_r _ [15, 16, 53, 54, 55, 56, 57, 58, 59, 60, 61, 62, 63, 64, 65, 66, 67, 68] (by decide +kernel) (by decide +kernel)
set_option maxRecDepth 20000 in
theorem gX1_toBill_X1_goes : GoodIn wsX1_toBill (wsV RX1 67 RX1 yX1_goes wsX1_goes) := goodIn_app (goodIn_of _ (by decide +kernel)) ggX1_toBill_X1_goes
set_option maxRecDepth 20000 in
theorem ggX1_toBill_X1_chargesIn : GoodIn wsX1_toBill wsX1_chargesIn := goodIn_r _ [20, 21, 22, 23, 24, 25, 26, 4, 27, 28, 29, 30, 31, 32, 33, 34, 35, 36, 37, 38, 39, 40, 41, 42, 43, 44, 45, 46, 47, 48, 49, 50, 51, 52, 53, 54, 55, 56, 57, 58, 59, 60, 61, 62, 63, 64, 65, 66, 67, 68] (by decide +kernel) (by decide +kernel)
set_option maxRecDepth 20000 in
theorem gX1_toBill_X1_chargesIn : GoodIn wsX1_toBill (wsV RX1 105 RX1 yX1_chargesIn wsX1_chargesIn) := goodIn_app (goodIn_of _ (by decide +kernel)) ggX1_toBill_X1_chargesIn
theorem dX1_toBill_0 : decode cX1_toBill 0 = .ok (.aload_n 0, 1) := by decide +kernel
theorem dX1_toBill_1 : decode cX1_toBill 1 = .ok (.iload_n 1, 1) := by decide +kernel
theorem dX1_toBill_2 : decode cX1_toBill 2 = .ok (.invokestatic 63, 3) := by decide +kernel
theorem dX1_toBill_5 : decode cX1_toBill 5 = .ok (.ifCond .eq 14, 3) := by decide +kernel
theorem dX1_toBill_8 : decode cX1_toBill 8 = .ok (.iload_n 2, 1) := by decide +kernel
theorem dX1_toBill_9 : decode cX1_toBill 9 = .ok (.invokestatic 84, 3) := by decide +kernel
theorem dX1_toBill_12 : decode cX1_toBill 12 = .ok (.ifCond .eq 7, 3) := by decide +kernel
theorem dX1_toBill_15 : decode cX1_toBill 15 = .ok (.iconst 0, 1) := by decide +kernel
theorem dX1_toBill_16 : decode cX1_toBill 16 = .ok (.goto 4, 3) := by decide +kernel
theorem dX1_toBill_19 : decode cX1_toBill 19 = .ok (.iconst 1, 1) := by decide +kernel
theorem dX1_toBill_20 : decode cX1_toBill 20 = .ok (.invokevirtual 67, 3) := by decide +kernel
theorem dX1_toBill_23 : decode cX1_toBill 23 = .ok (.ifCond .eq 24, 3) := by decide +kernel
theorem dX1_toBill_26 : decode cX1_toBill 26 = .ok (.aload_n 0, 1) := by decide +kernel
theorem dX1_toBill_27 : decode cX1_toBill 27 = .ok (.iload_n 1, 1) := by decide +kernel
theorem dX1_toBill_28 : decode cX1_toBill 28 = .ok (.iload_n 2, 1) := by decide +kernel
theorem dX1_toBill_29 : decode cX1_toBill 29 = .ok (.invokevirtual 105, 3) := by decide +kernel
theorem dX1_toBill_32 : decode cX1_toBill 32 = .ok (.aload_n 0, 1) := by decide +kernel
theorem dX1_toBill_33 : decode cX1_toBill 33 = .ok (.getfield 47, 3) := by decide +kernel
theorem dX1_toBill_36 : decode cX1_toBill 36 = .ok (.bipush 20, 2) := by decide +kernel
theorem dX1_toBill_38 : decode cX1_toBill 38 = .ok (.iload_n 1, 1) := by decide +kernel
theorem dX1_toBill_39 : decode cX1_toBill 39 = .ok (.imul, 1) := by decide +kernel
theorem dX1_toBill_40 : decode cX1_toBill 40 = .ok (.iload_n 2, 1) := by decide +kernel
theorem dX1_toBill_41 : decode cX1_toBill 41 = .ok (.iadd, 1) := by decide +kernel
theorem dX1_toBill_42 : decode cX1_toBill 42 = .ok (.iaload, 1) := by decide +kernel
theorem dX1_toBill_43 : decode cX1_toBill 43 = .ok (.isub, 1) := by decide +kernel
theorem dX1_toBill_44 : decode cX1_toBill 44 = .ok (.goto 4, 3) := by decide +kernel
theorem dX1_toBill_47 : decode cX1_toBill 47 = .ok (.iconst 0, 1) := by decide +kernel
theorem dX1_toBill_48 : decode cX1_toBill 48 = .ok (.ireturn, 1) := by decide +kernel
set_option maxRecDepth 20000 in
theorem ggX1_left_X1_earned : GoodIn wsX1_left wsX1_earned := goodIn_r _ [6, 7, 8, 9, 10, 11, 12, 13, 14, 15, 16, 17, 18, 19, 20, 21, 22, 23, 24, 25] (by decide +kernel) (by decide +kernel)
set_option maxRecDepth 20000 in
theorem gX1_left_X1_earned : GoodIn wsX1_left (wsV RX1 80 RX1 yX1_earned wsX1_earned) := goodIn_app (goodIn_of _ (by decide +kernel)) ggX1_left_X1_earned
theorem dX1_left_0 : decode cX1_left 0 = .ok (.aload_n 0, 1) := by decide +kernel
theorem dX1_left_1 : decode cX1_left 1 = .ok (.iload_n 1, 1) := by decide +kernel
theorem dX1_left_2 : decode cX1_left 2 = .ok (.invokevirtual 80, 3) := by decide +kernel
theorem dX1_left_5 : decode cX1_left 5 = .ok (.aload_n 0, 1) := by decide +kernel
theorem dX1_left_6 : decode cX1_left 6 = .ok (.getfield 50, 3) := by decide +kernel
theorem dX1_left_9 : decode cX1_left 9 = .ok (.iload_n 1, 1) := by decide +kernel
theorem dX1_left_10 : decode cX1_left 10 = .ok (.iaload, 1) := by decide +kernel
theorem dX1_left_11 : decode cX1_left 11 = .ok (.isub, 1) := by decide +kernel
theorem dX1_left_12 : decode cX1_left 12 = .ok (.ireturn, 1) := by decide +kernel
set_option maxRecDepth 20000 in
theorem ggX1_takeHoliday_X1_isWorker : GoodIn wsX1_takeHoliday wsX1_isWorker := goodIn_r _ [5, 6, 7, 4, 8] (by decide +kernel) (by decide +kernel)
set_option maxRecDepth 20000 in
theorem gX1_takeHoliday_X1_isWorker : GoodIn wsX1_takeHoliday (va_wsS RX1 70 yX1_isWorker wsX1_isWorker) := goodIn_app (goodIn_of _ (by decide +kernel)) ggX1_takeHoliday_X1_isWorker
set_option maxRecDepth 20000 in
theorem ggX1_takeHoliday_X1_isIn : GoodIn wsX1_takeHoliday wsX1_isIn := goodIn_r _ [8] (by decide +kernel) (by decide +kernel)
set_option maxRecDepth 20000 in
theorem gX1_takeHoliday_X1_isIn : GoodIn wsX1_takeHoliday (va_wsS RX1 56 yX1_isIn wsX1_isIn) := goodIn_app (goodIn_of _ (by decide +kernel)) ggX1_takeHoliday_X1_isIn
set_option maxRecDepth 20000 in
theorem ggX1_takeHoliday_X1_left : GoodIn wsX1_takeHoliday wsX1_left := goodIn_r _ [12, 1, 13, 14, 15, 4, 16, 17, 18, 19, 25, 26, 27, 28, 29, 30, 31, 32, 33, 34, 35, 36, 37, 38, 39, 40] (by decide +kernel) (by decide +kernel)
set_option maxRecDepth 20000 in
theorem gX1_takeHoliday_X1_left : GoodIn wsX1_takeHoliday (wsV RX1 108 RX1 yX1_left wsX1_left) := goodIn_app (goodIn_of _ (by decide +kernel)) ggX1_takeHoliday_X1_left
set_option maxRecDepth 20000 in
theorem ggX1_takeHoliday_X1_goes : GoodIn wsX1_takeHoliday wsX1_goes := goodIn_r _ [23, 24, 25, 26, 27, 28, 29, 30, 31, 32, 33, 34, 35, 36, 37, 38, 39, 40] (by decide +kernel) (by decide +kernel)
set_option maxRecDepth 20000 in
theorem gX1_takeHoliday_X1_goes : GoodIn wsX1_takeHoliday (wsV RX1 67 RX1 yX1_goes wsX1_goes) := goodIn_app (goodIn_of _ (by decide +kernel)) ggX1_takeHoliday_X1_goes
theorem dX1_takeHoliday_0 : decode cX1_takeHoliday 0 = .ok (.aload_n 0, 1) := by decide +kernel
theorem dX1_takeHoliday_1 : decode cX1_takeHoliday 1 = .ok (.iload_n 1, 1) := by decide +kernel
theorem dX1_takeHoliday_2 : decode cX1_takeHoliday 2 = .ok (.invokestatic 70, 3) := by decide +kernel
theorem dX1_takeHoliday_5 : decode cX1_takeHoliday 5 = .ok (.ifCond .ne 7, 3) := by decide +kernel
theorem dX1_takeHoliday_8 : decode cX1_takeHoliday 8 = .ok (.iconst 1, 1) := by decide +kernel
theorem dX1_takeHoliday_9 : decode cX1_takeHoliday 9 = .ok (.goto 32, 3) := by decide +kernel
theorem dX1_takeHoliday_12 : decode cX1_takeHoliday 12 = .ok (.iload_n 2, 1) := by decide +kernel
theorem dX1_takeHoliday_13 : decode cX1_takeHoliday 13 = .ok (.iconst 1, 1) := by decide +kernel
theorem dX1_takeHoliday_14 : decode cX1_takeHoliday 14 = .ok (.sipush 10000, 3) := by decide +kernel
theorem dX1_takeHoliday_17 : decode cX1_takeHoliday 17 = .ok (.invokestatic 56, 3) := by decide +kernel
theorem dX1_takeHoliday_20 : decode cX1_takeHoliday 20 = .ok (.ifCond .ne 7, 3) := by decide +kernel
theorem dX1_takeHoliday_23 : decode cX1_takeHoliday 23 = .ok (.iconst 2, 1) := by decide +kernel
theorem dX1_takeHoliday_24 : decode cX1_takeHoliday 24 = .ok (.goto 17, 3) := by decide +kernel
theorem dX1_takeHoliday_27 : decode cX1_takeHoliday 27 = .ok (.iload_n 2, 1) := by decide +kernel
theorem dX1_takeHoliday_28 : decode cX1_takeHoliday 28 = .ok (.aload_n 0, 1) := by decide +kernel
theorem dX1_takeHoliday_29 : decode cX1_takeHoliday 29 = .ok (.iload_n 1, 1) := by decide +kernel
theorem dX1_takeHoliday_30 : decode cX1_takeHoliday 30 = .ok (.invokevirtual 108, 3) := by decide +kernel
theorem dX1_takeHoliday_33 : decode cX1_takeHoliday 33 = .ok (.if_icmp .le 7, 3) := by decide +kernel
theorem dX1_takeHoliday_36 : decode cX1_takeHoliday 36 = .ok (.iconst 3, 1) := by decide +kernel
theorem dX1_takeHoliday_37 : decode cX1_takeHoliday 37 = .ok (.goto 4, 3) := by decide +kernel
theorem dX1_takeHoliday_40 : decode cX1_takeHoliday 40 = .ok (.iconst 0, 1) := by decide +kernel
theorem dX1_takeHoliday_41 : decode cX1_takeHoliday 41 = .ok (.invokevirtual 67, 3) := by decide +kernel
theorem dX1_takeHoliday_44 : decode cX1_takeHoliday 44 = .ok (.ifCond .ne 5, 3) := by decide +kernel
theorem dX1_takeHoliday_47 : decode cX1_takeHoliday 47 = .ok (.iconst 0, 1) := by decide +kernel
theorem dX1_takeHoliday_48 : decode cX1_takeHoliday 48 = .ok (.ireturn, 1) := by decide +kernel
theorem dX1_takeHoliday_49 : decode cX1_takeHoliday 49 = .ok (.aload_n 0, 1) := by decide +kernel
theorem dX1_takeHoliday_50 : decode cX1_takeHoliday 50 = .ok (.getfield 50, 3) := by decide +kernel
theorem dX1_takeHoliday_53 : decode cX1_takeHoliday 53 = .ok (.iload_n 1, 1) := by decide +kernel
theorem dX1_takeHoliday_54 : decode cX1_takeHoliday 54 = .ok (.dup2, 1) := by decide +kernel
theorem dX1_takeHoliday_55 : decode cX1_takeHoliday 55 = .ok (.iaload, 1) := by decide +kernel
theorem dX1_takeHoliday_56 : decode cX1_takeHoliday 56 = .ok (.iload_n 2, 1) := by decide +kernel
theorem dX1_takeHoliday_57 : decode cX1_takeHoliday 57 = .ok (.iadd, 1) := by decide +kernel
theorem dX1_takeHoliday_58 : decode cX1_takeHoliday 58 = .ok (.iastore, 1) := by decide +kernel
theorem dX1_takeHoliday_59 : decode cX1_takeHoliday 59 = .ok (.aload_n 0, 1) := by decide +kernel
theorem dX1_takeHoliday_60 : decode cX1_takeHoliday 60 = .ok (.iload_n 1, 1) := by decide +kernel
theorem dX1_takeHoliday_61 : decode cX1_takeHoliday 61 = .ok (.invokevirtual 108, 3) := by decide +kernel
theorem dX1_takeHoliday_64 : decode cX1_takeHoliday 64 = .ok (.ireturn, 1) := by decide +kernel
set_option maxRecDepth 20000 in
theorem ggX1_holiday_X1_isWorker : GoodIn wsX1_holiday wsX1_isWorker := goodIn_r _ [4, 5, 6, 3, 7] (by decide +kernel) (by decide +kernel)
set_option maxRecDepth 20000 in
theorem gX1_holiday_X1_isWorker : GoodIn wsX1_holiday (va_wsS RX1 70 yX1_isWorker wsX1_isWorker) := goodIn_app (goodIn_of _ (by decide +kernel)) ggX1_holiday_X1_isWorker
set_option maxRecDepth 20000 in
theorem ggX1_holiday_X1_goes : GoodIn wsX1_holiday wsX1_goes := goodIn_r _ [11, 12, 25, 26, 27, 28, 29, 30, 31, 32, 33, 34, 35, 36, 37, 38, 39, 40] (by decide +kernel) (by decide +kernel)
set_option maxRecDepth 20000 in
theorem gX1_holiday_X1_goes : GoodIn wsX1_holiday (wsV RX1 67 RX1 yX1_goes wsX1_goes) := goodIn_app (goodIn_of _ (by decide +kernel)) ggX1_holiday_X1_goes
set_option maxRecDepth 20000 in
theorem ggX1_holiday_X1_left : GoodIn wsX1_holiday wsX1_left := goodIn_r _ [16, 17, 18, 19, 20, 3, 21, 22, 23, 24, 25, 26, 27, 28, 29, 30, 31, 32, 33, 34, 35, 36, 37, 38, 39, 40] (by decide +kernel) (by decide +kernel)
set_option maxRecDepth 20000 in
theorem gX1_holiday_X1_left : GoodIn wsX1_holiday (wsV RX1 108 RX1 yX1_left wsX1_left) := goodIn_app (goodIn_of _ (by decide +kernel)) ggX1_holiday_X1_left
theorem dX1_holiday_0 : decode cX1_holiday 0 = .ok (.aload_n 0, 1) := by decide +kernel
theorem dX1_holiday_1 : decode cX1_holiday 1 = .ok (.iload_n 1, 1) := by decide +kernel
theorem dX1_holiday_2 : decode cX1_holiday 2 = .ok (.invokestatic 70, 3) := by decide +kernel
theorem dX1_holiday_5 : decode cX1_holiday 5 = .ok (.ifCond .eq 7, 3) := by decide +kernel
theorem dX1_holiday_8 : decode cX1_holiday 8 = .ok (.iconst 0, 1) := by decide +kernel
theorem dX1_holiday_9 : decode cX1_holiday 9 = .ok (.goto 4, 3) := by decide +kernel
theorem dX1_holiday_12 : decode cX1_holiday 12 = .ok (.iconst 1, 1) := by decide +kernel
theorem dX1_holiday_13 : decode cX1_holiday 13 = .ok (.invokevirtual 67, 3) := by decide +kernel
theorem dX1_holiday_16 : decode cX1_holiday 16 = .ok (.ifCond .eq 11, 3) := by decide +kernel
theorem dX1_holiday_19 : decode cX1_holiday 19 = .ok (.aload_n 0, 1) := by decide +kernel
theorem dX1_holiday_20 : decode cX1_holiday 20 = .ok (.iload_n 1, 1) := by decide +kernel
theorem dX1_holiday_21 : decode cX1_holiday 21 = .ok (.invokevirtual 108, 3) := by decide +kernel
theorem dX1_holiday_24 : decode cX1_holiday 24 = .ok (.goto 4, 3) := by decide +kernel
theorem dX1_holiday_27 : decode cX1_holiday 27 = .ok (.iconst 0, 1) := by decide +kernel
theorem dX1_holiday_28 : decode cX1_holiday 28 = .ok (.ireturn, 1) := by decide +kernel
