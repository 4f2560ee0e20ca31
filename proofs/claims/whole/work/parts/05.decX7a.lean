set_option maxRecDepth 20000 in
theorem ggX7_init_X7_adds : GoodIn wsX7_init wsX7_adds := goodIn_r _ [16] (by decide +kernel) (by decide +kernel)
set_option maxRecDepth 20000 in
theorem gX7_init_X7_adds : GoodIn wsX7_init (va_wsS RX7 32 yX7_adds wsX7_adds) := goodIn_app (goodIn_of _ (by decide +kernel)) ggX7_init_X7_adds
theorem dX7_init_0 : decode cX7_init 0 = .ok (.aload_n 0, 1) := by decide +kernel
theorem dX7_init_1 : decode cX7_init 1 = .ok (.invokespecial 1, 3) := by decide +kernel
theorem dX7_init_4 : decode cX7_init 4 = .ok (.aload_n 0, 1) := by decide +kernel
theorem dX7_init_5 : decode cX7_init 5 = .ok (.sipush 200, 3) := by decide +kernel
theorem dX7_init_8 : decode cX7_init 8 = .ok (.newarray .int, 2) := by decide +kernel
theorem dX7_init_10 : decode cX7_init 10 = .ok (.putfield 7, 3) := by decide +kernel
theorem dX7_init_13 : decode cX7_init 13 = .ok (.aload_n 0, 1) := by decide +kernel
theorem dX7_init_14 : decode cX7_init 14 = .ok (.bipush 78, 2) := by decide +kernel
theorem dX7_init_16 : decode cX7_init 16 = .ok (.newarray .int, 2) := by decide +kernel
theorem dX7_init_18 : decode cX7_init 18 = .ok (.putfield 13, 3) := by decide +kernel
theorem dX7_init_21 : decode cX7_init 21 = .ok (.aload_n 0, 1) := by decide +kernel
theorem dX7_init_22 : decode cX7_init 22 = .ok (.bipush 78, 2) := by decide +kernel
theorem dX7_init_24 : decode cX7_init 24 = .ok (.newarray .int, 2) := by decide +kernel
theorem dX7_init_26 : decode cX7_init 26 = .ok (.putfield 16, 3) := by decide +kernel
theorem dX7_init_29 : decode cX7_init 29 = .ok (.aload_n 0, 1) := by decide +kernel
theorem dX7_init_30 : decode cX7_init 30 = .ok (.sipush 468, 3) := by decide +kernel
theorem dX7_init_33 : decode cX7_init 33 = .ok (.newarray .int, 2) := by decide +kernel
theorem dX7_init_35 : decode cX7_init 35 = .ok (.putfield 19, 3) := by decide +kernel
theorem dX7_init_38 : decode cX7_init 38 = .ok (.aload_n 0, 1) := by decide +kernel
theorem dX7_init_39 : decode cX7_init 39 = .ok (.bipush 32, 2) := by decide +kernel
theorem dX7_init_41 : decode cX7_init 41 = .ok (.newarray .int, 2) := by decide +kernel
theorem dX7_init_43 : decode cX7_init 43 = .ok (.putfield 22, 3) := by decide +kernel
theorem dX7_init_46 : decode cX7_init 46 = .ok (.aload_n 0, 1) := by decide +kernel
theorem dX7_init_47 : decode cX7_init 47 = .ok (.sipush 256, 3) := by decide +kernel
theorem dX7_init_50 : decode cX7_init 50 = .ok (.newarray .long, 2) := by decide +kernel
theorem dX7_init_52 : decode cX7_init 52 = .ok (.putfield 25, 3) := by decide +kernel
theorem dX7_init_55 : decode cX7_init 55 = .ok (.aload_n 0, 1) := by decide +kernel
theorem dX7_init_56 : decode cX7_init 56 = .ok (.sipush 256, 3) := by decide +kernel
theorem dX7_init_59 : decode cX7_init 59 = .ok (.newarray .long, 2) := by decide +kernel
theorem dX7_init_61 : decode cX7_init 61 = .ok (.putfield 29, 3) := by decide +kernel
theorem dX7_init_64 : decode cX7_init 64 = .ok (.aload_n 0, 1) := by decide +kernel
theorem dX7_init_65 : decode cX7_init 65 = .ok (.getfield 13, 3) := by decide +kernel
theorem dX7_init_68 : decode cX7_init 68 = .ok (.iconst 0, 1) := by decide +kernel
theorem dX7_init_69 : decode cX7_init 69 = .ok (.iconst 4, 1) := by decide +kernel
theorem dX7_init_70 : decode cX7_init 70 = .ok (.iastore, 1) := by decide +kernel
theorem dX7_init_71 : decode cX7_init 71 = .ok (.aload_n 0, 1) := by decide +kernel
theorem dX7_init_72 : decode cX7_init 72 = .ok (.getfield 13, 3) := by decide +kernel
theorem dX7_init_75 : decode cX7_init 75 = .ok (.iconst 0, 1) := by decide +kernel
theorem dX7_init_76 : decode cX7_init 76 = .ok (.iconst 0, 1) := by decide +kernel
theorem dX7_init_77 : decode cX7_init 77 = .ok (.iconst 2, 1) := by decide +kernel
theorem dX7_init_78 : decode cX7_init 78 = .ok (.invokestatic 32, 3) := by decide +kernel
theorem dX7_init_81 : decode cX7_init 81 = .ok (.aload_n 0, 1) := by decide +kernel
theorem dX7_init_82 : decode cX7_init 82 = .ok (.getfield 13, 3) := by decide +kernel
theorem dX7_init_85 : decode cX7_init 85 = .ok (.iconst 0, 1) := by decide +kernel
theorem dX7_init_86 : decode cX7_init 86 = .ok (.iconst 1, 1) := by decide +kernel
theorem dX7_init_87 : decode cX7_init 87 = .ok (.iconst 3, 1) := by decide +kernel
theorem dX7_init_88 : decode cX7_init 88 = .ok (.invokestatic 32, 3) := by decide +kernel
theorem dX7_init_91 : decode cX7_init 91 = .ok (.aload_n 0, 1) := by decide +kernel
theorem dX7_init_92 : decode cX7_init 92 = .ok (.getfield 13, 3) := by decide +kernel
theorem dX7_init_95 : decode cX7_init 95 = .ok (.iconst 1, 1) := by decide +kernel
theorem dX7_init_96 : decode cX7_init 96 = .ok (.iconst 4, 1) := by decide +kernel
theorem dX7_init_97 : decode cX7_init 97 = .ok (.iconst 5, 1) := by decide +kernel
theorem dX7_init_98 : decode cX7_init 98 = .ok (.invokestatic 32, 3) := by decide +kernel
theorem dX7_init_101 : decode cX7_init 101 = .ok (.aload_n 0, 1) := by decide +kernel
theorem dX7_init_102 : decode cX7_init 102 = .ok (.getfield 13, 3) := by decide +kernel
theorem dX7_init_105 : decode cX7_init 105 = .ok (.iconst 0, 1) := by decide +kernel
theorem dX7_init_106 : decode cX7_init 106 = .ok (.iconst 0, 1) := by decide +kernel
theorem dX7_init_107 : decode cX7_init 107 = .ok (.iconst 3, 1) := by decide +kernel
theorem dX7_init_108 : decode cX7_init 108 = .ok (.invokestatic 32, 3) := by decide +kernel
theorem dX7_init_111 : decode cX7_init 111 = .ok (.aload_n 0, 1) := by decide +kernel
theorem dX7_init_112 : decode cX7_init 112 = .ok (.getfield 13, 3) := by decide +kernel
theorem dX7_init_115 : decode cX7_init 115 = .ok (.iconst 0, 1) := by decide +kernel
theorem dX7_init_116 : decode cX7_init 116 = .ok (.iconst 1, 1) := by decide +kernel
theorem dX7_init_117 : decode cX7_init 117 = .ok (.iconst 2, 1) := by decide +kernel
theorem dX7_init_118 : decode cX7_init 118 = .ok (.invokestatic 32, 3) := by decide +kernel
theorem dX7_init_121 : decode cX7_init 121 = .ok (.aload_n 0, 1) := by decide +kernel
theorem dX7_init_122 : decode cX7_init 122 = .ok (.getfield 13, 3) := by decide +kernel
theorem dX7_init_125 : decode cX7_init 125 = .ok (.iconst 1, 1) := by decide +kernel
theorem dX7_init_126 : decode cX7_init 126 = .ok (.bipush 7, 2) := by decide +kernel
theorem dX7_init_128 : decode cX7_init 128 = .ok (.bipush 8, 2) := by decide +kernel
theorem dX7_init_130 : decode cX7_init 130 = .ok (.invokestatic 32, 3) := by decide +kernel
theorem dX7_init_133 : decode cX7_init 133 = .ok (.aload_n 0, 1) := by decide +kernel
theorem dX7_init_134 : decode cX7_init 134 = .ok (.getfield 13, 3) := by decide +kernel
theorem dX7_init_137 : decode cX7_init 137 = .ok (.iconst 2, 1) := by decide +kernel
theorem dX7_init_138 : decode cX7_init 138 = .ok (.bipush 6, 2) := by decide +kernel
theorem dX7_init_140 : decode cX7_init 140 = .ok (.iastore, 1) := by decide +kernel
theorem dX7_init_141 : decode cX7_init 141 = .ok (.aload_n 0, 1) := by decide +kernel
theorem dX7_init_142 : decode cX7_init 142 = .ok (.getfield 13, 3) := by decide +kernel
theorem dX7_init_145 : decode cX7_init 145 = .ok (.iconst 3, 1) := by decide +kernel
theorem dX7_init_146 : decode cX7_init 146 = .ok (.bipush 9, 2) := by decide +kernel
theorem dX7_init_148 : decode cX7_init 148 = .ok (.iastore, 1) := by decide +kernel
theorem dX7_init_149 : decode cX7_init 149 = .ok (.aload_n 0, 1) := by decide +kernel
theorem dX7_init_150 : decode cX7_init 150 = .ok (.getfield 13, 3) := by decide +kernel
theorem dX7_init_153 : decode cX7_init 153 = .ok (.iconst 4, 1) := by decide +kernel
theorem dX7_init_154 : decode cX7_init 154 = .ok (.iconst 3, 1) := by decide +kernel
theorem dX7_init_155 : decode cX7_init 155 = .ok (.iastore, 1) := by decide +kernel
theorem dX7_init_156 : decode cX7_init 156 = .ok (.return_, 1) := by decide +kernel
theorem dX7_adds_0 : decode cX7_adds 0 = .ok (.bipush 6, 2) := by decide +kernel
theorem dX7_adds_2 : decode cX7_adds 2 = .ok (.iconst 3, 1) := by decide +kernel
theorem dX7_adds_3 : decode cX7_adds 3 = .ok (.aload_n 0, 1) := by decide +kernel
theorem dX7_adds_4 : decode cX7_adds 4 = .ok (.iconst 1, 1) := by decide +kernel
theorem dX7_adds_5 : decode cX7_adds 5 = .ok (.iaload, 1) := by decide +kernel
theorem dX7_adds_6 : decode cX7_adds 6 = .ok (.imul, 1) := by decide +kernel
theorem dX7_adds_7 : decode cX7_adds 7 = .ok (.iadd, 1) := by decide +kernel
theorem dX7_adds_8 : decode cX7_adds 8 = .ok (.istore 4, 2) := by decide +kernel
theorem dX7_adds_10 : decode cX7_adds 10 = .ok (.aload_n 0, 1) := by decide +kernel
theorem dX7_adds_11 : decode cX7_adds 11 = .ok (.iload 4, 2) := by decide +kernel
theorem dX7_adds_13 : decode cX7_adds 13 = .ok (.iload_n 1, 1) := by decide +kernel
theorem dX7_adds_14 : decode cX7_adds 14 = .ok (.iastore, 1) := by decide +kernel
theorem dX7_adds_15 : decode cX7_adds 15 = .ok (.aload_n 0, 1) := by decide +kernel
theorem dX7_adds_16 : decode cX7_adds 16 = .ok (.iload 4, 2) := by decide +kernel
theorem dX7_adds_18 : decode cX7_adds 18 = .ok (.iconst 1, 1) := by decide +kernel
theorem dX7_adds_19 : decode cX7_adds 19 = .ok (.iadd, 1) := by decide +kernel
theorem dX7_adds_20 : decode cX7_adds 20 = .ok (.iload_n 2, 1) := by decide +kernel
theorem dX7_adds_21 : decode cX7_adds 21 = .ok (.iastore, 1) := by decide +kernel
theorem dX7_adds_22 : decode cX7_adds 22 = .ok (.aload_n 0, 1) := by decide +kernel
theorem dX7_adds_23 : decode cX7_adds 23 = .ok (.iload 4, 2) := by decide +kernel
theorem dX7_adds_25 : decode cX7_adds 25 = .ok (.iconst 2, 1) := by decide +kernel
theorem dX7_adds_26 : decode cX7_adds 26 = .ok (.iadd, 1) := by decide +kernel
theorem dX7_adds_27 : decode cX7_adds 27 = .ok (.iload_n 3, 1) := by decide +kernel
theorem dX7_adds_28 : decode cX7_adds 28 = .ok (.iastore, 1) := by decide +kernel
theorem dX7_adds_29 : decode cX7_adds 29 = .ok (.aload_n 0, 1) := by decide +kernel
theorem dX7_adds_30 : decode cX7_adds 30 = .ok (.iconst 1, 1) := by decide +kernel
theorem dX7_adds_31 : decode cX7_adds 31 = .ok (.dup2, 1) := by decide +kernel
theorem dX7_adds_32 : decode cX7_adds 32 = .ok (.iaload, 1) := by decide +kernel
theorem dX7_adds_33 : decode cX7_adds 33 = .ok (.iconst 1, 1) := by decide +kernel
theorem dX7_adds_34 : decode cX7_adds 34 = .ok (.iadd, 1) := by decide +kernel
theorem dX7_adds_35 : decode cX7_adds 35 = .ok (.iastore, 1) := by decide +kernel
theorem dX7_adds_36 : decode cX7_adds 36 = .ok (.return_, 1) := by decide +kernel
theorem dX7_isIn_0 : decode cX7_isIn 0 = .ok (.iload_n 0, 1) := by decide +kernel
theorem dX7_isIn_1 : decode cX7_isIn 1 = .ok (.iload_n 1, 1) := by decide +kernel
theorem dX7_isIn_2 : decode cX7_isIn 2 = .ok (.if_icmp .lt 12, 3) := by decide +kernel
theorem dX7_isIn_5 : decode cX7_isIn 5 = .ok (.iload_n 0, 1) := by decide +kernel
theorem dX7_isIn_6 : decode cX7_isIn 6 = .ok (.iload_n 2, 1) := by decide +kernel
theorem dX7_isIn_7 : decode cX7_isIn 7 = .ok (.if_icmp .gt 7, 3) := by decide +kernel
theorem dX7_isIn_10 : decode cX7_isIn 10 = .ok (.iconst 1, 1) := by decide +kernel
theorem dX7_isIn_11 : decode cX7_isIn 11 = .ok (.goto 4, 3) := by decide +kernel
theorem dX7_isIn_14 : decode cX7_isIn 14 = .ok (.iconst 0, 1) := by decide +kernel
theorem dX7_isIn_15 : decode cX7_isIn 15 = .ok (.ireturn, 1) := by decide +kernel
set_option maxRecDepth 20000 in
theorem ggX7_canBe_X7_isIn : GoodIn wsX7_canBe wsX7_isIn := goodIn_r _ [4] (by decide +kernel) (by decide +kernel)
set_option maxRecDepth 20000 in
theorem gX7_canBe_X7_isIn : GoodIn wsX7_canBe (va_wsS RX7 36 yX7_isIn wsX7_isIn) := goodIn_app (goodIn_of _ (by decide +kernel)) ggX7_canBe_X7_isIn
theorem dX7_canBe_0 : decode cX7_canBe 0 = .ok (.iload_n 1, 1) := by decide +kernel
theorem dX7_canBe_1 : decode cX7_canBe 1 = .ok (.iconst 0, 1) := by decide +kernel
theorem dX7_canBe_2 : decode cX7_canBe 2 = .ok (.iconst 3, 1) := by decide +kernel
theorem dX7_canBe_3 : decode cX7_canBe 3 = .ok (.invokestatic 36, 3) := by decide +kernel
theorem dX7_canBe_6 : decode cX7_canBe 6 = .ok (.ifCond .eq 40, 3) := by decide +kernel
theorem dX7_canBe_9 : decode cX7_canBe 9 = .ok (.iload_n 2, 1) := by decide +kernel
theorem dX7_canBe_10 : decode cX7_canBe 10 = .ok (.iconst 0, 1) := by decide +kernel
theorem dX7_canBe_11 : decode cX7_canBe 11 = .ok (.iload_n 1, 1) := by decide +kernel
theorem dX7_canBe_12 : decode cX7_canBe 12 = .ok (.ifCond .eq 8, 3) := by decide +kernel
theorem dX7_canBe_15 : decode cX7_canBe 15 = .ok (.iload_n 1, 1) := by decide +kernel
theorem dX7_canBe_16 : decode cX7_canBe 16 = .ok (.iconst 3, 1) := by decide +kernel
theorem dX7_canBe_17 : decode cX7_canBe 17 = .ok (.if_icmp .ne 7, 3) := by decide +kernel
theorem dX7_canBe_20 : decode cX7_canBe 20 = .ok (.iconst 0, 1) := by decide +kernel
theorem dX7_canBe_21 : decode cX7_canBe 21 = .ok (.goto 4, 3) := by decide +kernel
theorem dX7_canBe_24 : decode cX7_canBe 24 = .ok (.iload_n 0, 1) := by decide +kernel
theorem dX7_canBe_25 : decode cX7_canBe 25 = .ok (.invokestatic 36, 3) := by decide +kernel
theorem dX7_canBe_28 : decode cX7_canBe 28 = .ok (.ifCond .eq 18, 3) := by decide +kernel
theorem dX7_canBe_31 : decode cX7_canBe 31 = .ok (.iload_n 1, 1) := by decide +kernel
theorem dX7_canBe_32 : decode cX7_canBe 32 = .ok (.iconst 3, 1) := by decide +kernel
theorem dX7_canBe_33 : decode cX7_canBe 33 = .ok (.if_icmp .ne 9, 3) := by decide +kernel
theorem dX7_canBe_36 : decode cX7_canBe 36 = .ok (.iload_n 0, 1) := by decide +kernel
theorem dX7_canBe_37 : decode cX7_canBe 37 = .ok (.iconst 2, 1) := by decide +kernel
theorem dX7_canBe_38 : decode cX7_canBe 38 = .ok (.irem, 1) := by decide +kernel
theorem dX7_canBe_39 : decode cX7_canBe 39 = .ok (.ifCond .ne 7, 3) := by decide +kernel
theorem dX7_canBe_42 : decode cX7_canBe 42 = .ok (.iconst 1, 1) := by decide +kernel
theorem dX7_canBe_43 : decode cX7_canBe 43 = .ok (.goto 4, 3) := by decide +kernel
theorem dX7_canBe_46 : decode cX7_canBe 46 = .ok (.iconst 0, 1) := by decide +kernel
theorem dX7_canBe_47 : decode cX7_canBe 47 = .ok (.ireturn, 1) := by decide +kernel
theorem dX7_letterAt_0 : decode cX7_letterAt 0 = .ok (.iload_n 1, 1) := by decide +kernel
theorem dX7_letterAt_1 : decode cX7_letterAt 1 = .ok (.aload_n 0, 1) := by decide +kernel
theorem dX7_letterAt_2 : decode cX7_letterAt 2 = .ok (.getfield 40, 3) := by decide +kernel
theorem dX7_letterAt_5 : decode cX7_letterAt 5 = .ok (.if_icmp .ge 12, 3) := by decide +kernel
theorem dX7_letterAt_8 : decode cX7_letterAt 8 = .ok (.aload_n 0, 1) := by decide +kernel
theorem dX7_letterAt_9 : decode cX7_letterAt 9 = .ok (.getfield 7, 3) := by decide +kernel
theorem dX7_letterAt_12 : decode cX7_letterAt 12 = .ok (.iload_n 1, 1) := by decide +kernel
theorem dX7_letterAt_13 : decode cX7_letterAt 13 = .ok (.iaload, 1) := by decide +kernel
theorem dX7_letterAt_14 : decode cX7_letterAt 14 = .ok (.goto 4, 3) := by decide +kernel
theorem dX7_letterAt_17 : decode cX7_letterAt 17 = .ok (.iconst 0, 1) := by decide +kernel
theorem dX7_letterAt_18 : decode cX7_letterAt 18 = .ok (.ireturn, 1) := by decide +kernel
set_option maxRecDepth 20000 in
theorem ggX7_number_X7_letterAt : GoodIn wsX7_number wsX7_letterAt := goodIn_r _ [8, 9, 3, 10, 11, 12, 13, 14, 15, 16, 17, 18, 19, 20, 21, 22, 23] (by decide +kernel) (by decide +kernel)
set_option maxRecDepth 20000 in
theorem gX7_number_X7_letterAt : GoodIn wsX7_number (wsV RX7 50 RX7 yX7_letterAt wsX7_letterAt) := goodIn_app (goodIn_of _ (by decide +kernel)) ggX7_number_X7_letterAt
theorem dX7_number_0 : decode cX7_number 0 = .ok (.aload_n 0, 1) := by decide +kernel
theorem dX7_number_1 : decode cX7_number 1 = .ok (.iconst 0, 1) := by decide +kernel
theorem dX7_number_2 : decode cX7_number 2 = .ok (.putfield 44, 3) := by decide +kernel
theorem dX7_number_5 : decode cX7_number 5 = .ok (.aload_n 0, 1) := by decide +kernel
theorem dX7_number_6 : decode cX7_number 6 = .ok (.iload_n 1, 1) := by decide +kernel
theorem dX7_number_7 : decode cX7_number 7 = .ok (.putfield 47, 3) := by decide +kernel
theorem dX7_number_10 : decode cX7_number 10 = .ok (.aload_n 0, 1) := by decide +kernel
theorem dX7_number_11 : decode cX7_number 11 = .ok (.getfield 47, 3) := by decide +kernel
theorem dX7_number_14 : decode cX7_number 14 = .ok (.iload_n 1, 1) := by decide +kernel
theorem dX7_number_15 : decode cX7_number 15 = .ok (.iconst 2, 1) := by decide +kernel
theorem dX7_number_16 : decode cX7_number 16 = .ok (.iadd, 1) := by decide +kernel
theorem dX7_number_17 : decode cX7_number 17 = .ok (.if_icmp .ge 66, 3) := by decide +kernel
theorem dX7_number_20 : decode cX7_number 20 = .ok (.aload_n 0, 1) := by decide +kernel
theorem dX7_number_21 : decode cX7_number 21 = .ok (.aload_n 0, 1) := by decide +kernel
theorem dX7_number_22 : decode cX7_number 22 = .ok (.getfield 47, 3) := by decide +kernel
theorem dX7_number_25 : decode cX7_number 25 = .ok (.invokevirtual 50, 3) := by decide +kernel
theorem dX7_number_28 : decode cX7_number 28 = .ok (.bipush 48, 2) := by decide +kernel
theorem dX7_number_30 : decode cX7_number 30 = .ok (.if_icmp .lt 53, 3) := by decide +kernel
theorem dX7_number_33 : decode cX7_number 33 = .ok (.aload_n 0, 1) := by decide +kernel
theorem dX7_number_34 : decode cX7_number 34 = .ok (.aload_n 0, 1) := by decide +kernel
theorem dX7_number_35 : decode cX7_number 35 = .ok (.getfield 47, 3) := by decide +kernel
theorem dX7_number_38 : decode cX7_number 38 = .ok (.invokevirtual 50, 3) := by decide +kernel
theorem dX7_number_41 : decode cX7_number 41 = .ok (.bipush 57, 2) := by decide +kernel
theorem dX7_number_43 : decode cX7_number 43 = .ok (.if_icmp .gt 40, 3) := by decide +kernel
theorem dX7_number_46 : decode cX7_number 46 = .ok (.aload_n 0, 1) := by decide +kernel
theorem dX7_number_47 : decode cX7_number 47 = .ok (.bipush 10, 2) := by decide +kernel
theorem dX7_number_49 : decode cX7_number 49 = .ok (.aload_n 0, 1) := by decide +kernel
theorem dX7_number_50 : decode cX7_number 50 = .ok (.getfield 44, 3) := by decide +kernel
theorem dX7_number_53 : decode cX7_number 53 = .ok (.imul, 1) := by decide +kernel
theorem dX7_number_54 : decode cX7_number 54 = .ok (.aload_n 0, 1) := by decide +kernel
theorem dX7_number_55 : decode cX7_number 55 = .ok (.getfield 7, 3) := by decide +kernel
theorem dX7_number_58 : decode cX7_number 58 = .ok (.aload_n 0, 1) := by decide +kernel
theorem dX7_number_59 : decode cX7_number 59 = .ok (.getfield 47, 3) := by decide +kernel
theorem dX7_number_62 : decode cX7_number 62 = .ok (.iaload, 1) := by decide +kernel
theorem dX7_number_63 : decode cX7_number 63 = .ok (.iadd, 1) := by decide +kernel
theorem dX7_number_64 : decode cX7_number 64 = .ok (.bipush 48, 2) := by decide +kernel
theorem dX7_number_66 : decode cX7_number 66 = .ok (.isub, 1) := by decide +kernel
theorem dX7_number_67 : decode cX7_number 67 = .ok (.putfield 44, 3) := by decide +kernel
theorem dX7_number_70 : decode cX7_number 70 = .ok (.aload_n 0, 1) := by decide +kernel
theorem dX7_number_71 : decode cX7_number 71 = .ok (.dup, 1) := by decide +kernel
theorem dX7_number_72 : decode cX7_number 72 = .ok (.getfield 47, 3) := by decide +kernel
theorem dX7_number_75 : decode cX7_number 75 = .ok (.iconst 1, 1) := by decide +kernel
theorem dX7_number_76 : decode cX7_number 76 = .ok (.iadd, 1) := by decide +kernel
theorem dX7_number_77 : decode cX7_number 77 = .ok (.putfield 47, 3) := by decide +kernel
theorem dX7_number_80 : decode cX7_number 80 = .ok (.goto (-70), 3) := by decide +kernel
theorem dX7_number_83 : decode cX7_number 83 = .ok (.aload_n 0, 1) := by decide +kernel
theorem dX7_number_84 : decode cX7_number 84 = .ok (.getfield 47, 3) := by decide +kernel
theorem dX7_number_87 : decode cX7_number 87 = .ok (.iload_n 1, 1) := by decide +kernel
theorem dX7_number_88 : decode cX7_number 88 = .ok (.if_icmp .le 7, 3) := by decide +kernel
theorem dX7_number_91 : decode cX7_number 91 = .ok (.iconst 1, 1) := by decide +kernel
theorem dX7_number_92 : decode cX7_number 92 = .ok (.goto 4, 3) := by decide +kernel
theorem dX7_number_95 : decode cX7_number 95 = .ok (.iconst 0, 1) := by decide +kernel
theorem dX7_number_96 : decode cX7_number 96 = .ok (.ireturn, 1) := by decide +kernel
set_option maxRecDepth 20000 in
theorem ggX7_more_X7_letterAt : GoodIn wsX7_more wsX7_letterAt := goodIn_r _ [6, 7, 8, 14, 15, 16, 17, 18, 19, 20, 21, 22, 23, 24, 25, 26, 27] (by decide +kernel) (by decide +kernel)
set_option maxRecDepth 20000 in
theorem gX7_more_X7_letterAt : GoodIn wsX7_more (wsV RX7 50 RX7 yX7_letterAt wsX7_letterAt) := goodIn_app (goodIn_of _ (by decide +kernel)) ggX7_more_X7_letterAt
set_option maxRecDepth 20000 in
theorem ggX7_more_X7_number : GoodIn wsX7_more wsX7_number := goodIn_r _ [12, 13, 1, 8, 2, 3, 4, 5, 6, 7, 14, 15, 16, 17, 18, 19, 20, 21, 22, 23, 24, 25, 26, 27] (by decide +kernel) (by decide +kernel)
set_option maxRecDepth 20000 in
theorem gX7_more_X7_number : GoodIn wsX7_more (wsV RX7 54 RX7 yX7_number wsX7_number) := goodIn_app (goodIn_of _ (by decide +kernel)) ggX7_more_X7_number
theorem dX7_more_0 : decode cX7_more 0 = .ok (.aload_n 0, 1) := by decide +kernel
theorem dX7_more_1 : decode cX7_more 1 = .ok (.aload_n 0, 1) := by decide +kernel
theorem dX7_more_2 : decode cX7_more 2 = .ok (.getfield 47, 3) := by decide +kernel
theorem dX7_more_5 : decode cX7_more 5 = .ok (.invokevirtual 50, 3) := by decide +kernel
theorem dX7_more_8 : decode cX7_more 8 = .ok (.bipush 44, 2) := by decide +kernel
theorem dX7_more_10 : decode cX7_more 10 = .ok (.if_icmp .ne 20, 3) := by decide +kernel
theorem dX7_more_13 : decode cX7_more 13 = .ok (.aload_n 0, 1) := by decide +kernel
theorem dX7_more_14 : decode cX7_more 14 = .ok (.aload_n 0, 1) := by decide +kernel
theorem dX7_more_15 : decode cX7_more 15 = .ok (.getfield 47, 3) := by decide +kernel
theorem dX7_more_18 : decode cX7_more 18 = .ok (.iconst 1, 1) := by decide +kernel
theorem dX7_more_19 : decode cX7_more 19 = .ok (.iadd, 1) := by decide +kernel
theorem dX7_more_20 : decode cX7_more 20 = .ok (.invokevirtual 54, 3) := by decide +kernel
theorem dX7_more_23 : decode cX7_more 23 = .ok (.ifCond .eq 7, 3) := by decide +kernel
theorem dX7_more_26 : decode cX7_more 26 = .ok (.iconst 1, 1) := by decide +kernel
theorem dX7_more_27 : decode cX7_more 27 = .ok (.goto 4, 3) := by decide +kernel
theorem dX7_more_30 : decode cX7_more 30 = .ok (.iconst 0, 1) := by decide +kernel
theorem dX7_more_31 : decode cX7_more 31 = .ok (.ireturn, 1) := by decide +kernel
set_option maxRecDepth 20000 in
theorem ggX7_readsGate_X7_number : GoodIn wsX7_readsGate wsX7_number := goodIn_r _ [7, 2, 8, 9, 10, 11, 12, 6, 13, 14, 22, 23, 24, 25, 26, 27, 28, 29, 30, 31, 32, 33, 34, 35] (by decide +kernel) (by decide +kernel)
set_option maxRecDepth 20000 in
theorem gX7_readsGate_X7_number : GoodIn wsX7_readsGate (wsV RX7 54 RX7 yX7_number wsX7_number) := goodIn_app (goodIn_of _ (by decide +kernel)) ggX7_readsGate_X7_number
set_option maxRecDepth 20000 in
theorem ggX7_readsGate_X7_more : GoodIn wsX7_readsGate wsX7_more := goodIn_r _ [18, 8, 10, 11, 12, 6, 13, 14, 9, 3, 4, 5, 7, 2, 22, 23, 24, 25, 26, 27, 28, 29, 30, 31, 32, 33, 34, 35] (by decide +kernel) (by decide +kernel)
set_option maxRecDepth 20000 in
theorem gX7_readsGate_X7_more : GoodIn wsX7_readsGate (wsV RX7 58 RX7 yX7_more wsX7_more) := goodIn_app (goodIn_of _ (by decide +kernel)) ggX7_readsGate_X7_more
set_option maxRecDepth 20000 in
theorem ggX7_readsGate_X7_adds : GoodIn wsX7_readsGate wsX7_adds := goodIn_r _ [21] (by decide +kernel) (by decide +kernel)
set_option maxRecDepth 20000 in
theorem gX7_readsGate_X7_adds : GoodIn wsX7_readsGate (va_wsS RX7 32 yX7_adds wsX7_adds) := goodIn_app (goodIn_of _ (by decide +kernel)) ggX7_readsGate_X7_adds
theorem dX7_readsGate_0 : decode cX7_readsGate 0 = .ok (.aload_n 0, 1) := by decide +kernel
theorem dX7_readsGate_1 : decode cX7_readsGate 1 = .ok (.getfield 16, 3) := by decide +kernel
theorem dX7_readsGate_4 : decode cX7_readsGate 4 = .ok (.iconst 0, 1) := by decide +kernel
theorem dX7_readsGate_5 : decode cX7_readsGate 5 = .ok (.iaload, 1) := by decide +kernel
theorem dX7_readsGate_6 : decode cX7_readsGate 6 = .ok (.aload_n 0, 1) := by decide +kernel
theorem dX7_readsGate_7 : decode cX7_readsGate 7 = .ok (.getfield 16, 3) := by decide +kernel
theorem dX7_readsGate_10 : decode cX7_readsGate 10 = .ok (.iconst 1, 1) := by decide +kernel
theorem dX7_readsGate_11 : decode cX7_readsGate 11 = .ok (.iaload, 1) := by decide +kernel
theorem dX7_readsGate_12 : decode cX7_readsGate 12 = .ok (.iadd, 1) := by decide +kernel
theorem dX7_readsGate_13 : decode cX7_readsGate 13 = .ok (.istore_n 2, 1) := by decide +kernel
theorem dX7_readsGate_14 : decode cX7_readsGate 14 = .ok (.aload_n 0, 1) := by decide +kernel
theorem dX7_readsGate_15 : decode cX7_readsGate 15 = .ok (.getfield 16, 3) := by decide +kernel
theorem dX7_readsGate_18 : decode cX7_readsGate 18 = .ok (.iconst 1, 1) := by decide +kernel
theorem dX7_readsGate_19 : decode cX7_readsGate 19 = .ok (.iaload, 1) := by decide +kernel
theorem dX7_readsGate_20 : decode cX7_readsGate 20 = .ok (.bipush 24, 2) := by decide +kernel
theorem dX7_readsGate_22 : decode cX7_readsGate 22 = .ok (.if_icmp .eq 19, 3) := by decide +kernel
theorem dX7_readsGate_25 : decode cX7_readsGate 25 = .ok (.aload_n 0, 1) := by decide +kernel
theorem dX7_readsGate_26 : decode cX7_readsGate 26 = .ok (.iload_n 1, 1) := by decide +kernel
theorem dX7_readsGate_27 : decode cX7_readsGate 27 = .ok (.invokevirtual 54, 3) := by decide +kernel
theorem dX7_readsGate_30 : decode cX7_readsGate 30 = .ok (.ifCond .eq 11, 3) := by decide +kernel
theorem dX7_readsGate_33 : decode cX7_readsGate 33 = .ok (.aload_n 0, 1) := by decide +kernel
theorem dX7_readsGate_34 : decode cX7_readsGate 34 = .ok (.getfield 44, 3) := by decide +kernel
theorem dX7_readsGate_37 : decode cX7_readsGate 37 = .ok (.iconst 5, 1) := by decide +kernel
theorem dX7_readsGate_38 : decode cX7_readsGate 38 = .ok (.if_icmp .le 5, 3) := by decide +kernel
theorem dX7_readsGate_41 : decode cX7_readsGate 41 = .ok (.iconst 0, 1) := by decide +kernel
theorem dX7_readsGate_42 : decode cX7_readsGate 42 = .ok (.ireturn, 1) := by decide +kernel
theorem dX7_readsGate_43 : decode cX7_readsGate 43 = .ok (.aload_n 0, 1) := by decide +kernel
theorem dX7_readsGate_44 : decode cX7_readsGate 44 = .ok (.getfield 44, 3) := by decide +kernel
theorem dX7_readsGate_47 : decode cX7_readsGate 47 = .ok (.istore_n 3, 1) := by decide +kernel
theorem dX7_readsGate_48 : decode cX7_readsGate 48 = .ok (.aload_n 0, 1) := by decide +kernel
theorem dX7_readsGate_49 : decode cX7_readsGate 49 = .ok (.invokevirtual 58, 3) := by decide +kernel
theorem dX7_readsGate_52 : decode cX7_readsGate 52 = .ok (.ifCond .eq 11, 3) := by decide +kernel
theorem dX7_readsGate_55 : decode cX7_readsGate 55 = .ok (.aload_n 0, 1) := by decide +kernel
theorem dX7_readsGate_56 : decode cX7_readsGate 56 = .ok (.getfield 44, 3) := by decide +kernel
theorem dX7_readsGate_59 : decode cX7_readsGate 59 = .ok (.iload_n 2, 1) := by decide +kernel
theorem dX7_readsGate_60 : decode cX7_readsGate 60 = .ok (.if_icmp .lt 5, 3) := by decide +kernel
theorem dX7_readsGate_63 : decode cX7_readsGate 63 = .ok (.iconst 0, 1) := by decide +kernel
theorem dX7_readsGate_64 : decode cX7_readsGate 64 = .ok (.ireturn, 1) := by decide +kernel
theorem dX7_readsGate_65 : decode cX7_readsGate 65 = .ok (.aload_n 0, 1) := by decide +kernel
theorem dX7_readsGate_66 : decode cX7_readsGate 66 = .ok (.getfield 44, 3) := by decide +kernel
theorem dX7_readsGate_69 : decode cX7_readsGate 69 = .ok (.istore 4, 2) := by decide +kernel
theorem dX7_readsGate_71 : decode cX7_readsGate 71 = .ok (.aload_n 0, 1) := by decide +kernel
theorem dX7_readsGate_72 : decode cX7_readsGate 72 = .ok (.invokevirtual 58, 3) := by decide +kernel
theorem dX7_readsGate_75 : decode cX7_readsGate 75 = .ok (.ifCond .eq 11, 3) := by decide +kernel
theorem dX7_readsGate_78 : decode cX7_readsGate 78 = .ok (.aload_n 0, 1) := by decide +kernel
theorem dX7_readsGate_79 : decode cX7_readsGate 79 = .ok (.getfield 44, 3) := by decide +kernel
theorem dX7_readsGate_82 : decode cX7_readsGate 82 = .ok (.iload_n 2, 1) := by decide +kernel
theorem dX7_readsGate_83 : decode cX7_readsGate 83 = .ok (.if_icmp .lt 5, 3) := by decide +kernel
theorem dX7_readsGate_86 : decode cX7_readsGate 86 = .ok (.iconst 0, 1) := by decide +kernel
theorem dX7_readsGate_87 : decode cX7_readsGate 87 = .ok (.ireturn, 1) := by decide +kernel
theorem dX7_readsGate_88 : decode cX7_readsGate 88 = .ok (.aload_n 0, 1) := by decide +kernel
theorem dX7_readsGate_89 : decode cX7_readsGate 89 = .ok (.getfield 16, 3) := by decide +kernel
theorem dX7_readsGate_92 : decode cX7_readsGate 92 = .ok (.iload_n 3, 1) := by decide +kernel
theorem dX7_readsGate_93 : decode cX7_readsGate 93 = .ok (.iload 4, 2) := by decide +kernel
theorem dX7_readsGate_95 : decode cX7_readsGate 95 = .ok (.aload_n 0, 1) := by decide +kernel
theorem dX7_readsGate_96 : decode cX7_readsGate 96 = .ok (.getfield 44, 3) := by decide +kernel
theorem dX7_readsGate_99 : decode cX7_readsGate 99 = .ok (.invokestatic 32, 3) := by decide +kernel
theorem dX7_readsGate_102 : decode cX7_readsGate 102 = .ok (.iconst 1, 1) := by decide +kernel
theorem dX7_readsGate_103 : decode cX7_readsGate 103 = .ok (.ireturn, 1) := by decide +kernel
set_option maxRecDepth 20000 in
theorem ggX7_readsPair_X7_number : GoodIn wsX7_readsPair wsX7_number := goodIn_r _ [7, 1, 8, 9, 10, 11, 12, 6, 13, 14, 25, 26, 27, 28, 29, 30, 31, 32, 33, 34, 35, 36, 37, 38] (by decide +kernel) (by decide +kernel)
set_option maxRecDepth 20000 in
theorem gX7_readsPair_X7_number : GoodIn wsX7_readsPair (wsV RX7 54 RX7 yX7_number wsX7_number) := goodIn_app (goodIn_of _ (by decide +kernel)) ggX7_readsPair_X7_number
set_option maxRecDepth 20000 in
theorem ggX7_readsPair_X7_more : GoodIn wsX7_readsPair wsX7_more := goodIn_r _ [18, 8, 10, 11, 12, 6, 13, 14, 9, 3, 4, 5, 7, 1, 25, 26, 27, 28, 29, 30, 31, 32, 33, 34, 35, 36, 37, 38] (by decide +kernel) (by decide +kernel)
set_option maxRecDepth 20000 in
theorem gX7_readsPair_X7_more : GoodIn wsX7_readsPair (wsV RX7 58 RX7 yX7_more wsX7_more) := goodIn_app (goodIn_of _ (by decide +kernel)) ggX7_readsPair_X7_more
set_option maxRecDepth 20000 in
theorem ggX7_readsPair_X7_canBe : GoodIn wsX7_readsPair wsX7_canBe := goodIn_r _ [21, 22, 23, 6, 24] (by decide +kernel) (by decide +kernel)
set_option maxRecDepth 20000 in
theorem gX7_readsPair_X7_canBe : GoodIn wsX7_readsPair (va_wsS RX7 62 yX7_canBe wsX7_canBe) := goodIn_app (goodIn_of _ (by decide +kernel)) ggX7_readsPair_X7_canBe
theorem dX7_readsPair_0 : decode cX7_readsPair 0 = .ok (.aload_n 0, 1) := by decide +kernel
theorem dX7_readsPair_1 : decode cX7_readsPair 1 = .ok (.iload_n 1, 1) := by decide +kernel
theorem dX7_readsPair_2 : decode cX7_readsPair 2 = .ok (.invokevirtual 54, 3) := by decide +kernel
theorem dX7_readsPair_5 : decode cX7_readsPair 5 = .ok (.ifCond .ne 5, 3) := by decide +kernel
theorem dX7_readsPair_8 : decode cX7_readsPair 8 = .ok (.iconst 0, 1) := by decide +kernel
theorem dX7_readsPair_9 : decode cX7_readsPair 9 = .ok (.ireturn, 1) := by decide +kernel
theorem dX7_readsPair_10 : decode cX7_readsPair 10 = .ok (.aload_n 0, 1) := by decide +kernel
theorem dX7_readsPair_11 : decode cX7_readsPair 11 = .ok (.getfield 44, 3) := by decide +kernel
theorem dX7_readsPair_14 : decode cX7_readsPair 14 = .ok (.istore_n 3, 1) := by decide +kernel
theorem dX7_readsPair_15 : decode cX7_readsPair 15 = .ok (.aload_n 0, 1) := by decide +kernel
theorem dX7_readsPair_16 : decode cX7_readsPair 16 = .ok (.invokevirtual 58, 3) := by decide +kernel
theorem dX7_readsPair_19 : decode cX7_readsPair 19 = .ok (.ifCond .ne 5, 3) := by decide +kernel
theorem dX7_readsPair_22 : decode cX7_readsPair 22 = .ok (.iconst 0, 1) := by decide +kernel
theorem dX7_readsPair_23 : decode cX7_readsPair 23 = .ok (.ireturn, 1) := by decide +kernel
theorem dX7_readsPair_24 : decode cX7_readsPair 24 = .ok (.iload_n 2, 1) := by decide +kernel
theorem dX7_readsPair_25 : decode cX7_readsPair 25 = .ok (.ifCond .eq 7, 3) := by decide +kernel
theorem dX7_readsPair_28 : decode cX7_readsPair 28 = .ok (.iconst 4, 1) := by decide +kernel
theorem dX7_readsPair_29 : decode cX7_readsPair 29 = .ok (.goto 4, 3) := by decide +kernel
theorem dX7_readsPair_32 : decode cX7_readsPair 32 = .ok (.iconst 2, 1) := by decide +kernel
theorem dX7_readsPair_33 : decode cX7_readsPair 33 = .ok (.istore 4, 2) := by decide +kernel
theorem dX7_readsPair_35 : decode cX7_readsPair 35 = .ok (.aload_n 0, 1) := by decide +kernel
theorem dX7_readsPair_36 : decode cX7_readsPair 36 = .ok (.getfield 16, 3) := by decide +kernel
theorem dX7_readsPair_39 : decode cX7_readsPair 39 = .ok (.iload 4, 2) := by decide +kernel
theorem dX7_readsPair_41 : decode cX7_readsPair 41 = .ok (.iload_n 3, 1) := by decide +kernel
theorem dX7_readsPair_42 : decode cX7_readsPair 42 = .ok (.iastore, 1) := by decide +kernel
theorem dX7_readsPair_43 : decode cX7_readsPair 43 = .ok (.aload_n 0, 1) := by decide +kernel
theorem dX7_readsPair_44 : decode cX7_readsPair 44 = .ok (.getfield 16, 3) := by decide +kernel
theorem dX7_readsPair_47 : decode cX7_readsPair 47 = .ok (.iload 4, 2) := by decide +kernel
theorem dX7_readsPair_49 : decode cX7_readsPair 49 = .ok (.iconst 1, 1) := by decide +kernel
theorem dX7_readsPair_50 : decode cX7_readsPair 50 = .ok (.iadd, 1) := by decide +kernel
theorem dX7_readsPair_51 : decode cX7_readsPair 51 = .ok (.aload_n 0, 1) := by decide +kernel
theorem dX7_readsPair_52 : decode cX7_readsPair 52 = .ok (.getfield 44, 3) := by decide +kernel
theorem dX7_readsPair_55 : decode cX7_readsPair 55 = .ok (.iastore, 1) := by decide +kernel
theorem dX7_readsPair_56 : decode cX7_readsPair 56 = .ok (.aload_n 0, 1) := by decide +kernel
theorem dX7_readsPair_57 : decode cX7_readsPair 57 = .ok (.getfield 16, 3) := by decide +kernel
theorem dX7_readsPair_60 : decode cX7_readsPair 60 = .ok (.iconst 0, 1) := by decide +kernel
theorem dX7_readsPair_61 : decode cX7_readsPair 61 = .ok (.iaload, 1) := by decide +kernel
theorem dX7_readsPair_62 : decode cX7_readsPair 62 = .ok (.aload_n 0, 1) := by decide +kernel
theorem dX7_readsPair_63 : decode cX7_readsPair 63 = .ok (.getfield 16, 3) := by decide +kernel
theorem dX7_readsPair_66 : decode cX7_readsPair 66 = .ok (.iconst 1, 1) := by decide +kernel
theorem dX7_readsPair_67 : decode cX7_readsPair 67 = .ok (.iaload, 1) := by decide +kernel
theorem dX7_readsPair_68 : decode cX7_readsPair 68 = .ok (.iadd, 1) := by decide +kernel
theorem dX7_readsPair_69 : decode cX7_readsPair 69 = .ok (.istore 5, 2) := by decide +kernel
theorem dX7_readsPair_71 : decode cX7_readsPair 71 = .ok (.iload_n 2, 1) := by decide +kernel
theorem dX7_readsPair_72 : decode cX7_readsPair 72 = .ok (.ifCond .eq 20, 3) := by decide +kernel
theorem dX7_readsPair_75 : decode cX7_readsPair 75 = .ok (.aload_n 0, 1) := by decide +kernel
theorem dX7_readsPair_76 : decode cX7_readsPair 76 = .ok (.getfield 16, 3) := by decide +kernel
theorem dX7_readsPair_79 : decode cX7_readsPair 79 = .ok (.iconst 0, 1) := by decide +kernel
theorem dX7_readsPair_80 : decode cX7_readsPair 80 = .ok (.iaload, 1) := by decide +kernel
theorem dX7_readsPair_81 : decode cX7_readsPair 81 = .ok (.iload_n 3, 1) := by decide +kernel
theorem dX7_readsPair_82 : decode cX7_readsPair 82 = .ok (.aload_n 0, 1) := by decide +kernel
theorem dX7_readsPair_83 : decode cX7_readsPair 83 = .ok (.getfield 44, 3) := by decide +kernel
theorem dX7_readsPair_86 : decode cX7_readsPair 86 = .ok (.invokestatic 62, 3) := by decide +kernel
theorem dX7_readsPair_89 : decode cX7_readsPair 89 = .ok (.goto 23, 3) := by decide +kernel
theorem dX7_readsPair_92 : decode cX7_readsPair 92 = .ok (.iload_n 3, 1) := by decide +kernel
theorem dX7_readsPair_93 : decode cX7_readsPair 93 = .ok (.iload 5, 2) := by decide +kernel
theorem dX7_readsPair_95 : decode cX7_readsPair 95 = .ok (.if_icmp .ge 16, 3) := by decide +kernel
theorem dX7_readsPair_98 : decode cX7_readsPair 98 = .ok (.aload_n 0, 1) := by decide +kernel
theorem dX7_readsPair_99 : decode cX7_readsPair 99 = .ok (.getfield 44, 3) := by decide +kernel
theorem dX7_readsPair_102 : decode cX7_readsPair 102 = .ok (.iload 5, 2) := by decide +kernel
theorem dX7_readsPair_104 : decode cX7_readsPair 104 = .ok (.if_icmp .ge 7, 3) := by decide +kernel
theorem dX7_readsPair_107 : decode cX7_readsPair 107 = .ok (.iconst 1, 1) := by decide +kernel
theorem dX7_readsPair_108 : decode cX7_readsPair 108 = .ok (.goto 4, 3) := by decide +kernel
theorem dX7_readsPair_111 : decode cX7_readsPair 111 = .ok (.iconst 0, 1) := by decide +kernel
theorem dX7_readsPair_112 : decode cX7_readsPair 112 = .ok (.ireturn, 1) := by decide +kernel
set_option maxRecDepth 20000 in
theorem ggX7_readsItem_X7_number : GoodIn wsX7_readsItem wsX7_number := goodIn_r _ [7, 1, 8, 9, 10, 11, 12, 6, 13, 14, 36, 37, 38, 39, 40, 41, 42, 43, 44, 45, 46, 47, 48, 49] (by decide +kernel) (by decide +kernel)
set_option maxRecDepth 20000 in
theorem gX7_readsItem_X7_number : GoodIn wsX7_readsItem (wsV RX7 54 RX7 yX7_number wsX7_number) := goodIn_app (goodIn_of _ (by decide +kernel)) ggX7_readsItem_X7_number
set_option maxRecDepth 20000 in
theorem ggX7_readsItem_X7_isIn : GoodIn wsX7_readsItem wsX7_isIn := goodIn_r _ [17] (by decide +kernel) (by decide +kernel)
set_option maxRecDepth 20000 in
theorem gX7_readsItem_X7_isIn : GoodIn wsX7_readsItem (va_wsS RX7 36 yX7_isIn wsX7_isIn) := goodIn_app (goodIn_of _ (by decide +kernel)) ggX7_readsItem_X7_isIn
set_option maxRecDepth 20000 in
theorem ggX7_readsItem_X7_readsGate : GoodIn wsX7_readsItem wsX7_readsGate := goodIn_r _ [21, 2, 1, 3, 4, 5, 6, 7, 8, 9, 10, 11, 12, 13, 14, 22, 23, 24, 25, 26, 27, 28, 36, 37, 38, 39, 40, 41, 42, 43, 44, 45, 46, 47, 48, 49] (by decide +kernel) (by decide +kernel)
set_option maxRecDepth 20000 in
theorem gX7_readsItem_X7_readsGate : GoodIn wsX7_readsItem (wsV RX7 65 RX7 yX7_readsGate wsX7_readsGate) := goodIn_app (goodIn_of _ (by decide +kernel)) ggX7_readsItem_X7_readsGate
set_option maxRecDepth 20000 in
theorem ggX7_readsItem_X7_readsPair : GoodIn wsX7_readsItem wsX7_readsPair := goodIn_r _ [32, 1, 2, 3, 4, 5, 6, 7, 8, 9, 10, 11, 12, 13, 14, 22, 23, 24, 25, 33, 34, 35, 15, 16, 17, 36, 37, 38, 39, 40, 41, 42, 43, 44, 45, 46, 47, 48, 49] (by decide +kernel) (by decide +kernel)
set_option maxRecDepth 20000 in
theorem gX7_readsItem_X7_readsPair : GoodIn wsX7_readsItem (wsV RX7 68 RX7 yX7_readsPair wsX7_readsPair) := goodIn_app (goodIn_of _ (by decide +kernel)) ggX7_readsItem_X7_readsPair
theorem dX7_readsItem_0 : decode cX7_readsItem 0 = .ok (.iload_n 1, 1) := by decide +kernel
theorem dX7_readsItem_1 : decode cX7_readsItem 1 = .ok (.bipush 110, 2) := by decide +kernel
theorem dX7_readsItem_3 : decode cX7_readsItem 3 = .ok (.if_icmp .ne 47, 3) := by decide +kernel
theorem dX7_readsItem_6 : decode cX7_readsItem 6 = .ok (.iload_n 2, 1) := by decide +kernel
theorem dX7_readsItem_7 : decode cX7_readsItem 7 = .ok (.iconst 1, 1) := by decide +kernel
theorem dX7_readsItem_8 : decode cX7_readsItem 8 = .ok (.if_icmp .ne 28, 3) := by decide +kernel
theorem dX7_readsItem_11 : decode cX7_readsItem 11 = .ok (.aload_n 0, 1) := by decide +kernel
theorem dX7_readsItem_12 : decode cX7_readsItem 12 = .ok (.iload_n 2, 1) := by decide +kernel
theorem dX7_readsItem_13 : decode cX7_readsItem 13 = .ok (.invokevirtual 54, 3) := by decide +kernel
theorem dX7_readsItem_16 : decode cX7_readsItem 16 = .ok (.ifCond .eq 20, 3) := by decide +kernel
theorem dX7_readsItem_19 : decode cX7_readsItem 19 = .ok (.aload_n 0, 1) := by decide +kernel
theorem dX7_readsItem_20 : decode cX7_readsItem 20 = .ok (.getfield 44, 3) := by decide +kernel
theorem dX7_readsItem_23 : decode cX7_readsItem 23 = .ok (.iconst 1, 1) := by decide +kernel
theorem dX7_readsItem_24 : decode cX7_readsItem 24 = .ok (.bipush 8, 2) := by decide +kernel
theorem dX7_readsItem_26 : decode cX7_readsItem 26 = .ok (.invokestatic 36, 3) := by decide +kernel
theorem dX7_readsItem_29 : decode cX7_readsItem 29 = .ok (.ifCond .eq 7, 3) := by decide +kernel
theorem dX7_readsItem_32 : decode cX7_readsItem 32 = .ok (.iconst 1, 1) := by decide +kernel
theorem dX7_readsItem_33 : decode cX7_readsItem 33 = .ok (.goto 4, 3) := by decide +kernel
theorem dX7_readsItem_36 : decode cX7_readsItem 36 = .ok (.iconst 0, 1) := by decide +kernel
theorem dX7_readsItem_37 : decode cX7_readsItem 37 = .ok (.istore_n 3, 1) := by decide +kernel
theorem dX7_readsItem_38 : decode cX7_readsItem 38 = .ok (.aload_n 0, 1) := by decide +kernel
theorem dX7_readsItem_39 : decode cX7_readsItem 39 = .ok (.getfield 16, 3) := by decide +kernel
theorem dX7_readsItem_42 : decode cX7_readsItem 42 = .ok (.iconst 0, 1) := by decide +kernel
theorem dX7_readsItem_43 : decode cX7_readsItem 43 = .ok (.aload_n 0, 1) := by decide +kernel
theorem dX7_readsItem_44 : decode cX7_readsItem 44 = .ok (.getfield 44, 3) := by decide +kernel
theorem dX7_readsItem_47 : decode cX7_readsItem 47 = .ok (.iastore, 1) := by decide +kernel
theorem dX7_readsItem_48 : decode cX7_readsItem 48 = .ok (.iload_n 3, 1) := by decide +kernel
theorem dX7_readsItem_49 : decode cX7_readsItem 49 = .ok (.ireturn, 1) := by decide +kernel
theorem dX7_readsItem_50 : decode cX7_readsItem 50 = .ok (.aload_n 0, 1) := by decide +kernel
theorem dX7_readsItem_51 : decode cX7_readsItem 51 = .ok (.getfield 16, 3) := by decide +kernel
theorem dX7_readsItem_54 : decode cX7_readsItem 54 = .ok (.iconst 0, 1) := by decide +kernel
theorem dX7_readsItem_55 : decode cX7_readsItem 55 = .ok (.iaload, 1) := by decide +kernel
theorem dX7_readsItem_56 : decode cX7_readsItem 56 = .ok (.ifCond .ne 5, 3) := by decide +kernel
theorem dX7_readsItem_59 : decode cX7_readsItem 59 = .ok (.iconst 0, 1) := by decide +kernel
theorem dX7_readsItem_60 : decode cX7_readsItem 60 = .ok (.ireturn, 1) := by decide +kernel
theorem dX7_readsItem_61 : decode cX7_readsItem 61 = .ok (.iload_n 1, 1) := by decide +kernel
theorem dX7_readsItem_62 : decode cX7_readsItem 62 = .ok (.bipush 103, 2) := by decide +kernel
theorem dX7_readsItem_64 : decode cX7_readsItem 64 = .ok (.if_icmp .ne 11, 3) := by decide +kernel
theorem dX7_readsItem_67 : decode cX7_readsItem 67 = .ok (.aload_n 0, 1) := by decide +kernel
theorem dX7_readsItem_68 : decode cX7_readsItem 68 = .ok (.iload_n 2, 1) := by decide +kernel
theorem dX7_readsItem_69 : decode cX7_readsItem 69 = .ok (.invokevirtual 65, 3) := by decide +kernel
theorem dX7_readsItem_72 : decode cX7_readsItem 72 = .ok (.goto 39, 3) := by decide +kernel
theorem dX7_readsItem_75 : decode cX7_readsItem 75 = .ok (.iload_n 1, 1) := by decide +kernel
theorem dX7_readsItem_76 : decode cX7_readsItem 76 = .ok (.bipush 111, 2) := by decide +kernel
theorem dX7_readsItem_78 : decode cX7_readsItem 78 = .ok (.if_icmp .eq 9, 3) := by decide +kernel
theorem dX7_readsItem_81 : decode cX7_readsItem 81 = .ok (.iload_n 1, 1) := by decide +kernel
theorem dX7_readsItem_82 : decode cX7_readsItem 82 = .ok (.bipush 99, 2) := by decide +kernel
theorem dX7_readsItem_84 : decode cX7_readsItem 84 = .ok (.if_icmp .ne 26, 3) := by decide +kernel
theorem dX7_readsItem_87 : decode cX7_readsItem 87 = .ok (.aload_n 0, 1) := by decide +kernel
theorem dX7_readsItem_88 : decode cX7_readsItem 88 = .ok (.iload_n 2, 1) := by decide +kernel
theorem dX7_readsItem_89 : decode cX7_readsItem 89 = .ok (.iload_n 1, 1) := by decide +kernel
theorem dX7_readsItem_90 : decode cX7_readsItem 90 = .ok (.bipush 99, 2) := by decide +kernel
theorem dX7_readsItem_92 : decode cX7_readsItem 92 = .ok (.if_icmp .ne 7, 3) := by decide +kernel
theorem dX7_readsItem_95 : decode cX7_readsItem 95 = .ok (.iconst 1, 1) := by decide +kernel
theorem dX7_readsItem_96 : decode cX7_readsItem 96 = .ok (.goto 4, 3) := by decide +kernel
theorem dX7_readsItem_99 : decode cX7_readsItem 99 = .ok (.iconst 0, 1) := by decide +kernel
theorem dX7_readsItem_100 : decode cX7_readsItem 100 = .ok (.invokevirtual 68, 3) := by decide +kernel
theorem dX7_readsItem_103 : decode cX7_readsItem 103 = .ok (.ifCond .eq 7, 3) := by decide +kernel
theorem dX7_readsItem_106 : decode cX7_readsItem 106 = .ok (.iconst 1, 1) := by decide +kernel
theorem dX7_readsItem_107 : decode cX7_readsItem 107 = .ok (.goto 4, 3) := by decide +kernel
theorem dX7_readsItem_110 : decode cX7_readsItem 110 = .ok (.iconst 0, 1) := by decide +kernel
theorem dX7_readsItem_111 : decode cX7_readsItem 111 = .ok (.ireturn, 1) := by decide +kernel
set_option maxRecDepth 20000 in
theorem ggX7_reads_X7_readsItem : GoodIn wsX7_reads wsX7_readsItem := goodIn_r _ [9, 10, 1, 11, 12, 13, 8, 14, 4, 3, 15, 16, 17, 18, 2, 19, 20, 21, 22, 23, 24, 25, 26, 27, 28, 29, 30, 31, 32, 33, 34, 35, 36, 37, 38, 39, 40, 41, 42, 43, 44, 45, 46, 47, 48, 49, 50, 51, 52, 53] (by decide +kernel) (by decide +kernel)
set_option maxRecDepth 20000 in
theorem gX7_reads_X7_readsItem : GoodIn wsX7_reads (wsV RX7 72 RX7 yX7_readsItem wsX7_readsItem) := goodIn_app (goodIn_of _ (by decide +kernel)) ggX7_reads_X7_readsItem
set_option maxRecDepth 20000 in
theorem ggX7_reads_X7_letterAt : GoodIn wsX7_reads wsX7_letterAt := goodIn_r _ [18, 2, 3, 40, 41, 42, 43, 44, 45, 46, 47, 48, 49, 50, 51, 52, 53] (by decide +kernel) (by decide +kernel)
set_option maxRecDepth 20000 in
theorem gX7_reads_X7_letterAt : GoodIn wsX7_reads (wsV RX7 50 RX7 yX7_letterAt wsX7_letterAt) := goodIn_app (goodIn_of _ (by decide +kernel)) ggX7_reads_X7_letterAt
theorem dX7_reads_0 : decode cX7_reads 0 = .ok (.iconst 0, 1) := by decide +kernel
theorem dX7_reads_1 : decode cX7_reads 1 = .ok (.istore_n 1, 1) := by decide +kernel
theorem dX7_reads_2 : decode cX7_reads 2 = .ok (.iload_n 1, 1) := by decide +kernel
theorem dX7_reads_3 : decode cX7_reads 3 = .ok (.bipush 78, 2) := by decide +kernel
theorem dX7_reads_5 : decode cX7_reads 5 = .ok (.if_icmp .ge 16, 3) := by decide +kernel
theorem dX7_reads_8 : decode cX7_reads 8 = .ok (.aload_n 0, 1) := by decide +kernel
theorem dX7_reads_9 : decode cX7_reads 9 = .ok (.getfield 16, 3) := by decide +kernel
theorem dX7_reads_12 : decode cX7_reads 12 = .ok (.iload_n 1, 1) := by decide +kernel
theorem dX7_reads_13 : decode cX7_reads 13 = .ok (.iconst 0, 1) := by decide +kernel
theorem dX7_reads_14 : decode cX7_reads 14 = .ok (.iastore, 1) := by decide +kernel
theorem dX7_reads_15 : decode cX7_reads 15 = .ok (.iinc 1 1, 3) := by decide +kernel
theorem dX7_reads_18 : decode cX7_reads 18 = .ok (.goto (-16), 3) := by decide +kernel
theorem dX7_reads_21 : decode cX7_reads 21 = .ok (.iconst 0, 1) := by decide +kernel
theorem dX7_reads_22 : decode cX7_reads 22 = .ok (.istore_n 1, 1) := by decide +kernel
theorem dX7_reads_23 : decode cX7_reads 23 = .ok (.iload_n 1, 1) := by decide +kernel
theorem dX7_reads_24 : decode cX7_reads 24 = .ok (.aload_n 0, 1) := by decide +kernel
theorem dX7_reads_25 : decode cX7_reads 25 = .ok (.getfield 40, 3) := by decide +kernel
theorem dX7_reads_28 : decode cX7_reads 28 = .ok (.if_icmp .ge 44, 3) := by decide +kernel
theorem dX7_reads_31 : decode cX7_reads 31 = .ok (.aload_n 0, 1) := by decide +kernel
theorem dX7_reads_32 : decode cX7_reads 32 = .ok (.aload_n 0, 1) := by decide +kernel
theorem dX7_reads_33 : decode cX7_reads 33 = .ok (.getfield 7, 3) := by decide +kernel
theorem dX7_reads_36 : decode cX7_reads 36 = .ok (.iload_n 1, 1) := by decide +kernel
theorem dX7_reads_37 : decode cX7_reads 37 = .ok (.iaload, 1) := by decide +kernel
theorem dX7_reads_38 : decode cX7_reads 38 = .ok (.iload_n 1, 1) := by decide +kernel
theorem dX7_reads_39 : decode cX7_reads 39 = .ok (.iconst 1, 1) := by decide +kernel
theorem dX7_reads_40 : decode cX7_reads 40 = .ok (.iadd, 1) := by decide +kernel
theorem dX7_reads_41 : decode cX7_reads 41 = .ok (.invokevirtual 72, 3) := by decide +kernel
theorem dX7_reads_44 : decode cX7_reads 44 = .ok (.ifCond .eq 16, 3) := by decide +kernel
theorem dX7_reads_47 : decode cX7_reads 47 = .ok (.aload_n 0, 1) := by decide +kernel
theorem dX7_reads_48 : decode cX7_reads 48 = .ok (.aload_n 0, 1) := by decide +kernel
theorem dX7_reads_49 : decode cX7_reads 49 = .ok (.getfield 47, 3) := by decide +kernel
theorem dX7_reads_52 : decode cX7_reads 52 = .ok (.invokevirtual 50, 3) := by decide +kernel
theorem dX7_reads_55 : decode cX7_reads 55 = .ok (.bipush 59, 2) := by decide +kernel
theorem dX7_reads_57 : decode cX7_reads 57 = .ok (.if_icmp .eq 5, 3) := by decide +kernel
theorem dX7_reads_60 : decode cX7_reads 60 = .ok (.iload_n 1, 1) := by decide +kernel
theorem dX7_reads_61 : decode cX7_reads 61 = .ok (.ireturn, 1) := by decide +kernel
theorem dX7_reads_62 : decode cX7_reads 62 = .ok (.aload_n 0, 1) := by decide +kernel
theorem dX7_reads_63 : decode cX7_reads 63 = .ok (.getfield 47, 3) := by decide +kernel
theorem dX7_reads_66 : decode cX7_reads 66 = .ok (.iconst 1, 1) := by decide +kernel
theorem dX7_reads_67 : decode cX7_reads 67 = .ok (.iadd, 1) := by decide +kernel
theorem dX7_reads_68 : decode cX7_reads 68 = .ok (.istore_n 1, 1) := by decide +kernel
theorem dX7_reads_69 : decode cX7_reads 69 = .ok (.goto (-46), 3) := by decide +kernel
theorem dX7_reads_72 : decode cX7_reads 72 = .ok (.bipush (-4), 2) := by decide +kernel
theorem dX7_reads_74 : decode cX7_reads 74 = .ok (.ireturn, 1) := by decide +kernel
theorem dX7_write_0 : decode cX7_write 0 = .ok (.iload_n 1, 1) := by decide +kernel
theorem dX7_write_1 : decode cX7_write 1 = .ok (.bipush 32, 2) := by decide +kernel
theorem dX7_write_3 : decode cX7_write 3 = .ok (.if_icmp .lt 9, 3) := by decide +kernel
theorem dX7_write_6 : decode cX7_write 6 = .ok (.iload_n 1, 1) := by decide +kernel
theorem dX7_write_7 : decode cX7_write 7 = .ok (.bipush 126, 2) := by decide +kernel
theorem dX7_write_9 : decode cX7_write 9 = .ok (.if_icmp .le 5, 3) := by decide +kernel
theorem dX7_write_12 : decode cX7_write 12 = .ok (.iconst (-1), 1) := by decide +kernel
theorem dX7_write_13 : decode cX7_write 13 = .ok (.ireturn, 1) := by decide +kernel
theorem dX7_write_14 : decode cX7_write 14 = .ok (.aload_n 0, 1) := by decide +kernel
theorem dX7_write_15 : decode cX7_write 15 = .ok (.getfield 40, 3) := by decide +kernel
theorem dX7_write_18 : decode cX7_write 18 = .ok (.sipush 200, 3) := by decide +kernel
theorem dX7_write_21 : decode cX7_write 21 = .ok (.if_icmp .ne 6, 3) := by decide +kernel
theorem dX7_write_24 : decode cX7_write 24 = .ok (.bipush (-3), 2) := by decide +kernel
theorem dX7_write_26 : decode cX7_write 26 = .ok (.ireturn, 1) := by decide +kernel
theorem dX7_write_27 : decode cX7_write 27 = .ok (.aload_n 0, 1) := by decide +kernel
theorem dX7_write_28 : decode cX7_write 28 = .ok (.getfield 7, 3) := by decide +kernel
theorem dX7_write_31 : decode cX7_write 31 = .ok (.aload_n 0, 1) := by decide +kernel
theorem dX7_write_32 : decode cX7_write 32 = .ok (.getfield 40, 3) := by decide +kernel
theorem dX7_write_35 : decode cX7_write 35 = .ok (.iload_n 1, 1) := by decide +kernel
theorem dX7_write_36 : decode cX7_write 36 = .ok (.iastore, 1) := by decide +kernel
theorem dX7_write_37 : decode cX7_write 37 = .ok (.aload_n 0, 1) := by decide +kernel
theorem dX7_write_38 : decode cX7_write 38 = .ok (.dup, 1) := by decide +kernel
theorem dX7_write_39 : decode cX7_write 39 = .ok (.getfield 40, 3) := by decide +kernel
theorem dX7_write_42 : decode cX7_write 42 = .ok (.iconst 1, 1) := by decide +kernel
theorem dX7_write_43 : decode cX7_write 43 = .ok (.iadd, 1) := by decide +kernel
theorem dX7_write_44 : decode cX7_write 44 = .ok (.putfield 40, 3) := by decide +kernel
theorem dX7_write_47 : decode cX7_write 47 = .ok (.aload_n 0, 1) := by decide +kernel
theorem dX7_write_48 : decode cX7_write 48 = .ok (.getfield 40, 3) := by decide +kernel
theorem dX7_write_51 : decode cX7_write 51 = .ok (.ireturn, 1) := by decide +kernel
theorem dX7_wipe_0 : decode cX7_wipe 0 = .ok (.aload_n 0, 1) := by decide +kernel
theorem dX7_wipe_1 : decode cX7_wipe 1 = .ok (.getfield 40, 3) := by decide +kernel
theorem dX7_wipe_4 : decode cX7_wipe 4 = .ok (.istore_n 1, 1) := by decide +kernel
theorem dX7_wipe_5 : decode cX7_wipe 5 = .ok (.aload_n 0, 1) := by decide +kernel
theorem dX7_wipe_6 : decode cX7_wipe 6 = .ok (.iconst 0, 1) := by decide +kernel
theorem dX7_wipe_7 : decode cX7_wipe 7 = .ok (.putfield 40, 3) := by decide +kernel
theorem dX7_wipe_10 : decode cX7_wipe 10 = .ok (.iload_n 1, 1) := by decide +kernel
theorem dX7_wipe_11 : decode cX7_wipe 11 = .ok (.ireturn, 1) := by decide +kernel
set_option maxRecDepth 20000 in
theorem ggX7_fault_X7_reads : GoodIn wsX7_fault wsX7_reads := goodIn_r _ [5, 6, 7, 8, 9, 10, 11, 12, 4, 13, 14, 15, 16, 17, 18, 19, 20, 21, 22, 23, 24, 25, 26, 27, 28, 29, 30, 31, 32, 33, 34, 35, 36, 37, 38, 39, 40, 41, 42, 43, 44, 45, 46, 47, 48, 49, 50, 51, 52, 53, 54, 55, 56, 57] (by decide +kernel) (by decide +kernel)
set_option maxRecDepth 20000 in
theorem gX7_fault_X7_reads : GoodIn wsX7_fault (wsV RX7 76 RX7 yX7_reads wsX7_reads) := goodIn_app (goodIn_of _ (by decide +kernel)) ggX7_fault_X7_reads
theorem dX7_fault_0 : decode cX7_fault 0 = .ok (.aload_n 0, 1) := by decide +kernel
theorem dX7_fault_1 : decode cX7_fault 1 = .ok (.invokevirtual 76, 3) := by decide +kernel
theorem dX7_fault_4 : decode cX7_fault 4 = .ok (.ireturn, 1) := by decide +kernel
set_option maxRecDepth 20000 in
theorem ggX7_lay_X7_reads : GoodIn wsX7_lay wsX7_reads := goodIn_r _ [8, 1, 9, 10, 11, 12, 13, 14, 7, 15, 16, 17, 18, 19, 20, 21, 22, 23, 24, 25, 26, 27, 28, 29, 30, 31, 32, 33, 34, 35, 36, 37, 38, 39, 40, 41, 42, 43, 44, 45, 50, 51, 52, 53, 54, 55, 56, 57, 58, 59, 60, 61, 62, 63] (by decide +kernel) (by decide +kernel)
set_option maxRecDepth 20000 in
theorem gX7_lay_X7_reads : GoodIn wsX7_lay (wsV RX7 76 RX7 yX7_reads wsX7_reads) := goodIn_app (goodIn_of _ (by decide +kernel)) ggX7_lay_X7_reads
set_option maxRecDepth 20000 in
theorem ggX7_lay_X7_wires : GoodIn wsX7_lay wsX7_wires := goodIn_r _ [49, 2, 50, 51, 52, 53, 54, 55, 56, 57, 58, 59, 60, 61, 62, 63] (by decide +kernel) (by decide +kernel)
set_option maxRecDepth 20000 in
theorem gX7_lay_X7_wires : GoodIn wsX7_lay (wsV RX7 83 RX7 yX7_wires wsX7_wires) := goodIn_app (goodIn_of _ (by decide +kernel)) ggX7_lay_X7_wires
theorem dX7_lay_0 : decode cX7_lay 0 = .ok (.aload_n 0, 1) := by decide +kernel
theorem dX7_lay_1 : decode cX7_lay 1 = .ok (.invokevirtual 76, 3) := by decide +kernel
theorem dX7_lay_4 : decode cX7_lay 4 = .ok (.bipush (-4), 2) := by decide +kernel
theorem dX7_lay_6 : decode cX7_lay 6 = .ok (.if_icmp .ne 12, 3) := by decide +kernel
theorem dX7_lay_9 : decode cX7_lay 9 = .ok (.aload_n 0, 1) := by decide +kernel
theorem dX7_lay_10 : decode cX7_lay 10 = .ok (.getfield 16, 3) := by decide +kernel
theorem dX7_lay_13 : decode cX7_lay 13 = .ok (.iconst 0, 1) := by decide +kernel
theorem dX7_lay_14 : decode cX7_lay 14 = .ok (.iaload, 1) := by decide +kernel
theorem dX7_lay_15 : decode cX7_lay 15 = .ok (.ifCond .ne 6, 3) := by decide +kernel
theorem dX7_lay_18 : decode cX7_lay 18 = .ok (.bipush (-2), 2) := by decide +kernel
theorem dX7_lay_20 : decode cX7_lay 20 = .ok (.ireturn, 1) := by decide +kernel
theorem dX7_lay_21 : decode cX7_lay 21 = .ok (.iconst 0, 1) := by decide +kernel
theorem dX7_lay_22 : decode cX7_lay 22 = .ok (.istore_n 1, 1) := by decide +kernel
theorem dX7_lay_23 : decode cX7_lay 23 = .ok (.iload_n 1, 1) := by decide +kernel
theorem dX7_lay_24 : decode cX7_lay 24 = .ok (.bipush 78, 2) := by decide +kernel
theorem dX7_lay_26 : decode cX7_lay 26 = .ok (.if_icmp .ge 21, 3) := by decide +kernel
theorem dX7_lay_29 : decode cX7_lay 29 = .ok (.aload_n 0, 1) := by decide +kernel
theorem dX7_lay_30 : decode cX7_lay 30 = .ok (.getfield 13, 3) := by decide +kernel
theorem dX7_lay_33 : decode cX7_lay 33 = .ok (.iload_n 1, 1) := by decide +kernel
theorem dX7_lay_34 : decode cX7_lay 34 = .ok (.aload_n 0, 1) := by decide +kernel
theorem dX7_lay_35 : decode cX7_lay 35 = .ok (.getfield 16, 3) := by decide +kernel
theorem dX7_lay_38 : decode cX7_lay 38 = .ok (.iload_n 1, 1) := by decide +kernel
theorem dX7_lay_39 : decode cX7_lay 39 = .ok (.iaload, 1) := by decide +kernel
theorem dX7_lay_40 : decode cX7_lay 40 = .ok (.iastore, 1) := by decide +kernel
theorem dX7_lay_41 : decode cX7_lay 41 = .ok (.iinc 1 1, 3) := by decide +kernel
theorem dX7_lay_44 : decode cX7_lay 44 = .ok (.goto (-21), 3) := by decide +kernel
theorem dX7_lay_47 : decode cX7_lay 47 = .ok (.aload_n 0, 1) := by decide +kernel
theorem dX7_lay_48 : decode cX7_lay 48 = .ok (.iconst 0, 1) := by decide +kernel
theorem dX7_lay_49 : decode cX7_lay 49 = .ok (.putfield 80, 3) := by decide +kernel
theorem dX7_lay_52 : decode cX7_lay 52 = .ok (.aload_n 0, 1) := by decide +kernel
theorem dX7_lay_53 : decode cX7_lay 53 = .ok (.invokevirtual 83, 3) := by decide +kernel
theorem dX7_lay_56 : decode cX7_lay 56 = .ok (.ireturn, 1) := by decide +kernel
theorem dX7_wires_0 : decode cX7_wires 0 = .ok (.aload_n 0, 1) := by decide +kernel
theorem dX7_wires_1 : decode cX7_wires 1 = .ok (.getfield 13, 3) := by decide +kernel
theorem dX7_wires_4 : decode cX7_wires 4 = .ok (.iconst 0, 1) := by decide +kernel
theorem dX7_wires_5 : decode cX7_wires 5 = .ok (.iaload, 1) := by decide +kernel
theorem dX7_wires_6 : decode cX7_wires 6 = .ok (.aload_n 0, 1) := by decide +kernel
theorem dX7_wires_7 : decode cX7_wires 7 = .ok (.getfield 13, 3) := by decide +kernel
theorem dX7_wires_10 : decode cX7_wires 10 = .ok (.iconst 1, 1) := by decide +kernel
theorem dX7_wires_11 : decode cX7_wires 11 = .ok (.iaload, 1) := by decide +kernel
theorem dX7_wires_12 : decode cX7_wires 12 = .ok (.iadd, 1) := by decide +kernel
theorem dX7_wires_13 : decode cX7_wires 13 = .ok (.ireturn, 1) := by decide +kernel
set_option maxRecDepth 20000 in
theorem ggX7_isWire_X7_wires : GoodIn wsX7_isWire wsX7_wires := goodIn_r _ [5, 6, 10, 11, 12, 13, 14, 15, 16, 17, 18, 19, 20, 21, 22, 23] (by decide +kernel) (by decide +kernel)
set_option maxRecDepth 20000 in
theorem gX7_isWire_X7_wires : GoodIn wsX7_isWire (wsV RX7 83 RX7 yX7_wires wsX7_wires) := goodIn_app (goodIn_of _ (by decide +kernel)) ggX7_isWire_X7_wires
set_option maxRecDepth 20000 in
theorem ggX7_isWire_X7_isIn : GoodIn wsX7_isWire wsX7_isIn := goodIn_r _ [9] (by decide +kernel) (by decide +kernel)
set_option maxRecDepth 20000 in
theorem gX7_isWire_X7_isIn : GoodIn wsX7_isWire (va_wsS RX7 36 yX7_isIn wsX7_isIn) := goodIn_app (goodIn_of _ (by decide +kernel)) ggX7_isWire_X7_isIn
theorem dX7_isWire_0 : decode cX7_isWire 0 = .ok (.iload_n 1, 1) := by decide +kernel
theorem dX7_isWire_1 : decode cX7_isWire 1 = .ok (.iconst 0, 1) := by decide +kernel
theorem dX7_isWire_2 : decode cX7_isWire 2 = .ok (.aload_n 0, 1) := by decide +kernel
theorem dX7_isWire_3 : decode cX7_isWire 3 = .ok (.invokevirtual 83, 3) := by decide +kernel
theorem dX7_isWire_6 : decode cX7_isWire 6 = .ok (.iconst 1, 1) := by decide +kernel
theorem dX7_isWire_7 : decode cX7_isWire 7 = .ok (.isub, 1) := by decide +kernel
theorem dX7_isWire_8 : decode cX7_isWire 8 = .ok (.invokestatic 36, 3) := by decide +kernel
theorem dX7_isWire_11 : decode cX7_isWire 11 = .ok (.ireturn, 1) := by decide +kernel
set_option maxRecDepth 20000 in
theorem ggX7_isGate_X7_isIn : GoodIn wsX7_isGate wsX7_isIn := goodIn_r _ [5] (by decide +kernel) (by decide +kernel)
set_option maxRecDepth 20000 in
theorem gX7_isGate_X7_isIn : GoodIn wsX7_isGate (va_wsS RX7 36 yX7_isIn wsX7_isIn) := goodIn_app (goodIn_of _ (by decide +kernel)) ggX7_isGate_X7_isIn
theorem dX7_isGate_0 : decode cX7_isGate 0 = .ok (.iload_n 1, 1) := by decide +kernel
theorem dX7_isGate_1 : decode cX7_isGate 1 = .ok (.iconst 0, 1) := by decide +kernel
theorem dX7_isGate_2 : decode cX7_isGate 2 = .ok (.aload_n 0, 1) := by decide +kernel
theorem dX7_isGate_3 : decode cX7_isGate 3 = .ok (.getfield 13, 3) := by decide +kernel
theorem dX7_isGate_6 : decode cX7_isGate 6 = .ok (.iconst 1, 1) := by decide +kernel
theorem dX7_isGate_7 : decode cX7_isGate 7 = .ok (.iaload, 1) := by decide +kernel
theorem dX7_isGate_8 : decode cX7_isGate 8 = .ok (.iconst 1, 1) := by decide +kernel
theorem dX7_isGate_9 : decode cX7_isGate 9 = .ok (.isub, 1) := by decide +kernel
theorem dX7_isGate_10 : decode cX7_isGate 10 = .ok (.invokestatic 36, 3) := by decide +kernel
theorem dX7_isGate_13 : decode cX7_isGate 13 = .ok (.ireturn, 1) := by decide +kernel
set_option maxRecDepth 20000 in
theorem ggX7_isWord_X7_isIn : GoodIn wsX7_isWord wsX7_isIn := goodIn_r _ [5] (by decide +kernel) (by decide +kernel)
set_option maxRecDepth 20000 in
theorem gX7_isWord_X7_isIn : GoodIn wsX7_isWord (va_wsS RX7 36 yX7_isIn wsX7_isIn) := goodIn_app (goodIn_of _ (by decide +kernel)) ggX7_isWord_X7_isIn
theorem dX7_isWord_0 : decode cX7_isWord 0 = .ok (.iload_n 1, 1) := by decide +kernel
theorem dX7_isWord_1 : decode cX7_isWord 1 = .ok (.iconst 0, 1) := by decide +kernel
theorem dX7_isWord_2 : decode cX7_isWord 2 = .ok (.iconst 1, 1) := by decide +kernel
theorem dX7_isWord_3 : decode cX7_isWord 3 = .ok (.aload_n 0, 1) := by decide +kernel
theorem dX7_isWord_4 : decode cX7_isWord 4 = .ok (.getfield 13, 3) := by decide +kernel
theorem dX7_isWord_7 : decode cX7_isWord 7 = .ok (.iconst 0, 1) := by decide +kernel
theorem dX7_isWord_8 : decode cX7_isWord 8 = .ok (.iaload, 1) := by decide +kernel
theorem dX7_isWord_9 : decode cX7_isWord 9 = .ok (.ishl, 1) := by decide +kernel
theorem dX7_isWord_10 : decode cX7_isWord 10 = .ok (.iconst 1, 1) := by decide +kernel
theorem dX7_isWord_11 : decode cX7_isWord 11 = .ok (.isub, 1) := by decide +kernel
theorem dX7_isWord_12 : decode cX7_isWord 12 = .ok (.invokestatic 36, 3) := by decide +kernel
theorem dX7_isWord_15 : decode cX7_isWord 15 = .ok (.ireturn, 1) := by decide +kernel
set_option maxRecDepth 20000 in
theorem ggX7_isStuck_X7_wires : GoodIn wsX7_isStuck wsX7_wires := goodIn_r _ [5, 6, 10, 11, 12, 13, 14, 15, 16, 17, 18, 19, 20, 21, 22, 23] (by decide +kernel) (by decide +kernel)
set_option maxRecDepth 20000 in
theorem gX7_isStuck_X7_wires : GoodIn wsX7_isStuck (wsV RX7 83 RX7 yX7_wires wsX7_wires) := goodIn_app (goodIn_of _ (by decide +kernel)) ggX7_isStuck_X7_wires
set_option maxRecDepth 20000 in
theorem ggX7_isStuck_X7_isIn : GoodIn wsX7_isStuck wsX7_isIn := goodIn_r _ [9] (by decide +kernel) (by decide +kernel)
set_option maxRecDepth 20000 in
theorem gX7_isStuck_X7_isIn : GoodIn wsX7_isStuck (va_wsS RX7 36 yX7_isIn wsX7_isIn) := goodIn_app (goodIn_of _ (by decide +kernel)) ggX7_isStuck_X7_isIn
theorem dX7_isStuck_0 : decode cX7_isStuck 0 = .ok (.iload_n 1, 1) := by decide +kernel
theorem dX7_isStuck_1 : decode cX7_isStuck 1 = .ok (.iconst 0, 1) := by decide +kernel
theorem dX7_isStuck_2 : decode cX7_isStuck 2 = .ok (.iconst 2, 1) := by decide +kernel
theorem dX7_isStuck_3 : decode cX7_isStuck 3 = .ok (.aload_n 0, 1) := by decide +kernel
theorem dX7_isStuck_4 : decode cX7_isStuck 4 = .ok (.invokevirtual 83, 3) := by decide +kernel
theorem dX7_isStuck_7 : decode cX7_isStuck 7 = .ok (.imul, 1) := by decide +kernel
theorem dX7_isStuck_8 : decode cX7_isStuck 8 = .ok (.iconst 1, 1) := by decide +kernel
theorem dX7_isStuck_9 : decode cX7_isStuck 9 = .ok (.isub, 1) := by decide +kernel
theorem dX7_isStuck_10 : decode cX7_isStuck 10 = .ok (.invokestatic 36, 3) := by decide +kernel
theorem dX7_isStuck_13 : decode cX7_isStuck 13 = .ok (.ireturn, 1) := by decide +kernel
theorem dX7_keeps_0 : decode cX7_keeps 0 = .ok (.aload_n 0, 1) := by decide +kernel
theorem dX7_keeps_1 : decode cX7_keeps 1 = .ok (.getfield 80, 3) := by decide +kernel
theorem dX7_keeps_4 : decode cX7_keeps 4 = .ok (.bipush 6, 2) := by decide +kernel
theorem dX7_keeps_6 : decode cX7_keeps 6 = .ok (.if_icmp .ne 43, 3) := by decide +kernel
theorem dX7_keeps_9 : decode cX7_keeps 9 = .ok (.iconst 0, 1) := by decide +kernel
theorem dX7_keeps_10 : decode cX7_keeps 10 = .ok (.istore_n 1, 1) := by decide +kernel
theorem dX7_keeps_11 : decode cX7_keeps 11 = .ok (.iload_n 1, 1) := by decide +kernel
theorem dX7_keeps_12 : decode cX7_keeps 12 = .ok (.sipush 390, 3) := by decide +kernel
theorem dX7_keeps_15 : decode cX7_keeps 15 = .ok (.if_icmp .ge 24, 3) := by decide +kernel
theorem dX7_keeps_18 : decode cX7_keeps 18 = .ok (.aload_n 0, 1) := by decide +kernel
theorem dX7_keeps_19 : decode cX7_keeps 19 = .ok (.getfield 19, 3) := by decide +kernel
theorem dX7_keeps_22 : decode cX7_keeps 22 = .ok (.iload_n 1, 1) := by decide +kernel
theorem dX7_keeps_23 : decode cX7_keeps 23 = .ok (.aload_n 0, 1) := by decide +kernel
theorem dX7_keeps_24 : decode cX7_keeps 24 = .ok (.getfield 19, 3) := by decide +kernel
theorem dX7_keeps_27 : decode cX7_keeps 27 = .ok (.iload_n 1, 1) := by decide +kernel
theorem dX7_keeps_28 : decode cX7_keeps 28 = .ok (.bipush 78, 2) := by decide +kernel
theorem dX7_keeps_30 : decode cX7_keeps 30 = .ok (.iadd, 1) := by decide +kernel
theorem dX7_keeps_31 : decode cX7_keeps 31 = .ok (.iaload, 1) := by decide +kernel
theorem dX7_keeps_32 : decode cX7_keeps 32 = .ok (.iastore, 1) := by decide +kernel
theorem dX7_keeps_33 : decode cX7_keeps 33 = .ok (.iinc 1 1, 3) := by decide +kernel
theorem dX7_keeps_36 : decode cX7_keeps 36 = .ok (.goto (-25), 3) := by decide +kernel
theorem dX7_keeps_39 : decode cX7_keeps 39 = .ok (.aload_n 0, 1) := by decide +kernel
theorem dX7_keeps_40 : decode cX7_keeps 40 = .ok (.dup, 1) := by decide +kernel
theorem dX7_keeps_41 : decode cX7_keeps 41 = .ok (.getfield 80, 3) := by decide +kernel
theorem dX7_keeps_44 : decode cX7_keeps 44 = .ok (.iconst 1, 1) := by decide +kernel
theorem dX7_keeps_45 : decode cX7_keeps 45 = .ok (.isub, 1) := by decide +kernel
theorem dX7_keeps_46 : decode cX7_keeps 46 = .ok (.putfield 80, 3) := by decide +kernel
theorem dX7_keeps_49 : decode cX7_keeps 49 = .ok (.iconst 0, 1) := by decide +kernel
theorem dX7_keeps_50 : decode cX7_keeps 50 = .ok (.istore_n 1, 1) := by decide +kernel
theorem dX7_keeps_51 : decode cX7_keeps 51 = .ok (.iload_n 1, 1) := by decide +kernel
theorem dX7_keeps_52 : decode cX7_keeps 52 = .ok (.bipush 78, 2) := by decide +kernel
theorem dX7_keeps_54 : decode cX7_keeps 54 = .ok (.if_icmp .ge 29, 3) := by decide +kernel
theorem dX7_keeps_57 : decode cX7_keeps 57 = .ok (.aload_n 0, 1) := by decide +kernel
theorem dX7_keeps_58 : decode cX7_keeps 58 = .ok (.getfield 19, 3) := by decide +kernel
theorem dX7_keeps_61 : decode cX7_keeps 61 = .ok (.bipush 78, 2) := by decide +kernel
theorem dX7_keeps_63 : decode cX7_keeps 63 = .ok (.aload_n 0, 1) := by decide +kernel
theorem dX7_keeps_64 : decode cX7_keeps 64 = .ok (.getfield 80, 3) := by decide +kernel
theorem dX7_keeps_67 : decode cX7_keeps 67 = .ok (.imul, 1) := by decide +kernel
theorem dX7_keeps_68 : decode cX7_keeps 68 = .ok (.iload_n 1, 1) := by decide +kernel
theorem dX7_keeps_69 : decode cX7_keeps 69 = .ok (.iadd, 1) := by decide +kernel
theorem dX7_keeps_70 : decode cX7_keeps 70 = .ok (.aload_n 0, 1) := by decide +kernel
theorem dX7_keeps_71 : decode cX7_keeps 71 = .ok (.getfield 13, 3) := by decide +kernel
theorem dX7_keeps_74 : decode cX7_keeps 74 = .ok (.iload_n 1, 1) := by decide +kernel
theorem dX7_keeps_75 : decode cX7_keeps 75 = .ok (.iaload, 1) := by decide +kernel
theorem dX7_keeps_76 : decode cX7_keeps 76 = .ok (.iastore, 1) := by decide +kernel
theorem dX7_keeps_77 : decode cX7_keeps 77 = .ok (.iinc 1 1, 3) := by decide +kernel
theorem dX7_keeps_80 : decode cX7_keeps 80 = .ok (.goto (-29), 3) := by decide +kernel
theorem dX7_keeps_83 : decode cX7_keeps 83 = .ok (.aload_n 0, 1) := by decide +kernel
theorem dX7_keeps_84 : decode cX7_keeps 84 = .ok (.dup, 1) := by decide +kernel
theorem dX7_keeps_85 : decode cX7_keeps 85 = .ok (.getfield 80, 3) := by decide +kernel
theorem dX7_keeps_88 : decode cX7_keeps 88 = .ok (.iconst 1, 1) := by decide +kernel
theorem dX7_keeps_89 : decode cX7_keeps 89 = .ok (.iadd, 1) := by decide +kernel
theorem dX7_keeps_90 : decode cX7_keeps 90 = .ok (.putfield 80, 3) := by decide +kernel
theorem dX7_keeps_93 : decode cX7_keeps 93 = .ok (.return_, 1) := by decide +kernel
theorem dX7_undo_0 : decode cX7_undo 0 = .ok (.aload_n 0, 1) := by decide +kernel
theorem dX7_undo_1 : decode cX7_undo 1 = .ok (.getfield 80, 3) := by decide +kernel
theorem dX7_undo_4 : decode cX7_undo 4 = .ok (.ifCond .ne 6, 3) := by decide +kernel
theorem dX7_undo_7 : decode cX7_undo 7 = .ok (.bipush (-2), 2) := by decide +kernel
theorem dX7_undo_9 : decode cX7_undo 9 = .ok (.ireturn, 1) := by decide +kernel
theorem dX7_undo_10 : decode cX7_undo 10 = .ok (.aload_n 0, 1) := by decide +kernel
theorem dX7_undo_11 : decode cX7_undo 11 = .ok (.dup, 1) := by decide +kernel
theorem dX7_undo_12 : decode cX7_undo 12 = .ok (.getfield 80, 3) := by decide +kernel
theorem dX7_undo_15 : decode cX7_undo 15 = .ok (.iconst 1, 1) := by decide +kernel
theorem dX7_undo_16 : decode cX7_undo 16 = .ok (.isub, 1) := by decide +kernel
theorem dX7_undo_17 : decode cX7_undo 17 = .ok (.putfield 80, 3) := by decide +kernel
theorem dX7_undo_20 : decode cX7_undo 20 = .ok (.iconst 0, 1) := by decide +kernel
theorem dX7_undo_21 : decode cX7_undo 21 = .ok (.istore_n 1, 1) := by decide +kernel
theorem dX7_undo_22 : decode cX7_undo 22 = .ok (.iload_n 1, 1) := by decide +kernel
theorem dX7_undo_23 : decode cX7_undo 23 = .ok (.bipush 78, 2) := by decide +kernel
theorem dX7_undo_25 : decode cX7_undo 25 = .ok (.if_icmp .ge 29, 3) := by decide +kernel
theorem dX7_undo_28 : decode cX7_undo 28 = .ok (.aload_n 0, 1) := by decide +kernel
theorem dX7_undo_29 : decode cX7_undo 29 = .ok (.getfield 13, 3) := by decide +kernel
theorem dX7_undo_32 : decode cX7_undo 32 = .ok (.iload_n 1, 1) := by decide +kernel
theorem dX7_undo_33 : decode cX7_undo 33 = .ok (.aload_n 0, 1) := by decide +kernel
theorem dX7_undo_34 : decode cX7_undo 34 = .ok (.getfield 19, 3) := by decide +kernel
theorem dX7_undo_37 : decode cX7_undo 37 = .ok (.bipush 78, 2) := by decide +kernel
theorem dX7_undo_39 : decode cX7_undo 39 = .ok (.aload_n 0, 1) := by decide +kernel
theorem dX7_undo_40 : decode cX7_undo 40 = .ok (.getfield 80, 3) := by decide +kernel
theorem dX7_undo_43 : decode cX7_undo 43 = .ok (.imul, 1) := by decide +kernel
theorem dX7_undo_44 : decode cX7_undo 44 = .ok (.iload_n 1, 1) := by decide +kernel
theorem dX7_undo_45 : decode cX7_undo 45 = .ok (.iadd, 1) := by decide +kernel
theorem dX7_undo_46 : decode cX7_undo 46 = .ok (.iaload, 1) := by decide +kernel
theorem dX7_undo_47 : decode cX7_undo 47 = .ok (.iastore, 1) := by decide +kernel
theorem dX7_undo_48 : decode cX7_undo 48 = .ok (.iinc 1 1, 3) := by decide +kernel
theorem dX7_undo_51 : decode cX7_undo 51 = .ok (.goto (-29), 3) := by decide +kernel
theorem dX7_undo_54 : decode cX7_undo 54 = .ok (.aload_n 0, 1) := by decide +kernel
theorem dX7_undo_55 : decode cX7_undo 55 = .ok (.getfield 80, 3) := by decide +kernel
theorem dX7_undo_58 : decode cX7_undo 58 = .ok (.ireturn, 1) := by decide +kernel
set_option maxRecDepth 20000 in
theorem ggX7_gate_X7_isGate : GoodIn wsX7_gate wsX7_isGate := goodIn_r _ [6, 1, 7, 8, 5, 9, 16, 17, 18, 19, 20, 21, 22, 23, 24, 25, 26, 27, 28, 29] (by decide +kernel) (by decide +kernel)
set_option maxRecDepth 20000 in
theorem gX7_gate_X7_isGate : GoodIn wsX7_gate (wsV RX7 86 RX7 yX7_isGate wsX7_isGate) := goodIn_app (goodIn_of _ (by decide +kernel)) ggX7_gate_X7_isGate
set_option maxRecDepth 20000 in
theorem ggX7_gate_X7_isIn : GoodIn wsX7_gate wsX7_isIn := goodIn_r _ [9] (by decide +kernel) (by decide +kernel)
set_option maxRecDepth 20000 in
theorem gX7_gate_X7_isIn : GoodIn wsX7_gate (va_wsS RX7 36 yX7_isIn wsX7_isIn) := goodIn_app (goodIn_of _ (by decide +kernel)) ggX7_gate_X7_isIn
set_option maxRecDepth 20000 in
theorem ggX7_gate_X7_keeps : GoodIn wsX7_gate wsX7_keeps := goodIn_r _ [13, 14, 15, 1, 16, 17, 18, 19, 20, 21, 22, 23, 24, 25, 26, 27, 28, 29] (by decide +kernel) (by decide +kernel)
set_option maxRecDepth 20000 in
theorem gX7_gate_X7_keeps : GoodIn wsX7_gate (wsV RX7 89 RX7 yX7_keeps wsX7_keeps) := goodIn_app (goodIn_of _ (by decide +kernel)) ggX7_gate_X7_keeps
theorem dX7_gate_0 : decode cX7_gate 0 = .ok (.aload_n 0, 1) := by decide +kernel
theorem dX7_gate_1 : decode cX7_gate 1 = .ok (.iload_n 1, 1) := by decide +kernel
theorem dX7_gate_2 : decode cX7_gate 2 = .ok (.invokevirtual 86, 3) := by decide +kernel
theorem dX7_gate_5 : decode cX7_gate 5 = .ok (.ifCond .eq 49, 3) := by decide +kernel
theorem dX7_gate_8 : decode cX7_gate 8 = .ok (.iload_n 2, 1) := by decide +kernel
theorem dX7_gate_9 : decode cX7_gate 9 = .ok (.iconst 0, 1) := by decide +kernel
theorem dX7_gate_10 : decode cX7_gate 10 = .ok (.iconst 5, 1) := by decide +kernel
theorem dX7_gate_11 : decode cX7_gate 11 = .ok (.invokestatic 36, 3) := by decide +kernel
theorem dX7_gate_14 : decode cX7_gate 14 = .ok (.ifCond .eq 40, 3) := by decide +kernel
theorem dX7_gate_17 : decode cX7_gate 17 = .ok (.iload_n 3, 1) := by decide +kernel
theorem dX7_gate_18 : decode cX7_gate 18 = .ok (.iconst 0, 1) := by decide +kernel
theorem dX7_gate_19 : decode cX7_gate 19 = .ok (.aload_n 0, 1) := by decide +kernel
theorem dX7_gate_20 : decode cX7_gate 20 = .ok (.getfield 13, 3) := by decide +kernel
theorem dX7_gate_23 : decode cX7_gate 23 = .ok (.iconst 0, 1) := by decide +kernel
theorem dX7_gate_24 : decode cX7_gate 24 = .ok (.iaload, 1) := by decide +kernel
theorem dX7_gate_25 : decode cX7_gate 25 = .ok (.iload_n 1, 1) := by decide +kernel
theorem dX7_gate_26 : decode cX7_gate 26 = .ok (.iadd, 1) := by decide +kernel
theorem dX7_gate_27 : decode cX7_gate 27 = .ok (.iconst 1, 1) := by decide +kernel
theorem dX7_gate_28 : decode cX7_gate 28 = .ok (.isub, 1) := by decide +kernel
theorem dX7_gate_29 : decode cX7_gate 29 = .ok (.invokestatic 36, 3) := by decide +kernel
theorem dX7_gate_32 : decode cX7_gate 32 = .ok (.ifCond .eq 22, 3) := by decide +kernel
theorem dX7_gate_35 : decode cX7_gate 35 = .ok (.iload 4, 2) := by decide +kernel
theorem dX7_gate_37 : decode cX7_gate 37 = .ok (.iconst 0, 1) := by decide +kernel
theorem dX7_gate_38 : decode cX7_gate 38 = .ok (.aload_n 0, 1) := by decide +kernel
theorem dX7_gate_39 : decode cX7_gate 39 = .ok (.getfield 13, 3) := by decide +kernel
theorem dX7_gate_42 : decode cX7_gate 42 = .ok (.iconst 0, 1) := by decide +kernel
theorem dX7_gate_43 : decode cX7_gate 43 = .ok (.iaload, 1) := by decide +kernel
theorem dX7_gate_44 : decode cX7_gate 44 = .ok (.iload_n 1, 1) := by decide +kernel
theorem dX7_gate_45 : decode cX7_gate 45 = .ok (.iadd, 1) := by decide +kernel
theorem dX7_gate_46 : decode cX7_gate 46 = .ok (.iconst 1, 1) := by decide +kernel
theorem dX7_gate_47 : decode cX7_gate 47 = .ok (.isub, 1) := by decide +kernel
theorem dX7_gate_48 : decode cX7_gate 48 = .ok (.invokestatic 36, 3) := by decide +kernel
theorem dX7_gate_51 : decode cX7_gate 51 = .ok (.ifCond .ne 5, 3) := by decide +kernel
theorem dX7_gate_54 : decode cX7_gate 54 = .ok (.iconst (-1), 1) := by decide +kernel
theorem dX7_gate_55 : decode cX7_gate 55 = .ok (.ireturn, 1) := by decide +kernel
theorem dX7_gate_56 : decode cX7_gate 56 = .ok (.bipush 6, 2) := by decide +kernel
theorem dX7_gate_58 : decode cX7_gate 58 = .ok (.iconst 3, 1) := by decide +kernel
theorem dX7_gate_59 : decode cX7_gate 59 = .ok (.iload_n 1, 1) := by decide +kernel
theorem dX7_gate_60 : decode cX7_gate 60 = .ok (.imul, 1) := by decide +kernel
theorem dX7_gate_61 : decode cX7_gate 61 = .ok (.iadd, 1) := by decide +kernel
theorem dX7_gate_62 : decode cX7_gate 62 = .ok (.istore 5, 2) := by decide +kernel
theorem dX7_gate_64 : decode cX7_gate 64 = .ok (.aload_n 0, 1) := by decide +kernel
theorem dX7_gate_65 : decode cX7_gate 65 = .ok (.getfield 13, 3) := by decide +kernel
theorem dX7_gate_68 : decode cX7_gate 68 = .ok (.iload 5, 2) := by decide +kernel
theorem dX7_gate_70 : decode cX7_gate 70 = .ok (.iaload, 1) := by decide +kernel
theorem dX7_gate_71 : decode cX7_gate 71 = .ok (.istore 6, 2) := by decide +kernel
theorem dX7_gate_73 : decode cX7_gate 73 = .ok (.iload 6, 2) := by decide +kernel
theorem dX7_gate_75 : decode cX7_gate 75 = .ok (.iload_n 2, 1) := by decide +kernel
theorem dX7_gate_76 : decode cX7_gate 76 = .ok (.if_icmp .ne 33, 3) := by decide +kernel
theorem dX7_gate_79 : decode cX7_gate 79 = .ok (.aload_n 0, 1) := by decide +kernel
theorem dX7_gate_80 : decode cX7_gate 80 = .ok (.getfield 13, 3) := by decide +kernel
theorem dX7_gate_83 : decode cX7_gate 83 = .ok (.iload 5, 2) := by decide +kernel
theorem dX7_gate_85 : decode cX7_gate 85 = .ok (.iconst 1, 1) := by decide +kernel
theorem dX7_gate_86 : decode cX7_gate 86 = .ok (.iadd, 1) := by decide +kernel
theorem dX7_gate_87 : decode cX7_gate 87 = .ok (.iaload, 1) := by decide +kernel
theorem dX7_gate_88 : decode cX7_gate 88 = .ok (.iload_n 3, 1) := by decide +kernel
theorem dX7_gate_89 : decode cX7_gate 89 = .ok (.if_icmp .ne 20, 3) := by decide +kernel
theorem dX7_gate_92 : decode cX7_gate 92 = .ok (.aload_n 0, 1) := by decide +kernel
theorem dX7_gate_93 : decode cX7_gate 93 = .ok (.getfield 13, 3) := by decide +kernel
theorem dX7_gate_96 : decode cX7_gate 96 = .ok (.iload 5, 2) := by decide +kernel
theorem dX7_gate_98 : decode cX7_gate 98 = .ok (.iconst 2, 1) := by decide +kernel
theorem dX7_gate_99 : decode cX7_gate 99 = .ok (.iadd, 1) := by decide +kernel
theorem dX7_gate_100 : decode cX7_gate 100 = .ok (.iaload, 1) := by decide +kernel
theorem dX7_gate_101 : decode cX7_gate 101 = .ok (.iload 4, 2) := by decide +kernel
theorem dX7_gate_103 : decode cX7_gate 103 = .ok (.if_icmp .ne 6, 3) := by decide +kernel
theorem dX7_gate_106 : decode cX7_gate 106 = .ok (.bipush (-2), 2) := by decide +kernel
theorem dX7_gate_108 : decode cX7_gate 108 = .ok (.ireturn, 1) := by decide +kernel
theorem dX7_gate_109 : decode cX7_gate 109 = .ok (.aload_n 0, 1) := by decide +kernel
theorem dX7_gate_110 : decode cX7_gate 110 = .ok (.invokevirtual 89, 3) := by decide +kernel
theorem dX7_gate_113 : decode cX7_gate 113 = .ok (.aload_n 0, 1) := by decide +kernel
theorem dX7_gate_114 : decode cX7_gate 114 = .ok (.getfield 13, 3) := by decide +kernel
theorem dX7_gate_117 : decode cX7_gate 117 = .ok (.iload 5, 2) := by decide +kernel
theorem dX7_gate_119 : decode cX7_gate 119 = .ok (.iload_n 2, 1) := by decide +kernel
theorem dX7_gate_120 : decode cX7_gate 120 = .ok (.iastore, 1) := by decide +kernel
theorem dX7_gate_121 : decode cX7_gate 121 = .ok (.aload_n 0, 1) := by decide +kernel
theorem dX7_gate_122 : decode cX7_gate 122 = .ok (.getfield 13, 3) := by decide +kernel
theorem dX7_gate_125 : decode cX7_gate 125 = .ok (.iload 5, 2) := by decide +kernel
theorem dX7_gate_127 : decode cX7_gate 127 = .ok (.iconst 1, 1) := by decide +kernel
theorem dX7_gate_128 : decode cX7_gate 128 = .ok (.iadd, 1) := by decide +kernel
theorem dX7_gate_129 : decode cX7_gate 129 = .ok (.iload_n 3, 1) := by decide +kernel
theorem dX7_gate_130 : decode cX7_gate 130 = .ok (.iastore, 1) := by decide +kernel
theorem dX7_gate_131 : decode cX7_gate 131 = .ok (.aload_n 0, 1) := by decide +kernel
theorem dX7_gate_132 : decode cX7_gate 132 = .ok (.getfield 13, 3) := by decide +kernel
theorem dX7_gate_135 : decode cX7_gate 135 = .ok (.iload 5, 2) := by decide +kernel
theorem dX7_gate_137 : decode cX7_gate 137 = .ok (.iconst 2, 1) := by decide +kernel
theorem dX7_gate_138 : decode cX7_gate 138 = .ok (.iadd, 1) := by decide +kernel
theorem dX7_gate_139 : decode cX7_gate 139 = .ok (.iload 4, 2) := by decide +kernel
theorem dX7_gate_141 : decode cX7_gate 141 = .ok (.iastore, 1) := by decide +kernel
theorem dX7_gate_142 : decode cX7_gate 142 = .ok (.iload 6, 2) := by decide +kernel
theorem dX7_gate_144 : decode cX7_gate 144 = .ok (.ireturn, 1) := by decide +kernel
set_option maxRecDepth 20000 in
theorem ggX7_add_X7_isIn : GoodIn wsX7_add wsX7_isIn := goodIn_r _ [5] (by decide +kernel) (by decide +kernel)
set_option maxRecDepth 20000 in
theorem gX7_add_X7_isIn : GoodIn wsX7_add (va_wsS RX7 36 yX7_isIn wsX7_isIn) := goodIn_app (goodIn_of _ (by decide +kernel)) ggX7_add_X7_isIn
set_option maxRecDepth 20000 in
theorem ggX7_add_X7_isWire : GoodIn wsX7_add wsX7_isWire := goodIn_r _ [9, 10, 11, 12, 4, 13, 1, 2, 3, 5, 23, 24, 25, 26, 27, 28, 29, 30, 31, 32, 33, 34, 35, 36] (by decide +kernel) (by decide +kernel)
set_option maxRecDepth 20000 in
theorem gX7_add_X7_isWire : GoodIn wsX7_add (wsV RX7 92 RX7 yX7_isWire wsX7_isWire) := goodIn_app (goodIn_of _ (by decide +kernel)) ggX7_add_X7_isWire
set_option maxRecDepth 20000 in
theorem ggX7_add_X7_keeps : GoodIn wsX7_add wsX7_keeps := goodIn_r _ [17, 18, 19, 1, 23, 24, 25, 26, 27, 28, 29, 30, 31, 32, 33, 34, 35, 36] (by decide +kernel) (by decide +kernel)
set_option maxRecDepth 20000 in
theorem gX7_add_X7_keeps : GoodIn wsX7_add (wsV RX7 89 RX7 yX7_keeps wsX7_keeps) := goodIn_app (goodIn_of _ (by decide +kernel)) ggX7_add_X7_keeps
set_option maxRecDepth 20000 in
theorem ggX7_add_X7_adds : GoodIn wsX7_add wsX7_adds := goodIn_r _ [22] (by decide +kernel) (by decide +kernel)
set_option maxRecDepth 20000 in
theorem gX7_add_X7_adds : GoodIn wsX7_add (va_wsS RX7 32 yX7_adds wsX7_adds) := goodIn_app (goodIn_of _ (by decide +kernel)) ggX7_add_X7_adds
theorem dX7_add_0 : decode cX7_add 0 = .ok (.iload_n 1, 1) := by decide +kernel
theorem dX7_add_1 : decode cX7_add 1 = .ok (.iconst 0, 1) := by decide +kernel
theorem dX7_add_2 : decode cX7_add 2 = .ok (.iconst 5, 1) := by decide +kernel
theorem dX7_add_3 : decode cX7_add 3 = .ok (.invokestatic 36, 3) := by decide +kernel
theorem dX7_add_6 : decode cX7_add 6 = .ok (.ifCond .eq 19, 3) := by decide +kernel
theorem dX7_add_9 : decode cX7_add 9 = .ok (.aload_n 0, 1) := by decide +kernel
theorem dX7_add_10 : decode cX7_add 10 = .ok (.iload_n 2, 1) := by decide +kernel
theorem dX7_add_11 : decode cX7_add 11 = .ok (.invokevirtual 92, 3) := by decide +kernel
theorem dX7_add_14 : decode cX7_add 14 = .ok (.ifCond .eq 11, 3) := by decide +kernel
theorem dX7_add_17 : decode cX7_add 17 = .ok (.aload_n 0, 1) := by decide +kernel
theorem dX7_add_18 : decode cX7_add 18 = .ok (.iload_n 3, 1) := by decide +kernel
theorem dX7_add_19 : decode cX7_add 19 = .ok (.invokevirtual 92, 3) := by decide +kernel
theorem dX7_add_22 : decode cX7_add 22 = .ok (.ifCond .ne 5, 3) := by decide +kernel
theorem dX7_add_25 : decode cX7_add 25 = .ok (.iconst (-1), 1) := by decide +kernel
theorem dX7_add_26 : decode cX7_add 26 = .ok (.ireturn, 1) := by decide +kernel
theorem dX7_add_27 : decode cX7_add 27 = .ok (.aload_n 0, 1) := by decide +kernel
theorem dX7_add_28 : decode cX7_add 28 = .ok (.getfield 13, 3) := by decide +kernel
theorem dX7_add_31 : decode cX7_add 31 = .ok (.iconst 1, 1) := by decide +kernel
theorem dX7_add_32 : decode cX7_add 32 = .ok (.iaload, 1) := by decide +kernel
theorem dX7_add_33 : decode cX7_add 33 = .ok (.bipush 24, 2) := by decide +kernel
theorem dX7_add_35 : decode cX7_add 35 = .ok (.if_icmp .ne 6, 3) := by decide +kernel
theorem dX7_add_38 : decode cX7_add 38 = .ok (.bipush (-3), 2) := by decide +kernel
theorem dX7_add_40 : decode cX7_add 40 = .ok (.ireturn, 1) := by decide +kernel
theorem dX7_add_41 : decode cX7_add 41 = .ok (.aload_n 0, 1) := by decide +kernel
theorem dX7_add_42 : decode cX7_add 42 = .ok (.invokevirtual 89, 3) := by decide +kernel
theorem dX7_add_45 : decode cX7_add 45 = .ok (.aload_n 0, 1) := by decide +kernel
theorem dX7_add_46 : decode cX7_add 46 = .ok (.getfield 13, 3) := by decide +kernel
theorem dX7_add_49 : decode cX7_add 49 = .ok (.iload_n 1, 1) := by decide +kernel
theorem dX7_add_50 : decode cX7_add 50 = .ok (.iload_n 2, 1) := by decide +kernel
theorem dX7_add_51 : decode cX7_add 51 = .ok (.iload_n 3, 1) := by decide +kernel
theorem dX7_add_52 : decode cX7_add 52 = .ok (.invokestatic 32, 3) := by decide +kernel
theorem dX7_add_55 : decode cX7_add 55 = .ok (.aload_n 0, 1) := by decide +kernel
theorem dX7_add_56 : decode cX7_add 56 = .ok (.getfield 13, 3) := by decide +kernel
theorem dX7_add_59 : decode cX7_add 59 = .ok (.iconst 1, 1) := by decide +kernel
theorem dX7_add_60 : decode cX7_add 60 = .ok (.iaload, 1) := by decide +kernel
theorem dX7_add_61 : decode cX7_add 61 = .ok (.iconst 1, 1) := by decide +kernel
theorem dX7_add_62 : decode cX7_add 62 = .ok (.isub, 1) := by decide +kernel
theorem dX7_add_63 : decode cX7_add 63 = .ok (.ireturn, 1) := by decide +kernel
set_option maxRecDepth 20000 in
theorem ggX7_rails_X7_isWire : GoodIn wsX7_rails wsX7_isWire := goodIn_r _ [6, 7, 8, 9, 5, 10, 1, 11, 12, 13, 20, 21, 22, 23, 24, 25, 26, 27, 28, 29, 30, 31, 32, 33] (by decide +kernel) (by decide +kernel)
set_option maxRecDepth 20000 in
theorem gX7_rails_X7_isWire : GoodIn wsX7_rails (wsV RX7 92 RX7 yX7_isWire wsX7_isWire) := goodIn_app (goodIn_of _ (by decide +kernel)) ggX7_rails_X7_isWire
set_option maxRecDepth 20000 in
theorem ggX7_rails_X7_keeps : GoodIn wsX7_rails wsX7_keeps := goodIn_r _ [17, 18, 19, 1, 20, 21, 22, 23, 24, 25, 26, 27, 28, 29, 30, 31, 32, 33] (by decide +kernel) (by decide +kernel)
set_option maxRecDepth 20000 in
theorem gX7_rails_X7_keeps : GoodIn wsX7_rails (wsV RX7 89 RX7 yX7_keeps wsX7_keeps) := goodIn_app (goodIn_of _ (by decide +kernel)) ggX7_rails_X7_keeps
theorem dX7_rails_0 : decode cX7_rails 0 = .ok (.aload_n 0, 1) := by decide +kernel
theorem dX7_rails_1 : decode cX7_rails 1 = .ok (.iload_n 1, 1) := by decide +kernel
theorem dX7_rails_2 : decode cX7_rails 2 = .ok (.invokevirtual 92, 3) := by decide +kernel
theorem dX7_rails_5 : decode cX7_rails 5 = .ok (.ifCond .eq 11, 3) := by decide +kernel
theorem dX7_rails_8 : decode cX7_rails 8 = .ok (.aload_n 0, 1) := by decide +kernel
theorem dX7_rails_9 : decode cX7_rails 9 = .ok (.iload_n 2, 1) := by decide +kernel
theorem dX7_rails_10 : decode cX7_rails 10 = .ok (.invokevirtual 92, 3) := by decide +kernel
theorem dX7_rails_13 : decode cX7_rails 13 = .ok (.ifCond .ne 5, 3) := by decide +kernel
theorem dX7_rails_16 : decode cX7_rails 16 = .ok (.iconst (-1), 1) := by decide +kernel
theorem dX7_rails_17 : decode cX7_rails 17 = .ok (.ireturn, 1) := by decide +kernel
theorem dX7_rails_18 : decode cX7_rails 18 = .ok (.bipush 100, 2) := by decide +kernel
theorem dX7_rails_20 : decode cX7_rails 20 = .ok (.aload_n 0, 1) := by decide +kernel
theorem dX7_rails_21 : decode cX7_rails 21 = .ok (.getfield 13, 3) := by decide +kernel
theorem dX7_rails_24 : decode cX7_rails 24 = .ok (.iconst 2, 1) := by decide +kernel
theorem dX7_rails_25 : decode cX7_rails 25 = .ok (.iaload, 1) := by decide +kernel
theorem dX7_rails_26 : decode cX7_rails 26 = .ok (.imul, 1) := by decide +kernel
theorem dX7_rails_27 : decode cX7_rails 27 = .ok (.aload_n 0, 1) := by decide +kernel
theorem dX7_rails_28 : decode cX7_rails 28 = .ok (.getfield 13, 3) := by decide +kernel
theorem dX7_rails_31 : decode cX7_rails 31 = .ok (.iconst 3, 1) := by decide +kernel
theorem dX7_rails_32 : decode cX7_rails 32 = .ok (.iaload, 1) := by decide +kernel
theorem dX7_rails_33 : decode cX7_rails 33 = .ok (.iadd, 1) := by decide +kernel
theorem dX7_rails_34 : decode cX7_rails 34 = .ok (.istore_n 3, 1) := by decide +kernel
theorem dX7_rails_35 : decode cX7_rails 35 = .ok (.iload_n 3, 1) := by decide +kernel
theorem dX7_rails_36 : decode cX7_rails 36 = .ok (.bipush 100, 2) := by decide +kernel
theorem dX7_rails_38 : decode cX7_rails 38 = .ok (.iload_n 1, 1) := by decide +kernel
theorem dX7_rails_39 : decode cX7_rails 39 = .ok (.imul, 1) := by decide +kernel
theorem dX7_rails_40 : decode cX7_rails 40 = .ok (.iload_n 2, 1) := by decide +kernel
theorem dX7_rails_41 : decode cX7_rails 41 = .ok (.iadd, 1) := by decide +kernel
theorem dX7_rails_42 : decode cX7_rails 42 = .ok (.if_icmp .ne 6, 3) := by decide +kernel
theorem dX7_rails_45 : decode cX7_rails 45 = .ok (.bipush (-2), 2) := by decide +kernel
theorem dX7_rails_47 : decode cX7_rails 47 = .ok (.ireturn, 1) := by decide +kernel
theorem dX7_rails_48 : decode cX7_rails 48 = .ok (.aload_n 0, 1) := by decide +kernel
theorem dX7_rails_49 : decode cX7_rails 49 = .ok (.invokevirtual 89, 3) := by decide +kernel
theorem dX7_rails_52 : decode cX7_rails 52 = .ok (.aload_n 0, 1) := by decide +kernel
theorem dX7_rails_53 : decode cX7_rails 53 = .ok (.getfield 13, 3) := by decide +kernel
theorem dX7_rails_56 : decode cX7_rails 56 = .ok (.iconst 2, 1) := by decide +kernel
theorem dX7_rails_57 : decode cX7_rails 57 = .ok (.iload_n 1, 1) := by decide +kernel
theorem dX7_rails_58 : decode cX7_rails 58 = .ok (.iastore, 1) := by decide +kernel
theorem dX7_rails_59 : decode cX7_rails 59 = .ok (.aload_n 0, 1) := by decide +kernel
theorem dX7_rails_60 : decode cX7_rails 60 = .ok (.getfield 13, 3) := by decide +kernel
theorem dX7_rails_63 : decode cX7_rails 63 = .ok (.iconst 3, 1) := by decide +kernel
theorem dX7_rails_64 : decode cX7_rails 64 = .ok (.iload_n 2, 1) := by decide +kernel
theorem dX7_rails_65 : decode cX7_rails 65 = .ok (.iastore, 1) := by decide +kernel
theorem dX7_rails_66 : decode cX7_rails 66 = .ok (.iload_n 3, 1) := by decide +kernel
theorem dX7_rails_67 : decode cX7_rails 67 = .ok (.ireturn, 1) := by decide +kernel
set_option maxRecDepth 20000 in
theorem ggX7_code_X7_canBe : GoodIn wsX7_code wsX7_canBe := goodIn_r _ [5, 6, 7, 4, 8] (by decide +kernel) (by decide +kernel)
set_option maxRecDepth 20000 in
theorem gX7_code_X7_canBe : GoodIn wsX7_code (va_wsS RX7 62 yX7_canBe wsX7_canBe) := goodIn_app (goodIn_of _ (by decide +kernel)) ggX7_code_X7_canBe
set_option maxRecDepth 20000 in
theorem ggX7_code_X7_keeps : GoodIn wsX7_code wsX7_keeps := goodIn_r _ [12, 13, 14, 1, 30, 31, 32, 33, 34, 35, 36, 37, 38, 39, 40, 41, 42, 43] (by decide +kernel) (by decide +kernel)
set_option maxRecDepth 20000 in
theorem gX7_code_X7_keeps : GoodIn wsX7_code (wsV RX7 89 RX7 yX7_keeps wsX7_keeps) := goodIn_app (goodIn_of _ (by decide +kernel)) ggX7_code_X7_keeps
set_option maxRecDepth 20000 in
theorem ggX7_code_X7_words : GoodIn wsX7_code wsX7_words := goodIn_r _ [18, 19, 20, 21, 4, 22, 1, 23, 24, 25, 26, 27, 28, 29, 30, 31, 32, 33, 34, 35, 36, 37, 38, 39, 40, 41, 42, 43] (by decide +kernel) (by decide +kernel)
set_option maxRecDepth 20000 in
theorem gX7_code_X7_words : GoodIn wsX7_code (wsV RX7 95 RX7 yX7_words wsX7_words) := goodIn_app (goodIn_of _ (by decide +kernel)) ggX7_code_X7_words
theorem dX7_code_0 : decode cX7_code 0 = .ok (.aload_n 0, 1) := by decide +kernel
theorem dX7_code_1 : decode cX7_code 1 = .ok (.getfield 13, 3) := by decide +kernel
theorem dX7_code_4 : decode cX7_code 4 = .ok (.iconst 0, 1) := by decide +kernel
theorem dX7_code_5 : decode cX7_code 5 = .ok (.iaload, 1) := by decide +kernel
theorem dX7_code_6 : decode cX7_code 6 = .ok (.iload_n 1, 1) := by decide +kernel
theorem dX7_code_7 : decode cX7_code 7 = .ok (.iload_n 2, 1) := by decide +kernel
theorem dX7_code_8 : decode cX7_code 8 = .ok (.invokestatic 62, 3) := by decide +kernel
theorem dX7_code_11 : decode cX7_code 11 = .ok (.ifCond .ne 5, 3) := by decide +kernel
theorem dX7_code_14 : decode cX7_code 14 = .ok (.iconst (-1), 1) := by decide +kernel
theorem dX7_code_15 : decode cX7_code 15 = .ok (.ireturn, 1) := by decide +kernel
theorem dX7_code_16 : decode cX7_code 16 = .ok (.aload_n 0, 1) := by decide +kernel
theorem dX7_code_17 : decode cX7_code 17 = .ok (.getfield 13, 3) := by decide +kernel
theorem dX7_code_20 : decode cX7_code 20 = .ok (.iconst 4, 1) := by decide +kernel
theorem dX7_code_21 : decode cX7_code 21 = .ok (.iaload, 1) := by decide +kernel
theorem dX7_code_22 : decode cX7_code 22 = .ok (.iload_n 1, 1) := by decide +kernel
theorem dX7_code_23 : decode cX7_code 23 = .ok (.if_icmp .ne 16, 3) := by decide +kernel
theorem dX7_code_26 : decode cX7_code 26 = .ok (.aload_n 0, 1) := by decide +kernel
theorem dX7_code_27 : decode cX7_code 27 = .ok (.getfield 13, 3) := by decide +kernel
theorem dX7_code_30 : decode cX7_code 30 = .ok (.iconst 5, 1) := by decide +kernel
theorem dX7_code_31 : decode cX7_code 31 = .ok (.iaload, 1) := by decide +kernel
theorem dX7_code_32 : decode cX7_code 32 = .ok (.iload_n 2, 1) := by decide +kernel
theorem dX7_code_33 : decode cX7_code 33 = .ok (.if_icmp .ne 6, 3) := by decide +kernel
theorem dX7_code_36 : decode cX7_code 36 = .ok (.bipush (-2), 2) := by decide +kernel
theorem dX7_code_38 : decode cX7_code 38 = .ok (.ireturn, 1) := by decide +kernel
theorem dX7_code_39 : decode cX7_code 39 = .ok (.aload_n 0, 1) := by decide +kernel
theorem dX7_code_40 : decode cX7_code 40 = .ok (.invokevirtual 89, 3) := by decide +kernel
theorem dX7_code_43 : decode cX7_code 43 = .ok (.aload_n 0, 1) := by decide +kernel
theorem dX7_code_44 : decode cX7_code 44 = .ok (.getfield 13, 3) := by decide +kernel
theorem dX7_code_47 : decode cX7_code 47 = .ok (.iconst 4, 1) := by decide +kernel
theorem dX7_code_48 : decode cX7_code 48 = .ok (.iload_n 1, 1) := by decide +kernel
theorem dX7_code_49 : decode cX7_code 49 = .ok (.iastore, 1) := by decide +kernel
theorem dX7_code_50 : decode cX7_code 50 = .ok (.aload_n 0, 1) := by decide +kernel
theorem dX7_code_51 : decode cX7_code 51 = .ok (.getfield 13, 3) := by decide +kernel
theorem dX7_code_54 : decode cX7_code 54 = .ok (.iconst 5, 1) := by decide +kernel
theorem dX7_code_55 : decode cX7_code 55 = .ok (.iload_n 2, 1) := by decide +kernel
theorem dX7_code_56 : decode cX7_code 56 = .ok (.iastore, 1) := by decide +kernel
theorem dX7_code_57 : decode cX7_code 57 = .ok (.aload_n 0, 1) := by decide +kernel
theorem dX7_code_58 : decode cX7_code 58 = .ok (.invokevirtual 95, 3) := by decide +kernel
theorem dX7_code_61 : decode cX7_code 61 = .ok (.ireturn, 1) := by decide +kernel
set_option maxRecDepth 20000 in
theorem ggX7_build_X7_isIn : GoodIn wsX7_build wsX7_isIn := goodIn_r _ [5] (by decide +kernel) (by decide +kernel)
set_option maxRecDepth 20000 in
theorem gX7_build_X7_isIn : GoodIn wsX7_build (va_wsS RX7 36 yX7_isIn wsX7_isIn) := goodIn_app (goodIn_of _ (by decide +kernel)) ggX7_build_X7_isIn
set_option maxRecDepth 20000 in
theorem ggX7_build_X7_keeps : GoodIn wsX7_build wsX7_keeps := goodIn_r _ [9, 10, 11, 1, 19, 20, 21, 22, 23, 24, 25, 26, 27, 28, 29, 30, 31, 32] (by decide +kernel) (by decide +kernel)
set_option maxRecDepth 20000 in
theorem gX7_build_X7_keeps : GoodIn wsX7_build (wsV RX7 89 RX7 yX7_keeps wsX7_keeps) := goodIn_app (goodIn_of _ (by decide +kernel)) ggX7_build_X7_keeps
set_option maxRecDepth 20000 in
theorem ggX7_build_X7_wires : GoodIn wsX7_build wsX7_wires := goodIn_r _ [15, 1, 19, 20, 21, 22, 23, 24, 25, 26, 27, 28, 29, 30, 31, 32] (by decide +kernel) (by decide +kernel)
set_option maxRecDepth 20000 in
theorem gX7_build_X7_wires : GoodIn wsX7_build (wsV RX7 83 RX7 yX7_wires wsX7_wires) := goodIn_app (goodIn_of _ (by decide +kernel)) ggX7_build_X7_wires
set_option maxRecDepth 20000 in
theorem ggX7_build_X7_adds : GoodIn wsX7_build wsX7_adds := goodIn_r _ [18] (by decide +kernel) (by decide +kernel)
set_option maxRecDepth 20000 in
theorem gX7_build_X7_adds : GoodIn wsX7_build (va_wsS RX7 32 yX7_adds wsX7_adds) := goodIn_app (goodIn_of _ (by decide +kernel)) ggX7_build_X7_adds
theorem dX7_build_0 : decode cX7_build 0 = .ok (.iload_n 1, 1) := by decide +kernel
theorem dX7_build_1 : decode cX7_build 1 = .ok (.iconst 1, 1) := by decide +kernel
theorem dX7_build_2 : decode cX7_build 2 = .ok (.iconst 4, 1) := by decide +kernel
theorem dX7_build_3 : decode cX7_build 3 = .ok (.invokestatic 36, 3) := by decide +kernel
theorem dX7_build_6 : decode cX7_build 6 = .ok (.ifCond .ne 5, 3) := by decide +kernel
theorem dX7_build_9 : decode cX7_build 9 = .ok (.iconst (-1), 1) := by decide +kernel
theorem dX7_build_10 : decode cX7_build 10 = .ok (.ireturn, 1) := by decide +kernel
theorem dX7_build_11 : decode cX7_build 11 = .ok (.aload_n 0, 1) := by decide +kernel
theorem dX7_build_12 : decode cX7_build 12 = .ok (.invokevirtual 89, 3) := by decide +kernel
theorem dX7_build_15 : decode cX7_build 15 = .ok (.iconst 0, 1) := by decide +kernel
theorem dX7_build_16 : decode cX7_build 16 = .ok (.istore_n 2, 1) := by decide +kernel
theorem dX7_build_17 : decode cX7_build 17 = .ok (.iload_n 2, 1) := by decide +kernel
theorem dX7_build_18 : decode cX7_build 18 = .ok (.bipush 78, 2) := by decide +kernel
theorem dX7_build_20 : decode cX7_build 20 = .ok (.if_icmp .ge 16, 3) := by decide +kernel
theorem dX7_build_23 : decode cX7_build 23 = .ok (.aload_n 0, 1) := by decide +kernel
theorem dX7_build_24 : decode cX7_build 24 = .ok (.getfield 13, 3) := by decide +kernel
theorem dX7_build_27 : decode cX7_build 27 = .ok (.iload_n 2, 1) := by decide +kernel
theorem dX7_build_28 : decode cX7_build 28 = .ok (.iconst 0, 1) := by decide +kernel
theorem dX7_build_29 : decode cX7_build 29 = .ok (.iastore, 1) := by decide +kernel
theorem dX7_build_30 : decode cX7_build 30 = .ok (.iinc 2 1, 3) := by decide +kernel
theorem dX7_build_33 : decode cX7_build 33 = .ok (.goto (-16), 3) := by decide +kernel
theorem dX7_build_36 : decode cX7_build 36 = .ok (.aload_n 0, 1) := by decide +kernel
theorem dX7_build_37 : decode cX7_build 37 = .ok (.getfield 13, 3) := by decide +kernel
theorem dX7_build_40 : decode cX7_build 40 = .ok (.iconst 0, 1) := by decide +kernel
theorem dX7_build_41 : decode cX7_build 41 = .ok (.iconst 2, 1) := by decide +kernel
theorem dX7_build_42 : decode cX7_build 42 = .ok (.iload_n 1, 1) := by decide +kernel
theorem dX7_build_43 : decode cX7_build 43 = .ok (.imul, 1) := by decide +kernel
theorem dX7_build_44 : decode cX7_build 44 = .ok (.iastore, 1) := by decide +kernel
theorem dX7_build_45 : decode cX7_build 45 = .ok (.aload_n 0, 1) := by decide +kernel
theorem dX7_build_46 : decode cX7_build 46 = .ok (.getfield 13, 3) := by decide +kernel
theorem dX7_build_49 : decode cX7_build 49 = .ok (.iconst 3, 1) := by decide +kernel
theorem dX7_build_50 : decode cX7_build 50 = .ok (.iconst 1, 1) := by decide +kernel
theorem dX7_build_51 : decode cX7_build 51 = .ok (.iastore, 1) := by decide +kernel
theorem dX7_build_52 : decode cX7_build 52 = .ok (.aload_n 0, 1) := by decide +kernel
theorem dX7_build_53 : decode cX7_build 53 = .ok (.getfield 13, 3) := by decide +kernel
theorem dX7_build_56 : decode cX7_build 56 = .ok (.iconst 4, 1) := by decide +kernel
theorem dX7_build_57 : decode cX7_build 57 = .ok (.iconst 3, 1) := by decide +kernel
theorem dX7_build_58 : decode cX7_build 58 = .ok (.iastore, 1) := by decide +kernel
theorem dX7_build_59 : decode cX7_build 59 = .ok (.iconst 1, 1) := by decide +kernel
theorem dX7_build_60 : decode cX7_build 60 = .ok (.istore_n 2, 1) := by decide +kernel
theorem dX7_build_61 : decode cX7_build 61 = .ok (.iload_n 2, 1) := by decide +kernel
theorem dX7_build_62 : decode cX7_build 62 = .ok (.iload_n 1, 1) := by decide +kernel
theorem dX7_build_63 : decode cX7_build 63 = .ok (.if_icmp .ge 134, 3) := by decide +kernel
theorem dX7_build_66 : decode cX7_build 66 = .ok (.aload_n 0, 1) := by decide +kernel
theorem dX7_build_67 : decode cX7_build 67 = .ok (.getfield 13, 3) := by decide +kernel
theorem dX7_build_70 : decode cX7_build 70 = .ok (.iconst 2, 1) := by decide +kernel
theorem dX7_build_71 : decode cX7_build 71 = .ok (.iaload, 1) := by decide +kernel
theorem dX7_build_72 : decode cX7_build 72 = .ok (.istore_n 3, 1) := by decide +kernel
theorem dX7_build_73 : decode cX7_build 73 = .ok (.aload_n 0, 1) := by decide +kernel
theorem dX7_build_74 : decode cX7_build 74 = .ok (.getfield 13, 3) := by decide +kernel
theorem dX7_build_77 : decode cX7_build 77 = .ok (.iconst 3, 1) := by decide +kernel
theorem dX7_build_78 : decode cX7_build 78 = .ok (.iaload, 1) := by decide +kernel
theorem dX7_build_79 : decode cX7_build 79 = .ok (.istore 4, 2) := by decide +kernel
theorem dX7_build_81 : decode cX7_build 81 = .ok (.aload_n 0, 1) := by decide +kernel
theorem dX7_build_82 : decode cX7_build 82 = .ok (.invokevirtual 83, 3) := by decide +kernel
theorem dX7_build_85 : decode cX7_build 85 = .ok (.istore 5, 2) := by decide +kernel
theorem dX7_build_87 : decode cX7_build 87 = .ok (.aload_n 0, 1) := by decide +kernel
theorem dX7_build_88 : decode cX7_build 88 = .ok (.getfield 13, 3) := by decide +kernel
theorem dX7_build_91 : decode cX7_build 91 = .ok (.iconst 0, 1) := by decide +kernel
theorem dX7_build_92 : decode cX7_build 92 = .ok (.iload_n 3, 1) := by decide +kernel
theorem dX7_build_93 : decode cX7_build 93 = .ok (.iconst 2, 1) := by decide +kernel
theorem dX7_build_94 : decode cX7_build 94 = .ok (.iload_n 2, 1) := by decide +kernel
theorem dX7_build_95 : decode cX7_build 95 = .ok (.imul, 1) := by decide +kernel
theorem dX7_build_96 : decode cX7_build 96 = .ok (.invokestatic 32, 3) := by decide +kernel
theorem dX7_build_99 : decode cX7_build 99 = .ok (.aload_n 0, 1) := by decide +kernel
theorem dX7_build_100 : decode cX7_build 100 = .ok (.getfield 13, 3) := by decide +kernel
theorem dX7_build_103 : decode cX7_build 103 = .ok (.iconst 0, 1) := by decide +kernel
theorem dX7_build_104 : decode cX7_build 104 = .ok (.iload 4, 2) := by decide +kernel
theorem dX7_build_106 : decode cX7_build 106 = .ok (.iconst 2, 1) := by decide +kernel
theorem dX7_build_107 : decode cX7_build 107 = .ok (.iload_n 2, 1) := by decide +kernel
theorem dX7_build_108 : decode cX7_build 108 = .ok (.imul, 1) := by decide +kernel
theorem dX7_build_109 : decode cX7_build 109 = .ok (.iconst 1, 1) := by decide +kernel
theorem dX7_build_110 : decode cX7_build 110 = .ok (.iadd, 1) := by decide +kernel
theorem dX7_build_111 : decode cX7_build 111 = .ok (.invokestatic 32, 3) := by decide +kernel
theorem dX7_build_114 : decode cX7_build 114 = .ok (.aload_n 0, 1) := by decide +kernel
theorem dX7_build_115 : decode cX7_build 115 = .ok (.getfield 13, 3) := by decide +kernel
theorem dX7_build_118 : decode cX7_build 118 = .ok (.iconst 1, 1) := by decide +kernel
theorem dX7_build_119 : decode cX7_build 119 = .ok (.iload 5, 2) := by decide +kernel
theorem dX7_build_121 : decode cX7_build 121 = .ok (.iload 5, 2) := by decide +kernel
theorem dX7_build_123 : decode cX7_build 123 = .ok (.iconst 1, 1) := by decide +kernel
theorem dX7_build_124 : decode cX7_build 124 = .ok (.iadd, 1) := by decide +kernel
theorem dX7_build_125 : decode cX7_build 125 = .ok (.invokestatic 32, 3) := by decide +kernel
theorem dX7_build_128 : decode cX7_build 128 = .ok (.aload_n 0, 1) := by decide +kernel
theorem dX7_build_129 : decode cX7_build 129 = .ok (.getfield 13, 3) := by decide +kernel
theorem dX7_build_132 : decode cX7_build 132 = .ok (.iconst 0, 1) := by decide +kernel
theorem dX7_build_133 : decode cX7_build 133 = .ok (.iload_n 3, 1) := by decide +kernel
theorem dX7_build_134 : decode cX7_build 134 = .ok (.iconst 2, 1) := by decide +kernel
theorem dX7_build_135 : decode cX7_build 135 = .ok (.iload_n 2, 1) := by decide +kernel
theorem dX7_build_136 : decode cX7_build 136 = .ok (.imul, 1) := by decide +kernel
theorem dX7_build_137 : decode cX7_build 137 = .ok (.iconst 1, 1) := by decide +kernel
theorem dX7_build_138 : decode cX7_build 138 = .ok (.iadd, 1) := by decide +kernel
theorem dX7_build_139 : decode cX7_build 139 = .ok (.invokestatic 32, 3) := by decide +kernel
theorem dX7_build_142 : decode cX7_build 142 = .ok (.aload_n 0, 1) := by decide +kernel
theorem dX7_build_143 : decode cX7_build 143 = .ok (.getfield 13, 3) := by decide +kernel
theorem dX7_build_146 : decode cX7_build 146 = .ok (.iconst 0, 1) := by decide +kernel
theorem dX7_build_147 : decode cX7_build 147 = .ok (.iload 4, 2) := by decide +kernel
theorem dX7_build_149 : decode cX7_build 149 = .ok (.iconst 2, 1) := by decide +kernel
theorem dX7_build_150 : decode cX7_build 150 = .ok (.iload_n 2, 1) := by decide +kernel
theorem dX7_build_151 : decode cX7_build 151 = .ok (.imul, 1) := by decide +kernel
theorem dX7_build_152 : decode cX7_build 152 = .ok (.invokestatic 32, 3) := by decide +kernel
theorem dX7_build_155 : decode cX7_build 155 = .ok (.aload_n 0, 1) := by decide +kernel
theorem dX7_build_156 : decode cX7_build 156 = .ok (.getfield 13, 3) := by decide +kernel
theorem dX7_build_159 : decode cX7_build 159 = .ok (.iconst 1, 1) := by decide +kernel
theorem dX7_build_160 : decode cX7_build 160 = .ok (.iload 5, 2) := by decide +kernel
theorem dX7_build_162 : decode cX7_build 162 = .ok (.iconst 3, 1) := by decide +kernel
theorem dX7_build_163 : decode cX7_build 163 = .ok (.iadd, 1) := by decide +kernel
theorem dX7_build_164 : decode cX7_build 164 = .ok (.iload 5, 2) := by decide +kernel
theorem dX7_build_166 : decode cX7_build 166 = .ok (.iconst 4, 1) := by decide +kernel
theorem dX7_build_167 : decode cX7_build 167 = .ok (.iadd, 1) := by decide +kernel
theorem dX7_build_168 : decode cX7_build 168 = .ok (.invokestatic 32, 3) := by decide +kernel
theorem dX7_build_171 : decode cX7_build 171 = .ok (.aload_n 0, 1) := by decide +kernel
theorem dX7_build_172 : decode cX7_build 172 = .ok (.getfield 13, 3) := by decide +kernel
theorem dX7_build_175 : decode cX7_build 175 = .ok (.iconst 2, 1) := by decide +kernel
theorem dX7_build_176 : decode cX7_build 176 = .ok (.iload 5, 2) := by decide +kernel
theorem dX7_build_178 : decode cX7_build 178 = .ok (.iconst 2, 1) := by decide +kernel
theorem dX7_build_179 : decode cX7_build 179 = .ok (.iadd, 1) := by decide +kernel
theorem dX7_build_180 : decode cX7_build 180 = .ok (.iastore, 1) := by decide +kernel
theorem dX7_build_181 : decode cX7_build 181 = .ok (.aload_n 0, 1) := by decide +kernel
theorem dX7_build_182 : decode cX7_build 182 = .ok (.getfield 13, 3) := by decide +kernel
theorem dX7_build_185 : decode cX7_build 185 = .ok (.iconst 3, 1) := by decide +kernel
theorem dX7_build_186 : decode cX7_build 186 = .ok (.iload 5, 2) := by decide +kernel
theorem dX7_build_188 : decode cX7_build 188 = .ok (.iconst 5, 1) := by decide +kernel
theorem dX7_build_189 : decode cX7_build 189 = .ok (.iadd, 1) := by decide +kernel
theorem dX7_build_190 : decode cX7_build 190 = .ok (.iastore, 1) := by decide +kernel
theorem dX7_build_191 : decode cX7_build 191 = .ok (.iinc 2 1, 3) := by decide +kernel
theorem dX7_build_194 : decode cX7_build 194 = .ok (.goto (-133), 3) := by decide +kernel
theorem dX7_build_197 : decode cX7_build 197 = .ok (.aload_n 0, 1) := by decide +kernel
theorem dX7_build_198 : decode cX7_build 198 = .ok (.getfield 13, 3) := by decide +kernel
theorem dX7_build_201 : decode cX7_build 201 = .ok (.iconst 1, 1) := by decide +kernel
theorem dX7_build_202 : decode cX7_build 202 = .ok (.iaload, 1) := by decide +kernel
theorem dX7_build_203 : decode cX7_build 203 = .ok (.ireturn, 1) := by decide +kernel
theorem dX7_stuckAs_0 : decode cX7_stuckAs 0 = .ok (.iload_n 2, 1) := by decide +kernel
theorem dX7_stuckAs_1 : decode cX7_stuckAs 1 = .ok (.ifCond .lt 16, 3) := by decide +kernel
theorem dX7_stuckAs_4 : decode cX7_stuckAs 4 = .ok (.iload_n 2, 1) := by decide +kernel
theorem dX7_stuckAs_5 : decode cX7_stuckAs 5 = .ok (.iconst 2, 1) := by decide +kernel
theorem dX7_stuckAs_6 : decode cX7_stuckAs 6 = .ok (.idiv, 1) := by decide +kernel
theorem dX7_stuckAs_7 : decode cX7_stuckAs 7 = .ok (.iload_n 0, 1) := by decide +kernel
theorem dX7_stuckAs_8 : decode cX7_stuckAs 8 = .ok (.if_icmp .ne 9, 3) := by decide +kernel
theorem dX7_stuckAs_11 : decode cX7_stuckAs 11 = .ok (.iload_n 2, 1) := by decide +kernel
theorem dX7_stuckAs_12 : decode cX7_stuckAs 12 = .ok (.iconst 2, 1) := by decide +kernel
theorem dX7_stuckAs_13 : decode cX7_stuckAs 13 = .ok (.irem, 1) := by decide +kernel
theorem dX7_stuckAs_14 : decode cX7_stuckAs 14 = .ok (.goto 21, 3) := by decide +kernel
theorem dX7_stuckAs_17 : decode cX7_stuckAs 17 = .ok (.iload_n 3, 1) := by decide +kernel
theorem dX7_stuckAs_18 : decode cX7_stuckAs 18 = .ok (.ifCond .lt 16, 3) := by decide +kernel
theorem dX7_stuckAs_21 : decode cX7_stuckAs 21 = .ok (.iload_n 3, 1) := by decide +kernel
theorem dX7_stuckAs_22 : decode cX7_stuckAs 22 = .ok (.iconst 2, 1) := by decide +kernel
theorem dX7_stuckAs_23 : decode cX7_stuckAs 23 = .ok (.idiv, 1) := by decide +kernel
theorem dX7_stuckAs_24 : decode cX7_stuckAs 24 = .ok (.iload_n 0, 1) := by decide +kernel
theorem dX7_stuckAs_25 : decode cX7_stuckAs 25 = .ok (.if_icmp .ne 9, 3) := by decide +kernel
theorem dX7_stuckAs_28 : decode cX7_stuckAs 28 = .ok (.iload_n 3, 1) := by decide +kernel
theorem dX7_stuckAs_29 : decode cX7_stuckAs 29 = .ok (.iconst 2, 1) := by decide +kernel
theorem dX7_stuckAs_30 : decode cX7_stuckAs 30 = .ok (.irem, 1) := by decide +kernel
theorem dX7_stuckAs_31 : decode cX7_stuckAs 31 = .ok (.goto 4, 3) := by decide +kernel
theorem dX7_stuckAs_34 : decode cX7_stuckAs 34 = .ok (.iload_n 1, 1) := by decide +kernel
theorem dX7_stuckAs_35 : decode cX7_stuckAs 35 = .ok (.ireturn, 1) := by decide +kernel
set_option maxRecDepth 20000 in
theorem ggX7_lets_X7_wires : GoodIn wsX7_lets wsX7_wires := goodIn_r _ [7, 1, 11, 12, 13, 14, 15, 16, 17, 18, 19, 20, 21, 22, 23, 24] (by decide +kernel) (by decide +kernel)
set_option maxRecDepth 20000 in
theorem gX7_lets_X7_wires : GoodIn wsX7_lets (wsV RX7 83 RX7 yX7_wires wsX7_wires) := goodIn_app (goodIn_of _ (by decide +kernel)) ggX7_lets_X7_wires
set_option maxRecDepth 20000 in
theorem ggX7_lets_X7_stuckAs : GoodIn wsX7_lets wsX7_stuckAs := goodIn_r _ [10] (by decide +kernel) (by decide +kernel)
set_option maxRecDepth 20000 in
theorem gX7_lets_X7_stuckAs : GoodIn wsX7_lets (va_wsS RX7 98 yX7_stuckAs wsX7_stuckAs) := goodIn_app (goodIn_of _ (by decide +kernel)) ggX7_lets_X7_stuckAs
theorem dX7_lets_0 : decode cX7_lets 0 = .ok (.iconst 0, 1) := by decide +kernel
theorem dX7_lets_1 : decode cX7_lets 1 = .ok (.istore 4, 2) := by decide +kernel
theorem dX7_lets_3 : decode cX7_lets 3 = .ok (.iload 4, 2) := by decide +kernel
theorem dX7_lets_5 : decode cX7_lets 5 = .ok (.aload_n 0, 1) := by decide +kernel
theorem dX7_lets_6 : decode cX7_lets 6 = .ok (.invokevirtual 83, 3) := by decide +kernel
theorem dX7_lets_9 : decode cX7_lets 9 = .ok (.if_icmp .ge 156, 3) := by decide +kernel
theorem dX7_lets_12 : decode cX7_lets 12 = .ok (.iload_n 1, 1) := by decide +kernel
theorem dX7_lets_13 : decode cX7_lets 13 = .ok (.iload 4, 2) := by decide +kernel
theorem dX7_lets_15 : decode cX7_lets 15 = .ok (.ishr, 1) := by decide +kernel
theorem dX7_lets_16 : decode cX7_lets 16 = .ok (.iconst 1, 1) := by decide +kernel
theorem dX7_lets_17 : decode cX7_lets 17 = .ok (.iand, 1) := by decide +kernel
theorem dX7_lets_18 : decode cX7_lets 18 = .ok (.istore 5, 2) := by decide +kernel
theorem dX7_lets_20 : decode cX7_lets 20 = .ok (.iload 4, 2) := by decide +kernel
theorem dX7_lets_22 : decode cX7_lets 22 = .ok (.aload_n 0, 1) := by decide +kernel
theorem dX7_lets_23 : decode cX7_lets 23 = .ok (.getfield 13, 3) := by decide +kernel
theorem dX7_lets_26 : decode cX7_lets 26 = .ok (.iconst 0, 1) := by decide +kernel
theorem dX7_lets_27 : decode cX7_lets 27 = .ok (.iaload, 1) := by decide +kernel
theorem dX7_lets_28 : decode cX7_lets 28 = .ok (.if_icmp .lt 115, 3) := by decide +kernel
theorem dX7_lets_31 : decode cX7_lets 31 = .ok (.bipush 6, 2) := by decide +kernel
theorem dX7_lets_33 : decode cX7_lets 33 = .ok (.iconst 3, 1) := by decide +kernel
theorem dX7_lets_34 : decode cX7_lets 34 = .ok (.iload 4, 2) := by decide +kernel
theorem dX7_lets_36 : decode cX7_lets 36 = .ok (.aload_n 0, 1) := by decide +kernel
theorem dX7_lets_37 : decode cX7_lets 37 = .ok (.getfield 13, 3) := by decide +kernel
theorem dX7_lets_40 : decode cX7_lets 40 = .ok (.iconst 0, 1) := by decide +kernel
theorem dX7_lets_41 : decode cX7_lets 41 = .ok (.iaload, 1) := by decide +kernel
theorem dX7_lets_42 : decode cX7_lets 42 = .ok (.isub, 1) := by decide +kernel
theorem dX7_lets_43 : decode cX7_lets 43 = .ok (.imul, 1) := by decide +kernel
theorem dX7_lets_44 : decode cX7_lets 44 = .ok (.iadd, 1) := by decide +kernel
theorem dX7_lets_45 : decode cX7_lets 45 = .ok (.istore 6, 2) := by decide +kernel
theorem dX7_lets_47 : decode cX7_lets 47 = .ok (.aload_n 0, 1) := by decide +kernel
theorem dX7_lets_48 : decode cX7_lets 48 = .ok (.getfield 22, 3) := by decide +kernel
theorem dX7_lets_51 : decode cX7_lets 51 = .ok (.aload_n 0, 1) := by decide +kernel
theorem dX7_lets_52 : decode cX7_lets 52 = .ok (.getfield 13, 3) := by decide +kernel
theorem dX7_lets_55 : decode cX7_lets 55 = .ok (.iload 6, 2) := by decide +kernel
theorem dX7_lets_57 : decode cX7_lets 57 = .ok (.iconst 1, 1) := by decide +kernel
theorem dX7_lets_58 : decode cX7_lets 58 = .ok (.iadd, 1) := by decide +kernel
theorem dX7_lets_59 : decode cX7_lets 59 = .ok (.iaload, 1) := by decide +kernel
theorem dX7_lets_60 : decode cX7_lets 60 = .ok (.iaload, 1) := by decide +kernel
theorem dX7_lets_61 : decode cX7_lets 61 = .ok (.istore 7, 2) := by decide +kernel
theorem dX7_lets_63 : decode cX7_lets 63 = .ok (.aload_n 0, 1) := by decide +kernel
theorem dX7_lets_64 : decode cX7_lets 64 = .ok (.getfield 22, 3) := by decide +kernel
theorem dX7_lets_67 : decode cX7_lets 67 = .ok (.aload_n 0, 1) := by decide +kernel
theorem dX7_lets_68 : decode cX7_lets 68 = .ok (.getfield 13, 3) := by decide +kernel
theorem dX7_lets_71 : decode cX7_lets 71 = .ok (.iload 6, 2) := by decide +kernel
theorem dX7_lets_73 : decode cX7_lets 73 = .ok (.iconst 2, 1) := by decide +kernel
theorem dX7_lets_74 : decode cX7_lets 74 = .ok (.iadd, 1) := by decide +kernel
theorem dX7_lets_75 : decode cX7_lets 75 = .ok (.iaload, 1) := by decide +kernel
theorem dX7_lets_76 : decode cX7_lets 76 = .ok (.iaload, 1) := by decide +kernel
theorem dX7_lets_77 : decode cX7_lets 77 = .ok (.istore 8, 2) := by decide +kernel
theorem dX7_lets_79 : decode cX7_lets 79 = .ok (.aload_n 0, 1) := by decide +kernel
theorem dX7_lets_80 : decode cX7_lets 80 = .ok (.getfield 13, 3) := by decide +kernel
theorem dX7_lets_83 : decode cX7_lets 83 = .ok (.iload 6, 2) := by decide +kernel
theorem dX7_lets_85 : decode cX7_lets 85 = .ok (.iaload, 1) := by decide +kernel
theorem dX7_lets_86 : decode cX7_lets 86 = .ok (.istore 9, 2) := by decide +kernel
theorem dX7_lets_88 : decode cX7_lets 88 = .ok (.iload 9, 2) := by decide +kernel
theorem dX7_lets_90 : decode cX7_lets 90 = .ok (.iconst 3, 1) := by decide +kernel
theorem dX7_lets_91 : decode cX7_lets 91 = .ok (.irem, 1) := by decide +kernel
theorem dX7_lets_92 : decode cX7_lets 92 = .ok (.ifCond .ne 11, 3) := by decide +kernel
theorem dX7_lets_95 : decode cX7_lets 95 = .ok (.iload 7, 2) := by decide +kernel
theorem dX7_lets_97 : decode cX7_lets 97 = .ok (.iload 8, 2) := by decide +kernel
theorem dX7_lets_99 : decode cX7_lets 99 = .ok (.iand, 1) := by decide +kernel
theorem dX7_lets_100 : decode cX7_lets 100 = .ok (.goto 24, 3) := by decide +kernel
theorem dX7_lets_103 : decode cX7_lets 103 = .ok (.iload 9, 2) := by decide +kernel
theorem dX7_lets_105 : decode cX7_lets 105 = .ok (.iconst 3, 1) := by decide +kernel
theorem dX7_lets_106 : decode cX7_lets 106 = .ok (.irem, 1) := by decide +kernel
theorem dX7_lets_107 : decode cX7_lets 107 = .ok (.iconst 1, 1) := by decide +kernel
theorem dX7_lets_108 : decode cX7_lets 108 = .ok (.if_icmp .ne 11, 3) := by decide +kernel
theorem dX7_lets_111 : decode cX7_lets 111 = .ok (.iload 7, 2) := by decide +kernel
theorem dX7_lets_113 : decode cX7_lets 113 = .ok (.iload 8, 2) := by decide +kernel
theorem dX7_lets_115 : decode cX7_lets 115 = .ok (.ior, 1) := by decide +kernel
theorem dX7_lets_116 : decode cX7_lets 116 = .ok (.goto 8, 3) := by decide +kernel
theorem dX7_lets_119 : decode cX7_lets 119 = .ok (.iload 7, 2) := by decide +kernel
theorem dX7_lets_121 : decode cX7_lets 121 = .ok (.iload 8, 2) := by decide +kernel
theorem dX7_lets_123 : decode cX7_lets 123 = .ok (.ixor, 1) := by decide +kernel
theorem dX7_lets_124 : decode cX7_lets 124 = .ok (.istore 10, 2) := by decide +kernel
theorem dX7_lets_126 : decode cX7_lets 126 = .ok (.iload 9, 2) := by decide +kernel
theorem dX7_lets_128 : decode cX7_lets 128 = .ok (.iconst 3, 1) := by decide +kernel
theorem dX7_lets_129 : decode cX7_lets 129 = .ok (.if_icmp .ge 8, 3) := by decide +kernel
theorem dX7_lets_132 : decode cX7_lets 132 = .ok (.iload 10, 2) := by decide +kernel
theorem dX7_lets_134 : decode cX7_lets 134 = .ok (.goto 7, 3) := by decide +kernel
theorem dX7_lets_137 : decode cX7_lets 137 = .ok (.iconst 1, 1) := by decide +kernel
theorem dX7_lets_138 : decode cX7_lets 138 = .ok (.iload 10, 2) := by decide +kernel
theorem dX7_lets_140 : decode cX7_lets 140 = .ok (.isub, 1) := by decide +kernel
theorem dX7_lets_141 : decode cX7_lets 141 = .ok (.istore 5, 2) := by decide +kernel
theorem dX7_lets_143 : decode cX7_lets 143 = .ok (.aload_n 0, 1) := by decide +kernel
theorem dX7_lets_144 : decode cX7_lets 144 = .ok (.getfield 22, 3) := by decide +kernel
theorem dX7_lets_147 : decode cX7_lets 147 = .ok (.iload 4, 2) := by decide +kernel
theorem dX7_lets_149 : decode cX7_lets 149 = .ok (.iload 4, 2) := by decide +kernel
theorem dX7_lets_151 : decode cX7_lets 151 = .ok (.iload 5, 2) := by decide +kernel
theorem dX7_lets_153 : decode cX7_lets 153 = .ok (.iload_n 2, 1) := by decide +kernel
theorem dX7_lets_154 : decode cX7_lets 154 = .ok (.iload_n 3, 1) := by decide +kernel
theorem dX7_lets_155 : decode cX7_lets 155 = .ok (.invokestatic 98, 3) := by decide +kernel
theorem dX7_lets_158 : decode cX7_lets 158 = .ok (.iastore, 1) := by decide +kernel
theorem dX7_lets_159 : decode cX7_lets 159 = .ok (.iinc 4 1, 3) := by decide +kernel
theorem dX7_lets_162 : decode cX7_lets 162 = .ok (.goto (-159), 3) := by decide +kernel
theorem dX7_lets_165 : decode cX7_lets 165 = .ok (.iconst 2, 1) := by decide +kernel
theorem dX7_lets_166 : decode cX7_lets 166 = .ok (.aload_n 0, 1) := by decide +kernel
theorem dX7_lets_167 : decode cX7_lets 167 = .ok (.getfield 22, 3) := by decide +kernel
theorem dX7_lets_170 : decode cX7_lets 170 = .ok (.aload_n 0, 1) := by decide +kernel
theorem dX7_lets_171 : decode cX7_lets 171 = .ok (.getfield 13, 3) := by decide +kernel
theorem dX7_lets_174 : decode cX7_lets 174 = .ok (.iconst 2, 1) := by decide +kernel
theorem dX7_lets_175 : decode cX7_lets 175 = .ok (.iaload, 1) := by decide +kernel
theorem dX7_lets_176 : decode cX7_lets 176 = .ok (.iaload, 1) := by decide +kernel
theorem dX7_lets_177 : decode cX7_lets 177 = .ok (.imul, 1) := by decide +kernel
theorem dX7_lets_178 : decode cX7_lets 178 = .ok (.aload_n 0, 1) := by decide +kernel
theorem dX7_lets_179 : decode cX7_lets 179 = .ok (.getfield 22, 3) := by decide +kernel
theorem dX7_lets_182 : decode cX7_lets 182 = .ok (.aload_n 0, 1) := by decide +kernel
theorem dX7_lets_183 : decode cX7_lets 183 = .ok (.getfield 13, 3) := by decide +kernel
theorem dX7_lets_186 : decode cX7_lets 186 = .ok (.iconst 3, 1) := by decide +kernel
theorem dX7_lets_187 : decode cX7_lets 187 = .ok (.iaload, 1) := by decide +kernel
theorem dX7_lets_188 : decode cX7_lets 188 = .ok (.iaload, 1) := by decide +kernel
theorem dX7_lets_189 : decode cX7_lets 189 = .ok (.iadd, 1) := by decide +kernel
theorem dX7_lets_190 : decode cX7_lets 190 = .ok (.ireturn, 1) := by decide +kernel
theorem dX7_isValid_0 : decode cX7_isValid 0 = .ok (.iload_n 0, 1) := by decide +kernel
theorem dX7_isValid_1 : decode cX7_isValid 1 = .ok (.iconst 1, 1) := by decide +kernel
theorem dX7_isValid_2 : decode cX7_isValid 2 = .ok (.if_icmp .eq 8, 3) := by decide +kernel
theorem dX7_isValid_5 : decode cX7_isValid 5 = .ok (.iload_n 0, 1) := by decide +kernel
theorem dX7_isValid_6 : decode cX7_isValid 6 = .ok (.iconst 2, 1) := by decide +kernel
theorem dX7_isValid_7 : decode cX7_isValid 7 = .ok (.if_icmp .ne 7, 3) := by decide +kernel
theorem dX7_isValid_10 : decode cX7_isValid 10 = .ok (.iconst 1, 1) := by decide +kernel
theorem dX7_isValid_11 : decode cX7_isValid 11 = .ok (.goto 4, 3) := by decide +kernel
theorem dX7_isValid_14 : decode cX7_isValid 14 = .ok (.iconst 0, 1) := by decide +kernel
theorem dX7_isValid_15 : decode cX7_isValid 15 = .ok (.ireturn, 1) := by decide +kernel
