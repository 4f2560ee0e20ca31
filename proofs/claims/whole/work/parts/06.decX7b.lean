set_option maxRecDepth 20000 in
theorem ggX7_gateOf_X7_isGate : GoodIn wsX7_gateOf wsX7_isGate := goodIn_r _ [6, 1, 7, 8, 5, 9, 10, 11, 12, 13, 14, 15, 16, 17, 18, 19, 20, 21, 22, 23] (by decide +kernel) (by decide +kernel)
set_option maxRecDepth 20000 in
theorem gX7_gateOf_X7_isGate : GoodIn wsX7_gateOf (wsV RX7 86 RX7 yX7_isGate wsX7_isGate) := goodIn_app (goodIn_of _ (by decide +kernel)) ggX7_gateOf_X7_isGate
set_option maxRecDepth 20000 in
theorem ggX7_gateOf_X7_isIn : GoodIn wsX7_gateOf wsX7_isIn := goodIn_r _ [9] (by decide +kernel) (by decide +kernel)
set_option maxRecDepth 20000 in
theorem gX7_gateOf_X7_isIn : GoodIn wsX7_gateOf (va_wsS RX7 36 yX7_isIn wsX7_isIn) := goodIn_app (goodIn_of _ (by decide +kernel)) ggX7_gateOf_X7_isIn
theorem dX7_gateOf_0 : decode cX7_gateOf 0 = .ok (.aload_n 0, 1) := by decide +kernel
theorem dX7_gateOf_1 : decode cX7_gateOf 1 = .ok (.iload_n 1, 1) := by decide +kernel
theorem dX7_gateOf_2 : decode cX7_gateOf 2 = .ok (.invokevirtual 86, 3) := by decide +kernel
theorem dX7_gateOf_5 : decode cX7_gateOf 5 = .ok (.ifCond .eq 12, 3) := by decide +kernel
theorem dX7_gateOf_8 : decode cX7_gateOf 8 = .ok (.iload_n 2, 1) := by decide +kernel
theorem dX7_gateOf_9 : decode cX7_gateOf 9 = .ok (.iconst 0, 1) := by decide +kernel
theorem dX7_gateOf_10 : decode cX7_gateOf 10 = .ok (.iconst 3, 1) := by decide +kernel
theorem dX7_gateOf_11 : decode cX7_gateOf 11 = .ok (.invokestatic 36, 3) := by decide +kernel
theorem dX7_gateOf_14 : decode cX7_gateOf 14 = .ok (.ifCond .ne 5, 3) := by decide +kernel
theorem dX7_gateOf_17 : decode cX7_gateOf 17 = .ok (.iconst (-1), 1) := by decide +kernel
theorem dX7_gateOf_18 : decode cX7_gateOf 18 = .ok (.ireturn, 1) := by decide +kernel
theorem dX7_gateOf_19 : decode cX7_gateOf 19 = .ok (.iload_n 2, 1) := by decide +kernel
theorem dX7_gateOf_20 : decode cX7_gateOf 20 = .ok (.iconst 3, 1) := by decide +kernel
theorem dX7_gateOf_21 : decode cX7_gateOf 21 = .ok (.if_icmp .ge 17, 3) := by decide +kernel
theorem dX7_gateOf_24 : decode cX7_gateOf 24 = .ok (.aload_n 0, 1) := by decide +kernel
theorem dX7_gateOf_25 : decode cX7_gateOf 25 = .ok (.getfield 13, 3) := by decide +kernel
theorem dX7_gateOf_28 : decode cX7_gateOf 28 = .ok (.bipush 6, 2) := by decide +kernel
theorem dX7_gateOf_30 : decode cX7_gateOf 30 = .ok (.iconst 3, 1) := by decide +kernel
theorem dX7_gateOf_31 : decode cX7_gateOf 31 = .ok (.iload_n 1, 1) := by decide +kernel
theorem dX7_gateOf_32 : decode cX7_gateOf 32 = .ok (.imul, 1) := by decide +kernel
theorem dX7_gateOf_33 : decode cX7_gateOf 33 = .ok (.iadd, 1) := by decide +kernel
theorem dX7_gateOf_34 : decode cX7_gateOf 34 = .ok (.iload_n 2, 1) := by decide +kernel
theorem dX7_gateOf_35 : decode cX7_gateOf 35 = .ok (.iadd, 1) := by decide +kernel
theorem dX7_gateOf_36 : decode cX7_gateOf 36 = .ok (.iaload, 1) := by decide +kernel
theorem dX7_gateOf_37 : decode cX7_gateOf 37 = .ok (.ireturn, 1) := by decide +kernel
theorem dX7_gateOf_38 : decode cX7_gateOf 38 = .ok (.iconst 0, 1) := by decide +kernel
theorem dX7_gateOf_39 : decode cX7_gateOf 39 = .ok (.istore_n 3, 1) := by decide +kernel
theorem dX7_gateOf_40 : decode cX7_gateOf 40 = .ok (.aload_n 0, 1) := by decide +kernel
theorem dX7_gateOf_41 : decode cX7_gateOf 41 = .ok (.getfield 13, 3) := by decide +kernel
theorem dX7_gateOf_44 : decode cX7_gateOf 44 = .ok (.iconst 0, 1) := by decide +kernel
theorem dX7_gateOf_45 : decode cX7_gateOf 45 = .ok (.iaload, 1) := by decide +kernel
theorem dX7_gateOf_46 : decode cX7_gateOf 46 = .ok (.iload_n 1, 1) := by decide +kernel
theorem dX7_gateOf_47 : decode cX7_gateOf 47 = .ok (.iadd, 1) := by decide +kernel
theorem dX7_gateOf_48 : decode cX7_gateOf 48 = .ok (.istore 4, 2) := by decide +kernel
theorem dX7_gateOf_50 : decode cX7_gateOf 50 = .ok (.iconst 0, 1) := by decide +kernel
theorem dX7_gateOf_51 : decode cX7_gateOf 51 = .ok (.istore 5, 2) := by decide +kernel
theorem dX7_gateOf_53 : decode cX7_gateOf 53 = .ok (.iload 5, 2) := by decide +kernel
theorem dX7_gateOf_55 : decode cX7_gateOf 55 = .ok (.aload_n 0, 1) := by decide +kernel
theorem dX7_gateOf_56 : decode cX7_gateOf 56 = .ok (.getfield 13, 3) := by decide +kernel
theorem dX7_gateOf_59 : decode cX7_gateOf 59 = .ok (.iconst 1, 1) := by decide +kernel
theorem dX7_gateOf_60 : decode cX7_gateOf 60 = .ok (.iaload, 1) := by decide +kernel
theorem dX7_gateOf_61 : decode cX7_gateOf 61 = .ok (.if_icmp .ge 51, 3) := by decide +kernel
theorem dX7_gateOf_64 : decode cX7_gateOf 64 = .ok (.iload_n 3, 1) := by decide +kernel
theorem dX7_gateOf_65 : decode cX7_gateOf 65 = .ok (.aload_n 0, 1) := by decide +kernel
theorem dX7_gateOf_66 : decode cX7_gateOf 66 = .ok (.getfield 13, 3) := by decide +kernel
theorem dX7_gateOf_69 : decode cX7_gateOf 69 = .ok (.bipush 7, 2) := by decide +kernel
theorem dX7_gateOf_71 : decode cX7_gateOf 71 = .ok (.iconst 3, 1) := by decide +kernel
theorem dX7_gateOf_72 : decode cX7_gateOf 72 = .ok (.iload 5, 2) := by decide +kernel
theorem dX7_gateOf_74 : decode cX7_gateOf 74 = .ok (.imul, 1) := by decide +kernel
theorem dX7_gateOf_75 : decode cX7_gateOf 75 = .ok (.iadd, 1) := by decide +kernel
theorem dX7_gateOf_76 : decode cX7_gateOf 76 = .ok (.iaload, 1) := by decide +kernel
theorem dX7_gateOf_77 : decode cX7_gateOf 77 = .ok (.iload 4, 2) := by decide +kernel
theorem dX7_gateOf_79 : decode cX7_gateOf 79 = .ok (.if_icmp .eq 20, 3) := by decide +kernel
theorem dX7_gateOf_82 : decode cX7_gateOf 82 = .ok (.aload_n 0, 1) := by decide +kernel
theorem dX7_gateOf_83 : decode cX7_gateOf 83 = .ok (.getfield 13, 3) := by decide +kernel
theorem dX7_gateOf_86 : decode cX7_gateOf 86 = .ok (.bipush 8, 2) := by decide +kernel
theorem dX7_gateOf_88 : decode cX7_gateOf 88 = .ok (.iconst 3, 1) := by decide +kernel
theorem dX7_gateOf_89 : decode cX7_gateOf 89 = .ok (.iload 5, 2) := by decide +kernel
theorem dX7_gateOf_91 : decode cX7_gateOf 91 = .ok (.imul, 1) := by decide +kernel
theorem dX7_gateOf_92 : decode cX7_gateOf 92 = .ok (.iadd, 1) := by decide +kernel
theorem dX7_gateOf_93 : decode cX7_gateOf 93 = .ok (.iaload, 1) := by decide +kernel
theorem dX7_gateOf_94 : decode cX7_gateOf 94 = .ok (.iload 4, 2) := by decide +kernel
theorem dX7_gateOf_96 : decode cX7_gateOf 96 = .ok (.if_icmp .ne 7, 3) := by decide +kernel
theorem dX7_gateOf_99 : decode cX7_gateOf 99 = .ok (.iconst 1, 1) := by decide +kernel
theorem dX7_gateOf_100 : decode cX7_gateOf 100 = .ok (.goto 4, 3) := by decide +kernel
theorem dX7_gateOf_103 : decode cX7_gateOf 103 = .ok (.iconst 0, 1) := by decide +kernel
theorem dX7_gateOf_104 : decode cX7_gateOf 104 = .ok (.iadd, 1) := by decide +kernel
theorem dX7_gateOf_105 : decode cX7_gateOf 105 = .ok (.istore_n 3, 1) := by decide +kernel
theorem dX7_gateOf_106 : decode cX7_gateOf 106 = .ok (.iinc 5 1, 3) := by decide +kernel
theorem dX7_gateOf_109 : decode cX7_gateOf 109 = .ok (.goto (-56), 3) := by decide +kernel
theorem dX7_gateOf_112 : decode cX7_gateOf 112 = .ok (.iload_n 3, 1) := by decide +kernel
theorem dX7_gateOf_113 : decode cX7_gateOf 113 = .ok (.ireturn, 1) := by decide +kernel
set_option maxRecDepth 20000 in
theorem ggX7_wire_X7_isWord : GoodIn wsX7_wire wsX7_isWord := goodIn_r _ [6, 7, 8, 9, 5, 10, 26, 27, 28, 29, 30, 31, 32, 33, 34, 35, 36, 37, 38, 39] (by decide +kernel) (by decide +kernel)
set_option maxRecDepth 20000 in
theorem gX7_wire_X7_isWord : GoodIn wsX7_wire (wsV RX7 102 RX7 yX7_isWord wsX7_isWord) := goodIn_app (goodIn_of _ (by decide +kernel)) ggX7_wire_X7_isWord
set_option maxRecDepth 20000 in
theorem ggX7_wire_X7_isWire : GoodIn wsX7_wire wsX7_isWire := goodIn_r _ [14, 15, 16, 17, 5, 18, 7, 8, 9, 10, 26, 27, 28, 29, 30, 31, 32, 33, 34, 35, 36, 37, 38, 39] (by decide +kernel) (by decide +kernel)
set_option maxRecDepth 20000 in
theorem gX7_wire_X7_isWire : GoodIn wsX7_wire (wsV RX7 92 RX7 yX7_isWire wsX7_isWire) := goodIn_app (goodIn_of _ (by decide +kernel)) ggX7_wire_X7_isWire
set_option maxRecDepth 20000 in
theorem ggX7_wire_X7_lets : GoodIn wsX7_wire wsX7_lets := goodIn_r _ [22, 7, 1, 15, 16, 17, 5, 18, 23, 24, 25, 26, 27, 28, 29, 30, 31, 32, 33, 34, 35, 36, 37, 38, 39] (by decide +kernel) (by decide +kernel)
set_option maxRecDepth 20000 in
theorem gX7_wire_X7_lets : GoodIn wsX7_wire (wsV RX7 105 RX7 yX7_lets wsX7_lets) := goodIn_app (goodIn_of _ (by decide +kernel)) ggX7_wire_X7_lets
theorem dX7_wire_0 : decode cX7_wire 0 = .ok (.aload_n 0, 1) := by decide +kernel
theorem dX7_wire_1 : decode cX7_wire 1 = .ok (.iload_n 1, 1) := by decide +kernel
theorem dX7_wire_2 : decode cX7_wire 2 = .ok (.invokevirtual 102, 3) := by decide +kernel
theorem dX7_wire_5 : decode cX7_wire 5 = .ok (.ifCond .eq 11, 3) := by decide +kernel
theorem dX7_wire_8 : decode cX7_wire 8 = .ok (.aload_n 0, 1) := by decide +kernel
theorem dX7_wire_9 : decode cX7_wire 9 = .ok (.iload_n 2, 1) := by decide +kernel
theorem dX7_wire_10 : decode cX7_wire 10 = .ok (.invokevirtual 92, 3) := by decide +kernel
theorem dX7_wire_13 : decode cX7_wire 13 = .ok (.ifCond .ne 5, 3) := by decide +kernel
theorem dX7_wire_16 : decode cX7_wire 16 = .ok (.iconst (-1), 1) := by decide +kernel
theorem dX7_wire_17 : decode cX7_wire 17 = .ok (.ireturn, 1) := by decide +kernel
theorem dX7_wire_18 : decode cX7_wire 18 = .ok (.aload_n 0, 1) := by decide +kernel
theorem dX7_wire_19 : decode cX7_wire 19 = .ok (.iload_n 1, 1) := by decide +kernel
theorem dX7_wire_20 : decode cX7_wire 20 = .ok (.bipush (-4), 2) := by decide +kernel
theorem dX7_wire_22 : decode cX7_wire 22 = .ok (.bipush (-4), 2) := by decide +kernel
theorem dX7_wire_24 : decode cX7_wire 24 = .ok (.invokevirtual 105, 3) := by decide +kernel
theorem dX7_wire_27 : decode cX7_wire 27 = .ok (.pop, 1) := by decide +kernel
theorem dX7_wire_28 : decode cX7_wire 28 = .ok (.aload_n 0, 1) := by decide +kernel
theorem dX7_wire_29 : decode cX7_wire 29 = .ok (.getfield 22, 3) := by decide +kernel
theorem dX7_wire_32 : decode cX7_wire 32 = .ok (.iload_n 2, 1) := by decide +kernel
theorem dX7_wire_33 : decode cX7_wire 33 = .ok (.iaload, 1) := by decide +kernel
theorem dX7_wire_34 : decode cX7_wire 34 = .ok (.ireturn, 1) := by decide +kernel
set_option maxRecDepth 20000 in
theorem ggX7_out_X7_isWord : GoodIn wsX7_out wsX7_isWord := goodIn_r _ [5, 6, 7, 8, 4, 9, 26, 27, 28, 29, 30, 31, 32, 33, 34, 35, 36, 37, 38, 39] (by decide +kernel) (by decide +kernel)
set_option maxRecDepth 20000 in
theorem gX7_out_X7_isWord : GoodIn wsX7_out (wsV RX7 102 RX7 yX7_isWord wsX7_isWord) := goodIn_app (goodIn_of _ (by decide +kernel)) ggX7_out_X7_isWord
set_option maxRecDepth 20000 in
theorem ggX7_out_X7_isStuck : GoodIn wsX7_out wsX7_isStuck := goodIn_r _ [13, 14, 15, 16, 4, 17, 6, 7, 8, 9, 26, 27, 28, 29, 30, 31, 32, 33, 34, 35, 36, 37, 38, 39] (by decide +kernel) (by decide +kernel)
set_option maxRecDepth 20000 in
theorem gX7_out_X7_isStuck : GoodIn wsX7_out (wsV RX7 109 RX7 yX7_isStuck wsX7_isStuck) := goodIn_app (goodIn_of _ (by decide +kernel)) ggX7_out_X7_isStuck
set_option maxRecDepth 20000 in
theorem ggX7_out_X7_lets : GoodIn wsX7_out wsX7_lets := goodIn_r _ [21, 6, 22, 14, 15, 16, 4, 17, 23, 24, 25, 26, 27, 28, 29, 30, 31, 32, 33, 34, 35, 36, 37, 38, 39] (by decide +kernel) (by decide +kernel)
set_option maxRecDepth 20000 in
theorem gX7_out_X7_lets : GoodIn wsX7_out (wsV RX7 105 RX7 yX7_lets wsX7_lets) := goodIn_app (goodIn_of _ (by decide +kernel)) ggX7_out_X7_lets
theorem dX7_out_0 : decode cX7_out 0 = .ok (.aload_n 0, 1) := by decide +kernel
theorem dX7_out_1 : decode cX7_out 1 = .ok (.iload_n 1, 1) := by decide +kernel
theorem dX7_out_2 : decode cX7_out 2 = .ok (.invokevirtual 102, 3) := by decide +kernel
theorem dX7_out_5 : decode cX7_out 5 = .ok (.ifCond .eq 27, 3) := by decide +kernel
theorem dX7_out_8 : decode cX7_out 8 = .ok (.iload_n 2, 1) := by decide +kernel
theorem dX7_out_9 : decode cX7_out 9 = .ok (.iconst (-1), 1) := by decide +kernel
theorem dX7_out_10 : decode cX7_out 10 = .ok (.if_icmp .eq 11, 3) := by decide +kernel
theorem dX7_out_13 : decode cX7_out 13 = .ok (.aload_n 0, 1) := by decide +kernel
theorem dX7_out_14 : decode cX7_out 14 = .ok (.iload_n 2, 1) := by decide +kernel
theorem dX7_out_15 : decode cX7_out 15 = .ok (.invokevirtual 109, 3) := by decide +kernel
theorem dX7_out_18 : decode cX7_out 18 = .ok (.ifCond .eq 14, 3) := by decide +kernel
theorem dX7_out_21 : decode cX7_out 21 = .ok (.aload_n 0, 1) := by decide +kernel
theorem dX7_out_22 : decode cX7_out 22 = .ok (.iload_n 1, 1) := by decide +kernel
theorem dX7_out_23 : decode cX7_out 23 = .ok (.iload_n 2, 1) := by decide +kernel
theorem dX7_out_24 : decode cX7_out 24 = .ok (.bipush (-4), 2) := by decide +kernel
theorem dX7_out_26 : decode cX7_out 26 = .ok (.invokevirtual 105, 3) := by decide +kernel
theorem dX7_out_29 : decode cX7_out 29 = .ok (.goto 4, 3) := by decide +kernel
theorem dX7_out_32 : decode cX7_out 32 = .ok (.iconst (-1), 1) := by decide +kernel
theorem dX7_out_33 : decode cX7_out 33 = .ok (.ireturn, 1) := by decide +kernel
theorem dX7_ones_0 : decode cX7_ones 0 = .ok (.iconst 0, 1) := by decide +kernel
theorem dX7_ones_1 : decode cX7_ones 1 = .ok (.istore_n 1, 1) := by decide +kernel
theorem dX7_ones_2 : decode cX7_ones 2 = .ok (.iconst 0, 1) := by decide +kernel
theorem dX7_ones_3 : decode cX7_ones 3 = .ok (.istore_n 2, 1) := by decide +kernel
theorem dX7_ones_4 : decode cX7_ones 4 = .ok (.iload_n 2, 1) := by decide +kernel
theorem dX7_ones_5 : decode cX7_ones 5 = .ok (.bipush 8, 2) := by decide +kernel
theorem dX7_ones_7 : decode cX7_ones 7 = .ok (.if_icmp .ge 17, 3) := by decide +kernel
theorem dX7_ones_10 : decode cX7_ones 10 = .ok (.iload_n 1, 1) := by decide +kernel
theorem dX7_ones_11 : decode cX7_ones 11 = .ok (.iload_n 0, 1) := by decide +kernel
theorem dX7_ones_12 : decode cX7_ones 12 = .ok (.iload_n 2, 1) := by decide +kernel
theorem dX7_ones_13 : decode cX7_ones 13 = .ok (.ishr, 1) := by decide +kernel
theorem dX7_ones_14 : decode cX7_ones 14 = .ok (.iconst 1, 1) := by decide +kernel
theorem dX7_ones_15 : decode cX7_ones 15 = .ok (.iand, 1) := by decide +kernel
theorem dX7_ones_16 : decode cX7_ones 16 = .ok (.iadd, 1) := by decide +kernel
theorem dX7_ones_17 : decode cX7_ones 17 = .ok (.istore_n 1, 1) := by decide +kernel
theorem dX7_ones_18 : decode cX7_ones 18 = .ok (.iinc 2 1, 3) := by decide +kernel
theorem dX7_ones_21 : decode cX7_ones 21 = .ok (.goto (-17), 3) := by decide +kernel
theorem dX7_ones_24 : decode cX7_ones 24 = .ok (.iload_n 1, 1) := by decide +kernel
theorem dX7_ones_25 : decode cX7_ones 25 = .ok (.ireturn, 1) := by decide +kernel
set_option maxRecDepth 20000 in
theorem ggX7_isCode_X7_ones : GoodIn wsX7_isCode wsX7_ones := goodIn_r _ [5] (by decide +kernel) (by decide +kernel)
set_option maxRecDepth 20000 in
theorem gX7_isCode_X7_ones : GoodIn wsX7_isCode (va_wsS RX7 112 yX7_ones wsX7_ones) := goodIn_app (goodIn_of _ (by decide +kernel)) ggX7_isCode_X7_ones
theorem dX7_isCode_0 : decode cX7_isCode 0 = .ok (.aload_n 0, 1) := by decide +kernel
theorem dX7_isCode_1 : decode cX7_isCode 1 = .ok (.getfield 13, 3) := by decide +kernel
theorem dX7_isCode_4 : decode cX7_isCode 4 = .ok (.iconst 0, 1) := by decide +kernel
theorem dX7_isCode_5 : decode cX7_isCode 5 = .ok (.iaload, 1) := by decide +kernel
theorem dX7_isCode_6 : decode cX7_isCode 6 = .ok (.istore_n 2, 1) := by decide +kernel
theorem dX7_isCode_7 : decode cX7_isCode 7 = .ok (.aload_n 0, 1) := by decide +kernel
theorem dX7_isCode_8 : decode cX7_isCode 8 = .ok (.getfield 13, 3) := by decide +kernel
theorem dX7_isCode_11 : decode cX7_isCode 11 = .ok (.iconst 5, 1) := by decide +kernel
theorem dX7_isCode_12 : decode cX7_isCode 12 = .ok (.iaload, 1) := by decide +kernel
theorem dX7_isCode_13 : decode cX7_isCode 13 = .ok (.istore_n 3, 1) := by decide +kernel
theorem dX7_isCode_14 : decode cX7_isCode 14 = .ok (.aload_n 0, 1) := by decide +kernel
theorem dX7_isCode_15 : decode cX7_isCode 15 = .ok (.getfield 13, 3) := by decide +kernel
theorem dX7_isCode_18 : decode cX7_isCode 18 = .ok (.iconst 4, 1) := by decide +kernel
theorem dX7_isCode_19 : decode cX7_isCode 19 = .ok (.iaload, 1) := by decide +kernel
theorem dX7_isCode_20 : decode cX7_isCode 20 = .ok (.tableswitch 78 0 2 #[28, 30, 44], 28) := by decide +kernel
theorem dX7_isCode_48 : decode cX7_isCode 48 = .ok (.iconst 1, 1) := by decide +kernel
theorem dX7_isCode_49 : decode cX7_isCode 49 = .ok (.ireturn, 1) := by decide +kernel
theorem dX7_isCode_50 : decode cX7_isCode 50 = .ok (.iload_n 1, 1) := by decide +kernel
theorem dX7_isCode_51 : decode cX7_isCode 51 = .ok (.invokestatic 112, 3) := by decide +kernel
theorem dX7_isCode_54 : decode cX7_isCode 54 = .ok (.iload_n 3, 1) := by decide +kernel
theorem dX7_isCode_55 : decode cX7_isCode 55 = .ok (.if_icmp .ne 7, 3) := by decide +kernel
theorem dX7_isCode_58 : decode cX7_isCode 58 = .ok (.iconst 1, 1) := by decide +kernel
theorem dX7_isCode_59 : decode cX7_isCode 59 = .ok (.goto 4, 3) := by decide +kernel
theorem dX7_isCode_62 : decode cX7_isCode 62 = .ok (.iconst 0, 1) := by decide +kernel
theorem dX7_isCode_63 : decode cX7_isCode 63 = .ok (.ireturn, 1) := by decide +kernel
theorem dX7_isCode_64 : decode cX7_isCode 64 = .ok (.iload_n 3, 1) := by decide +kernel
theorem dX7_isCode_65 : decode cX7_isCode 65 = .ok (.iload_n 1, 1) := by decide +kernel
theorem dX7_isCode_66 : decode cX7_isCode 66 = .ok (.iconst 1, 1) := by decide +kernel
theorem dX7_isCode_67 : decode cX7_isCode 67 = .ok (.iload_n 3, 1) := by decide +kernel
theorem dX7_isCode_68 : decode cX7_isCode 68 = .ok (.ishl, 1) := by decide +kernel
theorem dX7_isCode_69 : decode cX7_isCode 69 = .ok (.iconst 1, 1) := by decide +kernel
theorem dX7_isCode_70 : decode cX7_isCode 70 = .ok (.isub, 1) := by decide +kernel
theorem dX7_isCode_71 : decode cX7_isCode 71 = .ok (.iand, 1) := by decide +kernel
theorem dX7_isCode_72 : decode cX7_isCode 72 = .ok (.invokestatic 112, 3) := by decide +kernel
theorem dX7_isCode_75 : decode cX7_isCode 75 = .ok (.isub, 1) := by decide +kernel
theorem dX7_isCode_76 : decode cX7_isCode 76 = .ok (.istore 4, 2) := by decide +kernel
theorem dX7_isCode_78 : decode cX7_isCode 78 = .ok (.iload_n 1, 1) := by decide +kernel
theorem dX7_isCode_79 : decode cX7_isCode 79 = .ok (.iload_n 3, 1) := by decide +kernel
theorem dX7_isCode_80 : decode cX7_isCode 80 = .ok (.ishr, 1) := by decide +kernel
theorem dX7_isCode_81 : decode cX7_isCode 81 = .ok (.iload 4, 2) := by decide +kernel
theorem dX7_isCode_83 : decode cX7_isCode 83 = .ok (.iconst 1, 1) := by decide +kernel
theorem dX7_isCode_84 : decode cX7_isCode 84 = .ok (.iload_n 2, 1) := by decide +kernel
theorem dX7_isCode_85 : decode cX7_isCode 85 = .ok (.iload_n 3, 1) := by decide +kernel
theorem dX7_isCode_86 : decode cX7_isCode 86 = .ok (.isub, 1) := by decide +kernel
theorem dX7_isCode_87 : decode cX7_isCode 87 = .ok (.ishl, 1) := by decide +kernel
theorem dX7_isCode_88 : decode cX7_isCode 88 = .ok (.irem, 1) := by decide +kernel
theorem dX7_isCode_89 : decode cX7_isCode 89 = .ok (.if_icmp .ne 7, 3) := by decide +kernel
theorem dX7_isCode_92 : decode cX7_isCode 92 = .ok (.iconst 1, 1) := by decide +kernel
theorem dX7_isCode_93 : decode cX7_isCode 93 = .ok (.goto 4, 3) := by decide +kernel
theorem dX7_isCode_96 : decode cX7_isCode 96 = .ok (.iconst 0, 1) := by decide +kernel
theorem dX7_isCode_97 : decode cX7_isCode 97 = .ok (.ireturn, 1) := by decide +kernel
theorem dX7_isCode_98 : decode cX7_isCode 98 = .ok (.iconst 1, 1) := by decide +kernel
theorem dX7_isCode_99 : decode cX7_isCode 99 = .ok (.istore 5, 2) := by decide +kernel
theorem dX7_isCode_101 : decode cX7_isCode 101 = .ok (.iconst 0, 1) := by decide +kernel
theorem dX7_isCode_102 : decode cX7_isCode 102 = .ok (.istore 6, 2) := by decide +kernel
theorem dX7_isCode_104 : decode cX7_isCode 104 = .ok (.iload 6, 2) := by decide +kernel
theorem dX7_isCode_106 : decode cX7_isCode 106 = .ok (.iload_n 2, 1) := by decide +kernel
theorem dX7_isCode_107 : decode cX7_isCode 107 = .ok (.if_icmp .ge 38, 3) := by decide +kernel
theorem dX7_isCode_110 : decode cX7_isCode 110 = .ok (.iload 5, 2) := by decide +kernel
theorem dX7_isCode_112 : decode cX7_isCode 112 = .ok (.ifCond .eq 24, 3) := by decide +kernel
theorem dX7_isCode_115 : decode cX7_isCode 115 = .ok (.iload_n 1, 1) := by decide +kernel
theorem dX7_isCode_116 : decode cX7_isCode 116 = .ok (.iload 6, 2) := by decide +kernel
theorem dX7_isCode_118 : decode cX7_isCode 118 = .ok (.ishr, 1) := by decide +kernel
theorem dX7_isCode_119 : decode cX7_isCode 119 = .ok (.iconst 1, 1) := by decide +kernel
theorem dX7_isCode_120 : decode cX7_isCode 120 = .ok (.iand, 1) := by decide +kernel
theorem dX7_isCode_121 : decode cX7_isCode 121 = .ok (.iload_n 1, 1) := by decide +kernel
theorem dX7_isCode_122 : decode cX7_isCode 122 = .ok (.iload 6, 2) := by decide +kernel
theorem dX7_isCode_124 : decode cX7_isCode 124 = .ok (.iconst 1, 1) := by decide +kernel
theorem dX7_isCode_125 : decode cX7_isCode 125 = .ok (.iadd, 1) := by decide +kernel
theorem dX7_isCode_126 : decode cX7_isCode 126 = .ok (.ishr, 1) := by decide +kernel
theorem dX7_isCode_127 : decode cX7_isCode 127 = .ok (.iconst 1, 1) := by decide +kernel
theorem dX7_isCode_128 : decode cX7_isCode 128 = .ok (.iand, 1) := by decide +kernel
theorem dX7_isCode_129 : decode cX7_isCode 129 = .ok (.if_icmp .eq 7, 3) := by decide +kernel
theorem dX7_isCode_132 : decode cX7_isCode 132 = .ok (.iconst 1, 1) := by decide +kernel
theorem dX7_isCode_133 : decode cX7_isCode 133 = .ok (.goto 4, 3) := by decide +kernel
theorem dX7_isCode_136 : decode cX7_isCode 136 = .ok (.iconst 0, 1) := by decide +kernel
theorem dX7_isCode_137 : decode cX7_isCode 137 = .ok (.istore 5, 2) := by decide +kernel
theorem dX7_isCode_139 : decode cX7_isCode 139 = .ok (.iinc 6 2, 3) := by decide +kernel
theorem dX7_isCode_142 : decode cX7_isCode 142 = .ok (.goto (-38), 3) := by decide +kernel
theorem dX7_isCode_145 : decode cX7_isCode 145 = .ok (.iload 5, 2) := by decide +kernel
theorem dX7_isCode_147 : decode cX7_isCode 147 = .ok (.ireturn, 1) := by decide +kernel
theorem dX7_all_0 : decode cX7_all 0 = .ok (.iconst 1, 1) := by decide +kernel
theorem dX7_all_1 : decode cX7_all 1 = .ok (.aload_n 0, 1) := by decide +kernel
theorem dX7_all_2 : decode cX7_all 2 = .ok (.getfield 13, 3) := by decide +kernel
theorem dX7_all_5 : decode cX7_all 5 = .ok (.iconst 0, 1) := by decide +kernel
theorem dX7_all_6 : decode cX7_all 6 = .ok (.iaload, 1) := by decide +kernel
theorem dX7_all_7 : decode cX7_all 7 = .ok (.ishl, 1) := by decide +kernel
theorem dX7_all_8 : decode cX7_all 8 = .ok (.ireturn, 1) := by decide +kernel
set_option maxRecDepth 20000 in
theorem ggX7_words_X7_all : GoodIn wsX7_words wsX7_all := goodIn_r _ [5, 6, 14, 15, 16, 17, 18, 19, 20, 21, 22, 23, 24, 25, 26, 27] (by decide +kernel) (by decide +kernel)
set_option maxRecDepth 20000 in
theorem gX7_words_X7_all : GoodIn wsX7_words (wsV RX7 115 RX7 yX7_all wsX7_all) := goodIn_app (goodIn_of _ (by decide +kernel)) ggX7_words_X7_all
set_option maxRecDepth 20000 in
theorem ggX7_words_X7_isCode : GoodIn wsX7_words wsX7_isCode := goodIn_r _ [10, 6, 11, 12, 4, 13, 14, 15, 16, 17, 18, 19, 20, 21, 22, 23, 24, 25, 26, 27] (by decide +kernel) (by decide +kernel)
set_option maxRecDepth 20000 in
theorem gX7_words_X7_isCode : GoodIn wsX7_words (wsV RX7 118 RX7 yX7_isCode wsX7_isCode) := goodIn_app (goodIn_of _ (by decide +kernel)) ggX7_words_X7_isCode
theorem dX7_words_0 : decode cX7_words 0 = .ok (.iconst 0, 1) := by decide +kernel
theorem dX7_words_1 : decode cX7_words 1 = .ok (.istore_n 1, 1) := by decide +kernel
theorem dX7_words_2 : decode cX7_words 2 = .ok (.iconst 0, 1) := by decide +kernel
theorem dX7_words_3 : decode cX7_words 3 = .ok (.istore_n 2, 1) := by decide +kernel
theorem dX7_words_4 : decode cX7_words 4 = .ok (.iload_n 2, 1) := by decide +kernel
theorem dX7_words_5 : decode cX7_words 5 = .ok (.aload_n 0, 1) := by decide +kernel
theorem dX7_words_6 : decode cX7_words 6 = .ok (.invokevirtual 115, 3) := by decide +kernel
theorem dX7_words_9 : decode cX7_words 9 = .ok (.if_icmp .ge 25, 3) := by decide +kernel
theorem dX7_words_12 : decode cX7_words 12 = .ok (.iload_n 1, 1) := by decide +kernel
theorem dX7_words_13 : decode cX7_words 13 = .ok (.aload_n 0, 1) := by decide +kernel
theorem dX7_words_14 : decode cX7_words 14 = .ok (.iload_n 2, 1) := by decide +kernel
theorem dX7_words_15 : decode cX7_words 15 = .ok (.invokevirtual 118, 3) := by decide +kernel
theorem dX7_words_18 : decode cX7_words 18 = .ok (.ifCond .eq 7, 3) := by decide +kernel
theorem dX7_words_21 : decode cX7_words 21 = .ok (.iconst 1, 1) := by decide +kernel
theorem dX7_words_22 : decode cX7_words 22 = .ok (.goto 4, 3) := by decide +kernel
theorem dX7_words_25 : decode cX7_words 25 = .ok (.iconst 0, 1) := by decide +kernel
theorem dX7_words_26 : decode cX7_words 26 = .ok (.iadd, 1) := by decide +kernel
theorem dX7_words_27 : decode cX7_words 27 = .ok (.istore_n 1, 1) := by decide +kernel
theorem dX7_words_28 : decode cX7_words 28 = .ok (.iinc 2 1, 3) := by decide +kernel
theorem dX7_words_31 : decode cX7_words 31 = .ok (.goto (-27), 3) := by decide +kernel
theorem dX7_words_34 : decode cX7_words 34 = .ok (.iload_n 1, 1) := by decide +kernel
theorem dX7_words_35 : decode cX7_words 35 = .ok (.ireturn, 1) := by decide +kernel
set_option maxRecDepth 20000 in
theorem ggX7_word_X7_all : GoodIn wsX7_word wsX7_all := goodIn_r _ [5, 6, 14, 15, 16, 17, 18, 19, 20, 21, 22, 23, 24, 25, 26, 27] (by decide +kernel) (by decide +kernel)
set_option maxRecDepth 20000 in
theorem gX7_word_X7_all : GoodIn wsX7_word (wsV RX7 115 RX7 yX7_all wsX7_all) := goodIn_app (goodIn_of _ (by decide +kernel)) ggX7_word_X7_all
set_option maxRecDepth 20000 in
theorem ggX7_word_X7_isCode : GoodIn wsX7_word wsX7_isCode := goodIn_r _ [10, 6, 11, 12, 4, 13, 14, 15, 16, 17, 18, 19, 20, 21, 22, 23, 24, 25, 26, 27] (by decide +kernel) (by decide +kernel)
set_option maxRecDepth 20000 in
theorem gX7_word_X7_isCode : GoodIn wsX7_word (wsV RX7 118 RX7 yX7_isCode wsX7_isCode) := goodIn_app (goodIn_of _ (by decide +kernel)) ggX7_word_X7_isCode
theorem dX7_word_0 : decode cX7_word 0 = .ok (.iload_n 1, 1) := by decide +kernel
theorem dX7_word_1 : decode cX7_word 1 = .ok (.iconst (-1), 1) := by decide +kernel
theorem dX7_word_2 : decode cX7_word 2 = .ok (.if_icmp .ge 5, 3) := by decide +kernel
theorem dX7_word_5 : decode cX7_word 5 = .ok (.iconst (-1), 1) := by decide +kernel
theorem dX7_word_6 : decode cX7_word 6 = .ok (.ireturn, 1) := by decide +kernel
theorem dX7_word_7 : decode cX7_word 7 = .ok (.iconst 0, 1) := by decide +kernel
theorem dX7_word_8 : decode cX7_word 8 = .ok (.istore_n 2, 1) := by decide +kernel
theorem dX7_word_9 : decode cX7_word 9 = .ok (.iconst 0, 1) := by decide +kernel
theorem dX7_word_10 : decode cX7_word 10 = .ok (.istore_n 3, 1) := by decide +kernel
theorem dX7_word_11 : decode cX7_word 11 = .ok (.iload_n 3, 1) := by decide +kernel
theorem dX7_word_12 : decode cX7_word 12 = .ok (.aload_n 0, 1) := by decide +kernel
theorem dX7_word_13 : decode cX7_word 13 = .ok (.invokevirtual 115, 3) := by decide +kernel
theorem dX7_word_16 : decode cX7_word 16 = .ok (.if_icmp .ge 27, 3) := by decide +kernel
theorem dX7_word_19 : decode cX7_word 19 = .ok (.aload_n 0, 1) := by decide +kernel
theorem dX7_word_20 : decode cX7_word 20 = .ok (.iload_n 3, 1) := by decide +kernel
theorem dX7_word_21 : decode cX7_word 21 = .ok (.invokevirtual 118, 3) := by decide +kernel
theorem dX7_word_24 : decode cX7_word 24 = .ok (.ifCond .eq 13, 3) := by decide +kernel
theorem dX7_word_27 : decode cX7_word 27 = .ok (.iload_n 2, 1) := by decide +kernel
theorem dX7_word_28 : decode cX7_word 28 = .ok (.iload_n 1, 1) := by decide +kernel
theorem dX7_word_29 : decode cX7_word 29 = .ok (.if_icmp .ne 5, 3) := by decide +kernel
theorem dX7_word_32 : decode cX7_word 32 = .ok (.iload_n 3, 1) := by decide +kernel
theorem dX7_word_33 : decode cX7_word 33 = .ok (.ireturn, 1) := by decide +kernel
theorem dX7_word_34 : decode cX7_word 34 = .ok (.iinc 2 1, 3) := by decide +kernel
theorem dX7_word_37 : decode cX7_word 37 = .ok (.iinc 3 1, 3) := by decide +kernel
theorem dX7_word_40 : decode cX7_word 40 = .ok (.goto (-29), 3) := by decide +kernel
theorem dX7_word_43 : decode cX7_word 43 = .ok (.iload_n 1, 1) := by decide +kernel
theorem dX7_word_44 : decode cX7_word 44 = .ok (.ifCond .ge 7, 3) := by decide +kernel
theorem dX7_word_47 : decode cX7_word 47 = .ok (.iload_n 2, 1) := by decide +kernel
theorem dX7_word_48 : decode cX7_word 48 = .ok (.goto 5, 3) := by decide +kernel
theorem dX7_word_51 : decode cX7_word 51 = .ok (.bipush (-4), 2) := by decide +kernel
theorem dX7_word_53 : decode cX7_word 53 = .ok (.ireturn, 1) := by decide +kernel
set_option maxRecDepth 20000 in
theorem ggX7_rank_X7_isWord : GoodIn wsX7_rank wsX7_isWord := goodIn_r _ [5, 6, 7, 8, 4, 9, 17, 18, 19, 20, 21, 22, 23, 24, 25, 26, 27, 28, 29, 30] (by decide +kernel) (by decide +kernel)
set_option maxRecDepth 20000 in
theorem gX7_rank_X7_isWord : GoodIn wsX7_rank (wsV RX7 102 RX7 yX7_isWord wsX7_isWord) := goodIn_app (goodIn_of _ (by decide +kernel)) ggX7_rank_X7_isWord
set_option maxRecDepth 20000 in
theorem ggX7_rank_X7_isCode : GoodIn wsX7_rank wsX7_isCode := goodIn_r _ [13, 6, 14, 15, 4, 16, 17, 18, 19, 20, 21, 22, 23, 24, 25, 26, 27, 28, 29, 30] (by decide +kernel) (by decide +kernel)
set_option maxRecDepth 20000 in
theorem gX7_rank_X7_isCode : GoodIn wsX7_rank (wsV RX7 118 RX7 yX7_isCode wsX7_isCode) := goodIn_app (goodIn_of _ (by decide +kernel)) ggX7_rank_X7_isCode
theorem dX7_rank_0 : decode cX7_rank 0 = .ok (.aload_n 0, 1) := by decide +kernel
theorem dX7_rank_1 : decode cX7_rank 1 = .ok (.iload_n 1, 1) := by decide +kernel
theorem dX7_rank_2 : decode cX7_rank 2 = .ok (.invokevirtual 102, 3) := by decide +kernel
theorem dX7_rank_5 : decode cX7_rank 5 = .ok (.ifCond .ne 5, 3) := by decide +kernel
theorem dX7_rank_8 : decode cX7_rank 8 = .ok (.iconst (-1), 1) := by decide +kernel
theorem dX7_rank_9 : decode cX7_rank 9 = .ok (.ireturn, 1) := by decide +kernel
theorem dX7_rank_10 : decode cX7_rank 10 = .ok (.iconst 0, 1) := by decide +kernel
theorem dX7_rank_11 : decode cX7_rank 11 = .ok (.istore_n 2, 1) := by decide +kernel
theorem dX7_rank_12 : decode cX7_rank 12 = .ok (.iconst 0, 1) := by decide +kernel
theorem dX7_rank_13 : decode cX7_rank 13 = .ok (.istore_n 3, 1) := by decide +kernel
theorem dX7_rank_14 : decode cX7_rank 14 = .ok (.iload_n 3, 1) := by decide +kernel
theorem dX7_rank_15 : decode cX7_rank 15 = .ok (.iload_n 1, 1) := by decide +kernel
theorem dX7_rank_16 : decode cX7_rank 16 = .ok (.if_icmp .ge 25, 3) := by decide +kernel
theorem dX7_rank_19 : decode cX7_rank 19 = .ok (.iload_n 2, 1) := by decide +kernel
theorem dX7_rank_20 : decode cX7_rank 20 = .ok (.aload_n 0, 1) := by decide +kernel
theorem dX7_rank_21 : decode cX7_rank 21 = .ok (.iload_n 3, 1) := by decide +kernel
theorem dX7_rank_22 : decode cX7_rank 22 = .ok (.invokevirtual 118, 3) := by decide +kernel
theorem dX7_rank_25 : decode cX7_rank 25 = .ok (.ifCond .eq 7, 3) := by decide +kernel
theorem dX7_rank_28 : decode cX7_rank 28 = .ok (.iconst 1, 1) := by decide +kernel
theorem dX7_rank_29 : decode cX7_rank 29 = .ok (.goto 4, 3) := by decide +kernel
theorem dX7_rank_32 : decode cX7_rank 32 = .ok (.iconst 0, 1) := by decide +kernel
theorem dX7_rank_33 : decode cX7_rank 33 = .ok (.iadd, 1) := by decide +kernel
theorem dX7_rank_34 : decode cX7_rank 34 = .ok (.istore_n 2, 1) := by decide +kernel
theorem dX7_rank_35 : decode cX7_rank 35 = .ok (.iinc 3 1, 3) := by decide +kernel
theorem dX7_rank_38 : decode cX7_rank 38 = .ok (.goto (-24), 3) := by decide +kernel
theorem dX7_rank_41 : decode cX7_rank 41 = .ok (.aload_n 0, 1) := by decide +kernel
theorem dX7_rank_42 : decode cX7_rank 42 = .ok (.iload_n 1, 1) := by decide +kernel
theorem dX7_rank_43 : decode cX7_rank 43 = .ok (.invokevirtual 118, 3) := by decide +kernel
theorem dX7_rank_46 : decode cX7_rank 46 = .ok (.ifCond .eq 7, 3) := by decide +kernel
theorem dX7_rank_49 : decode cX7_rank 49 = .ok (.iload_n 2, 1) := by decide +kernel
theorem dX7_rank_50 : decode cX7_rank 50 = .ok (.goto 5, 3) := by decide +kernel
theorem dX7_rank_53 : decode cX7_rank 53 = .ok (.bipush (-4), 2) := by decide +kernel
theorem dX7_rank_55 : decode cX7_rank 55 = .ok (.ireturn, 1) := by decide +kernel
set_option maxRecDepth 20000 in
theorem ggX7_missed_X7_all : GoodIn wsX7_missed wsX7_all := goodIn_r _ [5, 6, 14, 15, 16, 17, 18, 19, 20, 21, 22, 23, 24, 25, 26, 27] (by decide +kernel) (by decide +kernel)
set_option maxRecDepth 20000 in
theorem gX7_missed_X7_all : GoodIn wsX7_missed (wsV RX7 115 RX7 yX7_all wsX7_all) := goodIn_app (goodIn_of _ (by decide +kernel)) ggX7_missed_X7_all
set_option maxRecDepth 20000 in
theorem ggX7_missed_X7_isCode : GoodIn wsX7_missed wsX7_isCode := goodIn_r _ [10, 6, 11, 12, 4, 13, 14, 15, 16, 17, 18, 19, 20, 21, 22, 23, 24, 25, 26, 27] (by decide +kernel) (by decide +kernel)
set_option maxRecDepth 20000 in
theorem gX7_missed_X7_isCode : GoodIn wsX7_missed (wsV RX7 118 RX7 yX7_isCode wsX7_isCode) := goodIn_app (goodIn_of _ (by decide +kernel)) ggX7_missed_X7_isCode
theorem dX7_missed_0 : decode cX7_missed 0 = .ok (.iconst 0, 1) := by decide +kernel
theorem dX7_missed_1 : decode cX7_missed 1 = .ok (.istore_n 1, 1) := by decide +kernel
theorem dX7_missed_2 : decode cX7_missed 2 = .ok (.iconst 0, 1) := by decide +kernel
theorem dX7_missed_3 : decode cX7_missed 3 = .ok (.istore_n 2, 1) := by decide +kernel
theorem dX7_missed_4 : decode cX7_missed 4 = .ok (.iload_n 2, 1) := by decide +kernel
theorem dX7_missed_5 : decode cX7_missed 5 = .ok (.aload_n 0, 1) := by decide +kernel
theorem dX7_missed_6 : decode cX7_missed 6 = .ok (.invokevirtual 115, 3) := by decide +kernel
theorem dX7_missed_9 : decode cX7_missed 9 = .ok (.if_icmp .ge 68, 3) := by decide +kernel
theorem dX7_missed_12 : decode cX7_missed 12 = .ok (.iconst 0, 1) := by decide +kernel
theorem dX7_missed_13 : decode cX7_missed 13 = .ok (.istore_n 3, 1) := by decide +kernel
theorem dX7_missed_14 : decode cX7_missed 14 = .ok (.iload_n 3, 1) := by decide +kernel
theorem dX7_missed_15 : decode cX7_missed 15 = .ok (.aload_n 0, 1) := by decide +kernel
theorem dX7_missed_16 : decode cX7_missed 16 = .ok (.invokevirtual 115, 3) := by decide +kernel
theorem dX7_missed_19 : decode cX7_missed 19 = .ok (.if_icmp .ge 52, 3) := by decide +kernel
theorem dX7_missed_22 : decode cX7_missed 22 = .ok (.aload_n 0, 1) := by decide +kernel
theorem dX7_missed_23 : decode cX7_missed 23 = .ok (.iload_n 2, 1) := by decide +kernel
theorem dX7_missed_24 : decode cX7_missed 24 = .ok (.invokevirtual 118, 3) := by decide +kernel
theorem dX7_missed_27 : decode cX7_missed 27 = .ok (.ifCond .eq 44, 3) := by decide +kernel
theorem dX7_missed_30 : decode cX7_missed 30 = .ok (.iload_n 1, 1) := by decide +kernel
theorem dX7_missed_31 : decode cX7_missed 31 = .ok (.iload_n 3, 1) := by decide +kernel
theorem dX7_missed_32 : decode cX7_missed 32 = .ok (.iload_n 2, 1) := by decide +kernel
theorem dX7_missed_33 : decode cX7_missed 33 = .ok (.if_icmp .eq 29, 3) := by decide +kernel
theorem dX7_missed_36 : decode cX7_missed 36 = .ok (.iload_n 3, 1) := by decide +kernel
theorem dX7_missed_37 : decode cX7_missed 37 = .ok (.iload_n 2, 1) := by decide +kernel
theorem dX7_missed_38 : decode cX7_missed 38 = .ok (.iand, 1) := by decide +kernel
theorem dX7_missed_39 : decode cX7_missed 39 = .ok (.iload_n 2, 1) := by decide +kernel
theorem dX7_missed_40 : decode cX7_missed 40 = .ok (.if_icmp .eq 10, 3) := by decide +kernel
theorem dX7_missed_43 : decode cX7_missed 43 = .ok (.iload_n 3, 1) := by decide +kernel
theorem dX7_missed_44 : decode cX7_missed 44 = .ok (.iload_n 2, 1) := by decide +kernel
theorem dX7_missed_45 : decode cX7_missed 45 = .ok (.iand, 1) := by decide +kernel
theorem dX7_missed_46 : decode cX7_missed 46 = .ok (.iload_n 3, 1) := by decide +kernel
theorem dX7_missed_47 : decode cX7_missed 47 = .ok (.if_icmp .ne 15, 3) := by decide +kernel
theorem dX7_missed_50 : decode cX7_missed 50 = .ok (.aload_n 0, 1) := by decide +kernel
theorem dX7_missed_51 : decode cX7_missed 51 = .ok (.iload_n 3, 1) := by decide +kernel
theorem dX7_missed_52 : decode cX7_missed 52 = .ok (.invokevirtual 118, 3) := by decide +kernel
theorem dX7_missed_55 : decode cX7_missed 55 = .ok (.ifCond .eq 7, 3) := by decide +kernel
theorem dX7_missed_58 : decode cX7_missed 58 = .ok (.iconst 1, 1) := by decide +kernel
theorem dX7_missed_59 : decode cX7_missed 59 = .ok (.goto 4, 3) := by decide +kernel
theorem dX7_missed_62 : decode cX7_missed 62 = .ok (.iconst 0, 1) := by decide +kernel
theorem dX7_missed_63 : decode cX7_missed 63 = .ok (.iadd, 1) := by decide +kernel
theorem dX7_missed_64 : decode cX7_missed 64 = .ok (.istore_n 1, 1) := by decide +kernel
theorem dX7_missed_65 : decode cX7_missed 65 = .ok (.iinc 3 1, 3) := by decide +kernel
theorem dX7_missed_68 : decode cX7_missed 68 = .ok (.goto (-54), 3) := by decide +kernel
theorem dX7_missed_71 : decode cX7_missed 71 = .ok (.iinc 2 1, 3) := by decide +kernel
theorem dX7_missed_74 : decode cX7_missed 74 = .ok (.goto (-70), 3) := by decide +kernel
theorem dX7_missed_77 : decode cX7_missed 77 = .ok (.iload_n 1, 1) := by decide +kernel
theorem dX7_missed_78 : decode cX7_missed 78 = .ok (.ireturn, 1) := by decide +kernel
set_option maxRecDepth 20000 in
theorem ggX7_near_X7_all : GoodIn wsX7_near wsX7_all := goodIn_r _ [5, 6, 14, 15, 16, 17, 18, 19, 20, 21, 22, 23, 24, 25, 26, 27] (by decide +kernel) (by decide +kernel)
set_option maxRecDepth 20000 in
theorem gX7_near_X7_all : GoodIn wsX7_near (wsV RX7 115 RX7 yX7_all wsX7_all) := goodIn_app (goodIn_of _ (by decide +kernel)) ggX7_near_X7_all
set_option maxRecDepth 20000 in
theorem ggX7_near_X7_isCode : GoodIn wsX7_near wsX7_isCode := goodIn_r _ [10, 6, 11, 12, 4, 13, 14, 15, 16, 17, 18, 19, 20, 21, 22, 23, 24, 25, 26, 27] (by decide +kernel) (by decide +kernel)
set_option maxRecDepth 20000 in
theorem gX7_near_X7_isCode : GoodIn wsX7_near (wsV RX7 118 RX7 yX7_isCode wsX7_isCode) := goodIn_app (goodIn_of _ (by decide +kernel)) ggX7_near_X7_isCode
set_option maxRecDepth 20000 in
theorem ggX7_near_X7_ones : GoodIn wsX7_near wsX7_ones := goodIn_r _ [13] (by decide +kernel) (by decide +kernel)
set_option maxRecDepth 20000 in
theorem gX7_near_X7_ones : GoodIn wsX7_near (va_wsS RX7 112 yX7_ones wsX7_ones) := goodIn_app (goodIn_of _ (by decide +kernel)) ggX7_near_X7_ones
theorem dX7_near_0 : decode cX7_near 0 = .ok (.bipush (-4), 2) := by decide +kernel
theorem dX7_near_2 : decode cX7_near 2 = .ok (.istore_n 1, 1) := by decide +kernel
theorem dX7_near_3 : decode cX7_near 3 = .ok (.iconst 0, 1) := by decide +kernel
theorem dX7_near_4 : decode cX7_near 4 = .ok (.istore_n 2, 1) := by decide +kernel
theorem dX7_near_5 : decode cX7_near 5 = .ok (.iload_n 2, 1) := by decide +kernel
theorem dX7_near_6 : decode cX7_near 6 = .ok (.aload_n 0, 1) := by decide +kernel
theorem dX7_near_7 : decode cX7_near 7 = .ok (.invokevirtual 115, 3) := by decide +kernel
theorem dX7_near_10 : decode cX7_near 10 = .ok (.if_icmp .ge 63, 3) := by decide +kernel
theorem dX7_near_13 : decode cX7_near 13 = .ok (.iconst 0, 1) := by decide +kernel
theorem dX7_near_14 : decode cX7_near 14 = .ok (.istore_n 3, 1) := by decide +kernel
theorem dX7_near_15 : decode cX7_near 15 = .ok (.iload_n 3, 1) := by decide +kernel
theorem dX7_near_16 : decode cX7_near 16 = .ok (.iload_n 2, 1) := by decide +kernel
theorem dX7_near_17 : decode cX7_near 17 = .ok (.if_icmp .ge 50, 3) := by decide +kernel
theorem dX7_near_20 : decode cX7_near 20 = .ok (.aload_n 0, 1) := by decide +kernel
theorem dX7_near_21 : decode cX7_near 21 = .ok (.iload_n 2, 1) := by decide +kernel
theorem dX7_near_22 : decode cX7_near 22 = .ok (.invokevirtual 118, 3) := by decide +kernel
theorem dX7_near_25 : decode cX7_near 25 = .ok (.ifCond .eq 42, 3) := by decide +kernel
theorem dX7_near_28 : decode cX7_near 28 = .ok (.iload_n 3, 1) := by decide +kernel
theorem dX7_near_29 : decode cX7_near 29 = .ok (.iload_n 2, 1) := by decide +kernel
theorem dX7_near_30 : decode cX7_near 30 = .ok (.ixor, 1) := by decide +kernel
theorem dX7_near_31 : decode cX7_near 31 = .ok (.invokestatic 112, 3) := by decide +kernel
theorem dX7_near_34 : decode cX7_near 34 = .ok (.istore 4, 2) := by decide +kernel
theorem dX7_near_36 : decode cX7_near 36 = .ok (.aload_n 0, 1) := by decide +kernel
theorem dX7_near_37 : decode cX7_near 37 = .ok (.iload_n 3, 1) := by decide +kernel
theorem dX7_near_38 : decode cX7_near 38 = .ok (.invokevirtual 118, 3) := by decide +kernel
theorem dX7_near_41 : decode cX7_near 41 = .ok (.ifCond .eq 18, 3) := by decide +kernel
theorem dX7_near_44 : decode cX7_near 44 = .ok (.iload_n 1, 1) := by decide +kernel
theorem dX7_near_45 : decode cX7_near 45 = .ok (.ifCond .lt 9, 3) := by decide +kernel
theorem dX7_near_48 : decode cX7_near 48 = .ok (.iload 4, 2) := by decide +kernel
theorem dX7_near_50 : decode cX7_near 50 = .ok (.iload_n 1, 1) := by decide +kernel
theorem dX7_near_51 : decode cX7_near 51 = .ok (.if_icmp .ge 8, 3) := by decide +kernel
theorem dX7_near_54 : decode cX7_near 54 = .ok (.iload 4, 2) := by decide +kernel
theorem dX7_near_56 : decode cX7_near 56 = .ok (.goto 4, 3) := by decide +kernel
theorem dX7_near_59 : decode cX7_near 59 = .ok (.iload_n 1, 1) := by decide +kernel
theorem dX7_near_60 : decode cX7_near 60 = .ok (.istore_n 1, 1) := by decide +kernel
theorem dX7_near_61 : decode cX7_near 61 = .ok (.iinc 3 1, 3) := by decide +kernel
theorem dX7_near_64 : decode cX7_near 64 = .ok (.goto (-49), 3) := by decide +kernel
theorem dX7_near_67 : decode cX7_near 67 = .ok (.iinc 2 1, 3) := by decide +kernel
theorem dX7_near_70 : decode cX7_near 70 = .ok (.goto (-65), 3) := by decide +kernel
theorem dX7_near_73 : decode cX7_near 73 = .ok (.iload_n 1, 1) := by decide +kernel
theorem dX7_near_74 : decode cX7_near 74 = .ok (.ireturn, 1) := by decide +kernel
set_option maxRecDepth 20000 in
theorem ggX7_looks_X7_all : GoodIn wsX7_looks wsX7_all := goodIn_r _ [11, 12, 35, 36, 37, 38, 39, 40, 41, 42, 43, 44, 45, 46, 47, 48] (by decide +kernel) (by decide +kernel)
set_option maxRecDepth 20000 in
theorem gX7_looks_X7_all : GoodIn wsX7_looks (wsV RX7 115 RX7 yX7_all wsX7_all) := goodIn_app (goodIn_of _ (by decide +kernel)) ggX7_looks_X7_all
set_option maxRecDepth 20000 in
theorem ggX7_looks_X7_isCode : GoodIn wsX7_looks wsX7_isCode := goodIn_r _ [16, 12, 17, 18, 10, 19, 35, 36, 37, 38, 39, 40, 41, 42, 43, 44, 45, 46, 47, 48] (by decide +kernel) (by decide +kernel)
set_option maxRecDepth 20000 in
theorem gX7_looks_X7_isCode : GoodIn wsX7_looks (wsV RX7 118 RX7 yX7_isCode wsX7_isCode) := goodIn_app (goodIn_of _ (by decide +kernel)) ggX7_looks_X7_isCode
set_option maxRecDepth 20000 in
theorem ggX7_looks_X7_lets : GoodIn wsX7_looks wsX7_lets := goodIn_r _ [23, 12, 24, 25, 26, 27, 10, 28, 29, 30, 31, 35, 36, 37, 38, 39, 40, 41, 42, 43, 44, 45, 46, 47, 48] (by decide +kernel) (by decide +kernel)
set_option maxRecDepth 20000 in
theorem gX7_looks_X7_lets : GoodIn wsX7_looks (wsV RX7 105 RX7 yX7_lets wsX7_lets) := goodIn_app (goodIn_of _ (by decide +kernel)) ggX7_looks_X7_lets
set_option maxRecDepth 20000 in
theorem ggX7_looks_X7_wires : GoodIn wsX7_looks wsX7_wires := goodIn_r _ [28, 12, 35, 36, 37, 38, 39, 40, 41, 42, 43, 44, 45, 46, 47, 48] (by decide +kernel) (by decide +kernel)
set_option maxRecDepth 20000 in
theorem gX7_looks_X7_wires : GoodIn wsX7_looks (wsV RX7 83 RX7 yX7_wires wsX7_wires) := goodIn_app (goodIn_of _ (by decide +kernel)) ggX7_looks_X7_wires
set_option maxRecDepth 20000 in
theorem ggX7_looks_X7_isValid : GoodIn wsX7_looks wsX7_isValid := goodIn_r _ [34] (by decide +kernel) (by decide +kernel)
set_option maxRecDepth 20000 in
theorem gX7_looks_X7_isValid : GoodIn wsX7_looks (va_wsS RX7 133 yX7_isValid wsX7_isValid) := goodIn_app (goodIn_of _ (by decide +kernel)) ggX7_looks_X7_isValid
theorem dX7_looks_0 : decode cX7_looks 0 = .ok (.aload_n 0, 1) := by decide +kernel
theorem dX7_looks_1 : decode cX7_looks 1 = .ok (.lconst 0, 1) := by decide +kernel
theorem dX7_looks_2 : decode cX7_looks 2 = .ok (.putfield 121, 3) := by decide +kernel
theorem dX7_looks_5 : decode cX7_looks 5 = .ok (.aload_n 0, 1) := by decide +kernel
theorem dX7_looks_6 : decode cX7_looks 6 = .ok (.lconst 0, 1) := by decide +kernel
theorem dX7_looks_7 : decode cX7_looks 7 = .ok (.putfield 125, 3) := by decide +kernel
theorem dX7_looks_10 : decode cX7_looks 10 = .ok (.aload_n 0, 1) := by decide +kernel
theorem dX7_looks_11 : decode cX7_looks 11 = .ok (.ldc2_w 128, 3) := by decide +kernel
theorem dX7_looks_14 : decode cX7_looks 14 = .ok (.putfield 130, 3) := by decide +kernel
theorem dX7_looks_17 : decode cX7_looks 17 = .ok (.iconst 0, 1) := by decide +kernel
theorem dX7_looks_18 : decode cX7_looks 18 = .ok (.istore_n 1, 1) := by decide +kernel
theorem dX7_looks_19 : decode cX7_looks 19 = .ok (.iload_n 1, 1) := by decide +kernel
theorem dX7_looks_20 : decode cX7_looks 20 = .ok (.aload_n 0, 1) := by decide +kernel
theorem dX7_looks_21 : decode cX7_looks 21 = .ok (.invokevirtual 115, 3) := by decide +kernel
theorem dX7_looks_24 : decode cX7_looks 24 = .ok (.if_icmp .ge 181, 3) := by decide +kernel
theorem dX7_looks_27 : decode cX7_looks 27 = .ok (.aload_n 0, 1) := by decide +kernel
theorem dX7_looks_28 : decode cX7_looks 28 = .ok (.getfield 25, 3) := by decide +kernel
theorem dX7_looks_31 : decode cX7_looks 31 = .ok (.iload_n 1, 1) := by decide +kernel
theorem dX7_looks_32 : decode cX7_looks 32 = .ok (.lconst 0, 1) := by decide +kernel
theorem dX7_looks_33 : decode cX7_looks 33 = .ok (.lastore, 1) := by decide +kernel
theorem dX7_looks_34 : decode cX7_looks 34 = .ok (.aload_n 0, 1) := by decide +kernel
theorem dX7_looks_35 : decode cX7_looks 35 = .ok (.getfield 29, 3) := by decide +kernel
theorem dX7_looks_38 : decode cX7_looks 38 = .ok (.iload_n 1, 1) := by decide +kernel
theorem dX7_looks_39 : decode cX7_looks 39 = .ok (.lconst 0, 1) := by decide +kernel
theorem dX7_looks_40 : decode cX7_looks 40 = .ok (.lastore, 1) := by decide +kernel
theorem dX7_looks_41 : decode cX7_looks 41 = .ok (.aload_n 0, 1) := by decide +kernel
theorem dX7_looks_42 : decode cX7_looks 42 = .ok (.iload_n 1, 1) := by decide +kernel
theorem dX7_looks_43 : decode cX7_looks 43 = .ok (.invokevirtual 118, 3) := by decide +kernel
theorem dX7_looks_46 : decode cX7_looks 46 = .ok (.ifCond .eq 153, 3) := by decide +kernel
theorem dX7_looks_49 : decode cX7_looks 49 = .ok (.aload_n 0, 1) := by decide +kernel
theorem dX7_looks_50 : decode cX7_looks 50 = .ok (.iload_n 1, 1) := by decide +kernel
theorem dX7_looks_51 : decode cX7_looks 51 = .ok (.bipush (-4), 2) := by decide +kernel
theorem dX7_looks_53 : decode cX7_looks 53 = .ok (.bipush (-4), 2) := by decide +kernel
theorem dX7_looks_55 : decode cX7_looks 55 = .ok (.invokevirtual 105, 3) := by decide +kernel
theorem dX7_looks_58 : decode cX7_looks 58 = .ok (.istore_n 2, 1) := by decide +kernel
theorem dX7_looks_59 : decode cX7_looks 59 = .ok (.iconst 0, 1) := by decide +kernel
theorem dX7_looks_60 : decode cX7_looks 60 = .ok (.istore_n 3, 1) := by decide +kernel
theorem dX7_looks_61 : decode cX7_looks 61 = .ok (.iload_n 3, 1) := by decide +kernel
theorem dX7_looks_62 : decode cX7_looks 62 = .ok (.iconst 2, 1) := by decide +kernel
theorem dX7_looks_63 : decode cX7_looks 63 = .ok (.aload_n 0, 1) := by decide +kernel
theorem dX7_looks_64 : decode cX7_looks 64 = .ok (.invokevirtual 83, 3) := by decide +kernel
theorem dX7_looks_67 : decode cX7_looks 67 = .ok (.imul, 1) := by decide +kernel
theorem dX7_looks_68 : decode cX7_looks 68 = .ok (.if_icmp .ge 101, 3) := by decide +kernel
theorem dX7_looks_71 : decode cX7_looks 71 = .ok (.aload_n 0, 1) := by decide +kernel
theorem dX7_looks_72 : decode cX7_looks 72 = .ok (.iload_n 1, 1) := by decide +kernel
theorem dX7_looks_73 : decode cX7_looks 73 = .ok (.iload_n 3, 1) := by decide +kernel
theorem dX7_looks_74 : decode cX7_looks 74 = .ok (.bipush (-4), 2) := by decide +kernel
theorem dX7_looks_76 : decode cX7_looks 76 = .ok (.invokevirtual 105, 3) := by decide +kernel
theorem dX7_looks_79 : decode cX7_looks 79 = .ok (.istore 4, 2) := by decide +kernel
theorem dX7_looks_81 : decode cX7_looks 81 = .ok (.aload_n 0, 1) := by decide +kernel
theorem dX7_looks_82 : decode cX7_looks 82 = .ok (.getfield 25, 3) := by decide +kernel
theorem dX7_looks_85 : decode cX7_looks 85 = .ok (.iload_n 1, 1) := by decide +kernel
theorem dX7_looks_86 : decode cX7_looks 86 = .ok (.dup2, 1) := by decide +kernel
theorem dX7_looks_87 : decode cX7_looks 87 = .ok (.laload, 1) := by decide +kernel
theorem dX7_looks_88 : decode cX7_looks 88 = .ok (.iload 4, 2) := by decide +kernel
theorem dX7_looks_90 : decode cX7_looks 90 = .ok (.invokestatic 133, 3) := by decide +kernel
theorem dX7_looks_93 : decode cX7_looks 93 = .ok (.ifCond .eq 7, 3) := by decide +kernel
theorem dX7_looks_96 : decode cX7_looks 96 = .ok (.lconst 0, 1) := by decide +kernel
theorem dX7_looks_97 : decode cX7_looks 97 = .ok (.goto 6, 3) := by decide +kernel
theorem dX7_looks_100 : decode cX7_looks 100 = .ok (.lconst 1, 1) := by decide +kernel
theorem dX7_looks_101 : decode cX7_looks 101 = .ok (.iload_n 3, 1) := by decide +kernel
theorem dX7_looks_102 : decode cX7_looks 102 = .ok (.lshl, 1) := by decide +kernel
theorem dX7_looks_103 : decode cX7_looks 103 = .ok (.lor, 1) := by decide +kernel
theorem dX7_looks_104 : decode cX7_looks 104 = .ok (.lastore, 1) := by decide +kernel
theorem dX7_looks_105 : decode cX7_looks 105 = .ok (.aload_n 0, 1) := by decide +kernel
theorem dX7_looks_106 : decode cX7_looks 106 = .ok (.getfield 29, 3) := by decide +kernel
theorem dX7_looks_109 : decode cX7_looks 109 = .ok (.iload_n 1, 1) := by decide +kernel
theorem dX7_looks_110 : decode cX7_looks 110 = .ok (.dup2, 1) := by decide +kernel
theorem dX7_looks_111 : decode cX7_looks 111 = .ok (.laload, 1) := by decide +kernel
theorem dX7_looks_112 : decode cX7_looks 112 = .ok (.iload 4, 2) := by decide +kernel
theorem dX7_looks_114 : decode cX7_looks 114 = .ok (.invokestatic 133, 3) := by decide +kernel
theorem dX7_looks_117 : decode cX7_looks 117 = .ok (.ifCond .eq 15, 3) := by decide +kernel
theorem dX7_looks_120 : decode cX7_looks 120 = .ok (.iload 4, 2) := by decide +kernel
theorem dX7_looks_122 : decode cX7_looks 122 = .ok (.iload_n 2, 1) := by decide +kernel
theorem dX7_looks_123 : decode cX7_looks 123 = .ok (.if_icmp .eq 9, 3) := by decide +kernel
theorem dX7_looks_126 : decode cX7_looks 126 = .ok (.lconst 1, 1) := by decide +kernel
theorem dX7_looks_127 : decode cX7_looks 127 = .ok (.iload_n 3, 1) := by decide +kernel
theorem dX7_looks_128 : decode cX7_looks 128 = .ok (.lshl, 1) := by decide +kernel
theorem dX7_looks_129 : decode cX7_looks 129 = .ok (.goto 4, 3) := by decide +kernel
theorem dX7_looks_132 : decode cX7_looks 132 = .ok (.lconst 0, 1) := by decide +kernel
theorem dX7_looks_133 : decode cX7_looks 133 = .ok (.lor, 1) := by decide +kernel
theorem dX7_looks_134 : decode cX7_looks 134 = .ok (.lastore, 1) := by decide +kernel
theorem dX7_looks_135 : decode cX7_looks 135 = .ok (.aload_n 0, 1) := by decide +kernel
theorem dX7_looks_136 : decode cX7_looks 136 = .ok (.dup, 1) := by decide +kernel
theorem dX7_looks_137 : decode cX7_looks 137 = .ok (.getfield 130, 3) := by decide +kernel
theorem dX7_looks_140 : decode cX7_looks 140 = .ok (.iload 4, 2) := by decide +kernel
theorem dX7_looks_142 : decode cX7_looks 142 = .ok (.iload_n 2, 1) := by decide +kernel
theorem dX7_looks_143 : decode cX7_looks 143 = .ok (.if_icmp .ne 9, 3) := by decide +kernel
theorem dX7_looks_146 : decode cX7_looks 146 = .ok (.ldc2_w 128, 3) := by decide +kernel
theorem dX7_looks_149 : decode cX7_looks 149 = .ok (.goto 10, 3) := by decide +kernel
theorem dX7_looks_152 : decode cX7_looks 152 = .ok (.lconst 1, 1) := by decide +kernel
theorem dX7_looks_153 : decode cX7_looks 153 = .ok (.iload_n 3, 1) := by decide +kernel
theorem dX7_looks_154 : decode cX7_looks 154 = .ok (.lshl, 1) := by decide +kernel
theorem dX7_looks_155 : decode cX7_looks 155 = .ok (.ldc2_w 128, 3) := by decide +kernel
theorem dX7_looks_158 : decode cX7_looks 158 = .ok (.lxor, 1) := by decide +kernel
theorem dX7_looks_159 : decode cX7_looks 159 = .ok (.land, 1) := by decide +kernel
theorem dX7_looks_160 : decode cX7_looks 160 = .ok (.putfield 130, 3) := by decide +kernel
theorem dX7_looks_163 : decode cX7_looks 163 = .ok (.iinc 3 1, 3) := by decide +kernel
theorem dX7_looks_166 : decode cX7_looks 166 = .ok (.goto (-105), 3) := by decide +kernel
theorem dX7_looks_169 : decode cX7_looks 169 = .ok (.aload_n 0, 1) := by decide +kernel
theorem dX7_looks_170 : decode cX7_looks 170 = .ok (.dup, 1) := by decide +kernel
theorem dX7_looks_171 : decode cX7_looks 171 = .ok (.getfield 121, 3) := by decide +kernel
theorem dX7_looks_174 : decode cX7_looks 174 = .ok (.aload_n 0, 1) := by decide +kernel
theorem dX7_looks_175 : decode cX7_looks 175 = .ok (.getfield 25, 3) := by decide +kernel
theorem dX7_looks_178 : decode cX7_looks 178 = .ok (.iload_n 1, 1) := by decide +kernel
theorem dX7_looks_179 : decode cX7_looks 179 = .ok (.laload, 1) := by decide +kernel
theorem dX7_looks_180 : decode cX7_looks 180 = .ok (.lor, 1) := by decide +kernel
theorem dX7_looks_181 : decode cX7_looks 181 = .ok (.putfield 121, 3) := by decide +kernel
theorem dX7_looks_184 : decode cX7_looks 184 = .ok (.aload_n 0, 1) := by decide +kernel
theorem dX7_looks_185 : decode cX7_looks 185 = .ok (.dup, 1) := by decide +kernel
theorem dX7_looks_186 : decode cX7_looks 186 = .ok (.getfield 125, 3) := by decide +kernel
theorem dX7_looks_189 : decode cX7_looks 189 = .ok (.aload_n 0, 1) := by decide +kernel
theorem dX7_looks_190 : decode cX7_looks 190 = .ok (.getfield 29, 3) := by decide +kernel
theorem dX7_looks_193 : decode cX7_looks 193 = .ok (.iload_n 1, 1) := by decide +kernel
theorem dX7_looks_194 : decode cX7_looks 194 = .ok (.laload, 1) := by decide +kernel
theorem dX7_looks_195 : decode cX7_looks 195 = .ok (.lor, 1) := by decide +kernel
theorem dX7_looks_196 : decode cX7_looks 196 = .ok (.putfield 125, 3) := by decide +kernel
theorem dX7_looks_199 : decode cX7_looks 199 = .ok (.iinc 1 1, 3) := by decide +kernel
theorem dX7_looks_202 : decode cX7_looks 202 = .ok (.goto (-183), 3) := by decide +kernel
theorem dX7_looks_205 : decode cX7_looks 205 = .ok (.return_, 1) := by decide +kernel
theorem dX7_has_0 : decode cX7_has 0 = .ok (.lload_n 0, 1) := by decide +kernel
theorem dX7_has_1 : decode cX7_has 1 = .ok (.iload_n 2, 1) := by decide +kernel
theorem dX7_has_2 : decode cX7_has 2 = .ok (.lshr, 1) := by decide +kernel
theorem dX7_has_3 : decode cX7_has 3 = .ok (.lconst 1, 1) := by decide +kernel
theorem dX7_has_4 : decode cX7_has 4 = .ok (.land, 1) := by decide +kernel
theorem dX7_has_5 : decode cX7_has 5 = .ok (.lconst 1, 1) := by decide +kernel
theorem dX7_has_6 : decode cX7_has 6 = .ok (.lcmp, 1) := by decide +kernel
theorem dX7_has_7 : decode cX7_has 7 = .ok (.ifCond .ne 7, 3) := by decide +kernel
theorem dX7_has_10 : decode cX7_has 10 = .ok (.iconst 1, 1) := by decide +kernel
theorem dX7_has_11 : decode cX7_has 11 = .ok (.goto 4, 3) := by decide +kernel
theorem dX7_has_14 : decode cX7_has 14 = .ok (.iconst 0, 1) := by decide +kernel
theorem dX7_has_15 : decode cX7_has 15 = .ok (.ireturn, 1) := by decide +kernel
set_option maxRecDepth 20000 in
theorem ggX7_stuck_X7_isStuck : GoodIn wsX7_stuck wsX7_isStuck := goodIn_r _ [8, 9, 10, 11, 7, 12, 13, 14, 15, 16, 49, 50, 51, 52, 53, 54, 55, 56, 57, 58, 59, 60, 61, 62] (by decide +kernel) (by decide +kernel)
set_option maxRecDepth 20000 in
theorem gX7_stuck_X7_isStuck : GoodIn wsX7_stuck (wsV RX7 109 RX7 yX7_isStuck wsX7_isStuck) := goodIn_app (goodIn_of _ (by decide +kernel)) ggX7_stuck_X7_isStuck
set_option maxRecDepth 20000 in
theorem ggX7_stuck_X7_isIn : GoodIn wsX7_stuck wsX7_isIn := goodIn_r _ [16] (by decide +kernel) (by decide +kernel)
set_option maxRecDepth 20000 in
theorem gX7_stuck_X7_isIn : GoodIn wsX7_stuck (va_wsS RX7 36 yX7_isIn wsX7_isIn) := goodIn_app (goodIn_of _ (by decide +kernel)) ggX7_stuck_X7_isIn
set_option maxRecDepth 20000 in
theorem ggX7_stuck_X7_looks : GoodIn wsX7_stuck wsX7_looks := goodIn_r _ [20, 21, 22, 23, 1, 2, 3, 24, 25, 26, 7, 27, 13, 28, 29, 30, 31, 32, 33, 34, 35, 36, 37, 38, 39, 9, 10, 11, 12, 40, 41, 42, 43, 44, 45, 49, 50, 51, 52, 53, 54, 55, 56, 57, 58, 59, 60, 61, 62] (by decide +kernel) (by decide +kernel)
set_option maxRecDepth 20000 in
theorem gX7_stuck_X7_looks : GoodIn wsX7_stuck (wsV RX7 136 RX7 yX7_looks wsX7_looks) := goodIn_app (goodIn_of _ (by decide +kernel)) ggX7_stuck_X7_looks
set_option maxRecDepth 20000 in
theorem ggX7_stuck_X7_has : GoodIn wsX7_stuck wsX7_has := goodIn_r _ [48] (by decide +kernel) (by decide +kernel)
set_option maxRecDepth 20000 in
theorem gX7_stuck_X7_has : GoodIn wsX7_stuck (va_wsS RX7 139 yX7_has wsX7_has) := goodIn_app (goodIn_of _ (by decide +kernel)) ggX7_stuck_X7_has
set_option maxRecDepth 20000 in
theorem ggX7_stuck_X7_all : GoodIn wsX7_stuck wsX7_all := goodIn_r _ [27, 13, 49, 50, 51, 52, 53, 54, 55, 56, 57, 58, 59, 60, 61, 62] (by decide +kernel) (by decide +kernel)
set_option maxRecDepth 20000 in
theorem gX7_stuck_X7_all : GoodIn wsX7_stuck (wsV RX7 115 RX7 yX7_all wsX7_all) := goodIn_app (goodIn_of _ (by decide +kernel)) ggX7_stuck_X7_all
theorem dX7_stuck_0 : decode cX7_stuck 0 = .ok (.aload_n 0, 1) := by decide +kernel
theorem dX7_stuck_1 : decode cX7_stuck 1 = .ok (.iload_n 1, 1) := by decide +kernel
theorem dX7_stuck_2 : decode cX7_stuck 2 = .ok (.invokevirtual 109, 3) := by decide +kernel
theorem dX7_stuck_5 : decode cX7_stuck 5 = .ok (.ifCond .eq 12, 3) := by decide +kernel
theorem dX7_stuck_8 : decode cX7_stuck 8 = .ok (.iload_n 2, 1) := by decide +kernel
theorem dX7_stuck_9 : decode cX7_stuck 9 = .ok (.iconst 0, 1) := by decide +kernel
theorem dX7_stuck_10 : decode cX7_stuck 10 = .ok (.iconst 4, 1) := by decide +kernel
theorem dX7_stuck_11 : decode cX7_stuck 11 = .ok (.invokestatic 36, 3) := by decide +kernel
theorem dX7_stuck_14 : decode cX7_stuck 14 = .ok (.ifCond .ne 5, 3) := by decide +kernel
theorem dX7_stuck_17 : decode cX7_stuck 17 = .ok (.iconst (-1), 1) := by decide +kernel
theorem dX7_stuck_18 : decode cX7_stuck 18 = .ok (.ireturn, 1) := by decide +kernel
theorem dX7_stuck_19 : decode cX7_stuck 19 = .ok (.aload_n 0, 1) := by decide +kernel
theorem dX7_stuck_20 : decode cX7_stuck 20 = .ok (.invokevirtual 136, 3) := by decide +kernel
theorem dX7_stuck_23 : decode cX7_stuck 23 = .ok (.iload_n 2, 1) := by decide +kernel
theorem dX7_stuck_24 : decode cX7_stuck 24 = .ok (.iconst 4, 1) := by decide +kernel
theorem dX7_stuck_25 : decode cX7_stuck 25 = .ok (.if_icmp .ne 20, 3) := by decide +kernel
theorem dX7_stuck_28 : decode cX7_stuck 28 = .ok (.aload_n 0, 1) := by decide +kernel
theorem dX7_stuck_29 : decode cX7_stuck 29 = .ok (.getfield 130, 3) := by decide +kernel
theorem dX7_stuck_32 : decode cX7_stuck 32 = .ok (.iload_n 1, 1) := by decide +kernel
theorem dX7_stuck_33 : decode cX7_stuck 33 = .ok (.invokestatic 139, 3) := by decide +kernel
theorem dX7_stuck_36 : decode cX7_stuck 36 = .ok (.ifCond .eq 7, 3) := by decide +kernel
theorem dX7_stuck_39 : decode cX7_stuck 39 = .ok (.iconst 1, 1) := by decide +kernel
theorem dX7_stuck_40 : decode cX7_stuck 40 = .ok (.goto 4, 3) := by decide +kernel
theorem dX7_stuck_43 : decode cX7_stuck 43 = .ok (.iconst 0, 1) := by decide +kernel
theorem dX7_stuck_44 : decode cX7_stuck 44 = .ok (.ireturn, 1) := by decide +kernel
theorem dX7_stuck_45 : decode cX7_stuck 45 = .ok (.iconst 0, 1) := by decide +kernel
theorem dX7_stuck_46 : decode cX7_stuck 46 = .ok (.istore_n 3, 1) := by decide +kernel
theorem dX7_stuck_47 : decode cX7_stuck 47 = .ok (.bipush (-4), 2) := by decide +kernel
theorem dX7_stuck_49 : decode cX7_stuck 49 = .ok (.istore 4, 2) := by decide +kernel
theorem dX7_stuck_51 : decode cX7_stuck 51 = .ok (.aload_n 0, 1) := by decide +kernel
theorem dX7_stuck_52 : decode cX7_stuck 52 = .ok (.invokevirtual 115, 3) := by decide +kernel
theorem dX7_stuck_55 : decode cX7_stuck 55 = .ok (.iconst 1, 1) := by decide +kernel
theorem dX7_stuck_56 : decode cX7_stuck 56 = .ok (.isub, 1) := by decide +kernel
theorem dX7_stuck_57 : decode cX7_stuck 57 = .ok (.istore 5, 2) := by decide +kernel
theorem dX7_stuck_59 : decode cX7_stuck 59 = .ok (.iload 5, 2) := by decide +kernel
theorem dX7_stuck_61 : decode cX7_stuck 61 = .ok (.ifCond .lt 46, 3) := by decide +kernel
theorem dX7_stuck_64 : decode cX7_stuck 64 = .ok (.iload_n 2, 1) := by decide +kernel
theorem dX7_stuck_65 : decode cX7_stuck 65 = .ok (.iconst 2, 1) := by decide +kernel
theorem dX7_stuck_66 : decode cX7_stuck 66 = .ok (.irem, 1) := by decide +kernel
theorem dX7_stuck_67 : decode cX7_stuck 67 = .ok (.ifCond .ne 13, 3) := by decide +kernel
theorem dX7_stuck_70 : decode cX7_stuck 70 = .ok (.aload_n 0, 1) := by decide +kernel
theorem dX7_stuck_71 : decode cX7_stuck 71 = .ok (.getfield 25, 3) := by decide +kernel
theorem dX7_stuck_74 : decode cX7_stuck 74 = .ok (.iload 5, 2) := by decide +kernel
theorem dX7_stuck_76 : decode cX7_stuck 76 = .ok (.laload, 1) := by decide +kernel
theorem dX7_stuck_77 : decode cX7_stuck 77 = .ok (.goto 10, 3) := by decide +kernel
theorem dX7_stuck_80 : decode cX7_stuck 80 = .ok (.aload_n 0, 1) := by decide +kernel
theorem dX7_stuck_81 : decode cX7_stuck 81 = .ok (.getfield 29, 3) := by decide +kernel
theorem dX7_stuck_84 : decode cX7_stuck 84 = .ok (.iload 5, 2) := by decide +kernel
theorem dX7_stuck_86 : decode cX7_stuck 86 = .ok (.laload, 1) := by decide +kernel
theorem dX7_stuck_87 : decode cX7_stuck 87 = .ok (.iload_n 1, 1) := by decide +kernel
theorem dX7_stuck_88 : decode cX7_stuck 88 = .ok (.invokestatic 139, 3) := by decide +kernel
theorem dX7_stuck_91 : decode cX7_stuck 91 = .ok (.ifCond .eq 10, 3) := by decide +kernel
theorem dX7_stuck_94 : decode cX7_stuck 94 = .ok (.iinc 3 1, 3) := by decide +kernel
theorem dX7_stuck_97 : decode cX7_stuck 97 = .ok (.iload 5, 2) := by decide +kernel
theorem dX7_stuck_99 : decode cX7_stuck 99 = .ok (.istore 4, 2) := by decide +kernel
theorem dX7_stuck_101 : decode cX7_stuck 101 = .ok (.iinc 5 (-1), 3) := by decide +kernel
theorem dX7_stuck_104 : decode cX7_stuck 104 = .ok (.goto (-45), 3) := by decide +kernel
theorem dX7_stuck_107 : decode cX7_stuck 107 = .ok (.iload_n 2, 1) := by decide +kernel
theorem dX7_stuck_108 : decode cX7_stuck 108 = .ok (.iconst 2, 1) := by decide +kernel
theorem dX7_stuck_109 : decode cX7_stuck 109 = .ok (.if_icmp .ge 7, 3) := by decide +kernel
theorem dX7_stuck_112 : decode cX7_stuck 112 = .ok (.iload_n 3, 1) := by decide +kernel
theorem dX7_stuck_113 : decode cX7_stuck 113 = .ok (.goto 5, 3) := by decide +kernel
theorem dX7_stuck_116 : decode cX7_stuck 116 = .ok (.iload 4, 2) := by decide +kernel
theorem dX7_stuck_118 : decode cX7_stuck 118 = .ok (.ireturn, 1) := by decide +kernel
set_option maxRecDepth 20000 in
theorem ggX7_many_X7_wires : GoodIn wsX7_many wsX7_wires := goodIn_r _ [5, 6, 10, 11, 12, 13, 14, 15, 16, 17, 18, 19, 20, 21, 22, 23] (by decide +kernel) (by decide +kernel)
set_option maxRecDepth 20000 in
theorem gX7_many_X7_wires : GoodIn wsX7_many (wsV RX7 83 RX7 yX7_wires wsX7_wires) := goodIn_app (goodIn_of _ (by decide +kernel)) ggX7_many_X7_wires
set_option maxRecDepth 20000 in
theorem ggX7_many_X7_has : GoodIn wsX7_many wsX7_has := goodIn_r _ [9] (by decide +kernel) (by decide +kernel)
set_option maxRecDepth 20000 in
theorem gX7_many_X7_has : GoodIn wsX7_many (va_wsS RX7 139 yX7_has wsX7_has) := goodIn_app (goodIn_of _ (by decide +kernel)) ggX7_many_X7_has
theorem dX7_many_0 : decode cX7_many 0 = .ok (.iconst 0, 1) := by decide +kernel
theorem dX7_many_1 : decode cX7_many 1 = .ok (.istore_n 3, 1) := by decide +kernel
theorem dX7_many_2 : decode cX7_many 2 = .ok (.iconst 0, 1) := by decide +kernel
theorem dX7_many_3 : decode cX7_many 3 = .ok (.istore 4, 2) := by decide +kernel
theorem dX7_many_5 : decode cX7_many 5 = .ok (.iload 4, 2) := by decide +kernel
theorem dX7_many_7 : decode cX7_many 7 = .ok (.iconst 2, 1) := by decide +kernel
theorem dX7_many_8 : decode cX7_many 8 = .ok (.aload_n 0, 1) := by decide +kernel
theorem dX7_many_9 : decode cX7_many 9 = .ok (.invokevirtual 83, 3) := by decide +kernel
theorem dX7_many_12 : decode cX7_many 12 = .ok (.imul, 1) := by decide +kernel
theorem dX7_many_13 : decode cX7_many 13 = .ok (.if_icmp .ge 26, 3) := by decide +kernel
theorem dX7_many_16 : decode cX7_many 16 = .ok (.iload_n 3, 1) := by decide +kernel
theorem dX7_many_17 : decode cX7_many 17 = .ok (.lload_n 1, 1) := by decide +kernel
theorem dX7_many_18 : decode cX7_many 18 = .ok (.iload 4, 2) := by decide +kernel
theorem dX7_many_20 : decode cX7_many 20 = .ok (.invokestatic 139, 3) := by decide +kernel
theorem dX7_many_23 : decode cX7_many 23 = .ok (.ifCond .eq 7, 3) := by decide +kernel
theorem dX7_many_26 : decode cX7_many 26 = .ok (.iconst 1, 1) := by decide +kernel
theorem dX7_many_27 : decode cX7_many 27 = .ok (.goto 4, 3) := by decide +kernel
theorem dX7_many_30 : decode cX7_many 30 = .ok (.iconst 0, 1) := by decide +kernel
theorem dX7_many_31 : decode cX7_many 31 = .ok (.iadd, 1) := by decide +kernel
theorem dX7_many_32 : decode cX7_many 32 = .ok (.istore_n 3, 1) := by decide +kernel
theorem dX7_many_33 : decode cX7_many 33 = .ok (.iinc 4 1, 3) := by decide +kernel
theorem dX7_many_36 : decode cX7_many 36 = .ok (.goto (-31), 3) := by decide +kernel
theorem dX7_many_39 : decode cX7_many 39 = .ok (.iload_n 3, 1) := by decide +kernel
theorem dX7_many_40 : decode cX7_many 40 = .ok (.ireturn, 1) := by decide +kernel
set_option maxRecDepth 20000 in
theorem ggX7_exposes_X7_isWord : GoodIn wsX7_exposes wsX7_isWord := goodIn_r _ [6, 7, 8, 9, 5, 10, 53, 54, 55, 56, 57, 58, 59, 60, 61, 62, 63, 64, 65, 66] (by decide +kernel) (by decide +kernel)
set_option maxRecDepth 20000 in
theorem gX7_exposes_X7_isWord : GoodIn wsX7_exposes (wsV RX7 102 RX7 yX7_isWord wsX7_isWord) := goodIn_app (goodIn_of _ (by decide +kernel)) ggX7_exposes_X7_isWord
set_option maxRecDepth 20000 in
theorem ggX7_exposes_X7_isCode : GoodIn wsX7_exposes wsX7_isCode := goodIn_r _ [14, 7, 15, 16, 5, 17, 53, 54, 55, 56, 57, 58, 59, 60, 61, 62, 63, 64, 65, 66] (by decide +kernel) (by decide +kernel)
set_option maxRecDepth 20000 in
theorem gX7_exposes_X7_isCode : GoodIn wsX7_exposes (wsV RX7 118 RX7 yX7_isCode wsX7_isCode) := goodIn_app (goodIn_of _ (by decide +kernel)) ggX7_exposes_X7_isCode
set_option maxRecDepth 20000 in
theorem ggX7_exposes_X7_looks : GoodIn wsX7_exposes wsX7_looks := goodIn_r _ [21, 22, 23, 24, 25, 1, 26, 27, 28, 29, 5, 30, 7, 11, 12, 13, 14, 15, 16, 17, 31, 32, 33, 34, 35, 36, 37, 38, 39, 40, 41, 42, 43, 44, 45, 53, 54, 55, 56, 57, 58, 59, 60, 61, 62, 63, 64, 65, 66] (by decide +kernel) (by decide +kernel)
set_option maxRecDepth 20000 in
theorem gX7_exposes_X7_looks : GoodIn wsX7_exposes (wsV RX7 136 RX7 yX7_looks wsX7_looks) := goodIn_app (goodIn_of _ (by decide +kernel)) ggX7_exposes_X7_looks
set_option maxRecDepth 20000 in
theorem ggX7_exposes_X7_many : GoodIn wsX7_exposes wsX7_many := goodIn_r _ [49, 36, 37, 38, 5, 39, 7, 50, 51, 52, 53, 54, 55, 56, 57, 58, 59, 60, 61, 62, 63, 64, 65, 66] (by decide +kernel) (by decide +kernel)
set_option maxRecDepth 20000 in
theorem gX7_exposes_X7_many : GoodIn wsX7_exposes (wsV RX7 143 RX7 yX7_many wsX7_many) := goodIn_app (goodIn_of _ (by decide +kernel)) ggX7_exposes_X7_many
theorem dX7_exposes_0 : decode cX7_exposes 0 = .ok (.aload_n 0, 1) := by decide +kernel
theorem dX7_exposes_1 : decode cX7_exposes 1 = .ok (.iload_n 1, 1) := by decide +kernel
theorem dX7_exposes_2 : decode cX7_exposes 2 = .ok (.invokevirtual 102, 3) := by decide +kernel
theorem dX7_exposes_5 : decode cX7_exposes 5 = .ok (.ifCond .eq 11, 3) := by decide +kernel
theorem dX7_exposes_8 : decode cX7_exposes 8 = .ok (.aload_n 0, 1) := by decide +kernel
theorem dX7_exposes_9 : decode cX7_exposes 9 = .ok (.iload_n 1, 1) := by decide +kernel
theorem dX7_exposes_10 : decode cX7_exposes 10 = .ok (.invokevirtual 118, 3) := by decide +kernel
theorem dX7_exposes_13 : decode cX7_exposes 13 = .ok (.ifCond .ne 5, 3) := by decide +kernel
theorem dX7_exposes_16 : decode cX7_exposes 16 = .ok (.iconst (-1), 1) := by decide +kernel
theorem dX7_exposes_17 : decode cX7_exposes 17 = .ok (.ireturn, 1) := by decide +kernel
theorem dX7_exposes_18 : decode cX7_exposes 18 = .ok (.aload_n 0, 1) := by decide +kernel
theorem dX7_exposes_19 : decode cX7_exposes 19 = .ok (.invokevirtual 136, 3) := by decide +kernel
theorem dX7_exposes_22 : decode cX7_exposes 22 = .ok (.aload_n 0, 1) := by decide +kernel
theorem dX7_exposes_23 : decode cX7_exposes 23 = .ok (.aload_n 0, 1) := by decide +kernel
theorem dX7_exposes_24 : decode cX7_exposes 24 = .ok (.getfield 25, 3) := by decide +kernel
theorem dX7_exposes_27 : decode cX7_exposes 27 = .ok (.iload_n 1, 1) := by decide +kernel
theorem dX7_exposes_28 : decode cX7_exposes 28 = .ok (.laload, 1) := by decide +kernel
theorem dX7_exposes_29 : decode cX7_exposes 29 = .ok (.invokevirtual 143, 3) := by decide +kernel
theorem dX7_exposes_32 : decode cX7_exposes 32 = .ok (.ireturn, 1) := by decide +kernel
set_option maxRecDepth 20000 in
theorem ggX7_isDisjoint_X7_all : GoodIn wsX7_isDisjoint wsX7_all := goodIn_r _ [5, 6, 29, 30, 31, 32, 33, 34, 35, 36, 37, 38, 39, 40, 41, 42] (by decide +kernel) (by decide +kernel)
set_option maxRecDepth 20000 in
theorem gX7_isDisjoint_X7_all : GoodIn wsX7_isDisjoint (wsV RX7 115 RX7 yX7_all wsX7_all) := goodIn_app (goodIn_of _ (by decide +kernel)) ggX7_isDisjoint_X7_all
set_option maxRecDepth 20000 in
theorem ggX7_isDisjoint_X7_lets : GoodIn wsX7_isDisjoint wsX7_lets := goodIn_r _ [10, 6, 11, 12, 13, 14, 4, 15, 16, 17, 18, 29, 30, 31, 32, 33, 34, 35, 36, 37, 38, 39, 40, 41, 42] (by decide +kernel) (by decide +kernel)
set_option maxRecDepth 20000 in
theorem gX7_isDisjoint_X7_lets : GoodIn wsX7_isDisjoint (wsV RX7 105 RX7 yX7_lets wsX7_lets) := goodIn_app (goodIn_of _ (by decide +kernel)) ggX7_isDisjoint_X7_lets
set_option maxRecDepth 20000 in
theorem ggX7_isDisjoint_X7_isValid : GoodIn wsX7_isDisjoint wsX7_isValid := goodIn_r _ [21] (by decide +kernel) (by decide +kernel)
set_option maxRecDepth 20000 in
theorem gX7_isDisjoint_X7_isValid : GoodIn wsX7_isDisjoint (va_wsS RX7 133 yX7_isValid wsX7_isValid) := goodIn_app (goodIn_of _ (by decide +kernel)) ggX7_isDisjoint_X7_isValid
set_option maxRecDepth 20000 in
theorem ggX7_isDisjoint_X7_isCode : GoodIn wsX7_isDisjoint wsX7_isCode := goodIn_r _ [25, 6, 26, 27, 4, 28, 29, 30, 31, 32, 33, 34, 35, 36, 37, 38, 39, 40, 41, 42] (by decide +kernel) (by decide +kernel)
set_option maxRecDepth 20000 in
theorem gX7_isDisjoint_X7_isCode : GoodIn wsX7_isDisjoint (wsV RX7 118 RX7 yX7_isCode wsX7_isCode) := goodIn_app (goodIn_of _ (by decide +kernel)) ggX7_isDisjoint_X7_isCode
theorem dX7_isDisjoint_0 : decode cX7_isDisjoint 0 = .ok (.iconst 1, 1) := by decide +kernel
theorem dX7_isDisjoint_1 : decode cX7_isDisjoint 1 = .ok (.istore_n 1, 1) := by decide +kernel
theorem dX7_isDisjoint_2 : decode cX7_isDisjoint 2 = .ok (.iconst 0, 1) := by decide +kernel
theorem dX7_isDisjoint_3 : decode cX7_isDisjoint 3 = .ok (.istore_n 2, 1) := by decide +kernel
theorem dX7_isDisjoint_4 : decode cX7_isDisjoint 4 = .ok (.iload_n 2, 1) := by decide +kernel
theorem dX7_isDisjoint_5 : decode cX7_isDisjoint 5 = .ok (.aload_n 0, 1) := by decide +kernel
theorem dX7_isDisjoint_6 : decode cX7_isDisjoint 6 = .ok (.invokevirtual 115, 3) := by decide +kernel
theorem dX7_isDisjoint_9 : decode cX7_isDisjoint 9 = .ok (.if_icmp .ge 39, 3) := by decide +kernel
theorem dX7_isDisjoint_12 : decode cX7_isDisjoint 12 = .ok (.iload_n 1, 1) := by decide +kernel
theorem dX7_isDisjoint_13 : decode cX7_isDisjoint 13 = .ok (.ifCond .eq 27, 3) := by decide +kernel
theorem dX7_isDisjoint_16 : decode cX7_isDisjoint 16 = .ok (.aload_n 0, 1) := by decide +kernel
theorem dX7_isDisjoint_17 : decode cX7_isDisjoint 17 = .ok (.iload_n 2, 1) := by decide +kernel
theorem dX7_isDisjoint_18 : decode cX7_isDisjoint 18 = .ok (.bipush (-4), 2) := by decide +kernel
theorem dX7_isDisjoint_20 : decode cX7_isDisjoint 20 = .ok (.bipush (-4), 2) := by decide +kernel
theorem dX7_isDisjoint_22 : decode cX7_isDisjoint 22 = .ok (.invokevirtual 105, 3) := by decide +kernel
theorem dX7_isDisjoint_25 : decode cX7_isDisjoint 25 = .ok (.invokestatic 133, 3) := by decide +kernel
theorem dX7_isDisjoint_28 : decode cX7_isDisjoint 28 = .ok (.aload_n 0, 1) := by decide +kernel
theorem dX7_isDisjoint_29 : decode cX7_isDisjoint 29 = .ok (.iload_n 2, 1) := by decide +kernel
theorem dX7_isDisjoint_30 : decode cX7_isDisjoint 30 = .ok (.invokevirtual 118, 3) := by decide +kernel
theorem dX7_isDisjoint_33 : decode cX7_isDisjoint 33 = .ok (.if_icmp .ne 7, 3) := by decide +kernel
theorem dX7_isDisjoint_36 : decode cX7_isDisjoint 36 = .ok (.iconst 1, 1) := by decide +kernel
theorem dX7_isDisjoint_37 : decode cX7_isDisjoint 37 = .ok (.goto 4, 3) := by decide +kernel
theorem dX7_isDisjoint_40 : decode cX7_isDisjoint 40 = .ok (.iconst 0, 1) := by decide +kernel
theorem dX7_isDisjoint_41 : decode cX7_isDisjoint 41 = .ok (.istore_n 1, 1) := by decide +kernel
theorem dX7_isDisjoint_42 : decode cX7_isDisjoint 42 = .ok (.iinc 2 1, 3) := by decide +kernel
theorem dX7_isDisjoint_45 : decode cX7_isDisjoint 45 = .ok (.goto (-41), 3) := by decide +kernel
theorem dX7_isDisjoint_48 : decode cX7_isDisjoint 48 = .ok (.iload_n 1, 1) := by decide +kernel
theorem dX7_isDisjoint_49 : decode cX7_isDisjoint 49 = .ok (.ireturn, 1) := by decide +kernel
set_option maxRecDepth 20000 in
theorem ggX7_is_X7_isIn : GoodIn wsX7_is wsX7_isIn := goodIn_r _ [6] (by decide +kernel) (by decide +kernel)
set_option maxRecDepth 20000 in
theorem gX7_is_X7_isIn : GoodIn wsX7_is (va_wsS RX7 36 yX7_isIn wsX7_isIn) := goodIn_app (goodIn_of _ (by decide +kernel)) ggX7_is_X7_isIn
set_option maxRecDepth 20000 in
theorem ggX7_is_X7_isDisjoint : GoodIn wsX7_is wsX7_isDisjoint := goodIn_r _ [10, 11, 12, 13, 5, 14, 15, 16, 17, 18, 19, 20, 21, 22, 23, 24, 25, 26, 27, 28, 29, 30, 31, 32, 33, 34, 35, 36, 37, 53, 54, 55, 56, 57, 58, 59, 60, 61, 62, 63, 64, 65, 66] (by decide +kernel) (by decide +kernel)
set_option maxRecDepth 20000 in
theorem gX7_is_X7_isDisjoint : GoodIn wsX7_is (wsV RX7 147 RX7 yX7_isDisjoint wsX7_isDisjoint) := goodIn_app (goodIn_of _ (by decide +kernel)) ggX7_is_X7_isDisjoint
set_option maxRecDepth 20000 in
theorem ggX7_is_X7_looks : GoodIn wsX7_is wsX7_looks := goodIn_r _ [41, 1, 2, 42, 43, 44, 45, 11, 12, 13, 5, 14, 15, 31, 32, 33, 34, 35, 36, 37, 16, 17, 18, 19, 20, 21, 22, 23, 24, 25, 26, 27, 28, 29, 30, 53, 54, 55, 56, 57, 58, 59, 60, 61, 62, 63, 64, 65, 66] (by decide +kernel) (by decide +kernel)
set_option maxRecDepth 20000 in
theorem gX7_is_X7_looks : GoodIn wsX7_is (wsV RX7 136 RX7 yX7_looks wsX7_looks) := goodIn_app (goodIn_of _ (by decide +kernel)) ggX7_is_X7_looks
set_option maxRecDepth 20000 in
theorem ggX7_is_X7_many : GoodIn wsX7_is wsX7_many := goodIn_r _ [49, 21, 22, 23, 5, 24, 15, 50, 51, 52, 53, 54, 55, 56, 57, 58, 59, 60, 61, 62, 63, 64, 65, 66] (by decide +kernel) (by decide +kernel)
set_option maxRecDepth 20000 in
theorem gX7_is_X7_many : GoodIn wsX7_is (wsV RX7 143 RX7 yX7_many wsX7_many) := goodIn_app (goodIn_of _ (by decide +kernel)) ggX7_is_X7_many
set_option maxRecDepth 20000 in
theorem ggX7_is_X7_wires : GoodIn wsX7_is wsX7_wires := goodIn_r _ [24, 15, 53, 54, 55, 56, 57, 58, 59, 60, 61, 62, 63, 64, 65, 66] (by decide +kernel) (by decide +kernel)
set_option maxRecDepth 20000 in
theorem gX7_is_X7_wires : GoodIn wsX7_is (wsV RX7 83 RX7 yX7_wires wsX7_wires) := goodIn_app (goodIn_of _ (by decide +kernel)) ggX7_is_X7_wires
theorem dX7_is_0 : decode cX7_is 0 = .ok (.iload_n 1, 1) := by decide +kernel
theorem dX7_is_1 : decode cX7_is 1 = .ok (.iconst 0, 1) := by decide +kernel
theorem dX7_is_2 : decode cX7_is 2 = .ok (.iconst 2, 1) := by decide +kernel
theorem dX7_is_3 : decode cX7_is 3 = .ok (.invokestatic 36, 3) := by decide +kernel
theorem dX7_is_6 : decode cX7_is 6 = .ok (.ifCond .ne 5, 3) := by decide +kernel
theorem dX7_is_9 : decode cX7_is 9 = .ok (.iconst (-1), 1) := by decide +kernel
theorem dX7_is_10 : decode cX7_is 10 = .ok (.ireturn, 1) := by decide +kernel
theorem dX7_is_11 : decode cX7_is 11 = .ok (.iload_n 1, 1) := by decide +kernel
theorem dX7_is_12 : decode cX7_is 12 = .ok (.ifCond .ne 16, 3) := by decide +kernel
theorem dX7_is_15 : decode cX7_is 15 = .ok (.aload_n 0, 1) := by decide +kernel
theorem dX7_is_16 : decode cX7_is 16 = .ok (.invokevirtual 147, 3) := by decide +kernel
theorem dX7_is_19 : decode cX7_is 19 = .ok (.ifCond .eq 7, 3) := by decide +kernel
theorem dX7_is_22 : decode cX7_is 22 = .ok (.iconst 1, 1) := by decide +kernel
theorem dX7_is_23 : decode cX7_is 23 = .ok (.goto 4, 3) := by decide +kernel
theorem dX7_is_26 : decode cX7_is 26 = .ok (.iconst 0, 1) := by decide +kernel
theorem dX7_is_27 : decode cX7_is 27 = .ok (.ireturn, 1) := by decide +kernel
theorem dX7_is_28 : decode cX7_is 28 = .ok (.aload_n 0, 1) := by decide +kernel
theorem dX7_is_29 : decode cX7_is 29 = .ok (.invokevirtual 136, 3) := by decide +kernel
theorem dX7_is_32 : decode cX7_is 32 = .ok (.iload_n 1, 1) := by decide +kernel
theorem dX7_is_33 : decode cX7_is 33 = .ok (.iconst 1, 1) := by decide +kernel
theorem dX7_is_34 : decode cX7_is 34 = .ok (.if_icmp .ne 28, 3) := by decide +kernel
theorem dX7_is_37 : decode cX7_is 37 = .ok (.aload_n 0, 1) := by decide +kernel
theorem dX7_is_38 : decode cX7_is 38 = .ok (.aload_n 0, 1) := by decide +kernel
theorem dX7_is_39 : decode cX7_is 39 = .ok (.getfield 121, 3) := by decide +kernel
theorem dX7_is_42 : decode cX7_is 42 = .ok (.invokevirtual 143, 3) := by decide +kernel
theorem dX7_is_45 : decode cX7_is 45 = .ok (.iconst 2, 1) := by decide +kernel
theorem dX7_is_46 : decode cX7_is 46 = .ok (.aload_n 0, 1) := by decide +kernel
theorem dX7_is_47 : decode cX7_is 47 = .ok (.invokevirtual 83, 3) := by decide +kernel
theorem dX7_is_50 : decode cX7_is 50 = .ok (.imul, 1) := by decide +kernel
theorem dX7_is_51 : decode cX7_is 51 = .ok (.if_icmp .ne 7, 3) := by decide +kernel
theorem dX7_is_54 : decode cX7_is 54 = .ok (.iconst 1, 1) := by decide +kernel
theorem dX7_is_55 : decode cX7_is 55 = .ok (.goto 23, 3) := by decide +kernel
theorem dX7_is_58 : decode cX7_is 58 = .ok (.iconst 0, 1) := by decide +kernel
theorem dX7_is_59 : decode cX7_is 59 = .ok (.goto 19, 3) := by decide +kernel
theorem dX7_is_62 : decode cX7_is 62 = .ok (.aload_n 0, 1) := by decide +kernel
theorem dX7_is_63 : decode cX7_is 63 = .ok (.aload_n 0, 1) := by decide +kernel
theorem dX7_is_64 : decode cX7_is 64 = .ok (.getfield 125, 3) := by decide +kernel
theorem dX7_is_67 : decode cX7_is 67 = .ok (.invokevirtual 143, 3) := by decide +kernel
theorem dX7_is_70 : decode cX7_is 70 = .ok (.ifCond .ne 7, 3) := by decide +kernel
theorem dX7_is_73 : decode cX7_is 73 = .ok (.iconst 1, 1) := by decide +kernel
theorem dX7_is_74 : decode cX7_is 74 = .ok (.goto 4, 3) := by decide +kernel
theorem dX7_is_77 : decode cX7_is 77 = .ok (.iconst 0, 1) := by decide +kernel
theorem dX7_is_78 : decode cX7_is 78 = .ok (.ireturn, 1) := by decide +kernel
set_option maxRecDepth 20000 in
theorem ggX7_stucks_X7_isIn : GoodIn wsX7_stucks wsX7_isIn := goodIn_r _ [8] (by decide +kernel) (by decide +kernel)
set_option maxRecDepth 20000 in
theorem gX7_stucks_X7_isIn : GoodIn wsX7_stucks (va_wsS RX7 36 yX7_isIn wsX7_isIn) := goodIn_app (goodIn_of _ (by decide +kernel)) ggX7_stucks_X7_isIn
set_option maxRecDepth 20000 in
theorem ggX7_stucks_X7_looks : GoodIn wsX7_stucks wsX7_looks := goodIn_r _ [12, 1, 4, 2, 3, 13, 14, 15, 16, 17, 7, 18, 19, 20, 21, 22, 23, 24, 25, 26, 27, 28, 29, 30, 31, 32, 33, 34, 35, 36, 37, 38, 39, 40, 41, 49, 50, 51, 52, 53, 54, 55, 56, 57, 58, 59, 60, 61, 62] (by decide +kernel) (by decide +kernel)
set_option maxRecDepth 20000 in
theorem gX7_stucks_X7_looks : GoodIn wsX7_stucks (wsV RX7 136 RX7 yX7_looks wsX7_looks) := goodIn_app (goodIn_of _ (by decide +kernel)) ggX7_stucks_X7_looks
set_option maxRecDepth 20000 in
theorem ggX7_stucks_X7_many : GoodIn wsX7_stucks wsX7_many := goodIn_r _ [45, 32, 33, 34, 7, 35, 19, 46, 47, 48, 49, 50, 51, 52, 53, 54, 55, 56, 57, 58, 59, 60, 61, 62] (by decide +kernel) (by decide +kernel)
set_option maxRecDepth 20000 in
theorem gX7_stucks_X7_many : GoodIn wsX7_stucks (wsV RX7 143 RX7 yX7_many wsX7_many) := goodIn_app (goodIn_of _ (by decide +kernel)) ggX7_stucks_X7_many
set_option maxRecDepth 20000 in
theorem ggX7_stucks_X7_wires : GoodIn wsX7_stucks wsX7_wires := goodIn_r _ [35, 19, 49, 50, 51, 52, 53, 54, 55, 56, 57, 58, 59, 60, 61, 62] (by decide +kernel) (by decide +kernel)
set_option maxRecDepth 20000 in
theorem gX7_stucks_X7_wires : GoodIn wsX7_stucks (wsV RX7 83 RX7 yX7_wires wsX7_wires) := goodIn_app (goodIn_of _ (by decide +kernel)) ggX7_stucks_X7_wires
set_option maxRecDepth 20000 in
theorem ggX7_stucks_X7_has : GoodIn wsX7_stucks wsX7_has := goodIn_r _ [48] (by decide +kernel) (by decide +kernel)
set_option maxRecDepth 20000 in
theorem gX7_stucks_X7_has : GoodIn wsX7_stucks (va_wsS RX7 139 yX7_has wsX7_has) := goodIn_app (goodIn_of _ (by decide +kernel)) ggX7_stucks_X7_has
theorem dX7_stucks_0 : decode cX7_stucks 0 = .ok (.iload_n 1, 1) := by decide +kernel
theorem dX7_stucks_1 : decode cX7_stucks 1 = .ok (.iconst 0, 1) := by decide +kernel
theorem dX7_stucks_2 : decode cX7_stucks 2 = .ok (.iconst 5, 1) := by decide +kernel
theorem dX7_stucks_3 : decode cX7_stucks 3 = .ok (.invokestatic 36, 3) := by decide +kernel
theorem dX7_stucks_6 : decode cX7_stucks 6 = .ok (.ifCond .ne 5, 3) := by decide +kernel
theorem dX7_stucks_9 : decode cX7_stucks 9 = .ok (.iconst (-1), 1) := by decide +kernel
theorem dX7_stucks_10 : decode cX7_stucks 10 = .ok (.ireturn, 1) := by decide +kernel
theorem dX7_stucks_11 : decode cX7_stucks 11 = .ok (.aload_n 0, 1) := by decide +kernel
theorem dX7_stucks_12 : decode cX7_stucks 12 = .ok (.invokevirtual 136, 3) := by decide +kernel
theorem dX7_stucks_15 : decode cX7_stucks 15 = .ok (.iload_n 1, 1) := by decide +kernel
theorem dX7_stucks_16 : decode cX7_stucks 16 = .ok (.iconst 3, 1) := by decide +kernel
theorem dX7_stucks_17 : decode cX7_stucks 17 = .ok (.irem, 1) := by decide +kernel
theorem dX7_stucks_18 : decode cX7_stucks 18 = .ok (.ifCond .ne 14, 3) := by decide +kernel
theorem dX7_stucks_21 : decode cX7_stucks 21 = .ok (.aload_n 0, 1) := by decide +kernel
theorem dX7_stucks_22 : decode cX7_stucks 22 = .ok (.getfield 121, 3) := by decide +kernel
theorem dX7_stucks_25 : decode cX7_stucks 25 = .ok (.ldc2_w 128, 3) := by decide +kernel
theorem dX7_stucks_28 : decode cX7_stucks 28 = .ok (.lxor, 1) := by decide +kernel
theorem dX7_stucks_29 : decode cX7_stucks 29 = .ok (.goto 21, 3) := by decide +kernel
theorem dX7_stucks_32 : decode cX7_stucks 32 = .ok (.iload_n 1, 1) := by decide +kernel
theorem dX7_stucks_33 : decode cX7_stucks 33 = .ok (.iconst 3, 1) := by decide +kernel
theorem dX7_stucks_34 : decode cX7_stucks 34 = .ok (.irem, 1) := by decide +kernel
theorem dX7_stucks_35 : decode cX7_stucks 35 = .ok (.iconst 1, 1) := by decide +kernel
theorem dX7_stucks_36 : decode cX7_stucks 36 = .ok (.if_icmp .ne 10, 3) := by decide +kernel
theorem dX7_stucks_39 : decode cX7_stucks 39 = .ok (.aload_n 0, 1) := by decide +kernel
theorem dX7_stucks_40 : decode cX7_stucks 40 = .ok (.getfield 130, 3) := by decide +kernel
theorem dX7_stucks_43 : decode cX7_stucks 43 = .ok (.goto 7, 3) := by decide +kernel
theorem dX7_stucks_46 : decode cX7_stucks 46 = .ok (.aload_n 0, 1) := by decide +kernel
theorem dX7_stucks_47 : decode cX7_stucks 47 = .ok (.getfield 125, 3) := by decide +kernel
theorem dX7_stucks_50 : decode cX7_stucks 50 = .ok (.lstore_n 2, 1) := by decide +kernel
theorem dX7_stucks_51 : decode cX7_stucks 51 = .ok (.iload_n 1, 1) := by decide +kernel
theorem dX7_stucks_52 : decode cX7_stucks 52 = .ok (.iconst 3, 1) := by decide +kernel
theorem dX7_stucks_53 : decode cX7_stucks 53 = .ok (.if_icmp .ge 9, 3) := by decide +kernel
theorem dX7_stucks_56 : decode cX7_stucks 56 = .ok (.aload_n 0, 1) := by decide +kernel
theorem dX7_stucks_57 : decode cX7_stucks 57 = .ok (.lload_n 2, 1) := by decide +kernel
theorem dX7_stucks_58 : decode cX7_stucks 58 = .ok (.invokevirtual 143, 3) := by decide +kernel
theorem dX7_stucks_61 : decode cX7_stucks 61 = .ok (.ireturn, 1) := by decide +kernel
theorem dX7_stucks_62 : decode cX7_stucks 62 = .ok (.iconst 0, 1) := by decide +kernel
theorem dX7_stucks_63 : decode cX7_stucks 63 = .ok (.istore 4, 2) := by decide +kernel
theorem dX7_stucks_65 : decode cX7_stucks 65 = .ok (.iload 4, 2) := by decide +kernel
theorem dX7_stucks_67 : decode cX7_stucks 67 = .ok (.iconst 2, 1) := by decide +kernel
theorem dX7_stucks_68 : decode cX7_stucks 68 = .ok (.aload_n 0, 1) := by decide +kernel
theorem dX7_stucks_69 : decode cX7_stucks 69 = .ok (.invokevirtual 83, 3) := by decide +kernel
theorem dX7_stucks_72 : decode cX7_stucks 72 = .ok (.imul, 1) := by decide +kernel
theorem dX7_stucks_73 : decode cX7_stucks 73 = .ok (.if_icmp .ge 21, 3) := by decide +kernel
theorem dX7_stucks_76 : decode cX7_stucks 76 = .ok (.lload_n 2, 1) := by decide +kernel
theorem dX7_stucks_77 : decode cX7_stucks 77 = .ok (.iload 4, 2) := by decide +kernel
theorem dX7_stucks_79 : decode cX7_stucks 79 = .ok (.invokestatic 139, 3) := by decide +kernel
theorem dX7_stucks_82 : decode cX7_stucks 82 = .ok (.ifCond .eq 6, 3) := by decide +kernel
theorem dX7_stucks_85 : decode cX7_stucks 85 = .ok (.iload 4, 2) := by decide +kernel
theorem dX7_stucks_87 : decode cX7_stucks 87 = .ok (.ireturn, 1) := by decide +kernel
theorem dX7_stucks_88 : decode cX7_stucks 88 = .ok (.iinc 4 1, 3) := by decide +kernel
theorem dX7_stucks_91 : decode cX7_stucks 91 = .ok (.goto (-26), 3) := by decide +kernel
theorem dX7_stucks_94 : decode cX7_stucks 94 = .ok (.bipush (-4), 2) := by decide +kernel
theorem dX7_stucks_96 : decode cX7_stucks 96 = .ok (.ireturn, 1) := by decide +kernel
set_option maxRecDepth 20000 in
theorem ggX7_test_X7_looks : GoodIn wsX7_test wsX7_looks := goodIn_r _ [8, 1, 9, 3, 10, 2, 11, 12, 13, 14, 7, 15, 16, 17, 18, 19, 20, 21, 22, 23, 24, 25, 26, 27, 28, 29, 30, 31, 32, 33, 34, 35, 36, 37, 38, 46, 47, 48, 49, 50, 51, 52, 53, 54, 55, 56, 57, 58, 59] (by decide +kernel) (by decide +kernel)
set_option maxRecDepth 20000 in
theorem gX7_test_X7_looks : GoodIn wsX7_test (wsV RX7 136 RX7 yX7_looks wsX7_looks) := goodIn_app (goodIn_of _ (by decide +kernel)) ggX7_test_X7_looks
set_option maxRecDepth 20000 in
theorem ggX7_test_X7_many : GoodIn wsX7_test wsX7_many := goodIn_r _ [42, 29, 30, 31, 7, 32, 16, 43, 44, 45, 46, 47, 48, 49, 50, 51, 52, 53, 54, 55, 56, 57, 58, 59] (by decide +kernel) (by decide +kernel)
set_option maxRecDepth 20000 in
theorem gX7_test_X7_many : GoodIn wsX7_test (wsV RX7 143 RX7 yX7_many wsX7_many) := goodIn_app (goodIn_of _ (by decide +kernel)) ggX7_test_X7_many
set_option maxRecDepth 20000 in
theorem ggX7_test_X7_all : GoodIn wsX7_test wsX7_all := goodIn_r _ [15, 16, 46, 47, 48, 49, 50, 51, 52, 53, 54, 55, 56, 57, 58, 59] (by decide +kernel) (by decide +kernel)
set_option maxRecDepth 20000 in
theorem gX7_test_X7_all : GoodIn wsX7_test (wsV RX7 115 RX7 yX7_all wsX7_all) := goodIn_app (goodIn_of _ (by decide +kernel)) ggX7_test_X7_all
theorem dX7_test_0 : decode cX7_test 0 = .ok (.iload_n 1, 1) := by decide +kernel
theorem dX7_test_1 : decode cX7_test 1 = .ok (.iconst (-1), 1) := by decide +kernel
theorem dX7_test_2 : decode cX7_test 2 = .ok (.if_icmp .ge 5, 3) := by decide +kernel
theorem dX7_test_5 : decode cX7_test 5 = .ok (.iconst (-1), 1) := by decide +kernel
theorem dX7_test_6 : decode cX7_test 6 = .ok (.ireturn, 1) := by decide +kernel
theorem dX7_test_7 : decode cX7_test 7 = .ok (.aload_n 0, 1) := by decide +kernel
theorem dX7_test_8 : decode cX7_test 8 = .ok (.invokevirtual 136, 3) := by decide +kernel
theorem dX7_test_11 : decode cX7_test 11 = .ok (.aload_n 0, 1) := by decide +kernel
theorem dX7_test_12 : decode cX7_test 12 = .ok (.getfield 121, 3) := by decide +kernel
theorem dX7_test_15 : decode cX7_test 15 = .ok (.lstore_n 2, 1) := by decide +kernel
theorem dX7_test_16 : decode cX7_test 16 = .ok (.iconst 0, 1) := by decide +kernel
theorem dX7_test_17 : decode cX7_test 17 = .ok (.istore 4, 2) := by decide +kernel
theorem dX7_test_19 : decode cX7_test 19 = .ok (.aload_n 0, 1) := by decide +kernel
theorem dX7_test_20 : decode cX7_test 20 = .ok (.lload_n 2, 1) := by decide +kernel
theorem dX7_test_21 : decode cX7_test 21 = .ok (.invokevirtual 143, 3) := by decide +kernel
theorem dX7_test_24 : decode cX7_test 24 = .ok (.ifCond .le 103, 3) := by decide +kernel
theorem dX7_test_27 : decode cX7_test 27 = .ok (.iconst 0, 1) := by decide +kernel
theorem dX7_test_28 : decode cX7_test 28 = .ok (.istore 5, 2) := by decide +kernel
theorem dX7_test_30 : decode cX7_test 30 = .ok (.iconst 0, 1) := by decide +kernel
theorem dX7_test_31 : decode cX7_test 31 = .ok (.istore 6, 2) := by decide +kernel
theorem dX7_test_33 : decode cX7_test 33 = .ok (.iconst 0, 1) := by decide +kernel
theorem dX7_test_34 : decode cX7_test 34 = .ok (.istore 7, 2) := by decide +kernel
theorem dX7_test_36 : decode cX7_test 36 = .ok (.iload 7, 2) := by decide +kernel
theorem dX7_test_38 : decode cX7_test 38 = .ok (.aload_n 0, 1) := by decide +kernel
theorem dX7_test_39 : decode cX7_test 39 = .ok (.invokevirtual 115, 3) := by decide +kernel
theorem dX7_test_42 : decode cX7_test 42 = .ok (.if_icmp .ge 56, 3) := by decide +kernel
theorem dX7_test_45 : decode cX7_test 45 = .ok (.aload_n 0, 1) := by decide +kernel
theorem dX7_test_46 : decode cX7_test 46 = .ok (.aload_n 0, 1) := by decide +kernel
theorem dX7_test_47 : decode cX7_test 47 = .ok (.getfield 25, 3) := by decide +kernel
theorem dX7_test_50 : decode cX7_test 50 = .ok (.iload 7, 2) := by decide +kernel
theorem dX7_test_52 : decode cX7_test 52 = .ok (.laload, 1) := by decide +kernel
theorem dX7_test_53 : decode cX7_test 53 = .ok (.lload_n 2, 1) := by decide +kernel
theorem dX7_test_54 : decode cX7_test 54 = .ok (.land, 1) := by decide +kernel
theorem dX7_test_55 : decode cX7_test 55 = .ok (.invokevirtual 143, 3) := by decide +kernel
theorem dX7_test_58 : decode cX7_test 58 = .ok (.istore 8, 2) := by decide +kernel
theorem dX7_test_60 : decode cX7_test 60 = .ok (.iload 8, 2) := by decide +kernel
theorem dX7_test_62 : decode cX7_test 62 = .ok (.iload 6, 2) := by decide +kernel
theorem dX7_test_64 : decode cX7_test 64 = .ok (.if_icmp .le 8, 3) := by decide +kernel
theorem dX7_test_67 : decode cX7_test 67 = .ok (.iload 7, 2) := by decide +kernel
theorem dX7_test_69 : decode cX7_test 69 = .ok (.goto 5, 3) := by decide +kernel
theorem dX7_test_72 : decode cX7_test 72 = .ok (.iload 5, 2) := by decide +kernel
theorem dX7_test_74 : decode cX7_test 74 = .ok (.istore 5, 2) := by decide +kernel
theorem dX7_test_76 : decode cX7_test 76 = .ok (.iload 8, 2) := by decide +kernel
theorem dX7_test_78 : decode cX7_test 78 = .ok (.iload 6, 2) := by decide +kernel
theorem dX7_test_80 : decode cX7_test 80 = .ok (.if_icmp .le 8, 3) := by decide +kernel
theorem dX7_test_83 : decode cX7_test 83 = .ok (.iload 8, 2) := by decide +kernel
theorem dX7_test_85 : decode cX7_test 85 = .ok (.goto 5, 3) := by decide +kernel
theorem dX7_test_88 : decode cX7_test 88 = .ok (.iload 6, 2) := by decide +kernel
theorem dX7_test_90 : decode cX7_test 90 = .ok (.istore 6, 2) := by decide +kernel
theorem dX7_test_92 : decode cX7_test 92 = .ok (.iinc 7 1, 3) := by decide +kernel
theorem dX7_test_95 : decode cX7_test 95 = .ok (.goto (-59), 3) := by decide +kernel
theorem dX7_test_98 : decode cX7_test 98 = .ok (.iload 4, 2) := by decide +kernel
theorem dX7_test_100 : decode cX7_test 100 = .ok (.iload_n 1, 1) := by decide +kernel
theorem dX7_test_101 : decode cX7_test 101 = .ok (.if_icmp .ne 6, 3) := by decide +kernel
theorem dX7_test_104 : decode cX7_test 104 = .ok (.iload 5, 2) := by decide +kernel
theorem dX7_test_106 : decode cX7_test 106 = .ok (.ireturn, 1) := by decide +kernel
theorem dX7_test_107 : decode cX7_test 107 = .ok (.lload_n 2, 1) := by decide +kernel
theorem dX7_test_108 : decode cX7_test 108 = .ok (.aload_n 0, 1) := by decide +kernel
theorem dX7_test_109 : decode cX7_test 109 = .ok (.getfield 25, 3) := by decide +kernel
theorem dX7_test_112 : decode cX7_test 112 = .ok (.iload 5, 2) := by decide +kernel
theorem dX7_test_114 : decode cX7_test 114 = .ok (.laload, 1) := by decide +kernel
theorem dX7_test_115 : decode cX7_test 115 = .ok (.ldc2_w 128, 3) := by decide +kernel
theorem dX7_test_118 : decode cX7_test 118 = .ok (.lxor, 1) := by decide +kernel
theorem dX7_test_119 : decode cX7_test 119 = .ok (.land, 1) := by decide +kernel
theorem dX7_test_120 : decode cX7_test 120 = .ok (.lstore_n 2, 1) := by decide +kernel
theorem dX7_test_121 : decode cX7_test 121 = .ok (.iinc 4 1, 3) := by decide +kernel
theorem dX7_test_124 : decode cX7_test 124 = .ok (.goto (-105), 3) := by decide +kernel
theorem dX7_test_127 : decode cX7_test 127 = .ok (.iload_n 1, 1) := by decide +kernel
theorem dX7_test_128 : decode cX7_test 128 = .ok (.ifCond .ge 8, 3) := by decide +kernel
theorem dX7_test_131 : decode cX7_test 131 = .ok (.iload 4, 2) := by decide +kernel
theorem dX7_test_133 : decode cX7_test 133 = .ok (.goto 5, 3) := by decide +kernel
theorem dX7_test_136 : decode cX7_test 136 = .ok (.bipush (-4), 2) := by decide +kernel
theorem dX7_test_138 : decode cX7_test 138 = .ok (.ireturn, 1) := by decide +kernel
set_option maxRecDepth 20000 in
theorem ggX7_both_X7_isStuck : GoodIn wsX7_both wsX7_isStuck := goodIn_r _ [5, 6, 7, 8, 4, 9, 10, 11, 12, 13, 36, 37, 38, 39, 40, 41, 42, 43, 44, 45, 46, 47, 48, 49] (by decide +kernel) (by decide +kernel)
set_option maxRecDepth 20000 in
theorem gX7_both_X7_isStuck : GoodIn wsX7_both (wsV RX7 109 RX7 yX7_isStuck wsX7_isStuck) := goodIn_app (goodIn_of _ (by decide +kernel)) ggX7_both_X7_isStuck
set_option maxRecDepth 20000 in
theorem ggX7_both_X7_isIn : GoodIn wsX7_both wsX7_isIn := goodIn_r _ [13] (by decide +kernel) (by decide +kernel)
set_option maxRecDepth 20000 in
theorem gX7_both_X7_isIn : GoodIn wsX7_both (va_wsS RX7 36 yX7_isIn wsX7_isIn) := goodIn_app (goodIn_of _ (by decide +kernel)) ggX7_both_X7_isIn
set_option maxRecDepth 20000 in
theorem ggX7_both_X7_all : GoodIn wsX7_both wsX7_all := goodIn_r _ [17, 10, 36, 37, 38, 39, 40, 41, 42, 43, 44, 45, 46, 47, 48, 49] (by decide +kernel) (by decide +kernel)
set_option maxRecDepth 20000 in
theorem gX7_both_X7_all : GoodIn wsX7_both (wsV RX7 115 RX7 yX7_all wsX7_all) := goodIn_app (goodIn_of _ (by decide +kernel)) ggX7_both_X7_all
set_option maxRecDepth 20000 in
theorem ggX7_both_X7_isCode : GoodIn wsX7_both wsX7_isCode := goodIn_r _ [21, 10, 22, 23, 4, 24, 36, 37, 38, 39, 40, 41, 42, 43, 44, 45, 46, 47, 48, 49] (by decide +kernel) (by decide +kernel)
set_option maxRecDepth 20000 in
theorem gX7_both_X7_isCode : GoodIn wsX7_both (wsV RX7 118 RX7 yX7_isCode wsX7_isCode) := goodIn_app (goodIn_of _ (by decide +kernel)) ggX7_both_X7_isCode
set_option maxRecDepth 20000 in
theorem ggX7_both_X7_lets : GoodIn wsX7_both wsX7_lets := goodIn_r _ [28, 10, 29, 6, 7, 8, 4, 9, 30, 31, 32, 36, 37, 38, 39, 40, 41, 42, 43, 44, 45, 46, 47, 48, 49] (by decide +kernel) (by decide +kernel)
set_option maxRecDepth 20000 in
theorem gX7_both_X7_lets : GoodIn wsX7_both (wsV RX7 105 RX7 yX7_lets wsX7_lets) := goodIn_app (goodIn_of _ (by decide +kernel)) ggX7_both_X7_lets
set_option maxRecDepth 20000 in
theorem ggX7_both_X7_isValid : GoodIn wsX7_both wsX7_isValid := goodIn_r _ [35] (by decide +kernel) (by decide +kernel)
set_option maxRecDepth 20000 in
theorem gX7_both_X7_isValid : GoodIn wsX7_both (va_wsS RX7 133 yX7_isValid wsX7_isValid) := goodIn_app (goodIn_of _ (by decide +kernel)) ggX7_both_X7_isValid
theorem dX7_both_0 : decode cX7_both 0 = .ok (.aload_n 0, 1) := by decide +kernel
theorem dX7_both_1 : decode cX7_both 1 = .ok (.iload_n 1, 1) := by decide +kernel
theorem dX7_both_2 : decode cX7_both 2 = .ok (.invokevirtual 109, 3) := by decide +kernel
theorem dX7_both_5 : decode cX7_both 5 = .ok (.ifCond .eq 29, 3) := by decide +kernel
theorem dX7_both_8 : decode cX7_both 8 = .ok (.aload_n 0, 1) := by decide +kernel
theorem dX7_both_9 : decode cX7_both 9 = .ok (.iload_n 2, 1) := by decide +kernel
theorem dX7_both_10 : decode cX7_both 10 = .ok (.invokevirtual 109, 3) := by decide +kernel
theorem dX7_both_13 : decode cX7_both 13 = .ok (.ifCond .eq 21, 3) := by decide +kernel
theorem dX7_both_16 : decode cX7_both 16 = .ok (.iload_n 1, 1) := by decide +kernel
theorem dX7_both_17 : decode cX7_both 17 = .ok (.iconst 2, 1) := by decide +kernel
theorem dX7_both_18 : decode cX7_both 18 = .ok (.idiv, 1) := by decide +kernel
theorem dX7_both_19 : decode cX7_both 19 = .ok (.iload_n 2, 1) := by decide +kernel
theorem dX7_both_20 : decode cX7_both 20 = .ok (.iconst 2, 1) := by decide +kernel
theorem dX7_both_21 : decode cX7_both 21 = .ok (.idiv, 1) := by decide +kernel
theorem dX7_both_22 : decode cX7_both 22 = .ok (.if_icmp .eq 12, 3) := by decide +kernel
theorem dX7_both_25 : decode cX7_both 25 = .ok (.iload_n 3, 1) := by decide +kernel
theorem dX7_both_26 : decode cX7_both 26 = .ok (.iconst 0, 1) := by decide +kernel
theorem dX7_both_27 : decode cX7_both 27 = .ok (.iconst 1, 1) := by decide +kernel
theorem dX7_both_28 : decode cX7_both 28 = .ok (.invokestatic 36, 3) := by decide +kernel
theorem dX7_both_31 : decode cX7_both 31 = .ok (.ifCond .ne 5, 3) := by decide +kernel
theorem dX7_both_34 : decode cX7_both 34 = .ok (.iconst (-1), 1) := by decide +kernel
theorem dX7_both_35 : decode cX7_both 35 = .ok (.ireturn, 1) := by decide +kernel
theorem dX7_both_36 : decode cX7_both 36 = .ok (.iconst 0, 1) := by decide +kernel
theorem dX7_both_37 : decode cX7_both 37 = .ok (.istore 4, 2) := by decide +kernel
theorem dX7_both_39 : decode cX7_both 39 = .ok (.iconst 0, 1) := by decide +kernel
theorem dX7_both_40 : decode cX7_both 40 = .ok (.istore 5, 2) := by decide +kernel
theorem dX7_both_42 : decode cX7_both 42 = .ok (.iload 5, 2) := by decide +kernel
theorem dX7_both_44 : decode cX7_both 44 = .ok (.aload_n 0, 1) := by decide +kernel
theorem dX7_both_45 : decode cX7_both 45 = .ok (.invokevirtual 115, 3) := by decide +kernel
theorem dX7_both_48 : decode cX7_both 48 = .ok (.if_icmp .ge 85, 3) := by decide +kernel
theorem dX7_both_51 : decode cX7_both 51 = .ok (.aload_n 0, 1) := by decide +kernel
theorem dX7_both_52 : decode cX7_both 52 = .ok (.iload 5, 2) := by decide +kernel
theorem dX7_both_54 : decode cX7_both 54 = .ok (.invokevirtual 118, 3) := by decide +kernel
theorem dX7_both_57 : decode cX7_both 57 = .ok (.ifCond .eq 70, 3) := by decide +kernel
theorem dX7_both_60 : decode cX7_both 60 = .ok (.aload_n 0, 1) := by decide +kernel
theorem dX7_both_61 : decode cX7_both 61 = .ok (.iload 5, 2) := by decide +kernel
theorem dX7_both_63 : decode cX7_both 63 = .ok (.bipush (-4), 2) := by decide +kernel
theorem dX7_both_65 : decode cX7_both 65 = .ok (.bipush (-4), 2) := by decide +kernel
theorem dX7_both_67 : decode cX7_both 67 = .ok (.invokevirtual 105, 3) := by decide +kernel
theorem dX7_both_70 : decode cX7_both 70 = .ok (.istore 6, 2) := by decide +kernel
theorem dX7_both_72 : decode cX7_both 72 = .ok (.aload_n 0, 1) := by decide +kernel
theorem dX7_both_73 : decode cX7_both 73 = .ok (.iload 5, 2) := by decide +kernel
theorem dX7_both_75 : decode cX7_both 75 = .ok (.iload_n 1, 1) := by decide +kernel
theorem dX7_both_76 : decode cX7_both 76 = .ok (.iload_n 2, 1) := by decide +kernel
theorem dX7_both_77 : decode cX7_both 77 = .ok (.invokevirtual 105, 3) := by decide +kernel
theorem dX7_both_80 : decode cX7_both 80 = .ok (.istore 7, 2) := by decide +kernel
theorem dX7_both_82 : decode cX7_both 82 = .ok (.iload 4, 2) := by decide +kernel
theorem dX7_both_84 : decode cX7_both 84 = .ok (.iload_n 3, 1) := by decide +kernel
theorem dX7_both_85 : decode cX7_both 85 = .ok (.ifCond .ne 19, 3) := by decide +kernel
theorem dX7_both_88 : decode cX7_both 88 = .ok (.iload 7, 2) := by decide +kernel
theorem dX7_both_90 : decode cX7_both 90 = .ok (.invokestatic 133, 3) := by decide +kernel
theorem dX7_both_93 : decode cX7_both 93 = .ok (.ifCond .eq 7, 3) := by decide +kernel
theorem dX7_both_96 : decode cX7_both 96 = .ok (.iconst 0, 1) := by decide +kernel
theorem dX7_both_97 : decode cX7_both 97 = .ok (.goto 27, 3) := by decide +kernel
theorem dX7_both_100 : decode cX7_both 100 = .ok (.iconst 1, 1) := by decide +kernel
theorem dX7_both_101 : decode cX7_both 101 = .ok (.goto 23, 3) := by decide +kernel
theorem dX7_both_104 : decode cX7_both 104 = .ok (.iload 7, 2) := by decide +kernel
theorem dX7_both_106 : decode cX7_both 106 = .ok (.invokestatic 133, 3) := by decide +kernel
theorem dX7_both_109 : decode cX7_both 109 = .ok (.ifCond .eq 14, 3) := by decide +kernel
theorem dX7_both_112 : decode cX7_both 112 = .ok (.iload 7, 2) := by decide +kernel
theorem dX7_both_114 : decode cX7_both 114 = .ok (.iload 6, 2) := by decide +kernel
theorem dX7_both_116 : decode cX7_both 116 = .ok (.if_icmp .eq 7, 3) := by decide +kernel
theorem dX7_both_119 : decode cX7_both 119 = .ok (.iconst 1, 1) := by decide +kernel
theorem dX7_both_120 : decode cX7_both 120 = .ok (.goto 4, 3) := by decide +kernel
theorem dX7_both_123 : decode cX7_both 123 = .ok (.iconst 0, 1) := by decide +kernel
theorem dX7_both_124 : decode cX7_both 124 = .ok (.iadd, 1) := by decide +kernel
theorem dX7_both_125 : decode cX7_both 125 = .ok (.istore 4, 2) := by decide +kernel
theorem dX7_both_127 : decode cX7_both 127 = .ok (.iinc 5 1, 3) := by decide +kernel
theorem dX7_both_130 : decode cX7_both 130 = .ok (.goto (-88), 3) := by decide +kernel
theorem dX7_both_133 : decode cX7_both 133 = .ok (.iload 4, 2) := by decide +kernel
theorem dX7_both_135 : decode cX7_both 135 = .ok (.ireturn, 1) := by decide +kernel
set_option maxRecDepth 20000 in
theorem ggX7_count_X7_isIn : GoodIn wsX7_count wsX7_isIn := goodIn_r _ [7] (by decide +kernel) (by decide +kernel)
set_option maxRecDepth 20000 in
theorem gX7_count_X7_isIn : GoodIn wsX7_count (va_wsS RX7 36 yX7_isIn wsX7_isIn) := goodIn_app (goodIn_of _ (by decide +kernel)) ggX7_count_X7_isIn
set_option maxRecDepth 20000 in
theorem ggX7_count_X7_all : GoodIn wsX7_count wsX7_all := goodIn_r _ [11, 1, 27, 28, 29, 30, 31, 32, 33, 34, 35, 36, 37, 38, 39, 40] (by decide +kernel) (by decide +kernel)
set_option maxRecDepth 20000 in
theorem gX7_count_X7_all : GoodIn wsX7_count (wsV RX7 115 RX7 yX7_all wsX7_all) := goodIn_app (goodIn_of _ (by decide +kernel)) ggX7_count_X7_all
set_option maxRecDepth 20000 in
theorem ggX7_count_X7_lets : GoodIn wsX7_count wsX7_lets := goodIn_r _ [15, 1, 16, 17, 18, 19, 6, 20, 21, 22, 23, 27, 28, 29, 30, 31, 32, 33, 34, 35, 36, 37, 38, 39, 40] (by decide +kernel) (by decide +kernel)
set_option maxRecDepth 20000 in
theorem gX7_count_X7_lets : GoodIn wsX7_count (wsV RX7 105 RX7 yX7_lets wsX7_lets) := goodIn_app (goodIn_of _ (by decide +kernel)) ggX7_count_X7_lets
set_option maxRecDepth 20000 in
theorem ggX7_count_X7_isValid : GoodIn wsX7_count wsX7_isValid := goodIn_r _ [26] (by decide +kernel) (by decide +kernel)
set_option maxRecDepth 20000 in
theorem gX7_count_X7_isValid : GoodIn wsX7_count (va_wsS RX7 133 yX7_isValid wsX7_isValid) := goodIn_app (goodIn_of _ (by decide +kernel)) ggX7_count_X7_isValid
theorem dX7_count_0 : decode cX7_count 0 = .ok (.iload_n 1, 1) := by decide +kernel
theorem dX7_count_1 : decode cX7_count 1 = .ok (.iconst 0, 1) := by decide +kernel
theorem dX7_count_2 : decode cX7_count 2 = .ok (.iconst 5, 1) := by decide +kernel
theorem dX7_count_3 : decode cX7_count 3 = .ok (.invokestatic 36, 3) := by decide +kernel
theorem dX7_count_6 : decode cX7_count 6 = .ok (.ifCond .eq 10, 3) := by decide +kernel
theorem dX7_count_9 : decode cX7_count 9 = .ok (.aload_n 0, 1) := by decide +kernel
theorem dX7_count_10 : decode cX7_count 10 = .ok (.getfield 13, 3) := by decide +kernel
theorem dX7_count_13 : decode cX7_count 13 = .ok (.iload_n 1, 1) := by decide +kernel
theorem dX7_count_14 : decode cX7_count 14 = .ok (.iaload, 1) := by decide +kernel
theorem dX7_count_15 : decode cX7_count 15 = .ok (.ireturn, 1) := by decide +kernel
theorem dX7_count_16 : decode cX7_count 16 = .ok (.iload_n 1, 1) := by decide +kernel
theorem dX7_count_17 : decode cX7_count 17 = .ok (.tableswitch 80 6 8 #[27, 70, 75], 27) := by decide +kernel
theorem dX7_count_44 : decode cX7_count 44 = .ok (.iconst 0, 1) := by decide +kernel
theorem dX7_count_45 : decode cX7_count 45 = .ok (.istore_n 2, 1) := by decide +kernel
theorem dX7_count_46 : decode cX7_count 46 = .ok (.iconst 0, 1) := by decide +kernel
theorem dX7_count_47 : decode cX7_count 47 = .ok (.istore_n 3, 1) := by decide +kernel
theorem dX7_count_48 : decode cX7_count 48 = .ok (.iload_n 3, 1) := by decide +kernel
theorem dX7_count_49 : decode cX7_count 49 = .ok (.aload_n 0, 1) := by decide +kernel
theorem dX7_count_50 : decode cX7_count 50 = .ok (.invokevirtual 115, 3) := by decide +kernel
theorem dX7_count_53 : decode cX7_count 53 = .ok (.if_icmp .ge 32, 3) := by decide +kernel
theorem dX7_count_56 : decode cX7_count 56 = .ok (.iload_n 2, 1) := by decide +kernel
theorem dX7_count_57 : decode cX7_count 57 = .ok (.aload_n 0, 1) := by decide +kernel
theorem dX7_count_58 : decode cX7_count 58 = .ok (.iload_n 3, 1) := by decide +kernel
theorem dX7_count_59 : decode cX7_count 59 = .ok (.bipush (-4), 2) := by decide +kernel
theorem dX7_count_61 : decode cX7_count 61 = .ok (.bipush (-4), 2) := by decide +kernel
theorem dX7_count_63 : decode cX7_count 63 = .ok (.invokevirtual 105, 3) := by decide +kernel
theorem dX7_count_66 : decode cX7_count 66 = .ok (.invokestatic 133, 3) := by decide +kernel
theorem dX7_count_69 : decode cX7_count 69 = .ok (.ifCond .eq 7, 3) := by decide +kernel
theorem dX7_count_72 : decode cX7_count 72 = .ok (.iconst 1, 1) := by decide +kernel
theorem dX7_count_73 : decode cX7_count 73 = .ok (.goto 4, 3) := by decide +kernel
theorem dX7_count_76 : decode cX7_count 76 = .ok (.iconst 0, 1) := by decide +kernel
theorem dX7_count_77 : decode cX7_count 77 = .ok (.iadd, 1) := by decide +kernel
theorem dX7_count_78 : decode cX7_count 78 = .ok (.istore_n 2, 1) := by decide +kernel
theorem dX7_count_79 : decode cX7_count 79 = .ok (.iinc 3 1, 3) := by decide +kernel
theorem dX7_count_82 : decode cX7_count 82 = .ok (.goto (-34), 3) := by decide +kernel
theorem dX7_count_85 : decode cX7_count 85 = .ok (.iload_n 2, 1) := by decide +kernel
theorem dX7_count_86 : decode cX7_count 86 = .ok (.ireturn, 1) := by decide +kernel
theorem dX7_count_87 : decode cX7_count 87 = .ok (.aload_n 0, 1) := by decide +kernel
theorem dX7_count_88 : decode cX7_count 88 = .ok (.getfield 80, 3) := by decide +kernel
theorem dX7_count_91 : decode cX7_count 91 = .ok (.ireturn, 1) := by decide +kernel
theorem dX7_count_92 : decode cX7_count 92 = .ok (.aload_n 0, 1) := by decide +kernel
theorem dX7_count_93 : decode cX7_count 93 = .ok (.getfield 40, 3) := by decide +kernel
theorem dX7_count_96 : decode cX7_count 96 = .ok (.ireturn, 1) := by decide +kernel
theorem dX7_count_97 : decode cX7_count 97 = .ok (.iconst (-1), 1) := by decide +kernel
theorem dX7_count_98 : decode cX7_count 98 = .ok (.ireturn, 1) := by decide +kernel
