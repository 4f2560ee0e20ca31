theorem dX0_init_0 : decode cX0_init 0 = .ok (.aload_n 0, 1) := by decide +kernel
theorem dX0_init_1 : decode cX0_init 1 = .ok (.invokespecial 3, 3) := by decide +kernel
theorem dX0_init_4 : decode cX0_init 4 = .ok (.aload_n 0, 1) := by decide +kernel
theorem dX0_init_5 : decode cX0_init 5 = .ok (.bipush 24, 2) := by decide +kernel
theorem dX0_init_7 : decode cX0_init 7 = .ok (.newarray .int, 2) := by decide +kernel
theorem dX0_init_9 : decode cX0_init 9 = .ok (.putfield 9, 3) := by decide +kernel
theorem dX0_init_12 : decode cX0_init 12 = .ok (.aload_n 0, 1) := by decide +kernel
theorem dX0_init_13 : decode cX0_init 13 = .ok (.bipush 24, 2) := by decide +kernel
theorem dX0_init_15 : decode cX0_init 15 = .ok (.newarray .int, 2) := by decide +kernel
theorem dX0_init_17 : decode cX0_init 17 = .ok (.putfield 15, 3) := by decide +kernel
theorem dX0_init_20 : decode cX0_init 20 = .ok (.aload_n 0, 1) := by decide +kernel
theorem dX0_init_21 : decode cX0_init 21 = .ok (.bipush 24, 2) := by decide +kernel
theorem dX0_init_23 : decode cX0_init 23 = .ok (.newarray .int, 2) := by decide +kernel
theorem dX0_init_25 : decode cX0_init 25 = .ok (.putfield 18, 3) := by decide +kernel
theorem dX0_init_28 : decode cX0_init 28 = .ok (.return_, 1) := by decide +kernel
theorem dX0_wires_0 : decode cX0_wires 0 = .ok (.aload_n 0, 1) := by decide +kernel
theorem dX0_wires_1 : decode cX0_wires 1 = .ok (.getfield 21, 3) := by decide +kernel
theorem dX0_wires_4 : decode cX0_wires 4 = .ok (.aload_n 0, 1) := by decide +kernel
theorem dX0_wires_5 : decode cX0_wires 5 = .ok (.getfield 25, 3) := by decide +kernel
theorem dX0_wires_8 : decode cX0_wires 8 = .ok (.iadd, 1) := by decide +kernel
theorem dX0_wires_9 : decode cX0_wires 9 = .ok (.ireturn, 1) := by decide +kernel
theorem dX0_wordCount_0 : decode cX0_wordCount 0 = .ok (.iconst 1, 1) := by decide +kernel
theorem dX0_wordCount_1 : decode cX0_wordCount 1 = .ok (.aload_n 0, 1) := by decide +kernel
theorem dX0_wordCount_2 : decode cX0_wordCount 2 = .ok (.getfield 21, 3) := by decide +kernel
theorem dX0_wordCount_5 : decode cX0_wordCount 5 = .ok (.ishl, 1) := by decide +kernel
theorem dX0_wordCount_6 : decode cX0_wordCount 6 = .ok (.ireturn, 1) := by decide +kernel
theorem dX0_hasGate_0 : decode cX0_hasGate 0 = .ok (.iload_n 1, 1) := by decide +kernel
theorem dX0_hasGate_1 : decode cX0_hasGate 1 = .ok (.ifCond .lt 15, 3) := by decide +kernel
theorem dX0_hasGate_4 : decode cX0_hasGate 4 = .ok (.iload_n 1, 1) := by decide +kernel
theorem dX0_hasGate_5 : decode cX0_hasGate 5 = .ok (.aload_n 0, 1) := by decide +kernel
theorem dX0_hasGate_6 : decode cX0_hasGate 6 = .ok (.getfield 25, 3) := by decide +kernel
theorem dX0_hasGate_9 : decode cX0_hasGate 9 = .ok (.if_icmp .ge 7, 3) := by decide +kernel
theorem dX0_hasGate_12 : decode cX0_hasGate 12 = .ok (.iconst 1, 1) := by decide +kernel
theorem dX0_hasGate_13 : decode cX0_hasGate 13 = .ok (.goto 4, 3) := by decide +kernel
theorem dX0_hasGate_16 : decode cX0_hasGate 16 = .ok (.iconst 0, 1) := by decide +kernel
theorem dX0_hasGate_17 : decode cX0_hasGate 17 = .ok (.ireturn, 1) := by decide +kernel
set_option maxRecDepth 20000 in
theorem ggX0_hasWire_X0_wires : GoodIn wsX0_hasWire wsX0_wires := goodIn_r _ [5, 6, 7, 8, 9, 10, 11, 12, 13, 14, 15, 16] (by decide +kernel) (by decide +kernel)
set_option maxRecDepth 20000 in
theorem gX0_hasWire_X0_wires : GoodIn wsX0_hasWire (wsV RX0 28 RX0 yX0_wires wsX0_wires) := goodIn_app (goodIn_of _ (by decide +kernel)) ggX0_hasWire_X0_wires
theorem dX0_hasWire_0 : decode cX0_hasWire 0 = .ok (.iload_n 1, 1) := by decide +kernel
theorem dX0_hasWire_1 : decode cX0_hasWire 1 = .ok (.ifCond .lt 15, 3) := by decide +kernel
theorem dX0_hasWire_4 : decode cX0_hasWire 4 = .ok (.iload_n 1, 1) := by decide +kernel
theorem dX0_hasWire_5 : decode cX0_hasWire 5 = .ok (.aload_n 0, 1) := by decide +kernel
theorem dX0_hasWire_6 : decode cX0_hasWire 6 = .ok (.invokevirtual 28, 3) := by decide +kernel
theorem dX0_hasWire_9 : decode cX0_hasWire 9 = .ok (.if_icmp .ge 7, 3) := by decide +kernel
theorem dX0_hasWire_12 : decode cX0_hasWire 12 = .ok (.iconst 1, 1) := by decide +kernel
theorem dX0_hasWire_13 : decode cX0_hasWire 13 = .ok (.goto 4, 3) := by decide +kernel
theorem dX0_hasWire_16 : decode cX0_hasWire 16 = .ok (.iconst 0, 1) := by decide +kernel
theorem dX0_hasWire_17 : decode cX0_hasWire 17 = .ok (.ireturn, 1) := by decide +kernel
set_option maxRecDepth 20000 in
theorem ggX0_hasStuck_X0_wires : GoodIn wsX0_hasStuck wsX0_wires := goodIn_r _ [5, 6, 7, 8, 9, 10, 11, 12, 13, 14, 15, 16] (by decide +kernel) (by decide +kernel)
set_option maxRecDepth 20000 in
theorem gX0_hasStuck_X0_wires : GoodIn wsX0_hasStuck (wsV RX0 28 RX0 yX0_wires wsX0_wires) := goodIn_app (goodIn_of _ (by decide +kernel)) ggX0_hasStuck_X0_wires
theorem dX0_hasStuck_0 : decode cX0_hasStuck 0 = .ok (.iload_n 1, 1) := by decide +kernel
theorem dX0_hasStuck_1 : decode cX0_hasStuck 1 = .ok (.ifCond .lt 17, 3) := by decide +kernel
theorem dX0_hasStuck_4 : decode cX0_hasStuck 4 = .ok (.iload_n 1, 1) := by decide +kernel
theorem dX0_hasStuck_5 : decode cX0_hasStuck 5 = .ok (.iconst 2, 1) := by decide +kernel
theorem dX0_hasStuck_6 : decode cX0_hasStuck 6 = .ok (.aload_n 0, 1) := by decide +kernel
theorem dX0_hasStuck_7 : decode cX0_hasStuck 7 = .ok (.invokevirtual 28, 3) := by decide +kernel
theorem dX0_hasStuck_10 : decode cX0_hasStuck 10 = .ok (.imul, 1) := by decide +kernel
theorem dX0_hasStuck_11 : decode cX0_hasStuck 11 = .ok (.if_icmp .ge 7, 3) := by decide +kernel
theorem dX0_hasStuck_14 : decode cX0_hasStuck 14 = .ok (.iconst 1, 1) := by decide +kernel
theorem dX0_hasStuck_15 : decode cX0_hasStuck 15 = .ok (.goto 4, 3) := by decide +kernel
theorem dX0_hasStuck_18 : decode cX0_hasStuck 18 = .ok (.iconst 0, 1) := by decide +kernel
theorem dX0_hasStuck_19 : decode cX0_hasStuck 19 = .ok (.ireturn, 1) := by decide +kernel
set_option maxRecDepth 20000 in
theorem ggX0_hasWord_X0_wordCount : GoodIn wsX0_hasWord wsX0_wordCount := goodIn_r _ [5, 6, 7, 8, 9, 10, 11, 12, 13, 14, 15] (by decide +kernel) (by decide +kernel)
set_option maxRecDepth 20000 in
theorem gX0_hasWord_X0_wordCount : GoodIn wsX0_hasWord (wsV RX0 32 RX0 yX0_wordCount wsX0_wordCount) := goodIn_app (goodIn_of _ (by decide +kernel)) ggX0_hasWord_X0_wordCount
theorem dX0_hasWord_0 : decode cX0_hasWord 0 = .ok (.iload_n 1, 1) := by decide +kernel
theorem dX0_hasWord_1 : decode cX0_hasWord 1 = .ok (.ifCond .lt 15, 3) := by decide +kernel
theorem dX0_hasWord_4 : decode cX0_hasWord 4 = .ok (.iload_n 1, 1) := by decide +kernel
theorem dX0_hasWord_5 : decode cX0_hasWord 5 = .ok (.aload_n 0, 1) := by decide +kernel
theorem dX0_hasWord_6 : decode cX0_hasWord 6 = .ok (.invokevirtual 32, 3) := by decide +kernel
theorem dX0_hasWord_9 : decode cX0_hasWord 9 = .ok (.if_icmp .ge 7, 3) := by decide +kernel
theorem dX0_hasWord_12 : decode cX0_hasWord 12 = .ok (.iconst 1, 1) := by decide +kernel
theorem dX0_hasWord_13 : decode cX0_hasWord 13 = .ok (.goto 4, 3) := by decide +kernel
theorem dX0_hasWord_16 : decode cX0_hasWord 16 = .ok (.iconst 0, 1) := by decide +kernel
theorem dX0_hasWord_17 : decode cX0_hasWord 17 = .ok (.ireturn, 1) := by decide +kernel
theorem dX0_canHaveGate_0 : decode cX0_canHaveGate 0 = .ok (.aload_n 0, 1) := by decide +kernel
theorem dX0_canHaveGate_1 : decode cX0_canHaveGate 1 = .ok (.getfield 21, 3) := by decide +kernel
theorem dX0_canHaveGate_4 : decode cX0_canHaveGate 4 = .ok (.iload_n 1, 1) := by decide +kernel
theorem dX0_canHaveGate_5 : decode cX0_canHaveGate 5 = .ok (.iadd, 1) := by decide +kernel
theorem dX0_canHaveGate_6 : decode cX0_canHaveGate 6 = .ok (.istore 5, 2) := by decide +kernel
theorem dX0_canHaveGate_8 : decode cX0_canHaveGate 8 = .ok (.iload_n 2, 1) := by decide +kernel
theorem dX0_canHaveGate_9 : decode cX0_canHaveGate 9 = .ok (.ifCond .lt 34, 3) := by decide +kernel
theorem dX0_canHaveGate_12 : decode cX0_canHaveGate 12 = .ok (.iload_n 2, 1) := by decide +kernel
theorem dX0_canHaveGate_13 : decode cX0_canHaveGate 13 = .ok (.iconst 5, 1) := by decide +kernel
theorem dX0_canHaveGate_14 : decode cX0_canHaveGate 14 = .ok (.if_icmp .gt 29, 3) := by decide +kernel
theorem dX0_canHaveGate_17 : decode cX0_canHaveGate 17 = .ok (.iload_n 3, 1) := by decide +kernel
theorem dX0_canHaveGate_18 : decode cX0_canHaveGate 18 = .ok (.ifCond .lt 25, 3) := by decide +kernel
theorem dX0_canHaveGate_21 : decode cX0_canHaveGate 21 = .ok (.iload_n 3, 1) := by decide +kernel
theorem dX0_canHaveGate_22 : decode cX0_canHaveGate 22 = .ok (.iload 5, 2) := by decide +kernel
theorem dX0_canHaveGate_24 : decode cX0_canHaveGate 24 = .ok (.if_icmp .ge 19, 3) := by decide +kernel
theorem dX0_canHaveGate_27 : decode cX0_canHaveGate 27 = .ok (.iload 4, 2) := by decide +kernel
theorem dX0_canHaveGate_29 : decode cX0_canHaveGate 29 = .ok (.ifCond .lt 14, 3) := by decide +kernel
theorem dX0_canHaveGate_32 : decode cX0_canHaveGate 32 = .ok (.iload 4, 2) := by decide +kernel
theorem dX0_canHaveGate_34 : decode cX0_canHaveGate 34 = .ok (.iload 5, 2) := by decide +kernel
theorem dX0_canHaveGate_36 : decode cX0_canHaveGate 36 = .ok (.if_icmp .ge 7, 3) := by decide +kernel
theorem dX0_canHaveGate_39 : decode cX0_canHaveGate 39 = .ok (.iconst 1, 1) := by decide +kernel
theorem dX0_canHaveGate_40 : decode cX0_canHaveGate 40 = .ok (.goto 4, 3) := by decide +kernel
theorem dX0_canHaveGate_43 : decode cX0_canHaveGate 43 = .ok (.iconst 0, 1) := by decide +kernel
theorem dX0_canHaveGate_44 : decode cX0_canHaveGate 44 = .ok (.ireturn, 1) := by decide +kernel
theorem dX0_canHaveCode_0 : decode cX0_canHaveCode 0 = .ok (.iload_n 1, 1) := by decide +kernel
theorem dX0_canHaveCode_1 : decode cX0_canHaveCode 1 = .ok (.tableswitch 78 0 3 #[31, 41, 41, 59], 31) := by decide +kernel
theorem dX0_canHaveCode_32 : decode cX0_canHaveCode 32 = .ok (.iload_n 2, 1) := by decide +kernel
theorem dX0_canHaveCode_33 : decode cX0_canHaveCode 33 = .ok (.ifCond .ne 7, 3) := by decide +kernel
theorem dX0_canHaveCode_36 : decode cX0_canHaveCode 36 = .ok (.iconst 1, 1) := by decide +kernel
theorem dX0_canHaveCode_37 : decode cX0_canHaveCode 37 = .ok (.goto 4, 3) := by decide +kernel
theorem dX0_canHaveCode_40 : decode cX0_canHaveCode 40 = .ok (.iconst 0, 1) := by decide +kernel
theorem dX0_canHaveCode_41 : decode cX0_canHaveCode 41 = .ok (.ireturn, 1) := by decide +kernel
theorem dX0_canHaveCode_42 : decode cX0_canHaveCode 42 = .ok (.iload_n 2, 1) := by decide +kernel
theorem dX0_canHaveCode_43 : decode cX0_canHaveCode 43 = .ok (.ifCond .lt 15, 3) := by decide +kernel
theorem dX0_canHaveCode_46 : decode cX0_canHaveCode 46 = .ok (.iload_n 2, 1) := by decide +kernel
theorem dX0_canHaveCode_47 : decode cX0_canHaveCode 47 = .ok (.aload_n 0, 1) := by decide +kernel
theorem dX0_canHaveCode_48 : decode cX0_canHaveCode 48 = .ok (.getfield 21, 3) := by decide +kernel
theorem dX0_canHaveCode_51 : decode cX0_canHaveCode 51 = .ok (.if_icmp .gt 7, 3) := by decide +kernel
theorem dX0_canHaveCode_54 : decode cX0_canHaveCode 54 = .ok (.iconst 1, 1) := by decide +kernel
theorem dX0_canHaveCode_55 : decode cX0_canHaveCode 55 = .ok (.goto 4, 3) := by decide +kernel
theorem dX0_canHaveCode_58 : decode cX0_canHaveCode 58 = .ok (.iconst 0, 1) := by decide +kernel
theorem dX0_canHaveCode_59 : decode cX0_canHaveCode 59 = .ok (.ireturn, 1) := by decide +kernel
theorem dX0_canHaveCode_60 : decode cX0_canHaveCode 60 = .ok (.iload_n 2, 1) := by decide +kernel
theorem dX0_canHaveCode_61 : decode cX0_canHaveCode 61 = .ok (.ifCond .ne 16, 3) := by decide +kernel
theorem dX0_canHaveCode_64 : decode cX0_canHaveCode 64 = .ok (.aload_n 0, 1) := by decide +kernel
theorem dX0_canHaveCode_65 : decode cX0_canHaveCode 65 = .ok (.getfield 21, 3) := by decide +kernel
theorem dX0_canHaveCode_68 : decode cX0_canHaveCode 68 = .ok (.iconst 2, 1) := by decide +kernel
theorem dX0_canHaveCode_69 : decode cX0_canHaveCode 69 = .ok (.irem, 1) := by decide +kernel
theorem dX0_canHaveCode_70 : decode cX0_canHaveCode 70 = .ok (.ifCond .ne 7, 3) := by decide +kernel
theorem dX0_canHaveCode_73 : decode cX0_canHaveCode 73 = .ok (.iconst 1, 1) := by decide +kernel
theorem dX0_canHaveCode_74 : decode cX0_canHaveCode 74 = .ok (.goto 4, 3) := by decide +kernel
theorem dX0_canHaveCode_77 : decode cX0_canHaveCode 77 = .ok (.iconst 0, 1) := by decide +kernel
theorem dX0_canHaveCode_78 : decode cX0_canHaveCode 78 = .ok (.ireturn, 1) := by decide +kernel
theorem dX0_canHaveCode_79 : decode cX0_canHaveCode 79 = .ok (.iconst 0, 1) := by decide +kernel
theorem dX0_canHaveCode_80 : decode cX0_canHaveCode 80 = .ok (.ireturn, 1) := by decide +kernel
set_option maxRecDepth 20000 in
theorem ggX0_start_X0_setRails : GoodIn wsX0_start wsX0_setRails := goodIn_r _ [7, 8, 9, 16, 17, 18, 19, 20, 21, 22, 23, 24] (by decide +kernel) (by decide +kernel)
set_option maxRecDepth 20000 in
theorem gX0_start_X0_setRails : GoodIn wsX0_start (wsV RX0 35 RX0 yX0_setRails wsX0_setRails) := goodIn_app (goodIn_of _ (by decide +kernel)) ggX0_start_X0_setRails
set_option maxRecDepth 20000 in
theorem ggX0_start_X0_setCode : GoodIn wsX0_start wsX0_setCode := goodIn_r _ [13, 14, 15, 16, 17, 18, 19, 20, 21, 22, 23, 24] (by decide +kernel) (by decide +kernel)
set_option maxRecDepth 20000 in
theorem gX0_start_X0_setCode : GoodIn wsX0_start (wsV RX0 39 RX0 yX0_setCode wsX0_setCode) := goodIn_app (goodIn_of _ (by decide +kernel)) ggX0_start_X0_setCode
theorem dX0_start_0 : decode cX0_start 0 = .ok (.aload_n 0, 1) := by decide +kernel
theorem dX0_start_1 : decode cX0_start 1 = .ok (.iload_n 1, 1) := by decide +kernel
theorem dX0_start_2 : decode cX0_start 2 = .ok (.putfield 21, 3) := by decide +kernel
theorem dX0_start_5 : decode cX0_start 5 = .ok (.aload_n 0, 1) := by decide +kernel
theorem dX0_start_6 : decode cX0_start 6 = .ok (.iconst 0, 1) := by decide +kernel
theorem dX0_start_7 : decode cX0_start 7 = .ok (.putfield 25, 3) := by decide +kernel
theorem dX0_start_10 : decode cX0_start 10 = .ok (.aload_n 0, 1) := by decide +kernel
theorem dX0_start_11 : decode cX0_start 11 = .ok (.iconst 0, 1) := by decide +kernel
theorem dX0_start_12 : decode cX0_start 12 = .ok (.iconst 0, 1) := by decide +kernel
theorem dX0_start_13 : decode cX0_start 13 = .ok (.invokevirtual 35, 3) := by decide +kernel
theorem dX0_start_16 : decode cX0_start 16 = .ok (.aload_n 0, 1) := by decide +kernel
theorem dX0_start_17 : decode cX0_start 17 = .ok (.iconst 0, 1) := by decide +kernel
theorem dX0_start_18 : decode cX0_start 18 = .ok (.iconst 0, 1) := by decide +kernel
theorem dX0_start_19 : decode cX0_start 19 = .ok (.invokevirtual 39, 3) := by decide +kernel
theorem dX0_start_22 : decode cX0_start 22 = .ok (.return_, 1) := by decide +kernel
theorem dX0_setGate_0 : decode cX0_setGate 0 = .ok (.aload_n 0, 1) := by decide +kernel
theorem dX0_setGate_1 : decode cX0_setGate 1 = .ok (.getfield 9, 3) := by decide +kernel
theorem dX0_setGate_4 : decode cX0_setGate 4 = .ok (.iload_n 1, 1) := by decide +kernel
theorem dX0_setGate_5 : decode cX0_setGate 5 = .ok (.iload_n 2, 1) := by decide +kernel
theorem dX0_setGate_6 : decode cX0_setGate 6 = .ok (.iastore, 1) := by decide +kernel
theorem dX0_setGate_7 : decode cX0_setGate 7 = .ok (.aload_n 0, 1) := by decide +kernel
theorem dX0_setGate_8 : decode cX0_setGate 8 = .ok (.getfield 15, 3) := by decide +kernel
theorem dX0_setGate_11 : decode cX0_setGate 11 = .ok (.iload_n 1, 1) := by decide +kernel
theorem dX0_setGate_12 : decode cX0_setGate 12 = .ok (.iload_n 3, 1) := by decide +kernel
theorem dX0_setGate_13 : decode cX0_setGate 13 = .ok (.iastore, 1) := by decide +kernel
theorem dX0_setGate_14 : decode cX0_setGate 14 = .ok (.aload_n 0, 1) := by decide +kernel
theorem dX0_setGate_15 : decode cX0_setGate 15 = .ok (.getfield 18, 3) := by decide +kernel
theorem dX0_setGate_18 : decode cX0_setGate 18 = .ok (.iload_n 1, 1) := by decide +kernel
theorem dX0_setGate_19 : decode cX0_setGate 19 = .ok (.iload 4, 2) := by decide +kernel
theorem dX0_setGate_21 : decode cX0_setGate 21 = .ok (.iastore, 1) := by decide +kernel
theorem dX0_setGate_22 : decode cX0_setGate 22 = .ok (.return_, 1) := by decide +kernel
set_option maxRecDepth 20000 in
theorem ggX0_appendGate_X0_setGate : GoodIn wsX0_appendGate wsX0_setGate := goodIn_r _ [6, 7, 8, 9, 10, 11, 12, 13, 14, 15, 16, 17, 18] (by decide +kernel) (by decide +kernel)
set_option maxRecDepth 20000 in
theorem gX0_appendGate_X0_setGate : GoodIn wsX0_appendGate (wsV RX0 42 RX0 yX0_setGate wsX0_setGate) := goodIn_app (goodIn_of _ (by decide +kernel)) ggX0_appendGate_X0_setGate
theorem dX0_appendGate_0 : decode cX0_appendGate 0 = .ok (.aload_n 0, 1) := by decide +kernel
theorem dX0_appendGate_1 : decode cX0_appendGate 1 = .ok (.aload_n 0, 1) := by decide +kernel
theorem dX0_appendGate_2 : decode cX0_appendGate 2 = .ok (.getfield 25, 3) := by decide +kernel
theorem dX0_appendGate_5 : decode cX0_appendGate 5 = .ok (.iload_n 1, 1) := by decide +kernel
theorem dX0_appendGate_6 : decode cX0_appendGate 6 = .ok (.iload_n 2, 1) := by decide +kernel
theorem dX0_appendGate_7 : decode cX0_appendGate 7 = .ok (.iload_n 3, 1) := by decide +kernel
theorem dX0_appendGate_8 : decode cX0_appendGate 8 = .ok (.invokevirtual 42, 3) := by decide +kernel
theorem dX0_appendGate_11 : decode cX0_appendGate 11 = .ok (.aload_n 0, 1) := by decide +kernel
theorem dX0_appendGate_12 : decode cX0_appendGate 12 = .ok (.dup, 1) := by decide +kernel
theorem dX0_appendGate_13 : decode cX0_appendGate 13 = .ok (.getfield 25, 3) := by decide +kernel
theorem dX0_appendGate_16 : decode cX0_appendGate 16 = .ok (.iconst 1, 1) := by decide +kernel
theorem dX0_appendGate_17 : decode cX0_appendGate 17 = .ok (.iadd, 1) := by decide +kernel
theorem dX0_appendGate_18 : decode cX0_appendGate 18 = .ok (.putfield 25, 3) := by decide +kernel
theorem dX0_appendGate_21 : decode cX0_appendGate 21 = .ok (.return_, 1) := by decide +kernel
theorem dX0_setRails_0 : decode cX0_setRails 0 = .ok (.aload_n 0, 1) := by decide +kernel
theorem dX0_setRails_1 : decode cX0_setRails 1 = .ok (.iload_n 1, 1) := by decide +kernel
theorem dX0_setRails_2 : decode cX0_setRails 2 = .ok (.putfield 46, 3) := by decide +kernel
theorem dX0_setRails_5 : decode cX0_setRails 5 = .ok (.aload_n 0, 1) := by decide +kernel
theorem dX0_setRails_6 : decode cX0_setRails 6 = .ok (.iload_n 2, 1) := by decide +kernel
theorem dX0_setRails_7 : decode cX0_setRails 7 = .ok (.putfield 49, 3) := by decide +kernel
theorem dX0_setRails_10 : decode cX0_setRails 10 = .ok (.return_, 1) := by decide +kernel
theorem dX0_setCode_0 : decode cX0_setCode 0 = .ok (.aload_n 0, 1) := by decide +kernel
theorem dX0_setCode_1 : decode cX0_setCode 1 = .ok (.iload_n 1, 1) := by decide +kernel
theorem dX0_setCode_2 : decode cX0_setCode 2 = .ok (.putfield 52, 3) := by decide +kernel
theorem dX0_setCode_5 : decode cX0_setCode 5 = .ok (.aload_n 0, 1) := by decide +kernel
theorem dX0_setCode_6 : decode cX0_setCode 6 = .ok (.iload_n 2, 1) := by decide +kernel
theorem dX0_setCode_7 : decode cX0_setCode 7 = .ok (.putfield 55, 3) := by decide +kernel
theorem dX0_setCode_10 : decode cX0_setCode 10 = .ok (.return_, 1) := by decide +kernel
set_option maxRecDepth 20000 in
theorem ggX0_becomeTree_X0_start : GoodIn wsX0_becomeTree wsX0_start := goodIn_r _ [5, 6, 7, 8, 9, 10, 4, 11, 12, 13, 14, 15, 16, 17, 18, 19, 39, 40, 41, 42, 43, 44, 45, 46, 47] (by decide +kernel) (by decide +kernel)
set_option maxRecDepth 20000 in
theorem gX0_becomeTree_X0_start : GoodIn wsX0_becomeTree (wsV RX0 58 RX0 yX0_start wsX0_start) := goodIn_app (goodIn_of _ (by decide +kernel)) ggX0_becomeTree_X0_start
set_option maxRecDepth 20000 in
theorem ggX0_becomeTree_X0_setCode : GoodIn wsX0_becomeTree wsX0_setCode := goodIn_r _ [17, 18, 19, 39, 40, 41, 42, 43, 44, 45, 46, 47] (by decide +kernel) (by decide +kernel)
set_option maxRecDepth 20000 in
theorem gX0_becomeTree_X0_setCode : GoodIn wsX0_becomeTree (wsV RX0 39 RX0 yX0_setCode wsX0_setCode) := goodIn_app (goodIn_of _ (by decide +kernel)) ggX0_becomeTree_X0_setCode
set_option maxRecDepth 20000 in
theorem ggX0_becomeTree_X0_appendCross : GoodIn wsX0_becomeTree wsX0_appendCross := goodIn_r _ [23, 24, 25, 26, 4, 27, 6, 7, 28, 29, 30, 31, 32, 33, 34, 35, 36, 37, 38, 39, 40, 41, 42, 43, 44, 45, 46, 47] (by decide +kernel) (by decide +kernel)
set_option maxRecDepth 20000 in
theorem gX0_becomeTree_X0_appendCross : GoodIn wsX0_becomeTree (wsV RX0 62 RX0 yX0_appendCross wsX0_appendCross) := goodIn_app (goodIn_of _ (by decide +kernel)) ggX0_becomeTree_X0_appendCross
set_option maxRecDepth 20000 in
theorem ggX0_becomeTree_X0_setRails : GoodIn wsX0_becomeTree wsX0_setRails := goodIn_r _ [11, 12, 13, 39, 40, 41, 42, 43, 44, 45, 46, 47] (by decide +kernel) (by decide +kernel)
set_option maxRecDepth 20000 in
theorem gX0_becomeTree_X0_setRails : GoodIn wsX0_becomeTree (wsV RX0 35 RX0 yX0_setRails wsX0_setRails) := goodIn_app (goodIn_of _ (by decide +kernel)) ggX0_becomeTree_X0_setRails
theorem dX0_becomeTree_0 : decode cX0_becomeTree 0 = .ok (.aload_n 0, 1) := by decide +kernel
theorem dX0_becomeTree_1 : decode cX0_becomeTree 1 = .ok (.iconst 2, 1) := by decide +kernel
theorem dX0_becomeTree_2 : decode cX0_becomeTree 2 = .ok (.iload_n 1, 1) := by decide +kernel
theorem dX0_becomeTree_3 : decode cX0_becomeTree 3 = .ok (.imul, 1) := by decide +kernel
theorem dX0_becomeTree_4 : decode cX0_becomeTree 4 = .ok (.invokevirtual 58, 3) := by decide +kernel
theorem dX0_becomeTree_7 : decode cX0_becomeTree 7 = .ok (.aload_n 0, 1) := by decide +kernel
theorem dX0_becomeTree_8 : decode cX0_becomeTree 8 = .ok (.iconst 3, 1) := by decide +kernel
theorem dX0_becomeTree_9 : decode cX0_becomeTree 9 = .ok (.iconst 0, 1) := by decide +kernel
theorem dX0_becomeTree_10 : decode cX0_becomeTree 10 = .ok (.invokevirtual 39, 3) := by decide +kernel
theorem dX0_becomeTree_13 : decode cX0_becomeTree 13 = .ok (.iconst 0, 1) := by decide +kernel
theorem dX0_becomeTree_14 : decode cX0_becomeTree 14 = .ok (.istore_n 2, 1) := by decide +kernel
theorem dX0_becomeTree_15 : decode cX0_becomeTree 15 = .ok (.iconst 1, 1) := by decide +kernel
theorem dX0_becomeTree_16 : decode cX0_becomeTree 16 = .ok (.istore_n 3, 1) := by decide +kernel
theorem dX0_becomeTree_17 : decode cX0_becomeTree 17 = .ok (.iconst 1, 1) := by decide +kernel
theorem dX0_becomeTree_18 : decode cX0_becomeTree 18 = .ok (.istore 4, 2) := by decide +kernel
theorem dX0_becomeTree_20 : decode cX0_becomeTree 20 = .ok (.iload 4, 2) := by decide +kernel
theorem dX0_becomeTree_22 : decode cX0_becomeTree 22 = .ok (.iload_n 1, 1) := by decide +kernel
theorem dX0_becomeTree_23 : decode cX0_becomeTree 23 = .ok (.if_icmp .ge 51, 3) := by decide +kernel
theorem dX0_becomeTree_26 : decode cX0_becomeTree 26 = .ok (.iconst 2, 1) := by decide +kernel
theorem dX0_becomeTree_27 : decode cX0_becomeTree 27 = .ok (.iload 4, 2) := by decide +kernel
theorem dX0_becomeTree_29 : decode cX0_becomeTree 29 = .ok (.imul, 1) := by decide +kernel
theorem dX0_becomeTree_30 : decode cX0_becomeTree 30 = .ok (.istore 5, 2) := by decide +kernel
theorem dX0_becomeTree_32 : decode cX0_becomeTree 32 = .ok (.iload 5, 2) := by decide +kernel
theorem dX0_becomeTree_34 : decode cX0_becomeTree 34 = .ok (.iconst 1, 1) := by decide +kernel
theorem dX0_becomeTree_35 : decode cX0_becomeTree 35 = .ok (.iadd, 1) := by decide +kernel
theorem dX0_becomeTree_36 : decode cX0_becomeTree 36 = .ok (.istore 6, 2) := by decide +kernel
theorem dX0_becomeTree_38 : decode cX0_becomeTree 38 = .ok (.aload_n 0, 1) := by decide +kernel
theorem dX0_becomeTree_39 : decode cX0_becomeTree 39 = .ok (.iload_n 2, 1) := by decide +kernel
theorem dX0_becomeTree_40 : decode cX0_becomeTree 40 = .ok (.iload 5, 2) := by decide +kernel
theorem dX0_becomeTree_42 : decode cX0_becomeTree 42 = .ok (.iload_n 3, 1) := by decide +kernel
theorem dX0_becomeTree_43 : decode cX0_becomeTree 43 = .ok (.iload 6, 2) := by decide +kernel
theorem dX0_becomeTree_45 : decode cX0_becomeTree 45 = .ok (.invokevirtual 62, 3) := by decide +kernel
theorem dX0_becomeTree_48 : decode cX0_becomeTree 48 = .ok (.istore 7, 2) := by decide +kernel
theorem dX0_becomeTree_50 : decode cX0_becomeTree 50 = .ok (.aload_n 0, 1) := by decide +kernel
theorem dX0_becomeTree_51 : decode cX0_becomeTree 51 = .ok (.iload_n 2, 1) := by decide +kernel
theorem dX0_becomeTree_52 : decode cX0_becomeTree 52 = .ok (.iload 6, 2) := by decide +kernel
theorem dX0_becomeTree_54 : decode cX0_becomeTree 54 = .ok (.iload_n 3, 1) := by decide +kernel
theorem dX0_becomeTree_55 : decode cX0_becomeTree 55 = .ok (.iload 5, 2) := by decide +kernel
theorem dX0_becomeTree_57 : decode cX0_becomeTree 57 = .ok (.invokevirtual 62, 3) := by decide +kernel
theorem dX0_becomeTree_60 : decode cX0_becomeTree 60 = .ok (.istore 8, 2) := by decide +kernel
theorem dX0_becomeTree_62 : decode cX0_becomeTree 62 = .ok (.iload 7, 2) := by decide +kernel
theorem dX0_becomeTree_64 : decode cX0_becomeTree 64 = .ok (.istore_n 2, 1) := by decide +kernel
theorem dX0_becomeTree_65 : decode cX0_becomeTree 65 = .ok (.iload 8, 2) := by decide +kernel
theorem dX0_becomeTree_67 : decode cX0_becomeTree 67 = .ok (.istore_n 3, 1) := by decide +kernel
theorem dX0_becomeTree_68 : decode cX0_becomeTree 68 = .ok (.iinc 4 1, 3) := by decide +kernel
theorem dX0_becomeTree_71 : decode cX0_becomeTree 71 = .ok (.goto (-51), 3) := by decide +kernel
theorem dX0_becomeTree_74 : decode cX0_becomeTree 74 = .ok (.aload_n 0, 1) := by decide +kernel
theorem dX0_becomeTree_75 : decode cX0_becomeTree 75 = .ok (.iload_n 2, 1) := by decide +kernel
theorem dX0_becomeTree_76 : decode cX0_becomeTree 76 = .ok (.iload_n 3, 1) := by decide +kernel
theorem dX0_becomeTree_77 : decode cX0_becomeTree 77 = .ok (.invokevirtual 35, 3) := by decide +kernel
theorem dX0_becomeTree_80 : decode cX0_becomeTree 80 = .ok (.return_, 1) := by decide +kernel
set_option maxRecDepth 20000 in
theorem ggX0_appendCross_X0_wires : GoodIn wsX0_appendCross wsX0_wires := goodIn_r _ [5, 6, 7, 19, 20, 21, 22, 23, 24, 25, 26, 27] (by decide +kernel) (by decide +kernel)
set_option maxRecDepth 20000 in
theorem gX0_appendCross_X0_wires : GoodIn wsX0_appendCross (wsV RX0 28 RX0 yX0_wires wsX0_wires) := goodIn_app (goodIn_of _ (by decide +kernel)) ggX0_appendCross_X0_wires
set_option maxRecDepth 20000 in
theorem ggX0_appendCross_X0_appendGate : GoodIn wsX0_appendCross wsX0_appendGate := goodIn_r _ [11, 7, 12, 13, 14, 4, 15, 16, 17, 18, 19, 20, 21, 22, 23, 24, 25, 26, 27] (by decide +kernel) (by decide +kernel)
set_option maxRecDepth 20000 in
theorem gX0_appendCross_X0_appendGate : GoodIn wsX0_appendCross (wsV RX0 66 RX0 yX0_appendGate wsX0_appendGate) := goodIn_app (goodIn_of _ (by decide +kernel)) ggX0_appendCross_X0_appendGate
theorem dX0_appendCross_0 : decode cX0_appendCross 0 = .ok (.aload_n 0, 1) := by decide +kernel
theorem dX0_appendCross_1 : decode cX0_appendCross 1 = .ok (.invokevirtual 28, 3) := by decide +kernel
theorem dX0_appendCross_4 : decode cX0_appendCross 4 = .ok (.istore 5, 2) := by decide +kernel
theorem dX0_appendCross_6 : decode cX0_appendCross 6 = .ok (.aload_n 0, 1) := by decide +kernel
theorem dX0_appendCross_7 : decode cX0_appendCross 7 = .ok (.iconst 0, 1) := by decide +kernel
theorem dX0_appendCross_8 : decode cX0_appendCross 8 = .ok (.iload_n 1, 1) := by decide +kernel
theorem dX0_appendCross_9 : decode cX0_appendCross 9 = .ok (.iload_n 2, 1) := by decide +kernel
theorem dX0_appendCross_10 : decode cX0_appendCross 10 = .ok (.invokevirtual 66, 3) := by decide +kernel
theorem dX0_appendCross_13 : decode cX0_appendCross 13 = .ok (.aload_n 0, 1) := by decide +kernel
theorem dX0_appendCross_14 : decode cX0_appendCross 14 = .ok (.iconst 0, 1) := by decide +kernel
theorem dX0_appendCross_15 : decode cX0_appendCross 15 = .ok (.iload_n 3, 1) := by decide +kernel
theorem dX0_appendCross_16 : decode cX0_appendCross 16 = .ok (.iload 4, 2) := by decide +kernel
theorem dX0_appendCross_18 : decode cX0_appendCross 18 = .ok (.invokevirtual 66, 3) := by decide +kernel
theorem dX0_appendCross_21 : decode cX0_appendCross 21 = .ok (.aload_n 0, 1) := by decide +kernel
theorem dX0_appendCross_22 : decode cX0_appendCross 22 = .ok (.iconst 1, 1) := by decide +kernel
theorem dX0_appendCross_23 : decode cX0_appendCross 23 = .ok (.iload 5, 2) := by decide +kernel
theorem dX0_appendCross_25 : decode cX0_appendCross 25 = .ok (.iload 5, 2) := by decide +kernel
theorem dX0_appendCross_27 : decode cX0_appendCross 27 = .ok (.iconst 1, 1) := by decide +kernel
theorem dX0_appendCross_28 : decode cX0_appendCross 28 = .ok (.iadd, 1) := by decide +kernel
theorem dX0_appendCross_29 : decode cX0_appendCross 29 = .ok (.invokevirtual 66, 3) := by decide +kernel
theorem dX0_appendCross_32 : decode cX0_appendCross 32 = .ok (.iload 5, 2) := by decide +kernel
theorem dX0_appendCross_34 : decode cX0_appendCross 34 = .ok (.iconst 2, 1) := by decide +kernel
theorem dX0_appendCross_35 : decode cX0_appendCross 35 = .ok (.iadd, 1) := by decide +kernel
theorem dX0_appendCross_36 : decode cX0_appendCross 36 = .ok (.ireturn, 1) := by decide +kernel
set_option maxRecDepth 20000 in
theorem ggX0_copyFrom_X0_setRails : GoodIn wsX0_copyFrom wsX0_setRails := goodIn_r _ [18, 10, 11, 23, 24, 25, 26, 27, 28, 29, 30, 31] (by decide +kernel) (by decide +kernel)
set_option maxRecDepth 20000 in
theorem gX0_copyFrom_X0_setRails : GoodIn wsX0_copyFrom (wsV RX0 35 RX0 yX0_setRails wsX0_setRails) := goodIn_app (goodIn_of _ (by decide +kernel)) ggX0_copyFrom_X0_setRails
set_option maxRecDepth 20000 in
theorem ggX0_copyFrom_X0_setCode : GoodIn wsX0_copyFrom wsX0_setCode := goodIn_r _ [22, 12, 13, 23, 24, 25, 26, 27, 28, 29, 30, 31] (by decide +kernel) (by decide +kernel)
set_option maxRecDepth 20000 in
theorem gX0_copyFrom_X0_setCode : GoodIn wsX0_copyFrom (wsV RX0 39 RX0 yX0_setCode wsX0_setCode) := goodIn_app (goodIn_of _ (by decide +kernel)) ggX0_copyFrom_X0_setCode
theorem dX0_copyFrom_0 : decode cX0_copyFrom 0 = .ok (.aload_n 1, 1) := by decide +kernel
theorem dX0_copyFrom_1 : decode cX0_copyFrom 1 = .ok (.getfield 9, 3) := by decide +kernel
theorem dX0_copyFrom_4 : decode cX0_copyFrom 4 = .ok (.iconst 0, 1) := by decide +kernel
theorem dX0_copyFrom_5 : decode cX0_copyFrom 5 = .ok (.aload_n 0, 1) := by decide +kernel
theorem dX0_copyFrom_6 : decode cX0_copyFrom 6 = .ok (.getfield 9, 3) := by decide +kernel
theorem dX0_copyFrom_9 : decode cX0_copyFrom 9 = .ok (.iconst 0, 1) := by decide +kernel
theorem dX0_copyFrom_10 : decode cX0_copyFrom 10 = .ok (.bipush 24, 2) := by decide +kernel
theorem dX0_copyFrom_12 : decode cX0_copyFrom 12 = .ok (.invokestatic 70, 3) := by decide +kernel
theorem dX0_copyFrom_15 : decode cX0_copyFrom 15 = .ok (.aload_n 1, 1) := by decide +kernel
theorem dX0_copyFrom_16 : decode cX0_copyFrom 16 = .ok (.getfield 15, 3) := by decide +kernel
theorem dX0_copyFrom_19 : decode cX0_copyFrom 19 = .ok (.iconst 0, 1) := by decide +kernel
theorem dX0_copyFrom_20 : decode cX0_copyFrom 20 = .ok (.aload_n 0, 1) := by decide +kernel
theorem dX0_copyFrom_21 : decode cX0_copyFrom 21 = .ok (.getfield 15, 3) := by decide +kernel
theorem dX0_copyFrom_24 : decode cX0_copyFrom 24 = .ok (.iconst 0, 1) := by decide +kernel
theorem dX0_copyFrom_25 : decode cX0_copyFrom 25 = .ok (.bipush 24, 2) := by decide +kernel
theorem dX0_copyFrom_27 : decode cX0_copyFrom 27 = .ok (.invokestatic 70, 3) := by decide +kernel
theorem dX0_copyFrom_30 : decode cX0_copyFrom 30 = .ok (.aload_n 1, 1) := by decide +kernel
theorem dX0_copyFrom_31 : decode cX0_copyFrom 31 = .ok (.getfield 18, 3) := by decide +kernel
theorem dX0_copyFrom_34 : decode cX0_copyFrom 34 = .ok (.iconst 0, 1) := by decide +kernel
theorem dX0_copyFrom_35 : decode cX0_copyFrom 35 = .ok (.aload_n 0, 1) := by decide +kernel
theorem dX0_copyFrom_36 : decode cX0_copyFrom 36 = .ok (.getfield 18, 3) := by decide +kernel
theorem dX0_copyFrom_39 : decode cX0_copyFrom 39 = .ok (.iconst 0, 1) := by decide +kernel
theorem dX0_copyFrom_40 : decode cX0_copyFrom 40 = .ok (.bipush 24, 2) := by decide +kernel
theorem dX0_copyFrom_42 : decode cX0_copyFrom 42 = .ok (.invokestatic 70, 3) := by decide +kernel
theorem dX0_copyFrom_45 : decode cX0_copyFrom 45 = .ok (.aload_n 0, 1) := by decide +kernel
theorem dX0_copyFrom_46 : decode cX0_copyFrom 46 = .ok (.aload_n 1, 1) := by decide +kernel
theorem dX0_copyFrom_47 : decode cX0_copyFrom 47 = .ok (.getfield 21, 3) := by decide +kernel
theorem dX0_copyFrom_50 : decode cX0_copyFrom 50 = .ok (.putfield 21, 3) := by decide +kernel
theorem dX0_copyFrom_53 : decode cX0_copyFrom 53 = .ok (.aload_n 0, 1) := by decide +kernel
theorem dX0_copyFrom_54 : decode cX0_copyFrom 54 = .ok (.aload_n 1, 1) := by decide +kernel
theorem dX0_copyFrom_55 : decode cX0_copyFrom 55 = .ok (.getfield 25, 3) := by decide +kernel
theorem dX0_copyFrom_58 : decode cX0_copyFrom 58 = .ok (.putfield 25, 3) := by decide +kernel
theorem dX0_copyFrom_61 : decode cX0_copyFrom 61 = .ok (.aload_n 0, 1) := by decide +kernel
theorem dX0_copyFrom_62 : decode cX0_copyFrom 62 = .ok (.aload_n 1, 1) := by decide +kernel
theorem dX0_copyFrom_63 : decode cX0_copyFrom 63 = .ok (.getfield 46, 3) := by decide +kernel
theorem dX0_copyFrom_66 : decode cX0_copyFrom 66 = .ok (.aload_n 1, 1) := by decide +kernel
theorem dX0_copyFrom_67 : decode cX0_copyFrom 67 = .ok (.getfield 49, 3) := by decide +kernel
theorem dX0_copyFrom_70 : decode cX0_copyFrom 70 = .ok (.invokevirtual 35, 3) := by decide +kernel
theorem dX0_copyFrom_73 : decode cX0_copyFrom 73 = .ok (.aload_n 0, 1) := by decide +kernel
theorem dX0_copyFrom_74 : decode cX0_copyFrom 74 = .ok (.aload_n 1, 1) := by decide +kernel
theorem dX0_copyFrom_75 : decode cX0_copyFrom 75 = .ok (.getfield 52, 3) := by decide +kernel
theorem dX0_copyFrom_78 : decode cX0_copyFrom 78 = .ok (.aload_n 1, 1) := by decide +kernel
theorem dX0_copyFrom_79 : decode cX0_copyFrom 79 = .ok (.getfield 55, 3) := by decide +kernel
theorem dX0_copyFrom_82 : decode cX0_copyFrom 82 = .ok (.invokevirtual 39, 3) := by decide +kernel
theorem dX0_copyFrom_85 : decode cX0_copyFrom 85 = .ok (.return_, 1) := by decide +kernel
theorem dX0_gatesThatRead_0 : decode cX0_gatesThatRead 0 = .ok (.iconst 0, 1) := by decide +kernel
theorem dX0_gatesThatRead_1 : decode cX0_gatesThatRead 1 = .ok (.istore_n 2, 1) := by decide +kernel
theorem dX0_gatesThatRead_2 : decode cX0_gatesThatRead 2 = .ok (.iconst 0, 1) := by decide +kernel
theorem dX0_gatesThatRead_3 : decode cX0_gatesThatRead 3 = .ok (.istore_n 3, 1) := by decide +kernel
theorem dX0_gatesThatRead_4 : decode cX0_gatesThatRead 4 = .ok (.iload_n 3, 1) := by decide +kernel
theorem dX0_gatesThatRead_5 : decode cX0_gatesThatRead 5 = .ok (.aload_n 0, 1) := by decide +kernel
theorem dX0_gatesThatRead_6 : decode cX0_gatesThatRead 6 = .ok (.getfield 25, 3) := by decide +kernel
theorem dX0_gatesThatRead_9 : decode cX0_gatesThatRead 9 = .ok (.if_icmp .ge 32, 3) := by decide +kernel
theorem dX0_gatesThatRead_12 : decode cX0_gatesThatRead 12 = .ok (.aload_n 0, 1) := by decide +kernel
theorem dX0_gatesThatRead_13 : decode cX0_gatesThatRead 13 = .ok (.getfield 15, 3) := by decide +kernel
theorem dX0_gatesThatRead_16 : decode cX0_gatesThatRead 16 = .ok (.iload_n 3, 1) := by decide +kernel
theorem dX0_gatesThatRead_17 : decode cX0_gatesThatRead 17 = .ok (.iaload, 1) := by decide +kernel
theorem dX0_gatesThatRead_18 : decode cX0_gatesThatRead 18 = .ok (.iload_n 1, 1) := by decide +kernel
theorem dX0_gatesThatRead_19 : decode cX0_gatesThatRead 19 = .ok (.if_icmp .eq 13, 3) := by decide +kernel
theorem dX0_gatesThatRead_22 : decode cX0_gatesThatRead 22 = .ok (.aload_n 0, 1) := by decide +kernel
theorem dX0_gatesThatRead_23 : decode cX0_gatesThatRead 23 = .ok (.getfield 18, 3) := by decide +kernel
theorem dX0_gatesThatRead_26 : decode cX0_gatesThatRead 26 = .ok (.iload_n 3, 1) := by decide +kernel
theorem dX0_gatesThatRead_27 : decode cX0_gatesThatRead 27 = .ok (.iaload, 1) := by decide +kernel
theorem dX0_gatesThatRead_28 : decode cX0_gatesThatRead 28 = .ok (.iload_n 1, 1) := by decide +kernel
theorem dX0_gatesThatRead_29 : decode cX0_gatesThatRead 29 = .ok (.if_icmp .ne 6, 3) := by decide +kernel
theorem dX0_gatesThatRead_32 : decode cX0_gatesThatRead 32 = .ok (.iinc 2 1, 3) := by decide +kernel
theorem dX0_gatesThatRead_35 : decode cX0_gatesThatRead 35 = .ok (.iinc 3 1, 3) := by decide +kernel
theorem dX0_gatesThatRead_38 : decode cX0_gatesThatRead 38 = .ok (.goto (-34), 3) := by decide +kernel
theorem dX0_gatesThatRead_41 : decode cX0_gatesThatRead 41 = .ok (.iload_n 2, 1) := by decide +kernel
theorem dX0_gatesThatRead_42 : decode cX0_gatesThatRead 42 = .ok (.ireturn, 1) := by decide +kernel
set_option maxRecDepth 20000 in
theorem ggX0_isInCode_J6_bitCount_0f7a4 : GoodIn wsX0_isInCode wsJ6_bitCount_0f7a4 := goodIn_r _ [6, 7, 8, 9] (by decide +kernel) (by decide +kernel)
set_option maxRecDepth 20000 in
theorem gX0_isInCode_J6_bitCount_0f7a4 : GoodIn wsX0_isInCode (va_wsS RX0 76 yJ6_bitCount_0f7a4 wsJ6_bitCount_0f7a4) := goodIn_app (goodIn_of _ (by decide +kernel)) ggX0_isInCode_J6_bitCount_0f7a4
set_option maxRecDepth 20000 in
theorem ggX0_isInCode_X0_tellsItsZeros : GoodIn wsX0_isInCode wsX0_tellsItsZeros := goodIn_r _ [14, 2, 15, 16, 17, 13, 18, 3, 4, 5, 6, 7, 8, 9, 23, 24, 25, 26, 27, 28, 29, 30, 31] (by decide +kernel) (by decide +kernel)
set_option maxRecDepth 20000 in
theorem gX0_isInCode_X0_tellsItsZeros : GoodIn wsX0_isInCode (wsV RX0 82 RX0 yX0_tellsItsZeros wsX0_tellsItsZeros) := goodIn_app (goodIn_of _ (by decide +kernel)) ggX0_isInCode_X0_tellsItsZeros
set_option maxRecDepth 20000 in
theorem ggX0_isInCode_X0_hasUnlikePairs : GoodIn wsX0_isInCode wsX0_hasUnlikePairs := goodIn_r _ [22, 15, 16, 17, 13, 18, 23, 24, 25, 26, 27, 28, 29, 30, 31] (by decide +kernel) (by decide +kernel)
set_option maxRecDepth 20000 in
theorem gX0_isInCode_X0_hasUnlikePairs : GoodIn wsX0_isInCode (wsV RX0 86 RX0 yX0_hasUnlikePairs wsX0_hasUnlikePairs) := goodIn_app (goodIn_of _ (by decide +kernel)) ggX0_isInCode_X0_hasUnlikePairs
theorem dX0_isInCode_0 : decode cX0_isInCode 0 = .ok (.aload_n 0, 1) := by decide +kernel
theorem dX0_isInCode_1 : decode cX0_isInCode 1 = .ok (.getfield 52, 3) := by decide +kernel
theorem dX0_isInCode_4 : decode cX0_isInCode 4 = .ok (.tableswitch 57 1 3 #[28, 45, 51], 28) := by decide +kernel
theorem dX0_isInCode_32 : decode cX0_isInCode 32 = .ok (.iload_n 1, 1) := by decide +kernel
theorem dX0_isInCode_33 : decode cX0_isInCode 33 = .ok (.invokestatic 76, 3) := by decide +kernel
theorem dX0_isInCode_36 : decode cX0_isInCode 36 = .ok (.aload_n 0, 1) := by decide +kernel
theorem dX0_isInCode_37 : decode cX0_isInCode 37 = .ok (.getfield 55, 3) := by decide +kernel
theorem dX0_isInCode_40 : decode cX0_isInCode 40 = .ok (.if_icmp .ne 7, 3) := by decide +kernel
theorem dX0_isInCode_43 : decode cX0_isInCode 43 = .ok (.iconst 1, 1) := by decide +kernel
theorem dX0_isInCode_44 : decode cX0_isInCode 44 = .ok (.goto 4, 3) := by decide +kernel
theorem dX0_isInCode_47 : decode cX0_isInCode 47 = .ok (.iconst 0, 1) := by decide +kernel
theorem dX0_isInCode_48 : decode cX0_isInCode 48 = .ok (.ireturn, 1) := by decide +kernel
theorem dX0_isInCode_49 : decode cX0_isInCode 49 = .ok (.aload_n 0, 1) := by decide +kernel
theorem dX0_isInCode_50 : decode cX0_isInCode 50 = .ok (.iload_n 1, 1) := by decide +kernel
theorem dX0_isInCode_51 : decode cX0_isInCode 51 = .ok (.invokevirtual 82, 3) := by decide +kernel
theorem dX0_isInCode_54 : decode cX0_isInCode 54 = .ok (.ireturn, 1) := by decide +kernel
theorem dX0_isInCode_55 : decode cX0_isInCode 55 = .ok (.aload_n 0, 1) := by decide +kernel
theorem dX0_isInCode_56 : decode cX0_isInCode 56 = .ok (.iload_n 1, 1) := by decide +kernel
theorem dX0_isInCode_57 : decode cX0_isInCode 57 = .ok (.invokevirtual 86, 3) := by decide +kernel
theorem dX0_isInCode_60 : decode cX0_isInCode 60 = .ok (.ireturn, 1) := by decide +kernel
theorem dX0_isInCode_61 : decode cX0_isInCode 61 = .ok (.iconst 1, 1) := by decide +kernel
theorem dX0_isInCode_62 : decode cX0_isInCode 62 = .ok (.ireturn, 1) := by decide +kernel
set_option maxRecDepth 20000 in
theorem ggX0_tellsItsZeros_X0_lowBits : GoodIn wsX0_tellsItsZeros wsX0_lowBits := goodIn_r _ [6] (by decide +kernel) (by decide +kernel)
set_option maxRecDepth 20000 in
theorem gX0_tellsItsZeros_X0_lowBits : GoodIn wsX0_tellsItsZeros (va_wsS RX0 89 yX0_lowBits wsX0_lowBits) := goodIn_app (goodIn_of _ (by decide +kernel)) ggX0_tellsItsZeros_X0_lowBits
set_option maxRecDepth 20000 in
theorem ggX0_tellsItsZeros_J6_bitCount_0f7a4 : GoodIn wsX0_tellsItsZeros wsJ6_bitCount_0f7a4 := goodIn_r _ [10, 11, 12, 13] (by decide +kernel) (by decide +kernel)
set_option maxRecDepth 20000 in
theorem gX0_tellsItsZeros_J6_bitCount_0f7a4 : GoodIn wsX0_tellsItsZeros (va_wsS RX0 76 yJ6_bitCount_0f7a4 wsJ6_bitCount_0f7a4) := goodIn_app (goodIn_of _ (by decide +kernel)) ggX0_tellsItsZeros_J6_bitCount_0f7a4
theorem dX0_tellsItsZeros_0 : decode cX0_tellsItsZeros 0 = .ok (.iload_n 1, 1) := by decide +kernel
theorem dX0_tellsItsZeros_1 : decode cX0_tellsItsZeros 1 = .ok (.aload_n 0, 1) := by decide +kernel
theorem dX0_tellsItsZeros_2 : decode cX0_tellsItsZeros 2 = .ok (.getfield 55, 3) := by decide +kernel
theorem dX0_tellsItsZeros_5 : decode cX0_tellsItsZeros 5 = .ok (.invokestatic 89, 3) := by decide +kernel
theorem dX0_tellsItsZeros_8 : decode cX0_tellsItsZeros 8 = .ok (.iand, 1) := by decide +kernel
theorem dX0_tellsItsZeros_9 : decode cX0_tellsItsZeros 9 = .ok (.istore_n 2, 1) := by decide +kernel
theorem dX0_tellsItsZeros_10 : decode cX0_tellsItsZeros 10 = .ok (.aload_n 0, 1) := by decide +kernel
theorem dX0_tellsItsZeros_11 : decode cX0_tellsItsZeros 11 = .ok (.getfield 55, 3) := by decide +kernel
theorem dX0_tellsItsZeros_14 : decode cX0_tellsItsZeros 14 = .ok (.iload_n 2, 1) := by decide +kernel
theorem dX0_tellsItsZeros_15 : decode cX0_tellsItsZeros 15 = .ok (.invokestatic 76, 3) := by decide +kernel
theorem dX0_tellsItsZeros_18 : decode cX0_tellsItsZeros 18 = .ok (.isub, 1) := by decide +kernel
theorem dX0_tellsItsZeros_19 : decode cX0_tellsItsZeros 19 = .ok (.istore_n 3, 1) := by decide +kernel
theorem dX0_tellsItsZeros_20 : decode cX0_tellsItsZeros 20 = .ok (.iload_n 1, 1) := by decide +kernel
theorem dX0_tellsItsZeros_21 : decode cX0_tellsItsZeros 21 = .ok (.aload_n 0, 1) := by decide +kernel
theorem dX0_tellsItsZeros_22 : decode cX0_tellsItsZeros 22 = .ok (.getfield 55, 3) := by decide +kernel
theorem dX0_tellsItsZeros_25 : decode cX0_tellsItsZeros 25 = .ok (.ishr, 1) := by decide +kernel
theorem dX0_tellsItsZeros_26 : decode cX0_tellsItsZeros 26 = .ok (.iload_n 3, 1) := by decide +kernel
theorem dX0_tellsItsZeros_27 : decode cX0_tellsItsZeros 27 = .ok (.aload_n 0, 1) := by decide +kernel
theorem dX0_tellsItsZeros_28 : decode cX0_tellsItsZeros 28 = .ok (.getfield 21, 3) := by decide +kernel
theorem dX0_tellsItsZeros_31 : decode cX0_tellsItsZeros 31 = .ok (.aload_n 0, 1) := by decide +kernel
theorem dX0_tellsItsZeros_32 : decode cX0_tellsItsZeros 32 = .ok (.getfield 55, 3) := by decide +kernel
theorem dX0_tellsItsZeros_35 : decode cX0_tellsItsZeros 35 = .ok (.isub, 1) := by decide +kernel
theorem dX0_tellsItsZeros_36 : decode cX0_tellsItsZeros 36 = .ok (.invokestatic 89, 3) := by decide +kernel
theorem dX0_tellsItsZeros_39 : decode cX0_tellsItsZeros 39 = .ok (.iand, 1) := by decide +kernel
theorem dX0_tellsItsZeros_40 : decode cX0_tellsItsZeros 40 = .ok (.if_icmp .ne 7, 3) := by decide +kernel
theorem dX0_tellsItsZeros_43 : decode cX0_tellsItsZeros 43 = .ok (.iconst 1, 1) := by decide +kernel
theorem dX0_tellsItsZeros_44 : decode cX0_tellsItsZeros 44 = .ok (.goto 4, 3) := by decide +kernel
theorem dX0_tellsItsZeros_47 : decode cX0_tellsItsZeros 47 = .ok (.iconst 0, 1) := by decide +kernel
theorem dX0_tellsItsZeros_48 : decode cX0_tellsItsZeros 48 = .ok (.ireturn, 1) := by decide +kernel
set_option maxRecDepth 20000 in
theorem ggX0_hasUnlikePairs_X0_lowBits : GoodIn wsX0_hasUnlikePairs wsX0_lowBits := goodIn_r _ [5] (by decide +kernel) (by decide +kernel)
set_option maxRecDepth 20000 in
theorem gX0_hasUnlikePairs_X0_lowBits : GoodIn wsX0_hasUnlikePairs (va_wsS RX0 89 yX0_lowBits wsX0_lowBits) := goodIn_app (goodIn_of _ (by decide +kernel)) ggX0_hasUnlikePairs_X0_lowBits
theorem dX0_hasUnlikePairs_0 : decode cX0_hasUnlikePairs 0 = .ok (.bipush 85, 2) := by decide +kernel
theorem dX0_hasUnlikePairs_2 : decode cX0_hasUnlikePairs 2 = .ok (.aload_n 0, 1) := by decide +kernel
theorem dX0_hasUnlikePairs_3 : decode cX0_hasUnlikePairs 3 = .ok (.getfield 21, 3) := by decide +kernel
theorem dX0_hasUnlikePairs_6 : decode cX0_hasUnlikePairs 6 = .ok (.invokestatic 89, 3) := by decide +kernel
theorem dX0_hasUnlikePairs_9 : decode cX0_hasUnlikePairs 9 = .ok (.iand, 1) := by decide +kernel
theorem dX0_hasUnlikePairs_10 : decode cX0_hasUnlikePairs 10 = .ok (.istore_n 2, 1) := by decide +kernel
theorem dX0_hasUnlikePairs_11 : decode cX0_hasUnlikePairs 11 = .ok (.iload_n 1, 1) := by decide +kernel
theorem dX0_hasUnlikePairs_12 : decode cX0_hasUnlikePairs 12 = .ok (.iload_n 1, 1) := by decide +kernel
theorem dX0_hasUnlikePairs_13 : decode cX0_hasUnlikePairs 13 = .ok (.iconst 1, 1) := by decide +kernel
theorem dX0_hasUnlikePairs_14 : decode cX0_hasUnlikePairs 14 = .ok (.ishr, 1) := by decide +kernel
theorem dX0_hasUnlikePairs_15 : decode cX0_hasUnlikePairs 15 = .ok (.ixor, 1) := by decide +kernel
theorem dX0_hasUnlikePairs_16 : decode cX0_hasUnlikePairs 16 = .ok (.iload_n 2, 1) := by decide +kernel
theorem dX0_hasUnlikePairs_17 : decode cX0_hasUnlikePairs 17 = .ok (.iand, 1) := by decide +kernel
theorem dX0_hasUnlikePairs_18 : decode cX0_hasUnlikePairs 18 = .ok (.iload_n 2, 1) := by decide +kernel
theorem dX0_hasUnlikePairs_19 : decode cX0_hasUnlikePairs 19 = .ok (.if_icmp .ne 7, 3) := by decide +kernel
theorem dX0_hasUnlikePairs_22 : decode cX0_hasUnlikePairs 22 = .ok (.iconst 1, 1) := by decide +kernel
theorem dX0_hasUnlikePairs_23 : decode cX0_hasUnlikePairs 23 = .ok (.goto 4, 3) := by decide +kernel
theorem dX0_hasUnlikePairs_26 : decode cX0_hasUnlikePairs 26 = .ok (.iconst 0, 1) := by decide +kernel
theorem dX0_hasUnlikePairs_27 : decode cX0_hasUnlikePairs 27 = .ok (.ireturn, 1) := by decide +kernel
theorem dX0_lowBits_0 : decode cX0_lowBits 0 = .ok (.iconst 1, 1) := by decide +kernel
theorem dX0_lowBits_1 : decode cX0_lowBits 1 = .ok (.iload_n 0, 1) := by decide +kernel
theorem dX0_lowBits_2 : decode cX0_lowBits 2 = .ok (.ishl, 1) := by decide +kernel
theorem dX0_lowBits_3 : decode cX0_lowBits 3 = .ok (.iconst 1, 1) := by decide +kernel
theorem dX0_lowBits_4 : decode cX0_lowBits 4 = .ok (.isub, 1) := by decide +kernel
theorem dX0_lowBits_5 : decode cX0_lowBits 5 = .ok (.ireturn, 1) := by decide +kernel
theorem dX1_init_0 : decode cX1_init 0 = .ok (.aload_n 0, 1) := by decide +kernel
theorem dX1_init_1 : decode cX1_init 1 = .ok (.invokespecial 3, 3) := by decide +kernel
theorem dX1_init_4 : decode cX1_init 4 = .ok (.aload_n 0, 1) := by decide +kernel
theorem dX1_init_5 : decode cX1_init 5 = .ok (.sipush 256, 3) := by decide +kernel
theorem dX1_init_8 : decode cX1_init 8 = .ok (.newarray .int, 2) := by decide +kernel
theorem dX1_init_10 : decode cX1_init 10 = .ok (.putfield 9, 3) := by decide +kernel
theorem dX1_init_13 : decode cX1_init 13 = .ok (.aload_n 0, 1) := by decide +kernel
theorem dX1_init_14 : decode cX1_init 14 = .ok (.sipush 256, 3) := by decide +kernel
theorem dX1_init_17 : decode cX1_init 17 = .ok (.newarray .int, 2) := by decide +kernel
theorem dX1_init_19 : decode cX1_init 19 = .ok (.putfield 15, 3) := by decide +kernel
theorem dX1_init_22 : decode cX1_init 22 = .ok (.return_, 1) := by decide +kernel
set_option maxRecDepth 20000 in
theorem ggX1_list_X0_wordCount : GoodIn wsX1_list wsX0_wordCount := goodIn_r _ [10, 11, 43, 44, 45, 46, 47, 48, 49, 50, 51] (by decide +kernel) (by decide +kernel)
set_option maxRecDepth 20000 in
theorem gX1_list_X0_wordCount : GoodIn wsX1_list (wsV RX1 22 RX0 yX0_wordCount wsX0_wordCount) := goodIn_app (goodIn_of _ (by decide +kernel)) ggX1_list_X0_wordCount
set_option maxRecDepth 20000 in
theorem ggX1_list_X0_isInCode : GoodIn wsX1_list wsX0_isInCode := goodIn_r _ [15, 16, 17, 18, 19, 20, 21, 22, 23, 24, 25, 26, 27, 9, 28, 11, 29, 30, 31, 32, 33, 34, 35, 43, 44, 45, 46, 47, 48, 49, 50, 51] (by decide +kernel) (by decide +kernel)
set_option maxRecDepth 20000 in
theorem gX1_list_X0_isInCode : GoodIn wsX1_list (wsV RX1 28 RX0 yX0_isInCode wsX0_isInCode) := goodIn_app (goodIn_of _ (by decide +kernel)) ggX1_list_X0_isInCode
theorem dX1_list_0 : decode cX1_list 0 = .ok (.aload_n 0, 1) := by decide +kernel
theorem dX1_list_1 : decode cX1_list 1 = .ok (.iconst 0, 1) := by decide +kernel
theorem dX1_list_2 : decode cX1_list 2 = .ok (.putfield 18, 3) := by decide +kernel
theorem dX1_list_5 : decode cX1_list 5 = .ok (.iconst 0, 1) := by decide +kernel
theorem dX1_list_6 : decode cX1_list 6 = .ok (.istore_n 2, 1) := by decide +kernel
theorem dX1_list_7 : decode cX1_list 7 = .ok (.iload_n 2, 1) := by decide +kernel
theorem dX1_list_8 : decode cX1_list 8 = .ok (.aload_n 1, 1) := by decide +kernel
theorem dX1_list_9 : decode cX1_list 9 = .ok (.invokevirtual 22, 3) := by decide +kernel
theorem dX1_list_12 : decode cX1_list 12 = .ok (.if_icmp .ge 55, 3) := by decide +kernel
theorem dX1_list_15 : decode cX1_list 15 = .ok (.aload_n 0, 1) := by decide +kernel
theorem dX1_list_16 : decode cX1_list 16 = .ok (.getfield 15, 3) := by decide +kernel
theorem dX1_list_19 : decode cX1_list 19 = .ok (.iload_n 2, 1) := by decide +kernel
theorem dX1_list_20 : decode cX1_list 20 = .ok (.bipush (-4), 2) := by decide +kernel
theorem dX1_list_22 : decode cX1_list 22 = .ok (.iastore, 1) := by decide +kernel
theorem dX1_list_23 : decode cX1_list 23 = .ok (.aload_n 1, 1) := by decide +kernel
theorem dX1_list_24 : decode cX1_list 24 = .ok (.iload_n 2, 1) := by decide +kernel
theorem dX1_list_25 : decode cX1_list 25 = .ok (.invokevirtual 28, 3) := by decide +kernel
theorem dX1_list_28 : decode cX1_list 28 = .ok (.ifCond .eq 33, 3) := by decide +kernel
theorem dX1_list_31 : decode cX1_list 31 = .ok (.aload_n 0, 1) := by decide +kernel
theorem dX1_list_32 : decode cX1_list 32 = .ok (.getfield 15, 3) := by decide +kernel
theorem dX1_list_35 : decode cX1_list 35 = .ok (.iload_n 2, 1) := by decide +kernel
theorem dX1_list_36 : decode cX1_list 36 = .ok (.aload_n 0, 1) := by decide +kernel
theorem dX1_list_37 : decode cX1_list 37 = .ok (.getfield 18, 3) := by decide +kernel
theorem dX1_list_40 : decode cX1_list 40 = .ok (.iastore, 1) := by decide +kernel
theorem dX1_list_41 : decode cX1_list 41 = .ok (.aload_n 0, 1) := by decide +kernel
theorem dX1_list_42 : decode cX1_list 42 = .ok (.getfield 9, 3) := by decide +kernel
theorem dX1_list_45 : decode cX1_list 45 = .ok (.aload_n 0, 1) := by decide +kernel
theorem dX1_list_46 : decode cX1_list 46 = .ok (.getfield 18, 3) := by decide +kernel
theorem dX1_list_49 : decode cX1_list 49 = .ok (.iload_n 2, 1) := by decide +kernel
theorem dX1_list_50 : decode cX1_list 50 = .ok (.iastore, 1) := by decide +kernel
theorem dX1_list_51 : decode cX1_list 51 = .ok (.aload_n 0, 1) := by decide +kernel
theorem dX1_list_52 : decode cX1_list 52 = .ok (.dup, 1) := by decide +kernel
theorem dX1_list_53 : decode cX1_list 53 = .ok (.getfield 18, 3) := by decide +kernel
theorem dX1_list_56 : decode cX1_list 56 = .ok (.iconst 1, 1) := by decide +kernel
theorem dX1_list_57 : decode cX1_list 57 = .ok (.iadd, 1) := by decide +kernel
theorem dX1_list_58 : decode cX1_list 58 = .ok (.putfield 18, 3) := by decide +kernel
theorem dX1_list_61 : decode cX1_list 61 = .ok (.iinc 2 1, 3) := by decide +kernel
theorem dX1_list_64 : decode cX1_list 64 = .ok (.goto (-57), 3) := by decide +kernel
theorem dX1_list_67 : decode cX1_list 67 = .ok (.aload_n 0, 1) := by decide +kernel
theorem dX1_list_68 : decode cX1_list 68 = .ok (.iconst 1, 1) := by decide +kernel
theorem dX1_list_69 : decode cX1_list 69 = .ok (.putfield 32, 3) := by decide +kernel
theorem dX1_list_72 : decode cX1_list 72 = .ok (.aload_n 0, 1) := by decide +kernel
theorem dX1_list_73 : decode cX1_list 73 = .ok (.iconst 0, 1) := by decide +kernel
theorem dX1_list_74 : decode cX1_list 74 = .ok (.putfield 36, 3) := by decide +kernel
theorem dX1_list_77 : decode cX1_list 77 = .ok (.return_, 1) := by decide +kernel
set_option maxRecDepth 20000 in
theorem ggX1_compare_X1_compareTwo : GoodIn wsX1_compare wsX1_compareTwo := goodIn_r _ [10, 1, 2, 11, 12, 13, 14, 15, 16, 17, 18, 19, 20, 21, 22, 23, 24] (by decide +kernel) (by decide +kernel)
set_option maxRecDepth 20000 in
theorem gX1_compare_X1_compareTwo : GoodIn wsX1_compare (wsV RX1 45 RX1 yX1_compareTwo wsX1_compareTwo) := goodIn_app (goodIn_of _ (by decide +kernel)) ggX1_compare_X1_compareTwo
theorem dX1_compare_0 : decode cX1_compare 0 = .ok (.aload_n 0, 1) := by decide +kernel
theorem dX1_compare_1 : decode cX1_compare 1 = .ok (.iconst 0, 1) := by decide +kernel
theorem dX1_compare_2 : decode cX1_compare 2 = .ok (.putfield 39, 3) := by decide +kernel
theorem dX1_compare_5 : decode cX1_compare 5 = .ok (.aload_n 0, 1) := by decide +kernel
theorem dX1_compare_6 : decode cX1_compare 6 = .ok (.bipush (-4), 2) := by decide +kernel
theorem dX1_compare_8 : decode cX1_compare 8 = .ok (.putfield 42, 3) := by decide +kernel
theorem dX1_compare_11 : decode cX1_compare 11 = .ok (.iconst 1, 1) := by decide +kernel
theorem dX1_compare_12 : decode cX1_compare 12 = .ok (.istore_n 1, 1) := by decide +kernel
theorem dX1_compare_13 : decode cX1_compare 13 = .ok (.iload_n 1, 1) := by decide +kernel
theorem dX1_compare_14 : decode cX1_compare 14 = .ok (.aload_n 0, 1) := by decide +kernel
theorem dX1_compare_15 : decode cX1_compare 15 = .ok (.getfield 18, 3) := by decide +kernel
theorem dX1_compare_18 : decode cX1_compare 18 = .ok (.if_icmp .ge 38, 3) := by decide +kernel
theorem dX1_compare_21 : decode cX1_compare 21 = .ok (.iconst 0, 1) := by decide +kernel
theorem dX1_compare_22 : decode cX1_compare 22 = .ok (.istore_n 2, 1) := by decide +kernel
theorem dX1_compare_23 : decode cX1_compare 23 = .ok (.iload_n 2, 1) := by decide +kernel
theorem dX1_compare_24 : decode cX1_compare 24 = .ok (.iload_n 1, 1) := by decide +kernel
theorem dX1_compare_25 : decode cX1_compare 25 = .ok (.if_icmp .ge 25, 3) := by decide +kernel
theorem dX1_compare_28 : decode cX1_compare 28 = .ok (.aload_n 0, 1) := by decide +kernel
theorem dX1_compare_29 : decode cX1_compare 29 = .ok (.aload_n 0, 1) := by decide +kernel
theorem dX1_compare_30 : decode cX1_compare 30 = .ok (.getfield 9, 3) := by decide +kernel
theorem dX1_compare_33 : decode cX1_compare 33 = .ok (.iload_n 2, 1) := by decide +kernel
theorem dX1_compare_34 : decode cX1_compare 34 = .ok (.iaload, 1) := by decide +kernel
theorem dX1_compare_35 : decode cX1_compare 35 = .ok (.aload_n 0, 1) := by decide +kernel
theorem dX1_compare_36 : decode cX1_compare 36 = .ok (.getfield 9, 3) := by decide +kernel
theorem dX1_compare_39 : decode cX1_compare 39 = .ok (.iload_n 1, 1) := by decide +kernel
theorem dX1_compare_40 : decode cX1_compare 40 = .ok (.iaload, 1) := by decide +kernel
theorem dX1_compare_41 : decode cX1_compare 41 = .ok (.invokevirtual 45, 3) := by decide +kernel
theorem dX1_compare_44 : decode cX1_compare 44 = .ok (.iinc 2 1, 3) := by decide +kernel
theorem dX1_compare_47 : decode cX1_compare 47 = .ok (.goto (-24), 3) := by decide +kernel
theorem dX1_compare_50 : decode cX1_compare 50 = .ok (.iinc 1 1, 3) := by decide +kernel
theorem dX1_compare_53 : decode cX1_compare 53 = .ok (.goto (-40), 3) := by decide +kernel
theorem dX1_compare_56 : decode cX1_compare 56 = .ok (.aload_n 0, 1) := by decide +kernel
theorem dX1_compare_57 : decode cX1_compare 57 = .ok (.iconst 1, 1) := by decide +kernel
theorem dX1_compare_58 : decode cX1_compare 58 = .ok (.putfield 36, 3) := by decide +kernel
theorem dX1_compare_61 : decode cX1_compare 61 = .ok (.return_, 1) := by decide +kernel
set_option maxRecDepth 20000 in
theorem ggX1_compareTwo_J6_bitCount_0f7a4 : GoodIn wsX1_compareTwo wsJ6_bitCount_0f7a4 := goodIn_r _ [6, 7, 8, 9] (by decide +kernel) (by decide +kernel)
set_option maxRecDepth 20000 in
theorem gX1_compareTwo_J6_bitCount_0f7a4 : GoodIn wsX1_compareTwo (va_wsS RX1 49 yJ6_bitCount_0f7a4 wsJ6_bitCount_0f7a4) := goodIn_app (goodIn_of _ (by decide +kernel)) ggX1_compareTwo_J6_bitCount_0f7a4
theorem dX1_compareTwo_0 : decode cX1_compareTwo 0 = .ok (.iload_n 1, 1) := by decide +kernel
theorem dX1_compareTwo_1 : decode cX1_compareTwo 1 = .ok (.iload_n 2, 1) := by decide +kernel
theorem dX1_compareTwo_2 : decode cX1_compareTwo 2 = .ok (.iand, 1) := by decide +kernel
theorem dX1_compareTwo_3 : decode cX1_compareTwo 3 = .ok (.iload_n 1, 1) := by decide +kernel
theorem dX1_compareTwo_4 : decode cX1_compareTwo 4 = .ok (.if_icmp .ne 13, 3) := by decide +kernel
theorem dX1_compareTwo_7 : decode cX1_compareTwo 7 = .ok (.aload_n 0, 1) := by decide +kernel
theorem dX1_compareTwo_8 : decode cX1_compareTwo 8 = .ok (.dup, 1) := by decide +kernel
theorem dX1_compareTwo_9 : decode cX1_compareTwo 9 = .ok (.getfield 39, 3) := by decide +kernel
theorem dX1_compareTwo_12 : decode cX1_compareTwo 12 = .ok (.iconst 2, 1) := by decide +kernel
theorem dX1_compareTwo_13 : decode cX1_compareTwo 13 = .ok (.iadd, 1) := by decide +kernel
theorem dX1_compareTwo_14 : decode cX1_compareTwo 14 = .ok (.putfield 39, 3) := by decide +kernel
theorem dX1_compareTwo_17 : decode cX1_compareTwo 17 = .ok (.iload_n 1, 1) := by decide +kernel
theorem dX1_compareTwo_18 : decode cX1_compareTwo 18 = .ok (.iload_n 2, 1) := by decide +kernel
theorem dX1_compareTwo_19 : decode cX1_compareTwo 19 = .ok (.ixor, 1) := by decide +kernel
theorem dX1_compareTwo_20 : decode cX1_compareTwo 20 = .ok (.invokestatic 49, 3) := by decide +kernel
theorem dX1_compareTwo_23 : decode cX1_compareTwo 23 = .ok (.istore_n 3, 1) := by decide +kernel
theorem dX1_compareTwo_24 : decode cX1_compareTwo 24 = .ok (.aload_n 0, 1) := by decide +kernel
theorem dX1_compareTwo_25 : decode cX1_compareTwo 25 = .ok (.getfield 42, 3) := by decide +kernel
theorem dX1_compareTwo_28 : decode cX1_compareTwo 28 = .ok (.bipush (-4), 2) := by decide +kernel
theorem dX1_compareTwo_30 : decode cX1_compareTwo 30 = .ok (.if_icmp .eq 11, 3) := by decide +kernel
theorem dX1_compareTwo_33 : decode cX1_compareTwo 33 = .ok (.iload_n 3, 1) := by decide +kernel
theorem dX1_compareTwo_34 : decode cX1_compareTwo 34 = .ok (.aload_n 0, 1) := by decide +kernel
theorem dX1_compareTwo_35 : decode cX1_compareTwo 35 = .ok (.getfield 42, 3) := by decide +kernel
theorem dX1_compareTwo_38 : decode cX1_compareTwo 38 = .ok (.if_icmp .ge 8, 3) := by decide +kernel
theorem dX1_compareTwo_41 : decode cX1_compareTwo 41 = .ok (.aload_n 0, 1) := by decide +kernel
theorem dX1_compareTwo_42 : decode cX1_compareTwo 42 = .ok (.iload_n 3, 1) := by decide +kernel
theorem dX1_compareTwo_43 : decode cX1_compareTwo 43 = .ok (.putfield 42, 3) := by decide +kernel
theorem dX1_compareTwo_46 : decode cX1_compareTwo 46 = .ok (.return_, 1) := by decide +kernel
set_option maxRecDepth 20000 in
theorem ggX1_howManyHave_X6_bit : GoodIn wsX1_howManyHave wsX6_bit := goodIn_r _ [5] (by decide +kernel) (by decide +kernel)
set_option maxRecDepth 20000 in
theorem gX1_howManyHave_X6_bit_n55 : GoodIn wsX1_howManyHave (wsX6_bit) := ggX1_howManyHave_X6_bit
theorem dX1_howManyHave_0 : decode cX1_howManyHave 0 = .ok (.iconst 0, 1) := by decide +kernel
theorem dX1_howManyHave_1 : decode cX1_howManyHave 1 = .ok (.istore_n 3, 1) := by decide +kernel
theorem dX1_howManyHave_2 : decode cX1_howManyHave 2 = .ok (.iconst 0, 1) := by decide +kernel
theorem dX1_howManyHave_3 : decode cX1_howManyHave 3 = .ok (.istore 4, 2) := by decide +kernel
theorem dX1_howManyHave_5 : decode cX1_howManyHave 5 = .ok (.iload 4, 2) := by decide +kernel
theorem dX1_howManyHave_7 : decode cX1_howManyHave 7 = .ok (.aload_n 0, 1) := by decide +kernel
theorem dX1_howManyHave_8 : decode cX1_howManyHave 8 = .ok (.getfield 18, 3) := by decide +kernel
theorem dX1_howManyHave_11 : decode cX1_howManyHave 11 = .ok (.if_icmp .ge 25, 3) := by decide +kernel
theorem dX1_howManyHave_14 : decode cX1_howManyHave 14 = .ok (.iload_n 3, 1) := by decide +kernel
theorem dX1_howManyHave_15 : decode cX1_howManyHave 15 = .ok (.aload_n 1, 1) := by decide +kernel
theorem dX1_howManyHave_16 : decode cX1_howManyHave 16 = .ok (.aload_n 0, 1) := by decide +kernel
theorem dX1_howManyHave_17 : decode cX1_howManyHave 17 = .ok (.getfield 9, 3) := by decide +kernel
theorem dX1_howManyHave_20 : decode cX1_howManyHave 20 = .ok (.iload 4, 2) := by decide +kernel
theorem dX1_howManyHave_22 : decode cX1_howManyHave 22 = .ok (.iaload, 1) := by decide +kernel
theorem dX1_howManyHave_23 : decode cX1_howManyHave 23 = .ok (.laload, 1) := by decide +kernel
theorem dX1_howManyHave_24 : decode cX1_howManyHave 24 = .ok (.iload_n 2, 1) := by decide +kernel
theorem dX1_howManyHave_25 : decode cX1_howManyHave 25 = .ok (.invokestatic 55, 3) := by decide +kernel
theorem dX1_howManyHave_28 : decode cX1_howManyHave 28 = .ok (.iadd, 1) := by decide +kernel
theorem dX1_howManyHave_29 : decode cX1_howManyHave 29 = .ok (.istore_n 3, 1) := by decide +kernel
theorem dX1_howManyHave_30 : decode cX1_howManyHave 30 = .ok (.iinc 4 1, 3) := by decide +kernel
theorem dX1_howManyHave_33 : decode cX1_howManyHave 33 = .ok (.goto (-28), 3) := by decide +kernel
theorem dX1_howManyHave_36 : decode cX1_howManyHave 36 = .ok (.iload_n 3, 1) := by decide +kernel
theorem dX1_howManyHave_37 : decode cX1_howManyHave 37 = .ok (.ireturn, 1) := by decide +kernel
set_option maxRecDepth 20000 in
theorem ggX1_lowestThatHas_X6_bit : GoodIn wsX1_lowestThatHas wsX6_bit := goodIn_r _ [5] (by decide +kernel) (by decide +kernel)
set_option maxRecDepth 20000 in
theorem gX1_lowestThatHas_X6_bit_n55 : GoodIn wsX1_lowestThatHas (wsX6_bit) := ggX1_lowestThatHas_X6_bit
theorem dX1_lowestThatHas_0 : decode cX1_lowestThatHas 0 = .ok (.iconst 0, 1) := by decide +kernel
theorem dX1_lowestThatHas_1 : decode cX1_lowestThatHas 1 = .ok (.istore_n 3, 1) := by decide +kernel
theorem dX1_lowestThatHas_2 : decode cX1_lowestThatHas 2 = .ok (.iload_n 3, 1) := by decide +kernel
theorem dX1_lowestThatHas_3 : decode cX1_lowestThatHas 3 = .ok (.aload_n 0, 1) := by decide +kernel
theorem dX1_lowestThatHas_4 : decode cX1_lowestThatHas 4 = .ok (.getfield 18, 3) := by decide +kernel
theorem dX1_lowestThatHas_7 : decode cX1_lowestThatHas 7 = .ok (.if_icmp .ge 32, 3) := by decide +kernel
theorem dX1_lowestThatHas_10 : decode cX1_lowestThatHas 10 = .ok (.aload_n 1, 1) := by decide +kernel
theorem dX1_lowestThatHas_11 : decode cX1_lowestThatHas 11 = .ok (.aload_n 0, 1) := by decide +kernel
theorem dX1_lowestThatHas_12 : decode cX1_lowestThatHas 12 = .ok (.getfield 9, 3) := by decide +kernel
theorem dX1_lowestThatHas_15 : decode cX1_lowestThatHas 15 = .ok (.iload_n 3, 1) := by decide +kernel
theorem dX1_lowestThatHas_16 : decode cX1_lowestThatHas 16 = .ok (.iaload, 1) := by decide +kernel
theorem dX1_lowestThatHas_17 : decode cX1_lowestThatHas 17 = .ok (.laload, 1) := by decide +kernel
theorem dX1_lowestThatHas_18 : decode cX1_lowestThatHas 18 = .ok (.iload_n 2, 1) := by decide +kernel
theorem dX1_lowestThatHas_19 : decode cX1_lowestThatHas 19 = .ok (.invokestatic 55, 3) := by decide +kernel
theorem dX1_lowestThatHas_22 : decode cX1_lowestThatHas 22 = .ok (.iconst 1, 1) := by decide +kernel
theorem dX1_lowestThatHas_23 : decode cX1_lowestThatHas 23 = .ok (.if_icmp .ne 10, 3) := by decide +kernel
theorem dX1_lowestThatHas_26 : decode cX1_lowestThatHas 26 = .ok (.aload_n 0, 1) := by decide +kernel
theorem dX1_lowestThatHas_27 : decode cX1_lowestThatHas 27 = .ok (.getfield 9, 3) := by decide +kernel
theorem dX1_lowestThatHas_30 : decode cX1_lowestThatHas 30 = .ok (.iload_n 3, 1) := by decide +kernel
theorem dX1_lowestThatHas_31 : decode cX1_lowestThatHas 31 = .ok (.iaload, 1) := by decide +kernel
theorem dX1_lowestThatHas_32 : decode cX1_lowestThatHas 32 = .ok (.ireturn, 1) := by decide +kernel
theorem dX1_lowestThatHas_33 : decode cX1_lowestThatHas 33 = .ok (.iinc 3 1, 3) := by decide +kernel
theorem dX1_lowestThatHas_36 : decode cX1_lowestThatHas 36 = .ok (.goto (-34), 3) := by decide +kernel
theorem dX1_lowestThatHas_39 : decode cX1_lowestThatHas 39 = .ok (.bipush (-4), 2) := by decide +kernel
theorem dX1_lowestThatHas_41 : decode cX1_lowestThatHas 41 = .ok (.ireturn, 1) := by decide +kernel
set_option maxRecDepth 20000 in
theorem ggX2_init_X0_init : GoodIn wsX2_init wsX0_init := goodIn_r _ [9, 10, 2, 3, 11, 12, 13, 14, 17, 18, 19, 20, 21, 22, 23, 24, 25] (by decide +kernel) (by decide +kernel)
set_option maxRecDepth 20000 in
theorem gX2_init_X0_init_n17 : GoodIn wsX2_init (wsX0_init) := ggX2_init_X0_init
theorem dX2_init_0 : decode cX2_init 0 = .ok (.aload_n 0, 1) := by decide +kernel
theorem dX2_init_1 : decode cX2_init 1 = .ok (.invokespecial 3, 3) := by decide +kernel
theorem dX2_init_4 : decode cX2_init 4 = .ok (.aload_n 0, 1) := by decide +kernel
theorem dX2_init_5 : decode cX2_init 5 = .ok (.bipush 6, 2) := by decide +kernel
theorem dX2_init_7 : decode cX2_init 7 = .ok (.anewarray 9, 3) := by decide +kernel
theorem dX2_init_10 : decode cX2_init 10 = .ok (.putfield 11, 3) := by decide +kernel
theorem dX2_init_13 : decode cX2_init 13 = .ok (.iconst 0, 1) := by decide +kernel
theorem dX2_init_14 : decode cX2_init 14 = .ok (.istore_n 1, 1) := by decide +kernel
theorem dX2_init_15 : decode cX2_init 15 = .ok (.iload_n 1, 1) := by decide +kernel
theorem dX2_init_16 : decode cX2_init 16 = .ok (.bipush 6, 2) := by decide +kernel
theorem dX2_init_18 : decode cX2_init 18 = .ok (.if_icmp .ge 22, 3) := by decide +kernel
theorem dX2_init_21 : decode cX2_init 21 = .ok (.aload_n 0, 1) := by decide +kernel
theorem dX2_init_22 : decode cX2_init 22 = .ok (.getfield 11, 3) := by decide +kernel
theorem dX2_init_25 : decode cX2_init 25 = .ok (.iload_n 1, 1) := by decide +kernel
theorem dX2_init_26 : decode cX2_init 26 = .ok (.new 9, 3) := by decide +kernel
theorem dX2_init_29 : decode cX2_init 29 = .ok (.dup, 1) := by decide +kernel
theorem dX2_init_30 : decode cX2_init 30 = .ok (.invokespecial 17, 3) := by decide +kernel
theorem dX2_init_33 : decode cX2_init 33 = .ok (.aastore, 1) := by decide +kernel
theorem dX2_init_34 : decode cX2_init 34 = .ok (.iinc 1 1, 3) := by decide +kernel
theorem dX2_init_37 : decode cX2_init 37 = .ok (.goto (-22), 3) := by decide +kernel
theorem dX2_init_40 : decode cX2_init 40 = .ok (.return_, 1) := by decide +kernel
set_option maxRecDepth 20000 in
theorem ggX2_keep_X2_dropOldest : GoodIn wsX2_keep wsX2_dropOldest := goodIn_r _ [7, 2, 1, 34, 35] (by decide +kernel) (by decide +kernel)
set_option maxRecDepth 20000 in
theorem gX2_keep_X2_dropOldest : GoodIn wsX2_keep (wsV RX2 22 RX2 yX2_dropOldest wsX2_dropOldest) := goodIn_app (goodIn_of _ (by decide +kernel)) ggX2_keep_X2_dropOldest
set_option maxRecDepth 20000 in
theorem ggX2_keep_X0_copyFrom : GoodIn wsX2_keep wsX0_copyFrom := goodIn_r _ [12, 13, 14, 15, 16, 17, 18, 19, 20, 21, 22, 23, 24, 25, 26, 27, 28, 11, 29, 30, 31, 32, 33, 36, 37, 38, 39, 40, 41, 42, 43, 44] (by decide +kernel) (by decide +kernel)
set_option maxRecDepth 20000 in
theorem gX2_keep_X0_copyFrom : GoodIn wsX2_keep (wsV RX2 25 RX0 yX0_copyFrom wsX0_copyFrom) := goodIn_app (goodIn_of _ (by decide +kernel)) ggX2_keep_X0_copyFrom
theorem dX2_keep_0 : decode cX2_keep 0 = .ok (.aload_n 0, 1) := by decide +kernel
theorem dX2_keep_1 : decode cX2_keep 1 = .ok (.getfield 18, 3) := by decide +kernel
theorem dX2_keep_4 : decode cX2_keep 4 = .ok (.bipush 6, 2) := by decide +kernel
theorem dX2_keep_6 : decode cX2_keep 6 = .ok (.if_icmp .lt 7, 3) := by decide +kernel
theorem dX2_keep_9 : decode cX2_keep 9 = .ok (.aload_n 0, 1) := by decide +kernel
theorem dX2_keep_10 : decode cX2_keep 10 = .ok (.invokevirtual 22, 3) := by decide +kernel
theorem dX2_keep_13 : decode cX2_keep 13 = .ok (.aload_n 0, 1) := by decide +kernel
theorem dX2_keep_14 : decode cX2_keep 14 = .ok (.getfield 11, 3) := by decide +kernel
theorem dX2_keep_17 : decode cX2_keep 17 = .ok (.aload_n 0, 1) := by decide +kernel
theorem dX2_keep_18 : decode cX2_keep 18 = .ok (.getfield 18, 3) := by decide +kernel
theorem dX2_keep_21 : decode cX2_keep 21 = .ok (.aaload, 1) := by decide +kernel
theorem dX2_keep_22 : decode cX2_keep 22 = .ok (.aload_n 1, 1) := by decide +kernel
theorem dX2_keep_23 : decode cX2_keep 23 = .ok (.invokevirtual 25, 3) := by decide +kernel
theorem dX2_keep_26 : decode cX2_keep 26 = .ok (.aload_n 0, 1) := by decide +kernel
theorem dX2_keep_27 : decode cX2_keep 27 = .ok (.dup, 1) := by decide +kernel
theorem dX2_keep_28 : decode cX2_keep 28 = .ok (.getfield 18, 3) := by decide +kernel
theorem dX2_keep_31 : decode cX2_keep 31 = .ok (.iconst 1, 1) := by decide +kernel
theorem dX2_keep_32 : decode cX2_keep 32 = .ok (.iadd, 1) := by decide +kernel
theorem dX2_keep_33 : decode cX2_keep 33 = .ok (.putfield 18, 3) := by decide +kernel
theorem dX2_keep_36 : decode cX2_keep 36 = .ok (.return_, 1) := by decide +kernel
set_option maxRecDepth 20000 in
theorem ggX2_bringBack_X0_copyFrom : GoodIn wsX2_bringBack wsX0_copyFrom := goodIn_r _ [7, 8, 9, 10, 11, 12, 13, 14, 15, 16, 17, 18, 19, 20, 21, 22, 23, 6, 24, 25, 26, 27, 28, 31, 32, 33, 34, 35, 36, 37, 38, 39] (by decide +kernel) (by decide +kernel)
set_option maxRecDepth 20000 in
theorem gX2_bringBack_X0_copyFrom : GoodIn wsX2_bringBack (wsV RX2 25 RX0 yX0_copyFrom wsX0_copyFrom) := goodIn_app (goodIn_of _ (by decide +kernel)) ggX2_bringBack_X0_copyFrom
theorem dX2_bringBack_0 : decode cX2_bringBack 0 = .ok (.aload_n 0, 1) := by decide +kernel
theorem dX2_bringBack_1 : decode cX2_bringBack 1 = .ok (.dup, 1) := by decide +kernel
theorem dX2_bringBack_2 : decode cX2_bringBack 2 = .ok (.getfield 18, 3) := by decide +kernel
theorem dX2_bringBack_5 : decode cX2_bringBack 5 = .ok (.iconst 1, 1) := by decide +kernel
theorem dX2_bringBack_6 : decode cX2_bringBack 6 = .ok (.isub, 1) := by decide +kernel
theorem dX2_bringBack_7 : decode cX2_bringBack 7 = .ok (.putfield 18, 3) := by decide +kernel
theorem dX2_bringBack_10 : decode cX2_bringBack 10 = .ok (.aload_n 1, 1) := by decide +kernel
theorem dX2_bringBack_11 : decode cX2_bringBack 11 = .ok (.aload_n 0, 1) := by decide +kernel
theorem dX2_bringBack_12 : decode cX2_bringBack 12 = .ok (.getfield 11, 3) := by decide +kernel
theorem dX2_bringBack_15 : decode cX2_bringBack 15 = .ok (.aload_n 0, 1) := by decide +kernel
theorem dX2_bringBack_16 : decode cX2_bringBack 16 = .ok (.getfield 18, 3) := by decide +kernel
theorem dX2_bringBack_19 : decode cX2_bringBack 19 = .ok (.aaload, 1) := by decide +kernel
theorem dX2_bringBack_20 : decode cX2_bringBack 20 = .ok (.invokevirtual 25, 3) := by decide +kernel
theorem dX2_bringBack_23 : decode cX2_bringBack 23 = .ok (.return_, 1) := by decide +kernel
theorem dX2_dropOldest_0 : decode cX2_dropOldest 0 = .ok (.aload_n 0, 1) := by decide +kernel
theorem dX2_dropOldest_1 : decode cX2_dropOldest 1 = .ok (.getfield 11, 3) := by decide +kernel
theorem dX2_dropOldest_4 : decode cX2_dropOldest 4 = .ok (.iconst 0, 1) := by decide +kernel
theorem dX2_dropOldest_5 : decode cX2_dropOldest 5 = .ok (.aaload, 1) := by decide +kernel
theorem dX2_dropOldest_6 : decode cX2_dropOldest 6 = .ok (.astore_n 1, 1) := by decide +kernel
theorem dX2_dropOldest_7 : decode cX2_dropOldest 7 = .ok (.iconst 1, 1) := by decide +kernel
theorem dX2_dropOldest_8 : decode cX2_dropOldest 8 = .ok (.istore_n 2, 1) := by decide +kernel
theorem dX2_dropOldest_9 : decode cX2_dropOldest 9 = .ok (.iload_n 2, 1) := by decide +kernel
theorem dX2_dropOldest_10 : decode cX2_dropOldest 10 = .ok (.bipush 6, 2) := by decide +kernel
theorem dX2_dropOldest_12 : decode cX2_dropOldest 12 = .ok (.if_icmp .ge 23, 3) := by decide +kernel
theorem dX2_dropOldest_15 : decode cX2_dropOldest 15 = .ok (.aload_n 0, 1) := by decide +kernel
theorem dX2_dropOldest_16 : decode cX2_dropOldest 16 = .ok (.getfield 11, 3) := by decide +kernel
theorem dX2_dropOldest_19 : decode cX2_dropOldest 19 = .ok (.iload_n 2, 1) := by decide +kernel
theorem dX2_dropOldest_20 : decode cX2_dropOldest 20 = .ok (.iconst 1, 1) := by decide +kernel
theorem dX2_dropOldest_21 : decode cX2_dropOldest 21 = .ok (.isub, 1) := by decide +kernel
theorem dX2_dropOldest_22 : decode cX2_dropOldest 22 = .ok (.aload_n 0, 1) := by decide +kernel
theorem dX2_dropOldest_23 : decode cX2_dropOldest 23 = .ok (.getfield 11, 3) := by decide +kernel
theorem dX2_dropOldest_26 : decode cX2_dropOldest 26 = .ok (.iload_n 2, 1) := by decide +kernel
theorem dX2_dropOldest_27 : decode cX2_dropOldest 27 = .ok (.aaload, 1) := by decide +kernel
theorem dX2_dropOldest_28 : decode cX2_dropOldest 28 = .ok (.aastore, 1) := by decide +kernel
theorem dX2_dropOldest_29 : decode cX2_dropOldest 29 = .ok (.iinc 2 1, 3) := by decide +kernel
theorem dX2_dropOldest_32 : decode cX2_dropOldest 32 = .ok (.goto (-23), 3) := by decide +kernel
theorem dX2_dropOldest_35 : decode cX2_dropOldest 35 = .ok (.aload_n 0, 1) := by decide +kernel
theorem dX2_dropOldest_36 : decode cX2_dropOldest 36 = .ok (.getfield 11, 3) := by decide +kernel
theorem dX2_dropOldest_39 : decode cX2_dropOldest 39 = .ok (.iconst 5, 1) := by decide +kernel
theorem dX2_dropOldest_40 : decode cX2_dropOldest 40 = .ok (.aload_n 1, 1) := by decide +kernel
theorem dX2_dropOldest_41 : decode cX2_dropOldest 41 = .ok (.aastore, 1) := by decide +kernel
theorem dX2_dropOldest_42 : decode cX2_dropOldest 42 = .ok (.aload_n 0, 1) := by decide +kernel
theorem dX2_dropOldest_43 : decode cX2_dropOldest 43 = .ok (.iconst 5, 1) := by decide +kernel
theorem dX2_dropOldest_44 : decode cX2_dropOldest 44 = .ok (.putfield 18, 3) := by decide +kernel
theorem dX2_dropOldest_47 : decode cX2_dropOldest 47 = .ok (.return_, 1) := by decide +kernel
theorem dX3_init_0 : decode cX3_init 0 = .ok (.aload_n 0, 1) := by decide +kernel
theorem dX3_init_1 : decode cX3_init 1 = .ok (.invokespecial 3, 3) := by decide +kernel
theorem dX3_init_4 : decode cX3_init 4 = .ok (.aload_n 0, 1) := by decide +kernel
theorem dX3_init_5 : decode cX3_init 5 = .ok (.bipush 32, 2) := by decide +kernel
theorem dX3_init_7 : decode cX3_init 7 = .ok (.newarray .long, 2) := by decide +kernel
theorem dX3_init_9 : decode cX3_init 9 = .ok (.putfield 9, 3) := by decide +kernel
theorem dX3_init_12 : decode cX3_init 12 = .ok (.return_, 1) := by decide +kernel
set_option maxRecDepth 20000 in
theorem ggX3_settle_X0_wires : GoodIn wsX3_settle wsX0_wires := goodIn_r _ [7, 8, 9, 26, 27, 28, 29, 30, 31, 32, 33, 34] (by decide +kernel) (by decide +kernel)
set_option maxRecDepth 20000 in
theorem gX3_settle_X0_wires : GoodIn wsX3_settle (wsV RX3 15 RX0 yX0_wires wsX0_wires) := goodIn_app (goodIn_of _ (by decide +kernel)) ggX3_settle_X0_wires
set_option maxRecDepth 20000 in
theorem ggX3_settle_X3_inAllLanes : GoodIn wsX3_settle wsX3_inAllLanes := goodIn_r _ [13] (by decide +kernel) (by decide +kernel)
set_option maxRecDepth 20000 in
theorem gX3_settle_X3_inAllLanes : GoodIn wsX3_settle (va_wsS RX3 25 yX3_inAllLanes wsX3_inAllLanes) := goodIn_app (goodIn_of _ (by decide +kernel)) ggX3_settle_X3_inAllLanes
set_option maxRecDepth 20000 in
theorem ggX3_settle_X3_gateValue : GoodIn wsX3_settle wsX3_gateValue := goodIn_r _ [17, 2, 18, 19, 20, 21, 35, 26, 27, 28, 29, 30, 31, 32, 33, 34] (by decide +kernel) (by decide +kernel)
set_option maxRecDepth 20000 in
theorem gX3_settle_X3_gateValue : GoodIn wsX3_settle (wsV RX3 29 RX3 yX3_gateValue wsX3_gateValue) := goodIn_app (goodIn_of _ (by decide +kernel)) ggX3_settle_X3_gateValue
set_option maxRecDepth 20000 in
theorem ggX3_settle_X3_withOwnStucks : GoodIn wsX3_settle wsX3_withOwnStucks := goodIn_r _ [24, 25, 21] (by decide +kernel) (by decide +kernel)
set_option maxRecDepth 20000 in
theorem gX3_settle_X3_withOwnStucks : GoodIn wsX3_settle (va_wsS RX3 33 yX3_withOwnStucks wsX3_withOwnStucks) := goodIn_app (goodIn_of _ (by decide +kernel)) ggX3_settle_X3_withOwnStucks
theorem dX3_settle_0 : decode cX3_settle 0 = .ok (.iconst 0, 1) := by decide +kernel
theorem dX3_settle_1 : decode cX3_settle 1 = .ok (.istore 4, 2) := by decide +kernel
theorem dX3_settle_3 : decode cX3_settle 3 = .ok (.iload 4, 2) := by decide +kernel
theorem dX3_settle_5 : decode cX3_settle 5 = .ok (.aload_n 1, 1) := by decide +kernel
theorem dX3_settle_6 : decode cX3_settle 6 = .ok (.invokevirtual 15, 3) := by decide +kernel
theorem dX3_settle_9 : decode cX3_settle 9 = .ok (.if_icmp .ge 75, 3) := by decide +kernel
theorem dX3_settle_12 : decode cX3_settle 12 = .ok (.iload 4, 2) := by decide +kernel
theorem dX3_settle_14 : decode cX3_settle 14 = .ok (.aload_n 1, 1) := by decide +kernel
theorem dX3_settle_15 : decode cX3_settle 15 = .ok (.getfield 21, 3) := by decide +kernel
theorem dX3_settle_18 : decode cX3_settle 18 = .ok (.if_icmp .ge 15, 3) := by decide +kernel
theorem dX3_settle_21 : decode cX3_settle 21 = .ok (.iload_n 2, 1) := by decide +kernel
theorem dX3_settle_22 : decode cX3_settle 22 = .ok (.iload 4, 2) := by decide +kernel
theorem dX3_settle_24 : decode cX3_settle 24 = .ok (.ishr, 1) := by decide +kernel
theorem dX3_settle_25 : decode cX3_settle 25 = .ok (.iconst 1, 1) := by decide +kernel
theorem dX3_settle_26 : decode cX3_settle 26 = .ok (.iand, 1) := by decide +kernel
theorem dX3_settle_27 : decode cX3_settle 27 = .ok (.invokestatic 25, 3) := by decide +kernel
theorem dX3_settle_30 : decode cX3_settle 30 = .ok (.goto 15, 3) := by decide +kernel
theorem dX3_settle_33 : decode cX3_settle 33 = .ok (.aload_n 0, 1) := by decide +kernel
theorem dX3_settle_34 : decode cX3_settle 34 = .ok (.aload_n 1, 1) := by decide +kernel
theorem dX3_settle_35 : decode cX3_settle 35 = .ok (.iload 4, 2) := by decide +kernel
theorem dX3_settle_37 : decode cX3_settle 37 = .ok (.aload_n 1, 1) := by decide +kernel
theorem dX3_settle_38 : decode cX3_settle 38 = .ok (.getfield 21, 3) := by decide +kernel
theorem dX3_settle_41 : decode cX3_settle 41 = .ok (.isub, 1) := by decide +kernel
theorem dX3_settle_42 : decode cX3_settle 42 = .ok (.invokevirtual 29, 3) := by decide +kernel
theorem dX3_settle_45 : decode cX3_settle 45 = .ok (.lstore 5, 2) := by decide +kernel
theorem dX3_settle_47 : decode cX3_settle 47 = .ok (.aload_n 0, 1) := by decide +kernel
theorem dX3_settle_48 : decode cX3_settle 48 = .ok (.getfield 9, 3) := by decide +kernel
theorem dX3_settle_51 : decode cX3_settle 51 = .ok (.iload 4, 2) := by decide +kernel
theorem dX3_settle_53 : decode cX3_settle 53 = .ok (.iload_n 3, 1) := by decide +kernel
theorem dX3_settle_54 : decode cX3_settle 54 = .ok (.iconst 1, 1) := by decide +kernel
theorem dX3_settle_55 : decode cX3_settle 55 = .ok (.ishr, 1) := by decide +kernel
theorem dX3_settle_56 : decode cX3_settle 56 = .ok (.iload 4, 2) := by decide +kernel
theorem dX3_settle_58 : decode cX3_settle 58 = .ok (.if_icmp .ne 12, 3) := by decide +kernel
theorem dX3_settle_61 : decode cX3_settle 61 = .ok (.iload_n 3, 1) := by decide +kernel
theorem dX3_settle_62 : decode cX3_settle 62 = .ok (.iconst 1, 1) := by decide +kernel
theorem dX3_settle_63 : decode cX3_settle 63 = .ok (.iand, 1) := by decide +kernel
theorem dX3_settle_64 : decode cX3_settle 64 = .ok (.invokestatic 25, 3) := by decide +kernel
theorem dX3_settle_67 : decode cX3_settle 67 = .ok (.goto 10, 3) := by decide +kernel
theorem dX3_settle_70 : decode cX3_settle 70 = .ok (.lload 5, 2) := by decide +kernel
theorem dX3_settle_72 : decode cX3_settle 72 = .ok (.iload 4, 2) := by decide +kernel
theorem dX3_settle_74 : decode cX3_settle 74 = .ok (.invokestatic 33, 3) := by decide +kernel
theorem dX3_settle_77 : decode cX3_settle 77 = .ok (.lastore, 1) := by decide +kernel
theorem dX3_settle_78 : decode cX3_settle 78 = .ok (.iinc 4 1, 3) := by decide +kernel
theorem dX3_settle_81 : decode cX3_settle 81 = .ok (.goto (-78), 3) := by decide +kernel
theorem dX3_settle_84 : decode cX3_settle 84 = .ok (.return_, 1) := by decide +kernel
theorem dX3_withOwnStucks_0 : decode cX3_withOwnStucks 0 = .ok (.lconst 1, 1) := by decide +kernel
theorem dX3_withOwnStucks_1 : decode cX3_withOwnStucks 1 = .ok (.iconst 2, 1) := by decide +kernel
theorem dX3_withOwnStucks_2 : decode cX3_withOwnStucks 2 = .ok (.iload_n 2, 1) := by decide +kernel
theorem dX3_withOwnStucks_3 : decode cX3_withOwnStucks 3 = .ok (.imul, 1) := by decide +kernel
theorem dX3_withOwnStucks_4 : decode cX3_withOwnStucks 4 = .ok (.lshl, 1) := by decide +kernel
theorem dX3_withOwnStucks_5 : decode cX3_withOwnStucks 5 = .ok (.lstore_n 3, 1) := by decide +kernel
theorem dX3_withOwnStucks_6 : decode cX3_withOwnStucks 6 = .ok (.ldc2_w 37, 3) := by decide +kernel
theorem dX3_withOwnStucks_9 : decode cX3_withOwnStucks 9 = .ok (.iconst 2, 1) := by decide +kernel
theorem dX3_withOwnStucks_10 : decode cX3_withOwnStucks 10 = .ok (.iload_n 2, 1) := by decide +kernel
theorem dX3_withOwnStucks_11 : decode cX3_withOwnStucks 11 = .ok (.imul, 1) := by decide +kernel
theorem dX3_withOwnStucks_12 : decode cX3_withOwnStucks 12 = .ok (.lshl, 1) := by decide +kernel
theorem dX3_withOwnStucks_13 : decode cX3_withOwnStucks 13 = .ok (.lstore 5, 2) := by decide +kernel
theorem dX3_withOwnStucks_15 : decode cX3_withOwnStucks 15 = .ok (.lload_n 0, 1) := by decide +kernel
theorem dX3_withOwnStucks_16 : decode cX3_withOwnStucks 16 = .ok (.lload_n 3, 1) := by decide +kernel
theorem dX3_withOwnStucks_17 : decode cX3_withOwnStucks 17 = .ok (.ldc2_w 39, 3) := by decide +kernel
theorem dX3_withOwnStucks_20 : decode cX3_withOwnStucks 20 = .ok (.lxor, 1) := by decide +kernel
theorem dX3_withOwnStucks_21 : decode cX3_withOwnStucks 21 = .ok (.land, 1) := by decide +kernel
theorem dX3_withOwnStucks_22 : decode cX3_withOwnStucks 22 = .ok (.lload 5, 2) := by decide +kernel
theorem dX3_withOwnStucks_24 : decode cX3_withOwnStucks 24 = .ok (.lor, 1) := by decide +kernel
theorem dX3_withOwnStucks_25 : decode cX3_withOwnStucks 25 = .ok (.lreturn, 1) := by decide +kernel
theorem dX3_gateValue_0 : decode cX3_gateValue 0 = .ok (.aload_n 0, 1) := by decide +kernel
theorem dX3_gateValue_1 : decode cX3_gateValue 1 = .ok (.getfield 9, 3) := by decide +kernel
theorem dX3_gateValue_4 : decode cX3_gateValue 4 = .ok (.aload_n 1, 1) := by decide +kernel
theorem dX3_gateValue_5 : decode cX3_gateValue 5 = .ok (.getfield 41, 3) := by decide +kernel
theorem dX3_gateValue_8 : decode cX3_gateValue 8 = .ok (.iload_n 2, 1) := by decide +kernel
theorem dX3_gateValue_9 : decode cX3_gateValue 9 = .ok (.iaload, 1) := by decide +kernel
theorem dX3_gateValue_10 : decode cX3_gateValue 10 = .ok (.laload, 1) := by decide +kernel
theorem dX3_gateValue_11 : decode cX3_gateValue 11 = .ok (.lstore_n 3, 1) := by decide +kernel
theorem dX3_gateValue_12 : decode cX3_gateValue 12 = .ok (.aload_n 0, 1) := by decide +kernel
theorem dX3_gateValue_13 : decode cX3_gateValue 13 = .ok (.getfield 9, 3) := by decide +kernel
theorem dX3_gateValue_16 : decode cX3_gateValue 16 = .ok (.aload_n 1, 1) := by decide +kernel
theorem dX3_gateValue_17 : decode cX3_gateValue 17 = .ok (.getfield 45, 3) := by decide +kernel
theorem dX3_gateValue_20 : decode cX3_gateValue 20 = .ok (.iload_n 2, 1) := by decide +kernel
theorem dX3_gateValue_21 : decode cX3_gateValue 21 = .ok (.iaload, 1) := by decide +kernel
theorem dX3_gateValue_22 : decode cX3_gateValue 22 = .ok (.laload, 1) := by decide +kernel
theorem dX3_gateValue_23 : decode cX3_gateValue 23 = .ok (.lstore 5, 2) := by decide +kernel
theorem dX3_gateValue_25 : decode cX3_gateValue 25 = .ok (.aload_n 1, 1) := by decide +kernel
theorem dX3_gateValue_26 : decode cX3_gateValue 26 = .ok (.getfield 48, 3) := by decide +kernel
theorem dX3_gateValue_29 : decode cX3_gateValue 29 = .ok (.iload_n 2, 1) := by decide +kernel
theorem dX3_gateValue_30 : decode cX3_gateValue 30 = .ok (.iaload, 1) := by decide +kernel
theorem dX3_gateValue_31 : decode cX3_gateValue 31 = .ok (.tableswitch 66 0 4 #[33, 38, 43, 48, 57], 33) := by decide +kernel
theorem dX3_gateValue_64 : decode cX3_gateValue 64 = .ok (.lload_n 3, 1) := by decide +kernel
theorem dX3_gateValue_65 : decode cX3_gateValue 65 = .ok (.lload 5, 2) := by decide +kernel
theorem dX3_gateValue_67 : decode cX3_gateValue 67 = .ok (.land, 1) := by decide +kernel
theorem dX3_gateValue_68 : decode cX3_gateValue 68 = .ok (.lreturn, 1) := by decide +kernel
theorem dX3_gateValue_69 : decode cX3_gateValue 69 = .ok (.lload_n 3, 1) := by decide +kernel
theorem dX3_gateValue_70 : decode cX3_gateValue 70 = .ok (.lload 5, 2) := by decide +kernel
theorem dX3_gateValue_72 : decode cX3_gateValue 72 = .ok (.lor, 1) := by decide +kernel
theorem dX3_gateValue_73 : decode cX3_gateValue 73 = .ok (.lreturn, 1) := by decide +kernel
theorem dX3_gateValue_74 : decode cX3_gateValue 74 = .ok (.lload_n 3, 1) := by decide +kernel
theorem dX3_gateValue_75 : decode cX3_gateValue 75 = .ok (.lload 5, 2) := by decide +kernel
theorem dX3_gateValue_77 : decode cX3_gateValue 77 = .ok (.lxor, 1) := by decide +kernel
theorem dX3_gateValue_78 : decode cX3_gateValue 78 = .ok (.lreturn, 1) := by decide +kernel
theorem dX3_gateValue_79 : decode cX3_gateValue 79 = .ok (.lload_n 3, 1) := by decide +kernel
theorem dX3_gateValue_80 : decode cX3_gateValue 80 = .ok (.lload 5, 2) := by decide +kernel
theorem dX3_gateValue_82 : decode cX3_gateValue 82 = .ok (.land, 1) := by decide +kernel
theorem dX3_gateValue_83 : decode cX3_gateValue 83 = .ok (.ldc2_w 39, 3) := by decide +kernel
theorem dX3_gateValue_86 : decode cX3_gateValue 86 = .ok (.lxor, 1) := by decide +kernel
theorem dX3_gateValue_87 : decode cX3_gateValue 87 = .ok (.lreturn, 1) := by decide +kernel
theorem dX3_gateValue_88 : decode cX3_gateValue 88 = .ok (.lload_n 3, 1) := by decide +kernel
theorem dX3_gateValue_89 : decode cX3_gateValue 89 = .ok (.lload 5, 2) := by decide +kernel
theorem dX3_gateValue_91 : decode cX3_gateValue 91 = .ok (.lor, 1) := by decide +kernel
theorem dX3_gateValue_92 : decode cX3_gateValue 92 = .ok (.ldc2_w 39, 3) := by decide +kernel
theorem dX3_gateValue_95 : decode cX3_gateValue 95 = .ok (.lxor, 1) := by decide +kernel
theorem dX3_gateValue_96 : decode cX3_gateValue 96 = .ok (.lreturn, 1) := by decide +kernel
theorem dX3_gateValue_97 : decode cX3_gateValue 97 = .ok (.lload_n 3, 1) := by decide +kernel
theorem dX3_gateValue_98 : decode cX3_gateValue 98 = .ok (.lload 5, 2) := by decide +kernel
theorem dX3_gateValue_100 : decode cX3_gateValue 100 = .ok (.lxor, 1) := by decide +kernel
theorem dX3_gateValue_101 : decode cX3_gateValue 101 = .ok (.ldc2_w 39, 3) := by decide +kernel
theorem dX3_gateValue_104 : decode cX3_gateValue 104 = .ok (.lxor, 1) := by decide +kernel
theorem dX3_gateValue_105 : decode cX3_gateValue 105 = .ok (.lreturn, 1) := by decide +kernel
theorem dX3_laneWithout_0 : decode cX3_laneWithout 0 = .ok (.iload_n 0, 1) := by decide +kernel
theorem dX3_laneWithout_1 : decode cX3_laneWithout 1 = .ok (.iconst 1, 1) := by decide +kernel
theorem dX3_laneWithout_2 : decode cX3_laneWithout 2 = .ok (.iand, 1) := by decide +kernel
theorem dX3_laneWithout_3 : decode cX3_laneWithout 3 = .ok (.ireturn, 1) := by decide +kernel
theorem dX3_inAllLanes_0 : decode cX3_inAllLanes 0 = .ok (.iload_n 0, 1) := by decide +kernel
theorem dX3_inAllLanes_1 : decode cX3_inAllLanes 1 = .ok (.i2l, 1) := by decide +kernel
theorem dX3_inAllLanes_2 : decode cX3_inAllLanes 2 = .ok (.lneg, 1) := by decide +kernel
theorem dX3_inAllLanes_3 : decode cX3_inAllLanes 3 = .ok (.lreturn, 1) := by decide +kernel
set_option maxRecDepth 20000 in
theorem ggX3_valueAt_X6_bit : GoodIn wsX3_valueAt wsX6_bit := goodIn_r _ [4] (by decide +kernel) (by decide +kernel)
set_option maxRecDepth 20000 in
theorem gX3_valueAt_X6_bit_n51 : GoodIn wsX3_valueAt (wsX6_bit) := ggX3_valueAt_X6_bit
theorem dX3_valueAt_0 : decode cX3_valueAt 0 = .ok (.aload_n 0, 1) := by decide +kernel
theorem dX3_valueAt_1 : decode cX3_valueAt 1 = .ok (.getfield 9, 3) := by decide +kernel
theorem dX3_valueAt_4 : decode cX3_valueAt 4 = .ok (.iload_n 1, 1) := by decide +kernel
theorem dX3_valueAt_5 : decode cX3_valueAt 5 = .ok (.laload, 1) := by decide +kernel
theorem dX3_valueAt_6 : decode cX3_valueAt 6 = .ok (.iload_n 2, 1) := by decide +kernel
theorem dX3_valueAt_7 : decode cX3_valueAt 7 = .ok (.invokestatic 51, 3) := by decide +kernel
theorem dX3_valueAt_10 : decode cX3_valueAt 10 = .ok (.ireturn, 1) := by decide +kernel
set_option maxRecDepth 20000 in
theorem ggX3_outAt_X3_valueAt : GoodIn wsX3_outAt wsX3_valueAt := goodIn_r _ [7, 8, 9, 10, 11, 21] (by decide +kernel) (by decide +kernel)
set_option maxRecDepth 20000 in
theorem gX3_outAt_X3_valueAt : GoodIn wsX3_outAt (wsV RX3 58 RX3 yX3_valueAt wsX3_valueAt) := goodIn_app (goodIn_of _ (by decide +kernel)) ggX3_outAt_X3_valueAt
theorem dX3_outAt_0 : decode cX3_outAt 0 = .ok (.iconst 2, 1) := by decide +kernel
theorem dX3_outAt_1 : decode cX3_outAt 1 = .ok (.aload_n 0, 1) := by decide +kernel
theorem dX3_outAt_2 : decode cX3_outAt 2 = .ok (.aload_n 1, 1) := by decide +kernel
theorem dX3_outAt_3 : decode cX3_outAt 3 = .ok (.getfield 55, 3) := by decide +kernel
theorem dX3_outAt_6 : decode cX3_outAt 6 = .ok (.iload_n 2, 1) := by decide +kernel
theorem dX3_outAt_7 : decode cX3_outAt 7 = .ok (.invokevirtual 58, 3) := by decide +kernel
theorem dX3_outAt_10 : decode cX3_outAt 10 = .ok (.imul, 1) := by decide +kernel
theorem dX3_outAt_11 : decode cX3_outAt 11 = .ok (.aload_n 0, 1) := by decide +kernel
theorem dX3_outAt_12 : decode cX3_outAt 12 = .ok (.aload_n 1, 1) := by decide +kernel
theorem dX3_outAt_13 : decode cX3_outAt 13 = .ok (.getfield 62, 3) := by decide +kernel
theorem dX3_outAt_16 : decode cX3_outAt 16 = .ok (.iload_n 2, 1) := by decide +kernel
theorem dX3_outAt_17 : decode cX3_outAt 17 = .ok (.invokevirtual 58, 3) := by decide +kernel
theorem dX3_outAt_20 : decode cX3_outAt 20 = .ok (.iadd, 1) := by decide +kernel
theorem dX3_outAt_21 : decode cX3_outAt 21 = .ok (.ireturn, 1) := by decide +kernel
theorem dX4_init_0 : decode cX4_init 0 = .ok (.aload_n 0, 1) := by decide +kernel
theorem dX4_init_1 : decode cX4_init 1 = .ok (.invokespecial 3, 3) := by decide +kernel
theorem dX4_init_4 : decode cX4_init 4 = .ok (.aload_n 0, 1) := by decide +kernel
theorem dX4_init_5 : decode cX4_init 5 = .ok (.sipush 256, 3) := by decide +kernel
theorem dX4_init_8 : decode cX4_init 8 = .ok (.newarray .int, 2) := by decide +kernel
theorem dX4_init_10 : decode cX4_init 10 = .ok (.putfield 9, 3) := by decide +kernel
theorem dX4_init_13 : decode cX4_init 13 = .ok (.aload_n 0, 1) := by decide +kernel
theorem dX4_init_14 : decode cX4_init 14 = .ok (.sipush 256, 3) := by decide +kernel
theorem dX4_init_17 : decode cX4_init 17 = .ok (.newarray .long, 2) := by decide +kernel
theorem dX4_init_19 : decode cX4_init 19 = .ok (.putfield 15, 3) := by decide +kernel
theorem dX4_init_22 : decode cX4_init 22 = .ok (.aload_n 0, 1) := by decide +kernel
theorem dX4_init_23 : decode cX4_init 23 = .ok (.sipush 256, 3) := by decide +kernel
theorem dX4_init_26 : decode cX4_init 26 = .ok (.newarray .long, 2) := by decide +kernel
theorem dX4_init_28 : decode cX4_init 28 = .ok (.putfield 19, 3) := by decide +kernel
theorem dX4_init_31 : decode cX4_init 31 = .ok (.aload_n 0, 1) := by decide +kernel
theorem dX4_init_32 : decode cX4_init 32 = .ok (.bipush 64, 2) := by decide +kernel
theorem dX4_init_34 : decode cX4_init 34 = .ok (.newarray .int, 2) := by decide +kernel
theorem dX4_init_36 : decode cX4_init 36 = .ok (.putfield 22, 3) := by decide +kernel
theorem dX4_init_39 : decode cX4_init 39 = .ok (.return_, 1) := by decide +kernel
set_option maxRecDepth 20000 in
theorem ggX4_make_X4_clear : GoodIn wsX4_make wsX4_clear := goodIn_r _ [13, 14, 15, 3, 4, 16, 17, 18, 19, 20, 21, 22, 23, 24, 25, 26, 86, 87, 88, 89, 90, 91, 92, 93, 94, 95, 96, 97, 98, 100, 101, 102, 103, 104, 105, 106, 107, 108] (by decide +kernel) (by decide +kernel)
set_option maxRecDepth 20000 in
theorem gX4_make_X4_clear : GoodIn wsX4_make (wsV RX4 25 RX4 yX4_clear wsX4_clear) := goodIn_app (goodIn_of _ (by decide +kernel)) ggX4_make_X4_clear
set_option maxRecDepth 20000 in
theorem ggX4_make_X0_wordCount : GoodIn wsX4_make wsX0_wordCount := goodIn_r _ [30, 25, 100, 101, 102, 103, 104, 105, 106, 107, 108] (by decide +kernel) (by decide +kernel)
set_option maxRecDepth 20000 in
theorem gX4_make_X0_wordCount : GoodIn wsX4_make (wsV RX4 29 RX0 yX0_wordCount wsX0_wordCount) := goodIn_app (goodIn_of _ (by decide +kernel)) ggX4_make_X0_wordCount
set_option maxRecDepth 20000 in
theorem ggX4_make_X3_settle : GoodIn wsX4_make wsX3_settle := goodIn_r _ [35, 36, 37, 38, 21, 22, 23, 24, 25, 26, 39, 40, 34, 41, 42, 43, 44, 45, 46, 47, 48, 49, 50, 51, 52, 53, 100, 101, 102, 103, 104, 105, 106, 107, 108, 99] (by decide +kernel) (by decide +kernel)
set_option maxRecDepth 20000 in
theorem gX4_make_X3_settle : GoodIn wsX4_make (wsV RX4 35 RX3 yX3_settle wsX3_settle) := goodIn_app (goodIn_of _ (by decide +kernel)) ggX4_make_X3_settle
set_option maxRecDepth 20000 in
theorem ggX4_make_X3_laneWithout : GoodIn wsX4_make wsX3_laneWithout := goodIn_r _ [56] (by decide +kernel) (by decide +kernel)
set_option maxRecDepth 20000 in
theorem gX4_make_X3_laneWithout : GoodIn wsX4_make (va_wsS RX4 41 yX3_laneWithout wsX3_laneWithout) := goodIn_app (goodIn_of _ (by decide +kernel)) ggX4_make_X3_laneWithout
set_option maxRecDepth 20000 in
theorem ggX4_make_X3_outAt : GoodIn wsX4_make wsX3_outAt := goodIn_r _ [60, 61, 62, 63, 64, 65, 34, 66, 37, 67, 68, 69, 100, 101, 102, 103, 104, 105, 106, 107, 108, 99] (by decide +kernel) (by decide +kernel)
set_option maxRecDepth 20000 in
theorem gX4_make_X3_outAt : GoodIn wsX4_make (wsV RX4 45 RX3 yX3_outAt wsX3_outAt) := goodIn_app (goodIn_of _ (by decide +kernel)) ggX4_make_X3_outAt
set_option maxRecDepth 20000 in
theorem ggX4_make_X6_isValid : GoodIn wsX4_make wsX6_isValid := goodIn_r _ [71] (by decide +kernel) (by decide +kernel)
set_option maxRecDepth 20000 in
theorem gX4_make_X6_isValid_n54 : GoodIn wsX4_make (wsX6_isValid) := ggX4_make_X6_isValid
set_option maxRecDepth 20000 in
theorem ggX4_make_X4_lookAtStucks : GoodIn wsX4_make wsX4_lookAtStucks := goodIn_r _ [75, 2, 15, 76, 14, 77, 16, 17, 18, 78, 40, 34, 41, 86, 87, 88, 89, 90, 91, 92, 93, 94, 95, 96, 97, 98] (by decide +kernel) (by decide +kernel)
set_option maxRecDepth 20000 in
theorem gX4_make_X4_lookAtStucks : GoodIn wsX4_make (wsV RX4 75 RX4 yX4_lookAtStucks wsX4_lookAtStucks) := goodIn_app (goodIn_of _ (by decide +kernel)) ggX4_make_X4_lookAtStucks
theorem dX4_make_0 : decode cX4_make 0 = .ok (.aload_n 0, 1) := by decide +kernel
theorem dX4_make_1 : decode cX4_make 1 = .ok (.aload_n 1, 1) := by decide +kernel
theorem dX4_make_2 : decode cX4_make 2 = .ok (.invokevirtual 25, 3) := by decide +kernel
theorem dX4_make_5 : decode cX4_make 5 = .ok (.iconst 0, 1) := by decide +kernel
theorem dX4_make_6 : decode cX4_make 6 = .ok (.istore 4, 2) := by decide +kernel
theorem dX4_make_8 : decode cX4_make 8 = .ok (.iload 4, 2) := by decide +kernel
theorem dX4_make_10 : decode cX4_make 10 = .ok (.aload_n 1, 1) := by decide +kernel
theorem dX4_make_11 : decode cX4_make 11 = .ok (.invokevirtual 29, 3) := by decide +kernel
theorem dX4_make_14 : decode cX4_make 14 = .ok (.if_icmp .ge 119, 3) := by decide +kernel
theorem dX4_make_17 : decode cX4_make 17 = .ok (.aload_n 3, 1) := by decide +kernel
theorem dX4_make_18 : decode cX4_make 18 = .ok (.aload_n 1, 1) := by decide +kernel
theorem dX4_make_19 : decode cX4_make 19 = .ok (.iload 4, 2) := by decide +kernel
theorem dX4_make_21 : decode cX4_make 21 = .ok (.iconst (-1), 1) := by decide +kernel
theorem dX4_make_22 : decode cX4_make 22 = .ok (.invokevirtual 35, 3) := by decide +kernel
theorem dX4_make_25 : decode cX4_make 25 = .ok (.aload_n 3, 1) := by decide +kernel
theorem dX4_make_26 : decode cX4_make 26 = .ok (.aload_n 1, 1) := by decide +kernel
theorem dX4_make_27 : decode cX4_make 27 = .ok (.iload 4, 2) := by decide +kernel
theorem dX4_make_29 : decode cX4_make 29 = .ok (.invokestatic 41, 3) := by decide +kernel
theorem dX4_make_32 : decode cX4_make 32 = .ok (.invokevirtual 45, 3) := by decide +kernel
theorem dX4_make_35 : decode cX4_make 35 = .ok (.istore 5, 2) := by decide +kernel
theorem dX4_make_37 : decode cX4_make 37 = .ok (.aload_n 2, 1) := by decide +kernel
theorem dX4_make_38 : decode cX4_make 38 = .ok (.getfield 49, 3) := by decide +kernel
theorem dX4_make_41 : decode cX4_make 41 = .ok (.iload 4, 2) := by decide +kernel
theorem dX4_make_43 : decode cX4_make 43 = .ok (.iaload, 1) := by decide +kernel
theorem dX4_make_44 : decode cX4_make 44 = .ok (.bipush (-4), 2) := by decide +kernel
theorem dX4_make_46 : decode cX4_make 46 = .ok (.if_icmp .eq 7, 3) := by decide +kernel
theorem dX4_make_49 : decode cX4_make 49 = .ok (.iconst 1, 1) := by decide +kernel
theorem dX4_make_50 : decode cX4_make 50 = .ok (.goto 4, 3) := by decide +kernel
theorem dX4_make_53 : decode cX4_make 53 = .ok (.iconst 0, 1) := by decide +kernel
theorem dX4_make_54 : decode cX4_make 54 = .ok (.istore 6, 2) := by decide +kernel
theorem dX4_make_56 : decode cX4_make 56 = .ok (.aload_n 0, 1) := by decide +kernel
theorem dX4_make_57 : decode cX4_make 57 = .ok (.getfield 9, 3) := by decide +kernel
theorem dX4_make_60 : decode cX4_make 60 = .ok (.iload 4, 2) := by decide +kernel
theorem dX4_make_62 : decode cX4_make 62 = .ok (.iload 5, 2) := by decide +kernel
theorem dX4_make_64 : decode cX4_make 64 = .ok (.iastore, 1) := by decide +kernel
theorem dX4_make_65 : decode cX4_make 65 = .ok (.iload 5, 2) := by decide +kernel
theorem dX4_make_67 : decode cX4_make 67 = .ok (.invokestatic 54, 3) := by decide +kernel
theorem dX4_make_70 : decode cX4_make 70 = .ok (.ifCond .eq 13, 3) := by decide +kernel
theorem dX4_make_73 : decode cX4_make 73 = .ok (.aload_n 0, 1) := by decide +kernel
theorem dX4_make_74 : decode cX4_make 74 = .ok (.dup, 1) := by decide +kernel
theorem dX4_make_75 : decode cX4_make 75 = .ok (.getfield 58, 3) := by decide +kernel
theorem dX4_make_78 : decode cX4_make 78 = .ok (.iconst 1, 1) := by decide +kernel
theorem dX4_make_79 : decode cX4_make 79 = .ok (.iadd, 1) := by decide +kernel
theorem dX4_make_80 : decode cX4_make 80 = .ok (.putfield 58, 3) := by decide +kernel
theorem dX4_make_83 : decode cX4_make 83 = .ok (.iload 5, 2) := by decide +kernel
theorem dX4_make_85 : decode cX4_make 85 = .ok (.invokestatic 54, 3) := by decide +kernel
theorem dX4_make_88 : decode cX4_make 88 = .ok (.iload 6, 2) := by decide +kernel
theorem dX4_make_90 : decode cX4_make 90 = .ok (.if_icmp .eq 8, 3) := by decide +kernel
theorem dX4_make_93 : decode cX4_make 93 = .ok (.aload_n 0, 1) := by decide +kernel
theorem dX4_make_94 : decode cX4_make 94 = .ok (.iconst 0, 1) := by decide +kernel
theorem dX4_make_95 : decode cX4_make 95 = .ok (.putfield 62, 3) := by decide +kernel
theorem dX4_make_98 : decode cX4_make 98 = .ok (.iload 6, 2) := by decide +kernel
theorem dX4_make_100 : decode cX4_make 100 = .ok (.ifCond .eq 27, 3) := by decide +kernel
theorem dX4_make_103 : decode cX4_make 103 = .ok (.aload_n 0, 1) := by decide +kernel
theorem dX4_make_104 : decode cX4_make 104 = .ok (.iload 4, 2) := by decide +kernel
theorem dX4_make_106 : decode cX4_make 106 = .ok (.aload_n 3, 1) := by decide +kernel
theorem dX4_make_107 : decode cX4_make 107 = .ok (.getfield 66, 3) := by decide +kernel
theorem dX4_make_110 : decode cX4_make 110 = .ok (.aload_n 1, 1) := by decide +kernel
theorem dX4_make_111 : decode cX4_make 111 = .ok (.getfield 69, 3) := by decide +kernel
theorem dX4_make_114 : decode cX4_make 114 = .ok (.laload, 1) := by decide +kernel
theorem dX4_make_115 : decode cX4_make 115 = .ok (.aload_n 3, 1) := by decide +kernel
theorem dX4_make_116 : decode cX4_make 116 = .ok (.getfield 66, 3) := by decide +kernel
theorem dX4_make_119 : decode cX4_make 119 = .ok (.aload_n 1, 1) := by decide +kernel
theorem dX4_make_120 : decode cX4_make 120 = .ok (.getfield 72, 3) := by decide +kernel
theorem dX4_make_123 : decode cX4_make 123 = .ok (.laload, 1) := by decide +kernel
theorem dX4_make_124 : decode cX4_make 124 = .ok (.invokevirtual 75, 3) := by decide +kernel
theorem dX4_make_127 : decode cX4_make 127 = .ok (.iinc 4 1, 3) := by decide +kernel
theorem dX4_make_130 : decode cX4_make 130 = .ok (.goto (-122), 3) := by decide +kernel
theorem dX4_make_133 : decode cX4_make 133 = .ok (.aload_n 0, 1) := by decide +kernel
theorem dX4_make_134 : decode cX4_make 134 = .ok (.iconst 1, 1) := by decide +kernel
theorem dX4_make_135 : decode cX4_make 135 = .ok (.putfield 79, 3) := by decide +kernel
theorem dX4_make_138 : decode cX4_make 138 = .ok (.return_, 1) := by decide +kernel
set_option maxRecDepth 20000 in
theorem ggX4_clear_X0_wires : GoodIn wsX4_clear wsX0_wires := goodIn_r _ [13, 14, 15, 29, 30, 31, 32, 33, 34, 35, 36, 37] (by decide +kernel) (by decide +kernel)
set_option maxRecDepth 20000 in
theorem gX4_clear_X0_wires : GoodIn wsX4_clear (wsV RX4 84 RX0 yX0_wires wsX0_wires) := goodIn_app (goodIn_of _ (by decide +kernel)) ggX4_clear_X0_wires
theorem dX4_clear_0 : decode cX4_clear 0 = .ok (.aload_n 0, 1) := by decide +kernel
theorem dX4_clear_1 : decode cX4_clear 1 = .ok (.ldc2_w 82, 3) := by decide +kernel
theorem dX4_clear_4 : decode cX4_clear 4 = .ok (.bipush 64, 2) := by decide +kernel
theorem dX4_clear_6 : decode cX4_clear 6 = .ok (.iconst 2, 1) := by decide +kernel
theorem dX4_clear_7 : decode cX4_clear 7 = .ok (.aload_n 1, 1) := by decide +kernel
theorem dX4_clear_8 : decode cX4_clear 8 = .ok (.invokevirtual 84, 3) := by decide +kernel
theorem dX4_clear_11 : decode cX4_clear 11 = .ok (.imul, 1) := by decide +kernel
theorem dX4_clear_12 : decode cX4_clear 12 = .ok (.isub, 1) := by decide +kernel
theorem dX4_clear_13 : decode cX4_clear 13 = .ok (.lushr, 1) := by decide +kernel
theorem dX4_clear_14 : decode cX4_clear 14 = .ok (.putfield 87, 3) := by decide +kernel
theorem dX4_clear_17 : decode cX4_clear 17 = .ok (.aload_n 0, 1) := by decide +kernel
theorem dX4_clear_18 : decode cX4_clear 18 = .ok (.iconst 0, 1) := by decide +kernel
theorem dX4_clear_19 : decode cX4_clear 19 = .ok (.putfield 58, 3) := by decide +kernel
theorem dX4_clear_22 : decode cX4_clear 22 = .ok (.aload_n 0, 1) := by decide +kernel
theorem dX4_clear_23 : decode cX4_clear 23 = .ok (.iconst 1, 1) := by decide +kernel
theorem dX4_clear_24 : decode cX4_clear 24 = .ok (.putfield 62, 3) := by decide +kernel
theorem dX4_clear_27 : decode cX4_clear 27 = .ok (.aload_n 0, 1) := by decide +kernel
theorem dX4_clear_28 : decode cX4_clear 28 = .ok (.lconst 0, 1) := by decide +kernel
theorem dX4_clear_29 : decode cX4_clear 29 = .ok (.putfield 91, 3) := by decide +kernel
theorem dX4_clear_32 : decode cX4_clear 32 = .ok (.aload_n 0, 1) := by decide +kernel
theorem dX4_clear_33 : decode cX4_clear 33 = .ok (.lconst 0, 1) := by decide +kernel
theorem dX4_clear_34 : decode cX4_clear 34 = .ok (.putfield 94, 3) := by decide +kernel
theorem dX4_clear_37 : decode cX4_clear 37 = .ok (.aload_n 0, 1) := by decide +kernel
theorem dX4_clear_38 : decode cX4_clear 38 = .ok (.lconst 0, 1) := by decide +kernel
theorem dX4_clear_39 : decode cX4_clear 39 = .ok (.putfield 97, 3) := by decide +kernel
theorem dX4_clear_42 : decode cX4_clear 42 = .ok (.aload_n 0, 1) := by decide +kernel
theorem dX4_clear_43 : decode cX4_clear 43 = .ok (.iconst 0, 1) := by decide +kernel
theorem dX4_clear_44 : decode cX4_clear 44 = .ok (.putfield 100, 3) := by decide +kernel
theorem dX4_clear_47 : decode cX4_clear 47 = .ok (.return_, 1) := by decide +kernel
set_option maxRecDepth 20000 in
theorem ggX4_lookAtStucks_X3_inAllLanes : GoodIn wsX4_lookAtStucks wsX3_inAllLanes := goodIn_r _ [12] (by decide +kernel) (by decide +kernel)
set_option maxRecDepth 20000 in
theorem gX4_lookAtStucks_X3_inAllLanes : GoodIn wsX4_lookAtStucks (va_wsS RX4 103 yX3_inAllLanes wsX3_inAllLanes) := goodIn_app (goodIn_of _ (by decide +kernel)) ggX4_lookAtStucks_X3_inAllLanes
theorem dX4_lookAtStucks_0 : decode cX4_lookAtStucks 0 = .ok (.aload_n 0, 1) := by decide +kernel
theorem dX4_lookAtStucks_1 : decode cX4_lookAtStucks 1 = .ok (.getfield 9, 3) := by decide +kernel
theorem dX4_lookAtStucks_4 : decode cX4_lookAtStucks 4 = .ok (.iload_n 1, 1) := by decide +kernel
theorem dX4_lookAtStucks_5 : decode cX4_lookAtStucks 5 = .ok (.iaload, 1) := by decide +kernel
theorem dX4_lookAtStucks_6 : decode cX4_lookAtStucks 6 = .ok (.iconst 1, 1) := by decide +kernel
theorem dX4_lookAtStucks_7 : decode cX4_lookAtStucks 7 = .ok (.ishr, 1) := by decide +kernel
theorem dX4_lookAtStucks_8 : decode cX4_lookAtStucks 8 = .ok (.invokestatic 103, 3) := by decide +kernel
theorem dX4_lookAtStucks_11 : decode cX4_lookAtStucks 11 = .ok (.lstore 6, 2) := by decide +kernel
theorem dX4_lookAtStucks_13 : decode cX4_lookAtStucks 13 = .ok (.aload_n 0, 1) := by decide +kernel
theorem dX4_lookAtStucks_14 : decode cX4_lookAtStucks 14 = .ok (.getfield 9, 3) := by decide +kernel
theorem dX4_lookAtStucks_17 : decode cX4_lookAtStucks 17 = .ok (.iload_n 1, 1) := by decide +kernel
theorem dX4_lookAtStucks_18 : decode cX4_lookAtStucks 18 = .ok (.iaload, 1) := by decide +kernel
theorem dX4_lookAtStucks_19 : decode cX4_lookAtStucks 19 = .ok (.iconst 1, 1) := by decide +kernel
theorem dX4_lookAtStucks_20 : decode cX4_lookAtStucks 20 = .ok (.iand, 1) := by decide +kernel
theorem dX4_lookAtStucks_21 : decode cX4_lookAtStucks 21 = .ok (.invokestatic 103, 3) := by decide +kernel
theorem dX4_lookAtStucks_24 : decode cX4_lookAtStucks 24 = .ok (.lstore 8, 2) := by decide +kernel
theorem dX4_lookAtStucks_26 : decode cX4_lookAtStucks 26 = .ok (.lload_n 2, 1) := by decide +kernel
theorem dX4_lookAtStucks_27 : decode cX4_lookAtStucks 27 = .ok (.lload 6, 2) := by decide +kernel
theorem dX4_lookAtStucks_29 : decode cX4_lookAtStucks 29 = .ok (.lxor, 1) := by decide +kernel
theorem dX4_lookAtStucks_30 : decode cX4_lookAtStucks 30 = .ok (.lload 4, 2) := by decide +kernel
theorem dX4_lookAtStucks_32 : decode cX4_lookAtStucks 32 = .ok (.lload 8, 2) := by decide +kernel
theorem dX4_lookAtStucks_34 : decode cX4_lookAtStucks 34 = .ok (.lxor, 1) := by decide +kernel
theorem dX4_lookAtStucks_35 : decode cX4_lookAtStucks 35 = .ok (.lor, 1) := by decide +kernel
theorem dX4_lookAtStucks_36 : decode cX4_lookAtStucks 36 = .ok (.aload_n 0, 1) := by decide +kernel
theorem dX4_lookAtStucks_37 : decode cX4_lookAtStucks 37 = .ok (.getfield 87, 3) := by decide +kernel
theorem dX4_lookAtStucks_40 : decode cX4_lookAtStucks 40 = .ok (.land, 1) := by decide +kernel
theorem dX4_lookAtStucks_41 : decode cX4_lookAtStucks 41 = .ok (.lstore 10, 2) := by decide +kernel
theorem dX4_lookAtStucks_43 : decode cX4_lookAtStucks 43 = .ok (.aload_n 0, 1) := by decide +kernel
theorem dX4_lookAtStucks_44 : decode cX4_lookAtStucks 44 = .ok (.getfield 15, 3) := by decide +kernel
theorem dX4_lookAtStucks_47 : decode cX4_lookAtStucks 47 = .ok (.iload_n 1, 1) := by decide +kernel
theorem dX4_lookAtStucks_48 : decode cX4_lookAtStucks 48 = .ok (.lload_n 2, 1) := by decide +kernel
theorem dX4_lookAtStucks_49 : decode cX4_lookAtStucks 49 = .ok (.lload 4, 2) := by decide +kernel
theorem dX4_lookAtStucks_51 : decode cX4_lookAtStucks 51 = .ok (.lxor, 1) := by decide +kernel
theorem dX4_lookAtStucks_52 : decode cX4_lookAtStucks 52 = .ok (.ldc2_w 82, 3) := by decide +kernel
theorem dX4_lookAtStucks_55 : decode cX4_lookAtStucks 55 = .ok (.lxor, 1) := by decide +kernel
theorem dX4_lookAtStucks_56 : decode cX4_lookAtStucks 56 = .ok (.aload_n 0, 1) := by decide +kernel
theorem dX4_lookAtStucks_57 : decode cX4_lookAtStucks 57 = .ok (.getfield 87, 3) := by decide +kernel
theorem dX4_lookAtStucks_60 : decode cX4_lookAtStucks 60 = .ok (.land, 1) := by decide +kernel
theorem dX4_lookAtStucks_61 : decode cX4_lookAtStucks 61 = .ok (.lastore, 1) := by decide +kernel
theorem dX4_lookAtStucks_62 : decode cX4_lookAtStucks 62 = .ok (.aload_n 0, 1) := by decide +kernel
theorem dX4_lookAtStucks_63 : decode cX4_lookAtStucks 63 = .ok (.getfield 19, 3) := by decide +kernel
theorem dX4_lookAtStucks_66 : decode cX4_lookAtStucks 66 = .ok (.iload_n 1, 1) := by decide +kernel
theorem dX4_lookAtStucks_67 : decode cX4_lookAtStucks 67 = .ok (.lload_n 2, 1) := by decide +kernel
theorem dX4_lookAtStucks_68 : decode cX4_lookAtStucks 68 = .ok (.lload 4, 2) := by decide +kernel
theorem dX4_lookAtStucks_70 : decode cX4_lookAtStucks 70 = .ok (.lxor, 1) := by decide +kernel
theorem dX4_lookAtStucks_71 : decode cX4_lookAtStucks 71 = .ok (.lload 10, 2) := by decide +kernel
theorem dX4_lookAtStucks_73 : decode cX4_lookAtStucks 73 = .ok (.land, 1) := by decide +kernel
theorem dX4_lookAtStucks_74 : decode cX4_lookAtStucks 74 = .ok (.lastore, 1) := by decide +kernel
theorem dX4_lookAtStucks_75 : decode cX4_lookAtStucks 75 = .ok (.aload_n 0, 1) := by decide +kernel
theorem dX4_lookAtStucks_76 : decode cX4_lookAtStucks 76 = .ok (.dup, 1) := by decide +kernel
theorem dX4_lookAtStucks_77 : decode cX4_lookAtStucks 77 = .ok (.getfield 91, 3) := by decide +kernel
theorem dX4_lookAtStucks_80 : decode cX4_lookAtStucks 80 = .ok (.aload_n 0, 1) := by decide +kernel
theorem dX4_lookAtStucks_81 : decode cX4_lookAtStucks 81 = .ok (.getfield 15, 3) := by decide +kernel
theorem dX4_lookAtStucks_84 : decode cX4_lookAtStucks 84 = .ok (.iload_n 1, 1) := by decide +kernel
theorem dX4_lookAtStucks_85 : decode cX4_lookAtStucks 85 = .ok (.laload, 1) := by decide +kernel
theorem dX4_lookAtStucks_86 : decode cX4_lookAtStucks 86 = .ok (.lor, 1) := by decide +kernel
theorem dX4_lookAtStucks_87 : decode cX4_lookAtStucks 87 = .ok (.putfield 91, 3) := by decide +kernel
theorem dX4_lookAtStucks_90 : decode cX4_lookAtStucks 90 = .ok (.aload_n 0, 1) := by decide +kernel
theorem dX4_lookAtStucks_91 : decode cX4_lookAtStucks 91 = .ok (.dup, 1) := by decide +kernel
theorem dX4_lookAtStucks_92 : decode cX4_lookAtStucks 92 = .ok (.getfield 94, 3) := by decide +kernel
theorem dX4_lookAtStucks_95 : decode cX4_lookAtStucks 95 = .ok (.aload_n 0, 1) := by decide +kernel
theorem dX4_lookAtStucks_96 : decode cX4_lookAtStucks 96 = .ok (.getfield 19, 3) := by decide +kernel
theorem dX4_lookAtStucks_99 : decode cX4_lookAtStucks 99 = .ok (.iload_n 1, 1) := by decide +kernel
theorem dX4_lookAtStucks_100 : decode cX4_lookAtStucks 100 = .ok (.laload, 1) := by decide +kernel
theorem dX4_lookAtStucks_101 : decode cX4_lookAtStucks 101 = .ok (.lor, 1) := by decide +kernel
theorem dX4_lookAtStucks_102 : decode cX4_lookAtStucks 102 = .ok (.putfield 94, 3) := by decide +kernel
theorem dX4_lookAtStucks_105 : decode cX4_lookAtStucks 105 = .ok (.aload_n 0, 1) := by decide +kernel
theorem dX4_lookAtStucks_106 : decode cX4_lookAtStucks 106 = .ok (.dup, 1) := by decide +kernel
theorem dX4_lookAtStucks_107 : decode cX4_lookAtStucks 107 = .ok (.getfield 97, 3) := by decide +kernel
theorem dX4_lookAtStucks_110 : decode cX4_lookAtStucks 110 = .ok (.lload 10, 2) := by decide +kernel
theorem dX4_lookAtStucks_112 : decode cX4_lookAtStucks 112 = .ok (.lor, 1) := by decide +kernel
theorem dX4_lookAtStucks_113 : decode cX4_lookAtStucks 113 = .ok (.putfield 97, 3) := by decide +kernel
theorem dX4_lookAtStucks_116 : decode cX4_lookAtStucks 116 = .ok (.return_, 1) := by decide +kernel
theorem dX4_neverExposed_0 : decode cX4_neverExposed 0 = .ok (.aload_n 0, 1) := by decide +kernel
theorem dX4_neverExposed_1 : decode cX4_neverExposed 1 = .ok (.getfield 87, 3) := by decide +kernel
theorem dX4_neverExposed_4 : decode cX4_neverExposed 4 = .ok (.aload_n 0, 1) := by decide +kernel
theorem dX4_neverExposed_5 : decode cX4_neverExposed 5 = .ok (.getfield 91, 3) := by decide +kernel
theorem dX4_neverExposed_8 : decode cX4_neverExposed 8 = .ok (.ldc2_w 82, 3) := by decide +kernel
theorem dX4_neverExposed_11 : decode cX4_neverExposed 11 = .ok (.lxor, 1) := by decide +kernel
theorem dX4_neverExposed_12 : decode cX4_neverExposed 12 = .ok (.land, 1) := by decide +kernel
theorem dX4_neverExposed_13 : decode cX4_neverExposed 13 = .ok (.lreturn, 1) := by decide +kernel
theorem dX4_latent_0 : decode cX4_latent 0 = .ok (.aload_n 0, 1) := by decide +kernel
theorem dX4_latent_1 : decode cX4_latent 1 = .ok (.getfield 87, 3) := by decide +kernel
theorem dX4_latent_4 : decode cX4_latent 4 = .ok (.aload_n 0, 1) := by decide +kernel
theorem dX4_latent_5 : decode cX4_latent 5 = .ok (.getfield 97, 3) := by decide +kernel
theorem dX4_latent_8 : decode cX4_latent 8 = .ok (.ldc2_w 82, 3) := by decide +kernel
theorem dX4_latent_11 : decode cX4_latent 11 = .ok (.lxor, 1) := by decide +kernel
theorem dX4_latent_12 : decode cX4_latent 12 = .ok (.land, 1) := by decide +kernel
theorem dX4_latent_13 : decode cX4_latent 13 = .ok (.lreturn, 1) := by decide +kernel
set_option maxRecDepth 20000 in
theorem ggX4_chooseTests_X4_wordThatExposesMost : GoodIn wsX4_chooseTests wsX4_wordThatExposesMost := goodIn_r _ [11, 12, 13, 4, 14, 15, 16, 17, 18, 19, 20, 34, 35, 36, 37, 38, 39, 40, 21, 22, 23, 24, 25, 26, 27, 28, 29, 30, 31, 32, 33] (by decide +kernel) (by decide +kernel)
set_option maxRecDepth 20000 in
theorem gX4_chooseTests_X4_wordThatExposesMost : GoodIn wsX4_chooseTests (wsV RX4 110 RX4 yX4_wordThatExposesMost wsX4_wordThatExposesMost) := goodIn_app (goodIn_of _ (by decide +kernel)) ggX4_chooseTests_X4_wordThatExposesMost
theorem dX4_chooseTests_0 : decode cX4_chooseTests 0 = .ok (.aload_n 0, 1) := by decide +kernel
theorem dX4_chooseTests_1 : decode cX4_chooseTests 1 = .ok (.iconst 0, 1) := by decide +kernel
theorem dX4_chooseTests_2 : decode cX4_chooseTests 2 = .ok (.putfield 107, 3) := by decide +kernel
theorem dX4_chooseTests_5 : decode cX4_chooseTests 5 = .ok (.aload_n 0, 1) := by decide +kernel
theorem dX4_chooseTests_6 : decode cX4_chooseTests 6 = .ok (.getfield 91, 3) := by decide +kernel
theorem dX4_chooseTests_9 : decode cX4_chooseTests 9 = .ok (.lstore_n 2, 1) := by decide +kernel
theorem dX4_chooseTests_10 : decode cX4_chooseTests 10 = .ok (.iconst 0, 1) := by decide +kernel
theorem dX4_chooseTests_11 : decode cX4_chooseTests 11 = .ok (.istore 4, 2) := by decide +kernel
theorem dX4_chooseTests_13 : decode cX4_chooseTests 13 = .ok (.iload 4, 2) := by decide +kernel
theorem dX4_chooseTests_15 : decode cX4_chooseTests 15 = .ok (.bipush 64, 2) := by decide +kernel
theorem dX4_chooseTests_17 : decode cX4_chooseTests 17 = .ok (.if_icmp .ge 56, 3) := by decide +kernel
theorem dX4_chooseTests_20 : decode cX4_chooseTests 20 = .ok (.lload_n 2, 1) := by decide +kernel
theorem dX4_chooseTests_21 : decode cX4_chooseTests 21 = .ok (.lconst 0, 1) := by decide +kernel
theorem dX4_chooseTests_22 : decode cX4_chooseTests 22 = .ok (.lcmp, 1) := by decide +kernel
theorem dX4_chooseTests_23 : decode cX4_chooseTests 23 = .ok (.ifCond .eq 50, 3) := by decide +kernel
theorem dX4_chooseTests_26 : decode cX4_chooseTests 26 = .ok (.aload_n 0, 1) := by decide +kernel
theorem dX4_chooseTests_27 : decode cX4_chooseTests 27 = .ok (.aload_n 1, 1) := by decide +kernel
theorem dX4_chooseTests_28 : decode cX4_chooseTests 28 = .ok (.lload_n 2, 1) := by decide +kernel
theorem dX4_chooseTests_29 : decode cX4_chooseTests 29 = .ok (.invokevirtual 110, 3) := by decide +kernel
theorem dX4_chooseTests_32 : decode cX4_chooseTests 32 = .ok (.istore 5, 2) := by decide +kernel
theorem dX4_chooseTests_34 : decode cX4_chooseTests 34 = .ok (.aload_n 0, 1) := by decide +kernel
theorem dX4_chooseTests_35 : decode cX4_chooseTests 35 = .ok (.getfield 22, 3) := by decide +kernel
theorem dX4_chooseTests_38 : decode cX4_chooseTests 38 = .ok (.iload 4, 2) := by decide +kernel
theorem dX4_chooseTests_40 : decode cX4_chooseTests 40 = .ok (.iload 5, 2) := by decide +kernel
theorem dX4_chooseTests_42 : decode cX4_chooseTests 42 = .ok (.iastore, 1) := by decide +kernel
theorem dX4_chooseTests_43 : decode cX4_chooseTests 43 = .ok (.aload_n 0, 1) := by decide +kernel
theorem dX4_chooseTests_44 : decode cX4_chooseTests 44 = .ok (.dup, 1) := by decide +kernel
theorem dX4_chooseTests_45 : decode cX4_chooseTests 45 = .ok (.getfield 107, 3) := by decide +kernel
theorem dX4_chooseTests_48 : decode cX4_chooseTests 48 = .ok (.iconst 1, 1) := by decide +kernel
theorem dX4_chooseTests_49 : decode cX4_chooseTests 49 = .ok (.iadd, 1) := by decide +kernel
theorem dX4_chooseTests_50 : decode cX4_chooseTests 50 = .ok (.putfield 107, 3) := by decide +kernel
theorem dX4_chooseTests_53 : decode cX4_chooseTests 53 = .ok (.lload_n 2, 1) := by decide +kernel
theorem dX4_chooseTests_54 : decode cX4_chooseTests 54 = .ok (.aload_n 0, 1) := by decide +kernel
theorem dX4_chooseTests_55 : decode cX4_chooseTests 55 = .ok (.getfield 15, 3) := by decide +kernel
theorem dX4_chooseTests_58 : decode cX4_chooseTests 58 = .ok (.iload 5, 2) := by decide +kernel
theorem dX4_chooseTests_60 : decode cX4_chooseTests 60 = .ok (.laload, 1) := by decide +kernel
theorem dX4_chooseTests_61 : decode cX4_chooseTests 61 = .ok (.ldc2_w 82, 3) := by decide +kernel
theorem dX4_chooseTests_64 : decode cX4_chooseTests 64 = .ok (.lxor, 1) := by decide +kernel
theorem dX4_chooseTests_65 : decode cX4_chooseTests 65 = .ok (.land, 1) := by decide +kernel
theorem dX4_chooseTests_66 : decode cX4_chooseTests 66 = .ok (.lstore_n 2, 1) := by decide +kernel
theorem dX4_chooseTests_67 : decode cX4_chooseTests 67 = .ok (.iinc 4 1, 3) := by decide +kernel
theorem dX4_chooseTests_70 : decode cX4_chooseTests 70 = .ok (.goto (-57), 3) := by decide +kernel
theorem dX4_chooseTests_73 : decode cX4_chooseTests 73 = .ok (.aload_n 0, 1) := by decide +kernel
theorem dX4_chooseTests_74 : decode cX4_chooseTests 74 = .ok (.iconst 1, 1) := by decide +kernel
theorem dX4_chooseTests_75 : decode cX4_chooseTests 75 = .ok (.putfield 100, 3) := by decide +kernel
theorem dX4_chooseTests_78 : decode cX4_chooseTests 78 = .ok (.return_, 1) := by decide +kernel
set_option maxRecDepth 20000 in
theorem ggX4_wordThatExposesMost_J13_bitCount_95d88 : GoodIn wsX4_wordThatExposesMost wsJ13_bitCount_95d88 := goodIn_r _ [7, 8, 9, 10] (by decide +kernel) (by decide +kernel)
set_option maxRecDepth 20000 in
theorem gX4_wordThatExposesMost_J13_bitCount_95d88 : GoodIn wsX4_wordThatExposesMost (va_wsS RX4 120 yJ13_bitCount_95d88 wsJ13_bitCount_95d88) := goodIn_app (goodIn_of _ (by decide +kernel)) ggX4_wordThatExposesMost_J13_bitCount_95d88
theorem dX4_wordThatExposesMost_0 : decode cX4_wordThatExposesMost 0 = .ok (.iconst 0, 1) := by decide +kernel
theorem dX4_wordThatExposesMost_1 : decode cX4_wordThatExposesMost 1 = .ok (.istore 4, 2) := by decide +kernel
theorem dX4_wordThatExposesMost_3 : decode cX4_wordThatExposesMost 3 = .ok (.iconst 0, 1) := by decide +kernel
theorem dX4_wordThatExposesMost_4 : decode cX4_wordThatExposesMost 4 = .ok (.istore 5, 2) := by decide +kernel
theorem dX4_wordThatExposesMost_6 : decode cX4_wordThatExposesMost 6 = .ok (.iconst 0, 1) := by decide +kernel
theorem dX4_wordThatExposesMost_7 : decode cX4_wordThatExposesMost 7 = .ok (.istore 6, 2) := by decide +kernel
theorem dX4_wordThatExposesMost_9 : decode cX4_wordThatExposesMost 9 = .ok (.iload 6, 2) := by decide +kernel
theorem dX4_wordThatExposesMost_11 : decode cX4_wordThatExposesMost 11 = .ok (.aload_n 1, 1) := by decide +kernel
theorem dX4_wordThatExposesMost_12 : decode cX4_wordThatExposesMost 12 = .ok (.getfield 114, 3) := by decide +kernel
theorem dX4_wordThatExposesMost_15 : decode cX4_wordThatExposesMost 15 = .ok (.if_icmp .ge 47, 3) := by decide +kernel
theorem dX4_wordThatExposesMost_18 : decode cX4_wordThatExposesMost 18 = .ok (.aload_n 1, 1) := by decide +kernel
theorem dX4_wordThatExposesMost_19 : decode cX4_wordThatExposesMost 19 = .ok (.getfield 117, 3) := by decide +kernel
theorem dX4_wordThatExposesMost_22 : decode cX4_wordThatExposesMost 22 = .ok (.iload 6, 2) := by decide +kernel
theorem dX4_wordThatExposesMost_24 : decode cX4_wordThatExposesMost 24 = .ok (.iaload, 1) := by decide +kernel
theorem dX4_wordThatExposesMost_25 : decode cX4_wordThatExposesMost 25 = .ok (.istore 7, 2) := by decide +kernel
theorem dX4_wordThatExposesMost_27 : decode cX4_wordThatExposesMost 27 = .ok (.aload_n 0, 1) := by decide +kernel
theorem dX4_wordThatExposesMost_28 : decode cX4_wordThatExposesMost 28 = .ok (.getfield 15, 3) := by decide +kernel
theorem dX4_wordThatExposesMost_31 : decode cX4_wordThatExposesMost 31 = .ok (.iload 7, 2) := by decide +kernel
theorem dX4_wordThatExposesMost_33 : decode cX4_wordThatExposesMost 33 = .ok (.laload, 1) := by decide +kernel
theorem dX4_wordThatExposesMost_34 : decode cX4_wordThatExposesMost 34 = .ok (.lload_n 2, 1) := by decide +kernel
theorem dX4_wordThatExposesMost_35 : decode cX4_wordThatExposesMost 35 = .ok (.land, 1) := by decide +kernel
theorem dX4_wordThatExposesMost_36 : decode cX4_wordThatExposesMost 36 = .ok (.invokestatic 120, 3) := by decide +kernel
theorem dX4_wordThatExposesMost_39 : decode cX4_wordThatExposesMost 39 = .ok (.istore 8, 2) := by decide +kernel
theorem dX4_wordThatExposesMost_41 : decode cX4_wordThatExposesMost 41 = .ok (.iload 8, 2) := by decide +kernel
theorem dX4_wordThatExposesMost_43 : decode cX4_wordThatExposesMost 43 = .ok (.iload 5, 2) := by decide +kernel
theorem dX4_wordThatExposesMost_45 : decode cX4_wordThatExposesMost 45 = .ok (.if_icmp .le 11, 3) := by decide +kernel
theorem dX4_wordThatExposesMost_48 : decode cX4_wordThatExposesMost 48 = .ok (.iload 8, 2) := by decide +kernel
theorem dX4_wordThatExposesMost_50 : decode cX4_wordThatExposesMost 50 = .ok (.istore 5, 2) := by decide +kernel
theorem dX4_wordThatExposesMost_52 : decode cX4_wordThatExposesMost 52 = .ok (.iload 7, 2) := by decide +kernel
theorem dX4_wordThatExposesMost_54 : decode cX4_wordThatExposesMost 54 = .ok (.istore 4, 2) := by decide +kernel
theorem dX4_wordThatExposesMost_56 : decode cX4_wordThatExposesMost 56 = .ok (.iinc 6 1, 3) := by decide +kernel
theorem dX4_wordThatExposesMost_59 : decode cX4_wordThatExposesMost 59 = .ok (.goto (-50), 3) := by decide +kernel
theorem dX4_wordThatExposesMost_62 : decode cX4_wordThatExposesMost 62 = .ok (.iload 4, 2) := by decide +kernel
theorem dX4_wordThatExposesMost_64 : decode cX4_wordThatExposesMost 64 = .ok (.ireturn, 1) := by decide +kernel
theorem dX5_init_0 : decode cX5_init 0 = .ok (.aload_n 0, 1) := by decide +kernel
theorem dX5_init_1 : decode cX5_init 1 = .ok (.invokespecial 3, 3) := by decide +kernel
theorem dX5_init_4 : decode cX5_init 4 = .ok (.aload_n 0, 1) := by decide +kernel
theorem dX5_init_5 : decode cX5_init 5 = .ok (.sipush 200, 3) := by decide +kernel
theorem dX5_init_8 : decode cX5_init 8 = .ok (.newarray .char, 2) := by decide +kernel
theorem dX5_init_10 : decode cX5_init 10 = .ok (.putfield 9, 3) := by decide +kernel
theorem dX5_init_13 : decode cX5_init 13 = .ok (.aload_n 0, 1) := by decide +kernel
theorem dX5_init_14 : decode cX5_init 14 = .ok (.iconst 3, 1) := by decide +kernel
theorem dX5_init_15 : decode cX5_init 15 = .ok (.newarray .int, 2) := by decide +kernel
theorem dX5_init_17 : decode cX5_init 17 = .ok (.putfield 15, 3) := by decide +kernel
theorem dX5_init_20 : decode cX5_init 20 = .ok (.return_, 1) := by decide +kernel
set_option maxRecDepth 20000 in
theorem ggX5_readInto_X0_start : GoodIn wsX5_readInto wsX0_start := goodIn_r _ [7, 8, 9, 10, 11, 12, 6, 13, 14, 15, 16, 17, 18, 19, 20, 21, 103, 104, 105, 106, 107, 108, 109, 110, 111] (by decide +kernel) (by decide +kernel)
set_option maxRecDepth 20000 in
theorem gX5_readInto_X0_start : GoodIn wsX5_readInto (wsV RX5 19 RX0 yX0_start wsX0_start) := goodIn_app (goodIn_of _ (by decide +kernel)) ggX5_readInto_X0_start
set_option maxRecDepth 20000 in
theorem ggX5_readInto_X5_readItem : GoodIn wsX5_readInto wsX5_readItem := goodIn_r _ [26, 27, 1, 28, 29, 25, 30, 31, 32, 33, 34, 35, 36, 37, 38, 39, 40, 41, 42, 43, 2, 44, 45, 46, 47, 48, 49, 50, 51, 52, 53, 54, 55, 56, 3, 4, 5, 6, 7, 8, 9, 10, 11, 12, 13, 14, 15, 16, 17, 18, 19, 20, 21, 57, 58, 59, 60, 61, 62, 63, 64, 65, 66, 67, 68, 69, 70, 71, 72, 73, 74, 75, 76, 77, 78, 79, 80, 81, 82, 83, 84, 85, 86, 87, 88, 89, 90, 91, 92, 93, 94, 95, 96, 97, 98, 99, 100, 101, 102, 103, 104, 105, 106, 107, 108, 109, 110, 111] (by decide +kernel) (by decide +kernel)
set_option maxRecDepth 20000 in
theorem gX5_readInto_X5_readItem : GoodIn wsX5_readInto (wsV RX5 32 RX5 yX5_readItem wsX5_readItem) := goodIn_app (goodIn_of _ (by decide +kernel)) ggX5_readInto_X5_readItem
theorem dX5_readInto_0 : decode cX5_readInto 0 = .ok (.aload_n 1, 1) := by decide +kernel
theorem dX5_readInto_1 : decode cX5_readInto 1 = .ok (.iconst 0, 1) := by decide +kernel
theorem dX5_readInto_2 : decode cX5_readInto 2 = .ok (.invokevirtual 19, 3) := by decide +kernel
theorem dX5_readInto_5 : decode cX5_readInto 5 = .ok (.aload_n 0, 1) := by decide +kernel
theorem dX5_readInto_6 : decode cX5_readInto 6 = .ok (.iconst 0, 1) := by decide +kernel
theorem dX5_readInto_7 : decode cX5_readInto 7 = .ok (.putfield 25, 3) := by decide +kernel
theorem dX5_readInto_10 : decode cX5_readInto 10 = .ok (.iconst 0, 1) := by decide +kernel
theorem dX5_readInto_11 : decode cX5_readInto 11 = .ok (.istore_n 2, 1) := by decide +kernel
theorem dX5_readInto_12 : decode cX5_readInto 12 = .ok (.iload_n 2, 1) := by decide +kernel
theorem dX5_readInto_13 : decode cX5_readInto 13 = .ok (.sipush 200, 3) := by decide +kernel
theorem dX5_readInto_16 : decode cX5_readInto 16 = .ok (.if_icmp .ge 35, 3) := by decide +kernel
theorem dX5_readInto_19 : decode cX5_readInto 19 = .ok (.aload_n 0, 1) := by decide +kernel
theorem dX5_readInto_20 : decode cX5_readInto 20 = .ok (.getfield 25, 3) := by decide +kernel
theorem dX5_readInto_23 : decode cX5_readInto 23 = .ok (.aload_n 0, 1) := by decide +kernel
theorem dX5_readInto_24 : decode cX5_readInto 24 = .ok (.getfield 29, 3) := by decide +kernel
theorem dX5_readInto_27 : decode cX5_readInto 27 = .ok (.if_icmp .ge 24, 3) := by decide +kernel
theorem dX5_readInto_30 : decode cX5_readInto 30 = .ok (.aload_n 0, 1) := by decide +kernel
theorem dX5_readInto_31 : decode cX5_readInto 31 = .ok (.getfield 25, 3) := by decide +kernel
theorem dX5_readInto_34 : decode cX5_readInto 34 = .ok (.istore_n 3, 1) := by decide +kernel
theorem dX5_readInto_35 : decode cX5_readInto 35 = .ok (.aload_n 0, 1) := by decide +kernel
theorem dX5_readInto_36 : decode cX5_readInto 36 = .ok (.aload_n 1, 1) := by decide +kernel
theorem dX5_readInto_37 : decode cX5_readInto 37 = .ok (.invokevirtual 32, 3) := by decide +kernel
theorem dX5_readInto_40 : decode cX5_readInto 40 = .ok (.ifCond .ne 5, 3) := by decide +kernel
theorem dX5_readInto_43 : decode cX5_readInto 43 = .ok (.iload_n 3, 1) := by decide +kernel
theorem dX5_readInto_44 : decode cX5_readInto 44 = .ok (.ireturn, 1) := by decide +kernel
theorem dX5_readInto_45 : decode cX5_readInto 45 = .ok (.iinc 2 1, 3) := by decide +kernel
theorem dX5_readInto_48 : decode cX5_readInto 48 = .ok (.goto (-36), 3) := by decide +kernel
theorem dX5_readInto_51 : decode cX5_readInto 51 = .ok (.bipush (-4), 2) := by decide +kernel
theorem dX5_readInto_53 : decode cX5_readInto 53 = .ok (.ireturn, 1) := by decide +kernel
set_option maxRecDepth 20000 in
theorem ggX5_readItem_X5_numbersBehind : GoodIn wsX5_readItem wsX5_numbersBehind := goodIn_r _ [6] (by decide +kernel) (by decide +kernel)
set_option maxRecDepth 20000 in
theorem gX5_readItem_X5_numbersBehind : GoodIn wsX5_readItem (va_wsS RX5 36 yX5_numbersBehind wsX5_numbersBehind) := goodIn_app (goodIn_of _ (by decide +kernel)) ggX5_readItem_X5_numbersBehind
set_option maxRecDepth 20000 in
theorem ggX5_readItem_X5_readNumbers : GoodIn wsX5_readItem wsX5_readNumbers := goodIn_r _ [10, 11, 12, 13, 14, 5, 15, 16, 17, 18, 19, 2, 20, 1, 21, 22, 23, 24, 95, 96, 97, 98] (by decide +kernel) (by decide +kernel)
set_option maxRecDepth 20000 in
theorem gX5_readItem_X5_readNumbers : GoodIn wsX5_readItem (wsV RX5 40 RX5 yX5_readNumbers wsX5_readNumbers) := goodIn_app (goodIn_of _ (by decide +kernel)) ggX5_readItem_X5_readNumbers
set_option maxRecDepth 20000 in
theorem ggX5_readItem_X5_tellItem : GoodIn wsX5_readItem wsX5_tellItem := goodIn_r _ [28, 29, 30, 31, 32, 5, 33, 11, 34, 35, 36, 37, 38, 39, 40, 41, 42, 43, 44, 45, 46, 47, 48, 49, 50, 51, 52, 53, 54, 55, 56, 57, 58, 59, 60, 61, 62, 63, 64, 65, 66, 67, 68, 69, 70, 71, 72, 73, 74, 75, 76, 77, 78, 79, 80, 81, 82, 83, 84, 85, 86, 87, 88, 89, 90, 91, 92, 93, 94, 99, 100, 101, 102, 103, 104, 105, 106, 107, 95, 96, 97, 98] (by decide +kernel) (by decide +kernel)
set_option maxRecDepth 20000 in
theorem gX5_readItem_X5_tellItem : GoodIn wsX5_readItem (wsV RX5 44 RX5 yX5_tellItem wsX5_tellItem) := goodIn_app (goodIn_of _ (by decide +kernel)) ggX5_readItem_X5_tellItem
theorem dX5_readItem_0 : decode cX5_readItem 0 = .ok (.aload_n 0, 1) := by decide +kernel
theorem dX5_readItem_1 : decode cX5_readItem 1 = .ok (.getfield 9, 3) := by decide +kernel
theorem dX5_readItem_4 : decode cX5_readItem 4 = .ok (.aload_n 0, 1) := by decide +kernel
theorem dX5_readItem_5 : decode cX5_readItem 5 = .ok (.getfield 25, 3) := by decide +kernel
theorem dX5_readItem_8 : decode cX5_readItem 8 = .ok (.caload, 1) := by decide +kernel
theorem dX5_readItem_9 : decode cX5_readItem 9 = .ok (.istore_n 2, 1) := by decide +kernel
theorem dX5_readItem_10 : decode cX5_readItem 10 = .ok (.aload_n 0, 1) := by decide +kernel
theorem dX5_readItem_11 : decode cX5_readItem 11 = .ok (.dup, 1) := by decide +kernel
theorem dX5_readItem_12 : decode cX5_readItem 12 = .ok (.getfield 25, 3) := by decide +kernel
theorem dX5_readItem_15 : decode cX5_readItem 15 = .ok (.iconst 1, 1) := by decide +kernel
theorem dX5_readItem_16 : decode cX5_readItem 16 = .ok (.iadd, 1) := by decide +kernel
theorem dX5_readItem_17 : decode cX5_readItem 17 = .ok (.putfield 25, 3) := by decide +kernel
theorem dX5_readItem_20 : decode cX5_readItem 20 = .ok (.iload_n 2, 1) := by decide +kernel
theorem dX5_readItem_21 : decode cX5_readItem 21 = .ok (.invokestatic 36, 3) := by decide +kernel
theorem dX5_readItem_24 : decode cX5_readItem 24 = .ok (.istore_n 3, 1) := by decide +kernel
theorem dX5_readItem_25 : decode cX5_readItem 25 = .ok (.iload_n 3, 1) := by decide +kernel
theorem dX5_readItem_26 : decode cX5_readItem 26 = .ok (.ifCond .le 24, 3) := by decide +kernel
theorem dX5_readItem_29 : decode cX5_readItem 29 = .ok (.aload_n 0, 1) := by decide +kernel
theorem dX5_readItem_30 : decode cX5_readItem 30 = .ok (.iload_n 3, 1) := by decide +kernel
theorem dX5_readItem_31 : decode cX5_readItem 31 = .ok (.invokevirtual 40, 3) := by decide +kernel
theorem dX5_readItem_34 : decode cX5_readItem 34 = .ok (.ifCond .eq 16, 3) := by decide +kernel
theorem dX5_readItem_37 : decode cX5_readItem 37 = .ok (.aload_n 0, 1) := by decide +kernel
theorem dX5_readItem_38 : decode cX5_readItem 38 = .ok (.aload_n 1, 1) := by decide +kernel
theorem dX5_readItem_39 : decode cX5_readItem 39 = .ok (.iload_n 2, 1) := by decide +kernel
theorem dX5_readItem_40 : decode cX5_readItem 40 = .ok (.invokevirtual 44, 3) := by decide +kernel
theorem dX5_readItem_43 : decode cX5_readItem 43 = .ok (.ifCond .eq 7, 3) := by decide +kernel
theorem dX5_readItem_46 : decode cX5_readItem 46 = .ok (.iconst 1, 1) := by decide +kernel
theorem dX5_readItem_47 : decode cX5_readItem 47 = .ok (.goto 4, 3) := by decide +kernel
theorem dX5_readItem_50 : decode cX5_readItem 50 = .ok (.iconst 0, 1) := by decide +kernel
theorem dX5_readItem_51 : decode cX5_readItem 51 = .ok (.ireturn, 1) := by decide +kernel
theorem dX5_numbersBehind_0 : decode cX5_numbersBehind 0 = .ok (.iload_n 0, 1) := by decide +kernel
theorem dX5_numbersBehind_1 : decode cX5_numbersBehind 1 = .ok (.bipush 110, 2) := by decide +kernel
theorem dX5_numbersBehind_3 : decode cX5_numbersBehind 3 = .ok (.if_icmp .ne 5, 3) := by decide +kernel
theorem dX5_numbersBehind_6 : decode cX5_numbersBehind 6 = .ok (.iconst 1, 1) := by decide +kernel
theorem dX5_numbersBehind_7 : decode cX5_numbersBehind 7 = .ok (.ireturn, 1) := by decide +kernel
theorem dX5_numbersBehind_8 : decode cX5_numbersBehind 8 = .ok (.iload_n 0, 1) := by decide +kernel
theorem dX5_numbersBehind_9 : decode cX5_numbersBehind 9 = .ok (.bipush 111, 2) := by decide +kernel
theorem dX5_numbersBehind_11 : decode cX5_numbersBehind 11 = .ok (.if_icmp .eq 9, 3) := by decide +kernel
theorem dX5_numbersBehind_14 : decode cX5_numbersBehind 14 = .ok (.iload_n 0, 1) := by decide +kernel
theorem dX5_numbersBehind_15 : decode cX5_numbersBehind 15 = .ok (.bipush 99, 2) := by decide +kernel
theorem dX5_numbersBehind_17 : decode cX5_numbersBehind 17 = .ok (.if_icmp .ne 5, 3) := by decide +kernel
theorem dX5_numbersBehind_20 : decode cX5_numbersBehind 20 = .ok (.iconst 2, 1) := by decide +kernel
theorem dX5_numbersBehind_21 : decode cX5_numbersBehind 21 = .ok (.ireturn, 1) := by decide +kernel
theorem dX5_numbersBehind_22 : decode cX5_numbersBehind 22 = .ok (.iload_n 0, 1) := by decide +kernel
theorem dX5_numbersBehind_23 : decode cX5_numbersBehind 23 = .ok (.bipush 103, 2) := by decide +kernel
theorem dX5_numbersBehind_25 : decode cX5_numbersBehind 25 = .ok (.if_icmp .ne 7, 3) := by decide +kernel
theorem dX5_numbersBehind_28 : decode cX5_numbersBehind 28 = .ok (.iconst 3, 1) := by decide +kernel
theorem dX5_numbersBehind_29 : decode cX5_numbersBehind 29 = .ok (.goto 4, 3) := by decide +kernel
theorem dX5_numbersBehind_32 : decode cX5_numbersBehind 32 = .ok (.iconst 0, 1) := by decide +kernel
theorem dX5_numbersBehind_33 : decode cX5_numbersBehind 33 = .ok (.ireturn, 1) := by decide +kernel
set_option maxRecDepth 20000 in
theorem ggX5_readNumbers_X5_readNumber : GoodIn wsX5_readNumbers wsX5_readNumber := goodIn_r _ [6, 7, 8, 9, 5, 10, 11, 12, 13, 18, 19, 20, 21] (by decide +kernel) (by decide +kernel)
set_option maxRecDepth 20000 in
theorem gX5_readNumbers_X5_readNumber : GoodIn wsX5_readNumbers (wsV RX5 48 RX5 yX5_readNumber wsX5_readNumber) := goodIn_app (goodIn_of _ (by decide +kernel)) ggX5_readNumbers_X5_readNumber
set_option maxRecDepth 20000 in
theorem ggX5_readNumbers_X5_readSign : GoodIn wsX5_readNumbers wsX5_readSign := goodIn_r _ [17, 11, 12, 13, 18, 19, 20, 21] (by decide +kernel) (by decide +kernel)
set_option maxRecDepth 20000 in
theorem gX5_readNumbers_X5_readSign : GoodIn wsX5_readNumbers (wsV RX5 52 RX5 yX5_readSign wsX5_readSign) := goodIn_app (goodIn_of _ (by decide +kernel)) ggX5_readNumbers_X5_readSign
theorem dX5_readNumbers_0 : decode cX5_readNumbers 0 = .ok (.iconst 0, 1) := by decide +kernel
theorem dX5_readNumbers_1 : decode cX5_readNumbers 1 = .ok (.istore_n 2, 1) := by decide +kernel
theorem dX5_readNumbers_2 : decode cX5_readNumbers 2 = .ok (.iload_n 2, 1) := by decide +kernel
theorem dX5_readNumbers_3 : decode cX5_readNumbers 3 = .ok (.iload_n 1, 1) := by decide +kernel
theorem dX5_readNumbers_4 : decode cX5_readNumbers 4 = .ok (.if_icmp .ge 54, 3) := by decide +kernel
theorem dX5_readNumbers_7 : decode cX5_readNumbers 7 = .ok (.aload_n 0, 1) := by decide +kernel
theorem dX5_readNumbers_8 : decode cX5_readNumbers 8 = .ok (.getfield 15, 3) := by decide +kernel
theorem dX5_readNumbers_11 : decode cX5_readNumbers 11 = .ok (.iload_n 2, 1) := by decide +kernel
theorem dX5_readNumbers_12 : decode cX5_readNumbers 12 = .ok (.aload_n 0, 1) := by decide +kernel
theorem dX5_readNumbers_13 : decode cX5_readNumbers 13 = .ok (.invokevirtual 48, 3) := by decide +kernel
theorem dX5_readNumbers_16 : decode cX5_readNumbers 16 = .ok (.iastore, 1) := by decide +kernel
theorem dX5_readNumbers_17 : decode cX5_readNumbers 17 = .ok (.iload_n 2, 1) := by decide +kernel
theorem dX5_readNumbers_18 : decode cX5_readNumbers 18 = .ok (.iconst 1, 1) := by decide +kernel
theorem dX5_readNumbers_19 : decode cX5_readNumbers 19 = .ok (.iadd, 1) := by decide +kernel
theorem dX5_readNumbers_20 : decode cX5_readNumbers 20 = .ok (.iload_n 1, 1) := by decide +kernel
theorem dX5_readNumbers_21 : decode cX5_readNumbers 21 = .ok (.if_icmp .ge 8, 3) := by decide +kernel
theorem dX5_readNumbers_24 : decode cX5_readNumbers 24 = .ok (.bipush 44, 2) := by decide +kernel
theorem dX5_readNumbers_26 : decode cX5_readNumbers 26 = .ok (.goto 5, 3) := by decide +kernel
theorem dX5_readNumbers_29 : decode cX5_readNumbers 29 = .ok (.bipush 59, 2) := by decide +kernel
theorem dX5_readNumbers_31 : decode cX5_readNumbers 31 = .ok (.istore_n 3, 1) := by decide +kernel
theorem dX5_readNumbers_32 : decode cX5_readNumbers 32 = .ok (.aload_n 0, 1) := by decide +kernel
theorem dX5_readNumbers_33 : decode cX5_readNumbers 33 = .ok (.getfield 15, 3) := by decide +kernel
theorem dX5_readNumbers_36 : decode cX5_readNumbers 36 = .ok (.iload_n 2, 1) := by decide +kernel
theorem dX5_readNumbers_37 : decode cX5_readNumbers 37 = .ok (.iaload, 1) := by decide +kernel
theorem dX5_readNumbers_38 : decode cX5_readNumbers 38 = .ok (.iconst (-1), 1) := by decide +kernel
theorem dX5_readNumbers_39 : decode cX5_readNumbers 39 = .ok (.if_icmp .eq 11, 3) := by decide +kernel
theorem dX5_readNumbers_42 : decode cX5_readNumbers 42 = .ok (.aload_n 0, 1) := by decide +kernel
theorem dX5_readNumbers_43 : decode cX5_readNumbers 43 = .ok (.iload_n 3, 1) := by decide +kernel
theorem dX5_readNumbers_44 : decode cX5_readNumbers 44 = .ok (.invokevirtual 52, 3) := by decide +kernel
theorem dX5_readNumbers_47 : decode cX5_readNumbers 47 = .ok (.ifCond .ne 5, 3) := by decide +kernel
theorem dX5_readNumbers_50 : decode cX5_readNumbers 50 = .ok (.iconst 0, 1) := by decide +kernel
theorem dX5_readNumbers_51 : decode cX5_readNumbers 51 = .ok (.ireturn, 1) := by decide +kernel
theorem dX5_readNumbers_52 : decode cX5_readNumbers 52 = .ok (.iinc 2 1, 3) := by decide +kernel
theorem dX5_readNumbers_55 : decode cX5_readNumbers 55 = .ok (.goto (-53), 3) := by decide +kernel
theorem dX5_readNumbers_58 : decode cX5_readNumbers 58 = .ok (.iconst 1, 1) := by decide +kernel
theorem dX5_readNumbers_59 : decode cX5_readNumbers 59 = .ok (.ireturn, 1) := by decide +kernel
set_option maxRecDepth 20000 in
theorem ggX5_readNumber_X5_readFigure : GoodIn wsX5_readNumber wsX5_readFigure := goodIn_r _ [5, 6, 7, 8, 9, 10, 11, 12] (by decide +kernel) (by decide +kernel)
set_option maxRecDepth 20000 in
theorem gX5_readNumber_X5_readFigure : GoodIn wsX5_readNumber (wsV RX5 56 RX5 yX5_readFigure wsX5_readFigure) := goodIn_app (goodIn_of _ (by decide +kernel)) ggX5_readNumber_X5_readFigure
theorem dX5_readNumber_0 : decode cX5_readNumber 0 = .ok (.aload_n 0, 1) := by decide +kernel
theorem dX5_readNumber_1 : decode cX5_readNumber 1 = .ok (.invokevirtual 56, 3) := by decide +kernel
theorem dX5_readNumber_4 : decode cX5_readNumber 4 = .ok (.istore_n 1, 1) := by decide +kernel
theorem dX5_readNumber_5 : decode cX5_readNumber 5 = .ok (.iload_n 1, 1) := by decide +kernel
theorem dX5_readNumber_6 : decode cX5_readNumber 6 = .ok (.iconst (-1), 1) := by decide +kernel
theorem dX5_readNumber_7 : decode cX5_readNumber 7 = .ok (.if_icmp .ne 5, 3) := by decide +kernel
theorem dX5_readNumber_10 : decode cX5_readNumber 10 = .ok (.iconst (-1), 1) := by decide +kernel
theorem dX5_readNumber_11 : decode cX5_readNumber 11 = .ok (.ireturn, 1) := by decide +kernel
theorem dX5_readNumber_12 : decode cX5_readNumber 12 = .ok (.aload_n 0, 1) := by decide +kernel
theorem dX5_readNumber_13 : decode cX5_readNumber 13 = .ok (.invokevirtual 56, 3) := by decide +kernel
theorem dX5_readNumber_16 : decode cX5_readNumber 16 = .ok (.istore_n 2, 1) := by decide +kernel
theorem dX5_readNumber_17 : decode cX5_readNumber 17 = .ok (.iload_n 2, 1) := by decide +kernel
theorem dX5_readNumber_18 : decode cX5_readNumber 18 = .ok (.iconst (-1), 1) := by decide +kernel
theorem dX5_readNumber_19 : decode cX5_readNumber 19 = .ok (.if_icmp .ne 7, 3) := by decide +kernel
theorem dX5_readNumber_22 : decode cX5_readNumber 22 = .ok (.iload_n 1, 1) := by decide +kernel
theorem dX5_readNumber_23 : decode cX5_readNumber 23 = .ok (.goto 9, 3) := by decide +kernel
theorem dX5_readNumber_26 : decode cX5_readNumber 26 = .ok (.bipush 10, 2) := by decide +kernel
theorem dX5_readNumber_28 : decode cX5_readNumber 28 = .ok (.iload_n 1, 1) := by decide +kernel
theorem dX5_readNumber_29 : decode cX5_readNumber 29 = .ok (.imul, 1) := by decide +kernel
theorem dX5_readNumber_30 : decode cX5_readNumber 30 = .ok (.iload_n 2, 1) := by decide +kernel
theorem dX5_readNumber_31 : decode cX5_readNumber 31 = .ok (.iadd, 1) := by decide +kernel
theorem dX5_readNumber_32 : decode cX5_readNumber 32 = .ok (.ireturn, 1) := by decide +kernel
theorem dX5_readFigure_0 : decode cX5_readFigure 0 = .ok (.aload_n 0, 1) := by decide +kernel
theorem dX5_readFigure_1 : decode cX5_readFigure 1 = .ok (.getfield 25, 3) := by decide +kernel
theorem dX5_readFigure_4 : decode cX5_readFigure 4 = .ok (.aload_n 0, 1) := by decide +kernel
theorem dX5_readFigure_5 : decode cX5_readFigure 5 = .ok (.getfield 29, 3) := by decide +kernel
theorem dX5_readFigure_8 : decode cX5_readFigure 8 = .ok (.if_icmp .ge 31, 3) := by decide +kernel
theorem dX5_readFigure_11 : decode cX5_readFigure 11 = .ok (.aload_n 0, 1) := by decide +kernel
theorem dX5_readFigure_12 : decode cX5_readFigure 12 = .ok (.getfield 9, 3) := by decide +kernel
theorem dX5_readFigure_15 : decode cX5_readFigure 15 = .ok (.aload_n 0, 1) := by decide +kernel
theorem dX5_readFigure_16 : decode cX5_readFigure 16 = .ok (.getfield 25, 3) := by decide +kernel
theorem dX5_readFigure_19 : decode cX5_readFigure 19 = .ok (.caload, 1) := by decide +kernel
theorem dX5_readFigure_20 : decode cX5_readFigure 20 = .ok (.bipush 48, 2) := by decide +kernel
theorem dX5_readFigure_22 : decode cX5_readFigure 22 = .ok (.if_icmp .lt 17, 3) := by decide +kernel
theorem dX5_readFigure_25 : decode cX5_readFigure 25 = .ok (.aload_n 0, 1) := by decide +kernel
theorem dX5_readFigure_26 : decode cX5_readFigure 26 = .ok (.getfield 9, 3) := by decide +kernel
theorem dX5_readFigure_29 : decode cX5_readFigure 29 = .ok (.aload_n 0, 1) := by decide +kernel
theorem dX5_readFigure_30 : decode cX5_readFigure 30 = .ok (.getfield 25, 3) := by decide +kernel
theorem dX5_readFigure_33 : decode cX5_readFigure 33 = .ok (.caload, 1) := by decide +kernel
theorem dX5_readFigure_34 : decode cX5_readFigure 34 = .ok (.bipush 57, 2) := by decide +kernel
theorem dX5_readFigure_36 : decode cX5_readFigure 36 = .ok (.if_icmp .le 5, 3) := by decide +kernel
theorem dX5_readFigure_39 : decode cX5_readFigure 39 = .ok (.iconst (-1), 1) := by decide +kernel
theorem dX5_readFigure_40 : decode cX5_readFigure 40 = .ok (.ireturn, 1) := by decide +kernel
theorem dX5_readFigure_41 : decode cX5_readFigure 41 = .ok (.aload_n 0, 1) := by decide +kernel
theorem dX5_readFigure_42 : decode cX5_readFigure 42 = .ok (.getfield 9, 3) := by decide +kernel
theorem dX5_readFigure_45 : decode cX5_readFigure 45 = .ok (.aload_n 0, 1) := by decide +kernel
theorem dX5_readFigure_46 : decode cX5_readFigure 46 = .ok (.getfield 25, 3) := by decide +kernel
theorem dX5_readFigure_49 : decode cX5_readFigure 49 = .ok (.caload, 1) := by decide +kernel
theorem dX5_readFigure_50 : decode cX5_readFigure 50 = .ok (.bipush 48, 2) := by decide +kernel
theorem dX5_readFigure_52 : decode cX5_readFigure 52 = .ok (.isub, 1) := by decide +kernel
theorem dX5_readFigure_53 : decode cX5_readFigure 53 = .ok (.istore_n 1, 1) := by decide +kernel
theorem dX5_readFigure_54 : decode cX5_readFigure 54 = .ok (.aload_n 0, 1) := by decide +kernel
theorem dX5_readFigure_55 : decode cX5_readFigure 55 = .ok (.dup, 1) := by decide +kernel
theorem dX5_readFigure_56 : decode cX5_readFigure 56 = .ok (.getfield 25, 3) := by decide +kernel
theorem dX5_readFigure_59 : decode cX5_readFigure 59 = .ok (.iconst 1, 1) := by decide +kernel
theorem dX5_readFigure_60 : decode cX5_readFigure 60 = .ok (.iadd, 1) := by decide +kernel
theorem dX5_readFigure_61 : decode cX5_readFigure 61 = .ok (.putfield 25, 3) := by decide +kernel
theorem dX5_readFigure_64 : decode cX5_readFigure 64 = .ok (.iload_n 1, 1) := by decide +kernel
theorem dX5_readFigure_65 : decode cX5_readFigure 65 = .ok (.ireturn, 1) := by decide +kernel
theorem dX5_readSign_0 : decode cX5_readSign 0 = .ok (.aload_n 0, 1) := by decide +kernel
theorem dX5_readSign_1 : decode cX5_readSign 1 = .ok (.getfield 25, 3) := by decide +kernel
theorem dX5_readSign_4 : decode cX5_readSign 4 = .ok (.aload_n 0, 1) := by decide +kernel
theorem dX5_readSign_5 : decode cX5_readSign 5 = .ok (.getfield 29, 3) := by decide +kernel
theorem dX5_readSign_8 : decode cX5_readSign 8 = .ok (.if_icmp .ge 16, 3) := by decide +kernel
theorem dX5_readSign_11 : decode cX5_readSign 11 = .ok (.aload_n 0, 1) := by decide +kernel
theorem dX5_readSign_12 : decode cX5_readSign 12 = .ok (.getfield 9, 3) := by decide +kernel
theorem dX5_readSign_15 : decode cX5_readSign 15 = .ok (.aload_n 0, 1) := by decide +kernel
theorem dX5_readSign_16 : decode cX5_readSign 16 = .ok (.getfield 25, 3) := by decide +kernel
theorem dX5_readSign_19 : decode cX5_readSign 19 = .ok (.caload, 1) := by decide +kernel
theorem dX5_readSign_20 : decode cX5_readSign 20 = .ok (.iload_n 1, 1) := by decide +kernel
theorem dX5_readSign_21 : decode cX5_readSign 21 = .ok (.if_icmp .eq 5, 3) := by decide +kernel
theorem dX5_readSign_24 : decode cX5_readSign 24 = .ok (.iconst 0, 1) := by decide +kernel
theorem dX5_readSign_25 : decode cX5_readSign 25 = .ok (.ireturn, 1) := by decide +kernel
theorem dX5_readSign_26 : decode cX5_readSign 26 = .ok (.aload_n 0, 1) := by decide +kernel
theorem dX5_readSign_27 : decode cX5_readSign 27 = .ok (.dup, 1) := by decide +kernel
theorem dX5_readSign_28 : decode cX5_readSign 28 = .ok (.getfield 25, 3) := by decide +kernel
theorem dX5_readSign_31 : decode cX5_readSign 31 = .ok (.iconst 1, 1) := by decide +kernel
theorem dX5_readSign_32 : decode cX5_readSign 32 = .ok (.iadd, 1) := by decide +kernel
theorem dX5_readSign_33 : decode cX5_readSign 33 = .ok (.putfield 25, 3) := by decide +kernel
theorem dX5_readSign_36 : decode cX5_readSign 36 = .ok (.iconst 1, 1) := by decide +kernel
theorem dX5_readSign_37 : decode cX5_readSign 37 = .ok (.ireturn, 1) := by decide +kernel
set_option maxRecDepth 20000 in
theorem ggX5_tellItem_X5_tellInputs : GoodIn wsX5_tellItem wsX5_tellInputs := goodIn_r _ [6, 7, 1, 8, 9, 10, 11, 12, 13, 14, 15, 16, 17, 18, 19, 20, 21, 22, 23, 24, 25, 26, 78, 79, 80, 81, 69, 70, 71, 72, 73, 74, 75, 76, 77] (by decide +kernel) (by decide +kernel)
set_option maxRecDepth 20000 in
theorem gX5_tellItem_X5_tellInputs : GoodIn wsX5_tellItem (wsV RX5 59 RX5 yX5_tellInputs wsX5_tellInputs) := goodIn_app (goodIn_of _ (by decide +kernel)) ggX5_tellItem_X5_tellInputs
set_option maxRecDepth 20000 in
theorem ggX5_tellItem_X5_tellGate : GoodIn wsX5_tellItem wsX5_tellGate := goodIn_r _ [30, 31, 7, 32, 33, 34, 11, 35, 13, 36, 37, 38, 39, 14, 40, 41, 42, 43, 44, 45, 46, 69, 70, 71, 72, 73, 74, 75, 76, 77, 78, 79, 80, 81] (by decide +kernel) (by decide +kernel)
set_option maxRecDepth 20000 in
theorem gX5_tellItem_X5_tellGate : GoodIn wsX5_tellItem (wsV RX5 65 RX5 yX5_tellGate wsX5_tellGate) := goodIn_app (goodIn_of _ (by decide +kernel)) ggX5_tellItem_X5_tellGate
set_option maxRecDepth 20000 in
theorem ggX5_tellItem_X5_tellRails : GoodIn wsX5_tellItem wsX5_tellRails := goodIn_r _ [50, 7, 51, 52, 53, 11, 54, 55, 56, 57, 58, 13, 14, 59, 16, 17, 18, 19, 20, 78, 79, 80, 81, 69, 70, 71, 72, 73, 74, 75, 76, 77] (by decide +kernel) (by decide +kernel)
set_option maxRecDepth 20000 in
theorem gX5_tellItem_X5_tellRails : GoodIn wsX5_tellItem (wsV RX5 68 RX5 yX5_tellRails wsX5_tellRails) := goodIn_app (goodIn_of _ (by decide +kernel)) ggX5_tellItem_X5_tellRails
set_option maxRecDepth 20000 in
theorem ggX5_tellItem_X5_tellCode : GoodIn wsX5_tellItem wsX5_tellCode := goodIn_r _ [63, 7, 64, 65, 66, 11, 67, 13, 68, 22, 23, 24, 25, 26, 78, 79, 80, 81, 69, 70, 71, 72, 73, 74, 75, 76, 77] (by decide +kernel) (by decide +kernel)
set_option maxRecDepth 20000 in
theorem gX5_tellItem_X5_tellCode : GoodIn wsX5_tellItem (wsV RX5 71 RX5 yX5_tellCode wsX5_tellCode) := goodIn_app (goodIn_of _ (by decide +kernel)) ggX5_tellItem_X5_tellCode
theorem dX5_tellItem_0 : decode cX5_tellItem 0 = .ok (.iload_n 2, 1) := by decide +kernel
theorem dX5_tellItem_1 : decode cX5_tellItem 1 = .ok (.bipush 110, 2) := by decide +kernel
theorem dX5_tellItem_3 : decode cX5_tellItem 3 = .ok (.if_icmp .ne 9, 3) := by decide +kernel
theorem dX5_tellItem_6 : decode cX5_tellItem 6 = .ok (.aload_n 0, 1) := by decide +kernel
theorem dX5_tellItem_7 : decode cX5_tellItem 7 = .ok (.aload_n 1, 1) := by decide +kernel
theorem dX5_tellItem_8 : decode cX5_tellItem 8 = .ok (.invokevirtual 59, 3) := by decide +kernel
theorem dX5_tellItem_11 : decode cX5_tellItem 11 = .ok (.ireturn, 1) := by decide +kernel
theorem dX5_tellItem_12 : decode cX5_tellItem 12 = .ok (.aload_n 1, 1) := by decide +kernel
theorem dX5_tellItem_13 : decode cX5_tellItem 13 = .ok (.getfield 62, 3) := by decide +kernel
theorem dX5_tellItem_16 : decode cX5_tellItem 16 = .ok (.ifCond .ne 5, 3) := by decide +kernel
theorem dX5_tellItem_19 : decode cX5_tellItem 19 = .ok (.iconst 0, 1) := by decide +kernel
theorem dX5_tellItem_20 : decode cX5_tellItem 20 = .ok (.ireturn, 1) := by decide +kernel
theorem dX5_tellItem_21 : decode cX5_tellItem 21 = .ok (.iload_n 2, 1) := by decide +kernel
theorem dX5_tellItem_22 : decode cX5_tellItem 22 = .ok (.bipush 103, 2) := by decide +kernel
theorem dX5_tellItem_24 : decode cX5_tellItem 24 = .ok (.if_icmp .ne 9, 3) := by decide +kernel
theorem dX5_tellItem_27 : decode cX5_tellItem 27 = .ok (.aload_n 0, 1) := by decide +kernel
theorem dX5_tellItem_28 : decode cX5_tellItem 28 = .ok (.aload_n 1, 1) := by decide +kernel
theorem dX5_tellItem_29 : decode cX5_tellItem 29 = .ok (.invokevirtual 65, 3) := by decide +kernel
theorem dX5_tellItem_32 : decode cX5_tellItem 32 = .ok (.ireturn, 1) := by decide +kernel
theorem dX5_tellItem_33 : decode cX5_tellItem 33 = .ok (.iload_n 2, 1) := by decide +kernel
theorem dX5_tellItem_34 : decode cX5_tellItem 34 = .ok (.bipush 111, 2) := by decide +kernel
theorem dX5_tellItem_36 : decode cX5_tellItem 36 = .ok (.if_icmp .ne 11, 3) := by decide +kernel
theorem dX5_tellItem_39 : decode cX5_tellItem 39 = .ok (.aload_n 0, 1) := by decide +kernel
theorem dX5_tellItem_40 : decode cX5_tellItem 40 = .ok (.aload_n 1, 1) := by decide +kernel
theorem dX5_tellItem_41 : decode cX5_tellItem 41 = .ok (.invokevirtual 68, 3) := by decide +kernel
theorem dX5_tellItem_44 : decode cX5_tellItem 44 = .ok (.goto 8, 3) := by decide +kernel
theorem dX5_tellItem_47 : decode cX5_tellItem 47 = .ok (.aload_n 0, 1) := by decide +kernel
theorem dX5_tellItem_48 : decode cX5_tellItem 48 = .ok (.aload_n 1, 1) := by decide +kernel
theorem dX5_tellItem_49 : decode cX5_tellItem 49 = .ok (.invokevirtual 71, 3) := by decide +kernel
theorem dX5_tellItem_52 : decode cX5_tellItem 52 = .ok (.ireturn, 1) := by decide +kernel
set_option maxRecDepth 20000 in
theorem ggX5_tellInputs_X0_start : GoodIn wsX5_tellInputs wsX0_start := goodIn_r _ [7, 8, 9, 10, 11, 12, 6, 13, 14, 15, 16, 17, 18, 19, 20, 21, 26, 27, 28, 29, 30, 31, 32, 33, 34] (by decide +kernel) (by decide +kernel)
set_option maxRecDepth 20000 in
theorem gX5_tellInputs_X0_start : GoodIn wsX5_tellInputs (wsV RX5 19 RX0 yX0_start wsX0_start) := goodIn_app (goodIn_of _ (by decide +kernel)) ggX5_tellInputs_X0_start
theorem dX5_tellInputs_0 : decode cX5_tellInputs 0 = .ok (.aload_n 0, 1) := by decide +kernel
theorem dX5_tellInputs_1 : decode cX5_tellInputs 1 = .ok (.getfield 15, 3) := by decide +kernel
theorem dX5_tellInputs_4 : decode cX5_tellInputs 4 = .ok (.iconst 0, 1) := by decide +kernel
theorem dX5_tellInputs_5 : decode cX5_tellInputs 5 = .ok (.iaload, 1) := by decide +kernel
theorem dX5_tellInputs_6 : decode cX5_tellInputs 6 = .ok (.istore_n 2, 1) := by decide +kernel
theorem dX5_tellInputs_7 : decode cX5_tellInputs 7 = .ok (.aload_n 1, 1) := by decide +kernel
theorem dX5_tellInputs_8 : decode cX5_tellInputs 8 = .ok (.getfield 62, 3) := by decide +kernel
theorem dX5_tellInputs_11 : decode cX5_tellInputs 11 = .ok (.ifCond .ne 14, 3) := by decide +kernel
theorem dX5_tellInputs_14 : decode cX5_tellInputs 14 = .ok (.iload_n 2, 1) := by decide +kernel
theorem dX5_tellInputs_15 : decode cX5_tellInputs 15 = .ok (.iconst 1, 1) := by decide +kernel
theorem dX5_tellInputs_16 : decode cX5_tellInputs 16 = .ok (.if_icmp .lt 9, 3) := by decide +kernel
theorem dX5_tellInputs_19 : decode cX5_tellInputs 19 = .ok (.iload_n 2, 1) := by decide +kernel
theorem dX5_tellInputs_20 : decode cX5_tellInputs 20 = .ok (.bipush 8, 2) := by decide +kernel
theorem dX5_tellInputs_22 : decode cX5_tellInputs 22 = .ok (.if_icmp .le 5, 3) := by decide +kernel
theorem dX5_tellInputs_25 : decode cX5_tellInputs 25 = .ok (.iconst 0, 1) := by decide +kernel
theorem dX5_tellInputs_26 : decode cX5_tellInputs 26 = .ok (.ireturn, 1) := by decide +kernel
theorem dX5_tellInputs_27 : decode cX5_tellInputs 27 = .ok (.aload_n 1, 1) := by decide +kernel
theorem dX5_tellInputs_28 : decode cX5_tellInputs 28 = .ok (.iload_n 2, 1) := by decide +kernel
theorem dX5_tellInputs_29 : decode cX5_tellInputs 29 = .ok (.invokevirtual 19, 3) := by decide +kernel
theorem dX5_tellInputs_32 : decode cX5_tellInputs 32 = .ok (.iconst 1, 1) := by decide +kernel
theorem dX5_tellInputs_33 : decode cX5_tellInputs 33 = .ok (.ireturn, 1) := by decide +kernel
set_option maxRecDepth 20000 in
theorem ggX5_tellGate_X0_canHaveGate : GoodIn wsX5_tellGate wsX0_canHaveGate := goodIn_r _ [7, 8, 21, 22, 23, 24, 25, 26, 27, 28, 29] (by decide +kernel) (by decide +kernel)
set_option maxRecDepth 20000 in
theorem gX5_tellGate_X0_canHaveGate : GoodIn wsX5_tellGate (wsV RX5 77 RX0 yX0_canHaveGate wsX0_canHaveGate) := goodIn_app (goodIn_of _ (by decide +kernel)) ggX5_tellGate_X0_canHaveGate
set_option maxRecDepth 20000 in
theorem ggX5_tellGate_X0_appendGate : GoodIn wsX5_tellGate wsX0_appendGate := goodIn_r _ [12, 13, 14, 15, 16, 6, 17, 18, 19, 20, 21, 22, 23, 24, 25, 26, 27, 28, 29] (by decide +kernel) (by decide +kernel)
set_option maxRecDepth 20000 in
theorem gX5_tellGate_X0_appendGate : GoodIn wsX5_tellGate (wsV RX5 81 RX0 yX0_appendGate wsX0_appendGate) := goodIn_app (goodIn_of _ (by decide +kernel)) ggX5_tellGate_X0_appendGate
theorem dX5_tellGate_0 : decode cX5_tellGate 0 = .ok (.aload_n 1, 1) := by decide +kernel
theorem dX5_tellGate_1 : decode cX5_tellGate 1 = .ok (.getfield 74, 3) := by decide +kernel
theorem dX5_tellGate_4 : decode cX5_tellGate 4 = .ok (.bipush 24, 2) := by decide +kernel
theorem dX5_tellGate_6 : decode cX5_tellGate 6 = .ok (.if_icmp .ge 32, 3) := by decide +kernel
theorem dX5_tellGate_9 : decode cX5_tellGate 9 = .ok (.aload_n 1, 1) := by decide +kernel
theorem dX5_tellGate_10 : decode cX5_tellGate 10 = .ok (.aload_n 1, 1) := by decide +kernel
theorem dX5_tellGate_11 : decode cX5_tellGate 11 = .ok (.getfield 74, 3) := by decide +kernel
theorem dX5_tellGate_14 : decode cX5_tellGate 14 = .ok (.aload_n 0, 1) := by decide +kernel
theorem dX5_tellGate_15 : decode cX5_tellGate 15 = .ok (.getfield 15, 3) := by decide +kernel
theorem dX5_tellGate_18 : decode cX5_tellGate 18 = .ok (.iconst 0, 1) := by decide +kernel
theorem dX5_tellGate_19 : decode cX5_tellGate 19 = .ok (.iaload, 1) := by decide +kernel
theorem dX5_tellGate_20 : decode cX5_tellGate 20 = .ok (.aload_n 0, 1) := by decide +kernel
theorem dX5_tellGate_21 : decode cX5_tellGate 21 = .ok (.getfield 15, 3) := by decide +kernel
theorem dX5_tellGate_24 : decode cX5_tellGate 24 = .ok (.iconst 1, 1) := by decide +kernel
theorem dX5_tellGate_25 : decode cX5_tellGate 25 = .ok (.iaload, 1) := by decide +kernel
theorem dX5_tellGate_26 : decode cX5_tellGate 26 = .ok (.aload_n 0, 1) := by decide +kernel
theorem dX5_tellGate_27 : decode cX5_tellGate 27 = .ok (.getfield 15, 3) := by decide +kernel
theorem dX5_tellGate_30 : decode cX5_tellGate 30 = .ok (.iconst 2, 1) := by decide +kernel
theorem dX5_tellGate_31 : decode cX5_tellGate 31 = .ok (.iaload, 1) := by decide +kernel
theorem dX5_tellGate_32 : decode cX5_tellGate 32 = .ok (.invokevirtual 77, 3) := by decide +kernel
theorem dX5_tellGate_35 : decode cX5_tellGate 35 = .ok (.ifCond .ne 5, 3) := by decide +kernel
theorem dX5_tellGate_38 : decode cX5_tellGate 38 = .ok (.iconst 0, 1) := by decide +kernel
theorem dX5_tellGate_39 : decode cX5_tellGate 39 = .ok (.ireturn, 1) := by decide +kernel
theorem dX5_tellGate_40 : decode cX5_tellGate 40 = .ok (.aload_n 1, 1) := by decide +kernel
theorem dX5_tellGate_41 : decode cX5_tellGate 41 = .ok (.aload_n 0, 1) := by decide +kernel
theorem dX5_tellGate_42 : decode cX5_tellGate 42 = .ok (.getfield 15, 3) := by decide +kernel
theorem dX5_tellGate_45 : decode cX5_tellGate 45 = .ok (.iconst 0, 1) := by decide +kernel
theorem dX5_tellGate_46 : decode cX5_tellGate 46 = .ok (.iaload, 1) := by decide +kernel
theorem dX5_tellGate_47 : decode cX5_tellGate 47 = .ok (.aload_n 0, 1) := by decide +kernel
theorem dX5_tellGate_48 : decode cX5_tellGate 48 = .ok (.getfield 15, 3) := by decide +kernel
theorem dX5_tellGate_51 : decode cX5_tellGate 51 = .ok (.iconst 1, 1) := by decide +kernel
theorem dX5_tellGate_52 : decode cX5_tellGate 52 = .ok (.iaload, 1) := by decide +kernel
theorem dX5_tellGate_53 : decode cX5_tellGate 53 = .ok (.aload_n 0, 1) := by decide +kernel
theorem dX5_tellGate_54 : decode cX5_tellGate 54 = .ok (.getfield 15, 3) := by decide +kernel
theorem dX5_tellGate_57 : decode cX5_tellGate 57 = .ok (.iconst 2, 1) := by decide +kernel
theorem dX5_tellGate_58 : decode cX5_tellGate 58 = .ok (.iaload, 1) := by decide +kernel
theorem dX5_tellGate_59 : decode cX5_tellGate 59 = .ok (.invokevirtual 81, 3) := by decide +kernel
theorem dX5_tellGate_62 : decode cX5_tellGate 62 = .ok (.iconst 1, 1) := by decide +kernel
theorem dX5_tellGate_63 : decode cX5_tellGate 63 = .ok (.ireturn, 1) := by decide +kernel
set_option maxRecDepth 20000 in
theorem ggX5_tellRails_X0_hasWire : GoodIn wsX5_tellRails wsX0_hasWire := goodIn_r _ [6, 7, 8, 9, 5, 10, 11, 12, 23, 24, 25, 26, 27, 28, 29, 30, 31] (by decide +kernel) (by decide +kernel)
set_option maxRecDepth 20000 in
theorem gX5_tellRails_X0_hasWire : GoodIn wsX5_tellRails (wsV RX5 85 RX0 yX0_hasWire wsX0_hasWire) := goodIn_app (goodIn_of _ (by decide +kernel)) ggX5_tellRails_X0_hasWire
set_option maxRecDepth 20000 in
theorem ggX5_tellRails_X0_setRails : GoodIn wsX5_tellRails wsX0_setRails := goodIn_r _ [16, 17, 18, 23, 24, 25, 26, 27, 28, 29, 30, 31] (by decide +kernel) (by decide +kernel)
set_option maxRecDepth 20000 in
theorem gX5_tellRails_X0_setRails : GoodIn wsX5_tellRails (wsV RX5 88 RX0 yX0_setRails wsX0_setRails) := goodIn_app (goodIn_of _ (by decide +kernel)) ggX5_tellRails_X0_setRails
theorem dX5_tellRails_0 : decode cX5_tellRails 0 = .ok (.aload_n 1, 1) := by decide +kernel
theorem dX5_tellRails_1 : decode cX5_tellRails 1 = .ok (.aload_n 0, 1) := by decide +kernel
theorem dX5_tellRails_2 : decode cX5_tellRails 2 = .ok (.getfield 15, 3) := by decide +kernel
theorem dX5_tellRails_5 : decode cX5_tellRails 5 = .ok (.iconst 0, 1) := by decide +kernel
theorem dX5_tellRails_6 : decode cX5_tellRails 6 = .ok (.iaload, 1) := by decide +kernel
theorem dX5_tellRails_7 : decode cX5_tellRails 7 = .ok (.invokevirtual 85, 3) := by decide +kernel
theorem dX5_tellRails_10 : decode cX5_tellRails 10 = .ok (.ifCond .eq 16, 3) := by decide +kernel
theorem dX5_tellRails_13 : decode cX5_tellRails 13 = .ok (.aload_n 1, 1) := by decide +kernel
theorem dX5_tellRails_14 : decode cX5_tellRails 14 = .ok (.aload_n 0, 1) := by decide +kernel
theorem dX5_tellRails_15 : decode cX5_tellRails 15 = .ok (.getfield 15, 3) := by decide +kernel
theorem dX5_tellRails_18 : decode cX5_tellRails 18 = .ok (.iconst 1, 1) := by decide +kernel
theorem dX5_tellRails_19 : decode cX5_tellRails 19 = .ok (.iaload, 1) := by decide +kernel
theorem dX5_tellRails_20 : decode cX5_tellRails 20 = .ok (.invokevirtual 85, 3) := by decide +kernel
theorem dX5_tellRails_23 : decode cX5_tellRails 23 = .ok (.ifCond .ne 5, 3) := by decide +kernel
theorem dX5_tellRails_26 : decode cX5_tellRails 26 = .ok (.iconst 0, 1) := by decide +kernel
theorem dX5_tellRails_27 : decode cX5_tellRails 27 = .ok (.ireturn, 1) := by decide +kernel
theorem dX5_tellRails_28 : decode cX5_tellRails 28 = .ok (.aload_n 1, 1) := by decide +kernel
theorem dX5_tellRails_29 : decode cX5_tellRails 29 = .ok (.aload_n 0, 1) := by decide +kernel
theorem dX5_tellRails_30 : decode cX5_tellRails 30 = .ok (.getfield 15, 3) := by decide +kernel
theorem dX5_tellRails_33 : decode cX5_tellRails 33 = .ok (.iconst 0, 1) := by decide +kernel
theorem dX5_tellRails_34 : decode cX5_tellRails 34 = .ok (.iaload, 1) := by decide +kernel
theorem dX5_tellRails_35 : decode cX5_tellRails 35 = .ok (.aload_n 0, 1) := by decide +kernel
theorem dX5_tellRails_36 : decode cX5_tellRails 36 = .ok (.getfield 15, 3) := by decide +kernel
theorem dX5_tellRails_39 : decode cX5_tellRails 39 = .ok (.iconst 1, 1) := by decide +kernel
theorem dX5_tellRails_40 : decode cX5_tellRails 40 = .ok (.iaload, 1) := by decide +kernel
theorem dX5_tellRails_41 : decode cX5_tellRails 41 = .ok (.invokevirtual 88, 3) := by decide +kernel
theorem dX5_tellRails_44 : decode cX5_tellRails 44 = .ok (.iconst 1, 1) := by decide +kernel
theorem dX5_tellRails_45 : decode cX5_tellRails 45 = .ok (.ireturn, 1) := by decide +kernel
set_option maxRecDepth 20000 in
theorem ggX5_tellCode_X0_canHaveCode : GoodIn wsX5_tellCode wsX0_canHaveCode := goodIn_r _ [6, 7, 18, 19, 20, 21, 22, 23, 24, 25, 26] (by decide +kernel) (by decide +kernel)
set_option maxRecDepth 20000 in
theorem gX5_tellCode_X0_canHaveCode : GoodIn wsX5_tellCode (wsV RX5 92 RX0 yX0_canHaveCode wsX0_canHaveCode) := goodIn_app (goodIn_of _ (by decide +kernel)) ggX5_tellCode_X0_canHaveCode
set_option maxRecDepth 20000 in
theorem ggX5_tellCode_X0_setCode : GoodIn wsX5_tellCode wsX0_setCode := goodIn_r _ [11, 12, 13, 18, 19, 20, 21, 22, 23, 24, 25, 26] (by decide +kernel) (by decide +kernel)
set_option maxRecDepth 20000 in
theorem gX5_tellCode_X0_setCode : GoodIn wsX5_tellCode (wsV RX5 96 RX0 yX0_setCode wsX0_setCode) := goodIn_app (goodIn_of _ (by decide +kernel)) ggX5_tellCode_X0_setCode
theorem dX5_tellCode_0 : decode cX5_tellCode 0 = .ok (.aload_n 1, 1) := by decide +kernel
theorem dX5_tellCode_1 : decode cX5_tellCode 1 = .ok (.aload_n 0, 1) := by decide +kernel
theorem dX5_tellCode_2 : decode cX5_tellCode 2 = .ok (.getfield 15, 3) := by decide +kernel
theorem dX5_tellCode_5 : decode cX5_tellCode 5 = .ok (.iconst 0, 1) := by decide +kernel
theorem dX5_tellCode_6 : decode cX5_tellCode 6 = .ok (.iaload, 1) := by decide +kernel
theorem dX5_tellCode_7 : decode cX5_tellCode 7 = .ok (.aload_n 0, 1) := by decide +kernel
theorem dX5_tellCode_8 : decode cX5_tellCode 8 = .ok (.getfield 15, 3) := by decide +kernel
theorem dX5_tellCode_11 : decode cX5_tellCode 11 = .ok (.iconst 1, 1) := by decide +kernel
theorem dX5_tellCode_12 : decode cX5_tellCode 12 = .ok (.iaload, 1) := by decide +kernel
theorem dX5_tellCode_13 : decode cX5_tellCode 13 = .ok (.invokevirtual 92, 3) := by decide +kernel
theorem dX5_tellCode_16 : decode cX5_tellCode 16 = .ok (.ifCond .ne 5, 3) := by decide +kernel
theorem dX5_tellCode_19 : decode cX5_tellCode 19 = .ok (.iconst 0, 1) := by decide +kernel
theorem dX5_tellCode_20 : decode cX5_tellCode 20 = .ok (.ireturn, 1) := by decide +kernel
theorem dX5_tellCode_21 : decode cX5_tellCode 21 = .ok (.aload_n 1, 1) := by decide +kernel
theorem dX5_tellCode_22 : decode cX5_tellCode 22 = .ok (.aload_n 0, 1) := by decide +kernel
theorem dX5_tellCode_23 : decode cX5_tellCode 23 = .ok (.getfield 15, 3) := by decide +kernel
theorem dX5_tellCode_26 : decode cX5_tellCode 26 = .ok (.iconst 0, 1) := by decide +kernel
theorem dX5_tellCode_27 : decode cX5_tellCode 27 = .ok (.iaload, 1) := by decide +kernel
theorem dX5_tellCode_28 : decode cX5_tellCode 28 = .ok (.aload_n 0, 1) := by decide +kernel
theorem dX5_tellCode_29 : decode cX5_tellCode 29 = .ok (.getfield 15, 3) := by decide +kernel
theorem dX5_tellCode_32 : decode cX5_tellCode 32 = .ok (.iconst 1, 1) := by decide +kernel
theorem dX5_tellCode_33 : decode cX5_tellCode 33 = .ok (.iaload, 1) := by decide +kernel
theorem dX5_tellCode_34 : decode cX5_tellCode 34 = .ok (.invokevirtual 96, 3) := by decide +kernel
theorem dX5_tellCode_37 : decode cX5_tellCode 37 = .ok (.iconst 1, 1) := by decide +kernel
theorem dX5_tellCode_38 : decode cX5_tellCode 38 = .ok (.ireturn, 1) := by decide +kernel
