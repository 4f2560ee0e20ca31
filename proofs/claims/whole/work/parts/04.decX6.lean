set_option maxRecDepth 20000 in
theorem ggX6_init_X5_init : GoodIn wsX6_init wsX5_init := goodIn_r _ [30, 31, 2, 3, 32, 33, 34, 35, 103, 104, 105, 106] (by decide +kernel) (by decide +kernel)
set_option maxRecDepth 20000 in
theorem gX6_init_X5_init_n11 : GoodIn wsX6_init (wsX5_init) := ggX6_init_X5_init
set_option maxRecDepth 20000 in
theorem ggX6_init_X0_init : GoodIn wsX6_init wsX0_init := goodIn_r _ [37, 38, 2, 3, 34, 39, 40, 41, 114, 115, 116, 117, 118, 119, 120, 121, 122] (by decide +kernel) (by decide +kernel)
set_option maxRecDepth 20000 in
theorem gX6_init_X0_init_n18 : GoodIn wsX6_init (wsX0_init) := ggX6_init_X0_init
set_option maxRecDepth 20000 in
theorem ggX6_init_X2_init : GoodIn wsX6_init wsX2_init := goodIn_r _ [44, 45, 2, 3, 46, 47, 9, 10, 36, 37, 38, 34, 39, 40, 41, 123, 124, 114, 115, 116, 117, 118, 119, 120, 121, 122] (by decide +kernel) (by decide +kernel)
set_option maxRecDepth 20000 in
theorem gX6_init_X2_init : GoodIn wsX6_init (wsX2_init) := ggX6_init_X2_init
set_option maxRecDepth 20000 in
theorem ggX6_init_X1_init : GoodIn wsX6_init wsX1_init := goodIn_r _ [49, 50, 2, 3, 34, 51, 52, 125, 126, 127, 128, 129, 130, 131] (by decide +kernel) (by decide +kernel)
set_option maxRecDepth 20000 in
theorem gX6_init_X1_init_n35 : GoodIn wsX6_init (wsX1_init) := ggX6_init_X1_init
set_option maxRecDepth 20000 in
theorem ggX6_init_X3_init : GoodIn wsX6_init wsX3_init := goodIn_r _ [54, 55, 2, 3, 56, 57, 132] (by decide +kernel) (by decide +kernel)
set_option maxRecDepth 20000 in
theorem gX6_init_X3_init_n42 : GoodIn wsX6_init (wsX3_init) := ggX6_init_X3_init
set_option maxRecDepth 20000 in
theorem ggX6_init_X4_init : GoodIn wsX6_init wsX4_init := goodIn_r _ [59, 60, 2, 3, 34, 61, 56, 62, 63, 64, 133, 134, 135, 136, 137, 138, 139, 140, 141, 142, 143, 144, 145] (by decide +kernel) (by decide +kernel)
set_option maxRecDepth 20000 in
theorem gX6_init_X4_init_n49 : GoodIn wsX6_init (wsX4_init) := ggX6_init_X4_init
set_option maxRecDepth 20000 in
theorem ggX6_init_X0_becomeTree : GoodIn wsX6_init wsX0_becomeTree := goodIn_r _ [68, 69, 70, 71, 10, 72, 73, 74, 75, 76, 77, 78, 79, 80, 81, 82, 83, 84, 85, 86, 87, 88, 89, 90, 91, 92, 93, 94, 95, 96, 97, 98, 99, 100, 101, 102, 39, 40, 41, 114, 115, 116, 117, 118, 119, 120, 121, 122] (by decide +kernel) (by decide +kernel)
set_option maxRecDepth 20000 in
theorem gX6_init_X0_becomeTree : GoodIn wsX6_init (wsV RX6 54 RX0 yX0_becomeTree wsX0_becomeTree) := goodIn_app (goodIn_of _ (by decide +kernel)) ggX6_init_X0_becomeTree
theorem dX6_init_0 : decode cX6_init 0 = .ok (.aload_n 0, 1) := by decide +kernel
theorem dX6_init_1 : decode cX6_init 1 = .ok (.invokespecial 3, 3) := by decide +kernel
theorem dX6_init_4 : decode cX6_init 4 = .ok (.aload_n 0, 1) := by decide +kernel
theorem dX6_init_5 : decode cX6_init 5 = .ok (.new 9, 3) := by decide +kernel
theorem dX6_init_8 : decode cX6_init 8 = .ok (.dup, 1) := by decide +kernel
theorem dX6_init_9 : decode cX6_init 9 = .ok (.invokespecial 11, 3) := by decide +kernel
theorem dX6_init_12 : decode cX6_init 12 = .ok (.putfield 12, 3) := by decide +kernel
theorem dX6_init_15 : decode cX6_init 15 = .ok (.aload_n 0, 1) := by decide +kernel
theorem dX6_init_16 : decode cX6_init 16 = .ok (.new 16, 3) := by decide +kernel
theorem dX6_init_19 : decode cX6_init 19 = .ok (.dup, 1) := by decide +kernel
theorem dX6_init_20 : decode cX6_init 20 = .ok (.invokespecial 18, 3) := by decide +kernel
theorem dX6_init_23 : decode cX6_init 23 = .ok (.putfield 19, 3) := by decide +kernel
theorem dX6_init_26 : decode cX6_init 26 = .ok (.aload_n 0, 1) := by decide +kernel
theorem dX6_init_27 : decode cX6_init 27 = .ok (.new 16, 3) := by decide +kernel
theorem dX6_init_30 : decode cX6_init 30 = .ok (.dup, 1) := by decide +kernel
theorem dX6_init_31 : decode cX6_init 31 = .ok (.invokespecial 18, 3) := by decide +kernel
theorem dX6_init_34 : decode cX6_init 34 = .ok (.putfield 23, 3) := by decide +kernel
theorem dX6_init_37 : decode cX6_init 37 = .ok (.aload_n 0, 1) := by decide +kernel
theorem dX6_init_38 : decode cX6_init 38 = .ok (.new 26, 3) := by decide +kernel
theorem dX6_init_41 : decode cX6_init 41 = .ok (.dup, 1) := by decide +kernel
theorem dX6_init_42 : decode cX6_init 42 = .ok (.invokespecial 28, 3) := by decide +kernel
theorem dX6_init_45 : decode cX6_init 45 = .ok (.putfield 29, 3) := by decide +kernel
theorem dX6_init_48 : decode cX6_init 48 = .ok (.aload_n 0, 1) := by decide +kernel
theorem dX6_init_49 : decode cX6_init 49 = .ok (.new 33, 3) := by decide +kernel
theorem dX6_init_52 : decode cX6_init 52 = .ok (.dup, 1) := by decide +kernel
theorem dX6_init_53 : decode cX6_init 53 = .ok (.invokespecial 35, 3) := by decide +kernel
theorem dX6_init_56 : decode cX6_init 56 = .ok (.putfield 36, 3) := by decide +kernel
theorem dX6_init_59 : decode cX6_init 59 = .ok (.aload_n 0, 1) := by decide +kernel
theorem dX6_init_60 : decode cX6_init 60 = .ok (.new 40, 3) := by decide +kernel
theorem dX6_init_63 : decode cX6_init 63 = .ok (.dup, 1) := by decide +kernel
theorem dX6_init_64 : decode cX6_init 64 = .ok (.invokespecial 42, 3) := by decide +kernel
theorem dX6_init_67 : decode cX6_init 67 = .ok (.putfield 43, 3) := by decide +kernel
theorem dX6_init_70 : decode cX6_init 70 = .ok (.aload_n 0, 1) := by decide +kernel
theorem dX6_init_71 : decode cX6_init 71 = .ok (.new 47, 3) := by decide +kernel
theorem dX6_init_74 : decode cX6_init 74 = .ok (.dup, 1) := by decide +kernel
theorem dX6_init_75 : decode cX6_init 75 = .ok (.invokespecial 49, 3) := by decide +kernel
theorem dX6_init_78 : decode cX6_init 78 = .ok (.putfield 50, 3) := by decide +kernel
theorem dX6_init_81 : decode cX6_init 81 = .ok (.aload_n 0, 1) := by decide +kernel
theorem dX6_init_82 : decode cX6_init 82 = .ok (.getfield 19, 3) := by decide +kernel
theorem dX6_init_85 : decode cX6_init 85 = .ok (.iconst 2, 1) := by decide +kernel
theorem dX6_init_86 : decode cX6_init 86 = .ok (.invokevirtual 54, 3) := by decide +kernel
theorem dX6_init_89 : decode cX6_init 89 = .ok (.return_, 1) := by decide +kernel
theorem dX6_write_0 : decode cX6_write 0 = .ok (.iload_n 1, 1) := by decide +kernel
theorem dX6_write_1 : decode cX6_write 1 = .ok (.bipush 32, 2) := by decide +kernel
theorem dX6_write_3 : decode cX6_write 3 = .ok (.if_icmp .lt 9, 3) := by decide +kernel
theorem dX6_write_6 : decode cX6_write 6 = .ok (.iload_n 1, 1) := by decide +kernel
theorem dX6_write_7 : decode cX6_write 7 = .ok (.bipush 126, 2) := by decide +kernel
theorem dX6_write_9 : decode cX6_write 9 = .ok (.if_icmp .le 5, 3) := by decide +kernel
theorem dX6_write_12 : decode cX6_write 12 = .ok (.iconst (-1), 1) := by decide +kernel
theorem dX6_write_13 : decode cX6_write 13 = .ok (.ireturn, 1) := by decide +kernel
theorem dX6_write_14 : decode cX6_write 14 = .ok (.aload_n 0, 1) := by decide +kernel
theorem dX6_write_15 : decode cX6_write 15 = .ok (.getfield 12, 3) := by decide +kernel
theorem dX6_write_18 : decode cX6_write 18 = .ok (.getfield 58, 3) := by decide +kernel
theorem dX6_write_21 : decode cX6_write 21 = .ok (.sipush 200, 3) := by decide +kernel
theorem dX6_write_24 : decode cX6_write 24 = .ok (.if_icmp .lt 6, 3) := by decide +kernel
theorem dX6_write_27 : decode cX6_write 27 = .ok (.bipush (-3), 2) := by decide +kernel
theorem dX6_write_29 : decode cX6_write 29 = .ok (.ireturn, 1) := by decide +kernel
theorem dX6_write_30 : decode cX6_write 30 = .ok (.aload_n 0, 1) := by decide +kernel
theorem dX6_write_31 : decode cX6_write 31 = .ok (.getfield 12, 3) := by decide +kernel
theorem dX6_write_34 : decode cX6_write 34 = .ok (.getfield 62, 3) := by decide +kernel
theorem dX6_write_37 : decode cX6_write 37 = .ok (.aload_n 0, 1) := by decide +kernel
theorem dX6_write_38 : decode cX6_write 38 = .ok (.getfield 12, 3) := by decide +kernel
theorem dX6_write_41 : decode cX6_write 41 = .ok (.getfield 58, 3) := by decide +kernel
theorem dX6_write_44 : decode cX6_write 44 = .ok (.iload_n 1, 1) := by decide +kernel
theorem dX6_write_45 : decode cX6_write 45 = .ok (.i2c, 1) := by decide +kernel
theorem dX6_write_46 : decode cX6_write 46 = .ok (.castore, 1) := by decide +kernel
theorem dX6_write_47 : decode cX6_write 47 = .ok (.aload_n 0, 1) := by decide +kernel
theorem dX6_write_48 : decode cX6_write 48 = .ok (.getfield 12, 3) := by decide +kernel
theorem dX6_write_51 : decode cX6_write 51 = .ok (.dup, 1) := by decide +kernel
theorem dX6_write_52 : decode cX6_write 52 = .ok (.getfield 58, 3) := by decide +kernel
theorem dX6_write_55 : decode cX6_write 55 = .ok (.iconst 1, 1) := by decide +kernel
theorem dX6_write_56 : decode cX6_write 56 = .ok (.iadd, 1) := by decide +kernel
theorem dX6_write_57 : decode cX6_write 57 = .ok (.putfield 58, 3) := by decide +kernel
theorem dX6_write_60 : decode cX6_write 60 = .ok (.aload_n 0, 1) := by decide +kernel
theorem dX6_write_61 : decode cX6_write 61 = .ok (.getfield 12, 3) := by decide +kernel
theorem dX6_write_64 : decode cX6_write 64 = .ok (.getfield 58, 3) := by decide +kernel
theorem dX6_write_67 : decode cX6_write 67 = .ok (.ireturn, 1) := by decide +kernel
theorem dX6_wipe_0 : decode cX6_wipe 0 = .ok (.aload_n 0, 1) := by decide +kernel
theorem dX6_wipe_1 : decode cX6_wipe 1 = .ok (.getfield 12, 3) := by decide +kernel
theorem dX6_wipe_4 : decode cX6_wipe 4 = .ok (.getfield 58, 3) := by decide +kernel
theorem dX6_wipe_7 : decode cX6_wipe 7 = .ok (.istore_n 1, 1) := by decide +kernel
theorem dX6_wipe_8 : decode cX6_wipe 8 = .ok (.aload_n 0, 1) := by decide +kernel
theorem dX6_wipe_9 : decode cX6_wipe 9 = .ok (.getfield 12, 3) := by decide +kernel
theorem dX6_wipe_12 : decode cX6_wipe 12 = .ok (.iconst 0, 1) := by decide +kernel
theorem dX6_wipe_13 : decode cX6_wipe 13 = .ok (.putfield 58, 3) := by decide +kernel
theorem dX6_wipe_16 : decode cX6_wipe 16 = .ok (.iload_n 1, 1) := by decide +kernel
theorem dX6_wipe_17 : decode cX6_wipe 17 = .ok (.ireturn, 1) := by decide +kernel
set_option maxRecDepth 20000 in
theorem ggX6_fault_X5_readInto : GoodIn wsX6_fault wsX5_readInto := goodIn_r _ [7, 8, 9, 10, 11, 12, 13, 14, 15, 16, 17, 18, 19, 20, 21, 22, 23, 24, 25, 26, 27, 28, 29, 30, 31, 6, 32, 33, 34, 35, 36, 37, 38, 39, 40, 41, 42, 43, 44, 45, 46, 47, 48, 49, 50, 51, 52, 53, 54, 55, 56, 57, 58, 59, 60, 61, 62, 63, 64, 65, 66, 67, 68, 69, 70, 71, 72, 73, 74, 75, 76, 77, 78, 79, 80, 81, 82, 83, 84, 85, 86, 87, 88, 89, 90, 91, 92, 93, 94, 95, 96, 97, 98, 99, 100, 101, 102, 103, 104, 112, 113, 114, 115, 116, 117, 118, 119, 120, 121, 122, 123, 124] (by decide +kernel) (by decide +kernel)
set_option maxRecDepth 20000 in
theorem gX6_fault_X5_readInto : GoodIn wsX6_fault (wsV RX6 66 RX5 yX5_readInto wsX5_readInto) := goodIn_app (goodIn_of _ (by decide +kernel)) ggX6_fault_X5_readInto
theorem dX6_fault_0 : decode cX6_fault 0 = .ok (.aload_n 0, 1) := by decide +kernel
theorem dX6_fault_1 : decode cX6_fault 1 = .ok (.getfield 12, 3) := by decide +kernel
theorem dX6_fault_4 : decode cX6_fault 4 = .ok (.aload_n 0, 1) := by decide +kernel
theorem dX6_fault_5 : decode cX6_fault 5 = .ok (.getfield 23, 3) := by decide +kernel
theorem dX6_fault_8 : decode cX6_fault 8 = .ok (.invokevirtual 66, 3) := by decide +kernel
theorem dX6_fault_11 : decode cX6_fault 11 = .ok (.ireturn, 1) := by decide +kernel
set_option maxRecDepth 20000 in
theorem ggX6_lay_X5_readInto : GoodIn wsX6_lay wsX5_readInto := goodIn_r _ [11, 12, 13, 14, 15, 16, 17, 18, 19, 20, 21, 22, 23, 24, 25, 26, 27, 28, 29, 30, 31, 32, 33, 34, 35, 10, 36, 37, 38, 39, 40, 41, 42, 43, 44, 45, 46, 47, 48, 49, 50, 51, 52, 53, 54, 55, 56, 57, 58, 59, 60, 61, 62, 63, 64, 65, 66, 67, 68, 69, 70, 71, 72, 73, 74, 75, 76, 77, 78, 79, 80, 81, 82, 83, 84, 85, 86, 87, 88, 89, 90, 91, 92, 93, 94, 95, 96, 97, 98, 99, 100, 101, 102, 103, 104, 105, 106, 107, 108, 145, 146, 147, 148, 134, 135, 136, 137, 138, 139, 140, 141, 142] (by decide +kernel) (by decide +kernel)
set_option maxRecDepth 20000 in
theorem gX6_lay_X5_readInto : GoodIn wsX6_lay (wsV RX6 66 RX5 yX5_readInto wsX5_readInto) := goodIn_app (goodIn_of _ (by decide +kernel)) ggX6_lay_X5_readInto
set_option maxRecDepth 20000 in
theorem ggX6_lay_X0_copyFrom : GoodIn wsX6_lay wsX0_copyFrom := goodIn_r _ [112, 84, 113, 114, 115, 116, 85, 86, 19, 20, 25, 26, 31, 32, 21, 22, 23, 17, 24, 27, 28, 29, 30, 134, 135, 136, 137, 138, 139, 140, 141, 142] (by decide +kernel) (by decide +kernel)
set_option maxRecDepth 20000 in
theorem gX6_lay_X0_copyFrom : GoodIn wsX6_lay (wsV RX6 73 RX0 yX0_copyFrom wsX0_copyFrom) := goodIn_app (goodIn_of _ (by decide +kernel)) ggX6_lay_X0_copyFrom
set_option maxRecDepth 20000 in
theorem ggX6_lay_X6_dropWhatWasWorkedOut : GoodIn wsX6_lay wsX6_dropWhatWasWorkedOut := goodIn_r _ [121, 122, 123, 124, 125, 127, 128, 129, 130, 131, 132, 133, 149, 150, 151, 152, 153, 154, 155, 156, 157, 158, 159, 160, 161, 162, 163, 164, 165, 166, 167, 168] (by decide +kernel) (by decide +kernel)
set_option maxRecDepth 20000 in
theorem gX6_lay_X6_dropWhatWasWorkedOut : GoodIn wsX6_lay (wsV RX6 80 RX6 yX6_dropWhatWasWorkedOut wsX6_dropWhatWasWorkedOut) := goodIn_app (goodIn_of _ (by decide +kernel)) ggX6_lay_X6_dropWhatWasWorkedOut
set_option maxRecDepth 20000 in
theorem ggX6_lay_X0_wires : GoodIn wsX6_lay wsX0_wires := goodIn_r _ [98, 19, 20, 134, 135, 136, 137, 138, 139, 140, 141, 142] (by decide +kernel) (by decide +kernel)
set_option maxRecDepth 20000 in
theorem gX6_lay_X0_wires : GoodIn wsX6_lay (wsV RX6 83 RX0 yX0_wires wsX0_wires) := goodIn_app (goodIn_of _ (by decide +kernel)) ggX6_lay_X0_wires
theorem dX6_lay_0 : decode cX6_lay 0 = .ok (.aload_n 0, 1) := by decide +kernel
theorem dX6_lay_1 : decode cX6_lay 1 = .ok (.getfield 12, 3) := by decide +kernel
theorem dX6_lay_4 : decode cX6_lay 4 = .ok (.aload_n 0, 1) := by decide +kernel
theorem dX6_lay_5 : decode cX6_lay 5 = .ok (.getfield 23, 3) := by decide +kernel
theorem dX6_lay_8 : decode cX6_lay 8 = .ok (.invokevirtual 66, 3) := by decide +kernel
theorem dX6_lay_11 : decode cX6_lay 11 = .ok (.bipush (-4), 2) := by decide +kernel
theorem dX6_lay_13 : decode cX6_lay 13 = .ok (.if_icmp .ne 13, 3) := by decide +kernel
theorem dX6_lay_16 : decode cX6_lay 16 = .ok (.aload_n 0, 1) := by decide +kernel
theorem dX6_lay_17 : decode cX6_lay 17 = .ok (.getfield 23, 3) := by decide +kernel
theorem dX6_lay_20 : decode cX6_lay 20 = .ok (.getfield 70, 3) := by decide +kernel
theorem dX6_lay_23 : decode cX6_lay 23 = .ok (.ifCond .ne 6, 3) := by decide +kernel
theorem dX6_lay_26 : decode cX6_lay 26 = .ok (.bipush (-2), 2) := by decide +kernel
theorem dX6_lay_28 : decode cX6_lay 28 = .ok (.ireturn, 1) := by decide +kernel
theorem dX6_lay_29 : decode cX6_lay 29 = .ok (.aload_n 0, 1) := by decide +kernel
theorem dX6_lay_30 : decode cX6_lay 30 = .ok (.getfield 19, 3) := by decide +kernel
theorem dX6_lay_33 : decode cX6_lay 33 = .ok (.aload_n 0, 1) := by decide +kernel
theorem dX6_lay_34 : decode cX6_lay 34 = .ok (.getfield 23, 3) := by decide +kernel
theorem dX6_lay_37 : decode cX6_lay 37 = .ok (.invokevirtual 73, 3) := by decide +kernel
theorem dX6_lay_40 : decode cX6_lay 40 = .ok (.aload_n 0, 1) := by decide +kernel
theorem dX6_lay_41 : decode cX6_lay 41 = .ok (.getfield 29, 3) := by decide +kernel
theorem dX6_lay_44 : decode cX6_lay 44 = .ok (.iconst 0, 1) := by decide +kernel
theorem dX6_lay_45 : decode cX6_lay 45 = .ok (.putfield 77, 3) := by decide +kernel
theorem dX6_lay_48 : decode cX6_lay 48 = .ok (.aload_n 0, 1) := by decide +kernel
theorem dX6_lay_49 : decode cX6_lay 49 = .ok (.invokevirtual 80, 3) := by decide +kernel
theorem dX6_lay_52 : decode cX6_lay 52 = .ok (.aload_n 0, 1) := by decide +kernel
theorem dX6_lay_53 : decode cX6_lay 53 = .ok (.getfield 19, 3) := by decide +kernel
theorem dX6_lay_56 : decode cX6_lay 56 = .ok (.invokevirtual 83, 3) := by decide +kernel
theorem dX6_lay_59 : decode cX6_lay 59 = .ok (.ireturn, 1) := by decide +kernel
set_option maxRecDepth 20000 in
theorem ggX6_gate_X0_hasGate : GoodIn wsX6_gate wsX0_hasGate := goodIn_r _ [9, 10, 75, 76, 77, 78, 79, 80, 81, 82, 83] (by decide +kernel) (by decide +kernel)
set_option maxRecDepth 20000 in
theorem gX6_gate_X0_hasGate : GoodIn wsX6_gate (wsV RX6 87 RX0 yX0_hasGate wsX0_hasGate) := goodIn_app (goodIn_of _ (by decide +kernel)) ggX6_gate_X0_hasGate
set_option maxRecDepth 20000 in
theorem ggX6_gate_X0_canHaveGate : GoodIn wsX6_gate wsX0_canHaveGate := goodIn_r _ [14, 15, 75, 76, 77, 78, 79, 80, 81, 82, 83] (by decide +kernel) (by decide +kernel)
set_option maxRecDepth 20000 in
theorem gX6_gate_X0_canHaveGate : GoodIn wsX6_gate (wsV RX6 91 RX0 yX0_canHaveGate wsX0_canHaveGate) := goodIn_app (goodIn_of _ (by decide +kernel)) ggX6_gate_X0_canHaveGate
set_option maxRecDepth 20000 in
theorem ggX6_gate_X6_beginChange : GoodIn wsX6_gate wsX6_beginChange := goodIn_r _ [20, 21, 1, 22, 23, 24, 25, 26, 27, 28, 29, 30, 31, 32, 33, 34, 35, 8, 36, 37, 38, 39, 40, 41, 42, 43, 15, 10, 44, 45, 46, 47, 48, 49, 50, 51, 52, 53, 54, 55, 56, 57, 58, 19, 59, 60, 61, 62, 63, 68, 69, 70, 71, 72, 73, 74, 84, 85, 75, 76, 77, 78, 79, 80, 81, 82, 83, 86, 87, 88, 89, 90, 91, 92, 93, 94, 95, 96, 97, 98, 99, 100, 101, 102, 103, 104, 105] (by decide +kernel) (by decide +kernel)
set_option maxRecDepth 20000 in
theorem gX6_gate_X6_beginChange : GoodIn wsX6_gate (wsV RX6 105 RX6 yX6_beginChange wsX6_beginChange) := goodIn_app (goodIn_of _ (by decide +kernel)) ggX6_gate_X6_beginChange
set_option maxRecDepth 20000 in
theorem ggX6_gate_X0_setGate : GoodIn wsX6_gate wsX0_setGate := goodIn_r _ [67, 37, 42, 43, 75, 76, 77, 78, 79, 80, 81, 82, 83] (by decide +kernel) (by decide +kernel)
set_option maxRecDepth 20000 in
theorem gX6_gate_X0_setGate : GoodIn wsX6_gate (wsV RX6 108 RX0 yX0_setGate wsX0_setGate) := goodIn_app (goodIn_of _ (by decide +kernel)) ggX6_gate_X0_setGate
theorem dX6_gate_0 : decode cX6_gate 0 = .ok (.aload_n 0, 1) := by decide +kernel
theorem dX6_gate_1 : decode cX6_gate 1 = .ok (.getfield 19, 3) := by decide +kernel
theorem dX6_gate_4 : decode cX6_gate 4 = .ok (.iload_n 1, 1) := by decide +kernel
theorem dX6_gate_5 : decode cX6_gate 5 = .ok (.invokevirtual 87, 3) := by decide +kernel
theorem dX6_gate_8 : decode cX6_gate 8 = .ok (.ifCond .eq 18, 3) := by decide +kernel
theorem dX6_gate_11 : decode cX6_gate 11 = .ok (.aload_n 0, 1) := by decide +kernel
theorem dX6_gate_12 : decode cX6_gate 12 = .ok (.getfield 19, 3) := by decide +kernel
theorem dX6_gate_15 : decode cX6_gate 15 = .ok (.iload_n 1, 1) := by decide +kernel
theorem dX6_gate_16 : decode cX6_gate 16 = .ok (.iload_n 2, 1) := by decide +kernel
theorem dX6_gate_17 : decode cX6_gate 17 = .ok (.iload_n 3, 1) := by decide +kernel
theorem dX6_gate_18 : decode cX6_gate 18 = .ok (.iload 4, 2) := by decide +kernel
theorem dX6_gate_20 : decode cX6_gate 20 = .ok (.invokevirtual 91, 3) := by decide +kernel
theorem dX6_gate_23 : decode cX6_gate 23 = .ok (.ifCond .ne 5, 3) := by decide +kernel
theorem dX6_gate_26 : decode cX6_gate 26 = .ok (.iconst (-1), 1) := by decide +kernel
theorem dX6_gate_27 : decode cX6_gate 27 = .ok (.ireturn, 1) := by decide +kernel
theorem dX6_gate_28 : decode cX6_gate 28 = .ok (.aload_n 0, 1) := by decide +kernel
theorem dX6_gate_29 : decode cX6_gate 29 = .ok (.getfield 19, 3) := by decide +kernel
theorem dX6_gate_32 : decode cX6_gate 32 = .ok (.getfield 95, 3) := by decide +kernel
theorem dX6_gate_35 : decode cX6_gate 35 = .ok (.iload_n 1, 1) := by decide +kernel
theorem dX6_gate_36 : decode cX6_gate 36 = .ok (.iaload, 1) := by decide +kernel
theorem dX6_gate_37 : decode cX6_gate 37 = .ok (.istore 5, 2) := by decide +kernel
theorem dX6_gate_39 : decode cX6_gate 39 = .ok (.iload 5, 2) := by decide +kernel
theorem dX6_gate_41 : decode cX6_gate 41 = .ok (.iload_n 2, 1) := by decide +kernel
theorem dX6_gate_42 : decode cX6_gate 42 = .ok (.if_icmp .ne 33, 3) := by decide +kernel
theorem dX6_gate_45 : decode cX6_gate 45 = .ok (.aload_n 0, 1) := by decide +kernel
theorem dX6_gate_46 : decode cX6_gate 46 = .ok (.getfield 19, 3) := by decide +kernel
theorem dX6_gate_49 : decode cX6_gate 49 = .ok (.getfield 99, 3) := by decide +kernel
theorem dX6_gate_52 : decode cX6_gate 52 = .ok (.iload_n 1, 1) := by decide +kernel
theorem dX6_gate_53 : decode cX6_gate 53 = .ok (.iaload, 1) := by decide +kernel
theorem dX6_gate_54 : decode cX6_gate 54 = .ok (.iload_n 3, 1) := by decide +kernel
theorem dX6_gate_55 : decode cX6_gate 55 = .ok (.if_icmp .ne 20, 3) := by decide +kernel
theorem dX6_gate_58 : decode cX6_gate 58 = .ok (.aload_n 0, 1) := by decide +kernel
theorem dX6_gate_59 : decode cX6_gate 59 = .ok (.getfield 19, 3) := by decide +kernel
theorem dX6_gate_62 : decode cX6_gate 62 = .ok (.getfield 102, 3) := by decide +kernel
theorem dX6_gate_65 : decode cX6_gate 65 = .ok (.iload_n 1, 1) := by decide +kernel
theorem dX6_gate_66 : decode cX6_gate 66 = .ok (.iaload, 1) := by decide +kernel
theorem dX6_gate_67 : decode cX6_gate 67 = .ok (.iload 4, 2) := by decide +kernel
theorem dX6_gate_69 : decode cX6_gate 69 = .ok (.if_icmp .ne 6, 3) := by decide +kernel
theorem dX6_gate_72 : decode cX6_gate 72 = .ok (.bipush (-2), 2) := by decide +kernel
theorem dX6_gate_74 : decode cX6_gate 74 = .ok (.ireturn, 1) := by decide +kernel
theorem dX6_gate_75 : decode cX6_gate 75 = .ok (.aload_n 0, 1) := by decide +kernel
theorem dX6_gate_76 : decode cX6_gate 76 = .ok (.invokevirtual 105, 3) := by decide +kernel
theorem dX6_gate_79 : decode cX6_gate 79 = .ok (.aload_n 0, 1) := by decide +kernel
theorem dX6_gate_80 : decode cX6_gate 80 = .ok (.getfield 19, 3) := by decide +kernel
theorem dX6_gate_83 : decode cX6_gate 83 = .ok (.iload_n 1, 1) := by decide +kernel
theorem dX6_gate_84 : decode cX6_gate 84 = .ok (.iload_n 2, 1) := by decide +kernel
theorem dX6_gate_85 : decode cX6_gate 85 = .ok (.iload_n 3, 1) := by decide +kernel
theorem dX6_gate_86 : decode cX6_gate 86 = .ok (.iload 4, 2) := by decide +kernel
theorem dX6_gate_88 : decode cX6_gate 88 = .ok (.invokevirtual 108, 3) := by decide +kernel
theorem dX6_gate_91 : decode cX6_gate 91 = .ok (.iload 5, 2) := by decide +kernel
theorem dX6_gate_93 : decode cX6_gate 93 = .ok (.ireturn, 1) := by decide +kernel
set_option maxRecDepth 20000 in
theorem ggX6_add_X0_canHaveGate : GoodIn wsX6_add wsX0_canHaveGate := goodIn_r _ [7, 8, 73, 74, 75, 76, 77, 78, 79, 80, 81] (by decide +kernel) (by decide +kernel)
set_option maxRecDepth 20000 in
theorem gX6_add_X0_canHaveGate : GoodIn wsX6_add (wsV RX6 91 RX0 yX0_canHaveGate wsX0_canHaveGate) := goodIn_app (goodIn_of _ (by decide +kernel)) ggX6_add_X0_canHaveGate
set_option maxRecDepth 20000 in
theorem ggX6_add_X6_beginChange : GoodIn wsX6_add wsX6_beginChange := goodIn_r _ [13, 14, 1, 15, 16, 17, 18, 19, 20, 21, 22, 23, 24, 25, 26, 27, 28, 6, 29, 30, 31, 32, 33, 34, 35, 36, 8, 37, 38, 39, 40, 41, 42, 43, 44, 45, 46, 47, 48, 49, 50, 51, 52, 12, 53, 54, 55, 56, 57, 66, 67, 68, 69, 70, 71, 72, 82, 83, 73, 74, 75, 76, 77, 78, 79, 80, 81, 84, 85, 86, 87, 88, 89, 90, 91, 92, 93, 94, 95, 96, 97, 98, 99, 100, 101, 102, 103] (by decide +kernel) (by decide +kernel)
set_option maxRecDepth 20000 in
theorem gX6_add_X6_beginChange : GoodIn wsX6_add (wsV RX6 105 RX6 yX6_beginChange wsX6_beginChange) := goodIn_app (goodIn_of _ (by decide +kernel)) ggX6_add_X6_beginChange
set_option maxRecDepth 20000 in
theorem ggX6_add_X0_appendGate : GoodIn wsX6_add wsX0_appendGate := goodIn_r _ [61, 37, 62, 63, 64, 6, 65, 30, 35, 36, 73, 74, 75, 76, 77, 78, 79, 80, 81] (by decide +kernel) (by decide +kernel)
set_option maxRecDepth 20000 in
theorem gX6_add_X0_appendGate : GoodIn wsX6_add (wsV RX6 115 RX0 yX0_appendGate wsX0_appendGate) := goodIn_app (goodIn_of _ (by decide +kernel)) ggX6_add_X0_appendGate
theorem dX6_add_0 : decode cX6_add 0 = .ok (.aload_n 0, 1) := by decide +kernel
theorem dX6_add_1 : decode cX6_add 1 = .ok (.getfield 19, 3) := by decide +kernel
theorem dX6_add_4 : decode cX6_add 4 = .ok (.getfield 112, 3) := by decide +kernel
theorem dX6_add_7 : decode cX6_add 7 = .ok (.istore 4, 2) := by decide +kernel
theorem dX6_add_9 : decode cX6_add 9 = .ok (.aload_n 0, 1) := by decide +kernel
theorem dX6_add_10 : decode cX6_add 10 = .ok (.getfield 19, 3) := by decide +kernel
theorem dX6_add_13 : decode cX6_add 13 = .ok (.iload 4, 2) := by decide +kernel
theorem dX6_add_15 : decode cX6_add 15 = .ok (.iload_n 1, 1) := by decide +kernel
theorem dX6_add_16 : decode cX6_add 16 = .ok (.iload_n 2, 1) := by decide +kernel
theorem dX6_add_17 : decode cX6_add 17 = .ok (.iload_n 3, 1) := by decide +kernel
theorem dX6_add_18 : decode cX6_add 18 = .ok (.invokevirtual 91, 3) := by decide +kernel
theorem dX6_add_21 : decode cX6_add 21 = .ok (.ifCond .ne 5, 3) := by decide +kernel
theorem dX6_add_24 : decode cX6_add 24 = .ok (.iconst (-1), 1) := by decide +kernel
theorem dX6_add_25 : decode cX6_add 25 = .ok (.ireturn, 1) := by decide +kernel
theorem dX6_add_26 : decode cX6_add 26 = .ok (.iload 4, 2) := by decide +kernel
theorem dX6_add_28 : decode cX6_add 28 = .ok (.bipush 24, 2) := by decide +kernel
theorem dX6_add_30 : decode cX6_add 30 = .ok (.if_icmp .lt 6, 3) := by decide +kernel
theorem dX6_add_33 : decode cX6_add 33 = .ok (.bipush (-3), 2) := by decide +kernel
theorem dX6_add_35 : decode cX6_add 35 = .ok (.ireturn, 1) := by decide +kernel
theorem dX6_add_36 : decode cX6_add 36 = .ok (.aload_n 0, 1) := by decide +kernel
theorem dX6_add_37 : decode cX6_add 37 = .ok (.invokevirtual 105, 3) := by decide +kernel
theorem dX6_add_40 : decode cX6_add 40 = .ok (.aload_n 0, 1) := by decide +kernel
theorem dX6_add_41 : decode cX6_add 41 = .ok (.getfield 19, 3) := by decide +kernel
theorem dX6_add_44 : decode cX6_add 44 = .ok (.iload_n 1, 1) := by decide +kernel
theorem dX6_add_45 : decode cX6_add 45 = .ok (.iload_n 2, 1) := by decide +kernel
theorem dX6_add_46 : decode cX6_add 46 = .ok (.iload_n 3, 1) := by decide +kernel
theorem dX6_add_47 : decode cX6_add 47 = .ok (.invokevirtual 115, 3) := by decide +kernel
theorem dX6_add_50 : decode cX6_add 50 = .ok (.iload 4, 2) := by decide +kernel
theorem dX6_add_52 : decode cX6_add 52 = .ok (.ireturn, 1) := by decide +kernel
set_option maxRecDepth 20000 in
theorem ggX6_rails_X0_hasWire : GoodIn wsX6_rails wsX0_hasWire := goodIn_r _ [8, 9, 10, 11, 7, 12, 13, 14, 71, 72, 73, 74, 75, 76, 77, 78, 79] (by decide +kernel) (by decide +kernel)
set_option maxRecDepth 20000 in
theorem gX6_rails_X0_hasWire : GoodIn wsX6_rails (wsV RX6 119 RX0 yX0_hasWire wsX0_hasWire) := goodIn_app (goodIn_of _ (by decide +kernel)) ggX6_rails_X0_hasWire
set_option maxRecDepth 20000 in
theorem ggX6_rails_X6_beginChange : GoodIn wsX6_rails wsX6_beginChange := goodIn_r _ [19, 20, 1, 21, 22, 23, 24, 25, 26, 27, 28, 29, 30, 31, 32, 33, 34, 7, 35, 36, 37, 38, 39, 40, 41, 42, 13, 14, 43, 44, 45, 46, 47, 48, 49, 50, 51, 52, 53, 54, 55, 56, 57, 18, 58, 59, 60, 61, 62, 64, 65, 66, 67, 68, 69, 70, 80, 81, 71, 72, 73, 74, 75, 76, 77, 78, 79, 82, 83, 84, 85, 86, 87, 88, 89, 90, 91, 92, 93, 94, 95, 96, 97, 98, 99, 100, 101] (by decide +kernel) (by decide +kernel)
set_option maxRecDepth 20000 in
theorem gX6_rails_X6_beginChange : GoodIn wsX6_rails (wsV RX6 105 RX6 yX6_beginChange wsX6_beginChange) := goodIn_app (goodIn_of _ (by decide +kernel)) ggX6_rails_X6_beginChange
set_option maxRecDepth 20000 in
theorem ggX6_rails_X0_setRails : GoodIn wsX6_rails wsX0_setRails := goodIn_r _ [50, 43, 44, 71, 72, 73, 74, 75, 76, 77, 78, 79] (by decide +kernel) (by decide +kernel)
set_option maxRecDepth 20000 in
theorem gX6_rails_X0_setRails : GoodIn wsX6_rails (wsV RX6 128 RX0 yX0_setRails wsX0_setRails) := goodIn_app (goodIn_of _ (by decide +kernel)) ggX6_rails_X0_setRails
theorem dX6_rails_0 : decode cX6_rails 0 = .ok (.aload_n 0, 1) := by decide +kernel
theorem dX6_rails_1 : decode cX6_rails 1 = .ok (.getfield 19, 3) := by decide +kernel
theorem dX6_rails_4 : decode cX6_rails 4 = .ok (.iload_n 1, 1) := by decide +kernel
theorem dX6_rails_5 : decode cX6_rails 5 = .ok (.invokevirtual 119, 3) := by decide +kernel
theorem dX6_rails_8 : decode cX6_rails 8 = .ok (.ifCond .eq 14, 3) := by decide +kernel
theorem dX6_rails_11 : decode cX6_rails 11 = .ok (.aload_n 0, 1) := by decide +kernel
theorem dX6_rails_12 : decode cX6_rails 12 = .ok (.getfield 19, 3) := by decide +kernel
theorem dX6_rails_15 : decode cX6_rails 15 = .ok (.iload_n 2, 1) := by decide +kernel
theorem dX6_rails_16 : decode cX6_rails 16 = .ok (.invokevirtual 119, 3) := by decide +kernel
theorem dX6_rails_19 : decode cX6_rails 19 = .ok (.ifCond .ne 5, 3) := by decide +kernel
theorem dX6_rails_22 : decode cX6_rails 22 = .ok (.iconst (-1), 1) := by decide +kernel
theorem dX6_rails_23 : decode cX6_rails 23 = .ok (.ireturn, 1) := by decide +kernel
theorem dX6_rails_24 : decode cX6_rails 24 = .ok (.aload_n 0, 1) := by decide +kernel
theorem dX6_rails_25 : decode cX6_rails 25 = .ok (.getfield 19, 3) := by decide +kernel
theorem dX6_rails_28 : decode cX6_rails 28 = .ok (.getfield 122, 3) := by decide +kernel
theorem dX6_rails_31 : decode cX6_rails 31 = .ok (.iload_n 1, 1) := by decide +kernel
theorem dX6_rails_32 : decode cX6_rails 32 = .ok (.if_icmp .ne 17, 3) := by decide +kernel
theorem dX6_rails_35 : decode cX6_rails 35 = .ok (.aload_n 0, 1) := by decide +kernel
theorem dX6_rails_36 : decode cX6_rails 36 = .ok (.getfield 19, 3) := by decide +kernel
theorem dX6_rails_39 : decode cX6_rails 39 = .ok (.getfield 125, 3) := by decide +kernel
theorem dX6_rails_42 : decode cX6_rails 42 = .ok (.iload_n 2, 1) := by decide +kernel
theorem dX6_rails_43 : decode cX6_rails 43 = .ok (.if_icmp .ne 6, 3) := by decide +kernel
theorem dX6_rails_46 : decode cX6_rails 46 = .ok (.bipush (-2), 2) := by decide +kernel
theorem dX6_rails_48 : decode cX6_rails 48 = .ok (.ireturn, 1) := by decide +kernel
theorem dX6_rails_49 : decode cX6_rails 49 = .ok (.bipush 100, 2) := by decide +kernel
theorem dX6_rails_51 : decode cX6_rails 51 = .ok (.aload_n 0, 1) := by decide +kernel
theorem dX6_rails_52 : decode cX6_rails 52 = .ok (.getfield 19, 3) := by decide +kernel
theorem dX6_rails_55 : decode cX6_rails 55 = .ok (.getfield 122, 3) := by decide +kernel
theorem dX6_rails_58 : decode cX6_rails 58 = .ok (.imul, 1) := by decide +kernel
theorem dX6_rails_59 : decode cX6_rails 59 = .ok (.aload_n 0, 1) := by decide +kernel
theorem dX6_rails_60 : decode cX6_rails 60 = .ok (.getfield 19, 3) := by decide +kernel
theorem dX6_rails_63 : decode cX6_rails 63 = .ok (.getfield 125, 3) := by decide +kernel
theorem dX6_rails_66 : decode cX6_rails 66 = .ok (.iadd, 1) := by decide +kernel
theorem dX6_rails_67 : decode cX6_rails 67 = .ok (.istore_n 3, 1) := by decide +kernel
theorem dX6_rails_68 : decode cX6_rails 68 = .ok (.aload_n 0, 1) := by decide +kernel
theorem dX6_rails_69 : decode cX6_rails 69 = .ok (.invokevirtual 105, 3) := by decide +kernel
theorem dX6_rails_72 : decode cX6_rails 72 = .ok (.aload_n 0, 1) := by decide +kernel
theorem dX6_rails_73 : decode cX6_rails 73 = .ok (.getfield 19, 3) := by decide +kernel
theorem dX6_rails_76 : decode cX6_rails 76 = .ok (.iload_n 1, 1) := by decide +kernel
theorem dX6_rails_77 : decode cX6_rails 77 = .ok (.iload_n 2, 1) := by decide +kernel
theorem dX6_rails_78 : decode cX6_rails 78 = .ok (.invokevirtual 128, 3) := by decide +kernel
theorem dX6_rails_81 : decode cX6_rails 81 = .ok (.iload_n 3, 1) := by decide +kernel
theorem dX6_rails_82 : decode cX6_rails 82 = .ok (.ireturn, 1) := by decide +kernel
set_option maxRecDepth 20000 in
theorem ggX6_code_X0_canHaveCode : GoodIn wsX6_code wsX0_canHaveCode := goodIn_r _ [9, 10, 108, 109, 110, 111, 112, 113, 114, 115, 116] (by decide +kernel) (by decide +kernel)
set_option maxRecDepth 20000 in
theorem gX6_code_X0_canHaveCode : GoodIn wsX6_code (wsV RX6 132 RX0 yX0_canHaveCode wsX0_canHaveCode) := goodIn_app (goodIn_of _ (by decide +kernel)) ggX6_code_X0_canHaveCode
set_option maxRecDepth 20000 in
theorem ggX6_code_X6_beginChange : GoodIn wsX6_code wsX6_beginChange := goodIn_r _ [15, 16, 1, 17, 18, 19, 20, 21, 22, 23, 24, 25, 26, 27, 28, 29, 30, 8, 31, 32, 33, 34, 35, 36, 37, 38, 10, 39, 40, 41, 42, 43, 44, 45, 46, 47, 48, 49, 50, 51, 52, 53, 54, 14, 55, 56, 57, 58, 59, 101, 102, 103, 104, 105, 106, 107, 124, 125, 108, 109, 110, 111, 112, 113, 114, 115, 116, 117, 118, 119, 120, 121, 122, 123, 126, 127, 128, 129, 130, 131, 132, 133, 134, 135, 136, 137, 138] (by decide +kernel) (by decide +kernel)
set_option maxRecDepth 20000 in
theorem gX6_code_X6_beginChange : GoodIn wsX6_code (wsV RX6 105 RX6 yX6_beginChange wsX6_beginChange) := goodIn_app (goodIn_of _ (by decide +kernel)) ggX6_code_X6_beginChange
set_option maxRecDepth 20000 in
theorem ggX6_code_X0_setCode : GoodIn wsX6_code wsX0_setCode := goodIn_r _ [51, 42, 43, 108, 109, 110, 111, 112, 113, 114, 115, 116] (by decide +kernel) (by decide +kernel)
set_option maxRecDepth 20000 in
theorem gX6_code_X0_setCode : GoodIn wsX6_code (wsV RX6 142 RX0 yX0_setCode wsX0_setCode) := goodIn_app (goodIn_of _ (by decide +kernel)) ggX6_code_X0_setCode
set_option maxRecDepth 20000 in
theorem ggX6_code_X6_freshCodeWords : GoodIn wsX6_code wsX6_freshCodeWords := goodIn_r _ [64, 56, 57, 1, 65, 66, 67, 68, 69, 70, 71, 72, 73, 74, 75, 76, 77, 8, 78, 10, 79, 80, 81, 82, 42, 43, 83, 84, 85, 86, 87, 88, 89, 90, 91, 92, 93, 94, 95, 96, 97, 98, 99, 100, 101, 102, 103, 104, 105, 106, 107, 117, 118, 119, 120, 121, 122, 123, 108, 109, 110, 111, 112, 113, 114, 115, 116] (by decide +kernel) (by decide +kernel)
set_option maxRecDepth 20000 in
theorem gX6_code_X6_freshCodeWords : GoodIn wsX6_code (wsV RX6 145 RX6 yX6_freshCodeWords wsX6_freshCodeWords) := goodIn_app (goodIn_of _ (by decide +kernel)) ggX6_code_X6_freshCodeWords
theorem dX6_code_0 : decode cX6_code 0 = .ok (.aload_n 0, 1) := by decide +kernel
theorem dX6_code_1 : decode cX6_code 1 = .ok (.getfield 19, 3) := by decide +kernel
theorem dX6_code_4 : decode cX6_code 4 = .ok (.iload_n 1, 1) := by decide +kernel
theorem dX6_code_5 : decode cX6_code 5 = .ok (.iload_n 2, 1) := by decide +kernel
theorem dX6_code_6 : decode cX6_code 6 = .ok (.invokevirtual 132, 3) := by decide +kernel
theorem dX6_code_9 : decode cX6_code 9 = .ok (.ifCond .ne 5, 3) := by decide +kernel
theorem dX6_code_12 : decode cX6_code 12 = .ok (.iconst (-1), 1) := by decide +kernel
theorem dX6_code_13 : decode cX6_code 13 = .ok (.ireturn, 1) := by decide +kernel
theorem dX6_code_14 : decode cX6_code 14 = .ok (.aload_n 0, 1) := by decide +kernel
theorem dX6_code_15 : decode cX6_code 15 = .ok (.getfield 19, 3) := by decide +kernel
theorem dX6_code_18 : decode cX6_code 18 = .ok (.getfield 136, 3) := by decide +kernel
theorem dX6_code_21 : decode cX6_code 21 = .ok (.iload_n 1, 1) := by decide +kernel
theorem dX6_code_22 : decode cX6_code 22 = .ok (.if_icmp .ne 17, 3) := by decide +kernel
theorem dX6_code_25 : decode cX6_code 25 = .ok (.aload_n 0, 1) := by decide +kernel
theorem dX6_code_26 : decode cX6_code 26 = .ok (.getfield 19, 3) := by decide +kernel
theorem dX6_code_29 : decode cX6_code 29 = .ok (.getfield 139, 3) := by decide +kernel
theorem dX6_code_32 : decode cX6_code 32 = .ok (.iload_n 2, 1) := by decide +kernel
theorem dX6_code_33 : decode cX6_code 33 = .ok (.if_icmp .ne 6, 3) := by decide +kernel
theorem dX6_code_36 : decode cX6_code 36 = .ok (.bipush (-2), 2) := by decide +kernel
theorem dX6_code_38 : decode cX6_code 38 = .ok (.ireturn, 1) := by decide +kernel
theorem dX6_code_39 : decode cX6_code 39 = .ok (.aload_n 0, 1) := by decide +kernel
theorem dX6_code_40 : decode cX6_code 40 = .ok (.invokevirtual 105, 3) := by decide +kernel
theorem dX6_code_43 : decode cX6_code 43 = .ok (.aload_n 0, 1) := by decide +kernel
theorem dX6_code_44 : decode cX6_code 44 = .ok (.getfield 19, 3) := by decide +kernel
theorem dX6_code_47 : decode cX6_code 47 = .ok (.iload_n 1, 1) := by decide +kernel
theorem dX6_code_48 : decode cX6_code 48 = .ok (.iload_n 2, 1) := by decide +kernel
theorem dX6_code_49 : decode cX6_code 49 = .ok (.invokevirtual 142, 3) := by decide +kernel
theorem dX6_code_52 : decode cX6_code 52 = .ok (.aload_n 0, 1) := by decide +kernel
theorem dX6_code_53 : decode cX6_code 53 = .ok (.invokevirtual 145, 3) := by decide +kernel
theorem dX6_code_56 : decode cX6_code 56 = .ok (.getfield 149, 3) := by decide +kernel
theorem dX6_code_59 : decode cX6_code 59 = .ok (.ireturn, 1) := by decide +kernel
set_option maxRecDepth 20000 in
theorem ggX6_build_X6_beginChange : GoodIn wsX6_build wsX6_beginChange := goodIn_r _ [7, 8, 1, 9, 10, 11, 12, 13, 14, 15, 16, 17, 18, 19, 20, 21, 22, 23, 24, 25, 26, 27, 28, 29, 30, 31, 32, 33, 34, 35, 36, 37, 38, 39, 40, 41, 42, 43, 44, 45, 46, 47, 48, 6, 49, 50, 51, 52, 53, 78, 79, 80, 81, 82, 83, 84, 94, 95, 85, 86, 87, 88, 89, 90, 91, 92, 93, 96, 97, 98, 99, 100, 101, 102, 103, 104, 105, 106, 107, 108, 109, 110, 111, 112, 113, 114, 115] (by decide +kernel) (by decide +kernel)
set_option maxRecDepth 20000 in
theorem gX6_build_X6_beginChange : GoodIn wsX6_build (wsV RX6 105 RX6 yX6_beginChange wsX6_beginChange) := goodIn_app (goodIn_of _ (by decide +kernel)) ggX6_build_X6_beginChange
set_option maxRecDepth 20000 in
theorem ggX6_build_X0_becomeTree : GoodIn wsX6_build wsX0_becomeTree := goodIn_r _ [57, 58, 59, 60, 23, 61, 32, 33, 38, 39, 40, 41, 34, 35, 42, 43, 44, 45, 36, 37, 62, 63, 64, 65, 66, 67, 68, 69, 70, 71, 72, 73, 74, 75, 76, 77, 25, 30, 31, 85, 86, 87, 88, 89, 90, 91, 92, 93] (by decide +kernel) (by decide +kernel)
set_option maxRecDepth 20000 in
theorem gX6_build_X0_becomeTree : GoodIn wsX6_build (wsV RX6 54 RX0 yX0_becomeTree wsX0_becomeTree) := goodIn_app (goodIn_of _ (by decide +kernel)) ggX6_build_X0_becomeTree
theorem dX6_build_0 : decode cX6_build 0 = .ok (.iload_n 1, 1) := by decide +kernel
theorem dX6_build_1 : decode cX6_build 1 = .ok (.iconst 1, 1) := by decide +kernel
theorem dX6_build_2 : decode cX6_build 2 = .ok (.if_icmp .lt 8, 3) := by decide +kernel
theorem dX6_build_5 : decode cX6_build 5 = .ok (.iload_n 1, 1) := by decide +kernel
theorem dX6_build_6 : decode cX6_build 6 = .ok (.iconst 4, 1) := by decide +kernel
theorem dX6_build_7 : decode cX6_build 7 = .ok (.if_icmp .le 5, 3) := by decide +kernel
theorem dX6_build_10 : decode cX6_build 10 = .ok (.iconst (-1), 1) := by decide +kernel
theorem dX6_build_11 : decode cX6_build 11 = .ok (.ireturn, 1) := by decide +kernel
theorem dX6_build_12 : decode cX6_build 12 = .ok (.aload_n 0, 1) := by decide +kernel
theorem dX6_build_13 : decode cX6_build 13 = .ok (.invokevirtual 105, 3) := by decide +kernel
theorem dX6_build_16 : decode cX6_build 16 = .ok (.aload_n 0, 1) := by decide +kernel
theorem dX6_build_17 : decode cX6_build 17 = .ok (.getfield 19, 3) := by decide +kernel
theorem dX6_build_20 : decode cX6_build 20 = .ok (.iload_n 1, 1) := by decide +kernel
theorem dX6_build_21 : decode cX6_build 21 = .ok (.invokevirtual 54, 3) := by decide +kernel
theorem dX6_build_24 : decode cX6_build 24 = .ok (.aload_n 0, 1) := by decide +kernel
theorem dX6_build_25 : decode cX6_build 25 = .ok (.getfield 19, 3) := by decide +kernel
theorem dX6_build_28 : decode cX6_build 28 = .ok (.getfield 112, 3) := by decide +kernel
theorem dX6_build_31 : decode cX6_build 31 = .ok (.ireturn, 1) := by decide +kernel
set_option maxRecDepth 20000 in
theorem ggX6_undo_X2_bringBack : GoodIn wsX6_undo wsX2_bringBack := goodIn_r _ [8, 9, 10, 11, 12, 13, 14, 15, 16, 17, 18, 19, 20, 21, 22, 23, 24, 25, 26, 27, 28, 29, 30, 31, 32, 33, 34, 35, 36, 53, 54, 55, 56, 57, 58, 59, 60, 61, 62, 63] (by decide +kernel) (by decide +kernel)
set_option maxRecDepth 20000 in
theorem gX6_undo_X2_bringBack : GoodIn wsX6_undo (wsV RX6 152 RX2 yX2_bringBack wsX2_bringBack) := goodIn_app (goodIn_of _ (by decide +kernel)) ggX6_undo_X2_bringBack
set_option maxRecDepth 20000 in
theorem ggX6_undo_X6_dropWhatWasWorkedOut : GoodIn wsX6_undo wsX6_dropWhatWasWorkedOut := goodIn_r _ [41, 42, 43, 44, 45, 46, 47, 48, 49, 50, 51, 52, 64, 65, 66, 67, 68, 69, 70, 71, 72, 73, 74, 75, 76, 77, 78, 79, 80, 81, 82, 83] (by decide +kernel) (by decide +kernel)
set_option maxRecDepth 20000 in
theorem gX6_undo_X6_dropWhatWasWorkedOut : GoodIn wsX6_undo (wsV RX6 80 RX6 yX6_dropWhatWasWorkedOut wsX6_dropWhatWasWorkedOut) := goodIn_app (goodIn_of _ (by decide +kernel)) ggX6_undo_X6_dropWhatWasWorkedOut
theorem dX6_undo_0 : decode cX6_undo 0 = .ok (.aload_n 0, 1) := by decide +kernel
theorem dX6_undo_1 : decode cX6_undo 1 = .ok (.getfield 29, 3) := by decide +kernel
theorem dX6_undo_4 : decode cX6_undo 4 = .ok (.getfield 77, 3) := by decide +kernel
theorem dX6_undo_7 : decode cX6_undo 7 = .ok (.ifCond .ne 6, 3) := by decide +kernel
theorem dX6_undo_10 : decode cX6_undo 10 = .ok (.bipush (-2), 2) := by decide +kernel
theorem dX6_undo_12 : decode cX6_undo 12 = .ok (.ireturn, 1) := by decide +kernel
theorem dX6_undo_13 : decode cX6_undo 13 = .ok (.aload_n 0, 1) := by decide +kernel
theorem dX6_undo_14 : decode cX6_undo 14 = .ok (.getfield 29, 3) := by decide +kernel
theorem dX6_undo_17 : decode cX6_undo 17 = .ok (.aload_n 0, 1) := by decide +kernel
theorem dX6_undo_18 : decode cX6_undo 18 = .ok (.getfield 19, 3) := by decide +kernel
theorem dX6_undo_21 : decode cX6_undo 21 = .ok (.invokevirtual 152, 3) := by decide +kernel
theorem dX6_undo_24 : decode cX6_undo 24 = .ok (.aload_n 0, 1) := by decide +kernel
theorem dX6_undo_25 : decode cX6_undo 25 = .ok (.invokevirtual 80, 3) := by decide +kernel
theorem dX6_undo_28 : decode cX6_undo 28 = .ok (.aload_n 0, 1) := by decide +kernel
theorem dX6_undo_29 : decode cX6_undo 29 = .ok (.getfield 29, 3) := by decide +kernel
theorem dX6_undo_32 : decode cX6_undo 32 = .ok (.getfield 77, 3) := by decide +kernel
theorem dX6_undo_35 : decode cX6_undo 35 = .ok (.ireturn, 1) := by decide +kernel
set_option maxRecDepth 20000 in
theorem ggX6_gateOf_X0_hasGate : GoodIn wsX6_gateOf wsX0_hasGate := goodIn_r _ [10, 11, 25, 26, 27, 28, 29, 30, 31, 32, 33] (by decide +kernel) (by decide +kernel)
set_option maxRecDepth 20000 in
theorem gX6_gateOf_X0_hasGate : GoodIn wsX6_gateOf (wsV RX6 87 RX0 yX0_hasGate wsX0_hasGate) := goodIn_app (goodIn_of _ (by decide +kernel)) ggX6_gateOf_X0_hasGate
set_option maxRecDepth 20000 in
theorem ggX6_gateOf_X0_gatesThatRead : GoodIn wsX6_gateOf wsX0_gatesThatRead := goodIn_r _ [15, 11, 16, 17, 25, 26, 27, 28, 29, 30, 31, 32, 33] (by decide +kernel) (by decide +kernel)
set_option maxRecDepth 20000 in
theorem gX6_gateOf_X0_gatesThatRead : GoodIn wsX6_gateOf (wsV RX6 155 RX0 yX0_gatesThatRead wsX0_gatesThatRead) := goodIn_app (goodIn_of _ (by decide +kernel)) ggX6_gateOf_X0_gatesThatRead
theorem dX6_gateOf_0 : decode cX6_gateOf 0 = .ok (.aload_n 0, 1) := by decide +kernel
theorem dX6_gateOf_1 : decode cX6_gateOf 1 = .ok (.getfield 19, 3) := by decide +kernel
theorem dX6_gateOf_4 : decode cX6_gateOf 4 = .ok (.iload_n 1, 1) := by decide +kernel
theorem dX6_gateOf_5 : decode cX6_gateOf 5 = .ok (.invokevirtual 87, 3) := by decide +kernel
theorem dX6_gateOf_8 : decode cX6_gateOf 8 = .ok (.ifCond .ne 5, 3) := by decide +kernel
theorem dX6_gateOf_11 : decode cX6_gateOf 11 = .ok (.iconst (-1), 1) := by decide +kernel
theorem dX6_gateOf_12 : decode cX6_gateOf 12 = .ok (.ireturn, 1) := by decide +kernel
theorem dX6_gateOf_13 : decode cX6_gateOf 13 = .ok (.iload_n 2, 1) := by decide +kernel
theorem dX6_gateOf_14 : decode cX6_gateOf 14 = .ok (.tableswitch 77 0 3 #[30, 40, 50, 60], 30) := by decide +kernel
theorem dX6_gateOf_44 : decode cX6_gateOf 44 = .ok (.aload_n 0, 1) := by decide +kernel
theorem dX6_gateOf_45 : decode cX6_gateOf 45 = .ok (.getfield 19, 3) := by decide +kernel
theorem dX6_gateOf_48 : decode cX6_gateOf 48 = .ok (.getfield 95, 3) := by decide +kernel
theorem dX6_gateOf_51 : decode cX6_gateOf 51 = .ok (.iload_n 1, 1) := by decide +kernel
theorem dX6_gateOf_52 : decode cX6_gateOf 52 = .ok (.iaload, 1) := by decide +kernel
theorem dX6_gateOf_53 : decode cX6_gateOf 53 = .ok (.ireturn, 1) := by decide +kernel
theorem dX6_gateOf_54 : decode cX6_gateOf 54 = .ok (.aload_n 0, 1) := by decide +kernel
theorem dX6_gateOf_55 : decode cX6_gateOf 55 = .ok (.getfield 19, 3) := by decide +kernel
theorem dX6_gateOf_58 : decode cX6_gateOf 58 = .ok (.getfield 99, 3) := by decide +kernel
theorem dX6_gateOf_61 : decode cX6_gateOf 61 = .ok (.iload_n 1, 1) := by decide +kernel
theorem dX6_gateOf_62 : decode cX6_gateOf 62 = .ok (.iaload, 1) := by decide +kernel
theorem dX6_gateOf_63 : decode cX6_gateOf 63 = .ok (.ireturn, 1) := by decide +kernel
theorem dX6_gateOf_64 : decode cX6_gateOf 64 = .ok (.aload_n 0, 1) := by decide +kernel
theorem dX6_gateOf_65 : decode cX6_gateOf 65 = .ok (.getfield 19, 3) := by decide +kernel
theorem dX6_gateOf_68 : decode cX6_gateOf 68 = .ok (.getfield 102, 3) := by decide +kernel
theorem dX6_gateOf_71 : decode cX6_gateOf 71 = .ok (.iload_n 1, 1) := by decide +kernel
theorem dX6_gateOf_72 : decode cX6_gateOf 72 = .ok (.iaload, 1) := by decide +kernel
theorem dX6_gateOf_73 : decode cX6_gateOf 73 = .ok (.ireturn, 1) := by decide +kernel
theorem dX6_gateOf_74 : decode cX6_gateOf 74 = .ok (.aload_n 0, 1) := by decide +kernel
theorem dX6_gateOf_75 : decode cX6_gateOf 75 = .ok (.getfield 19, 3) := by decide +kernel
theorem dX6_gateOf_78 : decode cX6_gateOf 78 = .ok (.aload_n 0, 1) := by decide +kernel
theorem dX6_gateOf_79 : decode cX6_gateOf 79 = .ok (.getfield 19, 3) := by decide +kernel
theorem dX6_gateOf_82 : decode cX6_gateOf 82 = .ok (.getfield 70, 3) := by decide +kernel
theorem dX6_gateOf_85 : decode cX6_gateOf 85 = .ok (.iload_n 1, 1) := by decide +kernel
theorem dX6_gateOf_86 : decode cX6_gateOf 86 = .ok (.iadd, 1) := by decide +kernel
theorem dX6_gateOf_87 : decode cX6_gateOf 87 = .ok (.invokevirtual 155, 3) := by decide +kernel
theorem dX6_gateOf_90 : decode cX6_gateOf 90 = .ok (.ireturn, 1) := by decide +kernel
theorem dX6_gateOf_91 : decode cX6_gateOf 91 = .ok (.iconst (-1), 1) := by decide +kernel
theorem dX6_gateOf_92 : decode cX6_gateOf 92 = .ok (.ireturn, 1) := by decide +kernel
set_option maxRecDepth 20000 in
theorem ggX6_wire_X0_hasWord : GoodIn wsX6_wire wsX0_hasWord := goodIn_r _ [7, 8, 9, 10, 6, 11, 12, 62, 63, 64, 65, 66, 67, 68, 69, 70] (by decide +kernel) (by decide +kernel)
set_option maxRecDepth 20000 in
theorem gX6_wire_X0_hasWord : GoodIn wsX6_wire (wsV RX6 159 RX0 yX0_hasWord wsX0_hasWord) := goodIn_app (goodIn_of _ (by decide +kernel)) ggX6_wire_X0_hasWord
set_option maxRecDepth 20000 in
theorem ggX6_wire_X0_hasWire : GoodIn wsX6_wire wsX0_hasWire := goodIn_r _ [16, 17, 18, 19, 6, 20, 12, 21, 62, 63, 64, 65, 66, 67, 68, 69, 70] (by decide +kernel) (by decide +kernel)
set_option maxRecDepth 20000 in
theorem gX6_wire_X0_hasWire : GoodIn wsX6_wire (wsV RX6 119 RX0 yX0_hasWire wsX0_hasWire) := goodIn_app (goodIn_of _ (by decide +kernel)) ggX6_wire_X0_hasWire
set_option maxRecDepth 20000 in
theorem ggX6_wire_X3_settle : GoodIn wsX6_wire wsX3_settle := goodIn_r _ [26, 27, 28, 29, 18, 19, 6, 20, 12, 21, 30, 31, 25, 32, 33, 34, 35, 36, 37, 38, 39, 40, 41, 42, 43, 44, 62, 63, 64, 65, 66, 67, 68, 69, 70, 71] (by decide +kernel) (by decide +kernel)
set_option maxRecDepth 20000 in
theorem gX6_wire_X3_settle : GoodIn wsX6_wire (wsV RX6 162 RX3 yX3_settle wsX3_settle) := goodIn_app (goodIn_of _ (by decide +kernel)) ggX6_wire_X3_settle
set_option maxRecDepth 20000 in
theorem ggX6_wire_X3_laneWithout : GoodIn wsX6_wire wsX3_laneWithout := goodIn_r _ [47] (by decide +kernel) (by decide +kernel)
set_option maxRecDepth 20000 in
theorem gX6_wire_X3_laneWithout : GoodIn wsX6_wire (va_wsS RX6 166 yX3_laneWithout wsX3_laneWithout) := goodIn_app (goodIn_of _ (by decide +kernel)) ggX6_wire_X3_laneWithout
set_option maxRecDepth 20000 in
theorem ggX6_wire_X3_valueAt : GoodIn wsX6_wire wsX3_valueAt := goodIn_r _ [51, 28, 52, 53, 54, 71] (by decide +kernel) (by decide +kernel)
set_option maxRecDepth 20000 in
theorem gX6_wire_X3_valueAt : GoodIn wsX6_wire (wsV RX6 169 RX3 yX3_valueAt wsX3_valueAt) := goodIn_app (goodIn_of _ (by decide +kernel)) ggX6_wire_X3_valueAt
theorem dX6_wire_0 : decode cX6_wire 0 = .ok (.aload_n 0, 1) := by decide +kernel
theorem dX6_wire_1 : decode cX6_wire 1 = .ok (.getfield 19, 3) := by decide +kernel
theorem dX6_wire_4 : decode cX6_wire 4 = .ok (.iload_n 1, 1) := by decide +kernel
theorem dX6_wire_5 : decode cX6_wire 5 = .ok (.invokevirtual 159, 3) := by decide +kernel
theorem dX6_wire_8 : decode cX6_wire 8 = .ok (.ifCond .eq 14, 3) := by decide +kernel
theorem dX6_wire_11 : decode cX6_wire 11 = .ok (.aload_n 0, 1) := by decide +kernel
theorem dX6_wire_12 : decode cX6_wire 12 = .ok (.getfield 19, 3) := by decide +kernel
theorem dX6_wire_15 : decode cX6_wire 15 = .ok (.iload_n 2, 1) := by decide +kernel
theorem dX6_wire_16 : decode cX6_wire 16 = .ok (.invokevirtual 119, 3) := by decide +kernel
theorem dX6_wire_19 : decode cX6_wire 19 = .ok (.ifCond .ne 5, 3) := by decide +kernel
theorem dX6_wire_22 : decode cX6_wire 22 = .ok (.iconst (-1), 1) := by decide +kernel
theorem dX6_wire_23 : decode cX6_wire 23 = .ok (.ireturn, 1) := by decide +kernel
theorem dX6_wire_24 : decode cX6_wire 24 = .ok (.aload_n 0, 1) := by decide +kernel
theorem dX6_wire_25 : decode cX6_wire 25 = .ok (.getfield 43, 3) := by decide +kernel
theorem dX6_wire_28 : decode cX6_wire 28 = .ok (.aload_n 0, 1) := by decide +kernel
theorem dX6_wire_29 : decode cX6_wire 29 = .ok (.getfield 19, 3) := by decide +kernel
theorem dX6_wire_32 : decode cX6_wire 32 = .ok (.iload_n 1, 1) := by decide +kernel
theorem dX6_wire_33 : decode cX6_wire 33 = .ok (.iconst (-1), 1) := by decide +kernel
theorem dX6_wire_34 : decode cX6_wire 34 = .ok (.invokevirtual 162, 3) := by decide +kernel
theorem dX6_wire_37 : decode cX6_wire 37 = .ok (.aload_n 0, 1) := by decide +kernel
theorem dX6_wire_38 : decode cX6_wire 38 = .ok (.getfield 43, 3) := by decide +kernel
theorem dX6_wire_41 : decode cX6_wire 41 = .ok (.iload_n 2, 1) := by decide +kernel
theorem dX6_wire_42 : decode cX6_wire 42 = .ok (.iload_n 1, 1) := by decide +kernel
theorem dX6_wire_43 : decode cX6_wire 43 = .ok (.invokestatic 166, 3) := by decide +kernel
theorem dX6_wire_46 : decode cX6_wire 46 = .ok (.invokevirtual 169, 3) := by decide +kernel
theorem dX6_wire_49 : decode cX6_wire 49 = .ok (.ireturn, 1) := by decide +kernel
set_option maxRecDepth 20000 in
theorem ggX6_out_X0_hasWord : GoodIn wsX6_out wsX0_hasWord := goodIn_r _ [7, 8, 9, 10, 6, 11, 12, 68, 69, 70, 71, 72, 73, 74, 75, 76] (by decide +kernel) (by decide +kernel)
set_option maxRecDepth 20000 in
theorem gX6_out_X0_hasWord : GoodIn wsX6_out (wsV RX6 159 RX0 yX0_hasWord wsX0_hasWord) := goodIn_app (goodIn_of _ (by decide +kernel)) ggX6_out_X0_hasWord
set_option maxRecDepth 20000 in
theorem ggX6_out_X0_hasStuck : GoodIn wsX6_out wsX0_hasStuck := goodIn_r _ [16, 17, 18, 19, 6, 20, 12, 21, 68, 69, 70, 71, 72, 73, 74, 75, 76] (by decide +kernel) (by decide +kernel)
set_option maxRecDepth 20000 in
theorem gX6_out_X0_hasStuck : GoodIn wsX6_out (wsV RX6 173 RX0 yX0_hasStuck wsX0_hasStuck) := goodIn_app (goodIn_of _ (by decide +kernel)) ggX6_out_X0_hasStuck
set_option maxRecDepth 20000 in
theorem ggX6_out_X3_settle : GoodIn wsX6_out wsX3_settle := goodIn_r _ [26, 27, 28, 29, 18, 19, 6, 20, 12, 21, 30, 31, 25, 32, 33, 34, 35, 36, 37, 38, 39, 40, 41, 42, 43, 44, 68, 69, 70, 71, 72, 73, 74, 75, 76, 77] (by decide +kernel) (by decide +kernel)
set_option maxRecDepth 20000 in
theorem gX6_out_X3_settle : GoodIn wsX6_out (wsV RX6 162 RX3 yX3_settle wsX3_settle) := goodIn_app (goodIn_of _ (by decide +kernel)) ggX6_out_X3_settle
set_option maxRecDepth 20000 in
theorem ggX6_out_X3_laneWithout : GoodIn wsX6_out wsX3_laneWithout := goodIn_r _ [47] (by decide +kernel) (by decide +kernel)
set_option maxRecDepth 20000 in
theorem gX6_out_X3_laneWithout : GoodIn wsX6_out (va_wsS RX6 166 yX3_laneWithout wsX3_laneWithout) := goodIn_app (goodIn_of _ (by decide +kernel)) ggX6_out_X3_laneWithout
set_option maxRecDepth 20000 in
theorem ggX6_out_X3_outAt : GoodIn wsX6_out wsX3_outAt := goodIn_r _ [51, 52, 53, 54, 55, 56, 25, 57, 28, 58, 59, 60, 68, 69, 70, 71, 72, 73, 74, 75, 76, 77] (by decide +kernel) (by decide +kernel)
set_option maxRecDepth 20000 in
theorem gX6_out_X3_outAt : GoodIn wsX6_out (wsV RX6 176 RX3 yX3_outAt wsX3_outAt) := goodIn_app (goodIn_of _ (by decide +kernel)) ggX6_out_X3_outAt
theorem dX6_out_0 : decode cX6_out 0 = .ok (.aload_n 0, 1) := by decide +kernel
theorem dX6_out_1 : decode cX6_out 1 = .ok (.getfield 19, 3) := by decide +kernel
theorem dX6_out_4 : decode cX6_out 4 = .ok (.iload_n 1, 1) := by decide +kernel
theorem dX6_out_5 : decode cX6_out 5 = .ok (.invokevirtual 159, 3) := by decide +kernel
theorem dX6_out_8 : decode cX6_out 8 = .ok (.ifCond .eq 19, 3) := by decide +kernel
theorem dX6_out_11 : decode cX6_out 11 = .ok (.iload_n 2, 1) := by decide +kernel
theorem dX6_out_12 : decode cX6_out 12 = .ok (.iconst (-1), 1) := by decide +kernel
theorem dX6_out_13 : decode cX6_out 13 = .ok (.if_icmp .eq 16, 3) := by decide +kernel
theorem dX6_out_16 : decode cX6_out 16 = .ok (.aload_n 0, 1) := by decide +kernel
theorem dX6_out_17 : decode cX6_out 17 = .ok (.getfield 19, 3) := by decide +kernel
theorem dX6_out_20 : decode cX6_out 20 = .ok (.iload_n 2, 1) := by decide +kernel
theorem dX6_out_21 : decode cX6_out 21 = .ok (.invokevirtual 173, 3) := by decide +kernel
theorem dX6_out_24 : decode cX6_out 24 = .ok (.ifCond .ne 5, 3) := by decide +kernel
theorem dX6_out_27 : decode cX6_out 27 = .ok (.iconst (-1), 1) := by decide +kernel
theorem dX6_out_28 : decode cX6_out 28 = .ok (.ireturn, 1) := by decide +kernel
theorem dX6_out_29 : decode cX6_out 29 = .ok (.aload_n 0, 1) := by decide +kernel
theorem dX6_out_30 : decode cX6_out 30 = .ok (.getfield 43, 3) := by decide +kernel
theorem dX6_out_33 : decode cX6_out 33 = .ok (.aload_n 0, 1) := by decide +kernel
theorem dX6_out_34 : decode cX6_out 34 = .ok (.getfield 19, 3) := by decide +kernel
theorem dX6_out_37 : decode cX6_out 37 = .ok (.iload_n 1, 1) := by decide +kernel
theorem dX6_out_38 : decode cX6_out 38 = .ok (.iconst (-1), 1) := by decide +kernel
theorem dX6_out_39 : decode cX6_out 39 = .ok (.invokevirtual 162, 3) := by decide +kernel
theorem dX6_out_42 : decode cX6_out 42 = .ok (.aload_n 0, 1) := by decide +kernel
theorem dX6_out_43 : decode cX6_out 43 = .ok (.getfield 43, 3) := by decide +kernel
theorem dX6_out_46 : decode cX6_out 46 = .ok (.aload_n 0, 1) := by decide +kernel
theorem dX6_out_47 : decode cX6_out 47 = .ok (.getfield 19, 3) := by decide +kernel
theorem dX6_out_50 : decode cX6_out 50 = .ok (.iload_n 2, 1) := by decide +kernel
theorem dX6_out_51 : decode cX6_out 51 = .ok (.iconst (-1), 1) := by decide +kernel
theorem dX6_out_52 : decode cX6_out 52 = .ok (.if_icmp .ne 10, 3) := by decide +kernel
theorem dX6_out_55 : decode cX6_out 55 = .ok (.iload_n 1, 1) := by decide +kernel
theorem dX6_out_56 : decode cX6_out 56 = .ok (.invokestatic 166, 3) := by decide +kernel
theorem dX6_out_59 : decode cX6_out 59 = .ok (.goto 4, 3) := by decide +kernel
theorem dX6_out_62 : decode cX6_out 62 = .ok (.iload_n 2, 1) := by decide +kernel
theorem dX6_out_63 : decode cX6_out 63 = .ok (.invokevirtual 176, 3) := by decide +kernel
theorem dX6_out_66 : decode cX6_out 66 = .ok (.ireturn, 1) := by decide +kernel
set_option maxRecDepth 20000 in
theorem ggX6_word_X6_freshCodeWords : GoodIn wsX6_word wsX6_freshCodeWords := goodIn_r _ [7, 8, 9, 10, 11, 12, 13, 14, 15, 16, 17, 18, 19, 20, 21, 22, 23, 24, 25, 26, 27, 28, 29, 30, 31, 32, 33, 34, 35, 36, 37, 38, 39, 40, 41, 42, 43, 44, 45, 46, 47, 48, 49, 50, 58, 59, 60, 61, 62, 63, 64, 51, 52, 53, 54, 55, 56, 57, 65, 66, 67, 68, 69, 70, 71, 72, 73] (by decide +kernel) (by decide +kernel)
set_option maxRecDepth 20000 in
theorem gX6_word_X6_freshCodeWords : GoodIn wsX6_word (wsV RX6 145 RX6 yX6_freshCodeWords wsX6_freshCodeWords) := goodIn_app (goodIn_of _ (by decide +kernel)) ggX6_word_X6_freshCodeWords
theorem dX6_word_0 : decode cX6_word 0 = .ok (.iload_n 1, 1) := by decide +kernel
theorem dX6_word_1 : decode cX6_word 1 = .ok (.iconst (-1), 1) := by decide +kernel
theorem dX6_word_2 : decode cX6_word 2 = .ok (.if_icmp .ge 5, 3) := by decide +kernel
theorem dX6_word_5 : decode cX6_word 5 = .ok (.iconst (-1), 1) := by decide +kernel
theorem dX6_word_6 : decode cX6_word 6 = .ok (.ireturn, 1) := by decide +kernel
theorem dX6_word_7 : decode cX6_word 7 = .ok (.aload_n 0, 1) := by decide +kernel
theorem dX6_word_8 : decode cX6_word 8 = .ok (.invokevirtual 145, 3) := by decide +kernel
theorem dX6_word_11 : decode cX6_word 11 = .ok (.astore_n 2, 1) := by decide +kernel
theorem dX6_word_12 : decode cX6_word 12 = .ok (.iload_n 1, 1) := by decide +kernel
theorem dX6_word_13 : decode cX6_word 13 = .ok (.iconst (-1), 1) := by decide +kernel
theorem dX6_word_14 : decode cX6_word 14 = .ok (.if_icmp .ne 8, 3) := by decide +kernel
theorem dX6_word_17 : decode cX6_word 17 = .ok (.aload_n 2, 1) := by decide +kernel
theorem dX6_word_18 : decode cX6_word 18 = .ok (.getfield 149, 3) := by decide +kernel
theorem dX6_word_21 : decode cX6_word 21 = .ok (.ireturn, 1) := by decide +kernel
theorem dX6_word_22 : decode cX6_word 22 = .ok (.iload_n 1, 1) := by decide +kernel
theorem dX6_word_23 : decode cX6_word 23 = .ok (.aload_n 2, 1) := by decide +kernel
theorem dX6_word_24 : decode cX6_word 24 = .ok (.getfield 149, 3) := by decide +kernel
theorem dX6_word_27 : decode cX6_word 27 = .ok (.if_icmp .ge 12, 3) := by decide +kernel
theorem dX6_word_30 : decode cX6_word 30 = .ok (.aload_n 2, 1) := by decide +kernel
theorem dX6_word_31 : decode cX6_word 31 = .ok (.getfield 180, 3) := by decide +kernel
theorem dX6_word_34 : decode cX6_word 34 = .ok (.iload_n 1, 1) := by decide +kernel
theorem dX6_word_35 : decode cX6_word 35 = .ok (.iaload, 1) := by decide +kernel
theorem dX6_word_36 : decode cX6_word 36 = .ok (.goto 5, 3) := by decide +kernel
theorem dX6_word_39 : decode cX6_word 39 = .ok (.bipush (-4), 2) := by decide +kernel
theorem dX6_word_41 : decode cX6_word 41 = .ok (.ireturn, 1) := by decide +kernel
set_option maxRecDepth 20000 in
theorem ggX6_rank_X0_hasWord : GoodIn wsX6_rank wsX0_hasWord := goodIn_r _ [7, 8, 9, 10, 6, 11, 12, 69, 70, 71, 72, 73, 74, 75, 76, 77] (by decide +kernel) (by decide +kernel)
set_option maxRecDepth 20000 in
theorem gX6_rank_X0_hasWord : GoodIn wsX6_rank (wsV RX6 159 RX0 yX0_hasWord wsX0_hasWord) := goodIn_app (goodIn_of _ (by decide +kernel)) ggX6_rank_X0_hasWord
set_option maxRecDepth 20000 in
theorem ggX6_rank_X6_freshCodeWords : GoodIn wsX6_rank wsX6_freshCodeWords := goodIn_r _ [17, 18, 19, 1, 20, 21, 22, 23, 24, 25, 26, 27, 28, 29, 30, 9, 10, 6, 11, 12, 31, 32, 33, 34, 35, 36, 37, 38, 39, 40, 41, 42, 43, 44, 45, 46, 47, 48, 49, 50, 51, 52, 53, 54, 55, 56, 57, 58, 59, 60, 61, 62, 63, 64, 65, 66, 67, 68, 69, 70, 71, 72, 73, 74, 75, 76, 77] (by decide +kernel) (by decide +kernel)
set_option maxRecDepth 20000 in
theorem gX6_rank_X6_freshCodeWords : GoodIn wsX6_rank (wsV RX6 145 RX6 yX6_freshCodeWords wsX6_freshCodeWords) := goodIn_app (goodIn_of _ (by decide +kernel)) ggX6_rank_X6_freshCodeWords
theorem dX6_rank_0 : decode cX6_rank 0 = .ok (.aload_n 0, 1) := by decide +kernel
theorem dX6_rank_1 : decode cX6_rank 1 = .ok (.getfield 19, 3) := by decide +kernel
theorem dX6_rank_4 : decode cX6_rank 4 = .ok (.iload_n 1, 1) := by decide +kernel
theorem dX6_rank_5 : decode cX6_rank 5 = .ok (.invokevirtual 159, 3) := by decide +kernel
theorem dX6_rank_8 : decode cX6_rank 8 = .ok (.ifCond .ne 5, 3) := by decide +kernel
theorem dX6_rank_11 : decode cX6_rank 11 = .ok (.iconst (-1), 1) := by decide +kernel
theorem dX6_rank_12 : decode cX6_rank 12 = .ok (.ireturn, 1) := by decide +kernel
theorem dX6_rank_13 : decode cX6_rank 13 = .ok (.aload_n 0, 1) := by decide +kernel
theorem dX6_rank_14 : decode cX6_rank 14 = .ok (.invokevirtual 145, 3) := by decide +kernel
theorem dX6_rank_17 : decode cX6_rank 17 = .ok (.getfield 183, 3) := by decide +kernel
theorem dX6_rank_20 : decode cX6_rank 20 = .ok (.iload_n 1, 1) := by decide +kernel
theorem dX6_rank_21 : decode cX6_rank 21 = .ok (.iaload, 1) := by decide +kernel
theorem dX6_rank_22 : decode cX6_rank 22 = .ok (.ireturn, 1) := by decide +kernel
set_option maxRecDepth 20000 in
theorem ggX6_missed_X6_comparedCodeWords : GoodIn wsX6_missed wsX6_comparedCodeWords := goodIn_r _ [6, 7, 8, 9, 10, 5, 11, 12, 13, 14, 15, 16, 17, 18, 19, 20, 21, 22, 23, 24, 25, 26, 27, 28, 29, 30, 31, 32, 33, 34, 35, 36, 37, 38, 39, 40, 41, 42, 43, 44, 45, 46, 47, 48, 49, 50, 51, 52, 53, 54, 55, 56, 57, 58, 59, 60, 61, 62, 63, 64, 65, 66, 67, 68, 69, 70, 71, 72, 73, 74, 75, 76, 77, 78, 79, 80, 81, 82, 83, 84, 85, 86, 87, 88] (by decide +kernel) (by decide +kernel)
set_option maxRecDepth 20000 in
theorem gX6_missed_X6_comparedCodeWords : GoodIn wsX6_missed (wsV RX6 186 RX6 yX6_comparedCodeWords wsX6_comparedCodeWords) := goodIn_app (goodIn_of _ (by decide +kernel)) ggX6_missed_X6_comparedCodeWords
theorem dX6_missed_0 : decode cX6_missed 0 = .ok (.aload_n 0, 1) := by decide +kernel
theorem dX6_missed_1 : decode cX6_missed 1 = .ok (.invokevirtual 186, 3) := by decide +kernel
theorem dX6_missed_4 : decode cX6_missed 4 = .ok (.getfield 189, 3) := by decide +kernel
theorem dX6_missed_7 : decode cX6_missed 7 = .ok (.ireturn, 1) := by decide +kernel
set_option maxRecDepth 20000 in
theorem ggX6_near_X6_comparedCodeWords : GoodIn wsX6_near wsX6_comparedCodeWords := goodIn_r _ [6, 7, 8, 9, 10, 5, 11, 12, 13, 14, 15, 16, 17, 18, 19, 20, 21, 22, 23, 24, 25, 26, 27, 28, 29, 30, 31, 32, 33, 34, 35, 36, 37, 38, 39, 40, 41, 42, 43, 44, 45, 46, 47, 48, 49, 50, 51, 52, 53, 54, 55, 56, 57, 58, 59, 60, 61, 62, 63, 64, 65, 66, 67, 68, 69, 70, 71, 72, 73, 74, 75, 76, 77, 78, 79, 80, 81, 82, 83, 84, 85, 86, 87, 88] (by decide +kernel) (by decide +kernel)
set_option maxRecDepth 20000 in
theorem gX6_near_X6_comparedCodeWords : GoodIn wsX6_near (wsV RX6 186 RX6 yX6_comparedCodeWords wsX6_comparedCodeWords) := goodIn_app (goodIn_of _ (by decide +kernel)) ggX6_near_X6_comparedCodeWords
theorem dX6_near_0 : decode cX6_near 0 = .ok (.aload_n 0, 1) := by decide +kernel
theorem dX6_near_1 : decode cX6_near 1 = .ok (.invokevirtual 186, 3) := by decide +kernel
theorem dX6_near_4 : decode cX6_near 4 = .ok (.getfield 192, 3) := by decide +kernel
theorem dX6_near_7 : decode cX6_near 7 = .ok (.ireturn, 1) := by decide +kernel
set_option maxRecDepth 20000 in
theorem ggX6_stuck_X0_hasStuck : GoodIn wsX6_stuck wsX0_hasStuck := goodIn_r _ [9, 10, 11, 12, 8, 13, 14, 15, 172, 173, 174, 175, 176, 177, 178, 179, 180] (by decide +kernel) (by decide +kernel)
set_option maxRecDepth 20000 in
theorem gX6_stuck_X0_hasStuck : GoodIn wsX6_stuck (wsV RX6 173 RX0 yX0_hasStuck wsX0_hasStuck) := goodIn_app (goodIn_of _ (by decide +kernel)) ggX6_stuck_X0_hasStuck
set_option maxRecDepth 20000 in
theorem ggX6_stuck_X6_freshSurvey : GoodIn wsX6_stuck wsX6_freshSurvey := goodIn_r _ [20, 21, 22, 1, 23, 24, 25, 26, 19, 27, 2, 28, 29, 30, 31, 32, 33, 34, 35, 36, 37, 38, 39, 40, 41, 8, 42, 14, 43, 44, 45, 46, 47, 48, 49, 50, 51, 52, 53, 54, 55, 56, 57, 58, 59, 60, 61, 62, 63, 64, 65, 66, 67, 68, 69, 70, 71, 72, 73, 74, 75, 76, 77, 78, 79, 80, 81, 82, 83, 84, 85, 86, 87, 88, 89, 90, 11, 12, 13, 15, 91, 92, 93, 94, 95, 96, 97, 98, 99, 100, 101, 102, 103, 104, 105, 106, 107, 108, 109, 110, 111, 112, 113, 114, 115, 116, 117, 118, 119, 120, 121, 122, 123, 124, 125, 126, 127, 128, 129, 130, 131, 132, 133, 134, 135, 136, 137, 138, 152, 153, 154, 155, 156, 157, 158, 159, 160, 161, 162, 163, 164, 165, 166, 167, 168, 169, 170, 171, 181, 182, 183, 184, 185, 186, 187, 172, 173, 174, 175, 176, 177, 178, 179, 180, 188] (by decide +kernel) (by decide +kernel)
set_option maxRecDepth 20000 in
theorem gX6_stuck_X6_freshSurvey : GoodIn wsX6_stuck (wsV RX6 195 RX6 yX6_freshSurvey wsX6_freshSurvey) := goodIn_app (goodIn_of _ (by decide +kernel)) ggX6_stuck_X6_freshSurvey
set_option maxRecDepth 20000 in
theorem ggX6_stuck_X1_howManyHave : GoodIn wsX6_stuck wsX1_howManyHave := goodIn_r _ [142, 34, 36, 128, 19, 129, 181, 182, 183, 184, 185, 186, 187] (by decide +kernel) (by decide +kernel)
set_option maxRecDepth 20000 in
theorem gX6_stuck_X1_howManyHave : GoodIn wsX6_stuck (wsV RX6 203 RX1 yX1_howManyHave wsX1_howManyHave) := goodIn_app (goodIn_of _ (by decide +kernel)) ggX6_stuck_X1_howManyHave
set_option maxRecDepth 20000 in
theorem ggX6_stuck_X1_lowestThatHas : GoodIn wsX6_stuck wsX1_lowestThatHas := goodIn_r _ [146, 34, 36, 128, 19, 129, 181, 182, 183, 184, 185, 186, 187] (by decide +kernel) (by decide +kernel)
set_option maxRecDepth 20000 in
theorem gX6_stuck_X1_lowestThatHas : GoodIn wsX6_stuck (wsV RX6 210 RX1 yX1_lowestThatHas wsX1_lowestThatHas) := goodIn_app (goodIn_of _ (by decide +kernel)) ggX6_stuck_X1_lowestThatHas
set_option maxRecDepth 20000 in
theorem ggX6_stuck_X4_latent : GoodIn wsX6_stuck wsX4_latent := goodIn_r _ [150, 85, 88, 84, 159, 160, 161, 162, 163, 164, 165, 166, 167, 168, 169, 170, 171] (by decide +kernel) (by decide +kernel)
set_option maxRecDepth 20000 in
theorem gX6_stuck_X4_latent : GoodIn wsX6_stuck (wsV RX6 213 RX4 yX4_latent wsX4_latent) := goodIn_app (goodIn_of _ (by decide +kernel)) ggX6_stuck_X4_latent
set_option maxRecDepth 20000 in
theorem ggX6_stuck_X6_bit : GoodIn wsX6_stuck wsX6_bit := goodIn_r _ [129] (by decide +kernel) (by decide +kernel)
set_option maxRecDepth 20000 in
theorem gX6_stuck_X6_bit : GoodIn wsX6_stuck (va_wsS RX6 217 yX6_bit wsX6_bit) := goodIn_app (goodIn_of _ (by decide +kernel)) ggX6_stuck_X6_bit
theorem dX6_stuck_0 : decode cX6_stuck 0 = .ok (.aload_n 0, 1) := by decide +kernel
theorem dX6_stuck_1 : decode cX6_stuck 1 = .ok (.getfield 19, 3) := by decide +kernel
theorem dX6_stuck_4 : decode cX6_stuck 4 = .ok (.iload_n 1, 1) := by decide +kernel
theorem dX6_stuck_5 : decode cX6_stuck 5 = .ok (.invokevirtual 173, 3) := by decide +kernel
theorem dX6_stuck_8 : decode cX6_stuck 8 = .ok (.ifCond .eq 12, 3) := by decide +kernel
theorem dX6_stuck_11 : decode cX6_stuck 11 = .ok (.iload_n 2, 1) := by decide +kernel
theorem dX6_stuck_12 : decode cX6_stuck 12 = .ok (.ifCond .lt 8, 3) := by decide +kernel
theorem dX6_stuck_15 : decode cX6_stuck 15 = .ok (.iload_n 2, 1) := by decide +kernel
theorem dX6_stuck_16 : decode cX6_stuck 16 = .ok (.iconst 4, 1) := by decide +kernel
theorem dX6_stuck_17 : decode cX6_stuck 17 = .ok (.if_icmp .le 5, 3) := by decide +kernel
theorem dX6_stuck_20 : decode cX6_stuck 20 = .ok (.iconst (-1), 1) := by decide +kernel
theorem dX6_stuck_21 : decode cX6_stuck 21 = .ok (.ireturn, 1) := by decide +kernel
theorem dX6_stuck_22 : decode cX6_stuck 22 = .ok (.aload_n 0, 1) := by decide +kernel
theorem dX6_stuck_23 : decode cX6_stuck 23 = .ok (.invokevirtual 195, 3) := by decide +kernel
theorem dX6_stuck_26 : decode cX6_stuck 26 = .ok (.astore_n 3, 1) := by decide +kernel
theorem dX6_stuck_27 : decode cX6_stuck 27 = .ok (.iload_n 2, 1) := by decide +kernel
theorem dX6_stuck_28 : decode cX6_stuck 28 = .ok (.tableswitch 84 0 3 #[32, 45, 58, 71], 32) := by decide +kernel
theorem dX6_stuck_60 : decode cX6_stuck 60 = .ok (.aload_n 0, 1) := by decide +kernel
theorem dX6_stuck_61 : decode cX6_stuck 61 = .ok (.getfield 36, 3) := by decide +kernel
theorem dX6_stuck_64 : decode cX6_stuck 64 = .ok (.aload_n 3, 1) := by decide +kernel
theorem dX6_stuck_65 : decode cX6_stuck 65 = .ok (.getfield 199, 3) := by decide +kernel
theorem dX6_stuck_68 : decode cX6_stuck 68 = .ok (.iload_n 1, 1) := by decide +kernel
theorem dX6_stuck_69 : decode cX6_stuck 69 = .ok (.invokevirtual 203, 3) := by decide +kernel
theorem dX6_stuck_72 : decode cX6_stuck 72 = .ok (.ireturn, 1) := by decide +kernel
theorem dX6_stuck_73 : decode cX6_stuck 73 = .ok (.aload_n 0, 1) := by decide +kernel
theorem dX6_stuck_74 : decode cX6_stuck 74 = .ok (.getfield 36, 3) := by decide +kernel
theorem dX6_stuck_77 : decode cX6_stuck 77 = .ok (.aload_n 3, 1) := by decide +kernel
theorem dX6_stuck_78 : decode cX6_stuck 78 = .ok (.getfield 207, 3) := by decide +kernel
theorem dX6_stuck_81 : decode cX6_stuck 81 = .ok (.iload_n 1, 1) := by decide +kernel
theorem dX6_stuck_82 : decode cX6_stuck 82 = .ok (.invokevirtual 203, 3) := by decide +kernel
theorem dX6_stuck_85 : decode cX6_stuck 85 = .ok (.ireturn, 1) := by decide +kernel
theorem dX6_stuck_86 : decode cX6_stuck 86 = .ok (.aload_n 0, 1) := by decide +kernel
theorem dX6_stuck_87 : decode cX6_stuck 87 = .ok (.getfield 36, 3) := by decide +kernel
theorem dX6_stuck_90 : decode cX6_stuck 90 = .ok (.aload_n 3, 1) := by decide +kernel
theorem dX6_stuck_91 : decode cX6_stuck 91 = .ok (.getfield 199, 3) := by decide +kernel
theorem dX6_stuck_94 : decode cX6_stuck 94 = .ok (.iload_n 1, 1) := by decide +kernel
theorem dX6_stuck_95 : decode cX6_stuck 95 = .ok (.invokevirtual 210, 3) := by decide +kernel
theorem dX6_stuck_98 : decode cX6_stuck 98 = .ok (.ireturn, 1) := by decide +kernel
theorem dX6_stuck_99 : decode cX6_stuck 99 = .ok (.aload_n 0, 1) := by decide +kernel
theorem dX6_stuck_100 : decode cX6_stuck 100 = .ok (.getfield 36, 3) := by decide +kernel
theorem dX6_stuck_103 : decode cX6_stuck 103 = .ok (.aload_n 3, 1) := by decide +kernel
theorem dX6_stuck_104 : decode cX6_stuck 104 = .ok (.getfield 207, 3) := by decide +kernel
theorem dX6_stuck_107 : decode cX6_stuck 107 = .ok (.iload_n 1, 1) := by decide +kernel
theorem dX6_stuck_108 : decode cX6_stuck 108 = .ok (.invokevirtual 210, 3) := by decide +kernel
theorem dX6_stuck_111 : decode cX6_stuck 111 = .ok (.ireturn, 1) := by decide +kernel
theorem dX6_stuck_112 : decode cX6_stuck 112 = .ok (.aload_n 3, 1) := by decide +kernel
theorem dX6_stuck_113 : decode cX6_stuck 113 = .ok (.invokevirtual 213, 3) := by decide +kernel
theorem dX6_stuck_116 : decode cX6_stuck 116 = .ok (.iload_n 1, 1) := by decide +kernel
theorem dX6_stuck_117 : decode cX6_stuck 117 = .ok (.invokestatic 217, 3) := by decide +kernel
theorem dX6_stuck_120 : decode cX6_stuck 120 = .ok (.ireturn, 1) := by decide +kernel
set_option maxRecDepth 20000 in
theorem ggX6_exposes_X0_hasWord : GoodIn wsX6_exposes wsX0_hasWord := goodIn_r _ [7, 8, 9, 10, 6, 11, 12, 166, 167, 168, 169, 170, 171, 172, 173, 174] (by decide +kernel) (by decide +kernel)
set_option maxRecDepth 20000 in
theorem gX6_exposes_X0_hasWord : GoodIn wsX6_exposes (wsV RX6 159 RX0 yX0_hasWord wsX0_hasWord) := goodIn_app (goodIn_of _ (by decide +kernel)) ggX6_exposes_X0_hasWord
set_option maxRecDepth 20000 in
theorem ggX6_exposes_X0_isInCode : GoodIn wsX6_exposes wsX0_isInCode := goodIn_r _ [16, 17, 18, 19, 20, 21, 22, 23, 24, 25, 26, 27, 28, 6, 29, 12, 30, 31, 32, 33, 34, 35, 36, 166, 167, 168, 169, 170, 171, 172, 173, 174] (by decide +kernel) (by decide +kernel)
set_option maxRecDepth 20000 in
theorem gX6_exposes_X0_isInCode : GoodIn wsX6_exposes (wsV RX6 221 RX0 yX0_isInCode wsX0_isInCode) := goodIn_app (goodIn_of _ (by decide +kernel)) ggX6_exposes_X0_isInCode
set_option maxRecDepth 20000 in
theorem ggX6_exposes_X6_freshSurvey : GoodIn wsX6_exposes wsX6_freshSurvey := goodIn_r _ [41, 42, 43, 1, 44, 45, 46, 47, 40, 48, 49, 50, 51, 52, 53, 54, 55, 56, 57, 58, 59, 60, 61, 9, 10, 6, 11, 12, 62, 14, 15, 16, 17, 18, 19, 20, 21, 22, 23, 24, 25, 26, 27, 28, 29, 30, 31, 32, 33, 34, 35, 36, 63, 64, 65, 66, 67, 68, 69, 70, 71, 72, 73, 74, 75, 76, 77, 78, 79, 80, 81, 82, 83, 84, 85, 86, 87, 88, 89, 90, 91, 92, 93, 94, 95, 96, 97, 98, 99, 100, 101, 102, 103, 104, 105, 106, 107, 108, 109, 110, 111, 112, 113, 114, 115, 116, 117, 118, 119, 120, 121, 122, 123, 124, 125, 126, 127, 128, 129, 130, 131, 132, 133, 134, 135, 136, 137, 138, 146, 147, 148, 149, 150, 151, 152, 153, 154, 155, 156, 157, 158, 159, 160, 161, 162, 163, 164, 165, 175, 176, 177, 178, 179, 180, 181, 166, 167, 168, 169, 170, 171, 172, 173, 174, 182] (by decide +kernel) (by decide +kernel)
set_option maxRecDepth 20000 in
theorem gX6_exposes_X6_freshSurvey : GoodIn wsX6_exposes (wsV RX6 195 RX6 yX6_freshSurvey wsX6_freshSurvey) := goodIn_app (goodIn_of _ (by decide +kernel)) ggX6_exposes_X6_freshSurvey
set_option maxRecDepth 20000 in
theorem ggX6_exposes_J13_bitCount_95d88 : GoodIn wsX6_exposes wsJ13_bitCount_95d88 := goodIn_r _ [142, 143, 144, 145] (by decide +kernel) (by decide +kernel)
set_option maxRecDepth 20000 in
theorem gX6_exposes_J13_bitCount_95d88 : GoodIn wsX6_exposes (va_wsS RX6 224 yJ13_bitCount_95d88 wsJ13_bitCount_95d88) := goodIn_app (goodIn_of _ (by decide +kernel)) ggX6_exposes_J13_bitCount_95d88
theorem dX6_exposes_0 : decode cX6_exposes 0 = .ok (.aload_n 0, 1) := by decide +kernel
theorem dX6_exposes_1 : decode cX6_exposes 1 = .ok (.getfield 19, 3) := by decide +kernel
theorem dX6_exposes_4 : decode cX6_exposes 4 = .ok (.iload_n 1, 1) := by decide +kernel
theorem dX6_exposes_5 : decode cX6_exposes 5 = .ok (.invokevirtual 159, 3) := by decide +kernel
theorem dX6_exposes_8 : decode cX6_exposes 8 = .ok (.ifCond .eq 14, 3) := by decide +kernel
theorem dX6_exposes_11 : decode cX6_exposes 11 = .ok (.aload_n 0, 1) := by decide +kernel
theorem dX6_exposes_12 : decode cX6_exposes 12 = .ok (.getfield 19, 3) := by decide +kernel
theorem dX6_exposes_15 : decode cX6_exposes 15 = .ok (.iload_n 1, 1) := by decide +kernel
theorem dX6_exposes_16 : decode cX6_exposes 16 = .ok (.invokevirtual 221, 3) := by decide +kernel
theorem dX6_exposes_19 : decode cX6_exposes 19 = .ok (.ifCond .ne 5, 3) := by decide +kernel
theorem dX6_exposes_22 : decode cX6_exposes 22 = .ok (.iconst (-1), 1) := by decide +kernel
theorem dX6_exposes_23 : decode cX6_exposes 23 = .ok (.ireturn, 1) := by decide +kernel
theorem dX6_exposes_24 : decode cX6_exposes 24 = .ok (.aload_n 0, 1) := by decide +kernel
theorem dX6_exposes_25 : decode cX6_exposes 25 = .ok (.invokevirtual 195, 3) := by decide +kernel
theorem dX6_exposes_28 : decode cX6_exposes 28 = .ok (.getfield 199, 3) := by decide +kernel
theorem dX6_exposes_31 : decode cX6_exposes 31 = .ok (.iload_n 1, 1) := by decide +kernel
theorem dX6_exposes_32 : decode cX6_exposes 32 = .ok (.laload, 1) := by decide +kernel
theorem dX6_exposes_33 : decode cX6_exposes 33 = .ok (.invokestatic 224, 3) := by decide +kernel
theorem dX6_exposes_36 : decode cX6_exposes 36 = .ok (.ireturn, 1) := by decide +kernel
set_option maxRecDepth 20000 in
theorem ggX6_is_X6_freshSurvey : GoodIn wsX6_is wsX6_freshSurvey := goodIn_r _ [7, 8, 9, 10, 11, 12, 13, 14, 6, 15, 16, 17, 18, 19, 20, 21, 22, 23, 24, 25, 26, 27, 28, 29, 30, 31, 32, 33, 34, 35, 36, 37, 38, 39, 40, 41, 42, 43, 44, 45, 46, 47, 48, 49, 50, 51, 52, 53, 54, 55, 56, 57, 58, 59, 60, 61, 62, 63, 64, 65, 66, 67, 68, 69, 70, 71, 72, 73, 74, 75, 76, 77, 78, 79, 80, 81, 82, 83, 84, 85, 86, 87, 88, 89, 90, 91, 92, 93, 94, 95, 96, 97, 98, 99, 100, 101, 102, 103, 104, 105, 106, 107, 108, 109, 110, 111, 112, 113, 114, 115, 116, 117, 118, 119, 120, 121, 122, 123, 124, 125, 126, 127, 128, 129, 130, 131, 132, 133, 151, 152, 153, 154, 155, 156, 157, 138, 139, 140, 141, 142, 143, 144, 145, 146, 147, 148, 149, 150, 158, 159, 160, 161, 162, 163, 164, 165, 166, 167, 168, 169, 170, 171, 172, 173, 174] (by decide +kernel) (by decide +kernel)
set_option maxRecDepth 20000 in
theorem gX6_is_X6_freshSurvey : GoodIn wsX6_is (wsV RX6 195 RX6 yX6_freshSurvey wsX6_freshSurvey) := goodIn_app (goodIn_of _ (by decide +kernel)) ggX6_is_X6_freshSurvey
set_option maxRecDepth 20000 in
theorem ggX6_is_X4_neverExposed : GoodIn wsX6_is wsX4_neverExposed := goodIn_r _ [137, 76, 77, 75, 138, 139, 140, 141, 142, 143, 144, 145, 146, 147, 148, 149, 150] (by decide +kernel) (by decide +kernel)
set_option maxRecDepth 20000 in
theorem gX6_is_X4_neverExposed : GoodIn wsX6_is (wsV RX6 234 RX4 yX4_neverExposed wsX4_neverExposed) := goodIn_app (goodIn_of _ (by decide +kernel)) ggX6_is_X4_neverExposed
theorem dX6_is_0 : decode cX6_is 0 = .ok (.iload_n 1, 1) := by decide +kernel
theorem dX6_is_1 : decode cX6_is 1 = .ok (.tableswitch 79 0 2 #[27, 43, 61], 27) := by decide +kernel
theorem dX6_is_28 : decode cX6_is 28 = .ok (.aload_n 0, 1) := by decide +kernel
theorem dX6_is_29 : decode cX6_is 29 = .ok (.invokevirtual 195, 3) := by decide +kernel
theorem dX6_is_32 : decode cX6_is 32 = .ok (.getfield 230, 3) := by decide +kernel
theorem dX6_is_35 : decode cX6_is 35 = .ok (.ifCond .eq 7, 3) := by decide +kernel
theorem dX6_is_38 : decode cX6_is 38 = .ok (.iconst 1, 1) := by decide +kernel
theorem dX6_is_39 : decode cX6_is 39 = .ok (.goto 4, 3) := by decide +kernel
theorem dX6_is_42 : decode cX6_is 42 = .ok (.iconst 0, 1) := by decide +kernel
theorem dX6_is_43 : decode cX6_is 43 = .ok (.ireturn, 1) := by decide +kernel
theorem dX6_is_44 : decode cX6_is 44 = .ok (.aload_n 0, 1) := by decide +kernel
theorem dX6_is_45 : decode cX6_is 45 = .ok (.invokevirtual 195, 3) := by decide +kernel
theorem dX6_is_48 : decode cX6_is 48 = .ok (.invokevirtual 234, 3) := by decide +kernel
theorem dX6_is_51 : decode cX6_is 51 = .ok (.lconst 0, 1) := by decide +kernel
theorem dX6_is_52 : decode cX6_is 52 = .ok (.lcmp, 1) := by decide +kernel
theorem dX6_is_53 : decode cX6_is 53 = .ok (.ifCond .ne 7, 3) := by decide +kernel
theorem dX6_is_56 : decode cX6_is 56 = .ok (.iconst 1, 1) := by decide +kernel
theorem dX6_is_57 : decode cX6_is 57 = .ok (.goto 4, 3) := by decide +kernel
theorem dX6_is_60 : decode cX6_is 60 = .ok (.iconst 0, 1) := by decide +kernel
theorem dX6_is_61 : decode cX6_is 61 = .ok (.ireturn, 1) := by decide +kernel
theorem dX6_is_62 : decode cX6_is 62 = .ok (.aload_n 0, 1) := by decide +kernel
theorem dX6_is_63 : decode cX6_is 63 = .ok (.invokevirtual 195, 3) := by decide +kernel
theorem dX6_is_66 : decode cX6_is 66 = .ok (.getfield 237, 3) := by decide +kernel
theorem dX6_is_69 : decode cX6_is 69 = .ok (.lconst 0, 1) := by decide +kernel
theorem dX6_is_70 : decode cX6_is 70 = .ok (.lcmp, 1) := by decide +kernel
theorem dX6_is_71 : decode cX6_is 71 = .ok (.ifCond .ne 7, 3) := by decide +kernel
theorem dX6_is_74 : decode cX6_is 74 = .ok (.iconst 1, 1) := by decide +kernel
theorem dX6_is_75 : decode cX6_is 75 = .ok (.goto 4, 3) := by decide +kernel
theorem dX6_is_78 : decode cX6_is 78 = .ok (.iconst 0, 1) := by decide +kernel
theorem dX6_is_79 : decode cX6_is 79 = .ok (.ireturn, 1) := by decide +kernel
theorem dX6_is_80 : decode cX6_is 80 = .ok (.iconst (-1), 1) := by decide +kernel
theorem dX6_is_81 : decode cX6_is 81 = .ok (.ireturn, 1) := by decide +kernel
set_option maxRecDepth 20000 in
theorem ggX6_stucks_X6_freshSurvey : GoodIn wsX6_stucks wsX6_freshSurvey := goodIn_r _ [6, 7, 8, 9, 10, 11, 12, 13, 5, 14, 15, 16, 17, 18, 19, 20, 21, 22, 23, 24, 25, 26, 27, 28, 29, 30, 31, 32, 33, 34, 35, 36, 37, 38, 39, 40, 41, 42, 43, 44, 45, 46, 47, 48, 49, 50, 51, 52, 53, 54, 55, 56, 57, 58, 59, 60, 61, 62, 63, 64, 65, 66, 67, 68, 69, 70, 71, 72, 73, 74, 75, 76, 77, 78, 79, 80, 81, 82, 83, 84, 85, 86, 87, 88, 89, 90, 91, 92, 93, 94, 95, 96, 97, 98, 99, 100, 101, 102, 103, 104, 105, 106, 107, 108, 109, 110, 111, 112, 113, 114, 115, 116, 117, 118, 119, 120, 121, 122, 123, 124, 125, 126, 127, 128, 129, 130, 131, 132, 165, 166, 167, 168, 169, 170, 171, 152, 153, 154, 155, 156, 157, 158, 159, 160, 161, 162, 163, 164, 172, 173, 174, 175, 176, 177, 178, 179, 180, 181, 182, 183, 184, 185, 186, 187, 188] (by decide +kernel) (by decide +kernel)
set_option maxRecDepth 20000 in
theorem gX6_stucks_X6_freshSurvey : GoodIn wsX6_stucks (wsV RX6 195 RX6 yX6_freshSurvey wsX6_freshSurvey) := goodIn_app (goodIn_of _ (by decide +kernel)) ggX6_stucks_X6_freshSurvey
set_option maxRecDepth 20000 in
theorem ggX6_stucks_X4_neverExposed : GoodIn wsX6_stucks wsX4_neverExposed := goodIn_r _ [136, 75, 76, 74, 152, 153, 154, 155, 156, 157, 158, 159, 160, 161, 162, 163, 164] (by decide +kernel) (by decide +kernel)
set_option maxRecDepth 20000 in
theorem gX6_stucks_X4_neverExposed : GoodIn wsX6_stucks (wsV RX6 234 RX4 yX4_neverExposed wsX4_neverExposed) := goodIn_app (goodIn_of _ (by decide +kernel)) ggX6_stucks_X4_neverExposed
set_option maxRecDepth 20000 in
theorem ggX6_stucks_J13_bitCount_95d88 : GoodIn wsX6_stucks wsJ13_bitCount_95d88 := goodIn_r _ [140, 141, 142, 143] (by decide +kernel) (by decide +kernel)
set_option maxRecDepth 20000 in
theorem gX6_stucks_J13_bitCount_95d88 : GoodIn wsX6_stucks (va_wsS RX6 224 yJ13_bitCount_95d88 wsJ13_bitCount_95d88) := goodIn_app (goodIn_of _ (by decide +kernel)) ggX6_stucks_J13_bitCount_95d88
set_option maxRecDepth 20000 in
theorem ggX6_stucks_X4_latent : GoodIn wsX6_stucks wsX4_latent := goodIn_r _ [147, 75, 78, 74, 152, 153, 154, 155, 156, 157, 158, 159, 160, 161, 162, 163, 164] (by decide +kernel) (by decide +kernel)
set_option maxRecDepth 20000 in
theorem gX6_stucks_X4_latent : GoodIn wsX6_stucks (wsV RX6 213 RX4 yX4_latent wsX4_latent) := goodIn_app (goodIn_of _ (by decide +kernel)) ggX6_stucks_X4_latent
set_option maxRecDepth 20000 in
theorem ggX6_stucks_X6_lowestBit : GoodIn wsX6_stucks wsX6_lowestBit := goodIn_r _ [150, 151, 122, 5, 123] (by decide +kernel) (by decide +kernel)
set_option maxRecDepth 20000 in
theorem gX6_stucks_X6_lowestBit : GoodIn wsX6_stucks (va_wsS RX6 241 yX6_lowestBit wsX6_lowestBit) := goodIn_app (goodIn_of _ (by decide +kernel)) ggX6_stucks_X6_lowestBit
theorem dX6_stucks_0 : decode cX6_stucks 0 = .ok (.iload_n 1, 1) := by decide +kernel
theorem dX6_stucks_1 : decode cX6_stucks 1 = .ok (.tableswitch 105 0 5 #[39, 50, 61, 72, 83, 94], 39) := by decide +kernel
theorem dX6_stucks_40 : decode cX6_stucks 40 = .ok (.aload_n 0, 1) := by decide +kernel
theorem dX6_stucks_41 : decode cX6_stucks 41 = .ok (.invokevirtual 195, 3) := by decide +kernel
theorem dX6_stucks_44 : decode cX6_stucks 44 = .ok (.invokevirtual 234, 3) := by decide +kernel
theorem dX6_stucks_47 : decode cX6_stucks 47 = .ok (.invokestatic 224, 3) := by decide +kernel
theorem dX6_stucks_50 : decode cX6_stucks 50 = .ok (.ireturn, 1) := by decide +kernel
theorem dX6_stucks_51 : decode cX6_stucks 51 = .ok (.aload_n 0, 1) := by decide +kernel
theorem dX6_stucks_52 : decode cX6_stucks 52 = .ok (.invokevirtual 195, 3) := by decide +kernel
theorem dX6_stucks_55 : decode cX6_stucks 55 = .ok (.invokevirtual 213, 3) := by decide +kernel
theorem dX6_stucks_58 : decode cX6_stucks 58 = .ok (.invokestatic 224, 3) := by decide +kernel
theorem dX6_stucks_61 : decode cX6_stucks 61 = .ok (.ireturn, 1) := by decide +kernel
theorem dX6_stucks_62 : decode cX6_stucks 62 = .ok (.aload_n 0, 1) := by decide +kernel
theorem dX6_stucks_63 : decode cX6_stucks 63 = .ok (.invokevirtual 195, 3) := by decide +kernel
theorem dX6_stucks_66 : decode cX6_stucks 66 = .ok (.getfield 237, 3) := by decide +kernel
theorem dX6_stucks_69 : decode cX6_stucks 69 = .ok (.invokestatic 224, 3) := by decide +kernel
theorem dX6_stucks_72 : decode cX6_stucks 72 = .ok (.ireturn, 1) := by decide +kernel
theorem dX6_stucks_73 : decode cX6_stucks 73 = .ok (.aload_n 0, 1) := by decide +kernel
theorem dX6_stucks_74 : decode cX6_stucks 74 = .ok (.invokevirtual 195, 3) := by decide +kernel
theorem dX6_stucks_77 : decode cX6_stucks 77 = .ok (.invokevirtual 234, 3) := by decide +kernel
theorem dX6_stucks_80 : decode cX6_stucks 80 = .ok (.invokestatic 241, 3) := by decide +kernel
theorem dX6_stucks_83 : decode cX6_stucks 83 = .ok (.ireturn, 1) := by decide +kernel
theorem dX6_stucks_84 : decode cX6_stucks 84 = .ok (.aload_n 0, 1) := by decide +kernel
theorem dX6_stucks_85 : decode cX6_stucks 85 = .ok (.invokevirtual 195, 3) := by decide +kernel
theorem dX6_stucks_88 : decode cX6_stucks 88 = .ok (.invokevirtual 213, 3) := by decide +kernel
theorem dX6_stucks_91 : decode cX6_stucks 91 = .ok (.invokestatic 241, 3) := by decide +kernel
theorem dX6_stucks_94 : decode cX6_stucks 94 = .ok (.ireturn, 1) := by decide +kernel
theorem dX6_stucks_95 : decode cX6_stucks 95 = .ok (.aload_n 0, 1) := by decide +kernel
theorem dX6_stucks_96 : decode cX6_stucks 96 = .ok (.invokevirtual 195, 3) := by decide +kernel
theorem dX6_stucks_99 : decode cX6_stucks 99 = .ok (.getfield 237, 3) := by decide +kernel
theorem dX6_stucks_102 : decode cX6_stucks 102 = .ok (.invokestatic 241, 3) := by decide +kernel
theorem dX6_stucks_105 : decode cX6_stucks 105 = .ok (.ireturn, 1) := by decide +kernel
theorem dX6_stucks_106 : decode cX6_stucks 106 = .ok (.iconst (-1), 1) := by decide +kernel
theorem dX6_stucks_107 : decode cX6_stucks 107 = .ok (.ireturn, 1) := by decide +kernel
set_option maxRecDepth 20000 in
theorem ggX6_test_X6_freshSurvey : GoodIn wsX6_test wsX6_freshSurvey := goodIn_r _ [9, 10, 11, 12, 13, 14, 15, 16, 8, 17, 2, 18, 19, 20, 21, 22, 23, 24, 25, 26, 27, 28, 29, 30, 31, 32, 33, 34, 35, 36, 37, 38, 39, 40, 41, 42, 43, 44, 45, 46, 47, 48, 49, 50, 51, 52, 53, 54, 55, 56, 57, 58, 59, 60, 61, 62, 63, 64, 65, 66, 67, 68, 69, 70, 71, 72, 73, 74, 75, 76, 77, 78, 79, 80, 81, 82, 83, 84, 85, 86, 87, 88, 89, 90, 91, 92, 93, 94, 95, 96, 97, 98, 99, 100, 101, 102, 103, 104, 105, 106, 107, 108, 109, 110, 111, 112, 113, 114, 115, 116, 117, 118, 119, 120, 121, 122, 123, 124, 125, 126, 127, 128, 129, 130, 131, 132, 133, 134, 167, 168, 169, 170, 171, 172, 173, 154, 155, 156, 157, 158, 159, 160, 161, 162, 163, 164, 165, 166, 174, 175, 176, 177, 178, 179, 180, 181, 182, 183, 184, 185, 186, 187, 188, 189, 190] (by decide +kernel) (by decide +kernel)
set_option maxRecDepth 20000 in
theorem gX6_test_X6_freshSurvey : GoodIn wsX6_test (wsV RX6 195 RX6 yX6_freshSurvey wsX6_freshSurvey) := goodIn_app (goodIn_of _ (by decide +kernel)) ggX6_test_X6_freshSurvey
set_option maxRecDepth 20000 in
theorem ggX6_test_X4_chooseTests : GoodIn wsX6_test wsX4_chooseTests := goodIn_r _ [138, 139, 78, 140, 132, 76, 81, 141, 142, 143, 62, 144, 145, 146, 147, 148, 149, 150, 151, 152, 153, 154, 155, 156, 157, 158, 159, 160, 161, 162, 163, 164, 165, 166, 174, 175, 176, 177, 178, 179, 180] (by decide +kernel) (by decide +kernel)
set_option maxRecDepth 20000 in
theorem gX6_test_X4_chooseTests : GoodIn wsX6_test (wsV RX6 247 RX4 yX4_chooseTests wsX4_chooseTests) := goodIn_app (goodIn_of _ (by decide +kernel)) ggX6_test_X4_chooseTests
theorem dX6_test_0 : decode cX6_test 0 = .ok (.iload_n 1, 1) := by decide +kernel
theorem dX6_test_1 : decode cX6_test 1 = .ok (.iconst (-1), 1) := by decide +kernel
theorem dX6_test_2 : decode cX6_test 2 = .ok (.if_icmp .ge 5, 3) := by decide +kernel
theorem dX6_test_5 : decode cX6_test 5 = .ok (.iconst (-1), 1) := by decide +kernel
theorem dX6_test_6 : decode cX6_test 6 = .ok (.ireturn, 1) := by decide +kernel
theorem dX6_test_7 : decode cX6_test 7 = .ok (.aload_n 0, 1) := by decide +kernel
theorem dX6_test_8 : decode cX6_test 8 = .ok (.invokevirtual 195, 3) := by decide +kernel
theorem dX6_test_11 : decode cX6_test 11 = .ok (.astore_n 2, 1) := by decide +kernel
theorem dX6_test_12 : decode cX6_test 12 = .ok (.aload_n 2, 1) := by decide +kernel
theorem dX6_test_13 : decode cX6_test 13 = .ok (.getfield 244, 3) := by decide +kernel
theorem dX6_test_16 : decode cX6_test 16 = .ok (.ifCond .ne 11, 3) := by decide +kernel
theorem dX6_test_19 : decode cX6_test 19 = .ok (.aload_n 2, 1) := by decide +kernel
theorem dX6_test_20 : decode cX6_test 20 = .ok (.aload_n 0, 1) := by decide +kernel
theorem dX6_test_21 : decode cX6_test 21 = .ok (.getfield 36, 3) := by decide +kernel
theorem dX6_test_24 : decode cX6_test 24 = .ok (.invokevirtual 247, 3) := by decide +kernel
theorem dX6_test_27 : decode cX6_test 27 = .ok (.iload_n 1, 1) := by decide +kernel
theorem dX6_test_28 : decode cX6_test 28 = .ok (.iconst (-1), 1) := by decide +kernel
theorem dX6_test_29 : decode cX6_test 29 = .ok (.if_icmp .ne 8, 3) := by decide +kernel
theorem dX6_test_32 : decode cX6_test 32 = .ok (.aload_n 2, 1) := by decide +kernel
theorem dX6_test_33 : decode cX6_test 33 = .ok (.getfield 251, 3) := by decide +kernel
theorem dX6_test_36 : decode cX6_test 36 = .ok (.ireturn, 1) := by decide +kernel
theorem dX6_test_37 : decode cX6_test 37 = .ok (.iload_n 1, 1) := by decide +kernel
theorem dX6_test_38 : decode cX6_test 38 = .ok (.aload_n 2, 1) := by decide +kernel
theorem dX6_test_39 : decode cX6_test 39 = .ok (.getfield 251, 3) := by decide +kernel
theorem dX6_test_42 : decode cX6_test 42 = .ok (.if_icmp .ge 12, 3) := by decide +kernel
theorem dX6_test_45 : decode cX6_test 45 = .ok (.aload_n 2, 1) := by decide +kernel
theorem dX6_test_46 : decode cX6_test 46 = .ok (.getfield 254, 3) := by decide +kernel
theorem dX6_test_49 : decode cX6_test 49 = .ok (.iload_n 1, 1) := by decide +kernel
theorem dX6_test_50 : decode cX6_test 50 = .ok (.iaload, 1) := by decide +kernel
theorem dX6_test_51 : decode cX6_test 51 = .ok (.goto 5, 3) := by decide +kernel
theorem dX6_test_54 : decode cX6_test 54 = .ok (.bipush (-4), 2) := by decide +kernel
theorem dX6_test_56 : decode cX6_test 56 = .ok (.ireturn, 1) := by decide +kernel
set_option maxRecDepth 20000 in
theorem ggX6_both_X0_hasStuck : GoodIn wsX6_both wsX0_hasStuck := goodIn_r _ [6, 7, 8, 9, 5, 10, 11, 12, 162, 163, 164, 165, 166, 167, 168, 169, 170] (by decide +kernel) (by decide +kernel)
set_option maxRecDepth 20000 in
theorem gX6_both_X0_hasStuck : GoodIn wsX6_both (wsV RX6 173 RX0 yX0_hasStuck wsX0_hasStuck) := goodIn_app (goodIn_of _ (by decide +kernel)) ggX6_both_X0_hasStuck
set_option maxRecDepth 20000 in
theorem ggX6_both_X6_notValidWithBoth : GoodIn wsX6_both wsX6_notValidWithBoth := goodIn_r _ [17, 18, 19, 20, 21, 22, 16, 23, 24, 25, 1, 26, 27, 28, 29, 30, 31, 32, 33, 34, 35, 36, 37, 38, 5, 39, 11, 40, 41, 42, 43, 44, 45, 46, 47, 48, 49, 50, 51, 52, 53, 54, 55, 56, 57, 58, 59, 60, 61, 62, 63, 64, 65, 66, 67, 68, 69, 70, 71, 72, 73, 74, 75, 76, 8, 9, 10, 12, 77, 78, 79, 80, 81, 82, 83, 84, 85, 86, 87, 88, 89, 90, 91, 92, 93, 94, 95, 96, 97, 98, 99, 100, 101, 102, 103, 104, 105, 106, 171, 172, 173, 174, 175, 176, 177, 155, 156, 157, 158, 159, 160, 161, 162, 163, 164, 165, 166, 167, 168, 169, 170, 178] (by decide +kernel) (by decide +kernel)
set_option maxRecDepth 20000 in
theorem gX6_both_X6_notValidWithBoth : GoodIn wsX6_both (wsV RX6 257 RX6 yX6_notValidWithBoth wsX6_notValidWithBoth) := goodIn_app (goodIn_of _ (by decide +kernel)) ggX6_both_X6_notValidWithBoth
set_option maxRecDepth 20000 in
theorem ggX6_both_X6_passingWithBoth : GoodIn wsX6_both wsX6_passingWithBoth := goodIn_r _ [110, 111, 24, 18, 19, 112, 113, 114, 16, 115, 116, 117, 1, 68, 20, 21, 22, 23, 25, 26, 27, 28, 29, 30, 31, 32, 33, 34, 35, 36, 37, 38, 5, 39, 11, 40, 41, 42, 43, 44, 45, 46, 47, 48, 49, 50, 51, 52, 53, 54, 55, 56, 57, 58, 59, 60, 61, 62, 63, 118, 119, 120, 121, 122, 123, 124, 125, 126, 127, 128, 129, 130, 131, 132, 133, 134, 135, 136, 137, 138, 139, 140, 141, 8, 9, 10, 12, 142, 143, 70, 71, 72, 73, 74, 75, 76, 77, 78, 79, 80, 81, 82, 83, 84, 85, 86, 87, 88, 89, 90, 91, 144, 145, 146, 147, 93, 94, 95, 96, 97, 98, 99, 100, 101, 102, 103, 105, 106, 148, 149, 150, 151, 152, 153, 154, 64, 65, 66, 67, 69, 92, 104, 179, 180, 181, 182, 183, 184, 185, 186, 187, 188, 189, 190, 191, 155, 156, 157, 158, 159, 160, 161, 171, 172, 173, 174, 175, 176, 177, 162, 163, 164, 165, 166, 167, 168, 169, 170, 178] (by decide +kernel) (by decide +kernel)
set_option maxRecDepth 20000 in
theorem gX6_both_X6_passingWithBoth : GoodIn wsX6_both (wsV RX6 260 RX6 yX6_passingWithBoth wsX6_passingWithBoth) := goodIn_app (goodIn_of _ (by decide +kernel)) ggX6_both_X6_passingWithBoth
theorem dX6_both_0 : decode cX6_both 0 = .ok (.aload_n 0, 1) := by decide +kernel
theorem dX6_both_1 : decode cX6_both 1 = .ok (.getfield 19, 3) := by decide +kernel
theorem dX6_both_4 : decode cX6_both 4 = .ok (.iload_n 1, 1) := by decide +kernel
theorem dX6_both_5 : decode cX6_both 5 = .ok (.invokevirtual 173, 3) := by decide +kernel
theorem dX6_both_8 : decode cX6_both 8 = .ok (.ifCond .eq 23, 3) := by decide +kernel
theorem dX6_both_11 : decode cX6_both 11 = .ok (.aload_n 0, 1) := by decide +kernel
theorem dX6_both_12 : decode cX6_both 12 = .ok (.getfield 19, 3) := by decide +kernel
theorem dX6_both_15 : decode cX6_both 15 = .ok (.iload_n 2, 1) := by decide +kernel
theorem dX6_both_16 : decode cX6_both 16 = .ok (.invokevirtual 173, 3) := by decide +kernel
theorem dX6_both_19 : decode cX6_both 19 = .ok (.ifCond .eq 12, 3) := by decide +kernel
theorem dX6_both_22 : decode cX6_both 22 = .ok (.iload_n 1, 1) := by decide +kernel
theorem dX6_both_23 : decode cX6_both 23 = .ok (.iconst 1, 1) := by decide +kernel
theorem dX6_both_24 : decode cX6_both 24 = .ok (.ishr, 1) := by decide +kernel
theorem dX6_both_25 : decode cX6_both 25 = .ok (.iload_n 2, 1) := by decide +kernel
theorem dX6_both_26 : decode cX6_both 26 = .ok (.iconst 1, 1) := by decide +kernel
theorem dX6_both_27 : decode cX6_both 27 = .ok (.ishr, 1) := by decide +kernel
theorem dX6_both_28 : decode cX6_both 28 = .ok (.if_icmp .ne 5, 3) := by decide +kernel
theorem dX6_both_31 : decode cX6_both 31 = .ok (.iconst (-1), 1) := by decide +kernel
theorem dX6_both_32 : decode cX6_both 32 = .ok (.ireturn, 1) := by decide +kernel
theorem dX6_both_33 : decode cX6_both 33 = .ok (.iload_n 3, 1) := by decide +kernel
theorem dX6_both_34 : decode cX6_both 34 = .ok (.lookupswitch 40 #[(0, 26), (1, 33)], 26) := by decide +kernel
theorem dX6_both_60 : decode cX6_both 60 = .ok (.aload_n 0, 1) := by decide +kernel
theorem dX6_both_61 : decode cX6_both 61 = .ok (.iload_n 1, 1) := by decide +kernel
theorem dX6_both_62 : decode cX6_both 62 = .ok (.iload_n 2, 1) := by decide +kernel
theorem dX6_both_63 : decode cX6_both 63 = .ok (.invokevirtual 257, 3) := by decide +kernel
theorem dX6_both_66 : decode cX6_both 66 = .ok (.ireturn, 1) := by decide +kernel
theorem dX6_both_67 : decode cX6_both 67 = .ok (.aload_n 0, 1) := by decide +kernel
theorem dX6_both_68 : decode cX6_both 68 = .ok (.iload_n 1, 1) := by decide +kernel
theorem dX6_both_69 : decode cX6_both 69 = .ok (.iload_n 2, 1) := by decide +kernel
theorem dX6_both_70 : decode cX6_both 70 = .ok (.invokevirtual 260, 3) := by decide +kernel
theorem dX6_both_73 : decode cX6_both 73 = .ok (.ireturn, 1) := by decide +kernel
theorem dX6_both_74 : decode cX6_both 74 = .ok (.iconst (-1), 1) := by decide +kernel
theorem dX6_both_75 : decode cX6_both 75 = .ok (.ireturn, 1) := by decide +kernel
set_option maxRecDepth 20000 in
theorem ggX6_count_X6_freshSurvey : GoodIn wsX6_count wsX6_freshSurvey := goodIn_r _ [17, 18, 19, 1, 20, 21, 22, 23, 16, 24, 25, 26, 27, 28, 29, 30, 31, 32, 33, 34, 35, 36, 37, 38, 39, 40, 41, 42, 43, 44, 45, 46, 47, 48, 49, 50, 51, 52, 53, 54, 55, 56, 57, 58, 59, 60, 61, 62, 63, 64, 65, 66, 67, 68, 69, 70, 71, 72, 73, 74, 75, 76, 77, 78, 79, 80, 81, 82, 83, 84, 85, 86, 87, 88, 89, 90, 91, 92, 93, 94, 95, 96, 97, 98, 99, 100, 101, 102, 103, 104, 105, 106, 107, 108, 109, 110, 111, 112, 113, 114, 115, 116, 117, 118, 119, 120, 121, 122, 123, 124, 125, 126, 127, 128, 129, 130, 131, 132, 133, 134, 135, 136, 137, 138, 139, 140, 141, 142, 143, 144, 145, 146, 147, 148, 149, 159, 160, 161, 162, 163, 164, 165, 166, 167, 168, 169, 170, 171, 178, 179, 180, 181, 182, 183, 184, 150, 151, 152, 153, 154, 155, 156, 157, 158, 185] (by decide +kernel) (by decide +kernel)
set_option maxRecDepth 20000 in
theorem gX6_count_X6_freshSurvey : GoodIn wsX6_count (wsV RX6 195 RX6 yX6_freshSurvey wsX6_freshSurvey) := goodIn_app (goodIn_of _ (by decide +kernel)) ggX6_count_X6_freshSurvey
theorem dX6_count_0 : decode cX6_count 0 = .ok (.iload_n 1, 1) := by decide +kernel
theorem dX6_count_1 : decode cX6_count 1 = .ok (.tableswitch 123 0 8 #[51, 59, 67, 75, 83, 91, 99, 107, 115], 51) := by decide +kernel
theorem dX6_count_52 : decode cX6_count 52 = .ok (.aload_n 0, 1) := by decide +kernel
theorem dX6_count_53 : decode cX6_count 53 = .ok (.getfield 19, 3) := by decide +kernel
theorem dX6_count_56 : decode cX6_count 56 = .ok (.getfield 70, 3) := by decide +kernel
theorem dX6_count_59 : decode cX6_count 59 = .ok (.ireturn, 1) := by decide +kernel
theorem dX6_count_60 : decode cX6_count 60 = .ok (.aload_n 0, 1) := by decide +kernel
theorem dX6_count_61 : decode cX6_count 61 = .ok (.getfield 19, 3) := by decide +kernel
theorem dX6_count_64 : decode cX6_count 64 = .ok (.getfield 112, 3) := by decide +kernel
theorem dX6_count_67 : decode cX6_count 67 = .ok (.ireturn, 1) := by decide +kernel
theorem dX6_count_68 : decode cX6_count 68 = .ok (.aload_n 0, 1) := by decide +kernel
theorem dX6_count_69 : decode cX6_count 69 = .ok (.getfield 19, 3) := by decide +kernel
theorem dX6_count_72 : decode cX6_count 72 = .ok (.getfield 122, 3) := by decide +kernel
theorem dX6_count_75 : decode cX6_count 75 = .ok (.ireturn, 1) := by decide +kernel
theorem dX6_count_76 : decode cX6_count 76 = .ok (.aload_n 0, 1) := by decide +kernel
theorem dX6_count_77 : decode cX6_count 77 = .ok (.getfield 19, 3) := by decide +kernel
theorem dX6_count_80 : decode cX6_count 80 = .ok (.getfield 125, 3) := by decide +kernel
theorem dX6_count_83 : decode cX6_count 83 = .ok (.ireturn, 1) := by decide +kernel
theorem dX6_count_84 : decode cX6_count 84 = .ok (.aload_n 0, 1) := by decide +kernel
theorem dX6_count_85 : decode cX6_count 85 = .ok (.getfield 19, 3) := by decide +kernel
theorem dX6_count_88 : decode cX6_count 88 = .ok (.getfield 136, 3) := by decide +kernel
theorem dX6_count_91 : decode cX6_count 91 = .ok (.ireturn, 1) := by decide +kernel
theorem dX6_count_92 : decode cX6_count 92 = .ok (.aload_n 0, 1) := by decide +kernel
theorem dX6_count_93 : decode cX6_count 93 = .ok (.getfield 19, 3) := by decide +kernel
theorem dX6_count_96 : decode cX6_count 96 = .ok (.getfield 139, 3) := by decide +kernel
theorem dX6_count_99 : decode cX6_count 99 = .ok (.ireturn, 1) := by decide +kernel
theorem dX6_count_100 : decode cX6_count 100 = .ok (.aload_n 0, 1) := by decide +kernel
theorem dX6_count_101 : decode cX6_count 101 = .ok (.invokevirtual 195, 3) := by decide +kernel
theorem dX6_count_104 : decode cX6_count 104 = .ok (.getfield 263, 3) := by decide +kernel
theorem dX6_count_107 : decode cX6_count 107 = .ok (.ireturn, 1) := by decide +kernel
theorem dX6_count_108 : decode cX6_count 108 = .ok (.aload_n 0, 1) := by decide +kernel
theorem dX6_count_109 : decode cX6_count 109 = .ok (.getfield 29, 3) := by decide +kernel
theorem dX6_count_112 : decode cX6_count 112 = .ok (.getfield 77, 3) := by decide +kernel
theorem dX6_count_115 : decode cX6_count 115 = .ok (.ireturn, 1) := by decide +kernel
theorem dX6_count_116 : decode cX6_count 116 = .ok (.aload_n 0, 1) := by decide +kernel
theorem dX6_count_117 : decode cX6_count 117 = .ok (.getfield 12, 3) := by decide +kernel
theorem dX6_count_120 : decode cX6_count 120 = .ok (.getfield 58, 3) := by decide +kernel
theorem dX6_count_123 : decode cX6_count 123 = .ok (.ireturn, 1) := by decide +kernel
theorem dX6_count_124 : decode cX6_count 124 = .ok (.iconst (-1), 1) := by decide +kernel
theorem dX6_count_125 : decode cX6_count 125 = .ok (.ireturn, 1) := by decide +kernel
set_option maxRecDepth 20000 in
theorem ggX6_beginChange_X2_keep : GoodIn wsX6_beginChange wsX2_keep := goodIn_r _ [7, 8, 9, 10, 11, 12, 6, 13, 14, 15, 16, 17, 18, 19, 20, 21, 22, 23, 24, 25, 26, 27, 28, 29, 30, 31, 32, 33, 34, 35, 36, 37, 38, 39, 56, 57, 58, 59, 60, 61, 62, 63, 64, 65, 66] (by decide +kernel) (by decide +kernel)
set_option maxRecDepth 20000 in
theorem gX6_beginChange_X2_keep : GoodIn wsX6_beginChange (wsV RX6 266 RX2 yX2_keep wsX2_keep) := goodIn_app (goodIn_of _ (by decide +kernel)) ggX6_beginChange_X2_keep
set_option maxRecDepth 20000 in
theorem ggX6_beginChange_X6_dropWhatWasWorkedOut : GoodIn wsX6_beginChange wsX6_dropWhatWasWorkedOut := goodIn_r _ [44, 45, 46, 47, 48, 49, 50, 51, 52, 53, 54, 55, 67, 68, 69, 70, 71, 72, 73, 74, 75, 76, 77, 78, 79, 80, 81, 82, 83, 84, 85, 86] (by decide +kernel) (by decide +kernel)
set_option maxRecDepth 20000 in
theorem gX6_beginChange_X6_dropWhatWasWorkedOut : GoodIn wsX6_beginChange (wsV RX6 80 RX6 yX6_dropWhatWasWorkedOut wsX6_dropWhatWasWorkedOut) := goodIn_app (goodIn_of _ (by decide +kernel)) ggX6_beginChange_X6_dropWhatWasWorkedOut
theorem dX6_beginChange_0 : decode cX6_beginChange 0 = .ok (.aload_n 0, 1) := by decide +kernel
theorem dX6_beginChange_1 : decode cX6_beginChange 1 = .ok (.getfield 29, 3) := by decide +kernel
theorem dX6_beginChange_4 : decode cX6_beginChange 4 = .ok (.aload_n 0, 1) := by decide +kernel
theorem dX6_beginChange_5 : decode cX6_beginChange 5 = .ok (.getfield 19, 3) := by decide +kernel
theorem dX6_beginChange_8 : decode cX6_beginChange 8 = .ok (.invokevirtual 266, 3) := by decide +kernel
theorem dX6_beginChange_11 : decode cX6_beginChange 11 = .ok (.aload_n 0, 1) := by decide +kernel
theorem dX6_beginChange_12 : decode cX6_beginChange 12 = .ok (.invokevirtual 80, 3) := by decide +kernel
theorem dX6_beginChange_15 : decode cX6_beginChange 15 = .ok (.return_, 1) := by decide +kernel
theorem dX6_dropWhatWasWorkedOut_0 : decode cX6_dropWhatWasWorkedOut 0 = .ok (.aload_n 0, 1) := by decide +kernel
theorem dX6_dropWhatWasWorkedOut_1 : decode cX6_dropWhatWasWorkedOut 1 = .ok (.getfield 36, 3) := by decide +kernel
theorem dX6_dropWhatWasWorkedOut_4 : decode cX6_dropWhatWasWorkedOut 4 = .ok (.iconst 0, 1) := by decide +kernel
theorem dX6_dropWhatWasWorkedOut_5 : decode cX6_dropWhatWasWorkedOut 5 = .ok (.putfield 269, 3) := by decide +kernel
theorem dX6_dropWhatWasWorkedOut_8 : decode cX6_dropWhatWasWorkedOut 8 = .ok (.aload_n 0, 1) := by decide +kernel
theorem dX6_dropWhatWasWorkedOut_9 : decode cX6_dropWhatWasWorkedOut 9 = .ok (.getfield 50, 3) := by decide +kernel
theorem dX6_dropWhatWasWorkedOut_12 : decode cX6_dropWhatWasWorkedOut 12 = .ok (.iconst 0, 1) := by decide +kernel
theorem dX6_dropWhatWasWorkedOut_13 : decode cX6_dropWhatWasWorkedOut 13 = .ok (.putfield 272, 3) := by decide +kernel
theorem dX6_dropWhatWasWorkedOut_16 : decode cX6_dropWhatWasWorkedOut 16 = .ok (.return_, 1) := by decide +kernel
set_option maxRecDepth 20000 in
theorem ggX6_freshCodeWords_X1_list : GoodIn wsX6_freshCodeWords wsX1_list := goodIn_r _ [8, 9, 10, 11, 12, 13, 14, 15, 16, 17, 18, 19, 20, 21, 22, 23, 24, 25, 26, 27, 28, 29, 30, 31, 32, 33, 34, 35, 36, 37, 38, 39, 40, 41, 42, 43, 51, 52, 53, 54, 55, 56, 57, 58, 59, 60, 61, 62, 63, 64, 65, 66] (by decide +kernel) (by decide +kernel)
set_option maxRecDepth 20000 in
theorem gX6_freshCodeWords_X1_list : GoodIn wsX6_freshCodeWords (wsV RX6 273 RX1 yX1_list wsX1_list) := goodIn_app (goodIn_of _ (by decide +kernel)) ggX6_freshCodeWords_X1_list
theorem dX6_freshCodeWords_0 : decode cX6_freshCodeWords 0 = .ok (.aload_n 0, 1) := by decide +kernel
theorem dX6_freshCodeWords_1 : decode cX6_freshCodeWords 1 = .ok (.getfield 36, 3) := by decide +kernel
theorem dX6_freshCodeWords_4 : decode cX6_freshCodeWords 4 = .ok (.getfield 269, 3) := by decide +kernel
theorem dX6_freshCodeWords_7 : decode cX6_freshCodeWords 7 = .ok (.ifCond .ne 14, 3) := by decide +kernel
theorem dX6_freshCodeWords_10 : decode cX6_freshCodeWords 10 = .ok (.aload_n 0, 1) := by decide +kernel
theorem dX6_freshCodeWords_11 : decode cX6_freshCodeWords 11 = .ok (.getfield 36, 3) := by decide +kernel
theorem dX6_freshCodeWords_14 : decode cX6_freshCodeWords 14 = .ok (.aload_n 0, 1) := by decide +kernel
theorem dX6_freshCodeWords_15 : decode cX6_freshCodeWords 15 = .ok (.getfield 19, 3) := by decide +kernel
theorem dX6_freshCodeWords_18 : decode cX6_freshCodeWords 18 = .ok (.invokevirtual 273, 3) := by decide +kernel
theorem dX6_freshCodeWords_21 : decode cX6_freshCodeWords 21 = .ok (.aload_n 0, 1) := by decide +kernel
theorem dX6_freshCodeWords_22 : decode cX6_freshCodeWords 22 = .ok (.getfield 36, 3) := by decide +kernel
theorem dX6_freshCodeWords_25 : decode cX6_freshCodeWords 25 = .ok (.areturn, 1) := by decide +kernel
set_option maxRecDepth 20000 in
theorem ggX6_comparedCodeWords_X6_freshCodeWords : GoodIn wsX6_comparedCodeWords wsX6_freshCodeWords := goodIn_r _ [6, 7, 8, 9, 10, 11, 12, 13, 14, 15, 16, 17, 18, 19, 20, 21, 22, 23, 24, 25, 26, 27, 28, 29, 30, 31, 32, 33, 34, 35, 36, 37, 38, 39, 40, 41, 42, 43, 44, 45, 46, 47, 48, 49, 68, 69, 70, 71, 72, 73, 74, 61, 62, 63, 64, 65, 66, 67, 75, 76, 77, 78, 79, 80, 81, 82, 83] (by decide +kernel) (by decide +kernel)
set_option maxRecDepth 20000 in
theorem gX6_comparedCodeWords_X6_freshCodeWords : GoodIn wsX6_comparedCodeWords (wsV RX6 145 RX6 yX6_freshCodeWords wsX6_freshCodeWords) := goodIn_app (goodIn_of _ (by decide +kernel)) ggX6_comparedCodeWords_X6_freshCodeWords
set_option maxRecDepth 20000 in
theorem ggX6_comparedCodeWords_X1_compare : GoodIn wsX6_comparedCodeWords wsX1_compare := goodIn_r _ [53, 54, 55, 15, 17, 19, 56, 57, 58, 13, 59, 60, 33, 34, 35, 36, 37, 38, 61, 62, 63, 64, 65, 66, 67] (by decide +kernel) (by decide +kernel)
set_option maxRecDepth 20000 in
theorem gX6_comparedCodeWords_X1_compare : GoodIn wsX6_comparedCodeWords (wsV RX6 279 RX1 yX1_compare wsX1_compare) := goodIn_app (goodIn_of _ (by decide +kernel)) ggX6_comparedCodeWords_X1_compare
theorem dX6_comparedCodeWords_0 : decode cX6_comparedCodeWords 0 = .ok (.aload_n 0, 1) := by decide +kernel
theorem dX6_comparedCodeWords_1 : decode cX6_comparedCodeWords 1 = .ok (.invokevirtual 145, 3) := by decide +kernel
theorem dX6_comparedCodeWords_4 : decode cX6_comparedCodeWords 4 = .ok (.astore_n 1, 1) := by decide +kernel
theorem dX6_comparedCodeWords_5 : decode cX6_comparedCodeWords 5 = .ok (.aload_n 1, 1) := by decide +kernel
theorem dX6_comparedCodeWords_6 : decode cX6_comparedCodeWords 6 = .ok (.getfield 276, 3) := by decide +kernel
theorem dX6_comparedCodeWords_9 : decode cX6_comparedCodeWords 9 = .ok (.ifCond .ne 7, 3) := by decide +kernel
theorem dX6_comparedCodeWords_12 : decode cX6_comparedCodeWords 12 = .ok (.aload_n 1, 1) := by decide +kernel
theorem dX6_comparedCodeWords_13 : decode cX6_comparedCodeWords 13 = .ok (.invokevirtual 279, 3) := by decide +kernel
theorem dX6_comparedCodeWords_16 : decode cX6_comparedCodeWords 16 = .ok (.aload_n 1, 1) := by decide +kernel
theorem dX6_comparedCodeWords_17 : decode cX6_comparedCodeWords 17 = .ok (.areturn, 1) := by decide +kernel
set_option maxRecDepth 20000 in
theorem ggX6_freshSurvey_X6_freshCodeWords : GoodIn wsX6_freshSurvey wsX6_freshCodeWords := goodIn_r _ [9, 10, 11, 3, 12, 13, 14, 15, 16, 17, 18, 19, 20, 21, 22, 23, 24, 25, 26, 27, 28, 29, 30, 31, 32, 33, 34, 35, 36, 37, 38, 39, 40, 41, 42, 43, 44, 45, 46, 47, 48, 49, 50, 51, 128, 129, 130, 131, 132, 133, 134, 148, 149, 150, 151, 152, 153, 154, 155, 156, 157, 158, 159, 160, 161, 162, 163] (by decide +kernel) (by decide +kernel)
set_option maxRecDepth 20000 in
theorem gX6_freshSurvey_X6_freshCodeWords : GoodIn wsX6_freshSurvey (wsV RX6 145 RX6 yX6_freshCodeWords wsX6_freshCodeWords) := goodIn_app (goodIn_of _ (by decide +kernel)) ggX6_freshSurvey_X6_freshCodeWords
set_option maxRecDepth 20000 in
theorem ggX6_freshSurvey_X4_make : GoodIn wsX6_freshSurvey wsX4_make := goodIn_r _ [56, 57, 58, 59, 60, 61, 62, 63, 64, 65, 66, 67, 55, 68, 69, 70, 71, 72, 73, 74, 75, 76, 77, 25, 78, 27, 79, 80, 23, 24, 26, 81, 82, 83, 84, 85, 86, 87, 88, 89, 90, 91, 92, 93, 94, 95, 96, 97, 98, 99, 100, 101, 102, 103, 104, 105, 106, 107, 108, 109, 110, 111, 112, 113, 114, 115, 116, 117, 8, 118, 119, 120, 121, 122, 123, 124, 125, 126, 127, 148, 149, 150, 151, 152, 153, 154, 135, 136, 137, 138, 139, 140, 141, 142, 143, 144, 145, 146, 147, 164, 155, 156, 157, 158, 159, 160, 161, 162, 163] (by decide +kernel) (by decide +kernel)
set_option maxRecDepth 20000 in
theorem gX6_freshSurvey_X4_make : GoodIn wsX6_freshSurvey (wsV RX6 282 RX4 yX4_make wsX4_make) := goodIn_app (goodIn_of _ (by decide +kernel)) ggX6_freshSurvey_X4_make
theorem dX6_freshSurvey_0 : decode cX6_freshSurvey 0 = .ok (.aload_n 0, 1) := by decide +kernel
theorem dX6_freshSurvey_1 : decode cX6_freshSurvey 1 = .ok (.invokevirtual 145, 3) := by decide +kernel
theorem dX6_freshSurvey_4 : decode cX6_freshSurvey 4 = .ok (.astore_n 1, 1) := by decide +kernel
theorem dX6_freshSurvey_5 : decode cX6_freshSurvey 5 = .ok (.aload_n 0, 1) := by decide +kernel
theorem dX6_freshSurvey_6 : decode cX6_freshSurvey 6 = .ok (.getfield 50, 3) := by decide +kernel
theorem dX6_freshSurvey_9 : decode cX6_freshSurvey 9 = .ok (.getfield 272, 3) := by decide +kernel
theorem dX6_freshSurvey_12 : decode cX6_freshSurvey 12 = .ok (.ifCond .ne 19, 3) := by decide +kernel
theorem dX6_freshSurvey_15 : decode cX6_freshSurvey 15 = .ok (.aload_n 0, 1) := by decide +kernel
theorem dX6_freshSurvey_16 : decode cX6_freshSurvey 16 = .ok (.getfield 50, 3) := by decide +kernel
theorem dX6_freshSurvey_19 : decode cX6_freshSurvey 19 = .ok (.aload_n 0, 1) := by decide +kernel
theorem dX6_freshSurvey_20 : decode cX6_freshSurvey 20 = .ok (.getfield 19, 3) := by decide +kernel
theorem dX6_freshSurvey_23 : decode cX6_freshSurvey 23 = .ok (.aload_n 1, 1) := by decide +kernel
theorem dX6_freshSurvey_24 : decode cX6_freshSurvey 24 = .ok (.aload_n 0, 1) := by decide +kernel
theorem dX6_freshSurvey_25 : decode cX6_freshSurvey 25 = .ok (.getfield 43, 3) := by decide +kernel
theorem dX6_freshSurvey_28 : decode cX6_freshSurvey 28 = .ok (.invokevirtual 282, 3) := by decide +kernel
theorem dX6_freshSurvey_31 : decode cX6_freshSurvey 31 = .ok (.aload_n 0, 1) := by decide +kernel
theorem dX6_freshSurvey_32 : decode cX6_freshSurvey 32 = .ok (.getfield 50, 3) := by decide +kernel
theorem dX6_freshSurvey_35 : decode cX6_freshSurvey 35 = .ok (.areturn, 1) := by decide +kernel
set_option maxRecDepth 20000 in
theorem ggX6_notValidWithBoth_X6_freshCodeWords : GoodIn wsX6_notValidWithBoth wsX6_freshCodeWords := goodIn_r _ [7, 8, 9, 10, 11, 12, 13, 14, 15, 16, 17, 18, 19, 20, 21, 22, 23, 24, 25, 26, 27, 28, 29, 30, 31, 32, 33, 34, 35, 36, 37, 38, 39, 40, 41, 42, 43, 44, 45, 46, 47, 48, 49, 50, 105, 106, 107, 108, 109, 110, 111, 98, 99, 100, 101, 102, 103, 104, 112, 113, 114, 115, 116, 117, 118, 119, 120] (by decide +kernel) (by decide +kernel)
set_option maxRecDepth 20000 in
theorem gX6_notValidWithBoth_X6_freshCodeWords : GoodIn wsX6_notValidWithBoth (wsV RX6 145 RX6 yX6_freshCodeWords wsX6_freshCodeWords) := goodIn_app (goodIn_of _ (by decide +kernel)) ggX6_notValidWithBoth_X6_freshCodeWords
set_option maxRecDepth 20000 in
theorem ggX6_notValidWithBoth_X6_outWithBoth : GoodIn wsX6_notValidWithBoth wsX6_outWithBoth := goodIn_r _ [54, 55, 10, 56, 57, 58, 59, 60, 61, 62, 63, 64, 65, 24, 66, 26, 67, 68, 69, 70, 71, 72, 73, 74, 75, 76, 77, 78, 79, 80, 81, 82, 83, 84, 85, 86, 87, 88, 89, 90, 91, 92, 93, 6, 94, 105, 106, 107, 108, 109, 110, 111, 112, 113, 114, 115, 116, 117, 118, 119, 120, 121] (by decide +kernel) (by decide +kernel)
set_option maxRecDepth 20000 in
theorem gX6_notValidWithBoth_X6_outWithBoth : GoodIn wsX6_notValidWithBoth (wsV RX6 286 RX6 yX6_outWithBoth wsX6_outWithBoth) := goodIn_app (goodIn_of _ (by decide +kernel)) ggX6_notValidWithBoth_X6_outWithBoth
set_option maxRecDepth 20000 in
theorem ggX6_notValidWithBoth_X6_isValid : GoodIn wsX6_notValidWithBoth wsX6_isValid := goodIn_r _ [97] (by decide +kernel) (by decide +kernel)
set_option maxRecDepth 20000 in
theorem gX6_notValidWithBoth_X6_isValid : GoodIn wsX6_notValidWithBoth (va_wsS RX6 290 yX6_isValid wsX6_isValid) := goodIn_app (goodIn_of _ (by decide +kernel)) ggX6_notValidWithBoth_X6_isValid
theorem dX6_notValidWithBoth_0 : decode cX6_notValidWithBoth 0 = .ok (.aload_n 0, 1) := by decide +kernel
theorem dX6_notValidWithBoth_1 : decode cX6_notValidWithBoth 1 = .ok (.invokevirtual 145, 3) := by decide +kernel
theorem dX6_notValidWithBoth_4 : decode cX6_notValidWithBoth 4 = .ok (.astore_n 3, 1) := by decide +kernel
theorem dX6_notValidWithBoth_5 : decode cX6_notValidWithBoth 5 = .ok (.iconst 0, 1) := by decide +kernel
theorem dX6_notValidWithBoth_6 : decode cX6_notValidWithBoth 6 = .ok (.istore 4, 2) := by decide +kernel
theorem dX6_notValidWithBoth_8 : decode cX6_notValidWithBoth 8 = .ok (.iconst 0, 1) := by decide +kernel
theorem dX6_notValidWithBoth_9 : decode cX6_notValidWithBoth 9 = .ok (.istore 5, 2) := by decide +kernel
theorem dX6_notValidWithBoth_11 : decode cX6_notValidWithBoth 11 = .ok (.iload 5, 2) := by decide +kernel
theorem dX6_notValidWithBoth_13 : decode cX6_notValidWithBoth 13 = .ok (.aload_n 3, 1) := by decide +kernel
theorem dX6_notValidWithBoth_14 : decode cX6_notValidWithBoth 14 = .ok (.getfield 149, 3) := by decide +kernel
theorem dX6_notValidWithBoth_17 : decode cX6_notValidWithBoth 17 = .ok (.if_icmp .ge 31, 3) := by decide +kernel
theorem dX6_notValidWithBoth_20 : decode cX6_notValidWithBoth 20 = .ok (.aload_n 0, 1) := by decide +kernel
theorem dX6_notValidWithBoth_21 : decode cX6_notValidWithBoth 21 = .ok (.aload_n 3, 1) := by decide +kernel
theorem dX6_notValidWithBoth_22 : decode cX6_notValidWithBoth 22 = .ok (.getfield 180, 3) := by decide +kernel
theorem dX6_notValidWithBoth_25 : decode cX6_notValidWithBoth 25 = .ok (.iload 5, 2) := by decide +kernel
theorem dX6_notValidWithBoth_27 : decode cX6_notValidWithBoth 27 = .ok (.iaload, 1) := by decide +kernel
theorem dX6_notValidWithBoth_28 : decode cX6_notValidWithBoth 28 = .ok (.iload_n 1, 1) := by decide +kernel
theorem dX6_notValidWithBoth_29 : decode cX6_notValidWithBoth 29 = .ok (.iload_n 2, 1) := by decide +kernel
theorem dX6_notValidWithBoth_30 : decode cX6_notValidWithBoth 30 = .ok (.invokevirtual 286, 3) := by decide +kernel
theorem dX6_notValidWithBoth_33 : decode cX6_notValidWithBoth 33 = .ok (.invokestatic 290, 3) := by decide +kernel
theorem dX6_notValidWithBoth_36 : decode cX6_notValidWithBoth 36 = .ok (.ifCond .ne 6, 3) := by decide +kernel
theorem dX6_notValidWithBoth_39 : decode cX6_notValidWithBoth 39 = .ok (.iinc 4 1, 3) := by decide +kernel
theorem dX6_notValidWithBoth_42 : decode cX6_notValidWithBoth 42 = .ok (.iinc 5 1, 3) := by decide +kernel
theorem dX6_notValidWithBoth_45 : decode cX6_notValidWithBoth 45 = .ok (.goto (-34), 3) := by decide +kernel
theorem dX6_notValidWithBoth_48 : decode cX6_notValidWithBoth 48 = .ok (.iload 4, 2) := by decide +kernel
theorem dX6_notValidWithBoth_50 : decode cX6_notValidWithBoth 50 = .ok (.ireturn, 1) := by decide +kernel
set_option maxRecDepth 20000 in
theorem ggX6_passingWithBoth_X6_freshSurvey : GoodIn wsX6_passingWithBoth wsX6_freshSurvey := goodIn_r _ [9, 10, 11, 12, 13, 14, 15, 16, 8, 17, 2, 18, 19, 20, 21, 22, 23, 24, 25, 26, 27, 28, 29, 30, 31, 32, 33, 34, 35, 36, 37, 38, 39, 40, 41, 42, 43, 44, 45, 46, 47, 48, 49, 50, 51, 52, 53, 54, 55, 56, 57, 58, 59, 60, 61, 62, 63, 64, 65, 66, 67, 68, 69, 70, 71, 72, 73, 74, 75, 76, 77, 78, 79, 80, 81, 82, 83, 84, 85, 86, 87, 88, 89, 90, 91, 92, 93, 94, 95, 96, 97, 98, 99, 100, 101, 102, 103, 104, 105, 106, 107, 108, 109, 110, 111, 112, 113, 114, 115, 116, 117, 118, 119, 120, 121, 122, 123, 124, 125, 126, 127, 128, 129, 130, 131, 132, 133, 134, 155, 156, 157, 158, 159, 160, 161, 142, 143, 144, 145, 146, 147, 148, 149, 150, 151, 152, 153, 154, 162, 163, 164, 165, 166, 167, 168, 169, 170, 171, 172, 173, 174, 175, 176, 177, 178] (by decide +kernel) (by decide +kernel)
set_option maxRecDepth 20000 in
theorem gX6_passingWithBoth_X6_freshSurvey : GoodIn wsX6_passingWithBoth (wsV RX6 195 RX6 yX6_freshSurvey wsX6_freshSurvey) := goodIn_app (goodIn_of _ (by decide +kernel)) ggX6_passingWithBoth_X6_freshSurvey
set_option maxRecDepth 20000 in
theorem ggX6_passingWithBoth_X6_outWithBoth : GoodIn wsX6_passingWithBoth wsX6_outWithBoth := goodIn_r _ [138, 13, 12, 139, 89, 90, 91, 92, 93, 94, 95, 83, 84, 32, 85, 34, 86, 96, 97, 98, 99, 100, 101, 102, 103, 104, 105, 106, 107, 108, 109, 110, 140, 115, 116, 117, 118, 119, 120, 121, 122, 123, 124, 8, 125, 155, 156, 157, 158, 159, 160, 161, 169, 170, 171, 172, 173, 174, 175, 176, 177, 178] (by decide +kernel) (by decide +kernel)
set_option maxRecDepth 20000 in
theorem gX6_passingWithBoth_X6_outWithBoth : GoodIn wsX6_passingWithBoth (wsV RX6 286 RX6 yX6_outWithBoth wsX6_outWithBoth) := goodIn_app (goodIn_of _ (by decide +kernel)) ggX6_passingWithBoth_X6_outWithBoth
set_option maxRecDepth 20000 in
theorem ggX6_passingWithBoth_X6_isValid : GoodIn wsX6_passingWithBoth wsX6_isValid := goodIn_r _ [127] (by decide +kernel) (by decide +kernel)
set_option maxRecDepth 20000 in
theorem gX6_passingWithBoth_X6_isValid : GoodIn wsX6_passingWithBoth (va_wsS RX6 290 yX6_isValid wsX6_isValid) := goodIn_app (goodIn_of _ (by decide +kernel)) ggX6_passingWithBoth_X6_isValid
theorem dX6_passingWithBoth_0 : decode cX6_passingWithBoth 0 = .ok (.aload_n 0, 1) := by decide +kernel
theorem dX6_passingWithBoth_1 : decode cX6_passingWithBoth 1 = .ok (.invokevirtual 195, 3) := by decide +kernel
theorem dX6_passingWithBoth_4 : decode cX6_passingWithBoth 4 = .ok (.getfield 293, 3) := by decide +kernel
theorem dX6_passingWithBoth_7 : decode cX6_passingWithBoth 7 = .ok (.astore_n 3, 1) := by decide +kernel
theorem dX6_passingWithBoth_8 : decode cX6_passingWithBoth 8 = .ok (.iconst 0, 1) := by decide +kernel
theorem dX6_passingWithBoth_9 : decode cX6_passingWithBoth 9 = .ok (.istore 4, 2) := by decide +kernel
theorem dX6_passingWithBoth_11 : decode cX6_passingWithBoth 11 = .ok (.iconst 0, 1) := by decide +kernel
theorem dX6_passingWithBoth_12 : decode cX6_passingWithBoth 12 = .ok (.istore 5, 2) := by decide +kernel
theorem dX6_passingWithBoth_14 : decode cX6_passingWithBoth 14 = .ok (.iload 5, 2) := by decide +kernel
theorem dX6_passingWithBoth_16 : decode cX6_passingWithBoth 16 = .ok (.aload_n 0, 1) := by decide +kernel
theorem dX6_passingWithBoth_17 : decode cX6_passingWithBoth 17 = .ok (.getfield 36, 3) := by decide +kernel
theorem dX6_passingWithBoth_20 : decode cX6_passingWithBoth 20 = .ok (.getfield 149, 3) := by decide +kernel
theorem dX6_passingWithBoth_23 : decode cX6_passingWithBoth 23 = .ok (.if_icmp .ge 51, 3) := by decide +kernel
theorem dX6_passingWithBoth_26 : decode cX6_passingWithBoth 26 = .ok (.aload_n 0, 1) := by decide +kernel
theorem dX6_passingWithBoth_27 : decode cX6_passingWithBoth 27 = .ok (.getfield 36, 3) := by decide +kernel
theorem dX6_passingWithBoth_30 : decode cX6_passingWithBoth 30 = .ok (.getfield 180, 3) := by decide +kernel
theorem dX6_passingWithBoth_33 : decode cX6_passingWithBoth 33 = .ok (.iload 5, 2) := by decide +kernel
theorem dX6_passingWithBoth_35 : decode cX6_passingWithBoth 35 = .ok (.iaload, 1) := by decide +kernel
theorem dX6_passingWithBoth_36 : decode cX6_passingWithBoth 36 = .ok (.istore 6, 2) := by decide +kernel
theorem dX6_passingWithBoth_38 : decode cX6_passingWithBoth 38 = .ok (.aload_n 0, 1) := by decide +kernel
theorem dX6_passingWithBoth_39 : decode cX6_passingWithBoth 39 = .ok (.iload 6, 2) := by decide +kernel
theorem dX6_passingWithBoth_41 : decode cX6_passingWithBoth 41 = .ok (.iload_n 1, 1) := by decide +kernel
theorem dX6_passingWithBoth_42 : decode cX6_passingWithBoth 42 = .ok (.iload_n 2, 1) := by decide +kernel
theorem dX6_passingWithBoth_43 : decode cX6_passingWithBoth 43 = .ok (.invokevirtual 286, 3) := by decide +kernel
theorem dX6_passingWithBoth_46 : decode cX6_passingWithBoth 46 = .ok (.istore 7, 2) := by decide +kernel
theorem dX6_passingWithBoth_48 : decode cX6_passingWithBoth 48 = .ok (.iload 7, 2) := by decide +kernel
theorem dX6_passingWithBoth_50 : decode cX6_passingWithBoth 50 = .ok (.invokestatic 290, 3) := by decide +kernel
theorem dX6_passingWithBoth_53 : decode cX6_passingWithBoth 53 = .ok (.ifCond .eq 15, 3) := by decide +kernel
theorem dX6_passingWithBoth_56 : decode cX6_passingWithBoth 56 = .ok (.iload 7, 2) := by decide +kernel
theorem dX6_passingWithBoth_58 : decode cX6_passingWithBoth 58 = .ok (.aload_n 3, 1) := by decide +kernel
theorem dX6_passingWithBoth_59 : decode cX6_passingWithBoth 59 = .ok (.iload 6, 2) := by decide +kernel
theorem dX6_passingWithBoth_61 : decode cX6_passingWithBoth 61 = .ok (.iaload, 1) := by decide +kernel
theorem dX6_passingWithBoth_62 : decode cX6_passingWithBoth 62 = .ok (.if_icmp .eq 6, 3) := by decide +kernel
theorem dX6_passingWithBoth_65 : decode cX6_passingWithBoth 65 = .ok (.iinc 4 1, 3) := by decide +kernel
theorem dX6_passingWithBoth_68 : decode cX6_passingWithBoth 68 = .ok (.iinc 5 1, 3) := by decide +kernel
theorem dX6_passingWithBoth_71 : decode cX6_passingWithBoth 71 = .ok (.goto (-57), 3) := by decide +kernel
theorem dX6_passingWithBoth_74 : decode cX6_passingWithBoth 74 = .ok (.iload 4, 2) := by decide +kernel
theorem dX6_passingWithBoth_76 : decode cX6_passingWithBoth 76 = .ok (.ireturn, 1) := by decide +kernel
set_option maxRecDepth 20000 in
theorem ggX6_outWithBoth_X3_settle : GoodIn wsX6_outWithBoth wsX3_settle := goodIn_r _ [7, 8, 9, 10, 11, 12, 13, 14, 15, 16, 17, 18, 6, 19, 20, 21, 22, 23, 24, 25, 26, 27, 28, 29, 30, 31, 52, 53, 54, 55, 56, 57, 58, 59, 60, 61] (by decide +kernel) (by decide +kernel)
set_option maxRecDepth 20000 in
theorem gX6_outWithBoth_X3_settle : GoodIn wsX6_outWithBoth (wsV RX6 162 RX3 yX3_settle wsX3_settle) := goodIn_app (goodIn_of _ (by decide +kernel)) ggX6_outWithBoth_X3_settle
set_option maxRecDepth 20000 in
theorem ggX6_outWithBoth_X3_outAt : GoodIn wsX6_outWithBoth wsX3_outAt := goodIn_r _ [35, 36, 37, 38, 39, 40, 6, 41, 9, 42, 43, 44, 52, 53, 54, 55, 56, 57, 58, 59, 60, 61] (by decide +kernel) (by decide +kernel)
set_option maxRecDepth 20000 in
theorem gX6_outWithBoth_X3_outAt : GoodIn wsX6_outWithBoth (wsV RX6 176 RX3 yX3_outAt wsX3_outAt) := goodIn_app (goodIn_of _ (by decide +kernel)) ggX6_outWithBoth_X3_outAt
theorem dX6_outWithBoth_0 : decode cX6_outWithBoth 0 = .ok (.aload_n 0, 1) := by decide +kernel
theorem dX6_outWithBoth_1 : decode cX6_outWithBoth 1 = .ok (.getfield 43, 3) := by decide +kernel
theorem dX6_outWithBoth_4 : decode cX6_outWithBoth 4 = .ok (.aload_n 0, 1) := by decide +kernel
theorem dX6_outWithBoth_5 : decode cX6_outWithBoth 5 = .ok (.getfield 19, 3) := by decide +kernel
theorem dX6_outWithBoth_8 : decode cX6_outWithBoth 8 = .ok (.iload_n 1, 1) := by decide +kernel
theorem dX6_outWithBoth_9 : decode cX6_outWithBoth 9 = .ok (.iload_n 3, 1) := by decide +kernel
theorem dX6_outWithBoth_10 : decode cX6_outWithBoth 10 = .ok (.invokevirtual 162, 3) := by decide +kernel
theorem dX6_outWithBoth_13 : decode cX6_outWithBoth 13 = .ok (.aload_n 0, 1) := by decide +kernel
theorem dX6_outWithBoth_14 : decode cX6_outWithBoth 14 = .ok (.getfield 43, 3) := by decide +kernel
theorem dX6_outWithBoth_17 : decode cX6_outWithBoth 17 = .ok (.aload_n 0, 1) := by decide +kernel
theorem dX6_outWithBoth_18 : decode cX6_outWithBoth 18 = .ok (.getfield 19, 3) := by decide +kernel
theorem dX6_outWithBoth_21 : decode cX6_outWithBoth 21 = .ok (.iload_n 2, 1) := by decide +kernel
theorem dX6_outWithBoth_22 : decode cX6_outWithBoth 22 = .ok (.invokevirtual 176, 3) := by decide +kernel
theorem dX6_outWithBoth_25 : decode cX6_outWithBoth 25 = .ok (.ireturn, 1) := by decide +kernel
theorem dX6_isValid_0 : decode cX6_isValid 0 = .ok (.iload_n 0, 1) := by decide +kernel
theorem dX6_isValid_1 : decode cX6_isValid 1 = .ok (.iconst 1, 1) := by decide +kernel
theorem dX6_isValid_2 : decode cX6_isValid 2 = .ok (.if_icmp .eq 8, 3) := by decide +kernel
theorem dX6_isValid_5 : decode cX6_isValid 5 = .ok (.iload_n 0, 1) := by decide +kernel
theorem dX6_isValid_6 : decode cX6_isValid 6 = .ok (.iconst 2, 1) := by decide +kernel
theorem dX6_isValid_7 : decode cX6_isValid 7 = .ok (.if_icmp .ne 7, 3) := by decide +kernel
theorem dX6_isValid_10 : decode cX6_isValid 10 = .ok (.iconst 1, 1) := by decide +kernel
theorem dX6_isValid_11 : decode cX6_isValid 11 = .ok (.goto 4, 3) := by decide +kernel
theorem dX6_isValid_14 : decode cX6_isValid 14 = .ok (.iconst 0, 1) := by decide +kernel
theorem dX6_isValid_15 : decode cX6_isValid 15 = .ok (.ireturn, 1) := by decide +kernel
theorem dX6_bit_0 : decode cX6_bit 0 = .ok (.lload_n 0, 1) := by decide +kernel
theorem dX6_bit_1 : decode cX6_bit 1 = .ok (.iload_n 2, 1) := by decide +kernel
theorem dX6_bit_2 : decode cX6_bit 2 = .ok (.lushr, 1) := by decide +kernel
theorem dX6_bit_3 : decode cX6_bit 3 = .ok (.lconst 1, 1) := by decide +kernel
theorem dX6_bit_4 : decode cX6_bit 4 = .ok (.land, 1) := by decide +kernel
theorem dX6_bit_5 : decode cX6_bit 5 = .ok (.l2i, 1) := by decide +kernel
theorem dX6_bit_6 : decode cX6_bit 6 = .ok (.ireturn, 1) := by decide +kernel
set_option maxRecDepth 20000 in
theorem ggX6_lowestBit_X6_bit : GoodIn wsX6_lowestBit wsX6_bit := goodIn_r _ [4] (by decide +kernel) (by decide +kernel)
set_option maxRecDepth 20000 in
theorem gX6_lowestBit_X6_bit : GoodIn wsX6_lowestBit (va_wsS RX6 217 yX6_bit wsX6_bit) := goodIn_app (goodIn_of _ (by decide +kernel)) ggX6_lowestBit_X6_bit
theorem dX6_lowestBit_0 : decode cX6_lowestBit 0 = .ok (.iconst 0, 1) := by decide +kernel
theorem dX6_lowestBit_1 : decode cX6_lowestBit 1 = .ok (.istore_n 2, 1) := by decide +kernel
theorem dX6_lowestBit_2 : decode cX6_lowestBit 2 = .ok (.iload_n 2, 1) := by decide +kernel
theorem dX6_lowestBit_3 : decode cX6_lowestBit 3 = .ok (.bipush 64, 2) := by decide +kernel
theorem dX6_lowestBit_5 : decode cX6_lowestBit 5 = .ok (.if_icmp .ge 20, 3) := by decide +kernel
theorem dX6_lowestBit_8 : decode cX6_lowestBit 8 = .ok (.lload_n 0, 1) := by decide +kernel
theorem dX6_lowestBit_9 : decode cX6_lowestBit 9 = .ok (.iload_n 2, 1) := by decide +kernel
theorem dX6_lowestBit_10 : decode cX6_lowestBit 10 = .ok (.invokestatic 217, 3) := by decide +kernel
theorem dX6_lowestBit_13 : decode cX6_lowestBit 13 = .ok (.iconst 1, 1) := by decide +kernel
theorem dX6_lowestBit_14 : decode cX6_lowestBit 14 = .ok (.if_icmp .ne 5, 3) := by decide +kernel
theorem dX6_lowestBit_17 : decode cX6_lowestBit 17 = .ok (.iload_n 2, 1) := by decide +kernel
theorem dX6_lowestBit_18 : decode cX6_lowestBit 18 = .ok (.ireturn, 1) := by decide +kernel
theorem dX6_lowestBit_19 : decode cX6_lowestBit 19 = .ok (.iinc 2 1, 3) := by decide +kernel
theorem dX6_lowestBit_22 : decode cX6_lowestBit 22 = .ok (.goto (-20), 3) := by decide +kernel
theorem dX6_lowestBit_25 : decode cX6_lowestBit 25 = .ok (.bipush (-4), 2) := by decide +kernel
theorem dX6_lowestBit_27 : decode cX6_lowestBit 27 = .ok (.ireturn, 1) := by decide +kernel
