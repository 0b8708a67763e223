set_option maxRecDepth 20000 in
theorem ggX0_init_X4_init : GoodIn wsX0_init wsX4_init := goodIn_r _ [14, 15, 2, 3, 16, 17, 18, 19, 20, 21, 30, 31] (by decide +kernel) (by decide +kernel)
set_option maxRecDepth 20000 in
theorem gX0_init_X4_init : GoodIn wsX0_init (wsX4_init) := ggX0_init_X4_init
set_option maxRecDepth 20000 in
theorem ggX0_init_X1_init : GoodIn wsX0_init wsX1_init := goodIn_r _ [24, 25, 2, 3, 26, 27, 5, 6, 28, 29, 13, 14, 15, 16, 17, 18, 19, 20, 21, 36, 37, 38, 30, 31] (by decide +kernel) (by decide +kernel)
set_option maxRecDepth 20000 in
theorem gX0_init_X1_init : GoodIn wsX0_init (wsX1_init) := ggX0_init_X1_init
theorem dX0_init_0 : decode cX0_init 0 = .ok (.aload_n 0, 1) := by decide +kernel
theorem dX0_init_1 : decode cX0_init 1 = .ok (.invokespecial 3, 3) := by decide +kernel
theorem dX0_init_4 : decode cX0_init 4 = .ok (.aload_n 0, 1) := by decide +kernel
theorem dX0_init_5 : decode cX0_init 5 = .ok (.new 9, 3) := by decide +kernel
theorem dX0_init_8 : decode cX0_init 8 = .ok (.dup, 1) := by decide +kernel
theorem dX0_init_9 : decode cX0_init 9 = .ok (.bipush 30, 2) := by decide +kernel
theorem dX0_init_11 : decode cX0_init 11 = .ok (.invokespecial 11, 3) := by decide +kernel
theorem dX0_init_14 : decode cX0_init 14 = .ok (.putfield 14, 3) := by decide +kernel
theorem dX0_init_17 : decode cX0_init 17 = .ok (.aload_n 0, 1) := by decide +kernel
theorem dX0_init_18 : decode cX0_init 18 = .ok (.new 20, 3) := by decide +kernel
theorem dX0_init_21 : decode cX0_init 21 = .ok (.dup, 1) := by decide +kernel
theorem dX0_init_22 : decode cX0_init 22 = .ok (.iload_n 1, 1) := by decide +kernel
theorem dX0_init_23 : decode cX0_init 23 = .ok (.invokespecial 22, 3) := by decide +kernel
theorem dX0_init_26 : decode cX0_init 26 = .ok (.putfield 23, 3) := by decide +kernel
theorem dX0_init_29 : decode cX0_init 29 = .ok (.return_, 1) := by decide +kernel
theorem dX0_gateNumber_0 : decode cX0_gateNumber 0 = .ok (.aload_n 0, 1) := by decide +kernel
theorem dX0_gateNumber_1 : decode cX0_gateNumber 1 = .ok (.getfield 27, 3) := by decide +kernel
theorem dX0_gateNumber_4 : decode cX0_gateNumber 4 = .ok (.ifnonnull 7, 3) := by decide +kernel
theorem dX0_gateNumber_7 : decode cX0_gateNumber 7 = .ok (.iconst (-1), 1) := by decide +kernel
theorem dX0_gateNumber_8 : decode cX0_gateNumber 8 = .ok (.goto 10, 3) := by decide +kernel
theorem dX0_gateNumber_11 : decode cX0_gateNumber 11 = .ok (.aload_n 0, 1) := by decide +kernel
theorem dX0_gateNumber_12 : decode cX0_gateNumber 12 = .ok (.getfield 27, 3) := by decide +kernel
theorem dX0_gateNumber_15 : decode cX0_gateNumber 15 = .ok (.getfield 31, 3) := by decide +kernel
theorem dX0_gateNumber_18 : decode cX0_gateNumber 18 = .ok (.ireturn, 1) := by decide +kernel
theorem dX0_rampNumber_0 : decode cX0_rampNumber 0 = .ok (.aload_n 0, 1) := by decide +kernel
theorem dX0_rampNumber_1 : decode cX0_rampNumber 1 = .ok (.getfield 37, 3) := by decide +kernel
theorem dX0_rampNumber_4 : decode cX0_rampNumber 4 = .ok (.ifnonnull 7, 3) := by decide +kernel
theorem dX0_rampNumber_7 : decode cX0_rampNumber 7 = .ok (.iconst (-1), 1) := by decide +kernel
theorem dX0_rampNumber_8 : decode cX0_rampNumber 8 = .ok (.goto 10, 3) := by decide +kernel
theorem dX0_rampNumber_11 : decode cX0_rampNumber 11 = .ok (.aload_n 0, 1) := by decide +kernel
theorem dX0_rampNumber_12 : decode cX0_rampNumber 12 = .ok (.getfield 37, 3) := by decide +kernel
theorem dX0_rampNumber_15 : decode cX0_rampNumber 15 = .ok (.getfield 41, 3) := by decide +kernel
theorem dX0_rampNumber_18 : decode cX0_rampNumber 18 = .ok (.ireturn, 1) := by decide +kernel
set_option maxRecDepth 20000 in
theorem ggX1_init_X4_init : GoodIn wsX1_init wsX4_init := goodIn_r _ [11, 12, 2, 3, 13, 14, 15, 16, 17, 18, 22, 23] (by decide +kernel) (by decide +kernel)
set_option maxRecDepth 20000 in
theorem gX1_init_X4_init : GoodIn wsX1_init (wsX4_init) := ggX1_init_X4_init
theorem dX1_init_0 : decode cX1_init 0 = .ok (.aload_n 0, 1) := by decide +kernel
theorem dX1_init_1 : decode cX1_init 1 = .ok (.invokespecial 3, 3) := by decide +kernel
theorem dX1_init_4 : decode cX1_init 4 = .ok (.aload_n 0, 1) := by decide +kernel
theorem dX1_init_5 : decode cX1_init 5 = .ok (.iload_n 1, 1) := by decide +kernel
theorem dX1_init_6 : decode cX1_init 6 = .ok (.putfield 9, 3) := by decide +kernel
theorem dX1_init_9 : decode cX1_init 9 = .ok (.aload_n 0, 1) := by decide +kernel
theorem dX1_init_10 : decode cX1_init 10 = .ok (.new 15, 3) := by decide +kernel
theorem dX1_init_13 : decode cX1_init 13 = .ok (.dup, 1) := by decide +kernel
theorem dX1_init_14 : decode cX1_init 14 = .ok (.bipush 40, 2) := by decide +kernel
theorem dX1_init_16 : decode cX1_init 16 = .ok (.invokespecial 17, 3) := by decide +kernel
theorem dX1_init_19 : decode cX1_init 19 = .ok (.putfield 20, 3) := by decide +kernel
theorem dX1_init_22 : decode cX1_init 22 = .ok (.return_, 1) := by decide +kernel
set_option maxRecDepth 20000 in
theorem ggX1_hasRoomFor_X4_isFull : GoodIn wsX1_hasRoomFor wsX4_isFull := goodIn_r _ [8, 9, 10, 14, 15] (by decide +kernel) (by decide +kernel)
set_option maxRecDepth 20000 in
theorem gX1_hasRoomFor_X4_isFull : GoodIn wsX1_hasRoomFor (wsV RX1 24 RX4 yX4_isFull wsX4_isFull) := goodIn_app (goodIn_of _ (by decide +kernel)) ggX1_hasRoomFor_X4_isFull
theorem dX1_hasRoomFor_0 : decode cX1_hasRoomFor 0 = .ok (.aload_n 0, 1) := by decide +kernel
theorem dX1_hasRoomFor_1 : decode cX1_hasRoomFor 1 = .ok (.getfield 20, 3) := by decide +kernel
theorem dX1_hasRoomFor_4 : decode cX1_hasRoomFor 4 = .ok (.invokevirtual 24, 3) := by decide +kernel
theorem dX1_hasRoomFor_7 : decode cX1_hasRoomFor 7 = .ok (.ifCond .ne 20, 3) := by decide +kernel
theorem dX1_hasRoomFor_10 : decode cX1_hasRoomFor 10 = .ok (.aload_n 0, 1) := by decide +kernel
theorem dX1_hasRoomFor_11 : decode cX1_hasRoomFor 11 = .ok (.getfield 28, 3) := by decide +kernel
theorem dX1_hasRoomFor_14 : decode cX1_hasRoomFor 14 = .ok (.iload_n 1, 1) := by decide +kernel
theorem dX1_hasRoomFor_15 : decode cX1_hasRoomFor 15 = .ok (.iadd, 1) := by decide +kernel
theorem dX1_hasRoomFor_16 : decode cX1_hasRoomFor 16 = .ok (.aload_n 0, 1) := by decide +kernel
theorem dX1_hasRoomFor_17 : decode cX1_hasRoomFor 17 = .ok (.getfield 9, 3) := by decide +kernel
theorem dX1_hasRoomFor_20 : decode cX1_hasRoomFor 20 = .ok (.if_icmp .gt 7, 3) := by decide +kernel
theorem dX1_hasRoomFor_23 : decode cX1_hasRoomFor 23 = .ok (.iconst 1, 1) := by decide +kernel
theorem dX1_hasRoomFor_24 : decode cX1_hasRoomFor 24 = .ok (.goto 4, 3) := by decide +kernel
theorem dX1_hasRoomFor_27 : decode cX1_hasRoomFor 27 = .ok (.iconst 0, 1) := by decide +kernel
theorem dX1_hasRoomFor_28 : decode cX1_hasRoomFor 28 = .ok (.ireturn, 1) := by decide +kernel
set_option maxRecDepth 20000 in
theorem ggX1_takeAboard_X4_addLast : GoodIn wsX1_takeAboard wsX4_addLast := goodIn_r _ [7, 8, 9, 13, 14] (by decide +kernel) (by decide +kernel)
set_option maxRecDepth 20000 in
theorem gX1_takeAboard_X4_addLast : GoodIn wsX1_takeAboard (wsV RX1 31 RX4 yX4_addLast wsX4_addLast) := goodIn_app (goodIn_of _ (by decide +kernel)) ggX1_takeAboard_X4_addLast
theorem dX1_takeAboard_0 : decode cX1_takeAboard 0 = .ok (.aload_n 0, 1) := by decide +kernel
theorem dX1_takeAboard_1 : decode cX1_takeAboard 1 = .ok (.getfield 20, 3) := by decide +kernel
theorem dX1_takeAboard_4 : decode cX1_takeAboard 4 = .ok (.iload_n 1, 1) := by decide +kernel
theorem dX1_takeAboard_5 : decode cX1_takeAboard 5 = .ok (.invokevirtual 31, 3) := by decide +kernel
theorem dX1_takeAboard_8 : decode cX1_takeAboard 8 = .ok (.aload_n 0, 1) := by decide +kernel
theorem dX1_takeAboard_9 : decode cX1_takeAboard 9 = .ok (.dup, 1) := by decide +kernel
theorem dX1_takeAboard_10 : decode cX1_takeAboard 10 = .ok (.getfield 28, 3) := by decide +kernel
theorem dX1_takeAboard_13 : decode cX1_takeAboard 13 = .ok (.iload_n 1, 1) := by decide +kernel
theorem dX1_takeAboard_14 : decode cX1_takeAboard 14 = .ok (.iadd, 1) := by decide +kernel
theorem dX1_takeAboard_15 : decode cX1_takeAboard 15 = .ok (.putfield 28, 3) := by decide +kernel
theorem dX1_takeAboard_18 : decode cX1_takeAboard 18 = .ok (.return_, 1) := by decide +kernel
set_option maxRecDepth 20000 in
theorem ggX1_weightOfLast_X4_weightAt : GoodIn wsX1_weightOfLast wsX4_weightAt := goodIn_r _ [7, 8, 9, 13, 14] (by decide +kernel) (by decide +kernel)
set_option maxRecDepth 20000 in
theorem gX1_weightOfLast_X4_weightAt : GoodIn wsX1_weightOfLast (wsV RX1 37 RX4 yX4_weightAt wsX4_weightAt) := goodIn_app (goodIn_of _ (by decide +kernel)) ggX1_weightOfLast_X4_weightAt
theorem dX1_weightOfLast_0 : decode cX1_weightOfLast 0 = .ok (.aload_n 0, 1) := by decide +kernel
theorem dX1_weightOfLast_1 : decode cX1_weightOfLast 1 = .ok (.getfield 20, 3) := by decide +kernel
theorem dX1_weightOfLast_4 : decode cX1_weightOfLast 4 = .ok (.aload_n 0, 1) := by decide +kernel
theorem dX1_weightOfLast_5 : decode cX1_weightOfLast 5 = .ok (.getfield 20, 3) := by decide +kernel
theorem dX1_weightOfLast_8 : decode cX1_weightOfLast 8 = .ok (.getfield 34, 3) := by decide +kernel
theorem dX1_weightOfLast_11 : decode cX1_weightOfLast 11 = .ok (.iconst 1, 1) := by decide +kernel
theorem dX1_weightOfLast_12 : decode cX1_weightOfLast 12 = .ok (.isub, 1) := by decide +kernel
theorem dX1_weightOfLast_13 : decode cX1_weightOfLast 13 = .ok (.invokevirtual 37, 3) := by decide +kernel
theorem dX1_weightOfLast_16 : decode cX1_weightOfLast 16 = .ok (.ireturn, 1) := by decide +kernel
set_option maxRecDepth 20000 in
theorem ggX1_putLastAshore_X1_weightOfLast : GoodIn wsX1_putLastAshore wsX1_weightOfLast := goodIn_r _ [8, 1, 2, 9, 10, 11, 12, 13, 14, 15, 20, 21, 22, 23, 24] (by decide +kernel) (by decide +kernel)
set_option maxRecDepth 20000 in
theorem gX1_putLastAshore_X1_weightOfLast : GoodIn wsX1_putLastAshore (wsV RX1 41 RX1 yX1_weightOfLast wsX1_weightOfLast) := goodIn_app (goodIn_of _ (by decide +kernel)) ggX1_putLastAshore_X1_weightOfLast
set_option maxRecDepth 20000 in
theorem ggX1_putLastAshore_X4_removeLast : GoodIn wsX1_putLastAshore wsX4_removeLast := goodIn_r _ [19, 14, 23, 24] (by decide +kernel) (by decide +kernel)
set_option maxRecDepth 20000 in
theorem gX1_putLastAshore_X4_removeLast : GoodIn wsX1_putLastAshore (wsV RX1 45 RX4 yX4_removeLast wsX4_removeLast) := goodIn_app (goodIn_of _ (by decide +kernel)) ggX1_putLastAshore_X4_removeLast
theorem dX1_putLastAshore_0 : decode cX1_putLastAshore 0 = .ok (.aload_n 0, 1) := by decide +kernel
theorem dX1_putLastAshore_1 : decode cX1_putLastAshore 1 = .ok (.getfield 20, 3) := by decide +kernel
theorem dX1_putLastAshore_4 : decode cX1_putLastAshore 4 = .ok (.getfield 34, 3) := by decide +kernel
theorem dX1_putLastAshore_7 : decode cX1_putLastAshore 7 = .ok (.ifCond .le 23, 3) := by decide +kernel
theorem dX1_putLastAshore_10 : decode cX1_putLastAshore 10 = .ok (.aload_n 0, 1) := by decide +kernel
theorem dX1_putLastAshore_11 : decode cX1_putLastAshore 11 = .ok (.dup, 1) := by decide +kernel
theorem dX1_putLastAshore_12 : decode cX1_putLastAshore 12 = .ok (.getfield 28, 3) := by decide +kernel
theorem dX1_putLastAshore_15 : decode cX1_putLastAshore 15 = .ok (.aload_n 0, 1) := by decide +kernel
theorem dX1_putLastAshore_16 : decode cX1_putLastAshore 16 = .ok (.invokevirtual 41, 3) := by decide +kernel
theorem dX1_putLastAshore_19 : decode cX1_putLastAshore 19 = .ok (.isub, 1) := by decide +kernel
theorem dX1_putLastAshore_20 : decode cX1_putLastAshore 20 = .ok (.putfield 28, 3) := by decide +kernel
theorem dX1_putLastAshore_23 : decode cX1_putLastAshore 23 = .ok (.aload_n 0, 1) := by decide +kernel
theorem dX1_putLastAshore_24 : decode cX1_putLastAshore 24 = .ok (.getfield 20, 3) := by decide +kernel
theorem dX1_putLastAshore_27 : decode cX1_putLastAshore 27 = .ok (.invokevirtual 45, 3) := by decide +kernel
theorem dX1_putLastAshore_30 : decode cX1_putLastAshore 30 = .ok (.return_, 1) := by decide +kernel
theorem dX2_init_0 : decode cX2_init 0 = .ok (.aload_n 0, 1) := by decide +kernel
theorem dX2_init_1 : decode cX2_init 1 = .ok (.invokespecial 1, 3) := by decide +kernel
theorem dX2_init_4 : decode cX2_init 4 = .ok (.aload_n 0, 1) := by decide +kernel
theorem dX2_init_5 : decode cX2_init 5 = .ok (.iload_n 1, 1) := by decide +kernel
theorem dX2_init_6 : decode cX2_init 6 = .ok (.putfield 7, 3) := by decide +kernel
theorem dX2_init_9 : decode cX2_init 9 = .ok (.return_, 1) := by decide +kernel
theorem dX2_shutAsNumber_0 : decode cX2_shutAsNumber 0 = .ok (.aload_n 0, 1) := by decide +kernel
theorem dX2_shutAsNumber_1 : decode cX2_shutAsNumber 1 = .ok (.getfield 13, 3) := by decide +kernel
theorem dX2_shutAsNumber_4 : decode cX2_shutAsNumber 4 = .ok (.ifCond .eq 7, 3) := by decide +kernel
theorem dX2_shutAsNumber_7 : decode cX2_shutAsNumber 7 = .ok (.iconst 1, 1) := by decide +kernel
theorem dX2_shutAsNumber_8 : decode cX2_shutAsNumber 8 = .ok (.goto 4, 3) := by decide +kernel
theorem dX2_shutAsNumber_11 : decode cX2_shutAsNumber 11 = .ok (.iconst 0, 1) := by decide +kernel
theorem dX2_shutAsNumber_12 : decode cX2_shutAsNumber 12 = .ok (.ireturn, 1) := by decide +kernel
theorem dX3_init_0 : decode cX3_init 0 = .ok (.aload_n 0, 1) := by decide +kernel
theorem dX3_init_1 : decode cX3_init 1 = .ok (.invokespecial 1, 3) := by decide +kernel
theorem dX3_init_4 : decode cX3_init 4 = .ok (.aload_n 0, 1) := by decide +kernel
theorem dX3_init_5 : decode cX3_init 5 = .ok (.iload_n 1, 1) := by decide +kernel
theorem dX3_init_6 : decode cX3_init 6 = .ok (.putfield 7, 3) := by decide +kernel
theorem dX3_init_9 : decode cX3_init 9 = .ok (.aload_n 0, 1) := by decide +kernel
theorem dX3_init_10 : decode cX3_init 10 = .ok (.iload_n 2, 1) := by decide +kernel
theorem dX3_init_11 : decode cX3_init 11 = .ok (.putfield 13, 3) := by decide +kernel
theorem dX3_init_14 : decode cX3_init 14 = .ok (.return_, 1) := by decide +kernel
theorem dX4_init_0 : decode cX4_init 0 = .ok (.aload_n 0, 1) := by decide +kernel
theorem dX4_init_1 : decode cX4_init 1 = .ok (.invokespecial 3, 3) := by decide +kernel
theorem dX4_init_4 : decode cX4_init 4 = .ok (.aload_n 0, 1) := by decide +kernel
theorem dX4_init_5 : decode cX4_init 5 = .ok (.iload_n 1, 1) := by decide +kernel
theorem dX4_init_6 : decode cX4_init 6 = .ok (.iconst 0, 1) := by decide +kernel
theorem dX4_init_7 : decode cX4_init 7 = .ok (.invokestatic 9, 3) := by decide +kernel
theorem dX4_init_10 : decode cX4_init 10 = .ok (.newarray .int, 2) := by decide +kernel
theorem dX4_init_12 : decode cX4_init 12 = .ok (.putfield 15, 3) := by decide +kernel
theorem dX4_init_15 : decode cX4_init 15 = .ok (.return_, 1) := by decide +kernel
theorem dX4_isFull_0 : decode cX4_isFull 0 = .ok (.aload_n 0, 1) := by decide +kernel
theorem dX4_isFull_1 : decode cX4_isFull 1 = .ok (.getfield 21, 3) := by decide +kernel
theorem dX4_isFull_4 : decode cX4_isFull 4 = .ok (.aload_n 0, 1) := by decide +kernel
theorem dX4_isFull_5 : decode cX4_isFull 5 = .ok (.getfield 15, 3) := by decide +kernel
theorem dX4_isFull_8 : decode cX4_isFull 8 = .ok (.arraylength, 1) := by decide +kernel
theorem dX4_isFull_9 : decode cX4_isFull 9 = .ok (.if_icmp .lt 7, 3) := by decide +kernel
theorem dX4_isFull_12 : decode cX4_isFull 12 = .ok (.iconst 1, 1) := by decide +kernel
theorem dX4_isFull_13 : decode cX4_isFull 13 = .ok (.goto 4, 3) := by decide +kernel
theorem dX4_isFull_16 : decode cX4_isFull 16 = .ok (.iconst 0, 1) := by decide +kernel
theorem dX4_isFull_17 : decode cX4_isFull 17 = .ok (.ireturn, 1) := by decide +kernel
theorem dX4_weightAt_0 : decode cX4_weightAt 0 = .ok (.iload_n 1, 1) := by decide +kernel
theorem dX4_weightAt_1 : decode cX4_weightAt 1 = .ok (.ifCond .lt 29, 3) := by decide +kernel
theorem dX4_weightAt_4 : decode cX4_weightAt 4 = .ok (.iload_n 1, 1) := by decide +kernel
theorem dX4_weightAt_5 : decode cX4_weightAt 5 = .ok (.aload_n 0, 1) := by decide +kernel
theorem dX4_weightAt_6 : decode cX4_weightAt 6 = .ok (.getfield 21, 3) := by decide +kernel
theorem dX4_weightAt_9 : decode cX4_weightAt 9 = .ok (.if_icmp .ge 21, 3) := by decide +kernel
theorem dX4_weightAt_12 : decode cX4_weightAt 12 = .ok (.iload_n 1, 1) := by decide +kernel
theorem dX4_weightAt_13 : decode cX4_weightAt 13 = .ok (.aload_n 0, 1) := by decide +kernel
theorem dX4_weightAt_14 : decode cX4_weightAt 14 = .ok (.getfield 15, 3) := by decide +kernel
theorem dX4_weightAt_17 : decode cX4_weightAt 17 = .ok (.arraylength, 1) := by decide +kernel
theorem dX4_weightAt_18 : decode cX4_weightAt 18 = .ok (.if_icmp .ge 12, 3) := by decide +kernel
theorem dX4_weightAt_21 : decode cX4_weightAt 21 = .ok (.aload_n 0, 1) := by decide +kernel
theorem dX4_weightAt_22 : decode cX4_weightAt 22 = .ok (.getfield 15, 3) := by decide +kernel
theorem dX4_weightAt_25 : decode cX4_weightAt 25 = .ok (.iload_n 1, 1) := by decide +kernel
theorem dX4_weightAt_26 : decode cX4_weightAt 26 = .ok (.iaload, 1) := by decide +kernel
theorem dX4_weightAt_27 : decode cX4_weightAt 27 = .ok (.goto 4, 3) := by decide +kernel
theorem dX4_weightAt_30 : decode cX4_weightAt 30 = .ok (.iconst (-1), 1) := by decide +kernel
theorem dX4_weightAt_31 : decode cX4_weightAt 31 = .ok (.ireturn, 1) := by decide +kernel
theorem dX4_addLast_0 : decode cX4_addLast 0 = .ok (.aload_n 0, 1) := by decide +kernel
theorem dX4_addLast_1 : decode cX4_addLast 1 = .ok (.getfield 21, 3) := by decide +kernel
theorem dX4_addLast_4 : decode cX4_addLast 4 = .ok (.ifCond .lt 35, 3) := by decide +kernel
theorem dX4_addLast_7 : decode cX4_addLast 7 = .ok (.aload_n 0, 1) := by decide +kernel
theorem dX4_addLast_8 : decode cX4_addLast 8 = .ok (.getfield 21, 3) := by decide +kernel
theorem dX4_addLast_11 : decode cX4_addLast 11 = .ok (.aload_n 0, 1) := by decide +kernel
theorem dX4_addLast_12 : decode cX4_addLast 12 = .ok (.getfield 15, 3) := by decide +kernel
theorem dX4_addLast_15 : decode cX4_addLast 15 = .ok (.arraylength, 1) := by decide +kernel
theorem dX4_addLast_16 : decode cX4_addLast 16 = .ok (.if_icmp .ge 23, 3) := by decide +kernel
theorem dX4_addLast_19 : decode cX4_addLast 19 = .ok (.aload_n 0, 1) := by decide +kernel
theorem dX4_addLast_20 : decode cX4_addLast 20 = .ok (.getfield 15, 3) := by decide +kernel
theorem dX4_addLast_23 : decode cX4_addLast 23 = .ok (.aload_n 0, 1) := by decide +kernel
theorem dX4_addLast_24 : decode cX4_addLast 24 = .ok (.getfield 21, 3) := by decide +kernel
theorem dX4_addLast_27 : decode cX4_addLast 27 = .ok (.iload_n 1, 1) := by decide +kernel
theorem dX4_addLast_28 : decode cX4_addLast 28 = .ok (.iastore, 1) := by decide +kernel
theorem dX4_addLast_29 : decode cX4_addLast 29 = .ok (.aload_n 0, 1) := by decide +kernel
theorem dX4_addLast_30 : decode cX4_addLast 30 = .ok (.dup, 1) := by decide +kernel
theorem dX4_addLast_31 : decode cX4_addLast 31 = .ok (.getfield 21, 3) := by decide +kernel
theorem dX4_addLast_34 : decode cX4_addLast 34 = .ok (.iconst 1, 1) := by decide +kernel
theorem dX4_addLast_35 : decode cX4_addLast 35 = .ok (.iadd, 1) := by decide +kernel
theorem dX4_addLast_36 : decode cX4_addLast 36 = .ok (.putfield 21, 3) := by decide +kernel
theorem dX4_addLast_39 : decode cX4_addLast 39 = .ok (.return_, 1) := by decide +kernel
theorem dX4_removeFirst_0 : decode cX4_removeFirst 0 = .ok (.aload_n 0, 1) := by decide +kernel
theorem dX4_removeFirst_1 : decode cX4_removeFirst 1 = .ok (.getfield 21, 3) := by decide +kernel
theorem dX4_removeFirst_4 : decode cX4_removeFirst 4 = .ok (.ifCond .le 42, 3) := by decide +kernel
theorem dX4_removeFirst_7 : decode cX4_removeFirst 7 = .ok (.aload_n 0, 1) := by decide +kernel
theorem dX4_removeFirst_8 : decode cX4_removeFirst 8 = .ok (.getfield 21, 3) := by decide +kernel
theorem dX4_removeFirst_11 : decode cX4_removeFirst 11 = .ok (.aload_n 0, 1) := by decide +kernel
theorem dX4_removeFirst_12 : decode cX4_removeFirst 12 = .ok (.getfield 15, 3) := by decide +kernel
theorem dX4_removeFirst_15 : decode cX4_removeFirst 15 = .ok (.arraylength, 1) := by decide +kernel
theorem dX4_removeFirst_16 : decode cX4_removeFirst 16 = .ok (.if_icmp .gt 30, 3) := by decide +kernel
theorem dX4_removeFirst_19 : decode cX4_removeFirst 19 = .ok (.aload_n 0, 1) := by decide +kernel
theorem dX4_removeFirst_20 : decode cX4_removeFirst 20 = .ok (.dup, 1) := by decide +kernel
theorem dX4_removeFirst_21 : decode cX4_removeFirst 21 = .ok (.getfield 21, 3) := by decide +kernel
theorem dX4_removeFirst_24 : decode cX4_removeFirst 24 = .ok (.iconst 1, 1) := by decide +kernel
theorem dX4_removeFirst_25 : decode cX4_removeFirst 25 = .ok (.isub, 1) := by decide +kernel
theorem dX4_removeFirst_26 : decode cX4_removeFirst 26 = .ok (.putfield 21, 3) := by decide +kernel
theorem dX4_removeFirst_29 : decode cX4_removeFirst 29 = .ok (.aload_n 0, 1) := by decide +kernel
theorem dX4_removeFirst_30 : decode cX4_removeFirst 30 = .ok (.getfield 15, 3) := by decide +kernel
theorem dX4_removeFirst_33 : decode cX4_removeFirst 33 = .ok (.iconst 1, 1) := by decide +kernel
theorem dX4_removeFirst_34 : decode cX4_removeFirst 34 = .ok (.aload_n 0, 1) := by decide +kernel
theorem dX4_removeFirst_35 : decode cX4_removeFirst 35 = .ok (.getfield 15, 3) := by decide +kernel
theorem dX4_removeFirst_38 : decode cX4_removeFirst 38 = .ok (.iconst 0, 1) := by decide +kernel
theorem dX4_removeFirst_39 : decode cX4_removeFirst 39 = .ok (.aload_n 0, 1) := by decide +kernel
theorem dX4_removeFirst_40 : decode cX4_removeFirst 40 = .ok (.getfield 21, 3) := by decide +kernel
theorem dX4_removeFirst_43 : decode cX4_removeFirst 43 = .ok (.invokestatic 25, 3) := by decide +kernel
theorem dX4_removeFirst_46 : decode cX4_removeFirst 46 = .ok (.return_, 1) := by decide +kernel
theorem dX4_removeLast_0 : decode cX4_removeLast 0 = .ok (.aload_n 0, 1) := by decide +kernel
theorem dX4_removeLast_1 : decode cX4_removeLast 1 = .ok (.getfield 21, 3) := by decide +kernel
theorem dX4_removeLast_4 : decode cX4_removeLast 4 = .ok (.ifCond .le 13, 3) := by decide +kernel
theorem dX4_removeLast_7 : decode cX4_removeLast 7 = .ok (.aload_n 0, 1) := by decide +kernel
theorem dX4_removeLast_8 : decode cX4_removeLast 8 = .ok (.dup, 1) := by decide +kernel
theorem dX4_removeLast_9 : decode cX4_removeLast 9 = .ok (.getfield 21, 3) := by decide +kernel
theorem dX4_removeLast_12 : decode cX4_removeLast 12 = .ok (.iconst 1, 1) := by decide +kernel
theorem dX4_removeLast_13 : decode cX4_removeLast 13 = .ok (.isub, 1) := by decide +kernel
theorem dX4_removeLast_14 : decode cX4_removeLast 14 = .ok (.putfield 21, 3) := by decide +kernel
theorem dX4_removeLast_17 : decode cX4_removeLast 17 = .ok (.return_, 1) := by decide +kernel
theorem dJ9_max_7cf53_0 : decode cJ9_max_7cf53 0 = .ok (.iload_n 0, 1) := by decide +kernel
theorem dJ9_max_7cf53_1 : decode cJ9_max_7cf53 1 = .ok (.iload_n 1, 1) := by decide +kernel
theorem dJ9_max_7cf53_2 : decode cJ9_max_7cf53 2 = .ok (.if_icmp .lt 7, 3) := by decide +kernel
theorem dJ9_max_7cf53_5 : decode cJ9_max_7cf53 5 = .ok (.iload_n 0, 1) := by decide +kernel
theorem dJ9_max_7cf53_6 : decode cJ9_max_7cf53 6 = .ok (.goto 4, 3) := by decide +kernel
theorem dJ9_max_7cf53_9 : decode cJ9_max_7cf53 9 = .ok (.iload_n 1, 1) := by decide +kernel
theorem dJ9_max_7cf53_10 : decode cJ9_max_7cf53 10 = .ok (.ireturn, 1) := by decide +kernel
