theorem dX5_init_0 : decode cX5_init 0 = .ok (.aload_n 0, 1) := by decide +kernel
theorem dX5_init_1 : decode cX5_init 1 = .ok (.invokespecial 1, 3) := by decide +kernel
theorem dX5_init_4 : decode cX5_init 4 = .ok (.aload_n 0, 1) := by decide +kernel
theorem dX5_init_5 : decode cX5_init 5 = .ok (.bipush 16, 2) := by decide +kernel
theorem dX5_init_7 : decode cX5_init 7 = .ok (.anewarray 9, 3) := by decide +kernel
theorem dX5_init_10 : decode cX5_init 10 = .ok (.putfield 11, 3) := by decide +kernel
theorem dX5_init_13 : decode cX5_init 13 = .ok (.aload_n 0, 1) := by decide +kernel
theorem dX5_init_14 : decode cX5_init 14 = .ok (.bipush 16, 2) := by decide +kernel
theorem dX5_init_16 : decode cX5_init 16 = .ok (.anewarray 15, 3) := by decide +kernel
theorem dX5_init_19 : decode cX5_init 19 = .ok (.putfield 17, 3) := by decide +kernel
theorem dX5_init_22 : decode cX5_init 22 = .ok (.aload_n 0, 1) := by decide +kernel
theorem dX5_init_23 : decode cX5_init 23 = .ok (.bipush 8, 2) := by decide +kernel
theorem dX5_init_25 : decode cX5_init 25 = .ok (.anewarray 21, 3) := by decide +kernel
theorem dX5_init_28 : decode cX5_init 28 = .ok (.putfield 23, 3) := by decide +kernel
theorem dX5_init_31 : decode cX5_init 31 = .ok (.return_, 1) := by decide +kernel
set_option maxRecDepth 20000 in
theorem ggX5_gate_X2_init : GoodIn wsX5_gate wsX2_init := goodIn_r _ [8, 9, 10, 11, 12, 23, 24, 25, 26] (by decide +kernel) (by decide +kernel)
set_option maxRecDepth 20000 in
theorem gX5_gate_X2_init : GoodIn wsX5_gate (wsX2_init) := ggX5_gate_X2_init
theorem dX5_gate_0 : decode cX5_gate 0 = .ok (.aload_n 0, 1) := by decide +kernel
theorem dX5_gate_1 : decode cX5_gate 1 = .ok (.getfield 27, 3) := by decide +kernel
theorem dX5_gate_4 : decode cX5_gate 4 = .ok (.bipush 16, 2) := by decide +kernel
theorem dX5_gate_6 : decode cX5_gate 6 = .ok (.if_icmp .lt 6, 3) := by decide +kernel
theorem dX5_gate_9 : decode cX5_gate 9 = .ok (.bipush (-3), 2) := by decide +kernel
theorem dX5_gate_11 : decode cX5_gate 11 = .ok (.ireturn, 1) := by decide +kernel
theorem dX5_gate_12 : decode cX5_gate 12 = .ok (.aload_n 0, 1) := by decide +kernel
theorem dX5_gate_13 : decode cX5_gate 13 = .ok (.getfield 27, 3) := by decide +kernel
theorem dX5_gate_16 : decode cX5_gate 16 = .ok (.istore_n 1, 1) := by decide +kernel
theorem dX5_gate_17 : decode cX5_gate 17 = .ok (.aload_n 0, 1) := by decide +kernel
theorem dX5_gate_18 : decode cX5_gate 18 = .ok (.getfield 11, 3) := by decide +kernel
theorem dX5_gate_21 : decode cX5_gate 21 = .ok (.iload_n 1, 1) := by decide +kernel
theorem dX5_gate_22 : decode cX5_gate 22 = .ok (.new 9, 3) := by decide +kernel
theorem dX5_gate_25 : decode cX5_gate 25 = .ok (.dup, 1) := by decide +kernel
theorem dX5_gate_26 : decode cX5_gate 26 = .ok (.iload_n 1, 1) := by decide +kernel
theorem dX5_gate_27 : decode cX5_gate 27 = .ok (.invokespecial 31, 3) := by decide +kernel
theorem dX5_gate_30 : decode cX5_gate 30 = .ok (.aastore, 1) := by decide +kernel
theorem dX5_gate_31 : decode cX5_gate 31 = .ok (.aload_n 0, 1) := by decide +kernel
theorem dX5_gate_32 : decode cX5_gate 32 = .ok (.dup, 1) := by decide +kernel
theorem dX5_gate_33 : decode cX5_gate 33 = .ok (.getfield 27, 3) := by decide +kernel
theorem dX5_gate_36 : decode cX5_gate 36 = .ok (.iconst 1, 1) := by decide +kernel
theorem dX5_gate_37 : decode cX5_gate 37 = .ok (.iadd, 1) := by decide +kernel
theorem dX5_gate_38 : decode cX5_gate 38 = .ok (.putfield 27, 3) := by decide +kernel
theorem dX5_gate_41 : decode cX5_gate 41 = .ok (.iload_n 1, 1) := by decide +kernel
theorem dX5_gate_42 : decode cX5_gate 42 = .ok (.ireturn, 1) := by decide +kernel
set_option maxRecDepth 20000 in
theorem ggX5_ramp_X5_isWithin : GoodIn wsX5_ramp wsX5_isWithin := goodIn_r _ [9] (by decide +kernel) (by decide +kernel)
set_option maxRecDepth 20000 in
theorem gX5_ramp_X5_isWithin : GoodIn wsX5_ramp (va_wsS RX5 34 yX5_isWithin wsX5_isWithin) := goodIn_app (goodIn_of _ (by decide +kernel)) ggX5_ramp_X5_isWithin
set_option maxRecDepth 20000 in
theorem ggX5_ramp_X3_init : GoodIn wsX5_ramp wsX3_init := goodIn_r _ [12, 13, 14, 15, 16, 17, 28, 29, 30, 31] (by decide +kernel) (by decide +kernel)
set_option maxRecDepth 20000 in
theorem gX5_ramp_X3_init : GoodIn wsX5_ramp (wsX3_init) := ggX5_ramp_X3_init
theorem dX5_ramp_0 : decode cX5_ramp 0 = .ok (.iload_n 1, 1) := by decide +kernel
theorem dX5_ramp_1 : decode cX5_ramp 1 = .ok (.iconst 1, 1) := by decide +kernel
theorem dX5_ramp_2 : decode cX5_ramp 2 = .ok (.sipush 1000, 3) := by decide +kernel
theorem dX5_ramp_5 : decode cX5_ramp 5 = .ok (.invokestatic 34, 3) := by decide +kernel
theorem dX5_ramp_8 : decode cX5_ramp 8 = .ok (.ifCond .ne 6, 3) := by decide +kernel
theorem dX5_ramp_11 : decode cX5_ramp 11 = .ok (.bipush (-2), 2) := by decide +kernel
theorem dX5_ramp_13 : decode cX5_ramp 13 = .ok (.ireturn, 1) := by decide +kernel
theorem dX5_ramp_14 : decode cX5_ramp 14 = .ok (.aload_n 0, 1) := by decide +kernel
theorem dX5_ramp_15 : decode cX5_ramp 15 = .ok (.getfield 38, 3) := by decide +kernel
theorem dX5_ramp_18 : decode cX5_ramp 18 = .ok (.bipush 16, 2) := by decide +kernel
theorem dX5_ramp_20 : decode cX5_ramp 20 = .ok (.if_icmp .lt 6, 3) := by decide +kernel
theorem dX5_ramp_23 : decode cX5_ramp 23 = .ok (.bipush (-3), 2) := by decide +kernel
theorem dX5_ramp_25 : decode cX5_ramp 25 = .ok (.ireturn, 1) := by decide +kernel
theorem dX5_ramp_26 : decode cX5_ramp 26 = .ok (.aload_n 0, 1) := by decide +kernel
theorem dX5_ramp_27 : decode cX5_ramp 27 = .ok (.getfield 38, 3) := by decide +kernel
theorem dX5_ramp_30 : decode cX5_ramp 30 = .ok (.istore_n 2, 1) := by decide +kernel
theorem dX5_ramp_31 : decode cX5_ramp 31 = .ok (.aload_n 0, 1) := by decide +kernel
theorem dX5_ramp_32 : decode cX5_ramp 32 = .ok (.getfield 17, 3) := by decide +kernel
theorem dX5_ramp_35 : decode cX5_ramp 35 = .ok (.iload_n 2, 1) := by decide +kernel
theorem dX5_ramp_36 : decode cX5_ramp 36 = .ok (.new 15, 3) := by decide +kernel
theorem dX5_ramp_39 : decode cX5_ramp 39 = .ok (.dup, 1) := by decide +kernel
theorem dX5_ramp_40 : decode cX5_ramp 40 = .ok (.iload_n 2, 1) := by decide +kernel
theorem dX5_ramp_41 : decode cX5_ramp 41 = .ok (.iload_n 1, 1) := by decide +kernel
theorem dX5_ramp_42 : decode cX5_ramp 42 = .ok (.invokespecial 41, 3) := by decide +kernel
theorem dX5_ramp_45 : decode cX5_ramp 45 = .ok (.aastore, 1) := by decide +kernel
theorem dX5_ramp_46 : decode cX5_ramp 46 = .ok (.aload_n 0, 1) := by decide +kernel
theorem dX5_ramp_47 : decode cX5_ramp 47 = .ok (.dup, 1) := by decide +kernel
theorem dX5_ramp_48 : decode cX5_ramp 48 = .ok (.getfield 38, 3) := by decide +kernel
theorem dX5_ramp_51 : decode cX5_ramp 51 = .ok (.iconst 1, 1) := by decide +kernel
theorem dX5_ramp_52 : decode cX5_ramp 52 = .ok (.iadd, 1) := by decide +kernel
theorem dX5_ramp_53 : decode cX5_ramp 53 = .ok (.putfield 38, 3) := by decide +kernel
theorem dX5_ramp_56 : decode cX5_ramp 56 = .ok (.iload_n 2, 1) := by decide +kernel
theorem dX5_ramp_57 : decode cX5_ramp 57 = .ok (.ireturn, 1) := by decide +kernel
set_option maxRecDepth 20000 in
theorem ggX5_berth_X5_isWithin : GoodIn wsX5_berth wsX5_isWithin := goodIn_r _ [9] (by decide +kernel) (by decide +kernel)
set_option maxRecDepth 20000 in
theorem gX5_berth_X5_isWithin : GoodIn wsX5_berth (va_wsS RX5 34 yX5_isWithin wsX5_isWithin) := goodIn_app (goodIn_of _ (by decide +kernel)) ggX5_berth_X5_isWithin
set_option maxRecDepth 20000 in
theorem ggX5_berth_X0_init : GoodIn wsX5_berth wsX0_init := goodIn_r _ [12, 13, 14, 15, 16, 17, 18, 19, 20, 21, 22, 23, 24, 25, 26, 27, 28, 29, 30, 31, 32, 33, 34, 35, 36, 37, 38, 39, 40, 41, 56, 57, 52, 53, 54, 55, 58, 59, 60] (by decide +kernel) (by decide +kernel)
set_option maxRecDepth 20000 in
theorem gX5_berth_X0_init : GoodIn wsX5_berth (wsX0_init) := ggX5_berth_X0_init
theorem dX5_berth_0 : decode cX5_berth 0 = .ok (.iload_n 1, 1) := by decide +kernel
theorem dX5_berth_1 : decode cX5_berth 1 = .ok (.iconst 0, 1) := by decide +kernel
theorem dX5_berth_2 : decode cX5_berth 2 = .ok (.sipush 10000, 3) := by decide +kernel
theorem dX5_berth_5 : decode cX5_berth 5 = .ok (.invokestatic 34, 3) := by decide +kernel
theorem dX5_berth_8 : decode cX5_berth 8 = .ok (.ifCond .ne 6, 3) := by decide +kernel
theorem dX5_berth_11 : decode cX5_berth 11 = .ok (.bipush (-2), 2) := by decide +kernel
theorem dX5_berth_13 : decode cX5_berth 13 = .ok (.ireturn, 1) := by decide +kernel
theorem dX5_berth_14 : decode cX5_berth 14 = .ok (.aload_n 0, 1) := by decide +kernel
theorem dX5_berth_15 : decode cX5_berth 15 = .ok (.getfield 44, 3) := by decide +kernel
theorem dX5_berth_18 : decode cX5_berth 18 = .ok (.bipush 8, 2) := by decide +kernel
theorem dX5_berth_20 : decode cX5_berth 20 = .ok (.if_icmp .lt 6, 3) := by decide +kernel
theorem dX5_berth_23 : decode cX5_berth 23 = .ok (.bipush (-3), 2) := by decide +kernel
theorem dX5_berth_25 : decode cX5_berth 25 = .ok (.ireturn, 1) := by decide +kernel
theorem dX5_berth_26 : decode cX5_berth 26 = .ok (.aload_n 0, 1) := by decide +kernel
theorem dX5_berth_27 : decode cX5_berth 27 = .ok (.getfield 44, 3) := by decide +kernel
theorem dX5_berth_30 : decode cX5_berth 30 = .ok (.istore_n 2, 1) := by decide +kernel
theorem dX5_berth_31 : decode cX5_berth 31 = .ok (.aload_n 0, 1) := by decide +kernel
theorem dX5_berth_32 : decode cX5_berth 32 = .ok (.getfield 23, 3) := by decide +kernel
theorem dX5_berth_35 : decode cX5_berth 35 = .ok (.iload_n 2, 1) := by decide +kernel
theorem dX5_berth_36 : decode cX5_berth 36 = .ok (.new 21, 3) := by decide +kernel
theorem dX5_berth_39 : decode cX5_berth 39 = .ok (.dup, 1) := by decide +kernel
theorem dX5_berth_40 : decode cX5_berth 40 = .ok (.iload_n 1, 1) := by decide +kernel
theorem dX5_berth_41 : decode cX5_berth 41 = .ok (.invokespecial 47, 3) := by decide +kernel
theorem dX5_berth_44 : decode cX5_berth 44 = .ok (.aastore, 1) := by decide +kernel
theorem dX5_berth_45 : decode cX5_berth 45 = .ok (.aload_n 0, 1) := by decide +kernel
theorem dX5_berth_46 : decode cX5_berth 46 = .ok (.dup, 1) := by decide +kernel
theorem dX5_berth_47 : decode cX5_berth 47 = .ok (.getfield 44, 3) := by decide +kernel
theorem dX5_berth_50 : decode cX5_berth 50 = .ok (.iconst 1, 1) := by decide +kernel
theorem dX5_berth_51 : decode cX5_berth 51 = .ok (.iadd, 1) := by decide +kernel
theorem dX5_berth_52 : decode cX5_berth 52 = .ok (.putfield 44, 3) := by decide +kernel
theorem dX5_berth_55 : decode cX5_berth 55 = .ok (.iload_n 2, 1) := by decide +kernel
theorem dX5_berth_56 : decode cX5_berth 56 = .ok (.ireturn, 1) := by decide +kernel
set_option maxRecDepth 20000 in
theorem ggX5_hinge_X5_berthAt : GoodIn wsX5_hinge wsX5_berthAt := goodIn_r _ [6, 7, 8, 26, 27, 28, 29, 30, 31, 32, 33, 34, 35] (by decide +kernel) (by decide +kernel)
set_option maxRecDepth 20000 in
theorem gX5_hinge_X5_berthAt : GoodIn wsX5_hinge (wsV RX5 48 RX5 yX5_berthAt wsX5_berthAt) := goodIn_app (goodIn_of _ (by decide +kernel)) ggX5_hinge_X5_berthAt
set_option maxRecDepth 20000 in
theorem ggX5_hinge_X5_gateAt : GoodIn wsX5_hinge wsX5_gateAt := goodIn_r _ [12, 13, 14, 26, 27, 28, 29, 30, 31, 32, 33, 34, 35] (by decide +kernel) (by decide +kernel)
set_option maxRecDepth 20000 in
theorem gX5_hinge_X5_gateAt : GoodIn wsX5_hinge (wsV RX5 52 RX5 yX5_gateAt wsX5_gateAt) := goodIn_app (goodIn_of _ (by decide +kernel)) ggX5_hinge_X5_gateAt
set_option maxRecDepth 20000 in
theorem ggX5_hinge_X0_gateNumber : GoodIn wsX5_hinge wsX0_gateNumber := goodIn_r _ [19, 20, 21, 22, 23, 24, 25, 36, 37, 38, 39] (by decide +kernel) (by decide +kernel)
set_option maxRecDepth 20000 in
theorem gX5_hinge_X0_gateNumber : GoodIn wsX5_hinge (wsV RX5 56 RX0 yX0_gateNumber wsX0_gateNumber) := goodIn_app (goodIn_of _ (by decide +kernel)) ggX5_hinge_X0_gateNumber
theorem dX5_hinge_0 : decode cX5_hinge 0 = .ok (.aload_n 0, 1) := by decide +kernel
theorem dX5_hinge_1 : decode cX5_hinge 1 = .ok (.iload_n 1, 1) := by decide +kernel
theorem dX5_hinge_2 : decode cX5_hinge 2 = .ok (.invokevirtual 48, 3) := by decide +kernel
theorem dX5_hinge_5 : decode cX5_hinge 5 = .ok (.astore_n 3, 1) := by decide +kernel
theorem dX5_hinge_6 : decode cX5_hinge 6 = .ok (.aload_n 0, 1) := by decide +kernel
theorem dX5_hinge_7 : decode cX5_hinge 7 = .ok (.iload_n 2, 1) := by decide +kernel
theorem dX5_hinge_8 : decode cX5_hinge 8 = .ok (.invokevirtual 52, 3) := by decide +kernel
theorem dX5_hinge_11 : decode cX5_hinge 11 = .ok (.astore 4, 2) := by decide +kernel
theorem dX5_hinge_13 : decode cX5_hinge 13 = .ok (.aload_n 3, 1) := by decide +kernel
theorem dX5_hinge_14 : decode cX5_hinge 14 = .ok (.ifnull 13, 3) := by decide +kernel
theorem dX5_hinge_17 : decode cX5_hinge 17 = .ok (.aload 4, 2) := by decide +kernel
theorem dX5_hinge_19 : decode cX5_hinge 19 = .ok (.ifnonnull 11, 3) := by decide +kernel
theorem dX5_hinge_22 : decode cX5_hinge 22 = .ok (.iload_n 2, 1) := by decide +kernel
theorem dX5_hinge_23 : decode cX5_hinge 23 = .ok (.iconst (-1), 1) := by decide +kernel
theorem dX5_hinge_24 : decode cX5_hinge 24 = .ok (.if_icmp .eq 6, 3) := by decide +kernel
theorem dX5_hinge_27 : decode cX5_hinge 27 = .ok (.bipush (-2), 2) := by decide +kernel
theorem dX5_hinge_29 : decode cX5_hinge 29 = .ok (.ireturn, 1) := by decide +kernel
theorem dX5_hinge_30 : decode cX5_hinge 30 = .ok (.aload_n 3, 1) := by decide +kernel
theorem dX5_hinge_31 : decode cX5_hinge 31 = .ok (.invokevirtual 56, 3) := by decide +kernel
theorem dX5_hinge_34 : decode cX5_hinge 34 = .ok (.istore 5, 2) := by decide +kernel
theorem dX5_hinge_36 : decode cX5_hinge 36 = .ok (.aload_n 3, 1) := by decide +kernel
theorem dX5_hinge_37 : decode cX5_hinge 37 = .ok (.aload 4, 2) := by decide +kernel
theorem dX5_hinge_39 : decode cX5_hinge 39 = .ok (.putfield 60, 3) := by decide +kernel
theorem dX5_hinge_42 : decode cX5_hinge 42 = .ok (.iload 5, 2) := by decide +kernel
theorem dX5_hinge_44 : decode cX5_hinge 44 = .ok (.ireturn, 1) := by decide +kernel
set_option maxRecDepth 20000 in
theorem ggX5_lay_X5_berthAt : GoodIn wsX5_lay wsX5_berthAt := goodIn_r _ [6, 7, 8, 26, 27, 28, 29, 30, 31, 32, 33, 34, 35] (by decide +kernel) (by decide +kernel)
set_option maxRecDepth 20000 in
theorem gX5_lay_X5_berthAt : GoodIn wsX5_lay (wsV RX5 48 RX5 yX5_berthAt wsX5_berthAt) := goodIn_app (goodIn_of _ (by decide +kernel)) ggX5_lay_X5_berthAt
set_option maxRecDepth 20000 in
theorem ggX5_lay_X5_rampAt : GoodIn wsX5_lay wsX5_rampAt := goodIn_r _ [12, 13, 14, 26, 27, 28, 29, 30, 31, 32, 33, 34, 35] (by decide +kernel) (by decide +kernel)
set_option maxRecDepth 20000 in
theorem gX5_lay_X5_rampAt : GoodIn wsX5_lay (wsV RX5 64 RX5 yX5_rampAt wsX5_rampAt) := goodIn_app (goodIn_of _ (by decide +kernel)) ggX5_lay_X5_rampAt
set_option maxRecDepth 20000 in
theorem ggX5_lay_X0_rampNumber : GoodIn wsX5_lay wsX0_rampNumber := goodIn_r _ [19, 20, 21, 22, 23, 24, 25, 36, 37, 38, 39] (by decide +kernel) (by decide +kernel)
set_option maxRecDepth 20000 in
theorem gX5_lay_X0_rampNumber : GoodIn wsX5_lay (wsV RX5 68 RX0 yX0_rampNumber wsX0_rampNumber) := goodIn_app (goodIn_of _ (by decide +kernel)) ggX5_lay_X0_rampNumber
theorem dX5_lay_0 : decode cX5_lay 0 = .ok (.aload_n 0, 1) := by decide +kernel
theorem dX5_lay_1 : decode cX5_lay 1 = .ok (.iload_n 1, 1) := by decide +kernel
theorem dX5_lay_2 : decode cX5_lay 2 = .ok (.invokevirtual 48, 3) := by decide +kernel
theorem dX5_lay_5 : decode cX5_lay 5 = .ok (.astore_n 3, 1) := by decide +kernel
theorem dX5_lay_6 : decode cX5_lay 6 = .ok (.aload_n 0, 1) := by decide +kernel
theorem dX5_lay_7 : decode cX5_lay 7 = .ok (.iload_n 2, 1) := by decide +kernel
theorem dX5_lay_8 : decode cX5_lay 8 = .ok (.invokevirtual 64, 3) := by decide +kernel
theorem dX5_lay_11 : decode cX5_lay 11 = .ok (.astore 4, 2) := by decide +kernel
theorem dX5_lay_13 : decode cX5_lay 13 = .ok (.aload_n 3, 1) := by decide +kernel
theorem dX5_lay_14 : decode cX5_lay 14 = .ok (.ifnull 13, 3) := by decide +kernel
theorem dX5_lay_17 : decode cX5_lay 17 = .ok (.aload 4, 2) := by decide +kernel
theorem dX5_lay_19 : decode cX5_lay 19 = .ok (.ifnonnull 11, 3) := by decide +kernel
theorem dX5_lay_22 : decode cX5_lay 22 = .ok (.iload_n 2, 1) := by decide +kernel
theorem dX5_lay_23 : decode cX5_lay 23 = .ok (.iconst (-1), 1) := by decide +kernel
theorem dX5_lay_24 : decode cX5_lay 24 = .ok (.if_icmp .eq 6, 3) := by decide +kernel
theorem dX5_lay_27 : decode cX5_lay 27 = .ok (.bipush (-2), 2) := by decide +kernel
theorem dX5_lay_29 : decode cX5_lay 29 = .ok (.ireturn, 1) := by decide +kernel
theorem dX5_lay_30 : decode cX5_lay 30 = .ok (.aload_n 3, 1) := by decide +kernel
theorem dX5_lay_31 : decode cX5_lay 31 = .ok (.invokevirtual 68, 3) := by decide +kernel
theorem dX5_lay_34 : decode cX5_lay 34 = .ok (.istore 5, 2) := by decide +kernel
theorem dX5_lay_36 : decode cX5_lay 36 = .ok (.aload_n 3, 1) := by decide +kernel
theorem dX5_lay_37 : decode cX5_lay 37 = .ok (.aload 4, 2) := by decide +kernel
theorem dX5_lay_39 : decode cX5_lay 39 = .ok (.putfield 71, 3) := by decide +kernel
theorem dX5_lay_42 : decode cX5_lay 42 = .ok (.iload 5, 2) := by decide +kernel
theorem dX5_lay_44 : decode cX5_lay 44 = .ok (.ireturn, 1) := by decide +kernel
set_option maxRecDepth 20000 in
theorem ggX5_shut_X5_gateAt : GoodIn wsX5_shut wsX5_gateAt := goodIn_r _ [6, 7, 8, 19, 20, 21, 22, 23, 24, 25, 26, 27, 28] (by decide +kernel) (by decide +kernel)
set_option maxRecDepth 20000 in
theorem gX5_shut_X5_gateAt : GoodIn wsX5_shut (wsV RX5 52 RX5 yX5_gateAt wsX5_gateAt) := goodIn_app (goodIn_of _ (by decide +kernel)) ggX5_shut_X5_gateAt
set_option maxRecDepth 20000 in
theorem ggX5_shut_X2_shutAsNumber : GoodIn wsX5_shut wsX2_shutAsNumber := goodIn_r _ [13, 14, 15, 16, 17, 18] (by decide +kernel) (by decide +kernel)
set_option maxRecDepth 20000 in
theorem gX5_shut_X2_shutAsNumber : GoodIn wsX5_shut (wsV RX5 75 RX2 yX2_shutAsNumber wsX2_shutAsNumber) := goodIn_app (goodIn_of _ (by decide +kernel)) ggX5_shut_X2_shutAsNumber
theorem dX5_shut_0 : decode cX5_shut 0 = .ok (.aload_n 0, 1) := by decide +kernel
theorem dX5_shut_1 : decode cX5_shut 1 = .ok (.iload_n 1, 1) := by decide +kernel
theorem dX5_shut_2 : decode cX5_shut 2 = .ok (.invokevirtual 52, 3) := by decide +kernel
theorem dX5_shut_5 : decode cX5_shut 5 = .ok (.astore_n 3, 1) := by decide +kernel
theorem dX5_shut_6 : decode cX5_shut 6 = .ok (.aload_n 3, 1) := by decide +kernel
theorem dX5_shut_7 : decode cX5_shut 7 = .ok (.ifnonnull 6, 3) := by decide +kernel
theorem dX5_shut_10 : decode cX5_shut 10 = .ok (.bipush (-2), 2) := by decide +kernel
theorem dX5_shut_12 : decode cX5_shut 12 = .ok (.ireturn, 1) := by decide +kernel
theorem dX5_shut_13 : decode cX5_shut 13 = .ok (.aload_n 3, 1) := by decide +kernel
theorem dX5_shut_14 : decode cX5_shut 14 = .ok (.invokevirtual 75, 3) := by decide +kernel
theorem dX5_shut_17 : decode cX5_shut 17 = .ok (.istore 4, 2) := by decide +kernel
theorem dX5_shut_19 : decode cX5_shut 19 = .ok (.aload_n 3, 1) := by decide +kernel
theorem dX5_shut_20 : decode cX5_shut 20 = .ok (.iload_n 2, 1) := by decide +kernel
theorem dX5_shut_21 : decode cX5_shut 21 = .ok (.putfield 78, 3) := by decide +kernel
theorem dX5_shut_24 : decode cX5_shut 24 = .ok (.iload 4, 2) := by decide +kernel
theorem dX5_shut_26 : decode cX5_shut 26 = .ok (.ireturn, 1) := by decide +kernel
set_option maxRecDepth 20000 in
theorem ggX5_arrive_X5_berthAt : GoodIn wsX5_arrive wsX5_berthAt := goodIn_r _ [8, 9, 10, 29, 30, 31, 32, 33, 34, 35, 36, 37, 38] (by decide +kernel) (by decide +kernel)
set_option maxRecDepth 20000 in
theorem gX5_arrive_X5_berthAt : GoodIn wsX5_arrive (wsV RX5 48 RX5 yX5_berthAt wsX5_berthAt) := goodIn_app (goodIn_of _ (by decide +kernel)) ggX5_arrive_X5_berthAt
set_option maxRecDepth 20000 in
theorem ggX5_arrive_X5_isWithin : GoodIn wsX5_arrive wsX5_isWithin := goodIn_r _ [13] (by decide +kernel) (by decide +kernel)
set_option maxRecDepth 20000 in
theorem gX5_arrive_X5_isWithin : GoodIn wsX5_arrive (va_wsS RX5 34 yX5_isWithin wsX5_isWithin) := goodIn_app (goodIn_of _ (by decide +kernel)) ggX5_arrive_X5_isWithin
set_option maxRecDepth 20000 in
theorem ggX5_arrive_X4_isFull : GoodIn wsX5_arrive wsX4_isFull := goodIn_r _ [18, 19, 20, 39, 40] (by decide +kernel) (by decide +kernel)
set_option maxRecDepth 20000 in
theorem gX5_arrive_X4_isFull : GoodIn wsX5_arrive (wsV RX5 86 RX4 yX4_isFull wsX4_isFull) := goodIn_app (goodIn_of _ (by decide +kernel)) ggX5_arrive_X4_isFull
set_option maxRecDepth 20000 in
theorem ggX5_arrive_X4_addLast : GoodIn wsX5_arrive wsX4_addLast := goodIn_r _ [24, 19, 20, 39, 40] (by decide +kernel) (by decide +kernel)
set_option maxRecDepth 20000 in
theorem gX5_arrive_X4_addLast : GoodIn wsX5_arrive (wsV RX5 92 RX4 yX4_addLast wsX4_addLast) := goodIn_app (goodIn_of _ (by decide +kernel)) ggX5_arrive_X4_addLast
theorem dX5_arrive_0 : decode cX5_arrive 0 = .ok (.aload_n 0, 1) := by decide +kernel
theorem dX5_arrive_1 : decode cX5_arrive 1 = .ok (.iload_n 1, 1) := by decide +kernel
theorem dX5_arrive_2 : decode cX5_arrive 2 = .ok (.invokevirtual 48, 3) := by decide +kernel
theorem dX5_arrive_5 : decode cX5_arrive 5 = .ok (.astore_n 3, 1) := by decide +kernel
theorem dX5_arrive_6 : decode cX5_arrive 6 = .ok (.aload_n 3, 1) := by decide +kernel
theorem dX5_arrive_7 : decode cX5_arrive 7 = .ok (.ifnull 14, 3) := by decide +kernel
theorem dX5_arrive_10 : decode cX5_arrive 10 = .ok (.iload_n 2, 1) := by decide +kernel
theorem dX5_arrive_11 : decode cX5_arrive 11 = .ok (.iconst 0, 1) := by decide +kernel
theorem dX5_arrive_12 : decode cX5_arrive 12 = .ok (.sipush 2000, 3) := by decide +kernel
theorem dX5_arrive_15 : decode cX5_arrive 15 = .ok (.invokestatic 34, 3) := by decide +kernel
theorem dX5_arrive_18 : decode cX5_arrive 18 = .ok (.ifCond .ne 6, 3) := by decide +kernel
theorem dX5_arrive_21 : decode cX5_arrive 21 = .ok (.bipush (-2), 2) := by decide +kernel
theorem dX5_arrive_23 : decode cX5_arrive 23 = .ok (.ireturn, 1) := by decide +kernel
theorem dX5_arrive_24 : decode cX5_arrive 24 = .ok (.aload_n 3, 1) := by decide +kernel
theorem dX5_arrive_25 : decode cX5_arrive 25 = .ok (.getfield 82, 3) := by decide +kernel
theorem dX5_arrive_28 : decode cX5_arrive 28 = .ok (.invokevirtual 86, 3) := by decide +kernel
theorem dX5_arrive_31 : decode cX5_arrive 31 = .ok (.ifCond .eq 6, 3) := by decide +kernel
theorem dX5_arrive_34 : decode cX5_arrive 34 = .ok (.bipush (-3), 2) := by decide +kernel
theorem dX5_arrive_36 : decode cX5_arrive 36 = .ok (.ireturn, 1) := by decide +kernel
theorem dX5_arrive_37 : decode cX5_arrive 37 = .ok (.aload_n 3, 1) := by decide +kernel
theorem dX5_arrive_38 : decode cX5_arrive 38 = .ok (.getfield 82, 3) := by decide +kernel
theorem dX5_arrive_41 : decode cX5_arrive 41 = .ok (.iload_n 2, 1) := by decide +kernel
theorem dX5_arrive_42 : decode cX5_arrive 42 = .ok (.invokevirtual 92, 3) := by decide +kernel
theorem dX5_arrive_45 : decode cX5_arrive 45 = .ok (.aload_n 0, 1) := by decide +kernel
theorem dX5_arrive_46 : decode cX5_arrive 46 = .ok (.dup, 1) := by decide +kernel
theorem dX5_arrive_47 : decode cX5_arrive 47 = .ok (.getfield 95, 3) := by decide +kernel
theorem dX5_arrive_50 : decode cX5_arrive 50 = .ok (.iconst 1, 1) := by decide +kernel
theorem dX5_arrive_51 : decode cX5_arrive 51 = .ok (.iadd, 1) := by decide +kernel
theorem dX5_arrive_52 : decode cX5_arrive 52 = .ok (.putfield 95, 3) := by decide +kernel
theorem dX5_arrive_55 : decode cX5_arrive 55 = .ok (.aload_n 3, 1) := by decide +kernel
theorem dX5_arrive_56 : decode cX5_arrive 56 = .ok (.getfield 82, 3) := by decide +kernel
theorem dX5_arrive_59 : decode cX5_arrive 59 = .ok (.getfield 98, 3) := by decide +kernel
theorem dX5_arrive_62 : decode cX5_arrive 62 = .ok (.ireturn, 1) := by decide +kernel
set_option maxRecDepth 20000 in
theorem ggX5_board_X5_berthAt : GoodIn wsX5_board wsX5_berthAt := goodIn_r _ [8, 9, 10, 76, 77, 78, 79, 80, 81, 82, 83, 84, 85] (by decide +kernel) (by decide +kernel)
set_option maxRecDepth 20000 in
theorem gX5_board_X5_berthAt : GoodIn wsX5_board (wsV RX5 48 RX5 yX5_berthAt wsX5_berthAt) := goodIn_app (goodIn_of _ (by decide +kernel)) ggX5_board_X5_berthAt
set_option maxRecDepth 20000 in
theorem ggX5_board_X5_isWithin : GoodIn wsX5_board wsX5_isWithin := goodIn_r _ [13] (by decide +kernel) (by decide +kernel)
set_option maxRecDepth 20000 in
theorem gX5_board_X5_isWithin : GoodIn wsX5_board (va_wsS RX5 34 yX5_isWithin wsX5_isWithin) := goodIn_app (goodIn_of _ (by decide +kernel)) ggX5_board_X5_isWithin
set_option maxRecDepth 20000 in
theorem ggX5_board_X5_boardThrough : GoodIn wsX5_board wsX5_boardThrough := goodIn_r _ [17, 18, 19, 20, 21, 22, 23, 24, 25, 26, 27, 28, 29, 30, 31, 32, 33, 34, 35, 36, 37, 38, 39, 40, 41, 42, 43, 44, 7, 45, 46, 47, 48, 49, 50, 51, 52, 53, 54, 55, 56, 57, 58, 59, 60, 61, 62, 63, 64, 65, 66, 67, 68, 69, 70, 71, 86, 87, 88, 89, 90, 91, 76, 77, 78, 79, 80, 81, 82, 83, 84, 85, 72, 73, 74, 75, 92, 93, 94] (by decide +kernel) (by decide +kernel)
set_option maxRecDepth 20000 in
theorem gX5_board_X5_boardThrough : GoodIn wsX5_board (wsV RX5 104 RX5 yX5_boardThrough wsX5_boardThrough) := goodIn_app (goodIn_of _ (by decide +kernel)) ggX5_board_X5_boardThrough
theorem dX5_board_0 : decode cX5_board 0 = .ok (.aload_n 0, 1) := by decide +kernel
theorem dX5_board_1 : decode cX5_board 1 = .ok (.iload_n 1, 1) := by decide +kernel
theorem dX5_board_2 : decode cX5_board 2 = .ok (.invokevirtual 48, 3) := by decide +kernel
theorem dX5_board_5 : decode cX5_board 5 = .ok (.astore_n 3, 1) := by decide +kernel
theorem dX5_board_6 : decode cX5_board 6 = .ok (.aload_n 3, 1) := by decide +kernel
theorem dX5_board_7 : decode cX5_board 7 = .ok (.ifnull 13, 3) := by decide +kernel
theorem dX5_board_10 : decode cX5_board 10 = .ok (.iload_n 2, 1) := by decide +kernel
theorem dX5_board_11 : decode cX5_board 11 = .ok (.iconst 1, 1) := by decide +kernel
theorem dX5_board_12 : decode cX5_board 12 = .ok (.bipush 30, 2) := by decide +kernel
theorem dX5_board_14 : decode cX5_board 14 = .ok (.invokestatic 34, 3) := by decide +kernel
theorem dX5_board_17 : decode cX5_board 17 = .ok (.ifCond .ne 6, 3) := by decide +kernel
theorem dX5_board_20 : decode cX5_board 20 = .ok (.bipush (-2), 2) := by decide +kernel
theorem dX5_board_22 : decode cX5_board 22 = .ok (.ireturn, 1) := by decide +kernel
theorem dX5_board_23 : decode cX5_board 23 = .ok (.aload_n 3, 1) := by decide +kernel
theorem dX5_board_24 : decode cX5_board 24 = .ok (.getfield 60, 3) := by decide +kernel
theorem dX5_board_27 : decode cX5_board 27 = .ok (.astore 4, 2) := by decide +kernel
theorem dX5_board_29 : decode cX5_board 29 = .ok (.aload 4, 2) := by decide +kernel
theorem dX5_board_31 : decode cX5_board 31 = .ok (.ifnonnull 6, 3) := by decide +kernel
theorem dX5_board_34 : decode cX5_board 34 = .ok (.bipush (-4), 2) := by decide +kernel
theorem dX5_board_36 : decode cX5_board 36 = .ok (.ireturn, 1) := by decide +kernel
theorem dX5_board_37 : decode cX5_board 37 = .ok (.aload 4, 2) := by decide +kernel
theorem dX5_board_39 : decode cX5_board 39 = .ok (.dup, 1) := by decide +kernel
theorem dX5_board_40 : decode cX5_board 40 = .ok (.getfield 101, 3) := by decide +kernel
theorem dX5_board_43 : decode cX5_board 43 = .ok (.iconst 1, 1) := by decide +kernel
theorem dX5_board_44 : decode cX5_board 44 = .ok (.iadd, 1) := by decide +kernel
theorem dX5_board_45 : decode cX5_board 45 = .ok (.putfield 101, 3) := by decide +kernel
theorem dX5_board_48 : decode cX5_board 48 = .ok (.aload 4, 2) := by decide +kernel
theorem dX5_board_50 : decode cX5_board 50 = .ok (.getfield 78, 3) := by decide +kernel
theorem dX5_board_53 : decode cX5_board 53 = .ok (.ifCond .eq 6, 3) := by decide +kernel
theorem dX5_board_56 : decode cX5_board 56 = .ok (.bipush (-5), 2) := by decide +kernel
theorem dX5_board_58 : decode cX5_board 58 = .ok (.ireturn, 1) := by decide +kernel
theorem dX5_board_59 : decode cX5_board 59 = .ok (.aload_n 0, 1) := by decide +kernel
theorem dX5_board_60 : decode cX5_board 60 = .ok (.aload 4, 2) := by decide +kernel
theorem dX5_board_62 : decode cX5_board 62 = .ok (.aload_n 3, 1) := by decide +kernel
theorem dX5_board_63 : decode cX5_board 63 = .ok (.iload_n 2, 1) := by decide +kernel
theorem dX5_board_64 : decode cX5_board 64 = .ok (.invokevirtual 104, 3) := by decide +kernel
theorem dX5_board_67 : decode cX5_board 67 = .ok (.ireturn, 1) := by decide +kernel
set_option maxRecDepth 20000 in
theorem ggX5_boardThrough_X4_weightAt : GoodIn wsX5_boardThrough wsX4_weightAt := goodIn_r _ [14, 15, 16, 56, 57] (by decide +kernel) (by decide +kernel)
set_option maxRecDepth 20000 in
theorem gX5_boardThrough_X4_weightAt : GoodIn wsX5_boardThrough (wsV RX5 109 RX4 yX4_weightAt wsX4_weightAt) := goodIn_app (goodIn_of _ (by decide +kernel)) ggX5_boardThrough_X4_weightAt
set_option maxRecDepth 20000 in
theorem ggX5_boardThrough_X4_removeFirst : GoodIn wsX5_boardThrough wsX4_removeFirst := goodIn_r _ [20, 15, 16, 21, 22, 23, 24, 56, 57] (by decide +kernel) (by decide +kernel)
set_option maxRecDepth 20000 in
theorem gX5_boardThrough_X4_removeFirst : GoodIn wsX5_boardThrough (wsV RX5 113 RX4 yX4_removeFirst wsX4_removeFirst) := goodIn_app (goodIn_of _ (by decide +kernel)) ggX5_boardThrough_X4_removeFirst
set_option maxRecDepth 20000 in
theorem ggX5_boardThrough_X5_alarm : GoodIn wsX5_boardThrough wsX5_alarm := goodIn_r _ [29, 30, 62, 63, 64, 65, 66, 67, 68, 69, 70, 71] (by decide +kernel) (by decide +kernel)
set_option maxRecDepth 20000 in
theorem gX5_boardThrough_X5_alarm : GoodIn wsX5_boardThrough (wsV RX5 119 RX5 yX5_alarm wsX5_alarm) := goodIn_app (goodIn_of _ (by decide +kernel)) ggX5_boardThrough_X5_alarm
set_option maxRecDepth 20000 in
theorem ggX5_boardThrough_X4_addLast : GoodIn wsX5_boardThrough wsX4_addLast := goodIn_r _ [34, 15, 16, 56, 57] (by decide +kernel) (by decide +kernel)
set_option maxRecDepth 20000 in
theorem gX5_boardThrough_X4_addLast : GoodIn wsX5_boardThrough (wsV RX5 92 RX4 yX4_addLast wsX4_addLast) := goodIn_app (goodIn_of _ (by decide +kernel)) ggX5_boardThrough_X4_addLast
set_option maxRecDepth 20000 in
theorem ggX5_boardThrough_X1_hasRoomFor : GoodIn wsX5_boardThrough wsX1_hasRoomFor := goodIn_r _ [39, 40, 41, 42, 43, 44, 45, 13, 46, 15, 16, 76, 77, 78, 56, 57] (by decide +kernel) (by decide +kernel)
set_option maxRecDepth 20000 in
theorem gX5_boardThrough_X1_hasRoomFor : GoodIn wsX5_boardThrough (wsV RX5 129 RX1 yX1_hasRoomFor wsX1_hasRoomFor) := goodIn_app (goodIn_of _ (by decide +kernel)) ggX5_boardThrough_X1_hasRoomFor
set_option maxRecDepth 20000 in
theorem ggX5_boardThrough_X1_takeAboard : GoodIn wsX5_boardThrough wsX1_takeAboard := goodIn_r _ [50, 40, 41, 51, 32, 33, 13, 34, 15, 16, 76, 77, 78, 56, 57] (by decide +kernel) (by decide +kernel)
set_option maxRecDepth 20000 in
theorem gX5_boardThrough_X1_takeAboard : GoodIn wsX5_boardThrough (wsV RX5 135 RX1 yX1_takeAboard wsX1_takeAboard) := goodIn_app (goodIn_of _ (by decide +kernel)) ggX5_boardThrough_X1_takeAboard
theorem dX5_boardThrough_0 : decode cX5_boardThrough 0 = .ok (.aload_n 2, 1) := by decide +kernel
theorem dX5_boardThrough_1 : decode cX5_boardThrough 1 = .ok (.getfield 82, 3) := by decide +kernel
theorem dX5_boardThrough_4 : decode cX5_boardThrough 4 = .ok (.astore 4, 2) := by decide +kernel
theorem dX5_boardThrough_6 : decode cX5_boardThrough 6 = .ok (.aload_n 2, 1) := by decide +kernel
theorem dX5_boardThrough_7 : decode cX5_boardThrough 7 = .ok (.getfield 71, 3) := by decide +kernel
theorem dX5_boardThrough_10 : decode cX5_boardThrough 10 = .ok (.astore 5, 2) := by decide +kernel
theorem dX5_boardThrough_12 : decode cX5_boardThrough 12 = .ok (.aload 4, 2) := by decide +kernel
theorem dX5_boardThrough_14 : decode cX5_boardThrough 14 = .ok (.getfield 98, 3) := by decide +kernel
theorem dX5_boardThrough_17 : decode cX5_boardThrough 17 = .ok (.istore 6, 2) := by decide +kernel
theorem dX5_boardThrough_19 : decode cX5_boardThrough 19 = .ok (.iconst 0, 1) := by decide +kernel
theorem dX5_boardThrough_20 : decode cX5_boardThrough 20 = .ok (.istore 7, 2) := by decide +kernel
theorem dX5_boardThrough_22 : decode cX5_boardThrough 22 = .ok (.iconst 0, 1) := by decide +kernel
theorem dX5_boardThrough_23 : decode cX5_boardThrough 23 = .ok (.istore 8, 2) := by decide +kernel
theorem dX5_boardThrough_25 : decode cX5_boardThrough 25 = .ok (.iload 8, 2) := by decide +kernel
theorem dX5_boardThrough_27 : decode cX5_boardThrough 27 = .ok (.iload 6, 2) := by decide +kernel
theorem dX5_boardThrough_29 : decode cX5_boardThrough 29 = .ok (.if_icmp .ge 151, 3) := by decide +kernel
theorem dX5_boardThrough_32 : decode cX5_boardThrough 32 = .ok (.aload 5, 2) := by decide +kernel
theorem dX5_boardThrough_34 : decode cX5_boardThrough 34 = .ok (.ifnonnull 6, 3) := by decide +kernel
theorem dX5_boardThrough_37 : decode cX5_boardThrough 37 = .ok (.bipush (-4), 2) := by decide +kernel
theorem dX5_boardThrough_39 : decode cX5_boardThrough 39 = .ok (.ireturn, 1) := by decide +kernel
theorem dX5_boardThrough_40 : decode cX5_boardThrough 40 = .ok (.aload 5, 2) := by decide +kernel
theorem dX5_boardThrough_42 : decode cX5_boardThrough 42 = .ok (.dup, 1) := by decide +kernel
theorem dX5_boardThrough_43 : decode cX5_boardThrough 43 = .ok (.getfield 108, 3) := by decide +kernel
theorem dX5_boardThrough_46 : decode cX5_boardThrough 46 = .ok (.iconst 1, 1) := by decide +kernel
theorem dX5_boardThrough_47 : decode cX5_boardThrough 47 = .ok (.iadd, 1) := by decide +kernel
theorem dX5_boardThrough_48 : decode cX5_boardThrough 48 = .ok (.putfield 108, 3) := by decide +kernel
theorem dX5_boardThrough_51 : decode cX5_boardThrough 51 = .ok (.aload 4, 2) := by decide +kernel
theorem dX5_boardThrough_53 : decode cX5_boardThrough 53 = .ok (.iconst 0, 1) := by decide +kernel
theorem dX5_boardThrough_54 : decode cX5_boardThrough 54 = .ok (.invokevirtual 109, 3) := by decide +kernel
theorem dX5_boardThrough_57 : decode cX5_boardThrough 57 = .ok (.istore 9, 2) := by decide +kernel
theorem dX5_boardThrough_59 : decode cX5_boardThrough 59 = .ok (.iload 9, 2) := by decide +kernel
theorem dX5_boardThrough_61 : decode cX5_boardThrough 61 = .ok (.ifCond .ne 25, 3) := by decide +kernel
theorem dX5_boardThrough_64 : decode cX5_boardThrough 64 = .ok (.aload 4, 2) := by decide +kernel
theorem dX5_boardThrough_66 : decode cX5_boardThrough 66 = .ok (.invokevirtual 113, 3) := by decide +kernel
theorem dX5_boardThrough_69 : decode cX5_boardThrough 69 = .ok (.aload_n 0, 1) := by decide +kernel
theorem dX5_boardThrough_70 : decode cX5_boardThrough 70 = .ok (.dup, 1) := by decide +kernel
theorem dX5_boardThrough_71 : decode cX5_boardThrough 71 = .ok (.getfield 116, 3) := by decide +kernel
theorem dX5_boardThrough_74 : decode cX5_boardThrough 74 = .ok (.iconst 1, 1) := by decide +kernel
theorem dX5_boardThrough_75 : decode cX5_boardThrough 75 = .ok (.iadd, 1) := by decide +kernel
theorem dX5_boardThrough_76 : decode cX5_boardThrough 76 = .ok (.putfield 116, 3) := by decide +kernel
theorem dX5_boardThrough_79 : decode cX5_boardThrough 79 = .ok (.aload_n 0, 1) := by decide +kernel
theorem dX5_boardThrough_80 : decode cX5_boardThrough 80 = .ok (.bipush (-6), 2) := by decide +kernel
theorem dX5_boardThrough_82 : decode cX5_boardThrough 82 = .ok (.invokevirtual 119, 3) := by decide +kernel
theorem dX5_boardThrough_85 : decode cX5_boardThrough 85 = .ok (.ireturn, 1) := by decide +kernel
theorem dX5_boardThrough_86 : decode cX5_boardThrough 86 = .ok (.iload 9, 2) := by decide +kernel
theorem dX5_boardThrough_88 : decode cX5_boardThrough 88 = .ok (.aload 5, 2) := by decide +kernel
theorem dX5_boardThrough_90 : decode cX5_boardThrough 90 = .ok (.getfield 122, 3) := by decide +kernel
theorem dX5_boardThrough_93 : decode cX5_boardThrough 93 = .ok (.if_icmp .le 18, 3) := by decide +kernel
theorem dX5_boardThrough_96 : decode cX5_boardThrough 96 = .ok (.aload 4, 2) := by decide +kernel
theorem dX5_boardThrough_98 : decode cX5_boardThrough 98 = .ok (.invokevirtual 113, 3) := by decide +kernel
theorem dX5_boardThrough_101 : decode cX5_boardThrough 101 = .ok (.aload 4, 2) := by decide +kernel
theorem dX5_boardThrough_103 : decode cX5_boardThrough 103 = .ok (.iload 9, 2) := by decide +kernel
theorem dX5_boardThrough_105 : decode cX5_boardThrough 105 = .ok (.invokevirtual 92, 3) := by decide +kernel
theorem dX5_boardThrough_108 : decode cX5_boardThrough 108 = .ok (.goto 66, 3) := by decide +kernel
theorem dX5_boardThrough_111 : decode cX5_boardThrough 111 = .ok (.aload_n 2, 1) := by decide +kernel
theorem dX5_boardThrough_112 : decode cX5_boardThrough 112 = .ok (.getfield 125, 3) := by decide +kernel
theorem dX5_boardThrough_115 : decode cX5_boardThrough 115 = .ok (.iload 9, 2) := by decide +kernel
theorem dX5_boardThrough_117 : decode cX5_boardThrough 117 = .ok (.invokevirtual 129, 3) := by decide +kernel
theorem dX5_boardThrough_120 : decode cX5_boardThrough 120 = .ok (.ifCond .ne 6, 3) := by decide +kernel
theorem dX5_boardThrough_123 : decode cX5_boardThrough 123 = .ok (.iload 7, 2) := by decide +kernel
theorem dX5_boardThrough_125 : decode cX5_boardThrough 125 = .ok (.ireturn, 1) := by decide +kernel
theorem dX5_boardThrough_126 : decode cX5_boardThrough 126 = .ok (.aload 4, 2) := by decide +kernel
theorem dX5_boardThrough_128 : decode cX5_boardThrough 128 = .ok (.invokevirtual 113, 3) := by decide +kernel
theorem dX5_boardThrough_131 : decode cX5_boardThrough 131 = .ok (.aload_n 2, 1) := by decide +kernel
theorem dX5_boardThrough_132 : decode cX5_boardThrough 132 = .ok (.getfield 125, 3) := by decide +kernel
theorem dX5_boardThrough_135 : decode cX5_boardThrough 135 = .ok (.iload 9, 2) := by decide +kernel
theorem dX5_boardThrough_137 : decode cX5_boardThrough 137 = .ok (.invokevirtual 135, 3) := by decide +kernel
theorem dX5_boardThrough_140 : decode cX5_boardThrough 140 = .ok (.aload_n 1, 1) := by decide +kernel
theorem dX5_boardThrough_141 : decode cX5_boardThrough 141 = .ok (.dup, 1) := by decide +kernel
theorem dX5_boardThrough_142 : decode cX5_boardThrough 142 = .ok (.getfield 138, 3) := by decide +kernel
theorem dX5_boardThrough_145 : decode cX5_boardThrough 145 = .ok (.iconst 1, 1) := by decide +kernel
theorem dX5_boardThrough_146 : decode cX5_boardThrough 146 = .ok (.iadd, 1) := by decide +kernel
theorem dX5_boardThrough_147 : decode cX5_boardThrough 147 = .ok (.putfield 138, 3) := by decide +kernel
theorem dX5_boardThrough_150 : decode cX5_boardThrough 150 = .ok (.aload 5, 2) := by decide +kernel
theorem dX5_boardThrough_152 : decode cX5_boardThrough 152 = .ok (.dup, 1) := by decide +kernel
theorem dX5_boardThrough_153 : decode cX5_boardThrough 153 = .ok (.getfield 141, 3) := by decide +kernel
theorem dX5_boardThrough_156 : decode cX5_boardThrough 156 = .ok (.iload 9, 2) := by decide +kernel
theorem dX5_boardThrough_158 : decode cX5_boardThrough 158 = .ok (.iadd, 1) := by decide +kernel
theorem dX5_boardThrough_159 : decode cX5_boardThrough 159 = .ok (.putfield 141, 3) := by decide +kernel
theorem dX5_boardThrough_162 : decode cX5_boardThrough 162 = .ok (.iinc 7 1, 3) := by decide +kernel
theorem dX5_boardThrough_165 : decode cX5_boardThrough 165 = .ok (.iload 7, 2) := by decide +kernel
theorem dX5_boardThrough_167 : decode cX5_boardThrough 167 = .ok (.iload_n 3, 1) := by decide +kernel
theorem dX5_boardThrough_168 : decode cX5_boardThrough 168 = .ok (.if_icmp .ne 6, 3) := by decide +kernel
theorem dX5_boardThrough_171 : decode cX5_boardThrough 171 = .ok (.iload 7, 2) := by decide +kernel
theorem dX5_boardThrough_173 : decode cX5_boardThrough 173 = .ok (.ireturn, 1) := by decide +kernel
theorem dX5_boardThrough_174 : decode cX5_boardThrough 174 = .ok (.iinc 8 1, 3) := by decide +kernel
theorem dX5_boardThrough_177 : decode cX5_boardThrough 177 = .ok (.goto (-152), 3) := by decide +kernel
theorem dX5_boardThrough_180 : decode cX5_boardThrough 180 = .ok (.iload 7, 2) := by decide +kernel
theorem dX5_boardThrough_182 : decode cX5_boardThrough 182 = .ok (.ireturn, 1) := by decide +kernel
set_option maxRecDepth 20000 in
theorem ggX5_land_X5_berthAt : GoodIn wsX5_land wsX5_berthAt := goodIn_r _ [7, 8, 9, 64, 65, 66, 67, 68, 69, 70, 71, 72, 73] (by decide +kernel) (by decide +kernel)
set_option maxRecDepth 20000 in
theorem gX5_land_X5_berthAt : GoodIn wsX5_land (wsV RX5 48 RX5 yX5_berthAt wsX5_berthAt) := goodIn_app (goodIn_of _ (by decide +kernel)) ggX5_land_X5_berthAt
set_option maxRecDepth 20000 in
theorem ggX5_land_X5_isWithin : GoodIn wsX5_land wsX5_isWithin := goodIn_r _ [12] (by decide +kernel) (by decide +kernel)
set_option maxRecDepth 20000 in
theorem gX5_land_X5_isWithin : GoodIn wsX5_land (va_wsS RX5 34 yX5_isWithin wsX5_isWithin) := goodIn_app (goodIn_of _ (by decide +kernel)) ggX5_land_X5_isWithin
set_option maxRecDepth 20000 in
theorem ggX5_land_X5_landOver : GoodIn wsX5_land wsX5_landOver := goodIn_r _ [16, 17, 18, 19, 20, 21, 22, 23, 24, 25, 26, 27, 28, 29, 30, 31, 32, 33, 34, 35, 36, 37, 38, 39, 40, 41, 42, 43, 6, 44, 45, 46, 47, 48, 49, 50, 51, 52, 53, 54, 55, 56, 57, 58, 59, 74, 75, 76, 77, 78, 79, 80, 81, 82, 60, 61, 62, 63, 64, 65, 66, 67, 68, 69, 70, 71, 72, 73] (by decide +kernel) (by decide +kernel)
set_option maxRecDepth 20000 in
theorem gX5_land_X5_landOver : GoodIn wsX5_land (wsV RX5 144 RX5 yX5_landOver wsX5_landOver) := goodIn_app (goodIn_of _ (by decide +kernel)) ggX5_land_X5_landOver
theorem dX5_land_0 : decode cX5_land 0 = .ok (.aload_n 0, 1) := by decide +kernel
theorem dX5_land_1 : decode cX5_land 1 = .ok (.iload_n 1, 1) := by decide +kernel
theorem dX5_land_2 : decode cX5_land 2 = .ok (.invokevirtual 48, 3) := by decide +kernel
theorem dX5_land_5 : decode cX5_land 5 = .ok (.astore_n 3, 1) := by decide +kernel
theorem dX5_land_6 : decode cX5_land 6 = .ok (.aload_n 3, 1) := by decide +kernel
theorem dX5_land_7 : decode cX5_land 7 = .ok (.ifnull 13, 3) := by decide +kernel
theorem dX5_land_10 : decode cX5_land 10 = .ok (.iload_n 2, 1) := by decide +kernel
theorem dX5_land_11 : decode cX5_land 11 = .ok (.iconst 1, 1) := by decide +kernel
theorem dX5_land_12 : decode cX5_land 12 = .ok (.bipush 40, 2) := by decide +kernel
theorem dX5_land_14 : decode cX5_land 14 = .ok (.invokestatic 34, 3) := by decide +kernel
theorem dX5_land_17 : decode cX5_land 17 = .ok (.ifCond .ne 6, 3) := by decide +kernel
theorem dX5_land_20 : decode cX5_land 20 = .ok (.bipush (-2), 2) := by decide +kernel
theorem dX5_land_22 : decode cX5_land 22 = .ok (.ireturn, 1) := by decide +kernel
theorem dX5_land_23 : decode cX5_land 23 = .ok (.aload_n 3, 1) := by decide +kernel
theorem dX5_land_24 : decode cX5_land 24 = .ok (.getfield 71, 3) := by decide +kernel
theorem dX5_land_27 : decode cX5_land 27 = .ok (.astore 4, 2) := by decide +kernel
theorem dX5_land_29 : decode cX5_land 29 = .ok (.aload 4, 2) := by decide +kernel
theorem dX5_land_31 : decode cX5_land 31 = .ok (.ifnonnull 6, 3) := by decide +kernel
theorem dX5_land_34 : decode cX5_land 34 = .ok (.bipush (-4), 2) := by decide +kernel
theorem dX5_land_36 : decode cX5_land 36 = .ok (.ireturn, 1) := by decide +kernel
theorem dX5_land_37 : decode cX5_land 37 = .ok (.aload 4, 2) := by decide +kernel
theorem dX5_land_39 : decode cX5_land 39 = .ok (.dup, 1) := by decide +kernel
theorem dX5_land_40 : decode cX5_land 40 = .ok (.getfield 108, 3) := by decide +kernel
theorem dX5_land_43 : decode cX5_land 43 = .ok (.iconst 1, 1) := by decide +kernel
theorem dX5_land_44 : decode cX5_land 44 = .ok (.iadd, 1) := by decide +kernel
theorem dX5_land_45 : decode cX5_land 45 = .ok (.putfield 108, 3) := by decide +kernel
theorem dX5_land_48 : decode cX5_land 48 = .ok (.aload_n 0, 1) := by decide +kernel
theorem dX5_land_49 : decode cX5_land 49 = .ok (.aload 4, 2) := by decide +kernel
theorem dX5_land_51 : decode cX5_land 51 = .ok (.aload_n 3, 1) := by decide +kernel
theorem dX5_land_52 : decode cX5_land 52 = .ok (.iload_n 2, 1) := by decide +kernel
theorem dX5_land_53 : decode cX5_land 53 = .ok (.invokevirtual 144, 3) := by decide +kernel
theorem dX5_land_56 : decode cX5_land 56 = .ok (.ireturn, 1) := by decide +kernel
set_option maxRecDepth 20000 in
theorem ggX5_landOver_X1_weightOfLast : GoodIn wsX5_landOver wsX1_weightOfLast := goodIn_r _ [15, 16, 17, 18, 19, 20, 21, 22, 23, 24, 45, 46, 47, 48, 49] (by decide +kernel) (by decide +kernel)
set_option maxRecDepth 20000 in
theorem gX5_landOver_X1_weightOfLast : GoodIn wsX5_landOver (wsV RX5 151 RX1 yX1_weightOfLast wsX1_weightOfLast) := goodIn_app (goodIn_of _ (by decide +kernel)) ggX5_landOver_X1_weightOfLast
set_option maxRecDepth 20000 in
theorem ggX5_landOver_X5_alarm : GoodIn wsX5_landOver wsX5_alarm := goodIn_r _ [29, 30, 58, 59, 60, 61, 62, 63, 64, 65, 66, 67] (by decide +kernel) (by decide +kernel)
set_option maxRecDepth 20000 in
theorem gX5_landOver_X5_alarm : GoodIn wsX5_landOver (wsV RX5 119 RX5 yX5_alarm wsX5_alarm) := goodIn_app (goodIn_of _ (by decide +kernel)) ggX5_landOver_X5_alarm
set_option maxRecDepth 20000 in
theorem ggX5_landOver_X1_putLastAshore : GoodIn wsX5_landOver wsX1_putLastAshore := goodIn_r _ [34, 16, 17, 35, 36, 12, 13, 14, 15, 18, 19, 20, 21, 22, 23, 24, 37, 38, 39, 40, 45, 46, 47, 48, 49] (by decide +kernel) (by decide +kernel)
set_option maxRecDepth 20000 in
theorem gX5_landOver_X1_putLastAshore : GoodIn wsX5_landOver (wsV RX5 154 RX1 yX1_putLastAshore wsX1_putLastAshore) := goodIn_app (goodIn_of _ (by decide +kernel)) ggX5_landOver_X1_putLastAshore
theorem dX5_landOver_0 : decode cX5_landOver 0 = .ok (.aload_n 2, 1) := by decide +kernel
theorem dX5_landOver_1 : decode cX5_landOver 1 = .ok (.getfield 125, 3) := by decide +kernel
theorem dX5_landOver_4 : decode cX5_landOver 4 = .ok (.astore 4, 2) := by decide +kernel
theorem dX5_landOver_6 : decode cX5_landOver 6 = .ok (.aload_n 2, 1) := by decide +kernel
theorem dX5_landOver_7 : decode cX5_landOver 7 = .ok (.getfield 60, 3) := by decide +kernel
theorem dX5_landOver_10 : decode cX5_landOver 10 = .ok (.astore 5, 2) := by decide +kernel
theorem dX5_landOver_12 : decode cX5_landOver 12 = .ok (.iconst 0, 1) := by decide +kernel
theorem dX5_landOver_13 : decode cX5_landOver 13 = .ok (.istore 6, 2) := by decide +kernel
theorem dX5_landOver_15 : decode cX5_landOver 15 = .ok (.iload 6, 2) := by decide +kernel
theorem dX5_landOver_17 : decode cX5_landOver 17 = .ok (.iload_n 3, 1) := by decide +kernel
theorem dX5_landOver_18 : decode cX5_landOver 18 = .ok (.if_icmp .ge 126, 3) := by decide +kernel
theorem dX5_landOver_21 : decode cX5_landOver 21 = .ok (.aload 4, 2) := by decide +kernel
theorem dX5_landOver_23 : decode cX5_landOver 23 = .ok (.getfield 148, 3) := by decide +kernel
theorem dX5_landOver_26 : decode cX5_landOver 26 = .ok (.getfield 98, 3) := by decide +kernel
theorem dX5_landOver_29 : decode cX5_landOver 29 = .ok (.ifCond .le 115, 3) := by decide +kernel
theorem dX5_landOver_32 : decode cX5_landOver 32 = .ok (.aload 5, 2) := by decide +kernel
theorem dX5_landOver_34 : decode cX5_landOver 34 = .ok (.ifnonnull 6, 3) := by decide +kernel
theorem dX5_landOver_37 : decode cX5_landOver 37 = .ok (.bipush (-4), 2) := by decide +kernel
theorem dX5_landOver_39 : decode cX5_landOver 39 = .ok (.ireturn, 1) := by decide +kernel
theorem dX5_landOver_40 : decode cX5_landOver 40 = .ok (.aload 5, 2) := by decide +kernel
theorem dX5_landOver_42 : decode cX5_landOver 42 = .ok (.dup, 1) := by decide +kernel
theorem dX5_landOver_43 : decode cX5_landOver 43 = .ok (.getfield 101, 3) := by decide +kernel
theorem dX5_landOver_46 : decode cX5_landOver 46 = .ok (.iconst 1, 1) := by decide +kernel
theorem dX5_landOver_47 : decode cX5_landOver 47 = .ok (.iadd, 1) := by decide +kernel
theorem dX5_landOver_48 : decode cX5_landOver 48 = .ok (.putfield 101, 3) := by decide +kernel
theorem dX5_landOver_51 : decode cX5_landOver 51 = .ok (.aload 5, 2) := by decide +kernel
theorem dX5_landOver_53 : decode cX5_landOver 53 = .ok (.getfield 78, 3) := by decide +kernel
theorem dX5_landOver_56 : decode cX5_landOver 56 = .ok (.ifCond .eq 6, 3) := by decide +kernel
theorem dX5_landOver_59 : decode cX5_landOver 59 = .ok (.iload 6, 2) := by decide +kernel
theorem dX5_landOver_61 : decode cX5_landOver 61 = .ok (.ireturn, 1) := by decide +kernel
theorem dX5_landOver_62 : decode cX5_landOver 62 = .ok (.aload 4, 2) := by decide +kernel
theorem dX5_landOver_64 : decode cX5_landOver 64 = .ok (.invokevirtual 151, 3) := by decide +kernel
theorem dX5_landOver_67 : decode cX5_landOver 67 = .ok (.istore 7, 2) := by decide +kernel
theorem dX5_landOver_69 : decode cX5_landOver 69 = .ok (.iload 7, 2) := by decide +kernel
theorem dX5_landOver_71 : decode cX5_landOver 71 = .ok (.aload_n 1, 1) := by decide +kernel
theorem dX5_landOver_72 : decode cX5_landOver 72 = .ok (.getfield 122, 3) := by decide +kernel
theorem dX5_landOver_75 : decode cX5_landOver 75 = .ok (.if_icmp .le 10, 3) := by decide +kernel
theorem dX5_landOver_78 : decode cX5_landOver 78 = .ok (.aload_n 0, 1) := by decide +kernel
theorem dX5_landOver_79 : decode cX5_landOver 79 = .ok (.bipush (-6), 2) := by decide +kernel
theorem dX5_landOver_81 : decode cX5_landOver 81 = .ok (.invokevirtual 119, 3) := by decide +kernel
theorem dX5_landOver_84 : decode cX5_landOver 84 = .ok (.ireturn, 1) := by decide +kernel
theorem dX5_landOver_85 : decode cX5_landOver 85 = .ok (.aload 4, 2) := by decide +kernel
theorem dX5_landOver_87 : decode cX5_landOver 87 = .ok (.invokevirtual 154, 3) := by decide +kernel
theorem dX5_landOver_90 : decode cX5_landOver 90 = .ok (.aload_n 0, 1) := by decide +kernel
theorem dX5_landOver_91 : decode cX5_landOver 91 = .ok (.dup, 1) := by decide +kernel
theorem dX5_landOver_92 : decode cX5_landOver 92 = .ok (.getfield 157, 3) := by decide +kernel
theorem dX5_landOver_95 : decode cX5_landOver 95 = .ok (.iconst 1, 1) := by decide +kernel
theorem dX5_landOver_96 : decode cX5_landOver 96 = .ok (.iadd, 1) := by decide +kernel
theorem dX5_landOver_97 : decode cX5_landOver 97 = .ok (.putfield 157, 3) := by decide +kernel
theorem dX5_landOver_100 : decode cX5_landOver 100 = .ok (.iinc 6 1, 3) := by decide +kernel
theorem dX5_landOver_103 : decode cX5_landOver 103 = .ok (.iload 7, 2) := by decide +kernel
theorem dX5_landOver_105 : decode cX5_landOver 105 = .ok (.ifCond .eq 36, 3) := by decide +kernel
theorem dX5_landOver_108 : decode cX5_landOver 108 = .ok (.iload 7, 2) := by decide +kernel
theorem dX5_landOver_110 : decode cX5_landOver 110 = .ok (.aload_n 1, 1) := by decide +kernel
theorem dX5_landOver_111 : decode cX5_landOver 111 = .ok (.getfield 122, 3) := by decide +kernel
theorem dX5_landOver_114 : decode cX5_landOver 114 = .ok (.iconst 2, 1) := by decide +kernel
theorem dX5_landOver_115 : decode cX5_landOver 115 = .ok (.idiv, 1) := by decide +kernel
theorem dX5_landOver_116 : decode cX5_landOver 116 = .ok (.if_icmp .gt 25, 3) := by decide +kernel
theorem dX5_landOver_119 : decode cX5_landOver 119 = .ok (.aload 5, 2) := by decide +kernel
theorem dX5_landOver_121 : decode cX5_landOver 121 = .ok (.dup, 1) := by decide +kernel
theorem dX5_landOver_122 : decode cX5_landOver 122 = .ok (.getfield 138, 3) := by decide +kernel
theorem dX5_landOver_125 : decode cX5_landOver 125 = .ok (.iconst 1, 1) := by decide +kernel
theorem dX5_landOver_126 : decode cX5_landOver 126 = .ok (.iadd, 1) := by decide +kernel
theorem dX5_landOver_127 : decode cX5_landOver 127 = .ok (.putfield 138, 3) := by decide +kernel
theorem dX5_landOver_130 : decode cX5_landOver 130 = .ok (.aload_n 1, 1) := by decide +kernel
theorem dX5_landOver_131 : decode cX5_landOver 131 = .ok (.dup, 1) := by decide +kernel
theorem dX5_landOver_132 : decode cX5_landOver 132 = .ok (.getfield 141, 3) := by decide +kernel
theorem dX5_landOver_135 : decode cX5_landOver 135 = .ok (.iload 7, 2) := by decide +kernel
theorem dX5_landOver_137 : decode cX5_landOver 137 = .ok (.iadd, 1) := by decide +kernel
theorem dX5_landOver_138 : decode cX5_landOver 138 = .ok (.putfield 141, 3) := by decide +kernel
theorem dX5_landOver_141 : decode cX5_landOver 141 = .ok (.goto (-126), 3) := by decide +kernel
theorem dX5_landOver_144 : decode cX5_landOver 144 = .ok (.iload 6, 2) := by decide +kernel
theorem dX5_landOver_146 : decode cX5_landOver 146 = .ok (.ireturn, 1) := by decide +kernel
set_option maxRecDepth 20000 in
theorem ggX5_swap_X5_berthAt : GoodIn wsX5_swap wsX5_berthAt := goodIn_r _ [10, 11, 12, 24, 25, 26, 27, 28, 29, 30, 31, 32, 33] (by decide +kernel) (by decide +kernel)
set_option maxRecDepth 20000 in
theorem gX5_swap_X5_berthAt : GoodIn wsX5_swap (wsV RX5 48 RX5 yX5_berthAt wsX5_berthAt) := goodIn_app (goodIn_of _ (by decide +kernel)) ggX5_swap_X5_berthAt
theorem dX5_swap_0 : decode cX5_swap 0 = .ok (.aload_n 0, 1) := by decide +kernel
theorem dX5_swap_1 : decode cX5_swap 1 = .ok (.iload_n 1, 1) := by decide +kernel
theorem dX5_swap_2 : decode cX5_swap 2 = .ok (.invokevirtual 48, 3) := by decide +kernel
theorem dX5_swap_5 : decode cX5_swap 5 = .ok (.astore_n 3, 1) := by decide +kernel
theorem dX5_swap_6 : decode cX5_swap 6 = .ok (.aload_n 0, 1) := by decide +kernel
theorem dX5_swap_7 : decode cX5_swap 7 = .ok (.iload_n 2, 1) := by decide +kernel
theorem dX5_swap_8 : decode cX5_swap 8 = .ok (.invokevirtual 48, 3) := by decide +kernel
theorem dX5_swap_11 : decode cX5_swap 11 = .ok (.astore 4, 2) := by decide +kernel
theorem dX5_swap_13 : decode cX5_swap 13 = .ok (.aload_n 3, 1) := by decide +kernel
theorem dX5_swap_14 : decode cX5_swap 14 = .ok (.ifnull 8, 3) := by decide +kernel
theorem dX5_swap_17 : decode cX5_swap 17 = .ok (.aload 4, 2) := by decide +kernel
theorem dX5_swap_19 : decode cX5_swap 19 = .ok (.ifnonnull 6, 3) := by decide +kernel
theorem dX5_swap_22 : decode cX5_swap 22 = .ok (.bipush (-2), 2) := by decide +kernel
theorem dX5_swap_24 : decode cX5_swap 24 = .ok (.ireturn, 1) := by decide +kernel
theorem dX5_swap_25 : decode cX5_swap 25 = .ok (.aload_n 3, 1) := by decide +kernel
theorem dX5_swap_26 : decode cX5_swap 26 = .ok (.getfield 60, 3) := by decide +kernel
theorem dX5_swap_29 : decode cX5_swap 29 = .ok (.astore 5, 2) := by decide +kernel
theorem dX5_swap_31 : decode cX5_swap 31 = .ok (.aload 5, 2) := by decide +kernel
theorem dX5_swap_33 : decode cX5_swap 33 = .ok (.ifnonnull 6, 3) := by decide +kernel
theorem dX5_swap_36 : decode cX5_swap 36 = .ok (.bipush (-4), 2) := by decide +kernel
theorem dX5_swap_38 : decode cX5_swap 38 = .ok (.ireturn, 1) := by decide +kernel
theorem dX5_swap_39 : decode cX5_swap 39 = .ok (.aload 5, 2) := by decide +kernel
theorem dX5_swap_41 : decode cX5_swap 41 = .ok (.dup, 1) := by decide +kernel
theorem dX5_swap_42 : decode cX5_swap 42 = .ok (.getfield 101, 3) := by decide +kernel
theorem dX5_swap_45 : decode cX5_swap 45 = .ok (.iconst 1, 1) := by decide +kernel
theorem dX5_swap_46 : decode cX5_swap 46 = .ok (.iadd, 1) := by decide +kernel
theorem dX5_swap_47 : decode cX5_swap 47 = .ok (.putfield 101, 3) := by decide +kernel
theorem dX5_swap_50 : decode cX5_swap 50 = .ok (.aload 4, 2) := by decide +kernel
theorem dX5_swap_52 : decode cX5_swap 52 = .ok (.getfield 60, 3) := by decide +kernel
theorem dX5_swap_55 : decode cX5_swap 55 = .ok (.astore 6, 2) := by decide +kernel
theorem dX5_swap_57 : decode cX5_swap 57 = .ok (.aload 6, 2) := by decide +kernel
theorem dX5_swap_59 : decode cX5_swap 59 = .ok (.ifnonnull 6, 3) := by decide +kernel
theorem dX5_swap_62 : decode cX5_swap 62 = .ok (.bipush (-4), 2) := by decide +kernel
theorem dX5_swap_64 : decode cX5_swap 64 = .ok (.ireturn, 1) := by decide +kernel
theorem dX5_swap_65 : decode cX5_swap 65 = .ok (.aload 6, 2) := by decide +kernel
theorem dX5_swap_67 : decode cX5_swap 67 = .ok (.dup, 1) := by decide +kernel
theorem dX5_swap_68 : decode cX5_swap 68 = .ok (.getfield 101, 3) := by decide +kernel
theorem dX5_swap_71 : decode cX5_swap 71 = .ok (.iconst 1, 1) := by decide +kernel
theorem dX5_swap_72 : decode cX5_swap 72 = .ok (.iadd, 1) := by decide +kernel
theorem dX5_swap_73 : decode cX5_swap 73 = .ok (.putfield 101, 3) := by decide +kernel
theorem dX5_swap_76 : decode cX5_swap 76 = .ok (.aload 5, 2) := by decide +kernel
theorem dX5_swap_78 : decode cX5_swap 78 = .ok (.getfield 78, 3) := by decide +kernel
theorem dX5_swap_81 : decode cX5_swap 81 = .ok (.ifCond .ne 11, 3) := by decide +kernel
theorem dX5_swap_84 : decode cX5_swap 84 = .ok (.aload 6, 2) := by decide +kernel
theorem dX5_swap_86 : decode cX5_swap 86 = .ok (.getfield 78, 3) := by decide +kernel
theorem dX5_swap_89 : decode cX5_swap 89 = .ok (.ifCond .eq 6, 3) := by decide +kernel
theorem dX5_swap_92 : decode cX5_swap 92 = .ok (.bipush (-5), 2) := by decide +kernel
theorem dX5_swap_94 : decode cX5_swap 94 = .ok (.ireturn, 1) := by decide +kernel
theorem dX5_swap_95 : decode cX5_swap 95 = .ok (.aload_n 3, 1) := by decide +kernel
theorem dX5_swap_96 : decode cX5_swap 96 = .ok (.getfield 125, 3) := by decide +kernel
theorem dX5_swap_99 : decode cX5_swap 99 = .ok (.astore 7, 2) := by decide +kernel
theorem dX5_swap_101 : decode cX5_swap 101 = .ok (.aload_n 3, 1) := by decide +kernel
theorem dX5_swap_102 : decode cX5_swap 102 = .ok (.aload 4, 2) := by decide +kernel
theorem dX5_swap_104 : decode cX5_swap 104 = .ok (.getfield 125, 3) := by decide +kernel
theorem dX5_swap_107 : decode cX5_swap 107 = .ok (.putfield 125, 3) := by decide +kernel
theorem dX5_swap_110 : decode cX5_swap 110 = .ok (.aload 4, 2) := by decide +kernel
theorem dX5_swap_112 : decode cX5_swap 112 = .ok (.aload 7, 2) := by decide +kernel
theorem dX5_swap_114 : decode cX5_swap 114 = .ok (.putfield 125, 3) := by decide +kernel
theorem dX5_swap_117 : decode cX5_swap 117 = .ok (.aload_n 3, 1) := by decide +kernel
theorem dX5_swap_118 : decode cX5_swap 118 = .ok (.getfield 125, 3) := by decide +kernel
theorem dX5_swap_121 : decode cX5_swap 121 = .ok (.getfield 160, 3) := by decide +kernel
theorem dX5_swap_124 : decode cX5_swap 124 = .ok (.ireturn, 1) := by decide +kernel
set_option maxRecDepth 20000 in
theorem ggX5_round_X5_berthAt : GoodIn wsX5_round wsX5_berthAt := goodIn_r _ [10, 11, 12, 32, 33, 34, 35, 36, 37, 38, 39, 40, 41] (by decide +kernel) (by decide +kernel)
set_option maxRecDepth 20000 in
theorem gX5_round_X5_berthAt : GoodIn wsX5_round (wsV RX5 48 RX5 yX5_berthAt wsX5_berthAt) := goodIn_app (goodIn_of _ (by decide +kernel)) ggX5_round_X5_berthAt
set_option maxRecDepth 20000 in
theorem ggX5_round_X5_isWithin : GoodIn wsX5_round wsX5_isWithin := goodIn_r _ [15] (by decide +kernel) (by decide +kernel)
set_option maxRecDepth 20000 in
theorem gX5_round_X5_isWithin : GoodIn wsX5_round (va_wsS RX5 34 yX5_isWithin wsX5_isWithin) := goodIn_app (goodIn_of _ (by decide +kernel)) ggX5_round_X5_isWithin
set_option maxRecDepth 20000 in
theorem ggX5_round_X5_alarm : GoodIn wsX5_round wsX5_alarm := goodIn_r _ [19, 20, 32, 33, 34, 35, 36, 37, 38, 39, 40, 41] (by decide +kernel) (by decide +kernel)
set_option maxRecDepth 20000 in
theorem gX5_round_X5_alarm : GoodIn wsX5_round (wsV RX5 119 RX5 yX5_alarm wsX5_alarm) := goodIn_app (goodIn_of _ (by decide +kernel)) ggX5_round_X5_alarm
theorem dX5_round_0 : decode cX5_round 0 = .ok (.aload_n 0, 1) := by decide +kernel
theorem dX5_round_1 : decode cX5_round 1 = .ok (.iload_n 1, 1) := by decide +kernel
theorem dX5_round_2 : decode cX5_round 2 = .ok (.invokevirtual 48, 3) := by decide +kernel
theorem dX5_round_5 : decode cX5_round 5 = .ok (.ifnull 13, 3) := by decide +kernel
theorem dX5_round_8 : decode cX5_round 8 = .ok (.iload_n 2, 1) := by decide +kernel
theorem dX5_round_9 : decode cX5_round 9 = .ok (.iconst 1, 1) := by decide +kernel
theorem dX5_round_10 : decode cX5_round 10 = .ok (.bipush 8, 2) := by decide +kernel
theorem dX5_round_12 : decode cX5_round 12 = .ok (.invokestatic 34, 3) := by decide +kernel
theorem dX5_round_15 : decode cX5_round 15 = .ok (.ifCond .ne 6, 3) := by decide +kernel
theorem dX5_round_18 : decode cX5_round 18 = .ok (.bipush (-2), 2) := by decide +kernel
theorem dX5_round_20 : decode cX5_round 20 = .ok (.ireturn, 1) := by decide +kernel
theorem dX5_round_21 : decode cX5_round 21 = .ok (.iconst 0, 1) := by decide +kernel
theorem dX5_round_22 : decode cX5_round 22 = .ok (.istore_n 3, 1) := by decide +kernel
theorem dX5_round_23 : decode cX5_round 23 = .ok (.iconst 0, 1) := by decide +kernel
theorem dX5_round_24 : decode cX5_round 24 = .ok (.istore 4, 2) := by decide +kernel
theorem dX5_round_26 : decode cX5_round 26 = .ok (.iload 4, 2) := by decide +kernel
theorem dX5_round_28 : decode cX5_round 28 = .ok (.iload_n 2, 1) := by decide +kernel
theorem dX5_round_29 : decode cX5_round 29 = .ok (.if_icmp .ge 77, 3) := by decide +kernel
theorem dX5_round_32 : decode cX5_round 32 = .ok (.aload_n 0, 1) := by decide +kernel
theorem dX5_round_33 : decode cX5_round 33 = .ok (.iload_n 1, 1) := by decide +kernel
theorem dX5_round_34 : decode cX5_round 34 = .ok (.iload 4, 2) := by decide +kernel
theorem dX5_round_36 : decode cX5_round 36 = .ok (.iadd, 1) := by decide +kernel
theorem dX5_round_37 : decode cX5_round 37 = .ok (.invokevirtual 48, 3) := by decide +kernel
theorem dX5_round_40 : decode cX5_round 40 = .ok (.astore 5, 2) := by decide +kernel
theorem dX5_round_42 : decode cX5_round 42 = .ok (.aload 5, 2) := by decide +kernel
theorem dX5_round_44 : decode cX5_round 44 = .ok (.ifnonnull 5, 3) := by decide +kernel
theorem dX5_round_47 : decode cX5_round 47 = .ok (.iload_n 3, 1) := by decide +kernel
theorem dX5_round_48 : decode cX5_round 48 = .ok (.ireturn, 1) := by decide +kernel
theorem dX5_round_49 : decode cX5_round 49 = .ok (.aload 5, 2) := by decide +kernel
theorem dX5_round_51 : decode cX5_round 51 = .ok (.getfield 60, 3) := by decide +kernel
theorem dX5_round_54 : decode cX5_round 54 = .ok (.astore 6, 2) := by decide +kernel
theorem dX5_round_56 : decode cX5_round 56 = .ok (.aload 6, 2) := by decide +kernel
theorem dX5_round_58 : decode cX5_round 58 = .ok (.ifnonnull 5, 3) := by decide +kernel
theorem dX5_round_61 : decode cX5_round 61 = .ok (.iload_n 3, 1) := by decide +kernel
theorem dX5_round_62 : decode cX5_round 62 = .ok (.ireturn, 1) := by decide +kernel
theorem dX5_round_63 : decode cX5_round 63 = .ok (.aload 6, 2) := by decide +kernel
theorem dX5_round_65 : decode cX5_round 65 = .ok (.dup, 1) := by decide +kernel
theorem dX5_round_66 : decode cX5_round 66 = .ok (.getfield 101, 3) := by decide +kernel
theorem dX5_round_69 : decode cX5_round 69 = .ok (.iconst 1, 1) := by decide +kernel
theorem dX5_round_70 : decode cX5_round 70 = .ok (.iadd, 1) := by decide +kernel
theorem dX5_round_71 : decode cX5_round 71 = .ok (.putfield 101, 3) := by decide +kernel
theorem dX5_round_74 : decode cX5_round 74 = .ok (.aload 6, 2) := by decide +kernel
theorem dX5_round_76 : decode cX5_round 76 = .ok (.getfield 78, 3) := by decide +kernel
theorem dX5_round_79 : decode cX5_round 79 = .ok (.ifCond .eq 10, 3) := by decide +kernel
theorem dX5_round_82 : decode cX5_round 82 = .ok (.aload_n 0, 1) := by decide +kernel
theorem dX5_round_83 : decode cX5_round 83 = .ok (.bipush (-5), 2) := by decide +kernel
theorem dX5_round_85 : decode cX5_round 85 = .ok (.invokevirtual 119, 3) := by decide +kernel
theorem dX5_round_88 : decode cX5_round 88 = .ok (.ireturn, 1) := by decide +kernel
theorem dX5_round_89 : decode cX5_round 89 = .ok (.iload_n 3, 1) := by decide +kernel
theorem dX5_round_90 : decode cX5_round 90 = .ok (.aload 5, 2) := by decide +kernel
theorem dX5_round_92 : decode cX5_round 92 = .ok (.getfield 125, 3) := by decide +kernel
theorem dX5_round_95 : decode cX5_round 95 = .ok (.getfield 160, 3) := by decide +kernel
theorem dX5_round_98 : decode cX5_round 98 = .ok (.iadd, 1) := by decide +kernel
theorem dX5_round_99 : decode cX5_round 99 = .ok (.istore_n 3, 1) := by decide +kernel
theorem dX5_round_100 : decode cX5_round 100 = .ok (.iinc 4 1, 3) := by decide +kernel
theorem dX5_round_103 : decode cX5_round 103 = .ok (.goto (-77), 3) := by decide +kernel
theorem dX5_round_106 : decode cX5_round 106 = .ok (.iload_n 3, 1) := by decide +kernel
theorem dX5_round_107 : decode cX5_round 107 = .ok (.ireturn, 1) := by decide +kernel
set_option maxRecDepth 20000 in
theorem ggX5_tend_X5_rampAt : GoodIn wsX5_tend wsX5_rampAt := goodIn_r _ [7, 8, 9, 19, 20, 21, 22, 23, 24, 25, 26, 27, 28] (by decide +kernel) (by decide +kernel)
set_option maxRecDepth 20000 in
theorem gX5_tend_X5_rampAt : GoodIn wsX5_tend (wsV RX5 64 RX5 yX5_rampAt wsX5_rampAt) := goodIn_app (goodIn_of _ (by decide +kernel)) ggX5_tend_X5_rampAt
set_option maxRecDepth 20000 in
theorem ggX5_tend_X5_alarm : GoodIn wsX5_tend wsX5_alarm := goodIn_r _ [13, 14, 19, 20, 21, 22, 23, 24, 25, 26, 27, 28] (by decide +kernel) (by decide +kernel)
set_option maxRecDepth 20000 in
theorem gX5_tend_X5_alarm : GoodIn wsX5_tend (wsV RX5 119 RX5 yX5_alarm wsX5_alarm) := goodIn_app (goodIn_of _ (by decide +kernel)) ggX5_tend_X5_alarm
theorem dX5_tend_0 : decode cX5_tend 0 = .ok (.aload_n 0, 1) := by decide +kernel
theorem dX5_tend_1 : decode cX5_tend 1 = .ok (.iload_n 1, 1) := by decide +kernel
theorem dX5_tend_2 : decode cX5_tend 2 = .ok (.invokevirtual 64, 3) := by decide +kernel
theorem dX5_tend_5 : decode cX5_tend 5 = .ok (.astore_n 2, 1) := by decide +kernel
theorem dX5_tend_6 : decode cX5_tend 6 = .ok (.aload_n 2, 1) := by decide +kernel
theorem dX5_tend_7 : decode cX5_tend 7 = .ok (.ifnonnull 6, 3) := by decide +kernel
theorem dX5_tend_10 : decode cX5_tend 10 = .ok (.bipush (-2), 2) := by decide +kernel
theorem dX5_tend_12 : decode cX5_tend 12 = .ok (.ireturn, 1) := by decide +kernel
theorem dX5_tend_13 : decode cX5_tend 13 = .ok (.aload_n 2, 1) := by decide +kernel
theorem dX5_tend_14 : decode cX5_tend 14 = .ok (.dup, 1) := by decide +kernel
theorem dX5_tend_15 : decode cX5_tend 15 = .ok (.getfield 108, 3) := by decide +kernel
theorem dX5_tend_18 : decode cX5_tend 18 = .ok (.iconst 1, 1) := by decide +kernel
theorem dX5_tend_19 : decode cX5_tend 19 = .ok (.iadd, 1) := by decide +kernel
theorem dX5_tend_20 : decode cX5_tend 20 = .ok (.putfield 108, 3) := by decide +kernel
theorem dX5_tend_23 : decode cX5_tend 23 = .ok (.aload_n 2, 1) := by decide +kernel
theorem dX5_tend_24 : decode cX5_tend 24 = .ok (.getfield 141, 3) := by decide +kernel
theorem dX5_tend_27 : decode cX5_tend 27 = .ok (.ifCond .ne 10, 3) := by decide +kernel
theorem dX5_tend_30 : decode cX5_tend 30 = .ok (.aload_n 0, 1) := by decide +kernel
theorem dX5_tend_31 : decode cX5_tend 31 = .ok (.bipush (-5), 2) := by decide +kernel
theorem dX5_tend_33 : decode cX5_tend 33 = .ok (.invokevirtual 119, 3) := by decide +kernel
theorem dX5_tend_36 : decode cX5_tend 36 = .ok (.ireturn, 1) := by decide +kernel
theorem dX5_tend_37 : decode cX5_tend 37 = .ok (.aload_n 2, 1) := by decide +kernel
theorem dX5_tend_38 : decode cX5_tend 38 = .ok (.getfield 141, 3) := by decide +kernel
theorem dX5_tend_41 : decode cX5_tend 41 = .ok (.istore_n 3, 1) := by decide +kernel
theorem dX5_tend_42 : decode cX5_tend 42 = .ok (.aload_n 2, 1) := by decide +kernel
theorem dX5_tend_43 : decode cX5_tend 43 = .ok (.iconst 0, 1) := by decide +kernel
theorem dX5_tend_44 : decode cX5_tend 44 = .ok (.putfield 141, 3) := by decide +kernel
theorem dX5_tend_47 : decode cX5_tend 47 = .ok (.iload_n 3, 1) := by decide +kernel
theorem dX5_tend_48 : decode cX5_tend 48 = .ok (.ireturn, 1) := by decide +kernel
set_option maxRecDepth 20000 in
theorem ggX5_shift_X5_berthAt : GoodIn wsX5_shift wsX5_berthAt := goodIn_r _ [9, 10, 11, 52, 53, 54, 55, 56, 57, 58, 59, 60, 61] (by decide +kernel) (by decide +kernel)
set_option maxRecDepth 20000 in
theorem gX5_shift_X5_berthAt : GoodIn wsX5_shift (wsV RX5 48 RX5 yX5_berthAt wsX5_berthAt) := goodIn_app (goodIn_of _ (by decide +kernel)) ggX5_shift_X5_berthAt
set_option maxRecDepth 20000 in
theorem ggX5_shift_X5_isWithin : GoodIn wsX5_shift wsX5_isWithin := goodIn_r _ [14] (by decide +kernel) (by decide +kernel)
set_option maxRecDepth 20000 in
theorem gX5_shift_X5_isWithin : GoodIn wsX5_shift (va_wsS RX5 34 yX5_isWithin wsX5_isWithin) := goodIn_app (goodIn_of _ (by decide +kernel)) ggX5_shift_X5_isWithin
set_option maxRecDepth 20000 in
theorem ggX5_shift_X5_shiftThrough : GoodIn wsX5_shift wsX5_shiftThrough := goodIn_r _ [18, 1, 2, 3, 4, 19, 20, 21, 22, 23, 24, 25, 26, 27, 28, 29, 30, 31, 32, 33, 34, 35, 36, 37, 38, 39, 40, 41, 42, 43, 44, 45, 46, 47, 48, 49, 50, 51, 62, 63] (by decide +kernel) (by decide +kernel)
set_option maxRecDepth 20000 in
theorem gX5_shift_X5_shiftThrough : GoodIn wsX5_shift (wsV RX5 163 RX5 yX5_shiftThrough wsX5_shiftThrough) := goodIn_app (goodIn_of _ (by decide +kernel)) ggX5_shift_X5_shiftThrough
theorem dX5_shift_0 : decode cX5_shift 0 = .ok (.aload_n 0, 1) := by decide +kernel
theorem dX5_shift_1 : decode cX5_shift 1 = .ok (.iload_n 1, 1) := by decide +kernel
theorem dX5_shift_2 : decode cX5_shift 2 = .ok (.invokevirtual 48, 3) := by decide +kernel
theorem dX5_shift_5 : decode cX5_shift 5 = .ok (.astore 4, 2) := by decide +kernel
theorem dX5_shift_7 : decode cX5_shift 7 = .ok (.aload_n 0, 1) := by decide +kernel
theorem dX5_shift_8 : decode cX5_shift 8 = .ok (.iload_n 2, 1) := by decide +kernel
theorem dX5_shift_9 : decode cX5_shift 9 = .ok (.invokevirtual 48, 3) := by decide +kernel
theorem dX5_shift_12 : decode cX5_shift 12 = .ok (.astore 5, 2) := by decide +kernel
theorem dX5_shift_14 : decode cX5_shift 14 = .ok (.aload 4, 2) := by decide +kernel
theorem dX5_shift_16 : decode cX5_shift 16 = .ok (.ifnull 23, 3) := by decide +kernel
theorem dX5_shift_19 : decode cX5_shift 19 = .ok (.aload 5, 2) := by decide +kernel
theorem dX5_shift_21 : decode cX5_shift 21 = .ok (.ifnull 18, 3) := by decide +kernel
theorem dX5_shift_24 : decode cX5_shift 24 = .ok (.iload_n 1, 1) := by decide +kernel
theorem dX5_shift_25 : decode cX5_shift 25 = .ok (.iload_n 2, 1) := by decide +kernel
theorem dX5_shift_26 : decode cX5_shift 26 = .ok (.if_icmp .eq 13, 3) := by decide +kernel
theorem dX5_shift_29 : decode cX5_shift 29 = .ok (.iload_n 3, 1) := by decide +kernel
theorem dX5_shift_30 : decode cX5_shift 30 = .ok (.iconst 1, 1) := by decide +kernel
theorem dX5_shift_31 : decode cX5_shift 31 = .ok (.bipush 30, 2) := by decide +kernel
theorem dX5_shift_33 : decode cX5_shift 33 = .ok (.invokestatic 34, 3) := by decide +kernel
theorem dX5_shift_36 : decode cX5_shift 36 = .ok (.ifCond .ne 6, 3) := by decide +kernel
theorem dX5_shift_39 : decode cX5_shift 39 = .ok (.bipush (-2), 2) := by decide +kernel
theorem dX5_shift_41 : decode cX5_shift 41 = .ok (.ireturn, 1) := by decide +kernel
theorem dX5_shift_42 : decode cX5_shift 42 = .ok (.aload 4, 2) := by decide +kernel
theorem dX5_shift_44 : decode cX5_shift 44 = .ok (.getfield 60, 3) := by decide +kernel
theorem dX5_shift_47 : decode cX5_shift 47 = .ok (.astore 6, 2) := by decide +kernel
theorem dX5_shift_49 : decode cX5_shift 49 = .ok (.aload 6, 2) := by decide +kernel
theorem dX5_shift_51 : decode cX5_shift 51 = .ok (.ifnonnull 6, 3) := by decide +kernel
theorem dX5_shift_54 : decode cX5_shift 54 = .ok (.bipush (-4), 2) := by decide +kernel
theorem dX5_shift_56 : decode cX5_shift 56 = .ok (.ireturn, 1) := by decide +kernel
theorem dX5_shift_57 : decode cX5_shift 57 = .ok (.aload 6, 2) := by decide +kernel
theorem dX5_shift_59 : decode cX5_shift 59 = .ok (.dup, 1) := by decide +kernel
theorem dX5_shift_60 : decode cX5_shift 60 = .ok (.getfield 101, 3) := by decide +kernel
theorem dX5_shift_63 : decode cX5_shift 63 = .ok (.iconst 1, 1) := by decide +kernel
theorem dX5_shift_64 : decode cX5_shift 64 = .ok (.iadd, 1) := by decide +kernel
theorem dX5_shift_65 : decode cX5_shift 65 = .ok (.putfield 101, 3) := by decide +kernel
theorem dX5_shift_68 : decode cX5_shift 68 = .ok (.aload 6, 2) := by decide +kernel
theorem dX5_shift_70 : decode cX5_shift 70 = .ok (.getfield 78, 3) := by decide +kernel
theorem dX5_shift_73 : decode cX5_shift 73 = .ok (.ifCond .eq 6, 3) := by decide +kernel
theorem dX5_shift_76 : decode cX5_shift 76 = .ok (.bipush (-5), 2) := by decide +kernel
theorem dX5_shift_78 : decode cX5_shift 78 = .ok (.ireturn, 1) := by decide +kernel
theorem dX5_shift_79 : decode cX5_shift 79 = .ok (.aload_n 0, 1) := by decide +kernel
theorem dX5_shift_80 : decode cX5_shift 80 = .ok (.aload 6, 2) := by decide +kernel
theorem dX5_shift_82 : decode cX5_shift 82 = .ok (.aload 4, 2) := by decide +kernel
theorem dX5_shift_84 : decode cX5_shift 84 = .ok (.getfield 82, 3) := by decide +kernel
theorem dX5_shift_87 : decode cX5_shift 87 = .ok (.aload 5, 2) := by decide +kernel
theorem dX5_shift_89 : decode cX5_shift 89 = .ok (.iload_n 3, 1) := by decide +kernel
theorem dX5_shift_90 : decode cX5_shift 90 = .ok (.invokevirtual 163, 3) := by decide +kernel
theorem dX5_shift_93 : decode cX5_shift 93 = .ok (.ireturn, 1) := by decide +kernel
set_option maxRecDepth 20000 in
theorem ggX5_shiftThrough_X4_isFull : GoodIn wsX5_shiftThrough wsX4_isFull := goodIn_r _ [11, 12, 13, 38, 39] (by decide +kernel) (by decide +kernel)
set_option maxRecDepth 20000 in
theorem gX5_shiftThrough_X4_isFull : GoodIn wsX5_shiftThrough (wsV RX5 86 RX4 yX4_isFull wsX4_isFull) := goodIn_app (goodIn_of _ (by decide +kernel)) ggX5_shiftThrough_X4_isFull
set_option maxRecDepth 20000 in
theorem ggX5_shiftThrough_X4_weightAt : GoodIn wsX5_shiftThrough wsX4_weightAt := goodIn_r _ [17, 12, 13, 38, 39] (by decide +kernel) (by decide +kernel)
set_option maxRecDepth 20000 in
theorem gX5_shiftThrough_X4_weightAt : GoodIn wsX5_shiftThrough (wsV RX5 109 RX4 yX4_weightAt wsX4_weightAt) := goodIn_app (goodIn_of _ (by decide +kernel)) ggX5_shiftThrough_X4_weightAt
set_option maxRecDepth 20000 in
theorem ggX5_shiftThrough_X4_addLast : GoodIn wsX5_shiftThrough wsX4_addLast := goodIn_r _ [21, 12, 13, 38, 39] (by decide +kernel) (by decide +kernel)
set_option maxRecDepth 20000 in
theorem gX5_shiftThrough_X4_addLast : GoodIn wsX5_shiftThrough (wsV RX5 92 RX4 yX4_addLast wsX4_addLast) := goodIn_app (goodIn_of _ (by decide +kernel)) ggX5_shiftThrough_X4_addLast
set_option maxRecDepth 20000 in
theorem ggX5_shiftThrough_X4_removeFirst : GoodIn wsX5_shiftThrough wsX4_removeFirst := goodIn_r _ [25, 12, 13, 26, 27, 28, 29, 38, 39] (by decide +kernel) (by decide +kernel)
set_option maxRecDepth 20000 in
theorem gX5_shiftThrough_X4_removeFirst : GoodIn wsX5_shiftThrough (wsV RX5 113 RX4 yX4_removeFirst wsX4_removeFirst) := goodIn_app (goodIn_of _ (by decide +kernel)) ggX5_shiftThrough_X4_removeFirst
theorem dX5_shiftThrough_0 : decode cX5_shiftThrough 0 = .ok (.aload_n 3, 1) := by decide +kernel
theorem dX5_shiftThrough_1 : decode cX5_shiftThrough 1 = .ok (.getfield 60, 3) := by decide +kernel
theorem dX5_shiftThrough_4 : decode cX5_shiftThrough 4 = .ok (.astore 5, 2) := by decide +kernel
theorem dX5_shiftThrough_6 : decode cX5_shiftThrough 6 = .ok (.iconst 0, 1) := by decide +kernel
theorem dX5_shiftThrough_7 : decode cX5_shiftThrough 7 = .ok (.istore 6, 2) := by decide +kernel
theorem dX5_shiftThrough_9 : decode cX5_shiftThrough 9 = .ok (.iload 6, 2) := by decide +kernel
theorem dX5_shiftThrough_11 : decode cX5_shiftThrough 11 = .ok (.iload 4, 2) := by decide +kernel
theorem dX5_shiftThrough_13 : decode cX5_shiftThrough 13 = .ok (.if_icmp .ge 93, 3) := by decide +kernel
theorem dX5_shiftThrough_16 : decode cX5_shiftThrough 16 = .ok (.aload 5, 2) := by decide +kernel
theorem dX5_shiftThrough_18 : decode cX5_shiftThrough 18 = .ok (.ifnonnull 6, 3) := by decide +kernel
theorem dX5_shiftThrough_21 : decode cX5_shiftThrough 21 = .ok (.bipush (-4), 2) := by decide +kernel
theorem dX5_shiftThrough_23 : decode cX5_shiftThrough 23 = .ok (.ireturn, 1) := by decide +kernel
theorem dX5_shiftThrough_24 : decode cX5_shiftThrough 24 = .ok (.aload 5, 2) := by decide +kernel
theorem dX5_shiftThrough_26 : decode cX5_shiftThrough 26 = .ok (.dup, 1) := by decide +kernel
theorem dX5_shiftThrough_27 : decode cX5_shiftThrough 27 = .ok (.getfield 101, 3) := by decide +kernel
theorem dX5_shiftThrough_30 : decode cX5_shiftThrough 30 = .ok (.iconst 1, 1) := by decide +kernel
theorem dX5_shiftThrough_31 : decode cX5_shiftThrough 31 = .ok (.iadd, 1) := by decide +kernel
theorem dX5_shiftThrough_32 : decode cX5_shiftThrough 32 = .ok (.putfield 101, 3) := by decide +kernel
theorem dX5_shiftThrough_35 : decode cX5_shiftThrough 35 = .ok (.aload 5, 2) := by decide +kernel
theorem dX5_shiftThrough_37 : decode cX5_shiftThrough 37 = .ok (.getfield 78, 3) := by decide +kernel
theorem dX5_shiftThrough_40 : decode cX5_shiftThrough 40 = .ok (.ifCond .ne 20, 3) := by decide +kernel
theorem dX5_shiftThrough_43 : decode cX5_shiftThrough 43 = .ok (.aload_n 3, 1) := by decide +kernel
theorem dX5_shiftThrough_44 : decode cX5_shiftThrough 44 = .ok (.getfield 82, 3) := by decide +kernel
theorem dX5_shiftThrough_47 : decode cX5_shiftThrough 47 = .ok (.invokevirtual 86, 3) := by decide +kernel
theorem dX5_shiftThrough_50 : decode cX5_shiftThrough 50 = .ok (.ifCond .ne 10, 3) := by decide +kernel
theorem dX5_shiftThrough_53 : decode cX5_shiftThrough 53 = .ok (.aload_n 2, 1) := by decide +kernel
theorem dX5_shiftThrough_54 : decode cX5_shiftThrough 54 = .ok (.getfield 98, 3) := by decide +kernel
theorem dX5_shiftThrough_57 : decode cX5_shiftThrough 57 = .ok (.ifCond .ne 6, 3) := by decide +kernel
theorem dX5_shiftThrough_60 : decode cX5_shiftThrough 60 = .ok (.iload 6, 2) := by decide +kernel
theorem dX5_shiftThrough_62 : decode cX5_shiftThrough 62 = .ok (.ireturn, 1) := by decide +kernel
theorem dX5_shiftThrough_63 : decode cX5_shiftThrough 63 = .ok (.aload_n 3, 1) := by decide +kernel
theorem dX5_shiftThrough_64 : decode cX5_shiftThrough 64 = .ok (.getfield 82, 3) := by decide +kernel
theorem dX5_shiftThrough_67 : decode cX5_shiftThrough 67 = .ok (.aload_n 2, 1) := by decide +kernel
theorem dX5_shiftThrough_68 : decode cX5_shiftThrough 68 = .ok (.iconst 0, 1) := by decide +kernel
theorem dX5_shiftThrough_69 : decode cX5_shiftThrough 69 = .ok (.invokevirtual 109, 3) := by decide +kernel
theorem dX5_shiftThrough_72 : decode cX5_shiftThrough 72 = .ok (.invokevirtual 92, 3) := by decide +kernel
theorem dX5_shiftThrough_75 : decode cX5_shiftThrough 75 = .ok (.aload_n 2, 1) := by decide +kernel
theorem dX5_shiftThrough_76 : decode cX5_shiftThrough 76 = .ok (.invokevirtual 113, 3) := by decide +kernel
theorem dX5_shiftThrough_79 : decode cX5_shiftThrough 79 = .ok (.aload_n 1, 1) := by decide +kernel
theorem dX5_shiftThrough_80 : decode cX5_shiftThrough 80 = .ok (.dup, 1) := by decide +kernel
theorem dX5_shiftThrough_81 : decode cX5_shiftThrough 81 = .ok (.getfield 138, 3) := by decide +kernel
theorem dX5_shiftThrough_84 : decode cX5_shiftThrough 84 = .ok (.iconst 1, 1) := by decide +kernel
theorem dX5_shiftThrough_85 : decode cX5_shiftThrough 85 = .ok (.iadd, 1) := by decide +kernel
theorem dX5_shiftThrough_86 : decode cX5_shiftThrough 86 = .ok (.putfield 138, 3) := by decide +kernel
theorem dX5_shiftThrough_89 : decode cX5_shiftThrough 89 = .ok (.aload 5, 2) := by decide +kernel
theorem dX5_shiftThrough_91 : decode cX5_shiftThrough 91 = .ok (.dup, 1) := by decide +kernel
theorem dX5_shiftThrough_92 : decode cX5_shiftThrough 92 = .ok (.getfield 138, 3) := by decide +kernel
theorem dX5_shiftThrough_95 : decode cX5_shiftThrough 95 = .ok (.iconst 1, 1) := by decide +kernel
theorem dX5_shiftThrough_96 : decode cX5_shiftThrough 96 = .ok (.iadd, 1) := by decide +kernel
theorem dX5_shiftThrough_97 : decode cX5_shiftThrough 97 = .ok (.putfield 138, 3) := by decide +kernel
theorem dX5_shiftThrough_100 : decode cX5_shiftThrough 100 = .ok (.iinc 6 1, 3) := by decide +kernel
theorem dX5_shiftThrough_103 : decode cX5_shiftThrough 103 = .ok (.goto (-94), 3) := by decide +kernel
theorem dX5_shiftThrough_106 : decode cX5_shiftThrough 106 = .ok (.iload 4, 2) := by decide +kernel
theorem dX5_shiftThrough_108 : decode cX5_shiftThrough 108 = .ok (.ireturn, 1) := by decide +kernel
set_option maxRecDepth 20000 in
theorem ggX5_state_X5_berthAt : GoodIn wsX5_state wsX5_berthAt := goodIn_r _ [11, 12, 13, 36, 37, 38, 39, 40, 41, 42, 43, 44, 45] (by decide +kernel) (by decide +kernel)
set_option maxRecDepth 20000 in
theorem gX5_state_X5_berthAt : GoodIn wsX5_state (wsV RX5 48 RX5 yX5_berthAt wsX5_berthAt) := goodIn_app (goodIn_of _ (by decide +kernel)) ggX5_state_X5_berthAt
set_option maxRecDepth 20000 in
theorem ggX5_state_X0_gateNumber : GoodIn wsX5_state wsX0_gateNumber := goodIn_r _ [18, 19, 20, 27, 28, 29, 30, 46, 47, 48, 49] (by decide +kernel) (by decide +kernel)
set_option maxRecDepth 20000 in
theorem gX5_state_X0_gateNumber : GoodIn wsX5_state (wsV RX5 56 RX0 yX0_gateNumber wsX0_gateNumber) := goodIn_app (goodIn_of _ (by decide +kernel)) ggX5_state_X0_gateNumber
set_option maxRecDepth 20000 in
theorem ggX5_state_X0_rampNumber : GoodIn wsX5_state wsX0_rampNumber := goodIn_r _ [24, 25, 26, 27, 28, 29, 30, 50, 51, 52, 53] (by decide +kernel) (by decide +kernel)
set_option maxRecDepth 20000 in
theorem gX5_state_X0_rampNumber : GoodIn wsX5_state (wsV RX5 68 RX0 yX0_rampNumber wsX0_rampNumber) := goodIn_app (goodIn_of _ (by decide +kernel)) ggX5_state_X0_rampNumber
theorem dX5_state_0 : decode cX5_state 0 = .ok (.aload_n 0, 1) := by decide +kernel
theorem dX5_state_1 : decode cX5_state 1 = .ok (.iload_n 1, 1) := by decide +kernel
theorem dX5_state_2 : decode cX5_state 2 = .ok (.invokevirtual 48, 3) := by decide +kernel
theorem dX5_state_5 : decode cX5_state 5 = .ok (.astore_n 3, 1) := by decide +kernel
theorem dX5_state_6 : decode cX5_state 6 = .ok (.aload_n 3, 1) := by decide +kernel
theorem dX5_state_7 : decode cX5_state 7 = .ok (.ifnonnull 6, 3) := by decide +kernel
theorem dX5_state_10 : decode cX5_state 10 = .ok (.bipush (-2), 2) := by decide +kernel
theorem dX5_state_12 : decode cX5_state 12 = .ok (.ireturn, 1) := by decide +kernel
theorem dX5_state_13 : decode cX5_state 13 = .ok (.iload_n 2, 1) := by decide +kernel
theorem dX5_state_14 : decode cX5_state 14 = .ok (.tableswitch 83 0 5 #[38, 43, 48, 56, 67, 75], 38) := by decide +kernel
theorem dX5_state_52 : decode cX5_state 52 = .ok (.aload_n 3, 1) := by decide +kernel
theorem dX5_state_53 : decode cX5_state 53 = .ok (.invokevirtual 56, 3) := by decide +kernel
theorem dX5_state_56 : decode cX5_state 56 = .ok (.ireturn, 1) := by decide +kernel
theorem dX5_state_57 : decode cX5_state 57 = .ok (.aload_n 3, 1) := by decide +kernel
theorem dX5_state_58 : decode cX5_state 58 = .ok (.invokevirtual 68, 3) := by decide +kernel
theorem dX5_state_61 : decode cX5_state 61 = .ok (.ireturn, 1) := by decide +kernel
theorem dX5_state_62 : decode cX5_state 62 = .ok (.aload_n 3, 1) := by decide +kernel
theorem dX5_state_63 : decode cX5_state 63 = .ok (.getfield 82, 3) := by decide +kernel
theorem dX5_state_66 : decode cX5_state 66 = .ok (.getfield 98, 3) := by decide +kernel
theorem dX5_state_69 : decode cX5_state 69 = .ok (.ireturn, 1) := by decide +kernel
theorem dX5_state_70 : decode cX5_state 70 = .ok (.aload_n 3, 1) := by decide +kernel
theorem dX5_state_71 : decode cX5_state 71 = .ok (.getfield 125, 3) := by decide +kernel
theorem dX5_state_74 : decode cX5_state 74 = .ok (.getfield 148, 3) := by decide +kernel
theorem dX5_state_77 : decode cX5_state 77 = .ok (.getfield 98, 3) := by decide +kernel
theorem dX5_state_80 : decode cX5_state 80 = .ok (.ireturn, 1) := by decide +kernel
theorem dX5_state_81 : decode cX5_state 81 = .ok (.aload_n 3, 1) := by decide +kernel
theorem dX5_state_82 : decode cX5_state 82 = .ok (.getfield 125, 3) := by decide +kernel
theorem dX5_state_85 : decode cX5_state 85 = .ok (.getfield 160, 3) := by decide +kernel
theorem dX5_state_88 : decode cX5_state 88 = .ok (.ireturn, 1) := by decide +kernel
theorem dX5_state_89 : decode cX5_state 89 = .ok (.aload_n 3, 1) := by decide +kernel
theorem dX5_state_90 : decode cX5_state 90 = .ok (.getfield 125, 3) := by decide +kernel
theorem dX5_state_93 : decode cX5_state 93 = .ok (.getfield 167, 3) := by decide +kernel
theorem dX5_state_96 : decode cX5_state 96 = .ok (.ireturn, 1) := by decide +kernel
theorem dX5_state_97 : decode cX5_state 97 = .ok (.bipush (-2), 2) := by decide +kernel
theorem dX5_state_99 : decode cX5_state 99 = .ok (.ireturn, 1) := by decide +kernel
set_option maxRecDepth 20000 in
theorem ggX5_waiting_X5_berthAt : GoodIn wsX5_waiting wsX5_berthAt := goodIn_r _ [6, 7, 8, 20, 21, 22, 23, 24, 25, 26, 27, 28, 29] (by decide +kernel) (by decide +kernel)
set_option maxRecDepth 20000 in
theorem gX5_waiting_X5_berthAt : GoodIn wsX5_waiting (wsV RX5 48 RX5 yX5_berthAt wsX5_berthAt) := goodIn_app (goodIn_of _ (by decide +kernel)) ggX5_waiting_X5_berthAt
set_option maxRecDepth 20000 in
theorem ggX5_waiting_X4_weightAt : GoodIn wsX5_waiting wsX4_weightAt := goodIn_r _ [13, 14, 15, 30, 31] (by decide +kernel) (by decide +kernel)
set_option maxRecDepth 20000 in
theorem gX5_waiting_X4_weightAt : GoodIn wsX5_waiting (wsV RX5 109 RX4 yX4_weightAt wsX4_weightAt) := goodIn_app (goodIn_of _ (by decide +kernel)) ggX5_waiting_X4_weightAt
theorem dX5_waiting_0 : decode cX5_waiting 0 = .ok (.aload_n 0, 1) := by decide +kernel
theorem dX5_waiting_1 : decode cX5_waiting 1 = .ok (.iload_n 1, 1) := by decide +kernel
theorem dX5_waiting_2 : decode cX5_waiting 2 = .ok (.invokevirtual 48, 3) := by decide +kernel
theorem dX5_waiting_5 : decode cX5_waiting 5 = .ok (.astore_n 3, 1) := by decide +kernel
theorem dX5_waiting_6 : decode cX5_waiting 6 = .ok (.aload_n 3, 1) := by decide +kernel
theorem dX5_waiting_7 : decode cX5_waiting 7 = .ok (.ifnonnull 8, 3) := by decide +kernel
theorem dX5_waiting_10 : decode cX5_waiting 10 = .ok (.bipush (-2), 2) := by decide +kernel
theorem dX5_waiting_12 : decode cX5_waiting 12 = .ok (.goto 11, 3) := by decide +kernel
theorem dX5_waiting_15 : decode cX5_waiting 15 = .ok (.aload_n 3, 1) := by decide +kernel
theorem dX5_waiting_16 : decode cX5_waiting 16 = .ok (.getfield 82, 3) := by decide +kernel
theorem dX5_waiting_19 : decode cX5_waiting 19 = .ok (.iload_n 2, 1) := by decide +kernel
theorem dX5_waiting_20 : decode cX5_waiting 20 = .ok (.invokevirtual 109, 3) := by decide +kernel
theorem dX5_waiting_23 : decode cX5_waiting 23 = .ok (.ireturn, 1) := by decide +kernel
set_option maxRecDepth 20000 in
theorem ggX5_aboard_X5_berthAt : GoodIn wsX5_aboard wsX5_berthAt := goodIn_r _ [7, 8, 9, 24, 25, 26, 27, 28, 29, 30, 31, 32, 33] (by decide +kernel) (by decide +kernel)
set_option maxRecDepth 20000 in
theorem gX5_aboard_X5_berthAt : GoodIn wsX5_aboard (wsV RX5 48 RX5 yX5_berthAt wsX5_berthAt) := goodIn_app (goodIn_of _ (by decide +kernel)) ggX5_aboard_X5_berthAt
set_option maxRecDepth 20000 in
theorem ggX5_aboard_X4_weightAt : GoodIn wsX5_aboard wsX4_weightAt := goodIn_r _ [14, 15, 16, 34, 35] (by decide +kernel) (by decide +kernel)
set_option maxRecDepth 20000 in
theorem gX5_aboard_X4_weightAt : GoodIn wsX5_aboard (wsV RX5 109 RX4 yX4_weightAt wsX4_weightAt) := goodIn_app (goodIn_of _ (by decide +kernel)) ggX5_aboard_X4_weightAt
theorem dX5_aboard_0 : decode cX5_aboard 0 = .ok (.aload_n 0, 1) := by decide +kernel
theorem dX5_aboard_1 : decode cX5_aboard 1 = .ok (.iload_n 1, 1) := by decide +kernel
theorem dX5_aboard_2 : decode cX5_aboard 2 = .ok (.invokevirtual 48, 3) := by decide +kernel
theorem dX5_aboard_5 : decode cX5_aboard 5 = .ok (.astore_n 3, 1) := by decide +kernel
theorem dX5_aboard_6 : decode cX5_aboard 6 = .ok (.aload_n 3, 1) := by decide +kernel
theorem dX5_aboard_7 : decode cX5_aboard 7 = .ok (.ifnonnull 8, 3) := by decide +kernel
theorem dX5_aboard_10 : decode cX5_aboard 10 = .ok (.bipush (-2), 2) := by decide +kernel
theorem dX5_aboard_12 : decode cX5_aboard 12 = .ok (.goto 14, 3) := by decide +kernel
theorem dX5_aboard_15 : decode cX5_aboard 15 = .ok (.aload_n 3, 1) := by decide +kernel
theorem dX5_aboard_16 : decode cX5_aboard 16 = .ok (.getfield 125, 3) := by decide +kernel
theorem dX5_aboard_19 : decode cX5_aboard 19 = .ok (.getfield 148, 3) := by decide +kernel
theorem dX5_aboard_22 : decode cX5_aboard 22 = .ok (.iload_n 2, 1) := by decide +kernel
theorem dX5_aboard_23 : decode cX5_aboard 23 = .ok (.invokevirtual 109, 3) := by decide +kernel
theorem dX5_aboard_26 : decode cX5_aboard 26 = .ok (.ireturn, 1) := by decide +kernel
set_option maxRecDepth 20000 in
theorem ggX5_ofGate_X5_gateAt : GoodIn wsX5_ofGate wsX5_gateAt := goodIn_r _ [7, 8, 9, 20, 21, 22, 23, 24, 25, 26, 27, 28, 29] (by decide +kernel) (by decide +kernel)
set_option maxRecDepth 20000 in
theorem gX5_ofGate_X5_gateAt : GoodIn wsX5_ofGate (wsV RX5 52 RX5 yX5_gateAt wsX5_gateAt) := goodIn_app (goodIn_of _ (by decide +kernel)) ggX5_ofGate_X5_gateAt
set_option maxRecDepth 20000 in
theorem ggX5_ofGate_X2_shutAsNumber : GoodIn wsX5_ofGate wsX2_shutAsNumber := goodIn_r _ [14, 15, 16, 17, 18, 19] (by decide +kernel) (by decide +kernel)
set_option maxRecDepth 20000 in
theorem gX5_ofGate_X2_shutAsNumber : GoodIn wsX5_ofGate (wsV RX5 75 RX2 yX2_shutAsNumber wsX2_shutAsNumber) := goodIn_app (goodIn_of _ (by decide +kernel)) ggX5_ofGate_X2_shutAsNumber
theorem dX5_ofGate_0 : decode cX5_ofGate 0 = .ok (.aload_n 0, 1) := by decide +kernel
theorem dX5_ofGate_1 : decode cX5_ofGate 1 = .ok (.iload_n 1, 1) := by decide +kernel
theorem dX5_ofGate_2 : decode cX5_ofGate 2 = .ok (.invokevirtual 52, 3) := by decide +kernel
theorem dX5_ofGate_5 : decode cX5_ofGate 5 = .ok (.astore_n 3, 1) := by decide +kernel
theorem dX5_ofGate_6 : decode cX5_ofGate 6 = .ok (.aload_n 3, 1) := by decide +kernel
theorem dX5_ofGate_7 : decode cX5_ofGate 7 = .ok (.ifnonnull 6, 3) := by decide +kernel
theorem dX5_ofGate_10 : decode cX5_ofGate 10 = .ok (.bipush (-2), 2) := by decide +kernel
theorem dX5_ofGate_12 : decode cX5_ofGate 12 = .ok (.ireturn, 1) := by decide +kernel
theorem dX5_ofGate_13 : decode cX5_ofGate 13 = .ok (.iload_n 2, 1) := by decide +kernel
theorem dX5_ofGate_14 : decode cX5_ofGate 14 = .ok (.tableswitch 41 0 2 #[26, 31, 36], 26) := by decide +kernel
theorem dX5_ofGate_40 : decode cX5_ofGate 40 = .ok (.aload_n 3, 1) := by decide +kernel
theorem dX5_ofGate_41 : decode cX5_ofGate 41 = .ok (.getfield 101, 3) := by decide +kernel
theorem dX5_ofGate_44 : decode cX5_ofGate 44 = .ok (.ireturn, 1) := by decide +kernel
theorem dX5_ofGate_45 : decode cX5_ofGate 45 = .ok (.aload_n 3, 1) := by decide +kernel
theorem dX5_ofGate_46 : decode cX5_ofGate 46 = .ok (.getfield 138, 3) := by decide +kernel
theorem dX5_ofGate_49 : decode cX5_ofGate 49 = .ok (.ireturn, 1) := by decide +kernel
theorem dX5_ofGate_50 : decode cX5_ofGate 50 = .ok (.aload_n 3, 1) := by decide +kernel
theorem dX5_ofGate_51 : decode cX5_ofGate 51 = .ok (.invokevirtual 75, 3) := by decide +kernel
theorem dX5_ofGate_54 : decode cX5_ofGate 54 = .ok (.ireturn, 1) := by decide +kernel
theorem dX5_ofGate_55 : decode cX5_ofGate 55 = .ok (.bipush (-2), 2) := by decide +kernel
theorem dX5_ofGate_57 : decode cX5_ofGate 57 = .ok (.ireturn, 1) := by decide +kernel
set_option maxRecDepth 20000 in
theorem ggX5_ofRamp_X5_rampAt : GoodIn wsX5_ofRamp wsX5_rampAt := goodIn_r _ [8, 9, 10, 15, 16, 17, 18, 19, 20, 21, 22, 23, 24] (by decide +kernel) (by decide +kernel)
set_option maxRecDepth 20000 in
theorem gX5_ofRamp_X5_rampAt : GoodIn wsX5_ofRamp (wsV RX5 64 RX5 yX5_rampAt wsX5_rampAt) := goodIn_app (goodIn_of _ (by decide +kernel)) ggX5_ofRamp_X5_rampAt
theorem dX5_ofRamp_0 : decode cX5_ofRamp 0 = .ok (.aload_n 0, 1) := by decide +kernel
theorem dX5_ofRamp_1 : decode cX5_ofRamp 1 = .ok (.iload_n 1, 1) := by decide +kernel
theorem dX5_ofRamp_2 : decode cX5_ofRamp 2 = .ok (.invokevirtual 64, 3) := by decide +kernel
theorem dX5_ofRamp_5 : decode cX5_ofRamp 5 = .ok (.astore_n 3, 1) := by decide +kernel
theorem dX5_ofRamp_6 : decode cX5_ofRamp 6 = .ok (.aload_n 3, 1) := by decide +kernel
theorem dX5_ofRamp_7 : decode cX5_ofRamp 7 = .ok (.ifnonnull 6, 3) := by decide +kernel
theorem dX5_ofRamp_10 : decode cX5_ofRamp 10 = .ok (.bipush (-2), 2) := by decide +kernel
theorem dX5_ofRamp_12 : decode cX5_ofRamp 12 = .ok (.ireturn, 1) := by decide +kernel
theorem dX5_ofRamp_13 : decode cX5_ofRamp 13 = .ok (.iload_n 2, 1) := by decide +kernel
theorem dX5_ofRamp_14 : decode cX5_ofRamp 14 = .ok (.tableswitch 41 0 2 #[26, 31, 36], 26) := by decide +kernel
theorem dX5_ofRamp_40 : decode cX5_ofRamp 40 = .ok (.aload_n 3, 1) := by decide +kernel
theorem dX5_ofRamp_41 : decode cX5_ofRamp 41 = .ok (.getfield 108, 3) := by decide +kernel
theorem dX5_ofRamp_44 : decode cX5_ofRamp 44 = .ok (.ireturn, 1) := by decide +kernel
theorem dX5_ofRamp_45 : decode cX5_ofRamp 45 = .ok (.aload_n 3, 1) := by decide +kernel
theorem dX5_ofRamp_46 : decode cX5_ofRamp 46 = .ok (.getfield 141, 3) := by decide +kernel
theorem dX5_ofRamp_49 : decode cX5_ofRamp 49 = .ok (.ireturn, 1) := by decide +kernel
theorem dX5_ofRamp_50 : decode cX5_ofRamp 50 = .ok (.aload_n 3, 1) := by decide +kernel
theorem dX5_ofRamp_51 : decode cX5_ofRamp 51 = .ok (.getfield 122, 3) := by decide +kernel
theorem dX5_ofRamp_54 : decode cX5_ofRamp 54 = .ok (.ireturn, 1) := by decide +kernel
theorem dX5_ofRamp_55 : decode cX5_ofRamp 55 = .ok (.bipush (-2), 2) := by decide +kernel
theorem dX5_ofRamp_57 : decode cX5_ofRamp 57 = .ok (.ireturn, 1) := by decide +kernel
theorem dX5_count_0 : decode cX5_count 0 = .ok (.iload_n 1, 1) := by decide +kernel
theorem dX5_count_1 : decode cX5_count 1 = .ok (.tableswitch 78 0 6 #[43, 48, 53, 58, 63, 68, 73], 43) := by decide +kernel
theorem dX5_count_44 : decode cX5_count 44 = .ok (.aload_n 0, 1) := by decide +kernel
theorem dX5_count_45 : decode cX5_count 45 = .ok (.getfield 27, 3) := by decide +kernel
theorem dX5_count_48 : decode cX5_count 48 = .ok (.ireturn, 1) := by decide +kernel
theorem dX5_count_49 : decode cX5_count 49 = .ok (.aload_n 0, 1) := by decide +kernel
theorem dX5_count_50 : decode cX5_count 50 = .ok (.getfield 38, 3) := by decide +kernel
theorem dX5_count_53 : decode cX5_count 53 = .ok (.ireturn, 1) := by decide +kernel
theorem dX5_count_54 : decode cX5_count 54 = .ok (.aload_n 0, 1) := by decide +kernel
theorem dX5_count_55 : decode cX5_count 55 = .ok (.getfield 44, 3) := by decide +kernel
theorem dX5_count_58 : decode cX5_count 58 = .ok (.ireturn, 1) := by decide +kernel
theorem dX5_count_59 : decode cX5_count 59 = .ok (.aload_n 0, 1) := by decide +kernel
theorem dX5_count_60 : decode cX5_count 60 = .ok (.getfield 95, 3) := by decide +kernel
theorem dX5_count_63 : decode cX5_count 63 = .ok (.ireturn, 1) := by decide +kernel
theorem dX5_count_64 : decode cX5_count 64 = .ok (.aload_n 0, 1) := by decide +kernel
theorem dX5_count_65 : decode cX5_count 65 = .ok (.getfield 157, 3) := by decide +kernel
theorem dX5_count_68 : decode cX5_count 68 = .ok (.ireturn, 1) := by decide +kernel
theorem dX5_count_69 : decode cX5_count 69 = .ok (.aload_n 0, 1) := by decide +kernel
theorem dX5_count_70 : decode cX5_count 70 = .ok (.getfield 116, 3) := by decide +kernel
theorem dX5_count_73 : decode cX5_count 73 = .ok (.ireturn, 1) := by decide +kernel
theorem dX5_count_74 : decode cX5_count 74 = .ok (.aload_n 0, 1) := by decide +kernel
theorem dX5_count_75 : decode cX5_count 75 = .ok (.getfield 170, 3) := by decide +kernel
theorem dX5_count_78 : decode cX5_count 78 = .ok (.ireturn, 1) := by decide +kernel
theorem dX5_count_79 : decode cX5_count 79 = .ok (.bipush (-2), 2) := by decide +kernel
theorem dX5_count_81 : decode cX5_count 81 = .ok (.ireturn, 1) := by decide +kernel
theorem dX5_alarm_0 : decode cX5_alarm 0 = .ok (.aload_n 0, 1) := by decide +kernel
theorem dX5_alarm_1 : decode cX5_alarm 1 = .ok (.dup, 1) := by decide +kernel
theorem dX5_alarm_2 : decode cX5_alarm 2 = .ok (.getfield 170, 3) := by decide +kernel
theorem dX5_alarm_5 : decode cX5_alarm 5 = .ok (.iconst 1, 1) := by decide +kernel
theorem dX5_alarm_6 : decode cX5_alarm 6 = .ok (.iadd, 1) := by decide +kernel
theorem dX5_alarm_7 : decode cX5_alarm 7 = .ok (.putfield 170, 3) := by decide +kernel
theorem dX5_alarm_10 : decode cX5_alarm 10 = .ok (.iload_n 1, 1) := by decide +kernel
theorem dX5_alarm_11 : decode cX5_alarm 11 = .ok (.ireturn, 1) := by decide +kernel
theorem dX5_gateAt_0 : decode cX5_gateAt 0 = .ok (.iload_n 1, 1) := by decide +kernel
theorem dX5_gateAt_1 : decode cX5_gateAt 1 = .ok (.ifCond .lt 29, 3) := by decide +kernel
theorem dX5_gateAt_4 : decode cX5_gateAt 4 = .ok (.iload_n 1, 1) := by decide +kernel
theorem dX5_gateAt_5 : decode cX5_gateAt 5 = .ok (.aload_n 0, 1) := by decide +kernel
theorem dX5_gateAt_6 : decode cX5_gateAt 6 = .ok (.getfield 27, 3) := by decide +kernel
theorem dX5_gateAt_9 : decode cX5_gateAt 9 = .ok (.if_icmp .ge 21, 3) := by decide +kernel
theorem dX5_gateAt_12 : decode cX5_gateAt 12 = .ok (.iload_n 1, 1) := by decide +kernel
theorem dX5_gateAt_13 : decode cX5_gateAt 13 = .ok (.aload_n 0, 1) := by decide +kernel
theorem dX5_gateAt_14 : decode cX5_gateAt 14 = .ok (.getfield 11, 3) := by decide +kernel
theorem dX5_gateAt_17 : decode cX5_gateAt 17 = .ok (.arraylength, 1) := by decide +kernel
theorem dX5_gateAt_18 : decode cX5_gateAt 18 = .ok (.if_icmp .ge 12, 3) := by decide +kernel
theorem dX5_gateAt_21 : decode cX5_gateAt 21 = .ok (.aload_n 0, 1) := by decide +kernel
theorem dX5_gateAt_22 : decode cX5_gateAt 22 = .ok (.getfield 11, 3) := by decide +kernel
theorem dX5_gateAt_25 : decode cX5_gateAt 25 = .ok (.iload_n 1, 1) := by decide +kernel
theorem dX5_gateAt_26 : decode cX5_gateAt 26 = .ok (.aaload, 1) := by decide +kernel
theorem dX5_gateAt_27 : decode cX5_gateAt 27 = .ok (.goto 4, 3) := by decide +kernel
theorem dX5_gateAt_30 : decode cX5_gateAt 30 = .ok (.aconst_null, 1) := by decide +kernel
theorem dX5_gateAt_31 : decode cX5_gateAt 31 = .ok (.areturn, 1) := by decide +kernel
theorem dX5_rampAt_0 : decode cX5_rampAt 0 = .ok (.iload_n 1, 1) := by decide +kernel
theorem dX5_rampAt_1 : decode cX5_rampAt 1 = .ok (.ifCond .lt 29, 3) := by decide +kernel
theorem dX5_rampAt_4 : decode cX5_rampAt 4 = .ok (.iload_n 1, 1) := by decide +kernel
theorem dX5_rampAt_5 : decode cX5_rampAt 5 = .ok (.aload_n 0, 1) := by decide +kernel
theorem dX5_rampAt_6 : decode cX5_rampAt 6 = .ok (.getfield 38, 3) := by decide +kernel
theorem dX5_rampAt_9 : decode cX5_rampAt 9 = .ok (.if_icmp .ge 21, 3) := by decide +kernel
theorem dX5_rampAt_12 : decode cX5_rampAt 12 = .ok (.iload_n 1, 1) := by decide +kernel
theorem dX5_rampAt_13 : decode cX5_rampAt 13 = .ok (.aload_n 0, 1) := by decide +kernel
theorem dX5_rampAt_14 : decode cX5_rampAt 14 = .ok (.getfield 17, 3) := by decide +kernel
theorem dX5_rampAt_17 : decode cX5_rampAt 17 = .ok (.arraylength, 1) := by decide +kernel
theorem dX5_rampAt_18 : decode cX5_rampAt 18 = .ok (.if_icmp .ge 12, 3) := by decide +kernel
theorem dX5_rampAt_21 : decode cX5_rampAt 21 = .ok (.aload_n 0, 1) := by decide +kernel
theorem dX5_rampAt_22 : decode cX5_rampAt 22 = .ok (.getfield 17, 3) := by decide +kernel
theorem dX5_rampAt_25 : decode cX5_rampAt 25 = .ok (.iload_n 1, 1) := by decide +kernel
theorem dX5_rampAt_26 : decode cX5_rampAt 26 = .ok (.aaload, 1) := by decide +kernel
theorem dX5_rampAt_27 : decode cX5_rampAt 27 = .ok (.goto 4, 3) := by decide +kernel
theorem dX5_rampAt_30 : decode cX5_rampAt 30 = .ok (.aconst_null, 1) := by decide +kernel
theorem dX5_rampAt_31 : decode cX5_rampAt 31 = .ok (.areturn, 1) := by decide +kernel
theorem dX5_berthAt_0 : decode cX5_berthAt 0 = .ok (.iload_n 1, 1) := by decide +kernel
theorem dX5_berthAt_1 : decode cX5_berthAt 1 = .ok (.ifCond .lt 29, 3) := by decide +kernel
theorem dX5_berthAt_4 : decode cX5_berthAt 4 = .ok (.iload_n 1, 1) := by decide +kernel
theorem dX5_berthAt_5 : decode cX5_berthAt 5 = .ok (.aload_n 0, 1) := by decide +kernel
theorem dX5_berthAt_6 : decode cX5_berthAt 6 = .ok (.getfield 44, 3) := by decide +kernel
theorem dX5_berthAt_9 : decode cX5_berthAt 9 = .ok (.if_icmp .ge 21, 3) := by decide +kernel
theorem dX5_berthAt_12 : decode cX5_berthAt 12 = .ok (.iload_n 1, 1) := by decide +kernel
theorem dX5_berthAt_13 : decode cX5_berthAt 13 = .ok (.aload_n 0, 1) := by decide +kernel
theorem dX5_berthAt_14 : decode cX5_berthAt 14 = .ok (.getfield 23, 3) := by decide +kernel
theorem dX5_berthAt_17 : decode cX5_berthAt 17 = .ok (.arraylength, 1) := by decide +kernel
theorem dX5_berthAt_18 : decode cX5_berthAt 18 = .ok (.if_icmp .ge 12, 3) := by decide +kernel
theorem dX5_berthAt_21 : decode cX5_berthAt 21 = .ok (.aload_n 0, 1) := by decide +kernel
theorem dX5_berthAt_22 : decode cX5_berthAt 22 = .ok (.getfield 23, 3) := by decide +kernel
theorem dX5_berthAt_25 : decode cX5_berthAt 25 = .ok (.iload_n 1, 1) := by decide +kernel
theorem dX5_berthAt_26 : decode cX5_berthAt 26 = .ok (.aaload, 1) := by decide +kernel
theorem dX5_berthAt_27 : decode cX5_berthAt 27 = .ok (.goto 4, 3) := by decide +kernel
theorem dX5_berthAt_30 : decode cX5_berthAt 30 = .ok (.aconst_null, 1) := by decide +kernel
theorem dX5_berthAt_31 : decode cX5_berthAt 31 = .ok (.areturn, 1) := by decide +kernel
theorem dX5_isWithin_0 : decode cX5_isWithin 0 = .ok (.iload_n 0, 1) := by decide +kernel
theorem dX5_isWithin_1 : decode cX5_isWithin 1 = .ok (.iload_n 1, 1) := by decide +kernel
theorem dX5_isWithin_2 : decode cX5_isWithin 2 = .ok (.if_icmp .lt 12, 3) := by decide +kernel
theorem dX5_isWithin_5 : decode cX5_isWithin 5 = .ok (.iload_n 0, 1) := by decide +kernel
theorem dX5_isWithin_6 : decode cX5_isWithin 6 = .ok (.iload_n 2, 1) := by decide +kernel
theorem dX5_isWithin_7 : decode cX5_isWithin 7 = .ok (.if_icmp .gt 7, 3) := by decide +kernel
theorem dX5_isWithin_10 : decode cX5_isWithin 10 = .ok (.iconst 1, 1) := by decide +kernel
theorem dX5_isWithin_11 : decode cX5_isWithin 11 = .ok (.goto 4, 3) := by decide +kernel
theorem dX5_isWithin_14 : decode cX5_isWithin 14 = .ok (.iconst 0, 1) := by decide +kernel
theorem dX5_isWithin_15 : decode cX5_isWithin 15 = .ok (.ireturn, 1) := by decide +kernel
