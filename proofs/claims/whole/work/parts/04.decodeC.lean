theorem dX6_init_0 : decode cX6_init 0 = .ok (.aload_n 0, 1) := by decide +kernel
theorem dX6_init_1 : decode cX6_init 1 = .ok (.invokespecial 1, 3) := by decide +kernel
theorem dX6_init_4 : decode cX6_init 4 = .ok (.aload_n 0, 1) := by decide +kernel
theorem dX6_init_5 : decode cX6_init 5 = .ok (.bipush 16, 2) := by decide +kernel
theorem dX6_init_7 : decode cX6_init 7 = .ok (.newarray .boolean, 2) := by decide +kernel
theorem dX6_init_9 : decode cX6_init 9 = .ok (.putfield 7, 3) := by decide +kernel
theorem dX6_init_12 : decode cX6_init 12 = .ok (.aload_n 0, 1) := by decide +kernel
theorem dX6_init_13 : decode cX6_init 13 = .ok (.bipush 16, 2) := by decide +kernel
theorem dX6_init_15 : decode cX6_init 15 = .ok (.newarray .int, 2) := by decide +kernel
theorem dX6_init_17 : decode cX6_init 17 = .ok (.putfield 13, 3) := by decide +kernel
theorem dX6_init_20 : decode cX6_init 20 = .ok (.aload_n 0, 1) := by decide +kernel
theorem dX6_init_21 : decode cX6_init 21 = .ok (.bipush 16, 2) := by decide +kernel
theorem dX6_init_23 : decode cX6_init 23 = .ok (.newarray .int, 2) := by decide +kernel
theorem dX6_init_25 : decode cX6_init 25 = .ok (.putfield 17, 3) := by decide +kernel
theorem dX6_init_28 : decode cX6_init 28 = .ok (.aload_n 0, 1) := by decide +kernel
theorem dX6_init_29 : decode cX6_init 29 = .ok (.bipush 16, 2) := by decide +kernel
theorem dX6_init_31 : decode cX6_init 31 = .ok (.newarray .int, 2) := by decide +kernel
theorem dX6_init_33 : decode cX6_init 33 = .ok (.putfield 20, 3) := by decide +kernel
theorem dX6_init_36 : decode cX6_init 36 = .ok (.aload_n 0, 1) := by decide +kernel
theorem dX6_init_37 : decode cX6_init 37 = .ok (.bipush 16, 2) := by decide +kernel
theorem dX6_init_39 : decode cX6_init 39 = .ok (.newarray .int, 2) := by decide +kernel
theorem dX6_init_41 : decode cX6_init 41 = .ok (.putfield 23, 3) := by decide +kernel
theorem dX6_init_44 : decode cX6_init 44 = .ok (.aload_n 0, 1) := by decide +kernel
theorem dX6_init_45 : decode cX6_init 45 = .ok (.bipush 16, 2) := by decide +kernel
theorem dX6_init_47 : decode cX6_init 47 = .ok (.newarray .int, 2) := by decide +kernel
theorem dX6_init_49 : decode cX6_init 49 = .ok (.putfield 26, 3) := by decide +kernel
theorem dX6_init_52 : decode cX6_init 52 = .ok (.aload_n 0, 1) := by decide +kernel
theorem dX6_init_53 : decode cX6_init 53 = .ok (.bipush 8, 2) := by decide +kernel
theorem dX6_init_55 : decode cX6_init 55 = .ok (.newarray .int, 2) := by decide +kernel
theorem dX6_init_57 : decode cX6_init 57 = .ok (.putfield 29, 3) := by decide +kernel
theorem dX6_init_60 : decode cX6_init 60 = .ok (.aload_n 0, 1) := by decide +kernel
theorem dX6_init_61 : decode cX6_init 61 = .ok (.bipush 8, 2) := by decide +kernel
theorem dX6_init_63 : decode cX6_init 63 = .ok (.newarray .int, 2) := by decide +kernel
theorem dX6_init_65 : decode cX6_init 65 = .ok (.putfield 32, 3) := by decide +kernel
theorem dX6_init_68 : decode cX6_init 68 = .ok (.aload_n 0, 1) := by decide +kernel
theorem dX6_init_69 : decode cX6_init 69 = .ok (.bipush 8, 2) := by decide +kernel
theorem dX6_init_71 : decode cX6_init 71 = .ok (.newarray .int, 2) := by decide +kernel
theorem dX6_init_73 : decode cX6_init 73 = .ok (.putfield 35, 3) := by decide +kernel
theorem dX6_init_76 : decode cX6_init 76 = .ok (.aload_n 0, 1) := by decide +kernel
theorem dX6_init_77 : decode cX6_init 77 = .ok (.bipush 8, 2) := by decide +kernel
theorem dX6_init_79 : decode cX6_init 79 = .ok (.newarray .int, 2) := by decide +kernel
theorem dX6_init_81 : decode cX6_init 81 = .ok (.putfield 38, 3) := by decide +kernel
theorem dX6_init_84 : decode cX6_init 84 = .ok (.aload_n 0, 1) := by decide +kernel
theorem dX6_init_85 : decode cX6_init 85 = .ok (.sipush 240, 3) := by decide +kernel
theorem dX6_init_88 : decode cX6_init 88 = .ok (.newarray .int, 2) := by decide +kernel
theorem dX6_init_90 : decode cX6_init 90 = .ok (.putfield 41, 3) := by decide +kernel
theorem dX6_init_93 : decode cX6_init 93 = .ok (.aload_n 0, 1) := by decide +kernel
theorem dX6_init_94 : decode cX6_init 94 = .ok (.bipush 8, 2) := by decide +kernel
theorem dX6_init_96 : decode cX6_init 96 = .ok (.newarray .int, 2) := by decide +kernel
theorem dX6_init_98 : decode cX6_init 98 = .ok (.putfield 44, 3) := by decide +kernel
theorem dX6_init_101 : decode cX6_init 101 = .ok (.aload_n 0, 1) := by decide +kernel
theorem dX6_init_102 : decode cX6_init 102 = .ok (.bipush 8, 2) := by decide +kernel
theorem dX6_init_104 : decode cX6_init 104 = .ok (.newarray .int, 2) := by decide +kernel
theorem dX6_init_106 : decode cX6_init 106 = .ok (.putfield 47, 3) := by decide +kernel
theorem dX6_init_109 : decode cX6_init 109 = .ok (.aload_n 0, 1) := by decide +kernel
theorem dX6_init_110 : decode cX6_init 110 = .ok (.bipush 8, 2) := by decide +kernel
theorem dX6_init_112 : decode cX6_init 112 = .ok (.newarray .int, 2) := by decide +kernel
theorem dX6_init_114 : decode cX6_init 114 = .ok (.putfield 50, 3) := by decide +kernel
theorem dX6_init_117 : decode cX6_init 117 = .ok (.aload_n 0, 1) := by decide +kernel
theorem dX6_init_118 : decode cX6_init 118 = .ok (.sipush 320, 3) := by decide +kernel
theorem dX6_init_121 : decode cX6_init 121 = .ok (.newarray .int, 2) := by decide +kernel
theorem dX6_init_123 : decode cX6_init 123 = .ok (.putfield 53, 3) := by decide +kernel
theorem dX6_init_126 : decode cX6_init 126 = .ok (.return_, 1) := by decide +kernel
theorem dX6_isGate_0 : decode cX6_isGate 0 = .ok (.iload_n 1, 1) := by decide +kernel
theorem dX6_isGate_1 : decode cX6_isGate 1 = .ok (.ifCond .lt 15, 3) := by decide +kernel
theorem dX6_isGate_4 : decode cX6_isGate 4 = .ok (.iload_n 1, 1) := by decide +kernel
theorem dX6_isGate_5 : decode cX6_isGate 5 = .ok (.aload_n 0, 1) := by decide +kernel
theorem dX6_isGate_6 : decode cX6_isGate 6 = .ok (.getfield 56, 3) := by decide +kernel
theorem dX6_isGate_9 : decode cX6_isGate 9 = .ok (.if_icmp .ge 7, 3) := by decide +kernel
theorem dX6_isGate_12 : decode cX6_isGate 12 = .ok (.iconst 1, 1) := by decide +kernel
theorem dX6_isGate_13 : decode cX6_isGate 13 = .ok (.goto 4, 3) := by decide +kernel
theorem dX6_isGate_16 : decode cX6_isGate 16 = .ok (.iconst 0, 1) := by decide +kernel
theorem dX6_isGate_17 : decode cX6_isGate 17 = .ok (.ireturn, 1) := by decide +kernel
theorem dX6_isRamp_0 : decode cX6_isRamp 0 = .ok (.iload_n 1, 1) := by decide +kernel
theorem dX6_isRamp_1 : decode cX6_isRamp 1 = .ok (.ifCond .lt 15, 3) := by decide +kernel
theorem dX6_isRamp_4 : decode cX6_isRamp 4 = .ok (.iload_n 1, 1) := by decide +kernel
theorem dX6_isRamp_5 : decode cX6_isRamp 5 = .ok (.aload_n 0, 1) := by decide +kernel
theorem dX6_isRamp_6 : decode cX6_isRamp 6 = .ok (.getfield 60, 3) := by decide +kernel
theorem dX6_isRamp_9 : decode cX6_isRamp 9 = .ok (.if_icmp .ge 7, 3) := by decide +kernel
theorem dX6_isRamp_12 : decode cX6_isRamp 12 = .ok (.iconst 1, 1) := by decide +kernel
theorem dX6_isRamp_13 : decode cX6_isRamp 13 = .ok (.goto 4, 3) := by decide +kernel
theorem dX6_isRamp_16 : decode cX6_isRamp 16 = .ok (.iconst 0, 1) := by decide +kernel
theorem dX6_isRamp_17 : decode cX6_isRamp 17 = .ok (.ireturn, 1) := by decide +kernel
theorem dX6_isBerth_0 : decode cX6_isBerth 0 = .ok (.iload_n 1, 1) := by decide +kernel
theorem dX6_isBerth_1 : decode cX6_isBerth 1 = .ok (.ifCond .lt 15, 3) := by decide +kernel
theorem dX6_isBerth_4 : decode cX6_isBerth 4 = .ok (.iload_n 1, 1) := by decide +kernel
theorem dX6_isBerth_5 : decode cX6_isBerth 5 = .ok (.aload_n 0, 1) := by decide +kernel
theorem dX6_isBerth_6 : decode cX6_isBerth 6 = .ok (.getfield 63, 3) := by decide +kernel
theorem dX6_isBerth_9 : decode cX6_isBerth 9 = .ok (.if_icmp .ge 7, 3) := by decide +kernel
theorem dX6_isBerth_12 : decode cX6_isBerth 12 = .ok (.iconst 1, 1) := by decide +kernel
theorem dX6_isBerth_13 : decode cX6_isBerth 13 = .ok (.goto 4, 3) := by decide +kernel
theorem dX6_isBerth_16 : decode cX6_isBerth 16 = .ok (.iconst 0, 1) := by decide +kernel
theorem dX6_isBerth_17 : decode cX6_isBerth 17 = .ok (.ireturn, 1) := by decide +kernel
theorem dX6_alarm_0 : decode cX6_alarm 0 = .ok (.aload_n 0, 1) := by decide +kernel
theorem dX6_alarm_1 : decode cX6_alarm 1 = .ok (.dup, 1) := by decide +kernel
theorem dX6_alarm_2 : decode cX6_alarm 2 = .ok (.getfield 66, 3) := by decide +kernel
theorem dX6_alarm_5 : decode cX6_alarm 5 = .ok (.iconst 1, 1) := by decide +kernel
theorem dX6_alarm_6 : decode cX6_alarm 6 = .ok (.iadd, 1) := by decide +kernel
theorem dX6_alarm_7 : decode cX6_alarm 7 = .ok (.putfield 66, 3) := by decide +kernel
theorem dX6_alarm_10 : decode cX6_alarm 10 = .ok (.iload_n 1, 1) := by decide +kernel
theorem dX6_alarm_11 : decode cX6_alarm 11 = .ok (.ireturn, 1) := by decide +kernel
theorem dX6_gate_0 : decode cX6_gate 0 = .ok (.aload_n 0, 1) := by decide +kernel
theorem dX6_gate_1 : decode cX6_gate 1 = .ok (.getfield 56, 3) := by decide +kernel
theorem dX6_gate_4 : decode cX6_gate 4 = .ok (.bipush 16, 2) := by decide +kernel
theorem dX6_gate_6 : decode cX6_gate 6 = .ok (.if_icmp .ne 6, 3) := by decide +kernel
theorem dX6_gate_9 : decode cX6_gate 9 = .ok (.bipush (-3), 2) := by decide +kernel
theorem dX6_gate_11 : decode cX6_gate 11 = .ok (.ireturn, 1) := by decide +kernel
theorem dX6_gate_12 : decode cX6_gate 12 = .ok (.aload_n 0, 1) := by decide +kernel
theorem dX6_gate_13 : decode cX6_gate 13 = .ok (.dup, 1) := by decide +kernel
theorem dX6_gate_14 : decode cX6_gate 14 = .ok (.getfield 56, 3) := by decide +kernel
theorem dX6_gate_17 : decode cX6_gate 17 = .ok (.iconst 1, 1) := by decide +kernel
theorem dX6_gate_18 : decode cX6_gate 18 = .ok (.iadd, 1) := by decide +kernel
theorem dX6_gate_19 : decode cX6_gate 19 = .ok (.putfield 56, 3) := by decide +kernel
theorem dX6_gate_22 : decode cX6_gate 22 = .ok (.aload_n 0, 1) := by decide +kernel
theorem dX6_gate_23 : decode cX6_gate 23 = .ok (.getfield 56, 3) := by decide +kernel
theorem dX6_gate_26 : decode cX6_gate 26 = .ok (.iconst 1, 1) := by decide +kernel
theorem dX6_gate_27 : decode cX6_gate 27 = .ok (.isub, 1) := by decide +kernel
theorem dX6_gate_28 : decode cX6_gate 28 = .ok (.ireturn, 1) := by decide +kernel
theorem dX6_ramp_0 : decode cX6_ramp 0 = .ok (.iload_n 1, 1) := by decide +kernel
theorem dX6_ramp_1 : decode cX6_ramp 1 = .ok (.iconst 1, 1) := by decide +kernel
theorem dX6_ramp_2 : decode cX6_ramp 2 = .ok (.if_icmp .lt 10, 3) := by decide +kernel
theorem dX6_ramp_5 : decode cX6_ramp 5 = .ok (.iload_n 1, 1) := by decide +kernel
theorem dX6_ramp_6 : decode cX6_ramp 6 = .ok (.sipush 1000, 3) := by decide +kernel
theorem dX6_ramp_9 : decode cX6_ramp 9 = .ok (.if_icmp .le 6, 3) := by decide +kernel
theorem dX6_ramp_12 : decode cX6_ramp 12 = .ok (.bipush (-2), 2) := by decide +kernel
theorem dX6_ramp_14 : decode cX6_ramp 14 = .ok (.ireturn, 1) := by decide +kernel
theorem dX6_ramp_15 : decode cX6_ramp 15 = .ok (.aload_n 0, 1) := by decide +kernel
theorem dX6_ramp_16 : decode cX6_ramp 16 = .ok (.getfield 60, 3) := by decide +kernel
theorem dX6_ramp_19 : decode cX6_ramp 19 = .ok (.bipush 16, 2) := by decide +kernel
theorem dX6_ramp_21 : decode cX6_ramp 21 = .ok (.if_icmp .ne 6, 3) := by decide +kernel
theorem dX6_ramp_24 : decode cX6_ramp 24 = .ok (.bipush (-3), 2) := by decide +kernel
theorem dX6_ramp_26 : decode cX6_ramp 26 = .ok (.ireturn, 1) := by decide +kernel
theorem dX6_ramp_27 : decode cX6_ramp 27 = .ok (.aload_n 0, 1) := by decide +kernel
theorem dX6_ramp_28 : decode cX6_ramp 28 = .ok (.getfield 20, 3) := by decide +kernel
theorem dX6_ramp_31 : decode cX6_ramp 31 = .ok (.aload_n 0, 1) := by decide +kernel
theorem dX6_ramp_32 : decode cX6_ramp 32 = .ok (.getfield 60, 3) := by decide +kernel
theorem dX6_ramp_35 : decode cX6_ramp 35 = .ok (.iload_n 1, 1) := by decide +kernel
theorem dX6_ramp_36 : decode cX6_ramp 36 = .ok (.iastore, 1) := by decide +kernel
theorem dX6_ramp_37 : decode cX6_ramp 37 = .ok (.aload_n 0, 1) := by decide +kernel
theorem dX6_ramp_38 : decode cX6_ramp 38 = .ok (.dup, 1) := by decide +kernel
theorem dX6_ramp_39 : decode cX6_ramp 39 = .ok (.getfield 60, 3) := by decide +kernel
theorem dX6_ramp_42 : decode cX6_ramp 42 = .ok (.iconst 1, 1) := by decide +kernel
theorem dX6_ramp_43 : decode cX6_ramp 43 = .ok (.iadd, 1) := by decide +kernel
theorem dX6_ramp_44 : decode cX6_ramp 44 = .ok (.putfield 60, 3) := by decide +kernel
theorem dX6_ramp_47 : decode cX6_ramp 47 = .ok (.aload_n 0, 1) := by decide +kernel
theorem dX6_ramp_48 : decode cX6_ramp 48 = .ok (.getfield 60, 3) := by decide +kernel
theorem dX6_ramp_51 : decode cX6_ramp 51 = .ok (.iconst 1, 1) := by decide +kernel
theorem dX6_ramp_52 : decode cX6_ramp 52 = .ok (.isub, 1) := by decide +kernel
theorem dX6_ramp_53 : decode cX6_ramp 53 = .ok (.ireturn, 1) := by decide +kernel
theorem dX6_berth_0 : decode cX6_berth 0 = .ok (.iload_n 1, 1) := by decide +kernel
theorem dX6_berth_1 : decode cX6_berth 1 = .ok (.ifCond .lt 10, 3) := by decide +kernel
theorem dX6_berth_4 : decode cX6_berth 4 = .ok (.iload_n 1, 1) := by decide +kernel
theorem dX6_berth_5 : decode cX6_berth 5 = .ok (.sipush 10000, 3) := by decide +kernel
theorem dX6_berth_8 : decode cX6_berth 8 = .ok (.if_icmp .le 6, 3) := by decide +kernel
theorem dX6_berth_11 : decode cX6_berth 11 = .ok (.bipush (-2), 2) := by decide +kernel
theorem dX6_berth_13 : decode cX6_berth 13 = .ok (.ireturn, 1) := by decide +kernel
theorem dX6_berth_14 : decode cX6_berth 14 = .ok (.aload_n 0, 1) := by decide +kernel
theorem dX6_berth_15 : decode cX6_berth 15 = .ok (.getfield 63, 3) := by decide +kernel
theorem dX6_berth_18 : decode cX6_berth 18 = .ok (.bipush 8, 2) := by decide +kernel
theorem dX6_berth_20 : decode cX6_berth 20 = .ok (.if_icmp .ne 6, 3) := by decide +kernel
theorem dX6_berth_23 : decode cX6_berth 23 = .ok (.bipush (-3), 2) := by decide +kernel
theorem dX6_berth_25 : decode cX6_berth 25 = .ok (.ireturn, 1) := by decide +kernel
theorem dX6_berth_26 : decode cX6_berth 26 = .ok (.aload_n 0, 1) := by decide +kernel
theorem dX6_berth_27 : decode cX6_berth 27 = .ok (.getfield 44, 3) := by decide +kernel
theorem dX6_berth_30 : decode cX6_berth 30 = .ok (.aload_n 0, 1) := by decide +kernel
theorem dX6_berth_31 : decode cX6_berth 31 = .ok (.getfield 63, 3) := by decide +kernel
theorem dX6_berth_34 : decode cX6_berth 34 = .ok (.iload_n 1, 1) := by decide +kernel
theorem dX6_berth_35 : decode cX6_berth 35 = .ok (.iastore, 1) := by decide +kernel
theorem dX6_berth_36 : decode cX6_berth 36 = .ok (.aload_n 0, 1) := by decide +kernel
theorem dX6_berth_37 : decode cX6_berth 37 = .ok (.getfield 29, 3) := by decide +kernel
theorem dX6_berth_40 : decode cX6_berth 40 = .ok (.aload_n 0, 1) := by decide +kernel
theorem dX6_berth_41 : decode cX6_berth 41 = .ok (.getfield 63, 3) := by decide +kernel
theorem dX6_berth_44 : decode cX6_berth 44 = .ok (.iconst (-1), 1) := by decide +kernel
theorem dX6_berth_45 : decode cX6_berth 45 = .ok (.iastore, 1) := by decide +kernel
theorem dX6_berth_46 : decode cX6_berth 46 = .ok (.aload_n 0, 1) := by decide +kernel
theorem dX6_berth_47 : decode cX6_berth 47 = .ok (.getfield 32, 3) := by decide +kernel
theorem dX6_berth_50 : decode cX6_berth 50 = .ok (.aload_n 0, 1) := by decide +kernel
theorem dX6_berth_51 : decode cX6_berth 51 = .ok (.getfield 63, 3) := by decide +kernel
theorem dX6_berth_54 : decode cX6_berth 54 = .ok (.iconst (-1), 1) := by decide +kernel
theorem dX6_berth_55 : decode cX6_berth 55 = .ok (.iastore, 1) := by decide +kernel
theorem dX6_berth_56 : decode cX6_berth 56 = .ok (.aload_n 0, 1) := by decide +kernel
theorem dX6_berth_57 : decode cX6_berth 57 = .ok (.getfield 35, 3) := by decide +kernel
theorem dX6_berth_60 : decode cX6_berth 60 = .ok (.aload_n 0, 1) := by decide +kernel
theorem dX6_berth_61 : decode cX6_berth 61 = .ok (.getfield 63, 3) := by decide +kernel
theorem dX6_berth_64 : decode cX6_berth 64 = .ok (.aload_n 0, 1) := by decide +kernel
theorem dX6_berth_65 : decode cX6_berth 65 = .ok (.getfield 63, 3) := by decide +kernel
theorem dX6_berth_68 : decode cX6_berth 68 = .ok (.iastore, 1) := by decide +kernel
theorem dX6_berth_69 : decode cX6_berth 69 = .ok (.aload_n 0, 1) := by decide +kernel
theorem dX6_berth_70 : decode cX6_berth 70 = .ok (.dup, 1) := by decide +kernel
theorem dX6_berth_71 : decode cX6_berth 71 = .ok (.getfield 63, 3) := by decide +kernel
theorem dX6_berth_74 : decode cX6_berth 74 = .ok (.iconst 1, 1) := by decide +kernel
theorem dX6_berth_75 : decode cX6_berth 75 = .ok (.iadd, 1) := by decide +kernel
theorem dX6_berth_76 : decode cX6_berth 76 = .ok (.putfield 63, 3) := by decide +kernel
theorem dX6_berth_79 : decode cX6_berth 79 = .ok (.aload_n 0, 1) := by decide +kernel
theorem dX6_berth_80 : decode cX6_berth 80 = .ok (.getfield 63, 3) := by decide +kernel
theorem dX6_berth_83 : decode cX6_berth 83 = .ok (.iconst 1, 1) := by decide +kernel
theorem dX6_berth_84 : decode cX6_berth 84 = .ok (.isub, 1) := by decide +kernel
theorem dX6_berth_85 : decode cX6_berth 85 = .ok (.ireturn, 1) := by decide +kernel
set_option maxRecDepth 20000 in
theorem ggX6_hinge_X6_isBerth : GoodIn wsX6_hinge wsX6_isBerth := goodIn_r _ [6, 7, 13, 14, 15, 16, 17, 18, 19, 20, 21, 22, 23, 24, 25, 26, 27, 28, 29, 30, 31, 32, 33, 34] (by decide +kernel) (by decide +kernel)
set_option maxRecDepth 20000 in
theorem gX6_hinge_X6_isBerth : GoodIn wsX6_hinge (wsV RX6 69 RX6 yX6_isBerth wsX6_isBerth) := goodIn_app (goodIn_of _ (by decide +kernel)) ggX6_hinge_X6_isBerth
set_option maxRecDepth 20000 in
theorem ggX6_hinge_X6_isGate : GoodIn wsX6_hinge wsX6_isGate := goodIn_r _ [11, 12, 13, 14, 15, 16, 17, 18, 19, 20, 21, 22, 23, 24, 25, 26, 27, 28, 29, 30, 31, 32, 33, 34] (by decide +kernel) (by decide +kernel)
set_option maxRecDepth 20000 in
theorem gX6_hinge_X6_isGate : GoodIn wsX6_hinge (wsV RX6 73 RX6 yX6_isGate wsX6_isGate) := goodIn_app (goodIn_of _ (by decide +kernel)) ggX6_hinge_X6_isGate
theorem dX6_hinge_0 : decode cX6_hinge 0 = .ok (.aload_n 0, 1) := by decide +kernel
theorem dX6_hinge_1 : decode cX6_hinge 1 = .ok (.iload_n 1, 1) := by decide +kernel
theorem dX6_hinge_2 : decode cX6_hinge 2 = .ok (.invokevirtual 69, 3) := by decide +kernel
theorem dX6_hinge_5 : decode cX6_hinge 5 = .ok (.ifCond .eq 16, 3) := by decide +kernel
theorem dX6_hinge_8 : decode cX6_hinge 8 = .ok (.iload_n 2, 1) := by decide +kernel
theorem dX6_hinge_9 : decode cX6_hinge 9 = .ok (.iconst (-1), 1) := by decide +kernel
theorem dX6_hinge_10 : decode cX6_hinge 10 = .ok (.if_icmp .eq 14, 3) := by decide +kernel
theorem dX6_hinge_13 : decode cX6_hinge 13 = .ok (.aload_n 0, 1) := by decide +kernel
theorem dX6_hinge_14 : decode cX6_hinge 14 = .ok (.iload_n 2, 1) := by decide +kernel
theorem dX6_hinge_15 : decode cX6_hinge 15 = .ok (.invokevirtual 73, 3) := by decide +kernel
theorem dX6_hinge_18 : decode cX6_hinge 18 = .ok (.ifCond .ne 6, 3) := by decide +kernel
theorem dX6_hinge_21 : decode cX6_hinge 21 = .ok (.bipush (-2), 2) := by decide +kernel
theorem dX6_hinge_23 : decode cX6_hinge 23 = .ok (.ireturn, 1) := by decide +kernel
theorem dX6_hinge_24 : decode cX6_hinge 24 = .ok (.aload_n 0, 1) := by decide +kernel
theorem dX6_hinge_25 : decode cX6_hinge 25 = .ok (.getfield 29, 3) := by decide +kernel
theorem dX6_hinge_28 : decode cX6_hinge 28 = .ok (.iload_n 1, 1) := by decide +kernel
theorem dX6_hinge_29 : decode cX6_hinge 29 = .ok (.iaload, 1) := by decide +kernel
theorem dX6_hinge_30 : decode cX6_hinge 30 = .ok (.istore_n 3, 1) := by decide +kernel
theorem dX6_hinge_31 : decode cX6_hinge 31 = .ok (.aload_n 0, 1) := by decide +kernel
theorem dX6_hinge_32 : decode cX6_hinge 32 = .ok (.getfield 29, 3) := by decide +kernel
theorem dX6_hinge_35 : decode cX6_hinge 35 = .ok (.iload_n 1, 1) := by decide +kernel
theorem dX6_hinge_36 : decode cX6_hinge 36 = .ok (.iload_n 2, 1) := by decide +kernel
theorem dX6_hinge_37 : decode cX6_hinge 37 = .ok (.iastore, 1) := by decide +kernel
theorem dX6_hinge_38 : decode cX6_hinge 38 = .ok (.iload_n 3, 1) := by decide +kernel
theorem dX6_hinge_39 : decode cX6_hinge 39 = .ok (.ireturn, 1) := by decide +kernel
set_option maxRecDepth 20000 in
theorem ggX6_lay_X6_isBerth : GoodIn wsX6_lay wsX6_isBerth := goodIn_r _ [6, 7, 13, 14, 15, 16, 17, 18, 19, 20, 21, 22, 23, 24, 25, 26, 27, 28, 29, 30, 31, 32, 33, 34] (by decide +kernel) (by decide +kernel)
set_option maxRecDepth 20000 in
theorem gX6_lay_X6_isBerth : GoodIn wsX6_lay (wsV RX6 69 RX6 yX6_isBerth wsX6_isBerth) := goodIn_app (goodIn_of _ (by decide +kernel)) ggX6_lay_X6_isBerth
set_option maxRecDepth 20000 in
theorem ggX6_lay_X6_isRamp : GoodIn wsX6_lay wsX6_isRamp := goodIn_r _ [11, 12, 13, 14, 15, 16, 17, 18, 19, 20, 21, 22, 23, 24, 25, 26, 27, 28, 29, 30, 31, 32, 33, 34] (by decide +kernel) (by decide +kernel)
set_option maxRecDepth 20000 in
theorem gX6_lay_X6_isRamp : GoodIn wsX6_lay (wsV RX6 76 RX6 yX6_isRamp wsX6_isRamp) := goodIn_app (goodIn_of _ (by decide +kernel)) ggX6_lay_X6_isRamp
theorem dX6_lay_0 : decode cX6_lay 0 = .ok (.aload_n 0, 1) := by decide +kernel
theorem dX6_lay_1 : decode cX6_lay 1 = .ok (.iload_n 1, 1) := by decide +kernel
theorem dX6_lay_2 : decode cX6_lay 2 = .ok (.invokevirtual 69, 3) := by decide +kernel
theorem dX6_lay_5 : decode cX6_lay 5 = .ok (.ifCond .eq 16, 3) := by decide +kernel
theorem dX6_lay_8 : decode cX6_lay 8 = .ok (.iload_n 2, 1) := by decide +kernel
theorem dX6_lay_9 : decode cX6_lay 9 = .ok (.iconst (-1), 1) := by decide +kernel
theorem dX6_lay_10 : decode cX6_lay 10 = .ok (.if_icmp .eq 14, 3) := by decide +kernel
theorem dX6_lay_13 : decode cX6_lay 13 = .ok (.aload_n 0, 1) := by decide +kernel
theorem dX6_lay_14 : decode cX6_lay 14 = .ok (.iload_n 2, 1) := by decide +kernel
theorem dX6_lay_15 : decode cX6_lay 15 = .ok (.invokevirtual 76, 3) := by decide +kernel
theorem dX6_lay_18 : decode cX6_lay 18 = .ok (.ifCond .ne 6, 3) := by decide +kernel
theorem dX6_lay_21 : decode cX6_lay 21 = .ok (.bipush (-2), 2) := by decide +kernel
theorem dX6_lay_23 : decode cX6_lay 23 = .ok (.ireturn, 1) := by decide +kernel
theorem dX6_lay_24 : decode cX6_lay 24 = .ok (.aload_n 0, 1) := by decide +kernel
theorem dX6_lay_25 : decode cX6_lay 25 = .ok (.getfield 32, 3) := by decide +kernel
theorem dX6_lay_28 : decode cX6_lay 28 = .ok (.iload_n 1, 1) := by decide +kernel
theorem dX6_lay_29 : decode cX6_lay 29 = .ok (.iaload, 1) := by decide +kernel
theorem dX6_lay_30 : decode cX6_lay 30 = .ok (.istore_n 3, 1) := by decide +kernel
theorem dX6_lay_31 : decode cX6_lay 31 = .ok (.aload_n 0, 1) := by decide +kernel
theorem dX6_lay_32 : decode cX6_lay 32 = .ok (.getfield 32, 3) := by decide +kernel
theorem dX6_lay_35 : decode cX6_lay 35 = .ok (.iload_n 1, 1) := by decide +kernel
theorem dX6_lay_36 : decode cX6_lay 36 = .ok (.iload_n 2, 1) := by decide +kernel
theorem dX6_lay_37 : decode cX6_lay 37 = .ok (.iastore, 1) := by decide +kernel
theorem dX6_lay_38 : decode cX6_lay 38 = .ok (.iload_n 3, 1) := by decide +kernel
theorem dX6_lay_39 : decode cX6_lay 39 = .ok (.ireturn, 1) := by decide +kernel
set_option maxRecDepth 20000 in
theorem ggX6_shut_X6_isGate : GoodIn wsX6_shut wsX6_isGate := goodIn_r _ [6, 7, 8, 9, 10, 11, 12, 13, 14, 15, 16, 17, 18, 19, 20, 21, 22, 23, 24, 25, 26, 27, 28, 29] (by decide +kernel) (by decide +kernel)
set_option maxRecDepth 20000 in
theorem gX6_shut_X6_isGate : GoodIn wsX6_shut (wsV RX6 73 RX6 yX6_isGate wsX6_isGate) := goodIn_app (goodIn_of _ (by decide +kernel)) ggX6_shut_X6_isGate
theorem dX6_shut_0 : decode cX6_shut 0 = .ok (.aload_n 0, 1) := by decide +kernel
theorem dX6_shut_1 : decode cX6_shut 1 = .ok (.iload_n 1, 1) := by decide +kernel
theorem dX6_shut_2 : decode cX6_shut 2 = .ok (.invokevirtual 73, 3) := by decide +kernel
theorem dX6_shut_5 : decode cX6_shut 5 = .ok (.ifCond .ne 6, 3) := by decide +kernel
theorem dX6_shut_8 : decode cX6_shut 8 = .ok (.bipush (-2), 2) := by decide +kernel
theorem dX6_shut_10 : decode cX6_shut 10 = .ok (.ireturn, 1) := by decide +kernel
theorem dX6_shut_11 : decode cX6_shut 11 = .ok (.aload_n 0, 1) := by decide +kernel
theorem dX6_shut_12 : decode cX6_shut 12 = .ok (.getfield 7, 3) := by decide +kernel
theorem dX6_shut_15 : decode cX6_shut 15 = .ok (.iload_n 1, 1) := by decide +kernel
theorem dX6_shut_16 : decode cX6_shut 16 = .ok (.baload, 1) := by decide +kernel
theorem dX6_shut_17 : decode cX6_shut 17 = .ok (.ifCond .eq 7, 3) := by decide +kernel
theorem dX6_shut_20 : decode cX6_shut 20 = .ok (.iconst 1, 1) := by decide +kernel
theorem dX6_shut_21 : decode cX6_shut 21 = .ok (.goto 4, 3) := by decide +kernel
theorem dX6_shut_24 : decode cX6_shut 24 = .ok (.iconst 0, 1) := by decide +kernel
theorem dX6_shut_25 : decode cX6_shut 25 = .ok (.istore_n 3, 1) := by decide +kernel
theorem dX6_shut_26 : decode cX6_shut 26 = .ok (.aload_n 0, 1) := by decide +kernel
theorem dX6_shut_27 : decode cX6_shut 27 = .ok (.getfield 7, 3) := by decide +kernel
theorem dX6_shut_30 : decode cX6_shut 30 = .ok (.iload_n 1, 1) := by decide +kernel
theorem dX6_shut_31 : decode cX6_shut 31 = .ok (.iload_n 2, 1) := by decide +kernel
theorem dX6_shut_32 : decode cX6_shut 32 = .ok (.bastore, 1) := by decide +kernel
theorem dX6_shut_33 : decode cX6_shut 33 = .ok (.iload_n 3, 1) := by decide +kernel
theorem dX6_shut_34 : decode cX6_shut 34 = .ok (.ireturn, 1) := by decide +kernel
set_option maxRecDepth 20000 in
theorem ggX6_arrive_X6_isBerth : GoodIn wsX6_arrive wsX6_isBerth := goodIn_r _ [7, 8, 14, 15, 16, 17, 18, 19, 20, 21, 22, 23, 24, 25, 26, 27, 28, 29, 30, 31, 32, 33, 34, 35] (by decide +kernel) (by decide +kernel)
set_option maxRecDepth 20000 in
theorem gX6_arrive_X6_isBerth : GoodIn wsX6_arrive (wsV RX6 69 RX6 yX6_isBerth wsX6_isBerth) := goodIn_app (goodIn_of _ (by decide +kernel)) ggX6_arrive_X6_isBerth
set_option maxRecDepth 20000 in
theorem ggX6_arrive_X6_comes : GoodIn wsX6_arrive wsX6_comes := goodIn_r _ [12, 13, 1, 14, 15, 16, 17, 18, 19, 20, 21, 22, 23, 24, 25, 26, 27, 28, 29, 30, 31, 32, 33, 34, 35] (by decide +kernel) (by decide +kernel)
set_option maxRecDepth 20000 in
theorem gX6_arrive_X6_comes : GoodIn wsX6_arrive (wsV RX6 79 RX6 yX6_comes wsX6_comes) := goodIn_app (goodIn_of _ (by decide +kernel)) ggX6_arrive_X6_comes
theorem dX6_arrive_0 : decode cX6_arrive 0 = .ok (.aload_n 0, 1) := by decide +kernel
theorem dX6_arrive_1 : decode cX6_arrive 1 = .ok (.iload_n 1, 1) := by decide +kernel
theorem dX6_arrive_2 : decode cX6_arrive 2 = .ok (.invokevirtual 69, 3) := by decide +kernel
theorem dX6_arrive_5 : decode cX6_arrive 5 = .ok (.ifCond .eq 14, 3) := by decide +kernel
theorem dX6_arrive_8 : decode cX6_arrive 8 = .ok (.iload_n 2, 1) := by decide +kernel
theorem dX6_arrive_9 : decode cX6_arrive 9 = .ok (.ifCond .lt 10, 3) := by decide +kernel
theorem dX6_arrive_12 : decode cX6_arrive 12 = .ok (.iload_n 2, 1) := by decide +kernel
theorem dX6_arrive_13 : decode cX6_arrive 13 = .ok (.sipush 2000, 3) := by decide +kernel
theorem dX6_arrive_16 : decode cX6_arrive 16 = .ok (.if_icmp .le 6, 3) := by decide +kernel
theorem dX6_arrive_19 : decode cX6_arrive 19 = .ok (.bipush (-2), 2) := by decide +kernel
theorem dX6_arrive_21 : decode cX6_arrive 21 = .ok (.ireturn, 1) := by decide +kernel
theorem dX6_arrive_22 : decode cX6_arrive 22 = .ok (.aload_n 0, 1) := by decide +kernel
theorem dX6_arrive_23 : decode cX6_arrive 23 = .ok (.getfield 38, 3) := by decide +kernel
theorem dX6_arrive_26 : decode cX6_arrive 26 = .ok (.iload_n 1, 1) := by decide +kernel
theorem dX6_arrive_27 : decode cX6_arrive 27 = .ok (.iaload, 1) := by decide +kernel
theorem dX6_arrive_28 : decode cX6_arrive 28 = .ok (.bipush 30, 2) := by decide +kernel
theorem dX6_arrive_30 : decode cX6_arrive 30 = .ok (.if_icmp .ne 6, 3) := by decide +kernel
theorem dX6_arrive_33 : decode cX6_arrive 33 = .ok (.bipush (-3), 2) := by decide +kernel
theorem dX6_arrive_35 : decode cX6_arrive 35 = .ok (.ireturn, 1) := by decide +kernel
theorem dX6_arrive_36 : decode cX6_arrive 36 = .ok (.aload_n 0, 1) := by decide +kernel
theorem dX6_arrive_37 : decode cX6_arrive 37 = .ok (.iload_n 1, 1) := by decide +kernel
theorem dX6_arrive_38 : decode cX6_arrive 38 = .ok (.iload_n 2, 1) := by decide +kernel
theorem dX6_arrive_39 : decode cX6_arrive 39 = .ok (.invokevirtual 79, 3) := by decide +kernel
theorem dX6_arrive_42 : decode cX6_arrive 42 = .ok (.aload_n 0, 1) := by decide +kernel
theorem dX6_arrive_43 : decode cX6_arrive 43 = .ok (.dup, 1) := by decide +kernel
theorem dX6_arrive_44 : decode cX6_arrive 44 = .ok (.getfield 83, 3) := by decide +kernel
theorem dX6_arrive_47 : decode cX6_arrive 47 = .ok (.iconst 1, 1) := by decide +kernel
theorem dX6_arrive_48 : decode cX6_arrive 48 = .ok (.iadd, 1) := by decide +kernel
theorem dX6_arrive_49 : decode cX6_arrive 49 = .ok (.putfield 83, 3) := by decide +kernel
theorem dX6_arrive_52 : decode cX6_arrive 52 = .ok (.aload_n 0, 1) := by decide +kernel
theorem dX6_arrive_53 : decode cX6_arrive 53 = .ok (.getfield 38, 3) := by decide +kernel
theorem dX6_arrive_56 : decode cX6_arrive 56 = .ok (.iload_n 1, 1) := by decide +kernel
theorem dX6_arrive_57 : decode cX6_arrive 57 = .ok (.iaload, 1) := by decide +kernel
theorem dX6_arrive_58 : decode cX6_arrive 58 = .ok (.ireturn, 1) := by decide +kernel
theorem dX6_comes_0 : decode cX6_comes 0 = .ok (.aload_n 0, 1) := by decide +kernel
theorem dX6_comes_1 : decode cX6_comes 1 = .ok (.getfield 41, 3) := by decide +kernel
theorem dX6_comes_4 : decode cX6_comes 4 = .ok (.bipush 30, 2) := by decide +kernel
theorem dX6_comes_6 : decode cX6_comes 6 = .ok (.iload_n 1, 1) := by decide +kernel
theorem dX6_comes_7 : decode cX6_comes 7 = .ok (.imul, 1) := by decide +kernel
theorem dX6_comes_8 : decode cX6_comes 8 = .ok (.aload_n 0, 1) := by decide +kernel
theorem dX6_comes_9 : decode cX6_comes 9 = .ok (.getfield 38, 3) := by decide +kernel
theorem dX6_comes_12 : decode cX6_comes 12 = .ok (.iload_n 1, 1) := by decide +kernel
theorem dX6_comes_13 : decode cX6_comes 13 = .ok (.iaload, 1) := by decide +kernel
theorem dX6_comes_14 : decode cX6_comes 14 = .ok (.iadd, 1) := by decide +kernel
theorem dX6_comes_15 : decode cX6_comes 15 = .ok (.iload_n 2, 1) := by decide +kernel
theorem dX6_comes_16 : decode cX6_comes 16 = .ok (.iastore, 1) := by decide +kernel
theorem dX6_comes_17 : decode cX6_comes 17 = .ok (.aload_n 0, 1) := by decide +kernel
theorem dX6_comes_18 : decode cX6_comes 18 = .ok (.getfield 38, 3) := by decide +kernel
theorem dX6_comes_21 : decode cX6_comes 21 = .ok (.iload_n 1, 1) := by decide +kernel
theorem dX6_comes_22 : decode cX6_comes 22 = .ok (.dup2, 1) := by decide +kernel
theorem dX6_comes_23 : decode cX6_comes 23 = .ok (.iaload, 1) := by decide +kernel
theorem dX6_comes_24 : decode cX6_comes 24 = .ok (.iconst 1, 1) := by decide +kernel
theorem dX6_comes_25 : decode cX6_comes 25 = .ok (.iadd, 1) := by decide +kernel
theorem dX6_comes_26 : decode cX6_comes 26 = .ok (.iastore, 1) := by decide +kernel
theorem dX6_comes_27 : decode cX6_comes 27 = .ok (.return_, 1) := by decide +kernel
theorem dX6_goes_0 : decode cX6_goes 0 = .ok (.aload_n 0, 1) := by decide +kernel
theorem dX6_goes_1 : decode cX6_goes 1 = .ok (.getfield 41, 3) := by decide +kernel
theorem dX6_goes_4 : decode cX6_goes 4 = .ok (.bipush 30, 2) := by decide +kernel
theorem dX6_goes_6 : decode cX6_goes 6 = .ok (.iload_n 1, 1) := by decide +kernel
theorem dX6_goes_7 : decode cX6_goes 7 = .ok (.imul, 1) := by decide +kernel
theorem dX6_goes_8 : decode cX6_goes 8 = .ok (.iaload, 1) := by decide +kernel
theorem dX6_goes_9 : decode cX6_goes 9 = .ok (.istore_n 2, 1) := by decide +kernel
theorem dX6_goes_10 : decode cX6_goes 10 = .ok (.aload_n 0, 1) := by decide +kernel
theorem dX6_goes_11 : decode cX6_goes 11 = .ok (.getfield 38, 3) := by decide +kernel
theorem dX6_goes_14 : decode cX6_goes 14 = .ok (.iload_n 1, 1) := by decide +kernel
theorem dX6_goes_15 : decode cX6_goes 15 = .ok (.dup2, 1) := by decide +kernel
theorem dX6_goes_16 : decode cX6_goes 16 = .ok (.iaload, 1) := by decide +kernel
theorem dX6_goes_17 : decode cX6_goes 17 = .ok (.iconst 1, 1) := by decide +kernel
theorem dX6_goes_18 : decode cX6_goes 18 = .ok (.isub, 1) := by decide +kernel
theorem dX6_goes_19 : decode cX6_goes 19 = .ok (.iastore, 1) := by decide +kernel
theorem dX6_goes_20 : decode cX6_goes 20 = .ok (.iconst 0, 1) := by decide +kernel
theorem dX6_goes_21 : decode cX6_goes 21 = .ok (.istore_n 3, 1) := by decide +kernel
theorem dX6_goes_22 : decode cX6_goes 22 = .ok (.iload_n 3, 1) := by decide +kernel
theorem dX6_goes_23 : decode cX6_goes 23 = .ok (.aload_n 0, 1) := by decide +kernel
theorem dX6_goes_24 : decode cX6_goes 24 = .ok (.getfield 38, 3) := by decide +kernel
theorem dX6_goes_27 : decode cX6_goes 27 = .ok (.iload_n 1, 1) := by decide +kernel
theorem dX6_goes_28 : decode cX6_goes 28 = .ok (.iaload, 1) := by decide +kernel
theorem dX6_goes_29 : decode cX6_goes 29 = .ok (.if_icmp .ge 33, 3) := by decide +kernel
theorem dX6_goes_32 : decode cX6_goes 32 = .ok (.aload_n 0, 1) := by decide +kernel
theorem dX6_goes_33 : decode cX6_goes 33 = .ok (.getfield 41, 3) := by decide +kernel
theorem dX6_goes_36 : decode cX6_goes 36 = .ok (.bipush 30, 2) := by decide +kernel
theorem dX6_goes_38 : decode cX6_goes 38 = .ok (.iload_n 1, 1) := by decide +kernel
theorem dX6_goes_39 : decode cX6_goes 39 = .ok (.imul, 1) := by decide +kernel
theorem dX6_goes_40 : decode cX6_goes 40 = .ok (.iload_n 3, 1) := by decide +kernel
theorem dX6_goes_41 : decode cX6_goes 41 = .ok (.iadd, 1) := by decide +kernel
theorem dX6_goes_42 : decode cX6_goes 42 = .ok (.aload_n 0, 1) := by decide +kernel
theorem dX6_goes_43 : decode cX6_goes 43 = .ok (.getfield 41, 3) := by decide +kernel
theorem dX6_goes_46 : decode cX6_goes 46 = .ok (.bipush 30, 2) := by decide +kernel
theorem dX6_goes_48 : decode cX6_goes 48 = .ok (.iload_n 1, 1) := by decide +kernel
theorem dX6_goes_49 : decode cX6_goes 49 = .ok (.imul, 1) := by decide +kernel
theorem dX6_goes_50 : decode cX6_goes 50 = .ok (.iload_n 3, 1) := by decide +kernel
theorem dX6_goes_51 : decode cX6_goes 51 = .ok (.iadd, 1) := by decide +kernel
theorem dX6_goes_52 : decode cX6_goes 52 = .ok (.iconst 1, 1) := by decide +kernel
theorem dX6_goes_53 : decode cX6_goes 53 = .ok (.iadd, 1) := by decide +kernel
theorem dX6_goes_54 : decode cX6_goes 54 = .ok (.iaload, 1) := by decide +kernel
theorem dX6_goes_55 : decode cX6_goes 55 = .ok (.iastore, 1) := by decide +kernel
theorem dX6_goes_56 : decode cX6_goes 56 = .ok (.iinc 3 1, 3) := by decide +kernel
theorem dX6_goes_59 : decode cX6_goes 59 = .ok (.goto (-37), 3) := by decide +kernel
theorem dX6_goes_62 : decode cX6_goes 62 = .ok (.iload_n 2, 1) := by decide +kernel
theorem dX6_goes_63 : decode cX6_goes 63 = .ok (.ireturn, 1) := by decide +kernel
set_option maxRecDepth 20000 in
theorem ggX6_board_X6_isBerth : GoodIn wsX6_board wsX6_isBerth := goodIn_r _ [21, 22, 36, 37, 38, 39, 40, 41, 42, 43, 44, 45, 46, 47, 48, 49, 50, 51, 52, 53, 54, 55, 56, 57] (by decide +kernel) (by decide +kernel)
set_option maxRecDepth 20000 in
theorem gX6_board_X6_isBerth : GoodIn wsX6_board (wsV RX6 69 RX6 yX6_isBerth wsX6_isBerth) := goodIn_app (goodIn_of _ (by decide +kernel)) ggX6_board_X6_isBerth
set_option maxRecDepth 20000 in
theorem ggX6_board_X6_goes : GoodIn wsX6_board wsX6_goes := goodIn_r _ [26, 8, 5, 36, 37, 38, 39, 40, 41, 42, 43, 44, 45, 46, 47, 48, 49, 50, 51, 52, 53, 54, 55, 56, 57] (by decide +kernel) (by decide +kernel)
set_option maxRecDepth 20000 in
theorem gX6_board_X6_goes : GoodIn wsX6_board (wsV RX6 86 RX6 yX6_goes wsX6_goes) := goodIn_app (goodIn_of _ (by decide +kernel)) ggX6_board_X6_goes
set_option maxRecDepth 20000 in
theorem ggX6_board_X6_alarm : GoodIn wsX6_board wsX6_alarm := goodIn_r _ [30, 31, 36, 37, 38, 39, 40, 41, 42, 43, 44, 45, 46, 47, 48, 49, 50, 51, 52, 53, 54, 55, 56, 57] (by decide +kernel) (by decide +kernel)
set_option maxRecDepth 20000 in
theorem gX6_board_X6_alarm : GoodIn wsX6_board (wsV RX6 93 RX6 yX6_alarm wsX6_alarm) := goodIn_app (goodIn_of _ (by decide +kernel)) ggX6_board_X6_alarm
set_option maxRecDepth 20000 in
theorem ggX6_board_X6_comes : GoodIn wsX6_board wsX6_comes := goodIn_r _ [35, 8, 5, 36, 37, 38, 39, 40, 41, 42, 43, 44, 45, 46, 47, 48, 49, 50, 51, 52, 53, 54, 55, 56, 57] (by decide +kernel) (by decide +kernel)
set_option maxRecDepth 20000 in
theorem gX6_board_X6_comes : GoodIn wsX6_board (wsV RX6 79 RX6 yX6_comes wsX6_comes) := goodIn_app (goodIn_of _ (by decide +kernel)) ggX6_board_X6_comes
theorem dX6_board_0 : decode cX6_board 0 = .ok (.aload_n 0, 1) := by decide +kernel
theorem dX6_board_1 : decode cX6_board 1 = .ok (.iload_n 1, 1) := by decide +kernel
theorem dX6_board_2 : decode cX6_board 2 = .ok (.invokevirtual 69, 3) := by decide +kernel
theorem dX6_board_5 : decode cX6_board 5 = .ok (.ifCond .eq 14, 3) := by decide +kernel
theorem dX6_board_8 : decode cX6_board 8 = .ok (.iload_n 2, 1) := by decide +kernel
theorem dX6_board_9 : decode cX6_board 9 = .ok (.iconst 1, 1) := by decide +kernel
theorem dX6_board_10 : decode cX6_board 10 = .ok (.if_icmp .lt 9, 3) := by decide +kernel
theorem dX6_board_13 : decode cX6_board 13 = .ok (.iload_n 2, 1) := by decide +kernel
theorem dX6_board_14 : decode cX6_board 14 = .ok (.bipush 30, 2) := by decide +kernel
theorem dX6_board_16 : decode cX6_board 16 = .ok (.if_icmp .le 6, 3) := by decide +kernel
theorem dX6_board_19 : decode cX6_board 19 = .ok (.bipush (-2), 2) := by decide +kernel
theorem dX6_board_21 : decode cX6_board 21 = .ok (.ireturn, 1) := by decide +kernel
theorem dX6_board_22 : decode cX6_board 22 = .ok (.aload_n 0, 1) := by decide +kernel
theorem dX6_board_23 : decode cX6_board 23 = .ok (.getfield 29, 3) := by decide +kernel
theorem dX6_board_26 : decode cX6_board 26 = .ok (.iload_n 1, 1) := by decide +kernel
theorem dX6_board_27 : decode cX6_board 27 = .ok (.iaload, 1) := by decide +kernel
theorem dX6_board_28 : decode cX6_board 28 = .ok (.istore_n 3, 1) := by decide +kernel
theorem dX6_board_29 : decode cX6_board 29 = .ok (.iload_n 3, 1) := by decide +kernel
theorem dX6_board_30 : decode cX6_board 30 = .ok (.iconst (-1), 1) := by decide +kernel
theorem dX6_board_31 : decode cX6_board 31 = .ok (.if_icmp .ne 6, 3) := by decide +kernel
theorem dX6_board_34 : decode cX6_board 34 = .ok (.bipush (-4), 2) := by decide +kernel
theorem dX6_board_36 : decode cX6_board 36 = .ok (.ireturn, 1) := by decide +kernel
theorem dX6_board_37 : decode cX6_board 37 = .ok (.aload_n 0, 1) := by decide +kernel
theorem dX6_board_38 : decode cX6_board 38 = .ok (.getfield 13, 3) := by decide +kernel
theorem dX6_board_41 : decode cX6_board 41 = .ok (.iload_n 3, 1) := by decide +kernel
theorem dX6_board_42 : decode cX6_board 42 = .ok (.dup2, 1) := by decide +kernel
theorem dX6_board_43 : decode cX6_board 43 = .ok (.iaload, 1) := by decide +kernel
theorem dX6_board_44 : decode cX6_board 44 = .ok (.iconst 1, 1) := by decide +kernel
theorem dX6_board_45 : decode cX6_board 45 = .ok (.iadd, 1) := by decide +kernel
theorem dX6_board_46 : decode cX6_board 46 = .ok (.iastore, 1) := by decide +kernel
theorem dX6_board_47 : decode cX6_board 47 = .ok (.aload_n 0, 1) := by decide +kernel
theorem dX6_board_48 : decode cX6_board 48 = .ok (.getfield 7, 3) := by decide +kernel
theorem dX6_board_51 : decode cX6_board 51 = .ok (.iload_n 3, 1) := by decide +kernel
theorem dX6_board_52 : decode cX6_board 52 = .ok (.baload, 1) := by decide +kernel
theorem dX6_board_53 : decode cX6_board 53 = .ok (.ifCond .eq 6, 3) := by decide +kernel
theorem dX6_board_56 : decode cX6_board 56 = .ok (.bipush (-5), 2) := by decide +kernel
theorem dX6_board_58 : decode cX6_board 58 = .ok (.ireturn, 1) := by decide +kernel
theorem dX6_board_59 : decode cX6_board 59 = .ok (.aload_n 0, 1) := by decide +kernel
theorem dX6_board_60 : decode cX6_board 60 = .ok (.getfield 35, 3) := by decide +kernel
theorem dX6_board_63 : decode cX6_board 63 = .ok (.iload_n 1, 1) := by decide +kernel
theorem dX6_board_64 : decode cX6_board 64 = .ok (.iaload, 1) := by decide +kernel
theorem dX6_board_65 : decode cX6_board 65 = .ok (.istore 4, 2) := by decide +kernel
theorem dX6_board_67 : decode cX6_board 67 = .ok (.iconst 0, 1) := by decide +kernel
theorem dX6_board_68 : decode cX6_board 68 = .ok (.istore 5, 2) := by decide +kernel
theorem dX6_board_70 : decode cX6_board 70 = .ok (.aload_n 0, 1) := by decide +kernel
theorem dX6_board_71 : decode cX6_board 71 = .ok (.getfield 38, 3) := by decide +kernel
theorem dX6_board_74 : decode cX6_board 74 = .ok (.iload_n 1, 1) := by decide +kernel
theorem dX6_board_75 : decode cX6_board 75 = .ok (.iaload, 1) := by decide +kernel
theorem dX6_board_76 : decode cX6_board 76 = .ok (.istore 6, 2) := by decide +kernel
theorem dX6_board_78 : decode cX6_board 78 = .ok (.iconst 0, 1) := by decide +kernel
theorem dX6_board_79 : decode cX6_board 79 = .ok (.istore 7, 2) := by decide +kernel
theorem dX6_board_81 : decode cX6_board 81 = .ok (.iload 7, 2) := by decide +kernel
theorem dX6_board_83 : decode cX6_board 83 = .ok (.iload 6, 2) := by decide +kernel
theorem dX6_board_85 : decode cX6_board 85 = .ok (.if_icmp .ge 224, 3) := by decide +kernel
theorem dX6_board_88 : decode cX6_board 88 = .ok (.aload_n 0, 1) := by decide +kernel
theorem dX6_board_89 : decode cX6_board 89 = .ok (.getfield 32, 3) := by decide +kernel
theorem dX6_board_92 : decode cX6_board 92 = .ok (.iload_n 1, 1) := by decide +kernel
theorem dX6_board_93 : decode cX6_board 93 = .ok (.iaload, 1) := by decide +kernel
theorem dX6_board_94 : decode cX6_board 94 = .ok (.istore 8, 2) := by decide +kernel
theorem dX6_board_96 : decode cX6_board 96 = .ok (.iload 8, 2) := by decide +kernel
theorem dX6_board_98 : decode cX6_board 98 = .ok (.iconst (-1), 1) := by decide +kernel
theorem dX6_board_99 : decode cX6_board 99 = .ok (.if_icmp .ne 6, 3) := by decide +kernel
theorem dX6_board_102 : decode cX6_board 102 = .ok (.bipush (-4), 2) := by decide +kernel
theorem dX6_board_104 : decode cX6_board 104 = .ok (.ireturn, 1) := by decide +kernel
theorem dX6_board_105 : decode cX6_board 105 = .ok (.aload_n 0, 1) := by decide +kernel
theorem dX6_board_106 : decode cX6_board 106 = .ok (.getfield 26, 3) := by decide +kernel
theorem dX6_board_109 : decode cX6_board 109 = .ok (.iload 8, 2) := by decide +kernel
theorem dX6_board_111 : decode cX6_board 111 = .ok (.dup2, 1) := by decide +kernel
theorem dX6_board_112 : decode cX6_board 112 = .ok (.iaload, 1) := by decide +kernel
theorem dX6_board_113 : decode cX6_board 113 = .ok (.iconst 1, 1) := by decide +kernel
theorem dX6_board_114 : decode cX6_board 114 = .ok (.iadd, 1) := by decide +kernel
theorem dX6_board_115 : decode cX6_board 115 = .ok (.iastore, 1) := by decide +kernel
theorem dX6_board_116 : decode cX6_board 116 = .ok (.aload_n 0, 1) := by decide +kernel
theorem dX6_board_117 : decode cX6_board 117 = .ok (.getfield 41, 3) := by decide +kernel
theorem dX6_board_120 : decode cX6_board 120 = .ok (.bipush 30, 2) := by decide +kernel
theorem dX6_board_122 : decode cX6_board 122 = .ok (.iload_n 1, 1) := by decide +kernel
theorem dX6_board_123 : decode cX6_board 123 = .ok (.imul, 1) := by decide +kernel
theorem dX6_board_124 : decode cX6_board 124 = .ok (.iaload, 1) := by decide +kernel
theorem dX6_board_125 : decode cX6_board 125 = .ok (.istore 9, 2) := by decide +kernel
theorem dX6_board_127 : decode cX6_board 127 = .ok (.iload 9, 2) := by decide +kernel
theorem dX6_board_129 : decode cX6_board 129 = .ok (.ifCond .ne 27, 3) := by decide +kernel
theorem dX6_board_132 : decode cX6_board 132 = .ok (.aload_n 0, 1) := by decide +kernel
theorem dX6_board_133 : decode cX6_board 133 = .ok (.iload_n 1, 1) := by decide +kernel
theorem dX6_board_134 : decode cX6_board 134 = .ok (.invokevirtual 86, 3) := by decide +kernel
theorem dX6_board_137 : decode cX6_board 137 = .ok (.istore 9, 2) := by decide +kernel
theorem dX6_board_139 : decode cX6_board 139 = .ok (.aload_n 0, 1) := by decide +kernel
theorem dX6_board_140 : decode cX6_board 140 = .ok (.dup, 1) := by decide +kernel
theorem dX6_board_141 : decode cX6_board 141 = .ok (.getfield 90, 3) := by decide +kernel
theorem dX6_board_144 : decode cX6_board 144 = .ok (.iconst 1, 1) := by decide +kernel
theorem dX6_board_145 : decode cX6_board 145 = .ok (.iadd, 1) := by decide +kernel
theorem dX6_board_146 : decode cX6_board 146 = .ok (.putfield 90, 3) := by decide +kernel
theorem dX6_board_149 : decode cX6_board 149 = .ok (.aload_n 0, 1) := by decide +kernel
theorem dX6_board_150 : decode cX6_board 150 = .ok (.bipush (-6), 2) := by decide +kernel
theorem dX6_board_152 : decode cX6_board 152 = .ok (.invokevirtual 93, 3) := by decide +kernel
theorem dX6_board_155 : decode cX6_board 155 = .ok (.ireturn, 1) := by decide +kernel
theorem dX6_board_156 : decode cX6_board 156 = .ok (.iload 9, 2) := by decide +kernel
theorem dX6_board_158 : decode cX6_board 158 = .ok (.aload_n 0, 1) := by decide +kernel
theorem dX6_board_159 : decode cX6_board 159 = .ok (.getfield 20, 3) := by decide +kernel
theorem dX6_board_162 : decode cX6_board 162 = .ok (.iload 8, 2) := by decide +kernel
theorem dX6_board_164 : decode cX6_board 164 = .ok (.iaload, 1) := by decide +kernel
theorem dX6_board_165 : decode cX6_board 165 = .ok (.if_icmp .le 20, 3) := by decide +kernel
theorem dX6_board_168 : decode cX6_board 168 = .ok (.aload_n 0, 1) := by decide +kernel
theorem dX6_board_169 : decode cX6_board 169 = .ok (.iload_n 1, 1) := by decide +kernel
theorem dX6_board_170 : decode cX6_board 170 = .ok (.invokevirtual 86, 3) := by decide +kernel
theorem dX6_board_173 : decode cX6_board 173 = .ok (.istore 9, 2) := by decide +kernel
theorem dX6_board_175 : decode cX6_board 175 = .ok (.aload_n 0, 1) := by decide +kernel
theorem dX6_board_176 : decode cX6_board 176 = .ok (.iload_n 1, 1) := by decide +kernel
theorem dX6_board_177 : decode cX6_board 177 = .ok (.iload 9, 2) := by decide +kernel
theorem dX6_board_179 : decode cX6_board 179 = .ok (.invokevirtual 79, 3) := by decide +kernel
theorem dX6_board_182 : decode cX6_board 182 = .ok (.goto 121, 3) := by decide +kernel
theorem dX6_board_185 : decode cX6_board 185 = .ok (.aload_n 0, 1) := by decide +kernel
theorem dX6_board_186 : decode cX6_board 186 = .ok (.getfield 47, 3) := by decide +kernel
theorem dX6_board_189 : decode cX6_board 189 = .ok (.iload 4, 2) := by decide +kernel
theorem dX6_board_191 : decode cX6_board 191 = .ok (.iaload, 1) := by decide +kernel
theorem dX6_board_192 : decode cX6_board 192 = .ok (.iload 9, 2) := by decide +kernel
theorem dX6_board_194 : decode cX6_board 194 = .ok (.iadd, 1) := by decide +kernel
theorem dX6_board_195 : decode cX6_board 195 = .ok (.aload_n 0, 1) := by decide +kernel
theorem dX6_board_196 : decode cX6_board 196 = .ok (.getfield 44, 3) := by decide +kernel
theorem dX6_board_199 : decode cX6_board 199 = .ok (.iload 4, 2) := by decide +kernel
theorem dX6_board_201 : decode cX6_board 201 = .ok (.iaload, 1) := by decide +kernel
theorem dX6_board_202 : decode cX6_board 202 = .ok (.if_icmp .gt 15, 3) := by decide +kernel
theorem dX6_board_205 : decode cX6_board 205 = .ok (.aload_n 0, 1) := by decide +kernel
theorem dX6_board_206 : decode cX6_board 206 = .ok (.getfield 50, 3) := by decide +kernel
theorem dX6_board_209 : decode cX6_board 209 = .ok (.iload 4, 2) := by decide +kernel
theorem dX6_board_211 : decode cX6_board 211 = .ok (.iaload, 1) := by decide +kernel
theorem dX6_board_212 : decode cX6_board 212 = .ok (.bipush 40, 2) := by decide +kernel
theorem dX6_board_214 : decode cX6_board 214 = .ok (.if_icmp .ne 6, 3) := by decide +kernel
theorem dX6_board_217 : decode cX6_board 217 = .ok (.iload 5, 2) := by decide +kernel
theorem dX6_board_219 : decode cX6_board 219 = .ok (.ireturn, 1) := by decide +kernel
theorem dX6_board_220 : decode cX6_board 220 = .ok (.aload_n 0, 1) := by decide +kernel
theorem dX6_board_221 : decode cX6_board 221 = .ok (.iload_n 1, 1) := by decide +kernel
theorem dX6_board_222 : decode cX6_board 222 = .ok (.invokevirtual 86, 3) := by decide +kernel
theorem dX6_board_225 : decode cX6_board 225 = .ok (.istore 9, 2) := by decide +kernel
theorem dX6_board_227 : decode cX6_board 227 = .ok (.aload_n 0, 1) := by decide +kernel
theorem dX6_board_228 : decode cX6_board 228 = .ok (.getfield 53, 3) := by decide +kernel
theorem dX6_board_231 : decode cX6_board 231 = .ok (.bipush 40, 2) := by decide +kernel
theorem dX6_board_233 : decode cX6_board 233 = .ok (.iload 4, 2) := by decide +kernel
theorem dX6_board_235 : decode cX6_board 235 = .ok (.imul, 1) := by decide +kernel
theorem dX6_board_236 : decode cX6_board 236 = .ok (.aload_n 0, 1) := by decide +kernel
theorem dX6_board_237 : decode cX6_board 237 = .ok (.getfield 50, 3) := by decide +kernel
theorem dX6_board_240 : decode cX6_board 240 = .ok (.iload 4, 2) := by decide +kernel
theorem dX6_board_242 : decode cX6_board 242 = .ok (.iaload, 1) := by decide +kernel
theorem dX6_board_243 : decode cX6_board 243 = .ok (.iadd, 1) := by decide +kernel
theorem dX6_board_244 : decode cX6_board 244 = .ok (.iload 9, 2) := by decide +kernel
theorem dX6_board_246 : decode cX6_board 246 = .ok (.iastore, 1) := by decide +kernel
theorem dX6_board_247 : decode cX6_board 247 = .ok (.aload_n 0, 1) := by decide +kernel
theorem dX6_board_248 : decode cX6_board 248 = .ok (.getfield 50, 3) := by decide +kernel
theorem dX6_board_251 : decode cX6_board 251 = .ok (.iload 4, 2) := by decide +kernel
theorem dX6_board_253 : decode cX6_board 253 = .ok (.dup2, 1) := by decide +kernel
theorem dX6_board_254 : decode cX6_board 254 = .ok (.iaload, 1) := by decide +kernel
theorem dX6_board_255 : decode cX6_board 255 = .ok (.iconst 1, 1) := by decide +kernel
theorem dX6_board_256 : decode cX6_board 256 = .ok (.iadd, 1) := by decide +kernel
theorem dX6_board_257 : decode cX6_board 257 = .ok (.iastore, 1) := by decide +kernel
theorem dX6_board_258 : decode cX6_board 258 = .ok (.aload_n 0, 1) := by decide +kernel
theorem dX6_board_259 : decode cX6_board 259 = .ok (.getfield 47, 3) := by decide +kernel
theorem dX6_board_262 : decode cX6_board 262 = .ok (.iload 4, 2) := by decide +kernel
theorem dX6_board_264 : decode cX6_board 264 = .ok (.dup2, 1) := by decide +kernel
theorem dX6_board_265 : decode cX6_board 265 = .ok (.iaload, 1) := by decide +kernel
theorem dX6_board_266 : decode cX6_board 266 = .ok (.iload 9, 2) := by decide +kernel
theorem dX6_board_268 : decode cX6_board 268 = .ok (.iadd, 1) := by decide +kernel
theorem dX6_board_269 : decode cX6_board 269 = .ok (.iastore, 1) := by decide +kernel
theorem dX6_board_270 : decode cX6_board 270 = .ok (.aload_n 0, 1) := by decide +kernel
theorem dX6_board_271 : decode cX6_board 271 = .ok (.getfield 17, 3) := by decide +kernel
theorem dX6_board_274 : decode cX6_board 274 = .ok (.iload_n 3, 1) := by decide +kernel
theorem dX6_board_275 : decode cX6_board 275 = .ok (.dup2, 1) := by decide +kernel
theorem dX6_board_276 : decode cX6_board 276 = .ok (.iaload, 1) := by decide +kernel
theorem dX6_board_277 : decode cX6_board 277 = .ok (.iconst 1, 1) := by decide +kernel
theorem dX6_board_278 : decode cX6_board 278 = .ok (.iadd, 1) := by decide +kernel
theorem dX6_board_279 : decode cX6_board 279 = .ok (.iastore, 1) := by decide +kernel
theorem dX6_board_280 : decode cX6_board 280 = .ok (.aload_n 0, 1) := by decide +kernel
theorem dX6_board_281 : decode cX6_board 281 = .ok (.getfield 23, 3) := by decide +kernel
theorem dX6_board_284 : decode cX6_board 284 = .ok (.iload 8, 2) := by decide +kernel
theorem dX6_board_286 : decode cX6_board 286 = .ok (.dup2, 1) := by decide +kernel
theorem dX6_board_287 : decode cX6_board 287 = .ok (.iaload, 1) := by decide +kernel
theorem dX6_board_288 : decode cX6_board 288 = .ok (.iload 9, 2) := by decide +kernel
theorem dX6_board_290 : decode cX6_board 290 = .ok (.iadd, 1) := by decide +kernel
theorem dX6_board_291 : decode cX6_board 291 = .ok (.iastore, 1) := by decide +kernel
theorem dX6_board_292 : decode cX6_board 292 = .ok (.iinc 5 1, 3) := by decide +kernel
theorem dX6_board_295 : decode cX6_board 295 = .ok (.iload 5, 2) := by decide +kernel
theorem dX6_board_297 : decode cX6_board 297 = .ok (.iload_n 2, 1) := by decide +kernel
theorem dX6_board_298 : decode cX6_board 298 = .ok (.if_icmp .ne 5, 3) := by decide +kernel
theorem dX6_board_301 : decode cX6_board 301 = .ok (.iload_n 2, 1) := by decide +kernel
theorem dX6_board_302 : decode cX6_board 302 = .ok (.ireturn, 1) := by decide +kernel
theorem dX6_board_303 : decode cX6_board 303 = .ok (.iinc 7 1, 3) := by decide +kernel
theorem dX6_board_306 : decode cX6_board 306 = .ok (.goto (-225), 3) := by decide +kernel
theorem dX6_board_309 : decode cX6_board 309 = .ok (.iload 5, 2) := by decide +kernel
theorem dX6_board_311 : decode cX6_board 311 = .ok (.ireturn, 1) := by decide +kernel
set_option maxRecDepth 20000 in
theorem ggX6_land_X6_isBerth : GoodIn wsX6_land wsX6_isBerth := goodIn_r _ [18, 19, 25, 26, 27, 28, 29, 30, 31, 32, 33, 34, 35, 36, 37, 38, 39, 40, 41, 42, 43, 44, 45, 46] (by decide +kernel) (by decide +kernel)
set_option maxRecDepth 20000 in
theorem gX6_land_X6_isBerth : GoodIn wsX6_land (wsV RX6 69 RX6 yX6_isBerth wsX6_isBerth) := goodIn_app (goodIn_of _ (by decide +kernel)) ggX6_land_X6_isBerth
set_option maxRecDepth 20000 in
theorem ggX6_land_X6_alarm : GoodIn wsX6_land wsX6_alarm := goodIn_r _ [23, 24, 25, 26, 27, 28, 29, 30, 31, 32, 33, 34, 35, 36, 37, 38, 39, 40, 41, 42, 43, 44, 45, 46] (by decide +kernel) (by decide +kernel)
set_option maxRecDepth 20000 in
theorem gX6_land_X6_alarm : GoodIn wsX6_land (wsV RX6 93 RX6 yX6_alarm wsX6_alarm) := goodIn_app (goodIn_of _ (by decide +kernel)) ggX6_land_X6_alarm
theorem dX6_land_0 : decode cX6_land 0 = .ok (.aload_n 0, 1) := by decide +kernel
theorem dX6_land_1 : decode cX6_land 1 = .ok (.iload_n 1, 1) := by decide +kernel
theorem dX6_land_2 : decode cX6_land 2 = .ok (.invokevirtual 69, 3) := by decide +kernel
theorem dX6_land_5 : decode cX6_land 5 = .ok (.ifCond .eq 14, 3) := by decide +kernel
theorem dX6_land_8 : decode cX6_land 8 = .ok (.iload_n 2, 1) := by decide +kernel
theorem dX6_land_9 : decode cX6_land 9 = .ok (.iconst 1, 1) := by decide +kernel
theorem dX6_land_10 : decode cX6_land 10 = .ok (.if_icmp .lt 9, 3) := by decide +kernel
theorem dX6_land_13 : decode cX6_land 13 = .ok (.iload_n 2, 1) := by decide +kernel
theorem dX6_land_14 : decode cX6_land 14 = .ok (.bipush 40, 2) := by decide +kernel
theorem dX6_land_16 : decode cX6_land 16 = .ok (.if_icmp .le 6, 3) := by decide +kernel
theorem dX6_land_19 : decode cX6_land 19 = .ok (.bipush (-2), 2) := by decide +kernel
theorem dX6_land_21 : decode cX6_land 21 = .ok (.ireturn, 1) := by decide +kernel
theorem dX6_land_22 : decode cX6_land 22 = .ok (.aload_n 0, 1) := by decide +kernel
theorem dX6_land_23 : decode cX6_land 23 = .ok (.getfield 32, 3) := by decide +kernel
theorem dX6_land_26 : decode cX6_land 26 = .ok (.iload_n 1, 1) := by decide +kernel
theorem dX6_land_27 : decode cX6_land 27 = .ok (.iaload, 1) := by decide +kernel
theorem dX6_land_28 : decode cX6_land 28 = .ok (.istore_n 3, 1) := by decide +kernel
theorem dX6_land_29 : decode cX6_land 29 = .ok (.iload_n 3, 1) := by decide +kernel
theorem dX6_land_30 : decode cX6_land 30 = .ok (.iconst (-1), 1) := by decide +kernel
theorem dX6_land_31 : decode cX6_land 31 = .ok (.if_icmp .ne 6, 3) := by decide +kernel
theorem dX6_land_34 : decode cX6_land 34 = .ok (.bipush (-4), 2) := by decide +kernel
theorem dX6_land_36 : decode cX6_land 36 = .ok (.ireturn, 1) := by decide +kernel
theorem dX6_land_37 : decode cX6_land 37 = .ok (.aload_n 0, 1) := by decide +kernel
theorem dX6_land_38 : decode cX6_land 38 = .ok (.getfield 26, 3) := by decide +kernel
theorem dX6_land_41 : decode cX6_land 41 = .ok (.iload_n 3, 1) := by decide +kernel
theorem dX6_land_42 : decode cX6_land 42 = .ok (.dup2, 1) := by decide +kernel
theorem dX6_land_43 : decode cX6_land 43 = .ok (.iaload, 1) := by decide +kernel
theorem dX6_land_44 : decode cX6_land 44 = .ok (.iconst 1, 1) := by decide +kernel
theorem dX6_land_45 : decode cX6_land 45 = .ok (.iadd, 1) := by decide +kernel
theorem dX6_land_46 : decode cX6_land 46 = .ok (.iastore, 1) := by decide +kernel
theorem dX6_land_47 : decode cX6_land 47 = .ok (.aload_n 0, 1) := by decide +kernel
theorem dX6_land_48 : decode cX6_land 48 = .ok (.getfield 35, 3) := by decide +kernel
theorem dX6_land_51 : decode cX6_land 51 = .ok (.iload_n 1, 1) := by decide +kernel
theorem dX6_land_52 : decode cX6_land 52 = .ok (.iaload, 1) := by decide +kernel
theorem dX6_land_53 : decode cX6_land 53 = .ok (.istore 4, 2) := by decide +kernel
theorem dX6_land_55 : decode cX6_land 55 = .ok (.iconst 0, 1) := by decide +kernel
theorem dX6_land_56 : decode cX6_land 56 = .ok (.istore 5, 2) := by decide +kernel
theorem dX6_land_58 : decode cX6_land 58 = .ok (.iload 5, 2) := by decide +kernel
theorem dX6_land_60 : decode cX6_land 60 = .ok (.iload_n 2, 1) := by decide +kernel
theorem dX6_land_61 : decode cX6_land 61 = .ok (.if_icmp .ge 176, 3) := by decide +kernel
theorem dX6_land_64 : decode cX6_land 64 = .ok (.aload_n 0, 1) := by decide +kernel
theorem dX6_land_65 : decode cX6_land 65 = .ok (.getfield 50, 3) := by decide +kernel
theorem dX6_land_68 : decode cX6_land 68 = .ok (.iload 4, 2) := by decide +kernel
theorem dX6_land_70 : decode cX6_land 70 = .ok (.iaload, 1) := by decide +kernel
theorem dX6_land_71 : decode cX6_land 71 = .ok (.ifCond .le 166, 3) := by decide +kernel
theorem dX6_land_74 : decode cX6_land 74 = .ok (.aload_n 0, 1) := by decide +kernel
theorem dX6_land_75 : decode cX6_land 75 = .ok (.getfield 29, 3) := by decide +kernel
theorem dX6_land_78 : decode cX6_land 78 = .ok (.iload_n 1, 1) := by decide +kernel
theorem dX6_land_79 : decode cX6_land 79 = .ok (.iaload, 1) := by decide +kernel
theorem dX6_land_80 : decode cX6_land 80 = .ok (.istore 6, 2) := by decide +kernel
theorem dX6_land_82 : decode cX6_land 82 = .ok (.iload 6, 2) := by decide +kernel
theorem dX6_land_84 : decode cX6_land 84 = .ok (.iconst (-1), 1) := by decide +kernel
theorem dX6_land_85 : decode cX6_land 85 = .ok (.if_icmp .ne 6, 3) := by decide +kernel
theorem dX6_land_88 : decode cX6_land 88 = .ok (.bipush (-4), 2) := by decide +kernel
theorem dX6_land_90 : decode cX6_land 90 = .ok (.ireturn, 1) := by decide +kernel
theorem dX6_land_91 : decode cX6_land 91 = .ok (.aload_n 0, 1) := by decide +kernel
theorem dX6_land_92 : decode cX6_land 92 = .ok (.getfield 13, 3) := by decide +kernel
theorem dX6_land_95 : decode cX6_land 95 = .ok (.iload 6, 2) := by decide +kernel
theorem dX6_land_97 : decode cX6_land 97 = .ok (.dup2, 1) := by decide +kernel
theorem dX6_land_98 : decode cX6_land 98 = .ok (.iaload, 1) := by decide +kernel
theorem dX6_land_99 : decode cX6_land 99 = .ok (.iconst 1, 1) := by decide +kernel
theorem dX6_land_100 : decode cX6_land 100 = .ok (.iadd, 1) := by decide +kernel
theorem dX6_land_101 : decode cX6_land 101 = .ok (.iastore, 1) := by decide +kernel
theorem dX6_land_102 : decode cX6_land 102 = .ok (.aload_n 0, 1) := by decide +kernel
theorem dX6_land_103 : decode cX6_land 103 = .ok (.getfield 7, 3) := by decide +kernel
theorem dX6_land_106 : decode cX6_land 106 = .ok (.iload 6, 2) := by decide +kernel
theorem dX6_land_108 : decode cX6_land 108 = .ok (.baload, 1) := by decide +kernel
theorem dX6_land_109 : decode cX6_land 109 = .ok (.ifCond .eq 6, 3) := by decide +kernel
theorem dX6_land_112 : decode cX6_land 112 = .ok (.iload 5, 2) := by decide +kernel
theorem dX6_land_114 : decode cX6_land 114 = .ok (.ireturn, 1) := by decide +kernel
theorem dX6_land_115 : decode cX6_land 115 = .ok (.aload_n 0, 1) := by decide +kernel
theorem dX6_land_116 : decode cX6_land 116 = .ok (.getfield 53, 3) := by decide +kernel
theorem dX6_land_119 : decode cX6_land 119 = .ok (.bipush 40, 2) := by decide +kernel
theorem dX6_land_121 : decode cX6_land 121 = .ok (.iload 4, 2) := by decide +kernel
theorem dX6_land_123 : decode cX6_land 123 = .ok (.imul, 1) := by decide +kernel
theorem dX6_land_124 : decode cX6_land 124 = .ok (.aload_n 0, 1) := by decide +kernel
theorem dX6_land_125 : decode cX6_land 125 = .ok (.getfield 50, 3) := by decide +kernel
theorem dX6_land_128 : decode cX6_land 128 = .ok (.iload 4, 2) := by decide +kernel
theorem dX6_land_130 : decode cX6_land 130 = .ok (.iaload, 1) := by decide +kernel
theorem dX6_land_131 : decode cX6_land 131 = .ok (.iadd, 1) := by decide +kernel
theorem dX6_land_132 : decode cX6_land 132 = .ok (.iconst 1, 1) := by decide +kernel
theorem dX6_land_133 : decode cX6_land 133 = .ok (.isub, 1) := by decide +kernel
theorem dX6_land_134 : decode cX6_land 134 = .ok (.iaload, 1) := by decide +kernel
theorem dX6_land_135 : decode cX6_land 135 = .ok (.istore 7, 2) := by decide +kernel
theorem dX6_land_137 : decode cX6_land 137 = .ok (.iload 7, 2) := by decide +kernel
theorem dX6_land_139 : decode cX6_land 139 = .ok (.aload_n 0, 1) := by decide +kernel
theorem dX6_land_140 : decode cX6_land 140 = .ok (.getfield 20, 3) := by decide +kernel
theorem dX6_land_143 : decode cX6_land 143 = .ok (.iload_n 3, 1) := by decide +kernel
theorem dX6_land_144 : decode cX6_land 144 = .ok (.iaload, 1) := by decide +kernel
theorem dX6_land_145 : decode cX6_land 145 = .ok (.if_icmp .le 10, 3) := by decide +kernel
theorem dX6_land_148 : decode cX6_land 148 = .ok (.aload_n 0, 1) := by decide +kernel
theorem dX6_land_149 : decode cX6_land 149 = .ok (.bipush (-6), 2) := by decide +kernel
theorem dX6_land_151 : decode cX6_land 151 = .ok (.invokevirtual 93, 3) := by decide +kernel
theorem dX6_land_154 : decode cX6_land 154 = .ok (.ireturn, 1) := by decide +kernel
theorem dX6_land_155 : decode cX6_land 155 = .ok (.aload_n 0, 1) := by decide +kernel
theorem dX6_land_156 : decode cX6_land 156 = .ok (.getfield 50, 3) := by decide +kernel
theorem dX6_land_159 : decode cX6_land 159 = .ok (.iload 4, 2) := by decide +kernel
theorem dX6_land_161 : decode cX6_land 161 = .ok (.dup2, 1) := by decide +kernel
theorem dX6_land_162 : decode cX6_land 162 = .ok (.iaload, 1) := by decide +kernel
theorem dX6_land_163 : decode cX6_land 163 = .ok (.iconst 1, 1) := by decide +kernel
theorem dX6_land_164 : decode cX6_land 164 = .ok (.isub, 1) := by decide +kernel
theorem dX6_land_165 : decode cX6_land 165 = .ok (.iastore, 1) := by decide +kernel
theorem dX6_land_166 : decode cX6_land 166 = .ok (.aload_n 0, 1) := by decide +kernel
theorem dX6_land_167 : decode cX6_land 167 = .ok (.getfield 47, 3) := by decide +kernel
theorem dX6_land_170 : decode cX6_land 170 = .ok (.iload 4, 2) := by decide +kernel
theorem dX6_land_172 : decode cX6_land 172 = .ok (.dup2, 1) := by decide +kernel
theorem dX6_land_173 : decode cX6_land 173 = .ok (.iaload, 1) := by decide +kernel
theorem dX6_land_174 : decode cX6_land 174 = .ok (.iload 7, 2) := by decide +kernel
theorem dX6_land_176 : decode cX6_land 176 = .ok (.isub, 1) := by decide +kernel
theorem dX6_land_177 : decode cX6_land 177 = .ok (.iastore, 1) := by decide +kernel
theorem dX6_land_178 : decode cX6_land 178 = .ok (.aload_n 0, 1) := by decide +kernel
theorem dX6_land_179 : decode cX6_land 179 = .ok (.dup, 1) := by decide +kernel
theorem dX6_land_180 : decode cX6_land 180 = .ok (.getfield 96, 3) := by decide +kernel
theorem dX6_land_183 : decode cX6_land 183 = .ok (.iconst 1, 1) := by decide +kernel
theorem dX6_land_184 : decode cX6_land 184 = .ok (.iadd, 1) := by decide +kernel
theorem dX6_land_185 : decode cX6_land 185 = .ok (.putfield 96, 3) := by decide +kernel
theorem dX6_land_188 : decode cX6_land 188 = .ok (.iinc 5 1, 3) := by decide +kernel
theorem dX6_land_191 : decode cX6_land 191 = .ok (.iload 7, 2) := by decide +kernel
theorem dX6_land_193 : decode cX6_land 193 = .ok (.ifCond .eq (-135), 3) := by decide +kernel
theorem dX6_land_196 : decode cX6_land 196 = .ok (.iload 7, 2) := by decide +kernel
theorem dX6_land_198 : decode cX6_land 198 = .ok (.aload_n 0, 1) := by decide +kernel
theorem dX6_land_199 : decode cX6_land 199 = .ok (.getfield 20, 3) := by decide +kernel
theorem dX6_land_202 : decode cX6_land 202 = .ok (.iload_n 3, 1) := by decide +kernel
theorem dX6_land_203 : decode cX6_land 203 = .ok (.iaload, 1) := by decide +kernel
theorem dX6_land_204 : decode cX6_land 204 = .ok (.iconst 2, 1) := by decide +kernel
theorem dX6_land_205 : decode cX6_land 205 = .ok (.idiv, 1) := by decide +kernel
theorem dX6_land_206 : decode cX6_land 206 = .ok (.if_icmp .le 6, 3) := by decide +kernel
theorem dX6_land_209 : decode cX6_land 209 = .ok (.goto (-151), 3) := by decide +kernel
theorem dX6_land_212 : decode cX6_land 212 = .ok (.aload_n 0, 1) := by decide +kernel
theorem dX6_land_213 : decode cX6_land 213 = .ok (.getfield 17, 3) := by decide +kernel
theorem dX6_land_216 : decode cX6_land 216 = .ok (.iload 6, 2) := by decide +kernel
theorem dX6_land_218 : decode cX6_land 218 = .ok (.dup2, 1) := by decide +kernel
theorem dX6_land_219 : decode cX6_land 219 = .ok (.iaload, 1) := by decide +kernel
theorem dX6_land_220 : decode cX6_land 220 = .ok (.iconst 1, 1) := by decide +kernel
theorem dX6_land_221 : decode cX6_land 221 = .ok (.iadd, 1) := by decide +kernel
theorem dX6_land_222 : decode cX6_land 222 = .ok (.iastore, 1) := by decide +kernel
theorem dX6_land_223 : decode cX6_land 223 = .ok (.aload_n 0, 1) := by decide +kernel
theorem dX6_land_224 : decode cX6_land 224 = .ok (.getfield 23, 3) := by decide +kernel
theorem dX6_land_227 : decode cX6_land 227 = .ok (.iload_n 3, 1) := by decide +kernel
theorem dX6_land_228 : decode cX6_land 228 = .ok (.dup2, 1) := by decide +kernel
theorem dX6_land_229 : decode cX6_land 229 = .ok (.iaload, 1) := by decide +kernel
theorem dX6_land_230 : decode cX6_land 230 = .ok (.iload 7, 2) := by decide +kernel
theorem dX6_land_232 : decode cX6_land 232 = .ok (.iadd, 1) := by decide +kernel
theorem dX6_land_233 : decode cX6_land 233 = .ok (.iastore, 1) := by decide +kernel
theorem dX6_land_234 : decode cX6_land 234 = .ok (.goto (-176), 3) := by decide +kernel
theorem dX6_land_237 : decode cX6_land 237 = .ok (.iload 5, 2) := by decide +kernel
theorem dX6_land_239 : decode cX6_land 239 = .ok (.ireturn, 1) := by decide +kernel
set_option maxRecDepth 20000 in
theorem ggX6_swap_X6_isBerth : GoodIn wsX6_swap wsX6_isBerth := goodIn_r _ [10, 11, 12, 13, 14, 15, 16, 17, 18, 19, 20, 21, 22, 23, 24, 25, 26, 27, 28, 29, 30, 31, 32, 33] (by decide +kernel) (by decide +kernel)
set_option maxRecDepth 20000 in
theorem gX6_swap_X6_isBerth : GoodIn wsX6_swap (wsV RX6 69 RX6 yX6_isBerth wsX6_isBerth) := goodIn_app (goodIn_of _ (by decide +kernel)) ggX6_swap_X6_isBerth
theorem dX6_swap_0 : decode cX6_swap 0 = .ok (.aload_n 0, 1) := by decide +kernel
theorem dX6_swap_1 : decode cX6_swap 1 = .ok (.iload_n 1, 1) := by decide +kernel
theorem dX6_swap_2 : decode cX6_swap 2 = .ok (.invokevirtual 69, 3) := by decide +kernel
theorem dX6_swap_5 : decode cX6_swap 5 = .ok (.ifCond .eq 11, 3) := by decide +kernel
theorem dX6_swap_8 : decode cX6_swap 8 = .ok (.aload_n 0, 1) := by decide +kernel
theorem dX6_swap_9 : decode cX6_swap 9 = .ok (.iload_n 2, 1) := by decide +kernel
theorem dX6_swap_10 : decode cX6_swap 10 = .ok (.invokevirtual 69, 3) := by decide +kernel
theorem dX6_swap_13 : decode cX6_swap 13 = .ok (.ifCond .ne 6, 3) := by decide +kernel
theorem dX6_swap_16 : decode cX6_swap 16 = .ok (.bipush (-2), 2) := by decide +kernel
theorem dX6_swap_18 : decode cX6_swap 18 = .ok (.ireturn, 1) := by decide +kernel
theorem dX6_swap_19 : decode cX6_swap 19 = .ok (.aload_n 0, 1) := by decide +kernel
theorem dX6_swap_20 : decode cX6_swap 20 = .ok (.getfield 29, 3) := by decide +kernel
theorem dX6_swap_23 : decode cX6_swap 23 = .ok (.iload_n 1, 1) := by decide +kernel
theorem dX6_swap_24 : decode cX6_swap 24 = .ok (.iaload, 1) := by decide +kernel
theorem dX6_swap_25 : decode cX6_swap 25 = .ok (.istore_n 3, 1) := by decide +kernel
theorem dX6_swap_26 : decode cX6_swap 26 = .ok (.iload_n 3, 1) := by decide +kernel
theorem dX6_swap_27 : decode cX6_swap 27 = .ok (.iconst (-1), 1) := by decide +kernel
theorem dX6_swap_28 : decode cX6_swap 28 = .ok (.if_icmp .ne 6, 3) := by decide +kernel
theorem dX6_swap_31 : decode cX6_swap 31 = .ok (.bipush (-4), 2) := by decide +kernel
theorem dX6_swap_33 : decode cX6_swap 33 = .ok (.ireturn, 1) := by decide +kernel
theorem dX6_swap_34 : decode cX6_swap 34 = .ok (.aload_n 0, 1) := by decide +kernel
theorem dX6_swap_35 : decode cX6_swap 35 = .ok (.getfield 13, 3) := by decide +kernel
theorem dX6_swap_38 : decode cX6_swap 38 = .ok (.iload_n 3, 1) := by decide +kernel
theorem dX6_swap_39 : decode cX6_swap 39 = .ok (.dup2, 1) := by decide +kernel
theorem dX6_swap_40 : decode cX6_swap 40 = .ok (.iaload, 1) := by decide +kernel
theorem dX6_swap_41 : decode cX6_swap 41 = .ok (.iconst 1, 1) := by decide +kernel
theorem dX6_swap_42 : decode cX6_swap 42 = .ok (.iadd, 1) := by decide +kernel
theorem dX6_swap_43 : decode cX6_swap 43 = .ok (.iastore, 1) := by decide +kernel
theorem dX6_swap_44 : decode cX6_swap 44 = .ok (.aload_n 0, 1) := by decide +kernel
theorem dX6_swap_45 : decode cX6_swap 45 = .ok (.getfield 29, 3) := by decide +kernel
theorem dX6_swap_48 : decode cX6_swap 48 = .ok (.iload_n 2, 1) := by decide +kernel
theorem dX6_swap_49 : decode cX6_swap 49 = .ok (.iaload, 1) := by decide +kernel
theorem dX6_swap_50 : decode cX6_swap 50 = .ok (.istore 4, 2) := by decide +kernel
theorem dX6_swap_52 : decode cX6_swap 52 = .ok (.iload 4, 2) := by decide +kernel
theorem dX6_swap_54 : decode cX6_swap 54 = .ok (.iconst (-1), 1) := by decide +kernel
theorem dX6_swap_55 : decode cX6_swap 55 = .ok (.if_icmp .ne 6, 3) := by decide +kernel
theorem dX6_swap_58 : decode cX6_swap 58 = .ok (.bipush (-4), 2) := by decide +kernel
theorem dX6_swap_60 : decode cX6_swap 60 = .ok (.ireturn, 1) := by decide +kernel
theorem dX6_swap_61 : decode cX6_swap 61 = .ok (.aload_n 0, 1) := by decide +kernel
theorem dX6_swap_62 : decode cX6_swap 62 = .ok (.getfield 13, 3) := by decide +kernel
theorem dX6_swap_65 : decode cX6_swap 65 = .ok (.iload 4, 2) := by decide +kernel
theorem dX6_swap_67 : decode cX6_swap 67 = .ok (.dup2, 1) := by decide +kernel
theorem dX6_swap_68 : decode cX6_swap 68 = .ok (.iaload, 1) := by decide +kernel
theorem dX6_swap_69 : decode cX6_swap 69 = .ok (.iconst 1, 1) := by decide +kernel
theorem dX6_swap_70 : decode cX6_swap 70 = .ok (.iadd, 1) := by decide +kernel
theorem dX6_swap_71 : decode cX6_swap 71 = .ok (.iastore, 1) := by decide +kernel
theorem dX6_swap_72 : decode cX6_swap 72 = .ok (.aload_n 0, 1) := by decide +kernel
theorem dX6_swap_73 : decode cX6_swap 73 = .ok (.getfield 7, 3) := by decide +kernel
theorem dX6_swap_76 : decode cX6_swap 76 = .ok (.iload_n 3, 1) := by decide +kernel
theorem dX6_swap_77 : decode cX6_swap 77 = .ok (.baload, 1) := by decide +kernel
theorem dX6_swap_78 : decode cX6_swap 78 = .ok (.ifCond .ne 13, 3) := by decide +kernel
theorem dX6_swap_81 : decode cX6_swap 81 = .ok (.aload_n 0, 1) := by decide +kernel
theorem dX6_swap_82 : decode cX6_swap 82 = .ok (.getfield 7, 3) := by decide +kernel
theorem dX6_swap_85 : decode cX6_swap 85 = .ok (.iload 4, 2) := by decide +kernel
theorem dX6_swap_87 : decode cX6_swap 87 = .ok (.baload, 1) := by decide +kernel
theorem dX6_swap_88 : decode cX6_swap 88 = .ok (.ifCond .eq 6, 3) := by decide +kernel
theorem dX6_swap_91 : decode cX6_swap 91 = .ok (.bipush (-5), 2) := by decide +kernel
theorem dX6_swap_93 : decode cX6_swap 93 = .ok (.ireturn, 1) := by decide +kernel
theorem dX6_swap_94 : decode cX6_swap 94 = .ok (.aload_n 0, 1) := by decide +kernel
theorem dX6_swap_95 : decode cX6_swap 95 = .ok (.getfield 35, 3) := by decide +kernel
theorem dX6_swap_98 : decode cX6_swap 98 = .ok (.iload_n 1, 1) := by decide +kernel
theorem dX6_swap_99 : decode cX6_swap 99 = .ok (.iaload, 1) := by decide +kernel
theorem dX6_swap_100 : decode cX6_swap 100 = .ok (.istore 5, 2) := by decide +kernel
theorem dX6_swap_102 : decode cX6_swap 102 = .ok (.aload_n 0, 1) := by decide +kernel
theorem dX6_swap_103 : decode cX6_swap 103 = .ok (.getfield 35, 3) := by decide +kernel
theorem dX6_swap_106 : decode cX6_swap 106 = .ok (.iload_n 1, 1) := by decide +kernel
theorem dX6_swap_107 : decode cX6_swap 107 = .ok (.aload_n 0, 1) := by decide +kernel
theorem dX6_swap_108 : decode cX6_swap 108 = .ok (.getfield 35, 3) := by decide +kernel
theorem dX6_swap_111 : decode cX6_swap 111 = .ok (.iload_n 2, 1) := by decide +kernel
theorem dX6_swap_112 : decode cX6_swap 112 = .ok (.iaload, 1) := by decide +kernel
theorem dX6_swap_113 : decode cX6_swap 113 = .ok (.iastore, 1) := by decide +kernel
theorem dX6_swap_114 : decode cX6_swap 114 = .ok (.aload_n 0, 1) := by decide +kernel
theorem dX6_swap_115 : decode cX6_swap 115 = .ok (.getfield 35, 3) := by decide +kernel
theorem dX6_swap_118 : decode cX6_swap 118 = .ok (.iload_n 2, 1) := by decide +kernel
theorem dX6_swap_119 : decode cX6_swap 119 = .ok (.iload 5, 2) := by decide +kernel
theorem dX6_swap_121 : decode cX6_swap 121 = .ok (.iastore, 1) := by decide +kernel
theorem dX6_swap_122 : decode cX6_swap 122 = .ok (.aload_n 0, 1) := by decide +kernel
theorem dX6_swap_123 : decode cX6_swap 123 = .ok (.getfield 47, 3) := by decide +kernel
theorem dX6_swap_126 : decode cX6_swap 126 = .ok (.aload_n 0, 1) := by decide +kernel
theorem dX6_swap_127 : decode cX6_swap 127 = .ok (.getfield 35, 3) := by decide +kernel
theorem dX6_swap_130 : decode cX6_swap 130 = .ok (.iload_n 1, 1) := by decide +kernel
theorem dX6_swap_131 : decode cX6_swap 131 = .ok (.iaload, 1) := by decide +kernel
theorem dX6_swap_132 : decode cX6_swap 132 = .ok (.iaload, 1) := by decide +kernel
theorem dX6_swap_133 : decode cX6_swap 133 = .ok (.ireturn, 1) := by decide +kernel
set_option maxRecDepth 20000 in
theorem ggX6_round_X6_isBerth : GoodIn wsX6_round wsX6_isBerth := goodIn_r _ [11, 1, 17, 18, 19, 20, 21, 22, 23, 24, 25, 26, 27, 28, 29, 30, 31, 32, 33, 34, 35, 36, 37, 38] (by decide +kernel) (by decide +kernel)
set_option maxRecDepth 20000 in
theorem gX6_round_X6_isBerth : GoodIn wsX6_round (wsV RX6 69 RX6 yX6_isBerth wsX6_isBerth) := goodIn_app (goodIn_of _ (by decide +kernel)) ggX6_round_X6_isBerth
set_option maxRecDepth 20000 in
theorem ggX6_round_X6_alarm : GoodIn wsX6_round wsX6_alarm := goodIn_r _ [15, 16, 17, 18, 19, 20, 21, 22, 23, 24, 25, 26, 27, 28, 29, 30, 31, 32, 33, 34, 35, 36, 37, 38] (by decide +kernel) (by decide +kernel)
set_option maxRecDepth 20000 in
theorem gX6_round_X6_alarm : GoodIn wsX6_round (wsV RX6 93 RX6 yX6_alarm wsX6_alarm) := goodIn_app (goodIn_of _ (by decide +kernel)) ggX6_round_X6_alarm
theorem dX6_round_0 : decode cX6_round 0 = .ok (.aload_n 0, 1) := by decide +kernel
theorem dX6_round_1 : decode cX6_round 1 = .ok (.iload_n 1, 1) := by decide +kernel
theorem dX6_round_2 : decode cX6_round 2 = .ok (.invokevirtual 69, 3) := by decide +kernel
theorem dX6_round_5 : decode cX6_round 5 = .ok (.ifCond .eq 14, 3) := by decide +kernel
theorem dX6_round_8 : decode cX6_round 8 = .ok (.iload_n 2, 1) := by decide +kernel
theorem dX6_round_9 : decode cX6_round 9 = .ok (.iconst 1, 1) := by decide +kernel
theorem dX6_round_10 : decode cX6_round 10 = .ok (.if_icmp .lt 9, 3) := by decide +kernel
theorem dX6_round_13 : decode cX6_round 13 = .ok (.iload_n 2, 1) := by decide +kernel
theorem dX6_round_14 : decode cX6_round 14 = .ok (.bipush 8, 2) := by decide +kernel
theorem dX6_round_16 : decode cX6_round 16 = .ok (.if_icmp .le 6, 3) := by decide +kernel
theorem dX6_round_19 : decode cX6_round 19 = .ok (.bipush (-2), 2) := by decide +kernel
theorem dX6_round_21 : decode cX6_round 21 = .ok (.ireturn, 1) := by decide +kernel
theorem dX6_round_22 : decode cX6_round 22 = .ok (.iconst 0, 1) := by decide +kernel
theorem dX6_round_23 : decode cX6_round 23 = .ok (.istore_n 3, 1) := by decide +kernel
theorem dX6_round_24 : decode cX6_round 24 = .ok (.iload_n 1, 1) := by decide +kernel
theorem dX6_round_25 : decode cX6_round 25 = .ok (.istore 4, 2) := by decide +kernel
theorem dX6_round_27 : decode cX6_round 27 = .ok (.iload 4, 2) := by decide +kernel
theorem dX6_round_29 : decode cX6_round 29 = .ok (.aload_n 0, 1) := by decide +kernel
theorem dX6_round_30 : decode cX6_round 30 = .ok (.getfield 63, 3) := by decide +kernel
theorem dX6_round_33 : decode cX6_round 33 = .ok (.if_icmp .ge 77, 3) := by decide +kernel
theorem dX6_round_36 : decode cX6_round 36 = .ok (.iload 4, 2) := by decide +kernel
theorem dX6_round_38 : decode cX6_round 38 = .ok (.iload_n 1, 1) := by decide +kernel
theorem dX6_round_39 : decode cX6_round 39 = .ok (.iload_n 2, 1) := by decide +kernel
theorem dX6_round_40 : decode cX6_round 40 = .ok (.iadd, 1) := by decide +kernel
theorem dX6_round_41 : decode cX6_round 41 = .ok (.if_icmp .ge 69, 3) := by decide +kernel
theorem dX6_round_44 : decode cX6_round 44 = .ok (.aload_n 0, 1) := by decide +kernel
theorem dX6_round_45 : decode cX6_round 45 = .ok (.getfield 29, 3) := by decide +kernel
theorem dX6_round_48 : decode cX6_round 48 = .ok (.iload 4, 2) := by decide +kernel
theorem dX6_round_50 : decode cX6_round 50 = .ok (.iaload, 1) := by decide +kernel
theorem dX6_round_51 : decode cX6_round 51 = .ok (.istore 5, 2) := by decide +kernel
theorem dX6_round_53 : decode cX6_round 53 = .ok (.iload 5, 2) := by decide +kernel
theorem dX6_round_55 : decode cX6_round 55 = .ok (.iconst (-1), 1) := by decide +kernel
theorem dX6_round_56 : decode cX6_round 56 = .ok (.if_icmp .ne 5, 3) := by decide +kernel
theorem dX6_round_59 : decode cX6_round 59 = .ok (.iload_n 3, 1) := by decide +kernel
theorem dX6_round_60 : decode cX6_round 60 = .ok (.ireturn, 1) := by decide +kernel
theorem dX6_round_61 : decode cX6_round 61 = .ok (.aload_n 0, 1) := by decide +kernel
theorem dX6_round_62 : decode cX6_round 62 = .ok (.getfield 13, 3) := by decide +kernel
theorem dX6_round_65 : decode cX6_round 65 = .ok (.iload 5, 2) := by decide +kernel
theorem dX6_round_67 : decode cX6_round 67 = .ok (.dup2, 1) := by decide +kernel
theorem dX6_round_68 : decode cX6_round 68 = .ok (.iaload, 1) := by decide +kernel
theorem dX6_round_69 : decode cX6_round 69 = .ok (.iconst 1, 1) := by decide +kernel
theorem dX6_round_70 : decode cX6_round 70 = .ok (.iadd, 1) := by decide +kernel
theorem dX6_round_71 : decode cX6_round 71 = .ok (.iastore, 1) := by decide +kernel
theorem dX6_round_72 : decode cX6_round 72 = .ok (.aload_n 0, 1) := by decide +kernel
theorem dX6_round_73 : decode cX6_round 73 = .ok (.getfield 7, 3) := by decide +kernel
theorem dX6_round_76 : decode cX6_round 76 = .ok (.iload 5, 2) := by decide +kernel
theorem dX6_round_78 : decode cX6_round 78 = .ok (.baload, 1) := by decide +kernel
theorem dX6_round_79 : decode cX6_round 79 = .ok (.ifCond .eq 10, 3) := by decide +kernel
theorem dX6_round_82 : decode cX6_round 82 = .ok (.aload_n 0, 1) := by decide +kernel
theorem dX6_round_83 : decode cX6_round 83 = .ok (.bipush (-5), 2) := by decide +kernel
theorem dX6_round_85 : decode cX6_round 85 = .ok (.invokevirtual 93, 3) := by decide +kernel
theorem dX6_round_88 : decode cX6_round 88 = .ok (.ireturn, 1) := by decide +kernel
theorem dX6_round_89 : decode cX6_round 89 = .ok (.iload_n 3, 1) := by decide +kernel
theorem dX6_round_90 : decode cX6_round 90 = .ok (.aload_n 0, 1) := by decide +kernel
theorem dX6_round_91 : decode cX6_round 91 = .ok (.getfield 47, 3) := by decide +kernel
theorem dX6_round_94 : decode cX6_round 94 = .ok (.aload_n 0, 1) := by decide +kernel
theorem dX6_round_95 : decode cX6_round 95 = .ok (.getfield 35, 3) := by decide +kernel
theorem dX6_round_98 : decode cX6_round 98 = .ok (.iload 4, 2) := by decide +kernel
theorem dX6_round_100 : decode cX6_round 100 = .ok (.iaload, 1) := by decide +kernel
theorem dX6_round_101 : decode cX6_round 101 = .ok (.iaload, 1) := by decide +kernel
theorem dX6_round_102 : decode cX6_round 102 = .ok (.iadd, 1) := by decide +kernel
theorem dX6_round_103 : decode cX6_round 103 = .ok (.istore_n 3, 1) := by decide +kernel
theorem dX6_round_104 : decode cX6_round 104 = .ok (.iinc 4 1, 3) := by decide +kernel
theorem dX6_round_107 : decode cX6_round 107 = .ok (.goto (-80), 3) := by decide +kernel
theorem dX6_round_110 : decode cX6_round 110 = .ok (.iload_n 3, 1) := by decide +kernel
theorem dX6_round_111 : decode cX6_round 111 = .ok (.ireturn, 1) := by decide +kernel
set_option maxRecDepth 20000 in
theorem ggX6_tend_X6_isRamp : GoodIn wsX6_tend wsX6_isRamp := goodIn_r _ [7, 8, 14, 15, 16, 17, 18, 19, 20, 21, 22, 23, 24, 25, 26, 27, 28, 29, 30, 31, 32, 33, 34, 35] (by decide +kernel) (by decide +kernel)
set_option maxRecDepth 20000 in
theorem gX6_tend_X6_isRamp : GoodIn wsX6_tend (wsV RX6 76 RX6 yX6_isRamp wsX6_isRamp) := goodIn_app (goodIn_of _ (by decide +kernel)) ggX6_tend_X6_isRamp
set_option maxRecDepth 20000 in
theorem ggX6_tend_X6_alarm : GoodIn wsX6_tend wsX6_alarm := goodIn_r _ [12, 13, 14, 15, 16, 17, 18, 19, 20, 21, 22, 23, 24, 25, 26, 27, 28, 29, 30, 31, 32, 33, 34, 35] (by decide +kernel) (by decide +kernel)
set_option maxRecDepth 20000 in
theorem gX6_tend_X6_alarm : GoodIn wsX6_tend (wsV RX6 93 RX6 yX6_alarm wsX6_alarm) := goodIn_app (goodIn_of _ (by decide +kernel)) ggX6_tend_X6_alarm
theorem dX6_tend_0 : decode cX6_tend 0 = .ok (.aload_n 0, 1) := by decide +kernel
theorem dX6_tend_1 : decode cX6_tend 1 = .ok (.iload_n 1, 1) := by decide +kernel
theorem dX6_tend_2 : decode cX6_tend 2 = .ok (.invokevirtual 76, 3) := by decide +kernel
theorem dX6_tend_5 : decode cX6_tend 5 = .ok (.ifCond .ne 6, 3) := by decide +kernel
theorem dX6_tend_8 : decode cX6_tend 8 = .ok (.bipush (-2), 2) := by decide +kernel
theorem dX6_tend_10 : decode cX6_tend 10 = .ok (.ireturn, 1) := by decide +kernel
theorem dX6_tend_11 : decode cX6_tend 11 = .ok (.aload_n 0, 1) := by decide +kernel
theorem dX6_tend_12 : decode cX6_tend 12 = .ok (.getfield 26, 3) := by decide +kernel
theorem dX6_tend_15 : decode cX6_tend 15 = .ok (.iload_n 1, 1) := by decide +kernel
theorem dX6_tend_16 : decode cX6_tend 16 = .ok (.dup2, 1) := by decide +kernel
theorem dX6_tend_17 : decode cX6_tend 17 = .ok (.iaload, 1) := by decide +kernel
theorem dX6_tend_18 : decode cX6_tend 18 = .ok (.iconst 1, 1) := by decide +kernel
theorem dX6_tend_19 : decode cX6_tend 19 = .ok (.iadd, 1) := by decide +kernel
theorem dX6_tend_20 : decode cX6_tend 20 = .ok (.iastore, 1) := by decide +kernel
theorem dX6_tend_21 : decode cX6_tend 21 = .ok (.aload_n 0, 1) := by decide +kernel
theorem dX6_tend_22 : decode cX6_tend 22 = .ok (.getfield 23, 3) := by decide +kernel
theorem dX6_tend_25 : decode cX6_tend 25 = .ok (.iload_n 1, 1) := by decide +kernel
theorem dX6_tend_26 : decode cX6_tend 26 = .ok (.iaload, 1) := by decide +kernel
theorem dX6_tend_27 : decode cX6_tend 27 = .ok (.ifCond .ne 10, 3) := by decide +kernel
theorem dX6_tend_30 : decode cX6_tend 30 = .ok (.aload_n 0, 1) := by decide +kernel
theorem dX6_tend_31 : decode cX6_tend 31 = .ok (.bipush (-5), 2) := by decide +kernel
theorem dX6_tend_33 : decode cX6_tend 33 = .ok (.invokevirtual 93, 3) := by decide +kernel
theorem dX6_tend_36 : decode cX6_tend 36 = .ok (.ireturn, 1) := by decide +kernel
theorem dX6_tend_37 : decode cX6_tend 37 = .ok (.aload_n 0, 1) := by decide +kernel
theorem dX6_tend_38 : decode cX6_tend 38 = .ok (.getfield 23, 3) := by decide +kernel
theorem dX6_tend_41 : decode cX6_tend 41 = .ok (.iload_n 1, 1) := by decide +kernel
theorem dX6_tend_42 : decode cX6_tend 42 = .ok (.iaload, 1) := by decide +kernel
theorem dX6_tend_43 : decode cX6_tend 43 = .ok (.istore_n 2, 1) := by decide +kernel
theorem dX6_tend_44 : decode cX6_tend 44 = .ok (.aload_n 0, 1) := by decide +kernel
theorem dX6_tend_45 : decode cX6_tend 45 = .ok (.getfield 23, 3) := by decide +kernel
theorem dX6_tend_48 : decode cX6_tend 48 = .ok (.iload_n 1, 1) := by decide +kernel
theorem dX6_tend_49 : decode cX6_tend 49 = .ok (.iconst 0, 1) := by decide +kernel
theorem dX6_tend_50 : decode cX6_tend 50 = .ok (.iastore, 1) := by decide +kernel
theorem dX6_tend_51 : decode cX6_tend 51 = .ok (.iload_n 2, 1) := by decide +kernel
theorem dX6_tend_52 : decode cX6_tend 52 = .ok (.ireturn, 1) := by decide +kernel
set_option maxRecDepth 20000 in
theorem ggX6_shift_X6_isBerth : GoodIn wsX6_shift wsX6_isBerth := goodIn_r _ [10, 11, 21, 22, 23, 24, 25, 26, 27, 28, 29, 30, 31, 32, 33, 34, 35, 36, 37, 38, 39, 40, 41, 42] (by decide +kernel) (by decide +kernel)
set_option maxRecDepth 20000 in
theorem gX6_shift_X6_isBerth : GoodIn wsX6_shift (wsV RX6 69 RX6 yX6_isBerth wsX6_isBerth) := goodIn_app (goodIn_of _ (by decide +kernel)) ggX6_shift_X6_isBerth
set_option maxRecDepth 20000 in
theorem ggX6_shift_X6_goes : GoodIn wsX6_shift wsX6_goes := goodIn_r _ [15, 16, 4, 21, 22, 23, 24, 25, 26, 27, 28, 29, 30, 31, 32, 33, 34, 35, 36, 37, 38, 39, 40, 41, 42] (by decide +kernel) (by decide +kernel)
set_option maxRecDepth 20000 in
theorem gX6_shift_X6_goes : GoodIn wsX6_shift (wsV RX6 86 RX6 yX6_goes wsX6_goes) := goodIn_app (goodIn_of _ (by decide +kernel)) ggX6_shift_X6_goes
set_option maxRecDepth 20000 in
theorem ggX6_shift_X6_comes : GoodIn wsX6_shift wsX6_comes := goodIn_r _ [20, 16, 4, 21, 22, 23, 24, 25, 26, 27, 28, 29, 30, 31, 32, 33, 34, 35, 36, 37, 38, 39, 40, 41, 42] (by decide +kernel) (by decide +kernel)
set_option maxRecDepth 20000 in
theorem gX6_shift_X6_comes : GoodIn wsX6_shift (wsV RX6 79 RX6 yX6_comes wsX6_comes) := goodIn_app (goodIn_of _ (by decide +kernel)) ggX6_shift_X6_comes
theorem dX6_shift_0 : decode cX6_shift 0 = .ok (.aload_n 0, 1) := by decide +kernel
theorem dX6_shift_1 : decode cX6_shift 1 = .ok (.iload_n 1, 1) := by decide +kernel
theorem dX6_shift_2 : decode cX6_shift 2 = .ok (.invokevirtual 69, 3) := by decide +kernel
theorem dX6_shift_5 : decode cX6_shift 5 = .ok (.ifCond .eq 27, 3) := by decide +kernel
theorem dX6_shift_8 : decode cX6_shift 8 = .ok (.aload_n 0, 1) := by decide +kernel
theorem dX6_shift_9 : decode cX6_shift 9 = .ok (.iload_n 2, 1) := by decide +kernel
theorem dX6_shift_10 : decode cX6_shift 10 = .ok (.invokevirtual 69, 3) := by decide +kernel
theorem dX6_shift_13 : decode cX6_shift 13 = .ok (.ifCond .eq 19, 3) := by decide +kernel
theorem dX6_shift_16 : decode cX6_shift 16 = .ok (.iload_n 1, 1) := by decide +kernel
theorem dX6_shift_17 : decode cX6_shift 17 = .ok (.iload_n 2, 1) := by decide +kernel
theorem dX6_shift_18 : decode cX6_shift 18 = .ok (.if_icmp .eq 14, 3) := by decide +kernel
theorem dX6_shift_21 : decode cX6_shift 21 = .ok (.iload_n 3, 1) := by decide +kernel
theorem dX6_shift_22 : decode cX6_shift 22 = .ok (.iconst 1, 1) := by decide +kernel
theorem dX6_shift_23 : decode cX6_shift 23 = .ok (.if_icmp .lt 9, 3) := by decide +kernel
theorem dX6_shift_26 : decode cX6_shift 26 = .ok (.iload_n 3, 1) := by decide +kernel
theorem dX6_shift_27 : decode cX6_shift 27 = .ok (.bipush 30, 2) := by decide +kernel
theorem dX6_shift_29 : decode cX6_shift 29 = .ok (.if_icmp .le 6, 3) := by decide +kernel
theorem dX6_shift_32 : decode cX6_shift 32 = .ok (.bipush (-2), 2) := by decide +kernel
theorem dX6_shift_34 : decode cX6_shift 34 = .ok (.ireturn, 1) := by decide +kernel
theorem dX6_shift_35 : decode cX6_shift 35 = .ok (.aload_n 0, 1) := by decide +kernel
theorem dX6_shift_36 : decode cX6_shift 36 = .ok (.getfield 29, 3) := by decide +kernel
theorem dX6_shift_39 : decode cX6_shift 39 = .ok (.iload_n 1, 1) := by decide +kernel
theorem dX6_shift_40 : decode cX6_shift 40 = .ok (.iaload, 1) := by decide +kernel
theorem dX6_shift_41 : decode cX6_shift 41 = .ok (.istore 4, 2) := by decide +kernel
theorem dX6_shift_43 : decode cX6_shift 43 = .ok (.iload 4, 2) := by decide +kernel
theorem dX6_shift_45 : decode cX6_shift 45 = .ok (.iconst (-1), 1) := by decide +kernel
theorem dX6_shift_46 : decode cX6_shift 46 = .ok (.if_icmp .ne 6, 3) := by decide +kernel
theorem dX6_shift_49 : decode cX6_shift 49 = .ok (.bipush (-4), 2) := by decide +kernel
theorem dX6_shift_51 : decode cX6_shift 51 = .ok (.ireturn, 1) := by decide +kernel
theorem dX6_shift_52 : decode cX6_shift 52 = .ok (.aload_n 0, 1) := by decide +kernel
theorem dX6_shift_53 : decode cX6_shift 53 = .ok (.getfield 13, 3) := by decide +kernel
theorem dX6_shift_56 : decode cX6_shift 56 = .ok (.iload 4, 2) := by decide +kernel
theorem dX6_shift_58 : decode cX6_shift 58 = .ok (.dup2, 1) := by decide +kernel
theorem dX6_shift_59 : decode cX6_shift 59 = .ok (.iaload, 1) := by decide +kernel
theorem dX6_shift_60 : decode cX6_shift 60 = .ok (.iconst 1, 1) := by decide +kernel
theorem dX6_shift_61 : decode cX6_shift 61 = .ok (.iadd, 1) := by decide +kernel
theorem dX6_shift_62 : decode cX6_shift 62 = .ok (.iastore, 1) := by decide +kernel
theorem dX6_shift_63 : decode cX6_shift 63 = .ok (.aload_n 0, 1) := by decide +kernel
theorem dX6_shift_64 : decode cX6_shift 64 = .ok (.getfield 7, 3) := by decide +kernel
theorem dX6_shift_67 : decode cX6_shift 67 = .ok (.iload 4, 2) := by decide +kernel
theorem dX6_shift_69 : decode cX6_shift 69 = .ok (.baload, 1) := by decide +kernel
theorem dX6_shift_70 : decode cX6_shift 70 = .ok (.ifCond .eq 6, 3) := by decide +kernel
theorem dX6_shift_73 : decode cX6_shift 73 = .ok (.bipush (-5), 2) := by decide +kernel
theorem dX6_shift_75 : decode cX6_shift 75 = .ok (.ireturn, 1) := by decide +kernel
theorem dX6_shift_76 : decode cX6_shift 76 = .ok (.iconst 0, 1) := by decide +kernel
theorem dX6_shift_77 : decode cX6_shift 77 = .ok (.istore 5, 2) := by decide +kernel
theorem dX6_shift_79 : decode cX6_shift 79 = .ok (.iload 5, 2) := by decide +kernel
theorem dX6_shift_81 : decode cX6_shift 81 = .ok (.iload_n 3, 1) := by decide +kernel
theorem dX6_shift_82 : decode cX6_shift 82 = .ok (.if_icmp .ge 106, 3) := by decide +kernel
theorem dX6_shift_85 : decode cX6_shift 85 = .ok (.aload_n 0, 1) := by decide +kernel
theorem dX6_shift_86 : decode cX6_shift 86 = .ok (.getfield 29, 3) := by decide +kernel
theorem dX6_shift_89 : decode cX6_shift 89 = .ok (.iload_n 2, 1) := by decide +kernel
theorem dX6_shift_90 : decode cX6_shift 90 = .ok (.iaload, 1) := by decide +kernel
theorem dX6_shift_91 : decode cX6_shift 91 = .ok (.istore 6, 2) := by decide +kernel
theorem dX6_shift_93 : decode cX6_shift 93 = .ok (.iload 6, 2) := by decide +kernel
theorem dX6_shift_95 : decode cX6_shift 95 = .ok (.iconst (-1), 1) := by decide +kernel
theorem dX6_shift_96 : decode cX6_shift 96 = .ok (.if_icmp .ne 6, 3) := by decide +kernel
theorem dX6_shift_99 : decode cX6_shift 99 = .ok (.bipush (-4), 2) := by decide +kernel
theorem dX6_shift_101 : decode cX6_shift 101 = .ok (.ireturn, 1) := by decide +kernel
theorem dX6_shift_102 : decode cX6_shift 102 = .ok (.aload_n 0, 1) := by decide +kernel
theorem dX6_shift_103 : decode cX6_shift 103 = .ok (.getfield 13, 3) := by decide +kernel
theorem dX6_shift_106 : decode cX6_shift 106 = .ok (.iload 6, 2) := by decide +kernel
theorem dX6_shift_108 : decode cX6_shift 108 = .ok (.dup2, 1) := by decide +kernel
theorem dX6_shift_109 : decode cX6_shift 109 = .ok (.iaload, 1) := by decide +kernel
theorem dX6_shift_110 : decode cX6_shift 110 = .ok (.iconst 1, 1) := by decide +kernel
theorem dX6_shift_111 : decode cX6_shift 111 = .ok (.iadd, 1) := by decide +kernel
theorem dX6_shift_112 : decode cX6_shift 112 = .ok (.iastore, 1) := by decide +kernel
theorem dX6_shift_113 : decode cX6_shift 113 = .ok (.aload_n 0, 1) := by decide +kernel
theorem dX6_shift_114 : decode cX6_shift 114 = .ok (.getfield 7, 3) := by decide +kernel
theorem dX6_shift_117 : decode cX6_shift 117 = .ok (.iload 6, 2) := by decide +kernel
theorem dX6_shift_119 : decode cX6_shift 119 = .ok (.baload, 1) := by decide +kernel
theorem dX6_shift_120 : decode cX6_shift 120 = .ok (.ifCond .ne 23, 3) := by decide +kernel
theorem dX6_shift_123 : decode cX6_shift 123 = .ok (.aload_n 0, 1) := by decide +kernel
theorem dX6_shift_124 : decode cX6_shift 124 = .ok (.getfield 38, 3) := by decide +kernel
theorem dX6_shift_127 : decode cX6_shift 127 = .ok (.iload_n 2, 1) := by decide +kernel
theorem dX6_shift_128 : decode cX6_shift 128 = .ok (.iaload, 1) := by decide +kernel
theorem dX6_shift_129 : decode cX6_shift 129 = .ok (.bipush 30, 2) := by decide +kernel
theorem dX6_shift_131 : decode cX6_shift 131 = .ok (.if_icmp .eq 12, 3) := by decide +kernel
theorem dX6_shift_134 : decode cX6_shift 134 = .ok (.aload_n 0, 1) := by decide +kernel
theorem dX6_shift_135 : decode cX6_shift 135 = .ok (.getfield 38, 3) := by decide +kernel
theorem dX6_shift_138 : decode cX6_shift 138 = .ok (.iload_n 1, 1) := by decide +kernel
theorem dX6_shift_139 : decode cX6_shift 139 = .ok (.iaload, 1) := by decide +kernel
theorem dX6_shift_140 : decode cX6_shift 140 = .ok (.ifCond .ne 6, 3) := by decide +kernel
theorem dX6_shift_143 : decode cX6_shift 143 = .ok (.iload 5, 2) := by decide +kernel
theorem dX6_shift_145 : decode cX6_shift 145 = .ok (.ireturn, 1) := by decide +kernel
theorem dX6_shift_146 : decode cX6_shift 146 = .ok (.aload_n 0, 1) := by decide +kernel
theorem dX6_shift_147 : decode cX6_shift 147 = .ok (.iload_n 1, 1) := by decide +kernel
theorem dX6_shift_148 : decode cX6_shift 148 = .ok (.invokevirtual 86, 3) := by decide +kernel
theorem dX6_shift_151 : decode cX6_shift 151 = .ok (.istore 7, 2) := by decide +kernel
theorem dX6_shift_153 : decode cX6_shift 153 = .ok (.aload_n 0, 1) := by decide +kernel
theorem dX6_shift_154 : decode cX6_shift 154 = .ok (.iload_n 2, 1) := by decide +kernel
theorem dX6_shift_155 : decode cX6_shift 155 = .ok (.iload 7, 2) := by decide +kernel
theorem dX6_shift_157 : decode cX6_shift 157 = .ok (.invokevirtual 79, 3) := by decide +kernel
theorem dX6_shift_160 : decode cX6_shift 160 = .ok (.aload_n 0, 1) := by decide +kernel
theorem dX6_shift_161 : decode cX6_shift 161 = .ok (.getfield 17, 3) := by decide +kernel
theorem dX6_shift_164 : decode cX6_shift 164 = .ok (.iload 4, 2) := by decide +kernel
theorem dX6_shift_166 : decode cX6_shift 166 = .ok (.dup2, 1) := by decide +kernel
theorem dX6_shift_167 : decode cX6_shift 167 = .ok (.iaload, 1) := by decide +kernel
theorem dX6_shift_168 : decode cX6_shift 168 = .ok (.iconst 1, 1) := by decide +kernel
theorem dX6_shift_169 : decode cX6_shift 169 = .ok (.iadd, 1) := by decide +kernel
theorem dX6_shift_170 : decode cX6_shift 170 = .ok (.iastore, 1) := by decide +kernel
theorem dX6_shift_171 : decode cX6_shift 171 = .ok (.aload_n 0, 1) := by decide +kernel
theorem dX6_shift_172 : decode cX6_shift 172 = .ok (.getfield 17, 3) := by decide +kernel
theorem dX6_shift_175 : decode cX6_shift 175 = .ok (.iload 6, 2) := by decide +kernel
theorem dX6_shift_177 : decode cX6_shift 177 = .ok (.dup2, 1) := by decide +kernel
theorem dX6_shift_178 : decode cX6_shift 178 = .ok (.iaload, 1) := by decide +kernel
theorem dX6_shift_179 : decode cX6_shift 179 = .ok (.iconst 1, 1) := by decide +kernel
theorem dX6_shift_180 : decode cX6_shift 180 = .ok (.iadd, 1) := by decide +kernel
theorem dX6_shift_181 : decode cX6_shift 181 = .ok (.iastore, 1) := by decide +kernel
theorem dX6_shift_182 : decode cX6_shift 182 = .ok (.iinc 5 1, 3) := by decide +kernel
theorem dX6_shift_185 : decode cX6_shift 185 = .ok (.goto (-106), 3) := by decide +kernel
theorem dX6_shift_188 : decode cX6_shift 188 = .ok (.iload_n 3, 1) := by decide +kernel
theorem dX6_shift_189 : decode cX6_shift 189 = .ok (.ireturn, 1) := by decide +kernel
set_option maxRecDepth 20000 in
theorem ggX6_state_X6_isBerth : GoodIn wsX6_state wsX6_isBerth := goodIn_r _ [12, 13, 14, 15, 16, 17, 18, 19, 20, 21, 22, 23, 24, 25, 26, 27, 28, 29, 30, 31, 32, 33, 34, 35] (by decide +kernel) (by decide +kernel)
set_option maxRecDepth 20000 in
theorem gX6_state_X6_isBerth : GoodIn wsX6_state (wsV RX6 69 RX6 yX6_isBerth wsX6_isBerth) := goodIn_app (goodIn_of _ (by decide +kernel)) ggX6_state_X6_isBerth
theorem dX6_state_0 : decode cX6_state 0 = .ok (.aload_n 0, 1) := by decide +kernel
theorem dX6_state_1 : decode cX6_state 1 = .ok (.iload_n 1, 1) := by decide +kernel
theorem dX6_state_2 : decode cX6_state 2 = .ok (.invokevirtual 69, 3) := by decide +kernel
theorem dX6_state_5 : decode cX6_state 5 = .ok (.ifCond .ne 6, 3) := by decide +kernel
theorem dX6_state_8 : decode cX6_state 8 = .ok (.bipush (-2), 2) := by decide +kernel
theorem dX6_state_10 : decode cX6_state 10 = .ok (.ireturn, 1) := by decide +kernel
theorem dX6_state_11 : decode cX6_state 11 = .ok (.aload_n 0, 1) := by decide +kernel
theorem dX6_state_12 : decode cX6_state 12 = .ok (.getfield 35, 3) := by decide +kernel
theorem dX6_state_15 : decode cX6_state 15 = .ok (.iload_n 1, 1) := by decide +kernel
theorem dX6_state_16 : decode cX6_state 16 = .ok (.iaload, 1) := by decide +kernel
theorem dX6_state_17 : decode cX6_state 17 = .ok (.istore_n 3, 1) := by decide +kernel
theorem dX6_state_18 : decode cX6_state 18 = .ok (.iload_n 2, 1) := by decide +kernel
theorem dX6_state_19 : decode cX6_state 19 = .ok (.tableswitch 79 0 5 #[37, 44, 51, 58, 65, 72], 37) := by decide +kernel
theorem dX6_state_56 : decode cX6_state 56 = .ok (.aload_n 0, 1) := by decide +kernel
theorem dX6_state_57 : decode cX6_state 57 = .ok (.getfield 29, 3) := by decide +kernel
theorem dX6_state_60 : decode cX6_state 60 = .ok (.iload_n 1, 1) := by decide +kernel
theorem dX6_state_61 : decode cX6_state 61 = .ok (.iaload, 1) := by decide +kernel
theorem dX6_state_62 : decode cX6_state 62 = .ok (.ireturn, 1) := by decide +kernel
theorem dX6_state_63 : decode cX6_state 63 = .ok (.aload_n 0, 1) := by decide +kernel
theorem dX6_state_64 : decode cX6_state 64 = .ok (.getfield 32, 3) := by decide +kernel
theorem dX6_state_67 : decode cX6_state 67 = .ok (.iload_n 1, 1) := by decide +kernel
theorem dX6_state_68 : decode cX6_state 68 = .ok (.iaload, 1) := by decide +kernel
theorem dX6_state_69 : decode cX6_state 69 = .ok (.ireturn, 1) := by decide +kernel
theorem dX6_state_70 : decode cX6_state 70 = .ok (.aload_n 0, 1) := by decide +kernel
theorem dX6_state_71 : decode cX6_state 71 = .ok (.getfield 38, 3) := by decide +kernel
theorem dX6_state_74 : decode cX6_state 74 = .ok (.iload_n 1, 1) := by decide +kernel
theorem dX6_state_75 : decode cX6_state 75 = .ok (.iaload, 1) := by decide +kernel
theorem dX6_state_76 : decode cX6_state 76 = .ok (.ireturn, 1) := by decide +kernel
theorem dX6_state_77 : decode cX6_state 77 = .ok (.aload_n 0, 1) := by decide +kernel
theorem dX6_state_78 : decode cX6_state 78 = .ok (.getfield 50, 3) := by decide +kernel
theorem dX6_state_81 : decode cX6_state 81 = .ok (.iload_n 3, 1) := by decide +kernel
theorem dX6_state_82 : decode cX6_state 82 = .ok (.iaload, 1) := by decide +kernel
theorem dX6_state_83 : decode cX6_state 83 = .ok (.ireturn, 1) := by decide +kernel
theorem dX6_state_84 : decode cX6_state 84 = .ok (.aload_n 0, 1) := by decide +kernel
theorem dX6_state_85 : decode cX6_state 85 = .ok (.getfield 47, 3) := by decide +kernel
theorem dX6_state_88 : decode cX6_state 88 = .ok (.iload_n 3, 1) := by decide +kernel
theorem dX6_state_89 : decode cX6_state 89 = .ok (.iaload, 1) := by decide +kernel
theorem dX6_state_90 : decode cX6_state 90 = .ok (.ireturn, 1) := by decide +kernel
theorem dX6_state_91 : decode cX6_state 91 = .ok (.aload_n 0, 1) := by decide +kernel
theorem dX6_state_92 : decode cX6_state 92 = .ok (.getfield 44, 3) := by decide +kernel
theorem dX6_state_95 : decode cX6_state 95 = .ok (.iload_n 3, 1) := by decide +kernel
theorem dX6_state_96 : decode cX6_state 96 = .ok (.iaload, 1) := by decide +kernel
theorem dX6_state_97 : decode cX6_state 97 = .ok (.ireturn, 1) := by decide +kernel
theorem dX6_state_98 : decode cX6_state 98 = .ok (.bipush (-2), 2) := by decide +kernel
theorem dX6_state_100 : decode cX6_state 100 = .ok (.ireturn, 1) := by decide +kernel
set_option maxRecDepth 20000 in
theorem ggX6_waiting_X6_isBerth : GoodIn wsX6_waiting wsX6_isBerth := goodIn_r _ [7, 8, 9, 10, 11, 12, 13, 14, 15, 16, 17, 18, 19, 20, 21, 22, 23, 24, 25, 26, 27, 28, 29, 30] (by decide +kernel) (by decide +kernel)
set_option maxRecDepth 20000 in
theorem gX6_waiting_X6_isBerth : GoodIn wsX6_waiting (wsV RX6 69 RX6 yX6_isBerth wsX6_isBerth) := goodIn_app (goodIn_of _ (by decide +kernel)) ggX6_waiting_X6_isBerth
theorem dX6_waiting_0 : decode cX6_waiting 0 = .ok (.aload_n 0, 1) := by decide +kernel
theorem dX6_waiting_1 : decode cX6_waiting 1 = .ok (.iload_n 1, 1) := by decide +kernel
theorem dX6_waiting_2 : decode cX6_waiting 2 = .ok (.invokevirtual 69, 3) := by decide +kernel
theorem dX6_waiting_5 : decode cX6_waiting 5 = .ok (.ifCond .ne 6, 3) := by decide +kernel
theorem dX6_waiting_8 : decode cX6_waiting 8 = .ok (.bipush (-2), 2) := by decide +kernel
theorem dX6_waiting_10 : decode cX6_waiting 10 = .ok (.ireturn, 1) := by decide +kernel
theorem dX6_waiting_11 : decode cX6_waiting 11 = .ok (.iload_n 2, 1) := by decide +kernel
theorem dX6_waiting_12 : decode cX6_waiting 12 = .ok (.ifCond .lt 27, 3) := by decide +kernel
theorem dX6_waiting_15 : decode cX6_waiting 15 = .ok (.iload_n 2, 1) := by decide +kernel
theorem dX6_waiting_16 : decode cX6_waiting 16 = .ok (.aload_n 0, 1) := by decide +kernel
theorem dX6_waiting_17 : decode cX6_waiting 17 = .ok (.getfield 38, 3) := by decide +kernel
theorem dX6_waiting_20 : decode cX6_waiting 20 = .ok (.iload_n 1, 1) := by decide +kernel
theorem dX6_waiting_21 : decode cX6_waiting 21 = .ok (.iaload, 1) := by decide +kernel
theorem dX6_waiting_22 : decode cX6_waiting 22 = .ok (.if_icmp .ge 17, 3) := by decide +kernel
theorem dX6_waiting_25 : decode cX6_waiting 25 = .ok (.aload_n 0, 1) := by decide +kernel
theorem dX6_waiting_26 : decode cX6_waiting 26 = .ok (.getfield 41, 3) := by decide +kernel
theorem dX6_waiting_29 : decode cX6_waiting 29 = .ok (.bipush 30, 2) := by decide +kernel
theorem dX6_waiting_31 : decode cX6_waiting 31 = .ok (.iload_n 1, 1) := by decide +kernel
theorem dX6_waiting_32 : decode cX6_waiting 32 = .ok (.imul, 1) := by decide +kernel
theorem dX6_waiting_33 : decode cX6_waiting 33 = .ok (.iload_n 2, 1) := by decide +kernel
theorem dX6_waiting_34 : decode cX6_waiting 34 = .ok (.iadd, 1) := by decide +kernel
theorem dX6_waiting_35 : decode cX6_waiting 35 = .ok (.iaload, 1) := by decide +kernel
theorem dX6_waiting_36 : decode cX6_waiting 36 = .ok (.goto 4, 3) := by decide +kernel
theorem dX6_waiting_39 : decode cX6_waiting 39 = .ok (.iconst (-1), 1) := by decide +kernel
theorem dX6_waiting_40 : decode cX6_waiting 40 = .ok (.ireturn, 1) := by decide +kernel
set_option maxRecDepth 20000 in
theorem ggX6_aboard_X6_isBerth : GoodIn wsX6_aboard wsX6_isBerth := goodIn_r _ [8, 9, 10, 11, 12, 13, 14, 15, 16, 17, 18, 19, 20, 21, 22, 23, 24, 25, 26, 27, 28, 29, 30, 31] (by decide +kernel) (by decide +kernel)
set_option maxRecDepth 20000 in
theorem gX6_aboard_X6_isBerth : GoodIn wsX6_aboard (wsV RX6 69 RX6 yX6_isBerth wsX6_isBerth) := goodIn_app (goodIn_of _ (by decide +kernel)) ggX6_aboard_X6_isBerth
theorem dX6_aboard_0 : decode cX6_aboard 0 = .ok (.aload_n 0, 1) := by decide +kernel
theorem dX6_aboard_1 : decode cX6_aboard 1 = .ok (.iload_n 1, 1) := by decide +kernel
theorem dX6_aboard_2 : decode cX6_aboard 2 = .ok (.invokevirtual 69, 3) := by decide +kernel
theorem dX6_aboard_5 : decode cX6_aboard 5 = .ok (.ifCond .ne 6, 3) := by decide +kernel
theorem dX6_aboard_8 : decode cX6_aboard 8 = .ok (.bipush (-2), 2) := by decide +kernel
theorem dX6_aboard_10 : decode cX6_aboard 10 = .ok (.ireturn, 1) := by decide +kernel
theorem dX6_aboard_11 : decode cX6_aboard 11 = .ok (.aload_n 0, 1) := by decide +kernel
theorem dX6_aboard_12 : decode cX6_aboard 12 = .ok (.getfield 35, 3) := by decide +kernel
theorem dX6_aboard_15 : decode cX6_aboard 15 = .ok (.iload_n 1, 1) := by decide +kernel
theorem dX6_aboard_16 : decode cX6_aboard 16 = .ok (.iaload, 1) := by decide +kernel
theorem dX6_aboard_17 : decode cX6_aboard 17 = .ok (.istore_n 3, 1) := by decide +kernel
theorem dX6_aboard_18 : decode cX6_aboard 18 = .ok (.iload_n 2, 1) := by decide +kernel
theorem dX6_aboard_19 : decode cX6_aboard 19 = .ok (.ifCond .lt 27, 3) := by decide +kernel
theorem dX6_aboard_22 : decode cX6_aboard 22 = .ok (.iload_n 2, 1) := by decide +kernel
theorem dX6_aboard_23 : decode cX6_aboard 23 = .ok (.aload_n 0, 1) := by decide +kernel
theorem dX6_aboard_24 : decode cX6_aboard 24 = .ok (.getfield 50, 3) := by decide +kernel
theorem dX6_aboard_27 : decode cX6_aboard 27 = .ok (.iload_n 3, 1) := by decide +kernel
theorem dX6_aboard_28 : decode cX6_aboard 28 = .ok (.iaload, 1) := by decide +kernel
theorem dX6_aboard_29 : decode cX6_aboard 29 = .ok (.if_icmp .ge 17, 3) := by decide +kernel
theorem dX6_aboard_32 : decode cX6_aboard 32 = .ok (.aload_n 0, 1) := by decide +kernel
theorem dX6_aboard_33 : decode cX6_aboard 33 = .ok (.getfield 53, 3) := by decide +kernel
theorem dX6_aboard_36 : decode cX6_aboard 36 = .ok (.bipush 40, 2) := by decide +kernel
theorem dX6_aboard_38 : decode cX6_aboard 38 = .ok (.iload_n 3, 1) := by decide +kernel
theorem dX6_aboard_39 : decode cX6_aboard 39 = .ok (.imul, 1) := by decide +kernel
theorem dX6_aboard_40 : decode cX6_aboard 40 = .ok (.iload_n 2, 1) := by decide +kernel
theorem dX6_aboard_41 : decode cX6_aboard 41 = .ok (.iadd, 1) := by decide +kernel
theorem dX6_aboard_42 : decode cX6_aboard 42 = .ok (.iaload, 1) := by decide +kernel
theorem dX6_aboard_43 : decode cX6_aboard 43 = .ok (.goto 4, 3) := by decide +kernel
theorem dX6_aboard_46 : decode cX6_aboard 46 = .ok (.iconst (-1), 1) := by decide +kernel
theorem dX6_aboard_47 : decode cX6_aboard 47 = .ok (.ireturn, 1) := by decide +kernel
set_option maxRecDepth 20000 in
theorem ggX6_ofGate_X6_isGate : GoodIn wsX6_ofGate wsX6_isGate := goodIn_r _ [8, 9, 10, 11, 12, 13, 14, 15, 16, 17, 18, 19, 20, 21, 22, 23, 24, 25, 26, 27, 28, 29, 30, 31] (by decide +kernel) (by decide +kernel)
set_option maxRecDepth 20000 in
theorem gX6_ofGate_X6_isGate : GoodIn wsX6_ofGate (wsV RX6 73 RX6 yX6_isGate wsX6_isGate) := goodIn_app (goodIn_of _ (by decide +kernel)) ggX6_ofGate_X6_isGate
theorem dX6_ofGate_0 : decode cX6_ofGate 0 = .ok (.aload_n 0, 1) := by decide +kernel
theorem dX6_ofGate_1 : decode cX6_ofGate 1 = .ok (.iload_n 1, 1) := by decide +kernel
theorem dX6_ofGate_2 : decode cX6_ofGate 2 = .ok (.invokevirtual 73, 3) := by decide +kernel
theorem dX6_ofGate_5 : decode cX6_ofGate 5 = .ok (.ifCond .eq 12, 3) := by decide +kernel
theorem dX6_ofGate_8 : decode cX6_ofGate 8 = .ok (.iload_n 2, 1) := by decide +kernel
theorem dX6_ofGate_9 : decode cX6_ofGate 9 = .ok (.ifCond .lt 8, 3) := by decide +kernel
theorem dX6_ofGate_12 : decode cX6_ofGate 12 = .ok (.iload_n 2, 1) := by decide +kernel
theorem dX6_ofGate_13 : decode cX6_ofGate 13 = .ok (.iconst 2, 1) := by decide +kernel
theorem dX6_ofGate_14 : decode cX6_ofGate 14 = .ok (.if_icmp .le 6, 3) := by decide +kernel
theorem dX6_ofGate_17 : decode cX6_ofGate 17 = .ok (.bipush (-2), 2) := by decide +kernel
theorem dX6_ofGate_19 : decode cX6_ofGate 19 = .ok (.ireturn, 1) := by decide +kernel
theorem dX6_ofGate_20 : decode cX6_ofGate 20 = .ok (.iload_n 2, 1) := by decide +kernel
theorem dX6_ofGate_21 : decode cX6_ofGate 21 = .ok (.ifCond .ne 12, 3) := by decide +kernel
theorem dX6_ofGate_24 : decode cX6_ofGate 24 = .ok (.aload_n 0, 1) := by decide +kernel
theorem dX6_ofGate_25 : decode cX6_ofGate 25 = .ok (.getfield 13, 3) := by decide +kernel
theorem dX6_ofGate_28 : decode cX6_ofGate 28 = .ok (.iload_n 1, 1) := by decide +kernel
theorem dX6_ofGate_29 : decode cX6_ofGate 29 = .ok (.iaload, 1) := by decide +kernel
theorem dX6_ofGate_30 : decode cX6_ofGate 30 = .ok (.goto 31, 3) := by decide +kernel
theorem dX6_ofGate_33 : decode cX6_ofGate 33 = .ok (.iload_n 2, 1) := by decide +kernel
theorem dX6_ofGate_34 : decode cX6_ofGate 34 = .ok (.iconst 1, 1) := by decide +kernel
theorem dX6_ofGate_35 : decode cX6_ofGate 35 = .ok (.if_icmp .ne 12, 3) := by decide +kernel
theorem dX6_ofGate_38 : decode cX6_ofGate 38 = .ok (.aload_n 0, 1) := by decide +kernel
theorem dX6_ofGate_39 : decode cX6_ofGate 39 = .ok (.getfield 17, 3) := by decide +kernel
theorem dX6_ofGate_42 : decode cX6_ofGate 42 = .ok (.iload_n 1, 1) := by decide +kernel
theorem dX6_ofGate_43 : decode cX6_ofGate 43 = .ok (.iaload, 1) := by decide +kernel
theorem dX6_ofGate_44 : decode cX6_ofGate 44 = .ok (.goto 17, 3) := by decide +kernel
theorem dX6_ofGate_47 : decode cX6_ofGate 47 = .ok (.aload_n 0, 1) := by decide +kernel
theorem dX6_ofGate_48 : decode cX6_ofGate 48 = .ok (.getfield 7, 3) := by decide +kernel
theorem dX6_ofGate_51 : decode cX6_ofGate 51 = .ok (.iload_n 1, 1) := by decide +kernel
theorem dX6_ofGate_52 : decode cX6_ofGate 52 = .ok (.baload, 1) := by decide +kernel
theorem dX6_ofGate_53 : decode cX6_ofGate 53 = .ok (.ifCond .eq 7, 3) := by decide +kernel
theorem dX6_ofGate_56 : decode cX6_ofGate 56 = .ok (.iconst 1, 1) := by decide +kernel
theorem dX6_ofGate_57 : decode cX6_ofGate 57 = .ok (.goto 4, 3) := by decide +kernel
theorem dX6_ofGate_60 : decode cX6_ofGate 60 = .ok (.iconst 0, 1) := by decide +kernel
theorem dX6_ofGate_61 : decode cX6_ofGate 61 = .ok (.ireturn, 1) := by decide +kernel
set_option maxRecDepth 20000 in
theorem ggX6_ofRamp_X6_isRamp : GoodIn wsX6_ofRamp wsX6_isRamp := goodIn_r _ [8, 9, 10, 11, 12, 13, 14, 15, 16, 17, 18, 19, 20, 21, 22, 23, 24, 25, 26, 27, 28, 29, 30, 31] (by decide +kernel) (by decide +kernel)
set_option maxRecDepth 20000 in
theorem gX6_ofRamp_X6_isRamp : GoodIn wsX6_ofRamp (wsV RX6 76 RX6 yX6_isRamp wsX6_isRamp) := goodIn_app (goodIn_of _ (by decide +kernel)) ggX6_ofRamp_X6_isRamp
theorem dX6_ofRamp_0 : decode cX6_ofRamp 0 = .ok (.aload_n 0, 1) := by decide +kernel
theorem dX6_ofRamp_1 : decode cX6_ofRamp 1 = .ok (.iload_n 1, 1) := by decide +kernel
theorem dX6_ofRamp_2 : decode cX6_ofRamp 2 = .ok (.invokevirtual 76, 3) := by decide +kernel
theorem dX6_ofRamp_5 : decode cX6_ofRamp 5 = .ok (.ifCond .eq 12, 3) := by decide +kernel
theorem dX6_ofRamp_8 : decode cX6_ofRamp 8 = .ok (.iload_n 2, 1) := by decide +kernel
theorem dX6_ofRamp_9 : decode cX6_ofRamp 9 = .ok (.ifCond .lt 8, 3) := by decide +kernel
theorem dX6_ofRamp_12 : decode cX6_ofRamp 12 = .ok (.iload_n 2, 1) := by decide +kernel
theorem dX6_ofRamp_13 : decode cX6_ofRamp 13 = .ok (.iconst 2, 1) := by decide +kernel
theorem dX6_ofRamp_14 : decode cX6_ofRamp 14 = .ok (.if_icmp .le 6, 3) := by decide +kernel
theorem dX6_ofRamp_17 : decode cX6_ofRamp 17 = .ok (.bipush (-2), 2) := by decide +kernel
theorem dX6_ofRamp_19 : decode cX6_ofRamp 19 = .ok (.ireturn, 1) := by decide +kernel
theorem dX6_ofRamp_20 : decode cX6_ofRamp 20 = .ok (.iload_n 2, 1) := by decide +kernel
theorem dX6_ofRamp_21 : decode cX6_ofRamp 21 = .ok (.ifCond .ne 12, 3) := by decide +kernel
theorem dX6_ofRamp_24 : decode cX6_ofRamp 24 = .ok (.aload_n 0, 1) := by decide +kernel
theorem dX6_ofRamp_25 : decode cX6_ofRamp 25 = .ok (.getfield 26, 3) := by decide +kernel
theorem dX6_ofRamp_28 : decode cX6_ofRamp 28 = .ok (.iload_n 1, 1) := by decide +kernel
theorem dX6_ofRamp_29 : decode cX6_ofRamp 29 = .ok (.iaload, 1) := by decide +kernel
theorem dX6_ofRamp_30 : decode cX6_ofRamp 30 = .ok (.goto 23, 3) := by decide +kernel
theorem dX6_ofRamp_33 : decode cX6_ofRamp 33 = .ok (.iload_n 2, 1) := by decide +kernel
theorem dX6_ofRamp_34 : decode cX6_ofRamp 34 = .ok (.iconst 1, 1) := by decide +kernel
theorem dX6_ofRamp_35 : decode cX6_ofRamp 35 = .ok (.if_icmp .ne 12, 3) := by decide +kernel
theorem dX6_ofRamp_38 : decode cX6_ofRamp 38 = .ok (.aload_n 0, 1) := by decide +kernel
theorem dX6_ofRamp_39 : decode cX6_ofRamp 39 = .ok (.getfield 23, 3) := by decide +kernel
theorem dX6_ofRamp_42 : decode cX6_ofRamp 42 = .ok (.iload_n 1, 1) := by decide +kernel
theorem dX6_ofRamp_43 : decode cX6_ofRamp 43 = .ok (.iaload, 1) := by decide +kernel
theorem dX6_ofRamp_44 : decode cX6_ofRamp 44 = .ok (.goto 9, 3) := by decide +kernel
theorem dX6_ofRamp_47 : decode cX6_ofRamp 47 = .ok (.aload_n 0, 1) := by decide +kernel
theorem dX6_ofRamp_48 : decode cX6_ofRamp 48 = .ok (.getfield 20, 3) := by decide +kernel
theorem dX6_ofRamp_51 : decode cX6_ofRamp 51 = .ok (.iload_n 1, 1) := by decide +kernel
theorem dX6_ofRamp_52 : decode cX6_ofRamp 52 = .ok (.iaload, 1) := by decide +kernel
theorem dX6_ofRamp_53 : decode cX6_ofRamp 53 = .ok (.ireturn, 1) := by decide +kernel
theorem dX6_count_0 : decode cX6_count 0 = .ok (.iload_n 1, 1) := by decide +kernel
theorem dX6_count_1 : decode cX6_count 1 = .ok (.tableswitch 78 0 6 #[43, 48, 53, 58, 63, 68, 73], 43) := by decide +kernel
theorem dX6_count_44 : decode cX6_count 44 = .ok (.aload_n 0, 1) := by decide +kernel
theorem dX6_count_45 : decode cX6_count 45 = .ok (.getfield 56, 3) := by decide +kernel
theorem dX6_count_48 : decode cX6_count 48 = .ok (.ireturn, 1) := by decide +kernel
theorem dX6_count_49 : decode cX6_count 49 = .ok (.aload_n 0, 1) := by decide +kernel
theorem dX6_count_50 : decode cX6_count 50 = .ok (.getfield 60, 3) := by decide +kernel
theorem dX6_count_53 : decode cX6_count 53 = .ok (.ireturn, 1) := by decide +kernel
theorem dX6_count_54 : decode cX6_count 54 = .ok (.aload_n 0, 1) := by decide +kernel
theorem dX6_count_55 : decode cX6_count 55 = .ok (.getfield 63, 3) := by decide +kernel
theorem dX6_count_58 : decode cX6_count 58 = .ok (.ireturn, 1) := by decide +kernel
theorem dX6_count_59 : decode cX6_count 59 = .ok (.aload_n 0, 1) := by decide +kernel
theorem dX6_count_60 : decode cX6_count 60 = .ok (.getfield 83, 3) := by decide +kernel
theorem dX6_count_63 : decode cX6_count 63 = .ok (.ireturn, 1) := by decide +kernel
theorem dX6_count_64 : decode cX6_count 64 = .ok (.aload_n 0, 1) := by decide +kernel
theorem dX6_count_65 : decode cX6_count 65 = .ok (.getfield 96, 3) := by decide +kernel
theorem dX6_count_68 : decode cX6_count 68 = .ok (.ireturn, 1) := by decide +kernel
theorem dX6_count_69 : decode cX6_count 69 = .ok (.aload_n 0, 1) := by decide +kernel
theorem dX6_count_70 : decode cX6_count 70 = .ok (.getfield 90, 3) := by decide +kernel
theorem dX6_count_73 : decode cX6_count 73 = .ok (.ireturn, 1) := by decide +kernel
theorem dX6_count_74 : decode cX6_count 74 = .ok (.aload_n 0, 1) := by decide +kernel
theorem dX6_count_75 : decode cX6_count 75 = .ok (.getfield 66, 3) := by decide +kernel
theorem dX6_count_78 : decode cX6_count 78 = .ok (.ireturn, 1) := by decide +kernel
theorem dX6_count_79 : decode cX6_count 79 = .ok (.bipush (-2), 2) := by decide +kernel
theorem dX6_count_81 : decode cX6_count 81 = .ok (.ireturn, 1) := by decide +kernel
