theorem dX2_collect_72 : decode cX2_collect 72 = .ok (.iconst 0, 1) := by decide +kernel
theorem dX2_collect_73 : decode cX2_collect 73 = .ok (.ireturn, 1) := by decide +kernel
theorem dX2_collect_74 : decode cX2_collect 74 = .ok (.iinc 3 1, 3) := by decide +kernel
theorem dX2_collect_77 : decode cX2_collect 77 = .ok (.goto (-64), 3) := by decide +kernel
theorem dX2_collect_80 : decode cX2_collect 80 = .ok (.aload_n 0, 1) := by decide +kernel
theorem dX2_collect_81 : decode cX2_collect 81 = .ok (.getfield 14, 3) := by decide +kernel
theorem dX2_collect_84 : decode cX2_collect 84 = .ok (.iload_n 1, 1) := by decide +kernel
theorem dX2_collect_85 : decode cX2_collect 85 = .ok (.invokevirtual 139, 3) := by decide +kernel
theorem dX2_collect_88 : decode cX2_collect 88 = .ok (.ireturn, 1) := by decide +kernel
set_option maxRecDepth 20000 in
theorem ggX2_losePower_X2_startAgain : GoodIn wsX2_losePower wsX2_startAgain := goodIn_r _ [5, 6, 7, 8, 9, 10, 11, 12, 13, 14, 15, 16, 17, 18, 19, 20, 21, 22, 23, 24, 25, 26, 27, 28, 29, 30, 31, 32, 33, 34, 35, 36, 37, 38, 39, 40, 41, 42, 43, 44, 45, 46, 47, 4, 48, 49, 50, 51, 52, 53, 54, 55, 56, 57, 58, 59, 60, 61, 62, 63, 64, 65, 66, 67, 68, 69, 70, 71, 72, 73, 74, 75, 76, 77, 78, 79, 80, 81, 82, 83, 84, 85, 86, 87, 88] (by decide +kernel) (by decide +kernel)
set_option maxRecDepth 20000 in
theorem gX2_losePower_X2_startAgain : GoodIn wsX2_losePower (wsV RX2 142 RX2 yX2_startAgain wsX2_startAgain) := goodIn_app (goodIn_of _ (by decide +kernel)) ggX2_losePower_X2_startAgain
theorem dX2_losePower_0 : decode cX2_losePower 0 = .ok (.aload_n 0, 1) := by decide +kernel
theorem dX2_losePower_1 : decode cX2_losePower 1 = .ok (.invokevirtual 142, 3) := by decide +kernel
theorem dX2_losePower_4 : decode cX2_losePower 4 = .ok (.ifCond .ne 8, 3) := by decide +kernel
theorem dX2_losePower_7 : decode cX2_losePower 7 = .ok (.aload_n 0, 1) := by decide +kernel
theorem dX2_losePower_8 : decode cX2_losePower 8 = .ok (.invokevirtual 142, 3) := by decide +kernel
theorem dX2_losePower_11 : decode cX2_losePower 11 = .ok (.pop, 1) := by decide +kernel
theorem dX2_losePower_12 : decode cX2_losePower 12 = .ok (.return_, 1) := by decide +kernel
set_option maxRecDepth 20000 in
theorem ggX2_startAgain_X1_partlyProgrammed : GoodIn wsX2_startAgain wsX1_partlyProgrammed := goodIn_r _ [8, 9, 10, 74, 75, 76, 77, 78, 79, 80, 81, 82, 83, 84] (by decide +kernel) (by decide +kernel)
set_option maxRecDepth 20000 in
theorem gX2_startAgain_X1_partlyProgrammed : GoodIn wsX2_startAgain (wsV RX2 145 RX1 yX1_partlyProgrammed wsX1_partlyProgrammed) := goodIn_app (goodIn_of _ (by decide +kernel)) ggX2_startAgain_X1_partlyProgrammed
set_option maxRecDepth 20000 in
theorem ggX2_startAgain_X1_greatestSerial : GoodIn wsX2_startAgain wsX1_greatestSerial := goodIn_r _ [14, 15, 16, 17, 18, 19, 20, 74, 75, 76, 77, 78, 79, 80, 81, 82, 83, 84] (by decide +kernel) (by decide +kernel)
set_option maxRecDepth 20000 in
theorem gX2_startAgain_X1_greatestSerial : GoodIn wsX2_startAgain (wsV RX2 148 RX1 yX1_greatestSerial wsX1_greatestSerial) := goodIn_app (goodIn_of _ (by decide +kernel)) ggX2_startAgain_X1_greatestSerial
set_option maxRecDepth 20000 in
theorem ggX2_startAgain_X1_countFree : GoodIn wsX2_startAgain wsX1_countFree := goodIn_r _ [24, 9, 10, 74, 75, 76, 77, 78, 79, 80, 81, 82, 83, 84] (by decide +kernel) (by decide +kernel)
set_option maxRecDepth 20000 in
theorem gX2_startAgain_X1_countFree : GoodIn wsX2_startAgain (wsV RX2 90 RX1 yX1_countFree wsX1_countFree) := goodIn_app (goodIn_of _ (by decide +kernel)) ggX2_startAgain_X1_countFree
set_option maxRecDepth 20000 in
theorem ggX2_startAgain_X1_victim : GoodIn wsX2_startAgain wsX1_victim := goodIn_r _ [28, 9, 10, 29, 30, 31, 32, 7, 33, 34, 35, 36, 37, 16, 38, 39, 74, 75, 76, 77, 78, 79, 80, 81, 82, 83, 84] (by decide +kernel) (by decide +kernel)
set_option maxRecDepth 20000 in
theorem gX2_startAgain_X1_victim : GoodIn wsX2_startAgain (wsV RX2 129 RX1 yX1_victim wsX1_victim) := goodIn_app (goodIn_of _ (by decide +kernel)) ggX2_startAgain_X1_victim
set_option maxRecDepth 20000 in
theorem ggX2_startAgain_X2_collect : GoodIn wsX2_startAgain wsX2_collect := goodIn_r _ [44, 2, 3, 45, 35, 36, 7, 37, 16, 38, 39, 46, 47, 48, 49, 10, 50, 15, 51, 52, 53, 54, 55, 9, 56, 57, 58, 59, 60, 61, 62, 63, 64, 65, 29, 66, 67, 68, 69, 74, 75, 76, 77, 78, 79, 80, 81, 82, 83, 84] (by decide +kernel) (by decide +kernel)
set_option maxRecDepth 20000 in
theorem gX2_startAgain_X2_collect : GoodIn wsX2_startAgain (wsV RX2 133 RX2 yX2_collect wsX2_collect) := goodIn_app (goodIn_of _ (by decide +kernel)) ggX2_startAgain_X2_collect
theorem dX2_startAgain_0 : decode cX2_startAgain 0 = .ok (.aload_n 0, 1) := by decide +kernel
theorem dX2_startAgain_1 : decode cX2_startAgain 1 = .ok (.getfield 21, 3) := by decide +kernel
theorem dX2_startAgain_4 : decode cX2_startAgain 4 = .ok (.iconst 0, 1) := by decide +kernel
theorem dX2_startAgain_5 : decode cX2_startAgain 5 = .ok (.putfield 40, 3) := by decide +kernel
theorem dX2_startAgain_8 : decode cX2_startAgain 8 = .ok (.aload_n 0, 1) := by decide +kernel
theorem dX2_startAgain_9 : decode cX2_startAgain 9 = .ok (.aload_n 0, 1) := by decide +kernel
theorem dX2_startAgain_10 : decode cX2_startAgain 10 = .ok (.getfield 14, 3) := by decide +kernel
theorem dX2_startAgain_13 : decode cX2_startAgain 13 = .ok (.invokevirtual 145, 3) := by decide +kernel
theorem dX2_startAgain_16 : decode cX2_startAgain 16 = .ok (.putfield 29, 3) := by decide +kernel
theorem dX2_startAgain_19 : decode cX2_startAgain 19 = .ok (.aload_n 0, 1) := by decide +kernel
theorem dX2_startAgain_20 : decode cX2_startAgain 20 = .ok (.getfield 14, 3) := by decide +kernel
theorem dX2_startAgain_23 : decode cX2_startAgain 23 = .ok (.aload_n 0, 1) := by decide +kernel
theorem dX2_startAgain_24 : decode cX2_startAgain 24 = .ok (.getfield 14, 3) := by decide +kernel
theorem dX2_startAgain_27 : decode cX2_startAgain 27 = .ok (.invokevirtual 148, 3) := by decide +kernel
theorem dX2_startAgain_30 : decode cX2_startAgain 30 = .ok (.iconst 1, 1) := by decide +kernel
theorem dX2_startAgain_31 : decode cX2_startAgain 31 = .ok (.iadd, 1) := by decide +kernel
theorem dX2_startAgain_32 : decode cX2_startAgain 32 = .ok (.putfield 151, 3) := by decide +kernel
theorem dX2_startAgain_35 : decode cX2_startAgain 35 = .ok (.aload_n 0, 1) := by decide +kernel
theorem dX2_startAgain_36 : decode cX2_startAgain 36 = .ok (.getfield 14, 3) := by decide +kernel
theorem dX2_startAgain_39 : decode cX2_startAgain 39 = .ok (.invokevirtual 90, 3) := by decide +kernel
theorem dX2_startAgain_42 : decode cX2_startAgain 42 = .ok (.ifCond .gt 18, 3) := by decide +kernel
theorem dX2_startAgain_45 : decode cX2_startAgain 45 = .ok (.aload_n 0, 1) := by decide +kernel
theorem dX2_startAgain_46 : decode cX2_startAgain 46 = .ok (.aload_n 0, 1) := by decide +kernel
theorem dX2_startAgain_47 : decode cX2_startAgain 47 = .ok (.getfield 14, 3) := by decide +kernel
theorem dX2_startAgain_50 : decode cX2_startAgain 50 = .ok (.iconst 0, 1) := by decide +kernel
theorem dX2_startAgain_51 : decode cX2_startAgain 51 = .ok (.invokevirtual 129, 3) := by decide +kernel
theorem dX2_startAgain_54 : decode cX2_startAgain 54 = .ok (.invokevirtual 133, 3) := by decide +kernel
theorem dX2_startAgain_57 : decode cX2_startAgain 57 = .ok (.ifCond .eq 7, 3) := by decide +kernel
theorem dX2_startAgain_60 : decode cX2_startAgain 60 = .ok (.iconst 1, 1) := by decide +kernel
theorem dX2_startAgain_61 : decode cX2_startAgain 61 = .ok (.goto 4, 3) := by decide +kernel
theorem dX2_startAgain_64 : decode cX2_startAgain 64 = .ok (.iconst 0, 1) := by decide +kernel
theorem dX2_startAgain_65 : decode cX2_startAgain 65 = .ok (.ireturn, 1) := by decide +kernel
theorem dX3_init_0 : decode cX3_init 0 = .ok (.aload_n 0, 1) := by decide +kernel
theorem dX3_init_1 : decode cX3_init 1 = .ok (.invokespecial 1, 3) := by decide +kernel
theorem dX3_init_4 : decode cX3_init 4 = .ok (.aload_n 0, 1) := by decide +kernel
theorem dX3_init_5 : decode cX3_init 5 = .ok (.bipush 48, 2) := by decide +kernel
theorem dX3_init_7 : decode cX3_init 7 = .ok (.newarray .int, 2) := by decide +kernel
theorem dX3_init_9 : decode cX3_init 9 = .ok (.putfield 7, 3) := by decide +kernel
theorem dX3_init_12 : decode cX3_init 12 = .ok (.aload_n 0, 1) := by decide +kernel
theorem dX3_init_13 : decode cX3_init 13 = .ok (.bipush 48, 2) := by decide +kernel
theorem dX3_init_15 : decode cX3_init 15 = .ok (.newarray .int, 2) := by decide +kernel
theorem dX3_init_17 : decode cX3_init 17 = .ok (.putfield 13, 3) := by decide +kernel
theorem dX3_init_20 : decode cX3_init 20 = .ok (.aload_n 0, 1) := by decide +kernel
theorem dX3_init_21 : decode cX3_init 21 = .ok (.bipush 48, 2) := by decide +kernel
theorem dX3_init_23 : decode cX3_init 23 = .ok (.newarray .int, 2) := by decide +kernel
theorem dX3_init_25 : decode cX3_init 25 = .ok (.putfield 16, 3) := by decide +kernel
theorem dX3_init_28 : decode cX3_init 28 = .ok (.aload_n 0, 1) := by decide +kernel
theorem dX3_init_29 : decode cX3_init 29 = .ok (.bipush 48, 2) := by decide +kernel
theorem dX3_init_31 : decode cX3_init 31 = .ok (.newarray .int, 2) := by decide +kernel
theorem dX3_init_33 : decode cX3_init 33 = .ok (.putfield 19, 3) := by decide +kernel
theorem dX3_init_36 : decode cX3_init 36 = .ok (.aload_n 0, 1) := by decide +kernel
theorem dX3_init_37 : decode cX3_init 37 = .ok (.bipush 12, 2) := by decide +kernel
theorem dX3_init_39 : decode cX3_init 39 = .ok (.newarray .int, 2) := by decide +kernel
theorem dX3_init_41 : decode cX3_init 41 = .ok (.putfield 22, 3) := by decide +kernel
theorem dX3_init_44 : decode cX3_init 44 = .ok (.aload_n 0, 1) := by decide +kernel
theorem dX3_init_45 : decode cX3_init 45 = .ok (.iconst (-1), 1) := by decide +kernel
theorem dX3_init_46 : decode cX3_init 46 = .ok (.putfield 25, 3) := by decide +kernel
theorem dX3_init_49 : decode cX3_init 49 = .ok (.aload_n 0, 1) := by decide +kernel
theorem dX3_init_50 : decode cX3_init 50 = .ok (.iconst 3, 1) := by decide +kernel
theorem dX3_init_51 : decode cX3_init 51 = .ok (.newarray .int, 2) := by decide +kernel
theorem dX3_init_53 : decode cX3_init 53 = .ok (.putfield 29, 3) := by decide +kernel
theorem dX3_init_56 : decode cX3_init 56 = .ok (.aload_n 0, 1) := by decide +kernel
theorem dX3_init_57 : decode cX3_init 57 = .ok (.iconst 3, 1) := by decide +kernel
theorem dX3_init_58 : decode cX3_init 58 = .ok (.newarray .int, 2) := by decide +kernel
theorem dX3_init_60 : decode cX3_init 60 = .ok (.putfield 32, 3) := by decide +kernel
theorem dX3_init_63 : decode cX3_init 63 = .ok (.aload_n 0, 1) := by decide +kernel
theorem dX3_init_64 : decode cX3_init 64 = .ok (.iconst 3, 1) := by decide +kernel
theorem dX3_init_65 : decode cX3_init 65 = .ok (.newarray .int, 2) := by decide +kernel
theorem dX3_init_67 : decode cX3_init 67 = .ok (.putfield 35, 3) := by decide +kernel
theorem dX3_init_70 : decode cX3_init 70 = .ok (.aload_n 0, 1) := by decide +kernel
theorem dX3_init_71 : decode cX3_init 71 = .ok (.iload_n 1, 1) := by decide +kernel
theorem dX3_init_72 : decode cX3_init 72 = .ok (.iconst 5, 1) := by decide +kernel
theorem dX3_init_73 : decode cX3_init 73 = .ok (.if_icmp .lt 9, 3) := by decide +kernel
theorem dX3_init_76 : decode cX3_init 76 = .ok (.iload_n 1, 1) := by decide +kernel
theorem dX3_init_77 : decode cX3_init 77 = .ok (.bipush 12, 2) := by decide +kernel
theorem dX3_init_79 : decode cX3_init 79 = .ok (.if_icmp .le 8, 3) := by decide +kernel
theorem dX3_init_82 : decode cX3_init 82 = .ok (.bipush 8, 2) := by decide +kernel
theorem dX3_init_84 : decode cX3_init 84 = .ok (.goto 4, 3) := by decide +kernel
theorem dX3_init_87 : decode cX3_init 87 = .ok (.iload_n 1, 1) := by decide +kernel
theorem dX3_init_88 : decode cX3_init 88 = .ok (.putfield 38, 3) := by decide +kernel
theorem dX3_init_91 : decode cX3_init 91 = .ok (.aload_n 0, 1) := by decide +kernel
theorem dX3_init_92 : decode cX3_init 92 = .ok (.iload_n 2, 1) := by decide +kernel
theorem dX3_init_93 : decode cX3_init 93 = .ok (.iconst 1, 1) := by decide +kernel
theorem dX3_init_94 : decode cX3_init 94 = .ok (.if_icmp .lt 9, 3) := by decide +kernel
theorem dX3_init_97 : decode cX3_init 97 = .ok (.iload_n 2, 1) := by decide +kernel
theorem dX3_init_98 : decode cX3_init 98 = .ok (.bipush 50, 2) := by decide +kernel
theorem dX3_init_100 : decode cX3_init 100 = .ok (.if_icmp .le 7, 3) := by decide +kernel
theorem dX3_init_103 : decode cX3_init 103 = .ok (.iconst 4, 1) := by decide +kernel
theorem dX3_init_104 : decode cX3_init 104 = .ok (.goto 4, 3) := by decide +kernel
theorem dX3_init_107 : decode cX3_init 107 = .ok (.iload_n 2, 1) := by decide +kernel
theorem dX3_init_108 : decode cX3_init 108 = .ok (.putfield 41, 3) := by decide +kernel
theorem dX3_init_111 : decode cX3_init 111 = .ok (.iconst 0, 1) := by decide +kernel
theorem dX3_init_112 : decode cX3_init 112 = .ok (.istore_n 3, 1) := by decide +kernel
theorem dX3_init_113 : decode cX3_init 113 = .ok (.iload_n 3, 1) := by decide +kernel
theorem dX3_init_114 : decode cX3_init 114 = .ok (.bipush 48, 2) := by decide +kernel
theorem dX3_init_116 : decode cX3_init 116 = .ok (.if_icmp .ge 16, 3) := by decide +kernel
theorem dX3_init_119 : decode cX3_init 119 = .ok (.aload_n 0, 1) := by decide +kernel
theorem dX3_init_120 : decode cX3_init 120 = .ok (.getfield 7, 3) := by decide +kernel
theorem dX3_init_123 : decode cX3_init 123 = .ok (.iload_n 3, 1) := by decide +kernel
theorem dX3_init_124 : decode cX3_init 124 = .ok (.iconst (-1), 1) := by decide +kernel
theorem dX3_init_125 : decode cX3_init 125 = .ok (.iastore, 1) := by decide +kernel
theorem dX3_init_126 : decode cX3_init 126 = .ok (.iinc 3 1, 3) := by decide +kernel
theorem dX3_init_129 : decode cX3_init 129 = .ok (.goto (-16), 3) := by decide +kernel
theorem dX3_init_132 : decode cX3_init 132 = .ok (.return_, 1) := by decide +kernel
theorem dX3_sectors_0 : decode cX3_sectors 0 = .ok (.iconst 4, 1) := by decide +kernel
theorem dX3_sectors_1 : decode cX3_sectors 1 = .ok (.aload_n 0, 1) := by decide +kernel
theorem dX3_sectors_2 : decode cX3_sectors 2 = .ok (.getfield 38, 3) := by decide +kernel
theorem dX3_sectors_5 : decode cX3_sectors 5 = .ok (.iconst 3, 1) := by decide +kernel
theorem dX3_sectors_6 : decode cX3_sectors 6 = .ok (.isub, 1) := by decide +kernel
theorem dX3_sectors_7 : decode cX3_sectors 7 = .ok (.imul, 1) := by decide +kernel
theorem dX3_sectors_8 : decode cX3_sectors 8 = .ok (.ireturn, 1) := by decide +kernel
set_option maxRecDepth 20000 in
theorem ggX3_isSector_X3_sectors : GoodIn wsX3_isSector wsX3_sectors := goodIn_r _ [5, 6, 7, 8, 9, 10, 11, 12, 13, 14, 15, 16, 17, 18, 19, 20, 21, 22] (by decide +kernel) (by decide +kernel)
set_option maxRecDepth 20000 in
theorem gX3_isSector_X3_sectors : GoodIn wsX3_isSector (wsV RX3 44 RX3 yX3_sectors wsX3_sectors) := goodIn_app (goodIn_of _ (by decide +kernel)) ggX3_isSector_X3_sectors
theorem dX3_isSector_0 : decode cX3_isSector 0 = .ok (.iload_n 1, 1) := by decide +kernel
theorem dX3_isSector_1 : decode cX3_isSector 1 = .ok (.ifCond .lt 15, 3) := by decide +kernel
theorem dX3_isSector_4 : decode cX3_isSector 4 = .ok (.iload_n 1, 1) := by decide +kernel
theorem dX3_isSector_5 : decode cX3_isSector 5 = .ok (.aload_n 0, 1) := by decide +kernel
theorem dX3_isSector_6 : decode cX3_isSector 6 = .ok (.invokevirtual 44, 3) := by decide +kernel
theorem dX3_isSector_9 : decode cX3_isSector 9 = .ok (.if_icmp .ge 7, 3) := by decide +kernel
theorem dX3_isSector_12 : decode cX3_isSector 12 = .ok (.iconst 1, 1) := by decide +kernel
theorem dX3_isSector_13 : decode cX3_isSector 13 = .ok (.goto 4, 3) := by decide +kernel
theorem dX3_isSector_16 : decode cX3_isSector 16 = .ok (.iconst 0, 1) := by decide +kernel
theorem dX3_isSector_17 : decode cX3_isSector 17 = .ok (.ireturn, 1) := by decide +kernel
theorem dX3_isBlock_0 : decode cX3_isBlock 0 = .ok (.iload_n 1, 1) := by decide +kernel
theorem dX3_isBlock_1 : decode cX3_isBlock 1 = .ok (.ifCond .lt 15, 3) := by decide +kernel
theorem dX3_isBlock_4 : decode cX3_isBlock 4 = .ok (.iload_n 1, 1) := by decide +kernel
theorem dX3_isBlock_5 : decode cX3_isBlock 5 = .ok (.aload_n 0, 1) := by decide +kernel
theorem dX3_isBlock_6 : decode cX3_isBlock 6 = .ok (.getfield 38, 3) := by decide +kernel
theorem dX3_isBlock_9 : decode cX3_isBlock 9 = .ok (.if_icmp .ge 7, 3) := by decide +kernel
theorem dX3_isBlock_12 : decode cX3_isBlock 12 = .ok (.iconst 1, 1) := by decide +kernel
theorem dX3_isBlock_13 : decode cX3_isBlock 13 = .ok (.goto 4, 3) := by decide +kernel
theorem dX3_isBlock_16 : decode cX3_isBlock 16 = .ok (.iconst 0, 1) := by decide +kernel
theorem dX3_isBlock_17 : decode cX3_isBlock 17 = .ok (.ireturn, 1) := by decide +kernel
theorem dX3_isPlace_0 : decode cX3_isPlace 0 = .ok (.iload_n 1, 1) := by decide +kernel
theorem dX3_isPlace_1 : decode cX3_isPlace 1 = .ok (.ifCond .lt 17, 3) := by decide +kernel
theorem dX3_isPlace_4 : decode cX3_isPlace 4 = .ok (.iload_n 1, 1) := by decide +kernel
theorem dX3_isPlace_5 : decode cX3_isPlace 5 = .ok (.iconst 4, 1) := by decide +kernel
theorem dX3_isPlace_6 : decode cX3_isPlace 6 = .ok (.aload_n 0, 1) := by decide +kernel
theorem dX3_isPlace_7 : decode cX3_isPlace 7 = .ok (.getfield 38, 3) := by decide +kernel
theorem dX3_isPlace_10 : decode cX3_isPlace 10 = .ok (.imul, 1) := by decide +kernel
theorem dX3_isPlace_11 : decode cX3_isPlace 11 = .ok (.if_icmp .ge 7, 3) := by decide +kernel
theorem dX3_isPlace_14 : decode cX3_isPlace 14 = .ok (.iconst 1, 1) := by decide +kernel
theorem dX3_isPlace_15 : decode cX3_isPlace 15 = .ok (.goto 4, 3) := by decide +kernel
theorem dX3_isPlace_18 : decode cX3_isPlace 18 = .ok (.iconst 0, 1) := by decide +kernel
theorem dX3_isPlace_19 : decode cX3_isPlace 19 = .ok (.ireturn, 1) := by decide +kernel
theorem dX3_programmed_0 : decode cX3_programmed 0 = .ok (.iconst 0, 1) := by decide +kernel
theorem dX3_programmed_1 : decode cX3_programmed 1 = .ok (.istore_n 2, 1) := by decide +kernel
theorem dX3_programmed_2 : decode cX3_programmed 2 = .ok (.iconst 0, 1) := by decide +kernel
theorem dX3_programmed_3 : decode cX3_programmed 3 = .ok (.istore_n 3, 1) := by decide +kernel
theorem dX3_programmed_4 : decode cX3_programmed 4 = .ok (.iload_n 3, 1) := by decide +kernel
theorem dX3_programmed_5 : decode cX3_programmed 5 = .ok (.iconst 4, 1) := by decide +kernel
theorem dX3_programmed_6 : decode cX3_programmed 6 = .ok (.if_icmp .ge 31, 3) := by decide +kernel
theorem dX3_programmed_9 : decode cX3_programmed 9 = .ok (.iload_n 2, 1) := by decide +kernel
theorem dX3_programmed_10 : decode cX3_programmed 10 = .ok (.aload_n 0, 1) := by decide +kernel
theorem dX3_programmed_11 : decode cX3_programmed 11 = .ok (.getfield 7, 3) := by decide +kernel
theorem dX3_programmed_14 : decode cX3_programmed 14 = .ok (.iconst 4, 1) := by decide +kernel
theorem dX3_programmed_15 : decode cX3_programmed 15 = .ok (.iload_n 1, 1) := by decide +kernel
theorem dX3_programmed_16 : decode cX3_programmed 16 = .ok (.imul, 1) := by decide +kernel
theorem dX3_programmed_17 : decode cX3_programmed 17 = .ok (.iload_n 3, 1) := by decide +kernel
theorem dX3_programmed_18 : decode cX3_programmed 18 = .ok (.iadd, 1) := by decide +kernel
theorem dX3_programmed_19 : decode cX3_programmed 19 = .ok (.iaload, 1) := by decide +kernel
theorem dX3_programmed_20 : decode cX3_programmed 20 = .ok (.iconst (-1), 1) := by decide +kernel
theorem dX3_programmed_21 : decode cX3_programmed 21 = .ok (.if_icmp .ne 7, 3) := by decide +kernel
theorem dX3_programmed_24 : decode cX3_programmed 24 = .ok (.iconst 0, 1) := by decide +kernel
theorem dX3_programmed_25 : decode cX3_programmed 25 = .ok (.goto 4, 3) := by decide +kernel
theorem dX3_programmed_28 : decode cX3_programmed 28 = .ok (.iconst 1, 1) := by decide +kernel
theorem dX3_programmed_29 : decode cX3_programmed 29 = .ok (.iadd, 1) := by decide +kernel
theorem dX3_programmed_30 : decode cX3_programmed 30 = .ok (.istore_n 2, 1) := by decide +kernel
theorem dX3_programmed_31 : decode cX3_programmed 31 = .ok (.iinc 3 1, 3) := by decide +kernel
theorem dX3_programmed_34 : decode cX3_programmed 34 = .ok (.goto (-30), 3) := by decide +kernel
theorem dX3_programmed_37 : decode cX3_programmed 37 = .ok (.iload_n 2, 1) := by decide +kernel
theorem dX3_programmed_38 : decode cX3_programmed 38 = .ok (.ireturn, 1) := by decide +kernel
theorem dX3_newest_0 : decode cX3_newest 0 = .ok (.iconst (-1), 1) := by decide +kernel
theorem dX3_newest_1 : decode cX3_newest 1 = .ok (.istore_n 2, 1) := by decide +kernel
theorem dX3_newest_2 : decode cX3_newest 2 = .ok (.iconst 0, 1) := by decide +kernel
theorem dX3_newest_3 : decode cX3_newest 3 = .ok (.istore_n 3, 1) := by decide +kernel
theorem dX3_newest_4 : decode cX3_newest 4 = .ok (.iload_n 3, 1) := by decide +kernel
theorem dX3_newest_5 : decode cX3_newest 5 = .ok (.iconst 4, 1) := by decide +kernel
theorem dX3_newest_6 : decode cX3_newest 6 = .ok (.aload_n 0, 1) := by decide +kernel
theorem dX3_newest_7 : decode cX3_newest 7 = .ok (.getfield 38, 3) := by decide +kernel
theorem dX3_newest_10 : decode cX3_newest 10 = .ok (.imul, 1) := by decide +kernel
theorem dX3_newest_11 : decode cX3_newest 11 = .ok (.if_icmp .ge 41, 3) := by decide +kernel
theorem dX3_newest_14 : decode cX3_newest 14 = .ok (.aload_n 0, 1) := by decide +kernel
theorem dX3_newest_15 : decode cX3_newest 15 = .ok (.getfield 7, 3) := by decide +kernel
theorem dX3_newest_18 : decode cX3_newest 18 = .ok (.iload_n 3, 1) := by decide +kernel
theorem dX3_newest_19 : decode cX3_newest 19 = .ok (.iaload, 1) := by decide +kernel
theorem dX3_newest_20 : decode cX3_newest 20 = .ok (.iload_n 1, 1) := by decide +kernel
theorem dX3_newest_21 : decode cX3_newest 21 = .ok (.if_icmp .ne 25, 3) := by decide +kernel
theorem dX3_newest_24 : decode cX3_newest 24 = .ok (.iload_n 2, 1) := by decide +kernel
theorem dX3_newest_25 : decode cX3_newest 25 = .ok (.iconst (-1), 1) := by decide +kernel
theorem dX3_newest_26 : decode cX3_newest 26 = .ok (.if_icmp .eq 18, 3) := by decide +kernel
theorem dX3_newest_29 : decode cX3_newest 29 = .ok (.aload_n 0, 1) := by decide +kernel
theorem dX3_newest_30 : decode cX3_newest 30 = .ok (.getfield 16, 3) := by decide +kernel
theorem dX3_newest_33 : decode cX3_newest 33 = .ok (.iload_n 3, 1) := by decide +kernel
theorem dX3_newest_34 : decode cX3_newest 34 = .ok (.iaload, 1) := by decide +kernel
theorem dX3_newest_35 : decode cX3_newest 35 = .ok (.aload_n 0, 1) := by decide +kernel
theorem dX3_newest_36 : decode cX3_newest 36 = .ok (.getfield 16, 3) := by decide +kernel
theorem dX3_newest_39 : decode cX3_newest 39 = .ok (.iload_n 2, 1) := by decide +kernel
theorem dX3_newest_40 : decode cX3_newest 40 = .ok (.iaload, 1) := by decide +kernel
theorem dX3_newest_41 : decode cX3_newest 41 = .ok (.if_icmp .le 5, 3) := by decide +kernel
theorem dX3_newest_44 : decode cX3_newest 44 = .ok (.iload_n 3, 1) := by decide +kernel
theorem dX3_newest_45 : decode cX3_newest 45 = .ok (.istore_n 2, 1) := by decide +kernel
theorem dX3_newest_46 : decode cX3_newest 46 = .ok (.iinc 3 1, 3) := by decide +kernel
theorem dX3_newest_49 : decode cX3_newest 49 = .ok (.goto (-45), 3) := by decide +kernel
theorem dX3_newest_52 : decode cX3_newest 52 = .ok (.iload_n 2, 1) := by decide +kernel
theorem dX3_newest_53 : decode cX3_newest 53 = .ok (.ireturn, 1) := by decide +kernel
set_option maxRecDepth 20000 in
theorem ggX3_isValid_X3_newest : GoodIn wsX3_isValid wsX3_newest := goodIn_r _ [6, 7, 1, 8, 9, 10, 11, 12, 13, 14, 15, 16, 17, 18, 19, 20, 21, 22, 23, 24] (by decide +kernel) (by decide +kernel)
set_option maxRecDepth 20000 in
theorem gX3_isValid_X3_newest : GoodIn wsX3_isValid (wsV RX3 48 RX3 yX3_newest wsX3_newest) := goodIn_app (goodIn_of _ (by decide +kernel)) ggX3_isValid_X3_newest
theorem dX3_isValid_0 : decode cX3_isValid 0 = .ok (.aload_n 0, 1) := by decide +kernel
theorem dX3_isValid_1 : decode cX3_isValid 1 = .ok (.getfield 7, 3) := by decide +kernel
theorem dX3_isValid_4 : decode cX3_isValid 4 = .ok (.iload_n 1, 1) := by decide +kernel
theorem dX3_isValid_5 : decode cX3_isValid 5 = .ok (.iaload, 1) := by decide +kernel
theorem dX3_isValid_6 : decode cX3_isValid 6 = .ok (.iconst (-1), 1) := by decide +kernel
theorem dX3_isValid_7 : decode cX3_isValid 7 = .ok (.if_icmp .eq 21, 3) := by decide +kernel
theorem dX3_isValid_10 : decode cX3_isValid 10 = .ok (.aload_n 0, 1) := by decide +kernel
theorem dX3_isValid_11 : decode cX3_isValid 11 = .ok (.aload_n 0, 1) := by decide +kernel
theorem dX3_isValid_12 : decode cX3_isValid 12 = .ok (.getfield 7, 3) := by decide +kernel
theorem dX3_isValid_15 : decode cX3_isValid 15 = .ok (.iload_n 1, 1) := by decide +kernel
theorem dX3_isValid_16 : decode cX3_isValid 16 = .ok (.iaload, 1) := by decide +kernel
theorem dX3_isValid_17 : decode cX3_isValid 17 = .ok (.invokevirtual 48, 3) := by decide +kernel
theorem dX3_isValid_20 : decode cX3_isValid 20 = .ok (.iload_n 1, 1) := by decide +kernel
theorem dX3_isValid_21 : decode cX3_isValid 21 = .ok (.if_icmp .ne 7, 3) := by decide +kernel
theorem dX3_isValid_24 : decode cX3_isValid 24 = .ok (.iconst 1, 1) := by decide +kernel
theorem dX3_isValid_25 : decode cX3_isValid 25 = .ok (.goto 4, 3) := by decide +kernel
theorem dX3_isValid_28 : decode cX3_isValid 28 = .ok (.iconst 0, 1) := by decide +kernel
theorem dX3_isValid_29 : decode cX3_isValid 29 = .ok (.ireturn, 1) := by decide +kernel
set_option maxRecDepth 20000 in
theorem ggX3_validIn_X3_isValid : GoodIn wsX3_validIn wsX3_isValid := goodIn_r _ [5, 6, 7, 8, 9, 4, 10, 11, 12, 13, 14, 15, 16, 17, 18, 19, 20, 21, 22, 23, 24, 25, 26, 27, 28] (by decide +kernel) (by decide +kernel)
set_option maxRecDepth 20000 in
theorem gX3_validIn_X3_isValid : GoodIn wsX3_validIn (wsV RX3 52 RX3 yX3_isValid wsX3_isValid) := goodIn_app (goodIn_of _ (by decide +kernel)) ggX3_validIn_X3_isValid
theorem dX3_validIn_0 : decode cX3_validIn 0 = .ok (.iconst 0, 1) := by decide +kernel
theorem dX3_validIn_1 : decode cX3_validIn 1 = .ok (.istore_n 2, 1) := by decide +kernel
theorem dX3_validIn_2 : decode cX3_validIn 2 = .ok (.iconst 0, 1) := by decide +kernel
theorem dX3_validIn_3 : decode cX3_validIn 3 = .ok (.istore_n 3, 1) := by decide +kernel
theorem dX3_validIn_4 : decode cX3_validIn 4 = .ok (.iload_n 3, 1) := by decide +kernel
theorem dX3_validIn_5 : decode cX3_validIn 5 = .ok (.iconst 4, 1) := by decide +kernel
theorem dX3_validIn_6 : decode cX3_validIn 6 = .ok (.if_icmp .ge 29, 3) := by decide +kernel
theorem dX3_validIn_9 : decode cX3_validIn 9 = .ok (.iload_n 2, 1) := by decide +kernel
theorem dX3_validIn_10 : decode cX3_validIn 10 = .ok (.aload_n 0, 1) := by decide +kernel
theorem dX3_validIn_11 : decode cX3_validIn 11 = .ok (.iconst 4, 1) := by decide +kernel
theorem dX3_validIn_12 : decode cX3_validIn 12 = .ok (.iload_n 1, 1) := by decide +kernel
theorem dX3_validIn_13 : decode cX3_validIn 13 = .ok (.imul, 1) := by decide +kernel
theorem dX3_validIn_14 : decode cX3_validIn 14 = .ok (.iload_n 3, 1) := by decide +kernel
theorem dX3_validIn_15 : decode cX3_validIn 15 = .ok (.iadd, 1) := by decide +kernel
theorem dX3_validIn_16 : decode cX3_validIn 16 = .ok (.invokevirtual 52, 3) := by decide +kernel
theorem dX3_validIn_19 : decode cX3_validIn 19 = .ok (.ifCond .eq 7, 3) := by decide +kernel
theorem dX3_validIn_22 : decode cX3_validIn 22 = .ok (.iconst 1, 1) := by decide +kernel
theorem dX3_validIn_23 : decode cX3_validIn 23 = .ok (.goto 4, 3) := by decide +kernel
theorem dX3_validIn_26 : decode cX3_validIn 26 = .ok (.iconst 0, 1) := by decide +kernel
theorem dX3_validIn_27 : decode cX3_validIn 27 = .ok (.iadd, 1) := by decide +kernel
theorem dX3_validIn_28 : decode cX3_validIn 28 = .ok (.istore_n 2, 1) := by decide +kernel
theorem dX3_validIn_29 : decode cX3_validIn 29 = .ok (.iinc 3 1, 3) := by decide +kernel
theorem dX3_validIn_32 : decode cX3_validIn 32 = .ok (.goto (-28), 3) := by decide +kernel
theorem dX3_validIn_35 : decode cX3_validIn 35 = .ok (.iload_n 2, 1) := by decide +kernel
theorem dX3_validIn_36 : decode cX3_validIn 36 = .ok (.ireturn, 1) := by decide +kernel
set_option maxRecDepth 20000 in
theorem ggX3_freeBlocks_X3_programmed : GoodIn wsX3_freeBlocks wsX3_programmed := goodIn_r _ [6, 7, 8, 9, 10, 11, 12, 13, 14, 15, 16, 17, 18, 19, 20, 21, 22, 23] (by decide +kernel) (by decide +kernel)
set_option maxRecDepth 20000 in
theorem gX3_freeBlocks_X3_programmed : GoodIn wsX3_freeBlocks (wsV RX3 56 RX3 yX3_programmed wsX3_programmed) := goodIn_app (goodIn_of _ (by decide +kernel)) ggX3_freeBlocks_X3_programmed
theorem dX3_freeBlocks_0 : decode cX3_freeBlocks 0 = .ok (.iconst 0, 1) := by decide +kernel
theorem dX3_freeBlocks_1 : decode cX3_freeBlocks 1 = .ok (.istore_n 1, 1) := by decide +kernel
theorem dX3_freeBlocks_2 : decode cX3_freeBlocks 2 = .ok (.iconst 0, 1) := by decide +kernel
theorem dX3_freeBlocks_3 : decode cX3_freeBlocks 3 = .ok (.istore_n 2, 1) := by decide +kernel
theorem dX3_freeBlocks_4 : decode cX3_freeBlocks 4 = .ok (.iload_n 2, 1) := by decide +kernel
theorem dX3_freeBlocks_5 : decode cX3_freeBlocks 5 = .ok (.aload_n 0, 1) := by decide +kernel
theorem dX3_freeBlocks_6 : decode cX3_freeBlocks 6 = .ok (.getfield 38, 3) := by decide +kernel
theorem dX3_freeBlocks_9 : decode cX3_freeBlocks 9 = .ok (.if_icmp .ge 25, 3) := by decide +kernel
theorem dX3_freeBlocks_12 : decode cX3_freeBlocks 12 = .ok (.iload_n 1, 1) := by decide +kernel
theorem dX3_freeBlocks_13 : decode cX3_freeBlocks 13 = .ok (.aload_n 0, 1) := by decide +kernel
theorem dX3_freeBlocks_14 : decode cX3_freeBlocks 14 = .ok (.iload_n 2, 1) := by decide +kernel
theorem dX3_freeBlocks_15 : decode cX3_freeBlocks 15 = .ok (.invokevirtual 56, 3) := by decide +kernel
theorem dX3_freeBlocks_18 : decode cX3_freeBlocks 18 = .ok (.ifCond .ne 7, 3) := by decide +kernel
theorem dX3_freeBlocks_21 : decode cX3_freeBlocks 21 = .ok (.iconst 1, 1) := by decide +kernel
theorem dX3_freeBlocks_22 : decode cX3_freeBlocks 22 = .ok (.goto 4, 3) := by decide +kernel
theorem dX3_freeBlocks_25 : decode cX3_freeBlocks 25 = .ok (.iconst 0, 1) := by decide +kernel
theorem dX3_freeBlocks_26 : decode cX3_freeBlocks 26 = .ok (.iadd, 1) := by decide +kernel
theorem dX3_freeBlocks_27 : decode cX3_freeBlocks 27 = .ok (.istore_n 1, 1) := by decide +kernel
theorem dX3_freeBlocks_28 : decode cX3_freeBlocks 28 = .ok (.iinc 2 1, 3) := by decide +kernel
theorem dX3_freeBlocks_31 : decode cX3_freeBlocks 31 = .ok (.goto (-27), 3) := by decide +kernel
theorem dX3_freeBlocks_34 : decode cX3_freeBlocks 34 = .ok (.iload_n 1, 1) := by decide +kernel
theorem dX3_freeBlocks_35 : decode cX3_freeBlocks 35 = .ok (.ireturn, 1) := by decide +kernel
set_option maxRecDepth 20000 in
theorem ggX3_pick_X3_validIn : GoodIn wsX3_pick wsX3_validIn := goodIn_r _ [8, 9, 10, 11, 7, 12, 13, 14, 15, 16, 17, 1, 18, 23, 24, 25, 26, 27, 28, 29, 30, 31, 32, 33, 34, 35, 36, 37, 38] (by decide +kernel) (by decide +kernel)
set_option maxRecDepth 20000 in
theorem gX3_pick_X3_validIn : GoodIn wsX3_pick (wsV RX3 60 RX3 yX3_validIn wsX3_validIn) := goodIn_app (goodIn_of _ (by decide +kernel)) ggX3_pick_X3_validIn
set_option maxRecDepth 20000 in
theorem ggX3_pick_X3_programmed : GoodIn wsX3_pick wsX3_programmed := goodIn_r _ [22, 13, 23, 24, 25, 26, 27, 28, 29, 30, 31, 32, 33, 34, 35, 36, 37, 38] (by decide +kernel) (by decide +kernel)
set_option maxRecDepth 20000 in
theorem gX3_pick_X3_programmed : GoodIn wsX3_pick (wsV RX3 56 RX3 yX3_programmed wsX3_programmed) := goodIn_app (goodIn_of _ (by decide +kernel)) ggX3_pick_X3_programmed
theorem dX3_pick_0 : decode cX3_pick 0 = .ok (.iconst (-1), 1) := by decide +kernel
theorem dX3_pick_1 : decode cX3_pick 1 = .ok (.istore_n 3, 1) := by decide +kernel
theorem dX3_pick_2 : decode cX3_pick 2 = .ok (.iconst 0, 1) := by decide +kernel
theorem dX3_pick_3 : decode cX3_pick 3 = .ok (.istore 4, 2) := by decide +kernel
theorem dX3_pick_5 : decode cX3_pick 5 = .ok (.iconst 0, 1) := by decide +kernel
theorem dX3_pick_6 : decode cX3_pick 6 = .ok (.istore 5, 2) := by decide +kernel
theorem dX3_pick_8 : decode cX3_pick 8 = .ok (.iload 5, 2) := by decide +kernel
theorem dX3_pick_10 : decode cX3_pick 10 = .ok (.aload_n 0, 1) := by decide +kernel
theorem dX3_pick_11 : decode cX3_pick 11 = .ok (.getfield 38, 3) := by decide +kernel
theorem dX3_pick_14 : decode cX3_pick 14 = .ok (.if_icmp .ge 65, 3) := by decide +kernel
theorem dX3_pick_17 : decode cX3_pick 17 = .ok (.aload_n 0, 1) := by decide +kernel
theorem dX3_pick_18 : decode cX3_pick 18 = .ok (.getfield 22, 3) := by decide +kernel
theorem dX3_pick_21 : decode cX3_pick 21 = .ok (.iload 5, 2) := by decide +kernel
theorem dX3_pick_23 : decode cX3_pick 23 = .ok (.iaload, 1) := by decide +kernel
theorem dX3_pick_24 : decode cX3_pick 24 = .ok (.iload_n 2, 1) := by decide +kernel
theorem dX3_pick_25 : decode cX3_pick 25 = .ok (.ifCond .eq 15, 3) := by decide +kernel
theorem dX3_pick_28 : decode cX3_pick 28 = .ok (.ldc 59, 2) := by decide +kernel
theorem dX3_pick_30 : decode cX3_pick 30 = .ok (.aload_n 0, 1) := by decide +kernel
theorem dX3_pick_31 : decode cX3_pick 31 = .ok (.iload 5, 2) := by decide +kernel
theorem dX3_pick_33 : decode cX3_pick 33 = .ok (.invokevirtual 60, 3) := by decide +kernel
theorem dX3_pick_36 : decode cX3_pick 36 = .ok (.imul, 1) := by decide +kernel
theorem dX3_pick_37 : decode cX3_pick 37 = .ok (.goto 4, 3) := by decide +kernel
theorem dX3_pick_40 : decode cX3_pick 40 = .ok (.iconst 0, 1) := by decide +kernel
theorem dX3_pick_41 : decode cX3_pick 41 = .ok (.iadd, 1) := by decide +kernel
theorem dX3_pick_42 : decode cX3_pick 42 = .ok (.istore 6, 2) := by decide +kernel
theorem dX3_pick_44 : decode cX3_pick 44 = .ok (.aload_n 0, 1) := by decide +kernel
theorem dX3_pick_45 : decode cX3_pick 45 = .ok (.iload 5, 2) := by decide +kernel
theorem dX3_pick_47 : decode cX3_pick 47 = .ok (.invokevirtual 56, 3) := by decide +kernel
theorem dX3_pick_50 : decode cX3_pick 50 = .ok (.iload_n 1, 1) := by decide +kernel
theorem dX3_pick_51 : decode cX3_pick 51 = .ok (.if_icmp .ne 22, 3) := by decide +kernel
theorem dX3_pick_54 : decode cX3_pick 54 = .ok (.iload_n 3, 1) := by decide +kernel
theorem dX3_pick_55 : decode cX3_pick 55 = .ok (.iconst (-1), 1) := by decide +kernel
theorem dX3_pick_56 : decode cX3_pick 56 = .ok (.if_icmp .eq 10, 3) := by decide +kernel
theorem dX3_pick_59 : decode cX3_pick 59 = .ok (.iload 6, 2) := by decide +kernel
theorem dX3_pick_61 : decode cX3_pick 61 = .ok (.iload 4, 2) := by decide +kernel
theorem dX3_pick_63 : decode cX3_pick 63 = .ok (.if_icmp .ge 10, 3) := by decide +kernel
theorem dX3_pick_66 : decode cX3_pick 66 = .ok (.iload 5, 2) := by decide +kernel
theorem dX3_pick_68 : decode cX3_pick 68 = .ok (.istore_n 3, 1) := by decide +kernel
theorem dX3_pick_69 : decode cX3_pick 69 = .ok (.iload 6, 2) := by decide +kernel
theorem dX3_pick_71 : decode cX3_pick 71 = .ok (.istore 4, 2) := by decide +kernel
theorem dX3_pick_73 : decode cX3_pick 73 = .ok (.iinc 5 1, 3) := by decide +kernel
theorem dX3_pick_76 : decode cX3_pick 76 = .ok (.goto (-68), 3) := by decide +kernel
theorem dX3_pick_79 : decode cX3_pick 79 = .ok (.iload_n 3, 1) := by decide +kernel
theorem dX3_pick_80 : decode cX3_pick 80 = .ok (.ireturn, 1) := by decide +kernel
theorem dX3_uneven_0 : decode cX3_uneven 0 = .ok (.aload_n 0, 1) := by decide +kernel
theorem dX3_uneven_1 : decode cX3_uneven 1 = .ok (.getfield 22, 3) := by decide +kernel
theorem dX3_uneven_4 : decode cX3_uneven 4 = .ok (.iconst 0, 1) := by decide +kernel
theorem dX3_uneven_5 : decode cX3_uneven 5 = .ok (.iaload, 1) := by decide +kernel
theorem dX3_uneven_6 : decode cX3_uneven 6 = .ok (.istore_n 1, 1) := by decide +kernel
theorem dX3_uneven_7 : decode cX3_uneven 7 = .ok (.aload_n 0, 1) := by decide +kernel
theorem dX3_uneven_8 : decode cX3_uneven 8 = .ok (.getfield 22, 3) := by decide +kernel
theorem dX3_uneven_11 : decode cX3_uneven 11 = .ok (.iconst 0, 1) := by decide +kernel
theorem dX3_uneven_12 : decode cX3_uneven 12 = .ok (.iaload, 1) := by decide +kernel
theorem dX3_uneven_13 : decode cX3_uneven 13 = .ok (.istore_n 2, 1) := by decide +kernel
theorem dX3_uneven_14 : decode cX3_uneven 14 = .ok (.iconst 1, 1) := by decide +kernel
theorem dX3_uneven_15 : decode cX3_uneven 15 = .ok (.istore_n 3, 1) := by decide +kernel
theorem dX3_uneven_16 : decode cX3_uneven 16 = .ok (.iload_n 3, 1) := by decide +kernel
theorem dX3_uneven_17 : decode cX3_uneven 17 = .ok (.aload_n 0, 1) := by decide +kernel
theorem dX3_uneven_18 : decode cX3_uneven 18 = .ok (.getfield 38, 3) := by decide +kernel
theorem dX3_uneven_21 : decode cX3_uneven 21 = .ok (.if_icmp .ge 51, 3) := by decide +kernel
theorem dX3_uneven_24 : decode cX3_uneven 24 = .ok (.aload_n 0, 1) := by decide +kernel
theorem dX3_uneven_25 : decode cX3_uneven 25 = .ok (.getfield 22, 3) := by decide +kernel
theorem dX3_uneven_28 : decode cX3_uneven 28 = .ok (.iload_n 3, 1) := by decide +kernel
theorem dX3_uneven_29 : decode cX3_uneven 29 = .ok (.iaload, 1) := by decide +kernel
theorem dX3_uneven_30 : decode cX3_uneven 30 = .ok (.iload_n 1, 1) := by decide +kernel
theorem dX3_uneven_31 : decode cX3_uneven 31 = .ok (.if_icmp .le 12, 3) := by decide +kernel
theorem dX3_uneven_34 : decode cX3_uneven 34 = .ok (.aload_n 0, 1) := by decide +kernel
theorem dX3_uneven_35 : decode cX3_uneven 35 = .ok (.getfield 22, 3) := by decide +kernel
theorem dX3_uneven_38 : decode cX3_uneven 38 = .ok (.iload_n 3, 1) := by decide +kernel
theorem dX3_uneven_39 : decode cX3_uneven 39 = .ok (.iaload, 1) := by decide +kernel
theorem dX3_uneven_40 : decode cX3_uneven 40 = .ok (.goto 4, 3) := by decide +kernel
theorem dX3_uneven_43 : decode cX3_uneven 43 = .ok (.iload_n 1, 1) := by decide +kernel
theorem dX3_uneven_44 : decode cX3_uneven 44 = .ok (.istore_n 1, 1) := by decide +kernel
theorem dX3_uneven_45 : decode cX3_uneven 45 = .ok (.aload_n 0, 1) := by decide +kernel
theorem dX3_uneven_46 : decode cX3_uneven 46 = .ok (.getfield 22, 3) := by decide +kernel
theorem dX3_uneven_49 : decode cX3_uneven 49 = .ok (.iload_n 3, 1) := by decide +kernel
theorem dX3_uneven_50 : decode cX3_uneven 50 = .ok (.iaload, 1) := by decide +kernel
theorem dX3_uneven_51 : decode cX3_uneven 51 = .ok (.iload_n 2, 1) := by decide +kernel
theorem dX3_uneven_52 : decode cX3_uneven 52 = .ok (.if_icmp .ge 12, 3) := by decide +kernel
theorem dX3_uneven_55 : decode cX3_uneven 55 = .ok (.aload_n 0, 1) := by decide +kernel
theorem dX3_uneven_56 : decode cX3_uneven 56 = .ok (.getfield 22, 3) := by decide +kernel
theorem dX3_uneven_59 : decode cX3_uneven 59 = .ok (.iload_n 3, 1) := by decide +kernel
theorem dX3_uneven_60 : decode cX3_uneven 60 = .ok (.iaload, 1) := by decide +kernel
theorem dX3_uneven_61 : decode cX3_uneven 61 = .ok (.goto 4, 3) := by decide +kernel
theorem dX3_uneven_64 : decode cX3_uneven 64 = .ok (.iload_n 2, 1) := by decide +kernel
theorem dX3_uneven_65 : decode cX3_uneven 65 = .ok (.istore_n 2, 1) := by decide +kernel
theorem dX3_uneven_66 : decode cX3_uneven 66 = .ok (.iinc 3 1, 3) := by decide +kernel
theorem dX3_uneven_69 : decode cX3_uneven 69 = .ok (.goto (-53), 3) := by decide +kernel
theorem dX3_uneven_72 : decode cX3_uneven 72 = .ok (.iload_n 1, 1) := by decide +kernel
theorem dX3_uneven_73 : decode cX3_uneven 73 = .ok (.iload_n 2, 1) := by decide +kernel
theorem dX3_uneven_74 : decode cX3_uneven 74 = .ok (.isub, 1) := by decide +kernel
theorem dX3_uneven_75 : decode cX3_uneven 75 = .ok (.aload_n 0, 1) := by decide +kernel
theorem dX3_uneven_76 : decode cX3_uneven 76 = .ok (.getfield 41, 3) := by decide +kernel
theorem dX3_uneven_79 : decode cX3_uneven 79 = .ok (.if_icmp .le 7, 3) := by decide +kernel
theorem dX3_uneven_82 : decode cX3_uneven 82 = .ok (.iconst 1, 1) := by decide +kernel
theorem dX3_uneven_83 : decode cX3_uneven 83 = .ok (.goto 4, 3) := by decide +kernel
theorem dX3_uneven_86 : decode cX3_uneven 86 = .ok (.iconst 0, 1) := by decide +kernel
theorem dX3_uneven_87 : decode cX3_uneven 87 = .ok (.ireturn, 1) := by decide +kernel
theorem dX3_operates_0 : decode cX3_operates 0 = .ok (.aload_n 0, 1) := by decide +kernel
theorem dX3_operates_1 : decode cX3_operates 1 = .ok (.getfield 63, 3) := by decide +kernel
theorem dX3_operates_4 : decode cX3_operates 4 = .ok (.iconst 1, 1) := by decide +kernel
theorem dX3_operates_5 : decode cX3_operates 5 = .ok (.if_icmp .ne 15, 3) := by decide +kernel
theorem dX3_operates_8 : decode cX3_operates 8 = .ok (.aload_n 0, 1) := by decide +kernel
theorem dX3_operates_9 : decode cX3_operates 9 = .ok (.iconst 0, 1) := by decide +kernel
theorem dX3_operates_10 : decode cX3_operates 10 = .ok (.putfield 63, 3) := by decide +kernel
theorem dX3_operates_13 : decode cX3_operates 13 = .ok (.aload_n 0, 1) := by decide +kernel
theorem dX3_operates_14 : decode cX3_operates 14 = .ok (.iconst 1, 1) := by decide +kernel
theorem dX3_operates_15 : decode cX3_operates 15 = .ok (.putfield 66, 3) := by decide +kernel
theorem dX3_operates_18 : decode cX3_operates 18 = .ok (.iconst 0, 1) := by decide +kernel
theorem dX3_operates_19 : decode cX3_operates 19 = .ok (.ireturn, 1) := by decide +kernel
theorem dX3_operates_20 : decode cX3_operates 20 = .ok (.aload_n 0, 1) := by decide +kernel
theorem dX3_operates_21 : decode cX3_operates 21 = .ok (.aload_n 0, 1) := by decide +kernel
theorem dX3_operates_22 : decode cX3_operates 22 = .ok (.getfield 63, 3) := by decide +kernel
theorem dX3_operates_25 : decode cX3_operates 25 = .ok (.ifCond .le 12, 3) := by decide +kernel
theorem dX3_operates_28 : decode cX3_operates 28 = .ok (.aload_n 0, 1) := by decide +kernel
theorem dX3_operates_29 : decode cX3_operates 29 = .ok (.getfield 63, 3) := by decide +kernel
theorem dX3_operates_32 : decode cX3_operates 32 = .ok (.iconst 1, 1) := by decide +kernel
theorem dX3_operates_33 : decode cX3_operates 33 = .ok (.isub, 1) := by decide +kernel
theorem dX3_operates_34 : decode cX3_operates 34 = .ok (.goto 4, 3) := by decide +kernel
theorem dX3_operates_37 : decode cX3_operates 37 = .ok (.iconst 0, 1) := by decide +kernel
theorem dX3_operates_38 : decode cX3_operates 38 = .ok (.putfield 63, 3) := by decide +kernel
theorem dX3_operates_41 : decode cX3_operates 41 = .ok (.aload_n 0, 1) := by decide +kernel
theorem dX3_operates_42 : decode cX3_operates 42 = .ok (.dup, 1) := by decide +kernel
theorem dX3_operates_43 : decode cX3_operates 43 = .ok (.getfield 70, 3) := by decide +kernel
theorem dX3_operates_46 : decode cX3_operates 46 = .ok (.iconst 1, 1) := by decide +kernel
theorem dX3_operates_47 : decode cX3_operates 47 = .ok (.iadd, 1) := by decide +kernel
theorem dX3_operates_48 : decode cX3_operates 48 = .ok (.putfield 70, 3) := by decide +kernel
theorem dX3_operates_51 : decode cX3_operates 51 = .ok (.iconst 1, 1) := by decide +kernel
theorem dX3_operates_52 : decode cX3_operates 52 = .ok (.ireturn, 1) := by decide +kernel
set_option maxRecDepth 20000 in
theorem ggX3_put_X3_operates : GoodIn wsX3_put wsX3_operates := goodIn_r _ [11, 12, 13, 14, 15, 16, 17, 18, 19, 20, 21, 22, 23, 24, 25, 26, 27, 28, 29, 30] (by decide +kernel) (by decide +kernel)
set_option maxRecDepth 20000 in
theorem gX3_put_X3_operates : GoodIn wsX3_put (wsV RX3 73 RX3 yX3_operates wsX3_operates) := goodIn_app (goodIn_of _ (by decide +kernel)) ggX3_put_X3_operates
theorem dX3_put_0 : decode cX3_put 0 = .ok (.iconst 4, 1) := by decide +kernel
theorem dX3_put_1 : decode cX3_put 1 = .ok (.aload_n 0, 1) := by decide +kernel
theorem dX3_put_2 : decode cX3_put 2 = .ok (.getfield 25, 3) := by decide +kernel
theorem dX3_put_5 : decode cX3_put 5 = .ok (.imul, 1) := by decide +kernel
theorem dX3_put_6 : decode cX3_put 6 = .ok (.istore 4, 2) := by decide +kernel
theorem dX3_put_8 : decode cX3_put 8 = .ok (.iload 4, 2) := by decide +kernel
theorem dX3_put_10 : decode cX3_put 10 = .ok (.iconst 4, 1) := by decide +kernel
theorem dX3_put_11 : decode cX3_put 11 = .ok (.aload_n 0, 1) := by decide +kernel
theorem dX3_put_12 : decode cX3_put 12 = .ok (.getfield 25, 3) := by decide +kernel
theorem dX3_put_15 : decode cX3_put 15 = .ok (.imul, 1) := by decide +kernel
theorem dX3_put_16 : decode cX3_put 16 = .ok (.iconst 3, 1) := by decide +kernel
theorem dX3_put_17 : decode cX3_put 17 = .ok (.iadd, 1) := by decide +kernel
theorem dX3_put_18 : decode cX3_put 18 = .ok (.if_icmp .ge 20, 3) := by decide +kernel
theorem dX3_put_21 : decode cX3_put 21 = .ok (.aload_n 0, 1) := by decide +kernel
theorem dX3_put_22 : decode cX3_put 22 = .ok (.getfield 7, 3) := by decide +kernel
theorem dX3_put_25 : decode cX3_put 25 = .ok (.iload 4, 2) := by decide +kernel
theorem dX3_put_27 : decode cX3_put 27 = .ok (.iaload, 1) := by decide +kernel
theorem dX3_put_28 : decode cX3_put 28 = .ok (.iconst (-1), 1) := by decide +kernel
theorem dX3_put_29 : decode cX3_put 29 = .ok (.if_icmp .eq 9, 3) := by decide +kernel
theorem dX3_put_32 : decode cX3_put 32 = .ok (.iinc 4 1, 3) := by decide +kernel
theorem dX3_put_35 : decode cX3_put 35 = .ok (.goto (-27), 3) := by decide +kernel
theorem dX3_put_38 : decode cX3_put 38 = .ok (.aload_n 0, 1) := by decide +kernel
theorem dX3_put_39 : decode cX3_put 39 = .ok (.invokevirtual 73, 3) := by decide +kernel
theorem dX3_put_42 : decode cX3_put 42 = .ok (.ifCond .ne 5, 3) := by decide +kernel
theorem dX3_put_45 : decode cX3_put 45 = .ok (.iconst 0, 1) := by decide +kernel
theorem dX3_put_46 : decode cX3_put 46 = .ok (.ireturn, 1) := by decide +kernel
theorem dX3_put_47 : decode cX3_put 47 = .ok (.aload_n 0, 1) := by decide +kernel
theorem dX3_put_48 : decode cX3_put 48 = .ok (.getfield 7, 3) := by decide +kernel
theorem dX3_put_51 : decode cX3_put 51 = .ok (.iload 4, 2) := by decide +kernel
theorem dX3_put_53 : decode cX3_put 53 = .ok (.iload_n 1, 1) := by decide +kernel
theorem dX3_put_54 : decode cX3_put 54 = .ok (.iastore, 1) := by decide +kernel
theorem dX3_put_55 : decode cX3_put 55 = .ok (.aload_n 0, 1) := by decide +kernel
theorem dX3_put_56 : decode cX3_put 56 = .ok (.getfield 13, 3) := by decide +kernel
theorem dX3_put_59 : decode cX3_put 59 = .ok (.iload 4, 2) := by decide +kernel
theorem dX3_put_61 : decode cX3_put 61 = .ok (.iload_n 2, 1) := by decide +kernel
theorem dX3_put_62 : decode cX3_put 62 = .ok (.iastore, 1) := by decide +kernel
theorem dX3_put_63 : decode cX3_put 63 = .ok (.aload_n 0, 1) := by decide +kernel
theorem dX3_put_64 : decode cX3_put 64 = .ok (.getfield 19, 3) := by decide +kernel
theorem dX3_put_67 : decode cX3_put 67 = .ok (.iload 4, 2) := by decide +kernel
theorem dX3_put_69 : decode cX3_put 69 = .ok (.iload_n 3, 1) := by decide +kernel
theorem dX3_put_70 : decode cX3_put 70 = .ok (.iastore, 1) := by decide +kernel
theorem dX3_put_71 : decode cX3_put 71 = .ok (.aload_n 0, 1) := by decide +kernel
theorem dX3_put_72 : decode cX3_put 72 = .ok (.getfield 16, 3) := by decide +kernel
theorem dX3_put_75 : decode cX3_put 75 = .ok (.iload 4, 2) := by decide +kernel
theorem dX3_put_77 : decode cX3_put 77 = .ok (.aload_n 0, 1) := by decide +kernel
theorem dX3_put_78 : decode cX3_put 78 = .ok (.getfield 77, 3) := by decide +kernel
theorem dX3_put_81 : decode cX3_put 81 = .ok (.iastore, 1) := by decide +kernel
theorem dX3_put_82 : decode cX3_put 82 = .ok (.aload_n 0, 1) := by decide +kernel
theorem dX3_put_83 : decode cX3_put 83 = .ok (.dup, 1) := by decide +kernel
theorem dX3_put_84 : decode cX3_put 84 = .ok (.getfield 77, 3) := by decide +kernel
theorem dX3_put_87 : decode cX3_put 87 = .ok (.iconst 1, 1) := by decide +kernel
theorem dX3_put_88 : decode cX3_put 88 = .ok (.iadd, 1) := by decide +kernel
theorem dX3_put_89 : decode cX3_put 89 = .ok (.putfield 77, 3) := by decide +kernel
theorem dX3_put_92 : decode cX3_put 92 = .ok (.iconst 1, 1) := by decide +kernel
theorem dX3_put_93 : decode cX3_put 93 = .ok (.ireturn, 1) := by decide +kernel
set_option maxRecDepth 20000 in
theorem ggX3_collect_X3_isValid : GoodIn wsX3_collect wsX3_isValid := goodIn_r _ [9, 1, 10, 11, 12, 8, 13, 14, 15, 29, 30, 31, 32, 33, 34, 35, 36, 37, 38, 39, 40, 41, 42, 43, 44] (by decide +kernel) (by decide +kernel)
set_option maxRecDepth 20000 in
theorem gX3_collect_X3_isValid : GoodIn wsX3_collect (wsV RX3 52 RX3 yX3_isValid wsX3_isValid) := goodIn_app (goodIn_of _ (by decide +kernel)) ggX3_collect_X3_isValid
set_option maxRecDepth 20000 in
theorem ggX3_collect_X3_put : GoodIn wsX3_collect wsX3_put := goodIn_r _ [19, 20, 1, 2, 3, 15, 21, 22, 23, 24, 8, 25, 26, 27, 28, 29, 30, 31, 32, 33, 34, 35, 36, 37, 38, 39, 40, 41, 42, 43, 44] (by decide +kernel) (by decide +kernel)
set_option maxRecDepth 20000 in
theorem gX3_collect_X3_put : GoodIn wsX3_collect (wsV RX3 80 RX3 yX3_put wsX3_put) := goodIn_app (goodIn_of _ (by decide +kernel)) ggX3_collect_X3_put
set_option maxRecDepth 20000 in
theorem ggX3_collect_X3_operates : GoodIn wsX3_collect wsX3_operates := goodIn_r _ [25, 26, 27, 28, 29, 30, 31, 32, 33, 34, 35, 36, 37, 38, 39, 40, 41, 42, 43, 44] (by decide +kernel) (by decide +kernel)
set_option maxRecDepth 20000 in
theorem gX3_collect_X3_operates : GoodIn wsX3_collect (wsV RX3 73 RX3 yX3_operates wsX3_operates) := goodIn_app (goodIn_of _ (by decide +kernel)) ggX3_collect_X3_operates
theorem dX3_collect_0 : decode cX3_collect 0 = .ok (.iconst 4, 1) := by decide +kernel
theorem dX3_collect_1 : decode cX3_collect 1 = .ok (.iload_n 1, 1) := by decide +kernel
theorem dX3_collect_2 : decode cX3_collect 2 = .ok (.imul, 1) := by decide +kernel
theorem dX3_collect_3 : decode cX3_collect 3 = .ok (.istore_n 2, 1) := by decide +kernel
theorem dX3_collect_4 : decode cX3_collect 4 = .ok (.iload_n 2, 1) := by decide +kernel
theorem dX3_collect_5 : decode cX3_collect 5 = .ok (.iconst 4, 1) := by decide +kernel
theorem dX3_collect_6 : decode cX3_collect 6 = .ok (.iload_n 1, 1) := by decide +kernel
theorem dX3_collect_7 : decode cX3_collect 7 = .ok (.imul, 1) := by decide +kernel
theorem dX3_collect_8 : decode cX3_collect 8 = .ok (.iconst 4, 1) := by decide +kernel
theorem dX3_collect_9 : decode cX3_collect 9 = .ok (.iadd, 1) := by decide +kernel
theorem dX3_collect_10 : decode cX3_collect 10 = .ok (.if_icmp .ge 44, 3) := by decide +kernel
theorem dX3_collect_13 : decode cX3_collect 13 = .ok (.aload_n 0, 1) := by decide +kernel
theorem dX3_collect_14 : decode cX3_collect 14 = .ok (.iload_n 2, 1) := by decide +kernel
theorem dX3_collect_15 : decode cX3_collect 15 = .ok (.invokevirtual 52, 3) := by decide +kernel
theorem dX3_collect_18 : decode cX3_collect 18 = .ok (.ifCond .eq 30, 3) := by decide +kernel
theorem dX3_collect_21 : decode cX3_collect 21 = .ok (.aload_n 0, 1) := by decide +kernel
theorem dX3_collect_22 : decode cX3_collect 22 = .ok (.aload_n 0, 1) := by decide +kernel
theorem dX3_collect_23 : decode cX3_collect 23 = .ok (.getfield 7, 3) := by decide +kernel
theorem dX3_collect_26 : decode cX3_collect 26 = .ok (.iload_n 2, 1) := by decide +kernel
