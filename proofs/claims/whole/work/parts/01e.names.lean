theorem dX3_collect_27 : decode cX3_collect 27 = .ok (.iaload, 1) := by decide +kernel
theorem dX3_collect_28 : decode cX3_collect 28 = .ok (.aload_n 0, 1) := by decide +kernel
theorem dX3_collect_29 : decode cX3_collect 29 = .ok (.getfield 13, 3) := by decide +kernel
theorem dX3_collect_32 : decode cX3_collect 32 = .ok (.iload_n 2, 1) := by decide +kernel
theorem dX3_collect_33 : decode cX3_collect 33 = .ok (.iaload, 1) := by decide +kernel
theorem dX3_collect_34 : decode cX3_collect 34 = .ok (.aload_n 0, 1) := by decide +kernel
theorem dX3_collect_35 : decode cX3_collect 35 = .ok (.getfield 19, 3) := by decide +kernel
theorem dX3_collect_38 : decode cX3_collect 38 = .ok (.iload_n 2, 1) := by decide +kernel
theorem dX3_collect_39 : decode cX3_collect 39 = .ok (.iaload, 1) := by decide +kernel
theorem dX3_collect_40 : decode cX3_collect 40 = .ok (.invokevirtual 80, 3) := by decide +kernel
theorem dX3_collect_43 : decode cX3_collect 43 = .ok (.ifCond .ne 5, 3) := by decide +kernel
theorem dX3_collect_46 : decode cX3_collect 46 = .ok (.iconst 0, 1) := by decide +kernel
theorem dX3_collect_47 : decode cX3_collect 47 = .ok (.ireturn, 1) := by decide +kernel
theorem dX3_collect_48 : decode cX3_collect 48 = .ok (.iinc 2 1, 3) := by decide +kernel
theorem dX3_collect_51 : decode cX3_collect 51 = .ok (.goto (-47), 3) := by decide +kernel
theorem dX3_collect_54 : decode cX3_collect 54 = .ok (.aload_n 0, 1) := by decide +kernel
theorem dX3_collect_55 : decode cX3_collect 55 = .ok (.invokevirtual 73, 3) := by decide +kernel
theorem dX3_collect_58 : decode cX3_collect 58 = .ok (.ifCond .ne 5, 3) := by decide +kernel
theorem dX3_collect_61 : decode cX3_collect 61 = .ok (.iconst 0, 1) := by decide +kernel
theorem dX3_collect_62 : decode cX3_collect 62 = .ok (.ireturn, 1) := by decide +kernel
theorem dX3_collect_63 : decode cX3_collect 63 = .ok (.iconst 4, 1) := by decide +kernel
theorem dX3_collect_64 : decode cX3_collect 64 = .ok (.iload_n 1, 1) := by decide +kernel
theorem dX3_collect_65 : decode cX3_collect 65 = .ok (.imul, 1) := by decide +kernel
theorem dX3_collect_66 : decode cX3_collect 66 = .ok (.istore_n 2, 1) := by decide +kernel
theorem dX3_collect_67 : decode cX3_collect 67 = .ok (.iload_n 2, 1) := by decide +kernel
theorem dX3_collect_68 : decode cX3_collect 68 = .ok (.iconst 4, 1) := by decide +kernel
theorem dX3_collect_69 : decode cX3_collect 69 = .ok (.iload_n 1, 1) := by decide +kernel
theorem dX3_collect_70 : decode cX3_collect 70 = .ok (.imul, 1) := by decide +kernel
theorem dX3_collect_71 : decode cX3_collect 71 = .ok (.iconst 4, 1) := by decide +kernel
theorem dX3_collect_72 : decode cX3_collect 72 = .ok (.iadd, 1) := by decide +kernel
theorem dX3_collect_73 : decode cX3_collect 73 = .ok (.if_icmp .ge 16, 3) := by decide +kernel
theorem dX3_collect_76 : decode cX3_collect 76 = .ok (.aload_n 0, 1) := by decide +kernel
theorem dX3_collect_77 : decode cX3_collect 77 = .ok (.getfield 7, 3) := by decide +kernel
theorem dX3_collect_80 : decode cX3_collect 80 = .ok (.iload_n 2, 1) := by decide +kernel
theorem dX3_collect_81 : decode cX3_collect 81 = .ok (.iconst (-1), 1) := by decide +kernel
theorem dX3_collect_82 : decode cX3_collect 82 = .ok (.iastore, 1) := by decide +kernel
theorem dX3_collect_83 : decode cX3_collect 83 = .ok (.iinc 2 1, 3) := by decide +kernel
theorem dX3_collect_86 : decode cX3_collect 86 = .ok (.goto (-19), 3) := by decide +kernel
theorem dX3_collect_89 : decode cX3_collect 89 = .ok (.aload_n 0, 1) := by decide +kernel
theorem dX3_collect_90 : decode cX3_collect 90 = .ok (.getfield 22, 3) := by decide +kernel
theorem dX3_collect_93 : decode cX3_collect 93 = .ok (.iload_n 1, 1) := by decide +kernel
theorem dX3_collect_94 : decode cX3_collect 94 = .ok (.dup2, 1) := by decide +kernel
theorem dX3_collect_95 : decode cX3_collect 95 = .ok (.iaload, 1) := by decide +kernel
theorem dX3_collect_96 : decode cX3_collect 96 = .ok (.iconst 1, 1) := by decide +kernel
theorem dX3_collect_97 : decode cX3_collect 97 = .ok (.iadd, 1) := by decide +kernel
theorem dX3_collect_98 : decode cX3_collect 98 = .ok (.iastore, 1) := by decide +kernel
theorem dX3_collect_99 : decode cX3_collect 99 = .ok (.iconst 1, 1) := by decide +kernel
theorem dX3_collect_100 : decode cX3_collect 100 = .ok (.ireturn, 1) := by decide +kernel
set_option maxRecDepth 20000 in
theorem ggX3_room_X3_programmed : GoodIn wsX3_room wsX3_programmed := goodIn_r _ [6, 7, 55, 56, 57, 58, 59, 60, 61, 62, 63, 64, 65, 66, 67, 68, 69, 70] (by decide +kernel) (by decide +kernel)
set_option maxRecDepth 20000 in
theorem gX3_room_X3_programmed : GoodIn wsX3_room (wsV RX3 56 RX3 yX3_programmed wsX3_programmed) := goodIn_app (goodIn_of _ (by decide +kernel)) ggX3_room_X3_programmed
set_option maxRecDepth 20000 in
theorem ggX3_room_X3_freeBlocks : GoodIn wsX3_room wsX3_freeBlocks := goodIn_r _ [11, 12, 2, 3, 4, 5, 6, 7, 55, 56, 57, 58, 59, 60, 61, 62, 63, 64, 65, 66, 67, 68, 69, 70] (by decide +kernel) (by decide +kernel)
set_option maxRecDepth 20000 in
theorem gX3_room_X3_freeBlocks : GoodIn wsX3_room (wsV RX3 84 RX3 yX3_freeBlocks wsX3_freeBlocks) := goodIn_app (goodIn_of _ (by decide +kernel)) ggX3_room_X3_freeBlocks
set_option maxRecDepth 20000 in
theorem ggX3_room_X3_pick : GoodIn wsX3_room wsX3_pick := goodIn_r _ [16, 12, 17, 18, 19, 20, 21, 5, 22, 23, 24, 25, 26, 7, 27, 28, 29, 30, 31, 2, 3, 4, 6, 55, 56, 57, 58, 59, 60, 61, 62, 63, 64, 65, 66, 67, 68, 69, 70] (by decide +kernel) (by decide +kernel)
set_option maxRecDepth 20000 in
theorem gX3_room_X3_pick : GoodIn wsX3_room (wsV RX3 87 RX3 yX3_pick wsX3_pick) := goodIn_app (goodIn_of _ (by decide +kernel)) ggX3_room_X3_pick
set_option maxRecDepth 20000 in
theorem ggX3_room_X3_uneven : GoodIn wsX3_room wsX3_uneven := goodIn_r _ [35, 17, 12, 36, 55, 56, 57, 58, 59, 60, 61, 62, 63, 64, 65, 66, 67, 68, 69, 70] (by decide +kernel) (by decide +kernel)
set_option maxRecDepth 20000 in
theorem gX3_room_X3_uneven : GoodIn wsX3_room (wsV RX3 91 RX3 yX3_uneven wsX3_uneven) := goodIn_app (goodIn_of _ (by decide +kernel)) ggX3_room_X3_uneven
set_option maxRecDepth 20000 in
theorem ggX3_room_X3_collect : GoodIn wsX3_room wsX3_collect := goodIn_r _ [40, 7, 41, 42, 17, 23, 24, 25, 5, 26, 27, 28, 29, 30, 12, 31, 43, 44, 45, 46, 1, 47, 48, 49, 50, 51, 52, 53, 54, 55, 56, 57, 58, 59, 60, 61, 62, 63, 64, 65, 66, 67, 68, 69, 70] (by decide +kernel) (by decide +kernel)
set_option maxRecDepth 20000 in
theorem gX3_room_X3_collect : GoodIn wsX3_room (wsV RX3 94 RX3 yX3_collect wsX3_collect) := goodIn_app (goodIn_of _ (by decide +kernel)) ggX3_room_X3_collect
theorem dX3_room_0 : decode cX3_room 0 = .ok (.iconst 0, 1) := by decide +kernel
theorem dX3_room_1 : decode cX3_room 1 = .ok (.istore_n 1, 1) := by decide +kernel
theorem dX3_room_2 : decode cX3_room 2 = .ok (.iconst 0, 1) := by decide +kernel
theorem dX3_room_3 : decode cX3_room 3 = .ok (.istore_n 2, 1) := by decide +kernel
theorem dX3_room_4 : decode cX3_room 4 = .ok (.iload_n 2, 1) := by decide +kernel
theorem dX3_room_5 : decode cX3_room 5 = .ok (.sipush 1000, 3) := by decide +kernel
theorem dX3_room_8 : decode cX3_room 8 = .ok (.if_icmp .ge 114, 3) := by decide +kernel
theorem dX3_room_11 : decode cX3_room 11 = .ok (.aload_n 0, 1) := by decide +kernel
theorem dX3_room_12 : decode cX3_room 12 = .ok (.getfield 25, 3) := by decide +kernel
theorem dX3_room_15 : decode cX3_room 15 = .ok (.iconst (-1), 1) := by decide +kernel
theorem dX3_room_16 : decode cX3_room 16 = .ok (.if_icmp .eq 15, 3) := by decide +kernel
theorem dX3_room_19 : decode cX3_room 19 = .ok (.aload_n 0, 1) := by decide +kernel
theorem dX3_room_20 : decode cX3_room 20 = .ok (.aload_n 0, 1) := by decide +kernel
theorem dX3_room_21 : decode cX3_room 21 = .ok (.getfield 25, 3) := by decide +kernel
theorem dX3_room_24 : decode cX3_room 24 = .ok (.invokevirtual 56, 3) := by decide +kernel
theorem dX3_room_27 : decode cX3_room 27 = .ok (.iconst 4, 1) := by decide +kernel
theorem dX3_room_28 : decode cX3_room 28 = .ok (.if_icmp .ne 94, 3) := by decide +kernel
theorem dX3_room_31 : decode cX3_room 31 = .ok (.aload_n 0, 1) := by decide +kernel
theorem dX3_room_32 : decode cX3_room 32 = .ok (.invokevirtual 84, 3) := by decide +kernel
theorem dX3_room_35 : decode cX3_room 35 = .ok (.iconst 2, 1) := by decide +kernel
theorem dX3_room_36 : decode cX3_room 36 = .ok (.if_icmp .ge 7, 3) := by decide +kernel
theorem dX3_room_39 : decode cX3_room 39 = .ok (.iconst 1, 1) := by decide +kernel
theorem dX3_room_40 : decode cX3_room 40 = .ok (.goto 4, 3) := by decide +kernel
theorem dX3_room_43 : decode cX3_room 43 = .ok (.iconst 0, 1) := by decide +kernel
theorem dX3_room_44 : decode cX3_room 44 = .ok (.istore_n 3, 1) := by decide +kernel
theorem dX3_room_45 : decode cX3_room 45 = .ok (.aload_n 0, 1) := by decide +kernel
theorem dX3_room_46 : decode cX3_room 46 = .ok (.aload_n 0, 1) := by decide +kernel
theorem dX3_room_47 : decode cX3_room 47 = .ok (.iconst 0, 1) := by decide +kernel
theorem dX3_room_48 : decode cX3_room 48 = .ok (.iconst 0, 1) := by decide +kernel
theorem dX3_room_49 : decode cX3_room 49 = .ok (.invokevirtual 87, 3) := by decide +kernel
theorem dX3_room_52 : decode cX3_room 52 = .ok (.putfield 25, 3) := by decide +kernel
theorem dX3_room_55 : decode cX3_room 55 = .ok (.iload_n 3, 1) := by decide +kernel
theorem dX3_room_56 : decode cX3_room 56 = .ok (.ifCond .eq 60, 3) := by decide +kernel
theorem dX3_room_59 : decode cX3_room 59 = .ok (.iload_n 1, 1) := by decide +kernel
theorem dX3_room_60 : decode cX3_room 60 = .ok (.ifCond .ne 14, 3) := by decide +kernel
theorem dX3_room_63 : decode cX3_room 63 = .ok (.aload_n 0, 1) := by decide +kernel
theorem dX3_room_64 : decode cX3_room 64 = .ok (.invokevirtual 91, 3) := by decide +kernel
theorem dX3_room_67 : decode cX3_room 67 = .ok (.ifCond .eq 7, 3) := by decide +kernel
theorem dX3_room_70 : decode cX3_room 70 = .ok (.iconst 1, 1) := by decide +kernel
theorem dX3_room_71 : decode cX3_room 71 = .ok (.goto 4, 3) := by decide +kernel
theorem dX3_room_74 : decode cX3_room 74 = .ok (.iconst 0, 1) := by decide +kernel
theorem dX3_room_75 : decode cX3_room 75 = .ok (.istore 4, 2) := by decide +kernel
theorem dX3_room_77 : decode cX3_room 77 = .ok (.iload_n 1, 1) := by decide +kernel
theorem dX3_room_78 : decode cX3_room 78 = .ok (.ifCond .ne 8, 3) := by decide +kernel
theorem dX3_room_81 : decode cX3_room 81 = .ok (.iload 4, 2) := by decide +kernel
theorem dX3_room_83 : decode cX3_room 83 = .ok (.ifCond .eq 7, 3) := by decide +kernel
theorem dX3_room_86 : decode cX3_room 86 = .ok (.iconst 1, 1) := by decide +kernel
theorem dX3_room_87 : decode cX3_room 87 = .ok (.goto 4, 3) := by decide +kernel
theorem dX3_room_90 : decode cX3_room 90 = .ok (.iconst 0, 1) := by decide +kernel
theorem dX3_room_91 : decode cX3_room 91 = .ok (.istore_n 1, 1) := by decide +kernel
theorem dX3_room_92 : decode cX3_room 92 = .ok (.aload_n 0, 1) := by decide +kernel
theorem dX3_room_93 : decode cX3_room 93 = .ok (.aload_n 0, 1) := by decide +kernel
theorem dX3_room_94 : decode cX3_room 94 = .ok (.iconst 4, 1) := by decide +kernel
theorem dX3_room_95 : decode cX3_room 95 = .ok (.iload 4, 2) := by decide +kernel
theorem dX3_room_97 : decode cX3_room 97 = .ok (.ifCond .ne 7, 3) := by decide +kernel
theorem dX3_room_100 : decode cX3_room 100 = .ok (.iconst 1, 1) := by decide +kernel
theorem dX3_room_101 : decode cX3_room 101 = .ok (.goto 4, 3) := by decide +kernel
theorem dX3_room_104 : decode cX3_room 104 = .ok (.iconst 0, 1) := by decide +kernel
theorem dX3_room_105 : decode cX3_room 105 = .ok (.invokevirtual 87, 3) := by decide +kernel
theorem dX3_room_108 : decode cX3_room 108 = .ok (.invokevirtual 94, 3) := by decide +kernel
theorem dX3_room_111 : decode cX3_room 111 = .ok (.ifCond .ne 5, 3) := by decide +kernel
theorem dX3_room_114 : decode cX3_room 114 = .ok (.iconst 0, 1) := by decide +kernel
theorem dX3_room_115 : decode cX3_room 115 = .ok (.ireturn, 1) := by decide +kernel
theorem dX3_room_116 : decode cX3_room 116 = .ok (.iinc 2 1, 3) := by decide +kernel
theorem dX3_room_119 : decode cX3_room 119 = .ok (.goto (-115), 3) := by decide +kernel
theorem dX3_room_122 : decode cX3_room 122 = .ok (.iconst 1, 1) := by decide +kernel
theorem dX3_room_123 : decode cX3_room 123 = .ok (.ireturn, 1) := by decide +kernel
set_option maxRecDepth 20000 in
theorem ggX3_store_X3_room : GoodIn wsX3_store wsX3_room := goodIn_r _ [9, 10, 11, 12, 13, 8, 14, 15, 16, 17, 18, 19, 20, 21, 22, 23, 24, 25, 26, 27, 28, 29, 30, 31, 32, 33, 34, 35, 36, 37, 38, 39, 40, 41, 42, 43, 44, 45, 46, 47, 48, 49, 50, 51, 52, 53, 54, 55, 56, 57, 58, 59, 60, 61, 62, 63, 64, 65, 66, 67, 68, 69, 70, 71, 72, 73, 74, 75, 76, 77, 78] (by decide +kernel) (by decide +kernel)
set_option maxRecDepth 20000 in
theorem gX3_store_X3_room : GoodIn wsX3_store (wsV RX3 97 RX3 yX3_room wsX3_room) := goodIn_app (goodIn_of _ (by decide +kernel)) ggX3_store_X3_room
set_option maxRecDepth 20000 in
theorem ggX3_store_X3_put : GoodIn wsX3_store wsX3_put := goodIn_r _ [54, 10, 15, 49, 50, 39, 55, 56, 57, 58, 8, 59, 60, 61, 62, 63, 64, 65, 66, 67, 68, 69, 70, 71, 72, 73, 74, 75, 76, 77, 78] (by decide +kernel) (by decide +kernel)
set_option maxRecDepth 20000 in
theorem gX3_store_X3_put : GoodIn wsX3_store (wsV RX3 80 RX3 yX3_put wsX3_put) := goodIn_app (goodIn_of _ (by decide +kernel)) ggX3_store_X3_put
theorem dX3_store_0 : decode cX3_store 0 = .ok (.aload_n 0, 1) := by decide +kernel
theorem dX3_store_1 : decode cX3_store 1 = .ok (.invokevirtual 97, 3) := by decide +kernel
theorem dX3_store_4 : decode cX3_store 4 = .ok (.ifCond .eq 28, 3) := by decide +kernel
theorem dX3_store_7 : decode cX3_store 7 = .ok (.aload_n 0, 1) := by decide +kernel
theorem dX3_store_8 : decode cX3_store 8 = .ok (.aload_n 0, 1) := by decide +kernel
theorem dX3_store_9 : decode cX3_store 9 = .ok (.getfield 29, 3) := by decide +kernel
theorem dX3_store_12 : decode cX3_store 12 = .ok (.iconst 0, 1) := by decide +kernel
theorem dX3_store_13 : decode cX3_store 13 = .ok (.iaload, 1) := by decide +kernel
theorem dX3_store_14 : decode cX3_store 14 = .ok (.aload_n 0, 1) := by decide +kernel
theorem dX3_store_15 : decode cX3_store 15 = .ok (.getfield 32, 3) := by decide +kernel
theorem dX3_store_18 : decode cX3_store 18 = .ok (.iconst 0, 1) := by decide +kernel
theorem dX3_store_19 : decode cX3_store 19 = .ok (.iaload, 1) := by decide +kernel
theorem dX3_store_20 : decode cX3_store 20 = .ok (.aload_n 0, 1) := by decide +kernel
theorem dX3_store_21 : decode cX3_store 21 = .ok (.getfield 35, 3) := by decide +kernel
theorem dX3_store_24 : decode cX3_store 24 = .ok (.iconst 0, 1) := by decide +kernel
theorem dX3_store_25 : decode cX3_store 25 = .ok (.iaload, 1) := by decide +kernel
theorem dX3_store_26 : decode cX3_store 26 = .ok (.invokevirtual 80, 3) := by decide +kernel
theorem dX3_store_29 : decode cX3_store 29 = .ok (.ifCond .ne 5, 3) := by decide +kernel
theorem dX3_store_32 : decode cX3_store 32 = .ok (.iconst 0, 1) := by decide +kernel
theorem dX3_store_33 : decode cX3_store 33 = .ok (.ireturn, 1) := by decide +kernel
theorem dX3_store_34 : decode cX3_store 34 = .ok (.aload_n 0, 1) := by decide +kernel
theorem dX3_store_35 : decode cX3_store 35 = .ok (.dup, 1) := by decide +kernel
theorem dX3_store_36 : decode cX3_store 36 = .ok (.getfield 100, 3) := by decide +kernel
theorem dX3_store_39 : decode cX3_store 39 = .ok (.iconst 1, 1) := by decide +kernel
theorem dX3_store_40 : decode cX3_store 40 = .ok (.isub, 1) := by decide +kernel
theorem dX3_store_41 : decode cX3_store 41 = .ok (.putfield 100, 3) := by decide +kernel
theorem dX3_store_44 : decode cX3_store 44 = .ok (.iconst 0, 1) := by decide +kernel
theorem dX3_store_45 : decode cX3_store 45 = .ok (.istore_n 1, 1) := by decide +kernel
theorem dX3_store_46 : decode cX3_store 46 = .ok (.iload_n 1, 1) := by decide +kernel
theorem dX3_store_47 : decode cX3_store 47 = .ok (.aload_n 0, 1) := by decide +kernel
theorem dX3_store_48 : decode cX3_store 48 = .ok (.getfield 100, 3) := by decide +kernel
theorem dX3_store_51 : decode cX3_store 51 = .ok (.if_icmp .ge 51, 3) := by decide +kernel
theorem dX3_store_54 : decode cX3_store 54 = .ok (.aload_n 0, 1) := by decide +kernel
theorem dX3_store_55 : decode cX3_store 55 = .ok (.getfield 29, 3) := by decide +kernel
theorem dX3_store_58 : decode cX3_store 58 = .ok (.iload_n 1, 1) := by decide +kernel
theorem dX3_store_59 : decode cX3_store 59 = .ok (.aload_n 0, 1) := by decide +kernel
theorem dX3_store_60 : decode cX3_store 60 = .ok (.getfield 29, 3) := by decide +kernel
theorem dX3_store_63 : decode cX3_store 63 = .ok (.iload_n 1, 1) := by decide +kernel
theorem dX3_store_64 : decode cX3_store 64 = .ok (.iconst 1, 1) := by decide +kernel
theorem dX3_store_65 : decode cX3_store 65 = .ok (.iadd, 1) := by decide +kernel
theorem dX3_store_66 : decode cX3_store 66 = .ok (.iaload, 1) := by decide +kernel
theorem dX3_store_67 : decode cX3_store 67 = .ok (.iastore, 1) := by decide +kernel
theorem dX3_store_68 : decode cX3_store 68 = .ok (.aload_n 0, 1) := by decide +kernel
theorem dX3_store_69 : decode cX3_store 69 = .ok (.getfield 32, 3) := by decide +kernel
theorem dX3_store_72 : decode cX3_store 72 = .ok (.iload_n 1, 1) := by decide +kernel
theorem dX3_store_73 : decode cX3_store 73 = .ok (.aload_n 0, 1) := by decide +kernel
theorem dX3_store_74 : decode cX3_store 74 = .ok (.getfield 32, 3) := by decide +kernel
theorem dX3_store_77 : decode cX3_store 77 = .ok (.iload_n 1, 1) := by decide +kernel
theorem dX3_store_78 : decode cX3_store 78 = .ok (.iconst 1, 1) := by decide +kernel
theorem dX3_store_79 : decode cX3_store 79 = .ok (.iadd, 1) := by decide +kernel
theorem dX3_store_80 : decode cX3_store 80 = .ok (.iaload, 1) := by decide +kernel
theorem dX3_store_81 : decode cX3_store 81 = .ok (.iastore, 1) := by decide +kernel
theorem dX3_store_82 : decode cX3_store 82 = .ok (.aload_n 0, 1) := by decide +kernel
theorem dX3_store_83 : decode cX3_store 83 = .ok (.getfield 35, 3) := by decide +kernel
theorem dX3_store_86 : decode cX3_store 86 = .ok (.iload_n 1, 1) := by decide +kernel
theorem dX3_store_87 : decode cX3_store 87 = .ok (.aload_n 0, 1) := by decide +kernel
theorem dX3_store_88 : decode cX3_store 88 = .ok (.getfield 35, 3) := by decide +kernel
theorem dX3_store_91 : decode cX3_store 91 = .ok (.iload_n 1, 1) := by decide +kernel
theorem dX3_store_92 : decode cX3_store 92 = .ok (.iconst 1, 1) := by decide +kernel
theorem dX3_store_93 : decode cX3_store 93 = .ok (.iadd, 1) := by decide +kernel
theorem dX3_store_94 : decode cX3_store 94 = .ok (.iaload, 1) := by decide +kernel
theorem dX3_store_95 : decode cX3_store 95 = .ok (.iastore, 1) := by decide +kernel
theorem dX3_store_96 : decode cX3_store 96 = .ok (.iinc 1 1, 3) := by decide +kernel
theorem dX3_store_99 : decode cX3_store 99 = .ok (.goto (-53), 3) := by decide +kernel
theorem dX3_store_102 : decode cX3_store 102 = .ok (.iconst 1, 1) := by decide +kernel
theorem dX3_store_103 : decode cX3_store 103 = .ok (.ireturn, 1) := by decide +kernel
set_option maxRecDepth 20000 in
theorem ggX3_cut_X3_programmed : GoodIn wsX3_cut wsX3_programmed := goodIn_r _ [12, 6, 51, 52, 53, 54, 55, 56, 57, 58, 59, 60, 61, 62, 63, 64, 65, 66] (by decide +kernel) (by decide +kernel)
set_option maxRecDepth 20000 in
theorem gX3_cut_X3_programmed : GoodIn wsX3_cut (wsV RX3 56 RX3 yX3_programmed wsX3_programmed) := goodIn_app (goodIn_of _ (by decide +kernel)) ggX3_cut_X3_programmed
set_option maxRecDepth 20000 in
theorem ggX3_cut_X3_freeBlocks : GoodIn wsX3_cut wsX3_freeBlocks := goodIn_r _ [16, 5, 8, 9, 10, 11, 12, 6, 51, 52, 53, 54, 55, 56, 57, 58, 59, 60, 61, 62, 63, 64, 65, 66] (by decide +kernel) (by decide +kernel)
set_option maxRecDepth 20000 in
theorem gX3_cut_X3_freeBlocks : GoodIn wsX3_cut (wsV RX3 84 RX3 yX3_freeBlocks wsX3_freeBlocks) := goodIn_app (goodIn_of _ (by decide +kernel)) ggX3_cut_X3_freeBlocks
set_option maxRecDepth 20000 in
theorem ggX3_cut_X3_pick : GoodIn wsX3_cut wsX3_pick := goodIn_r _ [20, 5, 21, 22, 23, 24, 25, 11, 26, 27, 28, 29, 30, 6, 31, 32, 33, 34, 7, 8, 9, 10, 12, 51, 52, 53, 54, 55, 56, 57, 58, 59, 60, 61, 62, 63, 64, 65, 66] (by decide +kernel) (by decide +kernel)
set_option maxRecDepth 20000 in
theorem gX3_cut_X3_pick : GoodIn wsX3_cut (wsV RX3 87 RX3 yX3_pick wsX3_pick) := goodIn_app (goodIn_of _ (by decide +kernel)) ggX3_cut_X3_pick
set_option maxRecDepth 20000 in
theorem ggX3_cut_X3_collect : GoodIn wsX3_cut wsX3_collect := goodIn_r _ [38, 6, 39, 40, 21, 27, 28, 29, 11, 30, 31, 32, 33, 34, 5, 7, 41, 42, 43, 44, 3, 4, 45, 46, 47, 48, 49, 1, 50, 51, 52, 53, 54, 55, 56, 57, 58, 59, 60, 61, 62, 63, 64, 65, 66] (by decide +kernel) (by decide +kernel)
set_option maxRecDepth 20000 in
theorem gX3_cut_X3_collect : GoodIn wsX3_cut (wsV RX3 94 RX3 yX3_collect wsX3_collect) := goodIn_app (goodIn_of _ (by decide +kernel)) ggX3_cut_X3_collect
theorem dX3_cut_0 : decode cX3_cut 0 = .ok (.aload_n 0, 1) := by decide +kernel
theorem dX3_cut_1 : decode cX3_cut 1 = .ok (.iconst 1, 1) := by decide +kernel
theorem dX3_cut_2 : decode cX3_cut 2 = .ok (.putfield 66, 3) := by decide +kernel
theorem dX3_cut_5 : decode cX3_cut 5 = .ok (.aload_n 0, 1) := by decide +kernel
theorem dX3_cut_6 : decode cX3_cut 6 = .ok (.getfield 66, 3) := by decide +kernel
theorem dX3_cut_9 : decode cX3_cut 9 = .ok (.ifCond .eq 168, 3) := by decide +kernel
theorem dX3_cut_12 : decode cX3_cut 12 = .ok (.aload_n 0, 1) := by decide +kernel
theorem dX3_cut_13 : decode cX3_cut 13 = .ok (.iconst 0, 1) := by decide +kernel
theorem dX3_cut_14 : decode cX3_cut 14 = .ok (.putfield 66, 3) := by decide +kernel
theorem dX3_cut_17 : decode cX3_cut 17 = .ok (.aload_n 0, 1) := by decide +kernel
theorem dX3_cut_18 : decode cX3_cut 18 = .ok (.iconst 0, 1) := by decide +kernel
theorem dX3_cut_19 : decode cX3_cut 19 = .ok (.putfield 100, 3) := by decide +kernel
theorem dX3_cut_22 : decode cX3_cut 22 = .ok (.aload_n 0, 1) := by decide +kernel
theorem dX3_cut_23 : decode cX3_cut 23 = .ok (.iconst (-1), 1) := by decide +kernel
theorem dX3_cut_24 : decode cX3_cut 24 = .ok (.putfield 25, 3) := by decide +kernel
theorem dX3_cut_27 : decode cX3_cut 27 = .ok (.aload_n 0, 1) := by decide +kernel
theorem dX3_cut_28 : decode cX3_cut 28 = .ok (.iconst 0, 1) := by decide +kernel
theorem dX3_cut_29 : decode cX3_cut 29 = .ok (.putfield 77, 3) := by decide +kernel
theorem dX3_cut_32 : decode cX3_cut 32 = .ok (.iconst 0, 1) := by decide +kernel
theorem dX3_cut_33 : decode cX3_cut 33 = .ok (.istore_n 1, 1) := by decide +kernel
theorem dX3_cut_34 : decode cX3_cut 34 = .ok (.iload_n 1, 1) := by decide +kernel
theorem dX3_cut_35 : decode cX3_cut 35 = .ok (.aload_n 0, 1) := by decide +kernel
theorem dX3_cut_36 : decode cX3_cut 36 = .ok (.getfield 38, 3) := by decide +kernel
theorem dX3_cut_39 : decode cX3_cut 39 = .ok (.if_icmp .ge 36, 3) := by decide +kernel
theorem dX3_cut_42 : decode cX3_cut 42 = .ok (.aload_n 0, 1) := by decide +kernel
theorem dX3_cut_43 : decode cX3_cut 43 = .ok (.iload_n 1, 1) := by decide +kernel
theorem dX3_cut_44 : decode cX3_cut 44 = .ok (.invokevirtual 56, 3) := by decide +kernel
theorem dX3_cut_47 : decode cX3_cut 47 = .ok (.istore_n 2, 1) := by decide +kernel
theorem dX3_cut_48 : decode cX3_cut 48 = .ok (.aload_n 0, 1) := by decide +kernel
theorem dX3_cut_49 : decode cX3_cut 49 = .ok (.iload_n 2, 1) := by decide +kernel
theorem dX3_cut_50 : decode cX3_cut 50 = .ok (.ifCond .le 12, 3) := by decide +kernel
theorem dX3_cut_53 : decode cX3_cut 53 = .ok (.iload_n 2, 1) := by decide +kernel
theorem dX3_cut_54 : decode cX3_cut 54 = .ok (.iconst 4, 1) := by decide +kernel
theorem dX3_cut_55 : decode cX3_cut 55 = .ok (.if_icmp .ge 7, 3) := by decide +kernel
theorem dX3_cut_58 : decode cX3_cut 58 = .ok (.iload_n 1, 1) := by decide +kernel
theorem dX3_cut_59 : decode cX3_cut 59 = .ok (.goto 7, 3) := by decide +kernel
theorem dX3_cut_62 : decode cX3_cut 62 = .ok (.aload_n 0, 1) := by decide +kernel
theorem dX3_cut_63 : decode cX3_cut 63 = .ok (.getfield 25, 3) := by decide +kernel
theorem dX3_cut_66 : decode cX3_cut 66 = .ok (.putfield 25, 3) := by decide +kernel
theorem dX3_cut_69 : decode cX3_cut 69 = .ok (.iinc 1 1, 3) := by decide +kernel
theorem dX3_cut_72 : decode cX3_cut 72 = .ok (.goto (-38), 3) := by decide +kernel
theorem dX3_cut_75 : decode cX3_cut 75 = .ok (.iconst 0, 1) := by decide +kernel
theorem dX3_cut_76 : decode cX3_cut 76 = .ok (.istore_n 1, 1) := by decide +kernel
theorem dX3_cut_77 : decode cX3_cut 77 = .ok (.iload_n 1, 1) := by decide +kernel
theorem dX3_cut_78 : decode cX3_cut 78 = .ok (.iconst 4, 1) := by decide +kernel
theorem dX3_cut_79 : decode cX3_cut 79 = .ok (.aload_n 0, 1) := by decide +kernel
theorem dX3_cut_80 : decode cX3_cut 80 = .ok (.getfield 38, 3) := by decide +kernel
theorem dX3_cut_83 : decode cX3_cut 83 = .ok (.imul, 1) := by decide +kernel
theorem dX3_cut_84 : decode cX3_cut 84 = .ok (.if_icmp .ge 51, 3) := by decide +kernel
theorem dX3_cut_87 : decode cX3_cut 87 = .ok (.aload_n 0, 1) := by decide +kernel
theorem dX3_cut_88 : decode cX3_cut 88 = .ok (.aload_n 0, 1) := by decide +kernel
theorem dX3_cut_89 : decode cX3_cut 89 = .ok (.getfield 7, 3) := by decide +kernel
theorem dX3_cut_92 : decode cX3_cut 92 = .ok (.iload_n 1, 1) := by decide +kernel
theorem dX3_cut_93 : decode cX3_cut 93 = .ok (.iaload, 1) := by decide +kernel
theorem dX3_cut_94 : decode cX3_cut 94 = .ok (.iconst (-1), 1) := by decide +kernel
theorem dX3_cut_95 : decode cX3_cut 95 = .ok (.if_icmp .eq 27, 3) := by decide +kernel
theorem dX3_cut_98 : decode cX3_cut 98 = .ok (.aload_n 0, 1) := by decide +kernel
theorem dX3_cut_99 : decode cX3_cut 99 = .ok (.getfield 16, 3) := by decide +kernel
theorem dX3_cut_102 : decode cX3_cut 102 = .ok (.iload_n 1, 1) := by decide +kernel
theorem dX3_cut_103 : decode cX3_cut 103 = .ok (.iaload, 1) := by decide +kernel
theorem dX3_cut_104 : decode cX3_cut 104 = .ok (.aload_n 0, 1) := by decide +kernel
theorem dX3_cut_105 : decode cX3_cut 105 = .ok (.getfield 77, 3) := by decide +kernel
theorem dX3_cut_108 : decode cX3_cut 108 = .ok (.if_icmp .lt 14, 3) := by decide +kernel
theorem dX3_cut_111 : decode cX3_cut 111 = .ok (.aload_n 0, 1) := by decide +kernel
theorem dX3_cut_112 : decode cX3_cut 112 = .ok (.getfield 16, 3) := by decide +kernel
theorem dX3_cut_115 : decode cX3_cut 115 = .ok (.iload_n 1, 1) := by decide +kernel
theorem dX3_cut_116 : decode cX3_cut 116 = .ok (.iaload, 1) := by decide +kernel
theorem dX3_cut_117 : decode cX3_cut 117 = .ok (.iconst 1, 1) := by decide +kernel
theorem dX3_cut_118 : decode cX3_cut 118 = .ok (.iadd, 1) := by decide +kernel
theorem dX3_cut_119 : decode cX3_cut 119 = .ok (.goto 7, 3) := by decide +kernel
theorem dX3_cut_122 : decode cX3_cut 122 = .ok (.aload_n 0, 1) := by decide +kernel
theorem dX3_cut_123 : decode cX3_cut 123 = .ok (.getfield 77, 3) := by decide +kernel
theorem dX3_cut_126 : decode cX3_cut 126 = .ok (.putfield 77, 3) := by decide +kernel
theorem dX3_cut_129 : decode cX3_cut 129 = .ok (.iinc 1 1, 3) := by decide +kernel
theorem dX3_cut_132 : decode cX3_cut 132 = .ok (.goto (-55), 3) := by decide +kernel
theorem dX3_cut_135 : decode cX3_cut 135 = .ok (.aload_n 0, 1) := by decide +kernel
theorem dX3_cut_136 : decode cX3_cut 136 = .ok (.invokevirtual 84, 3) := by decide +kernel
theorem dX3_cut_139 : decode cX3_cut 139 = .ok (.ifCond .gt 16, 3) := by decide +kernel
theorem dX3_cut_142 : decode cX3_cut 142 = .ok (.aload_n 0, 1) := by decide +kernel
theorem dX3_cut_143 : decode cX3_cut 143 = .ok (.aload_n 0, 1) := by decide +kernel
theorem dX3_cut_144 : decode cX3_cut 144 = .ok (.iconst 4, 1) := by decide +kernel
theorem dX3_cut_145 : decode cX3_cut 145 = .ok (.iconst 1, 1) := by decide +kernel
theorem dX3_cut_146 : decode cX3_cut 146 = .ok (.invokevirtual 87, 3) := by decide +kernel
theorem dX3_cut_149 : decode cX3_cut 149 = .ok (.invokevirtual 94, 3) := by decide +kernel
theorem dX3_cut_152 : decode cX3_cut 152 = .ok (.ifCond .eq 7, 3) := by decide +kernel
theorem dX3_cut_155 : decode cX3_cut 155 = .ok (.iconst 1, 1) := by decide +kernel
theorem dX3_cut_156 : decode cX3_cut 156 = .ok (.goto 4, 3) := by decide +kernel
theorem dX3_cut_159 : decode cX3_cut 159 = .ok (.iconst 0, 1) := by decide +kernel
theorem dX3_cut_160 : decode cX3_cut 160 = .ok (.istore_n 1, 1) := by decide +kernel
theorem dX3_cut_161 : decode cX3_cut 161 = .ok (.aload_n 0, 1) := by decide +kernel
theorem dX3_cut_162 : decode cX3_cut 162 = .ok (.iload_n 1, 1) := by decide +kernel
theorem dX3_cut_163 : decode cX3_cut 163 = .ok (.ifCond .ne 7, 3) := by decide +kernel
theorem dX3_cut_166 : decode cX3_cut 166 = .ok (.iconst 1, 1) := by decide +kernel
theorem dX3_cut_167 : decode cX3_cut 167 = .ok (.goto 4, 3) := by decide +kernel
theorem dX3_cut_170 : decode cX3_cut 170 = .ok (.iconst 0, 1) := by decide +kernel
theorem dX3_cut_171 : decode cX3_cut 171 = .ok (.putfield 66, 3) := by decide +kernel
theorem dX3_cut_174 : decode cX3_cut 174 = .ok (.goto (-169), 3) := by decide +kernel
theorem dX3_cut_177 : decode cX3_cut 177 = .ok (.return_, 1) := by decide +kernel
theorem dX3_find_0 : decode cX3_find 0 = .ok (.iconst 0, 1) := by decide +kernel
theorem dX3_find_1 : decode cX3_find 1 = .ok (.istore_n 2, 1) := by decide +kernel
theorem dX3_find_2 : decode cX3_find 2 = .ok (.iload_n 2, 1) := by decide +kernel
theorem dX3_find_3 : decode cX3_find 3 = .ok (.aload_n 0, 1) := by decide +kernel
theorem dX3_find_4 : decode cX3_find 4 = .ok (.getfield 100, 3) := by decide +kernel
theorem dX3_find_7 : decode cX3_find 7 = .ok (.if_icmp .ge 21, 3) := by decide +kernel
theorem dX3_find_10 : decode cX3_find 10 = .ok (.aload_n 0, 1) := by decide +kernel
theorem dX3_find_11 : decode cX3_find 11 = .ok (.getfield 29, 3) := by decide +kernel
theorem dX3_find_14 : decode cX3_find 14 = .ok (.iload_n 2, 1) := by decide +kernel
theorem dX3_find_15 : decode cX3_find 15 = .ok (.iaload, 1) := by decide +kernel
theorem dX3_find_16 : decode cX3_find 16 = .ok (.iload_n 1, 1) := by decide +kernel
theorem dX3_find_17 : decode cX3_find 17 = .ok (.if_icmp .ne 5, 3) := by decide +kernel
theorem dX3_find_20 : decode cX3_find 20 = .ok (.iload_n 2, 1) := by decide +kernel
theorem dX3_find_21 : decode cX3_find 21 = .ok (.ireturn, 1) := by decide +kernel
theorem dX3_find_22 : decode cX3_find 22 = .ok (.iinc 2 1, 3) := by decide +kernel
theorem dX3_find_25 : decode cX3_find 25 = .ok (.goto (-23), 3) := by decide +kernel
theorem dX3_find_28 : decode cX3_find 28 = .ok (.iconst (-1), 1) := by decide +kernel
theorem dX3_find_29 : decode cX3_find 29 = .ok (.ireturn, 1) := by decide +kernel
set_option maxRecDepth 20000 in
theorem ggX3_change_X3_isSector : GoodIn wsX3_change wsX3_isSector := goodIn_r _ [9, 10, 11, 12, 8, 13, 14, 83, 84, 85, 86, 87, 88, 89, 90, 91, 92, 93, 94, 95, 96, 97, 98] (by decide +kernel) (by decide +kernel)
set_option maxRecDepth 20000 in
theorem gX3_change_X3_isSector : GoodIn wsX3_change (wsV RX3 103 RX3 yX3_isSector wsX3_isSector) := goodIn_app (goodIn_of _ (by decide +kernel)) ggX3_change_X3_isSector
set_option maxRecDepth 20000 in
theorem ggX3_change_X3_find : GoodIn wsX3_change wsX3_find := goodIn_r _ [18, 1, 2, 83, 84, 85, 86, 87, 88, 89, 90, 91, 92, 93, 94, 95, 96, 97, 98] (by decide +kernel) (by decide +kernel)
set_option maxRecDepth 20000 in
theorem gX3_change_X3_find : GoodIn wsX3_change (wsV RX3 106 RX3 yX3_find wsX3_find) := goodIn_app (goodIn_of _ (by decide +kernel)) ggX3_change_X3_find
set_option maxRecDepth 20000 in
theorem ggX3_change_X3_store : GoodIn wsX3_change wsX3_store := goodIn_r _ [22, 2, 3, 4, 1, 23, 24, 25, 8, 26, 27, 28, 29, 30, 31, 32, 33, 34, 35, 36, 14, 37, 38, 39, 40, 41, 42, 43, 44, 45, 46, 47, 48, 49, 50, 51, 52, 53, 54, 55, 56, 57, 58, 59, 60, 61, 62, 63, 64, 65, 66, 67, 68, 69, 70, 71, 72, 73, 74, 75, 76, 77, 78, 83, 84, 85, 86, 87, 88, 89, 90, 91, 92, 93, 94, 95, 96, 97, 98] (by decide +kernel) (by decide +kernel)
set_option maxRecDepth 20000 in
theorem gX3_change_X3_store : GoodIn wsX3_change (wsV RX3 109 RX3 yX3_store wsX3_store) := goodIn_app (goodIn_of _ (by decide +kernel)) ggX3_change_X3_store
set_option maxRecDepth 20000 in
theorem ggX3_change_X3_cut : GoodIn wsX3_change wsX3_cut := goodIn_r _ [82, 77, 1, 27, 71, 14, 32, 55, 28, 29, 30, 8, 31, 33, 34, 35, 36, 37, 38, 39, 40, 41, 42, 43, 44, 45, 46, 47, 48, 49, 50, 51, 52, 53, 54, 61, 62, 63, 64, 65, 66, 67, 68, 69, 70, 72, 73, 74, 75, 76, 78, 83, 84, 85, 86, 87, 88, 89, 90, 91, 92, 93, 94, 95, 96, 97, 98] (by decide +kernel) (by decide +kernel)
set_option maxRecDepth 20000 in
theorem gX3_change_X3_cut : GoodIn wsX3_change (wsV RX3 112 RX3 yX3_cut wsX3_cut) := goodIn_app (goodIn_of _ (by decide +kernel)) ggX3_change_X3_cut
theorem dX3_change_0 : decode cX3_change 0 = .ok (.aload_n 0, 1) := by decide +kernel
theorem dX3_change_1 : decode cX3_change 1 = .ok (.iload_n 1, 1) := by decide +kernel
theorem dX3_change_2 : decode cX3_change 2 = .ok (.invokevirtual 103, 3) := by decide +kernel
theorem dX3_change_5 : decode cX3_change 5 = .ok (.ifCond .ne 5, 3) := by decide +kernel
theorem dX3_change_8 : decode cX3_change 8 = .ok (.iconst (-1), 1) := by decide +kernel
theorem dX3_change_9 : decode cX3_change 9 = .ok (.ireturn, 1) := by decide +kernel
theorem dX3_change_10 : decode cX3_change 10 = .ok (.aload_n 0, 1) := by decide +kernel
theorem dX3_change_11 : decode cX3_change 11 = .ok (.iload_n 1, 1) := by decide +kernel
theorem dX3_change_12 : decode cX3_change 12 = .ok (.invokevirtual 106, 3) := by decide +kernel
theorem dX3_change_15 : decode cX3_change 15 = .ok (.istore 4, 2) := by decide +kernel
theorem dX3_change_17 : decode cX3_change 17 = .ok (.iload 4, 2) := by decide +kernel
theorem dX3_change_19 : decode cX3_change 19 = .ok (.iconst (-1), 1) := by decide +kernel
theorem dX3_change_20 : decode cX3_change 20 = .ok (.if_icmp .ne 24, 3) := by decide +kernel
theorem dX3_change_23 : decode cX3_change 23 = .ok (.aload_n 0, 1) := by decide +kernel
theorem dX3_change_24 : decode cX3_change 24 = .ok (.getfield 100, 3) := by decide +kernel
theorem dX3_change_27 : decode cX3_change 27 = .ok (.iconst 3, 1) := by decide +kernel
theorem dX3_change_28 : decode cX3_change 28 = .ok (.if_icmp .ne 16, 3) := by decide +kernel
theorem dX3_change_31 : decode cX3_change 31 = .ok (.aload_n 0, 1) := by decide +kernel
theorem dX3_change_32 : decode cX3_change 32 = .ok (.invokevirtual 109, 3) := by decide +kernel
theorem dX3_change_35 : decode cX3_change 35 = .ok (.ifCond .ne 9, 3) := by decide +kernel
theorem dX3_change_38 : decode cX3_change 38 = .ok (.aload_n 0, 1) := by decide +kernel
theorem dX3_change_39 : decode cX3_change 39 = .ok (.invokevirtual 112, 3) := by decide +kernel
theorem dX3_change_42 : decode cX3_change 42 = .ok (.iconst 1, 1) := by decide +kernel
theorem dX3_change_43 : decode cX3_change 43 = .ok (.ireturn, 1) := by decide +kernel
theorem dX3_change_44 : decode cX3_change 44 = .ok (.iload 4, 2) := by decide +kernel
theorem dX3_change_46 : decode cX3_change 46 = .ok (.iconst (-1), 1) := by decide +kernel
theorem dX3_change_47 : decode cX3_change 47 = .ok (.if_icmp .ne 19, 3) := by decide +kernel
theorem dX3_change_50 : decode cX3_change 50 = .ok (.aload_n 0, 1) := by decide +kernel
theorem dX3_change_51 : decode cX3_change 51 = .ok (.getfield 100, 3) := by decide +kernel
theorem dX3_change_54 : decode cX3_change 54 = .ok (.istore 4, 2) := by decide +kernel
theorem dX3_change_56 : decode cX3_change 56 = .ok (.aload_n 0, 1) := by decide +kernel
theorem dX3_change_57 : decode cX3_change 57 = .ok (.dup, 1) := by decide +kernel
theorem dX3_change_58 : decode cX3_change 58 = .ok (.getfield 100, 3) := by decide +kernel
theorem dX3_change_61 : decode cX3_change 61 = .ok (.iconst 1, 1) := by decide +kernel
theorem dX3_change_62 : decode cX3_change 62 = .ok (.iadd, 1) := by decide +kernel
theorem dX3_change_63 : decode cX3_change 63 = .ok (.putfield 100, 3) := by decide +kernel
theorem dX3_change_66 : decode cX3_change 66 = .ok (.aload_n 0, 1) := by decide +kernel
theorem dX3_change_67 : decode cX3_change 67 = .ok (.getfield 29, 3) := by decide +kernel
theorem dX3_change_70 : decode cX3_change 70 = .ok (.iload 4, 2) := by decide +kernel
theorem dX3_change_72 : decode cX3_change 72 = .ok (.iload_n 1, 1) := by decide +kernel
theorem dX3_change_73 : decode cX3_change 73 = .ok (.iastore, 1) := by decide +kernel
theorem dX3_change_74 : decode cX3_change 74 = .ok (.aload_n 0, 1) := by decide +kernel
theorem dX3_change_75 : decode cX3_change 75 = .ok (.getfield 32, 3) := by decide +kernel
theorem dX3_change_78 : decode cX3_change 78 = .ok (.iload 4, 2) := by decide +kernel
theorem dX3_change_80 : decode cX3_change 80 = .ok (.iload_n 2, 1) := by decide +kernel
theorem dX3_change_81 : decode cX3_change 81 = .ok (.iastore, 1) := by decide +kernel
theorem dX3_change_82 : decode cX3_change 82 = .ok (.aload_n 0, 1) := by decide +kernel
theorem dX3_change_83 : decode cX3_change 83 = .ok (.getfield 35, 3) := by decide +kernel
theorem dX3_change_86 : decode cX3_change 86 = .ok (.iload 4, 2) := by decide +kernel
theorem dX3_change_88 : decode cX3_change 88 = .ok (.iload_n 3, 1) := by decide +kernel
theorem dX3_change_89 : decode cX3_change 89 = .ok (.iastore, 1) := by decide +kernel
theorem dX3_change_90 : decode cX3_change 90 = .ok (.iconst 0, 1) := by decide +kernel
theorem dX3_change_91 : decode cX3_change 91 = .ok (.ireturn, 1) := by decide +kernel
set_option maxRecDepth 20000 in
theorem ggX3_write_X3_change : GoodIn wsX3_write wsX3_change := goodIn_r _ [5, 6, 7, 8, 9, 10, 11, 12, 4, 13, 14, 15, 16, 17, 18, 19, 20, 21, 22, 23, 24, 25, 26, 27, 28, 29, 30, 31, 32, 33, 34, 35, 36, 37, 38, 39, 40, 41, 42, 43, 44, 45, 46, 47, 48, 49, 50, 51, 52, 53, 54, 55, 56, 57, 58, 59, 60, 61, 62, 63, 64, 65, 66, 67, 68, 69, 70, 71, 72, 73, 74, 75, 76, 77, 78, 79, 80, 81, 82, 83, 84, 85, 86, 87, 88, 89, 90, 91, 92, 93, 94, 95, 96, 97, 98, 99, 100, 101, 102] (by decide +kernel) (by decide +kernel)
set_option maxRecDepth 20000 in
theorem gX3_write_X3_change : GoodIn wsX3_write (wsV RX3 115 RX3 yX3_change wsX3_change) := goodIn_app (goodIn_of _ (by decide +kernel)) ggX3_write_X3_change
theorem dX3_write_0 : decode cX3_write 0 = .ok (.aload_n 0, 1) := by decide +kernel
theorem dX3_write_1 : decode cX3_write 1 = .ok (.iload_n 1, 1) := by decide +kernel
theorem dX3_write_2 : decode cX3_write 2 = .ok (.iload_n 2, 1) := by decide +kernel
theorem dX3_write_3 : decode cX3_write 3 = .ok (.iconst 1, 1) := by decide +kernel
theorem dX3_write_4 : decode cX3_write 4 = .ok (.invokevirtual 115, 3) := by decide +kernel
theorem dX3_write_7 : decode cX3_write 7 = .ok (.ireturn, 1) := by decide +kernel
set_option maxRecDepth 20000 in
theorem ggX3_trim_X3_change : GoodIn wsX3_trim wsX3_change := goodIn_r _ [5, 6, 7, 8, 9, 10, 11, 12, 4, 13, 14, 15, 16, 17, 18, 19, 20, 21, 22, 23, 24, 25, 26, 27, 28, 29, 30, 31, 32, 33, 34, 35, 36, 37, 38, 39, 40, 41, 42, 43, 44, 45, 46, 47, 48, 49, 50, 51, 52, 53, 54, 55, 56, 57, 58, 59, 60, 61, 62, 63, 64, 65, 66, 67, 68, 69, 70, 71, 72, 73, 74, 75, 76, 77, 78, 79, 80, 81, 82, 83, 84, 85, 86, 87, 88, 89, 90, 91, 92, 93, 94, 95, 96, 97, 98, 99, 100, 101, 102] (by decide +kernel) (by decide +kernel)
set_option maxRecDepth 20000 in
theorem gX3_trim_X3_change : GoodIn wsX3_trim (wsV RX3 115 RX3 yX3_change wsX3_change) := goodIn_app (goodIn_of _ (by decide +kernel)) ggX3_trim_X3_change
theorem dX3_trim_0 : decode cX3_trim 0 = .ok (.aload_n 0, 1) := by decide +kernel
theorem dX3_trim_1 : decode cX3_trim 1 = .ok (.iload_n 1, 1) := by decide +kernel
theorem dX3_trim_2 : decode cX3_trim 2 = .ok (.iconst 0, 1) := by decide +kernel
theorem dX3_trim_3 : decode cX3_trim 3 = .ok (.iconst 2, 1) := by decide +kernel
theorem dX3_trim_4 : decode cX3_trim 4 = .ok (.invokevirtual 115, 3) := by decide +kernel
theorem dX3_trim_7 : decode cX3_trim 7 = .ok (.ireturn, 1) := by decide +kernel
set_option maxRecDepth 20000 in
theorem ggX3_flush_X3_store : GoodIn wsX3_flush wsX3_store := goodIn_r _ [6, 7, 8, 9, 1, 10, 11, 12, 5, 13, 14, 15, 16, 17, 18, 19, 20, 21, 22, 23, 24, 25, 26, 27, 28, 29, 30, 31, 32, 33, 34, 35, 36, 37, 38, 39, 40, 41, 42, 43, 44, 45, 46, 47, 48, 49, 50, 51, 52, 53, 54, 55, 56, 57, 58, 59, 60, 61, 62, 63, 64, 65, 66, 71, 72, 73, 74, 75, 76, 77, 78, 79, 80, 81, 82, 83, 84, 85, 86] (by decide +kernel) (by decide +kernel)
set_option maxRecDepth 20000 in
theorem gX3_flush_X3_store : GoodIn wsX3_flush (wsV RX3 109 RX3 yX3_store wsX3_store) := goodIn_app (goodIn_of _ (by decide +kernel)) ggX3_flush_X3_store
set_option maxRecDepth 20000 in
theorem ggX3_flush_X3_cut : GoodIn wsX3_flush wsX3_cut := goodIn_r _ [70, 65, 1, 14, 59, 24, 19, 43, 15, 16, 17, 5, 18, 20, 21, 22, 23, 25, 26, 27, 28, 29, 30, 31, 32, 33, 34, 35, 36, 37, 38, 39, 40, 41, 42, 49, 50, 51, 52, 53, 54, 55, 56, 57, 58, 60, 61, 62, 63, 64, 66, 71, 72, 73, 74, 75, 76, 77, 78, 79, 80, 81, 82, 83, 84, 85, 86] (by decide +kernel) (by decide +kernel)
set_option maxRecDepth 20000 in
theorem gX3_flush_X3_cut : GoodIn wsX3_flush (wsV RX3 112 RX3 yX3_cut wsX3_cut) := goodIn_app (goodIn_of _ (by decide +kernel)) ggX3_flush_X3_cut
theorem dX3_flush_0 : decode cX3_flush 0 = .ok (.aload_n 0, 1) := by decide +kernel
theorem dX3_flush_1 : decode cX3_flush 1 = .ok (.getfield 100, 3) := by decide +kernel
theorem dX3_flush_4 : decode cX3_flush 4 = .ok (.ifCond .le 16, 3) := by decide +kernel
theorem dX3_flush_7 : decode cX3_flush 7 = .ok (.aload_n 0, 1) := by decide +kernel
theorem dX3_flush_8 : decode cX3_flush 8 = .ok (.invokevirtual 109, 3) := by decide +kernel
theorem dX3_flush_11 : decode cX3_flush 11 = .ok (.ifCond .ne (-11), 3) := by decide +kernel
theorem dX3_flush_14 : decode cX3_flush 14 = .ok (.aload_n 0, 1) := by decide +kernel
theorem dX3_flush_15 : decode cX3_flush 15 = .ok (.invokevirtual 112, 3) := by decide +kernel
theorem dX3_flush_18 : decode cX3_flush 18 = .ok (.iconst 1, 1) := by decide +kernel
theorem dX3_flush_19 : decode cX3_flush 19 = .ok (.ireturn, 1) := by decide +kernel
theorem dX3_flush_20 : decode cX3_flush 20 = .ok (.iconst 0, 1) := by decide +kernel
theorem dX3_flush_21 : decode cX3_flush 21 = .ok (.ireturn, 1) := by decide +kernel
theorem dX3_fuse_0 : decode cX3_fuse 0 = .ok (.iload_n 1, 1) := by decide +kernel
theorem dX3_fuse_1 : decode cX3_fuse 1 = .ok (.ifCond .lt 10, 3) := by decide +kernel
theorem dX3_fuse_4 : decode cX3_fuse 4 = .ok (.iload_n 1, 1) := by decide +kernel
theorem dX3_fuse_5 : decode cX3_fuse 5 = .ok (.sipush 1000, 3) := by decide +kernel
theorem dX3_fuse_8 : decode cX3_fuse 8 = .ok (.if_icmp .le 5, 3) := by decide +kernel
theorem dX3_fuse_11 : decode cX3_fuse 11 = .ok (.iconst 0, 1) := by decide +kernel
theorem dX3_fuse_12 : decode cX3_fuse 12 = .ok (.ireturn, 1) := by decide +kernel
theorem dX3_fuse_13 : decode cX3_fuse 13 = .ok (.aload_n 0, 1) := by decide +kernel
theorem dX3_fuse_14 : decode cX3_fuse 14 = .ok (.iload_n 1, 1) := by decide +kernel
theorem dX3_fuse_15 : decode cX3_fuse 15 = .ok (.putfield 63, 3) := by decide +kernel
theorem dX3_fuse_18 : decode cX3_fuse 18 = .ok (.iconst 1, 1) := by decide +kernel
theorem dX3_fuse_19 : decode cX3_fuse 19 = .ok (.ireturn, 1) := by decide +kernel
set_option maxRecDepth 20000 in
theorem ggX3_read_X3_isSector : GoodIn wsX3_read wsX3_isSector := goodIn_r _ [7, 8, 9, 10, 6, 11, 12, 25, 26, 27, 28, 29, 30, 31, 32, 33, 34, 35, 36, 37, 38, 39, 40] (by decide +kernel) (by decide +kernel)
set_option maxRecDepth 20000 in
theorem gX3_read_X3_isSector : GoodIn wsX3_read (wsV RX3 103 RX3 yX3_isSector wsX3_isSector) := goodIn_app (goodIn_of _ (by decide +kernel)) ggX3_read_X3_isSector
set_option maxRecDepth 20000 in
theorem ggX3_read_X3_find : GoodIn wsX3_read wsX3_find := goodIn_r _ [16, 17, 18, 25, 26, 27, 28, 29, 30, 31, 32, 33, 34, 35, 36, 37, 38, 39, 40] (by decide +kernel) (by decide +kernel)
set_option maxRecDepth 20000 in
theorem gX3_read_X3_find : GoodIn wsX3_read (wsV RX3 106 RX3 yX3_find wsX3_find) := goodIn_app (goodIn_of _ (by decide +kernel)) ggX3_read_X3_find
set_option maxRecDepth 20000 in
theorem ggX3_read_X3_newest : GoodIn wsX3_read wsX3_newest := goodIn_r _ [22, 12, 23, 24, 25, 26, 27, 28, 29, 30, 31, 32, 33, 34, 35, 36, 37, 38, 39, 40] (by decide +kernel) (by decide +kernel)
set_option maxRecDepth 20000 in
theorem gX3_read_X3_newest : GoodIn wsX3_read (wsV RX3 48 RX3 yX3_newest wsX3_newest) := goodIn_app (goodIn_of _ (by decide +kernel)) ggX3_read_X3_newest
theorem dX3_read_0 : decode cX3_read 0 = .ok (.aload_n 0, 1) := by decide +kernel
theorem dX3_read_1 : decode cX3_read 1 = .ok (.iload_n 1, 1) := by decide +kernel
theorem dX3_read_2 : decode cX3_read 2 = .ok (.invokevirtual 103, 3) := by decide +kernel
theorem dX3_read_5 : decode cX3_read 5 = .ok (.ifCond .eq 11, 3) := by decide +kernel
theorem dX3_read_8 : decode cX3_read 8 = .ok (.aload_n 0, 1) := by decide +kernel
theorem dX3_read_9 : decode cX3_read 9 = .ok (.iload_n 1, 1) := by decide +kernel
theorem dX3_read_10 : decode cX3_read 10 = .ok (.invokevirtual 106, 3) := by decide +kernel
theorem dX3_read_13 : decode cX3_read 13 = .ok (.goto 4, 3) := by decide +kernel
theorem dX3_read_16 : decode cX3_read 16 = .ok (.iconst (-1), 1) := by decide +kernel
theorem dX3_read_17 : decode cX3_read 17 = .ok (.istore_n 2, 1) := by decide +kernel
theorem dX3_read_18 : decode cX3_read 18 = .ok (.iload_n 2, 1) := by decide +kernel
theorem dX3_read_19 : decode cX3_read 19 = .ok (.iconst (-1), 1) := by decide +kernel
theorem dX3_read_20 : decode cX3_read 20 = .ok (.if_icmp .eq 10, 3) := by decide +kernel
theorem dX3_read_23 : decode cX3_read 23 = .ok (.aload_n 0, 1) := by decide +kernel
theorem dX3_read_24 : decode cX3_read 24 = .ok (.getfield 32, 3) := by decide +kernel
theorem dX3_read_27 : decode cX3_read 27 = .ok (.iload_n 2, 1) := by decide +kernel
theorem dX3_read_28 : decode cX3_read 28 = .ok (.iaload, 1) := by decide +kernel
theorem dX3_read_29 : decode cX3_read 29 = .ok (.ireturn, 1) := by decide +kernel
theorem dX3_read_30 : decode cX3_read 30 = .ok (.aload_n 0, 1) := by decide +kernel
theorem dX3_read_31 : decode cX3_read 31 = .ok (.iload_n 1, 1) := by decide +kernel
theorem dX3_read_32 : decode cX3_read 32 = .ok (.invokevirtual 103, 3) := by decide +kernel
theorem dX3_read_35 : decode cX3_read 35 = .ok (.ifCond .eq 11, 3) := by decide +kernel
theorem dX3_read_38 : decode cX3_read 38 = .ok (.aload_n 0, 1) := by decide +kernel
theorem dX3_read_39 : decode cX3_read 39 = .ok (.iload_n 1, 1) := by decide +kernel
theorem dX3_read_40 : decode cX3_read 40 = .ok (.invokevirtual 48, 3) := by decide +kernel
theorem dX3_read_43 : decode cX3_read 43 = .ok (.goto 4, 3) := by decide +kernel
theorem dX3_read_46 : decode cX3_read 46 = .ok (.iconst (-1), 1) := by decide +kernel
theorem dX3_read_47 : decode cX3_read 47 = .ok (.istore_n 3, 1) := by decide +kernel
theorem dX3_read_48 : decode cX3_read 48 = .ok (.iload_n 3, 1) := by decide +kernel
theorem dX3_read_49 : decode cX3_read 49 = .ok (.iconst (-1), 1) := by decide +kernel
theorem dX3_read_50 : decode cX3_read 50 = .ok (.if_icmp .ne 7, 3) := by decide +kernel
theorem dX3_read_53 : decode cX3_read 53 = .ok (.iconst 0, 1) := by decide +kernel
theorem dX3_read_54 : decode cX3_read 54 = .ok (.goto 9, 3) := by decide +kernel
theorem dX3_read_57 : decode cX3_read 57 = .ok (.aload_n 0, 1) := by decide +kernel
theorem dX3_read_58 : decode cX3_read 58 = .ok (.getfield 13, 3) := by decide +kernel
theorem dX3_read_61 : decode cX3_read 61 = .ok (.iload_n 3, 1) := by decide +kernel
theorem dX3_read_62 : decode cX3_read 62 = .ok (.iaload, 1) := by decide +kernel
theorem dX3_read_63 : decode cX3_read 63 = .ok (.ireturn, 1) := by decide +kernel
set_option maxRecDepth 20000 in
theorem ggX3_holds_X3_isSector : GoodIn wsX3_holds wsX3_isSector := goodIn_r _ [7, 8, 9, 10, 6, 11, 12, 25, 26, 27, 28, 29, 30, 31, 32, 33, 34, 35, 36, 37, 38, 39, 40] (by decide +kernel) (by decide +kernel)
set_option maxRecDepth 20000 in
theorem gX3_holds_X3_isSector : GoodIn wsX3_holds (wsV RX3 103 RX3 yX3_isSector wsX3_isSector) := goodIn_app (goodIn_of _ (by decide +kernel)) ggX3_holds_X3_isSector
set_option maxRecDepth 20000 in
theorem ggX3_holds_X3_find : GoodIn wsX3_holds wsX3_find := goodIn_r _ [16, 17, 18, 25, 26, 27, 28, 29, 30, 31, 32, 33, 34, 35, 36, 37, 38, 39, 40] (by decide +kernel) (by decide +kernel)
set_option maxRecDepth 20000 in
theorem gX3_holds_X3_find : GoodIn wsX3_holds (wsV RX3 106 RX3 yX3_find wsX3_find) := goodIn_app (goodIn_of _ (by decide +kernel)) ggX3_holds_X3_find
set_option maxRecDepth 20000 in
theorem ggX3_holds_X3_newest : GoodIn wsX3_holds wsX3_newest := goodIn_r _ [22, 12, 23, 24, 25, 26, 27, 28, 29, 30, 31, 32, 33, 34, 35, 36, 37, 38, 39, 40] (by decide +kernel) (by decide +kernel)
set_option maxRecDepth 20000 in
theorem gX3_holds_X3_newest : GoodIn wsX3_holds (wsV RX3 48 RX3 yX3_newest wsX3_newest) := goodIn_app (goodIn_of _ (by decide +kernel)) ggX3_holds_X3_newest
theorem dX3_holds_0 : decode cX3_holds 0 = .ok (.aload_n 0, 1) := by decide +kernel
theorem dX3_holds_1 : decode cX3_holds 1 = .ok (.iload_n 1, 1) := by decide +kernel
theorem dX3_holds_2 : decode cX3_holds 2 = .ok (.invokevirtual 103, 3) := by decide +kernel
theorem dX3_holds_5 : decode cX3_holds 5 = .ok (.ifCond .eq 11, 3) := by decide +kernel
theorem dX3_holds_8 : decode cX3_holds 8 = .ok (.aload_n 0, 1) := by decide +kernel
theorem dX3_holds_9 : decode cX3_holds 9 = .ok (.iload_n 1, 1) := by decide +kernel
theorem dX3_holds_10 : decode cX3_holds 10 = .ok (.invokevirtual 106, 3) := by decide +kernel
theorem dX3_holds_13 : decode cX3_holds 13 = .ok (.goto 4, 3) := by decide +kernel
theorem dX3_holds_16 : decode cX3_holds 16 = .ok (.iconst (-1), 1) := by decide +kernel
theorem dX3_holds_17 : decode cX3_holds 17 = .ok (.istore_n 2, 1) := by decide +kernel
theorem dX3_holds_18 : decode cX3_holds 18 = .ok (.iload_n 2, 1) := by decide +kernel
theorem dX3_holds_19 : decode cX3_holds 19 = .ok (.iconst (-1), 1) := by decide +kernel
theorem dX3_holds_20 : decode cX3_holds 20 = .ok (.if_icmp .eq 10, 3) := by decide +kernel
theorem dX3_holds_23 : decode cX3_holds 23 = .ok (.aload_n 0, 1) := by decide +kernel
theorem dX3_holds_24 : decode cX3_holds 24 = .ok (.getfield 35, 3) := by decide +kernel
theorem dX3_holds_27 : decode cX3_holds 27 = .ok (.iload_n 2, 1) := by decide +kernel
theorem dX3_holds_28 : decode cX3_holds 28 = .ok (.iaload, 1) := by decide +kernel
theorem dX3_holds_29 : decode cX3_holds 29 = .ok (.ireturn, 1) := by decide +kernel
theorem dX3_holds_30 : decode cX3_holds 30 = .ok (.aload_n 0, 1) := by decide +kernel
theorem dX3_holds_31 : decode cX3_holds 31 = .ok (.iload_n 1, 1) := by decide +kernel
theorem dX3_holds_32 : decode cX3_holds 32 = .ok (.invokevirtual 103, 3) := by decide +kernel
theorem dX3_holds_35 : decode cX3_holds 35 = .ok (.ifCond .eq 11, 3) := by decide +kernel
theorem dX3_holds_38 : decode cX3_holds 38 = .ok (.aload_n 0, 1) := by decide +kernel
theorem dX3_holds_39 : decode cX3_holds 39 = .ok (.iload_n 1, 1) := by decide +kernel
theorem dX3_holds_40 : decode cX3_holds 40 = .ok (.invokevirtual 48, 3) := by decide +kernel
theorem dX3_holds_43 : decode cX3_holds 43 = .ok (.goto 4, 3) := by decide +kernel
theorem dX3_holds_46 : decode cX3_holds 46 = .ok (.iconst (-1), 1) := by decide +kernel
theorem dX3_holds_47 : decode cX3_holds 47 = .ok (.istore_n 3, 1) := by decide +kernel
