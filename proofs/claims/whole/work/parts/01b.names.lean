theorem dX0_add_38 : decode cX0_add 38 = .ok (.return_, 1) := by decide +kernel
theorem dX0_dropFirst_0 : decode cX0_dropFirst 0 = .ok (.iconst 1, 1) := by decide +kernel
theorem dX0_dropFirst_1 : decode cX0_dropFirst 1 = .ok (.istore_n 1, 1) := by decide +kernel
theorem dX0_dropFirst_2 : decode cX0_dropFirst 2 = .ok (.iload_n 1, 1) := by decide +kernel
theorem dX0_dropFirst_3 : decode cX0_dropFirst 3 = .ok (.aload_n 0, 1) := by decide +kernel
theorem dX0_dropFirst_4 : decode cX0_dropFirst 4 = .ok (.getfield 21, 3) := by decide +kernel
theorem dX0_dropFirst_7 : decode cX0_dropFirst 7 = .ok (.if_icmp .ge 51, 3) := by decide +kernel
theorem dX0_dropFirst_10 : decode cX0_dropFirst 10 = .ok (.aload_n 0, 1) := by decide +kernel
theorem dX0_dropFirst_11 : decode cX0_dropFirst 11 = .ok (.getfield 11, 3) := by decide +kernel
theorem dX0_dropFirst_14 : decode cX0_dropFirst 14 = .ok (.iload_n 1, 1) := by decide +kernel
theorem dX0_dropFirst_15 : decode cX0_dropFirst 15 = .ok (.iconst 1, 1) := by decide +kernel
theorem dX0_dropFirst_16 : decode cX0_dropFirst 16 = .ok (.isub, 1) := by decide +kernel
theorem dX0_dropFirst_17 : decode cX0_dropFirst 17 = .ok (.aload_n 0, 1) := by decide +kernel
theorem dX0_dropFirst_18 : decode cX0_dropFirst 18 = .ok (.getfield 11, 3) := by decide +kernel
theorem dX0_dropFirst_21 : decode cX0_dropFirst 21 = .ok (.iload_n 1, 1) := by decide +kernel
theorem dX0_dropFirst_22 : decode cX0_dropFirst 22 = .ok (.iaload, 1) := by decide +kernel
theorem dX0_dropFirst_23 : decode cX0_dropFirst 23 = .ok (.iastore, 1) := by decide +kernel
theorem dX0_dropFirst_24 : decode cX0_dropFirst 24 = .ok (.aload_n 0, 1) := by decide +kernel
theorem dX0_dropFirst_25 : decode cX0_dropFirst 25 = .ok (.getfield 15, 3) := by decide +kernel
theorem dX0_dropFirst_28 : decode cX0_dropFirst 28 = .ok (.iload_n 1, 1) := by decide +kernel
theorem dX0_dropFirst_29 : decode cX0_dropFirst 29 = .ok (.iconst 1, 1) := by decide +kernel
theorem dX0_dropFirst_30 : decode cX0_dropFirst 30 = .ok (.isub, 1) := by decide +kernel
theorem dX0_dropFirst_31 : decode cX0_dropFirst 31 = .ok (.aload_n 0, 1) := by decide +kernel
theorem dX0_dropFirst_32 : decode cX0_dropFirst 32 = .ok (.getfield 15, 3) := by decide +kernel
theorem dX0_dropFirst_35 : decode cX0_dropFirst 35 = .ok (.iload_n 1, 1) := by decide +kernel
theorem dX0_dropFirst_36 : decode cX0_dropFirst 36 = .ok (.iaload, 1) := by decide +kernel
theorem dX0_dropFirst_37 : decode cX0_dropFirst 37 = .ok (.iastore, 1) := by decide +kernel
theorem dX0_dropFirst_38 : decode cX0_dropFirst 38 = .ok (.aload_n 0, 1) := by decide +kernel
theorem dX0_dropFirst_39 : decode cX0_dropFirst 39 = .ok (.getfield 18, 3) := by decide +kernel
theorem dX0_dropFirst_42 : decode cX0_dropFirst 42 = .ok (.iload_n 1, 1) := by decide +kernel
theorem dX0_dropFirst_43 : decode cX0_dropFirst 43 = .ok (.iconst 1, 1) := by decide +kernel
theorem dX0_dropFirst_44 : decode cX0_dropFirst 44 = .ok (.isub, 1) := by decide +kernel
theorem dX0_dropFirst_45 : decode cX0_dropFirst 45 = .ok (.aload_n 0, 1) := by decide +kernel
theorem dX0_dropFirst_46 : decode cX0_dropFirst 46 = .ok (.getfield 18, 3) := by decide +kernel
theorem dX0_dropFirst_49 : decode cX0_dropFirst 49 = .ok (.iload_n 1, 1) := by decide +kernel
theorem dX0_dropFirst_50 : decode cX0_dropFirst 50 = .ok (.iaload, 1) := by decide +kernel
theorem dX0_dropFirst_51 : decode cX0_dropFirst 51 = .ok (.iastore, 1) := by decide +kernel
theorem dX0_dropFirst_52 : decode cX0_dropFirst 52 = .ok (.iinc 1 1, 3) := by decide +kernel
theorem dX0_dropFirst_55 : decode cX0_dropFirst 55 = .ok (.goto (-53), 3) := by decide +kernel
theorem dX0_dropFirst_58 : decode cX0_dropFirst 58 = .ok (.aload_n 0, 1) := by decide +kernel
theorem dX0_dropFirst_59 : decode cX0_dropFirst 59 = .ok (.dup, 1) := by decide +kernel
theorem dX0_dropFirst_60 : decode cX0_dropFirst 60 = .ok (.getfield 21, 3) := by decide +kernel
theorem dX0_dropFirst_63 : decode cX0_dropFirst 63 = .ok (.iconst 1, 1) := by decide +kernel
theorem dX0_dropFirst_64 : decode cX0_dropFirst 64 = .ok (.isub, 1) := by decide +kernel
theorem dX0_dropFirst_65 : decode cX0_dropFirst 65 = .ok (.putfield 21, 3) := by decide +kernel
theorem dX0_dropFirst_68 : decode cX0_dropFirst 68 = .ok (.return_, 1) := by decide +kernel
theorem dX1_init_0 : decode cX1_init 0 = .ok (.aload_n 0, 1) := by decide +kernel
theorem dX1_init_1 : decode cX1_init 1 = .ok (.invokespecial 3, 3) := by decide +kernel
theorem dX1_init_4 : decode cX1_init 4 = .ok (.aload_n 0, 1) := by decide +kernel
theorem dX1_init_5 : decode cX1_init 5 = .ok (.iload_n 1, 1) := by decide +kernel
theorem dX1_init_6 : decode cX1_init 6 = .ok (.putfield 9, 3) := by decide +kernel
theorem dX1_init_9 : decode cX1_init 9 = .ok (.aload_n 0, 1) := by decide +kernel
theorem dX1_init_10 : decode cX1_init 10 = .ok (.iload_n 1, 1) := by decide +kernel
theorem dX1_init_11 : decode cX1_init 11 = .ok (.iconst 4, 1) := by decide +kernel
theorem dX1_init_12 : decode cX1_init 12 = .ok (.imul, 1) := by decide +kernel
theorem dX1_init_13 : decode cX1_init 13 = .ok (.newarray .int, 2) := by decide +kernel
theorem dX1_init_15 : decode cX1_init 15 = .ok (.putfield 15, 3) := by decide +kernel
theorem dX1_init_18 : decode cX1_init 18 = .ok (.aload_n 0, 1) := by decide +kernel
theorem dX1_init_19 : decode cX1_init 19 = .ok (.iload_n 1, 1) := by decide +kernel
theorem dX1_init_20 : decode cX1_init 20 = .ok (.iconst 4, 1) := by decide +kernel
theorem dX1_init_21 : decode cX1_init 21 = .ok (.imul, 1) := by decide +kernel
theorem dX1_init_22 : decode cX1_init 22 = .ok (.newarray .int, 2) := by decide +kernel
theorem dX1_init_24 : decode cX1_init 24 = .ok (.putfield 19, 3) := by decide +kernel
theorem dX1_init_27 : decode cX1_init 27 = .ok (.aload_n 0, 1) := by decide +kernel
theorem dX1_init_28 : decode cX1_init 28 = .ok (.iload_n 1, 1) := by decide +kernel
theorem dX1_init_29 : decode cX1_init 29 = .ok (.iconst 4, 1) := by decide +kernel
theorem dX1_init_30 : decode cX1_init 30 = .ok (.imul, 1) := by decide +kernel
theorem dX1_init_31 : decode cX1_init 31 = .ok (.newarray .int, 2) := by decide +kernel
theorem dX1_init_33 : decode cX1_init 33 = .ok (.putfield 22, 3) := by decide +kernel
theorem dX1_init_36 : decode cX1_init 36 = .ok (.aload_n 0, 1) := by decide +kernel
theorem dX1_init_37 : decode cX1_init 37 = .ok (.iload_n 1, 1) := by decide +kernel
theorem dX1_init_38 : decode cX1_init 38 = .ok (.iconst 4, 1) := by decide +kernel
theorem dX1_init_39 : decode cX1_init 39 = .ok (.imul, 1) := by decide +kernel
theorem dX1_init_40 : decode cX1_init 40 = .ok (.newarray .int, 2) := by decide +kernel
theorem dX1_init_42 : decode cX1_init 42 = .ok (.putfield 25, 3) := by decide +kernel
theorem dX1_init_45 : decode cX1_init 45 = .ok (.aload_n 0, 1) := by decide +kernel
theorem dX1_init_46 : decode cX1_init 46 = .ok (.iload_n 1, 1) := by decide +kernel
theorem dX1_init_47 : decode cX1_init 47 = .ok (.newarray .int, 2) := by decide +kernel
theorem dX1_init_49 : decode cX1_init 49 = .ok (.putfield 28, 3) := by decide +kernel
theorem dX1_init_52 : decode cX1_init 52 = .ok (.aload_n 0, 1) := by decide +kernel
theorem dX1_init_53 : decode cX1_init 53 = .ok (.iload_n 1, 1) := by decide +kernel
theorem dX1_init_54 : decode cX1_init 54 = .ok (.newarray .int, 2) := by decide +kernel
theorem dX1_init_56 : decode cX1_init 56 = .ok (.putfield 31, 3) := by decide +kernel
theorem dX1_init_59 : decode cX1_init 59 = .ok (.aload_n 0, 1) := by decide +kernel
theorem dX1_init_60 : decode cX1_init 60 = .ok (.iload_n 1, 1) := by decide +kernel
theorem dX1_init_61 : decode cX1_init 61 = .ok (.iconst 3, 1) := by decide +kernel
theorem dX1_init_62 : decode cX1_init 62 = .ok (.isub, 1) := by decide +kernel
theorem dX1_init_63 : decode cX1_init 63 = .ok (.iconst 4, 1) := by decide +kernel
theorem dX1_init_64 : decode cX1_init 64 = .ok (.imul, 1) := by decide +kernel
theorem dX1_init_65 : decode cX1_init 65 = .ok (.newarray .int, 2) := by decide +kernel
theorem dX1_init_67 : decode cX1_init 67 = .ok (.putfield 34, 3) := by decide +kernel
theorem dX1_init_70 : decode cX1_init 70 = .ok (.iconst 0, 1) := by decide +kernel
theorem dX1_init_71 : decode cX1_init 71 = .ok (.istore_n 2, 1) := by decide +kernel
theorem dX1_init_72 : decode cX1_init 72 = .ok (.iload_n 2, 1) := by decide +kernel
theorem dX1_init_73 : decode cX1_init 73 = .ok (.aload_n 0, 1) := by decide +kernel
theorem dX1_init_74 : decode cX1_init 74 = .ok (.getfield 34, 3) := by decide +kernel
theorem dX1_init_77 : decode cX1_init 77 = .ok (.arraylength, 1) := by decide +kernel
theorem dX1_init_78 : decode cX1_init 78 = .ok (.if_icmp .ge 16, 3) := by decide +kernel
theorem dX1_init_81 : decode cX1_init 81 = .ok (.aload_n 0, 1) := by decide +kernel
theorem dX1_init_82 : decode cX1_init 82 = .ok (.getfield 34, 3) := by decide +kernel
theorem dX1_init_85 : decode cX1_init 85 = .ok (.iload_n 2, 1) := by decide +kernel
theorem dX1_init_86 : decode cX1_init 86 = .ok (.iconst (-1), 1) := by decide +kernel
theorem dX1_init_87 : decode cX1_init 87 = .ok (.iastore, 1) := by decide +kernel
theorem dX1_init_88 : decode cX1_init 88 = .ok (.iinc 2 1, 3) := by decide +kernel
theorem dX1_init_91 : decode cX1_init 91 = .ok (.goto (-19), 3) := by decide +kernel
theorem dX1_init_94 : decode cX1_init 94 = .ok (.return_, 1) := by decide +kernel
theorem dX1_isBlock_0 : decode cX1_isBlock 0 = .ok (.iload_n 1, 1) := by decide +kernel
theorem dX1_isBlock_1 : decode cX1_isBlock 1 = .ok (.ifCond .lt 15, 3) := by decide +kernel
theorem dX1_isBlock_4 : decode cX1_isBlock 4 = .ok (.iload_n 1, 1) := by decide +kernel
theorem dX1_isBlock_5 : decode cX1_isBlock 5 = .ok (.aload_n 0, 1) := by decide +kernel
theorem dX1_isBlock_6 : decode cX1_isBlock 6 = .ok (.getfield 9, 3) := by decide +kernel
theorem dX1_isBlock_9 : decode cX1_isBlock 9 = .ok (.if_icmp .ge 7, 3) := by decide +kernel
theorem dX1_isBlock_12 : decode cX1_isBlock 12 = .ok (.iconst 1, 1) := by decide +kernel
theorem dX1_isBlock_13 : decode cX1_isBlock 13 = .ok (.goto 4, 3) := by decide +kernel
theorem dX1_isBlock_16 : decode cX1_isBlock 16 = .ok (.iconst 0, 1) := by decide +kernel
theorem dX1_isBlock_17 : decode cX1_isBlock 17 = .ok (.ireturn, 1) := by decide +kernel
theorem dX1_isProgrammed_0 : decode cX1_isProgrammed 0 = .ok (.iload_n 1, 1) := by decide +kernel
theorem dX1_isProgrammed_1 : decode cX1_isProgrammed 1 = .ok (.ifCond .lt 25, 3) := by decide +kernel
theorem dX1_isProgrammed_4 : decode cX1_isProgrammed 4 = .ok (.iload_n 1, 1) := by decide +kernel
theorem dX1_isProgrammed_5 : decode cX1_isProgrammed 5 = .ok (.aload_n 0, 1) := by decide +kernel
theorem dX1_isProgrammed_6 : decode cX1_isProgrammed 6 = .ok (.getfield 22, 3) := by decide +kernel
theorem dX1_isProgrammed_9 : decode cX1_isProgrammed 9 = .ok (.arraylength, 1) := by decide +kernel
theorem dX1_isProgrammed_10 : decode cX1_isProgrammed 10 = .ok (.if_icmp .ge 16, 3) := by decide +kernel
theorem dX1_isProgrammed_13 : decode cX1_isProgrammed 13 = .ok (.aload_n 0, 1) := by decide +kernel
theorem dX1_isProgrammed_14 : decode cX1_isProgrammed 14 = .ok (.getfield 22, 3) := by decide +kernel
theorem dX1_isProgrammed_17 : decode cX1_isProgrammed 17 = .ok (.iload_n 1, 1) := by decide +kernel
theorem dX1_isProgrammed_18 : decode cX1_isProgrammed 18 = .ok (.iaload, 1) := by decide +kernel
theorem dX1_isProgrammed_19 : decode cX1_isProgrammed 19 = .ok (.ifCond .eq 7, 3) := by decide +kernel
theorem dX1_isProgrammed_22 : decode cX1_isProgrammed 22 = .ok (.iconst 1, 1) := by decide +kernel
theorem dX1_isProgrammed_23 : decode cX1_isProgrammed 23 = .ok (.goto 4, 3) := by decide +kernel
theorem dX1_isProgrammed_26 : decode cX1_isProgrammed 26 = .ok (.iconst 0, 1) := by decide +kernel
theorem dX1_isProgrammed_27 : decode cX1_isProgrammed 27 = .ok (.ireturn, 1) := by decide +kernel
theorem dX1_isValid_0 : decode cX1_isValid 0 = .ok (.aload_n 0, 1) := by decide +kernel
theorem dX1_isValid_1 : decode cX1_isValid 1 = .ok (.getfield 22, 3) := by decide +kernel
theorem dX1_isValid_4 : decode cX1_isValid 4 = .ok (.iload_n 1, 1) := by decide +kernel
theorem dX1_isValid_5 : decode cX1_isValid 5 = .ok (.iaload, 1) := by decide +kernel
theorem dX1_isValid_6 : decode cX1_isValid 6 = .ok (.ifCond .eq 22, 3) := by decide +kernel
theorem dX1_isValid_9 : decode cX1_isValid 9 = .ok (.aload_n 0, 1) := by decide +kernel
theorem dX1_isValid_10 : decode cX1_isValid 10 = .ok (.getfield 34, 3) := by decide +kernel
theorem dX1_isValid_13 : decode cX1_isValid 13 = .ok (.aload_n 0, 1) := by decide +kernel
theorem dX1_isValid_14 : decode cX1_isValid 14 = .ok (.getfield 15, 3) := by decide +kernel
theorem dX1_isValid_17 : decode cX1_isValid 17 = .ok (.iload_n 1, 1) := by decide +kernel
theorem dX1_isValid_18 : decode cX1_isValid 18 = .ok (.iaload, 1) := by decide +kernel
theorem dX1_isValid_19 : decode cX1_isValid 19 = .ok (.iaload, 1) := by decide +kernel
theorem dX1_isValid_20 : decode cX1_isValid 20 = .ok (.iload_n 1, 1) := by decide +kernel
theorem dX1_isValid_21 : decode cX1_isValid 21 = .ok (.if_icmp .ne 7, 3) := by decide +kernel
theorem dX1_isValid_24 : decode cX1_isValid 24 = .ok (.iconst 1, 1) := by decide +kernel
theorem dX1_isValid_25 : decode cX1_isValid 25 = .ok (.goto 4, 3) := by decide +kernel
theorem dX1_isValid_28 : decode cX1_isValid 28 = .ok (.iconst 0, 1) := by decide +kernel
theorem dX1_isValid_29 : decode cX1_isValid 29 = .ok (.ireturn, 1) := by decide +kernel
theorem dX1_hasRoom_0 : decode cX1_hasRoom 0 = .ok (.iload_n 1, 1) := by decide +kernel
theorem dX1_hasRoom_1 : decode cX1_hasRoom 1 = .ok (.ifCond .lt 25, 3) := by decide +kernel
theorem dX1_hasRoom_4 : decode cX1_hasRoom 4 = .ok (.iload_n 1, 1) := by decide +kernel
theorem dX1_hasRoom_5 : decode cX1_hasRoom 5 = .ok (.aload_n 0, 1) := by decide +kernel
theorem dX1_hasRoom_6 : decode cX1_hasRoom 6 = .ok (.getfield 9, 3) := by decide +kernel
theorem dX1_hasRoom_9 : decode cX1_hasRoom 9 = .ok (.if_icmp .ge 17, 3) := by decide +kernel
theorem dX1_hasRoom_12 : decode cX1_hasRoom 12 = .ok (.aload_n 0, 1) := by decide +kernel
theorem dX1_hasRoom_13 : decode cX1_hasRoom 13 = .ok (.getfield 28, 3) := by decide +kernel
theorem dX1_hasRoom_16 : decode cX1_hasRoom 16 = .ok (.iload_n 1, 1) := by decide +kernel
theorem dX1_hasRoom_17 : decode cX1_hasRoom 17 = .ok (.iaload, 1) := by decide +kernel
theorem dX1_hasRoom_18 : decode cX1_hasRoom 18 = .ok (.iconst 4, 1) := by decide +kernel
theorem dX1_hasRoom_19 : decode cX1_hasRoom 19 = .ok (.if_icmp .ge 7, 3) := by decide +kernel
theorem dX1_hasRoom_22 : decode cX1_hasRoom 22 = .ok (.iconst 1, 1) := by decide +kernel
theorem dX1_hasRoom_23 : decode cX1_hasRoom 23 = .ok (.goto 4, 3) := by decide +kernel
theorem dX1_hasRoom_26 : decode cX1_hasRoom 26 = .ok (.iconst 0, 1) := by decide +kernel
theorem dX1_hasRoom_27 : decode cX1_hasRoom 27 = .ok (.ireturn, 1) := by decide +kernel
set_option maxRecDepth 20000 in
theorem ggX1_countValid_X1_isValid : GoodIn wsX1_countValid wsX1_isValid := goodIn_r _ [5, 6, 7, 8, 9, 10, 11, 12, 13, 14, 15, 16, 17, 18, 19] (by decide +kernel) (by decide +kernel)
set_option maxRecDepth 20000 in
theorem gX1_countValid_X1_isValid : GoodIn wsX1_countValid (wsV RX1 37 RX1 yX1_isValid wsX1_isValid) := goodIn_app (goodIn_of _ (by decide +kernel)) ggX1_countValid_X1_isValid
theorem dX1_countValid_0 : decode cX1_countValid 0 = .ok (.iconst 0, 1) := by decide +kernel
theorem dX1_countValid_1 : decode cX1_countValid 1 = .ok (.istore_n 2, 1) := by decide +kernel
theorem dX1_countValid_2 : decode cX1_countValid 2 = .ok (.iconst 0, 1) := by decide +kernel
theorem dX1_countValid_3 : decode cX1_countValid 3 = .ok (.istore_n 3, 1) := by decide +kernel
theorem dX1_countValid_4 : decode cX1_countValid 4 = .ok (.iload_n 3, 1) := by decide +kernel
theorem dX1_countValid_5 : decode cX1_countValid 5 = .ok (.iconst 4, 1) := by decide +kernel
theorem dX1_countValid_6 : decode cX1_countValid 6 = .ok (.if_icmp .ge 24, 3) := by decide +kernel
theorem dX1_countValid_9 : decode cX1_countValid 9 = .ok (.aload_n 0, 1) := by decide +kernel
theorem dX1_countValid_10 : decode cX1_countValid 10 = .ok (.iload_n 1, 1) := by decide +kernel
theorem dX1_countValid_11 : decode cX1_countValid 11 = .ok (.iconst 4, 1) := by decide +kernel
theorem dX1_countValid_12 : decode cX1_countValid 12 = .ok (.imul, 1) := by decide +kernel
theorem dX1_countValid_13 : decode cX1_countValid 13 = .ok (.iload_n 3, 1) := by decide +kernel
theorem dX1_countValid_14 : decode cX1_countValid 14 = .ok (.iadd, 1) := by decide +kernel
theorem dX1_countValid_15 : decode cX1_countValid 15 = .ok (.invokevirtual 37, 3) := by decide +kernel
theorem dX1_countValid_18 : decode cX1_countValid 18 = .ok (.ifCond .eq 6, 3) := by decide +kernel
theorem dX1_countValid_21 : decode cX1_countValid 21 = .ok (.iinc 2 1, 3) := by decide +kernel
theorem dX1_countValid_24 : decode cX1_countValid 24 = .ok (.iinc 3 1, 3) := by decide +kernel
theorem dX1_countValid_27 : decode cX1_countValid 27 = .ok (.goto (-23), 3) := by decide +kernel
theorem dX1_countValid_30 : decode cX1_countValid 30 = .ok (.iload_n 2, 1) := by decide +kernel
theorem dX1_countValid_31 : decode cX1_countValid 31 = .ok (.ireturn, 1) := by decide +kernel
theorem dX1_countFree_0 : decode cX1_countFree 0 = .ok (.iconst 0, 1) := by decide +kernel
theorem dX1_countFree_1 : decode cX1_countFree 1 = .ok (.istore_n 1, 1) := by decide +kernel
theorem dX1_countFree_2 : decode cX1_countFree 2 = .ok (.iconst 0, 1) := by decide +kernel
theorem dX1_countFree_3 : decode cX1_countFree 3 = .ok (.istore_n 2, 1) := by decide +kernel
theorem dX1_countFree_4 : decode cX1_countFree 4 = .ok (.iload_n 2, 1) := by decide +kernel
theorem dX1_countFree_5 : decode cX1_countFree 5 = .ok (.aload_n 0, 1) := by decide +kernel
theorem dX1_countFree_6 : decode cX1_countFree 6 = .ok (.getfield 9, 3) := by decide +kernel
theorem dX1_countFree_9 : decode cX1_countFree 9 = .ok (.if_icmp .ge 21, 3) := by decide +kernel
theorem dX1_countFree_12 : decode cX1_countFree 12 = .ok (.aload_n 0, 1) := by decide +kernel
theorem dX1_countFree_13 : decode cX1_countFree 13 = .ok (.getfield 28, 3) := by decide +kernel
theorem dX1_countFree_16 : decode cX1_countFree 16 = .ok (.iload_n 2, 1) := by decide +kernel
theorem dX1_countFree_17 : decode cX1_countFree 17 = .ok (.iaload, 1) := by decide +kernel
theorem dX1_countFree_18 : decode cX1_countFree 18 = .ok (.ifCond .ne 6, 3) := by decide +kernel
theorem dX1_countFree_21 : decode cX1_countFree 21 = .ok (.iinc 1 1, 3) := by decide +kernel
theorem dX1_countFree_24 : decode cX1_countFree 24 = .ok (.iinc 2 1, 3) := by decide +kernel
theorem dX1_countFree_27 : decode cX1_countFree 27 = .ok (.goto (-23), 3) := by decide +kernel
theorem dX1_countFree_30 : decode cX1_countFree 30 = .ok (.iload_n 1, 1) := by decide +kernel
theorem dX1_countFree_31 : decode cX1_countFree 31 = .ok (.ireturn, 1) := by decide +kernel
theorem dX1_leastWornFree_0 : decode cX1_leastWornFree 0 = .ok (.iconst (-1), 1) := by decide +kernel
theorem dX1_leastWornFree_1 : decode cX1_leastWornFree 1 = .ok (.istore_n 1, 1) := by decide +kernel
theorem dX1_leastWornFree_2 : decode cX1_leastWornFree 2 = .ok (.iconst 0, 1) := by decide +kernel
theorem dX1_leastWornFree_3 : decode cX1_leastWornFree 3 = .ok (.istore_n 2, 1) := by decide +kernel
theorem dX1_leastWornFree_4 : decode cX1_leastWornFree 4 = .ok (.iload_n 2, 1) := by decide +kernel
theorem dX1_leastWornFree_5 : decode cX1_leastWornFree 5 = .ok (.aload_n 0, 1) := by decide +kernel
theorem dX1_leastWornFree_6 : decode cX1_leastWornFree 6 = .ok (.getfield 9, 3) := by decide +kernel
theorem dX1_leastWornFree_9 : decode cX1_leastWornFree 9 = .ok (.if_icmp .ge 40, 3) := by decide +kernel
theorem dX1_leastWornFree_12 : decode cX1_leastWornFree 12 = .ok (.aload_n 0, 1) := by decide +kernel
theorem dX1_leastWornFree_13 : decode cX1_leastWornFree 13 = .ok (.getfield 28, 3) := by decide +kernel
theorem dX1_leastWornFree_16 : decode cX1_leastWornFree 16 = .ok (.iload_n 2, 1) := by decide +kernel
theorem dX1_leastWornFree_17 : decode cX1_leastWornFree 17 = .ok (.iaload, 1) := by decide +kernel
theorem dX1_leastWornFree_18 : decode cX1_leastWornFree 18 = .ok (.ifCond .ne 25, 3) := by decide +kernel
theorem dX1_leastWornFree_21 : decode cX1_leastWornFree 21 = .ok (.iload_n 1, 1) := by decide +kernel
theorem dX1_leastWornFree_22 : decode cX1_leastWornFree 22 = .ok (.iconst (-1), 1) := by decide +kernel
theorem dX1_leastWornFree_23 : decode cX1_leastWornFree 23 = .ok (.if_icmp .eq 18, 3) := by decide +kernel
theorem dX1_leastWornFree_26 : decode cX1_leastWornFree 26 = .ok (.aload_n 0, 1) := by decide +kernel
theorem dX1_leastWornFree_27 : decode cX1_leastWornFree 27 = .ok (.getfield 31, 3) := by decide +kernel
theorem dX1_leastWornFree_30 : decode cX1_leastWornFree 30 = .ok (.iload_n 2, 1) := by decide +kernel
theorem dX1_leastWornFree_31 : decode cX1_leastWornFree 31 = .ok (.iaload, 1) := by decide +kernel
theorem dX1_leastWornFree_32 : decode cX1_leastWornFree 32 = .ok (.aload_n 0, 1) := by decide +kernel
theorem dX1_leastWornFree_33 : decode cX1_leastWornFree 33 = .ok (.getfield 31, 3) := by decide +kernel
theorem dX1_leastWornFree_36 : decode cX1_leastWornFree 36 = .ok (.iload_n 1, 1) := by decide +kernel
theorem dX1_leastWornFree_37 : decode cX1_leastWornFree 37 = .ok (.iaload, 1) := by decide +kernel
theorem dX1_leastWornFree_38 : decode cX1_leastWornFree 38 = .ok (.if_icmp .ge 5, 3) := by decide +kernel
theorem dX1_leastWornFree_41 : decode cX1_leastWornFree 41 = .ok (.iload_n 2, 1) := by decide +kernel
theorem dX1_leastWornFree_42 : decode cX1_leastWornFree 42 = .ok (.istore_n 1, 1) := by decide +kernel
theorem dX1_leastWornFree_43 : decode cX1_leastWornFree 43 = .ok (.iinc 2 1, 3) := by decide +kernel
theorem dX1_leastWornFree_46 : decode cX1_leastWornFree 46 = .ok (.goto (-42), 3) := by decide +kernel
theorem dX1_leastWornFree_49 : decode cX1_leastWornFree 49 = .ok (.iload_n 1, 1) := by decide +kernel
theorem dX1_leastWornFree_50 : decode cX1_leastWornFree 50 = .ok (.ireturn, 1) := by decide +kernel
theorem dX1_partlyProgrammed_0 : decode cX1_partlyProgrammed 0 = .ok (.iconst 0, 1) := by decide +kernel
theorem dX1_partlyProgrammed_1 : decode cX1_partlyProgrammed 1 = .ok (.istore_n 1, 1) := by decide +kernel
theorem dX1_partlyProgrammed_2 : decode cX1_partlyProgrammed 2 = .ok (.iload_n 1, 1) := by decide +kernel
theorem dX1_partlyProgrammed_3 : decode cX1_partlyProgrammed 3 = .ok (.aload_n 0, 1) := by decide +kernel
theorem dX1_partlyProgrammed_4 : decode cX1_partlyProgrammed 4 = .ok (.getfield 9, 3) := by decide +kernel
theorem dX1_partlyProgrammed_7 : decode cX1_partlyProgrammed 7 = .ok (.if_icmp .ge 30, 3) := by decide +kernel
theorem dX1_partlyProgrammed_10 : decode cX1_partlyProgrammed 10 = .ok (.aload_n 0, 1) := by decide +kernel
theorem dX1_partlyProgrammed_11 : decode cX1_partlyProgrammed 11 = .ok (.getfield 28, 3) := by decide +kernel
theorem dX1_partlyProgrammed_14 : decode cX1_partlyProgrammed 14 = .ok (.iload_n 1, 1) := by decide +kernel
theorem dX1_partlyProgrammed_15 : decode cX1_partlyProgrammed 15 = .ok (.iaload, 1) := by decide +kernel
theorem dX1_partlyProgrammed_16 : decode cX1_partlyProgrammed 16 = .ok (.ifCond .le 15, 3) := by decide +kernel
theorem dX1_partlyProgrammed_19 : decode cX1_partlyProgrammed 19 = .ok (.aload_n 0, 1) := by decide +kernel
theorem dX1_partlyProgrammed_20 : decode cX1_partlyProgrammed 20 = .ok (.getfield 28, 3) := by decide +kernel
theorem dX1_partlyProgrammed_23 : decode cX1_partlyProgrammed 23 = .ok (.iload_n 1, 1) := by decide +kernel
theorem dX1_partlyProgrammed_24 : decode cX1_partlyProgrammed 24 = .ok (.iaload, 1) := by decide +kernel
theorem dX1_partlyProgrammed_25 : decode cX1_partlyProgrammed 25 = .ok (.iconst 4, 1) := by decide +kernel
theorem dX1_partlyProgrammed_26 : decode cX1_partlyProgrammed 26 = .ok (.if_icmp .ge 5, 3) := by decide +kernel
theorem dX1_partlyProgrammed_29 : decode cX1_partlyProgrammed 29 = .ok (.iload_n 1, 1) := by decide +kernel
theorem dX1_partlyProgrammed_30 : decode cX1_partlyProgrammed 30 = .ok (.ireturn, 1) := by decide +kernel
theorem dX1_partlyProgrammed_31 : decode cX1_partlyProgrammed 31 = .ok (.iinc 1 1, 3) := by decide +kernel
theorem dX1_partlyProgrammed_34 : decode cX1_partlyProgrammed 34 = .ok (.goto (-32), 3) := by decide +kernel
theorem dX1_partlyProgrammed_37 : decode cX1_partlyProgrammed 37 = .ok (.iconst (-1), 1) := by decide +kernel
theorem dX1_partlyProgrammed_38 : decode cX1_partlyProgrammed 38 = .ok (.ireturn, 1) := by decide +kernel
theorem dX1_wearGap_0 : decode cX1_wearGap 0 = .ok (.aload_n 0, 1) := by decide +kernel
theorem dX1_wearGap_1 : decode cX1_wearGap 1 = .ok (.getfield 31, 3) := by decide +kernel
theorem dX1_wearGap_4 : decode cX1_wearGap 4 = .ok (.iconst 0, 1) := by decide +kernel
theorem dX1_wearGap_5 : decode cX1_wearGap 5 = .ok (.iaload, 1) := by decide +kernel
theorem dX1_wearGap_6 : decode cX1_wearGap 6 = .ok (.istore_n 1, 1) := by decide +kernel
theorem dX1_wearGap_7 : decode cX1_wearGap 7 = .ok (.aload_n 0, 1) := by decide +kernel
theorem dX1_wearGap_8 : decode cX1_wearGap 8 = .ok (.getfield 31, 3) := by decide +kernel
theorem dX1_wearGap_11 : decode cX1_wearGap 11 = .ok (.iconst 0, 1) := by decide +kernel
theorem dX1_wearGap_12 : decode cX1_wearGap 12 = .ok (.iaload, 1) := by decide +kernel
theorem dX1_wearGap_13 : decode cX1_wearGap 13 = .ok (.istore_n 2, 1) := by decide +kernel
theorem dX1_wearGap_14 : decode cX1_wearGap 14 = .ok (.iconst 1, 1) := by decide +kernel
theorem dX1_wearGap_15 : decode cX1_wearGap 15 = .ok (.istore_n 3, 1) := by decide +kernel
theorem dX1_wearGap_16 : decode cX1_wearGap 16 = .ok (.iload_n 3, 1) := by decide +kernel
theorem dX1_wearGap_17 : decode cX1_wearGap 17 = .ok (.aload_n 0, 1) := by decide +kernel
theorem dX1_wearGap_18 : decode cX1_wearGap 18 = .ok (.getfield 9, 3) := by decide +kernel
theorem dX1_wearGap_21 : decode cX1_wearGap 21 = .ok (.if_icmp .ge 31, 3) := by decide +kernel
theorem dX1_wearGap_24 : decode cX1_wearGap 24 = .ok (.iload_n 1, 1) := by decide +kernel
theorem dX1_wearGap_25 : decode cX1_wearGap 25 = .ok (.aload_n 0, 1) := by decide +kernel
theorem dX1_wearGap_26 : decode cX1_wearGap 26 = .ok (.getfield 31, 3) := by decide +kernel
theorem dX1_wearGap_29 : decode cX1_wearGap 29 = .ok (.iload_n 3, 1) := by decide +kernel
theorem dX1_wearGap_30 : decode cX1_wearGap 30 = .ok (.iaload, 1) := by decide +kernel
theorem dX1_wearGap_31 : decode cX1_wearGap 31 = .ok (.invokestatic 41, 3) := by decide +kernel
theorem dX1_wearGap_34 : decode cX1_wearGap 34 = .ok (.istore_n 1, 1) := by decide +kernel
theorem dX1_wearGap_35 : decode cX1_wearGap 35 = .ok (.iload_n 2, 1) := by decide +kernel
theorem dX1_wearGap_36 : decode cX1_wearGap 36 = .ok (.aload_n 0, 1) := by decide +kernel
theorem dX1_wearGap_37 : decode cX1_wearGap 37 = .ok (.getfield 31, 3) := by decide +kernel
theorem dX1_wearGap_40 : decode cX1_wearGap 40 = .ok (.iload_n 3, 1) := by decide +kernel
theorem dX1_wearGap_41 : decode cX1_wearGap 41 = .ok (.iaload, 1) := by decide +kernel
theorem dX1_wearGap_42 : decode cX1_wearGap 42 = .ok (.invokestatic 47, 3) := by decide +kernel
theorem dX1_wearGap_45 : decode cX1_wearGap 45 = .ok (.istore_n 2, 1) := by decide +kernel
theorem dX1_wearGap_46 : decode cX1_wearGap 46 = .ok (.iinc 3 1, 3) := by decide +kernel
theorem dX1_wearGap_49 : decode cX1_wearGap 49 = .ok (.goto (-33), 3) := by decide +kernel
theorem dX1_wearGap_52 : decode cX1_wearGap 52 = .ok (.iload_n 2, 1) := by decide +kernel
theorem dX1_wearGap_53 : decode cX1_wearGap 53 = .ok (.iload_n 1, 1) := by decide +kernel
theorem dX1_wearGap_54 : decode cX1_wearGap 54 = .ok (.isub, 1) := by decide +kernel
theorem dX1_wearGap_55 : decode cX1_wearGap 55 = .ok (.ireturn, 1) := by decide +kernel
set_option maxRecDepth 20000 in
theorem ggX1_victim_X1_countValid : GoodIn wsX1_victim wsX1_countValid := goodIn_r _ [8, 9, 10, 11, 7, 12, 13, 14, 15, 16, 17, 18, 19, 20, 21, 22, 23, 24, 25, 26] (by decide +kernel) (by decide +kernel)
set_option maxRecDepth 20000 in
theorem gX1_victim_X1_countValid : GoodIn wsX1_victim (wsV RX1 50 RX1 yX1_countValid wsX1_countValid) := goodIn_app (goodIn_of _ (by decide +kernel)) ggX1_victim_X1_countValid
theorem dX1_victim_0 : decode cX1_victim 0 = .ok (.iconst (-1), 1) := by decide +kernel
theorem dX1_victim_1 : decode cX1_victim 1 = .ok (.istore_n 2, 1) := by decide +kernel
theorem dX1_victim_2 : decode cX1_victim 2 = .ok (.iconst 0, 1) := by decide +kernel
theorem dX1_victim_3 : decode cX1_victim 3 = .ok (.istore_n 3, 1) := by decide +kernel
theorem dX1_victim_4 : decode cX1_victim 4 = .ok (.iconst 0, 1) := by decide +kernel
theorem dX1_victim_5 : decode cX1_victim 5 = .ok (.istore 4, 2) := by decide +kernel
theorem dX1_victim_7 : decode cX1_victim 7 = .ok (.iload 4, 2) := by decide +kernel
theorem dX1_victim_9 : decode cX1_victim 9 = .ok (.aload_n 0, 1) := by decide +kernel
theorem dX1_victim_10 : decode cX1_victim 10 = .ok (.getfield 9, 3) := by decide +kernel
theorem dX1_victim_13 : decode cX1_victim 13 = .ok (.if_icmp .ge 107, 3) := by decide +kernel
theorem dX1_victim_16 : decode cX1_victim 16 = .ok (.aload_n 0, 1) := by decide +kernel
theorem dX1_victim_17 : decode cX1_victim 17 = .ok (.getfield 28, 3) := by decide +kernel
theorem dX1_victim_20 : decode cX1_victim 20 = .ok (.iload 4, 2) := by decide +kernel
theorem dX1_victim_22 : decode cX1_victim 22 = .ok (.iaload, 1) := by decide +kernel
theorem dX1_victim_23 : decode cX1_victim 23 = .ok (.iconst 4, 1) := by decide +kernel
theorem dX1_victim_24 : decode cX1_victim 24 = .ok (.if_icmp .ge 6, 3) := by decide +kernel
theorem dX1_victim_27 : decode cX1_victim 27 = .ok (.goto 87, 3) := by decide +kernel
theorem dX1_victim_30 : decode cX1_victim 30 = .ok (.iload_n 1, 1) := by decide +kernel
theorem dX1_victim_31 : decode cX1_victim 31 = .ok (.ifCond .eq 7, 3) := by decide +kernel
theorem dX1_victim_34 : decode cX1_victim 34 = .ok (.iconst 0, 1) := by decide +kernel
theorem dX1_victim_35 : decode cX1_victim 35 = .ok (.goto 9, 3) := by decide +kernel
theorem dX1_victim_38 : decode cX1_victim 38 = .ok (.aload_n 0, 1) := by decide +kernel
theorem dX1_victim_39 : decode cX1_victim 39 = .ok (.iload 4, 2) := by decide +kernel
theorem dX1_victim_41 : decode cX1_victim 41 = .ok (.invokevirtual 50, 3) := by decide +kernel
theorem dX1_victim_44 : decode cX1_victim 44 = .ok (.istore 5, 2) := by decide +kernel
theorem dX1_victim_46 : decode cX1_victim 46 = .ok (.iload 5, 2) := by decide +kernel
theorem dX1_victim_48 : decode cX1_victim 48 = .ok (.iload_n 3, 1) := by decide +kernel
theorem dX1_victim_49 : decode cX1_victim 49 = .ok (.if_icmp .ge 7, 3) := by decide +kernel
theorem dX1_victim_52 : decode cX1_victim 52 = .ok (.iconst 1, 1) := by decide +kernel
theorem dX1_victim_53 : decode cX1_victim 53 = .ok (.goto 4, 3) := by decide +kernel
theorem dX1_victim_56 : decode cX1_victim 56 = .ok (.iconst 0, 1) := by decide +kernel
theorem dX1_victim_57 : decode cX1_victim 57 = .ok (.istore 6, 2) := by decide +kernel
theorem dX1_victim_59 : decode cX1_victim 59 = .ok (.iload_n 2, 1) := by decide +kernel
theorem dX1_victim_60 : decode cX1_victim 60 = .ok (.iconst (-1), 1) := by decide +kernel
theorem dX1_victim_61 : decode cX1_victim 61 = .ok (.if_icmp .eq 29, 3) := by decide +kernel
theorem dX1_victim_64 : decode cX1_victim 64 = .ok (.iload 5, 2) := by decide +kernel
theorem dX1_victim_66 : decode cX1_victim 66 = .ok (.iload_n 3, 1) := by decide +kernel
theorem dX1_victim_67 : decode cX1_victim 67 = .ok (.if_icmp .ne 23, 3) := by decide +kernel
theorem dX1_victim_70 : decode cX1_victim 70 = .ok (.aload_n 0, 1) := by decide +kernel
theorem dX1_victim_71 : decode cX1_victim 71 = .ok (.getfield 31, 3) := by decide +kernel
theorem dX1_victim_74 : decode cX1_victim 74 = .ok (.iload 4, 2) := by decide +kernel
theorem dX1_victim_76 : decode cX1_victim 76 = .ok (.iaload, 1) := by decide +kernel
theorem dX1_victim_77 : decode cX1_victim 77 = .ok (.aload_n 0, 1) := by decide +kernel
theorem dX1_victim_78 : decode cX1_victim 78 = .ok (.getfield 31, 3) := by decide +kernel
theorem dX1_victim_81 : decode cX1_victim 81 = .ok (.iload_n 2, 1) := by decide +kernel
theorem dX1_victim_82 : decode cX1_victim 82 = .ok (.iaload, 1) := by decide +kernel
theorem dX1_victim_83 : decode cX1_victim 83 = .ok (.if_icmp .ge 7, 3) := by decide +kernel
theorem dX1_victim_86 : decode cX1_victim 86 = .ok (.iconst 1, 1) := by decide +kernel
theorem dX1_victim_87 : decode cX1_victim 87 = .ok (.goto 4, 3) := by decide +kernel
theorem dX1_victim_90 : decode cX1_victim 90 = .ok (.iconst 0, 1) := by decide +kernel
theorem dX1_victim_91 : decode cX1_victim 91 = .ok (.istore 7, 2) := by decide +kernel
theorem dX1_victim_93 : decode cX1_victim 93 = .ok (.iload_n 2, 1) := by decide +kernel
theorem dX1_victim_94 : decode cX1_victim 94 = .ok (.iconst (-1), 1) := by decide +kernel
theorem dX1_victim_95 : decode cX1_victim 95 = .ok (.if_icmp .eq 13, 3) := by decide +kernel
theorem dX1_victim_98 : decode cX1_victim 98 = .ok (.iload 6, 2) := by decide +kernel
theorem dX1_victim_100 : decode cX1_victim 100 = .ok (.ifCond .ne 8, 3) := by decide +kernel
theorem dX1_victim_103 : decode cX1_victim 103 = .ok (.iload 7, 2) := by decide +kernel
theorem dX1_victim_105 : decode cX1_victim 105 = .ok (.ifCond .eq 9, 3) := by decide +kernel
theorem dX1_victim_108 : decode cX1_victim 108 = .ok (.iload 4, 2) := by decide +kernel
theorem dX1_victim_110 : decode cX1_victim 110 = .ok (.istore_n 2, 1) := by decide +kernel
theorem dX1_victim_111 : decode cX1_victim 111 = .ok (.iload 5, 2) := by decide +kernel
theorem dX1_victim_113 : decode cX1_victim 113 = .ok (.istore_n 3, 1) := by decide +kernel
theorem dX1_victim_114 : decode cX1_victim 114 = .ok (.iinc 4 1, 3) := by decide +kernel
theorem dX1_victim_117 : decode cX1_victim 117 = .ok (.goto (-110), 3) := by decide +kernel
theorem dX1_victim_120 : decode cX1_victim 120 = .ok (.iload_n 2, 1) := by decide +kernel
theorem dX1_victim_121 : decode cX1_victim 121 = .ok (.ireturn, 1) := by decide +kernel
theorem dX1_greatestSerial_0 : decode cX1_greatestSerial 0 = .ok (.iconst (-1), 1) := by decide +kernel
theorem dX1_greatestSerial_1 : decode cX1_greatestSerial 1 = .ok (.istore_n 1, 1) := by decide +kernel
theorem dX1_greatestSerial_2 : decode cX1_greatestSerial 2 = .ok (.iconst 0, 1) := by decide +kernel
theorem dX1_greatestSerial_3 : decode cX1_greatestSerial 3 = .ok (.istore_n 2, 1) := by decide +kernel
theorem dX1_greatestSerial_4 : decode cX1_greatestSerial 4 = .ok (.iload_n 2, 1) := by decide +kernel
theorem dX1_greatestSerial_5 : decode cX1_greatestSerial 5 = .ok (.aload_n 0, 1) := by decide +kernel
theorem dX1_greatestSerial_6 : decode cX1_greatestSerial 6 = .ok (.getfield 25, 3) := by decide +kernel
theorem dX1_greatestSerial_9 : decode cX1_greatestSerial 9 = .ok (.arraylength, 1) := by decide +kernel
theorem dX1_greatestSerial_10 : decode cX1_greatestSerial 10 = .ok (.if_icmp .ge 29, 3) := by decide +kernel
theorem dX1_greatestSerial_13 : decode cX1_greatestSerial 13 = .ok (.aload_n 0, 1) := by decide +kernel
theorem dX1_greatestSerial_14 : decode cX1_greatestSerial 14 = .ok (.getfield 22, 3) := by decide +kernel
theorem dX1_greatestSerial_17 : decode cX1_greatestSerial 17 = .ok (.iload_n 2, 1) := by decide +kernel
theorem dX1_greatestSerial_18 : decode cX1_greatestSerial 18 = .ok (.iaload, 1) := by decide +kernel
theorem dX1_greatestSerial_19 : decode cX1_greatestSerial 19 = .ok (.ifCond .eq 14, 3) := by decide +kernel
theorem dX1_greatestSerial_22 : decode cX1_greatestSerial 22 = .ok (.iload_n 1, 1) := by decide +kernel
theorem dX1_greatestSerial_23 : decode cX1_greatestSerial 23 = .ok (.aload_n 0, 1) := by decide +kernel
theorem dX1_greatestSerial_24 : decode cX1_greatestSerial 24 = .ok (.getfield 25, 3) := by decide +kernel
theorem dX1_greatestSerial_27 : decode cX1_greatestSerial 27 = .ok (.iload_n 2, 1) := by decide +kernel
theorem dX1_greatestSerial_28 : decode cX1_greatestSerial 28 = .ok (.iaload, 1) := by decide +kernel
theorem dX1_greatestSerial_29 : decode cX1_greatestSerial 29 = .ok (.invokestatic 47, 3) := by decide +kernel
theorem dX1_greatestSerial_32 : decode cX1_greatestSerial 32 = .ok (.istore_n 1, 1) := by decide +kernel
theorem dX1_greatestSerial_33 : decode cX1_greatestSerial 33 = .ok (.iinc 2 1, 3) := by decide +kernel
theorem dX1_greatestSerial_36 : decode cX1_greatestSerial 36 = .ok (.goto (-32), 3) := by decide +kernel
theorem dX1_greatestSerial_39 : decode cX1_greatestSerial 39 = .ok (.iload_n 1, 1) := by decide +kernel
theorem dX1_greatestSerial_40 : decode cX1_greatestSerial 40 = .ok (.ireturn, 1) := by decide +kernel
set_option maxRecDepth 20000 in
theorem ggX1_program_X1_hasRoom : GoodIn wsX1_program wsX1_hasRoom := goodIn_r _ [12, 13, 1, 20, 21, 22, 23, 24, 25, 26, 27, 28, 29, 30] (by decide +kernel) (by decide +kernel)
set_option maxRecDepth 20000 in
theorem gX1_program_X1_hasRoom : GoodIn wsX1_program (wsV RX1 54 RX1 yX1_hasRoom wsX1_hasRoom) := goodIn_app (goodIn_of _ (by decide +kernel)) ggX1_program_X1_hasRoom
set_option maxRecDepth 20000 in
theorem ggX1_program_X1_beginOperation : GoodIn wsX1_program wsX1_beginOperation := goodIn_r _ [17, 18, 19, 20, 21, 22, 23, 24, 25, 26, 27, 28, 29, 30] (by decide +kernel) (by decide +kernel)
set_option maxRecDepth 20000 in
theorem gX1_program_X1_beginOperation : GoodIn wsX1_program (wsV RX1 57 RX1 yX1_beginOperation wsX1_beginOperation) := goodIn_app (goodIn_of _ (by decide +kernel)) ggX1_program_X1_beginOperation
theorem dX1_program_0 : decode cX1_program 0 = .ok (.aload_n 0, 1) := by decide +kernel
theorem dX1_program_1 : decode cX1_program 1 = .ok (.iload_n 1, 1) := by decide +kernel
theorem dX1_program_2 : decode cX1_program 2 = .ok (.invokevirtual 54, 3) := by decide +kernel
theorem dX1_program_5 : decode cX1_program 5 = .ok (.ifCond .eq 10, 3) := by decide +kernel
theorem dX1_program_8 : decode cX1_program 8 = .ok (.aload_n 0, 1) := by decide +kernel
theorem dX1_program_9 : decode cX1_program 9 = .ok (.invokevirtual 57, 3) := by decide +kernel
theorem dX1_program_12 : decode cX1_program 12 = .ok (.ifCond .ne 5, 3) := by decide +kernel
theorem dX1_program_15 : decode cX1_program 15 = .ok (.iconst 0, 1) := by decide +kernel
theorem dX1_program_16 : decode cX1_program 16 = .ok (.ireturn, 1) := by decide +kernel
theorem dX1_program_17 : decode cX1_program 17 = .ok (.iload_n 1, 1) := by decide +kernel
theorem dX1_program_18 : decode cX1_program 18 = .ok (.iconst 4, 1) := by decide +kernel
theorem dX1_program_19 : decode cX1_program 19 = .ok (.imul, 1) := by decide +kernel
theorem dX1_program_20 : decode cX1_program 20 = .ok (.aload_n 0, 1) := by decide +kernel
theorem dX1_program_21 : decode cX1_program 21 = .ok (.getfield 28, 3) := by decide +kernel
theorem dX1_program_24 : decode cX1_program 24 = .ok (.iload_n 1, 1) := by decide +kernel
theorem dX1_program_25 : decode cX1_program 25 = .ok (.iaload, 1) := by decide +kernel
theorem dX1_program_26 : decode cX1_program 26 = .ok (.iadd, 1) := by decide +kernel
theorem dX1_program_27 : decode cX1_program 27 = .ok (.istore 5, 2) := by decide +kernel
theorem dX1_program_29 : decode cX1_program 29 = .ok (.aload_n 0, 1) := by decide +kernel
theorem dX1_program_30 : decode cX1_program 30 = .ok (.getfield 28, 3) := by decide +kernel
theorem dX1_program_33 : decode cX1_program 33 = .ok (.iload_n 1, 1) := by decide +kernel
theorem dX1_program_34 : decode cX1_program 34 = .ok (.dup2, 1) := by decide +kernel
theorem dX1_program_35 : decode cX1_program 35 = .ok (.iaload, 1) := by decide +kernel
theorem dX1_program_36 : decode cX1_program 36 = .ok (.iconst 1, 1) := by decide +kernel
theorem dX1_program_37 : decode cX1_program 37 = .ok (.iadd, 1) := by decide +kernel
theorem dX1_program_38 : decode cX1_program 38 = .ok (.iastore, 1) := by decide +kernel
theorem dX1_program_39 : decode cX1_program 39 = .ok (.aload_n 0, 1) := by decide +kernel
theorem dX1_program_40 : decode cX1_program 40 = .ok (.getfield 15, 3) := by decide +kernel
theorem dX1_program_43 : decode cX1_program 43 = .ok (.iload 5, 2) := by decide +kernel
theorem dX1_program_45 : decode cX1_program 45 = .ok (.iload_n 2, 1) := by decide +kernel
theorem dX1_program_46 : decode cX1_program 46 = .ok (.iastore, 1) := by decide +kernel
theorem dX1_program_47 : decode cX1_program 47 = .ok (.aload_n 0, 1) := by decide +kernel
theorem dX1_program_48 : decode cX1_program 48 = .ok (.getfield 19, 3) := by decide +kernel
theorem dX1_program_51 : decode cX1_program 51 = .ok (.iload 5, 2) := by decide +kernel
theorem dX1_program_53 : decode cX1_program 53 = .ok (.iload_n 3, 1) := by decide +kernel
theorem dX1_program_54 : decode cX1_program 54 = .ok (.iastore, 1) := by decide +kernel
theorem dX1_program_55 : decode cX1_program 55 = .ok (.aload_n 0, 1) := by decide +kernel
theorem dX1_program_56 : decode cX1_program 56 = .ok (.getfield 22, 3) := by decide +kernel
theorem dX1_program_59 : decode cX1_program 59 = .ok (.iload 5, 2) := by decide +kernel
theorem dX1_program_61 : decode cX1_program 61 = .ok (.iload 4, 2) := by decide +kernel
theorem dX1_program_63 : decode cX1_program 63 = .ok (.iastore, 1) := by decide +kernel
theorem dX1_program_64 : decode cX1_program 64 = .ok (.aload_n 0, 1) := by decide +kernel
theorem dX1_program_65 : decode cX1_program 65 = .ok (.getfield 25, 3) := by decide +kernel
theorem dX1_program_68 : decode cX1_program 68 = .ok (.iload 5, 2) := by decide +kernel
theorem dX1_program_70 : decode cX1_program 70 = .ok (.aload_n 0, 1) := by decide +kernel
theorem dX1_program_71 : decode cX1_program 71 = .ok (.getfield 61, 3) := by decide +kernel
theorem dX1_program_74 : decode cX1_program 74 = .ok (.iastore, 1) := by decide +kernel
theorem dX1_program_75 : decode cX1_program 75 = .ok (.aload_n 0, 1) := by decide +kernel
theorem dX1_program_76 : decode cX1_program 76 = .ok (.dup, 1) := by decide +kernel
theorem dX1_program_77 : decode cX1_program 77 = .ok (.getfield 61, 3) := by decide +kernel
theorem dX1_program_80 : decode cX1_program 80 = .ok (.iconst 1, 1) := by decide +kernel
theorem dX1_program_81 : decode cX1_program 81 = .ok (.iadd, 1) := by decide +kernel
theorem dX1_program_82 : decode cX1_program 82 = .ok (.putfield 61, 3) := by decide +kernel
theorem dX1_program_85 : decode cX1_program 85 = .ok (.aload_n 0, 1) := by decide +kernel
theorem dX1_program_86 : decode cX1_program 86 = .ok (.getfield 34, 3) := by decide +kernel
theorem dX1_program_89 : decode cX1_program 89 = .ok (.iload_n 2, 1) := by decide +kernel
theorem dX1_program_90 : decode cX1_program 90 = .ok (.iload 5, 2) := by decide +kernel
theorem dX1_program_92 : decode cX1_program 92 = .ok (.iastore, 1) := by decide +kernel
theorem dX1_program_93 : decode cX1_program 93 = .ok (.iconst 1, 1) := by decide +kernel
theorem dX1_program_94 : decode cX1_program 94 = .ok (.ireturn, 1) := by decide +kernel
set_option maxRecDepth 20000 in
theorem ggX1_erase_X1_beginOperation : GoodIn wsX1_erase wsX1_beginOperation := goodIn_r _ [8, 9, 10, 11, 12, 13, 14, 15, 16, 17, 18, 19, 20, 21] (by decide +kernel) (by decide +kernel)
set_option maxRecDepth 20000 in
theorem gX1_erase_X1_beginOperation : GoodIn wsX1_erase (wsV RX1 57 RX1 yX1_beginOperation wsX1_beginOperation) := goodIn_app (goodIn_of _ (by decide +kernel)) ggX1_erase_X1_beginOperation
theorem dX1_erase_0 : decode cX1_erase 0 = .ok (.aload_n 0, 1) := by decide +kernel
theorem dX1_erase_1 : decode cX1_erase 1 = .ok (.invokevirtual 57, 3) := by decide +kernel
theorem dX1_erase_4 : decode cX1_erase 4 = .ok (.ifCond .ne 5, 3) := by decide +kernel
theorem dX1_erase_7 : decode cX1_erase 7 = .ok (.iconst 0, 1) := by decide +kernel
theorem dX1_erase_8 : decode cX1_erase 8 = .ok (.ireturn, 1) := by decide +kernel
theorem dX1_erase_9 : decode cX1_erase 9 = .ok (.iconst 0, 1) := by decide +kernel
theorem dX1_erase_10 : decode cX1_erase 10 = .ok (.istore_n 2, 1) := by decide +kernel
theorem dX1_erase_11 : decode cX1_erase 11 = .ok (.iload_n 2, 1) := by decide +kernel
theorem dX1_erase_12 : decode cX1_erase 12 = .ok (.iconst 4, 1) := by decide +kernel
theorem dX1_erase_13 : decode cX1_erase 13 = .ok (.if_icmp .ge 20, 3) := by decide +kernel
theorem dX1_erase_16 : decode cX1_erase 16 = .ok (.aload_n 0, 1) := by decide +kernel
theorem dX1_erase_17 : decode cX1_erase 17 = .ok (.getfield 22, 3) := by decide +kernel
theorem dX1_erase_20 : decode cX1_erase 20 = .ok (.iload_n 1, 1) := by decide +kernel
theorem dX1_erase_21 : decode cX1_erase 21 = .ok (.iconst 4, 1) := by decide +kernel
theorem dX1_erase_22 : decode cX1_erase 22 = .ok (.imul, 1) := by decide +kernel
theorem dX1_erase_23 : decode cX1_erase 23 = .ok (.iload_n 2, 1) := by decide +kernel
theorem dX1_erase_24 : decode cX1_erase 24 = .ok (.iadd, 1) := by decide +kernel
theorem dX1_erase_25 : decode cX1_erase 25 = .ok (.iconst 0, 1) := by decide +kernel
theorem dX1_erase_26 : decode cX1_erase 26 = .ok (.iastore, 1) := by decide +kernel
theorem dX1_erase_27 : decode cX1_erase 27 = .ok (.iinc 2 1, 3) := by decide +kernel
theorem dX1_erase_30 : decode cX1_erase 30 = .ok (.goto (-19), 3) := by decide +kernel
theorem dX1_erase_33 : decode cX1_erase 33 = .ok (.aload_n 0, 1) := by decide +kernel
theorem dX1_erase_34 : decode cX1_erase 34 = .ok (.getfield 28, 3) := by decide +kernel
theorem dX1_erase_37 : decode cX1_erase 37 = .ok (.iload_n 1, 1) := by decide +kernel
theorem dX1_erase_38 : decode cX1_erase 38 = .ok (.iconst 0, 1) := by decide +kernel
theorem dX1_erase_39 : decode cX1_erase 39 = .ok (.iastore, 1) := by decide +kernel
theorem dX1_erase_40 : decode cX1_erase 40 = .ok (.aload_n 0, 1) := by decide +kernel
theorem dX1_erase_41 : decode cX1_erase 41 = .ok (.getfield 31, 3) := by decide +kernel
theorem dX1_erase_44 : decode cX1_erase 44 = .ok (.iload_n 1, 1) := by decide +kernel
theorem dX1_erase_45 : decode cX1_erase 45 = .ok (.dup2, 1) := by decide +kernel
theorem dX1_erase_46 : decode cX1_erase 46 = .ok (.iaload, 1) := by decide +kernel
theorem dX1_erase_47 : decode cX1_erase 47 = .ok (.iconst 1, 1) := by decide +kernel
theorem dX1_erase_48 : decode cX1_erase 48 = .ok (.iadd, 1) := by decide +kernel
theorem dX1_erase_49 : decode cX1_erase 49 = .ok (.iastore, 1) := by decide +kernel
theorem dX1_erase_50 : decode cX1_erase 50 = .ok (.iconst 1, 1) := by decide +kernel
theorem dX1_erase_51 : decode cX1_erase 51 = .ok (.ireturn, 1) := by decide +kernel
theorem dX1_beginOperation_0 : decode cX1_beginOperation 0 = .ok (.aload_n 0, 1) := by decide +kernel
theorem dX1_beginOperation_1 : decode cX1_beginOperation 1 = .ok (.getfield 64, 3) := by decide +kernel
theorem dX1_beginOperation_4 : decode cX1_beginOperation 4 = .ok (.iconst 1, 1) := by decide +kernel
theorem dX1_beginOperation_5 : decode cX1_beginOperation 5 = .ok (.if_icmp .ne 7, 3) := by decide +kernel
theorem dX1_beginOperation_8 : decode cX1_beginOperation 8 = .ok (.iconst 1, 1) := by decide +kernel
theorem dX1_beginOperation_9 : decode cX1_beginOperation 9 = .ok (.goto 4, 3) := by decide +kernel
theorem dX1_beginOperation_12 : decode cX1_beginOperation 12 = .ok (.iconst 0, 1) := by decide +kernel
theorem dX1_beginOperation_13 : decode cX1_beginOperation 13 = .ok (.istore_n 1, 1) := by decide +kernel
theorem dX1_beginOperation_14 : decode cX1_beginOperation 14 = .ok (.aload_n 0, 1) := by decide +kernel
theorem dX1_beginOperation_15 : decode cX1_beginOperation 15 = .ok (.getfield 64, 3) := by decide +kernel
theorem dX1_beginOperation_18 : decode cX1_beginOperation 18 = .ok (.ifCond .le 13, 3) := by decide +kernel
theorem dX1_beginOperation_21 : decode cX1_beginOperation 21 = .ok (.aload_n 0, 1) := by decide +kernel
theorem dX1_beginOperation_22 : decode cX1_beginOperation 22 = .ok (.dup, 1) := by decide +kernel
theorem dX1_beginOperation_23 : decode cX1_beginOperation 23 = .ok (.getfield 64, 3) := by decide +kernel
theorem dX1_beginOperation_26 : decode cX1_beginOperation 26 = .ok (.iconst 1, 1) := by decide +kernel
theorem dX1_beginOperation_27 : decode cX1_beginOperation 27 = .ok (.isub, 1) := by decide +kernel
theorem dX1_beginOperation_28 : decode cX1_beginOperation 28 = .ok (.putfield 64, 3) := by decide +kernel
theorem dX1_beginOperation_31 : decode cX1_beginOperation 31 = .ok (.iload_n 1, 1) := by decide +kernel
theorem dX1_beginOperation_32 : decode cX1_beginOperation 32 = .ok (.ifCond .ne 13, 3) := by decide +kernel
theorem dX1_beginOperation_35 : decode cX1_beginOperation 35 = .ok (.aload_n 0, 1) := by decide +kernel
theorem dX1_beginOperation_36 : decode cX1_beginOperation 36 = .ok (.dup, 1) := by decide +kernel
theorem dX1_beginOperation_37 : decode cX1_beginOperation 37 = .ok (.getfield 67, 3) := by decide +kernel
theorem dX1_beginOperation_40 : decode cX1_beginOperation 40 = .ok (.iconst 1, 1) := by decide +kernel
theorem dX1_beginOperation_41 : decode cX1_beginOperation 41 = .ok (.iadd, 1) := by decide +kernel
theorem dX1_beginOperation_42 : decode cX1_beginOperation 42 = .ok (.putfield 67, 3) := by decide +kernel
theorem dX1_beginOperation_45 : decode cX1_beginOperation 45 = .ok (.iload_n 1, 1) := by decide +kernel
theorem dX1_beginOperation_46 : decode cX1_beginOperation 46 = .ok (.ifCond .ne 7, 3) := by decide +kernel
theorem dX1_beginOperation_49 : decode cX1_beginOperation 49 = .ok (.iconst 1, 1) := by decide +kernel
theorem dX1_beginOperation_50 : decode cX1_beginOperation 50 = .ok (.goto 4, 3) := by decide +kernel
theorem dX1_beginOperation_53 : decode cX1_beginOperation 53 = .ok (.iconst 0, 1) := by decide +kernel
theorem dX1_beginOperation_54 : decode cX1_beginOperation 54 = .ok (.ireturn, 1) := by decide +kernel
set_option maxRecDepth 20000 in
theorem ggX2_init_X1_init : GoodIn wsX2_init wsX1_init := goodIn_r _ [16, 17, 2, 3, 18, 19, 20, 21, 22, 23, 24, 25, 26, 33, 34, 35, 36, 37, 38, 39, 40, 41, 42, 43] (by decide +kernel) (by decide +kernel)
set_option maxRecDepth 20000 in
theorem gX2_init_X1_init : GoodIn wsX2_init (wsX1_init) := ggX2_init_X1_init
set_option maxRecDepth 20000 in
theorem ggX2_init_X0_init : GoodIn wsX2_init wsX0_init := goodIn_r _ [28, 29, 2, 3, 19, 30, 31, 32, 48, 49, 50, 51] (by decide +kernel) (by decide +kernel)
set_option maxRecDepth 20000 in
theorem gX2_init_X0_init_n20 : GoodIn wsX2_init (wsX0_init) := ggX2_init_X0_init
theorem dX2_init_0 : decode cX2_init 0 = .ok (.aload_n 0, 1) := by decide +kernel
theorem dX2_init_1 : decode cX2_init 1 = .ok (.invokespecial 1, 3) := by decide +kernel
theorem dX2_init_4 : decode cX2_init 4 = .ok (.iload_n 1, 1) := by decide +kernel
theorem dX2_init_5 : decode cX2_init 5 = .ok (.iconst 5, 1) := by decide +kernel
theorem dX2_init_6 : decode cX2_init 6 = .ok (.if_icmp .lt 13, 3) := by decide +kernel
theorem dX2_init_9 : decode cX2_init 9 = .ok (.iload_n 1, 1) := by decide +kernel
theorem dX2_init_10 : decode cX2_init 10 = .ok (.bipush 12, 2) := by decide +kernel
theorem dX2_init_12 : decode cX2_init 12 = .ok (.if_icmp .gt 7, 3) := by decide +kernel
theorem dX2_init_15 : decode cX2_init 15 = .ok (.iconst 1, 1) := by decide +kernel
theorem dX2_init_16 : decode cX2_init 16 = .ok (.goto 4, 3) := by decide +kernel
theorem dX2_init_19 : decode cX2_init 19 = .ok (.iconst 0, 1) := by decide +kernel
theorem dX2_init_20 : decode cX2_init 20 = .ok (.istore_n 3, 1) := by decide +kernel
