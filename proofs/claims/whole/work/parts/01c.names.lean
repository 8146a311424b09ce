theorem dX2_init_21 : decode cX2_init 21 = .ok (.iload_n 2, 1) := by decide +kernel
theorem dX2_init_22 : decode cX2_init 22 = .ok (.iconst 1, 1) := by decide +kernel
theorem dX2_init_23 : decode cX2_init 23 = .ok (.if_icmp .lt 13, 3) := by decide +kernel
theorem dX2_init_26 : decode cX2_init 26 = .ok (.iload_n 2, 1) := by decide +kernel
theorem dX2_init_27 : decode cX2_init 27 = .ok (.bipush 50, 2) := by decide +kernel
theorem dX2_init_29 : decode cX2_init 29 = .ok (.if_icmp .gt 7, 3) := by decide +kernel
theorem dX2_init_32 : decode cX2_init 32 = .ok (.iconst 1, 1) := by decide +kernel
theorem dX2_init_33 : decode cX2_init 33 = .ok (.goto 4, 3) := by decide +kernel
theorem dX2_init_36 : decode cX2_init 36 = .ok (.iconst 0, 1) := by decide +kernel
theorem dX2_init_37 : decode cX2_init 37 = .ok (.istore 4, 2) := by decide +kernel
theorem dX2_init_39 : decode cX2_init 39 = .ok (.aload_n 0, 1) := by decide +kernel
theorem dX2_init_40 : decode cX2_init 40 = .ok (.new 9, 3) := by decide +kernel
theorem dX2_init_43 : decode cX2_init 43 = .ok (.dup, 1) := by decide +kernel
theorem dX2_init_44 : decode cX2_init 44 = .ok (.iload_n 3, 1) := by decide +kernel
theorem dX2_init_45 : decode cX2_init 45 = .ok (.ifCond .eq 7, 3) := by decide +kernel
theorem dX2_init_48 : decode cX2_init 48 = .ok (.iload_n 1, 1) := by decide +kernel
theorem dX2_init_49 : decode cX2_init 49 = .ok (.goto 5, 3) := by decide +kernel
theorem dX2_init_52 : decode cX2_init 52 = .ok (.bipush 8, 2) := by decide +kernel
theorem dX2_init_54 : decode cX2_init 54 = .ok (.invokespecial 11, 3) := by decide +kernel
theorem dX2_init_57 : decode cX2_init 57 = .ok (.putfield 14, 3) := by decide +kernel
theorem dX2_init_60 : decode cX2_init 60 = .ok (.aload_n 0, 1) := by decide +kernel
theorem dX2_init_61 : decode cX2_init 61 = .ok (.new 18, 3) := by decide +kernel
theorem dX2_init_64 : decode cX2_init 64 = .ok (.dup, 1) := by decide +kernel
theorem dX2_init_65 : decode cX2_init 65 = .ok (.invokespecial 20, 3) := by decide +kernel
theorem dX2_init_68 : decode cX2_init 68 = .ok (.putfield 21, 3) := by decide +kernel
theorem dX2_init_71 : decode cX2_init 71 = .ok (.aload_n 0, 1) := by decide +kernel
theorem dX2_init_72 : decode cX2_init 72 = .ok (.iload 4, 2) := by decide +kernel
theorem dX2_init_74 : decode cX2_init 74 = .ok (.ifCond .eq 7, 3) := by decide +kernel
theorem dX2_init_77 : decode cX2_init 77 = .ok (.iload_n 2, 1) := by decide +kernel
theorem dX2_init_78 : decode cX2_init 78 = .ok (.goto 4, 3) := by decide +kernel
theorem dX2_init_81 : decode cX2_init 81 = .ok (.iconst 4, 1) := by decide +kernel
theorem dX2_init_82 : decode cX2_init 82 = .ok (.putfield 25, 3) := by decide +kernel
theorem dX2_init_85 : decode cX2_init 85 = .ok (.aload_n 0, 1) := by decide +kernel
theorem dX2_init_86 : decode cX2_init 86 = .ok (.iconst (-1), 1) := by decide +kernel
theorem dX2_init_87 : decode cX2_init 87 = .ok (.putfield 29, 3) := by decide +kernel
theorem dX2_init_90 : decode cX2_init 90 = .ok (.return_, 1) := by decide +kernel
theorem dX2_sectors_0 : decode cX2_sectors 0 = .ok (.aload_n 0, 1) := by decide +kernel
theorem dX2_sectors_1 : decode cX2_sectors 1 = .ok (.getfield 14, 3) := by decide +kernel
theorem dX2_sectors_4 : decode cX2_sectors 4 = .ok (.getfield 32, 3) := by decide +kernel
theorem dX2_sectors_7 : decode cX2_sectors 7 = .ok (.arraylength, 1) := by decide +kernel
theorem dX2_sectors_8 : decode cX2_sectors 8 = .ok (.ireturn, 1) := by decide +kernel
set_option maxRecDepth 20000 in
theorem ggX2_write_X2_put : GoodIn wsX2_write wsX2_put := goodIn_r _ [5, 6, 7, 8, 9, 4, 10, 11, 12, 13, 14, 15, 16, 17, 18, 19, 20, 21, 22, 23, 24, 25, 26, 27, 28, 29, 30, 31, 32, 33, 34, 35, 36, 37, 38, 39, 40, 41, 42, 43, 44, 45, 46, 47, 48, 49, 50, 51, 52, 53, 54, 55, 56, 57, 58, 59, 60, 61, 62, 63, 64, 65, 66, 67, 68, 69, 70, 71, 72, 73, 74, 75, 76, 77, 78, 79, 80, 81, 82, 83, 84, 85, 86, 87, 88, 89, 90, 91, 92, 93, 94, 95, 96, 97, 98, 99, 100, 101, 102, 103, 104, 105, 106, 107, 108, 109, 110, 111, 112, 113, 114, 115, 116, 117, 118, 119, 120, 121, 122, 123, 124, 125, 126, 127, 128, 129, 130, 131, 132, 133, 134, 135, 136, 137, 138, 139, 140, 141, 142, 143, 144, 145, 146, 147, 148] (by decide +kernel) (by decide +kernel)
set_option maxRecDepth 20000 in
theorem gX2_write_X2_put : GoodIn wsX2_write (wsV RX2 36 RX2 yX2_put wsX2_put) := goodIn_app (goodIn_of _ (by decide +kernel)) ggX2_write_X2_put
theorem dX2_write_0 : decode cX2_write 0 = .ok (.aload_n 0, 1) := by decide +kernel
theorem dX2_write_1 : decode cX2_write 1 = .ok (.iload_n 1, 1) := by decide +kernel
theorem dX2_write_2 : decode cX2_write 2 = .ok (.iload_n 2, 1) := by decide +kernel
theorem dX2_write_3 : decode cX2_write 3 = .ok (.iconst 1, 1) := by decide +kernel
theorem dX2_write_4 : decode cX2_write 4 = .ok (.invokevirtual 36, 3) := by decide +kernel
theorem dX2_write_7 : decode cX2_write 7 = .ok (.ireturn, 1) := by decide +kernel
set_option maxRecDepth 20000 in
theorem ggX2_trim_X2_put : GoodIn wsX2_trim wsX2_put := goodIn_r _ [5, 6, 7, 8, 9, 4, 10, 11, 12, 13, 14, 15, 16, 17, 18, 19, 20, 21, 22, 23, 24, 25, 26, 27, 28, 29, 30, 31, 32, 33, 34, 35, 36, 37, 38, 39, 40, 41, 42, 43, 44, 45, 46, 47, 48, 49, 50, 51, 52, 53, 54, 55, 56, 57, 58, 59, 60, 61, 62, 63, 64, 65, 66, 67, 68, 69, 70, 71, 72, 73, 74, 75, 76, 77, 78, 79, 80, 81, 82, 83, 84, 85, 86, 87, 88, 89, 90, 91, 92, 93, 94, 95, 96, 97, 98, 99, 100, 101, 102, 103, 104, 105, 106, 107, 108, 109, 110, 111, 112, 113, 114, 115, 116, 117, 118, 119, 120, 121, 122, 123, 124, 125, 126, 127, 128, 129, 130, 131, 132, 133, 134, 135, 136, 137, 138, 139, 140, 141, 142, 143, 144, 145, 146, 147, 148] (by decide +kernel) (by decide +kernel)
set_option maxRecDepth 20000 in
theorem gX2_trim_X2_put : GoodIn wsX2_trim (wsV RX2 36 RX2 yX2_put wsX2_put) := goodIn_app (goodIn_of _ (by decide +kernel)) ggX2_trim_X2_put
theorem dX2_trim_0 : decode cX2_trim 0 = .ok (.aload_n 0, 1) := by decide +kernel
theorem dX2_trim_1 : decode cX2_trim 1 = .ok (.iload_n 1, 1) := by decide +kernel
theorem dX2_trim_2 : decode cX2_trim 2 = .ok (.iconst 0, 1) := by decide +kernel
theorem dX2_trim_3 : decode cX2_trim 3 = .ok (.iconst 2, 1) := by decide +kernel
theorem dX2_trim_4 : decode cX2_trim 4 = .ok (.invokevirtual 36, 3) := by decide +kernel
theorem dX2_trim_7 : decode cX2_trim 7 = .ok (.ireturn, 1) := by decide +kernel
set_option maxRecDepth 20000 in
theorem ggX2_flush_X2_storeFirst : GoodIn wsX2_flush wsX2_storeFirst := goodIn_r _ [6, 7, 8, 1, 9, 10, 11, 5, 12, 13, 14, 15, 16, 17, 18, 19, 20, 21, 22, 23, 24, 25, 26, 27, 28, 29, 30, 31, 32, 33, 34, 35, 36, 37, 38, 39, 40, 41, 42, 43, 44, 45, 46, 47, 48, 49, 50, 51, 52, 53, 54, 55, 56, 57, 58, 59, 60, 61, 62, 63, 64, 65, 66, 67, 68, 69, 70, 71, 72, 73, 74, 75, 76, 77, 78, 79, 80, 81, 82, 83, 84, 85, 86, 87, 104, 105, 106, 107, 108, 109, 110, 111, 112, 113, 114, 115, 116, 117, 118, 119, 120, 121, 122] (by decide +kernel) (by decide +kernel)
set_option maxRecDepth 20000 in
theorem gX2_flush_X2_storeFirst : GoodIn wsX2_flush (wsV RX2 43 RX2 yX2_storeFirst wsX2_storeFirst) := goodIn_app (goodIn_of _ (by decide +kernel)) ggX2_flush_X2_storeFirst
set_option maxRecDepth 20000 in
theorem ggX2_flush_X2_losePower : GoodIn wsX2_flush wsX2_losePower := goodIn_r _ [91, 92, 93, 94, 5, 95, 1, 7, 8, 96, 97, 98, 17, 99, 19, 20, 100, 101, 102, 103, 66, 53, 38, 39, 36, 40, 21, 22, 23, 24, 41, 42, 43, 44, 29, 45, 46, 47, 48, 49, 50, 51, 52, 54, 55, 56, 57, 58, 59, 60, 61, 62, 63, 64, 65, 67, 68, 15, 16, 18, 69, 70, 71, 72, 73, 74, 75, 76, 77, 78, 104, 105, 106, 107, 108, 109, 110, 111, 112, 113, 114, 115, 116, 117, 118, 119, 120, 121, 122] (by decide +kernel) (by decide +kernel)
set_option maxRecDepth 20000 in
theorem gX2_flush_X2_losePower : GoodIn wsX2_flush (wsV RX2 47 RX2 yX2_losePower wsX2_losePower) := goodIn_app (goodIn_of _ (by decide +kernel)) ggX2_flush_X2_losePower
theorem dX2_flush_0 : decode cX2_flush 0 = .ok (.aload_n 0, 1) := by decide +kernel
theorem dX2_flush_1 : decode cX2_flush 1 = .ok (.getfield 21, 3) := by decide +kernel
theorem dX2_flush_4 : decode cX2_flush 4 = .ok (.getfield 40, 3) := by decide +kernel
theorem dX2_flush_7 : decode cX2_flush 7 = .ok (.istore_n 1, 1) := by decide +kernel
theorem dX2_flush_8 : decode cX2_flush 8 = .ok (.iload_n 1, 1) := by decide +kernel
theorem dX2_flush_9 : decode cX2_flush 9 = .ok (.ifCond .le 22, 3) := by decide +kernel
theorem dX2_flush_12 : decode cX2_flush 12 = .ok (.aload_n 0, 1) := by decide +kernel
theorem dX2_flush_13 : decode cX2_flush 13 = .ok (.invokevirtual 43, 3) := by decide +kernel
theorem dX2_flush_16 : decode cX2_flush 16 = .ok (.ifCond .ne 9, 3) := by decide +kernel
theorem dX2_flush_19 : decode cX2_flush 19 = .ok (.aload_n 0, 1) := by decide +kernel
theorem dX2_flush_20 : decode cX2_flush 20 = .ok (.invokevirtual 47, 3) := by decide +kernel
theorem dX2_flush_23 : decode cX2_flush 23 = .ok (.iconst 1, 1) := by decide +kernel
theorem dX2_flush_24 : decode cX2_flush 24 = .ok (.ireturn, 1) := by decide +kernel
theorem dX2_flush_25 : decode cX2_flush 25 = .ok (.iinc 1 (-1), 3) := by decide +kernel
theorem dX2_flush_28 : decode cX2_flush 28 = .ok (.goto (-20), 3) := by decide +kernel
theorem dX2_flush_31 : decode cX2_flush 31 = .ok (.iconst 0, 1) := by decide +kernel
theorem dX2_flush_32 : decode cX2_flush 32 = .ok (.ireturn, 1) := by decide +kernel
set_option maxRecDepth 20000 in
theorem ggX2_cut_X2_losePower : GoodIn wsX2_cut wsX2_losePower := goodIn_r _ [5, 6, 7, 8, 4, 9, 10, 11, 12, 13, 14, 15, 16, 17, 18, 19, 20, 21, 22, 23, 24, 25, 26, 27, 28, 29, 30, 31, 32, 33, 34, 35, 36, 37, 38, 39, 40, 41, 42, 43, 44, 45, 46, 47, 48, 49, 50, 51, 52, 53, 54, 55, 56, 57, 58, 59, 60, 61, 62, 63, 64, 65, 66, 67, 68, 69, 70, 71, 72, 73, 74, 75, 76, 77, 78, 79, 80, 81, 82, 83, 84, 85, 86, 87, 88, 89, 90, 91, 92] (by decide +kernel) (by decide +kernel)
set_option maxRecDepth 20000 in
theorem gX2_cut_X2_losePower : GoodIn wsX2_cut (wsV RX2 47 RX2 yX2_losePower wsX2_losePower) := goodIn_app (goodIn_of _ (by decide +kernel)) ggX2_cut_X2_losePower
theorem dX2_cut_0 : decode cX2_cut 0 = .ok (.aload_n 0, 1) := by decide +kernel
theorem dX2_cut_1 : decode cX2_cut 1 = .ok (.invokevirtual 47, 3) := by decide +kernel
theorem dX2_cut_4 : decode cX2_cut 4 = .ok (.return_, 1) := by decide +kernel
theorem dX2_fuse_0 : decode cX2_fuse 0 = .ok (.iload_n 1, 1) := by decide +kernel
theorem dX2_fuse_1 : decode cX2_fuse 1 = .ok (.ifCond .lt 10, 3) := by decide +kernel
theorem dX2_fuse_4 : decode cX2_fuse 4 = .ok (.iload_n 1, 1) := by decide +kernel
theorem dX2_fuse_5 : decode cX2_fuse 5 = .ok (.sipush 1000, 3) := by decide +kernel
theorem dX2_fuse_8 : decode cX2_fuse 8 = .ok (.if_icmp .le 5, 3) := by decide +kernel
theorem dX2_fuse_11 : decode cX2_fuse 11 = .ok (.iconst 0, 1) := by decide +kernel
theorem dX2_fuse_12 : decode cX2_fuse 12 = .ok (.ireturn, 1) := by decide +kernel
theorem dX2_fuse_13 : decode cX2_fuse 13 = .ok (.aload_n 0, 1) := by decide +kernel
theorem dX2_fuse_14 : decode cX2_fuse 14 = .ok (.getfield 14, 3) := by decide +kernel
theorem dX2_fuse_17 : decode cX2_fuse 17 = .ok (.iload_n 1, 1) := by decide +kernel
theorem dX2_fuse_18 : decode cX2_fuse 18 = .ok (.putfield 50, 3) := by decide +kernel
theorem dX2_fuse_21 : decode cX2_fuse 21 = .ok (.iconst 1, 1) := by decide +kernel
theorem dX2_fuse_22 : decode cX2_fuse 22 = .ok (.ireturn, 1) := by decide +kernel
set_option maxRecDepth 20000 in
theorem ggX2_read_X0_find : GoodIn wsX2_read wsX0_find := goodIn_r _ [7, 8, 9, 23, 24, 25, 26] (by decide +kernel) (by decide +kernel)
set_option maxRecDepth 20000 in
theorem gX2_read_X0_find : GoodIn wsX2_read (wsV RX2 53 RX0 yX0_find wsX0_find) := goodIn_app (goodIn_of _ (by decide +kernel)) ggX2_read_X0_find
set_option maxRecDepth 20000 in
theorem ggX2_read_X2_place : GoodIn wsX2_read wsX2_place := goodIn_r _ [14, 2, 15, 16, 17, 13, 18, 19, 20, 21, 22, 27, 28, 29, 30, 31, 32, 33, 34, 35, 36, 37] (by decide +kernel) (by decide +kernel)
set_option maxRecDepth 20000 in
theorem gX2_read_X2_place : GoodIn wsX2_read (wsV RX2 60 RX2 yX2_place wsX2_place) := goodIn_app (goodIn_of _ (by decide +kernel)) ggX2_read_X2_place
theorem dX2_read_0 : decode cX2_read 0 = .ok (.aload_n 0, 1) := by decide +kernel
theorem dX2_read_1 : decode cX2_read 1 = .ok (.getfield 21, 3) := by decide +kernel
theorem dX2_read_4 : decode cX2_read 4 = .ok (.iload_n 1, 1) := by decide +kernel
theorem dX2_read_5 : decode cX2_read 5 = .ok (.invokevirtual 53, 3) := by decide +kernel
theorem dX2_read_8 : decode cX2_read 8 = .ok (.istore_n 2, 1) := by decide +kernel
theorem dX2_read_9 : decode cX2_read 9 = .ok (.iload_n 2, 1) := by decide +kernel
theorem dX2_read_10 : decode cX2_read 10 = .ok (.iconst (-1), 1) := by decide +kernel
theorem dX2_read_11 : decode cX2_read 11 = .ok (.if_icmp .eq 13, 3) := by decide +kernel
theorem dX2_read_14 : decode cX2_read 14 = .ok (.aload_n 0, 1) := by decide +kernel
theorem dX2_read_15 : decode cX2_read 15 = .ok (.getfield 21, 3) := by decide +kernel
theorem dX2_read_18 : decode cX2_read 18 = .ok (.getfield 57, 3) := by decide +kernel
theorem dX2_read_21 : decode cX2_read 21 = .ok (.iload_n 2, 1) := by decide +kernel
theorem dX2_read_22 : decode cX2_read 22 = .ok (.iaload, 1) := by decide +kernel
theorem dX2_read_23 : decode cX2_read 23 = .ok (.ireturn, 1) := by decide +kernel
theorem dX2_read_24 : decode cX2_read 24 = .ok (.aload_n 0, 1) := by decide +kernel
theorem dX2_read_25 : decode cX2_read 25 = .ok (.iload_n 1, 1) := by decide +kernel
theorem dX2_read_26 : decode cX2_read 26 = .ok (.invokevirtual 60, 3) := by decide +kernel
theorem dX2_read_29 : decode cX2_read 29 = .ok (.istore_n 3, 1) := by decide +kernel
theorem dX2_read_30 : decode cX2_read 30 = .ok (.iload_n 3, 1) := by decide +kernel
theorem dX2_read_31 : decode cX2_read 31 = .ok (.iconst (-1), 1) := by decide +kernel
theorem dX2_read_32 : decode cX2_read 32 = .ok (.if_icmp .ne 7, 3) := by decide +kernel
theorem dX2_read_35 : decode cX2_read 35 = .ok (.iconst 0, 1) := by decide +kernel
theorem dX2_read_36 : decode cX2_read 36 = .ok (.goto 12, 3) := by decide +kernel
theorem dX2_read_39 : decode cX2_read 39 = .ok (.aload_n 0, 1) := by decide +kernel
theorem dX2_read_40 : decode cX2_read 40 = .ok (.getfield 14, 3) := by decide +kernel
theorem dX2_read_43 : decode cX2_read 43 = .ok (.getfield 63, 3) := by decide +kernel
theorem dX2_read_46 : decode cX2_read 46 = .ok (.iload_n 3, 1) := by decide +kernel
theorem dX2_read_47 : decode cX2_read 47 = .ok (.iaload, 1) := by decide +kernel
theorem dX2_read_48 : decode cX2_read 48 = .ok (.ireturn, 1) := by decide +kernel
set_option maxRecDepth 20000 in
theorem ggX2_holds_X0_find : GoodIn wsX2_holds wsX0_find := goodIn_r _ [7, 8, 9, 23, 24, 25, 26] (by decide +kernel) (by decide +kernel)
set_option maxRecDepth 20000 in
theorem gX2_holds_X0_find : GoodIn wsX2_holds (wsV RX2 53 RX0 yX0_find wsX0_find) := goodIn_app (goodIn_of _ (by decide +kernel)) ggX2_holds_X0_find
set_option maxRecDepth 20000 in
theorem ggX2_holds_X2_place : GoodIn wsX2_holds wsX2_place := goodIn_r _ [14, 2, 15, 16, 17, 13, 18, 19, 20, 21, 22, 27, 28, 29, 30, 31, 32, 33, 34, 35, 36, 37] (by decide +kernel) (by decide +kernel)
set_option maxRecDepth 20000 in
theorem gX2_holds_X2_place : GoodIn wsX2_holds (wsV RX2 60 RX2 yX2_place wsX2_place) := goodIn_app (goodIn_of _ (by decide +kernel)) ggX2_holds_X2_place
theorem dX2_holds_0 : decode cX2_holds 0 = .ok (.aload_n 0, 1) := by decide +kernel
theorem dX2_holds_1 : decode cX2_holds 1 = .ok (.getfield 21, 3) := by decide +kernel
theorem dX2_holds_4 : decode cX2_holds 4 = .ok (.iload_n 1, 1) := by decide +kernel
theorem dX2_holds_5 : decode cX2_holds 5 = .ok (.invokevirtual 53, 3) := by decide +kernel
theorem dX2_holds_8 : decode cX2_holds 8 = .ok (.istore_n 2, 1) := by decide +kernel
theorem dX2_holds_9 : decode cX2_holds 9 = .ok (.iload_n 2, 1) := by decide +kernel
theorem dX2_holds_10 : decode cX2_holds 10 = .ok (.iconst (-1), 1) := by decide +kernel
theorem dX2_holds_11 : decode cX2_holds 11 = .ok (.if_icmp .eq 13, 3) := by decide +kernel
theorem dX2_holds_14 : decode cX2_holds 14 = .ok (.aload_n 0, 1) := by decide +kernel
theorem dX2_holds_15 : decode cX2_holds 15 = .ok (.getfield 21, 3) := by decide +kernel
theorem dX2_holds_18 : decode cX2_holds 18 = .ok (.getfield 64, 3) := by decide +kernel
theorem dX2_holds_21 : decode cX2_holds 21 = .ok (.iload_n 2, 1) := by decide +kernel
theorem dX2_holds_22 : decode cX2_holds 22 = .ok (.iaload, 1) := by decide +kernel
theorem dX2_holds_23 : decode cX2_holds 23 = .ok (.ireturn, 1) := by decide +kernel
theorem dX2_holds_24 : decode cX2_holds 24 = .ok (.aload_n 0, 1) := by decide +kernel
theorem dX2_holds_25 : decode cX2_holds 25 = .ok (.iload_n 1, 1) := by decide +kernel
theorem dX2_holds_26 : decode cX2_holds 26 = .ok (.invokevirtual 60, 3) := by decide +kernel
theorem dX2_holds_29 : decode cX2_holds 29 = .ok (.istore_n 3, 1) := by decide +kernel
theorem dX2_holds_30 : decode cX2_holds 30 = .ok (.iload_n 3, 1) := by decide +kernel
theorem dX2_holds_31 : decode cX2_holds 31 = .ok (.iconst (-1), 1) := by decide +kernel
theorem dX2_holds_32 : decode cX2_holds 32 = .ok (.if_icmp .ne 7, 3) := by decide +kernel
theorem dX2_holds_35 : decode cX2_holds 35 = .ok (.iconst 0, 1) := by decide +kernel
theorem dX2_holds_36 : decode cX2_holds 36 = .ok (.goto 12, 3) := by decide +kernel
theorem dX2_holds_39 : decode cX2_holds 39 = .ok (.aload_n 0, 1) := by decide +kernel
theorem dX2_holds_40 : decode cX2_holds 40 = .ok (.getfield 14, 3) := by decide +kernel
theorem dX2_holds_43 : decode cX2_holds 43 = .ok (.getfield 67, 3) := by decide +kernel
theorem dX2_holds_46 : decode cX2_holds 46 = .ok (.iload_n 3, 1) := by decide +kernel
theorem dX2_holds_47 : decode cX2_holds 47 = .ok (.iaload, 1) := by decide +kernel
theorem dX2_holds_48 : decode cX2_holds 48 = .ok (.ireturn, 1) := by decide +kernel
theorem dX2_buffered_0 : decode cX2_buffered 0 = .ok (.aload_n 0, 1) := by decide +kernel
theorem dX2_buffered_1 : decode cX2_buffered 1 = .ok (.getfield 21, 3) := by decide +kernel
theorem dX2_buffered_4 : decode cX2_buffered 4 = .ok (.getfield 40, 3) := by decide +kernel
theorem dX2_buffered_7 : decode cX2_buffered 7 = .ok (.ireturn, 1) := by decide +kernel
set_option maxRecDepth 20000 in
theorem ggX2_place_X2_isSector : GoodIn wsX2_place wsX2_isSector := goodIn_r _ [6, 1, 7, 8, 9, 10, 11, 12, 13, 14, 15, 16, 17, 18, 19, 20, 21] (by decide +kernel) (by decide +kernel)
set_option maxRecDepth 20000 in
theorem gX2_place_X2_isSector : GoodIn wsX2_place (wsV RX2 68 RX2 yX2_isSector wsX2_isSector) := goodIn_app (goodIn_of _ (by decide +kernel)) ggX2_place_X2_isSector
theorem dX2_place_0 : decode cX2_place 0 = .ok (.aload_n 0, 1) := by decide +kernel
theorem dX2_place_1 : decode cX2_place 1 = .ok (.iload_n 1, 1) := by decide +kernel
theorem dX2_place_2 : decode cX2_place 2 = .ok (.invokevirtual 68, 3) := by decide +kernel
theorem dX2_place_5 : decode cX2_place 5 = .ok (.ifCond .eq 15, 3) := by decide +kernel
theorem dX2_place_8 : decode cX2_place 8 = .ok (.aload_n 0, 1) := by decide +kernel
theorem dX2_place_9 : decode cX2_place 9 = .ok (.getfield 14, 3) := by decide +kernel
theorem dX2_place_12 : decode cX2_place 12 = .ok (.getfield 32, 3) := by decide +kernel
theorem dX2_place_15 : decode cX2_place 15 = .ok (.iload_n 1, 1) := by decide +kernel
theorem dX2_place_16 : decode cX2_place 16 = .ok (.iaload, 1) := by decide +kernel
theorem dX2_place_17 : decode cX2_place 17 = .ok (.goto 4, 3) := by decide +kernel
theorem dX2_place_20 : decode cX2_place 20 = .ok (.iconst (-1), 1) := by decide +kernel
theorem dX2_place_21 : decode cX2_place 21 = .ok (.ireturn, 1) := by decide +kernel
set_option maxRecDepth 20000 in
theorem ggX2_tag_X1_isProgrammed : GoodIn wsX2_tag wsX1_isProgrammed := goodIn_r _ [6, 7, 12, 13, 14, 15, 16, 17, 18, 19, 20, 21, 22] (by decide +kernel) (by decide +kernel)
set_option maxRecDepth 20000 in
theorem gX2_tag_X1_isProgrammed : GoodIn wsX2_tag (wsV RX2 72 RX1 yX1_isProgrammed wsX1_isProgrammed) := goodIn_app (goodIn_of _ (by decide +kernel)) ggX2_tag_X1_isProgrammed
theorem dX2_tag_0 : decode cX2_tag 0 = .ok (.aload_n 0, 1) := by decide +kernel
theorem dX2_tag_1 : decode cX2_tag 1 = .ok (.getfield 14, 3) := by decide +kernel
theorem dX2_tag_4 : decode cX2_tag 4 = .ok (.iload_n 1, 1) := by decide +kernel
theorem dX2_tag_5 : decode cX2_tag 5 = .ok (.invokevirtual 72, 3) := by decide +kernel
theorem dX2_tag_8 : decode cX2_tag 8 = .ok (.ifCond .eq 15, 3) := by decide +kernel
theorem dX2_tag_11 : decode cX2_tag 11 = .ok (.aload_n 0, 1) := by decide +kernel
theorem dX2_tag_12 : decode cX2_tag 12 = .ok (.getfield 14, 3) := by decide +kernel
theorem dX2_tag_15 : decode cX2_tag 15 = .ok (.getfield 75, 3) := by decide +kernel
theorem dX2_tag_18 : decode cX2_tag 18 = .ok (.iload_n 1, 1) := by decide +kernel
theorem dX2_tag_19 : decode cX2_tag 19 = .ok (.iaload, 1) := by decide +kernel
theorem dX2_tag_20 : decode cX2_tag 20 = .ok (.goto 4, 3) := by decide +kernel
theorem dX2_tag_23 : decode cX2_tag 23 = .ok (.iconst (-1), 1) := by decide +kernel
theorem dX2_tag_24 : decode cX2_tag 24 = .ok (.ireturn, 1) := by decide +kernel
set_option maxRecDepth 20000 in
theorem ggX2_serial_X1_isProgrammed : GoodIn wsX2_serial wsX1_isProgrammed := goodIn_r _ [6, 7, 12, 13, 14, 15, 16, 17, 18, 19, 20, 21, 22] (by decide +kernel) (by decide +kernel)
set_option maxRecDepth 20000 in
theorem gX2_serial_X1_isProgrammed : GoodIn wsX2_serial (wsV RX2 72 RX1 yX1_isProgrammed wsX1_isProgrammed) := goodIn_app (goodIn_of _ (by decide +kernel)) ggX2_serial_X1_isProgrammed
theorem dX2_serial_0 : decode cX2_serial 0 = .ok (.aload_n 0, 1) := by decide +kernel
theorem dX2_serial_1 : decode cX2_serial 1 = .ok (.getfield 14, 3) := by decide +kernel
theorem dX2_serial_4 : decode cX2_serial 4 = .ok (.iload_n 1, 1) := by decide +kernel
theorem dX2_serial_5 : decode cX2_serial 5 = .ok (.invokevirtual 72, 3) := by decide +kernel
theorem dX2_serial_8 : decode cX2_serial 8 = .ok (.ifCond .eq 15, 3) := by decide +kernel
theorem dX2_serial_11 : decode cX2_serial 11 = .ok (.aload_n 0, 1) := by decide +kernel
theorem dX2_serial_12 : decode cX2_serial 12 = .ok (.getfield 14, 3) := by decide +kernel
theorem dX2_serial_15 : decode cX2_serial 15 = .ok (.getfield 78, 3) := by decide +kernel
theorem dX2_serial_18 : decode cX2_serial 18 = .ok (.iload_n 1, 1) := by decide +kernel
theorem dX2_serial_19 : decode cX2_serial 19 = .ok (.iaload, 1) := by decide +kernel
theorem dX2_serial_20 : decode cX2_serial 20 = .ok (.goto 4, 3) := by decide +kernel
theorem dX2_serial_23 : decode cX2_serial 23 = .ok (.iconst (-1), 1) := by decide +kernel
theorem dX2_serial_24 : decode cX2_serial 24 = .ok (.ireturn, 1) := by decide +kernel
set_option maxRecDepth 20000 in
theorem ggX2_valid_X1_isBlock : GoodIn wsX2_valid wsX1_isBlock := goodIn_r _ [6, 7, 23, 24, 25, 26, 27, 28, 29, 30, 31, 32, 33] (by decide +kernel) (by decide +kernel)
set_option maxRecDepth 20000 in
theorem gX2_valid_X1_isBlock : GoodIn wsX2_valid (wsV RX2 81 RX1 yX1_isBlock wsX1_isBlock) := goodIn_app (goodIn_of _ (by decide +kernel)) ggX2_valid_X1_isBlock
set_option maxRecDepth 20000 in
theorem ggX2_valid_X1_countValid : GoodIn wsX2_valid wsX1_countValid := goodIn_r _ [11, 12, 13, 14, 5, 15, 16, 17, 18, 23, 24, 25, 26, 27, 28, 29, 30, 31, 32, 33] (by decide +kernel) (by decide +kernel)
set_option maxRecDepth 20000 in
theorem gX2_valid_X1_countValid : GoodIn wsX2_valid (wsV RX2 84 RX1 yX1_countValid wsX1_countValid) := goodIn_app (goodIn_of _ (by decide +kernel)) ggX2_valid_X1_countValid
theorem dX2_valid_0 : decode cX2_valid 0 = .ok (.aload_n 0, 1) := by decide +kernel
theorem dX2_valid_1 : decode cX2_valid 1 = .ok (.getfield 14, 3) := by decide +kernel
theorem dX2_valid_4 : decode cX2_valid 4 = .ok (.iload_n 1, 1) := by decide +kernel
theorem dX2_valid_5 : decode cX2_valid 5 = .ok (.invokevirtual 81, 3) := by decide +kernel
theorem dX2_valid_8 : decode cX2_valid 8 = .ok (.ifCond .eq 14, 3) := by decide +kernel
theorem dX2_valid_11 : decode cX2_valid 11 = .ok (.aload_n 0, 1) := by decide +kernel
theorem dX2_valid_12 : decode cX2_valid 12 = .ok (.getfield 14, 3) := by decide +kernel
theorem dX2_valid_15 : decode cX2_valid 15 = .ok (.iload_n 1, 1) := by decide +kernel
theorem dX2_valid_16 : decode cX2_valid 16 = .ok (.invokevirtual 84, 3) := by decide +kernel
theorem dX2_valid_19 : decode cX2_valid 19 = .ok (.goto 4, 3) := by decide +kernel
theorem dX2_valid_22 : decode cX2_valid 22 = .ok (.iconst (-1), 1) := by decide +kernel
theorem dX2_valid_23 : decode cX2_valid 23 = .ok (.ireturn, 1) := by decide +kernel
set_option maxRecDepth 20000 in
theorem ggX2_erasures_X1_isBlock : GoodIn wsX2_erasures wsX1_isBlock := goodIn_r _ [6, 7, 12, 13, 14, 15, 16, 17, 18, 19, 20, 21, 22] (by decide +kernel) (by decide +kernel)
set_option maxRecDepth 20000 in
theorem gX2_erasures_X1_isBlock : GoodIn wsX2_erasures (wsV RX2 81 RX1 yX1_isBlock wsX1_isBlock) := goodIn_app (goodIn_of _ (by decide +kernel)) ggX2_erasures_X1_isBlock
theorem dX2_erasures_0 : decode cX2_erasures 0 = .ok (.aload_n 0, 1) := by decide +kernel
theorem dX2_erasures_1 : decode cX2_erasures 1 = .ok (.getfield 14, 3) := by decide +kernel
theorem dX2_erasures_4 : decode cX2_erasures 4 = .ok (.iload_n 1, 1) := by decide +kernel
theorem dX2_erasures_5 : decode cX2_erasures 5 = .ok (.invokevirtual 81, 3) := by decide +kernel
theorem dX2_erasures_8 : decode cX2_erasures 8 = .ok (.ifCond .eq 15, 3) := by decide +kernel
theorem dX2_erasures_11 : decode cX2_erasures 11 = .ok (.aload_n 0, 1) := by decide +kernel
theorem dX2_erasures_12 : decode cX2_erasures 12 = .ok (.getfield 14, 3) := by decide +kernel
theorem dX2_erasures_15 : decode cX2_erasures 15 = .ok (.getfield 87, 3) := by decide +kernel
theorem dX2_erasures_18 : decode cX2_erasures 18 = .ok (.iload_n 1, 1) := by decide +kernel
theorem dX2_erasures_19 : decode cX2_erasures 19 = .ok (.iaload, 1) := by decide +kernel
theorem dX2_erasures_20 : decode cX2_erasures 20 = .ok (.goto 4, 3) := by decide +kernel
theorem dX2_erasures_23 : decode cX2_erasures 23 = .ok (.iconst (-1), 1) := by decide +kernel
theorem dX2_erasures_24 : decode cX2_erasures 24 = .ok (.ireturn, 1) := by decide +kernel
theorem dX2_open_0 : decode cX2_open 0 = .ok (.aload_n 0, 1) := by decide +kernel
theorem dX2_open_1 : decode cX2_open 1 = .ok (.getfield 29, 3) := by decide +kernel
theorem dX2_open_4 : decode cX2_open 4 = .ok (.ireturn, 1) := by decide +kernel
set_option maxRecDepth 20000 in
theorem ggX2_free_X1_countFree : GoodIn wsX2_free wsX1_countFree := goodIn_r _ [6, 7, 8, 13, 14, 15, 16, 17, 18, 19, 20, 21, 22, 23] (by decide +kernel) (by decide +kernel)
set_option maxRecDepth 20000 in
theorem gX2_free_X1_countFree : GoodIn wsX2_free (wsV RX2 90 RX1 yX1_countFree wsX1_countFree) := goodIn_app (goodIn_of _ (by decide +kernel)) ggX2_free_X1_countFree
theorem dX2_free_0 : decode cX2_free 0 = .ok (.aload_n 0, 1) := by decide +kernel
theorem dX2_free_1 : decode cX2_free 1 = .ok (.getfield 14, 3) := by decide +kernel
theorem dX2_free_4 : decode cX2_free 4 = .ok (.invokevirtual 90, 3) := by decide +kernel
theorem dX2_free_7 : decode cX2_free 7 = .ok (.ireturn, 1) := by decide +kernel
theorem dX2_operations_0 : decode cX2_operations 0 = .ok (.aload_n 0, 1) := by decide +kernel
theorem dX2_operations_1 : decode cX2_operations 1 = .ok (.getfield 14, 3) := by decide +kernel
theorem dX2_operations_4 : decode cX2_operations 4 = .ok (.getfield 94, 3) := by decide +kernel
theorem dX2_operations_7 : decode cX2_operations 7 = .ok (.ireturn, 1) := by decide +kernel
theorem dX2_isSector_0 : decode cX2_isSector 0 = .ok (.iload_n 1, 1) := by decide +kernel
theorem dX2_isSector_1 : decode cX2_isSector 1 = .ok (.ifCond .lt 19, 3) := by decide +kernel
theorem dX2_isSector_4 : decode cX2_isSector 4 = .ok (.iload_n 1, 1) := by decide +kernel
theorem dX2_isSector_5 : decode cX2_isSector 5 = .ok (.aload_n 0, 1) := by decide +kernel
theorem dX2_isSector_6 : decode cX2_isSector 6 = .ok (.getfield 14, 3) := by decide +kernel
theorem dX2_isSector_9 : decode cX2_isSector 9 = .ok (.getfield 32, 3) := by decide +kernel
theorem dX2_isSector_12 : decode cX2_isSector 12 = .ok (.arraylength, 1) := by decide +kernel
theorem dX2_isSector_13 : decode cX2_isSector 13 = .ok (.if_icmp .ge 7, 3) := by decide +kernel
theorem dX2_isSector_16 : decode cX2_isSector 16 = .ok (.iconst 1, 1) := by decide +kernel
theorem dX2_isSector_17 : decode cX2_isSector 17 = .ok (.goto 4, 3) := by decide +kernel
theorem dX2_isSector_20 : decode cX2_isSector 20 = .ok (.iconst 0, 1) := by decide +kernel
theorem dX2_isSector_21 : decode cX2_isSector 21 = .ok (.ireturn, 1) := by decide +kernel
set_option maxRecDepth 20000 in
theorem ggX2_put_X2_isSector : GoodIn wsX2_put wsX2_isSector := goodIn_r _ [6, 7, 126, 127, 128, 129, 130, 131, 132, 133, 134, 135, 136, 137, 138, 139, 140] (by decide +kernel) (by decide +kernel)
set_option maxRecDepth 20000 in
theorem gX2_put_X2_isSector : GoodIn wsX2_put (wsV RX2 68 RX2 yX2_isSector wsX2_isSector) := goodIn_app (goodIn_of _ (by decide +kernel)) ggX2_put_X2_isSector
set_option maxRecDepth 20000 in
theorem ggX2_put_X0_find : GoodIn wsX2_put wsX0_find := goodIn_r _ [12, 13, 14, 141, 142, 143, 144] (by decide +kernel) (by decide +kernel)
set_option maxRecDepth 20000 in
theorem gX2_put_X0_find : GoodIn wsX2_put (wsV RX2 53 RX0 yX0_find wsX0_find) := goodIn_app (goodIn_of _ (by decide +kernel)) ggX2_put_X0_find
set_option maxRecDepth 20000 in
theorem ggX2_put_X0_change : GoodIn wsX2_put wsX0_change := goodIn_r _ [18, 19, 20, 141, 142, 143, 144] (by decide +kernel) (by decide +kernel)
set_option maxRecDepth 20000 in
theorem gX2_put_X0_change : GoodIn wsX2_put (wsV RX2 97 RX0 yX0_change wsX0_change) := goodIn_app (goodIn_of _ (by decide +kernel)) ggX2_put_X0_change
set_option maxRecDepth 20000 in
theorem ggX2_put_X0_isFull : GoodIn wsX2_put wsX0_isFull := goodIn_r _ [24, 13, 141, 142, 143, 144] (by decide +kernel) (by decide +kernel)
set_option maxRecDepth 20000 in
theorem gX2_put_X0_isFull : GoodIn wsX2_put (wsV RX2 101 RX0 yX0_isFull wsX0_isFull) := goodIn_app (goodIn_of _ (by decide +kernel)) ggX2_put_X0_isFull
set_option maxRecDepth 20000 in
theorem ggX2_put_X2_storeFirst : GoodIn wsX2_put wsX2_storeFirst := goodIn_r _ [28, 7, 29, 1, 30, 31, 32, 5, 33, 34, 35, 36, 37, 38, 39, 40, 41, 42, 43, 44, 45, 46, 47, 48, 49, 50, 51, 52, 53, 54, 55, 56, 57, 58, 59, 60, 61, 62, 63, 64, 65, 66, 67, 68, 69, 70, 71, 72, 73, 74, 75, 76, 77, 78, 79, 80, 81, 82, 83, 84, 85, 86, 87, 88, 89, 90, 91, 92, 93, 94, 95, 96, 97, 98, 99, 100, 101, 102, 11, 103, 13, 14, 19, 20, 126, 127, 128, 129, 141, 142, 143, 144, 130, 131, 132, 133, 134, 135, 136, 137, 138, 139, 140] (by decide +kernel) (by decide +kernel)
set_option maxRecDepth 20000 in
theorem gX2_put_X2_storeFirst : GoodIn wsX2_put (wsV RX2 43 RX2 yX2_storeFirst wsX2_storeFirst) := goodIn_app (goodIn_of _ (by decide +kernel)) ggX2_put_X2_storeFirst
set_option maxRecDepth 20000 in
theorem ggX2_put_X2_losePower : GoodIn wsX2_put wsX2_losePower := goodIn_r _ [107, 108, 109, 110, 5, 111, 1, 7, 29, 112, 113, 114, 38, 115, 40, 41, 116, 117, 118, 119, 87, 74, 59, 60, 57, 61, 42, 43, 44, 45, 62, 63, 64, 65, 50, 66, 67, 68, 69, 70, 71, 72, 73, 75, 76, 77, 78, 79, 80, 81, 82, 83, 84, 85, 86, 88, 89, 36, 37, 39, 90, 91, 92, 93, 94, 95, 96, 97, 98, 99, 126, 127, 128, 129, 141, 142, 143, 144, 130, 131, 132, 133, 134, 135, 136, 137, 138, 139, 140] (by decide +kernel) (by decide +kernel)
set_option maxRecDepth 20000 in
theorem gX2_put_X2_losePower : GoodIn wsX2_put (wsV RX2 47 RX2 yX2_losePower wsX2_losePower) := goodIn_app (goodIn_of _ (by decide +kernel)) ggX2_put_X2_losePower
set_option maxRecDepth 20000 in
theorem ggX2_put_X0_add : GoodIn wsX2_put wsX0_add := goodIn_r _ [123, 14, 13, 124, 22, 23, 11, 24, 125, 16, 17, 18, 19, 20, 141, 142, 143, 144] (by decide +kernel) (by decide +kernel)
set_option maxRecDepth 20000 in
theorem gX2_put_X0_add : GoodIn wsX2_put (wsV RX2 104 RX0 yX0_add wsX0_add) := goodIn_app (goodIn_of _ (by decide +kernel)) ggX2_put_X0_add
theorem dX2_put_0 : decode cX2_put 0 = .ok (.aload_n 0, 1) := by decide +kernel
theorem dX2_put_1 : decode cX2_put 1 = .ok (.iload_n 1, 1) := by decide +kernel
theorem dX2_put_2 : decode cX2_put 2 = .ok (.invokevirtual 68, 3) := by decide +kernel
theorem dX2_put_5 : decode cX2_put 5 = .ok (.ifCond .ne 5, 3) := by decide +kernel
theorem dX2_put_8 : decode cX2_put 8 = .ok (.iconst (-1), 1) := by decide +kernel
theorem dX2_put_9 : decode cX2_put 9 = .ok (.ireturn, 1) := by decide +kernel
theorem dX2_put_10 : decode cX2_put 10 = .ok (.aload_n 0, 1) := by decide +kernel
theorem dX2_put_11 : decode cX2_put 11 = .ok (.getfield 21, 3) := by decide +kernel
theorem dX2_put_14 : decode cX2_put 14 = .ok (.iload_n 1, 1) := by decide +kernel
theorem dX2_put_15 : decode cX2_put 15 = .ok (.invokevirtual 53, 3) := by decide +kernel
theorem dX2_put_18 : decode cX2_put 18 = .ok (.istore 4, 2) := by decide +kernel
theorem dX2_put_20 : decode cX2_put 20 = .ok (.iload 4, 2) := by decide +kernel
theorem dX2_put_22 : decode cX2_put 22 = .ok (.iconst (-1), 1) := by decide +kernel
theorem dX2_put_23 : decode cX2_put 23 = .ok (.if_icmp .eq 16, 3) := by decide +kernel
theorem dX2_put_26 : decode cX2_put 26 = .ok (.aload_n 0, 1) := by decide +kernel
theorem dX2_put_27 : decode cX2_put 27 = .ok (.getfield 21, 3) := by decide +kernel
theorem dX2_put_30 : decode cX2_put 30 = .ok (.iload 4, 2) := by decide +kernel
theorem dX2_put_32 : decode cX2_put 32 = .ok (.iload_n 2, 1) := by decide +kernel
theorem dX2_put_33 : decode cX2_put 33 = .ok (.iload_n 3, 1) := by decide +kernel
theorem dX2_put_34 : decode cX2_put 34 = .ok (.invokevirtual 97, 3) := by decide +kernel
theorem dX2_put_37 : decode cX2_put 37 = .ok (.iconst 0, 1) := by decide +kernel
theorem dX2_put_38 : decode cX2_put 38 = .ok (.ireturn, 1) := by decide +kernel
theorem dX2_put_39 : decode cX2_put 39 = .ok (.aload_n 0, 1) := by decide +kernel
theorem dX2_put_40 : decode cX2_put 40 = .ok (.getfield 21, 3) := by decide +kernel
theorem dX2_put_43 : decode cX2_put 43 = .ok (.invokevirtual 101, 3) := by decide +kernel
theorem dX2_put_46 : decode cX2_put 46 = .ok (.ifCond .eq 16, 3) := by decide +kernel
theorem dX2_put_49 : decode cX2_put 49 = .ok (.aload_n 0, 1) := by decide +kernel
theorem dX2_put_50 : decode cX2_put 50 = .ok (.invokevirtual 43, 3) := by decide +kernel
theorem dX2_put_53 : decode cX2_put 53 = .ok (.ifCond .ne 9, 3) := by decide +kernel
theorem dX2_put_56 : decode cX2_put 56 = .ok (.aload_n 0, 1) := by decide +kernel
theorem dX2_put_57 : decode cX2_put 57 = .ok (.invokevirtual 47, 3) := by decide +kernel
theorem dX2_put_60 : decode cX2_put 60 = .ok (.iconst 1, 1) := by decide +kernel
theorem dX2_put_61 : decode cX2_put 61 = .ok (.ireturn, 1) := by decide +kernel
theorem dX2_put_62 : decode cX2_put 62 = .ok (.aload_n 0, 1) := by decide +kernel
theorem dX2_put_63 : decode cX2_put 63 = .ok (.getfield 21, 3) := by decide +kernel
theorem dX2_put_66 : decode cX2_put 66 = .ok (.iload_n 1, 1) := by decide +kernel
theorem dX2_put_67 : decode cX2_put 67 = .ok (.iload_n 2, 1) := by decide +kernel
theorem dX2_put_68 : decode cX2_put 68 = .ok (.iload_n 3, 1) := by decide +kernel
theorem dX2_put_69 : decode cX2_put 69 = .ok (.invokevirtual 104, 3) := by decide +kernel
theorem dX2_put_72 : decode cX2_put 72 = .ok (.iconst 0, 1) := by decide +kernel
theorem dX2_put_73 : decode cX2_put 73 = .ok (.ireturn, 1) := by decide +kernel
set_option maxRecDepth 20000 in
theorem ggX2_storeFirst_X2_makeRoom : GoodIn wsX2_storeFirst wsX2_makeRoom := goodIn_r _ [8, 1, 2, 9, 10, 11, 12, 13, 14, 15, 16, 17, 18, 19, 20, 21, 22, 23, 24, 25, 26, 27, 28, 29, 30, 31, 32, 33, 34, 35, 36, 37, 38, 39, 40, 41, 42, 43, 44, 45, 46, 47, 48, 49, 50, 51, 52, 53, 54, 7, 55, 56, 57, 58, 59, 60, 61, 62, 63, 64, 65, 66, 67, 68, 69, 70, 71, 72, 73, 74, 84, 85, 86, 87, 92, 93, 94, 95, 96, 97, 98, 99, 100, 101, 102] (by decide +kernel) (by decide +kernel)
set_option maxRecDepth 20000 in
theorem gX2_storeFirst_X2_makeRoom : GoodIn wsX2_storeFirst (wsV RX2 107 RX2 yX2_makeRoom wsX2_makeRoom) := goodIn_app (goodIn_of _ (by decide +kernel)) ggX2_storeFirst_X2_makeRoom
set_option maxRecDepth 20000 in
theorem ggX2_storeFirst_X1_program : GoodIn wsX2_storeFirst wsX1_program := goodIn_r _ [60, 16, 51, 61, 49, 62, 63, 50, 64, 11, 12, 13, 14, 15, 65, 66, 67, 68, 69, 70, 92, 93, 94, 95, 96, 97, 98, 99, 100, 101, 102] (by decide +kernel) (by decide +kernel)
set_option maxRecDepth 20000 in
theorem gX2_storeFirst_X1_program : GoodIn wsX2_storeFirst (wsV RX2 113 RX1 yX1_program wsX1_program) := goodIn_app (goodIn_of _ (by decide +kernel)) ggX2_storeFirst_X1_program
set_option maxRecDepth 20000 in
theorem ggX2_storeFirst_X0_dropFirst : GoodIn wsX2_storeFirst wsX0_dropFirst := goodIn_r _ [79, 80, 81, 82, 83, 88, 89, 90, 91] (by decide +kernel) (by decide +kernel)
set_option maxRecDepth 20000 in
theorem gX2_storeFirst_X0_dropFirst : GoodIn wsX2_storeFirst (wsV RX2 117 RX0 yX0_dropFirst wsX0_dropFirst) := goodIn_app (goodIn_of _ (by decide +kernel)) ggX2_storeFirst_X0_dropFirst
theorem dX2_storeFirst_0 : decode cX2_storeFirst 0 = .ok (.aload_n 0, 1) := by decide +kernel
theorem dX2_storeFirst_1 : decode cX2_storeFirst 1 = .ok (.invokevirtual 107, 3) := by decide +kernel
theorem dX2_storeFirst_4 : decode cX2_storeFirst 4 = .ok (.ifCond .ne 5, 3) := by decide +kernel
theorem dX2_storeFirst_7 : decode cX2_storeFirst 7 = .ok (.iconst 0, 1) := by decide +kernel
theorem dX2_storeFirst_8 : decode cX2_storeFirst 8 = .ok (.ireturn, 1) := by decide +kernel
theorem dX2_storeFirst_9 : decode cX2_storeFirst 9 = .ok (.aload_n 0, 1) := by decide +kernel
theorem dX2_storeFirst_10 : decode cX2_storeFirst 10 = .ok (.getfield 14, 3) := by decide +kernel
theorem dX2_storeFirst_13 : decode cX2_storeFirst 13 = .ok (.aload_n 0, 1) := by decide +kernel
theorem dX2_storeFirst_14 : decode cX2_storeFirst 14 = .ok (.getfield 29, 3) := by decide +kernel
theorem dX2_storeFirst_17 : decode cX2_storeFirst 17 = .ok (.aload_n 0, 1) := by decide +kernel
theorem dX2_storeFirst_18 : decode cX2_storeFirst 18 = .ok (.getfield 21, 3) := by decide +kernel
theorem dX2_storeFirst_21 : decode cX2_storeFirst 21 = .ok (.getfield 110, 3) := by decide +kernel
theorem dX2_storeFirst_24 : decode cX2_storeFirst 24 = .ok (.iconst 0, 1) := by decide +kernel
theorem dX2_storeFirst_25 : decode cX2_storeFirst 25 = .ok (.iaload, 1) := by decide +kernel
theorem dX2_storeFirst_26 : decode cX2_storeFirst 26 = .ok (.aload_n 0, 1) := by decide +kernel
theorem dX2_storeFirst_27 : decode cX2_storeFirst 27 = .ok (.getfield 21, 3) := by decide +kernel
theorem dX2_storeFirst_30 : decode cX2_storeFirst 30 = .ok (.getfield 57, 3) := by decide +kernel
theorem dX2_storeFirst_33 : decode cX2_storeFirst 33 = .ok (.iconst 0, 1) := by decide +kernel
theorem dX2_storeFirst_34 : decode cX2_storeFirst 34 = .ok (.iaload, 1) := by decide +kernel
theorem dX2_storeFirst_35 : decode cX2_storeFirst 35 = .ok (.aload_n 0, 1) := by decide +kernel
theorem dX2_storeFirst_36 : decode cX2_storeFirst 36 = .ok (.getfield 21, 3) := by decide +kernel
theorem dX2_storeFirst_39 : decode cX2_storeFirst 39 = .ok (.getfield 64, 3) := by decide +kernel
theorem dX2_storeFirst_42 : decode cX2_storeFirst 42 = .ok (.iconst 0, 1) := by decide +kernel
theorem dX2_storeFirst_43 : decode cX2_storeFirst 43 = .ok (.iaload, 1) := by decide +kernel
theorem dX2_storeFirst_44 : decode cX2_storeFirst 44 = .ok (.invokevirtual 113, 3) := by decide +kernel
theorem dX2_storeFirst_47 : decode cX2_storeFirst 47 = .ok (.ifCond .ne 5, 3) := by decide +kernel
theorem dX2_storeFirst_50 : decode cX2_storeFirst 50 = .ok (.iconst 0, 1) := by decide +kernel
theorem dX2_storeFirst_51 : decode cX2_storeFirst 51 = .ok (.ireturn, 1) := by decide +kernel
theorem dX2_storeFirst_52 : decode cX2_storeFirst 52 = .ok (.aload_n 0, 1) := by decide +kernel
theorem dX2_storeFirst_53 : decode cX2_storeFirst 53 = .ok (.getfield 21, 3) := by decide +kernel
theorem dX2_storeFirst_56 : decode cX2_storeFirst 56 = .ok (.invokevirtual 117, 3) := by decide +kernel
theorem dX2_storeFirst_59 : decode cX2_storeFirst 59 = .ok (.iconst 1, 1) := by decide +kernel
theorem dX2_storeFirst_60 : decode cX2_storeFirst 60 = .ok (.ireturn, 1) := by decide +kernel
set_option maxRecDepth 20000 in
theorem ggX2_makeRoom_X1_hasRoom : GoodIn wsX2_makeRoom wsX1_hasRoom := goodIn_r _ [8, 9, 10, 74, 75, 76, 77, 78, 79, 80, 81, 82, 83, 84] (by decide +kernel) (by decide +kernel)
set_option maxRecDepth 20000 in
theorem gX2_makeRoom_X1_hasRoom : GoodIn wsX2_makeRoom (wsV RX2 120 RX1 yX1_hasRoom wsX1_hasRoom) := goodIn_app (goodIn_of _ (by decide +kernel)) ggX2_makeRoom_X1_hasRoom
set_option maxRecDepth 20000 in
theorem ggX2_makeRoom_X1_countFree : GoodIn wsX2_makeRoom wsX1_countFree := goodIn_r _ [14, 9, 10, 74, 75, 76, 77, 78, 79, 80, 81, 82, 83, 84] (by decide +kernel) (by decide +kernel)
set_option maxRecDepth 20000 in
theorem gX2_makeRoom_X1_countFree : GoodIn wsX2_makeRoom (wsV RX2 90 RX1 yX1_countFree wsX1_countFree) := goodIn_app (goodIn_of _ (by decide +kernel)) ggX2_makeRoom_X1_countFree
set_option maxRecDepth 20000 in
theorem ggX2_makeRoom_X1_leastWornFree : GoodIn wsX2_makeRoom wsX1_leastWornFree := goodIn_r _ [18, 9, 10, 19, 74, 75, 76, 77, 78, 79, 80, 81, 82, 83, 84] (by decide +kernel) (by decide +kernel)
set_option maxRecDepth 20000 in
theorem gX2_makeRoom_X1_leastWornFree : GoodIn wsX2_makeRoom (wsV RX2 123 RX1 yX1_leastWornFree wsX1_leastWornFree) := goodIn_app (goodIn_of _ (by decide +kernel)) ggX2_makeRoom_X1_leastWornFree
set_option maxRecDepth 20000 in
theorem ggX2_makeRoom_X1_wearGap : GoodIn wsX2_makeRoom wsX1_wearGap := goodIn_r _ [23, 19, 9, 24, 25, 26, 27, 28, 29, 30, 74, 75, 76, 77, 78, 79, 80, 81, 82, 83, 84] (by decide +kernel) (by decide +kernel)
set_option maxRecDepth 20000 in
theorem gX2_makeRoom_X1_wearGap : GoodIn wsX2_makeRoom (wsV RX2 126 RX1 yX1_wearGap wsX1_wearGap) := goodIn_app (goodIn_of _ (by decide +kernel)) ggX2_makeRoom_X1_wearGap
set_option maxRecDepth 20000 in
theorem ggX2_makeRoom_X1_victim : GoodIn wsX2_makeRoom wsX1_victim := goodIn_r _ [34, 9, 10, 19, 35, 36, 37, 7, 38, 39, 40, 41, 42, 43, 44, 45, 74, 75, 76, 77, 78, 79, 80, 81, 82, 83, 84] (by decide +kernel) (by decide +kernel)
set_option maxRecDepth 20000 in
theorem gX2_makeRoom_X1_victim : GoodIn wsX2_makeRoom (wsV RX2 129 RX1 yX1_victim wsX1_victim) := goodIn_app (goodIn_of _ (by decide +kernel)) ggX2_makeRoom_X1_victim
set_option maxRecDepth 20000 in
theorem ggX2_makeRoom_X2_collect : GoodIn wsX2_makeRoom wsX2_collect := goodIn_r _ [50, 1, 2, 51, 40, 41, 7, 42, 43, 44, 45, 52, 53, 54, 55, 10, 56, 57, 58, 59, 5, 6, 8, 9, 60, 61, 62, 63, 64, 65, 66, 67, 68, 69, 19, 70, 71, 72, 73, 74, 75, 76, 77, 78, 79, 80, 81, 82, 83, 84] (by decide +kernel) (by decide +kernel)
set_option maxRecDepth 20000 in
theorem gX2_makeRoom_X2_collect : GoodIn wsX2_makeRoom (wsV RX2 133 RX2 yX2_collect wsX2_collect) := goodIn_app (goodIn_of _ (by decide +kernel)) ggX2_makeRoom_X2_collect
theorem dX2_makeRoom_0 : decode cX2_makeRoom 0 = .ok (.iconst 0, 1) := by decide +kernel
theorem dX2_makeRoom_1 : decode cX2_makeRoom 1 = .ok (.istore_n 1, 1) := by decide +kernel
theorem dX2_makeRoom_2 : decode cX2_makeRoom 2 = .ok (.iconst 0, 1) := by decide +kernel
theorem dX2_makeRoom_3 : decode cX2_makeRoom 3 = .ok (.istore_n 2, 1) := by decide +kernel
theorem dX2_makeRoom_4 : decode cX2_makeRoom 4 = .ok (.iload_n 2, 1) := by decide +kernel
theorem dX2_makeRoom_5 : decode cX2_makeRoom 5 = .ok (.bipush 100, 2) := by decide +kernel
theorem dX2_makeRoom_7 : decode cX2_makeRoom 7 = .ok (.if_icmp .ge 113, 3) := by decide +kernel
theorem dX2_makeRoom_10 : decode cX2_makeRoom 10 = .ok (.aload_n 0, 1) := by decide +kernel
theorem dX2_makeRoom_11 : decode cX2_makeRoom 11 = .ok (.getfield 14, 3) := by decide +kernel
theorem dX2_makeRoom_14 : decode cX2_makeRoom 14 = .ok (.aload_n 0, 1) := by decide +kernel
theorem dX2_makeRoom_15 : decode cX2_makeRoom 15 = .ok (.getfield 29, 3) := by decide +kernel
theorem dX2_makeRoom_18 : decode cX2_makeRoom 18 = .ok (.invokevirtual 120, 3) := by decide +kernel
theorem dX2_makeRoom_21 : decode cX2_makeRoom 21 = .ok (.ifCond .ne 99, 3) := by decide +kernel
theorem dX2_makeRoom_24 : decode cX2_makeRoom 24 = .ok (.aload_n 0, 1) := by decide +kernel
theorem dX2_makeRoom_25 : decode cX2_makeRoom 25 = .ok (.getfield 14, 3) := by decide +kernel
theorem dX2_makeRoom_28 : decode cX2_makeRoom 28 = .ok (.invokevirtual 90, 3) := by decide +kernel
theorem dX2_makeRoom_31 : decode cX2_makeRoom 31 = .ok (.iconst 2, 1) := by decide +kernel
theorem dX2_makeRoom_32 : decode cX2_makeRoom 32 = .ok (.if_icmp .ge 7, 3) := by decide +kernel
theorem dX2_makeRoom_35 : decode cX2_makeRoom 35 = .ok (.iconst 1, 1) := by decide +kernel
theorem dX2_makeRoom_36 : decode cX2_makeRoom 36 = .ok (.goto 4, 3) := by decide +kernel
theorem dX2_makeRoom_39 : decode cX2_makeRoom 39 = .ok (.iconst 0, 1) := by decide +kernel
theorem dX2_makeRoom_40 : decode cX2_makeRoom 40 = .ok (.istore_n 3, 1) := by decide +kernel
theorem dX2_makeRoom_41 : decode cX2_makeRoom 41 = .ok (.aload_n 0, 1) := by decide +kernel
theorem dX2_makeRoom_42 : decode cX2_makeRoom 42 = .ok (.aload_n 0, 1) := by decide +kernel
theorem dX2_makeRoom_43 : decode cX2_makeRoom 43 = .ok (.getfield 14, 3) := by decide +kernel
theorem dX2_makeRoom_46 : decode cX2_makeRoom 46 = .ok (.invokevirtual 123, 3) := by decide +kernel
theorem dX2_makeRoom_49 : decode cX2_makeRoom 49 = .ok (.putfield 29, 3) := by decide +kernel
theorem dX2_makeRoom_52 : decode cX2_makeRoom 52 = .ok (.iload_n 3, 1) := by decide +kernel
theorem dX2_makeRoom_53 : decode cX2_makeRoom 53 = .ok (.ifCond .eq 61, 3) := by decide +kernel
theorem dX2_makeRoom_56 : decode cX2_makeRoom 56 = .ok (.iload_n 1, 1) := by decide +kernel
theorem dX2_makeRoom_57 : decode cX2_makeRoom 57 = .ok (.ifCond .ne 21, 3) := by decide +kernel
theorem dX2_makeRoom_60 : decode cX2_makeRoom 60 = .ok (.aload_n 0, 1) := by decide +kernel
theorem dX2_makeRoom_61 : decode cX2_makeRoom 61 = .ok (.getfield 14, 3) := by decide +kernel
theorem dX2_makeRoom_64 : decode cX2_makeRoom 64 = .ok (.invokevirtual 126, 3) := by decide +kernel
theorem dX2_makeRoom_67 : decode cX2_makeRoom 67 = .ok (.aload_n 0, 1) := by decide +kernel
theorem dX2_makeRoom_68 : decode cX2_makeRoom 68 = .ok (.getfield 25, 3) := by decide +kernel
theorem dX2_makeRoom_71 : decode cX2_makeRoom 71 = .ok (.if_icmp .le 7, 3) := by decide +kernel
theorem dX2_makeRoom_74 : decode cX2_makeRoom 74 = .ok (.iconst 1, 1) := by decide +kernel
theorem dX2_makeRoom_75 : decode cX2_makeRoom 75 = .ok (.goto 4, 3) := by decide +kernel
theorem dX2_makeRoom_78 : decode cX2_makeRoom 78 = .ok (.iconst 0, 1) := by decide +kernel
theorem dX2_makeRoom_79 : decode cX2_makeRoom 79 = .ok (.istore 4, 2) := by decide +kernel
theorem dX2_makeRoom_81 : decode cX2_makeRoom 81 = .ok (.iload_n 1, 1) := by decide +kernel
theorem dX2_makeRoom_82 : decode cX2_makeRoom 82 = .ok (.ifCond .ne 8, 3) := by decide +kernel
theorem dX2_makeRoom_85 : decode cX2_makeRoom 85 = .ok (.iload 4, 2) := by decide +kernel
theorem dX2_makeRoom_87 : decode cX2_makeRoom 87 = .ok (.ifCond .eq 7, 3) := by decide +kernel
theorem dX2_makeRoom_90 : decode cX2_makeRoom 90 = .ok (.iconst 1, 1) := by decide +kernel
theorem dX2_makeRoom_91 : decode cX2_makeRoom 91 = .ok (.goto 4, 3) := by decide +kernel
theorem dX2_makeRoom_94 : decode cX2_makeRoom 94 = .ok (.iconst 0, 1) := by decide +kernel
theorem dX2_makeRoom_95 : decode cX2_makeRoom 95 = .ok (.istore_n 1, 1) := by decide +kernel
theorem dX2_makeRoom_96 : decode cX2_makeRoom 96 = .ok (.aload_n 0, 1) := by decide +kernel
theorem dX2_makeRoom_97 : decode cX2_makeRoom 97 = .ok (.aload_n 0, 1) := by decide +kernel
theorem dX2_makeRoom_98 : decode cX2_makeRoom 98 = .ok (.getfield 14, 3) := by decide +kernel
theorem dX2_makeRoom_101 : decode cX2_makeRoom 101 = .ok (.iload 4, 2) := by decide +kernel
theorem dX2_makeRoom_103 : decode cX2_makeRoom 103 = .ok (.invokevirtual 129, 3) := by decide +kernel
theorem dX2_makeRoom_106 : decode cX2_makeRoom 106 = .ok (.invokevirtual 133, 3) := by decide +kernel
theorem dX2_makeRoom_109 : decode cX2_makeRoom 109 = .ok (.ifCond .ne 5, 3) := by decide +kernel
theorem dX2_makeRoom_112 : decode cX2_makeRoom 112 = .ok (.iconst 0, 1) := by decide +kernel
theorem dX2_makeRoom_113 : decode cX2_makeRoom 113 = .ok (.ireturn, 1) := by decide +kernel
theorem dX2_makeRoom_114 : decode cX2_makeRoom 114 = .ok (.iinc 2 1, 3) := by decide +kernel
theorem dX2_makeRoom_117 : decode cX2_makeRoom 117 = .ok (.goto (-113), 3) := by decide +kernel
theorem dX2_makeRoom_120 : decode cX2_makeRoom 120 = .ok (.iconst 1, 1) := by decide +kernel
theorem dX2_makeRoom_121 : decode cX2_makeRoom 121 = .ok (.ireturn, 1) := by decide +kernel
set_option maxRecDepth 20000 in
theorem ggX2_collect_X1_isValid : GoodIn wsX2_collect wsX1_isValid := goodIn_r _ [7, 8, 9, 10, 39, 40, 41, 42, 43, 44, 45, 46, 47, 48, 49] (by decide +kernel) (by decide +kernel)
set_option maxRecDepth 20000 in
theorem gX2_collect_X1_isValid : GoodIn wsX2_collect (wsV RX2 136 RX1 yX1_isValid wsX1_isValid) := goodIn_app (goodIn_of _ (by decide +kernel)) ggX2_collect_X1_isValid
set_option maxRecDepth 20000 in
theorem ggX2_collect_X1_program : GoodIn wsX2_collect wsX1_program := goodIn_r _ [14, 15, 10, 16, 8, 17, 18, 9, 19, 20, 21, 6, 22, 23, 24, 25, 26, 27, 28, 29, 39, 40, 41, 42, 43, 44, 45, 46, 47, 48, 49] (by decide +kernel) (by decide +kernel)
set_option maxRecDepth 20000 in
theorem gX2_collect_X1_program : GoodIn wsX2_collect (wsV RX2 113 RX1 yX1_program wsX1_program) := goodIn_app (goodIn_of _ (by decide +kernel)) ggX2_collect_X1_program
set_option maxRecDepth 20000 in
theorem ggX2_collect_X1_erase : GoodIn wsX2_collect wsX1_erase := goodIn_r _ [33, 8, 15, 34, 24, 25, 26, 6, 27, 28, 29, 39, 40, 41, 42, 43, 44, 45, 46, 47, 48, 49] (by decide +kernel) (by decide +kernel)
set_option maxRecDepth 20000 in
theorem gX2_collect_X1_erase : GoodIn wsX2_collect (wsV RX2 139 RX1 yX1_erase wsX1_erase) := goodIn_app (goodIn_of _ (by decide +kernel)) ggX2_collect_X1_erase
theorem dX2_collect_0 : decode cX2_collect 0 = .ok (.iload_n 1, 1) := by decide +kernel
theorem dX2_collect_1 : decode cX2_collect 1 = .ok (.iconst (-1), 1) := by decide +kernel
theorem dX2_collect_2 : decode cX2_collect 2 = .ok (.if_icmp .ne 5, 3) := by decide +kernel
theorem dX2_collect_5 : decode cX2_collect 5 = .ok (.iconst 0, 1) := by decide +kernel
theorem dX2_collect_6 : decode cX2_collect 6 = .ok (.ireturn, 1) := by decide +kernel
theorem dX2_collect_7 : decode cX2_collect 7 = .ok (.iload_n 1, 1) := by decide +kernel
theorem dX2_collect_8 : decode cX2_collect 8 = .ok (.iconst 4, 1) := by decide +kernel
theorem dX2_collect_9 : decode cX2_collect 9 = .ok (.imul, 1) := by decide +kernel
theorem dX2_collect_10 : decode cX2_collect 10 = .ok (.istore_n 2, 1) := by decide +kernel
theorem dX2_collect_11 : decode cX2_collect 11 = .ok (.iload_n 2, 1) := by decide +kernel
theorem dX2_collect_12 : decode cX2_collect 12 = .ok (.istore_n 3, 1) := by decide +kernel
theorem dX2_collect_13 : decode cX2_collect 13 = .ok (.iload_n 3, 1) := by decide +kernel
theorem dX2_collect_14 : decode cX2_collect 14 = .ok (.iload_n 2, 1) := by decide +kernel
theorem dX2_collect_15 : decode cX2_collect 15 = .ok (.iconst 4, 1) := by decide +kernel
theorem dX2_collect_16 : decode cX2_collect 16 = .ok (.iadd, 1) := by decide +kernel
theorem dX2_collect_17 : decode cX2_collect 17 = .ok (.if_icmp .ge 63, 3) := by decide +kernel
theorem dX2_collect_20 : decode cX2_collect 20 = .ok (.aload_n 0, 1) := by decide +kernel
theorem dX2_collect_21 : decode cX2_collect 21 = .ok (.getfield 14, 3) := by decide +kernel
theorem dX2_collect_24 : decode cX2_collect 24 = .ok (.iload_n 3, 1) := by decide +kernel
theorem dX2_collect_25 : decode cX2_collect 25 = .ok (.invokevirtual 136, 3) := by decide +kernel
theorem dX2_collect_28 : decode cX2_collect 28 = .ok (.ifCond .eq 46, 3) := by decide +kernel
theorem dX2_collect_31 : decode cX2_collect 31 = .ok (.aload_n 0, 1) := by decide +kernel
theorem dX2_collect_32 : decode cX2_collect 32 = .ok (.getfield 14, 3) := by decide +kernel
theorem dX2_collect_35 : decode cX2_collect 35 = .ok (.aload_n 0, 1) := by decide +kernel
theorem dX2_collect_36 : decode cX2_collect 36 = .ok (.getfield 29, 3) := by decide +kernel
theorem dX2_collect_39 : decode cX2_collect 39 = .ok (.aload_n 0, 1) := by decide +kernel
theorem dX2_collect_40 : decode cX2_collect 40 = .ok (.getfield 14, 3) := by decide +kernel
theorem dX2_collect_43 : decode cX2_collect 43 = .ok (.getfield 75, 3) := by decide +kernel
theorem dX2_collect_46 : decode cX2_collect 46 = .ok (.iload_n 3, 1) := by decide +kernel
theorem dX2_collect_47 : decode cX2_collect 47 = .ok (.iaload, 1) := by decide +kernel
theorem dX2_collect_48 : decode cX2_collect 48 = .ok (.aload_n 0, 1) := by decide +kernel
theorem dX2_collect_49 : decode cX2_collect 49 = .ok (.getfield 14, 3) := by decide +kernel
theorem dX2_collect_52 : decode cX2_collect 52 = .ok (.getfield 63, 3) := by decide +kernel
theorem dX2_collect_55 : decode cX2_collect 55 = .ok (.iload_n 3, 1) := by decide +kernel
theorem dX2_collect_56 : decode cX2_collect 56 = .ok (.iaload, 1) := by decide +kernel
theorem dX2_collect_57 : decode cX2_collect 57 = .ok (.aload_n 0, 1) := by decide +kernel
theorem dX2_collect_58 : decode cX2_collect 58 = .ok (.getfield 14, 3) := by decide +kernel
theorem dX2_collect_61 : decode cX2_collect 61 = .ok (.getfield 67, 3) := by decide +kernel
theorem dX2_collect_64 : decode cX2_collect 64 = .ok (.iload_n 3, 1) := by decide +kernel
theorem dX2_collect_65 : decode cX2_collect 65 = .ok (.iaload, 1) := by decide +kernel
theorem dX2_collect_66 : decode cX2_collect 66 = .ok (.invokevirtual 113, 3) := by decide +kernel
theorem dX2_collect_69 : decode cX2_collect 69 = .ok (.ifCond .ne 5, 3) := by decide +kernel
