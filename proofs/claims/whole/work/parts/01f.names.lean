theorem dX3_holds_48 : decode cX3_holds 48 = .ok (.iload_n 3, 1) := by decide +kernel
theorem dX3_holds_49 : decode cX3_holds 49 = .ok (.iconst (-1), 1) := by decide +kernel
theorem dX3_holds_50 : decode cX3_holds 50 = .ok (.if_icmp .ne 7, 3) := by decide +kernel
theorem dX3_holds_53 : decode cX3_holds 53 = .ok (.iconst 0, 1) := by decide +kernel
theorem dX3_holds_54 : decode cX3_holds 54 = .ok (.goto 9, 3) := by decide +kernel
theorem dX3_holds_57 : decode cX3_holds 57 = .ok (.aload_n 0, 1) := by decide +kernel
theorem dX3_holds_58 : decode cX3_holds 58 = .ok (.getfield 19, 3) := by decide +kernel
theorem dX3_holds_61 : decode cX3_holds 61 = .ok (.iload_n 3, 1) := by decide +kernel
theorem dX3_holds_62 : decode cX3_holds 62 = .ok (.iaload, 1) := by decide +kernel
theorem dX3_holds_63 : decode cX3_holds 63 = .ok (.ireturn, 1) := by decide +kernel
theorem dX3_buffered_0 : decode cX3_buffered 0 = .ok (.aload_n 0, 1) := by decide +kernel
theorem dX3_buffered_1 : decode cX3_buffered 1 = .ok (.getfield 100, 3) := by decide +kernel
theorem dX3_buffered_4 : decode cX3_buffered 4 = .ok (.ireturn, 1) := by decide +kernel
set_option maxRecDepth 20000 in
theorem ggX3_place_X3_isSector : GoodIn wsX3_place wsX3_isSector := goodIn_r _ [5, 6, 7, 8, 4, 9, 10, 17, 18, 19, 20, 21, 22, 23, 24, 25, 26, 27, 28, 29, 30, 31, 32] (by decide +kernel) (by decide +kernel)
set_option maxRecDepth 20000 in
theorem gX3_place_X3_isSector : GoodIn wsX3_place (wsV RX3 103 RX3 yX3_isSector wsX3_isSector) := goodIn_app (goodIn_of _ (by decide +kernel)) ggX3_place_X3_isSector
set_option maxRecDepth 20000 in
theorem ggX3_place_X3_newest : GoodIn wsX3_place wsX3_newest := goodIn_r _ [14, 10, 15, 16, 17, 18, 19, 20, 21, 22, 23, 24, 25, 26, 27, 28, 29, 30, 31, 32] (by decide +kernel) (by decide +kernel)
set_option maxRecDepth 20000 in
theorem gX3_place_X3_newest : GoodIn wsX3_place (wsV RX3 48 RX3 yX3_newest wsX3_newest) := goodIn_app (goodIn_of _ (by decide +kernel)) ggX3_place_X3_newest
theorem dX3_place_0 : decode cX3_place 0 = .ok (.aload_n 0, 1) := by decide +kernel
theorem dX3_place_1 : decode cX3_place 1 = .ok (.iload_n 1, 1) := by decide +kernel
theorem dX3_place_2 : decode cX3_place 2 = .ok (.invokevirtual 103, 3) := by decide +kernel
theorem dX3_place_5 : decode cX3_place 5 = .ok (.ifCond .eq 11, 3) := by decide +kernel
theorem dX3_place_8 : decode cX3_place 8 = .ok (.aload_n 0, 1) := by decide +kernel
theorem dX3_place_9 : decode cX3_place 9 = .ok (.iload_n 1, 1) := by decide +kernel
theorem dX3_place_10 : decode cX3_place 10 = .ok (.invokevirtual 48, 3) := by decide +kernel
theorem dX3_place_13 : decode cX3_place 13 = .ok (.goto 4, 3) := by decide +kernel
theorem dX3_place_16 : decode cX3_place 16 = .ok (.iconst (-1), 1) := by decide +kernel
theorem dX3_place_17 : decode cX3_place 17 = .ok (.ireturn, 1) := by decide +kernel
set_option maxRecDepth 20000 in
theorem ggX3_tag_X3_isPlace : GoodIn wsX3_tag wsX3_isPlace := goodIn_r _ [6, 7, 8, 9, 10, 11, 12, 13, 14, 15, 16, 17, 18, 19, 20, 21, 22, 23] (by decide +kernel) (by decide +kernel)
set_option maxRecDepth 20000 in
theorem gX3_tag_X3_isPlace : GoodIn wsX3_tag (wsV RX3 119 RX3 yX3_isPlace wsX3_isPlace) := goodIn_app (goodIn_of _ (by decide +kernel)) ggX3_tag_X3_isPlace
theorem dX3_tag_0 : decode cX3_tag 0 = .ok (.aload_n 0, 1) := by decide +kernel
theorem dX3_tag_1 : decode cX3_tag 1 = .ok (.iload_n 1, 1) := by decide +kernel
theorem dX3_tag_2 : decode cX3_tag 2 = .ok (.invokevirtual 119, 3) := by decide +kernel
theorem dX3_tag_5 : decode cX3_tag 5 = .ok (.ifCond .eq 12, 3) := by decide +kernel
theorem dX3_tag_8 : decode cX3_tag 8 = .ok (.aload_n 0, 1) := by decide +kernel
theorem dX3_tag_9 : decode cX3_tag 9 = .ok (.getfield 7, 3) := by decide +kernel
theorem dX3_tag_12 : decode cX3_tag 12 = .ok (.iload_n 1, 1) := by decide +kernel
theorem dX3_tag_13 : decode cX3_tag 13 = .ok (.iaload, 1) := by decide +kernel
theorem dX3_tag_14 : decode cX3_tag 14 = .ok (.goto 4, 3) := by decide +kernel
theorem dX3_tag_17 : decode cX3_tag 17 = .ok (.iconst (-1), 1) := by decide +kernel
theorem dX3_tag_18 : decode cX3_tag 18 = .ok (.ireturn, 1) := by decide +kernel
set_option maxRecDepth 20000 in
theorem ggX3_serial_X3_isPlace : GoodIn wsX3_serial wsX3_isPlace := goodIn_r _ [7, 8, 9, 10, 11, 12, 13, 14, 15, 16, 17, 18, 19, 20, 21, 22, 23, 24] (by decide +kernel) (by decide +kernel)
set_option maxRecDepth 20000 in
theorem gX3_serial_X3_isPlace : GoodIn wsX3_serial (wsV RX3 119 RX3 yX3_isPlace wsX3_isPlace) := goodIn_app (goodIn_of _ (by decide +kernel)) ggX3_serial_X3_isPlace
theorem dX3_serial_0 : decode cX3_serial 0 = .ok (.aload_n 0, 1) := by decide +kernel
theorem dX3_serial_1 : decode cX3_serial 1 = .ok (.iload_n 1, 1) := by decide +kernel
theorem dX3_serial_2 : decode cX3_serial 2 = .ok (.invokevirtual 119, 3) := by decide +kernel
theorem dX3_serial_5 : decode cX3_serial 5 = .ok (.ifCond .eq 22, 3) := by decide +kernel
theorem dX3_serial_8 : decode cX3_serial 8 = .ok (.aload_n 0, 1) := by decide +kernel
theorem dX3_serial_9 : decode cX3_serial 9 = .ok (.getfield 7, 3) := by decide +kernel
theorem dX3_serial_12 : decode cX3_serial 12 = .ok (.iload_n 1, 1) := by decide +kernel
theorem dX3_serial_13 : decode cX3_serial 13 = .ok (.iaload, 1) := by decide +kernel
theorem dX3_serial_14 : decode cX3_serial 14 = .ok (.iconst (-1), 1) := by decide +kernel
theorem dX3_serial_15 : decode cX3_serial 15 = .ok (.if_icmp .eq 12, 3) := by decide +kernel
theorem dX3_serial_18 : decode cX3_serial 18 = .ok (.aload_n 0, 1) := by decide +kernel
theorem dX3_serial_19 : decode cX3_serial 19 = .ok (.getfield 16, 3) := by decide +kernel
theorem dX3_serial_22 : decode cX3_serial 22 = .ok (.iload_n 1, 1) := by decide +kernel
theorem dX3_serial_23 : decode cX3_serial 23 = .ok (.iaload, 1) := by decide +kernel
theorem dX3_serial_24 : decode cX3_serial 24 = .ok (.goto 4, 3) := by decide +kernel
theorem dX3_serial_27 : decode cX3_serial 27 = .ok (.iconst (-1), 1) := by decide +kernel
theorem dX3_serial_28 : decode cX3_serial 28 = .ok (.ireturn, 1) := by decide +kernel
set_option maxRecDepth 20000 in
theorem ggX3_valid_X3_isBlock : GoodIn wsX3_valid wsX3_isBlock := goodIn_r _ [5, 6, 21, 22, 23, 24, 25, 26, 27, 28, 29, 30, 31, 32, 33, 34, 35, 36] (by decide +kernel) (by decide +kernel)
set_option maxRecDepth 20000 in
theorem gX3_valid_X3_isBlock : GoodIn wsX3_valid (wsV RX3 122 RX3 yX3_isBlock wsX3_isBlock) := goodIn_app (goodIn_of _ (by decide +kernel)) ggX3_valid_X3_isBlock
set_option maxRecDepth 20000 in
theorem ggX3_valid_X3_validIn : GoodIn wsX3_valid wsX3_validIn := goodIn_r _ [10, 11, 12, 13, 4, 14, 15, 16, 17, 18, 19, 6, 20, 21, 22, 23, 24, 25, 26, 27, 28, 29, 30, 31, 32, 33, 34, 35, 36] (by decide +kernel) (by decide +kernel)
set_option maxRecDepth 20000 in
theorem gX3_valid_X3_validIn : GoodIn wsX3_valid (wsV RX3 60 RX3 yX3_validIn wsX3_validIn) := goodIn_app (goodIn_of _ (by decide +kernel)) ggX3_valid_X3_validIn
theorem dX3_valid_0 : decode cX3_valid 0 = .ok (.aload_n 0, 1) := by decide +kernel
theorem dX3_valid_1 : decode cX3_valid 1 = .ok (.iload_n 1, 1) := by decide +kernel
theorem dX3_valid_2 : decode cX3_valid 2 = .ok (.invokevirtual 122, 3) := by decide +kernel
theorem dX3_valid_5 : decode cX3_valid 5 = .ok (.ifCond .eq 11, 3) := by decide +kernel
theorem dX3_valid_8 : decode cX3_valid 8 = .ok (.aload_n 0, 1) := by decide +kernel
theorem dX3_valid_9 : decode cX3_valid 9 = .ok (.iload_n 1, 1) := by decide +kernel
theorem dX3_valid_10 : decode cX3_valid 10 = .ok (.invokevirtual 60, 3) := by decide +kernel
theorem dX3_valid_13 : decode cX3_valid 13 = .ok (.goto 4, 3) := by decide +kernel
theorem dX3_valid_16 : decode cX3_valid 16 = .ok (.iconst (-1), 1) := by decide +kernel
theorem dX3_valid_17 : decode cX3_valid 17 = .ok (.ireturn, 1) := by decide +kernel
set_option maxRecDepth 20000 in
theorem ggX3_erasures_X3_isBlock : GoodIn wsX3_erasures wsX3_isBlock := goodIn_r _ [6, 7, 8, 9, 10, 11, 12, 13, 14, 15, 16, 17, 18, 19, 20, 21, 22, 23] (by decide +kernel) (by decide +kernel)
set_option maxRecDepth 20000 in
theorem gX3_erasures_X3_isBlock : GoodIn wsX3_erasures (wsV RX3 122 RX3 yX3_isBlock wsX3_isBlock) := goodIn_app (goodIn_of _ (by decide +kernel)) ggX3_erasures_X3_isBlock
theorem dX3_erasures_0 : decode cX3_erasures 0 = .ok (.aload_n 0, 1) := by decide +kernel
theorem dX3_erasures_1 : decode cX3_erasures 1 = .ok (.iload_n 1, 1) := by decide +kernel
theorem dX3_erasures_2 : decode cX3_erasures 2 = .ok (.invokevirtual 122, 3) := by decide +kernel
theorem dX3_erasures_5 : decode cX3_erasures 5 = .ok (.ifCond .eq 12, 3) := by decide +kernel
theorem dX3_erasures_8 : decode cX3_erasures 8 = .ok (.aload_n 0, 1) := by decide +kernel
theorem dX3_erasures_9 : decode cX3_erasures 9 = .ok (.getfield 22, 3) := by decide +kernel
theorem dX3_erasures_12 : decode cX3_erasures 12 = .ok (.iload_n 1, 1) := by decide +kernel
theorem dX3_erasures_13 : decode cX3_erasures 13 = .ok (.iaload, 1) := by decide +kernel
theorem dX3_erasures_14 : decode cX3_erasures 14 = .ok (.goto 4, 3) := by decide +kernel
theorem dX3_erasures_17 : decode cX3_erasures 17 = .ok (.iconst (-1), 1) := by decide +kernel
theorem dX3_erasures_18 : decode cX3_erasures 18 = .ok (.ireturn, 1) := by decide +kernel
theorem dX3_open_0 : decode cX3_open 0 = .ok (.aload_n 0, 1) := by decide +kernel
theorem dX3_open_1 : decode cX3_open 1 = .ok (.getfield 25, 3) := by decide +kernel
theorem dX3_open_4 : decode cX3_open 4 = .ok (.ireturn, 1) := by decide +kernel
set_option maxRecDepth 20000 in
theorem ggX3_free_X3_freeBlocks : GoodIn wsX3_free wsX3_freeBlocks := goodIn_r _ [5, 6, 7, 8, 9, 4, 10, 11, 12, 13, 14, 15, 16, 17, 18, 19, 20, 21, 22, 23, 24, 25, 26, 27] (by decide +kernel) (by decide +kernel)
set_option maxRecDepth 20000 in
theorem gX3_free_X3_freeBlocks : GoodIn wsX3_free (wsV RX3 84 RX3 yX3_freeBlocks wsX3_freeBlocks) := goodIn_app (goodIn_of _ (by decide +kernel)) ggX3_free_X3_freeBlocks
theorem dX3_free_0 : decode cX3_free 0 = .ok (.aload_n 0, 1) := by decide +kernel
theorem dX3_free_1 : decode cX3_free 1 = .ok (.invokevirtual 84, 3) := by decide +kernel
theorem dX3_free_4 : decode cX3_free 4 = .ok (.ireturn, 1) := by decide +kernel
theorem dX3_operations_0 : decode cX3_operations 0 = .ok (.aload_n 0, 1) := by decide +kernel
theorem dX3_operations_1 : decode cX3_operations 1 = .ok (.getfield 70, 3) := by decide +kernel
theorem dX3_operations_4 : decode cX3_operations 4 = .ok (.ireturn, 1) := by decide +kernel
theorem dJ9_max_7cf53_0 : decode cJ9_max_7cf53 0 = .ok (.iload_n 0, 1) := by decide +kernel
theorem dJ9_max_7cf53_1 : decode cJ9_max_7cf53 1 = .ok (.iload_n 1, 1) := by decide +kernel
theorem dJ9_max_7cf53_2 : decode cJ9_max_7cf53 2 = .ok (.if_icmp .lt 7, 3) := by decide +kernel
theorem dJ9_max_7cf53_5 : decode cJ9_max_7cf53 5 = .ok (.iload_n 0, 1) := by decide +kernel
theorem dJ9_max_7cf53_6 : decode cJ9_max_7cf53 6 = .ok (.goto 4, 3) := by decide +kernel
theorem dJ9_max_7cf53_9 : decode cJ9_max_7cf53 9 = .ok (.iload_n 1, 1) := by decide +kernel
theorem dJ9_max_7cf53_10 : decode cJ9_max_7cf53 10 = .ok (.ireturn, 1) := by decide +kernel
theorem dJ9_min_7cf53_0 : decode cJ9_min_7cf53 0 = .ok (.iload_n 0, 1) := by decide +kernel
theorem dJ9_min_7cf53_1 : decode cJ9_min_7cf53 1 = .ok (.iload_n 1, 1) := by decide +kernel
theorem dJ9_min_7cf53_2 : decode cJ9_min_7cf53 2 = .ok (.if_icmp .gt 7, 3) := by decide +kernel
theorem dJ9_min_7cf53_5 : decode cJ9_min_7cf53 5 = .ok (.iload_n 0, 1) := by decide +kernel
theorem dJ9_min_7cf53_6 : decode cJ9_min_7cf53 6 = .ok (.goto 4, 3) := by decide +kernel
theorem dJ9_min_7cf53_9 : decode cJ9_min_7cf53 9 = .ok (.iload_n 1, 1) := by decide +kernel
theorem dJ9_min_7cf53_10 : decode cJ9_min_7cf53 10 = .ok (.ireturn, 1) := by decide +kernel
theorem dL_cell_0 : decode cL_cell 0 = .ok (.iload_n 1, 1) := by decide +kernel
theorem dL_cell_1 : decode cL_cell 1 = .ok (.aload_n 0, 1) := by decide +kernel
theorem dL_cell_2 : decode cL_cell 2 = .ok (.arraylength, 1) := by decide +kernel
theorem dL_cell_3 : decode cL_cell 3 = .ok (.if_icmp .ge 9, 3) := by decide +kernel
theorem dL_cell_6 : decode cL_cell 6 = .ok (.aload_n 0, 1) := by decide +kernel
theorem dL_cell_7 : decode cL_cell 7 = .ok (.iload_n 1, 1) := by decide +kernel
theorem dL_cell_8 : decode cL_cell 8 = .ok (.iaload, 1) := by decide +kernel
theorem dL_cell_9 : decode cL_cell 9 = .ok (.goto 4, 3) := by decide +kernel
theorem dL_cell_12 : decode cL_cell 12 = .ok (.iconst 0, 1) := by decide +kernel
theorem dL_cell_13 : decode cL_cell 13 = .ok (.ireturn, 1) := by decide +kernel
set_option maxRecDepth 20000 in
theorem ggL_law_L_cell : GoodIn wsL_law wsL_cell := goodIn_r _ [9] (by decide +kernel) (by decide +kernel)
set_option maxRecDepth 20000 in
theorem gL_law_L_cell : GoodIn wsL_law (va_wsS RL 9 yL_cell wsL_cell) := goodIn_app (goodIn_of _ (by decide +kernel)) ggL_law_L_cell
set_option maxRecDepth 20000 in
theorem ggL_law_X2_init : GoodIn wsL_law wsX2_init := goodIn_r _ [12, 13, 14, 15, 16, 17, 18, 19, 20, 21, 22, 23, 24, 25, 26, 27, 28, 29, 30, 31, 32, 33, 34, 35, 36, 37, 38, 39, 40, 41, 42, 43, 44, 413, 414, 415, 416, 417, 418, 419, 420, 421, 422, 423, 393, 394, 395, 396, 424, 425, 426, 427] (by decide +kernel) (by decide +kernel)
set_option maxRecDepth 20000 in
theorem gL_law_X2_init : GoodIn wsL_law (wsX2_init) := ggL_law_X2_init
set_option maxRecDepth 20000 in
theorem ggL_law_X3_init : GoodIn wsL_law wsX3_init := goodIn_r _ [47, 48, 14, 15, 31, 49, 50, 51, 52, 53, 54, 55, 56, 57, 58, 59, 397, 398, 399, 400, 401, 402, 403, 404, 405, 406, 407, 408, 409, 410, 411, 412] (by decide +kernel) (by decide +kernel)
set_option maxRecDepth 20000 in
theorem gL_law_X3_init : GoodIn wsL_law (wsX3_init) := ggL_law_X3_init
set_option maxRecDepth 20000 in
theorem ggL_law_X2_sectors : GoodIn wsL_law wsX2_sectors := goodIn_r _ [63, 19, 393, 394, 395, 396, 413, 414, 415, 416, 417, 418, 419, 420, 421, 422, 423] (by decide +kernel) (by decide +kernel)
set_option maxRecDepth 20000 in
theorem gL_law_X2_sectors : GoodIn wsL_law (wsV RL 21 RX2 yX2_sectors wsX2_sectors) := goodIn_app (goodIn_of _ (by decide +kernel)) ggL_law_X2_sectors
set_option maxRecDepth 20000 in
theorem ggL_law_X3_sectors : GoodIn wsL_law wsX3_sectors := goodIn_r _ [67, 58, 397, 398, 399, 400, 401, 402, 403, 404, 405, 406, 407, 408, 409, 410, 411, 412] (by decide +kernel) (by decide +kernel)
set_option maxRecDepth 20000 in
theorem gL_law_X3_sectors : GoodIn wsL_law (wsV RL 25 RX3 yX3_sectors wsX3_sectors) := goodIn_app (goodIn_of _ (by decide +kernel)) ggL_law_X3_sectors
set_option maxRecDepth 20000 in
theorem ggL_law_X2_write : GoodIn wsL_law wsX2_write := goodIn_r _ [71, 72, 73, 74, 2, 75, 23, 76, 77, 78, 79, 19, 80, 81, 82, 22, 83, 84, 42, 85, 86, 87, 88, 43, 44, 89, 90, 91, 92, 93, 94, 95, 96, 25, 97, 98, 99, 100, 24, 101, 102, 103, 18, 104, 30, 36, 105, 106, 107, 108, 109, 110, 111, 112, 37, 113, 114, 115, 116, 117, 118, 119, 120, 121, 122, 123, 124, 125, 126, 127, 128, 129, 130, 131, 132, 133, 134, 135, 34, 38, 32, 136, 137, 138, 139, 140, 141, 142, 143, 144, 33, 35, 145, 146, 147, 148, 149, 150, 151, 152, 153, 154, 155, 156, 157, 158, 159, 160, 161, 162, 163, 164, 165, 166, 167, 168, 169, 170, 171, 172, 173, 174, 175, 176, 177, 178, 179, 180, 181, 182, 393, 394, 395, 396, 413, 414, 415, 416, 417, 418, 419, 420, 421, 422, 423, 424, 425, 426, 427] (by decide +kernel) (by decide +kernel)
set_option maxRecDepth 20000 in
theorem gL_law_X2_write : GoodIn wsL_law (wsV RL 26 RX2 yX2_write wsX2_write) := goodIn_app (goodIn_of _ (by decide +kernel)) ggL_law_X2_write
set_option maxRecDepth 20000 in
theorem ggL_law_X3_write : GoodIn wsL_law wsX3_write := goodIn_r _ [186, 187, 188, 189, 5, 190, 191, 55, 56, 57, 192, 193, 194, 195, 196, 65, 66, 67, 58, 197, 198, 199, 200, 201, 202, 203, 204, 205, 206, 207, 208, 54, 209, 210, 211, 212, 49, 213, 214, 215, 216, 217, 218, 219, 220, 53, 221, 222, 223, 224, 225, 226, 227, 228, 229, 230, 231, 232, 233, 51, 234, 235, 236, 237, 59, 238, 239, 240, 241, 50, 52, 242, 243, 244, 245, 246, 247, 248, 249, 250, 251, 252, 253, 254, 255, 256, 257, 397, 398, 399, 400, 401, 402, 403, 404, 405, 406, 407, 408, 409, 410, 411, 412] (by decide +kernel) (by decide +kernel)
set_option maxRecDepth 20000 in
theorem gL_law_X3_write : GoodIn wsL_law (wsV RL 30 RX3 yX3_write wsX3_write) := goodIn_app (goodIn_of _ (by decide +kernel)) ggL_law_X3_write
set_option maxRecDepth 20000 in
theorem ggL_law_X2_trim : GoodIn wsL_law wsX2_trim := goodIn_r _ [261, 72, 73, 74, 2, 75, 23, 76, 77, 78, 79, 19, 80, 81, 82, 22, 83, 84, 42, 85, 86, 87, 88, 43, 44, 89, 90, 91, 92, 93, 94, 95, 96, 25, 97, 98, 99, 100, 24, 101, 102, 103, 18, 104, 30, 36, 105, 106, 107, 108, 109, 110, 111, 112, 37, 113, 114, 115, 116, 117, 118, 119, 120, 121, 122, 123, 124, 125, 126, 127, 128, 129, 130, 131, 132, 133, 134, 135, 34, 38, 32, 136, 137, 138, 139, 140, 141, 142, 143, 144, 33, 35, 145, 146, 147, 148, 149, 150, 151, 152, 153, 154, 155, 156, 157, 158, 159, 160, 161, 162, 163, 164, 165, 166, 167, 168, 169, 170, 171, 172, 173, 174, 175, 176, 177, 178, 179, 180, 181, 182, 393, 394, 395, 396, 413, 414, 415, 416, 417, 418, 419, 420, 421, 422, 423, 424, 425, 426, 427] (by decide +kernel) (by decide +kernel)
set_option maxRecDepth 20000 in
theorem gL_law_X2_trim : GoodIn wsL_law (wsV RL 31 RX2 yX2_trim wsX2_trim) := goodIn_app (goodIn_of _ (by decide +kernel)) ggL_law_X2_trim
set_option maxRecDepth 20000 in
theorem ggL_law_X3_trim : GoodIn wsL_law wsX3_trim := goodIn_r _ [265, 187, 188, 189, 5, 190, 191, 55, 56, 57, 192, 193, 194, 195, 196, 65, 66, 67, 58, 197, 198, 199, 200, 201, 202, 203, 204, 205, 206, 207, 208, 54, 209, 210, 211, 212, 49, 213, 214, 215, 216, 217, 218, 219, 220, 53, 221, 222, 223, 224, 225, 226, 227, 228, 229, 230, 231, 232, 233, 51, 234, 235, 236, 237, 59, 238, 239, 240, 241, 50, 52, 242, 243, 244, 245, 246, 247, 248, 249, 250, 251, 252, 253, 254, 255, 256, 257, 397, 398, 399, 400, 401, 402, 403, 404, 405, 406, 407, 408, 409, 410, 411, 412] (by decide +kernel) (by decide +kernel)
set_option maxRecDepth 20000 in
theorem gL_law_X3_trim : GoodIn wsL_law (wsV RL 35 RX3 yX3_trim wsX3_trim) := goodIn_app (goodIn_of _ (by decide +kernel)) ggL_law_X3_trim
set_option maxRecDepth 20000 in
theorem ggL_law_X2_flush : GoodIn wsL_law wsX2_flush := goodIn_r _ [269, 23, 93, 94, 95, 2, 96, 19, 25, 97, 98, 99, 100, 24, 101, 102, 103, 18, 104, 30, 36, 105, 106, 107, 108, 109, 110, 111, 112, 37, 113, 114, 115, 116, 117, 118, 119, 120, 121, 122, 123, 124, 125, 126, 127, 128, 129, 130, 131, 132, 133, 134, 135, 34, 38, 32, 136, 137, 138, 139, 140, 141, 142, 143, 144, 33, 35, 145, 146, 147, 148, 149, 150, 151, 152, 153, 154, 155, 156, 157, 158, 159, 22, 160, 84, 42, 43, 44, 161, 162, 163, 164, 165, 166, 167, 168, 169, 170, 171, 172, 173, 174, 175, 176, 393, 394, 395, 396, 424, 425, 426, 427, 413, 414, 415, 416, 417, 418, 419, 420, 421, 422, 423] (by decide +kernel) (by decide +kernel)
set_option maxRecDepth 20000 in
theorem gL_law_X2_flush : GoodIn wsL_law (wsV RL 36 RX2 yX2_flush wsX2_flush) := goodIn_app (goodIn_of _ (by decide +kernel)) ggL_law_X2_flush
set_option maxRecDepth 20000 in
theorem ggL_law_X3_flush : GoodIn wsL_law wsX3_flush := goodIn_r _ [273, 191, 201, 202, 203, 5, 204, 55, 56, 57, 205, 206, 207, 208, 54, 209, 210, 211, 212, 49, 213, 214, 215, 216, 58, 217, 218, 219, 220, 53, 221, 222, 223, 224, 225, 226, 227, 228, 229, 230, 231, 232, 233, 51, 234, 235, 236, 237, 59, 238, 239, 240, 241, 50, 52, 242, 243, 244, 245, 246, 247, 248, 249, 250, 251, 252, 253, 254, 255, 256, 257, 397, 398, 399, 400, 401, 402, 403, 404, 405, 406, 407, 408, 409, 410, 411, 412] (by decide +kernel) (by decide +kernel)
set_option maxRecDepth 20000 in
theorem gL_law_X3_flush : GoodIn wsL_law (wsV RL 39 RX3 yX3_flush wsX3_flush) := goodIn_app (goodIn_of _ (by decide +kernel)) ggL_law_X3_flush
set_option maxRecDepth 20000 in
theorem ggL_law_X2_cut : GoodIn wsL_law wsX2_cut := goodIn_r _ [277, 161, 162, 163, 2, 164, 165, 166, 167, 168, 23, 19, 25, 169, 170, 171, 18, 172, 30, 36, 173, 174, 175, 176, 35, 34, 121, 122, 119, 123, 105, 106, 107, 108, 124, 125, 126, 127, 37, 128, 129, 130, 131, 132, 133, 134, 135, 38, 32, 136, 137, 138, 139, 140, 141, 142, 143, 144, 33, 145, 146, 102, 103, 104, 147, 148, 149, 150, 151, 152, 153, 154, 155, 156, 393, 394, 395, 396, 424, 425, 426, 427, 413, 414, 415, 416, 417, 418, 419, 420, 421, 422, 423] (by decide +kernel) (by decide +kernel)
set_option maxRecDepth 20000 in
theorem gL_law_X2_cut : GoodIn wsL_law (wsV RL 40 RX2 yX2_cut wsX2_cut) := goodIn_app (goodIn_of _ (by decide +kernel)) ggL_law_X2_cut
set_option maxRecDepth 20000 in
theorem ggL_law_X3_cut : GoodIn wsL_law wsX3_cut := goodIn_r _ [257, 252, 191, 54, 246, 58, 49, 51, 209, 210, 211, 5, 212, 213, 214, 215, 216, 217, 218, 219, 220, 53, 221, 222, 223, 224, 225, 226, 227, 228, 229, 230, 231, 232, 233, 238, 239, 240, 241, 50, 52, 242, 243, 244, 245, 247, 248, 249, 250, 251, 253, 397, 398, 399, 400, 401, 402, 403, 404, 405, 406, 407, 408, 409, 410, 411, 412] (by decide +kernel) (by decide +kernel)
set_option maxRecDepth 20000 in
theorem gL_law_X3_cut : GoodIn wsL_law (wsV RL 43 RX3 yX3_cut wsX3_cut) := goodIn_app (goodIn_of _ (by decide +kernel)) ggL_law_X3_cut
set_option maxRecDepth 20000 in
theorem ggL_law_X2_fuse : GoodIn wsL_law wsX2_fuse := goodIn_r _ [282, 19, 393, 394, 395, 396, 413, 414, 415, 416, 417, 418, 419, 420, 421, 422, 423] (by decide +kernel) (by decide +kernel)
set_option maxRecDepth 20000 in
theorem gL_law_X2_fuse : GoodIn wsL_law (wsV RL 44 RX2 yX2_fuse wsX2_fuse) := goodIn_app (goodIn_of _ (by decide +kernel)) ggL_law_X2_fuse
set_option maxRecDepth 20000 in
theorem ggL_law_X3_fuse : GoodIn wsL_law wsX3_fuse := goodIn_r _ [286, 251, 397, 398, 399, 400, 401, 402, 403, 404, 405, 406, 407, 408, 409, 410, 411, 412] (by decide +kernel) (by decide +kernel)
set_option maxRecDepth 20000 in
theorem gL_law_X3_fuse : GoodIn wsL_law (wsV RL 48 RX3 yX3_fuse wsX3_fuse) := goodIn_app (goodIn_of _ (by decide +kernel)) ggL_law_X3_fuse
set_option maxRecDepth 20000 in
theorem ggL_law_X2_read : GoodIn wsL_law wsX2_read := goodIn_r _ [290, 23, 19, 80, 81, 82, 22, 83, 84, 42, 291, 292, 293, 2, 294, 76, 77, 78, 79, 393, 394, 395, 396, 424, 425, 426, 427, 413, 414, 415, 416, 417, 418, 419, 420, 421, 422, 423] (by decide +kernel) (by decide +kernel)
set_option maxRecDepth 20000 in
theorem gL_law_X2_read : GoodIn wsL_law (wsV RL 49 RX2 yX2_read wsX2_read) := goodIn_app (goodIn_of _ (by decide +kernel)) ggL_law_X2_read
set_option maxRecDepth 20000 in
theorem ggL_law_X3_read : GoodIn wsL_law wsX3_read := goodIn_r _ [298, 56, 50, 192, 193, 194, 5, 195, 196, 65, 66, 67, 58, 197, 198, 199, 200, 191, 55, 230, 231, 232, 233, 49, 51, 397, 398, 399, 400, 401, 402, 403, 404, 405, 406, 407, 408, 409, 410, 411, 412] (by decide +kernel) (by decide +kernel)
set_option maxRecDepth 20000 in
theorem gL_law_X3_read : GoodIn wsL_law (wsV RL 52 RX3 yX3_read wsX3_read) := goodIn_app (goodIn_of _ (by decide +kernel)) ggL_law_X3_read
set_option maxRecDepth 20000 in
theorem ggL_law_X2_holds : GoodIn wsL_law wsX2_holds := goodIn_r _ [302, 23, 19, 80, 81, 82, 22, 83, 84, 42, 291, 292, 293, 2, 294, 76, 77, 78, 79, 393, 394, 395, 396, 424, 425, 426, 427, 413, 414, 415, 416, 417, 418, 419, 420, 421, 422, 423] (by decide +kernel) (by decide +kernel)
set_option maxRecDepth 20000 in
theorem gL_law_X2_holds : GoodIn wsL_law (wsV RL 53 RX2 yX2_holds wsX2_holds) := goodIn_app (goodIn_of _ (by decide +kernel)) ggL_law_X2_holds
set_option maxRecDepth 20000 in
theorem ggL_law_X3_holds : GoodIn wsL_law wsX3_holds := goodIn_r _ [306, 57, 52, 192, 193, 194, 5, 195, 196, 65, 66, 67, 58, 197, 198, 199, 200, 191, 55, 230, 231, 232, 233, 49, 51, 397, 398, 399, 400, 401, 402, 403, 404, 405, 406, 407, 408, 409, 410, 411, 412] (by decide +kernel) (by decide +kernel)
set_option maxRecDepth 20000 in
theorem gL_law_X3_holds : GoodIn wsL_law (wsV RL 56 RX3 yX3_holds wsX3_holds) := goodIn_app (goodIn_of _ (by decide +kernel)) ggL_law_X3_holds
set_option maxRecDepth 20000 in
theorem ggL_law_X2_buffered : GoodIn wsL_law wsX2_buffered := goodIn_r _ [310, 23, 393, 394, 395, 396, 424, 425, 426, 427] (by decide +kernel) (by decide +kernel)
set_option maxRecDepth 20000 in
theorem gL_law_X2_buffered : GoodIn wsL_law (wsV RL 57 RX2 yX2_buffered wsX2_buffered) := goodIn_app (goodIn_of _ (by decide +kernel)) ggL_law_X2_buffered
set_option maxRecDepth 20000 in
theorem ggL_law_X3_buffered : GoodIn wsL_law wsX3_buffered := goodIn_r _ [314, 191, 397, 398, 399, 400, 401, 402, 403, 404, 405, 406, 407, 408, 409, 410, 411, 412] (by decide +kernel) (by decide +kernel)
set_option maxRecDepth 20000 in
theorem gL_law_X3_buffered : GoodIn wsL_law (wsV RL 60 RX3 yX3_buffered wsX3_buffered) := goodIn_app (goodIn_of _ (by decide +kernel)) ggL_law_X3_buffered
set_option maxRecDepth 20000 in
theorem ggL_law_X2_place : GoodIn wsL_law wsX2_place := goodIn_r _ [294, 19, 76, 77, 78, 2, 79, 393, 394, 395, 396, 413, 414, 415, 416, 417, 418, 419, 420, 421, 422, 423] (by decide +kernel) (by decide +kernel)
set_option maxRecDepth 20000 in
theorem gL_law_X2_place : GoodIn wsL_law (wsV RL 61 RX2 yX2_place wsX2_place) := goodIn_app (goodIn_of _ (by decide +kernel)) ggL_law_X2_place
set_option maxRecDepth 20000 in
theorem ggL_law_X3_place : GoodIn wsL_law wsX3_place := goodIn_r _ [319, 192, 193, 194, 5, 195, 196, 65, 66, 67, 58, 230, 231, 232, 233, 49, 51, 397, 398, 399, 400, 401, 402, 403, 404, 405, 406, 407, 408, 409, 410, 411, 412] (by decide +kernel) (by decide +kernel)
set_option maxRecDepth 20000 in
theorem gL_law_X3_place : GoodIn wsL_law (wsV RL 64 RX3 yX3_place wsX3_place) := goodIn_app (goodIn_of _ (by decide +kernel)) ggL_law_X3_place
set_option maxRecDepth 20000 in
theorem ggL_law_X2_tag : GoodIn wsL_law wsX2_tag := goodIn_r _ [323, 19, 324, 325, 326, 18, 327, 34, 393, 394, 395, 396, 413, 414, 415, 416, 417, 418, 419, 420, 421, 422, 423] (by decide +kernel) (by decide +kernel)
set_option maxRecDepth 20000 in
theorem gL_law_X2_tag : GoodIn wsL_law (wsV RL 65 RX2 yX2_tag wsX2_tag) := goodIn_app (goodIn_of _ (by decide +kernel)) ggL_law_X2_tag
set_option maxRecDepth 20000 in
theorem ggL_law_X3_tag : GoodIn wsL_law wsX3_tag := goodIn_r _ [331, 49, 332, 333, 334, 5, 335, 58, 397, 398, 399, 400, 401, 402, 403, 404, 405, 406, 407, 408, 409, 410, 411, 412] (by decide +kernel) (by decide +kernel)
set_option maxRecDepth 20000 in
theorem gL_law_X3_tag : GoodIn wsL_law (wsV RL 68 RX3 yX3_tag wsX3_tag) := goodIn_app (goodIn_of _ (by decide +kernel)) ggL_law_X3_tag
set_option maxRecDepth 20000 in
theorem ggL_law_X2_serial : GoodIn wsL_law wsX2_serial := goodIn_r _ [339, 19, 324, 325, 326, 18, 327, 34, 393, 394, 395, 396, 413, 414, 415, 416, 417, 418, 419, 420, 421, 422, 423] (by decide +kernel) (by decide +kernel)
set_option maxRecDepth 20000 in
theorem gL_law_X2_serial : GoodIn wsL_law (wsV RL 69 RX2 yX2_serial wsX2_serial) := goodIn_app (goodIn_of _ (by decide +kernel)) ggL_law_X2_serial
set_option maxRecDepth 20000 in
theorem ggL_law_X3_serial : GoodIn wsL_law wsX3_serial := goodIn_r _ [343, 49, 51, 332, 333, 334, 5, 335, 58, 397, 398, 399, 400, 401, 402, 403, 404, 405, 406, 407, 408, 409, 410, 411, 412] (by decide +kernel) (by decide +kernel)
set_option maxRecDepth 20000 in
theorem gL_law_X3_serial : GoodIn wsL_law (wsV RL 72 RX3 yX3_serial wsX3_serial) := goodIn_app (goodIn_of _ (by decide +kernel)) ggL_law_X3_serial
set_option maxRecDepth 20000 in
theorem ggL_law_X2_valid : GoodIn wsL_law wsX2_valid := goodIn_r _ [347, 19, 348, 349, 350, 18, 351, 30, 352, 129, 130, 131, 132, 133, 134, 135, 34, 38, 32, 393, 394, 395, 396, 413, 414, 415, 416, 417, 418, 419, 420, 421, 422, 423] (by decide +kernel) (by decide +kernel)
set_option maxRecDepth 20000 in
theorem gL_law_X2_valid : GoodIn wsL_law (wsV RL 73 RX2 yX2_valid wsX2_valid) := goodIn_app (goodIn_of _ (by decide +kernel)) ggL_law_X2_valid
set_option maxRecDepth 20000 in
theorem ggL_law_X3_valid : GoodIn wsL_law wsX3_valid := goodIn_r _ [356, 357, 358, 359, 5, 360, 58, 222, 223, 224, 225, 226, 227, 228, 229, 49, 230, 231, 232, 233, 51, 397, 398, 399, 400, 401, 402, 403, 404, 405, 406, 407, 408, 409, 410, 411, 412] (by decide +kernel) (by decide +kernel)
set_option maxRecDepth 20000 in
theorem gL_law_X3_valid : GoodIn wsL_law (wsV RL 76 RX3 yX3_valid wsX3_valid) := goodIn_app (goodIn_of _ (by decide +kernel)) ggL_law_X3_valid
set_option maxRecDepth 20000 in
theorem ggL_law_X2_erasures : GoodIn wsL_law wsX2_erasures := goodIn_r _ [364, 19, 348, 349, 350, 18, 351, 30, 393, 394, 395, 396, 413, 414, 415, 416, 417, 418, 419, 420, 421, 422, 423] (by decide +kernel) (by decide +kernel)
set_option maxRecDepth 20000 in
theorem gL_law_X2_erasures : GoodIn wsL_law (wsV RL 77 RX2 yX2_erasures wsX2_erasures) := goodIn_app (goodIn_of _ (by decide +kernel)) ggL_law_X2_erasures
set_option maxRecDepth 20000 in
theorem ggL_law_X3_erasures : GoodIn wsL_law wsX3_erasures := goodIn_r _ [368, 53, 357, 358, 359, 5, 360, 58, 397, 398, 399, 400, 401, 402, 403, 404, 405, 406, 407, 408, 409, 410, 411, 412] (by decide +kernel) (by decide +kernel)
set_option maxRecDepth 20000 in
theorem gL_law_X3_erasures : GoodIn wsL_law (wsV RL 80 RX3 yX3_erasures wsX3_erasures) := goodIn_app (goodIn_of _ (by decide +kernel)) ggL_law_X3_erasures
set_option maxRecDepth 20000 in
theorem ggL_law_X2_open : GoodIn wsL_law wsX2_open := goodIn_r _ [372, 25, 393, 394, 395, 396] (by decide +kernel) (by decide +kernel)
set_option maxRecDepth 20000 in
theorem gL_law_X2_open : GoodIn wsL_law (wsV RL 81 RX2 yX2_open wsX2_open) := goodIn_app (goodIn_of _ (by decide +kernel)) ggL_law_X2_open
set_option maxRecDepth 20000 in
theorem ggL_law_X3_open : GoodIn wsL_law wsX3_open := goodIn_r _ [376, 54, 397, 398, 399, 400, 401, 402, 403, 404, 405, 406, 407, 408, 409, 410, 411, 412] (by decide +kernel) (by decide +kernel)
set_option maxRecDepth 20000 in
theorem gL_law_X3_open : GoodIn wsL_law (wsV RL 84 RX3 yX3_open wsX3_open) := goodIn_app (goodIn_of _ (by decide +kernel)) ggL_law_X3_open
set_option maxRecDepth 20000 in
theorem ggL_law_X2_free : GoodIn wsL_law wsX2_free := goodIn_r _ [380, 19, 105, 106, 107, 18, 108, 30, 36, 393, 394, 395, 396, 413, 414, 415, 416, 417, 418, 419, 420, 421, 422, 423] (by decide +kernel) (by decide +kernel)
set_option maxRecDepth 20000 in
theorem gL_law_X2_free : GoodIn wsL_law (wsV RL 85 RX2 yX2_free wsX2_free) := goodIn_app (goodIn_of _ (by decide +kernel)) ggL_law_X2_free
set_option maxRecDepth 20000 in
theorem ggL_law_X3_free : GoodIn wsL_law wsX3_free := goodIn_r _ [384, 213, 214, 215, 5, 216, 58, 209, 210, 211, 212, 49, 397, 398, 399, 400, 401, 402, 403, 404, 405, 406, 407, 408, 409, 410, 411, 412] (by decide +kernel) (by decide +kernel)
set_option maxRecDepth 20000 in
theorem gL_law_X3_free : GoodIn wsL_law (wsV RL 88 RX3 yX3_free wsX3_free) := goodIn_app (goodIn_of _ (by decide +kernel)) ggL_law_X3_free
set_option maxRecDepth 20000 in
theorem ggL_law_X2_operations : GoodIn wsL_law wsX2_operations := goodIn_r _ [388, 19, 393, 394, 395, 396, 413, 414, 415, 416, 417, 418, 419, 420, 421, 422, 423] (by decide +kernel) (by decide +kernel)
set_option maxRecDepth 20000 in
theorem gL_law_X2_operations : GoodIn wsL_law (wsV RL 89 RX2 yX2_operations wsX2_operations) := goodIn_app (goodIn_of _ (by decide +kernel)) ggL_law_X2_operations
set_option maxRecDepth 20000 in
theorem ggL_law_X3_operations : GoodIn wsL_law wsX3_operations := goodIn_r _ [392, 253, 397, 398, 399, 400, 401, 402, 403, 404, 405, 406, 407, 408, 409, 410, 411, 412] (by decide +kernel) (by decide +kernel)
set_option maxRecDepth 20000 in
theorem gL_law_X3_operations : GoodIn wsL_law (wsV RL 92 RX3 yX3_operations wsX3_operations) := goodIn_app (goodIn_of _ (by decide +kernel)) ggL_law_X3_operations
theorem dL_law_0 : decode cL_law 0 = .ok (.new 7, 3) := by decide +kernel
theorem dL_law_3 : decode cL_law 3 = .ok (.dup, 1) := by decide +kernel
theorem dL_law_4 : decode cL_law 4 = .ok (.aload_n 0, 1) := by decide +kernel
theorem dL_law_5 : decode cL_law 5 = .ok (.iconst 0, 1) := by decide +kernel
theorem dL_law_6 : decode cL_law 6 = .ok (.invokestatic 9, 3) := by decide +kernel
theorem dL_law_9 : decode cL_law 9 = .ok (.aload_n 0, 1) := by decide +kernel
theorem dL_law_10 : decode cL_law 10 = .ok (.iconst 1, 1) := by decide +kernel
theorem dL_law_11 : decode cL_law 11 = .ok (.invokestatic 9, 3) := by decide +kernel
theorem dL_law_14 : decode cL_law 14 = .ok (.invokespecial 15, 3) := by decide +kernel
theorem dL_law_17 : decode cL_law 17 = .ok (.astore_n 1, 1) := by decide +kernel
theorem dL_law_18 : decode cL_law 18 = .ok (.new 18, 3) := by decide +kernel
theorem dL_law_21 : decode cL_law 21 = .ok (.dup, 1) := by decide +kernel
theorem dL_law_22 : decode cL_law 22 = .ok (.aload_n 0, 1) := by decide +kernel
theorem dL_law_23 : decode cL_law 23 = .ok (.iconst 0, 1) := by decide +kernel
theorem dL_law_24 : decode cL_law 24 = .ok (.invokestatic 9, 3) := by decide +kernel
theorem dL_law_27 : decode cL_law 27 = .ok (.aload_n 0, 1) := by decide +kernel
theorem dL_law_28 : decode cL_law 28 = .ok (.iconst 1, 1) := by decide +kernel
theorem dL_law_29 : decode cL_law 29 = .ok (.invokestatic 9, 3) := by decide +kernel
theorem dL_law_32 : decode cL_law 32 = .ok (.invokespecial 20, 3) := by decide +kernel
theorem dL_law_35 : decode cL_law 35 = .ok (.astore_n 2, 1) := by decide +kernel
theorem dL_law_36 : decode cL_law 36 = .ok (.iconst 2, 1) := by decide +kernel
theorem dL_law_37 : decode cL_law 37 = .ok (.istore_n 3, 1) := by decide +kernel
theorem dL_law_38 : decode cL_law 38 = .ok (.iload_n 3, 1) := by decide +kernel
theorem dL_law_39 : decode cL_law 39 = .ok (.aload_n 0, 1) := by decide +kernel
theorem dL_law_40 : decode cL_law 40 = .ok (.arraylength, 1) := by decide +kernel
theorem dL_law_41 : decode cL_law 41 = .ok (.iconst 3, 1) := by decide +kernel
theorem dL_law_42 : decode cL_law 42 = .ok (.isub, 1) := by decide +kernel
theorem dL_law_43 : decode cL_law 43 = .ok (.if_icmp .gt 428, 3) := by decide +kernel
theorem dL_law_46 : decode cL_law 46 = .ok (.aload_n 0, 1) := by decide +kernel
theorem dL_law_47 : decode cL_law 47 = .ok (.iload_n 3, 1) := by decide +kernel
theorem dL_law_48 : decode cL_law 48 = .ok (.iaload, 1) := by decide +kernel
theorem dL_law_49 : decode cL_law 49 = .ok (.bipush 31, 2) := by decide +kernel
theorem dL_law_51 : decode cL_law 51 = .ok (.iand, 1) := by decide +kernel
theorem dL_law_52 : decode cL_law 52 = .ok (.tableswitch 413 0 16 #[84, 97, 130, 153, 166, 177, 200, 223, 246, 259, 282, 305, 328, 351, 374, 387, 400], 84) := by decide +kernel
theorem dL_law_136 : decode cL_law 136 = .ok (.aload_n 1, 1) := by decide +kernel
theorem dL_law_137 : decode cL_law 137 = .ok (.invokevirtual 21, 3) := by decide +kernel
theorem dL_law_140 : decode cL_law 140 = .ok (.aload_n 2, 1) := by decide +kernel
theorem dL_law_141 : decode cL_law 141 = .ok (.invokevirtual 25, 3) := by decide +kernel
theorem dL_law_144 : decode cL_law 144 = .ok (.if_icmp .eq 321, 3) := by decide +kernel
theorem dL_law_147 : decode cL_law 147 = .ok (.iconst 0, 1) := by decide +kernel
theorem dL_law_148 : decode cL_law 148 = .ok (.ireturn, 1) := by decide +kernel
theorem dL_law_149 : decode cL_law 149 = .ok (.aload_n 1, 1) := by decide +kernel
theorem dL_law_150 : decode cL_law 150 = .ok (.aload_n 0, 1) := by decide +kernel
theorem dL_law_151 : decode cL_law 151 = .ok (.iload_n 3, 1) := by decide +kernel
theorem dL_law_152 : decode cL_law 152 = .ok (.iconst 1, 1) := by decide +kernel
theorem dL_law_153 : decode cL_law 153 = .ok (.iadd, 1) := by decide +kernel
theorem dL_law_154 : decode cL_law 154 = .ok (.iaload, 1) := by decide +kernel
theorem dL_law_155 : decode cL_law 155 = .ok (.aload_n 0, 1) := by decide +kernel
theorem dL_law_156 : decode cL_law 156 = .ok (.iload_n 3, 1) := by decide +kernel
theorem dL_law_157 : decode cL_law 157 = .ok (.iconst 2, 1) := by decide +kernel
theorem dL_law_158 : decode cL_law 158 = .ok (.iadd, 1) := by decide +kernel
theorem dL_law_159 : decode cL_law 159 = .ok (.iaload, 1) := by decide +kernel
theorem dL_law_160 : decode cL_law 160 = .ok (.invokevirtual 26, 3) := by decide +kernel
theorem dL_law_163 : decode cL_law 163 = .ok (.aload_n 2, 1) := by decide +kernel
theorem dL_law_164 : decode cL_law 164 = .ok (.aload_n 0, 1) := by decide +kernel
theorem dL_law_165 : decode cL_law 165 = .ok (.iload_n 3, 1) := by decide +kernel
theorem dL_law_166 : decode cL_law 166 = .ok (.iconst 1, 1) := by decide +kernel
theorem dL_law_167 : decode cL_law 167 = .ok (.iadd, 1) := by decide +kernel
theorem dL_law_168 : decode cL_law 168 = .ok (.iaload, 1) := by decide +kernel
theorem dL_law_169 : decode cL_law 169 = .ok (.aload_n 0, 1) := by decide +kernel
theorem dL_law_170 : decode cL_law 170 = .ok (.iload_n 3, 1) := by decide +kernel
theorem dL_law_171 : decode cL_law 171 = .ok (.iconst 2, 1) := by decide +kernel
theorem dL_law_172 : decode cL_law 172 = .ok (.iadd, 1) := by decide +kernel
theorem dL_law_173 : decode cL_law 173 = .ok (.iaload, 1) := by decide +kernel
theorem dL_law_174 : decode cL_law 174 = .ok (.invokevirtual 30, 3) := by decide +kernel
theorem dL_law_177 : decode cL_law 177 = .ok (.if_icmp .eq 288, 3) := by decide +kernel
theorem dL_law_180 : decode cL_law 180 = .ok (.iconst 0, 1) := by decide +kernel
theorem dL_law_181 : decode cL_law 181 = .ok (.ireturn, 1) := by decide +kernel
theorem dL_law_182 : decode cL_law 182 = .ok (.aload_n 1, 1) := by decide +kernel
theorem dL_law_183 : decode cL_law 183 = .ok (.aload_n 0, 1) := by decide +kernel
theorem dL_law_184 : decode cL_law 184 = .ok (.iload_n 3, 1) := by decide +kernel
theorem dL_law_185 : decode cL_law 185 = .ok (.iconst 1, 1) := by decide +kernel
theorem dL_law_186 : decode cL_law 186 = .ok (.iadd, 1) := by decide +kernel
theorem dL_law_187 : decode cL_law 187 = .ok (.iaload, 1) := by decide +kernel
theorem dL_law_188 : decode cL_law 188 = .ok (.invokevirtual 31, 3) := by decide +kernel
theorem dL_law_191 : decode cL_law 191 = .ok (.aload_n 2, 1) := by decide +kernel
theorem dL_law_192 : decode cL_law 192 = .ok (.aload_n 0, 1) := by decide +kernel
theorem dL_law_193 : decode cL_law 193 = .ok (.iload_n 3, 1) := by decide +kernel
theorem dL_law_194 : decode cL_law 194 = .ok (.iconst 1, 1) := by decide +kernel
theorem dL_law_195 : decode cL_law 195 = .ok (.iadd, 1) := by decide +kernel
theorem dL_law_196 : decode cL_law 196 = .ok (.iaload, 1) := by decide +kernel
theorem dL_law_197 : decode cL_law 197 = .ok (.invokevirtual 35, 3) := by decide +kernel
theorem dL_law_200 : decode cL_law 200 = .ok (.if_icmp .eq 265, 3) := by decide +kernel
theorem dL_law_203 : decode cL_law 203 = .ok (.iconst 0, 1) := by decide +kernel
theorem dL_law_204 : decode cL_law 204 = .ok (.ireturn, 1) := by decide +kernel
theorem dL_law_205 : decode cL_law 205 = .ok (.aload_n 1, 1) := by decide +kernel
theorem dL_law_206 : decode cL_law 206 = .ok (.invokevirtual 36, 3) := by decide +kernel
theorem dL_law_209 : decode cL_law 209 = .ok (.aload_n 2, 1) := by decide +kernel
theorem dL_law_210 : decode cL_law 210 = .ok (.invokevirtual 39, 3) := by decide +kernel
theorem dL_law_213 : decode cL_law 213 = .ok (.if_icmp .eq 252, 3) := by decide +kernel
theorem dL_law_216 : decode cL_law 216 = .ok (.iconst 0, 1) := by decide +kernel
theorem dL_law_217 : decode cL_law 217 = .ok (.ireturn, 1) := by decide +kernel
theorem dL_law_218 : decode cL_law 218 = .ok (.aload_n 1, 1) := by decide +kernel
theorem dL_law_219 : decode cL_law 219 = .ok (.invokevirtual 40, 3) := by decide +kernel
theorem dL_law_222 : decode cL_law 222 = .ok (.aload_n 2, 1) := by decide +kernel
theorem dL_law_223 : decode cL_law 223 = .ok (.invokevirtual 43, 3) := by decide +kernel
theorem dL_law_226 : decode cL_law 226 = .ok (.goto 239, 3) := by decide +kernel
theorem dL_law_229 : decode cL_law 229 = .ok (.aload_n 1, 1) := by decide +kernel
theorem dL_law_230 : decode cL_law 230 = .ok (.aload_n 0, 1) := by decide +kernel
theorem dL_law_231 : decode cL_law 231 = .ok (.iload_n 3, 1) := by decide +kernel
theorem dL_law_232 : decode cL_law 232 = .ok (.iconst 1, 1) := by decide +kernel
theorem dL_law_233 : decode cL_law 233 = .ok (.iadd, 1) := by decide +kernel
theorem dL_law_234 : decode cL_law 234 = .ok (.iaload, 1) := by decide +kernel
theorem dL_law_235 : decode cL_law 235 = .ok (.invokevirtual 44, 3) := by decide +kernel
theorem dL_law_238 : decode cL_law 238 = .ok (.aload_n 2, 1) := by decide +kernel
theorem dL_law_239 : decode cL_law 239 = .ok (.aload_n 0, 1) := by decide +kernel
theorem dL_law_240 : decode cL_law 240 = .ok (.iload_n 3, 1) := by decide +kernel
theorem dL_law_241 : decode cL_law 241 = .ok (.iconst 1, 1) := by decide +kernel
theorem dL_law_242 : decode cL_law 242 = .ok (.iadd, 1) := by decide +kernel
theorem dL_law_243 : decode cL_law 243 = .ok (.iaload, 1) := by decide +kernel
theorem dL_law_244 : decode cL_law 244 = .ok (.invokevirtual 48, 3) := by decide +kernel
theorem dL_law_247 : decode cL_law 247 = .ok (.if_icmp .eq 218, 3) := by decide +kernel
theorem dL_law_250 : decode cL_law 250 = .ok (.iconst 0, 1) := by decide +kernel
theorem dL_law_251 : decode cL_law 251 = .ok (.ireturn, 1) := by decide +kernel
theorem dL_law_252 : decode cL_law 252 = .ok (.aload_n 1, 1) := by decide +kernel
theorem dL_law_253 : decode cL_law 253 = .ok (.aload_n 0, 1) := by decide +kernel
theorem dL_law_254 : decode cL_law 254 = .ok (.iload_n 3, 1) := by decide +kernel
theorem dL_law_255 : decode cL_law 255 = .ok (.iconst 1, 1) := by decide +kernel
theorem dL_law_256 : decode cL_law 256 = .ok (.iadd, 1) := by decide +kernel
theorem dL_law_257 : decode cL_law 257 = .ok (.iaload, 1) := by decide +kernel
theorem dL_law_258 : decode cL_law 258 = .ok (.invokevirtual 49, 3) := by decide +kernel
theorem dL_law_261 : decode cL_law 261 = .ok (.aload_n 2, 1) := by decide +kernel
theorem dL_law_262 : decode cL_law 262 = .ok (.aload_n 0, 1) := by decide +kernel
theorem dL_law_263 : decode cL_law 263 = .ok (.iload_n 3, 1) := by decide +kernel
theorem dL_law_264 : decode cL_law 264 = .ok (.iconst 1, 1) := by decide +kernel
theorem dL_law_265 : decode cL_law 265 = .ok (.iadd, 1) := by decide +kernel
theorem dL_law_266 : decode cL_law 266 = .ok (.iaload, 1) := by decide +kernel
theorem dL_law_267 : decode cL_law 267 = .ok (.invokevirtual 52, 3) := by decide +kernel
theorem dL_law_270 : decode cL_law 270 = .ok (.if_icmp .eq 195, 3) := by decide +kernel
theorem dL_law_273 : decode cL_law 273 = .ok (.iconst 0, 1) := by decide +kernel
theorem dL_law_274 : decode cL_law 274 = .ok (.ireturn, 1) := by decide +kernel
theorem dL_law_275 : decode cL_law 275 = .ok (.aload_n 1, 1) := by decide +kernel
theorem dL_law_276 : decode cL_law 276 = .ok (.aload_n 0, 1) := by decide +kernel
theorem dL_law_277 : decode cL_law 277 = .ok (.iload_n 3, 1) := by decide +kernel
theorem dL_law_278 : decode cL_law 278 = .ok (.iconst 1, 1) := by decide +kernel
theorem dL_law_279 : decode cL_law 279 = .ok (.iadd, 1) := by decide +kernel
theorem dL_law_280 : decode cL_law 280 = .ok (.iaload, 1) := by decide +kernel
theorem dL_law_281 : decode cL_law 281 = .ok (.invokevirtual 53, 3) := by decide +kernel
theorem dL_law_284 : decode cL_law 284 = .ok (.aload_n 2, 1) := by decide +kernel
theorem dL_law_285 : decode cL_law 285 = .ok (.aload_n 0, 1) := by decide +kernel
theorem dL_law_286 : decode cL_law 286 = .ok (.iload_n 3, 1) := by decide +kernel
theorem dL_law_287 : decode cL_law 287 = .ok (.iconst 1, 1) := by decide +kernel
theorem dL_law_288 : decode cL_law 288 = .ok (.iadd, 1) := by decide +kernel
theorem dL_law_289 : decode cL_law 289 = .ok (.iaload, 1) := by decide +kernel
theorem dL_law_290 : decode cL_law 290 = .ok (.invokevirtual 56, 3) := by decide +kernel
theorem dL_law_293 : decode cL_law 293 = .ok (.if_icmp .eq 172, 3) := by decide +kernel
theorem dL_law_296 : decode cL_law 296 = .ok (.iconst 0, 1) := by decide +kernel
theorem dL_law_297 : decode cL_law 297 = .ok (.ireturn, 1) := by decide +kernel
theorem dL_law_298 : decode cL_law 298 = .ok (.aload_n 1, 1) := by decide +kernel
theorem dL_law_299 : decode cL_law 299 = .ok (.invokevirtual 57, 3) := by decide +kernel
theorem dL_law_302 : decode cL_law 302 = .ok (.aload_n 2, 1) := by decide +kernel
theorem dL_law_303 : decode cL_law 303 = .ok (.invokevirtual 60, 3) := by decide +kernel
theorem dL_law_306 : decode cL_law 306 = .ok (.if_icmp .eq 159, 3) := by decide +kernel
theorem dL_law_309 : decode cL_law 309 = .ok (.iconst 0, 1) := by decide +kernel
theorem dL_law_310 : decode cL_law 310 = .ok (.ireturn, 1) := by decide +kernel
theorem dL_law_311 : decode cL_law 311 = .ok (.aload_n 1, 1) := by decide +kernel
theorem dL_law_312 : decode cL_law 312 = .ok (.aload_n 0, 1) := by decide +kernel
theorem dL_law_313 : decode cL_law 313 = .ok (.iload_n 3, 1) := by decide +kernel
theorem dL_law_314 : decode cL_law 314 = .ok (.iconst 1, 1) := by decide +kernel
theorem dL_law_315 : decode cL_law 315 = .ok (.iadd, 1) := by decide +kernel
theorem dL_law_316 : decode cL_law 316 = .ok (.iaload, 1) := by decide +kernel
theorem dL_law_317 : decode cL_law 317 = .ok (.invokevirtual 61, 3) := by decide +kernel
theorem dL_law_320 : decode cL_law 320 = .ok (.aload_n 2, 1) := by decide +kernel
theorem dL_law_321 : decode cL_law 321 = .ok (.aload_n 0, 1) := by decide +kernel
theorem dL_law_322 : decode cL_law 322 = .ok (.iload_n 3, 1) := by decide +kernel
theorem dL_law_323 : decode cL_law 323 = .ok (.iconst 1, 1) := by decide +kernel
theorem dL_law_324 : decode cL_law 324 = .ok (.iadd, 1) := by decide +kernel
theorem dL_law_325 : decode cL_law 325 = .ok (.iaload, 1) := by decide +kernel
theorem dL_law_326 : decode cL_law 326 = .ok (.invokevirtual 64, 3) := by decide +kernel
theorem dL_law_329 : decode cL_law 329 = .ok (.if_icmp .eq 136, 3) := by decide +kernel
theorem dL_law_332 : decode cL_law 332 = .ok (.iconst 0, 1) := by decide +kernel
theorem dL_law_333 : decode cL_law 333 = .ok (.ireturn, 1) := by decide +kernel
theorem dL_law_334 : decode cL_law 334 = .ok (.aload_n 1, 1) := by decide +kernel
theorem dL_law_335 : decode cL_law 335 = .ok (.aload_n 0, 1) := by decide +kernel
theorem dL_law_336 : decode cL_law 336 = .ok (.iload_n 3, 1) := by decide +kernel
theorem dL_law_337 : decode cL_law 337 = .ok (.iconst 1, 1) := by decide +kernel
theorem dL_law_338 : decode cL_law 338 = .ok (.iadd, 1) := by decide +kernel
theorem dL_law_339 : decode cL_law 339 = .ok (.iaload, 1) := by decide +kernel
theorem dL_law_340 : decode cL_law 340 = .ok (.invokevirtual 65, 3) := by decide +kernel
theorem dL_law_343 : decode cL_law 343 = .ok (.aload_n 2, 1) := by decide +kernel
theorem dL_law_344 : decode cL_law 344 = .ok (.aload_n 0, 1) := by decide +kernel
theorem dL_law_345 : decode cL_law 345 = .ok (.iload_n 3, 1) := by decide +kernel
theorem dL_law_346 : decode cL_law 346 = .ok (.iconst 1, 1) := by decide +kernel
theorem dL_law_347 : decode cL_law 347 = .ok (.iadd, 1) := by decide +kernel
theorem dL_law_348 : decode cL_law 348 = .ok (.iaload, 1) := by decide +kernel
theorem dL_law_349 : decode cL_law 349 = .ok (.invokevirtual 68, 3) := by decide +kernel
theorem dL_law_352 : decode cL_law 352 = .ok (.if_icmp .eq 113, 3) := by decide +kernel
theorem dL_law_355 : decode cL_law 355 = .ok (.iconst 0, 1) := by decide +kernel
theorem dL_law_356 : decode cL_law 356 = .ok (.ireturn, 1) := by decide +kernel
theorem dL_law_357 : decode cL_law 357 = .ok (.aload_n 1, 1) := by decide +kernel
theorem dL_law_358 : decode cL_law 358 = .ok (.aload_n 0, 1) := by decide +kernel
theorem dL_law_359 : decode cL_law 359 = .ok (.iload_n 3, 1) := by decide +kernel
theorem dL_law_360 : decode cL_law 360 = .ok (.iconst 1, 1) := by decide +kernel
theorem dL_law_361 : decode cL_law 361 = .ok (.iadd, 1) := by decide +kernel
theorem dL_law_362 : decode cL_law 362 = .ok (.iaload, 1) := by decide +kernel
theorem dL_law_363 : decode cL_law 363 = .ok (.invokevirtual 69, 3) := by decide +kernel
theorem dL_law_366 : decode cL_law 366 = .ok (.aload_n 2, 1) := by decide +kernel
theorem dL_law_367 : decode cL_law 367 = .ok (.aload_n 0, 1) := by decide +kernel
theorem dL_law_368 : decode cL_law 368 = .ok (.iload_n 3, 1) := by decide +kernel
theorem dL_law_369 : decode cL_law 369 = .ok (.iconst 1, 1) := by decide +kernel
theorem dL_law_370 : decode cL_law 370 = .ok (.iadd, 1) := by decide +kernel
theorem dL_law_371 : decode cL_law 371 = .ok (.iaload, 1) := by decide +kernel
theorem dL_law_372 : decode cL_law 372 = .ok (.invokevirtual 72, 3) := by decide +kernel
theorem dL_law_375 : decode cL_law 375 = .ok (.if_icmp .eq 90, 3) := by decide +kernel
theorem dL_law_378 : decode cL_law 378 = .ok (.iconst 0, 1) := by decide +kernel
theorem dL_law_379 : decode cL_law 379 = .ok (.ireturn, 1) := by decide +kernel
theorem dL_law_380 : decode cL_law 380 = .ok (.aload_n 1, 1) := by decide +kernel
theorem dL_law_381 : decode cL_law 381 = .ok (.aload_n 0, 1) := by decide +kernel
theorem dL_law_382 : decode cL_law 382 = .ok (.iload_n 3, 1) := by decide +kernel
theorem dL_law_383 : decode cL_law 383 = .ok (.iconst 1, 1) := by decide +kernel
theorem dL_law_384 : decode cL_law 384 = .ok (.iadd, 1) := by decide +kernel
theorem dL_law_385 : decode cL_law 385 = .ok (.iaload, 1) := by decide +kernel
theorem dL_law_386 : decode cL_law 386 = .ok (.invokevirtual 73, 3) := by decide +kernel
theorem dL_law_389 : decode cL_law 389 = .ok (.aload_n 2, 1) := by decide +kernel
theorem dL_law_390 : decode cL_law 390 = .ok (.aload_n 0, 1) := by decide +kernel
theorem dL_law_391 : decode cL_law 391 = .ok (.iload_n 3, 1) := by decide +kernel
theorem dL_law_392 : decode cL_law 392 = .ok (.iconst 1, 1) := by decide +kernel
theorem dL_law_393 : decode cL_law 393 = .ok (.iadd, 1) := by decide +kernel
theorem dL_law_394 : decode cL_law 394 = .ok (.iaload, 1) := by decide +kernel
theorem dL_law_395 : decode cL_law 395 = .ok (.invokevirtual 76, 3) := by decide +kernel
theorem dL_law_398 : decode cL_law 398 = .ok (.if_icmp .eq 67, 3) := by decide +kernel
theorem dL_law_401 : decode cL_law 401 = .ok (.iconst 0, 1) := by decide +kernel
theorem dL_law_402 : decode cL_law 402 = .ok (.ireturn, 1) := by decide +kernel
theorem dL_law_403 : decode cL_law 403 = .ok (.aload_n 1, 1) := by decide +kernel
theorem dL_law_404 : decode cL_law 404 = .ok (.aload_n 0, 1) := by decide +kernel
theorem dL_law_405 : decode cL_law 405 = .ok (.iload_n 3, 1) := by decide +kernel
theorem dL_law_406 : decode cL_law 406 = .ok (.iconst 1, 1) := by decide +kernel
theorem dL_law_407 : decode cL_law 407 = .ok (.iadd, 1) := by decide +kernel
theorem dL_law_408 : decode cL_law 408 = .ok (.iaload, 1) := by decide +kernel
theorem dL_law_409 : decode cL_law 409 = .ok (.invokevirtual 77, 3) := by decide +kernel
theorem dL_law_412 : decode cL_law 412 = .ok (.aload_n 2, 1) := by decide +kernel
theorem dL_law_413 : decode cL_law 413 = .ok (.aload_n 0, 1) := by decide +kernel
theorem dL_law_414 : decode cL_law 414 = .ok (.iload_n 3, 1) := by decide +kernel
theorem dL_law_415 : decode cL_law 415 = .ok (.iconst 1, 1) := by decide +kernel
theorem dL_law_416 : decode cL_law 416 = .ok (.iadd, 1) := by decide +kernel
theorem dL_law_417 : decode cL_law 417 = .ok (.iaload, 1) := by decide +kernel
theorem dL_law_418 : decode cL_law 418 = .ok (.invokevirtual 80, 3) := by decide +kernel
theorem dL_law_421 : decode cL_law 421 = .ok (.if_icmp .eq 44, 3) := by decide +kernel
theorem dL_law_424 : decode cL_law 424 = .ok (.iconst 0, 1) := by decide +kernel
theorem dL_law_425 : decode cL_law 425 = .ok (.ireturn, 1) := by decide +kernel
theorem dL_law_426 : decode cL_law 426 = .ok (.aload_n 1, 1) := by decide +kernel
theorem dL_law_427 : decode cL_law 427 = .ok (.invokevirtual 81, 3) := by decide +kernel
theorem dL_law_430 : decode cL_law 430 = .ok (.aload_n 2, 1) := by decide +kernel
theorem dL_law_431 : decode cL_law 431 = .ok (.invokevirtual 84, 3) := by decide +kernel
theorem dL_law_434 : decode cL_law 434 = .ok (.if_icmp .eq 31, 3) := by decide +kernel
theorem dL_law_437 : decode cL_law 437 = .ok (.iconst 0, 1) := by decide +kernel
theorem dL_law_438 : decode cL_law 438 = .ok (.ireturn, 1) := by decide +kernel
theorem dL_law_439 : decode cL_law 439 = .ok (.aload_n 1, 1) := by decide +kernel
theorem dL_law_440 : decode cL_law 440 = .ok (.invokevirtual 85, 3) := by decide +kernel
theorem dL_law_443 : decode cL_law 443 = .ok (.aload_n 2, 1) := by decide +kernel
theorem dL_law_444 : decode cL_law 444 = .ok (.invokevirtual 88, 3) := by decide +kernel
theorem dL_law_447 : decode cL_law 447 = .ok (.if_icmp .eq 18, 3) := by decide +kernel
theorem dL_law_450 : decode cL_law 450 = .ok (.iconst 0, 1) := by decide +kernel
theorem dL_law_451 : decode cL_law 451 = .ok (.ireturn, 1) := by decide +kernel
theorem dL_law_452 : decode cL_law 452 = .ok (.aload_n 1, 1) := by decide +kernel
theorem dL_law_453 : decode cL_law 453 = .ok (.invokevirtual 89, 3) := by decide +kernel
theorem dL_law_456 : decode cL_law 456 = .ok (.aload_n 2, 1) := by decide +kernel
theorem dL_law_457 : decode cL_law 457 = .ok (.invokevirtual 92, 3) := by decide +kernel
theorem dL_law_460 : decode cL_law 460 = .ok (.if_icmp .eq 5, 3) := by decide +kernel
theorem dL_law_463 : decode cL_law 463 = .ok (.iconst 0, 1) := by decide +kernel
theorem dL_law_464 : decode cL_law 464 = .ok (.ireturn, 1) := by decide +kernel
theorem dL_law_465 : decode cL_law 465 = .ok (.iinc 3 3, 3) := by decide +kernel
theorem dL_law_468 : decode cL_law 468 = .ok (.goto (-430), 3) := by decide +kernel
theorem dL_law_471 : decode cL_law 471 = .ok (.iconst 1, 1) := by decide +kernel
theorem dL_law_472 : decode cL_law 472 = .ok (.ireturn, 1) := by decide +kernel
abbrev vwCl : List vw_C := [(RX0, TX0, 4), (RX1, TX1, 11), (RX2, TX2, 4), (RX3, TX3, 16)]
