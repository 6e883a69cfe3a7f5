theorem dL_draw_0 : decode cL_draw 0 = .ok (.iload_n 1, 1) := by decide +kernel
theorem dL_draw_1 : decode cL_draw 1 = .ok (.aload_n 0, 1) := by decide +kernel
theorem dL_draw_2 : decode cL_draw 2 = .ok (.arraylength, 1) := by decide +kernel
theorem dL_draw_3 : decode cL_draw 3 = .ok (.if_icmp .ge 9, 3) := by decide +kernel
theorem dL_draw_6 : decode cL_draw 6 = .ok (.aload_n 0, 1) := by decide +kernel
theorem dL_draw_7 : decode cL_draw 7 = .ok (.iload_n 1, 1) := by decide +kernel
theorem dL_draw_8 : decode cL_draw 8 = .ok (.iaload, 1) := by decide +kernel
theorem dL_draw_9 : decode cL_draw 9 = .ok (.goto 4, 3) := by decide +kernel
theorem dL_draw_12 : decode cL_draw 12 = .ok (.iconst 0, 1) := by decide +kernel
theorem dL_draw_13 : decode cL_draw 13 = .ok (.ldc 7, 2) := by decide +kernel
theorem dL_draw_15 : decode cL_draw 15 = .ok (.iand, 1) := by decide +kernel
theorem dL_draw_16 : decode cL_draw 16 = .ok (.iload_n 2, 1) := by decide +kernel
theorem dL_draw_17 : decode cL_draw 17 = .ok (.irem, 1) := by decide +kernel
theorem dL_draw_18 : decode cL_draw 18 = .ok (.ireturn, 1) := by decide +kernel
set_option maxRecDepth 20000 in
set_option maxRecDepth 100000 in
theorem ggL_four_J0_length_8abf5 : GoodIn wsL_four wsJ0_length_8abf5 := goodIn_r _ [5, 6, 7, 8, 9, 4, 10, 11, 12, 50, 51, 52, 53] rfl (by decide +kernel)
set_option maxRecDepth 20000 in
theorem gL_four_J0_length_8abf5 : GoodIn wsL_four (wsV RL 8 RJ0 yJ0_length_8abf5 wsJ0_length_8abf5) := goodIn_app (goodIn_of _ (by decide +kernel)) ggL_four_J0_length_8abf5
set_option maxRecDepth 20000 in
set_option maxRecDepth 100000 in
theorem ggL_four_J0_charAt_5068e : GoodIn wsL_four wsJ0_charAt_5068e := goodIn_r _ [16, 6, 17, 18, 19, 4, 20, 11, 12, 21, 22, 23, 24, 25, 26, 27, 28, 29, 30, 31, 32, 33, 34, 35, 36, 37, 38, 39, 40, 41, 42, 43, 44, 45, 46, 47, 48, 49, 50, 51, 52, 53] rfl (by decide +kernel)
set_option maxRecDepth 20000 in
theorem gL_four_J0_charAt_5068e : GoodIn wsL_four (wsV RL 14 RJ0 yJ0_charAt_5068e wsJ0_charAt_5068e) := goodIn_app (goodIn_of _ (by decide +kernel)) ggL_four_J0_charAt_5068e
theorem dL_four_0 : decode cL_four 0 = .ok (.iconst 0, 1) := by decide +kernel
theorem dL_four_1 : decode cL_four 1 = .ok (.istore_n 2, 1) := by decide +kernel
theorem dL_four_2 : decode cL_four 2 = .ok (.iconst 0, 1) := by decide +kernel
theorem dL_four_3 : decode cL_four 3 = .ok (.istore_n 3, 1) := by decide +kernel
theorem dL_four_4 : decode cL_four 4 = .ok (.iload_n 3, 1) := by decide +kernel
theorem dL_four_5 : decode cL_four 5 = .ok (.iconst 4, 1) := by decide +kernel
theorem dL_four_6 : decode cL_four 6 = .ok (.if_icmp .ge 36, 3) := by decide +kernel
theorem dL_four_9 : decode cL_four 9 = .ok (.iload_n 2, 1) := by decide +kernel
theorem dL_four_10 : decode cL_four 10 = .ok (.bipush 8, 2) := by decide +kernel
theorem dL_four_12 : decode cL_four 12 = .ok (.ishl, 1) := by decide +kernel
theorem dL_four_13 : decode cL_four 13 = .ok (.iload_n 1, 1) := by decide +kernel
theorem dL_four_14 : decode cL_four 14 = .ok (.iload_n 3, 1) := by decide +kernel
theorem dL_four_15 : decode cL_four 15 = .ok (.iadd, 1) := by decide +kernel
theorem dL_four_16 : decode cL_four 16 = .ok (.aload_n 0, 1) := by decide +kernel
theorem dL_four_17 : decode cL_four 17 = .ok (.invokevirtual 8, 3) := by decide +kernel
theorem dL_four_20 : decode cL_four 20 = .ok (.if_icmp .ge 13, 3) := by decide +kernel
theorem dL_four_23 : decode cL_four 23 = .ok (.aload_n 0, 1) := by decide +kernel
theorem dL_four_24 : decode cL_four 24 = .ok (.iload_n 1, 1) := by decide +kernel
theorem dL_four_25 : decode cL_four 25 = .ok (.iload_n 3, 1) := by decide +kernel
theorem dL_four_26 : decode cL_four 26 = .ok (.iadd, 1) := by decide +kernel
theorem dL_four_27 : decode cL_four 27 = .ok (.invokevirtual 14, 3) := by decide +kernel
theorem dL_four_30 : decode cL_four 30 = .ok (.goto 4, 3) := by decide +kernel
theorem dL_four_33 : decode cL_four 33 = .ok (.iconst 0, 1) := by decide +kernel
theorem dL_four_34 : decode cL_four 34 = .ok (.ior, 1) := by decide +kernel
theorem dL_four_35 : decode cL_four 35 = .ok (.istore_n 2, 1) := by decide +kernel
theorem dL_four_36 : decode cL_four 36 = .ok (.iinc 3 1, 3) := by decide +kernel
theorem dL_four_39 : decode cL_four 39 = .ok (.goto (-35), 3) := by decide +kernel
theorem dL_four_42 : decode cL_four 42 = .ok (.iload_n 2, 1) := by decide +kernel
theorem dL_four_43 : decode cL_four 43 = .ok (.ireturn, 1) := by decide +kernel
set_option maxRecDepth 20000 in
set_option maxRecDepth 100000 in
theorem ggL_feed_J0_length_8abf5 : GoodIn wsL_feed wsJ0_length_8abf5 := goodIn_r _ [9, 10, 11, 12, 13, 8, 14, 15, 16, 87, 88, 89, 90] rfl (by decide +kernel)
set_option maxRecDepth 20000 in
theorem gL_feed_J0_length_8abf5 : GoodIn wsL_feed (wsV RL 8 RJ0 yJ0_length_8abf5 wsJ0_length_8abf5) := goodIn_app (goodIn_of _ (by decide +kernel)) ggL_feed_J0_length_8abf5
set_option maxRecDepth 20000 in
set_option maxRecDepth 100000 in
theorem ggL_feed_L_four : GoodIn wsL_feed wsL_four := goodIn_r _ [20, 5, 6, 7, 8, 9, 10, 11, 12, 13, 14, 15, 16, 21, 22, 23, 24, 25, 26, 27, 28, 29, 30, 31, 32, 33, 34, 35, 36, 37, 38, 39, 40, 41, 42, 43, 44, 45, 46, 47, 48, 49, 50, 51, 52, 53, 54, 55, 56, 57, 87, 88, 89, 90] rfl (by decide +kernel)
set_option maxRecDepth 20000 in
theorem gL_feed_L_four : GoodIn wsL_feed (va_wsS RL 18 yL_four wsL_four) := goodIn_app (goodIn_of _ (by decide +kernel)) ggL_feed_L_four
set_option maxRecDepth 20000 in
set_option maxRecDepth 100000 in
theorem ggL_feed_X8_append : GoodIn wsL_feed wsX8_append := goodIn_ca (goodIn_r _ [62, 63, 64, 65, 66, 67, 68, 69, 70, 71, 72, 73, 74, 75, 76, 77, 91, 92, 93, 94, 95, 96, 97, 98, 99, 100, 101, 102, 103] rfl (by decide +kernel)) (goodIn_sub (fun _ h => List.mem_cons_of_mem _ (List.mem_append_left _ (List.mem_append_right _ h))) (by decide +kernel))
set_option maxRecDepth 20000 in
theorem gL_feed_X8_append : GoodIn wsL_feed (wsV RL 24 RX8 yX8_append wsX8_append) := goodIn_app (goodIn_of _ (by decide +kernel)) ggL_feed_X8_append
set_option maxRecDepth 20000 in
set_option maxRecDepth 100000 in
theorem ggL_feed_X8_truncate : GoodIn wsL_feed wsX8_truncate := goodIn_ca (goodIn_r _ [81, 65, 66, 82, 83, 61, 84, 85, 86, 91, 92, 93, 94, 95, 96, 97, 98, 99, 100, 101, 102, 103] rfl (by decide +kernel)) (goodIn_sub (fun _ h => List.mem_cons_of_mem _ (List.mem_append_right _ h)) (by decide +kernel))
set_option maxRecDepth 20000 in
theorem gL_feed_X8_truncate : GoodIn wsL_feed (wsV RL 36 RX8 yX8_truncate wsX8_truncate) := goodIn_app (goodIn_of _ (by decide +kernel)) ggL_feed_X8_truncate
theorem dL_feed_0 : decode cL_feed 0 = .ok (.iconst 0, 1) := by decide +kernel
theorem dL_feed_1 : decode cL_feed 1 = .ok (.istore_n 2, 1) := by decide +kernel
theorem dL_feed_2 : decode cL_feed 2 = .ok (.iconst 0, 1) := by decide +kernel
theorem dL_feed_3 : decode cL_feed 3 = .ok (.istore_n 3, 1) := by decide +kernel
theorem dL_feed_4 : decode cL_feed 4 = .ok (.iload_n 3, 1) := by decide +kernel
theorem dL_feed_5 : decode cL_feed 5 = .ok (.aload_n 1, 1) := by decide +kernel
theorem dL_feed_6 : decode cL_feed 6 = .ok (.invokevirtual 8, 3) := by decide +kernel
theorem dL_feed_9 : decode cL_feed 9 = .ok (.if_icmp .lt 7, 3) := by decide +kernel
theorem dL_feed_12 : decode cL_feed 12 = .ok (.iload_n 3, 1) := by decide +kernel
theorem dL_feed_13 : decode cL_feed 13 = .ok (.ifCond .ne 50, 3) := by decide +kernel
theorem dL_feed_16 : decode cL_feed 16 = .ok (.aload_n 0, 1) := by decide +kernel
theorem dL_feed_17 : decode cL_feed 17 = .ok (.aload_n 1, 1) := by decide +kernel
theorem dL_feed_18 : decode cL_feed 18 = .ok (.iload_n 3, 1) := by decide +kernel
theorem dL_feed_19 : decode cL_feed 19 = .ok (.invokestatic 18, 3) := by decide +kernel
theorem dL_feed_22 : decode cL_feed 22 = .ok (.aload_n 1, 1) := by decide +kernel
theorem dL_feed_23 : decode cL_feed 23 = .ok (.iload_n 3, 1) := by decide +kernel
theorem dL_feed_24 : decode cL_feed 24 = .ok (.iconst 4, 1) := by decide +kernel
theorem dL_feed_25 : decode cL_feed 25 = .ok (.iadd, 1) := by decide +kernel
theorem dL_feed_26 : decode cL_feed 26 = .ok (.invokestatic 18, 3) := by decide +kernel
theorem dL_feed_29 : decode cL_feed 29 = .ok (.aload_n 1, 1) := by decide +kernel
theorem dL_feed_30 : decode cL_feed 30 = .ok (.iload_n 3, 1) := by decide +kernel
theorem dL_feed_31 : decode cL_feed 31 = .ok (.bipush 8, 2) := by decide +kernel
theorem dL_feed_33 : decode cL_feed 33 = .ok (.iadd, 1) := by decide +kernel
theorem dL_feed_34 : decode cL_feed 34 = .ok (.invokestatic 18, 3) := by decide +kernel
theorem dL_feed_37 : decode cL_feed 37 = .ok (.aload_n 1, 1) := by decide +kernel
theorem dL_feed_38 : decode cL_feed 38 = .ok (.iload_n 3, 1) := by decide +kernel
theorem dL_feed_39 : decode cL_feed 39 = .ok (.bipush 12, 2) := by decide +kernel
theorem dL_feed_41 : decode cL_feed 41 = .ok (.iadd, 1) := by decide +kernel
theorem dL_feed_42 : decode cL_feed 42 = .ok (.invokestatic 18, 3) := by decide +kernel
theorem dL_feed_45 : decode cL_feed 45 = .ok (.aload_n 1, 1) := by decide +kernel
theorem dL_feed_46 : decode cL_feed 46 = .ok (.iload_n 3, 1) := by decide +kernel
theorem dL_feed_47 : decode cL_feed 47 = .ok (.bipush 16, 2) := by decide +kernel
theorem dL_feed_49 : decode cL_feed 49 = .ok (.iadd, 1) := by decide +kernel
theorem dL_feed_50 : decode cL_feed 50 = .ok (.invokestatic 18, 3) := by decide +kernel
theorem dL_feed_53 : decode cL_feed 53 = .ok (.invokevirtual 24, 3) := by decide +kernel
theorem dL_feed_56 : decode cL_feed 56 = .ok (.istore_n 2, 1) := by decide +kernel
theorem dL_feed_57 : decode cL_feed 57 = .ok (.iinc 3 20, 3) := by decide +kernel
theorem dL_feed_60 : decode cL_feed 60 = .ok (.goto (-56), 3) := by decide +kernel
theorem dL_feed_63 : decode cL_feed 63 = .ok (.aload_n 0, 1) := by decide +kernel
theorem dL_feed_64 : decode cL_feed 64 = .ok (.iload_n 2, 1) := by decide +kernel
theorem dL_feed_65 : decode cL_feed 65 = .ok (.aload_n 1, 1) := by decide +kernel
theorem dL_feed_66 : decode cL_feed 66 = .ok (.invokevirtual 8, 3) := by decide +kernel
theorem dL_feed_69 : decode cL_feed 69 = .ok (.invokestatic 30, 3) := by decide +kernel
theorem dL_feed_72 : decode cL_feed 72 = .ok (.invokevirtual 36, 3) := by decide +kernel
theorem dL_feed_75 : decode cL_feed 75 = .ok (.return_, 1) := by decide +kernel
set_option maxRecDepth 20000 in
set_option maxRecDepth 100000 in
theorem ggL_index_L_draw : GoodIn wsL_index wsL_draw := goodIn_r _ [4, 5] rfl (by decide +kernel)
set_option maxRecDepth 20000 in
theorem gL_index_L_draw : GoodIn wsL_index (va_wsS RL 40 yL_draw wsL_draw) := goodIn_app (goodIn_of _ (by decide +kernel)) ggL_index_L_draw
theorem dL_index_0 : decode cL_index 0 = .ok (.aload_n 0, 1) := by decide +kernel
theorem dL_index_1 : decode cL_index 1 = .ok (.iload_n 1, 1) := by decide +kernel
theorem dL_index_2 : decode cL_index 2 = .ok (.iconst 3, 1) := by decide +kernel
theorem dL_index_3 : decode cL_index 3 = .ok (.invokestatic 40, 3) := by decide +kernel
theorem dL_index_6 : decode cL_index 6 = .ok (.ifCond .ne 22, 3) := by decide +kernel
theorem dL_index_9 : decode cL_index 9 = .ok (.sipush 1000, 3) := by decide +kernel
theorem dL_index_12 : decode cL_index 12 = .ok (.bipush 100, 2) := by decide +kernel
theorem dL_index_14 : decode cL_index 14 = .ok (.aload_n 0, 1) := by decide +kernel
theorem dL_index_15 : decode cL_index 15 = .ok (.iload_n 1, 1) := by decide +kernel
theorem dL_index_16 : decode cL_index 16 = .ok (.iconst 1, 1) := by decide +kernel
theorem dL_index_17 : decode cL_index 17 = .ok (.iadd, 1) := by decide +kernel
theorem dL_index_18 : decode cL_index 18 = .ok (.bipush 31, 2) := by decide +kernel
theorem dL_index_20 : decode cL_index 20 = .ok (.invokestatic 40, 3) := by decide +kernel
theorem dL_index_23 : decode cL_index 23 = .ok (.imul, 1) := by decide +kernel
theorem dL_index_24 : decode cL_index 24 = .ok (.iadd, 1) := by decide +kernel
theorem dL_index_25 : decode cL_index 25 = .ok (.goto 17, 3) := by decide +kernel
theorem dL_index_28 : decode cL_index 28 = .ok (.sipush 1000, 3) := by decide +kernel
theorem dL_index_31 : decode cL_index 31 = .ok (.aload_n 0, 1) := by decide +kernel
theorem dL_index_32 : decode cL_index 32 = .ok (.iload_n 1, 1) := by decide +kernel
theorem dL_index_33 : decode cL_index 33 = .ok (.iconst 1, 1) := by decide +kernel
theorem dL_index_34 : decode cL_index 34 = .ok (.iadd, 1) := by decide +kernel
theorem dL_index_35 : decode cL_index 35 = .ok (.sipush 3001, 3) := by decide +kernel
theorem dL_index_38 : decode cL_index 38 = .ok (.invokestatic 40, 3) := by decide +kernel
theorem dL_index_41 : decode cL_index 41 = .ok (.iadd, 1) := by decide +kernel
theorem dL_index_42 : decode cL_index 42 = .ok (.ireturn, 1) := by decide +kernel
set_option maxRecDepth 20000 in
set_option maxRecDepth 100000 in
theorem ggL_load_L_draw : GoodIn wsL_load wsL_draw := goodIn_r _ [8, 9] rfl (by decide +kernel)
set_option maxRecDepth 20000 in
theorem gL_load_L_draw : GoodIn wsL_load (va_wsS RL 40 yL_draw wsL_draw) := goodIn_app (goodIn_of _ (by decide +kernel)) ggL_load_L_draw
set_option maxRecDepth 20000 in
set_option maxRecDepth 100000 in
theorem ggL_load_J4_init_da8c8 : GoodIn wsL_load wsJ4_init_da8c8 := goodIn_r _ [12, 13, 14, 15, 16, 17, 18, 19, 20, 21, 22, 23, 24, 25, 26, 27, 28, 29, 30, 31, 509, 510, 511, 512] rfl (by decide +kernel)
set_option maxRecDepth 20000 in
theorem gL_load_J4_init_da8c8 : GoodIn wsL_load (wsJ4_init_da8c8) := ggL_load_J4_init_da8c8
set_option maxRecDepth 20000 in
set_option maxRecDepth 100000 in
theorem ggL_load_L_index : GoodIn wsL_load wsL_index := goodIn_r _ [34, 5, 6, 7, 8, 9] rfl (by decide +kernel)
set_option maxRecDepth 20000 in
theorem gL_load_L_index : GoodIn wsL_load (va_wsS RL 47 yL_index wsL_index) := goodIn_app (goodIn_of _ (by decide +kernel)) ggL_load_L_index
set_option maxRecDepth 20000 in
set_option maxRecDepth 100000 in
theorem ggL_load_J4_append_15ec4 : GoodIn wsL_load wsJ4_append_15ec4 := goodIn_r _ [38, 39, 40, 41, 42, 15, 43, 44, 45, 46, 47, 48, 49, 22, 50, 51, 52, 53, 54, 23, 55, 56, 57, 58, 59, 60, 61, 62, 63, 64, 65, 66, 67, 68, 69, 70, 71, 72, 73, 74, 75, 76, 77, 78, 79, 80, 81, 82, 21, 83, 84, 85, 86, 87, 88, 89, 90, 91, 92, 93, 94, 20, 95, 96, 26, 97, 98, 99, 100, 101, 102, 103, 104, 105, 106, 107, 108, 109, 110, 111, 112, 113, 114, 115, 116, 117, 118, 119, 120, 121, 122, 123, 124, 125, 126, 127, 128, 129, 130, 131, 132, 133, 134, 135, 136, 137, 138, 139, 140, 141, 142, 143, 144, 145, 24, 25, 27, 28, 29, 30, 31, 146, 147, 148, 149, 150, 151, 152, 153, 154, 155, 156, 157, 158, 159, 160, 161, 162, 163, 164, 165, 166, 167, 509, 510, 511, 512, 513, 514, 515, 516] rfl (by decide +kernel)
set_option maxRecDepth 20000 in
theorem gL_load_J4_append_15ec4 : GoodIn wsL_load (wsV RL 53 RJ4 yJ4_append_15ec4 wsJ4_append_15ec4) := goodIn_app (goodIn_of _ (by decide +kernel)) ggL_load_J4_append_15ec4
set_option maxRecDepth 20000 in
set_option maxRecDepth 100000 in
theorem ggL_load_J4_append_bf812 : GoodIn wsL_load wsJ4_append_bf812 := goodIn_r _ [171, 172, 173, 41, 174, 15, 175, 44, 22, 176, 177, 178, 179, 50, 51, 52, 53, 54, 23, 55, 56, 57, 58, 59, 60, 61, 62, 63, 64, 65, 66, 67, 68, 69, 70, 71, 72, 73, 74, 75, 76, 77, 78, 79, 80, 81, 82, 21, 83, 84, 85, 86, 87, 88, 89, 90, 91, 92, 93, 94, 20, 180, 181, 182, 183, 184, 185, 186, 26, 187, 98, 99, 100, 101, 102, 103, 104, 105, 106, 107, 108, 109, 110, 111, 112, 113, 188, 189, 190, 191, 192, 114, 115, 116, 117, 118, 509, 510, 511, 512] rfl (by decide +kernel)
set_option maxRecDepth 20000 in
theorem gL_load_J4_append_bf812 : GoodIn wsL_load (wsV RL 56 RJ4 yJ4_append_bf812 wsJ4_append_bf812) := goodIn_app (goodIn_of _ (by decide +kernel)) ggL_load_J4_append_bf812
set_option maxRecDepth 20000 in
set_option maxRecDepth 100000 in
theorem ggL_load_J4_toString_0e30d : GoodIn wsL_load wsJ4_toString_0e30d := goodIn_r _ [196, 197, 198, 107, 199, 200, 201, 202, 203, 204, 205, 18, 19, 129, 123, 128, 206, 207, 208, 209, 210, 15, 211, 22, 212, 213, 214, 215, 216, 3, 217, 218, 41, 219, 220, 44, 221, 91, 92, 93, 94, 20, 23, 222, 223, 75, 224, 77, 78, 79, 80, 81, 82, 225, 226, 227, 21, 83, 84, 67, 85, 86, 87, 88, 89, 228, 229, 230, 231, 2, 232, 233, 26, 234, 235, 236, 237, 153, 154, 155, 102, 103, 104, 156, 157, 158, 109, 159, 160, 112, 161, 238, 239, 240, 98, 117, 118, 28, 29, 30, 31, 241, 242, 243, 244, 513, 514, 515, 516, 509, 510, 511, 512] rfl (by decide +kernel)
set_option maxRecDepth 20000 in
theorem gL_load_J4_toString_0e30d : GoodIn wsL_load (wsV RL 77 RJ4 yJ4_toString_0e30d wsJ4_toString_0e30d) := goodIn_app (goodIn_of _ (by decide +kernel)) ggL_load_J4_toString_0e30d
set_option maxRecDepth 20000 in
set_option maxRecDepth 100000 in
theorem ggL_load_L_feed : GoodIn wsL_load wsL_feed := goodIn_ca (goodIn_ca (goodIn_r _ [247, 248, 84, 67, 85, 249, 120, 121, 107, 122, 123, 124, 125, 126, 127, 128, 129, 250, 251, 7, 252, 253, 254, 255, 256, 257, 258, 259, 260, 261, 262, 148, 263, 264, 265, 266, 109, 267, 268, 112, 269, 270, 271, 26, 272, 273, 274, 275, 102, 103, 104, 276, 238, 239, 240, 98, 117, 118, 277, 278, 279, 280, 281, 282, 283, 284, 285, 286, 287, 288, 289, 290, 291, 292, 293, 294, 295, 296, 297, 298, 299, 300, 301, 302, 303, 304, 305, 513, 514, 515, 516, 517, 518, 519, 520, 521, 522, 523, 524, 525, 526, 527, 528, 529] rfl (by decide +kernel)) (goodIn_sub (fun _ h => List.mem_cons_of_mem _ (List.mem_append_left _ (List.mem_append_left _ (List.mem_append_right _ h)))) (by decide +kernel))) (goodIn_sub (fun _ h => List.mem_cons_of_mem _ (List.mem_append_left _ (List.mem_append_right _ h))) (by decide +kernel))
set_option maxRecDepth 20000 in
theorem gL_load_L_feed : GoodIn wsL_load (va_wsS RL 81 yL_feed wsL_feed) := goodIn_app (goodIn_of _ (by decide +kernel)) ggL_load_L_feed
set_option maxRecDepth 20000 in
set_option maxRecDepth 100000 in
theorem ggL_load_X8_load : GoodIn wsL_load wsX8_load := goodIn_r _ [309, 310, 284, 285, 311, 312, 313, 314, 315, 316, 317, 318, 319, 320, 321, 322, 323, 324, 325, 326, 327, 328, 329, 330, 331, 332, 333, 334, 335, 336, 337, 338, 339, 340, 341, 342, 343, 344, 345, 346, 347, 348, 349, 350, 351, 352, 84, 67, 85, 353, 354, 355, 289, 356, 295, 296, 357, 358, 359, 360, 361, 362, 363, 364, 365, 366, 367, 368, 369, 370, 371, 372, 373, 374, 375, 376, 120, 121, 107, 122, 123, 124, 125, 126, 127, 128, 129, 377, 254, 255, 256, 257, 258, 259, 260, 261, 262, 148, 263, 264, 265, 266, 109, 267, 268, 112, 269, 270, 271, 26, 272, 273, 274, 275, 102, 103, 104, 276, 238, 239, 240, 98, 117, 118, 378, 379, 380, 381, 382, 383, 384, 385, 386, 387, 388, 389, 390, 391, 392, 393, 394, 395, 396, 397, 398, 399, 400, 401, 402, 403, 404, 405, 406, 407, 408, 409, 410, 411, 412, 413, 414, 415, 416, 417, 280, 418, 419, 420, 421, 422, 423, 424, 425, 426, 427, 428, 429, 430, 431, 432, 433, 434, 435, 436, 437, 438, 439, 440, 441, 442, 443, 444, 445, 446, 447, 448, 449, 450, 451, 452, 453, 454, 455, 456, 457, 458, 459, 460, 461, 462, 463, 18, 19, 464, 465, 466, 467, 468, 4, 469, 470, 471, 472, 473, 474, 475, 476, 477, 478, 87, 88, 89, 479, 517, 518, 519, 520, 521, 522, 523, 524, 525, 526, 527, 528, 529, 530, 531, 532, 533, 534, 535, 536, 537, 538, 539, 540, 541, 542, 543, 544, 545, 546, 513, 514, 515, 516, 547, 548, 549] rfl (by decide +kernel)
set_option maxRecDepth 20000 in
theorem gL_load_X8_load : GoodIn wsL_load (wsV RL 85 RX8 yX8_load wsX8_load) := goodIn_app (goodIn_of _ (by decide +kernel)) ggL_load_X8_load
set_option maxRecDepth 20000 in
set_option maxRecDepth 100000 in
theorem ggL_load_X8_errorCode : GoodIn wsL_load wsX8_errorCode := goodIn_r _ [483, 310, 484, 517, 518, 519, 520, 521, 522, 523, 524, 525, 526, 527, 537, 538, 539, 540, 541, 542, 543, 544, 545, 546] rfl (by decide +kernel)
set_option maxRecDepth 20000 in
theorem gL_load_X8_errorCode : GoodIn wsL_load (wsV RL 88 RX8 yX8_errorCode wsX8_errorCode) := goodIn_app (goodIn_of _ (by decide +kernel)) ggL_load_X8_errorCode
set_option maxRecDepth 20000 in
set_option maxRecDepth 100000 in
theorem ggL_load_X8_property : GoodIn wsL_load wsX8_property := goodIn_ca (goodIn_r _ [488, 304, 305, 312, 314, 315, 489, 490, 491, 492, 493, 494, 495, 331, 496, 333, 334, 447, 409, 410, 401, 411, 412, 517, 518, 519, 520, 521, 522, 523, 524, 525, 526, 527, 530, 531, 532, 533, 534, 535, 536] rfl (by decide +kernel)) (goodIn_sub (fun _ h => List.mem_cons_of_mem _ (List.mem_append_left _ (List.mem_append_right _ h))) (by decide +kernel))
set_option maxRecDepth 20000 in
theorem gL_load_X8_property : GoodIn wsL_load (wsV RL 91 RX8 yX8_property wsX8_property) := goodIn_app (goodIn_of _ (by decide +kernel)) ggL_load_X8_property
set_option maxRecDepth 20000 in
set_option maxRecDepth 100000 in
theorem ggL_load_X8_layer : GoodIn wsL_load wsX8_layer := goodIn_ca (goodIn_ca (goodIn_r _ [500, 312, 314, 501, 502, 503, 280, 504, 505, 506, 507, 439, 440, 401, 441, 403, 301, 302, 303, 304, 305, 493, 494, 495, 331, 496, 333, 334, 447, 409, 410, 411, 412, 508, 517, 518, 519, 520, 521, 522, 523, 524, 525, 526, 527, 530, 531, 532, 533, 534, 535, 536] rfl (by decide +kernel)) (goodIn_sub (fun _ h => List.mem_cons_of_mem _ (List.mem_append_right _ h)) (by decide +kernel))) (goodIn_sub (fun _ h => List.mem_cons_of_mem _ (List.mem_append_left _ (List.mem_append_right _ h))) (by decide +kernel))
set_option maxRecDepth 20000 in
theorem gL_load_X8_layer : GoodIn wsL_load (wsV RL 95 RX8 yX8_layer wsX8_layer) := goodIn_app (goodIn_of _ (by decide +kernel)) ggL_load_X8_layer
theorem dL_load_0 : decode cL_load 0 = .ok (.iconst 1, 1) := by decide +kernel
theorem dL_load_1 : decode cL_load 1 = .ok (.aload_n 1, 1) := by decide +kernel
theorem dL_load_2 : decode cL_load 2 = .ok (.iconst 0, 1) := by decide +kernel
theorem dL_load_3 : decode cL_load 3 = .ok (.iconst 5, 1) := by decide +kernel
theorem dL_load_4 : decode cL_load 4 = .ok (.invokestatic 40, 3) := by decide +kernel
theorem dL_load_7 : decode cL_load 7 = .ok (.iadd, 1) := by decide +kernel
theorem dL_load_8 : decode cL_load 8 = .ok (.istore_n 2, 1) := by decide +kernel
theorem dL_load_9 : decode cL_load 9 = .ok (.new 44, 3) := by decide +kernel
theorem dL_load_12 : decode cL_load 12 = .ok (.dup, 1) := by decide +kernel
theorem dL_load_13 : decode cL_load 13 = .ok (.invokespecial 46, 3) := by decide +kernel
theorem dL_load_16 : decode cL_load 16 = .ok (.astore_n 3, 1) := by decide +kernel
theorem dL_load_17 : decode cL_load 17 = .ok (.iload_n 2, 1) := by decide +kernel
theorem dL_load_18 : decode cL_load 18 = .ok (.newarray .int, 2) := by decide +kernel
theorem dL_load_20 : decode cL_load 20 = .ok (.astore 4, 2) := by decide +kernel
theorem dL_load_22 : decode cL_load 22 = .ok (.iconst 0, 1) := by decide +kernel
theorem dL_load_23 : decode cL_load 23 = .ok (.istore 5, 2) := by decide +kernel
theorem dL_load_25 : decode cL_load 25 = .ok (.iload 5, 2) := by decide +kernel
theorem dL_load_27 : decode cL_load 27 = .ok (.iload_n 2, 1) := by decide +kernel
theorem dL_load_28 : decode cL_load 28 = .ok (.if_icmp .ge 105, 3) := by decide +kernel
theorem dL_load_31 : decode cL_load 31 = .ok (.aload 4, 2) := by decide +kernel
theorem dL_load_33 : decode cL_load 33 = .ok (.iload 5, 2) := by decide +kernel
theorem dL_load_35 : decode cL_load 35 = .ok (.aload_n 1, 1) := by decide +kernel
theorem dL_load_36 : decode cL_load 36 = .ok (.iconst 1, 1) := by decide +kernel
theorem dL_load_37 : decode cL_load 37 = .ok (.iconst 5, 1) := by decide +kernel
theorem dL_load_38 : decode cL_load 38 = .ok (.iload 5, 2) := by decide +kernel
theorem dL_load_40 : decode cL_load 40 = .ok (.imul, 1) := by decide +kernel
theorem dL_load_41 : decode cL_load 41 = .ok (.iadd, 1) := by decide +kernel
theorem dL_load_42 : decode cL_load 42 = .ok (.invokestatic 47, 3) := by decide +kernel
theorem dL_load_45 : decode cL_load 45 = .ok (.iastore, 1) := by decide +kernel
theorem dL_load_46 : decode cL_load 46 = .ok (.aload_n 3, 1) := by decide +kernel
theorem dL_load_47 : decode cL_load 47 = .ok (.ldc 51, 2) := by decide +kernel
theorem dL_load_49 : decode cL_load 49 = .ok (.invokevirtual 53, 3) := by decide +kernel
theorem dL_load_52 : decode cL_load 52 = .ok (.aload 4, 2) := by decide +kernel
theorem dL_load_54 : decode cL_load 54 = .ok (.iload 5, 2) := by decide +kernel
theorem dL_load_56 : decode cL_load 56 = .ok (.iaload, 1) := by decide +kernel
theorem dL_load_57 : decode cL_load 57 = .ok (.invokevirtual 56, 3) := by decide +kernel
theorem dL_load_60 : decode cL_load 60 = .ok (.ldc 59, 2) := by decide +kernel
theorem dL_load_62 : decode cL_load 62 = .ok (.invokevirtual 53, 3) := by decide +kernel
theorem dL_load_65 : decode cL_load 65 = .ok (.iconst 1, 1) := by decide +kernel
theorem dL_load_66 : decode cL_load 66 = .ok (.aload_n 1, 1) := by decide +kernel
theorem dL_load_67 : decode cL_load 67 = .ok (.iconst 3, 1) := by decide +kernel
theorem dL_load_68 : decode cL_load 68 = .ok (.iconst 5, 1) := by decide +kernel
theorem dL_load_69 : decode cL_load 69 = .ok (.iload 5, 2) := by decide +kernel
theorem dL_load_71 : decode cL_load 71 = .ok (.imul, 1) := by decide +kernel
theorem dL_load_72 : decode cL_load 72 = .ok (.iadd, 1) := by decide +kernel
theorem dL_load_73 : decode cL_load 73 = .ok (.sipush 999, 3) := by decide +kernel
theorem dL_load_76 : decode cL_load 76 = .ok (.invokestatic 40, 3) := by decide +kernel
theorem dL_load_79 : decode cL_load 79 = .ok (.iadd, 1) := by decide +kernel
theorem dL_load_80 : decode cL_load 80 = .ok (.invokevirtual 56, 3) := by decide +kernel
theorem dL_load_83 : decode cL_load 83 = .ok (.pop, 1) := by decide +kernel
theorem dL_load_84 : decode cL_load 84 = .ok (.aload_n 1, 1) := by decide +kernel
theorem dL_load_85 : decode cL_load 85 = .ok (.iconst 4, 1) := by decide +kernel
theorem dL_load_86 : decode cL_load 86 = .ok (.iconst 5, 1) := by decide +kernel
theorem dL_load_87 : decode cL_load 87 = .ok (.iload 5, 2) := by decide +kernel
theorem dL_load_89 : decode cL_load 89 = .ok (.imul, 1) := by decide +kernel
theorem dL_load_90 : decode cL_load 90 = .ok (.iadd, 1) := by decide +kernel
theorem dL_load_91 : decode cL_load 91 = .ok (.iconst 2, 1) := by decide +kernel
theorem dL_load_92 : decode cL_load 92 = .ok (.invokestatic 40, 3) := by decide +kernel
theorem dL_load_95 : decode cL_load 95 = .ok (.ifCond .ne 25, 3) := by decide +kernel
theorem dL_load_98 : decode cL_load 98 = .ok (.aload_n 3, 1) := by decide +kernel
theorem dL_load_99 : decode cL_load 99 = .ok (.ldc 61, 2) := by decide +kernel
theorem dL_load_101 : decode cL_load 101 = .ok (.invokevirtual 53, 3) := by decide +kernel
theorem dL_load_104 : decode cL_load 104 = .ok (.aload_n 1, 1) := by decide +kernel
theorem dL_load_105 : decode cL_load 105 = .ok (.iconst 5, 1) := by decide +kernel
theorem dL_load_106 : decode cL_load 106 = .ok (.iconst 5, 1) := by decide +kernel
theorem dL_load_107 : decode cL_load 107 = .ok (.iload 5, 2) := by decide +kernel
theorem dL_load_109 : decode cL_load 109 = .ok (.imul, 1) := by decide +kernel
theorem dL_load_110 : decode cL_load 110 = .ok (.iadd, 1) := by decide +kernel
theorem dL_load_111 : decode cL_load 111 = .ok (.bipush 100, 2) := by decide +kernel
theorem dL_load_113 : decode cL_load 113 = .ok (.invokestatic 40, 3) := by decide +kernel
theorem dL_load_116 : decode cL_load 116 = .ok (.invokevirtual 56, 3) := by decide +kernel
theorem dL_load_119 : decode cL_load 119 = .ok (.pop, 1) := by decide +kernel
theorem dL_load_120 : decode cL_load 120 = .ok (.aload_n 3, 1) := by decide +kernel
theorem dL_load_121 : decode cL_load 121 = .ok (.ldc 63, 2) := by decide +kernel
theorem dL_load_123 : decode cL_load 123 = .ok (.invokevirtual 53, 3) := by decide +kernel
theorem dL_load_126 : decode cL_load 126 = .ok (.pop, 1) := by decide +kernel
theorem dL_load_127 : decode cL_load 127 = .ok (.iinc 5 1, 3) := by decide +kernel
theorem dL_load_130 : decode cL_load 130 = .ok (.goto (-105), 3) := by decide +kernel
theorem dL_load_133 : decode cL_load 133 = .ok (.sipush 1000, 3) := by decide +kernel
theorem dL_load_136 : decode cL_load 136 = .ok (.aload_n 1, 1) := by decide +kernel
theorem dL_load_137 : decode cL_load 137 = .ok (.bipush 27, 2) := by decide +kernel
theorem dL_load_139 : decode cL_load 139 = .ok (.sipush 3001, 3) := by decide +kernel
theorem dL_load_142 : decode cL_load 142 = .ok (.invokestatic 40, 3) := by decide +kernel
theorem dL_load_145 : decode cL_load 145 = .ok (.iadd, 1) := by decide +kernel
theorem dL_load_146 : decode cL_load 146 = .ok (.istore 5, 2) := by decide +kernel
theorem dL_load_148 : decode cL_load 148 = .ok (.aload_n 1, 1) := by decide +kernel
theorem dL_load_149 : decode cL_load 149 = .ok (.bipush 26, 2) := by decide +kernel
theorem dL_load_151 : decode cL_load 151 = .ok (.iconst 3, 1) := by decide +kernel
theorem dL_load_152 : decode cL_load 152 = .ok (.invokestatic 40, 3) := by decide +kernel
theorem dL_load_155 : decode cL_load 155 = .ok (.ifCond .ne 20, 3) := by decide +kernel
theorem dL_load_158 : decode cL_load 158 = .ok (.aload_n 3, 1) := by decide +kernel
theorem dL_load_159 : decode cL_load 159 = .ok (.ldc 65, 2) := by decide +kernel
theorem dL_load_161 : decode cL_load 161 = .ok (.invokevirtual 53, 3) := by decide +kernel
theorem dL_load_164 : decode cL_load 164 = .ok (.iload 5, 2) := by decide +kernel
theorem dL_load_166 : decode cL_load 166 = .ok (.invokevirtual 56, 3) := by decide +kernel
theorem dL_load_169 : decode cL_load 169 = .ok (.ldc 63, 2) := by decide +kernel
theorem dL_load_171 : decode cL_load 171 = .ok (.invokevirtual 53, 3) := by decide +kernel
theorem dL_load_174 : decode cL_load 174 = .ok (.pop, 1) := by decide +kernel
theorem dL_load_175 : decode cL_load 175 = .ok (.aload_n 1, 1) := by decide +kernel
theorem dL_load_176 : decode cL_load 176 = .ok (.bipush 28, 2) := by decide +kernel
theorem dL_load_178 : decode cL_load 178 = .ok (.iconst 4, 1) := by decide +kernel
theorem dL_load_179 : decode cL_load 179 = .ok (.invokestatic 40, 3) := by decide +kernel
theorem dL_load_182 : decode cL_load 182 = .ok (.istore 6, 2) := by decide +kernel
theorem dL_load_184 : decode cL_load 184 = .ok (.iload 6, 2) := by decide +kernel
theorem dL_load_186 : decode cL_load 186 = .ok (.iconst 1, 1) := by decide +kernel
theorem dL_load_187 : decode cL_load 187 = .ok (.if_icmp .ne 14, 3) := by decide +kernel
theorem dL_load_190 : decode cL_load 190 = .ok (.aload_n 1, 1) := by decide +kernel
theorem dL_load_191 : decode cL_load 191 = .ok (.bipush 29, 2) := by decide +kernel
theorem dL_load_193 : decode cL_load 193 = .ok (.bipush 101, 2) := by decide +kernel
theorem dL_load_195 : decode cL_load 195 = .ok (.invokestatic 40, 3) := by decide +kernel
theorem dL_load_198 : decode cL_load 198 = .ok (.goto 16, 3) := by decide +kernel
theorem dL_load_201 : decode cL_load 201 = .ok (.sipush 1000, 3) := by decide +kernel
theorem dL_load_204 : decode cL_load 204 = .ok (.aload_n 1, 1) := by decide +kernel
theorem dL_load_205 : decode cL_load 205 = .ok (.bipush 29, 2) := by decide +kernel
theorem dL_load_207 : decode cL_load 207 = .ok (.sipush 3001, 3) := by decide +kernel
theorem dL_load_210 : decode cL_load 210 = .ok (.invokestatic 40, 3) := by decide +kernel
theorem dL_load_213 : decode cL_load 213 = .ok (.iadd, 1) := by decide +kernel
theorem dL_load_214 : decode cL_load 214 = .ok (.istore 7, 2) := by decide +kernel
theorem dL_load_216 : decode cL_load 216 = .ok (.iload 6, 2) := by decide +kernel
theorem dL_load_218 : decode cL_load 218 = .ok (.iconst 1, 1) := by decide +kernel
theorem dL_load_219 : decode cL_load 219 = .ok (.if_icmp .ne 20, 3) := by decide +kernel
theorem dL_load_222 : decode cL_load 222 = .ok (.aload_n 3, 1) := by decide +kernel
theorem dL_load_223 : decode cL_load 223 = .ok (.ldc 67, 2) := by decide +kernel
theorem dL_load_225 : decode cL_load 225 = .ok (.invokevirtual 53, 3) := by decide +kernel
theorem dL_load_228 : decode cL_load 228 = .ok (.iload 7, 2) := by decide +kernel
theorem dL_load_230 : decode cL_load 230 = .ok (.invokevirtual 56, 3) := by decide +kernel
theorem dL_load_233 : decode cL_load 233 = .ok (.ldc 63, 2) := by decide +kernel
theorem dL_load_235 : decode cL_load 235 = .ok (.invokevirtual 53, 3) := by decide +kernel
theorem dL_load_238 : decode cL_load 238 = .ok (.pop, 1) := by decide +kernel
theorem dL_load_239 : decode cL_load 239 = .ok (.iload 6, 2) := by decide +kernel
theorem dL_load_241 : decode cL_load 241 = .ok (.iconst 2, 1) := by decide +kernel
theorem dL_load_242 : decode cL_load 242 = .ok (.if_icmp .ne 20, 3) := by decide +kernel
theorem dL_load_245 : decode cL_load 245 = .ok (.aload_n 3, 1) := by decide +kernel
theorem dL_load_246 : decode cL_load 246 = .ok (.ldc 69, 2) := by decide +kernel
theorem dL_load_248 : decode cL_load 248 = .ok (.invokevirtual 53, 3) := by decide +kernel
theorem dL_load_251 : decode cL_load 251 = .ok (.iload 7, 2) := by decide +kernel
theorem dL_load_253 : decode cL_load 253 = .ok (.invokevirtual 56, 3) := by decide +kernel
theorem dL_load_256 : decode cL_load 256 = .ok (.ldc 63, 2) := by decide +kernel
theorem dL_load_258 : decode cL_load 258 = .ok (.invokevirtual 53, 3) := by decide +kernel
theorem dL_load_261 : decode cL_load 261 = .ok (.pop, 1) := by decide +kernel
theorem dL_load_262 : decode cL_load 262 = .ok (.aload_n 1, 1) := by decide +kernel
theorem dL_load_263 : decode cL_load 263 = .ok (.bipush 30, 2) := by decide +kernel
theorem dL_load_265 : decode cL_load 265 = .ok (.iconst 4, 1) := by decide +kernel
theorem dL_load_266 : decode cL_load 266 = .ok (.invokestatic 40, 3) := by decide +kernel
theorem dL_load_269 : decode cL_load 269 = .ok (.istore 8, 2) := by decide +kernel
theorem dL_load_271 : decode cL_load 271 = .ok (.iconst 0, 1) := by decide +kernel
theorem dL_load_272 : decode cL_load 272 = .ok (.istore 9, 2) := by decide +kernel
theorem dL_load_274 : decode cL_load 274 = .ok (.iload 9, 2) := by decide +kernel
theorem dL_load_276 : decode cL_load 276 = .ok (.iload 8, 2) := by decide +kernel
theorem dL_load_278 : decode cL_load 278 = .ok (.if_icmp .ge 84, 3) := by decide +kernel
theorem dL_load_281 : decode cL_load 281 = .ok (.aload_n 1, 1) := by decide +kernel
theorem dL_load_282 : decode cL_load 282 = .ok (.bipush 31, 2) := by decide +kernel
theorem dL_load_284 : decode cL_load 284 = .ok (.iconst 3, 1) := by decide +kernel
theorem dL_load_285 : decode cL_load 285 = .ok (.iload 9, 2) := by decide +kernel
theorem dL_load_287 : decode cL_load 287 = .ok (.imul, 1) := by decide +kernel
theorem dL_load_288 : decode cL_load 288 = .ok (.iadd, 1) := by decide +kernel
theorem dL_load_289 : decode cL_load 289 = .ok (.iload_n 2, 1) := by decide +kernel
theorem dL_load_290 : decode cL_load 290 = .ok (.invokestatic 40, 3) := by decide +kernel
theorem dL_load_293 : decode cL_load 293 = .ok (.istore 10, 2) := by decide +kernel
theorem dL_load_295 : decode cL_load 295 = .ok (.aload_n 3, 1) := by decide +kernel
theorem dL_load_296 : decode cL_load 296 = .ok (.ldc 71, 2) := by decide +kernel
theorem dL_load_298 : decode cL_load 298 = .ok (.invokevirtual 53, 3) := by decide +kernel
theorem dL_load_301 : decode cL_load 301 = .ok (.iload 10, 2) := by decide +kernel
theorem dL_load_303 : decode cL_load 303 = .ok (.invokevirtual 56, 3) := by decide +kernel
theorem dL_load_306 : decode cL_load 306 = .ok (.aload_n 1, 1) := by decide +kernel
theorem dL_load_307 : decode cL_load 307 = .ok (.bipush 32, 2) := by decide +kernel
theorem dL_load_309 : decode cL_load 309 = .ok (.iconst 3, 1) := by decide +kernel
theorem dL_load_310 : decode cL_load 310 = .ok (.iload 9, 2) := by decide +kernel
theorem dL_load_312 : decode cL_load 312 = .ok (.imul, 1) := by decide +kernel
theorem dL_load_313 : decode cL_load 313 = .ok (.iadd, 1) := by decide +kernel
theorem dL_load_314 : decode cL_load 314 = .ok (.iconst 2, 1) := by decide +kernel
theorem dL_load_315 : decode cL_load 315 = .ok (.invokestatic 40, 3) := by decide +kernel
theorem dL_load_318 : decode cL_load 318 = .ok (.ifCond .ne 8, 3) := by decide +kernel
theorem dL_load_321 : decode cL_load 321 = .ok (.ldc 73, 2) := by decide +kernel
theorem dL_load_323 : decode cL_load 323 = .ok (.goto 5, 3) := by decide +kernel
theorem dL_load_326 : decode cL_load 326 = .ok (.ldc 75, 2) := by decide +kernel
theorem dL_load_328 : decode cL_load 328 = .ok (.invokevirtual 53, 3) := by decide +kernel
theorem dL_load_331 : decode cL_load 331 = .ok (.aload_n 1, 1) := by decide +kernel
theorem dL_load_332 : decode cL_load 332 = .ok (.bipush 33, 2) := by decide +kernel
theorem dL_load_334 : decode cL_load 334 = .ok (.iconst 3, 1) := by decide +kernel
theorem dL_load_335 : decode cL_load 335 = .ok (.iload 9, 2) := by decide +kernel
theorem dL_load_337 : decode cL_load 337 = .ok (.imul, 1) := by decide +kernel
theorem dL_load_338 : decode cL_load 338 = .ok (.iadd, 1) := by decide +kernel
theorem dL_load_339 : decode cL_load 339 = .ok (.aload 4, 2) := by decide +kernel
theorem dL_load_341 : decode cL_load 341 = .ok (.iload 10, 2) := by decide +kernel
theorem dL_load_343 : decode cL_load 343 = .ok (.iaload, 1) := by decide +kernel
theorem dL_load_344 : decode cL_load 344 = .ok (.invokestatic 40, 3) := by decide +kernel
theorem dL_load_347 : decode cL_load 347 = .ok (.invokevirtual 56, 3) := by decide +kernel
theorem dL_load_350 : decode cL_load 350 = .ok (.ldc 63, 2) := by decide +kernel
theorem dL_load_352 : decode cL_load 352 = .ok (.invokevirtual 53, 3) := by decide +kernel
theorem dL_load_355 : decode cL_load 355 = .ok (.pop, 1) := by decide +kernel
theorem dL_load_356 : decode cL_load 356 = .ok (.iinc 9 1, 3) := by decide +kernel
theorem dL_load_359 : decode cL_load 359 = .ok (.goto (-85), 3) := by decide +kernel
theorem dL_load_362 : decode cL_load 362 = .ok (.aload_n 0, 1) := by decide +kernel
theorem dL_load_363 : decode cL_load 363 = .ok (.aload_n 3, 1) := by decide +kernel
theorem dL_load_364 : decode cL_load 364 = .ok (.invokevirtual 77, 3) := by decide +kernel
theorem dL_load_367 : decode cL_load 367 = .ok (.invokestatic 81, 3) := by decide +kernel
theorem dL_load_370 : decode cL_load 370 = .ok (.aload_n 0, 1) := by decide +kernel
theorem dL_load_371 : decode cL_load 371 = .ok (.invokevirtual 85, 3) := by decide +kernel
theorem dL_load_374 : decode cL_load 374 = .ok (.iload_n 2, 1) := by decide +kernel
theorem dL_load_375 : decode cL_load 375 = .ok (.if_icmp .ne 55, 3) := by decide +kernel
theorem dL_load_378 : decode cL_load 378 = .ok (.aload_n 0, 1) := by decide +kernel
theorem dL_load_379 : decode cL_load 379 = .ok (.invokevirtual 88, 3) := by decide +kernel
theorem dL_load_382 : decode cL_load 382 = .ok (.ifCond .ne 48, 3) := by decide +kernel
theorem dL_load_385 : decode cL_load 385 = .ok (.aload_n 0, 1) := by decide +kernel
theorem dL_load_386 : decode cL_load 386 = .ok (.iconst 0, 1) := by decide +kernel
theorem dL_load_387 : decode cL_load 387 = .ok (.invokevirtual 91, 3) := by decide +kernel
theorem dL_load_390 : decode cL_load 390 = .ok (.iload_n 2, 1) := by decide +kernel
theorem dL_load_391 : decode cL_load 391 = .ok (.if_icmp .ne 39, 3) := by decide +kernel
theorem dL_load_394 : decode cL_load 394 = .ok (.aload_n 0, 1) := by decide +kernel
theorem dL_load_395 : decode cL_load 395 = .ok (.iconst 4, 1) := by decide +kernel
theorem dL_load_396 : decode cL_load 396 = .ok (.invokevirtual 91, 3) := by decide +kernel
theorem dL_load_399 : decode cL_load 399 = .ok (.iload 8, 2) := by decide +kernel
theorem dL_load_401 : decode cL_load 401 = .ok (.if_icmp .ne 29, 3) := by decide +kernel
theorem dL_load_404 : decode cL_load 404 = .ok (.aload_n 0, 1) := by decide +kernel
theorem dL_load_405 : decode cL_load 405 = .ok (.iconst 1, 1) := by decide +kernel
theorem dL_load_406 : decode cL_load 406 = .ok (.invokevirtual 91, 3) := by decide +kernel
theorem dL_load_409 : decode cL_load 409 = .ok (.aload_n 1, 1) := by decide +kernel
theorem dL_load_410 : decode cL_load 410 = .ok (.bipush 26, 2) := by decide +kernel
theorem dL_load_412 : decode cL_load 412 = .ok (.iconst 3, 1) := by decide +kernel
theorem dL_load_413 : decode cL_load 413 = .ok (.invokestatic 40, 3) := by decide +kernel
theorem dL_load_416 : decode cL_load 416 = .ok (.ifCond .ne 8, 3) := by decide +kernel
theorem dL_load_419 : decode cL_load 419 = .ok (.iload 5, 2) := by decide +kernel
theorem dL_load_421 : decode cL_load 421 = .ok (.goto 6, 3) := by decide +kernel
theorem dL_load_424 : decode cL_load 424 = .ok (.sipush 1000, 3) := by decide +kernel
theorem dL_load_427 : decode cL_load 427 = .ok (.if_icmp .eq 5, 3) := by decide +kernel
theorem dL_load_430 : decode cL_load 430 = .ok (.iconst 0, 1) := by decide +kernel
theorem dL_load_431 : decode cL_load 431 = .ok (.ireturn, 1) := by decide +kernel
theorem dL_load_432 : decode cL_load 432 = .ok (.aload_n 0, 1) := by decide +kernel
theorem dL_load_433 : decode cL_load 433 = .ok (.iconst 2, 1) := by decide +kernel
theorem dL_load_434 : decode cL_load 434 = .ok (.invokevirtual 91, 3) := by decide +kernel
theorem dL_load_437 : decode cL_load 437 = .ok (.iload 6, 2) := by decide +kernel
theorem dL_load_439 : decode cL_load 439 = .ok (.iconst 1, 1) := by decide +kernel
theorem dL_load_440 : decode cL_load 440 = .ok (.if_icmp .ne 7, 3) := by decide +kernel
theorem dL_load_443 : decode cL_load 443 = .ok (.iconst 1, 1) := by decide +kernel
theorem dL_load_444 : decode cL_load 444 = .ok (.goto 4, 3) := by decide +kernel
theorem dL_load_447 : decode cL_load 447 = .ok (.iconst 0, 1) := by decide +kernel
theorem dL_load_448 : decode cL_load 448 = .ok (.if_icmp .ne 52, 3) := by decide +kernel
theorem dL_load_451 : decode cL_load 451 = .ok (.aload_n 0, 1) := by decide +kernel
theorem dL_load_452 : decode cL_load 452 = .ok (.iconst 3, 1) := by decide +kernel
theorem dL_load_453 : decode cL_load 453 = .ok (.invokevirtual 91, 3) := by decide +kernel
theorem dL_load_456 : decode cL_load 456 = .ok (.iload 6, 2) := by decide +kernel
theorem dL_load_458 : decode cL_load 458 = .ok (.iconst 1, 1) := by decide +kernel
theorem dL_load_459 : decode cL_load 459 = .ok (.if_icmp .eq 9, 3) := by decide +kernel
theorem dL_load_462 : decode cL_load 462 = .ok (.iload 6, 2) := by decide +kernel
theorem dL_load_464 : decode cL_load 464 = .ok (.iconst 2, 1) := by decide +kernel
theorem dL_load_465 : decode cL_load 465 = .ok (.if_icmp .ne 8, 3) := by decide +kernel
theorem dL_load_468 : decode cL_load 468 = .ok (.iload 7, 2) := by decide +kernel
theorem dL_load_470 : decode cL_load 470 = .ok (.goto 6, 3) := by decide +kernel
theorem dL_load_473 : decode cL_load 473 = .ok (.sipush 1000, 3) := by decide +kernel
theorem dL_load_476 : decode cL_load 476 = .ok (.if_icmp .ne 24, 3) := by decide +kernel
theorem dL_load_479 : decode cL_load 479 = .ok (.aload_n 0, 1) := by decide +kernel
theorem dL_load_480 : decode cL_load 480 = .ok (.iload_n 2, 1) := by decide +kernel
theorem dL_load_481 : decode cL_load 481 = .ok (.iconst 1, 1) := by decide +kernel
theorem dL_load_482 : decode cL_load 482 = .ok (.isub, 1) := by decide +kernel
theorem dL_load_483 : decode cL_load 483 = .ok (.iconst 0, 1) := by decide +kernel
theorem dL_load_484 : decode cL_load 484 = .ok (.invokevirtual 95, 3) := by decide +kernel
theorem dL_load_487 : decode cL_load 487 = .ok (.aload 4, 2) := by decide +kernel
theorem dL_load_489 : decode cL_load 489 = .ok (.iload_n 2, 1) := by decide +kernel
theorem dL_load_490 : decode cL_load 490 = .ok (.iconst 1, 1) := by decide +kernel
theorem dL_load_491 : decode cL_load 491 = .ok (.isub, 1) := by decide +kernel
theorem dL_load_492 : decode cL_load 492 = .ok (.iaload, 1) := by decide +kernel
theorem dL_load_493 : decode cL_load 493 = .ok (.if_icmp .ne 7, 3) := by decide +kernel
theorem dL_load_496 : decode cL_load 496 = .ok (.iconst 1, 1) := by decide +kernel
theorem dL_load_497 : decode cL_load 497 = .ok (.goto 4, 3) := by decide +kernel
theorem dL_load_500 : decode cL_load 500 = .ok (.iconst 0, 1) := by decide +kernel
theorem dL_load_501 : decode cL_load 501 = .ok (.ireturn, 1) := by decide +kernel
set_option maxRecDepth 20000 in
set_option maxRecDepth 100000 in
theorem ggL_added_X8_addLayer : GoodIn wsL_added wsX8_addLayer := goodIn_ca (goodIn_ca (goodIn_ca (goodIn_r _ [6, 7, 8, 9, 10, 11, 12, 13, 14, 15, 16, 5, 17, 18, 19, 20, 21, 22, 23, 24, 25, 26, 27, 28, 29, 30, 31, 32, 33, 34, 35, 36, 37, 38, 39, 40, 41, 42, 43, 44, 45, 46, 47, 48, 49, 50, 51, 52, 53, 54, 55, 56, 57, 58, 59, 60, 61, 62, 63, 64, 65, 66, 67, 68, 69, 70, 71, 72, 73, 74, 75, 76, 77, 78, 79, 80, 81, 82, 83, 84, 85, 86, 87, 88, 89, 90, 91, 92, 93, 94, 95, 96, 97, 98, 99, 100, 101, 102, 103, 104, 105, 106, 107, 108, 109, 110, 111] rfl (by decide +kernel)) (goodIn_sub (fun _ h => List.mem_cons_of_mem _ (List.mem_append_left _ (List.mem_append_left _ (List.mem_append_right _ h)))) (by decide +kernel))) (goodIn_sub (fun _ h => List.mem_cons_of_mem _ (List.mem_append_left _ (List.mem_append_right _ h))) (by decide +kernel))) (goodIn_sub (fun _ h => List.mem_cons_of_mem _ (List.mem_append_right _ h)) (by decide +kernel))
set_option maxRecDepth 20000 in
theorem gL_added_X8_addLayer : GoodIn wsL_added (wsV RL 98 RX8 yX8_addLayer wsX8_addLayer) := goodIn_app (goodIn_of _ (by decide +kernel)) ggL_added_X8_addLayer
theorem dL_added_0 : decode cL_added 0 = .ok (.aload_n 0, 1) := by decide +kernel
theorem dL_added_1 : decode cL_added 1 = .ok (.iload_n 1, 1) := by decide +kernel
theorem dL_added_2 : decode cL_added 2 = .ok (.iload_n 2, 1) := by decide +kernel
theorem dL_added_3 : decode cL_added 3 = .ok (.iload_n 3, 1) := by decide +kernel
theorem dL_added_4 : decode cL_added 4 = .ok (.iload 4, 2) := by decide +kernel
theorem dL_added_6 : decode cL_added 6 = .ok (.invokevirtual 98, 3) := by decide +kernel
theorem dL_added_9 : decode cL_added 9 = .ok (.ireturn, 1) := by decide +kernel
theorem dL_added_10 : decode cL_added 10 = .ok (.astore 5, 2) := by decide +kernel
theorem dL_added_12 : decode cL_added 12 = .ok (.bipush (-9), 2) := by decide +kernel
theorem dL_added_14 : decode cL_added 14 = .ok (.ireturn, 1) := by decide +kernel
set_option maxRecDepth 20000 in
set_option maxRecDepth 100000 in
theorem ggL_removed_X8_removeLayer : GoodIn wsL_removed wsX8_removeLayer := goodIn_ca (goodIn_ca (goodIn_r _ [6, 7, 8, 9, 10, 11, 12, 13, 14, 15, 5, 16, 17, 18, 19, 20, 21, 22, 23, 24, 25, 26, 27, 28, 29, 30, 31, 32, 33, 34, 35, 36, 37, 38, 39, 40, 41, 42, 43, 44, 45, 46, 47, 48, 49, 50, 51, 52, 53, 54, 55, 56, 57, 58, 59, 60, 61, 62, 63, 64, 65, 66, 67, 68, 69, 70, 71, 72, 73, 74, 75, 76, 77, 78, 79, 80, 81, 82, 83, 84, 85, 86, 87, 88, 89, 90, 91, 92, 93, 94, 95, 96, 97, 98, 99, 100, 101, 102, 103, 104, 105, 106, 107, 108, 109, 110, 111, 112, 113, 114] rfl (by decide +kernel)) (goodIn_sub (fun _ h => List.mem_cons_of_mem _ (List.mem_append_left _ (List.mem_append_right _ h))) (by decide +kernel))) (goodIn_sub (fun _ h => List.mem_cons_of_mem _ (List.mem_append_right _ h)) (by decide +kernel))
set_option maxRecDepth 20000 in
theorem gL_removed_X8_removeLayer : GoodIn wsL_removed (wsV RL 104 RX8 yX8_removeLayer wsX8_removeLayer) := goodIn_app (goodIn_of _ (by decide +kernel)) ggL_removed_X8_removeLayer
theorem dL_removed_0 : decode cL_removed 0 = .ok (.aload_n 0, 1) := by decide +kernel
theorem dL_removed_1 : decode cL_removed 1 = .ok (.iload_n 1, 1) := by decide +kernel
theorem dL_removed_2 : decode cL_removed 2 = .ok (.invokevirtual 104, 3) := by decide +kernel
theorem dL_removed_5 : decode cL_removed 5 = .ok (.ireturn, 1) := by decide +kernel
theorem dL_removed_6 : decode cL_removed 6 = .ok (.astore_n 2, 1) := by decide +kernel
theorem dL_removed_7 : decode cL_removed 7 = .ok (.bipush (-9), 2) := by decide +kernel
theorem dL_removed_9 : decode cL_removed 9 = .ok (.ireturn, 1) := by decide +kernel
set_option maxRecDepth 20000 in
set_option maxRecDepth 100000 in
theorem ggL_shot_X8_shoot : GoodIn wsL_shot wsX8_shoot := goodIn_ca (goodIn_ca (goodIn_ca (goodIn_r _ [7, 8, 9, 10, 11, 12, 13, 14, 15, 16, 17, 18, 19, 20, 6, 21, 22, 23, 24, 25, 26, 27, 28, 29, 30, 31, 32, 33, 34, 35, 36, 37, 38, 39, 40, 41, 42, 43, 44, 45, 46, 47, 48, 49, 50, 51, 52, 53, 54, 55, 56, 57, 58, 59, 60, 61, 62, 63, 64, 65, 66, 67, 68, 69, 70, 71, 72, 73, 74, 75, 76, 77, 78, 79, 80, 81, 82, 83, 84, 85, 86, 87, 88, 89, 90, 91, 92, 93, 94, 95, 96, 97, 98, 99, 100, 101, 102, 103, 104, 105, 106, 107, 108, 109, 110, 111, 112, 113, 114, 115, 116, 117, 118, 119, 120, 121, 122, 123, 124, 125, 126, 127, 128] rfl (by decide +kernel)) (goodIn_sub (fun _ h => List.mem_cons_of_mem _ (List.mem_append_left _ (List.mem_append_left _ (List.mem_append_right _ h)))) (by decide +kernel))) (goodIn_sub (fun _ h => List.mem_cons_of_mem _ (List.mem_append_left _ (List.mem_append_right _ h))) (by decide +kernel))) (goodIn_sub (fun _ h => List.mem_cons_of_mem _ (List.mem_append_right _ h)) (by decide +kernel))
set_option maxRecDepth 20000 in
theorem gL_shot_X8_shoot : GoodIn wsL_shot (wsV RL 107 RX8 yX8_shoot wsX8_shoot) := goodIn_app (goodIn_of _ (by decide +kernel)) ggL_shot_X8_shoot
theorem dL_shot_0 : decode cL_shot 0 = .ok (.aload_n 0, 1) := by decide +kernel
theorem dL_shot_1 : decode cL_shot 1 = .ok (.iload_n 1, 1) := by decide +kernel
theorem dL_shot_2 : decode cL_shot 2 = .ok (.iload_n 2, 1) := by decide +kernel
theorem dL_shot_3 : decode cL_shot 3 = .ok (.iload_n 3, 1) := by decide +kernel
theorem dL_shot_4 : decode cL_shot 4 = .ok (.invokevirtual 107, 3) := by decide +kernel
theorem dL_shot_7 : decode cL_shot 7 = .ok (.ireturn, 1) := by decide +kernel
theorem dL_shot_8 : decode cL_shot 8 = .ok (.astore 4, 2) := by decide +kernel
theorem dL_shot_10 : decode cL_shot 10 = .ok (.bipush (-9), 2) := by decide +kernel
theorem dL_shot_12 : decode cL_shot 12 = .ok (.ireturn, 1) := by decide +kernel
theorem dL_shot_13 : decode cL_shot 13 = .ok (.astore 4, 2) := by decide +kernel
theorem dL_shot_15 : decode cL_shot 15 = .ok (.bipush (-9), 2) := by decide +kernel
theorem dL_shot_17 : decode cL_shot 17 = .ok (.ireturn, 1) := by decide +kernel
set_option maxRecDepth 20000 in
set_option maxRecDepth 100000 in
theorem ggL_act_L_draw : GoodIn wsL_act wsL_draw := goodIn_r _ [5, 6] rfl (by decide +kernel)
set_option maxRecDepth 20000 in
theorem gL_act_L_draw : GoodIn wsL_act (va_wsS RL 40 yL_draw wsL_draw) := goodIn_app (goodIn_of _ (by decide +kernel)) ggL_act_L_draw
set_option maxRecDepth 20000 in
set_option maxRecDepth 100000 in
theorem ggL_act_X8_property : GoodIn wsL_act wsX8_property := goodIn_ca (goodIn_r _ [11, 12, 13, 14, 15, 16, 17, 18, 19, 20, 21, 22, 23, 24, 25, 26, 27, 28, 29, 30, 31, 32, 33, 307, 308, 309, 310, 311, 312, 313, 314, 315, 316, 317, 318, 319, 320, 321, 322, 323, 324] rfl (by decide +kernel)) (goodIn_sub (fun _ h => List.mem_cons_of_mem _ (List.mem_append_left _ (List.mem_append_left _ (List.mem_append_right _ h)))) (by decide +kernel))
set_option maxRecDepth 20000 in
theorem gL_act_X8_property : GoodIn wsL_act (wsV RL 91 RX8 yX8_property wsX8_property) := goodIn_app (goodIn_of _ (by decide +kernel)) ggL_act_X8_property
set_option maxRecDepth 20000 in
set_option maxRecDepth 100000 in
theorem ggL_act_L_added : GoodIn wsL_act wsL_added := goodIn_ca (goodIn_ca (goodIn_ca (goodIn_r _ [36, 37, 38, 39, 40, 10, 41, 42, 43, 44, 45, 14, 15, 16, 46, 47, 48, 49, 12, 13, 50, 51, 52, 53, 54, 55, 56, 57, 58, 24, 59, 60, 61, 62, 63, 64, 65, 66, 67, 68, 69, 70, 71, 72, 31, 26, 73, 74, 75, 76, 77, 78, 79, 80, 33, 81, 82, 83, 84, 85, 86, 87, 88, 89, 90, 91, 92, 93, 94, 95, 96, 97, 98, 99, 100, 101, 102, 103, 104, 105, 106, 107, 29, 30, 32, 108, 109, 110, 111, 112, 113, 307, 308, 309, 310, 311, 312, 313, 314, 315, 316, 317, 318, 319, 320, 321, 322, 323, 324, 325, 326, 327] rfl (by decide +kernel)) (goodIn_sub (fun _ h => List.mem_cons_of_mem _ (List.mem_append_left _ (List.mem_append_right _ h))) (by decide +kernel))) (goodIn_sub (fun _ h => List.mem_cons_of_mem _ (List.mem_append_right _ h)) (by decide +kernel))) (goodIn_sub (fun _ h => List.mem_cons_of_mem _ (List.mem_append_left _ (List.mem_append_left _ (List.mem_append_right _ h)))) (by decide +kernel))
set_option maxRecDepth 20000 in
theorem gL_act_L_added : GoodIn wsL_act (va_wsS RL 114 yL_added wsL_added) := goodIn_app (goodIn_of _ (by decide +kernel)) ggL_act_L_added
set_option maxRecDepth 20000 in
set_option maxRecDepth 100000 in
theorem ggL_act_L_removed : GoodIn wsL_act wsL_removed := goodIn_ca (goodIn_ca (goodIn_r _ [116, 37, 117, 118, 119, 10, 120, 44, 45, 14, 15, 16, 46, 121, 122, 123, 124, 42, 43, 125, 126, 127, 31, 128, 81, 50, 51, 52, 53, 54, 55, 56, 57, 58, 24, 59, 60, 61, 62, 63, 64, 65, 66, 67, 68, 69, 70, 71, 72, 26, 73, 74, 75, 76, 77, 78, 79, 80, 33, 82, 83, 84, 85, 86, 87, 88, 89, 90, 91, 92, 93, 94, 95, 96, 97, 98, 129, 130, 131, 132, 103, 104, 105, 106, 107, 29, 30, 32, 108, 109, 110, 111, 112, 113, 307, 308, 309, 310, 311, 312, 313, 314, 315, 316, 317, 318, 319, 320, 321, 322, 323, 324, 325, 326, 327] rfl (by decide +kernel)) (goodIn_sub (fun _ h => List.mem_cons_of_mem _ (List.mem_append_right _ h)) (by decide +kernel))) (goodIn_sub (fun _ h => List.mem_cons_of_mem _ (List.mem_append_left _ (List.mem_append_right _ h))) (by decide +kernel))
set_option maxRecDepth 20000 in
theorem gL_act_L_removed : GoodIn wsL_act (va_wsS RL 118 yL_removed wsL_removed) := goodIn_app (goodIn_of _ (by decide +kernel)) ggL_act_L_removed
set_option maxRecDepth 20000 in
set_option maxRecDepth 100000 in
theorem ggL_act_X8_setLayer : GoodIn wsL_act wsX8_setLayer := goodIn_ca (goodIn_ca (goodIn_r _ [136, 46, 14, 15, 121, 122, 123, 10, 124, 42, 43, 125, 126, 127, 31, 128, 81, 137, 138, 139, 12, 13, 47, 48, 49, 50, 51, 52, 53, 54, 55, 56, 57, 58, 24, 59, 60, 61, 62, 63, 64, 65, 66, 67, 68, 69, 70, 71, 72, 26, 73, 74, 75, 76, 77, 78, 79, 80, 33, 82, 83, 84, 85, 86, 87, 88, 89, 90, 91, 92, 93, 94, 95, 96, 97, 98, 140, 29, 30, 32, 141, 109, 110, 111, 112, 113, 307, 308, 309, 310, 311, 312, 313, 314, 315, 316, 317, 318, 319, 320, 321, 322, 323, 324, 325, 326, 327] rfl (by decide +kernel)) (goodIn_sub (fun _ h => List.mem_cons_of_mem _ (List.mem_append_left _ (List.mem_append_right _ h))) (by decide +kernel))) (goodIn_sub (fun _ h => List.mem_cons_of_mem _ (List.mem_append_left _ (List.mem_append_left _ (List.mem_append_right _ h)))) (by decide +kernel))
set_option maxRecDepth 20000 in
theorem gL_act_X8_setLayer : GoodIn wsL_act (wsV RL 122 RX8 yX8_setLayer wsX8_setLayer) := goodIn_app (goodIn_of _ (by decide +kernel)) ggL_act_X8_setLayer
set_option maxRecDepth 20000 in
set_option maxRecDepth 100000 in
theorem ggL_act_X8_setOutside : GoodIn wsL_act wsX8_setOutside := goodIn_ca (goodIn_r _ [145, 46, 14, 17, 47, 48, 10, 49, 12, 13, 50, 51, 52, 53, 54, 55, 56, 57, 58, 24, 59, 60, 61, 62, 63, 64, 65, 66, 67, 68, 69, 70, 71, 72, 31, 26, 73, 74, 75, 76, 77, 78, 79, 80, 33, 81, 82, 83, 84, 85, 86, 87, 88, 89, 90, 91, 92, 93, 94, 95, 96, 97, 98, 307, 308, 309, 310, 311, 312, 313, 314, 315, 316, 317, 318, 319, 320, 321, 322, 325, 326, 327, 323, 324] rfl (by decide +kernel)) (goodIn_sub (fun _ h => List.mem_cons_of_mem _ (List.mem_append_left _ (List.mem_append_left _ (List.mem_append_right _ h)))) (by decide +kernel))
set_option maxRecDepth 20000 in
theorem gL_act_X8_setOutside : GoodIn wsL_act (wsV RL 126 RX8 yX8_setOutside wsX8_setOutside) := goodIn_app (goodIn_of _ (by decide +kernel)) ggL_act_X8_setOutside
set_option maxRecDepth 20000 in
set_option maxRecDepth 100000 in
theorem ggL_act_X8_setOpen : GoodIn wsL_act wsX8_setOpen := goodIn_ca (goodIn_r _ [149, 46, 14, 18, 19, 47, 48, 10, 49, 12, 13, 50, 51, 52, 53, 54, 55, 56, 57, 58, 24, 59, 60, 61, 62, 63, 64, 65, 66, 67, 68, 69, 70, 71, 72, 31, 26, 73, 74, 75, 76, 77, 78, 79, 80, 33, 81, 82, 83, 84, 85, 86, 87, 88, 89, 90, 91, 92, 93, 94, 95, 96, 97, 98, 150, 307, 308, 309, 310, 311, 312, 313, 314, 315, 316, 317, 318, 319, 320, 321, 322, 325, 326, 327, 323, 324] rfl (by decide +kernel)) (goodIn_sub (fun _ h => List.mem_cons_of_mem _ (List.mem_append_left _ (List.mem_append_left _ (List.mem_append_right _ h)))) (by decide +kernel))
set_option maxRecDepth 20000 in
theorem gL_act_X8_setOpen : GoodIn wsL_act (wsV RL 129 RX8 yX8_setOpen wsX8_setOpen) := goodIn_app (goodIn_of _ (by decide +kernel)) ggL_act_X8_setOpen
set_option maxRecDepth 20000 in
set_option maxRecDepth 100000 in
theorem ggL_act_X8_setMirror : GoodIn wsL_act wsX8_setMirror := goodIn_ca (goodIn_r _ [154, 46, 14, 18, 19, 47, 48, 10, 49, 12, 13, 50, 51, 52, 53, 54, 55, 56, 57, 58, 24, 59, 60, 61, 62, 63, 64, 65, 66, 67, 68, 69, 70, 71, 72, 31, 26, 73, 74, 75, 76, 77, 78, 79, 80, 33, 81, 82, 83, 84, 85, 86, 87, 88, 89, 90, 91, 92, 93, 94, 95, 96, 97, 98, 150, 307, 308, 309, 310, 311, 312, 313, 314, 315, 316, 317, 318, 319, 320, 321, 322, 325, 326, 327, 323, 324] rfl (by decide +kernel)) (goodIn_sub (fun _ h => List.mem_cons_of_mem _ (List.mem_append_left _ (List.mem_append_left _ (List.mem_append_right _ h)))) (by decide +kernel))
set_option maxRecDepth 20000 in
theorem gL_act_X8_setMirror : GoodIn wsL_act (wsV RL 132 RX8 yX8_setMirror wsX8_setMirror) := goodIn_app (goodIn_of _ (by decide +kernel)) ggL_act_X8_setMirror
set_option maxRecDepth 20000 in
set_option maxRecDepth 100000 in
theorem ggL_act_X8_layer : GoodIn wsL_act wsX8_layer := goodIn_ca (goodIn_ca (goodIn_r _ [158, 14, 15, 121, 122, 123, 10, 124, 42, 43, 125, 126, 127, 31, 128, 81, 47, 48, 49, 12, 13, 21, 22, 23, 24, 25, 26, 27, 28, 29, 30, 32, 33, 140, 307, 308, 309, 310, 311, 312, 313, 314, 315, 316, 317, 318, 319, 320, 321, 322, 323, 324] rfl (by decide +kernel)) (goodIn_sub (fun _ h => List.mem_cons_of_mem _ (List.mem_append_left _ (List.mem_append_right _ h))) (by decide +kernel))) (goodIn_sub (fun _ h => List.mem_cons_of_mem _ (List.mem_append_left _ (List.mem_append_left _ (List.mem_append_right _ h)))) (by decide +kernel))
set_option maxRecDepth 20000 in
theorem gL_act_X8_layer : GoodIn wsL_act (wsV RL 95 RX8 yX8_layer wsX8_layer) := goodIn_app (goodIn_of _ (by decide +kernel)) ggL_act_X8_layer
set_option maxRecDepth 20000 in
set_option maxRecDepth 100000 in
theorem ggL_act_L_shot : GoodIn wsL_act wsL_shot := goodIn_ca (goodIn_ca (goodIn_ca (goodIn_r _ [161, 162, 37, 163, 164, 165, 10, 166, 44, 45, 14, 167, 61, 62, 63, 20, 16, 46, 121, 122, 123, 124, 42, 43, 15, 125, 126, 127, 31, 128, 81, 168, 169, 170, 24, 171, 74, 26, 27, 75, 76, 28, 29, 30, 32, 33, 47, 48, 49, 12, 13, 50, 51, 52, 53, 54, 55, 56, 57, 58, 59, 60, 64, 65, 66, 67, 68, 69, 70, 71, 72, 73, 77, 78, 79, 80, 82, 83, 84, 85, 86, 87, 88, 89, 90, 91, 92, 93, 94, 95, 96, 97, 98, 99, 100, 101, 102, 103, 104, 105, 106, 107, 108, 109, 110, 111, 112, 113, 307, 308, 309, 310, 311, 312, 313, 314, 315, 316, 317, 318, 319, 320, 321, 322, 323, 324, 325, 326, 327] rfl (by decide +kernel)) (goodIn_sub (fun _ h => List.mem_cons_of_mem _ (List.mem_append_right _ h)) (by decide +kernel))) (goodIn_sub (fun _ h => List.mem_cons_of_mem _ (List.mem_append_left _ (List.mem_append_right _ h))) (by decide +kernel))) (goodIn_sub (fun _ h => List.mem_cons_of_mem _ (List.mem_append_left _ (List.mem_append_left _ (List.mem_append_right _ h)))) (by decide +kernel))
set_option maxRecDepth 20000 in
theorem gL_act_L_shot : GoodIn wsL_act (va_wsS RL 135 yL_shot wsL_shot) := goodIn_app (goodIn_of _ (by decide +kernel)) ggL_act_L_shot
set_option maxRecDepth 20000 in
set_option maxRecDepth 100000 in
theorem ggL_act_X8_turn : GoodIn wsL_act wsX8_turn := goodIn_ca (goodIn_ca (goodIn_r _ [175, 46, 14, 20, 176, 177, 178, 179, 10, 180, 42, 43, 125, 126, 127, 31, 128, 81, 47, 48, 49, 12, 13, 50, 51, 52, 53, 54, 55, 56, 57, 58, 24, 59, 60, 61, 62, 63, 64, 65, 66, 67, 68, 69, 70, 71, 72, 26, 73, 74, 75, 76, 77, 78, 79, 80, 33, 82, 83, 84, 85, 86, 87, 88, 89, 90, 91, 92, 93, 94, 95, 96, 97, 98, 141, 109, 110, 111, 112, 113, 181, 182, 183, 184, 185, 186, 187, 188, 189, 190, 191, 192, 193, 194, 195, 169, 170, 171, 27, 28, 29, 30, 32, 140, 196, 197, 198, 199, 200, 201, 202, 203, 204, 205, 206, 207, 208, 209, 210, 211, 212, 213, 214, 215, 216, 217, 218, 219, 220, 221, 222, 223, 224, 225, 226, 227, 228, 229, 230, 231, 232, 233, 234, 235, 236, 237, 238, 239, 240, 241, 242, 243, 244, 245, 246, 247, 248, 249, 250, 251, 252, 253, 254, 255, 256, 257, 258, 259, 260, 261, 262, 263, 264, 265, 266, 267, 268, 269, 270, 271, 272, 273, 274, 275, 276, 277, 278, 279, 280, 281, 282, 283, 284, 285, 286, 287, 288, 289, 290, 291, 292, 307, 308, 309, 310, 311, 312, 313, 314, 315, 316, 317, 318, 319, 320, 321, 322, 328, 329, 330, 331, 332, 333, 334, 335, 336, 337, 338, 339, 340, 341, 342, 343, 344, 345, 323, 324, 325, 326, 327] rfl (by decide +kernel)) (goodIn_sub (fun _ h => List.mem_cons_of_mem _ (List.mem_append_left _ (List.mem_append_right _ h))) (by decide +kernel))) (goodIn_sub (fun _ h => List.mem_cons_of_mem _ (List.mem_append_left _ (List.mem_append_left _ (List.mem_append_right _ h)))) (by decide +kernel))
set_option maxRecDepth 20000 in
theorem gL_act_X8_turn : GoodIn wsL_act (wsV RL 139 RX8 yX8_turn wsX8_turn) := goodIn_app (goodIn_of _ (by decide +kernel)) ggL_act_X8_turn
set_option maxRecDepth 20000 in
set_option maxRecDepth 100000 in
theorem ggL_act_X8_dropShot : GoodIn wsL_act wsX8_dropShot := goodIn_ca (goodIn_r _ [296, 46, 14, 20, 16, 177, 178, 179, 10, 180, 42, 43, 125, 126, 127, 31, 128, 81, 50, 51, 52, 53, 54, 55, 56, 57, 58, 24, 59, 60, 61, 62, 63, 64, 65, 66, 67, 68, 69, 70, 71, 72, 26, 73, 74, 75, 76, 77, 78, 79, 80, 33, 82, 83, 84, 85, 86, 87, 88, 89, 90, 91, 92, 93, 94, 95, 96, 97, 98, 129, 130, 131, 132, 103, 104, 105, 106, 107, 29, 30, 32, 108, 109, 110, 111, 112, 113, 307, 308, 309, 310, 311, 312, 313, 314, 315, 316, 317, 318, 319, 320, 321, 322, 323, 324, 325, 326, 327] rfl (by decide +kernel)) (goodIn_sub (fun _ h => List.mem_cons_of_mem _ (List.mem_append_left _ (List.mem_append_right _ h))) (by decide +kernel))
set_option maxRecDepth 20000 in
theorem gL_act_X8_dropShot : GoodIn wsL_act (wsV RL 142 RX8 yX8_dropShot wsX8_dropShot) := goodIn_app (goodIn_of _ (by decide +kernel)) ggL_act_X8_dropShot
set_option maxRecDepth 20000 in
set_option maxRecDepth 100000 in
theorem ggL_act_X8_swapLayers : GoodIn wsL_act wsX8_swapLayers := goodIn_ca (goodIn_ca (goodIn_r _ [300, 12, 13, 46, 14, 301, 15, 20, 16, 176, 121, 122, 123, 10, 124, 42, 43, 125, 126, 127, 31, 128, 81, 50, 51, 52, 53, 54, 55, 56, 57, 58, 24, 59, 60, 61, 62, 63, 64, 65, 66, 67, 68, 69, 70, 71, 72, 26, 73, 74, 75, 76, 77, 78, 79, 80, 33, 82, 83, 84, 85, 86, 87, 88, 89, 90, 91, 92, 93, 94, 95, 96, 97, 98, 302, 303, 304, 305, 306, 107, 29, 30, 32, 108, 109, 110, 111, 112, 113, 181, 182, 183, 184, 185, 186, 187, 188, 189, 190, 191, 192, 193, 194, 195, 169, 170, 171, 27, 28, 140, 196, 197, 198, 199, 200, 201, 202, 203, 204, 205, 206, 207, 208, 209, 210, 211, 212, 213, 214, 215, 216, 217, 218, 219, 220, 221, 222, 223, 224, 225, 226, 227, 228, 229, 230, 231, 232, 233, 234, 235, 236, 237, 238, 239, 240, 241, 242, 243, 244, 245, 246, 247, 248, 249, 250, 251, 252, 253, 254, 255, 256, 257, 258, 259, 260, 261, 262, 263, 264, 265, 266, 267, 268, 269, 270, 271, 272, 273, 274, 275, 276, 277, 278, 279, 280, 281, 282, 283, 284, 285, 286, 287, 288, 289, 290, 291, 292, 307, 308, 309, 310, 311, 312, 313, 314, 315, 316, 317, 318, 319, 320, 321, 322, 323, 324, 328, 329, 330, 331, 332, 333, 334, 335, 336, 337, 338, 339, 340, 341, 342, 343, 344, 345, 325, 326, 327] rfl (by decide +kernel)) (goodIn_sub (fun _ h => List.mem_cons_of_mem _ (List.mem_append_left _ (List.mem_append_left _ (List.mem_append_right _ h)))) (by decide +kernel))) (goodIn_sub (fun _ h => List.mem_cons_of_mem _ (List.mem_append_left _ (List.mem_append_right _ h))) (by decide +kernel))
set_option maxRecDepth 20000 in
theorem gL_act_X8_swapLayers : GoodIn wsL_act (wsV RL 145 RX8 yX8_swapLayers wsX8_swapLayers) := goodIn_app (goodIn_of _ (by decide +kernel)) ggL_act_X8_swapLayers
theorem dL_act_0 : decode cL_act 0 = .ok (.aload_n 1, 1) := by decide +kernel
theorem dL_act_1 : decode cL_act 1 = .ok (.iload_n 2, 1) := by decide +kernel
theorem dL_act_2 : decode cL_act 2 = .ok (.iconst 1, 1) := by decide +kernel
theorem dL_act_3 : decode cL_act 3 = .ok (.iadd, 1) := by decide +kernel
theorem dL_act_4 : decode cL_act 4 = .ok (.ldc 113, 2) := by decide +kernel
theorem dL_act_6 : decode cL_act 6 = .ok (.invokestatic 40, 3) := by decide +kernel
theorem dL_act_9 : decode cL_act 9 = .ok (.istore_n 3, 1) := by decide +kernel
theorem dL_act_10 : decode cL_act 10 = .ok (.aload_n 1, 1) := by decide +kernel
theorem dL_act_11 : decode cL_act 11 = .ok (.iload_n 2, 1) := by decide +kernel
theorem dL_act_12 : decode cL_act 12 = .ok (.iconst 2, 1) := by decide +kernel
theorem dL_act_13 : decode cL_act 13 = .ok (.iadd, 1) := by decide +kernel
theorem dL_act_14 : decode cL_act 14 = .ok (.ldc 113, 2) := by decide +kernel
theorem dL_act_16 : decode cL_act 16 = .ok (.invokestatic 40, 3) := by decide +kernel
theorem dL_act_19 : decode cL_act 19 = .ok (.istore 4, 2) := by decide +kernel
theorem dL_act_21 : decode cL_act 21 = .ok (.aload_n 0, 1) := by decide +kernel
theorem dL_act_22 : decode cL_act 22 = .ok (.iconst 0, 1) := by decide +kernel
theorem dL_act_23 : decode cL_act 23 = .ok (.invokevirtual 91, 3) := by decide +kernel
theorem dL_act_26 : decode cL_act 26 = .ok (.istore 5, 2) := by decide +kernel
theorem dL_act_28 : decode cL_act 28 = .ok (.aload_n 0, 1) := by decide +kernel
theorem dL_act_29 : decode cL_act 29 = .ok (.iconst 4, 1) := by decide +kernel
theorem dL_act_30 : decode cL_act 30 = .ok (.invokevirtual 91, 3) := by decide +kernel
theorem dL_act_33 : decode cL_act 33 = .ok (.istore 6, 2) := by decide +kernel
theorem dL_act_35 : decode cL_act 35 = .ok (.iload_n 3, 1) := by decide +kernel
theorem dL_act_36 : decode cL_act 36 = .ok (.iload 5, 2) := by decide +kernel
theorem dL_act_38 : decode cL_act 38 = .ok (.irem, 1) := by decide +kernel
theorem dL_act_39 : decode cL_act 39 = .ok (.istore 7, 2) := by decide +kernel
theorem dL_act_41 : decode cL_act 41 = .ok (.iload 4, 2) := by decide +kernel
theorem dL_act_43 : decode cL_act 43 = .ok (.iconst 3, 1) := by decide +kernel
theorem dL_act_44 : decode cL_act 44 = .ok (.irem, 1) := by decide +kernel
theorem dL_act_45 : decode cL_act 45 = .ok (.ifCond .ne 18, 3) := by decide +kernel
theorem dL_act_48 : decode cL_act 48 = .ok (.sipush 1000, 3) := by decide +kernel
theorem dL_act_51 : decode cL_act 51 = .ok (.bipush 100, 2) := by decide +kernel
theorem dL_act_53 : decode cL_act 53 = .ok (.iload 4, 2) := by decide +kernel
theorem dL_act_55 : decode cL_act 55 = .ok (.bipush 31, 2) := by decide +kernel
theorem dL_act_57 : decode cL_act 57 = .ok (.irem, 1) := by decide +kernel
theorem dL_act_58 : decode cL_act 58 = .ok (.imul, 1) := by decide +kernel
theorem dL_act_59 : decode cL_act 59 = .ok (.iadd, 1) := by decide +kernel
theorem dL_act_60 : decode cL_act 60 = .ok (.goto 13, 3) := by decide +kernel
theorem dL_act_63 : decode cL_act 63 = .ok (.sipush 1000, 3) := by decide +kernel
theorem dL_act_66 : decode cL_act 66 = .ok (.iload 4, 2) := by decide +kernel
theorem dL_act_68 : decode cL_act 68 = .ok (.sipush 3001, 3) := by decide +kernel
theorem dL_act_71 : decode cL_act 71 = .ok (.irem, 1) := by decide +kernel
theorem dL_act_72 : decode cL_act 72 = .ok (.iadd, 1) := by decide +kernel
theorem dL_act_73 : decode cL_act 73 = .ok (.istore 8, 2) := by decide +kernel
theorem dL_act_75 : decode cL_act 75 = .ok (.aload_n 1, 1) := by decide +kernel
theorem dL_act_76 : decode cL_act 76 = .ok (.iload_n 2, 1) := by decide +kernel
theorem dL_act_77 : decode cL_act 77 = .ok (.bipush 20, 2) := by decide +kernel
theorem dL_act_79 : decode cL_act 79 = .ok (.invokestatic 40, 3) := by decide +kernel
theorem dL_act_82 : decode cL_act 82 = .ok (.tableswitch 293 0 17 #[86, 111, 118, 118, 128, 144, 157, 164, 171, 183, 183, 183, 183, 183, 216, 216, 241, 260], 86) := by decide +kernel
theorem dL_act_168 : decode cL_act 168 = .ok (.aload_n 0, 1) := by decide +kernel
theorem dL_act_169 : decode cL_act 169 = .ok (.iload_n 3, 1) := by decide +kernel
theorem dL_act_170 : decode cL_act 170 = .ok (.iload 5, 2) := by decide +kernel
theorem dL_act_172 : decode cL_act 172 = .ok (.iconst 1, 1) := by decide +kernel
theorem dL_act_173 : decode cL_act 173 = .ok (.iadd, 1) := by decide +kernel
theorem dL_act_174 : decode cL_act 174 = .ok (.irem, 1) := by decide +kernel
theorem dL_act_175 : decode cL_act 175 = .ok (.iload 8, 2) := by decide +kernel
theorem dL_act_177 : decode cL_act 177 = .ok (.iconst 1, 1) := by decide +kernel
theorem dL_act_178 : decode cL_act 178 = .ok (.iload 4, 2) := by decide +kernel
theorem dL_act_180 : decode cL_act 180 = .ok (.sipush 300, 3) := by decide +kernel
theorem dL_act_183 : decode cL_act 183 = .ok (.irem, 1) := by decide +kernel
theorem dL_act_184 : decode cL_act 184 = .ok (.iadd, 1) := by decide +kernel
theorem dL_act_185 : decode cL_act 185 = .ok (.iload_n 3, 1) := by decide +kernel
theorem dL_act_186 : decode cL_act 186 = .ok (.bipush 40, 2) := by decide +kernel
theorem dL_act_188 : decode cL_act 188 = .ok (.irem, 1) := by decide +kernel
theorem dL_act_189 : decode cL_act 189 = .ok (.invokestatic 114, 3) := by decide +kernel
theorem dL_act_192 : decode cL_act 192 = .ok (.ireturn, 1) := by decide +kernel
theorem dL_act_193 : decode cL_act 193 = .ok (.aload_n 0, 1) := by decide +kernel
theorem dL_act_194 : decode cL_act 194 = .ok (.iload 7, 2) := by decide +kernel
theorem dL_act_196 : decode cL_act 196 = .ok (.invokestatic 118, 3) := by decide +kernel
theorem dL_act_199 : decode cL_act 199 = .ok (.ireturn, 1) := by decide +kernel
theorem dL_act_200 : decode cL_act 200 = .ok (.aload_n 0, 1) := by decide +kernel
theorem dL_act_201 : decode cL_act 201 = .ok (.iload 7, 2) := by decide +kernel
theorem dL_act_203 : decode cL_act 203 = .ok (.iconst 0, 1) := by decide +kernel
theorem dL_act_204 : decode cL_act 204 = .ok (.iload 8, 2) := by decide +kernel
theorem dL_act_206 : decode cL_act 206 = .ok (.invokevirtual 122, 3) := by decide +kernel
theorem dL_act_209 : decode cL_act 209 = .ok (.ireturn, 1) := by decide +kernel
theorem dL_act_210 : decode cL_act 210 = .ok (.aload_n 0, 1) := by decide +kernel
theorem dL_act_211 : decode cL_act 211 = .ok (.iload 7, 2) := by decide +kernel
theorem dL_act_213 : decode cL_act 213 = .ok (.iconst 1, 1) := by decide +kernel
theorem dL_act_214 : decode cL_act 214 = .ok (.iconst 1, 1) := by decide +kernel
theorem dL_act_215 : decode cL_act 215 = .ok (.iload 4, 2) := by decide +kernel
theorem dL_act_217 : decode cL_act 217 = .ok (.sipush 999, 3) := by decide +kernel
theorem dL_act_220 : decode cL_act 220 = .ok (.irem, 1) := by decide +kernel
theorem dL_act_221 : decode cL_act 221 = .ok (.iadd, 1) := by decide +kernel
theorem dL_act_222 : decode cL_act 222 = .ok (.invokevirtual 122, 3) := by decide +kernel
theorem dL_act_225 : decode cL_act 225 = .ok (.ireturn, 1) := by decide +kernel
theorem dL_act_226 : decode cL_act 226 = .ok (.aload_n 0, 1) := by decide +kernel
theorem dL_act_227 : decode cL_act 227 = .ok (.iload 7, 2) := by decide +kernel
theorem dL_act_229 : decode cL_act 229 = .ok (.iconst 2, 1) := by decide +kernel
theorem dL_act_230 : decode cL_act 230 = .ok (.iload 4, 2) := by decide +kernel
theorem dL_act_232 : decode cL_act 232 = .ok (.bipush 100, 2) := by decide +kernel
theorem dL_act_234 : decode cL_act 234 = .ok (.irem, 1) := by decide +kernel
theorem dL_act_235 : decode cL_act 235 = .ok (.invokevirtual 122, 3) := by decide +kernel
theorem dL_act_238 : decode cL_act 238 = .ok (.ireturn, 1) := by decide +kernel
theorem dL_act_239 : decode cL_act 239 = .ok (.aload_n 0, 1) := by decide +kernel
theorem dL_act_240 : decode cL_act 240 = .ok (.iload 8, 2) := by decide +kernel
theorem dL_act_242 : decode cL_act 242 = .ok (.invokevirtual 126, 3) := by decide +kernel
theorem dL_act_245 : decode cL_act 245 = .ok (.ireturn, 1) := by decide +kernel
theorem dL_act_246 : decode cL_act 246 = .ok (.aload_n 0, 1) := by decide +kernel
theorem dL_act_247 : decode cL_act 247 = .ok (.iload 8, 2) := by decide +kernel
theorem dL_act_249 : decode cL_act 249 = .ok (.invokevirtual 129, 3) := by decide +kernel
theorem dL_act_252 : decode cL_act 252 = .ok (.ireturn, 1) := by decide +kernel
theorem dL_act_253 : decode cL_act 253 = .ok (.aload_n 0, 1) := by decide +kernel
theorem dL_act_254 : decode cL_act 254 = .ok (.iload 4, 2) := by decide +kernel
theorem dL_act_256 : decode cL_act 256 = .ok (.bipush 101, 2) := by decide +kernel
theorem dL_act_258 : decode cL_act 258 = .ok (.irem, 1) := by decide +kernel
theorem dL_act_259 : decode cL_act 259 = .ok (.invokevirtual 132, 3) := by decide +kernel
theorem dL_act_262 : decode cL_act 262 = .ok (.iconst 1, 1) := by decide +kernel
theorem dL_act_263 : decode cL_act 263 = .ok (.iadd, 1) := by decide +kernel
theorem dL_act_264 : decode cL_act 264 = .ok (.ireturn, 1) := by decide +kernel
theorem dL_act_265 : decode cL_act 265 = .ok (.aload_n 0, 1) := by decide +kernel
theorem dL_act_266 : decode cL_act 266 = .ok (.iload 7, 2) := by decide +kernel
theorem dL_act_268 : decode cL_act 268 = .ok (.iload 4, 2) := by decide +kernel
theorem dL_act_270 : decode cL_act 270 = .ok (.iconst 2, 1) := by decide +kernel
theorem dL_act_271 : decode cL_act 271 = .ok (.irem, 1) := by decide +kernel
theorem dL_act_272 : decode cL_act 272 = .ok (.ifCond .ne 7, 3) := by decide +kernel
theorem dL_act_275 : decode cL_act 275 = .ok (.iconst 1, 1) := by decide +kernel
theorem dL_act_276 : decode cL_act 276 = .ok (.goto 4, 3) := by decide +kernel
theorem dL_act_279 : decode cL_act 279 = .ok (.iconst 0, 1) := by decide +kernel
theorem dL_act_280 : decode cL_act 280 = .ok (.iload 4, 2) := by decide +kernel
theorem dL_act_282 : decode cL_act 282 = .ok (.sipush 4000, 3) := by decide +kernel
theorem dL_act_285 : decode cL_act 285 = .ok (.irem, 1) := by decide +kernel
theorem dL_act_286 : decode cL_act 286 = .ok (.aload_n 0, 1) := by decide +kernel
theorem dL_act_287 : decode cL_act 287 = .ok (.iload 7, 2) := by decide +kernel
theorem dL_act_289 : decode cL_act 289 = .ok (.iconst 0, 1) := by decide +kernel
theorem dL_act_290 : decode cL_act 290 = .ok (.invokevirtual 95, 3) := by decide +kernel
theorem dL_act_293 : decode cL_act 293 = .ok (.irem, 1) := by decide +kernel
theorem dL_act_294 : decode cL_act 294 = .ok (.invokestatic 135, 3) := by decide +kernel
theorem dL_act_297 : decode cL_act 297 = .ok (.ireturn, 1) := by decide +kernel
theorem dL_act_298 : decode cL_act 298 = .ok (.iload 6, 2) := by decide +kernel
theorem dL_act_300 : decode cL_act 300 = .ok (.ifCond .ne 8, 3) := by decide +kernel
theorem dL_act_303 : decode cL_act 303 = .ok (.bipush (-9), 2) := by decide +kernel
theorem dL_act_305 : decode cL_act 305 = .ok (.goto 17, 3) := by decide +kernel
theorem dL_act_308 : decode cL_act 308 = .ok (.aload_n 0, 1) := by decide +kernel
theorem dL_act_309 : decode cL_act 309 = .ok (.iload_n 3, 1) := by decide +kernel
theorem dL_act_310 : decode cL_act 310 = .ok (.iload 6, 2) := by decide +kernel
theorem dL_act_312 : decode cL_act 312 = .ok (.irem, 1) := by decide +kernel
theorem dL_act_313 : decode cL_act 313 = .ok (.iload 4, 2) := by decide +kernel
theorem dL_act_315 : decode cL_act 315 = .ok (.sipush 4000, 3) := by decide +kernel
theorem dL_act_318 : decode cL_act 318 = .ok (.irem, 1) := by decide +kernel
theorem dL_act_319 : decode cL_act 319 = .ok (.invokevirtual 139, 3) := by decide +kernel
theorem dL_act_322 : decode cL_act 322 = .ok (.ireturn, 1) := by decide +kernel
theorem dL_act_323 : decode cL_act 323 = .ok (.iload 6, 2) := by decide +kernel
theorem dL_act_325 : decode cL_act 325 = .ok (.ifCond .ne 8, 3) := by decide +kernel
theorem dL_act_328 : decode cL_act 328 = .ok (.bipush (-9), 2) := by decide +kernel
theorem dL_act_330 : decode cL_act 330 = .ok (.goto 11, 3) := by decide +kernel
theorem dL_act_333 : decode cL_act 333 = .ok (.aload_n 0, 1) := by decide +kernel
theorem dL_act_334 : decode cL_act 334 = .ok (.iload_n 3, 1) := by decide +kernel
theorem dL_act_335 : decode cL_act 335 = .ok (.iload 6, 2) := by decide +kernel
theorem dL_act_337 : decode cL_act 337 = .ok (.irem, 1) := by decide +kernel
theorem dL_act_338 : decode cL_act 338 = .ok (.invokevirtual 142, 3) := by decide +kernel
theorem dL_act_341 : decode cL_act 341 = .ok (.ireturn, 1) := by decide +kernel
theorem dL_act_342 : decode cL_act 342 = .ok (.iload 5, 2) := by decide +kernel
theorem dL_act_344 : decode cL_act 344 = .ok (.iconst 1, 1) := by decide +kernel
theorem dL_act_345 : decode cL_act 345 = .ok (.if_icmp .ne 8, 3) := by decide +kernel
theorem dL_act_348 : decode cL_act 348 = .ok (.bipush (-9), 2) := by decide +kernel
theorem dL_act_350 : decode cL_act 350 = .ok (.goto 24, 3) := by decide +kernel
theorem dL_act_353 : decode cL_act 353 = .ok (.aload_n 0, 1) := by decide +kernel
theorem dL_act_354 : decode cL_act 354 = .ok (.iload 7, 2) := by decide +kernel
theorem dL_act_356 : decode cL_act 356 = .ok (.iload 7, 2) := by decide +kernel
theorem dL_act_358 : decode cL_act 358 = .ok (.iconst 1, 1) := by decide +kernel
theorem dL_act_359 : decode cL_act 359 = .ok (.iadd, 1) := by decide +kernel
theorem dL_act_360 : decode cL_act 360 = .ok (.iload 4, 2) := by decide +kernel
theorem dL_act_362 : decode cL_act 362 = .ok (.iload 5, 2) := by decide +kernel
theorem dL_act_364 : decode cL_act 364 = .ok (.iconst 1, 1) := by decide +kernel
theorem dL_act_365 : decode cL_act 365 = .ok (.isub, 1) := by decide +kernel
theorem dL_act_366 : decode cL_act 366 = .ok (.irem, 1) := by decide +kernel
theorem dL_act_367 : decode cL_act 367 = .ok (.iadd, 1) := by decide +kernel
theorem dL_act_368 : decode cL_act 368 = .ok (.iload 5, 2) := by decide +kernel
theorem dL_act_370 : decode cL_act 370 = .ok (.irem, 1) := by decide +kernel
theorem dL_act_371 : decode cL_act 371 = .ok (.invokevirtual 145, 3) := by decide +kernel
theorem dL_act_374 : decode cL_act 374 = .ok (.ireturn, 1) := by decide +kernel
theorem dL_act_375 : decode cL_act 375 = .ok (.aload_n 0, 1) := by decide +kernel
theorem dL_act_376 : decode cL_act 376 = .ok (.iload 7, 2) := by decide +kernel
theorem dL_act_378 : decode cL_act 378 = .ok (.iload 4, 2) := by decide +kernel
theorem dL_act_380 : decode cL_act 380 = .ok (.iconst 2, 1) := by decide +kernel
theorem dL_act_381 : decode cL_act 381 = .ok (.irem, 1) := by decide +kernel
theorem dL_act_382 : decode cL_act 382 = .ok (.ifCond .ne 7, 3) := by decide +kernel
theorem dL_act_385 : decode cL_act 385 = .ok (.iconst 1, 1) := by decide +kernel
theorem dL_act_386 : decode cL_act 386 = .ok (.goto 4, 3) := by decide +kernel
theorem dL_act_389 : decode cL_act 389 = .ok (.iconst 0, 1) := by decide +kernel
theorem dL_act_390 : decode cL_act 390 = .ok (.iload 4, 2) := by decide +kernel
theorem dL_act_392 : decode cL_act 392 = .ok (.sipush 1000, 3) := by decide +kernel
theorem dL_act_395 : decode cL_act 395 = .ok (.irem, 1) := by decide +kernel
theorem dL_act_396 : decode cL_act 396 = .ok (.invokestatic 135, 3) := by decide +kernel
theorem dL_act_399 : decode cL_act 399 = .ok (.ireturn, 1) := by decide +kernel
set_option maxRecDepth 20000 in
set_option maxRecDepth 100000 in
theorem ggL_isPath_X8_path : GoodIn wsL_isPath wsX8_path := goodIn_ca (goodIn_ca (goodIn_r _ [15, 16, 17, 18, 19, 20, 21, 22, 23, 24, 25, 26, 27, 28, 29, 30, 31, 14, 32, 33, 34, 35, 36, 37, 38, 39, 40, 41, 42, 43, 44, 45, 46, 47, 48, 49, 50, 51, 52, 53, 54, 55, 56, 57, 58, 59, 60, 61, 62, 63, 64, 65, 66, 67, 68, 69, 70, 71, 72, 73, 74, 75, 76, 77, 78, 79, 80, 81, 82, 83, 84, 85, 86, 87, 88, 89, 90, 91, 92, 93, 94, 95, 96, 97, 98, 99, 100, 101, 102, 103, 104, 105, 106, 107, 108, 109, 110, 111, 112, 113, 114, 8, 3, 9, 115, 116, 117, 118, 119, 120, 121, 122, 123, 124, 125, 126, 127, 128, 129, 130, 131, 132, 133, 134, 135, 136, 137, 138, 139, 140, 141, 142, 143, 144, 145, 146, 147, 148, 149, 150, 151, 152, 153, 154, 155, 156, 157, 158, 159, 160, 161, 162, 163, 164, 165, 166, 167, 168, 256, 257, 258, 259, 260, 261, 262, 263, 264, 265, 266, 267, 268, 269, 270, 271, 272, 273, 274, 275, 276, 277, 278, 279, 280, 281, 282, 283, 284, 285, 286, 287, 288, 289, 290, 291] rfl (by decide +kernel)) (goodIn_sub (fun _ h => List.mem_cons_of_mem _ (List.mem_append_left _ (List.mem_append_right _ h))) (by decide +kernel))) (goodIn_sub (fun _ h => List.mem_cons_of_mem _ (List.mem_append_right _ h)) (by decide +kernel))
set_option maxRecDepth 20000 in
theorem gL_isPath_X8_path : GoodIn wsL_isPath (wsV RL 156 RX8 yX8_path wsX8_path) := goodIn_app (goodIn_of _ (by decide +kernel)) ggL_isPath_X8_path
set_option maxRecDepth 20000 in
set_option maxRecDepth 100000 in
theorem ggL_isPath_X8_shot : GoodIn wsL_isPath wsX8_shot := goodIn_ca (goodIn_ca (goodIn_r _ [172, 18, 35, 29, 30, 31, 14, 32, 33, 34, 36, 37, 38, 39, 40, 41, 173, 174, 175, 16, 17, 73, 67, 68, 69, 70, 256, 257, 258, 259, 260, 261, 262, 263, 264, 265, 266, 285, 286, 287, 288, 289, 290, 291] rfl (by decide +kernel)) (goodIn_sub (fun _ h => List.mem_cons_of_mem _ (List.mem_append_right _ h)) (by decide +kernel))) (goodIn_sub (fun _ h => List.mem_cons_of_mem _ (List.mem_append_left _ (List.mem_append_right _ h))) (by decide +kernel))
set_option maxRecDepth 20000 in
theorem gL_isPath_X8_shot : GoodIn wsL_isPath (wsV RL 154 RX8 yX8_shot wsX8_shot) := goodIn_app (goodIn_of _ (by decide +kernel)) ggL_isPath_X8_shot
set_option maxRecDepth 20000 in
set_option maxRecDepth 100000 in
theorem ggL_isPath_X8_property : GoodIn wsL_isPath wsX8_property := goodIn_ca (goodIn_r _ [179, 16, 17, 18, 180, 181, 182, 183, 184, 35, 185, 186, 187, 59, 188, 62, 63, 66, 67, 68, 39, 69, 70, 256, 257, 258, 259, 260, 261, 262, 263, 264, 265, 266, 285, 286, 287, 288, 289, 290, 291] rfl (by decide +kernel)) (goodIn_sub (fun _ h => List.mem_cons_of_mem _ (List.mem_append_left _ (List.mem_append_right _ h))) (by decide +kernel))
set_option maxRecDepth 20000 in
theorem gL_isPath_X8_property : GoodIn wsL_isPath (wsV RL 91 RX8 yX8_property wsX8_property) := goodIn_app (goodIn_of _ (by decide +kernel)) ggL_isPath_X8_property
set_option maxRecDepth 20000 in
set_option maxRecDepth 100000 in
theorem ggL_isPath_X8_layer : GoodIn wsL_isPath wsX8_layer := goodIn_ca (goodIn_ca (goodIn_r _ [192, 18, 180, 193, 194, 195, 14, 196, 33, 34, 36, 37, 38, 39, 40, 41, 173, 174, 175, 16, 17, 185, 186, 187, 59, 188, 62, 63, 66, 67, 68, 69, 70, 73, 256, 257, 258, 259, 260, 261, 262, 263, 264, 265, 266, 285, 286, 287, 288, 289, 290, 291] rfl (by decide +kernel)) (goodIn_sub (fun _ h => List.mem_cons_of_mem _ (List.mem_append_right _ h)) (by decide +kernel))) (goodIn_sub (fun _ h => List.mem_cons_of_mem _ (List.mem_append_left _ (List.mem_append_right _ h))) (by decide +kernel))
set_option maxRecDepth 20000 in
theorem gL_isPath_X8_layer : GoodIn wsL_isPath (wsV RL 95 RX8 yX8_layer wsX8_layer) := goodIn_app (goodIn_of _ (by decide +kernel)) ggL_isPath_X8_layer
set_option maxRecDepth 20000 in
set_option maxRecDepth 100000 in
theorem ggL_isPath_X8_share : GoodIn wsL_isPath wsX8_share := goodIn_ca (goodIn_r _ [200, 18, 24, 201, 29, 30, 31, 14, 32, 33, 34, 35, 36, 37, 38, 39, 40, 41, 42, 43, 44, 45, 46, 47, 48, 49, 50, 51, 52, 53, 54, 55, 56, 57, 58, 59, 60, 61, 62, 63, 64, 65, 66, 67, 68, 69, 70, 71, 72, 73, 74, 75, 76, 77, 78, 79, 80, 81, 82, 83, 84, 85, 86, 87, 88, 89, 90, 91, 92, 93, 94, 95, 96, 97, 98, 99, 100, 101, 102, 103, 104, 105, 106, 107, 108, 109, 110, 111, 112, 113, 114, 8, 3, 9, 115, 116, 117, 118, 119, 120, 121, 122, 123, 124, 125, 126, 127, 128, 129, 130, 131, 132, 133, 134, 135, 136, 137, 138, 139, 140, 141, 142, 143, 144, 145, 146, 147, 148, 149, 150, 151, 152, 153, 154, 155, 156, 157, 158, 159, 160, 161, 162, 163, 164, 165, 166, 167, 168, 256, 257, 258, 259, 260, 261, 262, 263, 264, 265, 266, 267, 268, 269, 270, 271, 272, 273, 274, 275, 276, 277, 278, 279, 280, 281, 282, 283, 284, 285, 286, 287, 288, 289, 290, 291] rfl (by decide +kernel)) (goodIn_sub (fun _ h => List.mem_cons_of_mem _ (List.mem_append_right _ h)) (by decide +kernel))
set_option maxRecDepth 20000 in
theorem gL_isPath_X8_share : GoodIn wsL_isPath (wsV RL 159 RX8 yX8_share wsX8_share) := goodIn_app (goodIn_of _ (by decide +kernel)) ggL_isPath_X8_share
set_option maxRecDepth 20000 in
set_option maxRecDepth 100000 in
theorem ggL_isPath_X8_leg : GoodIn wsL_isPath wsX8_leg := goodIn_ca (goodIn_ca (goodIn_r _ [205, 33, 34, 206, 207, 29, 30, 31, 14, 32, 18, 35, 36, 37, 38, 39, 40, 41, 208, 209, 210, 211, 73, 67, 68, 69, 70, 212, 213, 214, 215, 216, 217, 218, 219, 220, 221, 222, 223, 224, 225, 48, 49, 50, 51, 52, 53, 54, 55, 56, 57, 58, 59, 60, 61, 62, 63, 64, 65, 66, 71, 72, 226, 79, 80, 81, 82, 83, 84, 85, 86, 87, 88, 89, 90, 91, 92, 93, 94, 95, 96, 97, 98, 99, 100, 101, 102, 103, 104, 105, 227, 107, 108, 109, 228, 229, 230, 231, 232, 233, 111, 112, 113, 114, 8, 3, 9, 115, 116, 117, 118, 119, 120, 121, 122, 123, 124, 125, 126, 127, 128, 129, 130, 131, 132, 133, 134, 135, 136, 137, 138, 139, 140, 141, 142, 234, 235, 236, 237, 144, 145, 146, 147, 148, 149, 150, 151, 152, 153, 154, 155, 156, 157, 158, 159, 160, 161, 162, 163, 164, 165, 166, 167, 168, 173, 174, 175, 16, 17, 238, 239, 240, 241, 256, 257, 258, 259, 260, 261, 262, 263, 264, 265, 266, 292, 293, 294, 295, 285, 286, 287, 288, 289, 290, 291, 267, 268, 269, 270, 271, 272, 273, 274, 275, 276, 277, 278, 279, 280, 281, 282, 283, 284] rfl (by decide +kernel)) (goodIn_sub (fun _ h => List.mem_cons_of_mem _ (List.mem_append_right _ h)) (by decide +kernel))) (goodIn_sub (fun _ h => List.mem_cons_of_mem _ (List.mem_append_left _ (List.mem_append_right _ h))) (by decide +kernel))
set_option maxRecDepth 20000 in
theorem gL_isPath_X8_leg : GoodIn wsL_isPath (wsV RL 164 RX8 yX8_leg wsX8_leg) := goodIn_app (goodIn_of _ (by decide +kernel)) ggL_isPath_X8_leg
set_option maxRecDepth 20000 in
set_option maxRecDepth 100000 in
theorem ggL_isPath_X8_critical : GoodIn wsL_isPath wsX8_critical := goodIn_ca (goodIn_r _ [245, 18, 193, 194, 195, 14, 196, 33, 34, 180, 36, 37, 38, 39, 40, 41, 246, 157, 158, 59, 159, 64, 62, 63, 247, 57, 58, 60, 61, 65, 66, 67, 68, 69, 70, 256, 257, 258, 259, 260, 261, 262, 263, 264, 265, 266, 285, 286, 287, 288, 289, 290, 291] rfl (by decide +kernel)) (goodIn_sub (fun _ h => List.mem_cons_of_mem _ (List.mem_append_right _ h)) (by decide +kernel))
set_option maxRecDepth 20000 in
theorem gL_isPath_X8_critical : GoodIn wsL_isPath (wsV RL 170 RX8 yX8_critical wsX8_critical) := goodIn_app (goodIn_of _ (by decide +kernel)) ggL_isPath_X8_critical
set_option maxRecDepth 20000 in
set_option maxRecDepth 100000 in
theorem ggL_isPath_X8_endOf : GoodIn wsL_isPath wsX8_endOf := goodIn_ca (goodIn_ca (goodIn_r _ [251, 46, 18, 20, 193, 194, 195, 14, 196, 33, 34, 180, 36, 37, 38, 39, 40, 41, 173, 174, 175, 16, 17, 47, 48, 49, 50, 51, 52, 53, 54, 55, 56, 57, 58, 59, 60, 61, 62, 63, 64, 65, 66, 67, 68, 69, 70, 71, 72, 74, 75, 76, 77, 78, 79, 80, 81, 82, 83, 84, 85, 86, 87, 88, 89, 90, 91, 92, 93, 94, 95, 96, 97, 98, 99, 100, 101, 102, 103, 104, 105, 106, 107, 108, 109, 110, 111, 112, 113, 114, 8, 3, 9, 115, 116, 117, 118, 119, 120, 121, 122, 123, 124, 125, 126, 127, 128, 129, 130, 131, 132, 133, 134, 135, 136, 137, 138, 139, 140, 141, 142, 143, 144, 145, 146, 147, 148, 149, 150, 151, 152, 153, 154, 155, 156, 157, 158, 159, 160, 161, 162, 163, 164, 165, 166, 167, 168, 256, 257, 258, 259, 260, 261, 262, 263, 264, 265, 266, 267, 268, 269, 270, 271, 272, 273, 274, 275, 276, 277, 278, 279, 280, 281, 282, 283, 284, 285, 286, 287, 288, 289, 290, 291] rfl (by decide +kernel)) (goodIn_sub (fun _ h => List.mem_cons_of_mem _ (List.mem_append_right _ h)) (by decide +kernel))) (goodIn_sub (fun _ h => List.mem_cons_of_mem _ (List.mem_append_left _ (List.mem_append_right _ h))) (by decide +kernel))
set_option maxRecDepth 20000 in
theorem gL_isPath_X8_endOf : GoodIn wsL_isPath (wsV RL 175 RX8 yX8_endOf wsX8_endOf) := goodIn_app (goodIn_of _ (by decide +kernel)) ggL_isPath_X8_endOf
set_option maxRecDepth 20000 in
set_option maxRecDepth 100000 in
theorem ggL_isPath_X8_shiftOf : GoodIn wsL_isPath wsX8_shiftOf := goodIn_ca (goodIn_ca (goodIn_r _ [255, 46, 18, 20, 21, 193, 194, 195, 14, 196, 33, 34, 180, 36, 37, 38, 39, 40, 41, 173, 174, 175, 16, 17, 47, 48, 49, 50, 51, 52, 53, 54, 55, 56, 57, 58, 59, 60, 61, 62, 63, 64, 65, 66, 67, 68, 69, 70, 71, 72, 74, 75, 76, 77, 78, 79, 80, 81, 82, 83, 84, 85, 86, 87, 88, 89, 90, 91, 92, 93, 94, 95, 96, 97, 98, 99, 100, 101, 102, 103, 104, 105, 106, 107, 108, 109, 110, 111, 112, 113, 114, 8, 3, 9, 115, 116, 117, 118, 119, 120, 121, 122, 123, 124, 125, 126, 127, 128, 129, 130, 131, 132, 133, 134, 135, 136, 137, 138, 139, 140, 141, 142, 143, 144, 145, 146, 147, 148, 149, 150, 151, 152, 153, 154, 155, 156, 157, 158, 159, 160, 161, 162, 163, 164, 165, 166, 167, 168, 256, 257, 258, 259, 260, 261, 262, 263, 264, 265, 266, 267, 268, 269, 270, 271, 272, 273, 274, 275, 276, 277, 278, 279, 280, 281, 282, 283, 284, 285, 286, 287, 288, 289, 290, 291] rfl (by decide +kernel)) (goodIn_sub (fun _ h => List.mem_cons_of_mem _ (List.mem_append_right _ h)) (by decide +kernel))) (goodIn_sub (fun _ h => List.mem_cons_of_mem _ (List.mem_append_left _ (List.mem_append_right _ h))) (by decide +kernel))
set_option maxRecDepth 20000 in
theorem gL_isPath_X8_shiftOf : GoodIn wsL_isPath (wsV RL 178 RX8 yX8_shiftOf wsX8_shiftOf) := goodIn_app (goodIn_of _ (by decide +kernel)) ggL_isPath_X8_shiftOf
theorem dL_isPath_0 : decode cL_isPath 0 = .ok (.aload_n 0, 1) := by decide +kernel
theorem dL_isPath_1 : decode cL_isPath 1 = .ok (.iload_n 1, 1) := by decide +kernel
theorem dL_isPath_2 : decode cL_isPath 2 = .ok (.iconst 0, 1) := by decide +kernel
theorem dL_isPath_3 : decode cL_isPath 3 = .ok (.invokevirtual 156, 3) := by decide +kernel
theorem dL_isPath_6 : decode cL_isPath 6 = .ok (.istore_n 2, 1) := by decide +kernel
theorem dL_isPath_7 : decode cL_isPath 7 = .ok (.aload_n 0, 1) := by decide +kernel
theorem dL_isPath_8 : decode cL_isPath 8 = .ok (.iload_n 1, 1) := by decide +kernel
theorem dL_isPath_9 : decode cL_isPath 9 = .ok (.iconst 1, 1) := by decide +kernel
theorem dL_isPath_10 : decode cL_isPath 10 = .ok (.invokevirtual 156, 3) := by decide +kernel
theorem dL_isPath_13 : decode cL_isPath 13 = .ok (.istore_n 3, 1) := by decide +kernel
theorem dL_isPath_14 : decode cL_isPath 14 = .ok (.aload_n 0, 1) := by decide +kernel
theorem dL_isPath_15 : decode cL_isPath 15 = .ok (.iload_n 1, 1) := by decide +kernel
theorem dL_isPath_16 : decode cL_isPath 16 = .ok (.iconst 2, 1) := by decide +kernel
theorem dL_isPath_17 : decode cL_isPath 17 = .ok (.invokevirtual 154, 3) := by decide +kernel
theorem dL_isPath_20 : decode cL_isPath 20 = .ok (.istore 4, 2) := by decide +kernel
theorem dL_isPath_22 : decode cL_isPath 22 = .ok (.aload_n 0, 1) := by decide +kernel
theorem dL_isPath_23 : decode cL_isPath 23 = .ok (.iload_n 1, 1) := by decide +kernel
theorem dL_isPath_24 : decode cL_isPath 24 = .ok (.iconst 0, 1) := by decide +kernel
theorem dL_isPath_25 : decode cL_isPath 25 = .ok (.invokevirtual 154, 3) := by decide +kernel
theorem dL_isPath_28 : decode cL_isPath 28 = .ok (.aload_n 0, 1) := by decide +kernel
theorem dL_isPath_29 : decode cL_isPath 29 = .ok (.iconst 0, 1) := by decide +kernel
theorem dL_isPath_30 : decode cL_isPath 30 = .ok (.invokevirtual 91, 3) := by decide +kernel
