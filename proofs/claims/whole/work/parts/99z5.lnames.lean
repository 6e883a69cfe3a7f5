set_option maxRecDepth 100000 in
theorem ggL_append_X8_append : GoodIn wsL_append wsX8_append := goodIn_ca (goodIn_r _ [6, 7, 8, 9, 10, 11, 12, 13, 14, 15, 16, 17, 18, 19, 20, 21, 22, 23, 24, 25, 26, 27, 28, 29, 30, 31, 32, 33, 34] rfl (by decide +kernel)) (goodIn_sub (fun _ h => List.mem_cons_of_mem _ (List.mem_append_right _ h)) (by decide +kernel))
set_option maxRecDepth 20000 in
theorem gL_append_X8_append : GoodIn wsL_append (wsV RL 7 RX8 yX8_append wsX8_append) := goodIn_app (goodIn_of _ (by decide +kernel)) ggL_append_X8_append
theorem dL_append_0 : decode cL_append 0 = .ok (.aload 6, 2) := by decide +kernel
theorem dL_append_2 : decode cL_append 2 = .ok (.iconst 0, 1) := by decide +kernel
theorem dL_append_3 : decode cL_append 3 = .ok (.aload_n 0, 1) := by decide +kernel
theorem dL_append_4 : decode cL_append 4 = .ok (.iload_n 1, 1) := by decide +kernel
theorem dL_append_5 : decode cL_append 5 = .ok (.iload_n 2, 1) := by decide +kernel
theorem dL_append_6 : decode cL_append 6 = .ok (.iload_n 3, 1) := by decide +kernel
theorem dL_append_7 : decode cL_append 7 = .ok (.iload 4, 2) := by decide +kernel
theorem dL_append_9 : decode cL_append 9 = .ok (.iload 5, 2) := by decide +kernel
theorem dL_append_11 : decode cL_append 11 = .ok (.invokevirtual 7, 3) := by decide +kernel
theorem dL_append_14 : decode cL_append 14 = .ok (.i2l, 1) := by decide +kernel
theorem dL_append_15 : decode cL_append 15 = .ok (.lastore, 1) := by decide +kernel
theorem dL_append_16 : decode cL_append 16 = .ok (.goto 7, 3) := by decide +kernel
theorem dL_append_19 : decode cL_append 19 = .ok (.astore 7, 2) := by decide +kernel
theorem dL_append_21 : decode cL_append 21 = .ok (.iconst 1, 1) := by decide +kernel
theorem dL_append_22 : decode cL_append 22 = .ok (.ireturn, 1) := by decide +kernel
theorem dL_append_23 : decode cL_append 23 = .ok (.iconst 0, 1) := by decide +kernel
theorem dL_append_24 : decode cL_append 24 = .ok (.ireturn, 1) := by decide +kernel
set_option maxRecDepth 100000 in
theorem ggL_truncate_X8_truncate : GoodIn wsL_truncate wsX8_truncate := goodIn_ca (goodIn_r _ [6, 7, 8, 9, 10, 5, 11, 12, 13, 14, 15, 16, 17, 18, 19, 20, 21, 22, 23, 24, 25, 26] rfl (by decide +kernel)) (goodIn_sub (fun _ h => List.mem_cons_of_mem _ (List.mem_append_right _ h)) (by decide +kernel))
set_option maxRecDepth 20000 in
theorem gL_truncate_X8_truncate : GoodIn wsL_truncate (wsV RL 15 RX8 yX8_truncate wsX8_truncate) := goodIn_app (goodIn_of _ (by decide +kernel)) ggL_truncate_X8_truncate
theorem dL_truncate_0 : decode cL_truncate 0 = .ok (.aload_n 0, 1) := by decide +kernel
theorem dL_truncate_1 : decode cL_truncate 1 = .ok (.iload_n 1, 1) := by decide +kernel
theorem dL_truncate_2 : decode cL_truncate 2 = .ok (.invokevirtual 15, 3) := by decide +kernel
theorem dL_truncate_5 : decode cL_truncate 5 = .ok (.goto 6, 3) := by decide +kernel
theorem dL_truncate_8 : decode cL_truncate 8 = .ok (.astore_n 2, 1) := by decide +kernel
theorem dL_truncate_9 : decode cL_truncate 9 = .ok (.iconst 1, 1) := by decide +kernel
theorem dL_truncate_10 : decode cL_truncate 10 = .ok (.ireturn, 1) := by decide +kernel
theorem dL_truncate_11 : decode cL_truncate 11 = .ok (.iconst 0, 1) := by decide +kernel
theorem dL_truncate_12 : decode cL_truncate 12 = .ok (.ireturn, 1) := by decide +kernel
set_option maxRecDepth 100000 in
theorem ggL_property_X8_property : GoodIn wsL_property wsX8_property := goodIn_ca (goodIn_r _ [6, 7, 8, 9, 10, 11, 12, 13, 14, 15, 16, 17, 18, 19, 20, 21, 22, 23, 24, 25, 26, 27, 28, 29, 30, 31, 32, 33, 34, 35, 36, 37, 38, 39, 40, 41, 42, 43, 44, 45, 46] rfl (by decide +kernel)) (goodIn_sub (fun _ h => List.mem_cons_of_mem _ (List.mem_append_right _ h)) (by decide +kernel))
set_option maxRecDepth 20000 in
theorem gL_property_X8_property : GoodIn wsL_property (wsV RL 21 RX8 yX8_property wsX8_property) := goodIn_app (goodIn_of _ (by decide +kernel)) ggL_property_X8_property
theorem dL_property_0 : decode cL_property 0 = .ok (.aload_n 2, 1) := by decide +kernel
theorem dL_property_1 : decode cL_property 1 = .ok (.iconst 0, 1) := by decide +kernel
theorem dL_property_2 : decode cL_property 2 = .ok (.aload_n 0, 1) := by decide +kernel
theorem dL_property_3 : decode cL_property 3 = .ok (.iload_n 1, 1) := by decide +kernel
theorem dL_property_4 : decode cL_property 4 = .ok (.invokevirtual 21, 3) := by decide +kernel
theorem dL_property_7 : decode cL_property 7 = .ok (.i2l, 1) := by decide +kernel
theorem dL_property_8 : decode cL_property 8 = .ok (.lastore, 1) := by decide +kernel
theorem dL_property_9 : decode cL_property 9 = .ok (.goto 6, 3) := by decide +kernel
theorem dL_property_12 : decode cL_property 12 = .ok (.astore_n 3, 1) := by decide +kernel
theorem dL_property_13 : decode cL_property 13 = .ok (.iconst 1, 1) := by decide +kernel
theorem dL_property_14 : decode cL_property 14 = .ok (.ireturn, 1) := by decide +kernel
theorem dL_property_15 : decode cL_property 15 = .ok (.iconst 0, 1) := by decide +kernel
theorem dL_property_16 : decode cL_property 16 = .ok (.ireturn, 1) := by decide +kernel
set_option maxRecDepth 100000 in
theorem ggL_layer_X8_layer : GoodIn wsL_layer wsX8_layer := goodIn_ca (goodIn_ca (goodIn_r _ [7, 8, 9, 10, 11, 12, 6, 13, 14, 15, 16, 17, 18, 19, 20, 21, 22, 23, 24, 25, 26, 27, 28, 29, 30, 31, 32, 33, 34, 35, 36, 37, 38, 39, 40, 41, 42, 43, 44, 45, 46, 47, 48, 49, 50, 51, 52, 53, 54, 55, 56, 57] rfl (by decide +kernel)) (goodIn_sub (fun _ h => List.mem_cons_of_mem _ (List.mem_append_left _ (List.mem_append_right _ h))) (by decide +kernel))) (goodIn_sub (fun _ h => List.mem_cons_of_mem _ (List.mem_append_right _ h)) (by decide +kernel))
set_option maxRecDepth 20000 in
theorem gL_layer_X8_layer : GoodIn wsL_layer (wsV RL 25 RX8 yX8_layer wsX8_layer) := goodIn_app (goodIn_of _ (by decide +kernel)) ggL_layer_X8_layer
theorem dL_layer_0 : decode cL_layer 0 = .ok (.aload_n 3, 1) := by decide +kernel
theorem dL_layer_1 : decode cL_layer 1 = .ok (.iconst 0, 1) := by decide +kernel
theorem dL_layer_2 : decode cL_layer 2 = .ok (.aload_n 0, 1) := by decide +kernel
theorem dL_layer_3 : decode cL_layer 3 = .ok (.iload_n 1, 1) := by decide +kernel
theorem dL_layer_4 : decode cL_layer 4 = .ok (.iload_n 2, 1) := by decide +kernel
theorem dL_layer_5 : decode cL_layer 5 = .ok (.invokevirtual 25, 3) := by decide +kernel
theorem dL_layer_8 : decode cL_layer 8 = .ok (.i2l, 1) := by decide +kernel
theorem dL_layer_9 : decode cL_layer 9 = .ok (.lastore, 1) := by decide +kernel
theorem dL_layer_10 : decode cL_layer 10 = .ok (.goto 11, 3) := by decide +kernel
theorem dL_layer_13 : decode cL_layer 13 = .ok (.astore 4, 2) := by decide +kernel
theorem dL_layer_15 : decode cL_layer 15 = .ok (.iconst 1, 1) := by decide +kernel
theorem dL_layer_16 : decode cL_layer 16 = .ok (.ireturn, 1) := by decide +kernel
theorem dL_layer_17 : decode cL_layer 17 = .ok (.astore 4, 2) := by decide +kernel
theorem dL_layer_19 : decode cL_layer 19 = .ok (.iconst 2, 1) := by decide +kernel
theorem dL_layer_20 : decode cL_layer 20 = .ok (.ireturn, 1) := by decide +kernel
theorem dL_layer_21 : decode cL_layer 21 = .ok (.iconst 0, 1) := by decide +kernel
theorem dL_layer_22 : decode cL_layer 22 = .ok (.ireturn, 1) := by decide +kernel
set_option maxRecDepth 100000 in
theorem ggL_shot_X8_shot : GoodIn wsL_shot wsX8_shot := goodIn_ca (goodIn_ca (goodIn_r _ [7, 8, 9, 10, 11, 12, 6, 13, 14, 15, 16, 17, 18, 19, 20, 21, 22, 23, 24, 25, 26, 27, 28, 29, 30, 31, 32, 33, 34, 35, 36, 37, 38, 39, 40, 41, 42, 43, 44, 45, 46, 47, 48, 49] rfl (by decide +kernel)) (goodIn_sub (fun _ h => List.mem_cons_of_mem _ (List.mem_append_left _ (List.mem_append_right _ h))) (by decide +kernel))) (goodIn_sub (fun _ h => List.mem_cons_of_mem _ (List.mem_append_right _ h)) (by decide +kernel))
set_option maxRecDepth 20000 in
theorem gL_shot_X8_shot : GoodIn wsL_shot (wsV RL 31 RX8 yX8_shot wsX8_shot) := goodIn_app (goodIn_of _ (by decide +kernel)) ggL_shot_X8_shot
theorem dL_shot_0 : decode cL_shot 0 = .ok (.aload_n 3, 1) := by decide +kernel
theorem dL_shot_1 : decode cL_shot 1 = .ok (.iconst 0, 1) := by decide +kernel
theorem dL_shot_2 : decode cL_shot 2 = .ok (.aload_n 0, 1) := by decide +kernel
theorem dL_shot_3 : decode cL_shot 3 = .ok (.iload_n 1, 1) := by decide +kernel
theorem dL_shot_4 : decode cL_shot 4 = .ok (.iload_n 2, 1) := by decide +kernel
theorem dL_shot_5 : decode cL_shot 5 = .ok (.invokevirtual 31, 3) := by decide +kernel
theorem dL_shot_8 : decode cL_shot 8 = .ok (.i2l, 1) := by decide +kernel
theorem dL_shot_9 : decode cL_shot 9 = .ok (.lastore, 1) := by decide +kernel
theorem dL_shot_10 : decode cL_shot 10 = .ok (.goto 11, 3) := by decide +kernel
theorem dL_shot_13 : decode cL_shot 13 = .ok (.astore 4, 2) := by decide +kernel
theorem dL_shot_15 : decode cL_shot 15 = .ok (.iconst 1, 1) := by decide +kernel
theorem dL_shot_16 : decode cL_shot 16 = .ok (.ireturn, 1) := by decide +kernel
theorem dL_shot_17 : decode cL_shot 17 = .ok (.astore 4, 2) := by decide +kernel
theorem dL_shot_19 : decode cL_shot 19 = .ok (.iconst 2, 1) := by decide +kernel
theorem dL_shot_20 : decode cL_shot 20 = .ok (.ireturn, 1) := by decide +kernel
theorem dL_shot_21 : decode cL_shot 21 = .ok (.iconst 0, 1) := by decide +kernel
theorem dL_shot_22 : decode cL_shot 22 = .ok (.ireturn, 1) := by decide +kernel
set_option maxRecDepth 100000 in
theorem ggL_path_X8_path : GoodIn wsL_path wsX8_path := goodIn_ca (goodIn_ca (goodIn_r _ [7, 8, 9, 10, 11, 12, 13, 14, 15, 16, 17, 18, 19, 20, 21, 22, 23, 6, 24, 25, 26, 27, 28, 29, 30, 31, 32, 33, 34, 35, 36, 37, 38, 39, 40, 41, 42, 43, 44, 45, 46, 47, 48, 49, 50, 51, 52, 53, 54, 55, 56, 57, 58, 59, 60, 61, 62, 63, 64, 65, 66, 67, 68, 69, 70, 71, 72, 73, 74, 75, 76, 77, 78, 79, 80, 81, 82, 83, 84, 85, 86, 87, 88, 89, 90, 91, 92, 93, 94, 95, 96, 97, 98, 99, 100, 101, 102, 103, 104, 105, 106, 107, 108, 109, 110, 111, 112, 113, 114, 115, 116, 117, 118, 119, 120, 121, 122, 123, 124, 125, 126, 127, 128, 129, 130, 131, 132, 133, 134, 135, 136, 137, 138, 139, 140, 141, 142, 143, 144, 145, 146, 147, 148, 149, 150, 151, 152, 153, 154, 155, 156, 157, 158, 159, 160, 161, 162, 163, 164, 165, 166, 167, 168, 169, 170, 171, 172, 173, 174, 175, 176, 177, 178, 179, 180, 181, 182, 183, 184, 185, 186, 187, 188, 189, 190, 191, 192, 193, 194, 195, 196, 197, 198, 199] rfl (by decide +kernel)) (goodIn_sub (fun _ h => List.mem_cons_of_mem _ (List.mem_append_left _ (List.mem_append_right _ h))) (by decide +kernel))) (goodIn_sub (fun _ h => List.mem_cons_of_mem _ (List.mem_append_right _ h)) (by decide +kernel))
set_option maxRecDepth 20000 in
theorem gL_path_X8_path : GoodIn wsL_path (wsV RL 34 RX8 yX8_path wsX8_path) := goodIn_app (goodIn_of _ (by decide +kernel)) ggL_path_X8_path
theorem dL_path_0 : decode cL_path 0 = .ok (.aload_n 3, 1) := by decide +kernel
theorem dL_path_1 : decode cL_path 1 = .ok (.iconst 0, 1) := by decide +kernel
theorem dL_path_2 : decode cL_path 2 = .ok (.aload_n 0, 1) := by decide +kernel
theorem dL_path_3 : decode cL_path 3 = .ok (.iload_n 1, 1) := by decide +kernel
theorem dL_path_4 : decode cL_path 4 = .ok (.iload_n 2, 1) := by decide +kernel
theorem dL_path_5 : decode cL_path 5 = .ok (.invokevirtual 34, 3) := by decide +kernel
theorem dL_path_8 : decode cL_path 8 = .ok (.i2l, 1) := by decide +kernel
theorem dL_path_9 : decode cL_path 9 = .ok (.lastore, 1) := by decide +kernel
theorem dL_path_10 : decode cL_path 10 = .ok (.goto 11, 3) := by decide +kernel
theorem dL_path_13 : decode cL_path 13 = .ok (.astore 4, 2) := by decide +kernel
theorem dL_path_15 : decode cL_path 15 = .ok (.iconst 1, 1) := by decide +kernel
theorem dL_path_16 : decode cL_path 16 = .ok (.ireturn, 1) := by decide +kernel
theorem dL_path_17 : decode cL_path 17 = .ok (.astore 4, 2) := by decide +kernel
theorem dL_path_19 : decode cL_path 19 = .ok (.iconst 2, 1) := by decide +kernel
theorem dL_path_20 : decode cL_path 20 = .ok (.ireturn, 1) := by decide +kernel
theorem dL_path_21 : decode cL_path 21 = .ok (.iconst 0, 1) := by decide +kernel
theorem dL_path_22 : decode cL_path 22 = .ok (.ireturn, 1) := by decide +kernel
set_option maxRecDepth 100000 in
theorem ggL_leg_X8_leg : GoodIn wsL_leg wsX8_leg := goodIn_ca (goodIn_ca (goodIn_r _ [7, 8, 9, 10, 11, 12, 13, 14, 6, 15, 16, 17, 18, 19, 20, 21, 22, 23, 24, 25, 26, 27, 28, 29, 30, 31, 32, 33, 34, 35, 36, 37, 38, 39, 40, 41, 42, 43, 44, 45, 46, 47, 48, 49, 50, 51, 52, 53, 54, 55, 56, 57, 58, 59, 60, 61, 62, 63, 64, 65, 66, 67, 68, 69, 70, 71, 72, 73, 74, 75, 76, 77, 78, 79, 80, 81, 82, 83, 84, 85, 86, 87, 88, 89, 90, 91, 92, 93, 94, 95, 96, 97, 98, 99, 100, 101, 102, 103, 104, 105, 106, 107, 108, 109, 110, 111, 112, 113, 114, 115, 116, 117, 118, 119, 120, 121, 122, 123, 124, 125, 126, 127, 128, 129, 130, 131, 132, 133, 134, 135, 136, 137, 138, 139, 140, 141, 142, 143, 144, 145, 146, 147, 148, 149, 150, 151, 152, 153, 154, 155, 156, 157, 158, 159, 160, 161, 162, 163, 164, 165, 166, 167, 168, 169, 170, 171, 172, 173, 174, 175, 176, 177, 178, 179, 180, 181, 182, 183, 184, 185, 186, 187, 188, 189, 190, 191, 192, 193, 194, 195, 196, 197, 198, 199, 200, 201, 202, 203, 204, 205, 206, 207, 208, 209, 210, 211, 212, 213, 214, 215, 216, 217, 218] rfl (by decide +kernel)) (goodIn_sub (fun _ h => List.mem_cons_of_mem _ (List.mem_append_left _ (List.mem_append_right _ h))) (by decide +kernel))) (goodIn_sub (fun _ h => List.mem_cons_of_mem _ (List.mem_append_right _ h)) (by decide +kernel))
set_option maxRecDepth 20000 in
theorem gL_leg_X8_leg : GoodIn wsL_leg (wsV RL 37 RX8 yX8_leg wsX8_leg) := goodIn_app (goodIn_of _ (by decide +kernel)) ggL_leg_X8_leg
theorem dL_leg_0 : decode cL_leg 0 = .ok (.aload 4, 2) := by decide +kernel
theorem dL_leg_2 : decode cL_leg 2 = .ok (.iconst 0, 1) := by decide +kernel
theorem dL_leg_3 : decode cL_leg 3 = .ok (.aload_n 0, 1) := by decide +kernel
theorem dL_leg_4 : decode cL_leg 4 = .ok (.iload_n 1, 1) := by decide +kernel
theorem dL_leg_5 : decode cL_leg 5 = .ok (.iload_n 2, 1) := by decide +kernel
theorem dL_leg_6 : decode cL_leg 6 = .ok (.iload_n 3, 1) := by decide +kernel
theorem dL_leg_7 : decode cL_leg 7 = .ok (.invokevirtual 37, 3) := by decide +kernel
theorem dL_leg_10 : decode cL_leg 10 = .ok (.i2l, 1) := by decide +kernel
theorem dL_leg_11 : decode cL_leg 11 = .ok (.lastore, 1) := by decide +kernel
theorem dL_leg_12 : decode cL_leg 12 = .ok (.goto 11, 3) := by decide +kernel
theorem dL_leg_15 : decode cL_leg 15 = .ok (.astore 5, 2) := by decide +kernel
theorem dL_leg_17 : decode cL_leg 17 = .ok (.iconst 1, 1) := by decide +kernel
theorem dL_leg_18 : decode cL_leg 18 = .ok (.ireturn, 1) := by decide +kernel
theorem dL_leg_19 : decode cL_leg 19 = .ok (.astore 5, 2) := by decide +kernel
theorem dL_leg_21 : decode cL_leg 21 = .ok (.iconst 2, 1) := by decide +kernel
theorem dL_leg_22 : decode cL_leg 22 = .ok (.ireturn, 1) := by decide +kernel
theorem dL_leg_23 : decode cL_leg 23 = .ok (.iconst 0, 1) := by decide +kernel
theorem dL_leg_24 : decode cL_leg 24 = .ok (.ireturn, 1) := by decide +kernel
set_option maxRecDepth 100000 in
theorem ggL_legAt_X8_legAt : GoodIn wsL_legAt wsX8_legAt := goodIn_ca (goodIn_ca (goodIn_r _ [7, 8, 9, 10, 11, 12, 6, 13, 14, 15, 16, 17, 18, 19, 20, 21, 22, 23, 24, 25, 26, 27, 28, 29, 30, 31, 32, 33, 34, 35, 36, 37, 38, 39, 40, 41, 42, 43, 44, 45, 46, 47, 48, 49, 50, 51, 52, 53, 54, 55, 56, 57, 58, 59, 60, 61, 62, 63, 64, 65, 66, 67, 68, 69, 70, 71, 72, 73, 74, 75, 76, 77, 78, 79, 80, 81, 82, 83, 84, 85, 86, 87, 88, 89, 90, 91, 92, 93, 94, 95, 96, 97, 98, 99, 100, 101, 102, 103, 104, 105, 106, 107, 108, 109, 110, 111, 112, 113, 114, 115, 116, 117, 118, 119, 120, 121, 122, 123, 124, 125, 126, 127, 128, 129, 130, 131, 132, 133, 134, 135, 136, 137, 138, 139, 140, 141, 142, 143, 144, 145, 146, 147, 148, 149, 150, 151, 152, 153, 154, 155, 156, 157, 158, 159, 160, 161, 162, 163, 164, 165, 166, 167, 168, 169, 170, 171, 172, 173, 174, 175, 176, 177, 178, 179, 180, 181, 182, 183, 184, 185, 186, 187, 188, 189, 190, 191, 192, 193, 194, 195, 196, 197, 198, 199, 200, 201, 202, 203, 204, 205, 206, 207, 208, 209, 210, 211, 212, 213, 214, 215, 216, 217, 218, 219, 220, 221, 222, 223, 224, 225, 226] rfl (by decide +kernel)) (goodIn_sub (fun _ h => List.mem_cons_of_mem _ (List.mem_append_left _ (List.mem_append_right _ h))) (by decide +kernel))) (goodIn_sub (fun _ h => List.mem_cons_of_mem _ (List.mem_append_right _ h)) (by decide +kernel))
set_option maxRecDepth 20000 in
theorem gL_legAt_X8_legAt : GoodIn wsL_legAt (wsV RL 41 RX8 yX8_legAt wsX8_legAt) := goodIn_app (goodIn_of _ (by decide +kernel)) ggL_legAt_X8_legAt
theorem dL_legAt_0 : decode cL_legAt 0 = .ok (.aload_n 3, 1) := by decide +kernel
theorem dL_legAt_1 : decode cL_legAt 1 = .ok (.iconst 0, 1) := by decide +kernel
theorem dL_legAt_2 : decode cL_legAt 2 = .ok (.aload_n 0, 1) := by decide +kernel
theorem dL_legAt_3 : decode cL_legAt 3 = .ok (.iload_n 1, 1) := by decide +kernel
theorem dL_legAt_4 : decode cL_legAt 4 = .ok (.iload_n 2, 1) := by decide +kernel
theorem dL_legAt_5 : decode cL_legAt 5 = .ok (.invokevirtual 41, 3) := by decide +kernel
theorem dL_legAt_8 : decode cL_legAt 8 = .ok (.i2l, 1) := by decide +kernel
theorem dL_legAt_9 : decode cL_legAt 9 = .ok (.lastore, 1) := by decide +kernel
theorem dL_legAt_10 : decode cL_legAt 10 = .ok (.goto 11, 3) := by decide +kernel
theorem dL_legAt_13 : decode cL_legAt 13 = .ok (.astore 4, 2) := by decide +kernel
theorem dL_legAt_15 : decode cL_legAt 15 = .ok (.iconst 1, 1) := by decide +kernel
theorem dL_legAt_16 : decode cL_legAt 16 = .ok (.ireturn, 1) := by decide +kernel
theorem dL_legAt_17 : decode cL_legAt 17 = .ok (.astore 4, 2) := by decide +kernel
theorem dL_legAt_19 : decode cL_legAt 19 = .ok (.iconst 2, 1) := by decide +kernel
theorem dL_legAt_20 : decode cL_legAt 20 = .ok (.ireturn, 1) := by decide +kernel
theorem dL_legAt_21 : decode cL_legAt 21 = .ok (.iconst 0, 1) := by decide +kernel
theorem dL_legAt_22 : decode cL_legAt 22 = .ok (.ireturn, 1) := by decide +kernel
set_option maxRecDepth 100000 in
theorem ggL_shiftAt_X8_shiftAt : GoodIn wsL_shiftAt wsX8_shiftAt := goodIn_ca (goodIn_ca (goodIn_r _ [7, 8, 9, 10, 11, 6, 12, 13, 14, 15, 16, 17, 18, 19, 20, 21, 22, 23, 24, 25, 26, 27, 28, 29, 30, 31, 32, 33, 34, 35, 36, 37, 38, 39, 40, 41, 42, 43, 44, 45, 46, 47, 48, 49, 50, 51, 52, 53, 54, 55, 56, 57, 58, 59, 60, 61, 62, 63, 64, 65, 66, 67, 68, 69, 70, 71, 72, 73, 74, 75, 76, 77, 78, 79, 80, 81, 82, 83, 84, 85, 86, 87, 88, 89, 90, 91, 92, 93, 94, 95, 96, 97, 98, 99, 100, 101, 102, 103, 104, 105, 106, 107, 108, 109, 110, 111, 112, 113, 114, 115, 116, 117, 118, 119, 120, 121, 122, 123, 124, 125, 126, 127, 128, 129, 130, 131, 132, 133, 134, 135, 136, 137, 138, 139, 140, 141, 142, 143, 144, 145, 146, 147, 148, 149, 150, 151, 152, 153, 154, 155, 156, 157, 158, 159, 160, 161, 162, 163, 164, 165, 166, 167, 168, 169, 170, 171, 172, 173, 174, 175, 176, 177, 178, 179, 180, 181, 182, 183, 184, 185, 186, 187, 188, 189, 190, 191, 192, 193, 194, 195, 196, 197, 198, 199, 200, 201, 202, 203, 204, 205, 206, 207, 208, 209, 210, 211, 212, 213, 214, 215, 216, 217, 218, 219, 220, 221, 222, 223, 224, 225, 226, 227, 228, 229, 230, 231, 232, 233, 234, 235] rfl (by decide +kernel)) (goodIn_sub (fun _ h => List.mem_cons_of_mem _ (List.mem_append_left _ (List.mem_append_right _ h))) (by decide +kernel))) (goodIn_sub (fun _ h => List.mem_cons_of_mem _ (List.mem_append_right _ h)) (by decide +kernel))
set_option maxRecDepth 20000 in
theorem gL_shiftAt_X8_shiftAt : GoodIn wsL_shiftAt (wsV RL 44 RX8 yX8_shiftAt wsX8_shiftAt) := goodIn_app (goodIn_of _ (by decide +kernel)) ggL_shiftAt_X8_shiftAt
theorem dL_shiftAt_0 : decode cL_shiftAt 0 = .ok (.aload_n 3, 1) := by decide +kernel
theorem dL_shiftAt_1 : decode cL_shiftAt 1 = .ok (.iconst 0, 1) := by decide +kernel
theorem dL_shiftAt_2 : decode cL_shiftAt 2 = .ok (.aload_n 0, 1) := by decide +kernel
theorem dL_shiftAt_3 : decode cL_shiftAt 3 = .ok (.iload_n 1, 1) := by decide +kernel
theorem dL_shiftAt_4 : decode cL_shiftAt 4 = .ok (.iload_n 2, 1) := by decide +kernel
theorem dL_shiftAt_5 : decode cL_shiftAt 5 = .ok (.invokevirtual 44, 3) := by decide +kernel
theorem dL_shiftAt_8 : decode cL_shiftAt 8 = .ok (.i2l, 1) := by decide +kernel
theorem dL_shiftAt_9 : decode cL_shiftAt 9 = .ok (.lastore, 1) := by decide +kernel
theorem dL_shiftAt_10 : decode cL_shiftAt 10 = .ok (.goto 11, 3) := by decide +kernel
theorem dL_shiftAt_13 : decode cL_shiftAt 13 = .ok (.astore 4, 2) := by decide +kernel
theorem dL_shiftAt_15 : decode cL_shiftAt 15 = .ok (.iconst 1, 1) := by decide +kernel
theorem dL_shiftAt_16 : decode cL_shiftAt 16 = .ok (.ireturn, 1) := by decide +kernel
theorem dL_shiftAt_17 : decode cL_shiftAt 17 = .ok (.astore 4, 2) := by decide +kernel
theorem dL_shiftAt_19 : decode cL_shiftAt 19 = .ok (.iconst 2, 1) := by decide +kernel
theorem dL_shiftAt_20 : decode cL_shiftAt 20 = .ok (.ireturn, 1) := by decide +kernel
theorem dL_shiftAt_21 : decode cL_shiftAt 21 = .ok (.iconst 0, 1) := by decide +kernel
theorem dL_shiftAt_22 : decode cL_shiftAt 22 = .ok (.ireturn, 1) := by decide +kernel
set_option maxRecDepth 100000 in
theorem ggL_depthAt_X8_depthAt : GoodIn wsL_depthAt wsX8_depthAt := goodIn_ca (goodIn_ca (goodIn_r _ [7, 8, 9, 10, 11, 12, 13, 14, 6, 15, 16, 17, 18, 19, 20, 21, 22, 23, 24, 25, 26, 27, 28, 29, 30, 31, 32, 33, 34, 35, 36, 37, 38, 39, 40, 41, 42, 43, 44, 45, 46, 47, 48, 49, 50, 51, 52, 53, 54, 55, 56, 57, 58, 59, 60, 61, 62, 63, 64, 65, 66, 67, 68, 69, 70, 71, 72, 73, 74, 75, 76, 77, 78, 79, 80, 81, 82, 83, 84, 85, 86, 87, 88, 89, 90, 91, 92, 93, 94, 95, 96, 97, 98, 99, 100, 101, 102, 103, 104, 105, 106, 107, 108, 109, 110, 111, 112, 113, 114, 115, 116, 117, 118, 119, 120, 121, 122, 123, 124, 125, 126, 127, 128, 129, 130, 131, 132, 133, 134, 135, 136, 137, 138, 139, 140, 141, 142, 143, 144, 145, 146, 147, 148, 149, 150, 151, 152, 153, 154, 155, 156, 157, 158, 159, 160, 161, 162, 163, 164, 165, 166, 167, 168, 169, 170, 171, 172, 173, 174, 175, 176, 177, 178, 179, 180, 181, 182, 183, 184, 185, 186, 187, 188, 189, 190, 191, 192, 193, 194, 195, 196, 197, 198, 199, 200, 201, 202, 203, 204, 205, 206, 207, 208, 209, 210, 211, 212, 213, 214, 215, 216, 217, 218, 219, 220, 221, 222, 223, 224, 225, 226, 227, 228, 229, 230, 231, 232, 233, 234, 235, 236, 237, 238, 239, 240] rfl (by decide +kernel)) (goodIn_sub (fun _ h => List.mem_cons_of_mem _ (List.mem_append_left _ (List.mem_append_right _ h))) (by decide +kernel))) (goodIn_sub (fun _ h => List.mem_cons_of_mem _ (List.mem_append_right _ h)) (by decide +kernel))
set_option maxRecDepth 20000 in
theorem gL_depthAt_X8_depthAt : GoodIn wsL_depthAt (wsV RL 47 RX8 yX8_depthAt wsX8_depthAt) := goodIn_app (goodIn_of _ (by decide +kernel)) ggL_depthAt_X8_depthAt
theorem dL_depthAt_0 : decode cL_depthAt 0 = .ok (.aload_n 3, 1) := by decide +kernel
theorem dL_depthAt_1 : decode cL_depthAt 1 = .ok (.iconst 0, 1) := by decide +kernel
theorem dL_depthAt_2 : decode cL_depthAt 2 = .ok (.aload_n 0, 1) := by decide +kernel
theorem dL_depthAt_3 : decode cL_depthAt 3 = .ok (.iload_n 1, 1) := by decide +kernel
theorem dL_depthAt_4 : decode cL_depthAt 4 = .ok (.iload_n 2, 1) := by decide +kernel
theorem dL_depthAt_5 : decode cL_depthAt 5 = .ok (.invokevirtual 47, 3) := by decide +kernel
theorem dL_depthAt_8 : decode cL_depthAt 8 = .ok (.i2l, 1) := by decide +kernel
theorem dL_depthAt_9 : decode cL_depthAt 9 = .ok (.lastore, 1) := by decide +kernel
theorem dL_depthAt_10 : decode cL_depthAt 10 = .ok (.goto 11, 3) := by decide +kernel
theorem dL_depthAt_13 : decode cL_depthAt 13 = .ok (.astore 4, 2) := by decide +kernel
theorem dL_depthAt_15 : decode cL_depthAt 15 = .ok (.iconst 1, 1) := by decide +kernel
theorem dL_depthAt_16 : decode cL_depthAt 16 = .ok (.ireturn, 1) := by decide +kernel
theorem dL_depthAt_17 : decode cL_depthAt 17 = .ok (.astore 4, 2) := by decide +kernel
theorem dL_depthAt_19 : decode cL_depthAt 19 = .ok (.iconst 2, 1) := by decide +kernel
theorem dL_depthAt_20 : decode cL_depthAt 20 = .ok (.ireturn, 1) := by decide +kernel
theorem dL_depthAt_21 : decode cL_depthAt 21 = .ok (.iconst 0, 1) := by decide +kernel
theorem dL_depthAt_22 : decode cL_depthAt 22 = .ok (.ireturn, 1) := by decide +kernel
set_option maxRecDepth 100000 in
theorem ggL_critical_X8_critical : GoodIn wsL_critical wsX8_critical := goodIn_ca (goodIn_r _ [6, 7, 8, 9, 10, 5, 11, 12, 13, 14, 15, 16, 17, 18, 19, 20, 21, 22, 23, 24, 25, 26, 27, 28, 29, 30, 31, 32, 33, 34, 35, 36, 37, 38, 39, 40, 41, 42, 43, 44, 45, 46, 47, 48, 49, 50, 51, 52, 53, 54, 55, 56, 57] rfl (by decide +kernel)) (goodIn_sub (fun _ h => List.mem_cons_of_mem _ (List.mem_append_right _ h)) (by decide +kernel))
set_option maxRecDepth 20000 in
theorem gL_critical_X8_critical : GoodIn wsL_critical (wsV RL 50 RX8 yX8_critical wsX8_critical) := goodIn_app (goodIn_of _ (by decide +kernel)) ggL_critical_X8_critical
theorem dL_critical_0 : decode cL_critical 0 = .ok (.aload_n 3, 1) := by decide +kernel
theorem dL_critical_1 : decode cL_critical 1 = .ok (.iconst 0, 1) := by decide +kernel
theorem dL_critical_2 : decode cL_critical 2 = .ok (.aload_n 0, 1) := by decide +kernel
theorem dL_critical_3 : decode cL_critical 3 = .ok (.iload_n 1, 1) := by decide +kernel
theorem dL_critical_4 : decode cL_critical 4 = .ok (.iload_n 2, 1) := by decide +kernel
theorem dL_critical_5 : decode cL_critical 5 = .ok (.invokevirtual 50, 3) := by decide +kernel
theorem dL_critical_8 : decode cL_critical 8 = .ok (.i2l, 1) := by decide +kernel
theorem dL_critical_9 : decode cL_critical 9 = .ok (.lastore, 1) := by decide +kernel
theorem dL_critical_10 : decode cL_critical 10 = .ok (.goto 7, 3) := by decide +kernel
theorem dL_critical_13 : decode cL_critical 13 = .ok (.astore 4, 2) := by decide +kernel
theorem dL_critical_15 : decode cL_critical 15 = .ok (.iconst 1, 1) := by decide +kernel
theorem dL_critical_16 : decode cL_critical 16 = .ok (.ireturn, 1) := by decide +kernel
theorem dL_critical_17 : decode cL_critical 17 = .ok (.iconst 0, 1) := by decide +kernel
theorem dL_critical_18 : decode cL_critical 18 = .ok (.ireturn, 1) := by decide +kernel
set_option maxRecDepth 100000 in
theorem ggL_endOf_X8_endOf : GoodIn wsL_endOf wsX8_endOf := goodIn_ca (goodIn_ca (goodIn_r _ [7, 8, 9, 10, 11, 12, 13, 6, 14, 15, 16, 17, 18, 19, 20, 21, 22, 23, 24, 25, 26, 27, 28, 29, 30, 31, 32, 33, 34, 35, 36, 37, 38, 39, 40, 41, 42, 43, 44, 45, 46, 47, 48, 49, 50, 51, 52, 53, 54, 55, 56, 57, 58, 59, 60, 61, 62, 63, 64, 65, 66, 67, 68, 69, 70, 71, 72, 73, 74, 75, 76, 77, 78, 79, 80, 81, 82, 83, 84, 85, 86, 87, 88, 89, 90, 91, 92, 93, 94, 95, 96, 97, 98, 99, 100, 101, 102, 103, 104, 105, 106, 107, 108, 109, 110, 111, 112, 113, 114, 115, 116, 117, 118, 119, 120, 121, 122, 123, 124, 125, 126, 127, 128, 129, 130, 131, 132, 133, 134, 135, 136, 137, 138, 139, 140, 141, 142, 143, 144, 145, 146, 147, 148, 149, 150, 151, 152, 153, 154, 155, 156, 157, 158, 159, 160, 161, 162, 163, 164, 165, 166, 167, 168, 169, 170, 171, 172, 173, 174, 175, 176, 177, 178, 179, 180, 181, 182, 183, 184, 185, 186, 187, 188] rfl (by decide +kernel)) (goodIn_sub (fun _ h => List.mem_cons_of_mem _ (List.mem_append_left _ (List.mem_append_right _ h))) (by decide +kernel))) (goodIn_sub (fun _ h => List.mem_cons_of_mem _ (List.mem_append_right _ h)) (by decide +kernel))
set_option maxRecDepth 20000 in
theorem gL_endOf_X8_endOf : GoodIn wsL_endOf (wsV RL 54 RX8 yX8_endOf wsX8_endOf) := goodIn_app (goodIn_of _ (by decide +kernel)) ggL_endOf_X8_endOf
theorem dL_endOf_0 : decode cL_endOf 0 = .ok (.aload 4, 2) := by decide +kernel
theorem dL_endOf_2 : decode cL_endOf 2 = .ok (.iconst 0, 1) := by decide +kernel
theorem dL_endOf_3 : decode cL_endOf 3 = .ok (.aload_n 0, 1) := by decide +kernel
theorem dL_endOf_4 : decode cL_endOf 4 = .ok (.iload_n 1, 1) := by decide +kernel
theorem dL_endOf_5 : decode cL_endOf 5 = .ok (.iload_n 2, 1) := by decide +kernel
theorem dL_endOf_6 : decode cL_endOf 6 = .ok (.iload_n 3, 1) := by decide +kernel
theorem dL_endOf_7 : decode cL_endOf 7 = .ok (.invokevirtual 54, 3) := by decide +kernel
theorem dL_endOf_10 : decode cL_endOf 10 = .ok (.i2l, 1) := by decide +kernel
theorem dL_endOf_11 : decode cL_endOf 11 = .ok (.lastore, 1) := by decide +kernel
theorem dL_endOf_12 : decode cL_endOf 12 = .ok (.goto 11, 3) := by decide +kernel
theorem dL_endOf_15 : decode cL_endOf 15 = .ok (.astore 5, 2) := by decide +kernel
theorem dL_endOf_17 : decode cL_endOf 17 = .ok (.iconst 1, 1) := by decide +kernel
theorem dL_endOf_18 : decode cL_endOf 18 = .ok (.ireturn, 1) := by decide +kernel
theorem dL_endOf_19 : decode cL_endOf 19 = .ok (.astore 5, 2) := by decide +kernel
theorem dL_endOf_21 : decode cL_endOf 21 = .ok (.iconst 2, 1) := by decide +kernel
theorem dL_endOf_22 : decode cL_endOf 22 = .ok (.ireturn, 1) := by decide +kernel
theorem dL_endOf_23 : decode cL_endOf 23 = .ok (.iconst 0, 1) := by decide +kernel
theorem dL_endOf_24 : decode cL_endOf 24 = .ok (.ireturn, 1) := by decide +kernel
set_option maxRecDepth 100000 in
theorem ggL_shiftOf_X8_shiftOf : GoodIn wsL_shiftOf wsX8_shiftOf := goodIn_ca (goodIn_ca (goodIn_r _ [7, 8, 9, 10, 11, 12, 13, 14, 6, 15, 16, 17, 18, 19, 20, 21, 22, 23, 24, 25, 26, 27, 28, 29, 30, 31, 32, 33, 34, 35, 36, 37, 38, 39, 40, 41, 42, 43, 44, 45, 46, 47, 48, 49, 50, 51, 52, 53, 54, 55, 56, 57, 58, 59, 60, 61, 62, 63, 64, 65, 66, 67, 68, 69, 70, 71, 72, 73, 74, 75, 76, 77, 78, 79, 80, 81, 82, 83, 84, 85, 86, 87, 88, 89, 90, 91, 92, 93, 94, 95, 96, 97, 98, 99, 100, 101, 102, 103, 104, 105, 106, 107, 108, 109, 110, 111, 112, 113, 114, 115, 116, 117, 118, 119, 120, 121, 122, 123, 124, 125, 126, 127, 128, 129, 130, 131, 132, 133, 134, 135, 136, 137, 138, 139, 140, 141, 142, 143, 144, 145, 146, 147, 148, 149, 150, 151, 152, 153, 154, 155, 156, 157, 158, 159, 160, 161, 162, 163, 164, 165, 166, 167, 168, 169, 170, 171, 172, 173, 174, 175, 176, 177, 178, 179, 180, 181, 182, 183, 184, 185, 186, 187, 188, 189] rfl (by decide +kernel)) (goodIn_sub (fun _ h => List.mem_cons_of_mem _ (List.mem_append_left _ (List.mem_append_right _ h))) (by decide +kernel))) (goodIn_sub (fun _ h => List.mem_cons_of_mem _ (List.mem_append_right _ h)) (by decide +kernel))
set_option maxRecDepth 20000 in
theorem gL_shiftOf_X8_shiftOf : GoodIn wsL_shiftOf (wsV RL 58 RX8 yX8_shiftOf wsX8_shiftOf) := goodIn_app (goodIn_of _ (by decide +kernel)) ggL_shiftOf_X8_shiftOf
theorem dL_shiftOf_0 : decode cL_shiftOf 0 = .ok (.aload 4, 2) := by decide +kernel
theorem dL_shiftOf_2 : decode cL_shiftOf 2 = .ok (.iconst 0, 1) := by decide +kernel
theorem dL_shiftOf_3 : decode cL_shiftOf 3 = .ok (.aload_n 0, 1) := by decide +kernel
theorem dL_shiftOf_4 : decode cL_shiftOf 4 = .ok (.iload_n 1, 1) := by decide +kernel
theorem dL_shiftOf_5 : decode cL_shiftOf 5 = .ok (.iload_n 2, 1) := by decide +kernel
theorem dL_shiftOf_6 : decode cL_shiftOf 6 = .ok (.iload_n 3, 1) := by decide +kernel
theorem dL_shiftOf_7 : decode cL_shiftOf 7 = .ok (.invokevirtual 58, 3) := by decide +kernel
theorem dL_shiftOf_10 : decode cL_shiftOf 10 = .ok (.i2l, 1) := by decide +kernel
theorem dL_shiftOf_11 : decode cL_shiftOf 11 = .ok (.lastore, 1) := by decide +kernel
theorem dL_shiftOf_12 : decode cL_shiftOf 12 = .ok (.goto 11, 3) := by decide +kernel
theorem dL_shiftOf_15 : decode cL_shiftOf 15 = .ok (.astore 5, 2) := by decide +kernel
theorem dL_shiftOf_17 : decode cL_shiftOf 17 = .ok (.iconst 1, 1) := by decide +kernel
theorem dL_shiftOf_18 : decode cL_shiftOf 18 = .ok (.ireturn, 1) := by decide +kernel
theorem dL_shiftOf_19 : decode cL_shiftOf 19 = .ok (.astore 5, 2) := by decide +kernel
theorem dL_shiftOf_21 : decode cL_shiftOf 21 = .ok (.iconst 2, 1) := by decide +kernel
theorem dL_shiftOf_22 : decode cL_shiftOf 22 = .ok (.ireturn, 1) := by decide +kernel
theorem dL_shiftOf_23 : decode cL_shiftOf 23 = .ok (.iconst 0, 1) := by decide +kernel
theorem dL_shiftOf_24 : decode cL_shiftOf 24 = .ok (.ireturn, 1) := by decide +kernel
set_option maxRecDepth 100000 in
theorem ggL_slants_X8_slants : GoodIn wsL_slants wsX8_slants := goodIn_ca (goodIn_ca (goodIn_r _ [7, 8, 9, 10, 11, 6, 12, 13, 14, 15, 16, 17, 18, 19, 20, 21, 22, 23, 24, 25, 26, 27, 28, 29, 30, 31, 32, 33, 34, 35, 36, 37, 38, 39, 40, 41, 42, 43, 44, 45, 46, 47, 48, 49, 50, 51, 52, 53, 54, 55, 56, 57, 58, 59, 60, 61, 62, 63, 64, 65, 66, 67, 68, 69, 70, 71, 72, 73, 74, 75, 76, 77, 78, 79, 80, 81, 82, 83, 84, 85, 86, 87, 88, 89, 90, 91, 92, 93, 94, 95, 96, 97, 98, 99, 100, 101, 102, 103, 104, 105, 106, 107, 108, 109, 110, 111, 112, 113, 114, 115, 116, 117, 118, 119, 120, 121, 122, 123, 124, 125, 126, 127, 128, 129, 130, 131, 132, 133, 134, 135, 136, 137, 138, 139, 140, 141, 142, 143, 144, 145, 146, 147, 148, 149, 150, 151, 152, 153, 154, 155, 156, 157, 158, 159, 160, 161, 162, 163, 164, 165, 166, 167, 168, 169, 170, 171, 172, 173, 174, 175, 176, 177, 178, 179, 180, 181, 182, 183, 184, 185, 186, 187, 188, 189, 190, 191, 192, 193, 194, 195, 196, 197, 198, 199, 200, 201, 202, 203, 204, 205, 206, 207, 208, 209, 210, 211, 212, 213, 214, 215, 216, 217, 218, 219, 220, 221, 222, 223, 224, 225, 226, 227, 228, 229, 230, 231, 232, 233, 234] rfl (by decide +kernel)) (goodIn_sub (fun _ h => List.mem_cons_of_mem _ (List.mem_append_left _ (List.mem_append_right _ h))) (by decide +kernel))) (goodIn_sub (fun _ h => List.mem_cons_of_mem _ (List.mem_append_right _ h)) (by decide +kernel))
set_option maxRecDepth 20000 in
theorem gL_slants_X8_slants : GoodIn wsL_slants (wsV RL 61 RX8 yX8_slants wsX8_slants) := goodIn_app (goodIn_of _ (by decide +kernel)) ggL_slants_X8_slants
theorem dL_slants_0 : decode cL_slants 0 = .ok (.aload 4, 2) := by decide +kernel
theorem dL_slants_2 : decode cL_slants 2 = .ok (.iconst 0, 1) := by decide +kernel
theorem dL_slants_3 : decode cL_slants 3 = .ok (.aload_n 0, 1) := by decide +kernel
theorem dL_slants_4 : decode cL_slants 4 = .ok (.iload_n 1, 1) := by decide +kernel
theorem dL_slants_5 : decode cL_slants 5 = .ok (.iload_n 2, 1) := by decide +kernel
theorem dL_slants_6 : decode cL_slants 6 = .ok (.iload_n 3, 1) := by decide +kernel
theorem dL_slants_7 : decode cL_slants 7 = .ok (.invokevirtual 61, 3) := by decide +kernel
theorem dL_slants_10 : decode cL_slants 10 = .ok (.i2l, 1) := by decide +kernel
theorem dL_slants_11 : decode cL_slants 11 = .ok (.lastore, 1) := by decide +kernel
theorem dL_slants_12 : decode cL_slants 12 = .ok (.goto 11, 3) := by decide +kernel
theorem dL_slants_15 : decode cL_slants 15 = .ok (.astore 5, 2) := by decide +kernel
theorem dL_slants_17 : decode cL_slants 17 = .ok (.iconst 1, 1) := by decide +kernel
theorem dL_slants_18 : decode cL_slants 18 = .ok (.ireturn, 1) := by decide +kernel
theorem dL_slants_19 : decode cL_slants 19 = .ok (.astore 5, 2) := by decide +kernel
theorem dL_slants_21 : decode cL_slants 21 = .ok (.iconst 2, 1) := by decide +kernel
theorem dL_slants_22 : decode cL_slants 22 = .ok (.ireturn, 1) := by decide +kernel
theorem dL_slants_23 : decode cL_slants 23 = .ok (.iconst 0, 1) := by decide +kernel
theorem dL_slants_24 : decode cL_slants 24 = .ok (.ireturn, 1) := by decide +kernel
set_option maxRecDepth 100000 in
theorem ggL_leastSlant_X8_leastSlant : GoodIn wsL_leastSlant wsX8_leastSlant := goodIn_ca (goodIn_ca (goodIn_r _ [7, 8, 9, 10, 11, 6, 12, 13, 14, 15, 16, 17, 18, 19, 20, 21, 22, 23, 24, 25, 26, 27, 28, 29, 30, 31, 32, 33, 34, 35, 36, 37, 38, 39, 40, 41, 42, 43, 44, 45, 46, 47, 48, 49, 50, 51, 52, 53, 54, 55, 56, 57, 58, 59, 60, 61, 62, 63, 64, 65, 66, 67, 68, 69, 70, 71, 72, 73, 74, 75, 76, 77, 78, 79, 80, 81, 82, 83, 84, 85, 86, 87, 88, 89, 90, 91, 92, 93, 94, 95, 96, 97, 98, 99, 100, 101, 102, 103, 104, 105, 106, 107, 108, 109, 110, 111, 112, 113, 114, 115, 116, 117, 118, 119, 120, 121, 122, 123, 124, 125, 126, 127, 128, 129, 130, 131, 132, 133, 134, 135, 136, 137, 138, 139, 140, 141, 142, 143, 144, 145, 146, 147, 148, 149, 150, 151, 152, 153, 154, 155, 156, 157, 158, 159, 160, 161, 162, 163, 164, 165, 166, 167, 168, 169, 170, 171, 172, 173, 174, 175, 176, 177, 178, 179, 180, 181, 182, 183, 184, 185, 186, 187, 188, 189, 190, 191, 192, 193, 194, 195, 196, 197, 198, 199, 200, 201, 202, 203, 204, 205, 206, 207, 208, 209, 210, 211, 212, 213, 214, 215, 216, 217, 218, 219, 220, 221, 222, 223, 224, 225, 226, 227, 228, 229, 230, 231, 232, 233, 234] rfl (by decide +kernel)) (goodIn_sub (fun _ h => List.mem_cons_of_mem _ (List.mem_append_left _ (List.mem_append_right _ h))) (by decide +kernel))) (goodIn_sub (fun _ h => List.mem_cons_of_mem _ (List.mem_append_right _ h)) (by decide +kernel))
set_option maxRecDepth 20000 in
theorem gL_leastSlant_X8_leastSlant : GoodIn wsL_leastSlant (wsV RL 64 RX8 yX8_leastSlant wsX8_leastSlant) := goodIn_app (goodIn_of _ (by decide +kernel)) ggL_leastSlant_X8_leastSlant
theorem dL_leastSlant_0 : decode cL_leastSlant 0 = .ok (.aload 4, 2) := by decide +kernel
theorem dL_leastSlant_2 : decode cL_leastSlant 2 = .ok (.iconst 0, 1) := by decide +kernel
theorem dL_leastSlant_3 : decode cL_leastSlant 3 = .ok (.aload_n 0, 1) := by decide +kernel
theorem dL_leastSlant_4 : decode cL_leastSlant 4 = .ok (.iload_n 1, 1) := by decide +kernel
theorem dL_leastSlant_5 : decode cL_leastSlant 5 = .ok (.iload_n 2, 1) := by decide +kernel
theorem dL_leastSlant_6 : decode cL_leastSlant 6 = .ok (.iload_n 3, 1) := by decide +kernel
theorem dL_leastSlant_7 : decode cL_leastSlant 7 = .ok (.invokevirtual 64, 3) := by decide +kernel
theorem dL_leastSlant_10 : decode cL_leastSlant 10 = .ok (.i2l, 1) := by decide +kernel
theorem dL_leastSlant_11 : decode cL_leastSlant 11 = .ok (.lastore, 1) := by decide +kernel
theorem dL_leastSlant_12 : decode cL_leastSlant 12 = .ok (.goto 11, 3) := by decide +kernel
theorem dL_leastSlant_15 : decode cL_leastSlant 15 = .ok (.astore 5, 2) := by decide +kernel
theorem dL_leastSlant_17 : decode cL_leastSlant 17 = .ok (.iconst 1, 1) := by decide +kernel
theorem dL_leastSlant_18 : decode cL_leastSlant 18 = .ok (.ireturn, 1) := by decide +kernel
theorem dL_leastSlant_19 : decode cL_leastSlant 19 = .ok (.astore 5, 2) := by decide +kernel
theorem dL_leastSlant_21 : decode cL_leastSlant 21 = .ok (.iconst 2, 1) := by decide +kernel
theorem dL_leastSlant_22 : decode cL_leastSlant 22 = .ok (.ireturn, 1) := by decide +kernel
theorem dL_leastSlant_23 : decode cL_leastSlant 23 = .ok (.iconst 0, 1) := by decide +kernel
theorem dL_leastSlant_24 : decode cL_leastSlant 24 = .ok (.ireturn, 1) := by decide +kernel
set_option maxRecDepth 100000 in
theorem ggL_slantFor_X8_slantFor : GoodIn wsL_slantFor wsX8_slantFor := goodIn_ca (goodIn_ca (goodIn_r _ [7, 8, 9, 10, 11, 6, 12, 13, 14, 15, 16, 17, 18, 19, 20, 21, 22, 23, 24, 25, 26, 27, 28, 29, 30, 31, 32, 33, 34, 35, 36, 37, 38, 39, 40, 41, 42, 43, 44, 45, 46, 47, 48, 49, 50, 51, 52, 53, 54, 55, 56, 57, 58, 59, 60, 61, 62, 63, 64, 65, 66, 67, 68, 69, 70, 71, 72, 73, 74, 75, 76, 77, 78, 79, 80, 81, 82, 83, 84, 85, 86, 87, 88, 89, 90, 91, 92, 93, 94, 95, 96, 97, 98, 99, 100, 101, 102, 103, 104, 105, 106, 107, 108, 109, 110, 111, 112, 113, 114, 115, 116, 117, 118, 119, 120, 121, 122, 123, 124, 125, 126, 127, 128, 129, 130, 131, 132, 133, 134, 135, 136, 137, 138, 139, 140, 141, 142, 143, 144, 145, 146, 147, 148, 149, 150, 151, 152, 153, 154, 155, 156, 157, 158, 159, 160, 161, 162, 163, 164, 165, 166, 167, 168, 169, 170, 171, 172, 173, 174, 175, 176, 177, 178, 179, 180, 181, 182, 183, 184, 185, 186, 187, 188, 189, 190, 191, 192, 193, 194, 195, 196, 197, 198, 199, 200, 201, 202, 203, 204, 205, 206, 207, 208, 209, 210, 211, 212, 213, 214, 215, 216, 217, 218, 219, 220, 221, 222, 223, 224, 225, 226, 227, 228, 229, 230, 231, 232, 233, 234, 235, 236, 237, 238, 239, 240, 241, 242, 243, 244, 245, 246, 247, 248] rfl (by decide +kernel)) (goodIn_sub (fun _ h => List.mem_cons_of_mem _ (List.mem_append_left _ (List.mem_append_right _ h))) (by decide +kernel))) (goodIn_sub (fun _ h => List.mem_cons_of_mem _ (List.mem_append_right _ h)) (by decide +kernel))
set_option maxRecDepth 20000 in
theorem gL_slantFor_X8_slantFor : GoodIn wsL_slantFor (wsV RL 67 RX8 yX8_slantFor wsX8_slantFor) := goodIn_app (goodIn_of _ (by decide +kernel)) ggL_slantFor_X8_slantFor
theorem dL_slantFor_0 : decode cL_slantFor 0 = .ok (.aload 4, 2) := by decide +kernel
theorem dL_slantFor_2 : decode cL_slantFor 2 = .ok (.iconst 0, 1) := by decide +kernel
theorem dL_slantFor_3 : decode cL_slantFor 3 = .ok (.aload_n 0, 1) := by decide +kernel
theorem dL_slantFor_4 : decode cL_slantFor 4 = .ok (.iload_n 1, 1) := by decide +kernel
theorem dL_slantFor_5 : decode cL_slantFor 5 = .ok (.iload_n 2, 1) := by decide +kernel
theorem dL_slantFor_6 : decode cL_slantFor 6 = .ok (.iload_n 3, 1) := by decide +kernel
theorem dL_slantFor_7 : decode cL_slantFor 7 = .ok (.invokevirtual 67, 3) := by decide +kernel
theorem dL_slantFor_10 : decode cL_slantFor 10 = .ok (.i2l, 1) := by decide +kernel
theorem dL_slantFor_11 : decode cL_slantFor 11 = .ok (.lastore, 1) := by decide +kernel
theorem dL_slantFor_12 : decode cL_slantFor 12 = .ok (.goto 11, 3) := by decide +kernel
theorem dL_slantFor_15 : decode cL_slantFor 15 = .ok (.astore 5, 2) := by decide +kernel
theorem dL_slantFor_17 : decode cL_slantFor 17 = .ok (.iconst 1, 1) := by decide +kernel
theorem dL_slantFor_18 : decode cL_slantFor 18 = .ok (.ireturn, 1) := by decide +kernel
theorem dL_slantFor_19 : decode cL_slantFor 19 = .ok (.astore 5, 2) := by decide +kernel
theorem dL_slantFor_21 : decode cL_slantFor 21 = .ok (.iconst 2, 1) := by decide +kernel
theorem dL_slantFor_22 : decode cL_slantFor 22 = .ok (.ireturn, 1) := by decide +kernel
theorem dL_slantFor_23 : decode cL_slantFor 23 = .ok (.iconst 0, 1) := by decide +kernel
theorem dL_slantFor_24 : decode cL_slantFor 24 = .ok (.ireturn, 1) := by decide +kernel
set_option maxRecDepth 100000 in
theorem ggL_fastest_X8_fastest : GoodIn wsL_fastest wsX8_fastest := goodIn_ca (goodIn_ca (goodIn_r _ [7, 8, 9, 10, 11, 12, 6, 13, 14, 15, 16, 17, 18, 19, 20, 21, 22, 23, 24, 25, 26, 27, 28, 29, 30, 31, 32, 33, 34, 35, 36, 37, 38, 39, 40, 41, 42, 43, 44, 45, 46, 47, 48, 49, 50, 51, 52, 53, 54, 55, 56, 57, 58, 59, 60, 61, 62, 63, 64, 65, 66, 67, 68, 69, 70, 71, 72, 73, 74, 75, 76, 77, 78, 79, 80, 81, 82, 83, 84, 85, 86, 87, 88, 89, 90, 91, 92, 93, 94, 95, 96, 97, 98, 99, 100, 101, 102, 103, 104, 105, 106, 107, 108, 109, 110, 111, 112, 113, 114, 115, 116, 117, 118, 119, 120, 121, 122, 123, 124, 125, 126, 127, 128, 129, 130, 131, 132, 133, 134, 135, 136, 137, 138, 139, 140, 141, 142, 143, 144, 145, 146, 147, 148, 149, 150, 151, 152, 153, 154, 155, 156, 157, 158, 159, 160, 161, 162, 163, 164, 165, 166, 167, 168, 169, 170, 171, 172, 173, 174, 175, 176, 177, 178, 179, 180, 181, 182, 183, 184, 185, 186, 187, 188, 189, 190, 191, 192, 193, 194, 195, 196, 197, 198, 199, 200, 201, 202, 203, 204, 205, 206, 207, 208, 209, 210, 211, 212, 213, 214, 215, 216, 217, 218, 219, 220, 221, 222, 223, 224, 225, 226, 227, 228, 229, 230, 231, 232, 233, 234, 235, 236, 237, 238, 239, 240, 241, 242, 243, 244, 245, 246, 247] rfl (by decide +kernel)) (goodIn_sub (fun _ h => List.mem_cons_of_mem _ (List.mem_append_left _ (List.mem_append_right _ h))) (by decide +kernel))) (goodIn_sub (fun _ h => List.mem_cons_of_mem _ (List.mem_append_right _ h)) (by decide +kernel))
set_option maxRecDepth 20000 in
theorem gL_fastest_X8_fastest : GoodIn wsL_fastest (wsV RL 70 RX8 yX8_fastest wsX8_fastest) := goodIn_app (goodIn_of _ (by decide +kernel)) ggL_fastest_X8_fastest
theorem dL_fastest_0 : decode cL_fastest 0 = .ok (.aload 4, 2) := by decide +kernel
theorem dL_fastest_2 : decode cL_fastest 2 = .ok (.iconst 0, 1) := by decide +kernel
theorem dL_fastest_3 : decode cL_fastest 3 = .ok (.aload_n 0, 1) := by decide +kernel
theorem dL_fastest_4 : decode cL_fastest 4 = .ok (.iload_n 1, 1) := by decide +kernel
theorem dL_fastest_5 : decode cL_fastest 5 = .ok (.iload_n 2, 1) := by decide +kernel
theorem dL_fastest_6 : decode cL_fastest 6 = .ok (.iload_n 3, 1) := by decide +kernel
theorem dL_fastest_7 : decode cL_fastest 7 = .ok (.invokevirtual 70, 3) := by decide +kernel
theorem dL_fastest_10 : decode cL_fastest 10 = .ok (.i2l, 1) := by decide +kernel
theorem dL_fastest_11 : decode cL_fastest 11 = .ok (.lastore, 1) := by decide +kernel
theorem dL_fastest_12 : decode cL_fastest 12 = .ok (.goto 11, 3) := by decide +kernel
theorem dL_fastest_15 : decode cL_fastest 15 = .ok (.astore 5, 2) := by decide +kernel
theorem dL_fastest_17 : decode cL_fastest 17 = .ok (.iconst 1, 1) := by decide +kernel
theorem dL_fastest_18 : decode cL_fastest 18 = .ok (.ireturn, 1) := by decide +kernel
theorem dL_fastest_19 : decode cL_fastest 19 = .ok (.astore 5, 2) := by decide +kernel
theorem dL_fastest_21 : decode cL_fastest 21 = .ok (.iconst 2, 1) := by decide +kernel
theorem dL_fastest_22 : decode cL_fastest 22 = .ok (.ireturn, 1) := by decide +kernel
theorem dL_fastest_23 : decode cL_fastest 23 = .ok (.iconst 0, 1) := by decide +kernel
theorem dL_fastest_24 : decode cL_fastest 24 = .ok (.ireturn, 1) := by decide +kernel
set_option maxRecDepth 100000 in
theorem ggL_brightest_X8_brightest : GoodIn wsL_brightest wsX8_brightest := goodIn_ca (goodIn_ca (goodIn_r _ [7, 8, 9, 10, 11, 12, 6, 13, 14, 15, 16, 17, 18, 19, 20, 21, 22, 23, 24, 25, 26, 27, 28, 29, 30, 31, 32, 33, 34, 35, 36, 37, 38, 39, 40, 41, 42, 43, 44, 45, 46, 47, 48, 49, 50, 51, 52, 53, 54, 55, 56, 57, 58, 59, 60, 61, 62, 63, 64, 65, 66, 67, 68, 69, 70, 71, 72, 73, 74, 75, 76, 77, 78, 79, 80, 81, 82, 83, 84, 85, 86, 87, 88, 89, 90, 91, 92, 93, 94, 95, 96, 97, 98, 99, 100, 101, 102, 103, 104, 105, 106, 107, 108, 109, 110, 111, 112, 113, 114, 115, 116, 117, 118, 119, 120, 121, 122, 123, 124, 125, 126, 127, 128, 129, 130, 131, 132, 133, 134, 135, 136, 137, 138, 139, 140, 141, 142, 143, 144, 145, 146, 147, 148, 149, 150, 151, 152, 153, 154, 155, 156, 157, 158, 159, 160, 161, 162, 163, 164, 165, 166, 167, 168, 169, 170, 171, 172, 173, 174, 175, 176, 177, 178, 179, 180, 181, 182, 183, 184, 185, 186, 187, 188, 189, 190, 191, 192, 193, 194, 195, 196, 197, 198, 199, 200, 201, 202, 203, 204, 205, 206, 207, 208, 209, 210, 211, 212, 213, 214, 215, 216, 217, 218, 219, 220, 221, 222, 223, 224, 225, 226, 227, 228, 229, 230, 231, 232, 233, 234, 235, 236, 237, 238, 239, 240, 241, 242, 243, 244, 245, 246, 247] rfl (by decide +kernel)) (goodIn_sub (fun _ h => List.mem_cons_of_mem _ (List.mem_append_left _ (List.mem_append_right _ h))) (by decide +kernel))) (goodIn_sub (fun _ h => List.mem_cons_of_mem _ (List.mem_append_right _ h)) (by decide +kernel))
set_option maxRecDepth 20000 in
theorem gL_brightest_X8_brightest : GoodIn wsL_brightest (wsV RL 73 RX8 yX8_brightest wsX8_brightest) := goodIn_app (goodIn_of _ (by decide +kernel)) ggL_brightest_X8_brightest
theorem dL_brightest_0 : decode cL_brightest 0 = .ok (.aload 4, 2) := by decide +kernel
theorem dL_brightest_2 : decode cL_brightest 2 = .ok (.iconst 0, 1) := by decide +kernel
theorem dL_brightest_3 : decode cL_brightest 3 = .ok (.aload_n 0, 1) := by decide +kernel
theorem dL_brightest_4 : decode cL_brightest 4 = .ok (.iload_n 1, 1) := by decide +kernel
theorem dL_brightest_5 : decode cL_brightest 5 = .ok (.iload_n 2, 1) := by decide +kernel
theorem dL_brightest_6 : decode cL_brightest 6 = .ok (.iload_n 3, 1) := by decide +kernel
theorem dL_brightest_7 : decode cL_brightest 7 = .ok (.invokevirtual 73, 3) := by decide +kernel
theorem dL_brightest_10 : decode cL_brightest 10 = .ok (.i2l, 1) := by decide +kernel
theorem dL_brightest_11 : decode cL_brightest 11 = .ok (.lastore, 1) := by decide +kernel
theorem dL_brightest_12 : decode cL_brightest 12 = .ok (.goto 11, 3) := by decide +kernel
theorem dL_brightest_15 : decode cL_brightest 15 = .ok (.astore 5, 2) := by decide +kernel
theorem dL_brightest_17 : decode cL_brightest 17 = .ok (.iconst 1, 1) := by decide +kernel
theorem dL_brightest_18 : decode cL_brightest 18 = .ok (.ireturn, 1) := by decide +kernel
theorem dL_brightest_19 : decode cL_brightest 19 = .ok (.astore 5, 2) := by decide +kernel
theorem dL_brightest_21 : decode cL_brightest 21 = .ok (.iconst 2, 1) := by decide +kernel
theorem dL_brightest_22 : decode cL_brightest 22 = .ok (.ireturn, 1) := by decide +kernel
theorem dL_brightest_23 : decode cL_brightest 23 = .ok (.iconst 0, 1) := by decide +kernel
theorem dL_brightest_24 : decode cL_brightest 24 = .ok (.ireturn, 1) := by decide +kernel
set_option maxRecDepth 100000 in
theorem ggL_farthest_X8_farthest : GoodIn wsL_farthest wsX8_farthest := goodIn_ca (goodIn_ca (goodIn_r _ [7, 8, 9, 10, 11, 12, 13, 6, 14, 15, 16, 17, 18, 19, 20, 21, 22, 23, 24, 25, 26, 27, 28, 29, 30, 31, 32, 33, 34, 35, 36, 37, 38, 39, 40, 41, 42, 43, 44, 45, 46, 47, 48, 49, 50, 51, 52, 53, 54, 55, 56, 57, 58, 59, 60, 61, 62, 63, 64, 65, 66, 67, 68, 69, 70, 71, 72, 73, 74, 75, 76, 77, 78, 79, 80, 81, 82, 83, 84, 85, 86, 87, 88, 89, 90, 91, 92, 93, 94, 95, 96, 97, 98, 99, 100, 101, 102, 103, 104, 105, 106, 107, 108, 109, 110, 111, 112, 113, 114, 115, 116, 117, 118, 119, 120, 121, 122, 123, 124, 125, 126, 127, 128, 129, 130, 131, 132, 133, 134, 135, 136, 137, 138, 139, 140, 141, 142, 143, 144, 145, 146, 147, 148, 149, 150, 151, 152, 153, 154, 155, 156, 157, 158, 159, 160, 161, 162, 163, 164, 165, 166, 167, 168, 169, 170, 171, 172, 173, 174, 175, 176, 177, 178, 179, 180, 181, 182, 183, 184, 185, 186, 187, 188, 189, 190, 191, 192, 193, 194, 195, 196, 197, 198, 199, 200, 201, 202, 203, 204, 205, 206, 207, 208, 209, 210, 211, 212, 213, 214, 215, 216, 217, 218, 219, 220, 221, 222, 223, 224, 225, 226, 227, 228, 229, 230, 231, 232, 233, 234, 235, 236, 237, 238, 239, 240, 241, 242, 243, 244, 245, 246, 247, 248] rfl (by decide +kernel)) (goodIn_sub (fun _ h => List.mem_cons_of_mem _ (List.mem_append_left _ (List.mem_append_right _ h))) (by decide +kernel))) (goodIn_sub (fun _ h => List.mem_cons_of_mem _ (List.mem_append_right _ h)) (by decide +kernel))
set_option maxRecDepth 20000 in
theorem gL_farthest_X8_farthest : GoodIn wsL_farthest (wsV RL 76 RX8 yX8_farthest wsX8_farthest) := goodIn_app (goodIn_of _ (by decide +kernel)) ggL_farthest_X8_farthest
theorem dL_farthest_0 : decode cL_farthest 0 = .ok (.aload 4, 2) := by decide +kernel
theorem dL_farthest_2 : decode cL_farthest 2 = .ok (.iconst 0, 1) := by decide +kernel
theorem dL_farthest_3 : decode cL_farthest 3 = .ok (.aload_n 0, 1) := by decide +kernel
theorem dL_farthest_4 : decode cL_farthest 4 = .ok (.iload_n 1, 1) := by decide +kernel
theorem dL_farthest_5 : decode cL_farthest 5 = .ok (.iload_n 2, 1) := by decide +kernel
theorem dL_farthest_6 : decode cL_farthest 6 = .ok (.iload_n 3, 1) := by decide +kernel
theorem dL_farthest_7 : decode cL_farthest 7 = .ok (.invokevirtual 76, 3) := by decide +kernel
theorem dL_farthest_10 : decode cL_farthest 10 = .ok (.i2l, 1) := by decide +kernel
theorem dL_farthest_11 : decode cL_farthest 11 = .ok (.lastore, 1) := by decide +kernel
theorem dL_farthest_12 : decode cL_farthest 12 = .ok (.goto 11, 3) := by decide +kernel
theorem dL_farthest_15 : decode cL_farthest 15 = .ok (.astore 5, 2) := by decide +kernel
theorem dL_farthest_17 : decode cL_farthest 17 = .ok (.iconst 1, 1) := by decide +kernel
theorem dL_farthest_18 : decode cL_farthest 18 = .ok (.ireturn, 1) := by decide +kernel
theorem dL_farthest_19 : decode cL_farthest 19 = .ok (.astore 5, 2) := by decide +kernel
theorem dL_farthest_21 : decode cL_farthest 21 = .ok (.iconst 2, 1) := by decide +kernel
theorem dL_farthest_22 : decode cL_farthest 22 = .ok (.ireturn, 1) := by decide +kernel
theorem dL_farthest_23 : decode cL_farthest 23 = .ok (.iconst 0, 1) := by decide +kernel
theorem dL_farthest_24 : decode cL_farthest 24 = .ok (.ireturn, 1) := by decide +kernel
set_option maxRecDepth 100000 in
theorem ggL_count_X8_count : GoodIn wsL_count wsX8_count := goodIn_ca (goodIn_r _ [6, 7, 8, 9, 10, 11, 12, 5, 13, 14, 15, 16, 17, 18, 19, 20, 21, 22, 23, 24, 25, 26, 27, 28, 29, 30, 31, 32, 33, 34, 35, 36, 37, 38, 39, 40, 41, 42, 43, 44, 45, 46, 47, 48, 49, 50, 51, 52, 53, 54, 55, 56, 57, 58, 59, 60, 61, 62, 63, 64, 65, 66, 67, 68, 69, 70, 71, 72, 73, 74, 75, 76, 77, 78, 79, 80, 81, 82, 83, 84, 85, 86, 87, 88, 89, 90, 91, 92, 93, 94, 95, 96, 97, 98, 99, 100, 101, 102, 103, 104, 105, 106, 107, 108, 109, 110, 111, 112, 113, 114, 115, 116, 117, 118, 119, 120, 121, 122, 123, 124, 125, 126, 127, 128, 129, 130, 131, 132, 133, 134, 135, 136, 137, 138, 139, 140, 141, 142, 143, 144, 145, 146, 147, 148, 149, 150, 151, 152, 153, 154, 155, 156, 157, 158, 159, 160, 161, 162, 163, 164, 165, 166, 167, 168, 169, 170, 171, 172, 173, 174, 175, 176, 177, 178, 179, 180, 181, 182, 183, 184, 185, 186] rfl (by decide +kernel)) (goodIn_sub (fun _ h => List.mem_cons_of_mem _ (List.mem_append_right _ h)) (by decide +kernel))
set_option maxRecDepth 20000 in
theorem gL_count_X8_count : GoodIn wsL_count (wsV RL 79 RX8 yX8_count wsX8_count) := goodIn_app (goodIn_of _ (by decide +kernel)) ggL_count_X8_count
theorem dL_count_0 : decode cL_count 0 = .ok (.aload_n 2, 1) := by decide +kernel
theorem dL_count_1 : decode cL_count 1 = .ok (.iconst 0, 1) := by decide +kernel
theorem dL_count_2 : decode cL_count 2 = .ok (.aload_n 0, 1) := by decide +kernel
theorem dL_count_3 : decode cL_count 3 = .ok (.iload_n 1, 1) := by decide +kernel
theorem dL_count_4 : decode cL_count 4 = .ok (.invokevirtual 79, 3) := by decide +kernel
theorem dL_count_7 : decode cL_count 7 = .ok (.i2l, 1) := by decide +kernel
theorem dL_count_8 : decode cL_count 8 = .ok (.lastore, 1) := by decide +kernel
theorem dL_count_9 : decode cL_count 9 = .ok (.goto 6, 3) := by decide +kernel
theorem dL_count_12 : decode cL_count 12 = .ok (.astore_n 3, 1) := by decide +kernel
theorem dL_count_13 : decode cL_count 13 = .ok (.iconst 1, 1) := by decide +kernel
theorem dL_count_14 : decode cL_count 14 = .ok (.ireturn, 1) := by decide +kernel
theorem dL_count_15 : decode cL_count 15 = .ok (.iconst 0, 1) := by decide +kernel
theorem dL_count_16 : decode cL_count 16 = .ok (.ireturn, 1) := by decide +kernel
set_option maxRecDepth 100000 in
theorem ggL_alike_X8_alike : GoodIn wsL_alike wsX8_alike := goodIn_ca (goodIn_ca (goodIn_r _ [7, 8, 9, 10, 11, 12, 6, 13, 14, 15, 16, 17, 18, 19, 20, 21, 22, 23, 24, 25, 26, 27, 28, 29, 30, 31, 32, 33, 34, 35, 36, 37, 38, 39, 40, 41, 42, 43, 44, 45, 46, 47, 48, 49, 50, 51, 52, 53, 54, 55, 56, 57, 58, 59, 60, 61, 62, 63, 64, 65, 66, 67, 68, 69, 70, 71, 72, 73, 74, 75, 76, 77, 78, 79, 80, 81, 82, 83, 84, 85, 86, 87, 88, 89, 90, 91, 92, 93, 94, 95, 96, 97, 98, 99, 100, 101, 102, 103, 104, 105, 106, 107, 108, 109, 110, 111, 112, 113, 114, 115, 116, 117, 118, 119, 120, 121, 122, 123, 124, 125, 126, 127, 128, 129, 130, 131, 132, 133, 134, 135, 136, 137, 138, 139, 140, 141, 142, 143, 144, 145, 146, 147, 148, 149, 150, 151, 152, 153, 154, 155, 156, 157, 158, 159, 160, 161, 162, 163, 164, 165, 166, 167, 168, 169, 170, 171, 172, 173, 174, 175, 176, 177, 178, 179, 180, 181, 182, 183, 184, 185, 186, 187, 188, 189, 190, 191, 192, 193, 194, 195, 196, 197, 198, 199, 200, 201, 202, 203, 204, 205, 206, 207, 208, 209, 210, 211, 212, 213, 214, 215, 216, 217, 218, 219, 220, 221, 222, 223] rfl (by decide +kernel)) (goodIn_sub (fun _ h => List.mem_cons_of_mem _ (List.mem_append_left _ (List.mem_append_right _ h))) (by decide +kernel))) (goodIn_sub (fun _ h => List.mem_cons_of_mem _ (List.mem_append_right _ h)) (by decide +kernel))
set_option maxRecDepth 20000 in
theorem gL_alike_X8_alike : GoodIn wsL_alike (wsV RL 82 RX8 yX8_alike wsX8_alike) := goodIn_app (goodIn_of _ (by decide +kernel)) ggL_alike_X8_alike
theorem dL_alike_0 : decode cL_alike 0 = .ok (.aload_n 3, 1) := by decide +kernel
theorem dL_alike_1 : decode cL_alike 1 = .ok (.iconst 0, 1) := by decide +kernel
theorem dL_alike_2 : decode cL_alike 2 = .ok (.aload_n 0, 1) := by decide +kernel
theorem dL_alike_3 : decode cL_alike 3 = .ok (.iload_n 1, 1) := by decide +kernel
theorem dL_alike_4 : decode cL_alike 4 = .ok (.iload_n 2, 1) := by decide +kernel
theorem dL_alike_5 : decode cL_alike 5 = .ok (.invokevirtual 82, 3) := by decide +kernel
theorem dL_alike_8 : decode cL_alike 8 = .ok (.i2l, 1) := by decide +kernel
theorem dL_alike_9 : decode cL_alike 9 = .ok (.lastore, 1) := by decide +kernel
theorem dL_alike_10 : decode cL_alike 10 = .ok (.goto 11, 3) := by decide +kernel
theorem dL_alike_13 : decode cL_alike 13 = .ok (.astore 4, 2) := by decide +kernel
theorem dL_alike_15 : decode cL_alike 15 = .ok (.iconst 1, 1) := by decide +kernel
theorem dL_alike_16 : decode cL_alike 16 = .ok (.ireturn, 1) := by decide +kernel
theorem dL_alike_17 : decode cL_alike 17 = .ok (.astore 4, 2) := by decide +kernel
theorem dL_alike_19 : decode cL_alike 19 = .ok (.iconst 2, 1) := by decide +kernel
theorem dL_alike_20 : decode cL_alike 20 = .ok (.ireturn, 1) := by decide +kernel
theorem dL_alike_21 : decode cL_alike 21 = .ok (.iconst 0, 1) := by decide +kernel
theorem dL_alike_22 : decode cL_alike 22 = .ok (.ireturn, 1) := by decide +kernel
set_option maxRecDepth 100000 in
theorem ggL_together_X8_together : GoodIn wsL_together wsX8_together := goodIn_ca (goodIn_ca (goodIn_r _ [7, 8, 9, 10, 11, 12, 6, 13, 14, 15, 16, 17, 18, 19, 20, 21, 22, 23, 24, 25, 26, 27, 28, 29, 30, 31, 32, 33, 34, 35, 36, 37, 38, 39, 40, 41, 42, 43, 44, 45, 46, 47, 48, 49, 50, 51, 52, 53, 54, 55, 56, 57, 58, 59, 60, 61, 62, 63, 64, 65, 66, 67, 68, 69, 70, 71, 72, 73, 74, 75, 76, 77, 78, 79, 80, 81, 82, 83, 84, 85, 86, 87, 88, 89, 90, 91, 92, 93, 94, 95, 96, 97, 98, 99, 100, 101, 102, 103, 104, 105, 106, 107, 108, 109, 110, 111, 112, 113, 114, 115, 116, 117, 118, 119, 120, 121, 122, 123, 124, 125, 126, 127, 128, 129, 130, 131, 132, 133, 134, 135, 136, 137, 138, 139, 140, 141, 142, 143, 144, 145, 146, 147, 148, 149, 150, 151, 152, 153, 154, 155, 156, 157, 158, 159, 160, 161, 162, 163, 164, 165, 166, 167, 168, 169, 170, 171, 172, 173, 174, 175, 176, 177, 178, 179, 180, 181, 182, 183, 184, 185, 186, 187, 188, 189, 190, 191, 192, 193, 194, 195, 196, 197, 198, 199, 200, 201, 202, 203, 204, 205, 206, 207, 208, 209, 210, 211, 212, 213, 214, 215, 216, 217, 218, 219, 220, 221, 222, 223, 224, 225, 226, 227, 228, 229, 230] rfl (by decide +kernel)) (goodIn_sub (fun _ h => List.mem_cons_of_mem _ (List.mem_append_left _ (List.mem_append_right _ h))) (by decide +kernel))) (goodIn_sub (fun _ h => List.mem_cons_of_mem _ (List.mem_append_right _ h)) (by decide +kernel))
set_option maxRecDepth 20000 in
theorem gL_together_X8_together : GoodIn wsL_together (wsV RL 85 RX8 yX8_together wsX8_together) := goodIn_app (goodIn_of _ (by decide +kernel)) ggL_together_X8_together
theorem dL_together_0 : decode cL_together 0 = .ok (.aload_n 3, 1) := by decide +kernel
theorem dL_together_1 : decode cL_together 1 = .ok (.iconst 0, 1) := by decide +kernel
theorem dL_together_2 : decode cL_together 2 = .ok (.aload_n 0, 1) := by decide +kernel
theorem dL_together_3 : decode cL_together 3 = .ok (.iload_n 1, 1) := by decide +kernel
theorem dL_together_4 : decode cL_together 4 = .ok (.iload_n 2, 1) := by decide +kernel
theorem dL_together_5 : decode cL_together 5 = .ok (.invokevirtual 85, 3) := by decide +kernel
theorem dL_together_8 : decode cL_together 8 = .ok (.i2l, 1) := by decide +kernel
theorem dL_together_9 : decode cL_together 9 = .ok (.lastore, 1) := by decide +kernel
theorem dL_together_10 : decode cL_together 10 = .ok (.goto 11, 3) := by decide +kernel
theorem dL_together_13 : decode cL_together 13 = .ok (.astore 4, 2) := by decide +kernel
theorem dL_together_15 : decode cL_together 15 = .ok (.iconst 1, 1) := by decide +kernel
theorem dL_together_16 : decode cL_together 16 = .ok (.ireturn, 1) := by decide +kernel
theorem dL_together_17 : decode cL_together 17 = .ok (.astore 4, 2) := by decide +kernel
theorem dL_together_19 : decode cL_together 19 = .ok (.iconst 2, 1) := by decide +kernel
theorem dL_together_20 : decode cL_together 20 = .ok (.ireturn, 1) := by decide +kernel
theorem dL_together_21 : decode cL_together 21 = .ok (.iconst 0, 1) := by decide +kernel
theorem dL_together_22 : decode cL_together 22 = .ok (.ireturn, 1) := by decide +kernel
set_option maxRecDepth 100000 in
theorem ggL_legsIn_X8_legsIn : GoodIn wsL_legsIn wsX8_legsIn := goodIn_ca (goodIn_r _ [6, 7, 8, 9, 5, 10, 11, 12, 13, 14, 15, 16, 17, 18, 19, 20, 21, 22, 23, 24, 25, 26, 27, 28, 29, 30, 31, 32, 33, 34, 35, 36, 37, 38, 39, 40, 41, 42, 43, 44, 45, 46, 47, 48, 49, 50, 51, 52, 53, 54, 55, 56, 57, 58, 59, 60, 61, 62, 63, 64, 65, 66, 67, 68, 69, 70, 71, 72, 73, 74, 75, 76, 77, 78, 79, 80, 81, 82, 83, 84, 85, 86, 87, 88, 89, 90, 91, 92, 93, 94, 95, 96, 97, 98, 99, 100, 101, 102, 103, 104, 105, 106, 107, 108, 109, 110, 111, 112, 113, 114, 115, 116, 117, 118, 119, 120, 121, 122, 123, 124, 125, 126, 127, 128, 129, 130, 131, 132, 133, 134, 135, 136, 137, 138, 139, 140, 141, 142, 143, 144, 145, 146, 147, 148, 149, 150, 151, 152, 153, 154, 155, 156, 157, 158, 159, 160, 161, 162, 163, 164, 165, 166, 167, 168, 169, 170, 171, 172, 173, 174, 175, 176, 177, 178, 179, 180, 181, 182, 183, 184, 185, 186, 187, 188, 189, 190, 191, 192, 193, 194, 195, 196, 197, 198, 199, 200, 201, 202, 203, 204, 205, 206, 207, 208, 209, 210, 211, 212, 213, 214, 215, 216, 217, 218, 219, 220, 221] rfl (by decide +kernel)) (goodIn_sub (fun _ h => List.mem_cons_of_mem _ (List.mem_append_right _ h)) (by decide +kernel))
set_option maxRecDepth 20000 in
theorem gL_legsIn_X8_legsIn : GoodIn wsL_legsIn (wsV RL 88 RX8 yX8_legsIn wsX8_legsIn) := goodIn_app (goodIn_of _ (by decide +kernel)) ggL_legsIn_X8_legsIn
theorem dL_legsIn_0 : decode cL_legsIn 0 = .ok (.aload_n 2, 1) := by decide +kernel
theorem dL_legsIn_1 : decode cL_legsIn 1 = .ok (.iconst 0, 1) := by decide +kernel
theorem dL_legsIn_2 : decode cL_legsIn 2 = .ok (.aload_n 0, 1) := by decide +kernel
theorem dL_legsIn_3 : decode cL_legsIn 3 = .ok (.iload_n 1, 1) := by decide +kernel
theorem dL_legsIn_4 : decode cL_legsIn 4 = .ok (.invokevirtual 88, 3) := by decide +kernel
theorem dL_legsIn_7 : decode cL_legsIn 7 = .ok (.i2l, 1) := by decide +kernel
theorem dL_legsIn_8 : decode cL_legsIn 8 = .ok (.lastore, 1) := by decide +kernel
theorem dL_legsIn_9 : decode cL_legsIn 9 = .ok (.goto 6, 3) := by decide +kernel
theorem dL_legsIn_12 : decode cL_legsIn 12 = .ok (.astore_n 3, 1) := by decide +kernel
theorem dL_legsIn_13 : decode cL_legsIn 13 = .ok (.iconst 1, 1) := by decide +kernel
theorem dL_legsIn_14 : decode cL_legsIn 14 = .ok (.ireturn, 1) := by decide +kernel
theorem dL_legsIn_15 : decode cL_legsIn 15 = .ok (.iconst 0, 1) := by decide +kernel
theorem dL_legsIn_16 : decode cL_legsIn 16 = .ok (.ireturn, 1) := by decide +kernel
set_option maxRecDepth 100000 in
theorem ggL_share_X8_share : GoodIn wsL_share wsX8_share := goodIn_ca (goodIn_r _ [6, 7, 8, 9, 10, 11, 12, 5, 13, 14, 15, 16, 17, 18, 19, 20, 21, 22, 23, 24, 25, 26, 27, 28, 29, 30, 31, 32, 33, 34, 35, 36, 37, 38, 39, 40, 41, 42, 43, 44, 45, 46, 47, 48, 49, 50, 51, 52, 53, 54, 55, 56, 57, 58, 59, 60, 61, 62, 63, 64, 65, 66, 67, 68, 69, 70, 71, 72, 73, 74, 75, 76, 77, 78, 79, 80, 81, 82, 83, 84, 85, 86, 87, 88, 89, 90, 91, 92, 93, 94, 95, 96, 97, 98, 99, 100, 101, 102, 103, 104, 105, 106, 107, 108, 109, 110, 111, 112, 113, 114, 115, 116, 117, 118, 119, 120, 121, 122, 123, 124, 125, 126, 127, 128, 129, 130, 131, 132, 133, 134, 135, 136, 137, 138, 139, 140, 141, 142, 143, 144, 145, 146, 147, 148, 149, 150, 151, 152, 153, 154, 155, 156, 157, 158, 159, 160, 161, 162, 163, 164, 165, 166, 167, 168, 169, 170, 171, 172, 173, 174, 175, 176, 177, 178, 179, 180, 181, 182, 183, 184, 185, 186, 187, 188] rfl (by decide +kernel)) (goodIn_sub (fun _ h => List.mem_cons_of_mem _ (List.mem_append_right _ h)) (by decide +kernel))
set_option maxRecDepth 20000 in
theorem gL_share_X8_share : GoodIn wsL_share (wsV RL 91 RX8 yX8_share wsX8_share) := goodIn_app (goodIn_of _ (by decide +kernel)) ggL_share_X8_share
theorem dL_share_0 : decode cL_share 0 = .ok (.aload_n 2, 1) := by decide +kernel
theorem dL_share_1 : decode cL_share 1 = .ok (.iconst 0, 1) := by decide +kernel
theorem dL_share_2 : decode cL_share 2 = .ok (.aload_n 0, 1) := by decide +kernel
theorem dL_share_3 : decode cL_share 3 = .ok (.iload_n 1, 1) := by decide +kernel
theorem dL_share_4 : decode cL_share 4 = .ok (.invokevirtual 91, 3) := by decide +kernel
theorem dL_share_7 : decode cL_share 7 = .ok (.f2d, 1) := by decide +kernel
theorem dL_share_8 : decode cL_share 8 = .ok (.dastore, 1) := by decide +kernel
theorem dL_share_9 : decode cL_share 9 = .ok (.goto 6, 3) := by decide +kernel
theorem dL_share_12 : decode cL_share 12 = .ok (.astore_n 3, 1) := by decide +kernel
theorem dL_share_13 : decode cL_share 13 = .ok (.iconst 1, 1) := by decide +kernel
theorem dL_share_14 : decode cL_share 14 = .ok (.ireturn, 1) := by decide +kernel
theorem dL_share_15 : decode cL_share 15 = .ok (.iconst 0, 1) := by decide +kernel
theorem dL_share_16 : decode cL_share 16 = .ok (.ireturn, 1) := by decide +kernel
set_option maxRecDepth 100000 in
theorem ggL_endIf_X8_endIf : GoodIn wsL_endIf wsX8_endIf := goodIn_ca (goodIn_ca (goodIn_r _ [7, 8, 9, 10, 11, 12, 13, 14, 6, 15, 16, 17, 18, 19, 20, 21, 22, 23, 24, 25, 26, 27, 28, 29, 30, 31, 32, 33, 34, 35, 36, 37, 38, 39, 40, 41, 42, 43, 44, 45, 46, 47, 48, 49, 50, 51, 52, 53, 54, 55, 56, 57, 58, 59, 60, 61, 62, 63, 64, 65, 66, 67, 68, 69, 70, 71, 72, 73, 74, 75, 76, 77, 78, 79, 80, 81, 82, 83, 84, 85, 86, 87, 88, 89, 90, 91, 92, 93, 94, 95, 96, 97, 98, 99, 100, 101, 102, 103, 104, 105, 106, 107, 108, 109, 110, 111, 112, 113, 114, 115, 116, 117, 118, 119, 120, 121, 122, 123, 124, 125, 126, 127, 128, 129, 130, 131, 132, 133, 134, 135, 136, 137, 138, 139, 140, 141, 142, 143, 144, 145, 146, 147, 148, 149, 150, 151, 152, 153, 154, 155, 156, 157, 158, 159, 160, 161, 162, 163, 164, 165, 166, 167, 168, 169, 170, 171, 172, 173, 174, 175, 176, 177, 178, 179, 180, 181, 182, 183, 184, 185, 186, 187, 188, 189, 190, 191, 192, 193, 194, 195, 196, 197, 198, 199, 200, 201, 202, 203, 204, 205, 206, 207, 208, 209, 210, 211, 212, 213, 214, 215, 216, 217, 218, 219, 220, 221, 222, 223] rfl (by decide +kernel)) (goodIn_sub (fun _ h => List.mem_cons_of_mem _ (List.mem_append_left _ (List.mem_append_right _ h))) (by decide +kernel))) (goodIn_sub (fun _ h => List.mem_cons_of_mem _ (List.mem_append_right _ h)) (by decide +kernel))
set_option maxRecDepth 20000 in
theorem gL_endIf_X8_endIf : GoodIn wsL_endIf (wsV RL 95 RX8 yX8_endIf wsX8_endIf) := goodIn_app (goodIn_of _ (by decide +kernel)) ggL_endIf_X8_endIf
theorem dL_endIf_0 : decode cL_endIf 0 = .ok (.aload 4, 2) := by decide +kernel
theorem dL_endIf_2 : decode cL_endIf 2 = .ok (.iconst 0, 1) := by decide +kernel
theorem dL_endIf_3 : decode cL_endIf 3 = .ok (.aload_n 0, 1) := by decide +kernel
theorem dL_endIf_4 : decode cL_endIf 4 = .ok (.iload_n 1, 1) := by decide +kernel
theorem dL_endIf_5 : decode cL_endIf 5 = .ok (.iload_n 2, 1) := by decide +kernel
theorem dL_endIf_6 : decode cL_endIf 6 = .ok (.iload_n 3, 1) := by decide +kernel
theorem dL_endIf_7 : decode cL_endIf 7 = .ok (.invokevirtual 95, 3) := by decide +kernel
theorem dL_endIf_10 : decode cL_endIf 10 = .ok (.i2l, 1) := by decide +kernel
theorem dL_endIf_11 : decode cL_endIf 11 = .ok (.lastore, 1) := by decide +kernel
theorem dL_endIf_12 : decode cL_endIf 12 = .ok (.goto 11, 3) := by decide +kernel
theorem dL_endIf_15 : decode cL_endIf 15 = .ok (.astore 5, 2) := by decide +kernel
theorem dL_endIf_17 : decode cL_endIf 17 = .ok (.iconst 1, 1) := by decide +kernel
theorem dL_endIf_18 : decode cL_endIf 18 = .ok (.ireturn, 1) := by decide +kernel
theorem dL_endIf_19 : decode cL_endIf 19 = .ok (.astore 5, 2) := by decide +kernel
theorem dL_endIf_21 : decode cL_endIf 21 = .ok (.iconst 2, 1) := by decide +kernel
theorem dL_endIf_22 : decode cL_endIf 22 = .ok (.ireturn, 1) := by decide +kernel
theorem dL_endIf_23 : decode cL_endIf 23 = .ok (.iconst 0, 1) := by decide +kernel
theorem dL_endIf_24 : decode cL_endIf 24 = .ok (.ireturn, 1) := by decide +kernel
set_option maxRecDepth 100000 in
theorem ggL_bestWithout_X8_bestWithout : GoodIn wsL_bestWithout wsX8_bestWithout := goodIn_ca (goodIn_r _ [6, 7, 8, 9, 10, 11, 12, 13, 14, 5, 15, 16, 17, 18, 19, 20, 21, 22, 23, 24, 25, 26, 27, 28, 29, 30, 31, 32, 33, 34, 35, 36, 37, 38, 39, 40, 41, 42, 43, 44, 45, 46, 47, 48, 49, 50, 51, 52, 53, 54, 55, 56, 57, 58, 59, 60, 61, 62, 63, 64, 65, 66, 67, 68, 69, 70, 71, 72, 73, 74, 75, 76, 77, 78, 79, 80, 81, 82, 83, 84, 85, 86, 87, 88, 89, 90, 91, 92, 93, 94, 95, 96, 97, 98, 99, 100, 101, 102, 103, 104, 105, 106, 107, 108, 109, 110, 111, 112, 113, 114, 115, 116, 117, 118, 119, 120, 121, 122, 123, 124, 125, 126, 127, 128, 129, 130, 131, 132, 133, 134, 135, 136, 137, 138, 139, 140, 141, 142, 143, 144, 145, 146, 147, 148, 149, 150, 151, 152, 153, 154, 155, 156, 157, 158, 159, 160, 161, 162, 163, 164, 165, 166, 167, 168, 169, 170, 171, 172, 173, 174, 175, 176, 177, 178, 179, 180, 181, 182, 183, 184, 185, 186, 187, 188, 189, 190, 191, 192, 193, 194, 195, 196, 197, 198, 199, 200, 201, 202, 203, 204, 205, 206, 207, 208, 209, 210, 211, 212, 213, 214, 215, 216, 217, 218, 219, 220, 221, 222, 223] rfl (by decide +kernel)) (goodIn_sub (fun _ h => List.mem_cons_of_mem _ (List.mem_append_right _ h)) (by decide +kernel))
set_option maxRecDepth 20000 in
theorem gL_bestWithout_X8_bestWithout : GoodIn wsL_bestWithout (wsV RL 98 RX8 yX8_bestWithout wsX8_bestWithout) := goodIn_app (goodIn_of _ (by decide +kernel)) ggL_bestWithout_X8_bestWithout
theorem dL_bestWithout_0 : decode cL_bestWithout 0 = .ok (.aload_n 2, 1) := by decide +kernel
theorem dL_bestWithout_1 : decode cL_bestWithout 1 = .ok (.iconst 0, 1) := by decide +kernel
theorem dL_bestWithout_2 : decode cL_bestWithout 2 = .ok (.aload_n 0, 1) := by decide +kernel
theorem dL_bestWithout_3 : decode cL_bestWithout 3 = .ok (.iload_n 1, 1) := by decide +kernel
theorem dL_bestWithout_4 : decode cL_bestWithout 4 = .ok (.invokevirtual 98, 3) := by decide +kernel
theorem dL_bestWithout_7 : decode cL_bestWithout 7 = .ok (.i2l, 1) := by decide +kernel
theorem dL_bestWithout_8 : decode cL_bestWithout 8 = .ok (.lastore, 1) := by decide +kernel
theorem dL_bestWithout_9 : decode cL_bestWithout 9 = .ok (.goto 6, 3) := by decide +kernel
theorem dL_bestWithout_12 : decode cL_bestWithout 12 = .ok (.astore_n 3, 1) := by decide +kernel
theorem dL_bestWithout_13 : decode cL_bestWithout 13 = .ok (.iconst 1, 1) := by decide +kernel
theorem dL_bestWithout_14 : decode cL_bestWithout 14 = .ok (.ireturn, 1) := by decide +kernel
theorem dL_bestWithout_15 : decode cL_bestWithout 15 = .ok (.iconst 0, 1) := by decide +kernel
theorem dL_bestWithout_16 : decode cL_bestWithout 16 = .ok (.ireturn, 1) := by decide +kernel
set_option maxRecDepth 100000 in
theorem ggL_addLayer_X8_addLayer : GoodIn wsL_addLayer wsX8_addLayer := goodIn_ca (goodIn_ca (goodIn_ca (goodIn_r _ [8, 9, 10, 11, 12, 13, 14, 15, 16, 17, 18, 7, 19, 20, 21, 22, 23, 24, 25, 26, 27, 28, 29, 30, 31, 32, 33, 34, 35, 36, 37, 38, 39, 40, 41, 42, 43, 44, 45, 46, 47, 48, 49, 50, 51, 52, 53, 54, 55, 56, 57, 58, 59, 60, 61, 62, 63, 64, 65, 66, 67, 68, 69, 70, 71, 72, 73, 74, 75, 76, 77, 78, 79, 80, 81, 82, 83, 84, 85, 86, 87, 88, 89, 90, 91, 92, 93, 94, 95, 96, 97, 98, 99, 100, 101, 102, 103, 104, 105, 106, 107, 108, 109, 110, 111, 112, 113] rfl (by decide +kernel)) (goodIn_sub (fun _ h => List.mem_cons_of_mem _ (List.mem_append_left _ (List.mem_append_left _ (List.mem_append_right _ h)))) (by decide +kernel))) (goodIn_sub (fun _ h => List.mem_cons_of_mem _ (List.mem_append_left _ (List.mem_append_right _ h))) (by decide +kernel))) (goodIn_sub (fun _ h => List.mem_cons_of_mem _ (List.mem_append_right _ h)) (by decide +kernel))
set_option maxRecDepth 20000 in
theorem gL_addLayer_X8_addLayer : GoodIn wsL_addLayer (wsV RL 101 RX8 yX8_addLayer wsX8_addLayer) := goodIn_app (goodIn_of _ (by decide +kernel)) ggL_addLayer_X8_addLayer
theorem dL_addLayer_0 : decode cL_addLayer 0 = .ok (.aload 5, 2) := by decide +kernel
theorem dL_addLayer_2 : decode cL_addLayer 2 = .ok (.iconst 0, 1) := by decide +kernel
theorem dL_addLayer_3 : decode cL_addLayer 3 = .ok (.aload_n 0, 1) := by decide +kernel
theorem dL_addLayer_4 : decode cL_addLayer 4 = .ok (.iload_n 1, 1) := by decide +kernel
theorem dL_addLayer_5 : decode cL_addLayer 5 = .ok (.iload_n 2, 1) := by decide +kernel
theorem dL_addLayer_6 : decode cL_addLayer 6 = .ok (.iload_n 3, 1) := by decide +kernel
theorem dL_addLayer_7 : decode cL_addLayer 7 = .ok (.iload 4, 2) := by decide +kernel
theorem dL_addLayer_9 : decode cL_addLayer 9 = .ok (.invokevirtual 101, 3) := by decide +kernel
theorem dL_addLayer_12 : decode cL_addLayer 12 = .ok (.i2l, 1) := by decide +kernel
theorem dL_addLayer_13 : decode cL_addLayer 13 = .ok (.lastore, 1) := by decide +kernel
theorem dL_addLayer_14 : decode cL_addLayer 14 = .ok (.goto 15, 3) := by decide +kernel
theorem dL_addLayer_17 : decode cL_addLayer 17 = .ok (.astore 6, 2) := by decide +kernel
theorem dL_addLayer_19 : decode cL_addLayer 19 = .ok (.iconst 1, 1) := by decide +kernel
theorem dL_addLayer_20 : decode cL_addLayer 20 = .ok (.ireturn, 1) := by decide +kernel
theorem dL_addLayer_21 : decode cL_addLayer 21 = .ok (.astore 6, 2) := by decide +kernel
theorem dL_addLayer_23 : decode cL_addLayer 23 = .ok (.iconst 2, 1) := by decide +kernel
theorem dL_addLayer_24 : decode cL_addLayer 24 = .ok (.ireturn, 1) := by decide +kernel
theorem dL_addLayer_25 : decode cL_addLayer 25 = .ok (.astore 6, 2) := by decide +kernel
theorem dL_addLayer_27 : decode cL_addLayer 27 = .ok (.iconst 3, 1) := by decide +kernel
theorem dL_addLayer_28 : decode cL_addLayer 28 = .ok (.ireturn, 1) := by decide +kernel
theorem dL_addLayer_29 : decode cL_addLayer 29 = .ok (.iconst 0, 1) := by decide +kernel
theorem dL_addLayer_30 : decode cL_addLayer 30 = .ok (.ireturn, 1) := by decide +kernel
set_option maxRecDepth 100000 in
theorem ggL_removeLayer_X8_removeLayer : GoodIn wsL_removeLayer wsX8_removeLayer := goodIn_ca (goodIn_ca (goodIn_r _ [7, 8, 9, 10, 11, 12, 13, 14, 15, 16, 6, 17, 18, 19, 20, 21, 22, 23, 24, 25, 26, 27, 28, 29, 30, 31, 32, 33, 34, 35, 36, 37, 38, 39, 40, 41, 42, 43, 44, 45, 46, 47, 48, 49, 50, 51, 52, 53, 54, 55, 56, 57, 58, 59, 60, 61, 62, 63, 64, 65, 66, 67, 68, 69, 70, 71, 72, 73, 74, 75, 76, 77, 78, 79, 80, 81, 82, 83, 84, 85, 86, 87, 88, 89, 90, 91, 92, 93, 94, 95, 96, 97, 98, 99, 100, 101, 102, 103, 104, 105, 106, 107, 108, 109, 110, 111, 112, 113, 114, 115] rfl (by decide +kernel)) (goodIn_sub (fun _ h => List.mem_cons_of_mem _ (List.mem_append_left _ (List.mem_append_right _ h))) (by decide +kernel))) (goodIn_sub (fun _ h => List.mem_cons_of_mem _ (List.mem_append_right _ h)) (by decide +kernel))
set_option maxRecDepth 20000 in
theorem gL_removeLayer_X8_removeLayer : GoodIn wsL_removeLayer (wsV RL 105 RX8 yX8_removeLayer wsX8_removeLayer) := goodIn_app (goodIn_of _ (by decide +kernel)) ggL_removeLayer_X8_removeLayer
theorem dL_removeLayer_0 : decode cL_removeLayer 0 = .ok (.aload_n 2, 1) := by decide +kernel
theorem dL_removeLayer_1 : decode cL_removeLayer 1 = .ok (.iconst 0, 1) := by decide +kernel
theorem dL_removeLayer_2 : decode cL_removeLayer 2 = .ok (.aload_n 0, 1) := by decide +kernel
theorem dL_removeLayer_3 : decode cL_removeLayer 3 = .ok (.iload_n 1, 1) := by decide +kernel
theorem dL_removeLayer_4 : decode cL_removeLayer 4 = .ok (.invokevirtual 105, 3) := by decide +kernel
theorem dL_removeLayer_7 : decode cL_removeLayer 7 = .ok (.i2l, 1) := by decide +kernel
theorem dL_removeLayer_8 : decode cL_removeLayer 8 = .ok (.lastore, 1) := by decide +kernel
theorem dL_removeLayer_9 : decode cL_removeLayer 9 = .ok (.goto 9, 3) := by decide +kernel
theorem dL_removeLayer_12 : decode cL_removeLayer 12 = .ok (.astore_n 3, 1) := by decide +kernel
theorem dL_removeLayer_13 : decode cL_removeLayer 13 = .ok (.iconst 1, 1) := by decide +kernel
theorem dL_removeLayer_14 : decode cL_removeLayer 14 = .ok (.ireturn, 1) := by decide +kernel
theorem dL_removeLayer_15 : decode cL_removeLayer 15 = .ok (.astore_n 3, 1) := by decide +kernel
theorem dL_removeLayer_16 : decode cL_removeLayer 16 = .ok (.iconst 2, 1) := by decide +kernel
theorem dL_removeLayer_17 : decode cL_removeLayer 17 = .ok (.ireturn, 1) := by decide +kernel
theorem dL_removeLayer_18 : decode cL_removeLayer 18 = .ok (.iconst 0, 1) := by decide +kernel
theorem dL_removeLayer_19 : decode cL_removeLayer 19 = .ok (.ireturn, 1) := by decide +kernel
set_option maxRecDepth 100000 in
theorem ggL_setLayer_X8_setLayer : GoodIn wsL_setLayer wsX8_setLayer := goodIn_ca (goodIn_ca (goodIn_r _ [7, 8, 9, 10, 11, 12, 13, 6, 14, 15, 16, 17, 18, 19, 20, 21, 22, 23, 24, 25, 26, 27, 28, 29, 30, 31, 32, 33, 34, 35, 36, 37, 38, 39, 40, 41, 42, 43, 44, 45, 46, 47, 48, 49, 50, 51, 52, 53, 54, 55, 56, 57, 58, 59, 60, 61, 62, 63, 64, 65, 66, 67, 68, 69, 70, 71, 72, 73, 74, 75, 76, 77, 78, 79, 80, 81, 82, 83, 84, 85, 86, 87, 88, 89, 90, 91, 92, 93, 94, 95, 96, 97, 98, 99, 100, 101, 102, 103, 104, 105, 106, 107, 108, 109, 110, 111, 112] rfl (by decide +kernel)) (goodIn_sub (fun _ h => List.mem_cons_of_mem _ (List.mem_append_left _ (List.mem_append_right _ h))) (by decide +kernel))) (goodIn_sub (fun _ h => List.mem_cons_of_mem _ (List.mem_append_right _ h)) (by decide +kernel))
set_option maxRecDepth 20000 in
theorem gL_setLayer_X8_setLayer : GoodIn wsL_setLayer (wsV RL 108 RX8 yX8_setLayer wsX8_setLayer) := goodIn_app (goodIn_of _ (by decide +kernel)) ggL_setLayer_X8_setLayer
theorem dL_setLayer_0 : decode cL_setLayer 0 = .ok (.aload 4, 2) := by decide +kernel
theorem dL_setLayer_2 : decode cL_setLayer 2 = .ok (.iconst 0, 1) := by decide +kernel
theorem dL_setLayer_3 : decode cL_setLayer 3 = .ok (.aload_n 0, 1) := by decide +kernel
theorem dL_setLayer_4 : decode cL_setLayer 4 = .ok (.iload_n 1, 1) := by decide +kernel
theorem dL_setLayer_5 : decode cL_setLayer 5 = .ok (.iload_n 2, 1) := by decide +kernel
theorem dL_setLayer_6 : decode cL_setLayer 6 = .ok (.iload_n 3, 1) := by decide +kernel
theorem dL_setLayer_7 : decode cL_setLayer 7 = .ok (.invokevirtual 108, 3) := by decide +kernel
theorem dL_setLayer_10 : decode cL_setLayer 10 = .ok (.i2l, 1) := by decide +kernel
theorem dL_setLayer_11 : decode cL_setLayer 11 = .ok (.lastore, 1) := by decide +kernel
theorem dL_setLayer_12 : decode cL_setLayer 12 = .ok (.goto 11, 3) := by decide +kernel
theorem dL_setLayer_15 : decode cL_setLayer 15 = .ok (.astore 5, 2) := by decide +kernel
theorem dL_setLayer_17 : decode cL_setLayer 17 = .ok (.iconst 1, 1) := by decide +kernel
theorem dL_setLayer_18 : decode cL_setLayer 18 = .ok (.ireturn, 1) := by decide +kernel
theorem dL_setLayer_19 : decode cL_setLayer 19 = .ok (.astore 5, 2) := by decide +kernel
theorem dL_setLayer_21 : decode cL_setLayer 21 = .ok (.iconst 2, 1) := by decide +kernel
theorem dL_setLayer_22 : decode cL_setLayer 22 = .ok (.ireturn, 1) := by decide +kernel
theorem dL_setLayer_23 : decode cL_setLayer 23 = .ok (.iconst 0, 1) := by decide +kernel
theorem dL_setLayer_24 : decode cL_setLayer 24 = .ok (.ireturn, 1) := by decide +kernel
set_option maxRecDepth 100000 in
theorem ggL_swapLayers_X8_swapLayers : GoodIn wsL_swapLayers wsX8_swapLayers := goodIn_ca (goodIn_ca (goodIn_r _ [7, 8, 9, 10, 11, 12, 13, 14, 15, 16, 17, 18, 19, 6, 20, 21, 22, 23, 24, 25, 26, 27, 28, 29, 30, 31, 32, 33, 34, 35, 36, 37, 38, 39, 40, 41, 42, 43, 44, 45, 46, 47, 48, 49, 50, 51, 52, 53, 54, 55, 56, 57, 58, 59, 60, 61, 62, 63, 64, 65, 66, 67, 68, 69, 70, 71, 72, 73, 74, 75, 76, 77, 78, 79, 80, 81, 82, 83, 84, 85, 86, 87, 88, 89, 90, 91, 92, 93, 94, 95, 96, 97, 98, 99, 100, 101, 102, 103, 104, 105, 106, 107, 108, 109, 110, 111, 112, 113, 114, 115, 116, 117, 118, 119, 120, 121, 122, 123, 124, 125, 126, 127, 128, 129, 130, 131, 132, 133, 134, 135, 136, 137, 138, 139, 140, 141, 142, 143, 144, 145, 146, 147, 148, 149, 150, 151, 152, 153, 154, 155, 156, 157, 158, 159, 160, 161, 162, 163, 164, 165, 166, 167, 168, 169, 170, 171, 172, 173, 174, 175, 176, 177, 178, 179, 180, 181, 182, 183, 184, 185, 186, 187, 188, 189, 190, 191, 192, 193, 194, 195, 196, 197, 198, 199, 200, 201, 202, 203, 204, 205, 206, 207, 208, 209, 210, 211, 212, 213, 214, 215, 216, 217, 218, 219, 220, 221, 222, 223, 224, 225, 226, 227, 228, 229, 230, 231, 232, 233, 234, 235, 236, 237, 238, 239, 240, 241, 242, 243, 244, 245, 246, 247, 248, 249, 250, 251] rfl (by decide +kernel)) (goodIn_sub (fun _ h => List.mem_cons_of_mem _ (List.mem_append_left _ (List.mem_append_right _ h))) (by decide +kernel))) (goodIn_sub (fun _ h => List.mem_cons_of_mem _ (List.mem_append_right _ h)) (by decide +kernel))
set_option maxRecDepth 20000 in
theorem gL_swapLayers_X8_swapLayers : GoodIn wsL_swapLayers (wsV RL 111 RX8 yX8_swapLayers wsX8_swapLayers) := goodIn_app (goodIn_of _ (by decide +kernel)) ggL_swapLayers_X8_swapLayers
theorem dL_swapLayers_0 : decode cL_swapLayers 0 = .ok (.aload_n 3, 1) := by decide +kernel
theorem dL_swapLayers_1 : decode cL_swapLayers 1 = .ok (.iconst 0, 1) := by decide +kernel
theorem dL_swapLayers_2 : decode cL_swapLayers 2 = .ok (.aload_n 0, 1) := by decide +kernel
theorem dL_swapLayers_3 : decode cL_swapLayers 3 = .ok (.iload_n 1, 1) := by decide +kernel
theorem dL_swapLayers_4 : decode cL_swapLayers 4 = .ok (.iload_n 2, 1) := by decide +kernel
theorem dL_swapLayers_5 : decode cL_swapLayers 5 = .ok (.invokevirtual 111, 3) := by decide +kernel
theorem dL_swapLayers_8 : decode cL_swapLayers 8 = .ok (.i2l, 1) := by decide +kernel
theorem dL_swapLayers_9 : decode cL_swapLayers 9 = .ok (.lastore, 1) := by decide +kernel
theorem dL_swapLayers_10 : decode cL_swapLayers 10 = .ok (.goto 11, 3) := by decide +kernel
theorem dL_swapLayers_13 : decode cL_swapLayers 13 = .ok (.astore 4, 2) := by decide +kernel
theorem dL_swapLayers_15 : decode cL_swapLayers 15 = .ok (.iconst 1, 1) := by decide +kernel
theorem dL_swapLayers_16 : decode cL_swapLayers 16 = .ok (.ireturn, 1) := by decide +kernel
theorem dL_swapLayers_17 : decode cL_swapLayers 17 = .ok (.astore 4, 2) := by decide +kernel
theorem dL_swapLayers_19 : decode cL_swapLayers 19 = .ok (.iconst 2, 1) := by decide +kernel
theorem dL_swapLayers_20 : decode cL_swapLayers 20 = .ok (.ireturn, 1) := by decide +kernel
theorem dL_swapLayers_21 : decode cL_swapLayers 21 = .ok (.iconst 0, 1) := by decide +kernel
theorem dL_swapLayers_22 : decode cL_swapLayers 22 = .ok (.ireturn, 1) := by decide +kernel
set_option maxRecDepth 100000 in
theorem ggL_setOutside_X8_setOutside : GoodIn wsL_setOutside wsX8_setOutside := goodIn_ca (goodIn_r _ [6, 7, 8, 9, 10, 11, 5, 12, 13, 14, 15, 16, 17, 18, 19, 20, 21, 22, 23, 24, 25, 26, 27, 28, 29, 30, 31, 32, 33, 34, 35, 36, 37, 38, 39, 40, 41, 42, 43, 44, 45, 46, 47, 48, 49, 50, 51, 52, 53, 54, 55, 56, 57, 58, 59, 60, 61, 62, 63, 64, 65, 66, 67, 68, 69, 70, 71, 72, 73, 74, 75, 76, 77, 78, 79, 80, 81, 82, 83, 84, 85, 86, 87, 88] rfl (by decide +kernel)) (goodIn_sub (fun _ h => List.mem_cons_of_mem _ (List.mem_append_right _ h)) (by decide +kernel))
set_option maxRecDepth 20000 in
theorem gL_setOutside_X8_setOutside : GoodIn wsL_setOutside (wsV RL 114 RX8 yX8_setOutside wsX8_setOutside) := goodIn_app (goodIn_of _ (by decide +kernel)) ggL_setOutside_X8_setOutside
theorem dL_setOutside_0 : decode cL_setOutside 0 = .ok (.aload_n 2, 1) := by decide +kernel
theorem dL_setOutside_1 : decode cL_setOutside 1 = .ok (.iconst 0, 1) := by decide +kernel
theorem dL_setOutside_2 : decode cL_setOutside 2 = .ok (.aload_n 0, 1) := by decide +kernel
theorem dL_setOutside_3 : decode cL_setOutside 3 = .ok (.iload_n 1, 1) := by decide +kernel
theorem dL_setOutside_4 : decode cL_setOutside 4 = .ok (.invokevirtual 114, 3) := by decide +kernel
theorem dL_setOutside_7 : decode cL_setOutside 7 = .ok (.i2l, 1) := by decide +kernel
theorem dL_setOutside_8 : decode cL_setOutside 8 = .ok (.lastore, 1) := by decide +kernel
theorem dL_setOutside_9 : decode cL_setOutside 9 = .ok (.goto 6, 3) := by decide +kernel
theorem dL_setOutside_12 : decode cL_setOutside 12 = .ok (.astore_n 3, 1) := by decide +kernel
theorem dL_setOutside_13 : decode cL_setOutside 13 = .ok (.iconst 1, 1) := by decide +kernel
theorem dL_setOutside_14 : decode cL_setOutside 14 = .ok (.ireturn, 1) := by decide +kernel
theorem dL_setOutside_15 : decode cL_setOutside 15 = .ok (.iconst 0, 1) := by decide +kernel
theorem dL_setOutside_16 : decode cL_setOutside 16 = .ok (.ireturn, 1) := by decide +kernel
set_option maxRecDepth 100000 in
theorem ggL_setOpen_X8_setOpen : GoodIn wsL_setOpen wsX8_setOpen := goodIn_ca (goodIn_r _ [6, 7, 8, 9, 10, 11, 12, 5, 13, 14, 15, 16, 17, 18, 19, 20, 21, 22, 23, 24, 25, 26, 27, 28, 29, 30, 31, 32, 33, 34, 35, 36, 37, 38, 39, 40, 41, 42, 43, 44, 45, 46, 47, 48, 49, 50, 51, 52, 53, 54, 55, 56, 57, 58, 59, 60, 61, 62, 63, 64, 65, 66, 67, 68, 69, 70, 71, 72, 73, 74, 75, 76, 77, 78, 79, 80, 81, 82, 83, 84, 85, 86, 87, 88, 89, 90] rfl (by decide +kernel)) (goodIn_sub (fun _ h => List.mem_cons_of_mem _ (List.mem_append_right _ h)) (by decide +kernel))
set_option maxRecDepth 20000 in
theorem gL_setOpen_X8_setOpen : GoodIn wsL_setOpen (wsV RL 117 RX8 yX8_setOpen wsX8_setOpen) := goodIn_app (goodIn_of _ (by decide +kernel)) ggL_setOpen_X8_setOpen
theorem dL_setOpen_0 : decode cL_setOpen 0 = .ok (.aload_n 2, 1) := by decide +kernel
theorem dL_setOpen_1 : decode cL_setOpen 1 = .ok (.iconst 0, 1) := by decide +kernel
theorem dL_setOpen_2 : decode cL_setOpen 2 = .ok (.aload_n 0, 1) := by decide +kernel
theorem dL_setOpen_3 : decode cL_setOpen 3 = .ok (.iload_n 1, 1) := by decide +kernel
theorem dL_setOpen_4 : decode cL_setOpen 4 = .ok (.invokevirtual 117, 3) := by decide +kernel
theorem dL_setOpen_7 : decode cL_setOpen 7 = .ok (.i2l, 1) := by decide +kernel
theorem dL_setOpen_8 : decode cL_setOpen 8 = .ok (.lastore, 1) := by decide +kernel
theorem dL_setOpen_9 : decode cL_setOpen 9 = .ok (.goto 6, 3) := by decide +kernel
theorem dL_setOpen_12 : decode cL_setOpen 12 = .ok (.astore_n 3, 1) := by decide +kernel
theorem dL_setOpen_13 : decode cL_setOpen 13 = .ok (.iconst 1, 1) := by decide +kernel
theorem dL_setOpen_14 : decode cL_setOpen 14 = .ok (.ireturn, 1) := by decide +kernel
theorem dL_setOpen_15 : decode cL_setOpen 15 = .ok (.iconst 0, 1) := by decide +kernel
theorem dL_setOpen_16 : decode cL_setOpen 16 = .ok (.ireturn, 1) := by decide +kernel
set_option maxRecDepth 100000 in
theorem ggL_setMirror_X8_setMirror : GoodIn wsL_setMirror wsX8_setMirror := goodIn_ca (goodIn_r _ [6, 7, 8, 9, 10, 11, 12, 5, 13, 14, 15, 16, 17, 18, 19, 20, 21, 22, 23, 24, 25, 26, 27, 28, 29, 30, 31, 32, 33, 34, 35, 36, 37, 38, 39, 40, 41, 42, 43, 44, 45, 46, 47, 48, 49, 50, 51, 52, 53, 54, 55, 56, 57, 58, 59, 60, 61, 62, 63, 64, 65, 66, 67, 68, 69, 70, 71, 72, 73, 74, 75, 76, 77, 78, 79, 80, 81, 82, 83, 84, 85, 86, 87, 88, 89, 90] rfl (by decide +kernel)) (goodIn_sub (fun _ h => List.mem_cons_of_mem _ (List.mem_append_right _ h)) (by decide +kernel))
set_option maxRecDepth 20000 in
theorem gL_setMirror_X8_setMirror : GoodIn wsL_setMirror (wsV RL 120 RX8 yX8_setMirror wsX8_setMirror) := goodIn_app (goodIn_of _ (by decide +kernel)) ggL_setMirror_X8_setMirror
theorem dL_setMirror_0 : decode cL_setMirror 0 = .ok (.aload_n 2, 1) := by decide +kernel
theorem dL_setMirror_1 : decode cL_setMirror 1 = .ok (.iconst 0, 1) := by decide +kernel
theorem dL_setMirror_2 : decode cL_setMirror 2 = .ok (.aload_n 0, 1) := by decide +kernel
theorem dL_setMirror_3 : decode cL_setMirror 3 = .ok (.iload_n 1, 1) := by decide +kernel
theorem dL_setMirror_4 : decode cL_setMirror 4 = .ok (.invokevirtual 120, 3) := by decide +kernel
theorem dL_setMirror_7 : decode cL_setMirror 7 = .ok (.i2l, 1) := by decide +kernel
theorem dL_setMirror_8 : decode cL_setMirror 8 = .ok (.lastore, 1) := by decide +kernel
theorem dL_setMirror_9 : decode cL_setMirror 9 = .ok (.goto 6, 3) := by decide +kernel
theorem dL_setMirror_12 : decode cL_setMirror 12 = .ok (.astore_n 3, 1) := by decide +kernel
theorem dL_setMirror_13 : decode cL_setMirror 13 = .ok (.iconst 1, 1) := by decide +kernel
theorem dL_setMirror_14 : decode cL_setMirror 14 = .ok (.ireturn, 1) := by decide +kernel
theorem dL_setMirror_15 : decode cL_setMirror 15 = .ok (.iconst 0, 1) := by decide +kernel
theorem dL_setMirror_16 : decode cL_setMirror 16 = .ok (.ireturn, 1) := by decide +kernel
set_option maxRecDepth 100000 in
theorem ggL_shoot_X8_shoot : GoodIn wsL_shoot wsX8_shoot := goodIn_ca (goodIn_ca (goodIn_ca (goodIn_r _ [8, 9, 10, 11, 12, 13, 14, 15, 16, 17, 18, 19, 20, 21, 7, 22, 23, 24, 25, 26, 27, 28, 29, 30, 31, 32, 33, 34, 35, 36, 37, 38, 39, 40, 41, 42, 43, 44, 45, 46, 47, 48, 49, 50, 51, 52, 53, 54, 55, 56, 57, 58, 59, 60, 61, 62, 63, 64, 65, 66, 67, 68, 69, 70, 71, 72, 73, 74, 75, 76, 77, 78, 79, 80, 81, 82, 83, 84, 85, 86, 87, 88, 89, 90, 91, 92, 93, 94, 95, 96, 97, 98, 99, 100, 101, 102, 103, 104, 105, 106, 107, 108, 109, 110, 111, 112, 113, 114, 115, 116, 117, 118, 119, 120, 121, 122, 123, 124, 125, 126, 127, 128, 129] rfl (by decide +kernel)) (goodIn_sub (fun _ h => List.mem_cons_of_mem _ (List.mem_append_left _ (List.mem_append_left _ (List.mem_append_right _ h)))) (by decide +kernel))) (goodIn_sub (fun _ h => List.mem_cons_of_mem _ (List.mem_append_left _ (List.mem_append_right _ h))) (by decide +kernel))) (goodIn_sub (fun _ h => List.mem_cons_of_mem _ (List.mem_append_right _ h)) (by decide +kernel))
set_option maxRecDepth 20000 in
theorem gL_shoot_X8_shoot : GoodIn wsL_shoot (wsV RL 123 RX8 yX8_shoot wsX8_shoot) := goodIn_app (goodIn_of _ (by decide +kernel)) ggL_shoot_X8_shoot
theorem dL_shoot_0 : decode cL_shoot 0 = .ok (.aload 4, 2) := by decide +kernel
theorem dL_shoot_2 : decode cL_shoot 2 = .ok (.iconst 0, 1) := by decide +kernel
theorem dL_shoot_3 : decode cL_shoot 3 = .ok (.aload_n 0, 1) := by decide +kernel
theorem dL_shoot_4 : decode cL_shoot 4 = .ok (.iload_n 1, 1) := by decide +kernel
theorem dL_shoot_5 : decode cL_shoot 5 = .ok (.iload_n 2, 1) := by decide +kernel
theorem dL_shoot_6 : decode cL_shoot 6 = .ok (.iload_n 3, 1) := by decide +kernel
theorem dL_shoot_7 : decode cL_shoot 7 = .ok (.invokevirtual 123, 3) := by decide +kernel
theorem dL_shoot_10 : decode cL_shoot 10 = .ok (.i2l, 1) := by decide +kernel
theorem dL_shoot_11 : decode cL_shoot 11 = .ok (.lastore, 1) := by decide +kernel
theorem dL_shoot_12 : decode cL_shoot 12 = .ok (.goto 15, 3) := by decide +kernel
theorem dL_shoot_15 : decode cL_shoot 15 = .ok (.astore 5, 2) := by decide +kernel
theorem dL_shoot_17 : decode cL_shoot 17 = .ok (.iconst 1, 1) := by decide +kernel
theorem dL_shoot_18 : decode cL_shoot 18 = .ok (.ireturn, 1) := by decide +kernel
theorem dL_shoot_19 : decode cL_shoot 19 = .ok (.astore 5, 2) := by decide +kernel
theorem dL_shoot_21 : decode cL_shoot 21 = .ok (.iconst 2, 1) := by decide +kernel
theorem dL_shoot_22 : decode cL_shoot 22 = .ok (.ireturn, 1) := by decide +kernel
theorem dL_shoot_23 : decode cL_shoot 23 = .ok (.astore 5, 2) := by decide +kernel
theorem dL_shoot_25 : decode cL_shoot 25 = .ok (.iconst 3, 1) := by decide +kernel
theorem dL_shoot_26 : decode cL_shoot 26 = .ok (.ireturn, 1) := by decide +kernel
theorem dL_shoot_27 : decode cL_shoot 27 = .ok (.iconst 0, 1) := by decide +kernel
theorem dL_shoot_28 : decode cL_shoot 28 = .ok (.ireturn, 1) := by decide +kernel
set_option maxRecDepth 100000 in
theorem ggL_turn_X8_turn : GoodIn wsL_turn wsX8_turn := goodIn_ca (goodIn_ca (goodIn_r _ [7, 8, 9, 10, 11, 12, 13, 14, 6, 15, 16, 17, 18, 19, 20, 21, 22, 23, 24, 25, 26, 27, 28, 29, 30, 31, 32, 33, 34, 35, 36, 37, 38, 39, 40, 41, 42, 43, 44, 45, 46, 47, 48, 49, 50, 51, 52, 53, 54, 55, 56, 57, 58, 59, 60, 61, 62, 63, 64, 65, 66, 67, 68, 69, 70, 71, 72, 73, 74, 75, 76, 77, 78, 79, 80, 81, 82, 83, 84, 85, 86, 87, 88, 89, 90, 91, 92, 93, 94, 95, 96, 97, 98, 99, 100, 101, 102, 103, 104, 105, 106, 107, 108, 109, 110, 111, 112, 113, 114, 115, 116, 117, 118, 119, 120, 121, 122, 123, 124, 125, 126, 127, 128, 129, 130, 131, 132, 133, 134, 135, 136, 137, 138, 139, 140, 141, 142, 143, 144, 145, 146, 147, 148, 149, 150, 151, 152, 153, 154, 155, 156, 157, 158, 159, 160, 161, 162, 163, 164, 165, 166, 167, 168, 169, 170, 171, 172, 173, 174, 175, 176, 177, 178, 179, 180, 181, 182, 183, 184, 185, 186, 187, 188, 189, 190, 191, 192, 193, 194, 195, 196, 197, 198, 199, 200, 201, 202, 203, 204, 205, 206, 207, 208, 209, 210, 211, 212, 213, 214, 215, 216, 217, 218, 219, 220, 221, 222, 223, 224, 225, 226, 227, 228, 229, 230, 231, 232, 233, 234, 235, 236, 237, 238, 239, 240, 241, 242, 243, 244, 245] rfl (by decide +kernel)) (goodIn_sub (fun _ h => List.mem_cons_of_mem _ (List.mem_append_left _ (List.mem_append_right _ h))) (by decide +kernel))) (goodIn_sub (fun _ h => List.mem_cons_of_mem _ (List.mem_append_right _ h)) (by decide +kernel))
set_option maxRecDepth 20000 in
theorem gL_turn_X8_turn : GoodIn wsL_turn (wsV RL 126 RX8 yX8_turn wsX8_turn) := goodIn_app (goodIn_of _ (by decide +kernel)) ggL_turn_X8_turn
theorem dL_turn_0 : decode cL_turn 0 = .ok (.aload_n 3, 1) := by decide +kernel
theorem dL_turn_1 : decode cL_turn 1 = .ok (.iconst 0, 1) := by decide +kernel
theorem dL_turn_2 : decode cL_turn 2 = .ok (.aload_n 0, 1) := by decide +kernel
theorem dL_turn_3 : decode cL_turn 3 = .ok (.iload_n 1, 1) := by decide +kernel
theorem dL_turn_4 : decode cL_turn 4 = .ok (.iload_n 2, 1) := by decide +kernel
theorem dL_turn_5 : decode cL_turn 5 = .ok (.invokevirtual 126, 3) := by decide +kernel
theorem dL_turn_8 : decode cL_turn 8 = .ok (.i2l, 1) := by decide +kernel
theorem dL_turn_9 : decode cL_turn 9 = .ok (.lastore, 1) := by decide +kernel
theorem dL_turn_10 : decode cL_turn 10 = .ok (.goto 11, 3) := by decide +kernel
theorem dL_turn_13 : decode cL_turn 13 = .ok (.astore 4, 2) := by decide +kernel
theorem dL_turn_15 : decode cL_turn 15 = .ok (.iconst 1, 1) := by decide +kernel
theorem dL_turn_16 : decode cL_turn 16 = .ok (.ireturn, 1) := by decide +kernel
theorem dL_turn_17 : decode cL_turn 17 = .ok (.astore 4, 2) := by decide +kernel
theorem dL_turn_19 : decode cL_turn 19 = .ok (.iconst 2, 1) := by decide +kernel
theorem dL_turn_20 : decode cL_turn 20 = .ok (.ireturn, 1) := by decide +kernel
theorem dL_turn_21 : decode cL_turn 21 = .ok (.iconst 0, 1) := by decide +kernel
theorem dL_turn_22 : decode cL_turn 22 = .ok (.ireturn, 1) := by decide +kernel
set_option maxRecDepth 100000 in
theorem ggL_dropShot_X8_dropShot : GoodIn wsL_dropShot wsX8_dropShot := goodIn_ca (goodIn_r _ [6, 7, 8, 9, 10, 11, 12, 13, 5, 14, 15, 16, 17, 18, 19, 20, 21, 22, 23, 24, 25, 26, 27, 28, 29, 30, 31, 32, 33, 34, 35, 36, 37, 38, 39, 40, 41, 42, 43, 44, 45, 46, 47, 48, 49, 50, 51, 52, 53, 54, 55, 56, 57, 58, 59, 60, 61, 62, 63, 64, 65, 66, 67, 68, 69, 70, 71, 72, 73, 74, 75, 76, 77, 78, 79, 80, 81, 82, 83, 84, 85, 86, 87, 88, 89, 90, 91, 92, 93, 94, 95, 96, 97, 98, 99, 100, 101, 102, 103, 104, 105, 106, 107, 108, 109, 110, 111, 112] rfl (by decide +kernel)) (goodIn_sub (fun _ h => List.mem_cons_of_mem _ (List.mem_append_right _ h)) (by decide +kernel))
set_option maxRecDepth 20000 in
theorem gL_dropShot_X8_dropShot : GoodIn wsL_dropShot (wsV RL 129 RX8 yX8_dropShot wsX8_dropShot) := goodIn_app (goodIn_of _ (by decide +kernel)) ggL_dropShot_X8_dropShot
theorem dL_dropShot_0 : decode cL_dropShot 0 = .ok (.aload_n 2, 1) := by decide +kernel
theorem dL_dropShot_1 : decode cL_dropShot 1 = .ok (.iconst 0, 1) := by decide +kernel
theorem dL_dropShot_2 : decode cL_dropShot 2 = .ok (.aload_n 0, 1) := by decide +kernel
theorem dL_dropShot_3 : decode cL_dropShot 3 = .ok (.iload_n 1, 1) := by decide +kernel
theorem dL_dropShot_4 : decode cL_dropShot 4 = .ok (.invokevirtual 129, 3) := by decide +kernel
theorem dL_dropShot_7 : decode cL_dropShot 7 = .ok (.i2l, 1) := by decide +kernel
theorem dL_dropShot_8 : decode cL_dropShot 8 = .ok (.lastore, 1) := by decide +kernel
theorem dL_dropShot_9 : decode cL_dropShot 9 = .ok (.goto 6, 3) := by decide +kernel
theorem dL_dropShot_12 : decode cL_dropShot 12 = .ok (.astore_n 3, 1) := by decide +kernel
theorem dL_dropShot_13 : decode cL_dropShot 13 = .ok (.iconst 1, 1) := by decide +kernel
theorem dL_dropShot_14 : decode cL_dropShot 14 = .ok (.ireturn, 1) := by decide +kernel
theorem dL_dropShot_15 : decode cL_dropShot 15 = .ok (.iconst 0, 1) := by decide +kernel
theorem dL_dropShot_16 : decode cL_dropShot 16 = .ok (.ireturn, 1) := by decide +kernel
set_option maxRecDepth 100000 in
theorem ggL_keep_X8_keep : GoodIn wsL_keep wsX8_keep := goodIn_ca (goodIn_r _ [6, 7, 8, 9, 10, 11, 12, 13, 14, 15, 16, 5, 17, 18, 19, 20, 21, 22, 23, 24, 25, 26, 27, 28, 29, 30, 31, 32, 33, 34, 35, 36, 37, 38, 39, 40, 41, 42, 43, 44, 45, 46, 47, 48, 49, 50, 51, 52, 53, 54, 55, 56, 57, 58, 59, 60, 61, 62, 63, 64, 65, 66, 67, 68, 69, 70, 71, 72, 73, 74, 75, 76, 77, 78, 79] rfl (by decide +kernel)) (goodIn_sub (fun _ h => List.mem_cons_of_mem _ (List.mem_append_right _ h)) (by decide +kernel))
set_option maxRecDepth 20000 in
theorem gL_keep_X8_keep : GoodIn wsL_keep (wsV RL 132 RX8 yX8_keep wsX8_keep) := goodIn_app (goodIn_of _ (by decide +kernel)) ggL_keep_X8_keep
theorem dL_keep_0 : decode cL_keep 0 = .ok (.aload_n 2, 1) := by decide +kernel
theorem dL_keep_1 : decode cL_keep 1 = .ok (.iconst 0, 1) := by decide +kernel
theorem dL_keep_2 : decode cL_keep 2 = .ok (.aload_n 0, 1) := by decide +kernel
theorem dL_keep_3 : decode cL_keep 3 = .ok (.iload_n 1, 1) := by decide +kernel
theorem dL_keep_4 : decode cL_keep 4 = .ok (.invokevirtual 132, 3) := by decide +kernel
theorem dL_keep_7 : decode cL_keep 7 = .ok (.i2l, 1) := by decide +kernel
theorem dL_keep_8 : decode cL_keep 8 = .ok (.lastore, 1) := by decide +kernel
theorem dL_keep_9 : decode cL_keep 9 = .ok (.goto 6, 3) := by decide +kernel
theorem dL_keep_12 : decode cL_keep 12 = .ok (.astore_n 3, 1) := by decide +kernel
theorem dL_keep_13 : decode cL_keep 13 = .ok (.iconst 1, 1) := by decide +kernel
theorem dL_keep_14 : decode cL_keep 14 = .ok (.ireturn, 1) := by decide +kernel
theorem dL_keep_15 : decode cL_keep 15 = .ok (.iconst 0, 1) := by decide +kernel
theorem dL_keep_16 : decode cL_keep 16 = .ok (.ireturn, 1) := by decide +kernel
set_option maxRecDepth 100000 in
theorem ggL_restore_X8_restore : GoodIn wsL_restore wsX8_restore := goodIn_ca (goodIn_ca (goodIn_r _ [7, 8, 9, 10, 11, 12, 13, 14, 15, 16, 17, 6, 18, 19, 20, 21, 22, 23, 24, 25, 26, 27, 28, 29, 30, 31, 32, 33, 34, 35, 36, 37, 38, 39, 40, 41, 42, 43, 44, 45, 46, 47, 48, 49, 50, 51, 52, 53, 54, 55, 56, 57, 58, 59, 60, 61, 62, 63, 64, 65, 66, 67, 68, 69, 70, 71, 72, 73, 74, 75, 76, 77, 78, 79, 80, 81, 82, 83, 84, 85, 86, 87, 88, 89, 90, 91, 92, 93, 94, 95, 96] rfl (by decide +kernel)) (goodIn_sub (fun _ h => List.mem_cons_of_mem _ (List.mem_append_left _ (List.mem_append_right _ h))) (by decide +kernel))) (goodIn_sub (fun _ h => List.mem_cons_of_mem _ (List.mem_append_right _ h)) (by decide +kernel))
set_option maxRecDepth 20000 in
theorem gL_restore_X8_restore : GoodIn wsL_restore (wsV RL 135 RX8 yX8_restore wsX8_restore) := goodIn_app (goodIn_of _ (by decide +kernel)) ggL_restore_X8_restore
theorem dL_restore_0 : decode cL_restore 0 = .ok (.aload_n 2, 1) := by decide +kernel
theorem dL_restore_1 : decode cL_restore 1 = .ok (.iconst 0, 1) := by decide +kernel
theorem dL_restore_2 : decode cL_restore 2 = .ok (.aload_n 0, 1) := by decide +kernel
theorem dL_restore_3 : decode cL_restore 3 = .ok (.iload_n 1, 1) := by decide +kernel
theorem dL_restore_4 : decode cL_restore 4 = .ok (.invokevirtual 135, 3) := by decide +kernel
theorem dL_restore_7 : decode cL_restore 7 = .ok (.i2l, 1) := by decide +kernel
theorem dL_restore_8 : decode cL_restore 8 = .ok (.lastore, 1) := by decide +kernel
theorem dL_restore_9 : decode cL_restore 9 = .ok (.goto 9, 3) := by decide +kernel
theorem dL_restore_12 : decode cL_restore 12 = .ok (.astore_n 3, 1) := by decide +kernel
theorem dL_restore_13 : decode cL_restore 13 = .ok (.iconst 1, 1) := by decide +kernel
theorem dL_restore_14 : decode cL_restore 14 = .ok (.ireturn, 1) := by decide +kernel
theorem dL_restore_15 : decode cL_restore 15 = .ok (.astore_n 3, 1) := by decide +kernel
theorem dL_restore_16 : decode cL_restore 16 = .ok (.iconst 2, 1) := by decide +kernel
theorem dL_restore_17 : decode cL_restore 17 = .ok (.ireturn, 1) := by decide +kernel
theorem dL_restore_18 : decode cL_restore 18 = .ok (.iconst 0, 1) := by decide +kernel
theorem dL_restore_19 : decode cL_restore 19 = .ok (.ireturn, 1) := by decide +kernel
set_option maxRecDepth 100000 in
theorem ggL_undo_X8_undo : GoodIn wsL_undo wsX8_undo := goodIn_ca (goodIn_r _ [6, 7, 8, 9, 10, 11, 12, 13, 14, 15, 16, 17, 18, 19, 20, 5, 21, 22, 23, 24, 25, 26, 27, 28, 29, 30, 31, 32, 33, 34, 35, 36, 37, 38, 39, 40, 41, 42, 43, 44, 45, 46, 47, 48, 49, 50, 51, 52, 53, 54, 55, 56, 57, 58, 59, 60, 61, 62, 63, 64, 65, 66, 67, 68, 69, 70, 71] rfl (by decide +kernel)) (goodIn_sub (fun _ h => List.mem_cons_of_mem _ (List.mem_append_right _ h)) (by decide +kernel))
set_option maxRecDepth 20000 in
theorem gL_undo_X8_undo : GoodIn wsL_undo (wsV RL 138 RX8 yX8_undo wsX8_undo) := goodIn_app (goodIn_of _ (by decide +kernel)) ggL_undo_X8_undo
theorem dL_undo_0 : decode cL_undo 0 = .ok (.aload_n 1, 1) := by decide +kernel
theorem dL_undo_1 : decode cL_undo 1 = .ok (.iconst 0, 1) := by decide +kernel
theorem dL_undo_2 : decode cL_undo 2 = .ok (.aload_n 0, 1) := by decide +kernel
theorem dL_undo_3 : decode cL_undo 3 = .ok (.invokevirtual 138, 3) := by decide +kernel
theorem dL_undo_6 : decode cL_undo 6 = .ok (.i2l, 1) := by decide +kernel
theorem dL_undo_7 : decode cL_undo 7 = .ok (.lastore, 1) := by decide +kernel
theorem dL_undo_8 : decode cL_undo 8 = .ok (.goto 6, 3) := by decide +kernel
theorem dL_undo_11 : decode cL_undo 11 = .ok (.astore_n 2, 1) := by decide +kernel
theorem dL_undo_12 : decode cL_undo 12 = .ok (.iconst 1, 1) := by decide +kernel
theorem dL_undo_13 : decode cL_undo 13 = .ok (.ireturn, 1) := by decide +kernel
theorem dL_undo_14 : decode cL_undo 14 = .ok (.iconst 0, 1) := by decide +kernel
theorem dL_undo_15 : decode cL_undo 15 = .ok (.ireturn, 1) := by decide +kernel
set_option maxRecDepth 100000 in
theorem ggL_writePath_X8_writePath : GoodIn wsL_writePath wsX8_writePath := goodIn_ca (goodIn_r _ [6, 7, 8, 9, 10, 11, 12, 13, 14, 5, 15, 16, 17, 18, 19, 20, 21, 22, 23, 24, 25, 26, 27, 28, 29, 30, 31, 32, 33, 34, 35, 36, 37, 38, 39, 40, 41, 42, 43, 44, 45, 46, 47, 48, 49, 50, 51, 52, 53, 54, 55, 56, 57, 58, 59, 60, 61, 62, 63, 64, 65, 66, 67, 68, 69, 70, 71, 72, 73, 74, 75, 76, 77, 78, 79, 80, 81, 82, 83, 84, 85, 86, 87, 88, 89, 90, 91, 92, 93, 94, 95, 96, 97, 98, 99, 100, 101, 102, 103, 104, 105, 106, 107, 108, 109, 110, 111, 112, 113, 114, 115, 116, 117, 118, 119, 120, 121, 122, 123, 124, 125, 126, 127, 128, 129, 130, 131, 132, 133, 134, 135, 136, 137, 138, 139, 140, 141, 142, 143, 144, 145, 146, 147, 148, 149, 150, 151, 152, 153, 154, 155, 156, 157, 158, 159, 160, 161, 162, 163, 164, 165, 166, 167, 168, 169, 170, 171, 172, 173, 174, 175, 176, 177, 178, 179, 180, 181, 182, 183, 184, 185, 186, 187, 188, 189, 190, 191, 192, 193, 194, 195, 196, 197, 198, 199, 200, 201, 202, 203, 204, 205, 206, 207, 208, 209, 210, 211, 212, 213, 214, 215, 216, 217, 218, 219, 220, 221, 222, 223, 224, 225, 226, 227, 228, 229, 230, 231, 232, 233, 234, 235, 236, 237, 238, 239, 240, 241, 242, 243, 244, 245, 246, 247, 248, 249, 250, 251, 252, 253, 254, 255, 256, 257, 258, 259, 260, 261, 262, 263, 264, 265, 266, 267, 268, 269, 270, 271, 272, 273, 274, 275, 276, 277, 278] rfl (by decide +kernel)) (goodIn_sub (fun _ h => List.mem_cons_of_mem _ (List.mem_append_right _ h)) (by decide +kernel))
set_option maxRecDepth 20000 in
theorem gL_writePath_X8_writePath : GoodIn wsL_writePath (wsV RL 142 RX8 yX8_writePath wsX8_writePath) := goodIn_app (goodIn_of _ (by decide +kernel)) ggL_writePath_X8_writePath
theorem dL_writePath_0 : decode cL_writePath 0 = .ok (.aload_n 2, 1) := by decide +kernel
theorem dL_writePath_1 : decode cL_writePath 1 = .ok (.iconst 0, 1) := by decide +kernel
theorem dL_writePath_2 : decode cL_writePath 2 = .ok (.aload_n 0, 1) := by decide +kernel
theorem dL_writePath_3 : decode cL_writePath 3 = .ok (.iload_n 1, 1) := by decide +kernel
theorem dL_writePath_4 : decode cL_writePath 4 = .ok (.invokevirtual 142, 3) := by decide +kernel
theorem dL_writePath_7 : decode cL_writePath 7 = .ok (.i2l, 1) := by decide +kernel
theorem dL_writePath_8 : decode cL_writePath 8 = .ok (.lastore, 1) := by decide +kernel
theorem dL_writePath_9 : decode cL_writePath 9 = .ok (.goto 6, 3) := by decide +kernel
theorem dL_writePath_12 : decode cL_writePath 12 = .ok (.astore_n 3, 1) := by decide +kernel
theorem dL_writePath_13 : decode cL_writePath 13 = .ok (.iconst 1, 1) := by decide +kernel
theorem dL_writePath_14 : decode cL_writePath 14 = .ok (.ireturn, 1) := by decide +kernel
theorem dL_writePath_15 : decode cL_writePath 15 = .ok (.iconst 0, 1) := by decide +kernel
theorem dL_writePath_16 : decode cL_writePath 16 = .ok (.ireturn, 1) := by decide +kernel
set_option maxRecDepth 100000 in
theorem ggL_outputByte_X8_outputByte : GoodIn wsL_outputByte wsX8_outputByte := goodIn_ca (goodIn_r _ [6, 7, 8, 9, 10, 11, 12, 13, 14, 15, 16, 17, 18, 19, 20, 21, 22, 23, 24, 25, 26, 27, 28, 29] rfl (by decide +kernel)) (goodIn_sub (fun _ h => List.mem_cons_of_mem _ (List.mem_append_right _ h)) (by decide +kernel))
set_option maxRecDepth 20000 in
theorem gL_outputByte_X8_outputByte : GoodIn wsL_outputByte (wsV RL 145 RX8 yX8_outputByte wsX8_outputByte) := goodIn_app (goodIn_of _ (by decide +kernel)) ggL_outputByte_X8_outputByte
theorem dL_outputByte_0 : decode cL_outputByte 0 = .ok (.aload_n 2, 1) := by decide +kernel
theorem dL_outputByte_1 : decode cL_outputByte 1 = .ok (.iconst 0, 1) := by decide +kernel
theorem dL_outputByte_2 : decode cL_outputByte 2 = .ok (.aload_n 0, 1) := by decide +kernel
theorem dL_outputByte_3 : decode cL_outputByte 3 = .ok (.iload_n 1, 1) := by decide +kernel
theorem dL_outputByte_4 : decode cL_outputByte 4 = .ok (.invokevirtual 145, 3) := by decide +kernel
theorem dL_outputByte_7 : decode cL_outputByte 7 = .ok (.i2l, 1) := by decide +kernel
theorem dL_outputByte_8 : decode cL_outputByte 8 = .ok (.lastore, 1) := by decide +kernel
theorem dL_outputByte_9 : decode cL_outputByte 9 = .ok (.goto 6, 3) := by decide +kernel
theorem dL_outputByte_12 : decode cL_outputByte 12 = .ok (.astore_n 3, 1) := by decide +kernel
theorem dL_outputByte_13 : decode cL_outputByte 13 = .ok (.iconst 1, 1) := by decide +kernel
theorem dL_outputByte_14 : decode cL_outputByte 14 = .ok (.ireturn, 1) := by decide +kernel
theorem dL_outputByte_15 : decode cL_outputByte 15 = .ok (.iconst 0, 1) := by decide +kernel
theorem dL_outputByte_16 : decode cL_outputByte 16 = .ok (.ireturn, 1) := by decide +kernel
