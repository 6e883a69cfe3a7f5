set_option maxRecDepth 20000 in
theorem gX9_property_X9_depthOf : GoodIn wsX9_property (wsV RX9 327 RX9 yX9_depthOf wsX9_depthOf) := goodIn_app (goodIn_of _ (by decide +kernel)) ggX9_property_X9_depthOf
theorem dX9_property_0 : decode cX9_property 0 = .ok (.aload_n 0, 1) := by decide +kernel
theorem dX9_property_1 : decode cX9_property 1 = .ok (.iload_n 1, 1) := by decide +kernel
theorem dX9_property_2 : decode cX9_property 2 = .ok (.i2l, 1) := by decide +kernel
theorem dX9_property_3 : decode cX9_property 3 = .ok (.lconst 0, 1) := by decide +kernel
theorem dX9_property_4 : decode cX9_property 4 = .ok (.ldc2_w 325, 3) := by decide +kernel
theorem dX9_property_7 : decode cX9_property 7 = .ok (.invokestatic 94, 3) := by decide +kernel
theorem dX9_property_10 : decode cX9_property 10 = .ok (.invokevirtual 193, 3) := by decide +kernel
theorem dX9_property_13 : decode cX9_property 13 = .ok (.ifCond .ne 5, 3) := by decide +kernel
theorem dX9_property_16 : decode cX9_property 16 = .ok (.iconst 0, 1) := by decide +kernel
theorem dX9_property_17 : decode cX9_property 17 = .ok (.ireturn, 1) := by decide +kernel
theorem dX9_property_18 : decode cX9_property 18 = .ok (.iload_n 1, 1) := by decide +kernel
theorem dX9_property_19 : decode cX9_property 19 = .ok (.tableswitch 64 0 4 #[33, 38, 45, 52, 59], 33) := by decide +kernel
theorem dX9_property_52 : decode cX9_property 52 = .ok (.aload_n 0, 1) := by decide +kernel
theorem dX9_property_53 : decode cX9_property 53 = .ok (.invokevirtual 90, 3) := by decide +kernel
theorem dX9_property_56 : decode cX9_property 56 = .ok (.ireturn, 1) := by decide +kernel
theorem dX9_property_57 : decode cX9_property 57 = .ok (.aload_n 0, 1) := by decide +kernel
theorem dX9_property_58 : decode cX9_property 58 = .ok (.getfield 17, 3) := by decide +kernel
theorem dX9_property_61 : decode cX9_property 61 = .ok (.iconst 1, 1) := by decide +kernel
theorem dX9_property_62 : decode cX9_property 62 = .ok (.iaload, 1) := by decide +kernel
theorem dX9_property_63 : decode cX9_property 63 = .ok (.ireturn, 1) := by decide +kernel
theorem dX9_property_64 : decode cX9_property 64 = .ok (.aload_n 0, 1) := by decide +kernel
theorem dX9_property_65 : decode cX9_property 65 = .ok (.getfield 17, 3) := by decide +kernel
theorem dX9_property_68 : decode cX9_property 68 = .ok (.iconst 2, 1) := by decide +kernel
theorem dX9_property_69 : decode cX9_property 69 = .ok (.iaload, 1) := by decide +kernel
theorem dX9_property_70 : decode cX9_property 70 = .ok (.ireturn, 1) := by decide +kernel
theorem dX9_property_71 : decode cX9_property 71 = .ok (.aload_n 0, 1) := by decide +kernel
theorem dX9_property_72 : decode cX9_property 72 = .ok (.getfield 17, 3) := by decide +kernel
theorem dX9_property_75 : decode cX9_property 75 = .ok (.iconst 3, 1) := by decide +kernel
theorem dX9_property_76 : decode cX9_property 76 = .ok (.iaload, 1) := by decide +kernel
theorem dX9_property_77 : decode cX9_property 77 = .ok (.ireturn, 1) := by decide +kernel
theorem dX9_property_78 : decode cX9_property 78 = .ok (.aload_n 0, 1) := by decide +kernel
theorem dX9_property_79 : decode cX9_property 79 = .ok (.invokevirtual 98, 3) := by decide +kernel
theorem dX9_property_82 : decode cX9_property 82 = .ok (.ireturn, 1) := by decide +kernel
theorem dX9_property_83 : decode cX9_property 83 = .ok (.aload_n 0, 1) := by decide +kernel
theorem dX9_property_84 : decode cX9_property 84 = .ok (.aload_n 0, 1) := by decide +kernel
theorem dX9_property_85 : decode cX9_property 85 = .ok (.invokevirtual 90, 3) := by decide +kernel
theorem dX9_property_88 : decode cX9_property 88 = .ok (.invokevirtual 327, 3) := by decide +kernel
theorem dX9_property_91 : decode cX9_property 91 = .ok (.ireturn, 1) := by decide +kernel
set_option maxRecDepth 20000 in
set_option maxRecDepth 100000 in
theorem ggX9_layer_X9_isLayer : GoodIn wsX9_layer wsX9_isLayer := goodIn_r _ [6, 7, 8, 9, 5, 10, 11, 12, 13, 14, 32, 33, 34, 35, 36, 37, 38, 39, 40, 41, 42, 43, 44, 45, 46, 47, 48, 49, 50, 51, 52, 53, 54, 55, 56, 57, 58, 59, 60, 61, 62, 63, 64, 65, 66, 67, 68, 69, 70, 71, 72] rfl (by decide +kernel)
set_option maxRecDepth 20000 in
theorem gX9_layer_X9_isLayer : GoodIn wsX9_layer (wsV RX9 140 RX9 yX9_isLayer wsX9_isLayer) := goodIn_app (goodIn_of _ (by decide +kernel)) ggX9_layer_X9_isLayer
set_option maxRecDepth 20000 in
set_option maxRecDepth 100000 in
theorem ggX9_layer_X9_in : GoodIn wsX9_layer wsX9_in := goodIn_r _ [14] rfl (by decide +kernel)
set_option maxRecDepth 20000 in
theorem gX9_layer_X9_in : GoodIn wsX9_layer (va_wsS RX9 94 yX9_in wsX9_in) := goodIn_app (goodIn_of _ (by decide +kernel)) ggX9_layer_X9_in
set_option maxRecDepth 20000 in
set_option maxRecDepth 100000 in
theorem ggX9_layer_X9_passes2 : GoodIn wsX9_layer wsX9_passes2 := goodIn_r _ [18, 19, 20, 21, 5, 22, 23, 32, 33, 34, 35, 36, 37, 38, 39, 40, 41, 42, 43, 44, 45, 46, 47, 48, 49, 50, 51, 52, 53, 54, 55, 56, 57, 58, 59, 60, 61, 62, 63, 64, 65, 66, 67, 68, 69, 70, 71, 72] rfl (by decide +kernel)
set_option maxRecDepth 20000 in
theorem gX9_layer_X9_passes2 : GoodIn wsX9_layer (wsV RX9 332 RX9 yX9_passes2 wsX9_passes2) := goodIn_app (goodIn_of _ (by decide +kernel)) ggX9_layer_X9_passes2
set_option maxRecDepth 20000 in
set_option maxRecDepth 100000 in
theorem ggX9_layer_X9_depthOf : GoodIn wsX9_layer wsX9_depthOf := goodIn_r _ [27, 28, 29, 30, 5, 31, 11, 32, 33, 34, 35, 36, 37, 38, 39, 40, 41, 42, 43, 44, 45, 46, 47, 48, 49, 50, 51, 52, 53, 54, 55, 56, 57, 58, 59, 60, 61, 62, 63, 64, 65, 66, 67, 68, 69, 70, 71, 72] rfl (by decide +kernel)
set_option maxRecDepth 20000 in
theorem gX9_layer_X9_depthOf : GoodIn wsX9_layer (wsV RX9 327 RX9 yX9_depthOf wsX9_depthOf) := goodIn_app (goodIn_of _ (by decide +kernel)) ggX9_layer_X9_depthOf
set_option maxRecDepth 20000 in
set_option maxRecDepth 100000 in
theorem ggX9_layer_X9_ofLayer : GoodIn wsX9_layer wsX9_ofLayer := goodIn_r _ [31, 11, 32, 33, 34, 35, 36, 37, 38, 39, 40, 41, 42, 43, 44, 45, 46, 47, 48, 49, 50, 51, 52, 53, 54, 55, 56, 57, 58, 59, 60, 61, 62, 63, 64, 65, 66, 67, 68, 69, 70, 71, 72] rfl (by decide +kernel)
set_option maxRecDepth 20000 in
theorem gX9_layer_X9_ofLayer : GoodIn wsX9_layer (wsV RX9 105 RX9 yX9_ofLayer wsX9_ofLayer) := goodIn_app (goodIn_of _ (by decide +kernel)) ggX9_layer_X9_ofLayer
theorem dX9_layer_0 : decode cX9_layer 0 = .ok (.aload_n 0, 1) := by decide +kernel
theorem dX9_layer_1 : decode cX9_layer 1 = .ok (.aload_n 0, 1) := by decide +kernel
theorem dX9_layer_2 : decode cX9_layer 2 = .ok (.iload_n 1, 1) := by decide +kernel
theorem dX9_layer_3 : decode cX9_layer 3 = .ok (.invokevirtual 140, 3) := by decide +kernel
theorem dX9_layer_6 : decode cX9_layer 6 = .ok (.iload_n 2, 1) := by decide +kernel
theorem dX9_layer_7 : decode cX9_layer 7 = .ok (.i2l, 1) := by decide +kernel
theorem dX9_layer_8 : decode cX9_layer 8 = .ok (.lconst 0, 1) := by decide +kernel
theorem dX9_layer_9 : decode cX9_layer 9 = .ok (.ldc2_w 330, 3) := by decide +kernel
theorem dX9_layer_12 : decode cX9_layer 12 = .ok (.invokestatic 94, 3) := by decide +kernel
theorem dX9_layer_15 : decode cX9_layer 15 = .ok (.invokevirtual 332, 3) := by decide +kernel
theorem dX9_layer_18 : decode cX9_layer 18 = .ok (.ifCond .ne 5, 3) := by decide +kernel
theorem dX9_layer_21 : decode cX9_layer 21 = .ok (.iconst 0, 1) := by decide +kernel
theorem dX9_layer_22 : decode cX9_layer 22 = .ok (.ireturn, 1) := by decide +kernel
theorem dX9_layer_23 : decode cX9_layer 23 = .ok (.iload_n 2, 1) := by decide +kernel
theorem dX9_layer_24 : decode cX9_layer 24 = .ok (.iconst 3, 1) := by decide +kernel
theorem dX9_layer_25 : decode cX9_layer 25 = .ok (.if_icmp .ne 11, 3) := by decide +kernel
theorem dX9_layer_28 : decode cX9_layer 28 = .ok (.aload_n 0, 1) := by decide +kernel
theorem dX9_layer_29 : decode cX9_layer 29 = .ok (.iload_n 1, 1) := by decide +kernel
theorem dX9_layer_30 : decode cX9_layer 30 = .ok (.invokevirtual 327, 3) := by decide +kernel
theorem dX9_layer_33 : decode cX9_layer 33 = .ok (.goto 9, 3) := by decide +kernel
theorem dX9_layer_36 : decode cX9_layer 36 = .ok (.aload_n 0, 1) := by decide +kernel
theorem dX9_layer_37 : decode cX9_layer 37 = .ok (.iload_n 1, 1) := by decide +kernel
theorem dX9_layer_38 : decode cX9_layer 38 = .ok (.iload_n 2, 1) := by decide +kernel
theorem dX9_layer_39 : decode cX9_layer 39 = .ok (.invokevirtual 105, 3) := by decide +kernel
theorem dX9_layer_42 : decode cX9_layer 42 = .ok (.ireturn, 1) := by decide +kernel
set_option maxRecDepth 20000 in
set_option maxRecDepth 100000 in
theorem ggX9_shot_X9_isShot : GoodIn wsX9_shot wsX9_isShot := goodIn_r _ [6, 7, 8, 9, 5, 10, 11, 12, 13, 14, 28, 29, 30, 31, 32, 33, 34, 35, 36, 37, 38, 39, 40, 41, 42, 43, 44, 45, 46, 47, 48, 49, 50, 51, 52, 53, 54, 55, 56, 57, 58, 59, 60, 61, 62, 63, 64, 65, 66, 67, 68] rfl (by decide +kernel)
set_option maxRecDepth 20000 in
theorem gX9_shot_X9_isShot : GoodIn wsX9_shot (wsV RX9 336 RX9 yX9_isShot wsX9_isShot) := goodIn_app (goodIn_of _ (by decide +kernel)) ggX9_shot_X9_isShot
set_option maxRecDepth 20000 in
set_option maxRecDepth 100000 in
theorem ggX9_shot_X9_in : GoodIn wsX9_shot wsX9_in := goodIn_r _ [14] rfl (by decide +kernel)
set_option maxRecDepth 20000 in
theorem gX9_shot_X9_in : GoodIn wsX9_shot (va_wsS RX9 94 yX9_in wsX9_in) := goodIn_app (goodIn_of _ (by decide +kernel)) ggX9_shot_X9_in
set_option maxRecDepth 20000 in
set_option maxRecDepth 100000 in
theorem ggX9_shot_X9_passes2 : GoodIn wsX9_shot wsX9_passes2 := goodIn_r _ [18, 19, 20, 21, 5, 22, 23, 28, 29, 30, 31, 32, 33, 34, 35, 36, 37, 38, 39, 40, 41, 42, 43, 44, 45, 46, 47, 48, 49, 50, 51, 52, 53, 54, 55, 56, 57, 58, 59, 60, 61, 62, 63, 64, 65, 66, 67, 68] rfl (by decide +kernel)
set_option maxRecDepth 20000 in
theorem gX9_shot_X9_passes2 : GoodIn wsX9_shot (wsV RX9 332 RX9 yX9_passes2 wsX9_passes2) := goodIn_app (goodIn_of _ (by decide +kernel)) ggX9_shot_X9_passes2
set_option maxRecDepth 20000 in
set_option maxRecDepth 100000 in
theorem ggX9_shot_X9_ofShot : GoodIn wsX9_shot wsX9_ofShot := goodIn_r _ [27, 11, 28, 29, 30, 31, 32, 33, 34, 35, 36, 37, 38, 39, 40, 41, 42, 43, 44, 45, 46, 47, 48, 49, 50, 51, 52, 53, 54, 55, 56, 57, 58, 59, 60, 61, 62, 63, 64, 65, 66, 67, 68] rfl (by decide +kernel)
set_option maxRecDepth 20000 in
theorem gX9_shot_X9_ofShot : GoodIn wsX9_shot (wsV RX9 178 RX9 yX9_ofShot wsX9_ofShot) := goodIn_app (goodIn_of _ (by decide +kernel)) ggX9_shot_X9_ofShot
theorem dX9_shot_0 : decode cX9_shot 0 = .ok (.aload_n 0, 1) := by decide +kernel
theorem dX9_shot_1 : decode cX9_shot 1 = .ok (.aload_n 0, 1) := by decide +kernel
theorem dX9_shot_2 : decode cX9_shot 2 = .ok (.iload_n 1, 1) := by decide +kernel
theorem dX9_shot_3 : decode cX9_shot 3 = .ok (.invokevirtual 336, 3) := by decide +kernel
theorem dX9_shot_6 : decode cX9_shot 6 = .ok (.iload_n 2, 1) := by decide +kernel
theorem dX9_shot_7 : decode cX9_shot 7 = .ok (.i2l, 1) := by decide +kernel
theorem dX9_shot_8 : decode cX9_shot 8 = .ok (.lconst 0, 1) := by decide +kernel
theorem dX9_shot_9 : decode cX9_shot 9 = .ok (.ldc2_w 339, 3) := by decide +kernel
theorem dX9_shot_12 : decode cX9_shot 12 = .ok (.invokestatic 94, 3) := by decide +kernel
theorem dX9_shot_15 : decode cX9_shot 15 = .ok (.invokevirtual 332, 3) := by decide +kernel
theorem dX9_shot_18 : decode cX9_shot 18 = .ok (.ifCond .eq 12, 3) := by decide +kernel
theorem dX9_shot_21 : decode cX9_shot 21 = .ok (.aload_n 0, 1) := by decide +kernel
theorem dX9_shot_22 : decode cX9_shot 22 = .ok (.iload_n 1, 1) := by decide +kernel
theorem dX9_shot_23 : decode cX9_shot 23 = .ok (.iload_n 2, 1) := by decide +kernel
theorem dX9_shot_24 : decode cX9_shot 24 = .ok (.invokevirtual 178, 3) := by decide +kernel
theorem dX9_shot_27 : decode cX9_shot 27 = .ok (.goto 4, 3) := by decide +kernel
theorem dX9_shot_30 : decode cX9_shot 30 = .ok (.iconst 0, 1) := by decide +kernel
theorem dX9_shot_31 : decode cX9_shot 31 = .ok (.ireturn, 1) := by decide +kernel
set_option maxRecDepth 20000 in
set_option maxRecDepth 100000 in
theorem ggX9_path_X9_isShot : GoodIn wsX9_path wsX9_isShot := goodIn_r _ [13, 14, 15, 16, 12, 17, 18, 19, 20, 21, 118, 119, 120, 121, 122, 123, 124, 125, 126, 127, 128, 129, 130, 131, 132, 133, 134, 135, 136, 137, 138, 139, 140, 141, 142, 143, 144, 145, 146, 147, 148, 149, 150, 151, 152, 153, 154, 155, 156, 157, 158] rfl (by decide +kernel)
set_option maxRecDepth 20000 in
theorem gX9_path_X9_isShot : GoodIn wsX9_path (wsV RX9 336 RX9 yX9_isShot wsX9_isShot) := goodIn_app (goodIn_of _ (by decide +kernel)) ggX9_path_X9_isShot
set_option maxRecDepth 20000 in
set_option maxRecDepth 100000 in
theorem ggX9_path_X9_in : GoodIn wsX9_path wsX9_in := goodIn_r _ [21] rfl (by decide +kernel)
set_option maxRecDepth 20000 in
theorem gX9_path_X9_in : GoodIn wsX9_path (va_wsS RX9 94 yX9_in wsX9_in) := goodIn_app (goodIn_of _ (by decide +kernel)) ggX9_path_X9_in
set_option maxRecDepth 20000 in
set_option maxRecDepth 100000 in
theorem ggX9_path_X9_passes2 : GoodIn wsX9_path wsX9_passes2 := goodIn_r _ [25, 26, 27, 28, 12, 29, 30, 118, 119, 120, 121, 122, 123, 124, 125, 126, 127, 128, 129, 130, 131, 132, 133, 134, 135, 136, 137, 138, 139, 140, 141, 142, 143, 144, 145, 146, 147, 148, 149, 150, 151, 152, 153, 154, 155, 156, 157, 158] rfl (by decide +kernel)
set_option maxRecDepth 20000 in
theorem gX9_path_X9_passes2 : GoodIn wsX9_path (wsV RX9 332 RX9 yX9_passes2 wsX9_passes2) := goodIn_app (goodIn_of _ (by decide +kernel)) ggX9_path_X9_passes2
set_option maxRecDepth 20000 in
set_option maxRecDepth 100000 in
theorem ggX9_path_X9_followShot : GoodIn wsX9_path wsX9_followShot := goodIn_r _ [34, 35, 36, 37, 12, 38, 18, 39, 40, 41, 42, 2, 8, 43, 7, 3, 44, 45, 46, 47, 48, 49, 50, 51, 52, 53, 54, 55, 19, 20, 21, 56, 57, 58, 59, 60, 61, 62, 63, 64, 65, 66, 67, 68, 69, 4, 5, 6, 70, 71, 72, 73, 74, 75, 76, 77, 78, 79, 80, 81, 82, 83, 84, 85, 86, 87, 88, 89, 90, 91, 92, 93, 94, 95, 96, 97, 98, 99, 100, 101, 102, 103, 118, 119, 120, 121, 122, 123, 124, 125, 126, 127, 128, 129, 130, 131, 132, 133, 134, 135, 136, 137, 138, 139, 140, 141, 142, 143, 144, 145, 146, 147, 148, 149, 150, 151, 152, 153, 154, 155, 156, 157, 158] rfl (by decide +kernel)
set_option maxRecDepth 20000 in
theorem gX9_path_X9_followShot : GoodIn wsX9_path (wsV RX9 185 RX9 yX9_followShot wsX9_followShot) := goodIn_app (goodIn_of _ (by decide +kernel)) ggX9_path_X9_followShot
set_option maxRecDepth 20000 in
set_option maxRecDepth 100000 in
theorem ggX9_path_X9_sumUp : GoodIn wsX9_path wsX9_sumUp := goodIn_r _ [106] rfl (by decide +kernel)
set_option maxRecDepth 20000 in
theorem gX9_path_X9_sumUp : GoodIn wsX9_path (va_wsS RX9 343 yX9_sumUp wsX9_sumUp) := goodIn_app (goodIn_of _ (by decide +kernel)) ggX9_path_X9_sumUp
set_option maxRecDepth 20000 in
set_option maxRecDepth 100000 in
theorem ggX9_path_X9_happened : GoodIn wsX9_path wsX9_happened := goodIn_r _ [110, 2, 47, 118, 119, 120, 121, 122, 123, 124, 125, 126, 127, 128, 129, 130, 131, 132, 133, 134, 135, 136, 137, 138, 139, 140, 141, 142, 143, 144, 145, 146, 147, 148, 149, 150, 151, 152, 153, 154, 155, 156, 157, 158] rfl (by decide +kernel)
set_option maxRecDepth 20000 in
theorem gX9_path_X9_happened : GoodIn wsX9_path (wsV RX9 347 RX9 yX9_happened wsX9_happened) := goodIn_app (goodIn_of _ (by decide +kernel)) ggX9_path_X9_happened
set_option maxRecDepth 20000 in
set_option maxRecDepth 100000 in
theorem ggX9_path_X9_deepest : GoodIn wsX9_path wsX9_deepest := goodIn_r _ [114, 2, 68, 115, 116, 66, 117, 118, 119, 120, 121, 122, 123, 124, 125, 126, 127, 128, 129, 130, 131, 132, 133, 134, 135, 136, 137, 138, 139, 140, 141, 142, 143, 144, 145, 146, 147, 148, 149, 150, 151, 152, 153, 154, 155, 156, 157, 158] rfl (by decide +kernel)
set_option maxRecDepth 20000 in
theorem gX9_path_X9_deepest : GoodIn wsX9_path (wsV RX9 350 RX9 yX9_deepest wsX9_deepest) := goodIn_app (goodIn_of _ (by decide +kernel)) ggX9_path_X9_deepest
theorem dX9_path_0 : decode cX9_path 0 = .ok (.aload_n 0, 1) := by decide +kernel
theorem dX9_path_1 : decode cX9_path 1 = .ok (.aload_n 0, 1) := by decide +kernel
theorem dX9_path_2 : decode cX9_path 2 = .ok (.iload_n 1, 1) := by decide +kernel
theorem dX9_path_3 : decode cX9_path 3 = .ok (.invokevirtual 336, 3) := by decide +kernel
theorem dX9_path_6 : decode cX9_path 6 = .ok (.iload_n 2, 1) := by decide +kernel
theorem dX9_path_7 : decode cX9_path 7 = .ok (.i2l, 1) := by decide +kernel
theorem dX9_path_8 : decode cX9_path 8 = .ok (.lconst 0, 1) := by decide +kernel
theorem dX9_path_9 : decode cX9_path 9 = .ok (.ldc2_w 341, 3) := by decide +kernel
theorem dX9_path_12 : decode cX9_path 12 = .ok (.invokestatic 94, 3) := by decide +kernel
theorem dX9_path_15 : decode cX9_path 15 = .ok (.invokevirtual 332, 3) := by decide +kernel
theorem dX9_path_18 : decode cX9_path 18 = .ok (.ifCond .ne 5, 3) := by decide +kernel
theorem dX9_path_21 : decode cX9_path 21 = .ok (.iconst 0, 1) := by decide +kernel
theorem dX9_path_22 : decode cX9_path 22 = .ok (.ireturn, 1) := by decide +kernel
theorem dX9_path_23 : decode cX9_path 23 = .ok (.aload_n 0, 1) := by decide +kernel
theorem dX9_path_24 : decode cX9_path 24 = .ok (.iload_n 1, 1) := by decide +kernel
theorem dX9_path_25 : decode cX9_path 25 = .ok (.invokevirtual 185, 3) := by decide +kernel
theorem dX9_path_28 : decode cX9_path 28 = .ok (.iload_n 2, 1) := by decide +kernel
theorem dX9_path_29 : decode cX9_path 29 = .ok (.tableswitch 120 0 8 #[51, 56, 61, 73, 85, 97, 103, 109, 114], 51) := by decide +kernel
theorem dX9_path_80 : decode cX9_path 80 = .ok (.aload_n 0, 1) := by decide +kernel
theorem dX9_path_81 : decode cX9_path 81 = .ok (.getfield 131, 3) := by decide +kernel
theorem dX9_path_84 : decode cX9_path 84 = .ok (.ireturn, 1) := by decide +kernel
theorem dX9_path_85 : decode cX9_path 85 = .ok (.aload_n 0, 1) := by decide +kernel
theorem dX9_path_86 : decode cX9_path 86 = .ok (.getfield 156, 3) := by decide +kernel
theorem dX9_path_89 : decode cX9_path 89 = .ok (.ireturn, 1) := by decide +kernel
theorem dX9_path_90 : decode cX9_path 90 = .ok (.aload_n 0, 1) := by decide +kernel
theorem dX9_path_91 : decode cX9_path 91 = .ok (.getfield 34, 3) := by decide +kernel
theorem dX9_path_94 : decode cX9_path 94 = .ok (.aload_n 0, 1) := by decide +kernel
theorem dX9_path_95 : decode cX9_path 95 = .ok (.getfield 131, 3) := by decide +kernel
theorem dX9_path_98 : decode cX9_path 98 = .ok (.invokestatic 343, 3) := by decide +kernel
theorem dX9_path_101 : decode cX9_path 101 = .ok (.ireturn, 1) := by decide +kernel
theorem dX9_path_102 : decode cX9_path 102 = .ok (.aload_n 0, 1) := by decide +kernel
theorem dX9_path_103 : decode cX9_path 103 = .ok (.getfield 37, 3) := by decide +kernel
theorem dX9_path_106 : decode cX9_path 106 = .ok (.aload_n 0, 1) := by decide +kernel
theorem dX9_path_107 : decode cX9_path 107 = .ok (.getfield 131, 3) := by decide +kernel
theorem dX9_path_110 : decode cX9_path 110 = .ok (.invokestatic 343, 3) := by decide +kernel
theorem dX9_path_113 : decode cX9_path 113 = .ok (.ireturn, 1) := by decide +kernel
theorem dX9_path_114 : decode cX9_path 114 = .ok (.aload_n 0, 1) := by decide +kernel
theorem dX9_path_115 : decode cX9_path 115 = .ok (.getfield 40, 3) := by decide +kernel
theorem dX9_path_118 : decode cX9_path 118 = .ok (.aload_n 0, 1) := by decide +kernel
theorem dX9_path_119 : decode cX9_path 119 = .ok (.getfield 131, 3) := by decide +kernel
theorem dX9_path_122 : decode cX9_path 122 = .ok (.invokestatic 343, 3) := by decide +kernel
theorem dX9_path_125 : decode cX9_path 125 = .ok (.ireturn, 1) := by decide +kernel
theorem dX9_path_126 : decode cX9_path 126 = .ok (.aload_n 0, 1) := by decide +kernel
theorem dX9_path_127 : decode cX9_path 127 = .ok (.getfield 119, 3) := by decide +kernel
theorem dX9_path_130 : decode cX9_path 130 = .ok (.l2i, 1) := by decide +kernel
theorem dX9_path_131 : decode cX9_path 131 = .ok (.ireturn, 1) := by decide +kernel
theorem dX9_path_132 : decode cX9_path 132 = .ok (.aload_n 0, 1) := by decide +kernel
theorem dX9_path_133 : decode cX9_path 133 = .ok (.iconst 1, 1) := by decide +kernel
theorem dX9_path_134 : decode cX9_path 134 = .ok (.invokevirtual 347, 3) := by decide +kernel
theorem dX9_path_137 : decode cX9_path 137 = .ok (.ireturn, 1) := by decide +kernel
theorem dX9_path_138 : decode cX9_path 138 = .ok (.aload_n 0, 1) := by decide +kernel
theorem dX9_path_139 : decode cX9_path 139 = .ok (.getfield 151, 3) := by decide +kernel
theorem dX9_path_142 : decode cX9_path 142 = .ok (.ireturn, 1) := by decide +kernel
theorem dX9_path_143 : decode cX9_path 143 = .ok (.aload_n 0, 1) := by decide +kernel
theorem dX9_path_144 : decode cX9_path 144 = .ok (.iconst 0, 1) := by decide +kernel
theorem dX9_path_145 : decode cX9_path 145 = .ok (.invokevirtual 347, 3) := by decide +kernel
theorem dX9_path_148 : decode cX9_path 148 = .ok (.ireturn, 1) := by decide +kernel
theorem dX9_path_149 : decode cX9_path 149 = .ok (.aload_n 0, 1) := by decide +kernel
theorem dX9_path_150 : decode cX9_path 150 = .ok (.invokevirtual 350, 3) := by decide +kernel
theorem dX9_path_153 : decode cX9_path 153 = .ok (.ireturn, 1) := by decide +kernel
set_option maxRecDepth 20000 in
set_option maxRecDepth 100000 in
theorem ggX9_hasLeg_X9_isShot : GoodIn wsX9_hasLeg wsX9_isShot := goodIn_r _ [6, 7, 8, 9, 5, 10, 11, 12, 13, 14, 94, 95, 96, 97, 98, 99, 100, 101, 102, 103, 104, 105, 106, 107, 108, 109, 110, 111, 112, 113, 114, 115, 116, 117, 118, 119, 120, 121, 122, 123, 124, 125, 126, 127, 128, 129, 130, 131, 132, 133, 134] rfl (by decide +kernel)
set_option maxRecDepth 20000 in
theorem gX9_hasLeg_X9_isShot : GoodIn wsX9_hasLeg (wsV RX9 336 RX9 yX9_isShot wsX9_isShot) := goodIn_app (goodIn_of _ (by decide +kernel)) ggX9_hasLeg_X9_isShot
set_option maxRecDepth 20000 in
set_option maxRecDepth 100000 in
theorem ggX9_hasLeg_X9_followShot : GoodIn wsX9_hasLeg wsX9_followShot := goodIn_r _ [18, 19, 20, 21, 5, 22, 11, 23, 24, 25, 26, 1, 27, 28, 29, 30, 31, 32, 33, 34, 35, 36, 37, 38, 39, 40, 41, 42, 12, 13, 14, 43, 44, 45, 46, 47, 48, 49, 50, 51, 52, 53, 54, 55, 56, 57, 58, 59, 60, 61, 62, 63, 64, 65, 66, 67, 68, 69, 70, 71, 72, 73, 74, 75, 76, 77, 78, 79, 80, 81, 82, 83, 84, 85, 86, 87, 88, 89, 90, 91, 92, 93, 94, 95, 96, 97, 98, 99, 100, 101, 102, 103, 104, 105, 106, 107, 108, 109, 110, 111, 112, 113, 114, 115, 116, 117, 118, 119, 120, 121, 122, 123, 124, 125, 126, 127, 128, 129, 130, 131, 132, 133, 134] rfl (by decide +kernel)
set_option maxRecDepth 20000 in
theorem gX9_hasLeg_X9_followShot : GoodIn wsX9_hasLeg (wsV RX9 185 RX9 yX9_followShot wsX9_followShot) := goodIn_app (goodIn_of _ (by decide +kernel)) ggX9_hasLeg_X9_followShot
set_option maxRecDepth 20000 in
set_option maxRecDepth 100000 in
theorem ggX9_hasLeg_X9_in : GoodIn wsX9_hasLeg wsX9_in := goodIn_r _ [14] rfl (by decide +kernel)
set_option maxRecDepth 20000 in
theorem gX9_hasLeg_X9_in : GoodIn wsX9_hasLeg (va_wsS RX9 94 yX9_in wsX9_in) := goodIn_app (goodIn_of _ (by decide +kernel)) ggX9_hasLeg_X9_in
theorem dX9_hasLeg_0 : decode cX9_hasLeg 0 = .ok (.aload_n 0, 1) := by decide +kernel
theorem dX9_hasLeg_1 : decode cX9_hasLeg 1 = .ok (.iload_n 1, 1) := by decide +kernel
theorem dX9_hasLeg_2 : decode cX9_hasLeg 2 = .ok (.invokevirtual 336, 3) := by decide +kernel
theorem dX9_hasLeg_5 : decode cX9_hasLeg 5 = .ok (.ifCond .ne 5, 3) := by decide +kernel
theorem dX9_hasLeg_8 : decode cX9_hasLeg 8 = .ok (.iconst 0, 1) := by decide +kernel
theorem dX9_hasLeg_9 : decode cX9_hasLeg 9 = .ok (.ireturn, 1) := by decide +kernel
theorem dX9_hasLeg_10 : decode cX9_hasLeg 10 = .ok (.aload_n 0, 1) := by decide +kernel
theorem dX9_hasLeg_11 : decode cX9_hasLeg 11 = .ok (.iload_n 1, 1) := by decide +kernel
theorem dX9_hasLeg_12 : decode cX9_hasLeg 12 = .ok (.invokevirtual 185, 3) := by decide +kernel
theorem dX9_hasLeg_15 : decode cX9_hasLeg 15 = .ok (.iload_n 2, 1) := by decide +kernel
theorem dX9_hasLeg_16 : decode cX9_hasLeg 16 = .ok (.i2l, 1) := by decide +kernel
theorem dX9_hasLeg_17 : decode cX9_hasLeg 17 = .ok (.lconst 0, 1) := by decide +kernel
theorem dX9_hasLeg_18 : decode cX9_hasLeg 18 = .ok (.aload_n 0, 1) := by decide +kernel
theorem dX9_hasLeg_19 : decode cX9_hasLeg 19 = .ok (.getfield 131, 3) := by decide +kernel
theorem dX9_hasLeg_22 : decode cX9_hasLeg 22 = .ok (.iconst 1, 1) := by decide +kernel
theorem dX9_hasLeg_23 : decode cX9_hasLeg 23 = .ok (.isub, 1) := by decide +kernel
theorem dX9_hasLeg_24 : decode cX9_hasLeg 24 = .ok (.i2l, 1) := by decide +kernel
theorem dX9_hasLeg_25 : decode cX9_hasLeg 25 = .ok (.invokestatic 94, 3) := by decide +kernel
theorem dX9_hasLeg_28 : decode cX9_hasLeg 28 = .ok (.ireturn, 1) := by decide +kernel
set_option maxRecDepth 20000 in
set_option maxRecDepth 100000 in
theorem ggX9_leg_X9_hasLeg : GoodIn wsX9_leg wsX9_hasLeg := goodIn_r _ [13, 14, 15, 16, 17, 12, 18, 19, 20, 21, 22, 23, 24, 25, 26, 27, 28, 29, 30, 31, 32, 33, 34, 35, 36, 37, 38, 39, 40, 41, 42, 43, 44, 45, 8, 46, 47, 48, 49, 50, 51, 52, 53, 54, 55, 56, 57, 58, 59, 60, 61, 62, 63, 64, 65, 2, 3, 4, 5, 6, 66, 7, 67, 68, 69, 70, 71, 72, 73, 74, 75, 76, 77, 78, 79, 80, 81, 82, 83, 84, 85, 86, 87, 88, 89, 90, 91, 92, 93, 94, 95, 96, 97, 98, 108, 109, 110, 111, 112, 113, 114, 115, 116, 117, 118, 119, 120, 121, 122, 123, 124, 125, 126, 127, 128, 129, 130, 131, 132, 133, 134, 135, 136, 137, 138, 139, 140, 141, 142, 143, 144, 145, 146, 147, 148] rfl (by decide +kernel)
set_option maxRecDepth 20000 in
theorem gX9_leg_X9_hasLeg : GoodIn wsX9_leg (wsV RX9 353 RX9 yX9_hasLeg wsX9_hasLeg) := goodIn_app (goodIn_of _ (by decide +kernel)) ggX9_leg_X9_hasLeg
set_option maxRecDepth 20000 in
set_option maxRecDepth 100000 in
theorem ggX9_leg_X9_in : GoodIn wsX9_leg wsX9_in := goodIn_r _ [26] rfl (by decide +kernel)
set_option maxRecDepth 20000 in
theorem gX9_leg_X9_in : GoodIn wsX9_leg (va_wsS RX9 94 yX9_in wsX9_in) := goodIn_app (goodIn_of _ (by decide +kernel)) ggX9_leg_X9_in
set_option maxRecDepth 20000 in
set_option maxRecDepth 100000 in
theorem ggX9_leg_X9_passes2 : GoodIn wsX9_leg wsX9_passes2 := goodIn_r _ [102, 103, 104, 105, 12, 106, 107, 108, 109, 110, 111, 112, 113, 114, 115, 116, 117, 118, 119, 120, 121, 122, 123, 124, 125, 126, 127, 128, 129, 130, 131, 132, 133, 134, 135, 136, 137, 138, 139, 140, 141, 142, 143, 144, 145, 146, 147, 148] rfl (by decide +kernel)
set_option maxRecDepth 20000 in
theorem gX9_leg_X9_passes2 : GoodIn wsX9_leg (wsV RX9 332 RX9 yX9_passes2 wsX9_passes2) := goodIn_app (goodIn_of _ (by decide +kernel)) ggX9_leg_X9_passes2
theorem dX9_leg_0 : decode cX9_leg 0 = .ok (.aload_n 0, 1) := by decide +kernel
theorem dX9_leg_1 : decode cX9_leg 1 = .ok (.aload_n 0, 1) := by decide +kernel
theorem dX9_leg_2 : decode cX9_leg 2 = .ok (.iload_n 1, 1) := by decide +kernel
theorem dX9_leg_3 : decode cX9_leg 3 = .ok (.iload_n 2, 1) := by decide +kernel
theorem dX9_leg_4 : decode cX9_leg 4 = .ok (.invokevirtual 353, 3) := by decide +kernel
theorem dX9_leg_7 : decode cX9_leg 7 = .ok (.iload_n 3, 1) := by decide +kernel
theorem dX9_leg_8 : decode cX9_leg 8 = .ok (.i2l, 1) := by decide +kernel
theorem dX9_leg_9 : decode cX9_leg 9 = .ok (.lconst 0, 1) := by decide +kernel
theorem dX9_leg_10 : decode cX9_leg 10 = .ok (.ldc2_w 357, 3) := by decide +kernel
theorem dX9_leg_13 : decode cX9_leg 13 = .ok (.invokestatic 94, 3) := by decide +kernel
theorem dX9_leg_16 : decode cX9_leg 16 = .ok (.invokevirtual 332, 3) := by decide +kernel
theorem dX9_leg_19 : decode cX9_leg 19 = .ok (.ifCond .ne 5, 3) := by decide +kernel
theorem dX9_leg_22 : decode cX9_leg 22 = .ok (.iconst 0, 1) := by decide +kernel
theorem dX9_leg_23 : decode cX9_leg 23 = .ok (.ireturn, 1) := by decide +kernel
theorem dX9_leg_24 : decode cX9_leg 24 = .ok (.iload_n 3, 1) := by decide +kernel
theorem dX9_leg_25 : decode cX9_leg 25 = .ok (.tableswitch 89 0 5 #[39, 46, 61, 68, 75, 82], 39) := by decide +kernel
theorem dX9_leg_64 : decode cX9_leg 64 = .ok (.aload_n 0, 1) := by decide +kernel
theorem dX9_leg_65 : decode cX9_leg 65 = .ok (.getfield 27, 3) := by decide +kernel
theorem dX9_leg_68 : decode cX9_leg 68 = .ok (.iload_n 2, 1) := by decide +kernel
theorem dX9_leg_69 : decode cX9_leg 69 = .ok (.iaload, 1) := by decide +kernel
theorem dX9_leg_70 : decode cX9_leg 70 = .ok (.ireturn, 1) := by decide +kernel
theorem dX9_leg_71 : decode cX9_leg 71 = .ok (.aload_n 0, 1) := by decide +kernel
theorem dX9_leg_72 : decode cX9_leg 72 = .ok (.getfield 30, 3) := by decide +kernel
theorem dX9_leg_75 : decode cX9_leg 75 = .ok (.iload_n 2, 1) := by decide +kernel
theorem dX9_leg_76 : decode cX9_leg 76 = .ok (.baload, 1) := by decide +kernel
theorem dX9_leg_77 : decode cX9_leg 77 = .ok (.ifCond .eq 7, 3) := by decide +kernel
theorem dX9_leg_80 : decode cX9_leg 80 = .ok (.iconst 1, 1) := by decide +kernel
theorem dX9_leg_81 : decode cX9_leg 81 = .ok (.goto 4, 3) := by decide +kernel
theorem dX9_leg_84 : decode cX9_leg 84 = .ok (.iconst 0, 1) := by decide +kernel
theorem dX9_leg_85 : decode cX9_leg 85 = .ok (.ireturn, 1) := by decide +kernel
theorem dX9_leg_86 : decode cX9_leg 86 = .ok (.aload_n 0, 1) := by decide +kernel
theorem dX9_leg_87 : decode cX9_leg 87 = .ok (.getfield 34, 3) := by decide +kernel
theorem dX9_leg_90 : decode cX9_leg 90 = .ok (.iload_n 2, 1) := by decide +kernel
theorem dX9_leg_91 : decode cX9_leg 91 = .ok (.iaload, 1) := by decide +kernel
theorem dX9_leg_92 : decode cX9_leg 92 = .ok (.ireturn, 1) := by decide +kernel
theorem dX9_leg_93 : decode cX9_leg 93 = .ok (.aload_n 0, 1) := by decide +kernel
theorem dX9_leg_94 : decode cX9_leg 94 = .ok (.getfield 37, 3) := by decide +kernel
theorem dX9_leg_97 : decode cX9_leg 97 = .ok (.iload_n 2, 1) := by decide +kernel
theorem dX9_leg_98 : decode cX9_leg 98 = .ok (.iaload, 1) := by decide +kernel
theorem dX9_leg_99 : decode cX9_leg 99 = .ok (.ireturn, 1) := by decide +kernel
theorem dX9_leg_100 : decode cX9_leg 100 = .ok (.aload_n 0, 1) := by decide +kernel
theorem dX9_leg_101 : decode cX9_leg 101 = .ok (.getfield 40, 3) := by decide +kernel
theorem dX9_leg_104 : decode cX9_leg 104 = .ok (.iload_n 2, 1) := by decide +kernel
theorem dX9_leg_105 : decode cX9_leg 105 = .ok (.iaload, 1) := by decide +kernel
theorem dX9_leg_106 : decode cX9_leg 106 = .ok (.ireturn, 1) := by decide +kernel
theorem dX9_leg_107 : decode cX9_leg 107 = .ok (.aload_n 0, 1) := by decide +kernel
theorem dX9_leg_108 : decode cX9_leg 108 = .ok (.getfield 43, 3) := by decide +kernel
theorem dX9_leg_111 : decode cX9_leg 111 = .ok (.iload_n 2, 1) := by decide +kernel
theorem dX9_leg_112 : decode cX9_leg 112 = .ok (.iaload, 1) := by decide +kernel
theorem dX9_leg_113 : decode cX9_leg 113 = .ok (.ireturn, 1) := by decide +kernel
theorem dX9_leg_114 : decode cX9_leg 114 = .ok (.aload_n 0, 1) := by decide +kernel
theorem dX9_leg_115 : decode cX9_leg 115 = .ok (.getfield 46, 3) := by decide +kernel
theorem dX9_leg_118 : decode cX9_leg 118 = .ok (.iload_n 2, 1) := by decide +kernel
theorem dX9_leg_119 : decode cX9_leg 119 = .ok (.iaload, 1) := by decide +kernel
theorem dX9_leg_120 : decode cX9_leg 120 = .ok (.ireturn, 1) := by decide +kernel
set_option maxRecDepth 20000 in
set_option maxRecDepth 100000 in
theorem ggX9_legAt_X9_isShot : GoodIn wsX9_legAt wsX9_isShot := goodIn_r _ [5, 6, 7, 8, 4, 9, 10, 11, 12, 13, 107, 108, 109, 110, 111, 112, 113, 114, 115, 116, 117, 118, 119, 120, 121, 122, 123, 124, 125, 126, 127, 128, 129, 130, 131, 132, 133, 134, 135, 136, 137, 138, 139, 140, 141, 142, 143, 144, 145, 146, 147] rfl (by decide +kernel)
set_option maxRecDepth 20000 in
theorem gX9_legAt_X9_isShot : GoodIn wsX9_legAt (wsV RX9 336 RX9 yX9_isShot wsX9_isShot) := goodIn_app (goodIn_of _ (by decide +kernel)) ggX9_legAt_X9_isShot
set_option maxRecDepth 20000 in
set_option maxRecDepth 100000 in
theorem ggX9_legAt_X9_passes2 : GoodIn wsX9_legAt wsX9_passes2 := goodIn_r _ [17, 18, 19, 20, 4, 21, 22, 107, 108, 109, 110, 111, 112, 113, 114, 115, 116, 117, 118, 119, 120, 121, 122, 123, 124, 125, 126, 127, 128, 129, 130, 131, 132, 133, 134, 135, 136, 137, 138, 139, 140, 141, 142, 143, 144, 145, 146, 147] rfl (by decide +kernel)
set_option maxRecDepth 20000 in
theorem gX9_legAt_X9_passes2 : GoodIn wsX9_legAt (wsV RX9 332 RX9 yX9_passes2 wsX9_passes2) := goodIn_app (goodIn_of _ (by decide +kernel)) ggX9_legAt_X9_passes2
set_option maxRecDepth 20000 in
set_option maxRecDepth 100000 in
theorem ggX9_legAt_X9_followShot : GoodIn wsX9_legAt wsX9_followShot := goodIn_r _ [26, 27, 28, 29, 4, 30, 10, 31, 32, 33, 34, 35, 36, 37, 38, 39, 40, 41, 42, 43, 44, 45, 46, 47, 48, 49, 50, 51, 11, 12, 13, 52, 53, 54, 55, 56, 57, 58, 59, 60, 61, 62, 63, 64, 65, 66, 67, 68, 69, 70, 71, 72, 73, 74, 75, 76, 77, 78, 79, 80, 81, 82, 83, 84, 85, 86, 87, 88, 89, 90, 91, 92, 93, 94, 95, 96, 97, 98, 99, 100, 101, 102, 107, 108, 109, 110, 111, 112, 113, 114, 115, 116, 117, 118, 119, 120, 121, 122, 123, 124, 125, 126, 127, 128, 129, 130, 131, 132, 133, 134, 135, 136, 137, 138, 139, 140, 141, 142, 143, 144, 145, 146, 147] rfl (by decide +kernel)
set_option maxRecDepth 20000 in
theorem gX9_legAt_X9_followShot : GoodIn wsX9_legAt (wsV RX9 185 RX9 yX9_followShot wsX9_followShot) := goodIn_app (goodIn_of _ (by decide +kernel)) ggX9_legAt_X9_followShot
set_option maxRecDepth 20000 in
set_option maxRecDepth 100000 in
theorem ggX9_legAt_X9_legNow : GoodIn wsX9_legAt wsX9_legNow := goodIn_r _ [106, 35, 68, 107, 108, 109, 110, 111, 112, 113, 114, 115, 116, 117, 118, 119, 120, 121, 122, 123, 124, 125, 126, 127, 128, 129, 130, 131, 132, 133, 134, 135, 136, 137, 138, 139, 140, 141, 142, 143, 144, 145, 146, 147] rfl (by decide +kernel)
set_option maxRecDepth 20000 in
theorem gX9_legAt_X9_legNow : GoodIn wsX9_legAt (wsV RX9 359 RX9 yX9_legNow wsX9_legNow) := goodIn_app (goodIn_of _ (by decide +kernel)) ggX9_legAt_X9_legNow
theorem dX9_legAt_0 : decode cX9_legAt 0 = .ok (.aload_n 0, 1) := by decide +kernel
theorem dX9_legAt_1 : decode cX9_legAt 1 = .ok (.aload_n 0, 1) := by decide +kernel
theorem dX9_legAt_2 : decode cX9_legAt 2 = .ok (.iload_n 1, 1) := by decide +kernel
theorem dX9_legAt_3 : decode cX9_legAt 3 = .ok (.invokevirtual 336, 3) := by decide +kernel
theorem dX9_legAt_6 : decode cX9_legAt 6 = .ok (.iload_n 2, 1) := by decide +kernel
theorem dX9_legAt_7 : decode cX9_legAt 7 = .ok (.ifCond .lt 7, 3) := by decide +kernel
theorem dX9_legAt_10 : decode cX9_legAt 10 = .ok (.iconst 1, 1) := by decide +kernel
theorem dX9_legAt_11 : decode cX9_legAt 11 = .ok (.goto 4, 3) := by decide +kernel
theorem dX9_legAt_14 : decode cX9_legAt 14 = .ok (.iconst 0, 1) := by decide +kernel
theorem dX9_legAt_15 : decode cX9_legAt 15 = .ok (.invokevirtual 332, 3) := by decide +kernel
theorem dX9_legAt_18 : decode cX9_legAt 18 = .ok (.ifCond .ne 5, 3) := by decide +kernel
theorem dX9_legAt_21 : decode cX9_legAt 21 = .ok (.iconst 0, 1) := by decide +kernel
theorem dX9_legAt_22 : decode cX9_legAt 22 = .ok (.ireturn, 1) := by decide +kernel
theorem dX9_legAt_23 : decode cX9_legAt 23 = .ok (.aload_n 0, 1) := by decide +kernel
theorem dX9_legAt_24 : decode cX9_legAt 24 = .ok (.iload_n 1, 1) := by decide +kernel
theorem dX9_legAt_25 : decode cX9_legAt 25 = .ok (.invokevirtual 185, 3) := by decide +kernel
theorem dX9_legAt_28 : decode cX9_legAt 28 = .ok (.aload_n 0, 1) := by decide +kernel
theorem dX9_legAt_29 : decode cX9_legAt 29 = .ok (.iload_n 2, 1) := by decide +kernel
theorem dX9_legAt_30 : decode cX9_legAt 30 = .ok (.invokevirtual 359, 3) := by decide +kernel
theorem dX9_legAt_33 : decode cX9_legAt 33 = .ok (.ireturn, 1) := by decide +kernel
set_option maxRecDepth 20000 in
set_option maxRecDepth 100000 in
theorem ggX9_partOf_X9_sumUp : GoodIn wsX9_partOf wsX9_sumUp := goodIn_r _ [5] rfl (by decide +kernel)
set_option maxRecDepth 20000 in
theorem gX9_partOf_X9_sumUp : GoodIn wsX9_partOf (va_wsS RX9 343 yX9_sumUp wsX9_sumUp) := goodIn_app (goodIn_of _ (by decide +kernel)) ggX9_partOf_X9_sumUp
theorem dX9_partOf_0 : decode cX9_partOf 0 = .ok (.iload_n 1, 1) := by decide +kernel
theorem dX9_partOf_1 : decode cX9_partOf 1 = .ok (.i2l, 1) := by decide +kernel
theorem dX9_partOf_2 : decode cX9_partOf 2 = .ok (.iload_n 3, 1) := by decide +kernel
theorem dX9_partOf_3 : decode cX9_partOf 3 = .ok (.aload_n 0, 1) := by decide +kernel
theorem dX9_partOf_4 : decode cX9_partOf 4 = .ok (.getfield 40, 3) := by decide +kernel
theorem dX9_partOf_7 : decode cX9_partOf 7 = .ok (.iload_n 2, 1) := by decide +kernel
theorem dX9_partOf_8 : decode cX9_partOf 8 = .ok (.invokestatic 343, 3) := by decide +kernel
theorem dX9_partOf_11 : decode cX9_partOf 11 = .ok (.isub, 1) := by decide +kernel
theorem dX9_partOf_12 : decode cX9_partOf 12 = .ok (.i2l, 1) := by decide +kernel
theorem dX9_partOf_13 : decode cX9_partOf 13 = .ok (.lmul, 1) := by decide +kernel
theorem dX9_partOf_14 : decode cX9_partOf 14 = .ok (.aload_n 0, 1) := by decide +kernel
theorem dX9_partOf_15 : decode cX9_partOf 15 = .ok (.getfield 40, 3) := by decide +kernel
theorem dX9_partOf_18 : decode cX9_partOf 18 = .ok (.iload_n 2, 1) := by decide +kernel
theorem dX9_partOf_19 : decode cX9_partOf 19 = .ok (.iaload, 1) := by decide +kernel
theorem dX9_partOf_20 : decode cX9_partOf 20 = .ok (.i2l, 1) := by decide +kernel
theorem dX9_partOf_21 : decode cX9_partOf 21 = .ok (.ldiv, 1) := by decide +kernel
theorem dX9_partOf_22 : decode cX9_partOf 22 = .ok (.l2i, 1) := by decide +kernel
theorem dX9_partOf_23 : decode cX9_partOf 23 = .ok (.ireturn, 1) := by decide +kernel
set_option maxRecDepth 20000 in
set_option maxRecDepth 100000 in
theorem ggX9_shiftAt_X9_isShot : GoodIn wsX9_shiftAt wsX9_isShot := goodIn_r _ [7, 8, 9, 10, 6, 11, 12, 13, 14, 15, 114, 115, 116, 117, 118, 119, 120, 121, 122, 123, 124, 125, 126, 127, 128, 129, 130, 131, 132, 133, 134, 135, 136, 137, 138, 139, 140, 141, 142, 143, 144, 145, 146, 147, 148, 149, 150, 151, 152, 153, 154] rfl (by decide +kernel)
set_option maxRecDepth 20000 in
theorem gX9_shiftAt_X9_isShot : GoodIn wsX9_shiftAt (wsV RX9 336 RX9 yX9_isShot wsX9_isShot) := goodIn_app (goodIn_of _ (by decide +kernel)) ggX9_shiftAt_X9_isShot
set_option maxRecDepth 20000 in
set_option maxRecDepth 100000 in
theorem ggX9_shiftAt_X9_passes2 : GoodIn wsX9_shiftAt wsX9_passes2 := goodIn_r _ [19, 20, 21, 22, 6, 23, 24, 114, 115, 116, 117, 118, 119, 120, 121, 122, 123, 124, 125, 126, 127, 128, 129, 130, 131, 132, 133, 134, 135, 136, 137, 138, 139, 140, 141, 142, 143, 144, 145, 146, 147, 148, 149, 150, 151, 152, 153, 154] rfl (by decide +kernel)
set_option maxRecDepth 20000 in
theorem gX9_shiftAt_X9_passes2 : GoodIn wsX9_shiftAt (wsV RX9 332 RX9 yX9_passes2 wsX9_passes2) := goodIn_app (goodIn_of _ (by decide +kernel)) ggX9_shiftAt_X9_passes2
set_option maxRecDepth 20000 in
set_option maxRecDepth 100000 in
theorem ggX9_shiftAt_X9_followShot : GoodIn wsX9_shiftAt wsX9_followShot := goodIn_r _ [28, 29, 30, 31, 6, 32, 12, 33, 34, 35, 36, 2, 37, 38, 39, 40, 41, 42, 43, 44, 45, 46, 47, 48, 49, 50, 51, 52, 13, 14, 15, 53, 54, 55, 56, 57, 58, 59, 60, 61, 62, 63, 64, 65, 66, 1, 67, 68, 69, 70, 71, 72, 73, 74, 75, 76, 77, 78, 79, 80, 81, 82, 83, 84, 85, 86, 87, 88, 89, 90, 91, 92, 93, 94, 95, 96, 97, 98, 99, 100, 101, 102, 114, 115, 116, 117, 118, 119, 120, 121, 122, 123, 124, 125, 126, 127, 128, 129, 130, 131, 132, 133, 134, 135, 136, 137, 138, 139, 140, 141, 142, 143, 144, 145, 146, 147, 148, 149, 150, 151, 152, 153, 154] rfl (by decide +kernel)
set_option maxRecDepth 20000 in
theorem gX9_shiftAt_X9_followShot : GoodIn wsX9_shiftAt (wsV RX9 185 RX9 yX9_followShot wsX9_followShot) := goodIn_app (goodIn_of _ (by decide +kernel)) ggX9_shiftAt_X9_followShot
set_option maxRecDepth 20000 in
set_option maxRecDepth 100000 in
theorem ggX9_shiftAt_X9_legNow : GoodIn wsX9_shiftAt wsX9_legNow := goodIn_r _ [106, 2, 68, 114, 115, 116, 117, 118, 119, 120, 121, 122, 123, 124, 125, 126, 127, 128, 129, 130, 131, 132, 133, 134, 135, 136, 137, 138, 139, 140, 141, 142, 143, 144, 145, 146, 147, 148, 149, 150, 151, 152, 153, 154] rfl (by decide +kernel)
set_option maxRecDepth 20000 in
theorem gX9_shiftAt_X9_legNow : GoodIn wsX9_shiftAt (wsV RX9 359 RX9 yX9_legNow wsX9_legNow) := goodIn_app (goodIn_of _ (by decide +kernel)) ggX9_shiftAt_X9_legNow
set_option maxRecDepth 20000 in
set_option maxRecDepth 100000 in
theorem ggX9_shiftAt_X9_sumUp : GoodIn wsX9_shiftAt wsX9_sumUp := goodIn_r _ [109] rfl (by decide +kernel)
set_option maxRecDepth 20000 in
theorem gX9_shiftAt_X9_sumUp : GoodIn wsX9_shiftAt (va_wsS RX9 343 yX9_sumUp wsX9_sumUp) := goodIn_app (goodIn_of _ (by decide +kernel)) ggX9_shiftAt_X9_sumUp
set_option maxRecDepth 20000 in
set_option maxRecDepth 100000 in
theorem ggX9_shiftAt_X9_partOf : GoodIn wsX9_shiftAt wsX9_partOf := goodIn_r _ [113, 68, 107, 108, 6, 109, 114, 115, 116, 117, 118, 119, 120, 121, 122, 123, 124, 125, 126, 127, 128, 129, 130, 131, 132, 133, 134, 135, 136, 137, 138, 139, 140, 141, 142, 143, 144, 145, 146, 147, 148, 149, 150, 151, 152, 153, 154] rfl (by decide +kernel)
set_option maxRecDepth 20000 in
theorem gX9_shiftAt_X9_partOf : GoodIn wsX9_shiftAt (wsV RX9 362 RX9 yX9_partOf wsX9_partOf) := goodIn_app (goodIn_of _ (by decide +kernel)) ggX9_shiftAt_X9_partOf
theorem dX9_shiftAt_0 : decode cX9_shiftAt 0 = .ok (.aload_n 0, 1) := by decide +kernel
theorem dX9_shiftAt_1 : decode cX9_shiftAt 1 = .ok (.aload_n 0, 1) := by decide +kernel
theorem dX9_shiftAt_2 : decode cX9_shiftAt 2 = .ok (.iload_n 1, 1) := by decide +kernel
theorem dX9_shiftAt_3 : decode cX9_shiftAt 3 = .ok (.invokevirtual 336, 3) := by decide +kernel
theorem dX9_shiftAt_6 : decode cX9_shiftAt 6 = .ok (.iload_n 2, 1) := by decide +kernel
theorem dX9_shiftAt_7 : decode cX9_shiftAt 7 = .ok (.ifCond .lt 7, 3) := by decide +kernel
theorem dX9_shiftAt_10 : decode cX9_shiftAt 10 = .ok (.iconst 1, 1) := by decide +kernel
theorem dX9_shiftAt_11 : decode cX9_shiftAt 11 = .ok (.goto 4, 3) := by decide +kernel
theorem dX9_shiftAt_14 : decode cX9_shiftAt 14 = .ok (.iconst 0, 1) := by decide +kernel
theorem dX9_shiftAt_15 : decode cX9_shiftAt 15 = .ok (.invokevirtual 332, 3) := by decide +kernel
theorem dX9_shiftAt_18 : decode cX9_shiftAt 18 = .ok (.ifCond .ne 5, 3) := by decide +kernel
theorem dX9_shiftAt_21 : decode cX9_shiftAt 21 = .ok (.iconst 0, 1) := by decide +kernel
theorem dX9_shiftAt_22 : decode cX9_shiftAt 22 = .ok (.ireturn, 1) := by decide +kernel
theorem dX9_shiftAt_23 : decode cX9_shiftAt 23 = .ok (.aload_n 0, 1) := by decide +kernel
theorem dX9_shiftAt_24 : decode cX9_shiftAt 24 = .ok (.iload_n 1, 1) := by decide +kernel
theorem dX9_shiftAt_25 : decode cX9_shiftAt 25 = .ok (.invokevirtual 185, 3) := by decide +kernel
theorem dX9_shiftAt_28 : decode cX9_shiftAt 28 = .ok (.aload_n 0, 1) := by decide +kernel
theorem dX9_shiftAt_29 : decode cX9_shiftAt 29 = .ok (.iload_n 2, 1) := by decide +kernel
theorem dX9_shiftAt_30 : decode cX9_shiftAt 30 = .ok (.invokevirtual 359, 3) := by decide +kernel
theorem dX9_shiftAt_33 : decode cX9_shiftAt 33 = .ok (.istore_n 3, 1) := by decide +kernel
theorem dX9_shiftAt_34 : decode cX9_shiftAt 34 = .ok (.iload_n 3, 1) := by decide +kernel
theorem dX9_shiftAt_35 : decode cX9_shiftAt 35 = .ok (.iconst (-1), 1) := by decide +kernel
theorem dX9_shiftAt_36 : decode cX9_shiftAt 36 = .ok (.if_icmp .ne 17, 3) := by decide +kernel
theorem dX9_shiftAt_39 : decode cX9_shiftAt 39 = .ok (.aload_n 0, 1) := by decide +kernel
theorem dX9_shiftAt_40 : decode cX9_shiftAt 40 = .ok (.getfield 34, 3) := by decide +kernel
theorem dX9_shiftAt_43 : decode cX9_shiftAt 43 = .ok (.aload_n 0, 1) := by decide +kernel
theorem dX9_shiftAt_44 : decode cX9_shiftAt 44 = .ok (.getfield 131, 3) := by decide +kernel
theorem dX9_shiftAt_47 : decode cX9_shiftAt 47 = .ok (.invokestatic 343, 3) := by decide +kernel
theorem dX9_shiftAt_50 : decode cX9_shiftAt 50 = .ok (.goto 24, 3) := by decide +kernel
theorem dX9_shiftAt_53 : decode cX9_shiftAt 53 = .ok (.aload_n 0, 1) := by decide +kernel
theorem dX9_shiftAt_54 : decode cX9_shiftAt 54 = .ok (.getfield 34, 3) := by decide +kernel
theorem dX9_shiftAt_57 : decode cX9_shiftAt 57 = .ok (.iload_n 3, 1) := by decide +kernel
theorem dX9_shiftAt_58 : decode cX9_shiftAt 58 = .ok (.invokestatic 343, 3) := by decide +kernel
theorem dX9_shiftAt_61 : decode cX9_shiftAt 61 = .ok (.aload_n 0, 1) := by decide +kernel
theorem dX9_shiftAt_62 : decode cX9_shiftAt 62 = .ok (.aload_n 0, 1) := by decide +kernel
theorem dX9_shiftAt_63 : decode cX9_shiftAt 63 = .ok (.getfield 34, 3) := by decide +kernel
theorem dX9_shiftAt_66 : decode cX9_shiftAt 66 = .ok (.iload_n 3, 1) := by decide +kernel
theorem dX9_shiftAt_67 : decode cX9_shiftAt 67 = .ok (.iaload, 1) := by decide +kernel
theorem dX9_shiftAt_68 : decode cX9_shiftAt 68 = .ok (.iload_n 3, 1) := by decide +kernel
theorem dX9_shiftAt_69 : decode cX9_shiftAt 69 = .ok (.iload_n 2, 1) := by decide +kernel
theorem dX9_shiftAt_70 : decode cX9_shiftAt 70 = .ok (.invokevirtual 362, 3) := by decide +kernel
theorem dX9_shiftAt_73 : decode cX9_shiftAt 73 = .ok (.iadd, 1) := by decide +kernel
theorem dX9_shiftAt_74 : decode cX9_shiftAt 74 = .ok (.ireturn, 1) := by decide +kernel
set_option maxRecDepth 20000 in
set_option maxRecDepth 100000 in
theorem ggX9_depthAt_X9_isShot : GoodIn wsX9_depthAt wsX9_isShot := goodIn_r _ [7, 8, 9, 10, 6, 11, 12, 13, 14, 15, 118, 119, 120, 121, 122, 123, 124, 125, 126, 127, 128, 129, 130, 131, 132, 133, 134, 135, 136, 137, 138, 139, 140, 141, 142, 143, 144, 145, 146, 147, 148, 149, 150, 151, 152, 153, 154, 155, 156, 157, 158] rfl (by decide +kernel)
set_option maxRecDepth 20000 in
theorem gX9_depthAt_X9_isShot : GoodIn wsX9_depthAt (wsV RX9 336 RX9 yX9_isShot wsX9_isShot) := goodIn_app (goodIn_of _ (by decide +kernel)) ggX9_depthAt_X9_isShot
set_option maxRecDepth 20000 in
set_option maxRecDepth 100000 in
theorem ggX9_depthAt_X9_passes2 : GoodIn wsX9_depthAt wsX9_passes2 := goodIn_r _ [19, 20, 21, 22, 6, 23, 24, 118, 119, 120, 121, 122, 123, 124, 125, 126, 127, 128, 129, 130, 131, 132, 133, 134, 135, 136, 137, 138, 139, 140, 141, 142, 143, 144, 145, 146, 147, 148, 149, 150, 151, 152, 153, 154, 155, 156, 157, 158] rfl (by decide +kernel)
set_option maxRecDepth 20000 in
theorem gX9_depthAt_X9_passes2 : GoodIn wsX9_depthAt (wsV RX9 332 RX9 yX9_passes2 wsX9_passes2) := goodIn_app (goodIn_of _ (by decide +kernel)) ggX9_depthAt_X9_passes2
set_option maxRecDepth 20000 in
set_option maxRecDepth 100000 in
theorem ggX9_depthAt_X9_followShot : GoodIn wsX9_depthAt wsX9_followShot := goodIn_r _ [28, 29, 30, 31, 6, 32, 12, 33, 34, 35, 36, 37, 38, 39, 40, 41, 42, 43, 44, 45, 46, 47, 48, 49, 50, 51, 52, 53, 13, 14, 15, 54, 55, 56, 57, 58, 59, 60, 61, 62, 63, 64, 65, 1, 2, 66, 67, 68, 69, 70, 71, 72, 73, 74, 75, 76, 77, 78, 79, 80, 81, 82, 83, 84, 85, 86, 87, 88, 89, 90, 91, 92, 93, 94, 95, 96, 97, 98, 99, 100, 101, 102, 118, 119, 120, 121, 122, 123, 124, 125, 126, 127, 128, 129, 130, 131, 132, 133, 134, 135, 136, 137, 138, 139, 140, 141, 142, 143, 144, 145, 146, 147, 148, 149, 150, 151, 152, 153, 154, 155, 156, 157, 158] rfl (by decide +kernel)
set_option maxRecDepth 20000 in
theorem gX9_depthAt_X9_followShot : GoodIn wsX9_depthAt (wsV RX9 185 RX9 yX9_followShot wsX9_followShot) := goodIn_app (goodIn_of _ (by decide +kernel)) ggX9_depthAt_X9_followShot
set_option maxRecDepth 20000 in
set_option maxRecDepth 100000 in
theorem ggX9_depthAt_X9_legNow : GoodIn wsX9_depthAt wsX9_legNow := goodIn_r _ [106, 37, 68, 118, 119, 120, 121, 122, 123, 124, 125, 126, 127, 128, 129, 130, 131, 132, 133, 134, 135, 136, 137, 138, 139, 140, 141, 142, 143, 144, 145, 146, 147, 148, 149, 150, 151, 152, 153, 154, 155, 156, 157, 158] rfl (by decide +kernel)
set_option maxRecDepth 20000 in
theorem gX9_depthAt_X9_legNow : GoodIn wsX9_depthAt (wsV RX9 359 RX9 yX9_legNow wsX9_legNow) := goodIn_app (goodIn_of _ (by decide +kernel)) ggX9_depthAt_X9_legNow
set_option maxRecDepth 20000 in
set_option maxRecDepth 100000 in
theorem ggX9_depthAt_X9_ofLayer : GoodIn wsX9_depthAt wsX9_ofLayer := goodIn_r _ [57, 12, 118, 119, 120, 121, 122, 123, 124, 125, 126, 127, 128, 129, 130, 131, 132, 133, 134, 135, 136, 137, 138, 139, 140, 141, 142, 143, 144, 145, 146, 147, 148, 149, 150, 151, 152, 153, 154, 155, 156, 157, 158] rfl (by decide +kernel)
set_option maxRecDepth 20000 in
theorem gX9_depthAt_X9_ofLayer : GoodIn wsX9_depthAt (wsV RX9 105 RX9 yX9_ofLayer wsX9_ofLayer) := goodIn_app (goodIn_of _ (by decide +kernel)) ggX9_depthAt_X9_ofLayer
set_option maxRecDepth 20000 in
set_option maxRecDepth 100000 in
theorem ggX9_depthAt_X9_partOf : GoodIn wsX9_depthAt wsX9_partOf := goodIn_r _ [110, 68, 111, 112, 6, 113, 118, 119, 120, 121, 122, 123, 124, 125, 126, 127, 128, 129, 130, 131, 132, 133, 134, 135, 136, 137, 138, 139, 140, 141, 142, 143, 144, 145, 146, 147, 148, 149, 150, 151, 152, 153, 154, 155, 156, 157, 158] rfl (by decide +kernel)
set_option maxRecDepth 20000 in
theorem gX9_depthAt_X9_partOf : GoodIn wsX9_depthAt (wsV RX9 362 RX9 yX9_partOf wsX9_partOf) := goodIn_app (goodIn_of _ (by decide +kernel)) ggX9_depthAt_X9_partOf
set_option maxRecDepth 20000 in
set_option maxRecDepth 100000 in
theorem ggX9_depthAt_X9_depthOf : GoodIn wsX9_depthAt wsX9_depthOf := goodIn_r _ [117, 54, 55, 56, 6, 57, 12, 118, 119, 120, 121, 122, 123, 124, 125, 126, 127, 128, 129, 130, 131, 132, 133, 134, 135, 136, 137, 138, 139, 140, 141, 142, 143, 144, 145, 146, 147, 148, 149, 150, 151, 152, 153, 154, 155, 156, 157, 158] rfl (by decide +kernel)
set_option maxRecDepth 20000 in
theorem gX9_depthAt_X9_depthOf : GoodIn wsX9_depthAt (wsV RX9 327 RX9 yX9_depthOf wsX9_depthOf) := goodIn_app (goodIn_of _ (by decide +kernel)) ggX9_depthAt_X9_depthOf
theorem dX9_depthAt_0 : decode cX9_depthAt 0 = .ok (.aload_n 0, 1) := by decide +kernel
theorem dX9_depthAt_1 : decode cX9_depthAt 1 = .ok (.aload_n 0, 1) := by decide +kernel
theorem dX9_depthAt_2 : decode cX9_depthAt 2 = .ok (.iload_n 1, 1) := by decide +kernel
theorem dX9_depthAt_3 : decode cX9_depthAt 3 = .ok (.invokevirtual 336, 3) := by decide +kernel
theorem dX9_depthAt_6 : decode cX9_depthAt 6 = .ok (.iload_n 2, 1) := by decide +kernel
theorem dX9_depthAt_7 : decode cX9_depthAt 7 = .ok (.ifCond .lt 7, 3) := by decide +kernel
theorem dX9_depthAt_10 : decode cX9_depthAt 10 = .ok (.iconst 1, 1) := by decide +kernel
theorem dX9_depthAt_11 : decode cX9_depthAt 11 = .ok (.goto 4, 3) := by decide +kernel
theorem dX9_depthAt_14 : decode cX9_depthAt 14 = .ok (.iconst 0, 1) := by decide +kernel
theorem dX9_depthAt_15 : decode cX9_depthAt 15 = .ok (.invokevirtual 332, 3) := by decide +kernel
theorem dX9_depthAt_18 : decode cX9_depthAt 18 = .ok (.ifCond .ne 5, 3) := by decide +kernel
theorem dX9_depthAt_21 : decode cX9_depthAt 21 = .ok (.iconst 0, 1) := by decide +kernel
theorem dX9_depthAt_22 : decode cX9_depthAt 22 = .ok (.ireturn, 1) := by decide +kernel
theorem dX9_depthAt_23 : decode cX9_depthAt 23 = .ok (.aload_n 0, 1) := by decide +kernel
theorem dX9_depthAt_24 : decode cX9_depthAt 24 = .ok (.iload_n 1, 1) := by decide +kernel
theorem dX9_depthAt_25 : decode cX9_depthAt 25 = .ok (.invokevirtual 185, 3) := by decide +kernel
theorem dX9_depthAt_28 : decode cX9_depthAt 28 = .ok (.aload_n 0, 1) := by decide +kernel
theorem dX9_depthAt_29 : decode cX9_depthAt 29 = .ok (.iload_n 2, 1) := by decide +kernel
theorem dX9_depthAt_30 : decode cX9_depthAt 30 = .ok (.invokevirtual 359, 3) := by decide +kernel
theorem dX9_depthAt_33 : decode cX9_depthAt 33 = .ok (.istore_n 3, 1) := by decide +kernel
theorem dX9_depthAt_34 : decode cX9_depthAt 34 = .ok (.iload_n 3, 1) := by decide +kernel
theorem dX9_depthAt_35 : decode cX9_depthAt 35 = .ok (.iconst (-1), 1) := by decide +kernel
theorem dX9_depthAt_36 : decode cX9_depthAt 36 = .ok (.if_icmp .ne 5, 3) := by decide +kernel
theorem dX9_depthAt_39 : decode cX9_depthAt 39 = .ok (.iconst (-1), 1) := by decide +kernel
theorem dX9_depthAt_40 : decode cX9_depthAt 40 = .ok (.ireturn, 1) := by decide +kernel
theorem dX9_depthAt_41 : decode cX9_depthAt 41 = .ok (.aload_n 0, 1) := by decide +kernel
theorem dX9_depthAt_42 : decode cX9_depthAt 42 = .ok (.getfield 27, 3) := by decide +kernel
theorem dX9_depthAt_45 : decode cX9_depthAt 45 = .ok (.iload_n 3, 1) := by decide +kernel
theorem dX9_depthAt_46 : decode cX9_depthAt 46 = .ok (.iaload, 1) := by decide +kernel
theorem dX9_depthAt_47 : decode cX9_depthAt 47 = .ok (.istore 4, 2) := by decide +kernel
theorem dX9_depthAt_49 : decode cX9_depthAt 49 = .ok (.aload_n 0, 1) := by decide +kernel
theorem dX9_depthAt_50 : decode cX9_depthAt 50 = .ok (.aload_n 0, 1) := by decide +kernel
theorem dX9_depthAt_51 : decode cX9_depthAt 51 = .ok (.iload 4, 2) := by decide +kernel
theorem dX9_depthAt_53 : decode cX9_depthAt 53 = .ok (.iconst 1, 1) := by decide +kernel
theorem dX9_depthAt_54 : decode cX9_depthAt 54 = .ok (.invokevirtual 105, 3) := by decide +kernel
theorem dX9_depthAt_57 : decode cX9_depthAt 57 = .ok (.iload_n 3, 1) := by decide +kernel
theorem dX9_depthAt_58 : decode cX9_depthAt 58 = .ok (.iload_n 2, 1) := by decide +kernel
theorem dX9_depthAt_59 : decode cX9_depthAt 59 = .ok (.invokevirtual 362, 3) := by decide +kernel
theorem dX9_depthAt_62 : decode cX9_depthAt 62 = .ok (.istore 5, 2) := by decide +kernel
theorem dX9_depthAt_64 : decode cX9_depthAt 64 = .ok (.aload_n 0, 1) := by decide +kernel
theorem dX9_depthAt_65 : decode cX9_depthAt 65 = .ok (.getfield 30, 3) := by decide +kernel
theorem dX9_depthAt_68 : decode cX9_depthAt 68 = .ok (.iload_n 3, 1) := by decide +kernel
theorem dX9_depthAt_69 : decode cX9_depthAt 69 = .ok (.baload, 1) := by decide +kernel
theorem dX9_depthAt_70 : decode cX9_depthAt 70 = .ok (.ifCond .eq 15, 3) := by decide +kernel
theorem dX9_depthAt_73 : decode cX9_depthAt 73 = .ok (.aload_n 0, 1) := by decide +kernel
theorem dX9_depthAt_74 : decode cX9_depthAt 74 = .ok (.iload 4, 2) := by decide +kernel
theorem dX9_depthAt_76 : decode cX9_depthAt 76 = .ok (.invokevirtual 327, 3) := by decide +kernel
theorem dX9_depthAt_79 : decode cX9_depthAt 79 = .ok (.iload 5, 2) := by decide +kernel
theorem dX9_depthAt_81 : decode cX9_depthAt 81 = .ok (.iadd, 1) := by decide +kernel
theorem dX9_depthAt_82 : decode cX9_depthAt 82 = .ok (.goto 14, 3) := by decide +kernel
theorem dX9_depthAt_85 : decode cX9_depthAt 85 = .ok (.aload_n 0, 1) := by decide +kernel
theorem dX9_depthAt_86 : decode cX9_depthAt 86 = .ok (.iload 4, 2) := by decide +kernel
theorem dX9_depthAt_88 : decode cX9_depthAt 88 = .ok (.iconst 1, 1) := by decide +kernel
theorem dX9_depthAt_89 : decode cX9_depthAt 89 = .ok (.iadd, 1) := by decide +kernel
theorem dX9_depthAt_90 : decode cX9_depthAt 90 = .ok (.invokevirtual 327, 3) := by decide +kernel
theorem dX9_depthAt_93 : decode cX9_depthAt 93 = .ok (.iload 5, 2) := by decide +kernel
theorem dX9_depthAt_95 : decode cX9_depthAt 95 = .ok (.isub, 1) := by decide +kernel
theorem dX9_depthAt_96 : decode cX9_depthAt 96 = .ok (.ireturn, 1) := by decide +kernel
set_option maxRecDepth 20000 in
set_option maxRecDepth 100000 in
theorem ggX9_isSlant_X9_in : GoodIn wsX9_isSlant wsX9_in := goodIn_r _ [5] rfl (by decide +kernel)
set_option maxRecDepth 20000 in
theorem gX9_isSlant_X9_in : GoodIn wsX9_isSlant (va_wsS RX9 94 yX9_in wsX9_in) := goodIn_app (goodIn_of _ (by decide +kernel)) ggX9_isSlant_X9_in
theorem dX9_isSlant_0 : decode cX9_isSlant 0 = .ok (.iload_n 0, 1) := by decide +kernel
theorem dX9_isSlant_1 : decode cX9_isSlant 1 = .ok (.i2l, 1) := by decide +kernel
theorem dX9_isSlant_2 : decode cX9_isSlant 2 = .ok (.lconst 0, 1) := by decide +kernel
theorem dX9_isSlant_3 : decode cX9_isSlant 3 = .ok (.ldc2_w 366, 3) := by decide +kernel
theorem dX9_isSlant_6 : decode cX9_isSlant 6 = .ok (.invokestatic 94, 3) := by decide +kernel
theorem dX9_isSlant_9 : decode cX9_isSlant 9 = .ok (.ireturn, 1) := by decide +kernel
set_option maxRecDepth 20000 in
set_option maxRecDepth 100000 in
theorem ggX9_isEnd_X9_in : GoodIn wsX9_isEnd wsX9_in := goodIn_r _ [5] rfl (by decide +kernel)
set_option maxRecDepth 20000 in
theorem gX9_isEnd_X9_in : GoodIn wsX9_isEnd (va_wsS RX9 94 yX9_in wsX9_in) := goodIn_app (goodIn_of _ (by decide +kernel)) ggX9_isEnd_X9_in
theorem dX9_isEnd_0 : decode cX9_isEnd 0 = .ok (.iload_n 0, 1) := by decide +kernel
theorem dX9_isEnd_1 : decode cX9_isEnd 1 = .ok (.i2l, 1) := by decide +kernel
theorem dX9_isEnd_2 : decode cX9_isEnd 2 = .ok (.lconst 0, 1) := by decide +kernel
theorem dX9_isEnd_3 : decode cX9_isEnd 3 = .ok (.ldc2_w 330, 3) := by decide +kernel
theorem dX9_isEnd_6 : decode cX9_isEnd 6 = .ok (.invokestatic 94, 3) := by decide +kernel
theorem dX9_isEnd_9 : decode cX9_isEnd 9 = .ok (.ireturn, 1) := by decide +kernel
set_option maxRecDepth 20000 in
set_option maxRecDepth 100000 in
theorem ggX9_isIndex_X9_in : GoodIn wsX9_isIndex wsX9_in := goodIn_r _ [6] rfl (by decide +kernel)
set_option maxRecDepth 20000 in
theorem gX9_isIndex_X9_in : GoodIn wsX9_isIndex (va_wsS RX9 94 yX9_in wsX9_in) := goodIn_app (goodIn_of _ (by decide +kernel)) ggX9_isIndex_X9_in
theorem dX9_isIndex_0 : decode cX9_isIndex 0 = .ok (.iload_n 0, 1) := by decide +kernel
theorem dX9_isIndex_1 : decode cX9_isIndex 1 = .ok (.i2l, 1) := by decide +kernel
theorem dX9_isIndex_2 : decode cX9_isIndex 2 = .ok (.ldc2_w 138, 3) := by decide +kernel
theorem dX9_isIndex_5 : decode cX9_isIndex 5 = .ok (.ldc2_w 368, 3) := by decide +kernel
theorem dX9_isIndex_8 : decode cX9_isIndex 8 = .ok (.invokestatic 94, 3) := by decide +kernel
theorem dX9_isIndex_11 : decode cX9_isIndex 11 = .ok (.ireturn, 1) := by decide +kernel
set_option maxRecDepth 20000 in
set_option maxRecDepth 100000 in
theorem ggX9_critical_X9_isLayer : GoodIn wsX9_critical wsX9_isLayer := goodIn_r _ [5, 6, 7, 8, 4, 9, 10, 11, 12, 13, 31, 32, 33, 34, 35, 36, 37, 38, 39, 40, 41, 42, 43, 44, 45, 46, 47, 48, 49, 50, 51, 52, 53, 54, 55, 56, 57, 58, 59, 60, 61, 62, 63, 64, 65, 66, 67, 68, 69, 70, 71] rfl (by decide +kernel)
set_option maxRecDepth 20000 in
theorem gX9_critical_X9_isLayer : GoodIn wsX9_critical (wsV RX9 140 RX9 yX9_isLayer wsX9_isLayer) := goodIn_app (goodIn_of _ (by decide +kernel)) ggX9_critical_X9_isLayer
set_option maxRecDepth 20000 in
set_option maxRecDepth 100000 in
theorem ggX9_critical_X9_passes : GoodIn wsX9_critical wsX9_passes := goodIn_r _ [17, 18, 19, 20, 4, 21, 22, 31, 32, 33, 34, 35, 36, 37, 38, 39, 40, 41, 42, 43, 44, 45, 46, 47, 48, 49, 50, 51, 52, 53, 54, 55, 56, 57, 58, 59, 60, 61, 62, 63, 64, 65, 66, 67, 68, 69, 70, 71] rfl (by decide +kernel)
set_option maxRecDepth 20000 in
theorem gX9_critical_X9_passes : GoodIn wsX9_critical (wsV RX9 193 RX9 yX9_passes wsX9_passes) := goodIn_app (goodIn_of _ (by decide +kernel)) ggX9_critical_X9_passes
set_option maxRecDepth 20000 in
set_option maxRecDepth 100000 in
theorem ggX9_critical_X9_indexAhead : GoodIn wsX9_critical wsX9_indexAhead := goodIn_r _ [26, 10, 1, 2, 3, 4, 5, 6, 7, 8, 9, 11, 12, 13, 27, 28, 29, 30, 31, 32, 33, 34, 35, 36, 37, 38, 39, 40, 41, 42, 43, 44, 45, 46, 47, 48, 49, 50, 51, 52, 53, 54, 55, 56, 57, 58, 59, 60, 61, 62, 63, 64, 65, 66, 67, 68, 69, 70, 71] rfl (by decide +kernel)
set_option maxRecDepth 20000 in
theorem gX9_critical_X9_indexAhead : GoodIn wsX9_critical (wsV RX9 144 RX9 yX9_indexAhead wsX9_indexAhead) := goodIn_app (goodIn_of _ (by decide +kernel)) ggX9_critical_X9_indexAhead
set_option maxRecDepth 20000 in
set_option maxRecDepth 100000 in
theorem ggX9_critical_X9_ofLayer : GoodIn wsX9_critical wsX9_ofLayer := goodIn_r _ [30, 10, 31, 32, 33, 34, 35, 36, 37, 38, 39, 40, 41, 42, 43, 44, 45, 46, 47, 48, 49, 50, 51, 52, 53, 54, 55, 56, 57, 58, 59, 60, 61, 62, 63, 64, 65, 66, 67, 68, 69, 70, 71] rfl (by decide +kernel)
set_option maxRecDepth 20000 in
theorem gX9_critical_X9_ofLayer : GoodIn wsX9_critical (wsV RX9 105 RX9 yX9_ofLayer wsX9_ofLayer) := goodIn_app (goodIn_of _ (by decide +kernel)) ggX9_critical_X9_ofLayer
theorem dX9_critical_0 : decode cX9_critical 0 = .ok (.aload_n 0, 1) := by decide +kernel
theorem dX9_critical_1 : decode cX9_critical 1 = .ok (.aload_n 0, 1) := by decide +kernel
theorem dX9_critical_2 : decode cX9_critical 2 = .ok (.iload_n 1, 1) := by decide +kernel
theorem dX9_critical_3 : decode cX9_critical 3 = .ok (.invokevirtual 140, 3) := by decide +kernel
theorem dX9_critical_6 : decode cX9_critical 6 = .ok (.invokevirtual 193, 3) := by decide +kernel
theorem dX9_critical_9 : decode cX9_critical 9 = .ok (.ifCond .ne 5, 3) := by decide +kernel
theorem dX9_critical_12 : decode cX9_critical 12 = .ok (.iconst 0, 1) := by decide +kernel
theorem dX9_critical_13 : decode cX9_critical 13 = .ok (.ireturn, 1) := by decide +kernel
theorem dX9_critical_14 : decode cX9_critical 14 = .ok (.aload_n 0, 1) := by decide +kernel
theorem dX9_critical_15 : decode cX9_critical 15 = .ok (.iload_n 1, 1) := by decide +kernel
theorem dX9_critical_16 : decode cX9_critical 16 = .ok (.iload_n 2, 1) := by decide +kernel
theorem dX9_critical_17 : decode cX9_critical 17 = .ok (.invokevirtual 144, 3) := by decide +kernel
theorem dX9_critical_20 : decode cX9_critical 20 = .ok (.istore_n 3, 1) := by decide +kernel
theorem dX9_critical_21 : decode cX9_critical 21 = .ok (.iload_n 3, 1) := by decide +kernel
theorem dX9_critical_22 : decode cX9_critical 22 = .ok (.iconst (-1), 1) := by decide +kernel
theorem dX9_critical_23 : decode cX9_critical 23 = .ok (.if_icmp .eq 17, 3) := by decide +kernel
theorem dX9_critical_26 : decode cX9_critical 26 = .ok (.iload_n 3, 1) := by decide +kernel
theorem dX9_critical_27 : decode cX9_critical 27 = .ok (.aload_n 0, 1) := by decide +kernel
theorem dX9_critical_28 : decode cX9_critical 28 = .ok (.iload_n 1, 1) := by decide +kernel
theorem dX9_critical_29 : decode cX9_critical 29 = .ok (.iconst 0, 1) := by decide +kernel
theorem dX9_critical_30 : decode cX9_critical 30 = .ok (.invokevirtual 105, 3) := by decide +kernel
theorem dX9_critical_33 : decode cX9_critical 33 = .ok (.if_icmp .ge 7, 3) := by decide +kernel
theorem dX9_critical_36 : decode cX9_critical 36 = .ok (.iload_n 3, 1) := by decide +kernel
theorem dX9_critical_37 : decode cX9_critical 37 = .ok (.goto 4, 3) := by decide +kernel
theorem dX9_critical_40 : decode cX9_critical 40 = .ok (.iconst (-1), 1) := by decide +kernel
theorem dX9_critical_41 : decode cX9_critical 41 = .ok (.ireturn, 1) := by decide +kernel
set_option maxRecDepth 20000 in
set_option maxRecDepth 100000 in
theorem ggX9_endOf_X9_isLayer : GoodIn wsX9_endOf wsX9_isLayer := goodIn_r _ [6, 7, 8, 9, 5, 10, 11, 12, 13, 14, 91, 92, 93, 94, 95, 96, 97, 98, 99, 100, 101, 102, 103, 104, 105, 106, 107, 108, 109, 110, 111, 112, 113, 114, 115, 116, 117, 118, 119, 120, 121, 122, 123, 124, 125, 126, 127, 128, 129, 130, 131] rfl (by decide +kernel)
set_option maxRecDepth 20000 in
theorem gX9_endOf_X9_isLayer : GoodIn wsX9_endOf (wsV RX9 140 RX9 yX9_isLayer wsX9_isLayer) := goodIn_app (goodIn_of _ (by decide +kernel)) ggX9_endOf_X9_isLayer
set_option maxRecDepth 20000 in
set_option maxRecDepth 100000 in
theorem ggX9_endOf_X9_isSlant : GoodIn wsX9_endOf wsX9_isSlant := goodIn_r _ [17, 18, 12, 13, 5, 14] rfl (by decide +kernel)
set_option maxRecDepth 20000 in
theorem gX9_endOf_X9_isSlant : GoodIn wsX9_endOf (va_wsS RX9 370 yX9_isSlant wsX9_isSlant) := goodIn_app (goodIn_of _ (by decide +kernel)) ggX9_endOf_X9_isSlant
set_option maxRecDepth 20000 in
set_option maxRecDepth 100000 in
theorem ggX9_endOf_X9_passes2 : GoodIn wsX9_endOf wsX9_passes2 := goodIn_r _ [22, 23, 24, 25, 5, 26, 27, 91, 92, 93, 94, 95, 96, 97, 98, 99, 100, 101, 102, 103, 104, 105, 106, 107, 108, 109, 110, 111, 112, 113, 114, 115, 116, 117, 118, 119, 120, 121, 122, 123, 124, 125, 126, 127, 128, 129, 130, 131] rfl (by decide +kernel)
set_option maxRecDepth 20000 in
theorem gX9_endOf_X9_passes2 : GoodIn wsX9_endOf (wsV RX9 332 RX9 yX9_passes2 wsX9_passes2) := goodIn_app (goodIn_of _ (by decide +kernel)) ggX9_endOf_X9_passes2
set_option maxRecDepth 20000 in
set_option maxRecDepth 100000 in
theorem ggX9_endOf_X9_follow : GoodIn wsX9_endOf wsX9_follow := goodIn_r _ [31, 32, 33, 34, 35, 1, 36, 37, 38, 39, 2, 3, 4, 5, 6, 7, 8, 9, 10, 11, 12, 13, 14, 40, 41, 42, 43, 44, 45, 46, 47, 48, 49, 50, 51, 52, 53, 54, 55, 56, 57, 58, 59, 60, 61, 62, 63, 64, 65, 66, 67, 68, 69, 70, 71, 72, 73, 74, 75, 76, 77, 78, 79, 80, 81, 82, 83, 84, 85, 86, 87, 88, 89, 90, 91, 92, 93, 94, 95, 96, 97, 98, 99, 100, 101, 102, 103, 104, 105, 106, 107, 108, 109, 110, 111, 112, 113, 114, 115, 116, 117, 118, 119, 120, 121, 122, 123, 124, 125, 126, 127, 128, 129, 130, 131] rfl (by decide +kernel)
set_option maxRecDepth 20000 in
theorem gX9_endOf_X9_follow : GoodIn wsX9_endOf (wsV RX9 181 RX9 yX9_follow wsX9_follow) := goodIn_app (goodIn_of _ (by decide +kernel)) ggX9_endOf_X9_follow
theorem dX9_endOf_0 : decode cX9_endOf 0 = .ok (.aload_n 0, 1) := by decide +kernel
theorem dX9_endOf_1 : decode cX9_endOf 1 = .ok (.aload_n 0, 1) := by decide +kernel
theorem dX9_endOf_2 : decode cX9_endOf 2 = .ok (.iload_n 1, 1) := by decide +kernel
theorem dX9_endOf_3 : decode cX9_endOf 3 = .ok (.invokevirtual 140, 3) := by decide +kernel
theorem dX9_endOf_6 : decode cX9_endOf 6 = .ok (.iload_n 3, 1) := by decide +kernel
theorem dX9_endOf_7 : decode cX9_endOf 7 = .ok (.invokestatic 370, 3) := by decide +kernel
theorem dX9_endOf_10 : decode cX9_endOf 10 = .ok (.invokevirtual 332, 3) := by decide +kernel
theorem dX9_endOf_13 : decode cX9_endOf 13 = .ok (.ifCond .ne 5, 3) := by decide +kernel
theorem dX9_endOf_16 : decode cX9_endOf 16 = .ok (.iconst 0, 1) := by decide +kernel
theorem dX9_endOf_17 : decode cX9_endOf 17 = .ok (.ireturn, 1) := by decide +kernel
theorem dX9_endOf_18 : decode cX9_endOf 18 = .ok (.aload_n 0, 1) := by decide +kernel
theorem dX9_endOf_19 : decode cX9_endOf 19 = .ok (.iload_n 1, 1) := by decide +kernel
theorem dX9_endOf_20 : decode cX9_endOf 20 = .ok (.iload_n 2, 1) := by decide +kernel
theorem dX9_endOf_21 : decode cX9_endOf 21 = .ok (.iload_n 3, 1) := by decide +kernel
theorem dX9_endOf_22 : decode cX9_endOf 22 = .ok (.invokevirtual 181, 3) := by decide +kernel
theorem dX9_endOf_25 : decode cX9_endOf 25 = .ok (.aload_n 0, 1) := by decide +kernel
theorem dX9_endOf_26 : decode cX9_endOf 26 = .ok (.getfield 156, 3) := by decide +kernel
theorem dX9_endOf_29 : decode cX9_endOf 29 = .ok (.ireturn, 1) := by decide +kernel
set_option maxRecDepth 20000 in
set_option maxRecDepth 100000 in
theorem ggX9_shiftOf_X9_isLayer : GoodIn wsX9_shiftOf wsX9_isLayer := goodIn_r _ [8, 9, 10, 11, 7, 12, 13, 14, 15, 16, 94, 95, 96, 97, 98, 99, 100, 101, 102, 103, 104, 105, 106, 107, 108, 109, 110, 111, 112, 113, 114, 115, 116, 117, 118, 119, 120, 121, 122, 123, 124, 125, 126, 127, 128, 129, 130, 131, 132, 133, 134] rfl (by decide +kernel)
set_option maxRecDepth 20000 in
theorem gX9_shiftOf_X9_isLayer : GoodIn wsX9_shiftOf (wsV RX9 140 RX9 yX9_isLayer wsX9_isLayer) := goodIn_app (goodIn_of _ (by decide +kernel)) ggX9_shiftOf_X9_isLayer
set_option maxRecDepth 20000 in
set_option maxRecDepth 100000 in
theorem ggX9_shiftOf_X9_isSlant : GoodIn wsX9_shiftOf wsX9_isSlant := goodIn_r _ [19, 20, 14, 15, 7, 16] rfl (by decide +kernel)
set_option maxRecDepth 20000 in
theorem gX9_shiftOf_X9_isSlant : GoodIn wsX9_shiftOf (va_wsS RX9 370 yX9_isSlant wsX9_isSlant) := goodIn_app (goodIn_of _ (by decide +kernel)) ggX9_shiftOf_X9_isSlant
set_option maxRecDepth 20000 in
set_option maxRecDepth 100000 in
theorem ggX9_shiftOf_X9_passes2 : GoodIn wsX9_shiftOf wsX9_passes2 := goodIn_r _ [24, 25, 26, 27, 7, 28, 29, 94, 95, 96, 97, 98, 99, 100, 101, 102, 103, 104, 105, 106, 107, 108, 109, 110, 111, 112, 113, 114, 115, 116, 117, 118, 119, 120, 121, 122, 123, 124, 125, 126, 127, 128, 129, 130, 131, 132, 133, 134] rfl (by decide +kernel)
set_option maxRecDepth 20000 in
theorem gX9_shiftOf_X9_passes2 : GoodIn wsX9_shiftOf (wsV RX9 332 RX9 yX9_passes2 wsX9_passes2) := goodIn_app (goodIn_of _ (by decide +kernel)) ggX9_shiftOf_X9_passes2
set_option maxRecDepth 20000 in
set_option maxRecDepth 100000 in
theorem ggX9_shiftOf_X9_follow : GoodIn wsX9_shiftOf wsX9_follow := goodIn_r _ [33, 3, 34, 35, 36, 1, 37, 38, 39, 40, 4, 5, 6, 7, 8, 9, 10, 11, 12, 13, 14, 15, 16, 41, 42, 43, 44, 45, 46, 47, 48, 49, 50, 51, 52, 53, 54, 2, 55, 56, 57, 58, 59, 60, 61, 62, 63, 64, 65, 66, 67, 68, 69, 70, 71, 72, 73, 74, 75, 76, 77, 78, 79, 80, 81, 82, 83, 84, 85, 86, 87, 88, 89, 90, 94, 95, 96, 97, 98, 99, 100, 101, 102, 103, 104, 105, 106, 107, 108, 109, 110, 111, 112, 113, 114, 115, 116, 117, 118, 119, 120, 121, 122, 123, 124, 125, 126, 127, 128, 129, 130, 131, 132, 133, 134] rfl (by decide +kernel)
set_option maxRecDepth 20000 in
theorem gX9_shiftOf_X9_follow : GoodIn wsX9_shiftOf (wsV RX9 181 RX9 yX9_follow wsX9_follow) := goodIn_app (goodIn_of _ (by decide +kernel)) ggX9_shiftOf_X9_follow
set_option maxRecDepth 20000 in
set_option maxRecDepth 100000 in
theorem ggX9_shiftOf_X9_sumUp : GoodIn wsX9_shiftOf wsX9_sumUp := goodIn_r _ [93] rfl (by decide +kernel)
set_option maxRecDepth 20000 in
theorem gX9_shiftOf_X9_sumUp : GoodIn wsX9_shiftOf (va_wsS RX9 343 yX9_sumUp wsX9_sumUp) := goodIn_app (goodIn_of _ (by decide +kernel)) ggX9_shiftOf_X9_sumUp
theorem dX9_shiftOf_0 : decode cX9_shiftOf 0 = .ok (.aload_n 0, 1) := by decide +kernel
theorem dX9_shiftOf_1 : decode cX9_shiftOf 1 = .ok (.aload_n 0, 1) := by decide +kernel
theorem dX9_shiftOf_2 : decode cX9_shiftOf 2 = .ok (.iload_n 1, 1) := by decide +kernel
theorem dX9_shiftOf_3 : decode cX9_shiftOf 3 = .ok (.invokevirtual 140, 3) := by decide +kernel
theorem dX9_shiftOf_6 : decode cX9_shiftOf 6 = .ok (.iload_n 3, 1) := by decide +kernel
theorem dX9_shiftOf_7 : decode cX9_shiftOf 7 = .ok (.invokestatic 370, 3) := by decide +kernel
theorem dX9_shiftOf_10 : decode cX9_shiftOf 10 = .ok (.invokevirtual 332, 3) := by decide +kernel
theorem dX9_shiftOf_13 : decode cX9_shiftOf 13 = .ok (.ifCond .ne 5, 3) := by decide +kernel
theorem dX9_shiftOf_16 : decode cX9_shiftOf 16 = .ok (.iconst 0, 1) := by decide +kernel
theorem dX9_shiftOf_17 : decode cX9_shiftOf 17 = .ok (.ireturn, 1) := by decide +kernel
theorem dX9_shiftOf_18 : decode cX9_shiftOf 18 = .ok (.aload_n 0, 1) := by decide +kernel
theorem dX9_shiftOf_19 : decode cX9_shiftOf 19 = .ok (.iload_n 1, 1) := by decide +kernel
theorem dX9_shiftOf_20 : decode cX9_shiftOf 20 = .ok (.iload_n 2, 1) := by decide +kernel
theorem dX9_shiftOf_21 : decode cX9_shiftOf 21 = .ok (.iload_n 3, 1) := by decide +kernel
theorem dX9_shiftOf_22 : decode cX9_shiftOf 22 = .ok (.invokevirtual 181, 3) := by decide +kernel
theorem dX9_shiftOf_25 : decode cX9_shiftOf 25 = .ok (.aload_n 0, 1) := by decide +kernel
theorem dX9_shiftOf_26 : decode cX9_shiftOf 26 = .ok (.getfield 156, 3) := by decide +kernel
theorem dX9_shiftOf_29 : decode cX9_shiftOf 29 = .ok (.iconst 4, 1) := by decide +kernel
theorem dX9_shiftOf_30 : decode cX9_shiftOf 30 = .ok (.if_icmp .ne 7, 3) := by decide +kernel
theorem dX9_shiftOf_33 : decode cX9_shiftOf 33 = .ok (.iconst (-1), 1) := by decide +kernel
theorem dX9_shiftOf_34 : decode cX9_shiftOf 34 = .ok (.goto 14, 3) := by decide +kernel
theorem dX9_shiftOf_37 : decode cX9_shiftOf 37 = .ok (.aload_n 0, 1) := by decide +kernel
theorem dX9_shiftOf_38 : decode cX9_shiftOf 38 = .ok (.getfield 34, 3) := by decide +kernel
theorem dX9_shiftOf_41 : decode cX9_shiftOf 41 = .ok (.aload_n 0, 1) := by decide +kernel
theorem dX9_shiftOf_42 : decode cX9_shiftOf 42 = .ok (.getfield 131, 3) := by decide +kernel
theorem dX9_shiftOf_45 : decode cX9_shiftOf 45 = .ok (.invokestatic 343, 3) := by decide +kernel
theorem dX9_shiftOf_48 : decode cX9_shiftOf 48 = .ok (.ireturn, 1) := by decide +kernel
set_option maxRecDepth 20000 in
set_option maxRecDepth 100000 in
theorem ggX9_slantsOf_X9_ofLayer : GoodIn wsX9_slantsOf wsX9_ofLayer := goodIn_r _ [6, 7, 78, 79, 80, 81, 82, 83, 84, 85, 86, 87, 88, 89, 90, 91, 92, 93, 94, 95, 96, 97, 98, 99, 100, 101, 102, 103, 104, 105, 106, 107, 108, 109, 110, 111, 112, 113, 114, 115, 116, 117, 118] rfl (by decide +kernel)
set_option maxRecDepth 20000 in
theorem gX9_slantsOf_X9_ofLayer : GoodIn wsX9_slantsOf (wsV RX9 105 RX9 yX9_ofLayer wsX9_ofLayer) := goodIn_app (goodIn_of _ (by decide +kernel)) ggX9_slantsOf_X9_ofLayer
set_option maxRecDepth 20000 in
set_option maxRecDepth 100000 in
theorem ggX9_slantsOf_X9_follow : GoodIn wsX9_slantsOf wsX9_follow := goodIn_r _ [11, 12, 13, 14, 15, 1, 16, 17, 18, 19, 20, 21, 22, 5, 23, 24, 25, 26, 27, 7, 28, 29, 30, 2, 3, 4, 6, 31, 32, 33, 34, 35, 36, 37, 38, 39, 40, 41, 42, 43, 44, 45, 46, 47, 48, 49, 50, 51, 52, 53, 54, 55, 56, 57, 58, 59, 60, 61, 62, 63, 64, 65, 66, 67, 68, 69, 70, 71, 72, 73, 74, 75, 76, 77, 78, 79, 80, 81, 82, 83, 84, 85, 86, 87, 88, 89, 90, 91, 92, 93, 94, 95, 96, 97, 98, 99, 100, 101, 102, 103, 104, 105, 106, 107, 108, 109, 110, 111, 112, 113, 114, 115, 116, 117, 118] rfl (by decide +kernel)
set_option maxRecDepth 20000 in
theorem gX9_slantsOf_X9_follow : GoodIn wsX9_slantsOf (wsV RX9 181 RX9 yX9_follow wsX9_follow) := goodIn_app (goodIn_of _ (by decide +kernel)) ggX9_slantsOf_X9_follow
theorem dX9_slantsOf_0 : decode cX9_slantsOf 0 = .ok (.iconst 0, 1) := by decide +kernel
theorem dX9_slantsOf_1 : decode cX9_slantsOf 1 = .ok (.istore 4, 2) := by decide +kernel
theorem dX9_slantsOf_3 : decode cX9_slantsOf 3 = .ok (.iconst 0, 1) := by decide +kernel
theorem dX9_slantsOf_4 : decode cX9_slantsOf 4 = .ok (.istore 5, 2) := by decide +kernel
theorem dX9_slantsOf_6 : decode cX9_slantsOf 6 = .ok (.iload 5, 2) := by decide +kernel
theorem dX9_slantsOf_8 : decode cX9_slantsOf 8 = .ok (.aload_n 0, 1) := by decide +kernel
theorem dX9_slantsOf_9 : decode cX9_slantsOf 9 = .ok (.iload_n 1, 1) := by decide +kernel
theorem dX9_slantsOf_10 : decode cX9_slantsOf 10 = .ok (.iconst 0, 1) := by decide +kernel
theorem dX9_slantsOf_11 : decode cX9_slantsOf 11 = .ok (.invokevirtual 105, 3) := by decide +kernel
theorem dX9_slantsOf_14 : decode cX9_slantsOf 14 = .ok (.if_icmp .ge 35, 3) := by decide +kernel
theorem dX9_slantsOf_17 : decode cX9_slantsOf 17 = .ok (.aload_n 0, 1) := by decide +kernel
theorem dX9_slantsOf_18 : decode cX9_slantsOf 18 = .ok (.iload_n 1, 1) := by decide +kernel
theorem dX9_slantsOf_19 : decode cX9_slantsOf 19 = .ok (.iload_n 2, 1) := by decide +kernel
theorem dX9_slantsOf_20 : decode cX9_slantsOf 20 = .ok (.iload 5, 2) := by decide +kernel
theorem dX9_slantsOf_22 : decode cX9_slantsOf 22 = .ok (.invokevirtual 181, 3) := by decide +kernel
theorem dX9_slantsOf_25 : decode cX9_slantsOf 25 = .ok (.iload 4, 2) := by decide +kernel
theorem dX9_slantsOf_27 : decode cX9_slantsOf 27 = .ok (.aload_n 0, 1) := by decide +kernel
theorem dX9_slantsOf_28 : decode cX9_slantsOf 28 = .ok (.getfield 156, 3) := by decide +kernel
theorem dX9_slantsOf_31 : decode cX9_slantsOf 31 = .ok (.iload_n 3, 1) := by decide +kernel
theorem dX9_slantsOf_32 : decode cX9_slantsOf 32 = .ok (.if_icmp .ne 7, 3) := by decide +kernel
theorem dX9_slantsOf_35 : decode cX9_slantsOf 35 = .ok (.iconst 1, 1) := by decide +kernel
theorem dX9_slantsOf_36 : decode cX9_slantsOf 36 = .ok (.goto 4, 3) := by decide +kernel
theorem dX9_slantsOf_39 : decode cX9_slantsOf 39 = .ok (.iconst 0, 1) := by decide +kernel
theorem dX9_slantsOf_40 : decode cX9_slantsOf 40 = .ok (.iadd, 1) := by decide +kernel
theorem dX9_slantsOf_41 : decode cX9_slantsOf 41 = .ok (.istore 4, 2) := by decide +kernel
theorem dX9_slantsOf_43 : decode cX9_slantsOf 43 = .ok (.iinc 5 1, 3) := by decide +kernel
theorem dX9_slantsOf_46 : decode cX9_slantsOf 46 = .ok (.goto (-40), 3) := by decide +kernel
theorem dX9_slantsOf_49 : decode cX9_slantsOf 49 = .ok (.iload 4, 2) := by decide +kernel
theorem dX9_slantsOf_51 : decode cX9_slantsOf 51 = .ok (.ireturn, 1) := by decide +kernel
set_option maxRecDepth 20000 in
set_option maxRecDepth 100000 in
theorem ggX9_slants_X9_isLayer : GoodIn wsX9_slants wsX9_isLayer := goodIn_r _ [5, 6, 7, 8, 4, 9, 10, 11, 12, 13, 95, 96, 97, 98, 99, 100, 101, 102, 103, 104, 105, 106, 107, 108, 109, 110, 111, 112, 113, 114, 115, 116, 117, 118, 119, 120, 121, 122, 123, 124, 125, 126, 127, 128, 129, 130, 131, 132, 133, 134, 135] rfl (by decide +kernel)
set_option maxRecDepth 20000 in
theorem gX9_slants_X9_isLayer : GoodIn wsX9_slants (wsV RX9 140 RX9 yX9_isLayer wsX9_isLayer) := goodIn_app (goodIn_of _ (by decide +kernel)) ggX9_slants_X9_isLayer
set_option maxRecDepth 20000 in
set_option maxRecDepth 100000 in
theorem ggX9_slants_X9_isEnd : GoodIn wsX9_slants wsX9_isEnd := goodIn_r _ [16, 17, 11, 12, 4, 13] rfl (by decide +kernel)
set_option maxRecDepth 20000 in
theorem gX9_slants_X9_isEnd : GoodIn wsX9_slants (va_wsS RX9 373 yX9_isEnd wsX9_isEnd) := goodIn_app (goodIn_of _ (by decide +kernel)) ggX9_slants_X9_isEnd
set_option maxRecDepth 20000 in
set_option maxRecDepth 100000 in
theorem ggX9_slants_X9_passes2 : GoodIn wsX9_slants wsX9_passes2 := goodIn_r _ [21, 22, 23, 24, 4, 25, 26, 95, 96, 97, 98, 99, 100, 101, 102, 103, 104, 105, 106, 107, 108, 109, 110, 111, 112, 113, 114, 115, 116, 117, 118, 119, 120, 121, 122, 123, 124, 125, 126, 127, 128, 129, 130, 131, 132, 133, 134, 135] rfl (by decide +kernel)
set_option maxRecDepth 20000 in
theorem gX9_slants_X9_passes2 : GoodIn wsX9_slants (wsV RX9 332 RX9 yX9_passes2 wsX9_passes2) := goodIn_app (goodIn_of _ (by decide +kernel)) ggX9_slants_X9_passes2
set_option maxRecDepth 20000 in
set_option maxRecDepth 100000 in
theorem ggX9_slants_X9_slantsOf : GoodIn wsX9_slants wsX9_slantsOf := goodIn_r _ [30, 31, 32, 33, 34, 4, 35, 10, 36, 37, 38, 39, 40, 41, 42, 43, 44, 45, 46, 47, 1, 2, 3, 5, 6, 7, 8, 9, 11, 12, 13, 48, 49, 50, 51, 52, 53, 54, 55, 56, 57, 58, 59, 60, 61, 62, 63, 64, 65, 66, 67, 68, 69, 70, 71, 72, 73, 74, 75, 76, 77, 78, 79, 80, 81, 82, 83, 84, 85, 86, 87, 88, 89, 90, 91, 92, 93, 94, 95, 96, 97, 98, 99, 100, 101, 102, 103, 104, 105, 106, 107, 108, 109, 110, 111, 112, 113, 114, 115, 116, 117, 118, 119, 120, 121, 122, 123, 124, 125, 126, 127, 128, 129, 130, 131, 132, 133, 134, 135] rfl (by decide +kernel)
set_option maxRecDepth 20000 in
theorem gX9_slants_X9_slantsOf : GoodIn wsX9_slants (wsV RX9 376 RX9 yX9_slantsOf wsX9_slantsOf) := goodIn_app (goodIn_of _ (by decide +kernel)) ggX9_slants_X9_slantsOf
theorem dX9_slants_0 : decode cX9_slants 0 = .ok (.aload_n 0, 1) := by decide +kernel
theorem dX9_slants_1 : decode cX9_slants 1 = .ok (.aload_n 0, 1) := by decide +kernel
theorem dX9_slants_2 : decode cX9_slants 2 = .ok (.iload_n 1, 1) := by decide +kernel
theorem dX9_slants_3 : decode cX9_slants 3 = .ok (.invokevirtual 140, 3) := by decide +kernel
theorem dX9_slants_6 : decode cX9_slants 6 = .ok (.iload_n 3, 1) := by decide +kernel
theorem dX9_slants_7 : decode cX9_slants 7 = .ok (.invokestatic 373, 3) := by decide +kernel
theorem dX9_slants_10 : decode cX9_slants 10 = .ok (.invokevirtual 332, 3) := by decide +kernel
theorem dX9_slants_13 : decode cX9_slants 13 = .ok (.ifCond .eq 13, 3) := by decide +kernel
theorem dX9_slants_16 : decode cX9_slants 16 = .ok (.aload_n 0, 1) := by decide +kernel
theorem dX9_slants_17 : decode cX9_slants 17 = .ok (.iload_n 1, 1) := by decide +kernel
theorem dX9_slants_18 : decode cX9_slants 18 = .ok (.iload_n 2, 1) := by decide +kernel
theorem dX9_slants_19 : decode cX9_slants 19 = .ok (.iload_n 3, 1) := by decide +kernel
theorem dX9_slants_20 : decode cX9_slants 20 = .ok (.invokevirtual 376, 3) := by decide +kernel
theorem dX9_slants_23 : decode cX9_slants 23 = .ok (.goto 4, 3) := by decide +kernel
theorem dX9_slants_26 : decode cX9_slants 26 = .ok (.iconst 0, 1) := by decide +kernel
theorem dX9_slants_27 : decode cX9_slants 27 = .ok (.ireturn, 1) := by decide +kernel
set_option maxRecDepth 20000 in
set_option maxRecDepth 100000 in
theorem ggX9_leastSlant_X9_isLayer : GoodIn wsX9_leastSlant wsX9_isLayer := goodIn_r _ [6, 7, 8, 9, 5, 10, 11, 12, 13, 14, 91, 92, 93, 94, 95, 96, 97, 98, 99, 100, 101, 102, 103, 104, 105, 106, 107, 108, 109, 110, 111, 112, 113, 114, 115, 116, 117, 118, 119, 120, 121, 122, 123, 124, 125, 126, 127, 128, 129, 130, 131] rfl (by decide +kernel)
set_option maxRecDepth 20000 in
theorem gX9_leastSlant_X9_isLayer : GoodIn wsX9_leastSlant (wsV RX9 140 RX9 yX9_isLayer wsX9_isLayer) := goodIn_app (goodIn_of _ (by decide +kernel)) ggX9_leastSlant_X9_isLayer
set_option maxRecDepth 20000 in
set_option maxRecDepth 100000 in
theorem ggX9_leastSlant_X9_isEnd : GoodIn wsX9_leastSlant wsX9_isEnd := goodIn_r _ [17, 18, 12, 13, 5, 14] rfl (by decide +kernel)
set_option maxRecDepth 20000 in
theorem gX9_leastSlant_X9_isEnd : GoodIn wsX9_leastSlant (va_wsS RX9 373 yX9_isEnd wsX9_isEnd) := goodIn_app (goodIn_of _ (by decide +kernel)) ggX9_leastSlant_X9_isEnd
set_option maxRecDepth 20000 in
set_option maxRecDepth 100000 in
theorem ggX9_leastSlant_X9_passes2 : GoodIn wsX9_leastSlant wsX9_passes2 := goodIn_r _ [22, 23, 24, 25, 5, 26, 27, 91, 92, 93, 94, 95, 96, 97, 98, 99, 100, 101, 102, 103, 104, 105, 106, 107, 108, 109, 110, 111, 112, 113, 114, 115, 116, 117, 118, 119, 120, 121, 122, 123, 124, 125, 126, 127, 128, 129, 130, 131] rfl (by decide +kernel)
set_option maxRecDepth 20000 in
theorem gX9_leastSlant_X9_passes2 : GoodIn wsX9_leastSlant (wsV RX9 332 RX9 yX9_passes2 wsX9_passes2) := goodIn_app (goodIn_of _ (by decide +kernel)) ggX9_leastSlant_X9_passes2
set_option maxRecDepth 20000 in
set_option maxRecDepth 100000 in
theorem ggX9_leastSlant_X9_ofLayer : GoodIn wsX9_leastSlant wsX9_ofLayer := goodIn_r _ [31, 11, 91, 92, 93, 94, 95, 96, 97, 98, 99, 100, 101, 102, 103, 104, 105, 106, 107, 108, 109, 110, 111, 112, 113, 114, 115, 116, 117, 118, 119, 120, 121, 122, 123, 124, 125, 126, 127, 128, 129, 130, 131] rfl (by decide +kernel)
set_option maxRecDepth 20000 in
theorem gX9_leastSlant_X9_ofLayer : GoodIn wsX9_leastSlant (wsV RX9 105 RX9 yX9_ofLayer wsX9_ofLayer) := goodIn_app (goodIn_of _ (by decide +kernel)) ggX9_leastSlant_X9_ofLayer
set_option maxRecDepth 20000 in
set_option maxRecDepth 100000 in
theorem ggX9_leastSlant_X9_follow : GoodIn wsX9_leastSlant wsX9_follow := goodIn_r _ [35, 36, 37, 38, 39, 1, 40, 41, 42, 43, 2, 3, 4, 5, 6, 7, 8, 9, 10, 11, 12, 13, 14, 28, 29, 30, 31, 44, 45, 46, 47, 48, 49, 50, 51, 52, 53, 54, 55, 56, 57, 58, 59, 60, 61, 62, 63, 64, 65, 66, 67, 68, 69, 70, 71, 72, 73, 74, 75, 76, 77, 78, 79, 80, 81, 82, 83, 84, 85, 86, 87, 88, 89, 90, 91, 92, 93, 94, 95, 96, 97, 98, 99, 100, 101, 102, 103, 104, 105, 106, 107, 108, 109, 110, 111, 112, 113, 114, 115, 116, 117, 118, 119, 120, 121, 122, 123, 124, 125, 126, 127, 128, 129, 130, 131] rfl (by decide +kernel)
set_option maxRecDepth 20000 in
theorem gX9_leastSlant_X9_follow : GoodIn wsX9_leastSlant (wsV RX9 181 RX9 yX9_follow wsX9_follow) := goodIn_app (goodIn_of _ (by decide +kernel)) ggX9_leastSlant_X9_follow
theorem dX9_leastSlant_0 : decode cX9_leastSlant 0 = .ok (.aload_n 0, 1) := by decide +kernel
theorem dX9_leastSlant_1 : decode cX9_leastSlant 1 = .ok (.aload_n 0, 1) := by decide +kernel
theorem dX9_leastSlant_2 : decode cX9_leastSlant 2 = .ok (.iload_n 1, 1) := by decide +kernel
theorem dX9_leastSlant_3 : decode cX9_leastSlant 3 = .ok (.invokevirtual 140, 3) := by decide +kernel
theorem dX9_leastSlant_6 : decode cX9_leastSlant 6 = .ok (.iload_n 3, 1) := by decide +kernel
theorem dX9_leastSlant_7 : decode cX9_leastSlant 7 = .ok (.invokestatic 373, 3) := by decide +kernel
theorem dX9_leastSlant_10 : decode cX9_leastSlant 10 = .ok (.invokevirtual 332, 3) := by decide +kernel
theorem dX9_leastSlant_13 : decode cX9_leastSlant 13 = .ok (.ifCond .ne 5, 3) := by decide +kernel
theorem dX9_leastSlant_16 : decode cX9_leastSlant 16 = .ok (.iconst 0, 1) := by decide +kernel
theorem dX9_leastSlant_17 : decode cX9_leastSlant 17 = .ok (.ireturn, 1) := by decide +kernel
theorem dX9_leastSlant_18 : decode cX9_leastSlant 18 = .ok (.iconst 0, 1) := by decide +kernel
theorem dX9_leastSlant_19 : decode cX9_leastSlant 19 = .ok (.istore 4, 2) := by decide +kernel
theorem dX9_leastSlant_21 : decode cX9_leastSlant 21 = .ok (.iload 4, 2) := by decide +kernel
theorem dX9_leastSlant_23 : decode cX9_leastSlant 23 = .ok (.aload_n 0, 1) := by decide +kernel
theorem dX9_leastSlant_24 : decode cX9_leastSlant 24 = .ok (.iload_n 1, 1) := by decide +kernel
theorem dX9_leastSlant_25 : decode cX9_leastSlant 25 = .ok (.iconst 0, 1) := by decide +kernel
theorem dX9_leastSlant_26 : decode cX9_leastSlant 26 = .ok (.invokevirtual 105, 3) := by decide +kernel
theorem dX9_leastSlant_29 : decode cX9_leastSlant 29 = .ok (.if_icmp .ge 28, 3) := by decide +kernel
theorem dX9_leastSlant_32 : decode cX9_leastSlant 32 = .ok (.aload_n 0, 1) := by decide +kernel
theorem dX9_leastSlant_33 : decode cX9_leastSlant 33 = .ok (.iload_n 1, 1) := by decide +kernel
theorem dX9_leastSlant_34 : decode cX9_leastSlant 34 = .ok (.iload_n 2, 1) := by decide +kernel
theorem dX9_leastSlant_35 : decode cX9_leastSlant 35 = .ok (.iload 4, 2) := by decide +kernel
theorem dX9_leastSlant_37 : decode cX9_leastSlant 37 = .ok (.invokevirtual 181, 3) := by decide +kernel
theorem dX9_leastSlant_40 : decode cX9_leastSlant 40 = .ok (.aload_n 0, 1) := by decide +kernel
theorem dX9_leastSlant_41 : decode cX9_leastSlant 41 = .ok (.getfield 156, 3) := by decide +kernel
theorem dX9_leastSlant_44 : decode cX9_leastSlant 44 = .ok (.iload_n 3, 1) := by decide +kernel
theorem dX9_leastSlant_45 : decode cX9_leastSlant 45 = .ok (.if_icmp .ne 6, 3) := by decide +kernel
theorem dX9_leastSlant_48 : decode cX9_leastSlant 48 = .ok (.iload 4, 2) := by decide +kernel
theorem dX9_leastSlant_50 : decode cX9_leastSlant 50 = .ok (.ireturn, 1) := by decide +kernel
theorem dX9_leastSlant_51 : decode cX9_leastSlant 51 = .ok (.iinc 4 1, 3) := by decide +kernel
theorem dX9_leastSlant_54 : decode cX9_leastSlant 54 = .ok (.goto (-33), 3) := by decide +kernel
theorem dX9_leastSlant_57 : decode cX9_leastSlant 57 = .ok (.iconst (-1), 1) := by decide +kernel
theorem dX9_leastSlant_58 : decode cX9_leastSlant 58 = .ok (.ireturn, 1) := by decide +kernel
set_option maxRecDepth 20000 in
set_option maxRecDepth 100000 in
theorem ggX9_slantFor_X9_isLayer : GoodIn wsX9_slantFor wsX9_isLayer := goodIn_r _ [13, 14, 15, 16, 12, 17, 18, 19, 20, 21, 94, 95, 96, 97, 98, 99, 100, 101, 102, 103, 104, 105, 106, 107, 108, 109, 110, 111, 112, 113, 114, 115, 116, 117, 118, 119, 120, 121, 122, 123, 124, 125, 126, 127, 128, 129, 130, 131, 132, 133, 134] rfl (by decide +kernel)
set_option maxRecDepth 20000 in
theorem gX9_slantFor_X9_isLayer : GoodIn wsX9_slantFor (wsV RX9 140 RX9 yX9_isLayer wsX9_isLayer) := goodIn_app (goodIn_of _ (by decide +kernel)) ggX9_slantFor_X9_isLayer
set_option maxRecDepth 20000 in
set_option maxRecDepth 100000 in
theorem ggX9_slantFor_X9_passes2 : GoodIn wsX9_slantFor wsX9_passes2 := goodIn_r _ [25, 26, 27, 28, 12, 29, 30, 94, 95, 96, 97, 98, 99, 100, 101, 102, 103, 104, 105, 106, 107, 108, 109, 110, 111, 112, 113, 114, 115, 116, 117, 118, 119, 120, 121, 122, 123, 124, 125, 126, 127, 128, 129, 130, 131, 132, 133, 134] rfl (by decide +kernel)
set_option maxRecDepth 20000 in
theorem gX9_slantFor_X9_passes2 : GoodIn wsX9_slantFor (wsV RX9 332 RX9 yX9_passes2 wsX9_passes2) := goodIn_app (goodIn_of _ (by decide +kernel)) ggX9_slantFor_X9_passes2
set_option maxRecDepth 20000 in
set_option maxRecDepth 100000 in
theorem ggX9_slantFor_X9_ofLayer : GoodIn wsX9_slantFor wsX9_ofLayer := goodIn_r _ [34, 18, 94, 95, 96, 97, 98, 99, 100, 101, 102, 103, 104, 105, 106, 107, 108, 109, 110, 111, 112, 113, 114, 115, 116, 117, 118, 119, 120, 121, 122, 123, 124, 125, 126, 127, 128, 129, 130, 131, 132, 133, 134] rfl (by decide +kernel)
set_option maxRecDepth 20000 in
theorem gX9_slantFor_X9_ofLayer : GoodIn wsX9_slantFor (wsV RX9 105 RX9 yX9_ofLayer wsX9_ofLayer) := goodIn_app (goodIn_of _ (by decide +kernel)) ggX9_slantFor_X9_ofLayer
set_option maxRecDepth 20000 in
set_option maxRecDepth 100000 in
theorem ggX9_slantFor_X9_follow : GoodIn wsX9_slantFor wsX9_follow := goodIn_r _ [38, 3, 39, 40, 41, 8, 42, 43, 44, 45, 9, 10, 11, 12, 13, 14, 15, 16, 17, 18, 19, 20, 21, 31, 32, 33, 34, 46, 47, 48, 49, 50, 51, 6, 52, 53, 54, 2, 55, 56, 57, 58, 59, 60, 61, 62, 63, 64, 65, 66, 67, 68, 69, 70, 71, 72, 73, 74, 75, 76, 77, 78, 79, 80, 81, 82, 83, 84, 85, 86, 87, 88, 89, 90, 94, 95, 96, 97, 98, 99, 100, 101, 102, 103, 104, 105, 106, 107, 108, 109, 110, 111, 112, 113, 114, 115, 116, 117, 118, 119, 120, 121, 122, 123, 124, 125, 126, 127, 128, 129, 130, 131, 132, 133, 134] rfl (by decide +kernel)
set_option maxRecDepth 20000 in
theorem gX9_slantFor_X9_follow : GoodIn wsX9_slantFor (wsV RX9 181 RX9 yX9_follow wsX9_follow) := goodIn_app (goodIn_of _ (by decide +kernel)) ggX9_slantFor_X9_follow
set_option maxRecDepth 20000 in
set_option maxRecDepth 100000 in
theorem ggX9_slantFor_X9_sumUp : GoodIn wsX9_slantFor wsX9_sumUp := goodIn_r _ [93] rfl (by decide +kernel)
set_option maxRecDepth 20000 in
theorem gX9_slantFor_X9_sumUp : GoodIn wsX9_slantFor (va_wsS RX9 343 yX9_sumUp wsX9_sumUp) := goodIn_app (goodIn_of _ (by decide +kernel)) ggX9_slantFor_X9_sumUp
theorem dX9_slantFor_0 : decode cX9_slantFor 0 = .ok (.aload_n 0, 1) := by decide +kernel
theorem dX9_slantFor_1 : decode cX9_slantFor 1 = .ok (.aload_n 0, 1) := by decide +kernel
theorem dX9_slantFor_2 : decode cX9_slantFor 2 = .ok (.iload_n 1, 1) := by decide +kernel
theorem dX9_slantFor_3 : decode cX9_slantFor 3 = .ok (.invokevirtual 140, 3) := by decide +kernel
theorem dX9_slantFor_6 : decode cX9_slantFor 6 = .ok (.iload_n 3, 1) := by decide +kernel
theorem dX9_slantFor_7 : decode cX9_slantFor 7 = .ok (.ifCond .lt 7, 3) := by decide +kernel
theorem dX9_slantFor_10 : decode cX9_slantFor 10 = .ok (.iconst 1, 1) := by decide +kernel
theorem dX9_slantFor_11 : decode cX9_slantFor 11 = .ok (.goto 4, 3) := by decide +kernel
theorem dX9_slantFor_14 : decode cX9_slantFor 14 = .ok (.iconst 0, 1) := by decide +kernel
theorem dX9_slantFor_15 : decode cX9_slantFor 15 = .ok (.invokevirtual 332, 3) := by decide +kernel
theorem dX9_slantFor_18 : decode cX9_slantFor 18 = .ok (.ifCond .ne 5, 3) := by decide +kernel
theorem dX9_slantFor_21 : decode cX9_slantFor 21 = .ok (.iconst 0, 1) := by decide +kernel
theorem dX9_slantFor_22 : decode cX9_slantFor 22 = .ok (.ireturn, 1) := by decide +kernel
theorem dX9_slantFor_23 : decode cX9_slantFor 23 = .ok (.iconst (-1), 1) := by decide +kernel
theorem dX9_slantFor_24 : decode cX9_slantFor 24 = .ok (.istore 4, 2) := by decide +kernel
theorem dX9_slantFor_26 : decode cX9_slantFor 26 = .ok (.ldc_w 382, 3) := by decide +kernel
theorem dX9_slantFor_29 : decode cX9_slantFor 29 = .ok (.istore 5, 2) := by decide +kernel
theorem dX9_slantFor_31 : decode cX9_slantFor 31 = .ok (.iconst 0, 1) := by decide +kernel
theorem dX9_slantFor_32 : decode cX9_slantFor 32 = .ok (.istore 6, 2) := by decide +kernel
theorem dX9_slantFor_34 : decode cX9_slantFor 34 = .ok (.iload 6, 2) := by decide +kernel
theorem dX9_slantFor_36 : decode cX9_slantFor 36 = .ok (.aload_n 0, 1) := by decide +kernel
theorem dX9_slantFor_37 : decode cX9_slantFor 37 = .ok (.iload_n 1, 1) := by decide +kernel
theorem dX9_slantFor_38 : decode cX9_slantFor 38 = .ok (.iconst 0, 1) := by decide +kernel
theorem dX9_slantFor_39 : decode cX9_slantFor 39 = .ok (.invokevirtual 105, 3) := by decide +kernel
theorem dX9_slantFor_42 : decode cX9_slantFor 42 = .ok (.if_icmp .ge 63, 3) := by decide +kernel
theorem dX9_slantFor_45 : decode cX9_slantFor 45 = .ok (.aload_n 0, 1) := by decide +kernel
theorem dX9_slantFor_46 : decode cX9_slantFor 46 = .ok (.iload_n 1, 1) := by decide +kernel
theorem dX9_slantFor_47 : decode cX9_slantFor 47 = .ok (.iload_n 2, 1) := by decide +kernel
theorem dX9_slantFor_48 : decode cX9_slantFor 48 = .ok (.iload 6, 2) := by decide +kernel
theorem dX9_slantFor_50 : decode cX9_slantFor 50 = .ok (.invokevirtual 181, 3) := by decide +kernel
theorem dX9_slantFor_53 : decode cX9_slantFor 53 = .ok (.aload_n 0, 1) := by decide +kernel
theorem dX9_slantFor_54 : decode cX9_slantFor 54 = .ok (.getfield 34, 3) := by decide +kernel
theorem dX9_slantFor_57 : decode cX9_slantFor 57 = .ok (.aload_n 0, 1) := by decide +kernel
theorem dX9_slantFor_58 : decode cX9_slantFor 58 = .ok (.getfield 131, 3) := by decide +kernel
theorem dX9_slantFor_61 : decode cX9_slantFor 61 = .ok (.invokestatic 343, 3) := by decide +kernel
theorem dX9_slantFor_64 : decode cX9_slantFor 64 = .ok (.iload_n 3, 1) := by decide +kernel
theorem dX9_slantFor_65 : decode cX9_slantFor 65 = .ok (.isub, 1) := by decide +kernel
theorem dX9_slantFor_66 : decode cX9_slantFor 66 = .ok (.invokestatic 383, 3) := by decide +kernel
theorem dX9_slantFor_69 : decode cX9_slantFor 69 = .ok (.istore 7, 2) := by decide +kernel
theorem dX9_slantFor_71 : decode cX9_slantFor 71 = .ok (.aload_n 0, 1) := by decide +kernel
theorem dX9_slantFor_72 : decode cX9_slantFor 72 = .ok (.getfield 156, 3) := by decide +kernel
theorem dX9_slantFor_75 : decode cX9_slantFor 75 = .ok (.ifCond .ne 24, 3) := by decide +kernel
theorem dX9_slantFor_78 : decode cX9_slantFor 78 = .ok (.iload 4, 2) := by decide +kernel
theorem dX9_slantFor_80 : decode cX9_slantFor 80 = .ok (.iconst (-1), 1) := by decide +kernel
theorem dX9_slantFor_81 : decode cX9_slantFor 81 = .ok (.if_icmp .eq 10, 3) := by decide +kernel
theorem dX9_slantFor_84 : decode cX9_slantFor 84 = .ok (.iload 7, 2) := by decide +kernel
theorem dX9_slantFor_86 : decode cX9_slantFor 86 = .ok (.iload 5, 2) := by decide +kernel
theorem dX9_slantFor_88 : decode cX9_slantFor 88 = .ok (.if_icmp .ge 11, 3) := by decide +kernel
theorem dX9_slantFor_91 : decode cX9_slantFor 91 = .ok (.iload 6, 2) := by decide +kernel
theorem dX9_slantFor_93 : decode cX9_slantFor 93 = .ok (.istore 4, 2) := by decide +kernel
theorem dX9_slantFor_95 : decode cX9_slantFor 95 = .ok (.iload 7, 2) := by decide +kernel
theorem dX9_slantFor_97 : decode cX9_slantFor 97 = .ok (.istore 5, 2) := by decide +kernel
theorem dX9_slantFor_99 : decode cX9_slantFor 99 = .ok (.iinc 6 1, 3) := by decide +kernel
theorem dX9_slantFor_102 : decode cX9_slantFor 102 = .ok (.goto (-68), 3) := by decide +kernel
theorem dX9_slantFor_105 : decode cX9_slantFor 105 = .ok (.iload 4, 2) := by decide +kernel
theorem dX9_slantFor_107 : decode cX9_slantFor 107 = .ok (.ireturn, 1) := by decide +kernel
set_option maxRecDepth 20000 in
set_option maxRecDepth 100000 in
theorem ggX9_fastest_X9_isLayer : GoodIn wsX9_fastest wsX9_isLayer := goodIn_r _ [8, 9, 10, 11, 7, 12, 13, 14, 15, 16, 94, 95, 96, 97, 98, 99, 100, 101, 102, 103, 104, 105, 106, 107, 108, 109, 110, 111, 112, 113, 114, 115, 116, 117, 118, 119, 120, 121, 122, 123, 124, 125, 126, 127, 128, 129, 130, 131, 132, 133, 134] rfl (by decide +kernel)
set_option maxRecDepth 20000 in
theorem gX9_fastest_X9_isLayer : GoodIn wsX9_fastest (wsV RX9 140 RX9 yX9_isLayer wsX9_isLayer) := goodIn_app (goodIn_of _ (by decide +kernel)) ggX9_fastest_X9_isLayer
set_option maxRecDepth 20000 in
set_option maxRecDepth 100000 in
theorem ggX9_fastest_X9_isEnd : GoodIn wsX9_fastest wsX9_isEnd := goodIn_r _ [19, 20, 14, 15, 7, 16] rfl (by decide +kernel)
set_option maxRecDepth 20000 in
theorem gX9_fastest_X9_isEnd : GoodIn wsX9_fastest (va_wsS RX9 373 yX9_isEnd wsX9_isEnd) := goodIn_app (goodIn_of _ (by decide +kernel)) ggX9_fastest_X9_isEnd
set_option maxRecDepth 20000 in
set_option maxRecDepth 100000 in
theorem ggX9_fastest_X9_passes2 : GoodIn wsX9_fastest wsX9_passes2 := goodIn_r _ [24, 25, 26, 27, 7, 28, 29, 94, 95, 96, 97, 98, 99, 100, 101, 102, 103, 104, 105, 106, 107, 108, 109, 110, 111, 112, 113, 114, 115, 116, 117, 118, 119, 120, 121, 122, 123, 124, 125, 126, 127, 128, 129, 130, 131, 132, 133, 134] rfl (by decide +kernel)
set_option maxRecDepth 20000 in
theorem gX9_fastest_X9_passes2 : GoodIn wsX9_fastest (wsV RX9 332 RX9 yX9_passes2 wsX9_passes2) := goodIn_app (goodIn_of _ (by decide +kernel)) ggX9_fastest_X9_passes2
set_option maxRecDepth 20000 in
set_option maxRecDepth 100000 in
theorem ggX9_fastest_X9_ofLayer : GoodIn wsX9_fastest wsX9_ofLayer := goodIn_r _ [33, 13, 94, 95, 96, 97, 98, 99, 100, 101, 102, 103, 104, 105, 106, 107, 108, 109, 110, 111, 112, 113, 114, 115, 116, 117, 118, 119, 120, 121, 122, 123, 124, 125, 126, 127, 128, 129, 130, 131, 132, 133, 134] rfl (by decide +kernel)
set_option maxRecDepth 20000 in
theorem gX9_fastest_X9_ofLayer : GoodIn wsX9_fastest (wsV RX9 105 RX9 yX9_ofLayer wsX9_ofLayer) := goodIn_app (goodIn_of _ (by decide +kernel)) ggX9_fastest_X9_ofLayer
set_option maxRecDepth 20000 in
set_option maxRecDepth 100000 in
theorem ggX9_fastest_X9_follow : GoodIn wsX9_fastest wsX9_follow := goodIn_r _ [37, 2, 38, 39, 40, 3, 41, 42, 43, 44, 4, 5, 6, 7, 8, 9, 10, 11, 12, 13, 14, 15, 16, 30, 31, 32, 33, 45, 46, 47, 48, 49, 50, 51, 52, 53, 54, 55, 56, 1, 57, 58, 59, 60, 61, 62, 63, 64, 65, 66, 67, 68, 69, 70, 71, 72, 73, 74, 75, 76, 77, 78, 79, 80, 81, 82, 83, 84, 85, 86, 87, 88, 89, 90, 94, 95, 96, 97, 98, 99, 100, 101, 102, 103, 104, 105, 106, 107, 108, 109, 110, 111, 112, 113, 114, 115, 116, 117, 118, 119, 120, 121, 122, 123, 124, 125, 126, 127, 128, 129, 130, 131, 132, 133, 134] rfl (by decide +kernel)
set_option maxRecDepth 20000 in
theorem gX9_fastest_X9_follow : GoodIn wsX9_fastest (wsV RX9 181 RX9 yX9_follow wsX9_follow) := goodIn_app (goodIn_of _ (by decide +kernel)) ggX9_fastest_X9_follow
set_option maxRecDepth 20000 in
set_option maxRecDepth 100000 in
theorem ggX9_fastest_X9_sumUp : GoodIn wsX9_fastest wsX9_sumUp := goodIn_r _ [93] rfl (by decide +kernel)
set_option maxRecDepth 20000 in
theorem gX9_fastest_X9_sumUp : GoodIn wsX9_fastest (va_wsS RX9 343 yX9_sumUp wsX9_sumUp) := goodIn_app (goodIn_of _ (by decide +kernel)) ggX9_fastest_X9_sumUp
theorem dX9_fastest_0 : decode cX9_fastest 0 = .ok (.aload_n 0, 1) := by decide +kernel
theorem dX9_fastest_1 : decode cX9_fastest 1 = .ok (.aload_n 0, 1) := by decide +kernel
theorem dX9_fastest_2 : decode cX9_fastest 2 = .ok (.iload_n 1, 1) := by decide +kernel
theorem dX9_fastest_3 : decode cX9_fastest 3 = .ok (.invokevirtual 140, 3) := by decide +kernel
theorem dX9_fastest_6 : decode cX9_fastest 6 = .ok (.iload_n 3, 1) := by decide +kernel
theorem dX9_fastest_7 : decode cX9_fastest 7 = .ok (.invokestatic 373, 3) := by decide +kernel
theorem dX9_fastest_10 : decode cX9_fastest 10 = .ok (.invokevirtual 332, 3) := by decide +kernel
theorem dX9_fastest_13 : decode cX9_fastest 13 = .ok (.ifCond .ne 5, 3) := by decide +kernel
theorem dX9_fastest_16 : decode cX9_fastest 16 = .ok (.iconst 0, 1) := by decide +kernel
theorem dX9_fastest_17 : decode cX9_fastest 17 = .ok (.ireturn, 1) := by decide +kernel
theorem dX9_fastest_18 : decode cX9_fastest 18 = .ok (.iconst (-1), 1) := by decide +kernel
theorem dX9_fastest_19 : decode cX9_fastest 19 = .ok (.istore 4, 2) := by decide +kernel
theorem dX9_fastest_21 : decode cX9_fastest 21 = .ok (.iconst 0, 1) := by decide +kernel
theorem dX9_fastest_22 : decode cX9_fastest 22 = .ok (.istore 5, 2) := by decide +kernel
theorem dX9_fastest_24 : decode cX9_fastest 24 = .ok (.iconst 0, 1) := by decide +kernel
theorem dX9_fastest_25 : decode cX9_fastest 25 = .ok (.istore 6, 2) := by decide +kernel
theorem dX9_fastest_27 : decode cX9_fastest 27 = .ok (.iload 6, 2) := by decide +kernel
theorem dX9_fastest_29 : decode cX9_fastest 29 = .ok (.aload_n 0, 1) := by decide +kernel
theorem dX9_fastest_30 : decode cX9_fastest 30 = .ok (.iload_n 1, 1) := by decide +kernel
theorem dX9_fastest_31 : decode cX9_fastest 31 = .ok (.iconst 0, 1) := by decide +kernel
theorem dX9_fastest_32 : decode cX9_fastest 32 = .ok (.invokevirtual 105, 3) := by decide +kernel
theorem dX9_fastest_35 : decode cX9_fastest 35 = .ok (.if_icmp .ge 59, 3) := by decide +kernel
theorem dX9_fastest_38 : decode cX9_fastest 38 = .ok (.aload_n 0, 1) := by decide +kernel
theorem dX9_fastest_39 : decode cX9_fastest 39 = .ok (.iload_n 1, 1) := by decide +kernel
theorem dX9_fastest_40 : decode cX9_fastest 40 = .ok (.iload_n 2, 1) := by decide +kernel
theorem dX9_fastest_41 : decode cX9_fastest 41 = .ok (.iload 6, 2) := by decide +kernel
theorem dX9_fastest_43 : decode cX9_fastest 43 = .ok (.invokevirtual 181, 3) := by decide +kernel
theorem dX9_fastest_46 : decode cX9_fastest 46 = .ok (.aload_n 0, 1) := by decide +kernel
theorem dX9_fastest_47 : decode cX9_fastest 47 = .ok (.getfield 40, 3) := by decide +kernel
theorem dX9_fastest_50 : decode cX9_fastest 50 = .ok (.aload_n 0, 1) := by decide +kernel
theorem dX9_fastest_51 : decode cX9_fastest 51 = .ok (.getfield 131, 3) := by decide +kernel
theorem dX9_fastest_54 : decode cX9_fastest 54 = .ok (.invokestatic 343, 3) := by decide +kernel
theorem dX9_fastest_57 : decode cX9_fastest 57 = .ok (.istore 7, 2) := by decide +kernel
theorem dX9_fastest_59 : decode cX9_fastest 59 = .ok (.aload_n 0, 1) := by decide +kernel
theorem dX9_fastest_60 : decode cX9_fastest 60 = .ok (.getfield 156, 3) := by decide +kernel
theorem dX9_fastest_63 : decode cX9_fastest 63 = .ok (.iload_n 3, 1) := by decide +kernel
theorem dX9_fastest_64 : decode cX9_fastest 64 = .ok (.if_icmp .ne 24, 3) := by decide +kernel
theorem dX9_fastest_67 : decode cX9_fastest 67 = .ok (.iload 4, 2) := by decide +kernel
theorem dX9_fastest_69 : decode cX9_fastest 69 = .ok (.iconst (-1), 1) := by decide +kernel
theorem dX9_fastest_70 : decode cX9_fastest 70 = .ok (.if_icmp .eq 10, 3) := by decide +kernel
theorem dX9_fastest_73 : decode cX9_fastest 73 = .ok (.iload 7, 2) := by decide +kernel
theorem dX9_fastest_75 : decode cX9_fastest 75 = .ok (.iload 5, 2) := by decide +kernel
theorem dX9_fastest_77 : decode cX9_fastest 77 = .ok (.if_icmp .ge 11, 3) := by decide +kernel
theorem dX9_fastest_80 : decode cX9_fastest 80 = .ok (.iload 6, 2) := by decide +kernel
theorem dX9_fastest_82 : decode cX9_fastest 82 = .ok (.istore 4, 2) := by decide +kernel
theorem dX9_fastest_84 : decode cX9_fastest 84 = .ok (.iload 7, 2) := by decide +kernel
theorem dX9_fastest_86 : decode cX9_fastest 86 = .ok (.istore 5, 2) := by decide +kernel
theorem dX9_fastest_88 : decode cX9_fastest 88 = .ok (.iinc 6 1, 3) := by decide +kernel
theorem dX9_fastest_91 : decode cX9_fastest 91 = .ok (.goto (-64), 3) := by decide +kernel
theorem dX9_fastest_94 : decode cX9_fastest 94 = .ok (.iload 4, 2) := by decide +kernel
theorem dX9_fastest_96 : decode cX9_fastest 96 = .ok (.ireturn, 1) := by decide +kernel
set_option maxRecDepth 20000 in
set_option maxRecDepth 100000 in
theorem ggX9_brightest_X9_isLayer : GoodIn wsX9_brightest wsX9_isLayer := goodIn_r _ [8, 9, 10, 11, 7, 12, 13, 14, 15, 16, 92, 93, 94, 95, 96, 97, 98, 99, 100, 101, 102, 103, 104, 105, 106, 107, 108, 109, 110, 111, 112, 113, 114, 115, 116, 117, 118, 119, 120, 121, 122, 123, 124, 125, 126, 127, 128, 129, 130, 131, 132] rfl (by decide +kernel)
set_option maxRecDepth 20000 in
theorem gX9_brightest_X9_isLayer : GoodIn wsX9_brightest (wsV RX9 140 RX9 yX9_isLayer wsX9_isLayer) := goodIn_app (goodIn_of _ (by decide +kernel)) ggX9_brightest_X9_isLayer
set_option maxRecDepth 20000 in
set_option maxRecDepth 100000 in
theorem ggX9_brightest_X9_isEnd : GoodIn wsX9_brightest wsX9_isEnd := goodIn_r _ [19, 20, 14, 15, 7, 16] rfl (by decide +kernel)
set_option maxRecDepth 20000 in
theorem gX9_brightest_X9_isEnd : GoodIn wsX9_brightest (va_wsS RX9 373 yX9_isEnd wsX9_isEnd) := goodIn_app (goodIn_of _ (by decide +kernel)) ggX9_brightest_X9_isEnd
set_option maxRecDepth 20000 in
set_option maxRecDepth 100000 in
theorem ggX9_brightest_X9_passes2 : GoodIn wsX9_brightest wsX9_passes2 := goodIn_r _ [24, 25, 26, 27, 7, 28, 29, 92, 93, 94, 95, 96, 97, 98, 99, 100, 101, 102, 103, 104, 105, 106, 107, 108, 109, 110, 111, 112, 113, 114, 115, 116, 117, 118, 119, 120, 121, 122, 123, 124, 125, 126, 127, 128, 129, 130, 131, 132] rfl (by decide +kernel)
set_option maxRecDepth 20000 in
theorem gX9_brightest_X9_passes2 : GoodIn wsX9_brightest (wsV RX9 332 RX9 yX9_passes2 wsX9_passes2) := goodIn_app (goodIn_of _ (by decide +kernel)) ggX9_brightest_X9_passes2
set_option maxRecDepth 20000 in
set_option maxRecDepth 100000 in
theorem ggX9_brightest_X9_ofLayer : GoodIn wsX9_brightest wsX9_ofLayer := goodIn_r _ [33, 13, 92, 93, 94, 95, 96, 97, 98, 99, 100, 101, 102, 103, 104, 105, 106, 107, 108, 109, 110, 111, 112, 113, 114, 115, 116, 117, 118, 119, 120, 121, 122, 123, 124, 125, 126, 127, 128, 129, 130, 131, 132] rfl (by decide +kernel)
set_option maxRecDepth 20000 in
theorem gX9_brightest_X9_ofLayer : GoodIn wsX9_brightest (wsV RX9 105 RX9 yX9_ofLayer wsX9_ofLayer) := goodIn_app (goodIn_of _ (by decide +kernel)) ggX9_brightest_X9_ofLayer
set_option maxRecDepth 20000 in
set_option maxRecDepth 100000 in
theorem ggX9_brightest_X9_follow : GoodIn wsX9_brightest wsX9_follow := goodIn_r _ [37, 38, 39, 40, 3, 2, 41, 42, 43, 44, 4, 5, 6, 7, 8, 9, 10, 11, 12, 13, 14, 15, 16, 30, 31, 32, 33, 45, 46, 47, 48, 49, 50, 51, 52, 53, 54, 55, 56, 57, 58, 59, 60, 61, 62, 63, 64, 65, 66, 67, 68, 69, 70, 71, 72, 73, 74, 75, 76, 77, 78, 79, 80, 81, 82, 83, 84, 85, 86, 87, 88, 89, 90, 91, 92, 93, 94, 95, 96, 97, 98, 99, 100, 101, 102, 103, 104, 105, 106, 107, 108, 109, 110, 111, 112, 113, 114, 115, 116, 117, 118, 119, 120, 121, 122, 123, 124, 125, 126, 127, 128, 129, 130, 131, 132] rfl (by decide +kernel)
set_option maxRecDepth 20000 in
theorem gX9_brightest_X9_follow : GoodIn wsX9_brightest (wsV RX9 181 RX9 yX9_follow wsX9_follow) := goodIn_app (goodIn_of _ (by decide +kernel)) ggX9_brightest_X9_follow
theorem dX9_brightest_0 : decode cX9_brightest 0 = .ok (.aload_n 0, 1) := by decide +kernel
theorem dX9_brightest_1 : decode cX9_brightest 1 = .ok (.aload_n 0, 1) := by decide +kernel
theorem dX9_brightest_2 : decode cX9_brightest 2 = .ok (.iload_n 1, 1) := by decide +kernel
theorem dX9_brightest_3 : decode cX9_brightest 3 = .ok (.invokevirtual 140, 3) := by decide +kernel
theorem dX9_brightest_6 : decode cX9_brightest 6 = .ok (.iload_n 3, 1) := by decide +kernel
theorem dX9_brightest_7 : decode cX9_brightest 7 = .ok (.invokestatic 373, 3) := by decide +kernel
theorem dX9_brightest_10 : decode cX9_brightest 10 = .ok (.invokevirtual 332, 3) := by decide +kernel
theorem dX9_brightest_13 : decode cX9_brightest 13 = .ok (.ifCond .ne 5, 3) := by decide +kernel
theorem dX9_brightest_16 : decode cX9_brightest 16 = .ok (.iconst 0, 1) := by decide +kernel
theorem dX9_brightest_17 : decode cX9_brightest 17 = .ok (.ireturn, 1) := by decide +kernel
theorem dX9_brightest_18 : decode cX9_brightest 18 = .ok (.iconst (-1), 1) := by decide +kernel
theorem dX9_brightest_19 : decode cX9_brightest 19 = .ok (.istore 4, 2) := by decide +kernel
theorem dX9_brightest_21 : decode cX9_brightest 21 = .ok (.ldc2_w 386, 3) := by decide +kernel
theorem dX9_brightest_24 : decode cX9_brightest 24 = .ok (.lstore 5, 2) := by decide +kernel
theorem dX9_brightest_26 : decode cX9_brightest 26 = .ok (.iconst 0, 1) := by decide +kernel
theorem dX9_brightest_27 : decode cX9_brightest 27 = .ok (.istore 7, 2) := by decide +kernel
theorem dX9_brightest_29 : decode cX9_brightest 29 = .ok (.iload 7, 2) := by decide +kernel
theorem dX9_brightest_31 : decode cX9_brightest 31 = .ok (.aload_n 0, 1) := by decide +kernel
theorem dX9_brightest_32 : decode cX9_brightest 32 = .ok (.iload_n 1, 1) := by decide +kernel
theorem dX9_brightest_33 : decode cX9_brightest 33 = .ok (.iconst 0, 1) := by decide +kernel
theorem dX9_brightest_34 : decode cX9_brightest 34 = .ok (.invokevirtual 105, 3) := by decide +kernel
theorem dX9_brightest_37 : decode cX9_brightest 37 = .ok (.if_icmp .ge 45, 3) := by decide +kernel
theorem dX9_brightest_40 : decode cX9_brightest 40 = .ok (.aload_n 0, 1) := by decide +kernel
theorem dX9_brightest_41 : decode cX9_brightest 41 = .ok (.iload_n 1, 1) := by decide +kernel
theorem dX9_brightest_42 : decode cX9_brightest 42 = .ok (.iload_n 2, 1) := by decide +kernel
theorem dX9_brightest_43 : decode cX9_brightest 43 = .ok (.iload 7, 2) := by decide +kernel
