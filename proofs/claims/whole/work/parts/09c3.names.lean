theorem dX9_brightest_45 : decode cX9_brightest 45 = .ok (.invokevirtual 181, 3) := by decide +kernel
theorem dX9_brightest_48 : decode cX9_brightest 48 = .ok (.aload_n 0, 1) := by decide +kernel
theorem dX9_brightest_49 : decode cX9_brightest 49 = .ok (.getfield 156, 3) := by decide +kernel
theorem dX9_brightest_52 : decode cX9_brightest 52 = .ok (.iload_n 3, 1) := by decide +kernel
theorem dX9_brightest_53 : decode cX9_brightest 53 = .ok (.if_icmp .ne 23, 3) := by decide +kernel
theorem dX9_brightest_56 : decode cX9_brightest 56 = .ok (.aload_n 0, 1) := by decide +kernel
theorem dX9_brightest_57 : decode cX9_brightest 57 = .ok (.getfield 119, 3) := by decide +kernel
theorem dX9_brightest_60 : decode cX9_brightest 60 = .ok (.lload 5, 2) := by decide +kernel
theorem dX9_brightest_62 : decode cX9_brightest 62 = .ok (.lcmp, 1) := by decide +kernel
theorem dX9_brightest_63 : decode cX9_brightest 63 = .ok (.ifCond .le 13, 3) := by decide +kernel
theorem dX9_brightest_66 : decode cX9_brightest 66 = .ok (.iload 7, 2) := by decide +kernel
theorem dX9_brightest_68 : decode cX9_brightest 68 = .ok (.istore 4, 2) := by decide +kernel
theorem dX9_brightest_70 : decode cX9_brightest 70 = .ok (.aload_n 0, 1) := by decide +kernel
theorem dX9_brightest_71 : decode cX9_brightest 71 = .ok (.getfield 119, 3) := by decide +kernel
theorem dX9_brightest_74 : decode cX9_brightest 74 = .ok (.lstore 5, 2) := by decide +kernel
theorem dX9_brightest_76 : decode cX9_brightest 76 = .ok (.iinc 7 1, 3) := by decide +kernel
theorem dX9_brightest_79 : decode cX9_brightest 79 = .ok (.goto (-50), 3) := by decide +kernel
theorem dX9_brightest_82 : decode cX9_brightest 82 = .ok (.iload 4, 2) := by decide +kernel
theorem dX9_brightest_84 : decode cX9_brightest 84 = .ok (.ireturn, 1) := by decide +kernel
set_option maxRecDepth 20000 in
set_option maxRecDepth 100000 in
theorem ggX9_farthest_X9_isLayer : GoodIn wsX9_farthest wsX9_isLayer := goodIn_r _ [12, 13, 14, 15, 11, 16, 17, 18, 19, 20, 97, 98, 99, 100, 101, 102, 103, 104, 105, 106, 107, 108, 109, 110, 111, 112, 113, 114, 115, 116, 117, 118, 119, 120, 121, 122, 123, 124, 125, 126, 127, 128, 129, 130, 131, 132, 133, 134, 135, 136, 137] rfl (by decide +kernel)
set_option maxRecDepth 20000 in
theorem gX9_farthest_X9_isLayer : GoodIn wsX9_farthest (wsV RX9 140 RX9 yX9_isLayer wsX9_isLayer) := goodIn_app (goodIn_of _ (by decide +kernel)) ggX9_farthest_X9_isLayer
set_option maxRecDepth 20000 in
set_option maxRecDepth 100000 in
theorem ggX9_farthest_X9_isEnd : GoodIn wsX9_farthest wsX9_isEnd := goodIn_r _ [23, 24, 18, 19, 11, 20] rfl (by decide +kernel)
set_option maxRecDepth 20000 in
theorem gX9_farthest_X9_isEnd : GoodIn wsX9_farthest (va_wsS RX9 373 yX9_isEnd wsX9_isEnd) := goodIn_app (goodIn_of _ (by decide +kernel)) ggX9_farthest_X9_isEnd
set_option maxRecDepth 20000 in
set_option maxRecDepth 100000 in
theorem ggX9_farthest_X9_passes2 : GoodIn wsX9_farthest wsX9_passes2 := goodIn_r _ [28, 29, 30, 31, 11, 32, 33, 97, 98, 99, 100, 101, 102, 103, 104, 105, 106, 107, 108, 109, 110, 111, 112, 113, 114, 115, 116, 117, 118, 119, 120, 121, 122, 123, 124, 125, 126, 127, 128, 129, 130, 131, 132, 133, 134, 135, 136, 137] rfl (by decide +kernel)
set_option maxRecDepth 20000 in
theorem gX9_farthest_X9_passes2 : GoodIn wsX9_farthest (wsV RX9 332 RX9 yX9_passes2 wsX9_passes2) := goodIn_app (goodIn_of _ (by decide +kernel)) ggX9_farthest_X9_passes2
set_option maxRecDepth 20000 in
set_option maxRecDepth 100000 in
theorem ggX9_farthest_X9_ofLayer : GoodIn wsX9_farthest wsX9_ofLayer := goodIn_r _ [37, 17, 97, 98, 99, 100, 101, 102, 103, 104, 105, 106, 107, 108, 109, 110, 111, 112, 113, 114, 115, 116, 117, 118, 119, 120, 121, 122, 123, 124, 125, 126, 127, 128, 129, 130, 131, 132, 133, 134, 135, 136, 137] rfl (by decide +kernel)
set_option maxRecDepth 20000 in
theorem gX9_farthest_X9_ofLayer : GoodIn wsX9_farthest (wsV RX9 105 RX9 yX9_ofLayer wsX9_ofLayer) := goodIn_app (goodIn_of _ (by decide +kernel)) ggX9_farthest_X9_ofLayer
set_option maxRecDepth 20000 in
set_option maxRecDepth 100000 in
theorem ggX9_farthest_X9_follow : GoodIn wsX9_farthest wsX9_follow := goodIn_r _ [41, 3, 42, 43, 44, 1, 45, 46, 47, 48, 8, 9, 10, 11, 12, 13, 14, 15, 16, 17, 18, 19, 20, 34, 35, 36, 37, 49, 50, 51, 52, 53, 54, 6, 55, 56, 57, 2, 58, 59, 60, 61, 62, 63, 64, 65, 66, 67, 68, 69, 70, 71, 72, 73, 74, 75, 76, 77, 78, 79, 80, 81, 82, 83, 84, 85, 86, 87, 88, 89, 90, 91, 92, 93, 97, 98, 99, 100, 101, 102, 103, 104, 105, 106, 107, 108, 109, 110, 111, 112, 113, 114, 115, 116, 117, 118, 119, 120, 121, 122, 123, 124, 125, 126, 127, 128, 129, 130, 131, 132, 133, 134, 135, 136, 137] rfl (by decide +kernel)
set_option maxRecDepth 20000 in
theorem gX9_farthest_X9_follow : GoodIn wsX9_farthest (wsV RX9 181 RX9 yX9_follow wsX9_follow) := goodIn_app (goodIn_of _ (by decide +kernel)) ggX9_farthest_X9_follow
set_option maxRecDepth 20000 in
set_option maxRecDepth 100000 in
theorem ggX9_farthest_X9_sumUp : GoodIn wsX9_farthest wsX9_sumUp := goodIn_r _ [96] rfl (by decide +kernel)
set_option maxRecDepth 20000 in
theorem gX9_farthest_X9_sumUp : GoodIn wsX9_farthest (va_wsS RX9 343 yX9_sumUp wsX9_sumUp) := goodIn_app (goodIn_of _ (by decide +kernel)) ggX9_farthest_X9_sumUp
theorem dX9_farthest_0 : decode cX9_farthest 0 = .ok (.aload_n 0, 1) := by decide +kernel
theorem dX9_farthest_1 : decode cX9_farthest 1 = .ok (.aload_n 0, 1) := by decide +kernel
theorem dX9_farthest_2 : decode cX9_farthest 2 = .ok (.iload_n 1, 1) := by decide +kernel
theorem dX9_farthest_3 : decode cX9_farthest 3 = .ok (.invokevirtual 140, 3) := by decide +kernel
theorem dX9_farthest_6 : decode cX9_farthest 6 = .ok (.iload_n 3, 1) := by decide +kernel
theorem dX9_farthest_7 : decode cX9_farthest 7 = .ok (.invokestatic 373, 3) := by decide +kernel
theorem dX9_farthest_10 : decode cX9_farthest 10 = .ok (.invokevirtual 332, 3) := by decide +kernel
theorem dX9_farthest_13 : decode cX9_farthest 13 = .ok (.ifCond .ne 5, 3) := by decide +kernel
theorem dX9_farthest_16 : decode cX9_farthest 16 = .ok (.iconst 0, 1) := by decide +kernel
theorem dX9_farthest_17 : decode cX9_farthest 17 = .ok (.ireturn, 1) := by decide +kernel
theorem dX9_farthest_18 : decode cX9_farthest 18 = .ok (.iconst (-1), 1) := by decide +kernel
theorem dX9_farthest_19 : decode cX9_farthest 19 = .ok (.istore 4, 2) := by decide +kernel
theorem dX9_farthest_21 : decode cX9_farthest 21 = .ok (.iconst 0, 1) := by decide +kernel
theorem dX9_farthest_22 : decode cX9_farthest 22 = .ok (.istore 5, 2) := by decide +kernel
theorem dX9_farthest_24 : decode cX9_farthest 24 = .ok (.iload 5, 2) := by decide +kernel
theorem dX9_farthest_26 : decode cX9_farthest 26 = .ok (.aload_n 0, 1) := by decide +kernel
theorem dX9_farthest_27 : decode cX9_farthest 27 = .ok (.iload_n 1, 1) := by decide +kernel
theorem dX9_farthest_28 : decode cX9_farthest 28 = .ok (.iconst 0, 1) := by decide +kernel
theorem dX9_farthest_29 : decode cX9_farthest 29 = .ok (.invokevirtual 105, 3) := by decide +kernel
theorem dX9_farthest_32 : decode cX9_farthest 32 = .ok (.if_icmp .ge 48, 3) := by decide +kernel
theorem dX9_farthest_35 : decode cX9_farthest 35 = .ok (.aload_n 0, 1) := by decide +kernel
theorem dX9_farthest_36 : decode cX9_farthest 36 = .ok (.iload_n 1, 1) := by decide +kernel
theorem dX9_farthest_37 : decode cX9_farthest 37 = .ok (.iload_n 2, 1) := by decide +kernel
theorem dX9_farthest_38 : decode cX9_farthest 38 = .ok (.iload 5, 2) := by decide +kernel
theorem dX9_farthest_40 : decode cX9_farthest 40 = .ok (.invokevirtual 181, 3) := by decide +kernel
theorem dX9_farthest_43 : decode cX9_farthest 43 = .ok (.aload_n 0, 1) := by decide +kernel
theorem dX9_farthest_44 : decode cX9_farthest 44 = .ok (.getfield 156, 3) := by decide +kernel
theorem dX9_farthest_47 : decode cX9_farthest 47 = .ok (.iload_n 3, 1) := by decide +kernel
theorem dX9_farthest_48 : decode cX9_farthest 48 = .ok (.if_icmp .ne 22, 3) := by decide +kernel
theorem dX9_farthest_51 : decode cX9_farthest 51 = .ok (.iload 4, 2) := by decide +kernel
theorem dX9_farthest_53 : decode cX9_farthest 53 = .ok (.aload_n 0, 1) := by decide +kernel
theorem dX9_farthest_54 : decode cX9_farthest 54 = .ok (.getfield 34, 3) := by decide +kernel
theorem dX9_farthest_57 : decode cX9_farthest 57 = .ok (.aload_n 0, 1) := by decide +kernel
theorem dX9_farthest_58 : decode cX9_farthest 58 = .ok (.getfield 131, 3) := by decide +kernel
theorem dX9_farthest_61 : decode cX9_farthest 61 = .ok (.invokestatic 343, 3) := by decide +kernel
theorem dX9_farthest_64 : decode cX9_farthest 64 = .ok (.invokestatic 188, 3) := by decide +kernel
theorem dX9_farthest_67 : decode cX9_farthest 67 = .ok (.goto 5, 3) := by decide +kernel
theorem dX9_farthest_70 : decode cX9_farthest 70 = .ok (.iload 4, 2) := by decide +kernel
theorem dX9_farthest_72 : decode cX9_farthest 72 = .ok (.istore 4, 2) := by decide +kernel
theorem dX9_farthest_74 : decode cX9_farthest 74 = .ok (.iinc 5 1, 3) := by decide +kernel
theorem dX9_farthest_77 : decode cX9_farthest 77 = .ok (.goto (-53), 3) := by decide +kernel
theorem dX9_farthest_80 : decode cX9_farthest 80 = .ok (.iload 4, 2) := by decide +kernel
theorem dX9_farthest_82 : decode cX9_farthest 82 = .ok (.ireturn, 1) := by decide +kernel
set_option maxRecDepth 20000 in
set_option maxRecDepth 100000 in
theorem ggX9_guide_X9_layers : GoodIn wsX9_guide wsX9_layers := goodIn_r _ [10, 11, 86, 87, 88, 89, 90, 91, 92, 93, 94, 95, 96, 97, 98, 99, 100, 101, 102, 103, 104, 105, 106, 107, 108, 109, 110, 111, 112, 113, 114, 115, 116, 117, 118, 119, 120, 121, 122, 123, 124, 125, 126] rfl (by decide +kernel)
set_option maxRecDepth 20000 in
theorem gX9_guide_X9_layers : GoodIn wsX9_guide (wsV RX9 90 RX9 yX9_layers wsX9_layers) := goodIn_app (goodIn_of _ (by decide +kernel)) ggX9_guide_X9_layers
set_option maxRecDepth 20000 in
set_option maxRecDepth 100000 in
theorem ggX9_guide_X9_slantsOf : GoodIn wsX9_guide wsX9_slantsOf := goodIn_r _ [15, 16, 17, 18, 19, 9, 20, 11, 21, 22, 23, 24, 25, 26, 27, 28, 29, 30, 31, 32, 33, 34, 35, 36, 6, 7, 8, 10, 37, 38, 39, 40, 41, 42, 43, 44, 45, 4, 46, 47, 48, 49, 50, 51, 52, 53, 54, 55, 56, 57, 58, 59, 60, 61, 62, 63, 64, 65, 66, 67, 68, 69, 70, 71, 72, 73, 74, 75, 76, 77, 78, 79, 80, 81, 82, 83, 84, 85, 86, 87, 88, 89, 90, 91, 92, 93, 94, 95, 96, 97, 98, 99, 100, 101, 102, 103, 104, 105, 106, 107, 108, 109, 110, 111, 112, 113, 114, 115, 116, 117, 118, 119, 120, 121, 122, 123, 124, 125, 126] rfl (by decide +kernel)
set_option maxRecDepth 20000 in
theorem gX9_guide_X9_slantsOf : GoodIn wsX9_guide (wsV RX9 376 RX9 yX9_slantsOf wsX9_slantsOf) := goodIn_app (goodIn_of _ (by decide +kernel)) ggX9_guide_X9_slantsOf
theorem dX9_guide_0 : decode cX9_guide 0 = .ok (.aload_n 0, 1) := by decide +kernel
theorem dX9_guide_1 : decode cX9_guide 1 = .ok (.iconst 0, 1) := by decide +kernel
theorem dX9_guide_2 : decode cX9_guide 2 = .ok (.putfield 3, 3) := by decide +kernel
theorem dX9_guide_5 : decode cX9_guide 5 = .ok (.iconst (-1), 1) := by decide +kernel
theorem dX9_guide_6 : decode cX9_guide 6 = .ok (.istore_n 1, 1) := by decide +kernel
theorem dX9_guide_7 : decode cX9_guide 7 = .ok (.iconst 0, 1) := by decide +kernel
theorem dX9_guide_8 : decode cX9_guide 8 = .ok (.istore_n 2, 1) := by decide +kernel
theorem dX9_guide_9 : decode cX9_guide 9 = .ok (.iconst 0, 1) := by decide +kernel
theorem dX9_guide_10 : decode cX9_guide 10 = .ok (.istore_n 3, 1) := by decide +kernel
theorem dX9_guide_11 : decode cX9_guide 11 = .ok (.iload_n 3, 1) := by decide +kernel
theorem dX9_guide_12 : decode cX9_guide 12 = .ok (.aload_n 0, 1) := by decide +kernel
theorem dX9_guide_13 : decode cX9_guide 13 = .ok (.invokevirtual 90, 3) := by decide +kernel
theorem dX9_guide_16 : decode cX9_guide 16 = .ok (.if_icmp .ge 37, 3) := by decide +kernel
theorem dX9_guide_19 : decode cX9_guide 19 = .ok (.aload_n 0, 1) := by decide +kernel
theorem dX9_guide_20 : decode cX9_guide 20 = .ok (.iload_n 3, 1) := by decide +kernel
theorem dX9_guide_21 : decode cX9_guide 21 = .ok (.iconst 1, 1) := by decide +kernel
theorem dX9_guide_22 : decode cX9_guide 22 = .ok (.iconst 3, 1) := by decide +kernel
theorem dX9_guide_23 : decode cX9_guide 23 = .ok (.invokevirtual 376, 3) := by decide +kernel
theorem dX9_guide_26 : decode cX9_guide 26 = .ok (.istore 4, 2) := by decide +kernel
theorem dX9_guide_28 : decode cX9_guide 28 = .ok (.iload 4, 2) := by decide +kernel
theorem dX9_guide_30 : decode cX9_guide 30 = .ok (.iload_n 2, 1) := by decide +kernel
theorem dX9_guide_31 : decode cX9_guide 31 = .ok (.if_icmp .le 7, 3) := by decide +kernel
theorem dX9_guide_34 : decode cX9_guide 34 = .ok (.iload_n 3, 1) := by decide +kernel
theorem dX9_guide_35 : decode cX9_guide 35 = .ok (.goto 4, 3) := by decide +kernel
theorem dX9_guide_38 : decode cX9_guide 38 = .ok (.iload_n 1, 1) := by decide +kernel
theorem dX9_guide_39 : decode cX9_guide 39 = .ok (.istore_n 1, 1) := by decide +kernel
theorem dX9_guide_40 : decode cX9_guide 40 = .ok (.iload_n 2, 1) := by decide +kernel
theorem dX9_guide_41 : decode cX9_guide 41 = .ok (.iload 4, 2) := by decide +kernel
theorem dX9_guide_43 : decode cX9_guide 43 = .ok (.invokestatic 188, 3) := by decide +kernel
theorem dX9_guide_46 : decode cX9_guide 46 = .ok (.istore_n 2, 1) := by decide +kernel
theorem dX9_guide_47 : decode cX9_guide 47 = .ok (.iinc 3 1, 3) := by decide +kernel
theorem dX9_guide_50 : decode cX9_guide 50 = .ok (.goto (-39), 3) := by decide +kernel
theorem dX9_guide_53 : decode cX9_guide 53 = .ok (.iload_n 1, 1) := by decide +kernel
theorem dX9_guide_54 : decode cX9_guide 54 = .ok (.ireturn, 1) := by decide +kernel
set_option maxRecDepth 20000 in
set_option maxRecDepth 100000 in
theorem ggX9_count_X9_in : GoodIn wsX9_count wsX9_in := goodIn_r _ [5] rfl (by decide +kernel)
set_option maxRecDepth 20000 in
theorem gX9_count_X9_in : GoodIn wsX9_count (va_wsS RX9 94 yX9_in wsX9_in) := goodIn_app (goodIn_of _ (by decide +kernel)) ggX9_count_X9_in
set_option maxRecDepth 20000 in
set_option maxRecDepth 100000 in
theorem ggX9_count_X9_passes : GoodIn wsX9_count wsX9_passes := goodIn_r _ [9, 10, 11, 12, 4, 13, 14, 104, 105, 106, 107, 108, 109, 110, 111, 112, 113, 114, 115, 116, 117, 118, 119, 120, 121, 122, 123, 124, 125, 126, 127, 128, 129, 130, 131, 132, 133, 134, 135, 136, 137, 138, 139, 140, 141, 142, 143, 144] rfl (by decide +kernel)
set_option maxRecDepth 20000 in
theorem gX9_count_X9_passes : GoodIn wsX9_count (wsV RX9 193 RX9 yX9_passes wsX9_passes) := goodIn_app (goodIn_of _ (by decide +kernel)) ggX9_count_X9_passes
set_option maxRecDepth 20000 in
set_option maxRecDepth 100000 in
theorem ggX9_count_X9_shots : GoodIn wsX9_count wsX9_shots := goodIn_r _ [18, 19, 104, 105, 106, 107, 108, 109, 110, 111, 112, 113, 114, 115, 116, 117, 118, 119, 120, 121, 122, 123, 124, 125, 126, 127, 128, 129, 130, 131, 132, 133, 134, 135, 136, 137, 138, 139, 140, 141, 142, 143, 144] rfl (by decide +kernel)
set_option maxRecDepth 20000 in
theorem gX9_count_X9_shots : GoodIn wsX9_count (wsV RX9 98 RX9 yX9_shots wsX9_shots) := goodIn_app (goodIn_of _ (by decide +kernel)) ggX9_count_X9_shots
set_option maxRecDepth 20000 in
set_option maxRecDepth 100000 in
theorem ggX9_count_X9_endOfShot : GoodIn wsX9_count wsX9_endOfShot := goodIn_r _ [23, 24, 25, 26, 27, 4, 28, 29, 30, 31, 32, 19, 33, 34, 35, 36, 37, 38, 39, 40, 41, 42, 43, 44, 45, 46, 47, 48, 49, 50, 51, 52, 2, 3, 5, 53, 54, 55, 56, 57, 58, 59, 60, 61, 62, 63, 64, 65, 66, 67, 68, 69, 70, 71, 72, 73, 74, 75, 76, 77, 78, 79, 80, 81, 82, 83, 84, 85, 86, 87, 88, 89, 90, 91, 92, 93, 94, 95, 96, 97, 98, 99, 100, 101, 102, 103, 104, 105, 106, 107, 108, 109, 110, 111, 112, 113, 114, 115, 116, 117, 118, 119, 120, 121, 122, 123, 124, 125, 126, 127, 128, 129, 130, 131, 132, 133, 134, 135, 136, 137, 138, 139, 140, 141, 142, 143, 144] rfl (by decide +kernel)
set_option maxRecDepth 20000 in
theorem gX9_count_X9_endOfShot : GoodIn wsX9_count (wsV RX9 390 RX9 yX9_endOfShot wsX9_endOfShot) := goodIn_app (goodIn_of _ (by decide +kernel)) ggX9_count_X9_endOfShot
theorem dX9_count_0 : decode cX9_count 0 = .ok (.aload_n 0, 1) := by decide +kernel
theorem dX9_count_1 : decode cX9_count 1 = .ok (.iload_n 1, 1) := by decide +kernel
theorem dX9_count_2 : decode cX9_count 2 = .ok (.i2l, 1) := by decide +kernel
theorem dX9_count_3 : decode cX9_count 3 = .ok (.lconst 0, 1) := by decide +kernel
theorem dX9_count_4 : decode cX9_count 4 = .ok (.ldc2_w 388, 3) := by decide +kernel
theorem dX9_count_7 : decode cX9_count 7 = .ok (.invokestatic 94, 3) := by decide +kernel
theorem dX9_count_10 : decode cX9_count 10 = .ok (.invokevirtual 193, 3) := by decide +kernel
theorem dX9_count_13 : decode cX9_count 13 = .ok (.ifCond .ne 5, 3) := by decide +kernel
theorem dX9_count_16 : decode cX9_count 16 = .ok (.iconst 0, 1) := by decide +kernel
theorem dX9_count_17 : decode cX9_count 17 = .ok (.ireturn, 1) := by decide +kernel
theorem dX9_count_18 : decode cX9_count 18 = .ok (.iconst 0, 1) := by decide +kernel
theorem dX9_count_19 : decode cX9_count 19 = .ok (.istore_n 2, 1) := by decide +kernel
theorem dX9_count_20 : decode cX9_count 20 = .ok (.iconst 0, 1) := by decide +kernel
theorem dX9_count_21 : decode cX9_count 21 = .ok (.istore_n 3, 1) := by decide +kernel
theorem dX9_count_22 : decode cX9_count 22 = .ok (.iload_n 3, 1) := by decide +kernel
theorem dX9_count_23 : decode cX9_count 23 = .ok (.aload_n 0, 1) := by decide +kernel
theorem dX9_count_24 : decode cX9_count 24 = .ok (.invokevirtual 98, 3) := by decide +kernel
theorem dX9_count_27 : decode cX9_count 27 = .ok (.if_icmp .ge 26, 3) := by decide +kernel
theorem dX9_count_30 : decode cX9_count 30 = .ok (.iload_n 2, 1) := by decide +kernel
theorem dX9_count_31 : decode cX9_count 31 = .ok (.aload_n 0, 1) := by decide +kernel
theorem dX9_count_32 : decode cX9_count 32 = .ok (.iload_n 3, 1) := by decide +kernel
theorem dX9_count_33 : decode cX9_count 33 = .ok (.invokevirtual 390, 3) := by decide +kernel
theorem dX9_count_36 : decode cX9_count 36 = .ok (.iload_n 1, 1) := by decide +kernel
theorem dX9_count_37 : decode cX9_count 37 = .ok (.if_icmp .ne 7, 3) := by decide +kernel
theorem dX9_count_40 : decode cX9_count 40 = .ok (.iconst 1, 1) := by decide +kernel
theorem dX9_count_41 : decode cX9_count 41 = .ok (.goto 4, 3) := by decide +kernel
theorem dX9_count_44 : decode cX9_count 44 = .ok (.iconst 0, 1) := by decide +kernel
theorem dX9_count_45 : decode cX9_count 45 = .ok (.iadd, 1) := by decide +kernel
theorem dX9_count_46 : decode cX9_count 46 = .ok (.istore_n 2, 1) := by decide +kernel
theorem dX9_count_47 : decode cX9_count 47 = .ok (.iinc 3 1, 3) := by decide +kernel
theorem dX9_count_50 : decode cX9_count 50 = .ok (.goto (-28), 3) := by decide +kernel
theorem dX9_count_53 : decode cX9_count 53 = .ok (.iload_n 2, 1) := by decide +kernel
theorem dX9_count_54 : decode cX9_count 54 = .ok (.ireturn, 1) := by decide +kernel
set_option maxRecDepth 20000 in
set_option maxRecDepth 100000 in
theorem ggX9_isOut_X9_followShot : GoodIn wsX9_isOut wsX9_followShot := goodIn_r _ [6, 7, 8, 9, 5, 10, 11, 12, 13, 14, 15, 16, 17, 18, 19, 1, 20, 21, 22, 23, 24, 25, 26, 27, 28, 29, 30, 31, 32, 33, 34, 35, 36, 37, 38, 39, 40, 41, 42, 43, 44, 45, 46, 47, 48, 49, 50, 51, 52, 53, 54, 55, 56, 57, 58, 59, 60, 61, 62, 63, 64, 65, 66, 67, 68, 69, 70, 71, 72, 73, 74, 75, 76, 77, 78, 79, 80, 81, 82, 83, 84, 85, 86, 87, 88, 89, 90, 91, 92, 93, 94, 95, 96, 97, 98, 99, 100, 101, 102, 103, 104, 105, 106, 107, 108, 109, 110, 111, 112, 113, 114, 115, 116, 117, 118, 119, 120, 121, 122, 123, 124, 125, 126] rfl (by decide +kernel)
set_option maxRecDepth 20000 in
theorem gX9_isOut_X9_followShot : GoodIn wsX9_isOut (wsV RX9 185 RX9 yX9_followShot wsX9_followShot) := goodIn_app (goodIn_of _ (by decide +kernel)) ggX9_isOut_X9_followShot
theorem dX9_isOut_0 : decode cX9_isOut 0 = .ok (.aload_n 0, 1) := by decide +kernel
theorem dX9_isOut_1 : decode cX9_isOut 1 = .ok (.iload_n 1, 1) := by decide +kernel
theorem dX9_isOut_2 : decode cX9_isOut 2 = .ok (.invokevirtual 185, 3) := by decide +kernel
theorem dX9_isOut_5 : decode cX9_isOut 5 = .ok (.aload_n 0, 1) := by decide +kernel
theorem dX9_isOut_6 : decode cX9_isOut 6 = .ok (.getfield 156, 3) := by decide +kernel
theorem dX9_isOut_9 : decode cX9_isOut 9 = .ok (.ifCond .eq 11, 3) := by decide +kernel
theorem dX9_isOut_12 : decode cX9_isOut 12 = .ok (.aload_n 0, 1) := by decide +kernel
theorem dX9_isOut_13 : decode cX9_isOut 13 = .ok (.getfield 156, 3) := by decide +kernel
theorem dX9_isOut_16 : decode cX9_isOut 16 = .ok (.iconst 1, 1) := by decide +kernel
theorem dX9_isOut_17 : decode cX9_isOut 17 = .ok (.if_icmp .ne 7, 3) := by decide +kernel
theorem dX9_isOut_20 : decode cX9_isOut 20 = .ok (.iconst 1, 1) := by decide +kernel
theorem dX9_isOut_21 : decode cX9_isOut 21 = .ok (.goto 4, 3) := by decide +kernel
theorem dX9_isOut_24 : decode cX9_isOut 24 = .ok (.iconst 0, 1) := by decide +kernel
theorem dX9_isOut_25 : decode cX9_isOut 25 = .ok (.ireturn, 1) := by decide +kernel
set_option maxRecDepth 20000 in
set_option maxRecDepth 100000 in
theorem ggX9_first_X9_shots : GoodIn wsX9_first wsX9_shots := goodIn_r _ [8, 9, 98, 99, 100, 101, 102, 103, 104, 105, 106, 107, 108, 109, 110, 111, 112, 113, 114, 115, 116, 117, 118, 119, 120, 121, 122, 123, 124, 125, 126, 127, 128, 129, 130, 131, 132, 133, 134, 135, 136, 137, 138] rfl (by decide +kernel)
set_option maxRecDepth 20000 in
theorem gX9_first_X9_shots : GoodIn wsX9_first (wsV RX9 98 RX9 yX9_shots wsX9_shots) := goodIn_app (goodIn_of _ (by decide +kernel)) ggX9_first_X9_shots
set_option maxRecDepth 20000 in
set_option maxRecDepth 100000 in
theorem ggX9_first_X9_isOut : GoodIn wsX9_first wsX9_isOut := goodIn_r _ [13, 14, 15, 16, 17, 7, 18, 19, 20, 21, 22, 9, 23, 24, 25, 26, 3, 27, 28, 29, 30, 31, 32, 33, 34, 35, 36, 37, 38, 39, 40, 41, 42, 43, 44, 45, 46, 47, 48, 49, 50, 51, 52, 53, 54, 55, 56, 57, 58, 59, 60, 2, 61, 62, 63, 64, 65, 66, 67, 68, 69, 70, 71, 72, 73, 74, 75, 76, 77, 78, 79, 80, 81, 82, 83, 84, 85, 86, 87, 88, 89, 90, 91, 92, 93, 94, 98, 99, 100, 101, 102, 103, 104, 105, 106, 107, 108, 109, 110, 111, 112, 113, 114, 115, 116, 117, 118, 119, 120, 121, 122, 123, 124, 125, 126, 127, 128, 129, 130, 131, 132, 133, 134, 135, 136, 137, 138] rfl (by decide +kernel)
set_option maxRecDepth 20000 in
theorem gX9_first_X9_isOut : GoodIn wsX9_first (wsV RX9 393 RX9 yX9_isOut wsX9_isOut) := goodIn_app (goodIn_of _ (by decide +kernel)) ggX9_first_X9_isOut
set_option maxRecDepth 20000 in
set_option maxRecDepth 100000 in
theorem ggX9_first_X9_sumUp : GoodIn wsX9_first wsX9_sumUp := goodIn_r _ [97] rfl (by decide +kernel)
set_option maxRecDepth 20000 in
theorem gX9_first_X9_sumUp : GoodIn wsX9_first (va_wsS RX9 343 yX9_sumUp wsX9_sumUp) := goodIn_app (goodIn_of _ (by decide +kernel)) ggX9_first_X9_sumUp
theorem dX9_first_0 : decode cX9_first 0 = .ok (.aload_n 0, 1) := by decide +kernel
theorem dX9_first_1 : decode cX9_first 1 = .ok (.iconst 0, 1) := by decide +kernel
theorem dX9_first_2 : decode cX9_first 2 = .ok (.putfield 3, 3) := by decide +kernel
theorem dX9_first_5 : decode cX9_first 5 = .ok (.iconst (-1), 1) := by decide +kernel
theorem dX9_first_6 : decode cX9_first 6 = .ok (.istore_n 1, 1) := by decide +kernel
theorem dX9_first_7 : decode cX9_first 7 = .ok (.iconst 0, 1) := by decide +kernel
theorem dX9_first_8 : decode cX9_first 8 = .ok (.istore_n 2, 1) := by decide +kernel
theorem dX9_first_9 : decode cX9_first 9 = .ok (.iconst 0, 1) := by decide +kernel
theorem dX9_first_10 : decode cX9_first 10 = .ok (.istore_n 3, 1) := by decide +kernel
theorem dX9_first_11 : decode cX9_first 11 = .ok (.iload_n 3, 1) := by decide +kernel
theorem dX9_first_12 : decode cX9_first 12 = .ok (.aload_n 0, 1) := by decide +kernel
theorem dX9_first_13 : decode cX9_first 13 = .ok (.invokevirtual 98, 3) := by decide +kernel
theorem dX9_first_16 : decode cX9_first 16 = .ok (.if_icmp .ge 50, 3) := by decide +kernel
theorem dX9_first_19 : decode cX9_first 19 = .ok (.aload_n 0, 1) := by decide +kernel
theorem dX9_first_20 : decode cX9_first 20 = .ok (.iload_n 3, 1) := by decide +kernel
theorem dX9_first_21 : decode cX9_first 21 = .ok (.invokevirtual 393, 3) := by decide +kernel
theorem dX9_first_24 : decode cX9_first 24 = .ok (.istore 4, 2) := by decide +kernel
theorem dX9_first_26 : decode cX9_first 26 = .ok (.aload_n 0, 1) := by decide +kernel
theorem dX9_first_27 : decode cX9_first 27 = .ok (.getfield 40, 3) := by decide +kernel
theorem dX9_first_30 : decode cX9_first 30 = .ok (.aload_n 0, 1) := by decide +kernel
theorem dX9_first_31 : decode cX9_first 31 = .ok (.getfield 131, 3) := by decide +kernel
theorem dX9_first_34 : decode cX9_first 34 = .ok (.invokestatic 343, 3) := by decide +kernel
theorem dX9_first_37 : decode cX9_first 37 = .ok (.istore 5, 2) := by decide +kernel
theorem dX9_first_39 : decode cX9_first 39 = .ok (.iload 4, 2) := by decide +kernel
theorem dX9_first_41 : decode cX9_first 41 = .ok (.ifCond .eq 19, 3) := by decide +kernel
theorem dX9_first_44 : decode cX9_first 44 = .ok (.iload_n 1, 1) := by decide +kernel
theorem dX9_first_45 : decode cX9_first 45 = .ok (.iconst (-1), 1) := by decide +kernel
theorem dX9_first_46 : decode cX9_first 46 = .ok (.if_icmp .eq 9, 3) := by decide +kernel
theorem dX9_first_49 : decode cX9_first 49 = .ok (.iload 5, 2) := by decide +kernel
theorem dX9_first_51 : decode cX9_first 51 = .ok (.iload_n 2, 1) := by decide +kernel
theorem dX9_first_52 : decode cX9_first 52 = .ok (.if_icmp .ge 8, 3) := by decide +kernel
theorem dX9_first_55 : decode cX9_first 55 = .ok (.iload_n 3, 1) := by decide +kernel
theorem dX9_first_56 : decode cX9_first 56 = .ok (.istore_n 1, 1) := by decide +kernel
theorem dX9_first_57 : decode cX9_first 57 = .ok (.iload 5, 2) := by decide +kernel
theorem dX9_first_59 : decode cX9_first 59 = .ok (.istore_n 2, 1) := by decide +kernel
theorem dX9_first_60 : decode cX9_first 60 = .ok (.iinc 3 1, 3) := by decide +kernel
theorem dX9_first_63 : decode cX9_first 63 = .ok (.goto (-52), 3) := by decide +kernel
theorem dX9_first_66 : decode cX9_first 66 = .ok (.iload_n 1, 1) := by decide +kernel
theorem dX9_first_67 : decode cX9_first 67 = .ok (.ireturn, 1) := by decide +kernel
set_option maxRecDepth 20000 in
set_option maxRecDepth 100000 in
theorem ggX9_strongest_X9_shots : GoodIn wsX9_strongest wsX9_shots := goodIn_r _ [8, 9, 96, 97, 98, 99, 100, 101, 102, 103, 104, 105, 106, 107, 108, 109, 110, 111, 112, 113, 114, 115, 116, 117, 118, 119, 120, 121, 122, 123, 124, 125, 126, 127, 128, 129, 130, 131, 132, 133, 134, 135, 136] rfl (by decide +kernel)
set_option maxRecDepth 20000 in
theorem gX9_strongest_X9_shots : GoodIn wsX9_strongest (wsV RX9 98 RX9 yX9_shots wsX9_shots) := goodIn_app (goodIn_of _ (by decide +kernel)) ggX9_strongest_X9_shots
set_option maxRecDepth 20000 in
set_option maxRecDepth 100000 in
theorem ggX9_strongest_X9_isOut : GoodIn wsX9_strongest wsX9_isOut := goodIn_r _ [13, 14, 15, 16, 17, 7, 18, 19, 20, 21, 22, 9, 23, 24, 25, 26, 27, 28, 29, 3, 30, 31, 32, 33, 34, 35, 36, 37, 38, 39, 40, 41, 42, 43, 44, 45, 46, 47, 48, 49, 50, 51, 52, 53, 54, 55, 56, 57, 58, 59, 60, 61, 62, 63, 64, 65, 66, 67, 68, 69, 70, 71, 72, 73, 74, 75, 76, 77, 78, 79, 80, 81, 82, 83, 84, 85, 86, 87, 88, 89, 90, 91, 92, 93, 94, 95, 96, 97, 98, 99, 100, 101, 102, 103, 104, 105, 106, 107, 108, 109, 110, 111, 112, 113, 114, 115, 116, 117, 118, 119, 120, 121, 122, 123, 124, 125, 126, 127, 128, 129, 130, 131, 132, 133, 134, 135, 136] rfl (by decide +kernel)
set_option maxRecDepth 20000 in
theorem gX9_strongest_X9_isOut : GoodIn wsX9_strongest (wsV RX9 393 RX9 yX9_isOut wsX9_isOut) := goodIn_app (goodIn_of _ (by decide +kernel)) ggX9_strongest_X9_isOut
theorem dX9_strongest_0 : decode cX9_strongest 0 = .ok (.aload_n 0, 1) := by decide +kernel
theorem dX9_strongest_1 : decode cX9_strongest 1 = .ok (.iconst 0, 1) := by decide +kernel
theorem dX9_strongest_2 : decode cX9_strongest 2 = .ok (.putfield 3, 3) := by decide +kernel
theorem dX9_strongest_5 : decode cX9_strongest 5 = .ok (.iconst (-1), 1) := by decide +kernel
theorem dX9_strongest_6 : decode cX9_strongest 6 = .ok (.istore_n 1, 1) := by decide +kernel
theorem dX9_strongest_7 : decode cX9_strongest 7 = .ok (.ldc2_w 386, 3) := by decide +kernel
theorem dX9_strongest_10 : decode cX9_strongest 10 = .ok (.lstore_n 2, 1) := by decide +kernel
theorem dX9_strongest_11 : decode cX9_strongest 11 = .ok (.iconst 0, 1) := by decide +kernel
theorem dX9_strongest_12 : decode cX9_strongest 12 = .ok (.istore 4, 2) := by decide +kernel
theorem dX9_strongest_14 : decode cX9_strongest 14 = .ok (.iload 4, 2) := by decide +kernel
theorem dX9_strongest_16 : decode cX9_strongest 16 = .ok (.aload_n 0, 1) := by decide +kernel
theorem dX9_strongest_17 : decode cX9_strongest 17 = .ok (.invokevirtual 98, 3) := by decide +kernel
theorem dX9_strongest_20 : decode cX9_strongest 20 = .ok (.if_icmp .ge 35, 3) := by decide +kernel
theorem dX9_strongest_23 : decode cX9_strongest 23 = .ok (.aload_n 0, 1) := by decide +kernel
theorem dX9_strongest_24 : decode cX9_strongest 24 = .ok (.iload 4, 2) := by decide +kernel
theorem dX9_strongest_26 : decode cX9_strongest 26 = .ok (.invokevirtual 393, 3) := by decide +kernel
theorem dX9_strongest_29 : decode cX9_strongest 29 = .ok (.ifCond .eq 20, 3) := by decide +kernel
theorem dX9_strongest_32 : decode cX9_strongest 32 = .ok (.aload_n 0, 1) := by decide +kernel
theorem dX9_strongest_33 : decode cX9_strongest 33 = .ok (.getfield 119, 3) := by decide +kernel
theorem dX9_strongest_36 : decode cX9_strongest 36 = .ok (.lload_n 2, 1) := by decide +kernel
theorem dX9_strongest_37 : decode cX9_strongest 37 = .ok (.lcmp, 1) := by decide +kernel
theorem dX9_strongest_38 : decode cX9_strongest 38 = .ok (.ifCond .le 11, 3) := by decide +kernel
theorem dX9_strongest_41 : decode cX9_strongest 41 = .ok (.iload 4, 2) := by decide +kernel
theorem dX9_strongest_43 : decode cX9_strongest 43 = .ok (.istore_n 1, 1) := by decide +kernel
theorem dX9_strongest_44 : decode cX9_strongest 44 = .ok (.aload_n 0, 1) := by decide +kernel
theorem dX9_strongest_45 : decode cX9_strongest 45 = .ok (.getfield 119, 3) := by decide +kernel
theorem dX9_strongest_48 : decode cX9_strongest 48 = .ok (.lstore_n 2, 1) := by decide +kernel
theorem dX9_strongest_49 : decode cX9_strongest 49 = .ok (.iinc 4 1, 3) := by decide +kernel
theorem dX9_strongest_52 : decode cX9_strongest 52 = .ok (.goto (-38), 3) := by decide +kernel
theorem dX9_strongest_55 : decode cX9_strongest 55 = .ok (.iload_n 1, 1) := by decide +kernel
theorem dX9_strongest_56 : decode cX9_strongest 56 = .ok (.ireturn, 1) := by decide +kernel
set_option maxRecDepth 20000 in
set_option maxRecDepth 100000 in
theorem ggX9_followBoth_X9_followShot : GoodIn wsX9_followBoth wsX9_followShot := goodIn_r _ [13, 14, 15, 16, 12, 17, 18, 19, 20, 21, 22, 1, 23, 24, 25, 26, 27, 28, 29, 30, 31, 32, 33, 34, 35, 36, 37, 38, 39, 40, 41, 42, 43, 44, 45, 46, 47, 48, 49, 50, 51, 52, 53, 4, 6, 54, 55, 8, 56, 57, 58, 59, 60, 61, 62, 63, 64, 65, 66, 67, 68, 69, 70, 71, 72, 73, 74, 75, 76, 77, 78, 79, 80, 81, 82, 83, 84, 85, 86, 87, 88, 89, 90, 91, 92, 93, 94, 95, 96, 97, 98, 99, 100, 101, 102, 103, 104, 105, 106, 107, 108, 109, 110, 111, 112, 113, 114, 115, 116, 117, 118, 119, 120, 121, 122, 123, 124, 125, 126, 127, 128, 129, 130] rfl (by decide +kernel)
set_option maxRecDepth 20000 in
theorem gX9_followBoth_X9_followShot : GoodIn wsX9_followBoth (wsV RX9 185 RX9 yX9_followShot wsX9_followShot) := goodIn_app (goodIn_of _ (by decide +kernel)) ggX9_followBoth_X9_followShot
theorem dX9_followBoth_0 : decode cX9_followBoth 0 = .ok (.aload_n 0, 1) := by decide +kernel
theorem dX9_followBoth_1 : decode cX9_followBoth 1 = .ok (.iload_n 1, 1) := by decide +kernel
theorem dX9_followBoth_2 : decode cX9_followBoth 2 = .ok (.invokevirtual 185, 3) := by decide +kernel
theorem dX9_followBoth_5 : decode cX9_followBoth 5 = .ok (.aload_n 0, 1) := by decide +kernel
theorem dX9_followBoth_6 : decode cX9_followBoth 6 = .ok (.aload_n 0, 1) := by decide +kernel
theorem dX9_followBoth_7 : decode cX9_followBoth 7 = .ok (.getfield 131, 3) := by decide +kernel
theorem dX9_followBoth_10 : decode cX9_followBoth 10 = .ok (.putfield 396, 3) := by decide +kernel
theorem dX9_followBoth_13 : decode cX9_followBoth 13 = .ok (.iconst 0, 1) := by decide +kernel
theorem dX9_followBoth_14 : decode cX9_followBoth 14 = .ok (.istore_n 3, 1) := by decide +kernel
theorem dX9_followBoth_15 : decode cX9_followBoth 15 = .ok (.iload_n 3, 1) := by decide +kernel
theorem dX9_followBoth_16 : decode cX9_followBoth 16 = .ok (.aload_n 0, 1) := by decide +kernel
theorem dX9_followBoth_17 : decode cX9_followBoth 17 = .ok (.getfield 131, 3) := by decide +kernel
theorem dX9_followBoth_20 : decode cX9_followBoth 20 = .ok (.if_icmp .ge 45, 3) := by decide +kernel
theorem dX9_followBoth_23 : decode cX9_followBoth 23 = .ok (.aload_n 0, 1) := by decide +kernel
theorem dX9_followBoth_24 : decode cX9_followBoth 24 = .ok (.getfield 56, 3) := by decide +kernel
theorem dX9_followBoth_27 : decode cX9_followBoth 27 = .ok (.iload_n 3, 1) := by decide +kernel
theorem dX9_followBoth_28 : decode cX9_followBoth 28 = .ok (.aload_n 0, 1) := by decide +kernel
theorem dX9_followBoth_29 : decode cX9_followBoth 29 = .ok (.getfield 27, 3) := by decide +kernel
theorem dX9_followBoth_32 : decode cX9_followBoth 32 = .ok (.iload_n 3, 1) := by decide +kernel
theorem dX9_followBoth_33 : decode cX9_followBoth 33 = .ok (.iaload, 1) := by decide +kernel
theorem dX9_followBoth_34 : decode cX9_followBoth 34 = .ok (.iastore, 1) := by decide +kernel
theorem dX9_followBoth_35 : decode cX9_followBoth 35 = .ok (.aload_n 0, 1) := by decide +kernel
theorem dX9_followBoth_36 : decode cX9_followBoth 36 = .ok (.getfield 59, 3) := by decide +kernel
theorem dX9_followBoth_39 : decode cX9_followBoth 39 = .ok (.iload_n 3, 1) := by decide +kernel
theorem dX9_followBoth_40 : decode cX9_followBoth 40 = .ok (.aload_n 0, 1) := by decide +kernel
theorem dX9_followBoth_41 : decode cX9_followBoth 41 = .ok (.getfield 30, 3) := by decide +kernel
theorem dX9_followBoth_44 : decode cX9_followBoth 44 = .ok (.iload_n 3, 1) := by decide +kernel
theorem dX9_followBoth_45 : decode cX9_followBoth 45 = .ok (.baload, 1) := by decide +kernel
theorem dX9_followBoth_46 : decode cX9_followBoth 46 = .ok (.bastore, 1) := by decide +kernel
theorem dX9_followBoth_47 : decode cX9_followBoth 47 = .ok (.aload_n 0, 1) := by decide +kernel
theorem dX9_followBoth_48 : decode cX9_followBoth 48 = .ok (.getfield 62, 3) := by decide +kernel
theorem dX9_followBoth_51 : decode cX9_followBoth 51 = .ok (.iload_n 3, 1) := by decide +kernel
theorem dX9_followBoth_52 : decode cX9_followBoth 52 = .ok (.aload_n 0, 1) := by decide +kernel
theorem dX9_followBoth_53 : decode cX9_followBoth 53 = .ok (.getfield 40, 3) := by decide +kernel
theorem dX9_followBoth_56 : decode cX9_followBoth 56 = .ok (.iload_n 3, 1) := by decide +kernel
theorem dX9_followBoth_57 : decode cX9_followBoth 57 = .ok (.iaload, 1) := by decide +kernel
theorem dX9_followBoth_58 : decode cX9_followBoth 58 = .ok (.iastore, 1) := by decide +kernel
theorem dX9_followBoth_59 : decode cX9_followBoth 59 = .ok (.iinc 3 1, 3) := by decide +kernel
theorem dX9_followBoth_62 : decode cX9_followBoth 62 = .ok (.goto (-47), 3) := by decide +kernel
theorem dX9_followBoth_65 : decode cX9_followBoth 65 = .ok (.aload_n 0, 1) := by decide +kernel
theorem dX9_followBoth_66 : decode cX9_followBoth 66 = .ok (.iload_n 2, 1) := by decide +kernel
theorem dX9_followBoth_67 : decode cX9_followBoth 67 = .ok (.invokevirtual 185, 3) := by decide +kernel
theorem dX9_followBoth_70 : decode cX9_followBoth 70 = .ok (.return_, 1) := by decide +kernel
set_option maxRecDepth 20000 in
set_option maxRecDepth 100000 in
theorem ggX9_alike_X9_isShot : GoodIn wsX9_alike wsX9_isShot := goodIn_r _ [11, 12, 13, 14, 10, 15, 16, 17, 18, 19, 111, 112, 113, 114, 115, 116, 117, 118, 119, 120, 121, 122, 123, 124, 125, 126, 127, 128, 129, 130, 131, 132, 133, 134, 135, 136, 137, 138, 139, 140, 141, 142, 143, 144, 145, 146, 147, 148, 149, 150, 151] rfl (by decide +kernel)
set_option maxRecDepth 20000 in
theorem gX9_alike_X9_isShot : GoodIn wsX9_alike (wsV RX9 336 RX9 yX9_isShot wsX9_isShot) := goodIn_app (goodIn_of _ (by decide +kernel)) ggX9_alike_X9_isShot
set_option maxRecDepth 20000 in
set_option maxRecDepth 100000 in
theorem ggX9_alike_X9_passes2 : GoodIn wsX9_alike wsX9_passes2 := goodIn_r _ [23, 24, 25, 26, 10, 27, 28, 111, 112, 113, 114, 115, 116, 117, 118, 119, 120, 121, 122, 123, 124, 125, 126, 127, 128, 129, 130, 131, 132, 133, 134, 135, 136, 137, 138, 139, 140, 141, 142, 143, 144, 145, 146, 147, 148, 149, 150, 151] rfl (by decide +kernel)
set_option maxRecDepth 20000 in
theorem gX9_alike_X9_passes2 : GoodIn wsX9_alike (wsV RX9 332 RX9 yX9_passes2 wsX9_passes2) := goodIn_app (goodIn_of _ (by decide +kernel)) ggX9_alike_X9_passes2
set_option maxRecDepth 20000 in
set_option maxRecDepth 100000 in
theorem ggX9_alike_X9_followBoth : GoodIn wsX9_alike wsX9_followBoth := goodIn_r _ [32, 1, 2, 4, 3, 6, 5, 33, 34, 35, 36, 37, 10, 38, 39, 40, 41, 42, 16, 43, 44, 45, 46, 47, 48, 49, 50, 51, 52, 53, 54, 55, 56, 57, 58, 59, 60, 61, 62, 17, 18, 19, 63, 64, 65, 66, 67, 68, 69, 70, 71, 72, 73, 74, 75, 76, 77, 78, 79, 80, 81, 82, 83, 84, 85, 86, 87, 88, 89, 90, 91, 92, 93, 94, 95, 96, 97, 98, 99, 100, 101, 102, 103, 104, 105, 106, 107, 108, 109, 110, 111, 112, 113, 114, 115, 116, 117, 118, 119, 120, 121, 122, 123, 124, 125, 126, 127, 128, 129, 130, 131, 132, 133, 134, 135, 136, 137, 138, 139, 140, 141, 142, 143, 144, 145, 146, 147, 148, 149, 150, 151] rfl (by decide +kernel)
set_option maxRecDepth 20000 in
theorem gX9_alike_X9_followBoth : GoodIn wsX9_alike (wsV RX9 399 RX9 yX9_followBoth wsX9_followBoth) := goodIn_app (goodIn_of _ (by decide +kernel)) ggX9_alike_X9_followBoth
theorem dX9_alike_0 : decode cX9_alike 0 = .ok (.aload_n 0, 1) := by decide +kernel
theorem dX9_alike_1 : decode cX9_alike 1 = .ok (.aload_n 0, 1) := by decide +kernel
theorem dX9_alike_2 : decode cX9_alike 2 = .ok (.iload_n 1, 1) := by decide +kernel
theorem dX9_alike_3 : decode cX9_alike 3 = .ok (.invokevirtual 336, 3) := by decide +kernel
theorem dX9_alike_6 : decode cX9_alike 6 = .ok (.ifCond .eq 15, 3) := by decide +kernel
theorem dX9_alike_9 : decode cX9_alike 9 = .ok (.aload_n 0, 1) := by decide +kernel
theorem dX9_alike_10 : decode cX9_alike 10 = .ok (.iload_n 2, 1) := by decide +kernel
theorem dX9_alike_11 : decode cX9_alike 11 = .ok (.invokevirtual 336, 3) := by decide +kernel
theorem dX9_alike_14 : decode cX9_alike 14 = .ok (.ifCond .eq 7, 3) := by decide +kernel
theorem dX9_alike_17 : decode cX9_alike 17 = .ok (.iconst 1, 1) := by decide +kernel
theorem dX9_alike_18 : decode cX9_alike 18 = .ok (.goto 4, 3) := by decide +kernel
theorem dX9_alike_21 : decode cX9_alike 21 = .ok (.iconst 0, 1) := by decide +kernel
theorem dX9_alike_22 : decode cX9_alike 22 = .ok (.iload_n 1, 1) := by decide +kernel
theorem dX9_alike_23 : decode cX9_alike 23 = .ok (.iload_n 2, 1) := by decide +kernel
theorem dX9_alike_24 : decode cX9_alike 24 = .ok (.if_icmp .eq 7, 3) := by decide +kernel
theorem dX9_alike_27 : decode cX9_alike 27 = .ok (.iconst 1, 1) := by decide +kernel
theorem dX9_alike_28 : decode cX9_alike 28 = .ok (.goto 4, 3) := by decide +kernel
theorem dX9_alike_31 : decode cX9_alike 31 = .ok (.iconst 0, 1) := by decide +kernel
theorem dX9_alike_32 : decode cX9_alike 32 = .ok (.invokevirtual 332, 3) := by decide +kernel
theorem dX9_alike_35 : decode cX9_alike 35 = .ok (.ifCond .ne 5, 3) := by decide +kernel
theorem dX9_alike_38 : decode cX9_alike 38 = .ok (.iconst 0, 1) := by decide +kernel
theorem dX9_alike_39 : decode cX9_alike 39 = .ok (.ireturn, 1) := by decide +kernel
theorem dX9_alike_40 : decode cX9_alike 40 = .ok (.aload_n 0, 1) := by decide +kernel
theorem dX9_alike_41 : decode cX9_alike 41 = .ok (.iload_n 1, 1) := by decide +kernel
theorem dX9_alike_42 : decode cX9_alike 42 = .ok (.iload_n 2, 1) := by decide +kernel
theorem dX9_alike_43 : decode cX9_alike 43 = .ok (.invokevirtual 399, 3) := by decide +kernel
theorem dX9_alike_46 : decode cX9_alike 46 = .ok (.iconst 0, 1) := by decide +kernel
theorem dX9_alike_47 : decode cX9_alike 47 = .ok (.istore_n 3, 1) := by decide +kernel
theorem dX9_alike_48 : decode cX9_alike 48 = .ok (.iload_n 3, 1) := by decide +kernel
theorem dX9_alike_49 : decode cX9_alike 49 = .ok (.aload_n 0, 1) := by decide +kernel
theorem dX9_alike_50 : decode cX9_alike 50 = .ok (.getfield 131, 3) := by decide +kernel
theorem dX9_alike_53 : decode cX9_alike 53 = .ok (.if_icmp .ge 47, 3) := by decide +kernel
theorem dX9_alike_56 : decode cX9_alike 56 = .ok (.iload_n 3, 1) := by decide +kernel
theorem dX9_alike_57 : decode cX9_alike 57 = .ok (.aload_n 0, 1) := by decide +kernel
theorem dX9_alike_58 : decode cX9_alike 58 = .ok (.getfield 396, 3) := by decide +kernel
theorem dX9_alike_61 : decode cX9_alike 61 = .ok (.if_icmp .ge 39, 3) := by decide +kernel
theorem dX9_alike_64 : decode cX9_alike 64 = .ok (.aload_n 0, 1) := by decide +kernel
theorem dX9_alike_65 : decode cX9_alike 65 = .ok (.getfield 27, 3) := by decide +kernel
theorem dX9_alike_68 : decode cX9_alike 68 = .ok (.iload_n 3, 1) := by decide +kernel
theorem dX9_alike_69 : decode cX9_alike 69 = .ok (.iaload, 1) := by decide +kernel
theorem dX9_alike_70 : decode cX9_alike 70 = .ok (.aload_n 0, 1) := by decide +kernel
theorem dX9_alike_71 : decode cX9_alike 71 = .ok (.getfield 56, 3) := by decide +kernel
theorem dX9_alike_74 : decode cX9_alike 74 = .ok (.iload_n 3, 1) := by decide +kernel
theorem dX9_alike_75 : decode cX9_alike 75 = .ok (.iaload, 1) := by decide +kernel
theorem dX9_alike_76 : decode cX9_alike 76 = .ok (.if_icmp .ne 24, 3) := by decide +kernel
theorem dX9_alike_79 : decode cX9_alike 79 = .ok (.aload_n 0, 1) := by decide +kernel
theorem dX9_alike_80 : decode cX9_alike 80 = .ok (.getfield 30, 3) := by decide +kernel
theorem dX9_alike_83 : decode cX9_alike 83 = .ok (.iload_n 3, 1) := by decide +kernel
theorem dX9_alike_84 : decode cX9_alike 84 = .ok (.baload, 1) := by decide +kernel
theorem dX9_alike_85 : decode cX9_alike 85 = .ok (.aload_n 0, 1) := by decide +kernel
theorem dX9_alike_86 : decode cX9_alike 86 = .ok (.getfield 59, 3) := by decide +kernel
theorem dX9_alike_89 : decode cX9_alike 89 = .ok (.iload_n 3, 1) := by decide +kernel
theorem dX9_alike_90 : decode cX9_alike 90 = .ok (.baload, 1) := by decide +kernel
theorem dX9_alike_91 : decode cX9_alike 91 = .ok (.if_icmp .ne 9, 3) := by decide +kernel
theorem dX9_alike_94 : decode cX9_alike 94 = .ok (.iinc 3 1, 3) := by decide +kernel
theorem dX9_alike_97 : decode cX9_alike 97 = .ok (.goto (-49), 3) := by decide +kernel
theorem dX9_alike_100 : decode cX9_alike 100 = .ok (.iload_n 3, 1) := by decide +kernel
theorem dX9_alike_101 : decode cX9_alike 101 = .ok (.ireturn, 1) := by decide +kernel
theorem dX9_layerBy_0 : decode cX9_layerBy 0 = .ok (.iconst 0, 1) := by decide +kernel
theorem dX9_layerBy_1 : decode cX9_layerBy 1 = .ok (.istore 4, 2) := by decide +kernel
theorem dX9_layerBy_3 : decode cX9_layerBy 3 = .ok (.iconst 0, 1) := by decide +kernel
theorem dX9_layerBy_4 : decode cX9_layerBy 4 = .ok (.istore 5, 2) := by decide +kernel
theorem dX9_layerBy_6 : decode cX9_layerBy 6 = .ok (.iload 5, 2) := by decide +kernel
theorem dX9_layerBy_8 : decode cX9_layerBy 8 = .ok (.iload_n 2, 1) := by decide +kernel
theorem dX9_layerBy_9 : decode cX9_layerBy 9 = .ok (.if_icmp .ge 29, 3) := by decide +kernel
theorem dX9_layerBy_12 : decode cX9_layerBy 12 = .ok (.iload 4, 2) := by decide +kernel
theorem dX9_layerBy_14 : decode cX9_layerBy 14 = .ok (.aload_n 1, 1) := by decide +kernel
theorem dX9_layerBy_15 : decode cX9_layerBy 15 = .ok (.iload 5, 2) := by decide +kernel
theorem dX9_layerBy_17 : decode cX9_layerBy 17 = .ok (.iaload, 1) := by decide +kernel
theorem dX9_layerBy_18 : decode cX9_layerBy 18 = .ok (.iadd, 1) := by decide +kernel
theorem dX9_layerBy_19 : decode cX9_layerBy 19 = .ok (.istore 4, 2) := by decide +kernel
theorem dX9_layerBy_21 : decode cX9_layerBy 21 = .ok (.iload 4, 2) := by decide +kernel
theorem dX9_layerBy_23 : decode cX9_layerBy 23 = .ok (.iload_n 3, 1) := by decide +kernel
theorem dX9_layerBy_24 : decode cX9_layerBy 24 = .ok (.if_icmp .le 8, 3) := by decide +kernel
theorem dX9_layerBy_27 : decode cX9_layerBy 27 = .ok (.aload_n 0, 1) := by decide +kernel
theorem dX9_layerBy_28 : decode cX9_layerBy 28 = .ok (.iload 5, 2) := by decide +kernel
theorem dX9_layerBy_30 : decode cX9_layerBy 30 = .ok (.iaload, 1) := by decide +kernel
theorem dX9_layerBy_31 : decode cX9_layerBy 31 = .ok (.ireturn, 1) := by decide +kernel
theorem dX9_layerBy_32 : decode cX9_layerBy 32 = .ok (.iinc 5 1, 3) := by decide +kernel
theorem dX9_layerBy_35 : decode cX9_layerBy 35 = .ok (.goto (-29), 3) := by decide +kernel
theorem dX9_layerBy_38 : decode cX9_layerBy 38 = .ok (.iconst (-1), 1) := by decide +kernel
theorem dX9_layerBy_39 : decode cX9_layerBy 39 = .ok (.ireturn, 1) := by decide +kernel
set_option maxRecDepth 20000 in
set_option maxRecDepth 100000 in
theorem ggX9_areTogether_X9_layerBy : GoodIn wsX9_areTogether wsX9_layerBy := goodIn_r _ [10] rfl (by decide +kernel)
set_option maxRecDepth 20000 in
theorem gX9_areTogether_X9_layerBy : GoodIn wsX9_areTogether (va_wsS RX9 402 yX9_layerBy wsX9_layerBy) := goodIn_app (goodIn_of _ (by decide +kernel)) ggX9_areTogether_X9_layerBy
theorem dX9_areTogether_0 : decode cX9_areTogether 0 = .ok (.aload_n 0, 1) := by decide +kernel
theorem dX9_areTogether_1 : decode cX9_areTogether 1 = .ok (.getfield 27, 3) := by decide +kernel
theorem dX9_areTogether_4 : decode cX9_areTogether 4 = .ok (.aload_n 0, 1) := by decide +kernel
theorem dX9_areTogether_5 : decode cX9_areTogether 5 = .ok (.getfield 40, 3) := by decide +kernel
theorem dX9_areTogether_8 : decode cX9_areTogether 8 = .ok (.aload_n 0, 1) := by decide +kernel
theorem dX9_areTogether_9 : decode cX9_areTogether 9 = .ok (.getfield 131, 3) := by decide +kernel
theorem dX9_areTogether_12 : decode cX9_areTogether 12 = .ok (.iload_n 1, 1) := by decide +kernel
theorem dX9_areTogether_13 : decode cX9_areTogether 13 = .ok (.invokestatic 402, 3) := by decide +kernel
theorem dX9_areTogether_16 : decode cX9_areTogether 16 = .ok (.istore_n 2, 1) := by decide +kernel
theorem dX9_areTogether_17 : decode cX9_areTogether 17 = .ok (.iload_n 2, 1) := by decide +kernel
theorem dX9_areTogether_18 : decode cX9_areTogether 18 = .ok (.iconst (-1), 1) := by decide +kernel
theorem dX9_areTogether_19 : decode cX9_areTogether 19 = .ok (.if_icmp .eq 27, 3) := by decide +kernel
theorem dX9_areTogether_22 : decode cX9_areTogether 22 = .ok (.iload_n 2, 1) := by decide +kernel
theorem dX9_areTogether_23 : decode cX9_areTogether 23 = .ok (.aload_n 0, 1) := by decide +kernel
theorem dX9_areTogether_24 : decode cX9_areTogether 24 = .ok (.getfield 56, 3) := by decide +kernel
theorem dX9_areTogether_27 : decode cX9_areTogether 27 = .ok (.aload_n 0, 1) := by decide +kernel
theorem dX9_areTogether_28 : decode cX9_areTogether 28 = .ok (.getfield 62, 3) := by decide +kernel
theorem dX9_areTogether_31 : decode cX9_areTogether 31 = .ok (.aload_n 0, 1) := by decide +kernel
theorem dX9_areTogether_32 : decode cX9_areTogether 32 = .ok (.getfield 396, 3) := by decide +kernel
theorem dX9_areTogether_35 : decode cX9_areTogether 35 = .ok (.iload_n 1, 1) := by decide +kernel
theorem dX9_areTogether_36 : decode cX9_areTogether 36 = .ok (.invokestatic 402, 3) := by decide +kernel
theorem dX9_areTogether_39 : decode cX9_areTogether 39 = .ok (.if_icmp .ne 7, 3) := by decide +kernel
theorem dX9_areTogether_42 : decode cX9_areTogether 42 = .ok (.iconst 1, 1) := by decide +kernel
theorem dX9_areTogether_43 : decode cX9_areTogether 43 = .ok (.goto 4, 3) := by decide +kernel
theorem dX9_areTogether_46 : decode cX9_areTogether 46 = .ok (.iconst 0, 1) := by decide +kernel
theorem dX9_areTogether_47 : decode cX9_areTogether 47 = .ok (.ireturn, 1) := by decide +kernel
set_option maxRecDepth 20000 in
set_option maxRecDepth 100000 in
theorem ggX9_together_X9_isShot : GoodIn wsX9_together wsX9_isShot := goodIn_r _ [9, 10, 11, 12, 8, 13, 14, 15, 16, 17, 118, 119, 120, 121, 122, 123, 124, 125, 126, 127, 128, 129, 130, 131, 132, 133, 134, 135, 136, 137, 138, 139, 140, 141, 142, 143, 144, 145, 146, 147, 148, 149, 150, 151, 152, 153, 154, 155, 156, 157, 158] rfl (by decide +kernel)
set_option maxRecDepth 20000 in
theorem gX9_together_X9_isShot : GoodIn wsX9_together (wsV RX9 336 RX9 yX9_isShot wsX9_isShot) := goodIn_app (goodIn_of _ (by decide +kernel)) ggX9_together_X9_isShot
set_option maxRecDepth 20000 in
set_option maxRecDepth 100000 in
theorem ggX9_together_X9_passes2 : GoodIn wsX9_together wsX9_passes2 := goodIn_r _ [21, 22, 23, 24, 8, 25, 26, 118, 119, 120, 121, 122, 123, 124, 125, 126, 127, 128, 129, 130, 131, 132, 133, 134, 135, 136, 137, 138, 139, 140, 141, 142, 143, 144, 145, 146, 147, 148, 149, 150, 151, 152, 153, 154, 155, 156, 157, 158] rfl (by decide +kernel)
set_option maxRecDepth 20000 in
theorem gX9_together_X9_passes2 : GoodIn wsX9_together (wsV RX9 332 RX9 yX9_passes2 wsX9_passes2) := goodIn_app (goodIn_of _ (by decide +kernel)) ggX9_together_X9_passes2
set_option maxRecDepth 20000 in
set_option maxRecDepth 100000 in
theorem ggX9_together_X9_followBoth : GoodIn wsX9_together wsX9_followBoth := goodIn_r _ [30, 1, 3, 31, 32, 33, 34, 4, 2, 35, 36, 37, 8, 38, 39, 40, 41, 42, 14, 43, 44, 45, 46, 47, 48, 49, 50, 51, 52, 53, 54, 55, 56, 57, 58, 59, 60, 61, 62, 15, 16, 17, 63, 64, 65, 66, 67, 68, 69, 70, 71, 72, 73, 74, 75, 76, 77, 78, 79, 80, 81, 82, 83, 84, 85, 86, 87, 88, 89, 90, 91, 92, 93, 94, 95, 96, 97, 98, 99, 100, 101, 102, 103, 104, 105, 106, 107, 108, 109, 110, 118, 119, 120, 121, 122, 123, 124, 125, 126, 127, 128, 129, 130, 131, 132, 133, 134, 135, 136, 137, 138, 139, 140, 141, 142, 143, 144, 145, 146, 147, 148, 149, 150, 151, 152, 153, 154, 155, 156, 157, 158] rfl (by decide +kernel)
set_option maxRecDepth 20000 in
theorem gX9_together_X9_followBoth : GoodIn wsX9_together (wsV RX9 399 RX9 yX9_followBoth wsX9_followBoth) := goodIn_app (goodIn_of _ (by decide +kernel)) ggX9_together_X9_followBoth
set_option maxRecDepth 20000 in
set_option maxRecDepth 100000 in
theorem ggX9_together_X9_areTogether : GoodIn wsX9_together wsX9_areTogether := goodIn_r _ [114, 32, 2, 1, 31, 4, 3, 115, 116, 8, 117, 118, 119, 120, 121, 122, 123, 124, 125, 126, 127, 128, 129, 130, 131, 132, 133, 134, 135, 136, 137, 138, 139, 140, 141, 142, 143, 144, 145, 146, 147, 148, 149, 150, 151, 152, 153, 154, 155, 156, 157, 158] rfl (by decide +kernel)
set_option maxRecDepth 20000 in
theorem gX9_together_X9_areTogether : GoodIn wsX9_together (wsV RX9 406 RX9 yX9_areTogether wsX9_areTogether) := goodIn_app (goodIn_of _ (by decide +kernel)) ggX9_together_X9_areTogether
theorem dX9_together_0 : decode cX9_together 0 = .ok (.aload_n 0, 1) := by decide +kernel
theorem dX9_together_1 : decode cX9_together 1 = .ok (.aload_n 0, 1) := by decide +kernel
theorem dX9_together_2 : decode cX9_together 2 = .ok (.iload_n 1, 1) := by decide +kernel
theorem dX9_together_3 : decode cX9_together 3 = .ok (.invokevirtual 336, 3) := by decide +kernel
theorem dX9_together_6 : decode cX9_together 6 = .ok (.ifCond .eq 15, 3) := by decide +kernel
theorem dX9_together_9 : decode cX9_together 9 = .ok (.aload_n 0, 1) := by decide +kernel
theorem dX9_together_10 : decode cX9_together 10 = .ok (.iload_n 2, 1) := by decide +kernel
theorem dX9_together_11 : decode cX9_together 11 = .ok (.invokevirtual 336, 3) := by decide +kernel
theorem dX9_together_14 : decode cX9_together 14 = .ok (.ifCond .eq 7, 3) := by decide +kernel
theorem dX9_together_17 : decode cX9_together 17 = .ok (.iconst 1, 1) := by decide +kernel
theorem dX9_together_18 : decode cX9_together 18 = .ok (.goto 4, 3) := by decide +kernel
theorem dX9_together_21 : decode cX9_together 21 = .ok (.iconst 0, 1) := by decide +kernel
theorem dX9_together_22 : decode cX9_together 22 = .ok (.iload_n 1, 1) := by decide +kernel
theorem dX9_together_23 : decode cX9_together 23 = .ok (.iload_n 2, 1) := by decide +kernel
theorem dX9_together_24 : decode cX9_together 24 = .ok (.if_icmp .eq 7, 3) := by decide +kernel
theorem dX9_together_27 : decode cX9_together 27 = .ok (.iconst 1, 1) := by decide +kernel
theorem dX9_together_28 : decode cX9_together 28 = .ok (.goto 4, 3) := by decide +kernel
theorem dX9_together_31 : decode cX9_together 31 = .ok (.iconst 0, 1) := by decide +kernel
theorem dX9_together_32 : decode cX9_together 32 = .ok (.invokevirtual 332, 3) := by decide +kernel
theorem dX9_together_35 : decode cX9_together 35 = .ok (.ifCond .ne 5, 3) := by decide +kernel
theorem dX9_together_38 : decode cX9_together 38 = .ok (.iconst 0, 1) := by decide +kernel
theorem dX9_together_39 : decode cX9_together 39 = .ok (.ireturn, 1) := by decide +kernel
theorem dX9_together_40 : decode cX9_together 40 = .ok (.aload_n 0, 1) := by decide +kernel
theorem dX9_together_41 : decode cX9_together 41 = .ok (.iload_n 1, 1) := by decide +kernel
theorem dX9_together_42 : decode cX9_together 42 = .ok (.iload_n 2, 1) := by decide +kernel
theorem dX9_together_43 : decode cX9_together 43 = .ok (.invokevirtual 399, 3) := by decide +kernel
theorem dX9_together_46 : decode cX9_together 46 = .ok (.aload_n 0, 1) := by decide +kernel
theorem dX9_together_47 : decode cX9_together 47 = .ok (.iconst 0, 1) := by decide +kernel
theorem dX9_together_48 : decode cX9_together 48 = .ok (.invokevirtual 406, 3) := by decide +kernel
theorem dX9_together_51 : decode cX9_together 51 = .ok (.ifCond .eq 7, 3) := by decide +kernel
theorem dX9_together_54 : decode cX9_together 54 = .ok (.iconst 0, 1) := by decide +kernel
theorem dX9_together_55 : decode cX9_together 55 = .ok (.goto 4, 3) := by decide +kernel
theorem dX9_together_58 : decode cX9_together 58 = .ok (.iconst (-1), 1) := by decide +kernel
theorem dX9_together_59 : decode cX9_together 59 = .ok (.istore_n 3, 1) := by decide +kernel
theorem dX9_together_60 : decode cX9_together 60 = .ok (.iconst 0, 1) := by decide +kernel
theorem dX9_together_61 : decode cX9_together 61 = .ok (.istore 4, 2) := by decide +kernel
theorem dX9_together_63 : decode cX9_together 63 = .ok (.iconst 0, 1) := by decide +kernel
theorem dX9_together_64 : decode cX9_together 64 = .ok (.istore 5, 2) := by decide +kernel
theorem dX9_together_66 : decode cX9_together 66 = .ok (.iload 5, 2) := by decide +kernel
theorem dX9_together_68 : decode cX9_together 68 = .ok (.aload_n 0, 1) := by decide +kernel
theorem dX9_together_69 : decode cX9_together 69 = .ok (.getfield 131, 3) := by decide +kernel
theorem dX9_together_72 : decode cX9_together 72 = .ok (.if_icmp .ge 48, 3) := by decide +kernel
theorem dX9_together_75 : decode cX9_together 75 = .ok (.iload 4, 2) := by decide +kernel
theorem dX9_together_77 : decode cX9_together 77 = .ok (.aload_n 0, 1) := by decide +kernel
theorem dX9_together_78 : decode cX9_together 78 = .ok (.getfield 40, 3) := by decide +kernel
theorem dX9_together_81 : decode cX9_together 81 = .ok (.iload 5, 2) := by decide +kernel
theorem dX9_together_83 : decode cX9_together 83 = .ok (.iaload, 1) := by decide +kernel
theorem dX9_together_84 : decode cX9_together 84 = .ok (.iadd, 1) := by decide +kernel
theorem dX9_together_85 : decode cX9_together 85 = .ok (.istore 4, 2) := by decide +kernel
theorem dX9_together_87 : decode cX9_together 87 = .ok (.aload_n 0, 1) := by decide +kernel
theorem dX9_together_88 : decode cX9_together 88 = .ok (.iload 4, 2) := by decide +kernel
theorem dX9_together_90 : decode cX9_together 90 = .ok (.invokevirtual 406, 3) := by decide +kernel
theorem dX9_together_93 : decode cX9_together 93 = .ok (.ifCond .eq 19, 3) := by decide +kernel
theorem dX9_together_96 : decode cX9_together 96 = .ok (.iload_n 3, 1) := by decide +kernel
theorem dX9_together_97 : decode cX9_together 97 = .ok (.iconst (-1), 1) := by decide +kernel
theorem dX9_together_98 : decode cX9_together 98 = .ok (.if_icmp .eq 9, 3) := by decide +kernel
theorem dX9_together_101 : decode cX9_together 101 = .ok (.iload 4, 2) := by decide +kernel
theorem dX9_together_103 : decode cX9_together 103 = .ok (.iload_n 3, 1) := by decide +kernel
theorem dX9_together_104 : decode cX9_together 104 = .ok (.if_icmp .ge 8, 3) := by decide +kernel
theorem dX9_together_107 : decode cX9_together 107 = .ok (.iload 4, 2) := by decide +kernel
theorem dX9_together_109 : decode cX9_together 109 = .ok (.goto 4, 3) := by decide +kernel
theorem dX9_together_112 : decode cX9_together 112 = .ok (.iload_n 3, 1) := by decide +kernel
theorem dX9_together_113 : decode cX9_together 113 = .ok (.istore_n 3, 1) := by decide +kernel
theorem dX9_together_114 : decode cX9_together 114 = .ok (.iinc 5 1, 3) := by decide +kernel
theorem dX9_together_117 : decode cX9_together 117 = .ok (.goto (-51), 3) := by decide +kernel
theorem dX9_together_120 : decode cX9_together 120 = .ok (.iconst 0, 1) := by decide +kernel
theorem dX9_together_121 : decode cX9_together 121 = .ok (.istore 5, 2) := by decide +kernel
theorem dX9_together_123 : decode cX9_together 123 = .ok (.iconst 0, 1) := by decide +kernel
theorem dX9_together_124 : decode cX9_together 124 = .ok (.istore 6, 2) := by decide +kernel
theorem dX9_together_126 : decode cX9_together 126 = .ok (.iload 6, 2) := by decide +kernel
theorem dX9_together_128 : decode cX9_together 128 = .ok (.aload_n 0, 1) := by decide +kernel
theorem dX9_together_129 : decode cX9_together 129 = .ok (.getfield 396, 3) := by decide +kernel
theorem dX9_together_132 : decode cX9_together 132 = .ok (.if_icmp .ge 48, 3) := by decide +kernel
theorem dX9_together_135 : decode cX9_together 135 = .ok (.iload 5, 2) := by decide +kernel
theorem dX9_together_137 : decode cX9_together 137 = .ok (.aload_n 0, 1) := by decide +kernel
theorem dX9_together_138 : decode cX9_together 138 = .ok (.getfield 62, 3) := by decide +kernel
theorem dX9_together_141 : decode cX9_together 141 = .ok (.iload 6, 2) := by decide +kernel
theorem dX9_together_143 : decode cX9_together 143 = .ok (.iaload, 1) := by decide +kernel
theorem dX9_together_144 : decode cX9_together 144 = .ok (.iadd, 1) := by decide +kernel
theorem dX9_together_145 : decode cX9_together 145 = .ok (.istore 5, 2) := by decide +kernel
theorem dX9_together_147 : decode cX9_together 147 = .ok (.aload_n 0, 1) := by decide +kernel
theorem dX9_together_148 : decode cX9_together 148 = .ok (.iload 5, 2) := by decide +kernel
theorem dX9_together_150 : decode cX9_together 150 = .ok (.invokevirtual 406, 3) := by decide +kernel
theorem dX9_together_153 : decode cX9_together 153 = .ok (.ifCond .eq 19, 3) := by decide +kernel
theorem dX9_together_156 : decode cX9_together 156 = .ok (.iload_n 3, 1) := by decide +kernel
theorem dX9_together_157 : decode cX9_together 157 = .ok (.iconst (-1), 1) := by decide +kernel
theorem dX9_together_158 : decode cX9_together 158 = .ok (.if_icmp .eq 9, 3) := by decide +kernel
theorem dX9_together_161 : decode cX9_together 161 = .ok (.iload 5, 2) := by decide +kernel
theorem dX9_together_163 : decode cX9_together 163 = .ok (.iload_n 3, 1) := by decide +kernel
theorem dX9_together_164 : decode cX9_together 164 = .ok (.if_icmp .ge 8, 3) := by decide +kernel
theorem dX9_together_167 : decode cX9_together 167 = .ok (.iload 5, 2) := by decide +kernel
theorem dX9_together_169 : decode cX9_together 169 = .ok (.goto 4, 3) := by decide +kernel
theorem dX9_together_172 : decode cX9_together 172 = .ok (.iload_n 3, 1) := by decide +kernel
theorem dX9_together_173 : decode cX9_together 173 = .ok (.istore_n 3, 1) := by decide +kernel
theorem dX9_together_174 : decode cX9_together 174 = .ok (.iinc 6 1, 3) := by decide +kernel
theorem dX9_together_177 : decode cX9_together 177 = .ok (.goto (-51), 3) := by decide +kernel
theorem dX9_together_180 : decode cX9_together 180 = .ok (.iload_n 3, 1) := by decide +kernel
theorem dX9_together_181 : decode cX9_together 181 = .ok (.ireturn, 1) := by decide +kernel
set_option maxRecDepth 20000 in
set_option maxRecDepth 100000 in
theorem ggX9_legsThrough_X9_shots : GoodIn wsX9_legsThrough wsX9_shots := goodIn_r _ [7, 8, 90, 91, 92, 93, 94, 95, 96, 97, 98, 99, 100, 101, 102, 103, 104, 105, 106, 107, 108, 109, 110, 111, 112, 113, 114, 115, 116, 117, 118, 119, 120, 121, 122, 123, 124, 125, 126, 127, 128, 129, 130] rfl (by decide +kernel)
set_option maxRecDepth 20000 in
theorem gX9_legsThrough_X9_shots : GoodIn wsX9_legsThrough (wsV RX9 98 RX9 yX9_shots wsX9_shots) := goodIn_app (goodIn_of _ (by decide +kernel)) ggX9_legsThrough_X9_shots
set_option maxRecDepth 20000 in
set_option maxRecDepth 100000 in
theorem ggX9_legsThrough_X9_followShot : GoodIn wsX9_legsThrough wsX9_followShot := goodIn_r _ [12, 13, 14, 15, 6, 16, 8, 17, 18, 19, 20, 1, 21, 22, 23, 24, 25, 26, 27, 28, 29, 30, 31, 32, 33, 34, 35, 36, 37, 38, 39, 40, 41, 42, 43, 44, 45, 46, 47, 48, 49, 50, 51, 2, 52, 53, 54, 55, 56, 57, 58, 59, 60, 61, 62, 63, 64, 65, 66, 67, 68, 69, 70, 71, 72, 73, 74, 75, 76, 77, 78, 79, 80, 81, 82, 83, 84, 85, 86, 87, 88, 89, 90, 91, 92, 93, 94, 95, 96, 97, 98, 99, 100, 101, 102, 103, 104, 105, 106, 107, 108, 109, 110, 111, 112, 113, 114, 115, 116, 117, 118, 119, 120, 121, 122, 123, 124, 125, 126, 127, 128, 129, 130] rfl (by decide +kernel)
set_option maxRecDepth 20000 in
theorem gX9_legsThrough_X9_followShot : GoodIn wsX9_legsThrough (wsV RX9 185 RX9 yX9_followShot wsX9_followShot) := goodIn_app (goodIn_of _ (by decide +kernel)) ggX9_legsThrough_X9_followShot
theorem dX9_legsThrough_0 : decode cX9_legsThrough 0 = .ok (.iconst 0, 1) := by decide +kernel
theorem dX9_legsThrough_1 : decode cX9_legsThrough 1 = .ok (.istore_n 2, 1) := by decide +kernel
theorem dX9_legsThrough_2 : decode cX9_legsThrough 2 = .ok (.iconst 0, 1) := by decide +kernel
theorem dX9_legsThrough_3 : decode cX9_legsThrough 3 = .ok (.istore_n 3, 1) := by decide +kernel
theorem dX9_legsThrough_4 : decode cX9_legsThrough 4 = .ok (.iload_n 3, 1) := by decide +kernel
theorem dX9_legsThrough_5 : decode cX9_legsThrough 5 = .ok (.aload_n 0, 1) := by decide +kernel
theorem dX9_legsThrough_6 : decode cX9_legsThrough 6 = .ok (.invokevirtual 98, 3) := by decide +kernel
theorem dX9_legsThrough_9 : decode cX9_legsThrough 9 = .ok (.if_icmp .ge 51, 3) := by decide +kernel
theorem dX9_legsThrough_12 : decode cX9_legsThrough 12 = .ok (.aload_n 0, 1) := by decide +kernel
theorem dX9_legsThrough_13 : decode cX9_legsThrough 13 = .ok (.iload_n 3, 1) := by decide +kernel
theorem dX9_legsThrough_14 : decode cX9_legsThrough 14 = .ok (.invokevirtual 185, 3) := by decide +kernel
theorem dX9_legsThrough_17 : decode cX9_legsThrough 17 = .ok (.iconst 0, 1) := by decide +kernel
theorem dX9_legsThrough_18 : decode cX9_legsThrough 18 = .ok (.istore 4, 2) := by decide +kernel
theorem dX9_legsThrough_20 : decode cX9_legsThrough 20 = .ok (.iload 4, 2) := by decide +kernel
theorem dX9_legsThrough_22 : decode cX9_legsThrough 22 = .ok (.aload_n 0, 1) := by decide +kernel
theorem dX9_legsThrough_23 : decode cX9_legsThrough 23 = .ok (.getfield 131, 3) := by decide +kernel
theorem dX9_legsThrough_26 : decode cX9_legsThrough 26 = .ok (.if_icmp .ge 28, 3) := by decide +kernel
theorem dX9_legsThrough_29 : decode cX9_legsThrough 29 = .ok (.iload_n 2, 1) := by decide +kernel
theorem dX9_legsThrough_30 : decode cX9_legsThrough 30 = .ok (.aload_n 0, 1) := by decide +kernel
theorem dX9_legsThrough_31 : decode cX9_legsThrough 31 = .ok (.getfield 27, 3) := by decide +kernel
theorem dX9_legsThrough_34 : decode cX9_legsThrough 34 = .ok (.iload 4, 2) := by decide +kernel
theorem dX9_legsThrough_36 : decode cX9_legsThrough 36 = .ok (.iaload, 1) := by decide +kernel
theorem dX9_legsThrough_37 : decode cX9_legsThrough 37 = .ok (.iload_n 1, 1) := by decide +kernel
theorem dX9_legsThrough_38 : decode cX9_legsThrough 38 = .ok (.if_icmp .ne 7, 3) := by decide +kernel
theorem dX9_legsThrough_41 : decode cX9_legsThrough 41 = .ok (.iconst 1, 1) := by decide +kernel
theorem dX9_legsThrough_42 : decode cX9_legsThrough 42 = .ok (.goto 4, 3) := by decide +kernel
theorem dX9_legsThrough_45 : decode cX9_legsThrough 45 = .ok (.iconst 0, 1) := by decide +kernel
theorem dX9_legsThrough_46 : decode cX9_legsThrough 46 = .ok (.iadd, 1) := by decide +kernel
theorem dX9_legsThrough_47 : decode cX9_legsThrough 47 = .ok (.istore_n 2, 1) := by decide +kernel
theorem dX9_legsThrough_48 : decode cX9_legsThrough 48 = .ok (.iinc 4 1, 3) := by decide +kernel
theorem dX9_legsThrough_51 : decode cX9_legsThrough 51 = .ok (.goto (-31), 3) := by decide +kernel
theorem dX9_legsThrough_54 : decode cX9_legsThrough 54 = .ok (.iinc 3 1, 3) := by decide +kernel
theorem dX9_legsThrough_57 : decode cX9_legsThrough 57 = .ok (.goto (-53), 3) := by decide +kernel
theorem dX9_legsThrough_60 : decode cX9_legsThrough 60 = .ok (.iload_n 2, 1) := by decide +kernel
theorem dX9_legsThrough_61 : decode cX9_legsThrough 61 = .ok (.ireturn, 1) := by decide +kernel
set_option maxRecDepth 20000 in
set_option maxRecDepth 100000 in
theorem ggX9_legsIn_X9_isLayer : GoodIn wsX9_legsIn wsX9_isLayer := goodIn_r _ [5, 6, 7, 8, 4, 9, 10, 11, 12, 13, 103, 104, 105, 106, 107, 108, 109, 110, 111, 112, 113, 114, 115, 116, 117, 118, 119, 120, 121, 122, 123, 124, 125, 126, 127, 128, 129, 130, 131, 132, 133, 134, 135, 136, 137, 138, 139, 140, 141, 142, 143] rfl (by decide +kernel)
set_option maxRecDepth 20000 in
theorem gX9_legsIn_X9_isLayer : GoodIn wsX9_legsIn (wsV RX9 140 RX9 yX9_isLayer wsX9_isLayer) := goodIn_app (goodIn_of _ (by decide +kernel)) ggX9_legsIn_X9_isLayer
set_option maxRecDepth 20000 in
set_option maxRecDepth 100000 in
theorem ggX9_legsIn_X9_passes : GoodIn wsX9_legsIn wsX9_passes := goodIn_r _ [17, 18, 19, 20, 4, 21, 22, 103, 104, 105, 106, 107, 108, 109, 110, 111, 112, 113, 114, 115, 116, 117, 118, 119, 120, 121, 122, 123, 124, 125, 126, 127, 128, 129, 130, 131, 132, 133, 134, 135, 136, 137, 138, 139, 140, 141, 142, 143] rfl (by decide +kernel)
set_option maxRecDepth 20000 in
theorem gX9_legsIn_X9_passes : GoodIn wsX9_legsIn (wsV RX9 193 RX9 yX9_passes wsX9_passes) := goodIn_app (goodIn_of _ (by decide +kernel)) ggX9_legsIn_X9_passes
set_option maxRecDepth 20000 in
set_option maxRecDepth 100000 in
theorem ggX9_legsIn_X9_legsThrough : GoodIn wsX9_legsIn wsX9_legsThrough := goodIn_r _ [26, 27, 28, 29, 30, 31, 4, 32, 10, 33, 34, 35, 36, 37, 38, 39, 40, 41, 42, 43, 44, 45, 46, 47, 48, 49, 50, 51, 52, 1, 2, 3, 5, 6, 7, 8, 9, 11, 12, 13, 53, 54, 55, 56, 57, 58, 59, 60, 61, 62, 63, 64, 65, 66, 67, 68, 69, 70, 71, 72, 73, 74, 75, 76, 77, 78, 79, 80, 81, 82, 83, 84, 85, 86, 87, 88, 89, 90, 91, 92, 93, 94, 95, 96, 97, 98, 99, 100, 101, 102, 103, 104, 105, 106, 107, 108, 109, 110, 111, 112, 113, 114, 115, 116, 117, 118, 119, 120, 121, 122, 123, 124, 125, 126, 127, 128, 129, 130, 131, 132, 133, 134, 135, 136, 137, 138, 139, 140, 141, 142, 143] rfl (by decide +kernel)
set_option maxRecDepth 20000 in
theorem gX9_legsIn_X9_legsThrough : GoodIn wsX9_legsIn (wsV RX9 409 RX9 yX9_legsThrough wsX9_legsThrough) := goodIn_app (goodIn_of _ (by decide +kernel)) ggX9_legsIn_X9_legsThrough
theorem dX9_legsIn_0 : decode cX9_legsIn 0 = .ok (.aload_n 0, 1) := by decide +kernel
theorem dX9_legsIn_1 : decode cX9_legsIn 1 = .ok (.aload_n 0, 1) := by decide +kernel
theorem dX9_legsIn_2 : decode cX9_legsIn 2 = .ok (.iload_n 1, 1) := by decide +kernel
theorem dX9_legsIn_3 : decode cX9_legsIn 3 = .ok (.invokevirtual 140, 3) := by decide +kernel
theorem dX9_legsIn_6 : decode cX9_legsIn 6 = .ok (.invokevirtual 193, 3) := by decide +kernel
theorem dX9_legsIn_9 : decode cX9_legsIn 9 = .ok (.ifCond .eq 11, 3) := by decide +kernel
theorem dX9_legsIn_12 : decode cX9_legsIn 12 = .ok (.aload_n 0, 1) := by decide +kernel
theorem dX9_legsIn_13 : decode cX9_legsIn 13 = .ok (.iload_n 1, 1) := by decide +kernel
theorem dX9_legsIn_14 : decode cX9_legsIn 14 = .ok (.invokevirtual 409, 3) := by decide +kernel
theorem dX9_legsIn_17 : decode cX9_legsIn 17 = .ok (.goto 4, 3) := by decide +kernel
theorem dX9_legsIn_20 : decode cX9_legsIn 20 = .ok (.iconst 0, 1) := by decide +kernel
theorem dX9_legsIn_21 : decode cX9_legsIn 21 = .ok (.ireturn, 1) := by decide +kernel
set_option maxRecDepth 20000 in
set_option maxRecDepth 100000 in
theorem ggX9_busiest_X9_layers : GoodIn wsX9_busiest wsX9_layers := goodIn_r _ [10, 11, 98, 99, 100, 101, 102, 103, 104, 105, 106, 107, 108, 109, 110, 111, 112, 113, 114, 115, 116, 117, 118, 119, 120, 121, 122, 123, 124, 125, 126, 127, 128, 129, 130, 131, 132, 133, 134, 135, 136, 137, 138] rfl (by decide +kernel)
set_option maxRecDepth 20000 in
theorem gX9_busiest_X9_layers : GoodIn wsX9_busiest (wsV RX9 90 RX9 yX9_layers wsX9_layers) := goodIn_app (goodIn_of _ (by decide +kernel)) ggX9_busiest_X9_layers
set_option maxRecDepth 20000 in
set_option maxRecDepth 100000 in
theorem ggX9_busiest_X9_legsThrough : GoodIn wsX9_busiest wsX9_legsThrough := goodIn_r _ [15, 16, 17, 18, 19, 20, 9, 21, 11, 22, 23, 24, 25, 26, 27, 28, 29, 30, 31, 32, 33, 34, 35, 36, 37, 38, 39, 40, 41, 42, 43, 44, 45, 6, 7, 8, 10, 46, 47, 48, 49, 50, 51, 52, 53, 54, 55, 56, 57, 58, 4, 59, 60, 61, 62, 63, 64, 65, 66, 67, 68, 69, 70, 71, 72, 73, 74, 75, 76, 77, 78, 79, 80, 81, 82, 83, 84, 85, 86, 87, 88, 89, 90, 91, 92, 93, 94, 95, 96, 97, 98, 99, 100, 101, 102, 103, 104, 105, 106, 107, 108, 109, 110, 111, 112, 113, 114, 115, 116, 117, 118, 119, 120, 121, 122, 123, 124, 125, 126, 127, 128, 129, 130, 131, 132, 133, 134, 135, 136, 137, 138] rfl (by decide +kernel)
set_option maxRecDepth 20000 in
theorem gX9_busiest_X9_legsThrough : GoodIn wsX9_busiest (wsV RX9 409 RX9 yX9_legsThrough wsX9_legsThrough) := goodIn_app (goodIn_of _ (by decide +kernel)) ggX9_busiest_X9_legsThrough
theorem dX9_busiest_0 : decode cX9_busiest 0 = .ok (.aload_n 0, 1) := by decide +kernel
theorem dX9_busiest_1 : decode cX9_busiest 1 = .ok (.iconst 0, 1) := by decide +kernel
theorem dX9_busiest_2 : decode cX9_busiest 2 = .ok (.putfield 3, 3) := by decide +kernel
theorem dX9_busiest_5 : decode cX9_busiest 5 = .ok (.iconst (-1), 1) := by decide +kernel
theorem dX9_busiest_6 : decode cX9_busiest 6 = .ok (.istore_n 1, 1) := by decide +kernel
theorem dX9_busiest_7 : decode cX9_busiest 7 = .ok (.iconst 0, 1) := by decide +kernel
theorem dX9_busiest_8 : decode cX9_busiest 8 = .ok (.istore_n 2, 1) := by decide +kernel
theorem dX9_busiest_9 : decode cX9_busiest 9 = .ok (.iconst 0, 1) := by decide +kernel
theorem dX9_busiest_10 : decode cX9_busiest 10 = .ok (.istore_n 3, 1) := by decide +kernel
theorem dX9_busiest_11 : decode cX9_busiest 11 = .ok (.iload_n 3, 1) := by decide +kernel
theorem dX9_busiest_12 : decode cX9_busiest 12 = .ok (.aload_n 0, 1) := by decide +kernel
theorem dX9_busiest_13 : decode cX9_busiest 13 = .ok (.invokevirtual 90, 3) := by decide +kernel
theorem dX9_busiest_16 : decode cX9_busiest 16 = .ok (.if_icmp .ge 35, 3) := by decide +kernel
theorem dX9_busiest_19 : decode cX9_busiest 19 = .ok (.aload_n 0, 1) := by decide +kernel
theorem dX9_busiest_20 : decode cX9_busiest 20 = .ok (.iload_n 3, 1) := by decide +kernel
theorem dX9_busiest_21 : decode cX9_busiest 21 = .ok (.invokevirtual 409, 3) := by decide +kernel
theorem dX9_busiest_24 : decode cX9_busiest 24 = .ok (.istore 4, 2) := by decide +kernel
theorem dX9_busiest_26 : decode cX9_busiest 26 = .ok (.iload 4, 2) := by decide +kernel
theorem dX9_busiest_28 : decode cX9_busiest 28 = .ok (.iload_n 2, 1) := by decide +kernel
theorem dX9_busiest_29 : decode cX9_busiest 29 = .ok (.if_icmp .le 7, 3) := by decide +kernel
theorem dX9_busiest_32 : decode cX9_busiest 32 = .ok (.iload_n 3, 1) := by decide +kernel
theorem dX9_busiest_33 : decode cX9_busiest 33 = .ok (.goto 4, 3) := by decide +kernel
theorem dX9_busiest_36 : decode cX9_busiest 36 = .ok (.iload_n 1, 1) := by decide +kernel
theorem dX9_busiest_37 : decode cX9_busiest 37 = .ok (.istore_n 1, 1) := by decide +kernel
theorem dX9_busiest_38 : decode cX9_busiest 38 = .ok (.iload_n 2, 1) := by decide +kernel
theorem dX9_busiest_39 : decode cX9_busiest 39 = .ok (.iload 4, 2) := by decide +kernel
theorem dX9_busiest_41 : decode cX9_busiest 41 = .ok (.invokestatic 188, 3) := by decide +kernel
theorem dX9_busiest_44 : decode cX9_busiest 44 = .ok (.istore_n 2, 1) := by decide +kernel
theorem dX9_busiest_45 : decode cX9_busiest 45 = .ok (.iinc 3 1, 3) := by decide +kernel
theorem dX9_busiest_48 : decode cX9_busiest 48 = .ok (.goto (-37), 3) := by decide +kernel
theorem dX9_busiest_51 : decode cX9_busiest 51 = .ok (.iload_n 1, 1) := by decide +kernel
theorem dX9_busiest_52 : decode cX9_busiest 52 = .ok (.ireturn, 1) := by decide +kernel
set_option maxRecDepth 20000 in
set_option maxRecDepth 100000 in
theorem ggX9_meanIndex_X9_layers : GoodIn wsX9_meanIndex wsX9_layers := goodIn_r _ [6, 7, 16, 17, 18, 19, 20, 21, 22, 23, 24, 25, 26, 27, 28, 29, 30, 31, 32, 33, 34, 35, 36, 37, 38, 39, 40, 41, 42, 43, 44, 45, 46, 47, 48, 49, 50, 51, 52, 53, 54, 55, 56] rfl (by decide +kernel)
set_option maxRecDepth 20000 in
theorem gX9_meanIndex_X9_layers : GoodIn wsX9_meanIndex (wsV RX9 90 RX9 yX9_layers wsX9_layers) := goodIn_app (goodIn_of _ (by decide +kernel)) ggX9_meanIndex_X9_layers
set_option maxRecDepth 20000 in
set_option maxRecDepth 100000 in
theorem ggX9_meanIndex_X9_ofLayer : GoodIn wsX9_meanIndex wsX9_ofLayer := goodIn_r _ [11, 7, 16, 17, 18, 19, 20, 21, 22, 23, 24, 25, 26, 27, 28, 29, 30, 31, 32, 33, 34, 35, 36, 37, 38, 39, 40, 41, 42, 43, 44, 45, 46, 47, 48, 49, 50, 51, 52, 53, 54, 55, 56] rfl (by decide +kernel)
set_option maxRecDepth 20000 in
theorem gX9_meanIndex_X9_ofLayer : GoodIn wsX9_meanIndex (wsV RX9 105 RX9 yX9_ofLayer wsX9_ofLayer) := goodIn_app (goodIn_of _ (by decide +kernel)) ggX9_meanIndex_X9_ofLayer
set_option maxRecDepth 20000 in
set_option maxRecDepth 100000 in
theorem ggX9_meanIndex_X9_depthOf : GoodIn wsX9_meanIndex wsX9_depthOf := goodIn_r _ [15, 8, 9, 10, 5, 11, 7, 16, 17, 18, 19, 20, 21, 22, 23, 24, 25, 26, 27, 28, 29, 30, 31, 32, 33, 34, 35, 36, 37, 38, 39, 40, 41, 42, 43, 44, 45, 46, 47, 48, 49, 50, 51, 52, 53, 54, 55, 56] rfl (by decide +kernel)
set_option maxRecDepth 20000 in
theorem gX9_meanIndex_X9_depthOf : GoodIn wsX9_meanIndex (wsV RX9 327 RX9 yX9_depthOf wsX9_depthOf) := goodIn_app (goodIn_of _ (by decide +kernel)) ggX9_meanIndex_X9_depthOf
theorem dX9_meanIndex_0 : decode cX9_meanIndex 0 = .ok (.aload_n 0, 1) := by decide +kernel
theorem dX9_meanIndex_1 : decode cX9_meanIndex 1 = .ok (.iconst 0, 1) := by decide +kernel
theorem dX9_meanIndex_2 : decode cX9_meanIndex 2 = .ok (.putfield 3, 3) := by decide +kernel
theorem dX9_meanIndex_5 : decode cX9_meanIndex 5 = .ok (.iconst 0, 1) := by decide +kernel
theorem dX9_meanIndex_6 : decode cX9_meanIndex 6 = .ok (.istore_n 1, 1) := by decide +kernel
theorem dX9_meanIndex_7 : decode cX9_meanIndex 7 = .ok (.iconst 0, 1) := by decide +kernel
theorem dX9_meanIndex_8 : decode cX9_meanIndex 8 = .ok (.istore_n 2, 1) := by decide +kernel
theorem dX9_meanIndex_9 : decode cX9_meanIndex 9 = .ok (.iload_n 2, 1) := by decide +kernel
theorem dX9_meanIndex_10 : decode cX9_meanIndex 10 = .ok (.aload_n 0, 1) := by decide +kernel
theorem dX9_meanIndex_11 : decode cX9_meanIndex 11 = .ok (.invokevirtual 90, 3) := by decide +kernel
theorem dX9_meanIndex_14 : decode cX9_meanIndex 14 = .ok (.if_icmp .ge 25, 3) := by decide +kernel
theorem dX9_meanIndex_17 : decode cX9_meanIndex 17 = .ok (.iload_n 1, 1) := by decide +kernel
theorem dX9_meanIndex_18 : decode cX9_meanIndex 18 = .ok (.aload_n 0, 1) := by decide +kernel
theorem dX9_meanIndex_19 : decode cX9_meanIndex 19 = .ok (.iload_n 2, 1) := by decide +kernel
theorem dX9_meanIndex_20 : decode cX9_meanIndex 20 = .ok (.iconst 0, 1) := by decide +kernel
theorem dX9_meanIndex_21 : decode cX9_meanIndex 21 = .ok (.invokevirtual 105, 3) := by decide +kernel
theorem dX9_meanIndex_24 : decode cX9_meanIndex 24 = .ok (.aload_n 0, 1) := by decide +kernel
theorem dX9_meanIndex_25 : decode cX9_meanIndex 25 = .ok (.iload_n 2, 1) := by decide +kernel
theorem dX9_meanIndex_26 : decode cX9_meanIndex 26 = .ok (.iconst 1, 1) := by decide +kernel
theorem dX9_meanIndex_27 : decode cX9_meanIndex 27 = .ok (.invokevirtual 105, 3) := by decide +kernel
theorem dX9_meanIndex_30 : decode cX9_meanIndex 30 = .ok (.imul, 1) := by decide +kernel
theorem dX9_meanIndex_31 : decode cX9_meanIndex 31 = .ok (.iadd, 1) := by decide +kernel
theorem dX9_meanIndex_32 : decode cX9_meanIndex 32 = .ok (.istore_n 1, 1) := by decide +kernel
theorem dX9_meanIndex_33 : decode cX9_meanIndex 33 = .ok (.iinc 2 1, 3) := by decide +kernel
theorem dX9_meanIndex_36 : decode cX9_meanIndex 36 = .ok (.goto (-27), 3) := by decide +kernel
theorem dX9_meanIndex_39 : decode cX9_meanIndex 39 = .ok (.iload_n 1, 1) := by decide +kernel
theorem dX9_meanIndex_40 : decode cX9_meanIndex 40 = .ok (.i2d, 1) := by decide +kernel
theorem dX9_meanIndex_41 : decode cX9_meanIndex 41 = .ok (.aload_n 0, 1) := by decide +kernel
theorem dX9_meanIndex_42 : decode cX9_meanIndex 42 = .ok (.aload_n 0, 1) := by decide +kernel
theorem dX9_meanIndex_43 : decode cX9_meanIndex 43 = .ok (.invokevirtual 90, 3) := by decide +kernel
theorem dX9_meanIndex_46 : decode cX9_meanIndex 46 = .ok (.invokevirtual 327, 3) := by decide +kernel
theorem dX9_meanIndex_49 : decode cX9_meanIndex 49 = .ok (.i2d, 1) := by decide +kernel
theorem dX9_meanIndex_50 : decode cX9_meanIndex 50 = .ok (.ddiv, 1) := by decide +kernel
theorem dX9_meanIndex_51 : decode cX9_meanIndex 51 = .ok (.dreturn, 1) := by decide +kernel
set_option maxRecDepth 20000 in
set_option maxRecDepth 100000 in
theorem ggX9_share_X9_isShot : GoodIn wsX9_share wsX9_isShot := goodIn_r _ [8, 9, 10, 11, 7, 12, 13, 14, 15, 16, 104, 105, 106, 107, 108, 109, 110, 111, 112, 113, 114, 115, 116, 117, 118, 119, 120, 121, 122, 123, 124, 125, 126, 127, 128, 129, 130, 131, 132, 133, 134, 135, 136, 137, 138, 139, 140, 141, 142, 143, 144] rfl (by decide +kernel)
set_option maxRecDepth 20000 in
theorem gX9_share_X9_isShot : GoodIn wsX9_share (wsV RX9 336 RX9 yX9_isShot wsX9_isShot) := goodIn_app (goodIn_of _ (by decide +kernel)) ggX9_share_X9_isShot
set_option maxRecDepth 20000 in
set_option maxRecDepth 100000 in
theorem ggX9_share_X9_passes : GoodIn wsX9_share wsX9_passes := goodIn_r _ [20, 21, 22, 23, 7, 24, 25, 104, 105, 106, 107, 108, 109, 110, 111, 112, 113, 114, 115, 116, 117, 118, 119, 120, 121, 122, 123, 124, 125, 126, 127, 128, 129, 130, 131, 132, 133, 134, 135, 136, 137, 138, 139, 140, 141, 142, 143, 144] rfl (by decide +kernel)
set_option maxRecDepth 20000 in
theorem gX9_share_X9_passes : GoodIn wsX9_share (wsV RX9 193 RX9 yX9_passes wsX9_passes) := goodIn_app (goodIn_of _ (by decide +kernel)) ggX9_share_X9_passes
set_option maxRecDepth 20000 in
set_option maxRecDepth 100000 in
theorem ggX9_share_X9_followShot : GoodIn wsX9_share wsX9_followShot := goodIn_r _ [29, 30, 31, 32, 7, 33, 13, 34, 35, 36, 37, 38, 39, 40, 2, 1, 41, 42, 43, 44, 45, 46, 47, 48, 49, 50, 51, 52, 14, 15, 16, 53, 54, 55, 56, 57, 58, 59, 60, 61, 62, 63, 64, 65, 66, 67, 68, 69, 70, 71, 72, 73, 74, 75, 76, 77, 78, 79, 80, 81, 82, 83, 84, 85, 86, 87, 88, 89, 90, 91, 92, 93, 94, 95, 96, 97, 98, 99, 100, 101, 102, 103, 104, 105, 106, 107, 108, 109, 110, 111, 112, 113, 114, 115, 116, 117, 118, 119, 120, 121, 122, 123, 124, 125, 126, 127, 128, 129, 130, 131, 132, 133, 134, 135, 136, 137, 138, 139, 140, 141, 142, 143, 144] rfl (by decide +kernel)
set_option maxRecDepth 20000 in
theorem gX9_share_X9_followShot : GoodIn wsX9_share (wsV RX9 185 RX9 yX9_followShot wsX9_followShot) := goodIn_app (goodIn_of _ (by decide +kernel)) ggX9_share_X9_followShot
theorem dX9_share_0 : decode cX9_share 0 = .ok (.aload_n 0, 1) := by decide +kernel
theorem dX9_share_1 : decode cX9_share 1 = .ok (.aload_n 0, 1) := by decide +kernel
theorem dX9_share_2 : decode cX9_share 2 = .ok (.iload_n 1, 1) := by decide +kernel
theorem dX9_share_3 : decode cX9_share 3 = .ok (.invokevirtual 336, 3) := by decide +kernel
theorem dX9_share_6 : decode cX9_share 6 = .ok (.invokevirtual 193, 3) := by decide +kernel
theorem dX9_share_9 : decode cX9_share 9 = .ok (.ifCond .ne 5, 3) := by decide +kernel
theorem dX9_share_12 : decode cX9_share 12 = .ok (.fconst 0, 1) := by decide +kernel
theorem dX9_share_13 : decode cX9_share 13 = .ok (.freturn, 1) := by decide +kernel
theorem dX9_share_14 : decode cX9_share 14 = .ok (.aload_n 0, 1) := by decide +kernel
theorem dX9_share_15 : decode cX9_share 15 = .ok (.iload_n 1, 1) := by decide +kernel
theorem dX9_share_16 : decode cX9_share 16 = .ok (.invokevirtual 185, 3) := by decide +kernel
theorem dX9_share_19 : decode cX9_share 19 = .ok (.aload_n 0, 1) := by decide +kernel
theorem dX9_share_20 : decode cX9_share 20 = .ok (.getfield 156, 3) := by decide +kernel
theorem dX9_share_23 : decode cX9_share 23 = .ok (.iconst 4, 1) := by decide +kernel
theorem dX9_share_24 : decode cX9_share 24 = .ok (.if_icmp .ne 7, 3) := by decide +kernel
theorem dX9_share_27 : decode cX9_share 27 = .ok (.fconst 0, 1) := by decide +kernel
theorem dX9_share_28 : decode cX9_share 28 = .ok (.goto 12, 3) := by decide +kernel
theorem dX9_share_31 : decode cX9_share 31 = .ok (.aload_n 0, 1) := by decide +kernel
theorem dX9_share_32 : decode cX9_share 32 = .ok (.getfield 119, 3) := by decide +kernel
theorem dX9_share_35 : decode cX9_share 35 = .ok (.l2f, 1) := by decide +kernel
theorem dX9_share_36 : decode cX9_share 36 = .ok (.ldc_w 412, 3) := by decide +kernel
theorem dX9_share_39 : decode cX9_share 39 = .ok (.fdiv, 1) := by decide +kernel
theorem dX9_share_40 : decode cX9_share 40 = .ok (.freturn, 1) := by decide +kernel
theorem dX9_keepAside_0 : decode cX9_keepAside 0 = .ok (.iconst 0, 1) := by decide +kernel
theorem dX9_keepAside_1 : decode cX9_keepAside 1 = .ok (.istore_n 1, 1) := by decide +kernel
theorem dX9_keepAside_2 : decode cX9_keepAside 2 = .ok (.iload_n 1, 1) := by decide +kernel
theorem dX9_keepAside_3 : decode cX9_keepAside 3 = .ok (.bipush 95, 2) := by decide +kernel
theorem dX9_keepAside_5 : decode cX9_keepAside 5 = .ok (.if_icmp .ge 21, 3) := by decide +kernel
theorem dX9_keepAside_8 : decode cX9_keepAside 8 = .ok (.aload_n 0, 1) := by decide +kernel
theorem dX9_keepAside_9 : decode cX9_keepAside 9 = .ok (.getfield 65, 3) := by decide +kernel
theorem dX9_keepAside_12 : decode cX9_keepAside 12 = .ok (.iload_n 1, 1) := by decide +kernel
theorem dX9_keepAside_13 : decode cX9_keepAside 13 = .ok (.aload_n 0, 1) := by decide +kernel
theorem dX9_keepAside_14 : decode cX9_keepAside 14 = .ok (.getfield 17, 3) := by decide +kernel
theorem dX9_keepAside_17 : decode cX9_keepAside 17 = .ok (.iload_n 1, 1) := by decide +kernel
theorem dX9_keepAside_18 : decode cX9_keepAside 18 = .ok (.iaload, 1) := by decide +kernel
theorem dX9_keepAside_19 : decode cX9_keepAside 19 = .ok (.iastore, 1) := by decide +kernel
theorem dX9_keepAside_20 : decode cX9_keepAside 20 = .ok (.iinc 1 1, 3) := by decide +kernel
theorem dX9_keepAside_23 : decode cX9_keepAside 23 = .ok (.goto (-21), 3) := by decide +kernel
theorem dX9_keepAside_26 : decode cX9_keepAside 26 = .ok (.return_, 1) := by decide +kernel
theorem dX9_layBack_0 : decode cX9_layBack 0 = .ok (.iconst 0, 1) := by decide +kernel
theorem dX9_layBack_1 : decode cX9_layBack 1 = .ok (.istore_n 1, 1) := by decide +kernel
theorem dX9_layBack_2 : decode cX9_layBack 2 = .ok (.iload_n 1, 1) := by decide +kernel
theorem dX9_layBack_3 : decode cX9_layBack 3 = .ok (.bipush 95, 2) := by decide +kernel
theorem dX9_layBack_5 : decode cX9_layBack 5 = .ok (.if_icmp .ge 21, 3) := by decide +kernel
theorem dX9_layBack_8 : decode cX9_layBack 8 = .ok (.aload_n 0, 1) := by decide +kernel
theorem dX9_layBack_9 : decode cX9_layBack 9 = .ok (.getfield 17, 3) := by decide +kernel
theorem dX9_layBack_12 : decode cX9_layBack 12 = .ok (.iload_n 1, 1) := by decide +kernel
theorem dX9_layBack_13 : decode cX9_layBack 13 = .ok (.aload_n 0, 1) := by decide +kernel
theorem dX9_layBack_14 : decode cX9_layBack 14 = .ok (.getfield 65, 3) := by decide +kernel
theorem dX9_layBack_17 : decode cX9_layBack 17 = .ok (.iload_n 1, 1) := by decide +kernel
theorem dX9_layBack_18 : decode cX9_layBack 18 = .ok (.iaload, 1) := by decide +kernel
theorem dX9_layBack_19 : decode cX9_layBack 19 = .ok (.iastore, 1) := by decide +kernel
theorem dX9_layBack_20 : decode cX9_layBack 20 = .ok (.iinc 1 1, 3) := by decide +kernel
theorem dX9_layBack_23 : decode cX9_layBack 23 = .ok (.goto (-21), 3) := by decide +kernel
theorem dX9_layBack_26 : decode cX9_layBack 26 = .ok (.return_, 1) := by decide +kernel
set_option maxRecDepth 20000 in
set_option maxRecDepth 100000 in
theorem ggX9_endIf_X9_isShot : GoodIn wsX9_endIf wsX9_isShot := goodIn_r _ [6, 7, 8, 9, 5, 10, 11, 12, 13, 14, 121, 122, 123, 124, 125, 126, 127, 128, 129, 130, 131, 132, 133, 134, 135, 136, 137, 138, 139, 140, 141, 142, 143, 144, 145, 146, 147, 148, 149, 150, 151, 152, 153, 154, 155, 156, 157, 158, 159, 160, 161] rfl (by decide +kernel)
set_option maxRecDepth 20000 in
theorem gX9_endIf_X9_isShot : GoodIn wsX9_endIf (wsV RX9 336 RX9 yX9_isShot wsX9_isShot) := goodIn_app (goodIn_of _ (by decide +kernel)) ggX9_endIf_X9_isShot
set_option maxRecDepth 20000 in
set_option maxRecDepth 100000 in
theorem ggX9_endIf_X9_isLayer : GoodIn wsX9_endIf wsX9_isLayer := goodIn_r _ [18, 19, 20, 21, 5, 22, 11, 12, 13, 14, 121, 122, 123, 124, 125, 126, 127, 128, 129, 130, 131, 132, 133, 134, 135, 136, 137, 138, 139, 140, 141, 142, 143, 144, 145, 146, 147, 148, 149, 150, 151, 152, 153, 154, 155, 156, 157, 158, 159, 160, 161] rfl (by decide +kernel)
set_option maxRecDepth 20000 in
theorem gX9_endIf_X9_isLayer : GoodIn wsX9_endIf (wsV RX9 140 RX9 yX9_isLayer wsX9_isLayer) := goodIn_app (goodIn_of _ (by decide +kernel)) ggX9_endIf_X9_isLayer
set_option maxRecDepth 20000 in
set_option maxRecDepth 100000 in
theorem ggX9_endIf_X9_isIndex : GoodIn wsX9_endIf wsX9_isIndex := goodIn_r _ [25, 26, 27, 12, 13, 5, 14] rfl (by decide +kernel)
set_option maxRecDepth 20000 in
theorem gX9_endIf_X9_isIndex : GoodIn wsX9_endIf (va_wsS RX9 413 yX9_isIndex wsX9_isIndex) := goodIn_app (goodIn_of _ (by decide +kernel)) ggX9_endIf_X9_isIndex
set_option maxRecDepth 20000 in
set_option maxRecDepth 100000 in
theorem ggX9_endIf_X9_passes2 : GoodIn wsX9_endIf wsX9_passes2 := goodIn_r _ [31, 32, 33, 34, 5, 35, 36, 121, 122, 123, 124, 125, 126, 127, 128, 129, 130, 131, 132, 133, 134, 135, 136, 137, 138, 139, 140, 141, 142, 143, 144, 145, 146, 147, 148, 149, 150, 151, 152, 153, 154, 155, 156, 157, 158, 159, 160, 161] rfl (by decide +kernel)
set_option maxRecDepth 20000 in
theorem gX9_endIf_X9_passes2 : GoodIn wsX9_endIf (wsV RX9 332 RX9 yX9_passes2 wsX9_passes2) := goodIn_app (goodIn_of _ (by decide +kernel)) ggX9_endIf_X9_passes2
set_option maxRecDepth 20000 in
set_option maxRecDepth 100000 in
theorem ggX9_endIf_X9_keepAside : GoodIn wsX9_endIf wsX9_keepAside := goodIn_r _ [40, 41, 1, 121, 122, 123, 124, 125, 126, 127, 128, 129, 130, 131, 132, 133, 134, 135, 136, 137, 138, 139, 140, 141, 142, 143, 144, 145, 146, 147, 148, 149, 150, 151, 152, 153, 154, 155, 156, 157, 158, 159, 160, 161] rfl (by decide +kernel)
set_option maxRecDepth 20000 in
theorem gX9_endIf_X9_keepAside : GoodIn wsX9_endIf (wsV RX9 416 RX9 yX9_keepAside wsX9_keepAside) := goodIn_app (goodIn_of _ (by decide +kernel)) ggX9_endIf_X9_keepAside
set_option maxRecDepth 20000 in
set_option maxRecDepth 100000 in
theorem ggX9_endIf_X9_endOfShot : GoodIn wsX9_endIf wsX9_endOfShot := goodIn_r _ [45, 46, 47, 48, 49, 5, 50, 51, 52, 53, 54, 11, 55, 56, 57, 58, 59, 60, 61, 62, 63, 64, 65, 66, 15, 16, 17, 18, 19, 20, 21, 22, 12, 13, 14, 67, 68, 69, 70, 71, 72, 73, 74, 75, 76, 77, 78, 79, 80, 81, 82, 83, 26, 84, 85, 86, 87, 88, 89, 90, 91, 92, 93, 94, 95, 96, 97, 98, 99, 100, 101, 102, 103, 104, 105, 106, 107, 108, 109, 110, 111, 112, 113, 114, 115, 116, 121, 122, 123, 124, 125, 126, 127, 128, 129, 130, 131, 132, 133, 134, 135, 136, 137, 138, 139, 140, 141, 142, 143, 144, 145, 146, 147, 148, 149, 150, 151, 152, 153, 154, 155, 156, 157, 158, 159, 160, 161] rfl (by decide +kernel)
set_option maxRecDepth 20000 in
theorem gX9_endIf_X9_endOfShot : GoodIn wsX9_endIf (wsV RX9 390 RX9 yX9_endOfShot wsX9_endOfShot) := goodIn_app (goodIn_of _ (by decide +kernel)) ggX9_endIf_X9_endOfShot
set_option maxRecDepth 20000 in
set_option maxRecDepth 100000 in
theorem ggX9_endIf_X9_layBack : GoodIn wsX9_endIf wsX9_layBack := goodIn_r _ [120, 1, 41, 121, 122, 123, 124, 125, 126, 127, 128, 129, 130, 131, 132, 133, 134, 135, 136, 137, 138, 139, 140, 141, 142, 143, 144, 145, 146, 147, 148, 149, 150, 151, 152, 153, 154, 155, 156, 157, 158, 159, 160, 161] rfl (by decide +kernel)
set_option maxRecDepth 20000 in
theorem gX9_endIf_X9_layBack : GoodIn wsX9_endIf (wsV RX9 419 RX9 yX9_layBack wsX9_layBack) := goodIn_app (goodIn_of _ (by decide +kernel)) ggX9_endIf_X9_layBack
theorem dX9_endIf_0 : decode cX9_endIf 0 = .ok (.aload_n 0, 1) := by decide +kernel
theorem dX9_endIf_1 : decode cX9_endIf 1 = .ok (.aload_n 0, 1) := by decide +kernel
theorem dX9_endIf_2 : decode cX9_endIf 2 = .ok (.iload_n 1, 1) := by decide +kernel
theorem dX9_endIf_3 : decode cX9_endIf 3 = .ok (.invokevirtual 336, 3) := by decide +kernel
theorem dX9_endIf_6 : decode cX9_endIf 6 = .ok (.ifCond .eq 15, 3) := by decide +kernel
theorem dX9_endIf_9 : decode cX9_endIf 9 = .ok (.aload_n 0, 1) := by decide +kernel
theorem dX9_endIf_10 : decode cX9_endIf 10 = .ok (.iload_n 2, 1) := by decide +kernel
theorem dX9_endIf_11 : decode cX9_endIf 11 = .ok (.invokevirtual 140, 3) := by decide +kernel
theorem dX9_endIf_14 : decode cX9_endIf 14 = .ok (.ifCond .eq 7, 3) := by decide +kernel
theorem dX9_endIf_17 : decode cX9_endIf 17 = .ok (.iconst 1, 1) := by decide +kernel
theorem dX9_endIf_18 : decode cX9_endIf 18 = .ok (.goto 4, 3) := by decide +kernel
theorem dX9_endIf_21 : decode cX9_endIf 21 = .ok (.iconst 0, 1) := by decide +kernel
theorem dX9_endIf_22 : decode cX9_endIf 22 = .ok (.iload_n 3, 1) := by decide +kernel
theorem dX9_endIf_23 : decode cX9_endIf 23 = .ok (.invokestatic 413, 3) := by decide +kernel
theorem dX9_endIf_26 : decode cX9_endIf 26 = .ok (.invokevirtual 332, 3) := by decide +kernel
theorem dX9_endIf_29 : decode cX9_endIf 29 = .ok (.ifCond .ne 5, 3) := by decide +kernel
theorem dX9_endIf_32 : decode cX9_endIf 32 = .ok (.iconst 0, 1) := by decide +kernel
theorem dX9_endIf_33 : decode cX9_endIf 33 = .ok (.ireturn, 1) := by decide +kernel
theorem dX9_endIf_34 : decode cX9_endIf 34 = .ok (.aload_n 0, 1) := by decide +kernel
theorem dX9_endIf_35 : decode cX9_endIf 35 = .ok (.invokevirtual 416, 3) := by decide +kernel
theorem dX9_endIf_38 : decode cX9_endIf 38 = .ok (.aload_n 0, 1) := by decide +kernel
theorem dX9_endIf_39 : decode cX9_endIf 39 = .ok (.getfield 17, 3) := by decide +kernel
theorem dX9_endIf_42 : decode cX9_endIf 42 = .ok (.iconst 5, 1) := by decide +kernel
theorem dX9_endIf_43 : decode cX9_endIf 43 = .ok (.iconst 3, 1) := by decide +kernel
theorem dX9_endIf_44 : decode cX9_endIf 44 = .ok (.iload_n 2, 1) := by decide +kernel
theorem dX9_endIf_45 : decode cX9_endIf 45 = .ok (.imul, 1) := by decide +kernel
theorem dX9_endIf_46 : decode cX9_endIf 46 = .ok (.iadd, 1) := by decide +kernel
theorem dX9_endIf_47 : decode cX9_endIf 47 = .ok (.iconst 0, 1) := by decide +kernel
theorem dX9_endIf_48 : decode cX9_endIf 48 = .ok (.iadd, 1) := by decide +kernel
theorem dX9_endIf_49 : decode cX9_endIf 49 = .ok (.iload_n 3, 1) := by decide +kernel
theorem dX9_endIf_50 : decode cX9_endIf 50 = .ok (.iastore, 1) := by decide +kernel
theorem dX9_endIf_51 : decode cX9_endIf 51 = .ok (.aload_n 0, 1) := by decide +kernel
theorem dX9_endIf_52 : decode cX9_endIf 52 = .ok (.iload_n 1, 1) := by decide +kernel
theorem dX9_endIf_53 : decode cX9_endIf 53 = .ok (.invokevirtual 390, 3) := by decide +kernel
theorem dX9_endIf_56 : decode cX9_endIf 56 = .ok (.istore 4, 2) := by decide +kernel
theorem dX9_endIf_58 : decode cX9_endIf 58 = .ok (.aload_n 0, 1) := by decide +kernel
theorem dX9_endIf_59 : decode cX9_endIf 59 = .ok (.invokevirtual 419, 3) := by decide +kernel
theorem dX9_endIf_62 : decode cX9_endIf 62 = .ok (.iload 4, 2) := by decide +kernel
theorem dX9_endIf_64 : decode cX9_endIf 64 = .ok (.ireturn, 1) := by decide +kernel
set_option maxRecDepth 20000 in
set_option maxRecDepth 100000 in
theorem ggX9_bestWithout_X9_isShot : GoodIn wsX9_bestWithout wsX9_isShot := goodIn_r _ [11, 12, 13, 14, 10, 15, 16, 17, 18, 19, 122, 123, 124, 125, 126, 127, 128, 129, 130, 131, 132, 133, 134, 135, 136, 137, 138, 139, 140, 141, 142, 143, 144, 145, 146, 147, 148, 149, 150, 151, 152, 153, 154, 155, 156, 157, 158, 159, 160, 161, 162] rfl (by decide +kernel)
set_option maxRecDepth 20000 in
theorem gX9_bestWithout_X9_isShot : GoodIn wsX9_bestWithout (wsV RX9 336 RX9 yX9_isShot wsX9_isShot) := goodIn_app (goodIn_of _ (by decide +kernel)) ggX9_bestWithout_X9_isShot
set_option maxRecDepth 20000 in
set_option maxRecDepth 100000 in
theorem ggX9_bestWithout_X9_passes : GoodIn wsX9_bestWithout wsX9_passes := goodIn_r _ [23, 24, 25, 26, 10, 27, 28, 122, 123, 124, 125, 126, 127, 128, 129, 130, 131, 132, 133, 134, 135, 136, 137, 138, 139, 140, 141, 142, 143, 144, 145, 146, 147, 148, 149, 150, 151, 152, 153, 154, 155, 156, 157, 158, 159, 160, 161, 162] rfl (by decide +kernel)
set_option maxRecDepth 20000 in
theorem gX9_bestWithout_X9_passes : GoodIn wsX9_bestWithout (wsV RX9 193 RX9 yX9_passes wsX9_passes) := goodIn_app (goodIn_of _ (by decide +kernel)) ggX9_bestWithout_X9_passes
set_option maxRecDepth 20000 in
set_option maxRecDepth 100000 in
theorem ggX9_bestWithout_X9_layers : GoodIn wsX9_bestWithout wsX9_layers := goodIn_r _ [32, 16, 122, 123, 124, 125, 126, 127, 128, 129, 130, 131, 132, 133, 134, 135, 136, 137, 138, 139, 140, 141, 142, 143, 144, 145, 146, 147, 148, 149, 150, 151, 152, 153, 154, 155, 156, 157, 158, 159, 160, 161, 162] rfl (by decide +kernel)
set_option maxRecDepth 20000 in
theorem gX9_bestWithout_X9_layers : GoodIn wsX9_bestWithout (wsV RX9 90 RX9 yX9_layers wsX9_layers) := goodIn_app (goodIn_of _ (by decide +kernel)) ggX9_bestWithout_X9_layers
set_option maxRecDepth 20000 in
set_option maxRecDepth 100000 in
theorem ggX9_bestWithout_X9_keepAside : GoodIn wsX9_bestWithout wsX9_keepAside := goodIn_r _ [36, 37, 38, 122, 123, 124, 125, 126, 127, 128, 129, 130, 131, 132, 133, 134, 135, 136, 137, 138, 139, 140, 141, 142, 143, 144, 145, 146, 147, 148, 149, 150, 151, 152, 153, 154, 155, 156, 157, 158, 159, 160, 161, 162] rfl (by decide +kernel)
set_option maxRecDepth 20000 in
theorem gX9_bestWithout_X9_keepAside : GoodIn wsX9_bestWithout (wsV RX9 416 RX9 yX9_keepAside wsX9_keepAside) := goodIn_app (goodIn_of _ (by decide +kernel)) ggX9_bestWithout_X9_keepAside
set_option maxRecDepth 20000 in
set_option maxRecDepth 100000 in
theorem ggX9_bestWithout_X9_removeOne : GoodIn wsX9_bestWithout wsX9_removeOne := goodIn_r _ [42, 16, 29, 30, 31, 10, 32, 43, 44, 45, 46, 122, 123, 124, 125, 126, 127, 128, 129, 130, 131, 132, 133, 134, 135, 136, 137, 138, 139, 140, 141, 142, 143, 144, 145, 146, 147, 148, 149, 150, 151, 152, 153, 154, 155, 156, 157, 158, 159, 160, 161, 162] rfl (by decide +kernel)
set_option maxRecDepth 20000 in
theorem gX9_bestWithout_X9_removeOne : GoodIn wsX9_bestWithout (wsV RX9 422 RX9 yX9_removeOne wsX9_removeOne) := goodIn_app (goodIn_of _ (by decide +kernel)) ggX9_bestWithout_X9_removeOne
set_option maxRecDepth 20000 in
set_option maxRecDepth 100000 in
theorem ggX9_bestWithout_X9_followShot : GoodIn wsX9_bestWithout wsX9_followShot := goodIn_r _ [50, 51, 52, 53, 10, 54, 16, 55, 56, 57, 58, 59, 60, 61, 2, 62, 63, 64, 65, 66, 67, 68, 69, 70, 29, 30, 31, 32, 17, 18, 19, 71, 72, 73, 74, 75, 76, 77, 78, 3, 4, 5, 6, 79, 80, 81, 82, 83, 84, 85, 86, 87, 88, 89, 90, 91, 92, 93, 94, 95, 96, 97, 98, 99, 100, 101, 102, 103, 104, 105, 106, 107, 108, 109, 110, 111, 112, 113, 114, 115, 116, 117, 122, 123, 124, 125, 126, 127, 128, 129, 130, 131, 132, 133, 134, 135, 136, 137, 138, 139, 140, 141, 142, 143, 144, 145, 146, 147, 148, 149, 150, 151, 152, 153, 154, 155, 156, 157, 158, 159, 160, 161, 162] rfl (by decide +kernel)
set_option maxRecDepth 20000 in
theorem gX9_bestWithout_X9_followShot : GoodIn wsX9_bestWithout (wsV RX9 185 RX9 yX9_followShot wsX9_followShot) := goodIn_app (goodIn_of _ (by decide +kernel)) ggX9_bestWithout_X9_followShot
set_option maxRecDepth 20000 in
set_option maxRecDepth 100000 in
theorem ggX9_bestWithout_X9_layBack : GoodIn wsX9_bestWithout wsX9_layBack := goodIn_r _ [121, 38, 37, 122, 123, 124, 125, 126, 127, 128, 129, 130, 131, 132, 133, 134, 135, 136, 137, 138, 139, 140, 141, 142, 143, 144, 145, 146, 147, 148, 149, 150, 151, 152, 153, 154, 155, 156, 157, 158, 159, 160, 161, 162] rfl (by decide +kernel)
set_option maxRecDepth 20000 in
theorem gX9_bestWithout_X9_layBack : GoodIn wsX9_bestWithout (wsV RX9 419 RX9 yX9_layBack wsX9_layBack) := goodIn_app (goodIn_of _ (by decide +kernel)) ggX9_bestWithout_X9_layBack
theorem dX9_bestWithout_0 : decode cX9_bestWithout 0 = .ok (.aload_n 0, 1) := by decide +kernel
theorem dX9_bestWithout_1 : decode cX9_bestWithout 1 = .ok (.aload_n 0, 1) := by decide +kernel
theorem dX9_bestWithout_2 : decode cX9_bestWithout 2 = .ok (.iload_n 1, 1) := by decide +kernel
theorem dX9_bestWithout_3 : decode cX9_bestWithout 3 = .ok (.invokevirtual 336, 3) := by decide +kernel
theorem dX9_bestWithout_6 : decode cX9_bestWithout 6 = .ok (.invokevirtual 193, 3) := by decide +kernel
theorem dX9_bestWithout_9 : decode cX9_bestWithout 9 = .ok (.ifCond .ne 5, 3) := by decide +kernel
theorem dX9_bestWithout_12 : decode cX9_bestWithout 12 = .ok (.iconst 0, 1) := by decide +kernel
theorem dX9_bestWithout_13 : decode cX9_bestWithout 13 = .ok (.ireturn, 1) := by decide +kernel
theorem dX9_bestWithout_14 : decode cX9_bestWithout 14 = .ok (.iconst (-1), 1) := by decide +kernel
theorem dX9_bestWithout_15 : decode cX9_bestWithout 15 = .ok (.istore_n 2, 1) := by decide +kernel
theorem dX9_bestWithout_16 : decode cX9_bestWithout 16 = .ok (.ldc2_w 386, 3) := by decide +kernel
theorem dX9_bestWithout_19 : decode cX9_bestWithout 19 = .ok (.lstore_n 3, 1) := by decide +kernel
theorem dX9_bestWithout_20 : decode cX9_bestWithout 20 = .ok (.aload_n 0, 1) := by decide +kernel
theorem dX9_bestWithout_21 : decode cX9_bestWithout 21 = .ok (.invokevirtual 90, 3) := by decide +kernel
theorem dX9_bestWithout_24 : decode cX9_bestWithout 24 = .ok (.istore 5, 2) := by decide +kernel
theorem dX9_bestWithout_26 : decode cX9_bestWithout 26 = .ok (.iconst 0, 1) := by decide +kernel
theorem dX9_bestWithout_27 : decode cX9_bestWithout 27 = .ok (.istore 6, 2) := by decide +kernel
theorem dX9_bestWithout_29 : decode cX9_bestWithout 29 = .ok (.iload 6, 2) := by decide +kernel
theorem dX9_bestWithout_31 : decode cX9_bestWithout 31 = .ok (.iload 5, 2) := by decide +kernel
theorem dX9_bestWithout_33 : decode cX9_bestWithout 33 = .ok (.if_icmp .ge 59, 3) := by decide +kernel
theorem dX9_bestWithout_36 : decode cX9_bestWithout 36 = .ok (.iload 5, 2) := by decide +kernel
theorem dX9_bestWithout_38 : decode cX9_bestWithout 38 = .ok (.iconst 1, 1) := by decide +kernel
theorem dX9_bestWithout_39 : decode cX9_bestWithout 39 = .ok (.if_icmp .le 53, 3) := by decide +kernel
theorem dX9_bestWithout_42 : decode cX9_bestWithout 42 = .ok (.aload_n 0, 1) := by decide +kernel
theorem dX9_bestWithout_43 : decode cX9_bestWithout 43 = .ok (.invokevirtual 416, 3) := by decide +kernel
theorem dX9_bestWithout_46 : decode cX9_bestWithout 46 = .ok (.aload_n 0, 1) := by decide +kernel
theorem dX9_bestWithout_47 : decode cX9_bestWithout 47 = .ok (.iload 6, 2) := by decide +kernel
theorem dX9_bestWithout_49 : decode cX9_bestWithout 49 = .ok (.invokevirtual 422, 3) := by decide +kernel
theorem dX9_bestWithout_52 : decode cX9_bestWithout 52 = .ok (.aload_n 0, 1) := by decide +kernel
theorem dX9_bestWithout_53 : decode cX9_bestWithout 53 = .ok (.iload_n 1, 1) := by decide +kernel
theorem dX9_bestWithout_54 : decode cX9_bestWithout 54 = .ok (.invokevirtual 185, 3) := by decide +kernel
theorem dX9_bestWithout_57 : decode cX9_bestWithout 57 = .ok (.aload_n 0, 1) := by decide +kernel
theorem dX9_bestWithout_58 : decode cX9_bestWithout 58 = .ok (.invokevirtual 419, 3) := by decide +kernel
theorem dX9_bestWithout_61 : decode cX9_bestWithout 61 = .ok (.aload_n 0, 1) := by decide +kernel
theorem dX9_bestWithout_62 : decode cX9_bestWithout 62 = .ok (.getfield 119, 3) := by decide +kernel
theorem dX9_bestWithout_65 : decode cX9_bestWithout 65 = .ok (.lload_n 3, 1) := by decide +kernel
theorem dX9_bestWithout_66 : decode cX9_bestWithout 66 = .ok (.lcmp, 1) := by decide +kernel
theorem dX9_bestWithout_67 : decode cX9_bestWithout 67 = .ok (.ifCond .le 8, 3) := by decide +kernel
theorem dX9_bestWithout_70 : decode cX9_bestWithout 70 = .ok (.iload 6, 2) := by decide +kernel
theorem dX9_bestWithout_72 : decode cX9_bestWithout 72 = .ok (.goto 4, 3) := by decide +kernel
theorem dX9_bestWithout_75 : decode cX9_bestWithout 75 = .ok (.iload_n 2, 1) := by decide +kernel
theorem dX9_bestWithout_76 : decode cX9_bestWithout 76 = .ok (.istore_n 2, 1) := by decide +kernel
theorem dX9_bestWithout_77 : decode cX9_bestWithout 77 = .ok (.lload_n 3, 1) := by decide +kernel
theorem dX9_bestWithout_78 : decode cX9_bestWithout 78 = .ok (.aload_n 0, 1) := by decide +kernel
theorem dX9_bestWithout_79 : decode cX9_bestWithout 79 = .ok (.getfield 119, 3) := by decide +kernel
theorem dX9_bestWithout_82 : decode cX9_bestWithout 82 = .ok (.invokestatic 125, 3) := by decide +kernel
theorem dX9_bestWithout_85 : decode cX9_bestWithout 85 = .ok (.lstore_n 3, 1) := by decide +kernel
theorem dX9_bestWithout_86 : decode cX9_bestWithout 86 = .ok (.iinc 6 1, 3) := by decide +kernel
theorem dX9_bestWithout_89 : decode cX9_bestWithout 89 = .ok (.goto (-60), 3) := by decide +kernel
theorem dX9_bestWithout_92 : decode cX9_bestWithout 92 = .ok (.iload_n 2, 1) := by decide +kernel
theorem dX9_bestWithout_93 : decode cX9_bestWithout 93 = .ok (.ireturn, 1) := by decide +kernel
set_option maxRecDepth 20000 in
set_option maxRecDepth 100000 in
theorem ggX9_isThickness_X9_in : GoodIn wsX9_isThickness wsX9_in := goodIn_r _ [5] rfl (by decide +kernel)
set_option maxRecDepth 20000 in
theorem gX9_isThickness_X9_in : GoodIn wsX9_isThickness (va_wsS RX9 94 yX9_in wsX9_in) := goodIn_app (goodIn_of _ (by decide +kernel)) ggX9_isThickness_X9_in
theorem dX9_isThickness_0 : decode cX9_isThickness 0 = .ok (.iload_n 0, 1) := by decide +kernel
theorem dX9_isThickness_1 : decode cX9_isThickness 1 = .ok (.i2l, 1) := by decide +kernel
theorem dX9_isThickness_2 : decode cX9_isThickness 2 = .ok (.lconst 1, 1) := by decide +kernel
theorem dX9_isThickness_3 : decode cX9_isThickness 3 = .ok (.ldc2_w 425, 3) := by decide +kernel
theorem dX9_isThickness_6 : decode cX9_isThickness 6 = .ok (.invokestatic 94, 3) := by decide +kernel
theorem dX9_isThickness_9 : decode cX9_isThickness 9 = .ok (.ireturn, 1) := by decide +kernel
set_option maxRecDepth 20000 in
set_option maxRecDepth 100000 in
theorem ggX9_isLoss_X9_in : GoodIn wsX9_isLoss wsX9_in := goodIn_r _ [5] rfl (by decide +kernel)
set_option maxRecDepth 20000 in
theorem gX9_isLoss_X9_in : GoodIn wsX9_isLoss (va_wsS RX9 94 yX9_in wsX9_in) := goodIn_app (goodIn_of _ (by decide +kernel)) ggX9_isLoss_X9_in
theorem dX9_isLoss_0 : decode cX9_isLoss 0 = .ok (.iload_n 0, 1) := by decide +kernel
theorem dX9_isLoss_1 : decode cX9_isLoss 1 = .ok (.i2l, 1) := by decide +kernel
theorem dX9_isLoss_2 : decode cX9_isLoss 2 = .ok (.lconst 0, 1) := by decide +kernel
theorem dX9_isLoss_3 : decode cX9_isLoss 3 = .ok (.ldc2_w 427, 3) := by decide +kernel
theorem dX9_isLoss_6 : decode cX9_isLoss 6 = .ok (.invokestatic 94, 3) := by decide +kernel
theorem dX9_isLoss_9 : decode cX9_isLoss 9 = .ok (.ireturn, 1) := by decide +kernel
set_option maxRecDepth 20000 in
set_option maxRecDepth 100000 in
theorem ggX9_addLayer_X9_layers : GoodIn wsX9_addLayer wsX9_layers := goodIn_r _ [5, 6, 43, 44, 45, 46, 47, 48, 49, 50, 51, 52, 53, 54, 55, 56, 57, 58, 59, 60, 61, 62, 63, 64, 65, 66, 67, 68, 69, 70, 71, 72, 73, 74, 75, 76, 77, 78, 79, 80, 81, 82, 83] rfl (by decide +kernel)
set_option maxRecDepth 20000 in
theorem gX9_addLayer_X9_layers : GoodIn wsX9_addLayer (wsV RX9 90 RX9 yX9_layers wsX9_layers) := goodIn_app (goodIn_of _ (by decide +kernel)) ggX9_addLayer_X9_layers
set_option maxRecDepth 20000 in
set_option maxRecDepth 100000 in
theorem ggX9_addLayer_X9_in : GoodIn wsX9_addLayer wsX9_in := goodIn_r _ [9] rfl (by decide +kernel)
set_option maxRecDepth 20000 in
theorem gX9_addLayer_X9_in : GoodIn wsX9_addLayer (va_wsS RX9 94 yX9_in wsX9_in) := goodIn_app (goodIn_of _ (by decide +kernel)) ggX9_addLayer_X9_in
set_option maxRecDepth 20000 in
set_option maxRecDepth 100000 in
theorem ggX9_addLayer_X9_isIndex : GoodIn wsX9_addLayer wsX9_isIndex := goodIn_r _ [12, 13, 14, 7, 8, 4, 9] rfl (by decide +kernel)
set_option maxRecDepth 20000 in
theorem gX9_addLayer_X9_isIndex : GoodIn wsX9_addLayer (va_wsS RX9 413 yX9_isIndex wsX9_isIndex) := goodIn_app (goodIn_of _ (by decide +kernel)) ggX9_addLayer_X9_isIndex
set_option maxRecDepth 20000 in
set_option maxRecDepth 100000 in
theorem ggX9_addLayer_X9_isThickness : GoodIn wsX9_addLayer wsX9_isThickness := goodIn_r _ [17, 18, 7, 8, 4, 9] rfl (by decide +kernel)
set_option maxRecDepth 20000 in
theorem gX9_addLayer_X9_isThickness : GoodIn wsX9_addLayer (va_wsS RX9 429 yX9_isThickness wsX9_isThickness) := goodIn_app (goodIn_of _ (by decide +kernel)) ggX9_addLayer_X9_isThickness
set_option maxRecDepth 20000 in
set_option maxRecDepth 100000 in
theorem ggX9_addLayer_X9_isLoss : GoodIn wsX9_addLayer wsX9_isLoss := goodIn_r _ [21, 22, 7, 8, 4, 9] rfl (by decide +kernel)
set_option maxRecDepth 20000 in
theorem gX9_addLayer_X9_isLoss : GoodIn wsX9_addLayer (va_wsS RX9 432 yX9_isLoss wsX9_isLoss) := goodIn_app (goodIn_of _ (by decide +kernel)) ggX9_addLayer_X9_isLoss
set_option maxRecDepth 20000 in
set_option maxRecDepth 100000 in
theorem ggX9_addLayer_X9_passes3 : GoodIn wsX9_addLayer wsX9_passes3 := goodIn_r _ [26, 27, 43, 44, 45, 46, 47, 48, 49, 50, 51, 52, 53, 54, 55, 56, 57, 58, 59, 60, 61, 62, 63, 64, 65, 66, 67, 68, 69, 70, 71, 72, 73, 74, 75, 76, 77, 78, 79, 80, 81, 82, 83] rfl (by decide +kernel)
set_option maxRecDepth 20000 in
theorem gX9_addLayer_X9_passes3 : GoodIn wsX9_addLayer (wsV RX9 7 RX9 yX9_passes3 wsX9_passes3) := goodIn_app (goodIn_of _ (by decide +kernel)) ggX9_addLayer_X9_passes3
set_option maxRecDepth 20000 in
set_option maxRecDepth 100000 in
theorem ggX9_addLayer_X9_remember : GoodIn wsX9_addLayer wsX9_remember := goodIn_r _ [31, 32, 33, 34, 43, 44, 45, 46, 47, 48, 49, 50, 51, 52, 53, 54, 55, 56, 57, 58, 59, 60, 61, 62, 63, 64, 65, 66, 67, 68, 69, 70, 71, 72, 73, 74, 75, 76, 77, 78, 79, 80, 81, 82, 83] rfl (by decide +kernel)
set_option maxRecDepth 20000 in
theorem gX9_addLayer_X9_remember : GoodIn wsX9_addLayer (wsV RX9 322 RX9 yX9_remember wsX9_remember) := goodIn_app (goodIn_of _ (by decide +kernel)) ggX9_addLayer_X9_remember
set_option maxRecDepth 20000 in
set_option maxRecDepth 100000 in
theorem ggX9_addLayer_X9_addOne : GoodIn wsX9_addLayer wsX9_addOne := goodIn_r _ [38, 6, 1, 2, 3, 4, 5, 39, 40, 41, 42, 43, 44, 45, 46, 47, 48, 49, 50, 51, 52, 53, 54, 55, 56, 57, 58, 59, 60, 61, 62, 63, 64, 65, 66, 67, 68, 69, 70, 71, 72, 73, 74, 75, 76, 77, 78, 79, 80, 81, 82, 83] rfl (by decide +kernel)
set_option maxRecDepth 20000 in
theorem gX9_addLayer_X9_addOne : GoodIn wsX9_addLayer (wsV RX9 86 RX9 yX9_addOne wsX9_addOne) := goodIn_app (goodIn_of _ (by decide +kernel)) ggX9_addLayer_X9_addOne
