set_option maxRecDepth 20000 in
set_option maxRecDepth 100000 in
theorem ggX8_fastest_X6_findBest : GoodIn wsX8_fastest wsX6_findBest := goodIn_r _ [31, 32, 33, 34, 35, 36, 37, 38, 39, 40, 30, 41, 42, 43, 44, 45, 46, 47, 48, 49, 50, 51, 52, 53, 54, 55, 56, 57, 58, 59, 60, 61, 62, 63, 64, 65, 66, 19, 67, 68, 69, 6, 70, 71, 72, 73, 74, 75, 76, 77, 78, 79, 80, 81, 82, 83, 84, 85, 86, 87, 88, 89, 90, 91, 92, 93, 94, 95, 96, 97, 98, 99, 100, 101, 102, 103, 104, 105, 106, 17, 18, 20, 21, 107, 108, 109, 110, 111, 112, 113, 114, 115, 116, 117, 118, 119, 120, 121, 122, 123, 124, 125, 126, 127, 128, 129, 130, 131, 132, 133, 134, 135, 136, 137, 138, 139, 140, 141, 142, 143, 144, 145, 146, 147, 148, 149, 150, 151, 152, 153, 154, 155, 156, 157, 158, 159, 160, 161, 162, 163, 164, 165, 166, 167, 168, 169, 170, 171, 172, 173, 174, 175, 176, 177, 178, 179, 180, 181, 182, 183, 184, 185, 186, 187, 188, 189, 190, 191, 192, 193, 194, 206, 207, 208, 209, 210, 211, 212, 213, 214, 215, 216, 224, 225, 226, 227, 228, 229, 230, 231, 232, 233, 234, 235, 236, 237, 238, 239, 240, 241, 217, 218, 219, 220, 221, 222, 223] rfl (by decide +kernel)
set_option maxRecDepth 20000 in
theorem gX8_fastest_X6_findBest : GoodIn wsX8_fastest (wsV RX8 246 RX6 yX6_findBest wsX6_findBest) := goodIn_app (goodIn_of _ (by decide +kernel)) ggX8_fastest_X6_findBest
theorem dX8_fastest_0 : decode cX8_fastest 0 = .ok (.aload_n 0, 1) := by decide +kernel
theorem dX8_fastest_1 : decode cX8_fastest 1 = .ok (.iload_n 1, 1) := by decide +kernel
theorem dX8_fastest_2 : decode cX8_fastest 2 = .ok (.iload_n 3, 1) := by decide +kernel
theorem dX8_fastest_3 : decode cX8_fastest 3 = .ok (.invokevirtual 230, 3) := by decide +kernel
theorem dX8_fastest_6 : decode cX8_fastest 6 = .ok (.aload_n 0, 1) := by decide +kernel
theorem dX8_fastest_7 : decode cX8_fastest 7 = .ok (.getfield 62, 3) := by decide +kernel
theorem dX8_fastest_10 : decode cX8_fastest 10 = .ok (.iload_n 1, 1) := by decide +kernel
theorem dX8_fastest_11 : decode cX8_fastest 11 = .ok (.iload_n 2, 1) := by decide +kernel
theorem dX8_fastest_12 : decode cX8_fastest 12 = .ok (.iload_n 3, 1) := by decide +kernel
theorem dX8_fastest_13 : decode cX8_fastest 13 = .ok (.iconst 0, 1) := by decide +kernel
theorem dX8_fastest_14 : decode cX8_fastest 14 = .ok (.invokevirtual 246, 3) := by decide +kernel
theorem dX8_fastest_17 : decode cX8_fastest 17 = .ok (.aload_n 0, 1) := by decide +kernel
theorem dX8_fastest_18 : decode cX8_fastest 18 = .ok (.getfield 62, 3) := by decide +kernel
theorem dX8_fastest_21 : decode cX8_fastest 21 = .ok (.getfield 250, 3) := by decide +kernel
theorem dX8_fastest_24 : decode cX8_fastest 24 = .ok (.ireturn, 1) := by decide +kernel
set_option maxRecDepth 20000 in
theorem ggX8_brightest_X8_checkLayerAndEnd : GoodIn wsX8_brightest wsX8_checkLayerAndEnd := goodIn_ca (goodIn_ca (goodIn_r _ [7, 8, 9, 10, 6, 11, 12, 13, 14, 15, 16, 17, 18, 19, 20, 21, 22, 23, 24, 25, 26, 195, 196, 197, 198, 199, 200, 201, 202, 203, 204, 205, 217, 218, 219, 220, 221, 222, 223] (by decide +kernel) (by decide +kernel)) (goodIn_sub (fun _ h => List.mem_cons_of_mem _ (List.mem_append_left _ (List.mem_append_right _ h))) (by decide +kernel))) (goodIn_sub (fun _ h => List.mem_cons_of_mem _ (List.mem_append_right _ h)) (by decide +kernel))
set_option maxRecDepth 20000 in
theorem gX8_brightest_X8_checkLayerAndEnd : GoodIn wsX8_brightest (wsV RX8 230 RX8 yX8_checkLayerAndEnd wsX8_checkLayerAndEnd) := goodIn_app (goodIn_of _ (by decide +kernel)) ggX8_brightest_X8_checkLayerAndEnd
set_option maxRecDepth 20000 in
set_option maxRecDepth 100000 in
theorem ggX8_brightest_X6_findBest : GoodIn wsX8_brightest wsX6_findBest := goodIn_r _ [31, 32, 33, 34, 35, 36, 37, 38, 39, 40, 30, 41, 42, 43, 44, 45, 46, 47, 48, 49, 50, 51, 52, 53, 54, 55, 56, 57, 58, 59, 60, 61, 62, 63, 64, 65, 66, 19, 67, 68, 69, 6, 70, 71, 72, 73, 74, 75, 76, 77, 78, 79, 80, 81, 82, 83, 84, 85, 86, 87, 88, 89, 90, 91, 92, 93, 94, 95, 96, 97, 98, 99, 100, 101, 102, 103, 104, 105, 106, 17, 18, 20, 21, 107, 108, 109, 110, 111, 112, 113, 114, 115, 116, 117, 118, 119, 120, 121, 122, 123, 124, 125, 126, 127, 128, 129, 130, 131, 132, 133, 134, 135, 136, 137, 138, 139, 140, 141, 142, 143, 144, 145, 146, 147, 148, 149, 150, 151, 152, 153, 154, 155, 156, 157, 158, 159, 160, 161, 162, 163, 164, 165, 166, 167, 168, 169, 170, 171, 172, 173, 174, 175, 176, 177, 178, 179, 180, 181, 182, 183, 184, 185, 186, 187, 188, 189, 190, 191, 192, 193, 194, 206, 207, 208, 209, 210, 211, 212, 213, 214, 215, 216, 224, 225, 226, 227, 228, 229, 230, 231, 232, 233, 234, 235, 236, 237, 238, 239, 240, 241, 217, 218, 219, 220, 221, 222, 223] rfl (by decide +kernel)
set_option maxRecDepth 20000 in
theorem gX8_brightest_X6_findBest : GoodIn wsX8_brightest (wsV RX8 246 RX6 yX6_findBest wsX6_findBest) := goodIn_app (goodIn_of _ (by decide +kernel)) ggX8_brightest_X6_findBest
theorem dX8_brightest_0 : decode cX8_brightest 0 = .ok (.aload_n 0, 1) := by decide +kernel
theorem dX8_brightest_1 : decode cX8_brightest 1 = .ok (.iload_n 1, 1) := by decide +kernel
theorem dX8_brightest_2 : decode cX8_brightest 2 = .ok (.iload_n 3, 1) := by decide +kernel
theorem dX8_brightest_3 : decode cX8_brightest 3 = .ok (.invokevirtual 230, 3) := by decide +kernel
theorem dX8_brightest_6 : decode cX8_brightest 6 = .ok (.aload_n 0, 1) := by decide +kernel
theorem dX8_brightest_7 : decode cX8_brightest 7 = .ok (.getfield 62, 3) := by decide +kernel
theorem dX8_brightest_10 : decode cX8_brightest 10 = .ok (.iload_n 1, 1) := by decide +kernel
theorem dX8_brightest_11 : decode cX8_brightest 11 = .ok (.iload_n 2, 1) := by decide +kernel
theorem dX8_brightest_12 : decode cX8_brightest 12 = .ok (.iload_n 3, 1) := by decide +kernel
theorem dX8_brightest_13 : decode cX8_brightest 13 = .ok (.iconst 1, 1) := by decide +kernel
theorem dX8_brightest_14 : decode cX8_brightest 14 = .ok (.invokevirtual 246, 3) := by decide +kernel
theorem dX8_brightest_17 : decode cX8_brightest 17 = .ok (.aload_n 0, 1) := by decide +kernel
theorem dX8_brightest_18 : decode cX8_brightest 18 = .ok (.getfield 62, 3) := by decide +kernel
theorem dX8_brightest_21 : decode cX8_brightest 21 = .ok (.getfield 250, 3) := by decide +kernel
theorem dX8_brightest_24 : decode cX8_brightest 24 = .ok (.ireturn, 1) := by decide +kernel
set_option maxRecDepth 20000 in
theorem ggX8_farthest_X8_checkLayerAndEnd : GoodIn wsX8_farthest wsX8_checkLayerAndEnd := goodIn_ca (goodIn_ca (goodIn_r _ [8, 9, 10, 11, 7, 12, 13, 14, 15, 16, 17, 18, 19, 20, 21, 22, 23, 24, 25, 26, 27, 196, 197, 198, 199, 200, 201, 202, 203, 204, 205, 206, 218, 219, 220, 221, 222, 223, 224] (by decide +kernel) (by decide +kernel)) (goodIn_sub (fun _ h => List.mem_cons_of_mem _ (List.mem_append_left _ (List.mem_append_right _ h))) (by decide +kernel))) (goodIn_sub (fun _ h => List.mem_cons_of_mem _ (List.mem_append_right _ h)) (by decide +kernel))
set_option maxRecDepth 20000 in
theorem gX8_farthest_X8_checkLayerAndEnd : GoodIn wsX8_farthest (wsV RX8 230 RX8 yX8_checkLayerAndEnd wsX8_checkLayerAndEnd) := goodIn_app (goodIn_of _ (by decide +kernel)) ggX8_farthest_X8_checkLayerAndEnd
set_option maxRecDepth 20000 in
set_option maxRecDepth 100000 in
theorem ggX8_farthest_X6_findBest : GoodIn wsX8_farthest wsX6_findBest := goodIn_r _ [32, 33, 34, 35, 36, 37, 38, 39, 40, 41, 31, 42, 43, 44, 45, 46, 47, 48, 49, 50, 51, 52, 53, 54, 55, 56, 57, 58, 59, 60, 61, 62, 63, 64, 65, 66, 67, 20, 68, 69, 70, 7, 71, 72, 73, 74, 75, 76, 77, 78, 79, 80, 81, 82, 83, 84, 85, 86, 87, 88, 89, 90, 91, 92, 93, 94, 95, 96, 97, 98, 99, 100, 101, 102, 103, 104, 105, 106, 107, 18, 19, 21, 22, 108, 109, 110, 111, 112, 113, 114, 115, 116, 117, 118, 119, 120, 121, 122, 123, 124, 125, 126, 127, 128, 129, 130, 131, 132, 133, 134, 135, 136, 137, 138, 139, 140, 141, 142, 143, 144, 145, 146, 147, 148, 149, 150, 151, 152, 153, 154, 155, 156, 157, 158, 159, 160, 161, 162, 163, 164, 165, 166, 167, 168, 169, 170, 171, 172, 173, 174, 175, 176, 177, 178, 179, 180, 181, 182, 183, 184, 185, 186, 187, 188, 189, 190, 191, 192, 193, 194, 195, 207, 208, 209, 210, 211, 212, 213, 214, 215, 216, 217, 225, 226, 227, 228, 229, 230, 231, 232, 233, 234, 235, 236, 237, 238, 239, 240, 241, 242, 218, 219, 220, 221, 222, 223, 224] rfl (by decide +kernel)
set_option maxRecDepth 20000 in
theorem gX8_farthest_X6_findBest : GoodIn wsX8_farthest (wsV RX8 246 RX6 yX6_findBest wsX6_findBest) := goodIn_app (goodIn_of _ (by decide +kernel)) ggX8_farthest_X6_findBest
theorem dX8_farthest_0 : decode cX8_farthest 0 = .ok (.aload_n 0, 1) := by decide +kernel
theorem dX8_farthest_1 : decode cX8_farthest 1 = .ok (.iload_n 1, 1) := by decide +kernel
theorem dX8_farthest_2 : decode cX8_farthest 2 = .ok (.iload_n 3, 1) := by decide +kernel
theorem dX8_farthest_3 : decode cX8_farthest 3 = .ok (.invokevirtual 230, 3) := by decide +kernel
theorem dX8_farthest_6 : decode cX8_farthest 6 = .ok (.aload_n 0, 1) := by decide +kernel
theorem dX8_farthest_7 : decode cX8_farthest 7 = .ok (.getfield 62, 3) := by decide +kernel
theorem dX8_farthest_10 : decode cX8_farthest 10 = .ok (.iload_n 1, 1) := by decide +kernel
theorem dX8_farthest_11 : decode cX8_farthest 11 = .ok (.iload_n 2, 1) := by decide +kernel
theorem dX8_farthest_12 : decode cX8_farthest 12 = .ok (.iload_n 3, 1) := by decide +kernel
theorem dX8_farthest_13 : decode cX8_farthest 13 = .ok (.iconst 2, 1) := by decide +kernel
theorem dX8_farthest_14 : decode cX8_farthest 14 = .ok (.invokevirtual 246, 3) := by decide +kernel
theorem dX8_farthest_17 : decode cX8_farthest 17 = .ok (.aload_n 0, 1) := by decide +kernel
theorem dX8_farthest_18 : decode cX8_farthest 18 = .ok (.getfield 62, 3) := by decide +kernel
theorem dX8_farthest_21 : decode cX8_farthest 21 = .ok (.getfield 250, 3) := by decide +kernel
theorem dX8_farthest_24 : decode cX8_farthest 24 = .ok (.iconst (-1), 1) := by decide +kernel
theorem dX8_farthest_25 : decode cX8_farthest 25 = .ok (.if_icmp .ne 7, 3) := by decide +kernel
theorem dX8_farthest_28 : decode cX8_farthest 28 = .ok (.iconst (-1), 1) := by decide +kernel
theorem dX8_farthest_29 : decode cX8_farthest 29 = .ok (.goto 11, 3) := by decide +kernel
theorem dX8_farthest_32 : decode cX8_farthest 32 = .ok (.aload_n 0, 1) := by decide +kernel
theorem dX8_farthest_33 : decode cX8_farthest 33 = .ok (.getfield 62, 3) := by decide +kernel
theorem dX8_farthest_36 : decode cX8_farthest 36 = .ok (.getfield 253, 3) := by decide +kernel
theorem dX8_farthest_39 : decode cX8_farthest 39 = .ok (.l2i, 1) := by decide +kernel
theorem dX8_farthest_40 : decode cX8_farthest 40 = .ok (.ireturn, 1) := by decide +kernel
set_option maxRecDepth 20000 in
set_option maxRecDepth 100000 in
theorem ggX8_guide_X6_countSlants : GoodIn wsX8_guide wsX6_countSlants := goodIn_r _ [9, 10, 11, 12, 13, 14, 15, 8, 16, 17, 18, 19, 20, 21, 22, 23, 24, 25, 26, 27, 28, 29, 30, 31, 32, 33, 34, 35, 36, 37, 38, 39, 40, 41, 42, 43, 44, 45, 46, 47, 48, 49, 50, 51, 52, 53, 54, 55, 56, 57, 58, 59, 60, 61, 62, 63, 64, 65, 66, 67, 68, 69, 70, 71, 72, 73, 74, 75, 76, 77, 78, 79, 80, 81, 82, 83, 84, 85, 86, 87, 88, 89, 90, 91, 92, 93, 94, 95, 96, 97, 98, 99, 100, 101, 102, 103, 104, 105, 106, 107, 108, 109, 110, 111, 112, 113, 114, 115, 116, 117, 118, 119, 120, 121, 122, 123, 124, 125, 126, 127, 128, 129, 130, 131, 132, 133, 134, 135, 136, 137, 138, 139, 140, 141, 142, 143, 144, 145, 146, 147, 148, 149, 150, 151, 152, 153, 154, 155, 156, 157, 158, 159, 160, 161, 162, 163, 164, 165, 166, 185, 186, 187, 188, 189, 190, 191, 192, 193, 194, 195, 196, 197, 198, 199, 200, 201, 202, 203, 204, 205, 206, 207, 208, 209, 210, 211, 212, 213, 178, 179, 180, 181, 182, 183, 184] rfl (by decide +kernel)
set_option maxRecDepth 20000 in
theorem gX8_guide_X6_countSlants : GoodIn wsX8_guide (wsV RX8 233 RX6 yX6_countSlants wsX6_countSlants) := goodIn_app (goodIn_of _ (by decide +kernel)) ggX8_guide_X6_countSlants
theorem dX8_guide_0 : decode cX8_guide 0 = .ok (.iconst (-1), 1) := by decide +kernel
theorem dX8_guide_1 : decode cX8_guide 1 = .ok (.istore_n 1, 1) := by decide +kernel
theorem dX8_guide_2 : decode cX8_guide 2 = .ok (.iconst 0, 1) := by decide +kernel
theorem dX8_guide_3 : decode cX8_guide 3 = .ok (.istore_n 2, 1) := by decide +kernel
theorem dX8_guide_4 : decode cX8_guide 4 = .ok (.iconst 0, 1) := by decide +kernel
theorem dX8_guide_5 : decode cX8_guide 5 = .ok (.istore_n 3, 1) := by decide +kernel
theorem dX8_guide_6 : decode cX8_guide 6 = .ok (.iload_n 3, 1) := by decide +kernel
theorem dX8_guide_7 : decode cX8_guide 7 = .ok (.aload_n 0, 1) := by decide +kernel
theorem dX8_guide_8 : decode cX8_guide 8 = .ok (.getfield 22, 3) := by decide +kernel
theorem dX8_guide_11 : decode cX8_guide 11 = .ok (.getfield 75, 3) := by decide +kernel
theorem dX8_guide_14 : decode cX8_guide 14 = .ok (.getfield 114, 3) := by decide +kernel
theorem dX8_guide_17 : decode cX8_guide 17 = .ok (.if_icmp .ge 32, 3) := by decide +kernel
theorem dX8_guide_20 : decode cX8_guide 20 = .ok (.aload_n 0, 1) := by decide +kernel
theorem dX8_guide_21 : decode cX8_guide 21 = .ok (.getfield 62, 3) := by decide +kernel
theorem dX8_guide_24 : decode cX8_guide 24 = .ok (.iload_n 3, 1) := by decide +kernel
theorem dX8_guide_25 : decode cX8_guide 25 = .ok (.iconst 1, 1) := by decide +kernel
theorem dX8_guide_26 : decode cX8_guide 26 = .ok (.iconst 3, 1) := by decide +kernel
theorem dX8_guide_27 : decode cX8_guide 27 = .ok (.invokevirtual 233, 3) := by decide +kernel
theorem dX8_guide_30 : decode cX8_guide 30 = .ok (.istore 4, 2) := by decide +kernel
theorem dX8_guide_32 : decode cX8_guide 32 = .ok (.iload 4, 2) := by decide +kernel
theorem dX8_guide_34 : decode cX8_guide 34 = .ok (.iload_n 2, 1) := by decide +kernel
theorem dX8_guide_35 : decode cX8_guide 35 = .ok (.if_icmp .le 8, 3) := by decide +kernel
theorem dX8_guide_38 : decode cX8_guide 38 = .ok (.iload_n 3, 1) := by decide +kernel
theorem dX8_guide_39 : decode cX8_guide 39 = .ok (.istore_n 1, 1) := by decide +kernel
theorem dX8_guide_40 : decode cX8_guide 40 = .ok (.iload 4, 2) := by decide +kernel
theorem dX8_guide_42 : decode cX8_guide 42 = .ok (.istore_n 2, 1) := by decide +kernel
theorem dX8_guide_43 : decode cX8_guide 43 = .ok (.iinc 3 1, 3) := by decide +kernel
theorem dX8_guide_46 : decode cX8_guide 46 = .ok (.goto (-40), 3) := by decide +kernel
theorem dX8_guide_49 : decode cX8_guide 49 = .ok (.iload_n 1, 1) := by decide +kernel
theorem dX8_guide_50 : decode cX8_guide 50 = .ok (.ireturn, 1) := by decide +kernel
set_option maxRecDepth 20000 in
theorem ggX8_count_X8_checkRange : GoodIn wsX8_count wsX8_checkRange := goodIn_ca (goodIn_r _ [8, 9, 10] (by decide +kernel) (by decide +kernel)) (goodIn_sub (fun _ h => List.mem_cons_of_mem _ (List.mem_append_right _ h)) (by decide +kernel))
set_option maxRecDepth 20000 in
theorem gX8_count_X8_checkRange : GoodIn wsX8_count (va_wsS RX8 100 yX8_checkRange wsX8_checkRange) := goodIn_app (goodIn_of _ (by decide +kernel)) ggX8_count_X8_checkRange
set_option maxRecDepth 20000 in
set_option maxRecDepth 100000 in
theorem ggX8_count_X8_runOf : GoodIn wsX8_count wsX8_runOf := goodIn_r _ [14, 2, 15, 16, 17, 18, 19, 20, 21, 22, 23, 24, 25, 26, 27, 28, 29, 30, 31, 32, 33, 34, 35, 36, 37, 38, 39, 40, 41, 7, 42, 43, 44, 45, 46, 47, 48, 49, 50, 51, 52, 53, 54, 55, 56, 57, 58, 59, 60, 61, 62, 63, 64, 65, 66, 67, 68, 69, 70, 71, 72, 73, 74, 75, 76, 77, 78, 79, 80, 81, 82, 83, 84, 85, 86, 87, 88, 89, 90, 91, 92, 93, 94, 95, 96, 97, 98, 99, 100, 101, 102, 103, 104, 105, 106, 107, 108, 109, 110, 111, 112, 113, 114, 115, 116, 117, 118, 119, 120, 121, 122, 123, 124, 125, 126, 127, 128, 129, 130, 131, 132, 133, 134, 135, 136, 137, 138, 139, 140, 141, 142, 143, 144, 145, 157, 158, 159, 160, 161, 146, 147, 148, 149, 150, 151, 152, 153, 154, 155, 156, 164, 165, 166, 167, 168, 169, 170, 171, 172, 173, 174, 175, 176, 177, 178, 179, 180, 181, 162, 163] rfl (by decide +kernel)
set_option maxRecDepth 20000 in
theorem gX8_count_X8_runOf : GoodIn wsX8_count (wsV RX8 155 RX8 yX8_runOf wsX8_runOf) := goodIn_app (goodIn_of _ (by decide +kernel)) ggX8_count_X8_runOf
theorem dX8_count_0 : decode cX8_count 0 = .ok (.iload_n 1, 1) := by decide +kernel
theorem dX8_count_1 : decode cX8_count 1 = .ok (.iconst 0, 1) := by decide +kernel
theorem dX8_count_2 : decode cX8_count 2 = .ok (.iconst 4, 1) := by decide +kernel
theorem dX8_count_3 : decode cX8_count 3 = .ok (.invokestatic 100, 3) := by decide +kernel
theorem dX8_count_6 : decode cX8_count 6 = .ok (.iconst 0, 1) := by decide +kernel
theorem dX8_count_7 : decode cX8_count 7 = .ok (.istore_n 2, 1) := by decide +kernel
theorem dX8_count_8 : decode cX8_count 8 = .ok (.iconst 0, 1) := by decide +kernel
theorem dX8_count_9 : decode cX8_count 9 = .ok (.istore_n 3, 1) := by decide +kernel
theorem dX8_count_10 : decode cX8_count 10 = .ok (.iload_n 3, 1) := by decide +kernel
theorem dX8_count_11 : decode cX8_count 11 = .ok (.aload_n 0, 1) := by decide +kernel
theorem dX8_count_12 : decode cX8_count 12 = .ok (.getfield 22, 3) := by decide +kernel
theorem dX8_count_15 : decode cX8_count 15 = .ok (.getfield 133, 3) := by decide +kernel
theorem dX8_count_18 : decode cX8_count 18 = .ok (.getfield 114, 3) := by decide +kernel
theorem dX8_count_21 : decode cX8_count 21 = .ok (.if_icmp .ge 28, 3) := by decide +kernel
theorem dX8_count_24 : decode cX8_count 24 = .ok (.aload_n 0, 1) := by decide +kernel
theorem dX8_count_25 : decode cX8_count 25 = .ok (.aload_n 0, 1) := by decide +kernel
theorem dX8_count_26 : decode cX8_count 26 = .ok (.getfield 22, 3) := by decide +kernel
theorem dX8_count_29 : decode cX8_count 29 = .ok (.iload_n 3, 1) := by decide +kernel
theorem dX8_count_30 : decode cX8_count 30 = .ok (.invokevirtual 155, 3) := by decide +kernel
theorem dX8_count_33 : decode cX8_count 33 = .ok (.getfield 162, 3) := by decide +kernel
theorem dX8_count_36 : decode cX8_count 36 = .ok (.iload_n 1, 1) := by decide +kernel
theorem dX8_count_37 : decode cX8_count 37 = .ok (.if_icmp .ne 6, 3) := by decide +kernel
theorem dX8_count_40 : decode cX8_count 40 = .ok (.iinc 2 1, 3) := by decide +kernel
theorem dX8_count_43 : decode cX8_count 43 = .ok (.iinc 3 1, 3) := by decide +kernel
theorem dX8_count_46 : decode cX8_count 46 = .ok (.goto (-36), 3) := by decide +kernel
theorem dX8_count_49 : decode cX8_count 49 = .ok (.iload_n 2, 1) := by decide +kernel
theorem dX8_count_50 : decode cX8_count 50 = .ok (.ireturn, 1) := by decide +kernel
set_option maxRecDepth 20000 in
set_option maxRecDepth 100000 in
theorem ggX8_first_X8_runOf : GoodIn wsX8_first wsX8_runOf := goodIn_r _ [9, 2, 10, 11, 12, 13, 14, 15, 16, 17, 18, 19, 20, 21, 22, 23, 24, 25, 26, 27, 28, 29, 30, 31, 32, 33, 34, 35, 36, 8, 37, 38, 39, 40, 41, 42, 43, 44, 45, 46, 47, 48, 49, 50, 51, 52, 53, 54, 55, 56, 57, 58, 59, 60, 61, 62, 63, 64, 65, 66, 67, 68, 69, 70, 71, 72, 73, 74, 75, 76, 77, 78, 79, 80, 81, 82, 83, 84, 85, 86, 87, 88, 89, 90, 91, 92, 93, 94, 95, 96, 97, 98, 99, 100, 101, 102, 103, 104, 105, 106, 107, 108, 109, 110, 111, 112, 113, 114, 115, 116, 117, 118, 119, 120, 121, 122, 123, 124, 125, 126, 127, 128, 129, 130, 131, 132, 133, 134, 135, 136, 137, 138, 139, 140, 156, 157, 158, 159, 160, 145, 146, 147, 148, 149, 150, 151, 152, 153, 154, 155, 163, 164, 165, 166, 167, 168, 169, 170, 171, 172, 173, 174, 175, 176, 177, 178, 179, 180, 161, 162] rfl (by decide +kernel)
set_option maxRecDepth 20000 in
theorem gX8_first_X8_runOf : GoodIn wsX8_first (wsV RX8 155 RX8 yX8_runOf wsX8_runOf) := goodIn_app (goodIn_of _ (by decide +kernel)) ggX8_first_X8_runOf
set_option maxRecDepth 20000 in
set_option maxRecDepth 100000 in
theorem ggX8_first_X4_isOut : GoodIn wsX8_first wsX4_isOut := goodIn_r _ [144, 58, 163, 164, 165, 166, 167, 168, 169, 170, 171, 172, 173, 174, 175, 176, 177, 178, 179, 180] rfl (by decide +kernel)
set_option maxRecDepth 20000 in
theorem gX8_first_X4_isOut : GoodIn wsX8_first (wsV RX8 257 RX4 yX4_isOut wsX4_isOut) := goodIn_app (goodIn_of _ (by decide +kernel)) ggX8_first_X4_isOut
theorem dX8_first_0 : decode cX8_first 0 = .ok (.iconst (-1), 1) := by decide +kernel
theorem dX8_first_1 : decode cX8_first 1 = .ok (.istore_n 1, 1) := by decide +kernel
theorem dX8_first_2 : decode cX8_first 2 = .ok (.iconst 0, 1) := by decide +kernel
theorem dX8_first_3 : decode cX8_first 3 = .ok (.istore_n 2, 1) := by decide +kernel
theorem dX8_first_4 : decode cX8_first 4 = .ok (.iconst 0, 1) := by decide +kernel
theorem dX8_first_5 : decode cX8_first 5 = .ok (.istore_n 3, 1) := by decide +kernel
theorem dX8_first_6 : decode cX8_first 6 = .ok (.iload_n 3, 1) := by decide +kernel
theorem dX8_first_7 : decode cX8_first 7 = .ok (.aload_n 0, 1) := by decide +kernel
theorem dX8_first_8 : decode cX8_first 8 = .ok (.getfield 22, 3) := by decide +kernel
theorem dX8_first_11 : decode cX8_first 11 = .ok (.getfield 133, 3) := by decide +kernel
theorem dX8_first_14 : decode cX8_first 14 = .ok (.getfield 114, 3) := by decide +kernel
theorem dX8_first_17 : decode cX8_first 17 = .ok (.if_icmp .ge 50, 3) := by decide +kernel
theorem dX8_first_20 : decode cX8_first 20 = .ok (.aload_n 0, 1) := by decide +kernel
theorem dX8_first_21 : decode cX8_first 21 = .ok (.aload_n 0, 1) := by decide +kernel
theorem dX8_first_22 : decode cX8_first 22 = .ok (.getfield 22, 3) := by decide +kernel
theorem dX8_first_25 : decode cX8_first 25 = .ok (.iload_n 3, 1) := by decide +kernel
theorem dX8_first_26 : decode cX8_first 26 = .ok (.invokevirtual 155, 3) := by decide +kernel
theorem dX8_first_29 : decode cX8_first 29 = .ok (.astore 4, 2) := by decide +kernel
theorem dX8_first_31 : decode cX8_first 31 = .ok (.aload 4, 2) := by decide +kernel
theorem dX8_first_33 : decode cX8_first 33 = .ok (.invokevirtual 257, 3) := by decide +kernel
theorem dX8_first_36 : decode cX8_first 36 = .ok (.ifCond .eq 25, 3) := by decide +kernel
theorem dX8_first_39 : decode cX8_first 39 = .ok (.iload_n 1, 1) := by decide +kernel
theorem dX8_first_40 : decode cX8_first 40 = .ok (.iconst (-1), 1) := by decide +kernel
theorem dX8_first_41 : decode cX8_first 41 = .ok (.if_icmp .eq 12, 3) := by decide +kernel
theorem dX8_first_44 : decode cX8_first 44 = .ok (.aload 4, 2) := by decide +kernel
theorem dX8_first_46 : decode cX8_first 46 = .ok (.getfield 171, 3) := by decide +kernel
theorem dX8_first_49 : decode cX8_first 49 = .ok (.iload_n 2, 1) := by decide +kernel
theorem dX8_first_50 : decode cX8_first 50 = .ok (.if_icmp .ge 11, 3) := by decide +kernel
theorem dX8_first_53 : decode cX8_first 53 = .ok (.iload_n 3, 1) := by decide +kernel
theorem dX8_first_54 : decode cX8_first 54 = .ok (.istore_n 1, 1) := by decide +kernel
theorem dX8_first_55 : decode cX8_first 55 = .ok (.aload 4, 2) := by decide +kernel
theorem dX8_first_57 : decode cX8_first 57 = .ok (.getfield 171, 3) := by decide +kernel
theorem dX8_first_60 : decode cX8_first 60 = .ok (.istore_n 2, 1) := by decide +kernel
theorem dX8_first_61 : decode cX8_first 61 = .ok (.iinc 3 1, 3) := by decide +kernel
theorem dX8_first_64 : decode cX8_first 64 = .ok (.goto (-58), 3) := by decide +kernel
theorem dX8_first_67 : decode cX8_first 67 = .ok (.iload_n 1, 1) := by decide +kernel
theorem dX8_first_68 : decode cX8_first 68 = .ok (.ireturn, 1) := by decide +kernel
set_option maxRecDepth 20000 in
set_option maxRecDepth 100000 in
theorem ggX8_strongest_X8_runOf : GoodIn wsX8_strongest wsX8_runOf := goodIn_r _ [9, 2, 10, 11, 12, 13, 14, 15, 16, 17, 18, 19, 20, 21, 22, 23, 24, 25, 26, 27, 28, 29, 30, 31, 32, 33, 34, 35, 36, 8, 37, 38, 39, 40, 41, 42, 43, 44, 45, 46, 47, 48, 49, 50, 51, 52, 53, 54, 55, 56, 57, 58, 59, 60, 61, 62, 63, 64, 65, 66, 67, 68, 69, 70, 71, 72, 73, 74, 75, 76, 77, 78, 79, 80, 81, 82, 83, 84, 85, 86, 87, 88, 89, 90, 91, 92, 93, 94, 95, 96, 97, 98, 99, 100, 101, 102, 103, 104, 105, 106, 107, 108, 109, 110, 111, 112, 113, 114, 115, 116, 117, 118, 119, 120, 121, 122, 123, 124, 125, 126, 127, 128, 129, 130, 131, 132, 133, 134, 135, 136, 137, 138, 139, 140, 156, 157, 158, 159, 160, 145, 146, 147, 148, 149, 150, 151, 152, 153, 154, 155, 163, 164, 165, 166, 167, 168, 169, 170, 171, 172, 173, 174, 175, 176, 177, 178, 179, 180, 161, 162] rfl (by decide +kernel)
set_option maxRecDepth 20000 in
theorem gX8_strongest_X8_runOf : GoodIn wsX8_strongest (wsV RX8 155 RX8 yX8_runOf wsX8_runOf) := goodIn_app (goodIn_of _ (by decide +kernel)) ggX8_strongest_X8_runOf
set_option maxRecDepth 20000 in
set_option maxRecDepth 100000 in
theorem ggX8_strongest_X4_isOut : GoodIn wsX8_strongest wsX4_isOut := goodIn_r _ [144, 58, 163, 164, 165, 166, 167, 168, 169, 170, 171, 172, 173, 174, 175, 176, 177, 178, 179, 180] rfl (by decide +kernel)
set_option maxRecDepth 20000 in
theorem gX8_strongest_X4_isOut : GoodIn wsX8_strongest (wsV RX8 257 RX4 yX4_isOut wsX4_isOut) := goodIn_app (goodIn_of _ (by decide +kernel)) ggX8_strongest_X4_isOut
theorem dX8_strongest_0 : decode cX8_strongest 0 = .ok (.iconst (-1), 1) := by decide +kernel
theorem dX8_strongest_1 : decode cX8_strongest 1 = .ok (.istore_n 1, 1) := by decide +kernel
theorem dX8_strongest_2 : decode cX8_strongest 2 = .ok (.iconst 0, 1) := by decide +kernel
theorem dX8_strongest_3 : decode cX8_strongest 3 = .ok (.istore_n 2, 1) := by decide +kernel
theorem dX8_strongest_4 : decode cX8_strongest 4 = .ok (.iconst 0, 1) := by decide +kernel
theorem dX8_strongest_5 : decode cX8_strongest 5 = .ok (.istore_n 3, 1) := by decide +kernel
theorem dX8_strongest_6 : decode cX8_strongest 6 = .ok (.iload_n 3, 1) := by decide +kernel
theorem dX8_strongest_7 : decode cX8_strongest 7 = .ok (.aload_n 0, 1) := by decide +kernel
theorem dX8_strongest_8 : decode cX8_strongest 8 = .ok (.getfield 22, 3) := by decide +kernel
theorem dX8_strongest_11 : decode cX8_strongest 11 = .ok (.getfield 133, 3) := by decide +kernel
theorem dX8_strongest_14 : decode cX8_strongest 14 = .ok (.getfield 114, 3) := by decide +kernel
theorem dX8_strongest_17 : decode cX8_strongest 17 = .ok (.if_icmp .ge 50, 3) := by decide +kernel
theorem dX8_strongest_20 : decode cX8_strongest 20 = .ok (.aload_n 0, 1) := by decide +kernel
theorem dX8_strongest_21 : decode cX8_strongest 21 = .ok (.aload_n 0, 1) := by decide +kernel
theorem dX8_strongest_22 : decode cX8_strongest 22 = .ok (.getfield 22, 3) := by decide +kernel
theorem dX8_strongest_25 : decode cX8_strongest 25 = .ok (.iload_n 3, 1) := by decide +kernel
theorem dX8_strongest_26 : decode cX8_strongest 26 = .ok (.invokevirtual 155, 3) := by decide +kernel
theorem dX8_strongest_29 : decode cX8_strongest 29 = .ok (.astore 4, 2) := by decide +kernel
theorem dX8_strongest_31 : decode cX8_strongest 31 = .ok (.aload 4, 2) := by decide +kernel
theorem dX8_strongest_33 : decode cX8_strongest 33 = .ok (.invokevirtual 257, 3) := by decide +kernel
theorem dX8_strongest_36 : decode cX8_strongest 36 = .ok (.ifCond .eq 25, 3) := by decide +kernel
theorem dX8_strongest_39 : decode cX8_strongest 39 = .ok (.iload_n 1, 1) := by decide +kernel
theorem dX8_strongest_40 : decode cX8_strongest 40 = .ok (.iconst (-1), 1) := by decide +kernel
theorem dX8_strongest_41 : decode cX8_strongest 41 = .ok (.if_icmp .eq 12, 3) := by decide +kernel
theorem dX8_strongest_44 : decode cX8_strongest 44 = .ok (.aload 4, 2) := by decide +kernel
theorem dX8_strongest_46 : decode cX8_strongest 46 = .ok (.getfield 174, 3) := by decide +kernel
theorem dX8_strongest_49 : decode cX8_strongest 49 = .ok (.iload_n 2, 1) := by decide +kernel
theorem dX8_strongest_50 : decode cX8_strongest 50 = .ok (.if_icmp .le 11, 3) := by decide +kernel
theorem dX8_strongest_53 : decode cX8_strongest 53 = .ok (.iload_n 3, 1) := by decide +kernel
theorem dX8_strongest_54 : decode cX8_strongest 54 = .ok (.istore_n 1, 1) := by decide +kernel
theorem dX8_strongest_55 : decode cX8_strongest 55 = .ok (.aload 4, 2) := by decide +kernel
theorem dX8_strongest_57 : decode cX8_strongest 57 = .ok (.getfield 174, 3) := by decide +kernel
theorem dX8_strongest_60 : decode cX8_strongest 60 = .ok (.istore_n 2, 1) := by decide +kernel
theorem dX8_strongest_61 : decode cX8_strongest 61 = .ok (.iinc 3 1, 3) := by decide +kernel
theorem dX8_strongest_64 : decode cX8_strongest 64 = .ok (.goto (-58), 3) := by decide +kernel
theorem dX8_strongest_67 : decode cX8_strongest 67 = .ok (.iload_n 1, 1) := by decide +kernel
theorem dX8_strongest_68 : decode cX8_strongest 68 = .ok (.ireturn, 1) := by decide +kernel
set_option maxRecDepth 20000 in
theorem ggX8_alike_X8_checkTwoShots : GoodIn wsX8_alike wsX8_checkTwoShots := goodIn_ca (goodIn_ca (goodIn_r _ [7, 8, 9, 10, 11, 12, 6, 13, 14, 15, 16, 17, 18, 19, 20, 21, 22, 23, 178, 179, 180, 181, 182, 183, 184, 185, 186, 187, 188, 189, 190, 191, 192, 193, 194, 195] (by decide +kernel) (by decide +kernel)) (goodIn_sub (fun _ h => List.mem_cons_of_mem _ (List.mem_append_left _ (List.mem_append_right _ h))) (by decide +kernel))) (goodIn_sub (fun _ h => List.mem_cons_of_mem _ (List.mem_append_right _ h)) (by decide +kernel))
set_option maxRecDepth 20000 in
theorem gX8_alike_X8_checkTwoShots : GoodIn wsX8_alike (wsV RX8 260 RX8 yX8_checkTwoShots wsX8_checkTwoShots) := goodIn_app (goodIn_of _ (by decide +kernel)) ggX8_alike_X8_checkTwoShots
set_option maxRecDepth 20000 in
set_option maxRecDepth 100000 in
theorem ggX8_alike_X8_pathOf : GoodIn wsX8_alike wsX8_pathOf := goodIn_r _ [27, 16, 17, 28, 29, 30, 21, 31, 32, 33, 34, 35, 36, 37, 38, 39, 40, 41, 42, 43, 44, 45, 46, 47, 48, 49, 50, 51, 52, 53, 54, 55, 56, 57, 58, 59, 60, 61, 62, 63, 64, 65, 66, 6, 67, 68, 69, 70, 71, 72, 73, 74, 75, 76, 77, 78, 79, 80, 81, 82, 83, 84, 85, 86, 87, 88, 89, 90, 91, 19, 20, 22, 23, 92, 93, 94, 95, 96, 97, 98, 99, 100, 101, 102, 103, 104, 105, 106, 107, 108, 109, 110, 111, 112, 113, 114, 115, 116, 117, 118, 119, 120, 121, 122, 123, 124, 125, 126, 127, 128, 129, 130, 131, 132, 133, 134, 135, 136, 137, 138, 139, 140, 141, 142, 143, 144, 145, 146, 147, 148, 149, 150, 151, 152, 153, 154, 155, 156, 157, 158, 159, 160, 161, 162, 163, 164, 165, 166, 167, 168, 169, 178, 179, 180, 181, 182, 183, 184, 185, 186, 187, 188, 189, 190, 191, 192, 193, 194, 195, 196, 197, 198, 199, 200, 201, 202, 203, 204, 205, 206, 207, 208, 209, 210, 211, 212, 213, 214, 215, 216, 217] rfl (by decide +kernel)
set_option maxRecDepth 20000 in
theorem gX8_alike_X8_pathOf : GoodIn wsX8_alike (wsV RX8 191 RX8 yX8_pathOf wsX8_pathOf) := goodIn_app (goodIn_of _ (by decide +kernel)) ggX8_alike_X8_pathOf
set_option maxRecDepth 20000 in
set_option maxRecDepth 100000 in
theorem ggX8_alike_X3_legsAlike : GoodIn wsX8_alike wsX3_legsAlike := goodIn_r _ [173, 43, 174, 175, 176, 36, 177, 104, 121, 6, 122, 196, 197, 198, 199] rfl (by decide +kernel)
set_option maxRecDepth 20000 in
theorem gX8_alike_X3_legsAlike : GoodIn wsX8_alike (wsV RX8 263 RX3 yX3_legsAlike wsX3_legsAlike) := goodIn_app (goodIn_of _ (by decide +kernel)) ggX8_alike_X3_legsAlike
theorem dX8_alike_0 : decode cX8_alike 0 = .ok (.aload_n 0, 1) := by decide +kernel
theorem dX8_alike_1 : decode cX8_alike 1 = .ok (.iload_n 1, 1) := by decide +kernel
theorem dX8_alike_2 : decode cX8_alike 2 = .ok (.iload_n 2, 1) := by decide +kernel
theorem dX8_alike_3 : decode cX8_alike 3 = .ok (.invokevirtual 260, 3) := by decide +kernel
theorem dX8_alike_6 : decode cX8_alike 6 = .ok (.aload_n 0, 1) := by decide +kernel
theorem dX8_alike_7 : decode cX8_alike 7 = .ok (.aload_n 0, 1) := by decide +kernel
theorem dX8_alike_8 : decode cX8_alike 8 = .ok (.getfield 52, 3) := by decide +kernel
theorem dX8_alike_11 : decode cX8_alike 11 = .ok (.iload_n 1, 1) := by decide +kernel
theorem dX8_alike_12 : decode cX8_alike 12 = .ok (.invokevirtual 191, 3) := by decide +kernel
theorem dX8_alike_15 : decode cX8_alike 15 = .ok (.aload_n 0, 1) := by decide +kernel
theorem dX8_alike_16 : decode cX8_alike 16 = .ok (.aload_n 0, 1) := by decide +kernel
theorem dX8_alike_17 : decode cX8_alike 17 = .ok (.getfield 56, 3) := by decide +kernel
theorem dX8_alike_20 : decode cX8_alike 20 = .ok (.iload_n 2, 1) := by decide +kernel
theorem dX8_alike_21 : decode cX8_alike 21 = .ok (.invokevirtual 191, 3) := by decide +kernel
theorem dX8_alike_24 : decode cX8_alike 24 = .ok (.invokevirtual 263, 3) := by decide +kernel
theorem dX8_alike_27 : decode cX8_alike 27 = .ok (.ireturn, 1) := by decide +kernel
set_option maxRecDepth 20000 in
theorem ggX8_together_X8_checkTwoShots : GoodIn wsX8_together wsX8_checkTwoShots := goodIn_ca (goodIn_ca (goodIn_r _ [7, 8, 9, 10, 11, 12, 6, 13, 14, 15, 16, 17, 18, 19, 20, 21, 22, 23, 185, 186, 187, 188, 189, 190, 191, 192, 193, 194, 195, 196, 197, 198, 199, 200, 201, 202] (by decide +kernel) (by decide +kernel)) (goodIn_sub (fun _ h => List.mem_cons_of_mem _ (List.mem_append_left _ (List.mem_append_right _ h))) (by decide +kernel))) (goodIn_sub (fun _ h => List.mem_cons_of_mem _ (List.mem_append_right _ h)) (by decide +kernel))
set_option maxRecDepth 20000 in
theorem gX8_together_X8_checkTwoShots : GoodIn wsX8_together (wsV RX8 260 RX8 yX8_checkTwoShots wsX8_checkTwoShots) := goodIn_app (goodIn_of _ (by decide +kernel)) ggX8_together_X8_checkTwoShots
set_option maxRecDepth 20000 in
set_option maxRecDepth 100000 in
theorem ggX8_together_X8_pathOf : GoodIn wsX8_together wsX8_pathOf := goodIn_r _ [27, 16, 17, 28, 29, 30, 21, 31, 32, 33, 34, 35, 36, 37, 38, 39, 40, 41, 42, 43, 44, 45, 46, 47, 48, 49, 50, 51, 52, 53, 54, 55, 56, 57, 58, 59, 60, 61, 62, 63, 64, 65, 66, 6, 67, 68, 69, 70, 71, 72, 73, 74, 75, 76, 77, 78, 79, 80, 81, 82, 83, 84, 85, 86, 87, 88, 89, 90, 91, 19, 20, 22, 23, 92, 93, 94, 95, 96, 97, 98, 99, 100, 101, 102, 103, 104, 105, 106, 107, 108, 109, 110, 111, 112, 113, 114, 115, 116, 117, 118, 119, 120, 121, 122, 123, 124, 125, 126, 127, 128, 129, 130, 131, 132, 133, 134, 135, 136, 137, 138, 139, 140, 141, 142, 143, 144, 145, 146, 147, 148, 149, 150, 151, 152, 153, 154, 155, 156, 157, 158, 159, 160, 161, 162, 163, 164, 165, 166, 167, 168, 169, 185, 186, 187, 188, 189, 190, 191, 192, 193, 194, 195, 196, 197, 198, 199, 200, 201, 202, 203, 204, 205, 206, 207, 208, 209, 210, 211, 212, 213, 214, 215, 216, 217, 218, 219, 220, 221, 222, 223, 224] rfl (by decide +kernel)
set_option maxRecDepth 20000 in
theorem gX8_together_X8_pathOf : GoodIn wsX8_together (wsV RX8 191 RX8 yX8_pathOf wsX8_pathOf) := goodIn_app (goodIn_of _ (by decide +kernel)) ggX8_together_X8_pathOf
set_option maxRecDepth 20000 in
set_option maxRecDepth 100000 in
theorem ggX8_together_X3_meetingTime : GoodIn wsX8_together wsX3_meetingTime := goodIn_r _ [173, 43, 174, 175, 111, 176, 177, 178, 179, 36, 180, 104, 121, 6, 122, 181, 182, 183, 184, 203, 204, 205, 206] rfl (by decide +kernel)
set_option maxRecDepth 20000 in
theorem gX8_together_X3_meetingTime : GoodIn wsX8_together (wsV RX8 267 RX3 yX3_meetingTime wsX3_meetingTime) := goodIn_app (goodIn_of _ (by decide +kernel)) ggX8_together_X3_meetingTime
theorem dX8_together_0 : decode cX8_together 0 = .ok (.aload_n 0, 1) := by decide +kernel
theorem dX8_together_1 : decode cX8_together 1 = .ok (.iload_n 1, 1) := by decide +kernel
theorem dX8_together_2 : decode cX8_together 2 = .ok (.iload_n 2, 1) := by decide +kernel
theorem dX8_together_3 : decode cX8_together 3 = .ok (.invokevirtual 260, 3) := by decide +kernel
theorem dX8_together_6 : decode cX8_together 6 = .ok (.aload_n 0, 1) := by decide +kernel
theorem dX8_together_7 : decode cX8_together 7 = .ok (.aload_n 0, 1) := by decide +kernel
theorem dX8_together_8 : decode cX8_together 8 = .ok (.getfield 52, 3) := by decide +kernel
theorem dX8_together_11 : decode cX8_together 11 = .ok (.iload_n 1, 1) := by decide +kernel
theorem dX8_together_12 : decode cX8_together 12 = .ok (.invokevirtual 191, 3) := by decide +kernel
theorem dX8_together_15 : decode cX8_together 15 = .ok (.aload_n 0, 1) := by decide +kernel
theorem dX8_together_16 : decode cX8_together 16 = .ok (.aload_n 0, 1) := by decide +kernel
theorem dX8_together_17 : decode cX8_together 17 = .ok (.getfield 56, 3) := by decide +kernel
theorem dX8_together_20 : decode cX8_together 20 = .ok (.iload_n 2, 1) := by decide +kernel
theorem dX8_together_21 : decode cX8_together 21 = .ok (.invokevirtual 191, 3) := by decide +kernel
theorem dX8_together_24 : decode cX8_together 24 = .ok (.invokevirtual 267, 3) := by decide +kernel
theorem dX8_together_27 : decode cX8_together 27 = .ok (.ireturn, 1) := by decide +kernel
set_option maxRecDepth 20000 in
theorem ggX8_legsIn_X8_checkLayer : GoodIn wsX8_legsIn wsX8_checkLayer := goodIn_ca (goodIn_r _ [5, 6, 7, 8, 9, 10, 11, 12, 13, 14, 15, 177, 178, 179, 180, 181, 182, 183, 184, 185, 186, 187, 188, 189, 190, 191, 192, 193, 194] (by decide +kernel) (by decide +kernel)) (goodIn_sub (fun _ h => List.mem_cons_of_mem _ (List.mem_append_right _ h)) (by decide +kernel))
set_option maxRecDepth 20000 in
theorem gX8_legsIn_X8_checkLayer : GoodIn wsX8_legsIn (wsV RX8 145 RX8 yX8_checkLayer wsX8_checkLayer) := goodIn_app (goodIn_of _ (by decide +kernel)) ggX8_legsIn_X8_checkLayer
set_option maxRecDepth 20000 in
set_option maxRecDepth 100000 in
theorem ggX8_legsIn_X8_legsAcross : GoodIn wsX8_legsIn wsX8_legsAcross := goodIn_r _ [19, 8, 20, 21, 22, 23, 24, 25, 4, 26, 27, 28, 29, 13, 30, 31, 32, 33, 34, 35, 36, 37, 38, 39, 40, 41, 42, 43, 44, 45, 46, 47, 48, 49, 50, 51, 52, 53, 54, 55, 56, 57, 58, 59, 60, 61, 62, 63, 64, 65, 66, 67, 68, 69, 70, 71, 72, 73, 74, 75, 76, 77, 78, 79, 80, 81, 82, 83, 84, 85, 86, 87, 88, 89, 90, 11, 12, 14, 15, 91, 92, 93, 94, 95, 96, 97, 98, 99, 100, 101, 102, 103, 104, 105, 106, 107, 108, 109, 110, 111, 112, 113, 114, 115, 116, 117, 118, 119, 120, 121, 122, 123, 124, 125, 126, 127, 128, 129, 130, 131, 132, 133, 134, 135, 136, 137, 138, 139, 140, 141, 142, 143, 144, 145, 146, 147, 148, 149, 150, 151, 152, 153, 154, 155, 156, 157, 158, 159, 160, 161, 162, 163, 164, 165, 166, 167, 168, 169, 170, 171, 172, 173, 174, 175, 176, 177, 178, 179, 180, 181, 182, 183, 184, 185, 186, 187, 188, 189, 190, 191, 192, 193, 194, 195, 196, 197, 198, 199, 200, 201, 202, 203, 204, 205, 206, 207, 208, 209, 210, 211, 212, 213, 214, 215, 216] rfl (by decide +kernel)
set_option maxRecDepth 20000 in
theorem gX8_legsIn_X8_legsAcross : GoodIn wsX8_legsIn (wsV RX8 270 RX8 yX8_legsAcross wsX8_legsAcross) := goodIn_app (goodIn_of _ (by decide +kernel)) ggX8_legsIn_X8_legsAcross
theorem dX8_legsIn_0 : decode cX8_legsIn 0 = .ok (.aload_n 0, 1) := by decide +kernel
theorem dX8_legsIn_1 : decode cX8_legsIn 1 = .ok (.iload_n 1, 1) := by decide +kernel
theorem dX8_legsIn_2 : decode cX8_legsIn 2 = .ok (.invokevirtual 145, 3) := by decide +kernel
theorem dX8_legsIn_5 : decode cX8_legsIn 5 = .ok (.aload_n 0, 1) := by decide +kernel
theorem dX8_legsIn_6 : decode cX8_legsIn 6 = .ok (.iload_n 1, 1) := by decide +kernel
theorem dX8_legsIn_7 : decode cX8_legsIn 7 = .ok (.invokevirtual 270, 3) := by decide +kernel
theorem dX8_legsIn_10 : decode cX8_legsIn 10 = .ok (.ireturn, 1) := by decide +kernel
set_option maxRecDepth 20000 in
set_option maxRecDepth 100000 in
theorem ggX8_busiest_X8_legsAcross : GoodIn wsX8_busiest wsX8_legsAcross := goodIn_r _ [8, 1, 9, 3, 10, 11, 12, 13, 7, 14, 15, 16, 17, 18, 19, 20, 21, 22, 23, 24, 25, 26, 27, 28, 29, 30, 31, 32, 33, 34, 35, 36, 37, 38, 39, 40, 41, 42, 43, 44, 45, 46, 47, 48, 49, 50, 51, 52, 53, 54, 55, 56, 57, 58, 59, 60, 61, 62, 63, 64, 65, 66, 67, 68, 69, 70, 71, 72, 73, 74, 75, 76, 77, 78, 79, 80, 81, 82, 83, 84, 85, 86, 87, 88, 89, 90, 91, 92, 93, 94, 95, 96, 97, 98, 99, 100, 101, 102, 103, 104, 105, 106, 107, 108, 109, 110, 111, 112, 113, 114, 115, 116, 117, 118, 119, 120, 121, 122, 123, 124, 125, 126, 127, 128, 129, 130, 131, 132, 133, 134, 135, 136, 137, 138, 139, 140, 141, 142, 143, 144, 145, 146, 147, 148, 149, 150, 151, 152, 153, 154, 155, 156, 157, 158, 159, 160, 161, 162, 163, 164, 165, 166, 167, 168, 169, 170, 171, 172, 173, 174, 175, 176, 177, 178, 179, 180, 181, 182, 183, 184, 185, 186, 187, 188, 189, 190, 191, 192, 193, 194, 195, 196, 197, 198, 199, 200, 201, 202, 203, 204, 205, 206, 207, 208, 209] rfl (by decide +kernel)
set_option maxRecDepth 20000 in
theorem gX8_busiest_X8_legsAcross : GoodIn wsX8_busiest (wsV RX8 270 RX8 yX8_legsAcross wsX8_legsAcross) := goodIn_app (goodIn_of _ (by decide +kernel)) ggX8_busiest_X8_legsAcross
theorem dX8_busiest_0 : decode cX8_busiest 0 = .ok (.iconst (-1), 1) := by decide +kernel
theorem dX8_busiest_1 : decode cX8_busiest 1 = .ok (.istore_n 1, 1) := by decide +kernel
theorem dX8_busiest_2 : decode cX8_busiest 2 = .ok (.iconst 0, 1) := by decide +kernel
theorem dX8_busiest_3 : decode cX8_busiest 3 = .ok (.istore_n 2, 1) := by decide +kernel
theorem dX8_busiest_4 : decode cX8_busiest 4 = .ok (.iconst 0, 1) := by decide +kernel
theorem dX8_busiest_5 : decode cX8_busiest 5 = .ok (.istore_n 3, 1) := by decide +kernel
theorem dX8_busiest_6 : decode cX8_busiest 6 = .ok (.iload_n 3, 1) := by decide +kernel
theorem dX8_busiest_7 : decode cX8_busiest 7 = .ok (.aload_n 0, 1) := by decide +kernel
theorem dX8_busiest_8 : decode cX8_busiest 8 = .ok (.getfield 22, 3) := by decide +kernel
theorem dX8_busiest_11 : decode cX8_busiest 11 = .ok (.getfield 75, 3) := by decide +kernel
theorem dX8_busiest_14 : decode cX8_busiest 14 = .ok (.getfield 114, 3) := by decide +kernel
theorem dX8_busiest_17 : decode cX8_busiest 17 = .ok (.if_icmp .ge 27, 3) := by decide +kernel
theorem dX8_busiest_20 : decode cX8_busiest 20 = .ok (.aload_n 0, 1) := by decide +kernel
theorem dX8_busiest_21 : decode cX8_busiest 21 = .ok (.iload_n 3, 1) := by decide +kernel
theorem dX8_busiest_22 : decode cX8_busiest 22 = .ok (.invokevirtual 270, 3) := by decide +kernel
theorem dX8_busiest_25 : decode cX8_busiest 25 = .ok (.istore 4, 2) := by decide +kernel
theorem dX8_busiest_27 : decode cX8_busiest 27 = .ok (.iload 4, 2) := by decide +kernel
theorem dX8_busiest_29 : decode cX8_busiest 29 = .ok (.iload_n 2, 1) := by decide +kernel
theorem dX8_busiest_30 : decode cX8_busiest 30 = .ok (.if_icmp .le 8, 3) := by decide +kernel
theorem dX8_busiest_33 : decode cX8_busiest 33 = .ok (.iload_n 3, 1) := by decide +kernel
theorem dX8_busiest_34 : decode cX8_busiest 34 = .ok (.istore_n 1, 1) := by decide +kernel
theorem dX8_busiest_35 : decode cX8_busiest 35 = .ok (.iload 4, 2) := by decide +kernel
theorem dX8_busiest_37 : decode cX8_busiest 37 = .ok (.istore_n 2, 1) := by decide +kernel
theorem dX8_busiest_38 : decode cX8_busiest 38 = .ok (.iinc 3 1, 3) := by decide +kernel
theorem dX8_busiest_41 : decode cX8_busiest 41 = .ok (.goto (-35), 3) := by decide +kernel
theorem dX8_busiest_44 : decode cX8_busiest 44 = .ok (.iload_n 1, 1) := by decide +kernel
theorem dX8_busiest_45 : decode cX8_busiest 45 = .ok (.ireturn, 1) := by decide +kernel
set_option maxRecDepth 20000 in
set_option maxRecDepth 100000 in
theorem ggX8_meanIndex_X7_get : GoodIn wsX8_meanIndex wsX7_get := goodIn_r _ [8, 9, 34, 35] rfl (by decide +kernel)
set_option maxRecDepth 20000 in
theorem gX8_meanIndex_X7_get : GoodIn wsX8_meanIndex (wsV RX8 148 RX7 yX7_get wsX7_get) := goodIn_app (goodIn_of _ (by decide +kernel)) ggX8_meanIndex_X7_get
set_option maxRecDepth 20000 in
set_option maxRecDepth 100000 in
theorem ggX8_meanIndex_X5_depthOf : GoodIn wsX8_meanIndex wsX5_depthOf := goodIn_r _ [14, 15, 16, 17, 5, 6, 7, 8, 9, 29, 30, 31, 32, 33, 34, 35] rfl (by decide +kernel)
set_option maxRecDepth 20000 in
theorem gX8_meanIndex_X5_depthOf : GoodIn wsX8_meanIndex (wsV RX8 136 RX5 yX5_depthOf wsX5_depthOf) := goodIn_app (goodIn_of _ (by decide +kernel)) ggX8_meanIndex_X5_depthOf
theorem dX8_meanIndex_0 : decode cX8_meanIndex 0 = .ok (.iconst 0, 1) := by decide +kernel
theorem dX8_meanIndex_1 : decode cX8_meanIndex 1 = .ok (.istore_n 1, 1) := by decide +kernel
theorem dX8_meanIndex_2 : decode cX8_meanIndex 2 = .ok (.iconst 0, 1) := by decide +kernel
theorem dX8_meanIndex_3 : decode cX8_meanIndex 3 = .ok (.istore_n 2, 1) := by decide +kernel
theorem dX8_meanIndex_4 : decode cX8_meanIndex 4 = .ok (.iload_n 2, 1) := by decide +kernel
theorem dX8_meanIndex_5 : decode cX8_meanIndex 5 = .ok (.aload_n 0, 1) := by decide +kernel
theorem dX8_meanIndex_6 : decode cX8_meanIndex 6 = .ok (.getfield 22, 3) := by decide +kernel
theorem dX8_meanIndex_9 : decode cX8_meanIndex 9 = .ok (.getfield 75, 3) := by decide +kernel
theorem dX8_meanIndex_12 : decode cX8_meanIndex 12 = .ok (.getfield 114, 3) := by decide +kernel
theorem dX8_meanIndex_15 : decode cX8_meanIndex 15 = .ok (.if_icmp .ge 37, 3) := by decide +kernel
theorem dX8_meanIndex_18 : decode cX8_meanIndex 18 = .ok (.iload_n 1, 1) := by decide +kernel
theorem dX8_meanIndex_19 : decode cX8_meanIndex 19 = .ok (.aload_n 0, 1) := by decide +kernel
theorem dX8_meanIndex_20 : decode cX8_meanIndex 20 = .ok (.getfield 22, 3) := by decide +kernel
theorem dX8_meanIndex_23 : decode cX8_meanIndex 23 = .ok (.getfield 75, 3) := by decide +kernel
theorem dX8_meanIndex_26 : decode cX8_meanIndex 26 = .ok (.iload_n 2, 1) := by decide +kernel
theorem dX8_meanIndex_27 : decode cX8_meanIndex 27 = .ok (.iconst 0, 1) := by decide +kernel
theorem dX8_meanIndex_28 : decode cX8_meanIndex 28 = .ok (.invokevirtual 148, 3) := by decide +kernel
theorem dX8_meanIndex_31 : decode cX8_meanIndex 31 = .ok (.aload_n 0, 1) := by decide +kernel
theorem dX8_meanIndex_32 : decode cX8_meanIndex 32 = .ok (.getfield 22, 3) := by decide +kernel
theorem dX8_meanIndex_35 : decode cX8_meanIndex 35 = .ok (.getfield 75, 3) := by decide +kernel
theorem dX8_meanIndex_38 : decode cX8_meanIndex 38 = .ok (.iload_n 2, 1) := by decide +kernel
theorem dX8_meanIndex_39 : decode cX8_meanIndex 39 = .ok (.iconst 1, 1) := by decide +kernel
theorem dX8_meanIndex_40 : decode cX8_meanIndex 40 = .ok (.invokevirtual 148, 3) := by decide +kernel
theorem dX8_meanIndex_43 : decode cX8_meanIndex 43 = .ok (.imul, 1) := by decide +kernel
theorem dX8_meanIndex_44 : decode cX8_meanIndex 44 = .ok (.iadd, 1) := by decide +kernel
theorem dX8_meanIndex_45 : decode cX8_meanIndex 45 = .ok (.istore_n 1, 1) := by decide +kernel
theorem dX8_meanIndex_46 : decode cX8_meanIndex 46 = .ok (.iinc 2 1, 3) := by decide +kernel
theorem dX8_meanIndex_49 : decode cX8_meanIndex 49 = .ok (.goto (-45), 3) := by decide +kernel
theorem dX8_meanIndex_52 : decode cX8_meanIndex 52 = .ok (.aload_n 0, 1) := by decide +kernel
theorem dX8_meanIndex_53 : decode cX8_meanIndex 53 = .ok (.getfield 22, 3) := by decide +kernel
theorem dX8_meanIndex_56 : decode cX8_meanIndex 56 = .ok (.aload_n 0, 1) := by decide +kernel
theorem dX8_meanIndex_57 : decode cX8_meanIndex 57 = .ok (.getfield 22, 3) := by decide +kernel
theorem dX8_meanIndex_60 : decode cX8_meanIndex 60 = .ok (.getfield 75, 3) := by decide +kernel
theorem dX8_meanIndex_63 : decode cX8_meanIndex 63 = .ok (.getfield 114, 3) := by decide +kernel
theorem dX8_meanIndex_66 : decode cX8_meanIndex 66 = .ok (.invokevirtual 136, 3) := by decide +kernel
theorem dX8_meanIndex_69 : decode cX8_meanIndex 69 = .ok (.istore_n 2, 1) := by decide +kernel
theorem dX8_meanIndex_70 : decode cX8_meanIndex 70 = .ok (.iload_n 2, 1) := by decide +kernel
theorem dX8_meanIndex_71 : decode cX8_meanIndex 71 = .ok (.ifCond .le 11, 3) := by decide +kernel
theorem dX8_meanIndex_74 : decode cX8_meanIndex 74 = .ok (.iload_n 1, 1) := by decide +kernel
theorem dX8_meanIndex_75 : decode cX8_meanIndex 75 = .ok (.i2d, 1) := by decide +kernel
theorem dX8_meanIndex_76 : decode cX8_meanIndex 76 = .ok (.iload_n 2, 1) := by decide +kernel
theorem dX8_meanIndex_77 : decode cX8_meanIndex 77 = .ok (.i2d, 1) := by decide +kernel
theorem dX8_meanIndex_78 : decode cX8_meanIndex 78 = .ok (.ddiv, 1) := by decide +kernel
theorem dX8_meanIndex_79 : decode cX8_meanIndex 79 = .ok (.goto 4, 3) := by decide +kernel
theorem dX8_meanIndex_82 : decode cX8_meanIndex 82 = .ok (.dconst 0, 1) := by decide +kernel
theorem dX8_meanIndex_83 : decode cX8_meanIndex 83 = .ok (.dreturn, 1) := by decide +kernel
set_option maxRecDepth 20000 in
theorem ggX8_share_X8_checkShot : GoodIn wsX8_share wsX8_checkShot := goodIn_ca (goodIn_r _ [8, 9, 10, 1, 11, 12, 13, 14, 15, 16, 17, 148, 149, 150, 151, 152, 153, 154, 155, 156, 157, 158, 177, 178, 179, 180, 181, 182, 183] (by decide +kernel) (by decide +kernel)) (goodIn_sub (fun _ h => List.mem_cons_of_mem _ (List.mem_append_right _ h)) (by decide +kernel))
set_option maxRecDepth 20000 in
theorem gX8_share_X8_checkShot : GoodIn wsX8_share (wsV RX8 152 RX8 yX8_checkShot wsX8_checkShot) := goodIn_app (goodIn_of _ (by decide +kernel)) ggX8_share_X8_checkShot
set_option maxRecDepth 20000 in
set_option maxRecDepth 100000 in
theorem ggX8_share_X8_runOf : GoodIn wsX8_share wsX8_runOf := goodIn_r _ [21, 11, 22, 23, 24, 25, 26, 27, 28, 29, 30, 31, 32, 33, 34, 35, 36, 37, 38, 39, 40, 41, 42, 43, 44, 15, 45, 46, 47, 7, 48, 49, 50, 51, 52, 53, 54, 55, 56, 57, 58, 59, 60, 61, 62, 63, 64, 65, 66, 67, 68, 69, 70, 71, 72, 73, 74, 75, 76, 77, 13, 14, 16, 17, 78, 79, 80, 81, 82, 83, 84, 85, 86, 87, 88, 89, 90, 91, 92, 93, 94, 95, 96, 97, 98, 99, 100, 101, 102, 103, 104, 105, 106, 107, 108, 109, 110, 111, 112, 113, 114, 115, 116, 117, 118, 119, 120, 121, 122, 123, 124, 125, 126, 127, 128, 129, 130, 131, 132, 133, 134, 135, 136, 137, 138, 139, 140, 141, 142, 143, 144, 145, 146, 147, 177, 178, 179, 180, 181, 148, 149, 150, 151, 152, 153, 154, 155, 156, 157, 158, 159, 160, 161, 162, 163, 164, 165, 166, 167, 168, 169, 170, 171, 172, 173, 174, 175, 176, 182, 183] rfl (by decide +kernel)
set_option maxRecDepth 20000 in
theorem gX8_share_X8_runOf : GoodIn wsX8_share (wsV RX8 155 RX8 yX8_runOf wsX8_runOf) := goodIn_app (goodIn_of _ (by decide +kernel)) ggX8_share_X8_runOf
theorem dX8_share_0 : decode cX8_share 0 = .ok (.aload_n 0, 1) := by decide +kernel
theorem dX8_share_1 : decode cX8_share 1 = .ok (.iload_n 1, 1) := by decide +kernel
theorem dX8_share_2 : decode cX8_share 2 = .ok (.invokevirtual 152, 3) := by decide +kernel
theorem dX8_share_5 : decode cX8_share 5 = .ok (.aload_n 0, 1) := by decide +kernel
theorem dX8_share_6 : decode cX8_share 6 = .ok (.aload_n 0, 1) := by decide +kernel
theorem dX8_share_7 : decode cX8_share 7 = .ok (.getfield 22, 3) := by decide +kernel
theorem dX8_share_10 : decode cX8_share 10 = .ok (.iload_n 1, 1) := by decide +kernel
theorem dX8_share_11 : decode cX8_share 11 = .ok (.invokevirtual 155, 3) := by decide +kernel
theorem dX8_share_14 : decode cX8_share 14 = .ok (.getfield 174, 3) := by decide +kernel
theorem dX8_share_17 : decode cX8_share 17 = .ok (.i2f, 1) := by decide +kernel
theorem dX8_share_18 : decode cX8_share 18 = .ok (.ldc_w 273, 3) := by decide +kernel
theorem dX8_share_21 : decode cX8_share 21 = .ok (.fdiv, 1) := by decide +kernel
theorem dX8_share_22 : decode cX8_share 22 = .ok (.freturn, 1) := by decide +kernel
set_option maxRecDepth 20000 in
theorem ggX8_endIf_X8_checkShot : GoodIn wsX8_endIf wsX8_checkShot := goodIn_ca (goodIn_r _ [9, 10, 11, 2, 12, 13, 14, 15, 16, 17, 18, 182, 183, 184, 185, 186, 187, 188, 189, 190, 191, 192, 193, 194, 195, 196, 197, 216, 217] (by decide +kernel) (by decide +kernel)) (goodIn_sub (fun _ h => List.mem_cons_of_mem _ (List.mem_append_left _ (List.mem_append_right _ h))) (by decide +kernel))
set_option maxRecDepth 20000 in
theorem gX8_endIf_X8_checkShot : GoodIn wsX8_endIf (wsV RX8 152 RX8 yX8_checkShot wsX8_checkShot) := goodIn_app (goodIn_of _ (by decide +kernel)) ggX8_endIf_X8_checkShot
set_option maxRecDepth 20000 in
theorem ggX8_endIf_X8_checkLayer : GoodIn wsX8_endIf wsX8_checkLayer := goodIn_ca (goodIn_r _ [22, 10, 11, 2, 3, 13, 14, 15, 16, 17, 18, 182, 183, 184, 185, 186, 187, 188, 189, 190, 191, 192, 193, 194, 195, 196, 197, 216, 217] (by decide +kernel) (by decide +kernel)) (goodIn_sub (fun _ h => List.mem_cons_of_mem _ (List.mem_append_left _ (List.mem_append_right _ h))) (by decide +kernel))
set_option maxRecDepth 20000 in
theorem gX8_endIf_X8_checkLayer : GoodIn wsX8_endIf (wsV RX8 145 RX8 yX8_checkLayer wsX8_checkLayer) := goodIn_app (goodIn_of _ (by decide +kernel)) ggX8_endIf_X8_checkLayer
set_option maxRecDepth 20000 in
theorem ggX8_endIf_X8_checkRange : GoodIn wsX8_endIf wsX8_checkRange := goodIn_ca (goodIn_r _ [25, 26, 27] (by decide +kernel) (by decide +kernel)) (goodIn_sub (fun _ h => List.mem_cons_of_mem _ (List.mem_append_right _ h)) (by decide +kernel))
set_option maxRecDepth 20000 in
theorem gX8_endIf_X8_checkRange : GoodIn wsX8_endIf (va_wsS RX8 100 yX8_checkRange wsX8_checkRange) := goodIn_app (goodIn_of _ (by decide +kernel)) ggX8_endIf_X8_checkRange
set_option maxRecDepth 20000 in
set_option maxRecDepth 100000 in
theorem ggX8_endIf_X5_become : GoodIn wsX8_endIf wsX5_become := goodIn_r _ [32, 33, 34, 35, 36, 37, 38, 39, 40, 16, 41, 42, 43, 44, 45, 46, 47, 48, 49, 50, 18, 51, 52, 53, 31, 54, 193, 194, 195, 196, 197, 216, 217] rfl (by decide +kernel)
set_option maxRecDepth 20000 in
theorem gX8_endIf_X5_become : GoodIn wsX8_endIf (wsV RX8 111 RX5 yX5_become wsX5_become) := goodIn_app (goodIn_of _ (by decide +kernel)) ggX8_endIf_X5_become
set_option maxRecDepth 20000 in
set_option maxRecDepth 100000 in
theorem ggX8_endIf_X7_set : GoodIn wsX8_endIf wsX7_set := goodIn_r _ [58, 42, 59, 8, 60, 216, 217] rfl (by decide +kernel)
set_option maxRecDepth 20000 in
theorem gX8_endIf_X7_set : GoodIn wsX8_endIf (wsV RX8 274 RX7 yX7_set wsX7_set) := goodIn_app (goodIn_of _ (by decide +kernel)) ggX8_endIf_X7_set
set_option maxRecDepth 20000 in
set_option maxRecDepth 100000 in
theorem ggX8_endIf_X8_runOf : GoodIn wsX8_endIf wsX8_runOf := goodIn_r _ [64, 12, 65, 66, 67, 68, 69, 70, 71, 72, 73, 74, 75, 76, 77, 31, 78, 35, 33, 79, 36, 37, 80, 81, 82, 16, 83, 42, 59, 8, 60, 84, 85, 86, 87, 88, 89, 90, 91, 92, 93, 94, 95, 96, 97, 98, 99, 100, 101, 102, 103, 104, 105, 106, 107, 108, 109, 110, 111, 112, 14, 15, 17, 18, 113, 114, 115, 116, 117, 118, 119, 120, 121, 122, 123, 124, 125, 126, 45, 127, 128, 129, 130, 131, 132, 133, 134, 135, 136, 137, 138, 139, 140, 141, 142, 143, 144, 145, 146, 147, 148, 149, 150, 151, 152, 153, 154, 155, 156, 157, 158, 159, 160, 161, 162, 163, 164, 165, 166, 167, 168, 169, 170, 171, 172, 173, 174, 175, 176, 177, 178, 179, 180, 181, 193, 194, 195, 196, 197, 182, 183, 184, 185, 186, 187, 188, 189, 190, 191, 192, 198, 199, 200, 201, 202, 203, 204, 205, 206, 207, 208, 209, 210, 211, 212, 213, 214, 215, 216, 217] rfl (by decide +kernel)
set_option maxRecDepth 20000 in
theorem gX8_endIf_X8_runOf : GoodIn wsX8_endIf (wsV RX8 155 RX8 yX8_runOf wsX8_runOf) := goodIn_app (goodIn_of _ (by decide +kernel)) ggX8_endIf_X8_runOf
theorem dX8_endIf_0 : decode cX8_endIf 0 = .ok (.aload_n 0, 1) := by decide +kernel
theorem dX8_endIf_1 : decode cX8_endIf 1 = .ok (.iload_n 1, 1) := by decide +kernel
theorem dX8_endIf_2 : decode cX8_endIf 2 = .ok (.invokevirtual 152, 3) := by decide +kernel
theorem dX8_endIf_5 : decode cX8_endIf 5 = .ok (.aload_n 0, 1) := by decide +kernel
theorem dX8_endIf_6 : decode cX8_endIf 6 = .ok (.iload_n 2, 1) := by decide +kernel
theorem dX8_endIf_7 : decode cX8_endIf 7 = .ok (.invokevirtual 145, 3) := by decide +kernel
theorem dX8_endIf_10 : decode cX8_endIf 10 = .ok (.iload_n 3, 1) := by decide +kernel
theorem dX8_endIf_11 : decode cX8_endIf 11 = .ok (.sipush 1000, 3) := by decide +kernel
theorem dX8_endIf_14 : decode cX8_endIf 14 = .ok (.sipush 4000, 3) := by decide +kernel
theorem dX8_endIf_17 : decode cX8_endIf 17 = .ok (.invokestatic 100, 3) := by decide +kernel
theorem dX8_endIf_20 : decode cX8_endIf 20 = .ok (.aload_n 0, 1) := by decide +kernel
theorem dX8_endIf_21 : decode cX8_endIf 21 = .ok (.getfield 26, 3) := by decide +kernel
theorem dX8_endIf_24 : decode cX8_endIf 24 = .ok (.aload_n 0, 1) := by decide +kernel
theorem dX8_endIf_25 : decode cX8_endIf 25 = .ok (.getfield 22, 3) := by decide +kernel
theorem dX8_endIf_28 : decode cX8_endIf 28 = .ok (.invokevirtual 111, 3) := by decide +kernel
theorem dX8_endIf_31 : decode cX8_endIf 31 = .ok (.aload_n 0, 1) := by decide +kernel
theorem dX8_endIf_32 : decode cX8_endIf 32 = .ok (.getfield 26, 3) := by decide +kernel
theorem dX8_endIf_35 : decode cX8_endIf 35 = .ok (.getfield 75, 3) := by decide +kernel
theorem dX8_endIf_38 : decode cX8_endIf 38 = .ok (.iload_n 2, 1) := by decide +kernel
theorem dX8_endIf_39 : decode cX8_endIf 39 = .ok (.iconst 0, 1) := by decide +kernel
theorem dX8_endIf_40 : decode cX8_endIf 40 = .ok (.iload_n 3, 1) := by decide +kernel
theorem dX8_endIf_41 : decode cX8_endIf 41 = .ok (.invokevirtual 274, 3) := by decide +kernel
theorem dX8_endIf_44 : decode cX8_endIf 44 = .ok (.aload_n 0, 1) := by decide +kernel
theorem dX8_endIf_45 : decode cX8_endIf 45 = .ok (.aload_n 0, 1) := by decide +kernel
theorem dX8_endIf_46 : decode cX8_endIf 46 = .ok (.getfield 26, 3) := by decide +kernel
theorem dX8_endIf_49 : decode cX8_endIf 49 = .ok (.iload_n 1, 1) := by decide +kernel
theorem dX8_endIf_50 : decode cX8_endIf 50 = .ok (.invokevirtual 155, 3) := by decide +kernel
theorem dX8_endIf_53 : decode cX8_endIf 53 = .ok (.getfield 162, 3) := by decide +kernel
theorem dX8_endIf_56 : decode cX8_endIf 56 = .ok (.ireturn, 1) := by decide +kernel
set_option maxRecDepth 20000 in
theorem ggX8_bestWithout_X8_checkShot : GoodIn wsX8_bestWithout wsX8_checkShot := goodIn_ca (goodIn_r _ [10, 11, 12, 1, 13, 14, 15, 16, 17, 18, 19, 183, 184, 185, 186, 187, 188, 189, 190, 191, 192, 193, 194, 195, 196, 197, 198, 199, 200] (by decide +kernel) (by decide +kernel)) (goodIn_sub (fun _ h => List.mem_cons_of_mem _ (List.mem_append_right _ h)) (by decide +kernel))
set_option maxRecDepth 20000 in
theorem gX8_bestWithout_X8_checkShot : GoodIn wsX8_bestWithout (wsV RX8 152 RX8 yX8_checkShot wsX8_checkShot) := goodIn_app (goodIn_of _ (by decide +kernel)) ggX8_bestWithout_X8_checkShot
set_option maxRecDepth 20000 in
set_option maxRecDepth 100000 in
theorem ggX8_bestWithout_X5_become : GoodIn wsX8_bestWithout wsX5_become := goodIn_r _ [24, 25, 26, 27, 28, 29, 30, 31, 32, 17, 33, 34, 35, 36, 37, 38, 39, 40, 41, 42, 19, 43, 44, 45, 23, 46, 194, 195, 196, 197, 198, 199, 200] rfl (by decide +kernel)
set_option maxRecDepth 20000 in
theorem gX8_bestWithout_X5_become : GoodIn wsX8_bestWithout (wsV RX8 111 RX5 yX5_become wsX5_become) := goodIn_app (goodIn_of _ (by decide +kernel)) ggX8_bestWithout_X5_become
set_option maxRecDepth 20000 in
set_option maxRecDepth 100000 in
theorem ggX8_bestWithout_X7_remove : GoodIn wsX8_bestWithout wsX7_remove := goodIn_r _ [50, 19, 51, 52, 53, 17, 54, 55, 56, 57, 58, 34, 59, 60, 61, 62, 63, 9, 64, 199, 200] rfl (by decide +kernel)
set_option maxRecDepth 20000 in
theorem gX8_bestWithout_X7_remove : GoodIn wsX8_bestWithout (wsV RX8 277 RX7 yX7_remove wsX7_remove) := goodIn_app (goodIn_of _ (by decide +kernel)) ggX8_bestWithout_X7_remove
set_option maxRecDepth 20000 in
set_option maxRecDepth 100000 in
theorem ggX8_bestWithout_X8_runOf : GoodIn wsX8_bestWithout wsX8_runOf := goodIn_r _ [68, 13, 69, 70, 71, 72, 73, 74, 75, 76, 77, 78, 79, 80, 81, 23, 82, 27, 25, 83, 28, 29, 84, 56, 57, 17, 58, 34, 63, 9, 64, 85, 86, 87, 88, 89, 90, 91, 92, 93, 94, 95, 96, 97, 98, 99, 100, 101, 102, 103, 104, 105, 106, 107, 108, 109, 110, 111, 112, 113, 15, 16, 18, 19, 114, 115, 116, 117, 118, 119, 120, 121, 122, 123, 124, 125, 126, 127, 37, 128, 129, 130, 131, 132, 133, 134, 135, 136, 137, 138, 139, 140, 141, 142, 143, 144, 145, 146, 147, 148, 149, 150, 151, 152, 153, 154, 155, 156, 157, 158, 159, 160, 161, 162, 163, 164, 165, 166, 167, 168, 169, 170, 171, 172, 173, 174, 175, 176, 177, 178, 179, 180, 181, 182, 194, 195, 196, 197, 198, 183, 184, 185, 186, 187, 188, 189, 190, 191, 192, 193, 201, 202, 203, 204, 205, 206, 207, 208, 209, 210, 211, 212, 213, 214, 215, 216, 217, 218, 199, 200] rfl (by decide +kernel)
set_option maxRecDepth 20000 in
theorem gX8_bestWithout_X8_runOf : GoodIn wsX8_bestWithout (wsV RX8 155 RX8 yX8_runOf wsX8_runOf) := goodIn_app (goodIn_of _ (by decide +kernel)) ggX8_bestWithout_X8_runOf
theorem dX8_bestWithout_0 : decode cX8_bestWithout 0 = .ok (.aload_n 0, 1) := by decide +kernel
theorem dX8_bestWithout_1 : decode cX8_bestWithout 1 = .ok (.iload_n 1, 1) := by decide +kernel
theorem dX8_bestWithout_2 : decode cX8_bestWithout 2 = .ok (.invokevirtual 152, 3) := by decide +kernel
theorem dX8_bestWithout_5 : decode cX8_bestWithout 5 = .ok (.aload_n 0, 1) := by decide +kernel
theorem dX8_bestWithout_6 : decode cX8_bestWithout 6 = .ok (.getfield 22, 3) := by decide +kernel
theorem dX8_bestWithout_9 : decode cX8_bestWithout 9 = .ok (.getfield 75, 3) := by decide +kernel
theorem dX8_bestWithout_12 : decode cX8_bestWithout 12 = .ok (.getfield 114, 3) := by decide +kernel
theorem dX8_bestWithout_15 : decode cX8_bestWithout 15 = .ok (.iconst 2, 1) := by decide +kernel
theorem dX8_bestWithout_16 : decode cX8_bestWithout 16 = .ok (.if_icmp .ge 5, 3) := by decide +kernel
theorem dX8_bestWithout_19 : decode cX8_bestWithout 19 = .ok (.iconst (-1), 1) := by decide +kernel
theorem dX8_bestWithout_20 : decode cX8_bestWithout 20 = .ok (.ireturn, 1) := by decide +kernel
theorem dX8_bestWithout_21 : decode cX8_bestWithout 21 = .ok (.iconst (-1), 1) := by decide +kernel
theorem dX8_bestWithout_22 : decode cX8_bestWithout 22 = .ok (.istore_n 2, 1) := by decide +kernel
theorem dX8_bestWithout_23 : decode cX8_bestWithout 23 = .ok (.iconst 0, 1) := by decide +kernel
theorem dX8_bestWithout_24 : decode cX8_bestWithout 24 = .ok (.istore_n 3, 1) := by decide +kernel
theorem dX8_bestWithout_25 : decode cX8_bestWithout 25 = .ok (.iconst 0, 1) := by decide +kernel
theorem dX8_bestWithout_26 : decode cX8_bestWithout 26 = .ok (.istore 4, 2) := by decide +kernel
theorem dX8_bestWithout_28 : decode cX8_bestWithout 28 = .ok (.iload 4, 2) := by decide +kernel
theorem dX8_bestWithout_30 : decode cX8_bestWithout 30 = .ok (.aload_n 0, 1) := by decide +kernel
theorem dX8_bestWithout_31 : decode cX8_bestWithout 31 = .ok (.getfield 22, 3) := by decide +kernel
theorem dX8_bestWithout_34 : decode cX8_bestWithout 34 = .ok (.getfield 75, 3) := by decide +kernel
theorem dX8_bestWithout_37 : decode cX8_bestWithout 37 = .ok (.getfield 114, 3) := by decide +kernel
theorem dX8_bestWithout_40 : decode cX8_bestWithout 40 = .ok (.if_icmp .ge 63, 3) := by decide +kernel
theorem dX8_bestWithout_43 : decode cX8_bestWithout 43 = .ok (.aload_n 0, 1) := by decide +kernel
theorem dX8_bestWithout_44 : decode cX8_bestWithout 44 = .ok (.getfield 26, 3) := by decide +kernel
theorem dX8_bestWithout_47 : decode cX8_bestWithout 47 = .ok (.aload_n 0, 1) := by decide +kernel
theorem dX8_bestWithout_48 : decode cX8_bestWithout 48 = .ok (.getfield 22, 3) := by decide +kernel
theorem dX8_bestWithout_51 : decode cX8_bestWithout 51 = .ok (.invokevirtual 111, 3) := by decide +kernel
theorem dX8_bestWithout_54 : decode cX8_bestWithout 54 = .ok (.aload_n 0, 1) := by decide +kernel
theorem dX8_bestWithout_55 : decode cX8_bestWithout 55 = .ok (.getfield 26, 3) := by decide +kernel
theorem dX8_bestWithout_58 : decode cX8_bestWithout 58 = .ok (.getfield 75, 3) := by decide +kernel
theorem dX8_bestWithout_61 : decode cX8_bestWithout 61 = .ok (.iload 4, 2) := by decide +kernel
theorem dX8_bestWithout_63 : decode cX8_bestWithout 63 = .ok (.invokevirtual 277, 3) := by decide +kernel
theorem dX8_bestWithout_66 : decode cX8_bestWithout 66 = .ok (.aload_n 0, 1) := by decide +kernel
theorem dX8_bestWithout_67 : decode cX8_bestWithout 67 = .ok (.aload_n 0, 1) := by decide +kernel
theorem dX8_bestWithout_68 : decode cX8_bestWithout 68 = .ok (.getfield 26, 3) := by decide +kernel
theorem dX8_bestWithout_71 : decode cX8_bestWithout 71 = .ok (.iload_n 1, 1) := by decide +kernel
theorem dX8_bestWithout_72 : decode cX8_bestWithout 72 = .ok (.invokevirtual 155, 3) := by decide +kernel
theorem dX8_bestWithout_75 : decode cX8_bestWithout 75 = .ok (.getfield 174, 3) := by decide +kernel
theorem dX8_bestWithout_78 : decode cX8_bestWithout 78 = .ok (.istore 5, 2) := by decide +kernel
theorem dX8_bestWithout_80 : decode cX8_bestWithout 80 = .ok (.iload_n 2, 1) := by decide +kernel
theorem dX8_bestWithout_81 : decode cX8_bestWithout 81 = .ok (.iconst (-1), 1) := by decide +kernel
theorem dX8_bestWithout_82 : decode cX8_bestWithout 82 = .ok (.if_icmp .eq 9, 3) := by decide +kernel
theorem dX8_bestWithout_85 : decode cX8_bestWithout 85 = .ok (.iload 5, 2) := by decide +kernel
theorem dX8_bestWithout_87 : decode cX8_bestWithout 87 = .ok (.iload_n 3, 1) := by decide +kernel
theorem dX8_bestWithout_88 : decode cX8_bestWithout 88 = .ok (.if_icmp .le 9, 3) := by decide +kernel
theorem dX8_bestWithout_91 : decode cX8_bestWithout 91 = .ok (.iload 4, 2) := by decide +kernel
theorem dX8_bestWithout_93 : decode cX8_bestWithout 93 = .ok (.istore_n 2, 1) := by decide +kernel
theorem dX8_bestWithout_94 : decode cX8_bestWithout 94 = .ok (.iload 5, 2) := by decide +kernel
theorem dX8_bestWithout_96 : decode cX8_bestWithout 96 = .ok (.istore_n 3, 1) := by decide +kernel
theorem dX8_bestWithout_97 : decode cX8_bestWithout 97 = .ok (.iinc 4 1, 3) := by decide +kernel
theorem dX8_bestWithout_100 : decode cX8_bestWithout 100 = .ok (.goto (-72), 3) := by decide +kernel
theorem dX8_bestWithout_103 : decode cX8_bestWithout 103 = .ok (.iload_n 2, 1) := by decide +kernel
theorem dX8_bestWithout_104 : decode cX8_bestWithout 104 = .ok (.ireturn, 1) := by decide +kernel
set_option maxRecDepth 20000 in
theorem ggX8_addLayer_X8_checkRange : GoodIn wsX8_addLayer wsX8_checkRange := goodIn_ca (goodIn_r _ [12, 13, 14] (by decide +kernel) (by decide +kernel)) (goodIn_sub (fun _ h => List.mem_cons_of_mem _ (List.mem_append_right _ h)) (by decide +kernel))
set_option maxRecDepth 20000 in
theorem gX8_addLayer_X8_checkRange : GoodIn wsX8_addLayer (va_wsS RX8 100 yX8_checkRange wsX8_checkRange) := goodIn_app (goodIn_of _ (by decide +kernel)) ggX8_addLayer_X8_checkRange
set_option maxRecDepth 20000 in
set_option maxRecDepth 100000 in
theorem ggX8_addLayer_X1_remember : GoodIn wsX8_addLayer wsX1_remember := goodIn_r _ [19, 20, 21, 22, 23, 24, 25, 26, 27, 28, 29, 30, 11, 31, 32, 33, 34, 35, 36, 37, 38, 39, 40, 41, 42, 43, 44, 45, 46, 47, 48, 49, 50, 51, 52, 53, 54, 55, 56, 57, 58, 59, 60, 61, 62, 63, 64, 65, 66, 67, 104, 105, 106, 97, 98, 99, 100, 101, 102, 103] rfl (by decide +kernel)
set_option maxRecDepth 20000 in
theorem gX8_addLayer_X1_remember : GoodIn wsX8_addLayer (wsV RX8 108 RX1 yX1_remember wsX1_remember) := goodIn_app (goodIn_of _ (by decide +kernel)) ggX8_addLayer_X1_remember
set_option maxRecDepth 20000 in
set_option maxRecDepth 100000 in
theorem ggX8_addLayer_X7_insert : GoodIn wsX8_addLayer wsX7_insert := goodIn_r _ [71, 50, 72, 73, 74, 39, 75, 76, 77, 78, 79, 49, 80, 81, 82, 83, 84, 11, 85, 102, 103] rfl (by decide +kernel)
set_option maxRecDepth 20000 in
theorem gX8_addLayer_X7_insert : GoodIn wsX8_addLayer (wsV RX8 79 RX7 yX7_insert wsX7_insert) := goodIn_app (goodIn_of _ (by decide +kernel)) ggX8_addLayer_X7_insert
theorem dX8_addLayer_0 : decode cX8_addLayer 0 = .ok (.iload_n 1, 1) := by decide +kernel
theorem dX8_addLayer_1 : decode cX8_addLayer 1 = .ok (.ifCond .lt 17, 3) := by decide +kernel
theorem dX8_addLayer_4 : decode cX8_addLayer 4 = .ok (.iload_n 1, 1) := by decide +kernel
theorem dX8_addLayer_5 : decode cX8_addLayer 5 = .ok (.aload_n 0, 1) := by decide +kernel
theorem dX8_addLayer_6 : decode cX8_addLayer 6 = .ok (.getfield 22, 3) := by decide +kernel
theorem dX8_addLayer_9 : decode cX8_addLayer 9 = .ok (.getfield 75, 3) := by decide +kernel
theorem dX8_addLayer_12 : decode cX8_addLayer 12 = .ok (.getfield 114, 3) := by decide +kernel
theorem dX8_addLayer_15 : decode cX8_addLayer 15 = .ok (.if_icmp .le 14, 3) := by decide +kernel
theorem dX8_addLayer_18 : decode cX8_addLayer 18 = .ok (.new 196, 3) := by decide +kernel
theorem dX8_addLayer_21 : decode cX8_addLayer 21 = .ok (.dup, 1) := by decide +kernel
theorem dX8_addLayer_22 : decode cX8_addLayer 22 = .ok (.ldc_w 280, 3) := by decide +kernel
theorem dX8_addLayer_25 : decode cX8_addLayer 25 = .ok (.invokespecial 200, 3) := by decide +kernel
theorem dX8_addLayer_28 : decode cX8_addLayer 28 = .ok (.athrow, 1) := by decide +kernel
theorem dX8_addLayer_29 : decode cX8_addLayer 29 = .ok (.iload_n 2, 1) := by decide +kernel
theorem dX8_addLayer_30 : decode cX8_addLayer 30 = .ok (.sipush 1000, 3) := by decide +kernel
theorem dX8_addLayer_33 : decode cX8_addLayer 33 = .ok (.sipush 4000, 3) := by decide +kernel
theorem dX8_addLayer_36 : decode cX8_addLayer 36 = .ok (.invokestatic 100, 3) := by decide +kernel
theorem dX8_addLayer_39 : decode cX8_addLayer 39 = .ok (.iload_n 3, 1) := by decide +kernel
theorem dX8_addLayer_40 : decode cX8_addLayer 40 = .ok (.iconst 1, 1) := by decide +kernel
theorem dX8_addLayer_41 : decode cX8_addLayer 41 = .ok (.sipush 999, 3) := by decide +kernel
theorem dX8_addLayer_44 : decode cX8_addLayer 44 = .ok (.invokestatic 100, 3) := by decide +kernel
theorem dX8_addLayer_47 : decode cX8_addLayer 47 = .ok (.iload 4, 2) := by decide +kernel
theorem dX8_addLayer_49 : decode cX8_addLayer 49 = .ok (.iconst 0, 1) := by decide +kernel
theorem dX8_addLayer_50 : decode cX8_addLayer 50 = .ok (.bipush 99, 2) := by decide +kernel
theorem dX8_addLayer_52 : decode cX8_addLayer 52 = .ok (.invokestatic 100, 3) := by decide +kernel
theorem dX8_addLayer_55 : decode cX8_addLayer 55 = .ok (.aload_n 0, 1) := by decide +kernel
theorem dX8_addLayer_56 : decode cX8_addLayer 56 = .ok (.getfield 22, 3) := by decide +kernel
theorem dX8_addLayer_59 : decode cX8_addLayer 59 = .ok (.getfield 75, 3) := by decide +kernel
theorem dX8_addLayer_62 : decode cX8_addLayer 62 = .ok (.getfield 114, 3) := by decide +kernel
theorem dX8_addLayer_65 : decode cX8_addLayer 65 = .ok (.bipush 10, 2) := by decide +kernel
theorem dX8_addLayer_67 : decode cX8_addLayer 67 = .ok (.if_icmp .lt 14, 3) := by decide +kernel
theorem dX8_addLayer_70 : decode cX8_addLayer 70 = .ok (.new 89, 3) := by decide +kernel
theorem dX8_addLayer_73 : decode cX8_addLayer 73 = .ok (.dup, 1) := by decide +kernel
theorem dX8_addLayer_74 : decode cX8_addLayer 74 = .ok (.ldc_w 282, 3) := by decide +kernel
theorem dX8_addLayer_77 : decode cX8_addLayer 77 = .ok (.invokespecial 93, 3) := by decide +kernel
theorem dX8_addLayer_80 : decode cX8_addLayer 80 = .ok (.athrow, 1) := by decide +kernel
theorem dX8_addLayer_81 : decode cX8_addLayer 81 = .ok (.aload_n 0, 1) := by decide +kernel
theorem dX8_addLayer_82 : decode cX8_addLayer 82 = .ok (.getfield 32, 3) := by decide +kernel
theorem dX8_addLayer_85 : decode cX8_addLayer 85 = .ok (.aload_n 0, 1) := by decide +kernel
theorem dX8_addLayer_86 : decode cX8_addLayer 86 = .ok (.getfield 22, 3) := by decide +kernel
theorem dX8_addLayer_89 : decode cX8_addLayer 89 = .ok (.invokevirtual 108, 3) := by decide +kernel
theorem dX8_addLayer_92 : decode cX8_addLayer 92 = .ok (.aload_n 0, 1) := by decide +kernel
theorem dX8_addLayer_93 : decode cX8_addLayer 93 = .ok (.getfield 22, 3) := by decide +kernel
theorem dX8_addLayer_96 : decode cX8_addLayer 96 = .ok (.getfield 75, 3) := by decide +kernel
theorem dX8_addLayer_99 : decode cX8_addLayer 99 = .ok (.iload_n 1, 1) := by decide +kernel
theorem dX8_addLayer_100 : decode cX8_addLayer 100 = .ok (.iload_n 2, 1) := by decide +kernel
theorem dX8_addLayer_101 : decode cX8_addLayer 101 = .ok (.iload_n 3, 1) := by decide +kernel
theorem dX8_addLayer_102 : decode cX8_addLayer 102 = .ok (.iload 4, 2) := by decide +kernel
theorem dX8_addLayer_104 : decode cX8_addLayer 104 = .ok (.invokevirtual 79, 3) := by decide +kernel
theorem dX8_addLayer_107 : decode cX8_addLayer 107 = .ok (.aload_n 0, 1) := by decide +kernel
theorem dX8_addLayer_108 : decode cX8_addLayer 108 = .ok (.getfield 22, 3) := by decide +kernel
theorem dX8_addLayer_111 : decode cX8_addLayer 111 = .ok (.getfield 75, 3) := by decide +kernel
theorem dX8_addLayer_114 : decode cX8_addLayer 114 = .ok (.getfield 114, 3) := by decide +kernel
theorem dX8_addLayer_117 : decode cX8_addLayer 117 = .ok (.ireturn, 1) := by decide +kernel
set_option maxRecDepth 20000 in
theorem ggX8_removeLayer_X8_checkLayer : GoodIn wsX8_removeLayer wsX8_checkLayer := goodIn_ca (goodIn_r _ [11, 12, 13, 3, 4, 14, 15, 16, 17, 18, 19, 89, 90, 91, 92, 93, 94, 95, 96, 97, 98, 99, 100, 101, 102, 103, 104, 105, 106] (by decide +kernel) (by decide +kernel)) (goodIn_sub (fun _ h => List.mem_cons_of_mem _ (List.mem_append_right _ h)) (by decide +kernel))
set_option maxRecDepth 20000 in
theorem gX8_removeLayer_X8_checkLayer : GoodIn wsX8_removeLayer (wsV RX8 145 RX8 yX8_checkLayer wsX8_checkLayer) := goodIn_app (goodIn_of _ (by decide +kernel)) ggX8_removeLayer_X8_checkLayer
set_option maxRecDepth 20000 in
set_option maxRecDepth 100000 in
theorem ggX8_removeLayer_X1_remember : GoodIn wsX8_removeLayer wsX1_remember := goodIn_r _ [24, 25, 26, 27, 28, 29, 30, 31, 32, 33, 34, 35, 10, 36, 37, 38, 39, 40, 41, 42, 43, 17, 44, 45, 46, 47, 48, 49, 50, 51, 52, 53, 19, 54, 55, 56, 57, 58, 59, 60, 61, 62, 63, 64, 65, 66, 67, 68, 69, 70, 107, 108, 109, 100, 101, 102, 103, 104, 105, 106] rfl (by decide +kernel)
set_option maxRecDepth 20000 in
theorem gX8_removeLayer_X1_remember : GoodIn wsX8_removeLayer (wsV RX8 108 RX1 yX1_remember wsX1_remember) := goodIn_app (goodIn_of _ (by decide +kernel)) ggX8_removeLayer_X1_remember
set_option maxRecDepth 20000 in
set_option maxRecDepth 100000 in
theorem ggX8_removeLayer_X7_remove : GoodIn wsX8_removeLayer wsX7_remove := goodIn_r _ [74, 19, 75, 76, 77, 17, 78, 79, 80, 81, 82, 53, 83, 84, 85, 86, 87, 10, 88, 105, 106] rfl (by decide +kernel)
set_option maxRecDepth 20000 in
theorem gX8_removeLayer_X7_remove : GoodIn wsX8_removeLayer (wsV RX8 277 RX7 yX7_remove wsX7_remove) := goodIn_app (goodIn_of _ (by decide +kernel)) ggX8_removeLayer_X7_remove
theorem dX8_removeLayer_0 : decode cX8_removeLayer 0 = .ok (.aload_n 0, 1) := by decide +kernel
theorem dX8_removeLayer_1 : decode cX8_removeLayer 1 = .ok (.iload_n 1, 1) := by decide +kernel
theorem dX8_removeLayer_2 : decode cX8_removeLayer 2 = .ok (.invokevirtual 145, 3) := by decide +kernel
theorem dX8_removeLayer_5 : decode cX8_removeLayer 5 = .ok (.aload_n 0, 1) := by decide +kernel
theorem dX8_removeLayer_6 : decode cX8_removeLayer 6 = .ok (.getfield 22, 3) := by decide +kernel
theorem dX8_removeLayer_9 : decode cX8_removeLayer 9 = .ok (.getfield 75, 3) := by decide +kernel
theorem dX8_removeLayer_12 : decode cX8_removeLayer 12 = .ok (.getfield 114, 3) := by decide +kernel
theorem dX8_removeLayer_15 : decode cX8_removeLayer 15 = .ok (.iconst 2, 1) := by decide +kernel
theorem dX8_removeLayer_16 : decode cX8_removeLayer 16 = .ok (.if_icmp .ge 14, 3) := by decide +kernel
theorem dX8_removeLayer_19 : decode cX8_removeLayer 19 = .ok (.new 89, 3) := by decide +kernel
theorem dX8_removeLayer_22 : decode cX8_removeLayer 22 = .ok (.dup, 1) := by decide +kernel
theorem dX8_removeLayer_23 : decode cX8_removeLayer 23 = .ok (.ldc_w 284, 3) := by decide +kernel
theorem dX8_removeLayer_26 : decode cX8_removeLayer 26 = .ok (.invokespecial 93, 3) := by decide +kernel
theorem dX8_removeLayer_29 : decode cX8_removeLayer 29 = .ok (.athrow, 1) := by decide +kernel
theorem dX8_removeLayer_30 : decode cX8_removeLayer 30 = .ok (.aload_n 0, 1) := by decide +kernel
theorem dX8_removeLayer_31 : decode cX8_removeLayer 31 = .ok (.getfield 32, 3) := by decide +kernel
theorem dX8_removeLayer_34 : decode cX8_removeLayer 34 = .ok (.aload_n 0, 1) := by decide +kernel
theorem dX8_removeLayer_35 : decode cX8_removeLayer 35 = .ok (.getfield 22, 3) := by decide +kernel
theorem dX8_removeLayer_38 : decode cX8_removeLayer 38 = .ok (.invokevirtual 108, 3) := by decide +kernel
theorem dX8_removeLayer_41 : decode cX8_removeLayer 41 = .ok (.aload_n 0, 1) := by decide +kernel
theorem dX8_removeLayer_42 : decode cX8_removeLayer 42 = .ok (.getfield 22, 3) := by decide +kernel
theorem dX8_removeLayer_45 : decode cX8_removeLayer 45 = .ok (.getfield 75, 3) := by decide +kernel
theorem dX8_removeLayer_48 : decode cX8_removeLayer 48 = .ok (.iload_n 1, 1) := by decide +kernel
theorem dX8_removeLayer_49 : decode cX8_removeLayer 49 = .ok (.invokevirtual 277, 3) := by decide +kernel
theorem dX8_removeLayer_52 : decode cX8_removeLayer 52 = .ok (.aload_n 0, 1) := by decide +kernel
theorem dX8_removeLayer_53 : decode cX8_removeLayer 53 = .ok (.getfield 22, 3) := by decide +kernel
theorem dX8_removeLayer_56 : decode cX8_removeLayer 56 = .ok (.getfield 75, 3) := by decide +kernel
theorem dX8_removeLayer_59 : decode cX8_removeLayer 59 = .ok (.getfield 114, 3) := by decide +kernel
theorem dX8_removeLayer_62 : decode cX8_removeLayer 62 = .ok (.ireturn, 1) := by decide +kernel
set_option maxRecDepth 20000 in
theorem ggX8_setLayer_X8_checkLayer : GoodIn wsX8_setLayer wsX8_checkLayer := goodIn_ca (goodIn_r _ [8, 9, 10, 2, 3, 11, 12, 13, 14, 15, 16, 86, 87, 88, 89, 90, 91, 92, 93, 94, 95, 96, 97, 98, 99, 100, 101, 102, 103] (by decide +kernel) (by decide +kernel)) (goodIn_sub (fun _ h => List.mem_cons_of_mem _ (List.mem_append_left _ (List.mem_append_right _ h))) (by decide +kernel))
set_option maxRecDepth 20000 in
theorem gX8_setLayer_X8_checkLayer : GoodIn wsX8_setLayer (wsV RX8 145 RX8 yX8_checkLayer wsX8_checkLayer) := goodIn_app (goodIn_of _ (by decide +kernel)) ggX8_setLayer_X8_checkLayer
set_option maxRecDepth 20000 in
theorem ggX8_setLayer_X8_checkLayerValue : GoodIn wsX8_setLayer wsX8_checkLayerValue := goodIn_ca (goodIn_r _ [19, 20, 21, 22, 23, 7, 24] (by decide +kernel) (by decide +kernel)) (goodIn_sub (fun _ h => List.mem_cons_of_mem _ (List.mem_append_right _ h)) (by decide +kernel))
set_option maxRecDepth 20000 in
theorem gX8_setLayer_X8_checkLayerValue : GoodIn wsX8_setLayer (va_wsS RX8 286 yX8_checkLayerValue wsX8_checkLayerValue) := goodIn_app (goodIn_of _ (by decide +kernel)) ggX8_setLayer_X8_checkLayerValue
set_option maxRecDepth 20000 in
set_option maxRecDepth 100000 in
theorem ggX8_setLayer_X1_remember : GoodIn wsX8_setLayer wsX1_remember := goodIn_r _ [29, 30, 31, 32, 33, 34, 35, 36, 37, 38, 39, 40, 7, 41, 42, 43, 44, 45, 46, 47, 48, 14, 49, 50, 51, 52, 53, 54, 55, 56, 57, 58, 16, 59, 60, 61, 62, 63, 64, 65, 66, 67, 68, 69, 70, 71, 72, 73, 74, 75, 104, 105, 106, 97, 98, 99, 100, 101, 102, 103] rfl (by decide +kernel)
set_option maxRecDepth 20000 in
theorem gX8_setLayer_X1_remember : GoodIn wsX8_setLayer (wsV RX8 108 RX1 yX1_remember wsX1_remember) := goodIn_app (goodIn_of _ (by decide +kernel)) ggX8_setLayer_X1_remember
set_option maxRecDepth 20000 in
set_option maxRecDepth 100000 in
theorem ggX8_setLayer_X7_get : GoodIn wsX8_setLayer wsX7_get := goodIn_r _ [79, 58, 102, 103] rfl (by decide +kernel)
set_option maxRecDepth 20000 in
theorem gX8_setLayer_X7_get : GoodIn wsX8_setLayer (wsV RX8 148 RX7 yX7_get wsX7_get) := goodIn_app (goodIn_of _ (by decide +kernel)) ggX8_setLayer_X7_get
set_option maxRecDepth 20000 in
set_option maxRecDepth 100000 in
theorem ggX8_setLayer_X7_set : GoodIn wsX8_setLayer wsX7_set := goodIn_r _ [83, 58, 84, 7, 85, 102, 103] rfl (by decide +kernel)
set_option maxRecDepth 20000 in
theorem gX8_setLayer_X7_set : GoodIn wsX8_setLayer (wsV RX8 274 RX7 yX7_set wsX7_set) := goodIn_app (goodIn_of _ (by decide +kernel)) ggX8_setLayer_X7_set
theorem dX8_setLayer_0 : decode cX8_setLayer 0 = .ok (.aload_n 0, 1) := by decide +kernel
theorem dX8_setLayer_1 : decode cX8_setLayer 1 = .ok (.iload_n 1, 1) := by decide +kernel
theorem dX8_setLayer_2 : decode cX8_setLayer 2 = .ok (.invokevirtual 145, 3) := by decide +kernel
theorem dX8_setLayer_5 : decode cX8_setLayer 5 = .ok (.iload_n 2, 1) := by decide +kernel
theorem dX8_setLayer_6 : decode cX8_setLayer 6 = .ok (.iload_n 3, 1) := by decide +kernel
theorem dX8_setLayer_7 : decode cX8_setLayer 7 = .ok (.invokestatic 286, 3) := by decide +kernel
theorem dX8_setLayer_10 : decode cX8_setLayer 10 = .ok (.aload_n 0, 1) := by decide +kernel
theorem dX8_setLayer_11 : decode cX8_setLayer 11 = .ok (.getfield 32, 3) := by decide +kernel
theorem dX8_setLayer_14 : decode cX8_setLayer 14 = .ok (.aload_n 0, 1) := by decide +kernel
theorem dX8_setLayer_15 : decode cX8_setLayer 15 = .ok (.getfield 22, 3) := by decide +kernel
theorem dX8_setLayer_18 : decode cX8_setLayer 18 = .ok (.invokevirtual 108, 3) := by decide +kernel
theorem dX8_setLayer_21 : decode cX8_setLayer 21 = .ok (.aload_n 0, 1) := by decide +kernel
theorem dX8_setLayer_22 : decode cX8_setLayer 22 = .ok (.getfield 22, 3) := by decide +kernel
theorem dX8_setLayer_25 : decode cX8_setLayer 25 = .ok (.getfield 75, 3) := by decide +kernel
theorem dX8_setLayer_28 : decode cX8_setLayer 28 = .ok (.iload_n 1, 1) := by decide +kernel
theorem dX8_setLayer_29 : decode cX8_setLayer 29 = .ok (.iload_n 2, 1) := by decide +kernel
theorem dX8_setLayer_30 : decode cX8_setLayer 30 = .ok (.invokevirtual 148, 3) := by decide +kernel
theorem dX8_setLayer_33 : decode cX8_setLayer 33 = .ok (.istore 4, 2) := by decide +kernel
theorem dX8_setLayer_35 : decode cX8_setLayer 35 = .ok (.aload_n 0, 1) := by decide +kernel
theorem dX8_setLayer_36 : decode cX8_setLayer 36 = .ok (.getfield 22, 3) := by decide +kernel
theorem dX8_setLayer_39 : decode cX8_setLayer 39 = .ok (.getfield 75, 3) := by decide +kernel
theorem dX8_setLayer_42 : decode cX8_setLayer 42 = .ok (.iload_n 1, 1) := by decide +kernel
theorem dX8_setLayer_43 : decode cX8_setLayer 43 = .ok (.iload_n 2, 1) := by decide +kernel
theorem dX8_setLayer_44 : decode cX8_setLayer 44 = .ok (.iload_n 3, 1) := by decide +kernel
theorem dX8_setLayer_45 : decode cX8_setLayer 45 = .ok (.invokevirtual 274, 3) := by decide +kernel
theorem dX8_setLayer_48 : decode cX8_setLayer 48 = .ok (.iload 4, 2) := by decide +kernel
theorem dX8_setLayer_50 : decode cX8_setLayer 50 = .ok (.ireturn, 1) := by decide +kernel
set_option maxRecDepth 20000 in
theorem ggX8_swapLayers_X8_checkLayer : GoodIn wsX8_swapLayers wsX8_checkLayer := goodIn_ca (goodIn_r _ [14, 15, 16, 4, 6, 17, 18, 19, 20, 21, 22, 207, 208, 209, 210, 211, 212, 213, 214, 215, 216, 217, 218, 219, 220, 221, 222, 223, 224] (by decide +kernel) (by decide +kernel)) (goodIn_sub (fun _ h => List.mem_cons_of_mem _ (List.mem_append_right _ h)) (by decide +kernel))
set_option maxRecDepth 20000 in
theorem gX8_swapLayers_X8_checkLayer : GoodIn wsX8_swapLayers (wsV RX8 145 RX8 yX8_checkLayer wsX8_checkLayer) := goodIn_app (goodIn_of _ (by decide +kernel)) ggX8_swapLayers_X8_checkLayer
set_option maxRecDepth 20000 in
set_option maxRecDepth 100000 in
theorem ggX8_swapLayers_X1_remember : GoodIn wsX8_swapLayers wsX1_remember := goodIn_r _ [27, 28, 29, 30, 31, 32, 33, 34, 35, 36, 37, 38, 13, 39, 40, 41, 42, 43, 44, 45, 46, 20, 47, 48, 49, 50, 51, 52, 53, 54, 55, 56, 22, 57, 58, 59, 60, 61, 62, 63, 64, 65, 66, 67, 68, 69, 70, 71, 72, 73, 243, 244, 245, 218, 219, 220, 221, 222, 223, 224] rfl (by decide +kernel)
set_option maxRecDepth 20000 in
theorem gX8_swapLayers_X1_remember : GoodIn wsX8_swapLayers (wsV RX8 108 RX1 yX1_remember wsX1_remember) := goodIn_app (goodIn_of _ (by decide +kernel)) ggX8_swapLayers_X1_remember
set_option maxRecDepth 20000 in
set_option maxRecDepth 100000 in
theorem ggX8_swapLayers_X5_become : GoodIn wsX8_swapLayers wsX5_become := goodIn_r _ [60, 47, 48, 49, 50, 51, 61, 62, 63, 20, 64, 56, 65, 35, 36, 37, 66, 67, 68, 69, 22, 70, 71, 72, 32, 73, 218, 219, 220, 221, 222, 223, 224] rfl (by decide +kernel)
set_option maxRecDepth 20000 in
theorem gX8_swapLayers_X5_become : GoodIn wsX8_swapLayers (wsV RX8 111 RX5 yX5_become wsX5_become) := goodIn_app (goodIn_of _ (by decide +kernel)) ggX8_swapLayers_X5_become
set_option maxRecDepth 20000 in
set_option maxRecDepth 100000 in
theorem ggX8_swapLayers_X7_swap : GoodIn wsX8_swapLayers wsX7_swap := goodIn_r _ [78, 79, 80, 81, 20, 82, 56, 83, 84, 85, 86, 87, 13, 88, 223, 224] rfl (by decide +kernel)
set_option maxRecDepth 20000 in
theorem gX8_swapLayers_X7_swap : GoodIn wsX8_swapLayers (wsV RX8 291 RX7 yX7_swap wsX7_swap) := goodIn_app (goodIn_of _ (by decide +kernel)) ggX8_swapLayers_X7_swap
set_option maxRecDepth 20000 in
set_option maxRecDepth 100000 in
theorem ggX8_swapLayers_X8_runOf : GoodIn wsX8_swapLayers wsX8_runOf := goodIn_r _ [92, 7, 93, 94, 95, 96, 97, 98, 99, 100, 101, 102, 103, 104, 105, 32, 106, 49, 47, 107, 50, 51, 108, 80, 81, 20, 82, 56, 87, 13, 88, 109, 110, 111, 112, 113, 114, 115, 116, 117, 118, 119, 120, 121, 122, 123, 124, 125, 126, 127, 128, 129, 130, 131, 132, 133, 134, 135, 136, 137, 18, 19, 21, 22, 138, 139, 140, 141, 142, 143, 144, 145, 146, 147, 148, 149, 150, 151, 36, 152, 153, 154, 155, 156, 157, 158, 159, 160, 161, 162, 163, 164, 165, 166, 167, 168, 169, 170, 171, 172, 173, 174, 175, 176, 177, 178, 179, 180, 181, 182, 183, 184, 185, 186, 187, 188, 189, 190, 191, 192, 193, 194, 195, 196, 197, 198, 199, 200, 201, 202, 203, 204, 205, 206, 218, 219, 220, 221, 222, 207, 208, 209, 210, 211, 212, 213, 214, 215, 216, 217, 225, 226, 227, 228, 229, 230, 231, 232, 233, 234, 235, 236, 237, 238, 239, 240, 241, 242, 223, 224] rfl (by decide +kernel)
set_option maxRecDepth 20000 in
theorem gX8_swapLayers_X8_runOf : GoodIn wsX8_swapLayers (wsV RX8 155 RX8 yX8_runOf wsX8_runOf) := goodIn_app (goodIn_of _ (by decide +kernel)) ggX8_swapLayers_X8_runOf
theorem dX8_swapLayers_0 : decode cX8_swapLayers 0 = .ok (.aload_n 0, 1) := by decide +kernel
theorem dX8_swapLayers_1 : decode cX8_swapLayers 1 = .ok (.iload_n 1, 1) := by decide +kernel
theorem dX8_swapLayers_2 : decode cX8_swapLayers 2 = .ok (.invokevirtual 145, 3) := by decide +kernel
theorem dX8_swapLayers_5 : decode cX8_swapLayers 5 = .ok (.aload_n 0, 1) := by decide +kernel
theorem dX8_swapLayers_6 : decode cX8_swapLayers 6 = .ok (.iload_n 2, 1) := by decide +kernel
theorem dX8_swapLayers_7 : decode cX8_swapLayers 7 = .ok (.invokevirtual 145, 3) := by decide +kernel
theorem dX8_swapLayers_10 : decode cX8_swapLayers 10 = .ok (.iload_n 1, 1) := by decide +kernel
theorem dX8_swapLayers_11 : decode cX8_swapLayers 11 = .ok (.iload_n 2, 1) := by decide +kernel
theorem dX8_swapLayers_12 : decode cX8_swapLayers 12 = .ok (.if_icmp .ne 14, 3) := by decide +kernel
theorem dX8_swapLayers_15 : decode cX8_swapLayers 15 = .ok (.new 140, 3) := by decide +kernel
theorem dX8_swapLayers_18 : decode cX8_swapLayers 18 = .ok (.dup, 1) := by decide +kernel
theorem dX8_swapLayers_19 : decode cX8_swapLayers 19 = .ok (.ldc_w 289, 3) := by decide +kernel
theorem dX8_swapLayers_22 : decode cX8_swapLayers 22 = .ok (.invokespecial 144, 3) := by decide +kernel
theorem dX8_swapLayers_25 : decode cX8_swapLayers 25 = .ok (.athrow, 1) := by decide +kernel
theorem dX8_swapLayers_26 : decode cX8_swapLayers 26 = .ok (.aload_n 0, 1) := by decide +kernel
theorem dX8_swapLayers_27 : decode cX8_swapLayers 27 = .ok (.getfield 32, 3) := by decide +kernel
theorem dX8_swapLayers_30 : decode cX8_swapLayers 30 = .ok (.aload_n 0, 1) := by decide +kernel
theorem dX8_swapLayers_31 : decode cX8_swapLayers 31 = .ok (.getfield 22, 3) := by decide +kernel
theorem dX8_swapLayers_34 : decode cX8_swapLayers 34 = .ok (.invokevirtual 108, 3) := by decide +kernel
theorem dX8_swapLayers_37 : decode cX8_swapLayers 37 = .ok (.aload_n 0, 1) := by decide +kernel
theorem dX8_swapLayers_38 : decode cX8_swapLayers 38 = .ok (.getfield 26, 3) := by decide +kernel
theorem dX8_swapLayers_41 : decode cX8_swapLayers 41 = .ok (.aload_n 0, 1) := by decide +kernel
theorem dX8_swapLayers_42 : decode cX8_swapLayers 42 = .ok (.getfield 22, 3) := by decide +kernel
theorem dX8_swapLayers_45 : decode cX8_swapLayers 45 = .ok (.invokevirtual 111, 3) := by decide +kernel
theorem dX8_swapLayers_48 : decode cX8_swapLayers 48 = .ok (.aload_n 0, 1) := by decide +kernel
theorem dX8_swapLayers_49 : decode cX8_swapLayers 49 = .ok (.getfield 22, 3) := by decide +kernel
theorem dX8_swapLayers_52 : decode cX8_swapLayers 52 = .ok (.getfield 75, 3) := by decide +kernel
theorem dX8_swapLayers_55 : decode cX8_swapLayers 55 = .ok (.iload_n 1, 1) := by decide +kernel
