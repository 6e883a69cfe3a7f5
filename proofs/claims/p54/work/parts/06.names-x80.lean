set_option maxRecDepth 20000 in
set_option maxRecDepth 100000 in
theorem ggX8_init_X0_init : GoodIn wsX8_init wsX0_init := goodIn_r _ [38, 39, 2, 3, 40, 41, 42, 124, 125] rfl (by decide +kernel)
set_option maxRecDepth 20000 in
theorem gX8_init_X0_init_n9 : GoodIn wsX8_init (wsX0_init) := ggX8_init_X0_init
set_option maxRecDepth 20000 in
set_option maxRecDepth 100000 in
theorem ggX8_init_X5_init : GoodIn wsX8_init wsX5_init := goodIn_r _ [44, 45, 2, 3, 46, 47, 48, 49, 50, 51, 52, 53, 54, 55, 56, 57, 58, 59, 188, 189, 137, 138, 139, 140, 141] rfl (by decide +kernel)
set_option maxRecDepth 20000 in
theorem gX8_init_X5_init_n21 : GoodIn wsX8_init (wsX5_init) := ggX8_init_X5_init
set_option maxRecDepth 20000 in
set_option maxRecDepth 100000 in
theorem ggX8_init_X1_init : GoodIn wsX8_init wsX1_init := goodIn_r _ [61, 62, 2, 3, 63, 64, 65, 66, 142, 143, 144] rfl (by decide +kernel)
set_option maxRecDepth 20000 in
theorem gX8_init_X1_init_n31 : GoodIn wsX8_init (wsX1_init) := ggX8_init_X1_init
set_option maxRecDepth 20000 in
set_option maxRecDepth 100000 in
theorem ggX8_init_X4_init : GoodIn wsX8_init wsX4_init := goodIn_r _ [69, 70, 2, 3, 57, 71, 72, 73, 74, 75, 145, 146, 147, 148, 149, 150, 151, 152, 153, 154, 155, 156, 157, 158, 159, 160, 161, 162] rfl (by decide +kernel)
set_option maxRecDepth 20000 in
theorem gX8_init_X4_init : GoodIn wsX8_init (wsX4_init) := ggX8_init_X4_init
set_option maxRecDepth 20000 in
set_option maxRecDepth 100000 in
theorem ggX8_init_X3_init : GoodIn wsX8_init wsX3_init := goodIn_r _ [78, 79, 2, 3, 80, 57, 81, 82, 83, 84, 20, 21, 85, 86, 68, 69, 70, 71, 72, 73, 74, 75, 163, 164, 165, 166, 145, 146, 147, 148, 149, 150, 151, 152, 153, 154, 155, 156, 157, 158, 159, 160, 161, 162] rfl (by decide +kernel)
set_option maxRecDepth 20000 in
theorem gX8_init_X3_init : GoodIn wsX8_init (wsX3_init) := ggX8_init_X3_init
set_option maxRecDepth 20000 in
set_option maxRecDepth 100000 in
theorem ggX8_init_X6_init : GoodIn wsX8_init wsX6_init := goodIn_r _ [89, 90, 2, 3, 91, 92, 93, 94, 20, 21, 95, 96, 68, 69, 70, 57, 71, 72, 73, 74, 75, 167, 168, 169, 170, 171, 172, 173, 174, 175, 176, 177, 145, 146, 147, 148, 149, 150, 151, 152, 153, 154, 155, 156, 157, 158, 159, 160, 161, 162] rfl (by decide +kernel)
set_option maxRecDepth 20000 in
theorem gX8_init_X6_init : GoodIn wsX8_init (wsX6_init) := ggX8_init_X6_init
set_option maxRecDepth 20000 in
set_option maxRecDepth 100000 in
theorem ggX8_init_X2_init : GoodIn wsX8_init wsX2_init := goodIn_r _ [99, 100, 2, 3, 101, 102, 103, 104, 178, 179, 180, 181, 182, 183, 184, 185, 186, 187] rfl (by decide +kernel)
set_option maxRecDepth 20000 in
theorem gX8_init_X2_init : GoodIn wsX8_init (wsX2_init) := ggX8_init_X2_init
set_option maxRecDepth 20000 in
set_option maxRecDepth 100000 in
theorem ggX8_init_X7_insert : GoodIn wsX8_init wsX7_insert := goodIn_r _ [108, 59, 109, 110, 111, 48, 112, 113, 114, 115, 116, 58, 117, 118, 119, 120, 121, 122, 123, 188, 189] rfl (by decide +kernel)
set_option maxRecDepth 20000 in
theorem gX8_init_X7_insert : GoodIn wsX8_init (wsV RX8 79 RX7 yX7_insert wsX7_insert) := goodIn_app (goodIn_of _ (by decide +kernel)) ggX8_init_X7_insert
theorem dX8_init_0 : decode cX8_init 0 = .ok (.aload_n 0, 1) := by decide +kernel
theorem dX8_init_1 : decode cX8_init 1 = .ok (.invokespecial 1, 3) := by decide +kernel
theorem dX8_init_4 : decode cX8_init 4 = .ok (.aload_n 0, 1) := by decide +kernel
theorem dX8_init_5 : decode cX8_init 5 = .ok (.new 7, 3) := by decide +kernel
theorem dX8_init_8 : decode cX8_init 8 = .ok (.dup, 1) := by decide +kernel
theorem dX8_init_9 : decode cX8_init 9 = .ok (.invokespecial 9, 3) := by decide +kernel
theorem dX8_init_12 : decode cX8_init 12 = .ok (.putfield 10, 3) := by decide +kernel
theorem dX8_init_15 : decode cX8_init 15 = .ok (.aload_n 0, 1) := by decide +kernel
theorem dX8_init_16 : decode cX8_init 16 = .ok (.new 7, 3) := by decide +kernel
theorem dX8_init_19 : decode cX8_init 19 = .ok (.dup, 1) := by decide +kernel
theorem dX8_init_20 : decode cX8_init 20 = .ok (.invokespecial 9, 3) := by decide +kernel
theorem dX8_init_23 : decode cX8_init 23 = .ok (.putfield 16, 3) := by decide +kernel
theorem dX8_init_26 : decode cX8_init 26 = .ok (.aload_n 0, 1) := by decide +kernel
theorem dX8_init_27 : decode cX8_init 27 = .ok (.new 19, 3) := by decide +kernel
theorem dX8_init_30 : decode cX8_init 30 = .ok (.dup, 1) := by decide +kernel
theorem dX8_init_31 : decode cX8_init 31 = .ok (.invokespecial 21, 3) := by decide +kernel
theorem dX8_init_34 : decode cX8_init 34 = .ok (.putfield 22, 3) := by decide +kernel
theorem dX8_init_37 : decode cX8_init 37 = .ok (.aload_n 0, 1) := by decide +kernel
theorem dX8_init_38 : decode cX8_init 38 = .ok (.new 19, 3) := by decide +kernel
theorem dX8_init_41 : decode cX8_init 41 = .ok (.dup, 1) := by decide +kernel
theorem dX8_init_42 : decode cX8_init 42 = .ok (.invokespecial 21, 3) := by decide +kernel
theorem dX8_init_45 : decode cX8_init 45 = .ok (.putfield 26, 3) := by decide +kernel
theorem dX8_init_48 : decode cX8_init 48 = .ok (.aload_n 0, 1) := by decide +kernel
theorem dX8_init_49 : decode cX8_init 49 = .ok (.new 29, 3) := by decide +kernel
theorem dX8_init_52 : decode cX8_init 52 = .ok (.dup, 1) := by decide +kernel
theorem dX8_init_53 : decode cX8_init 53 = .ok (.invokespecial 31, 3) := by decide +kernel
theorem dX8_init_56 : decode cX8_init 56 = .ok (.putfield 32, 3) := by decide +kernel
theorem dX8_init_59 : decode cX8_init 59 = .ok (.aload_n 0, 1) := by decide +kernel
theorem dX8_init_60 : decode cX8_init 60 = .ok (.iconst 2, 1) := by decide +kernel
theorem dX8_init_61 : decode cX8_init 61 = .ok (.anewarray 19, 3) := by decide +kernel
theorem dX8_init_64 : decode cX8_init 64 = .ok (.putfield 36, 3) := by decide +kernel
theorem dX8_init_67 : decode cX8_init 67 = .ok (.aload_n 0, 1) := by decide +kernel
theorem dX8_init_68 : decode cX8_init 68 = .ok (.new 40, 3) := by decide +kernel
theorem dX8_init_71 : decode cX8_init 71 = .ok (.dup, 1) := by decide +kernel
theorem dX8_init_72 : decode cX8_init 72 = .ok (.aload_n 0, 1) := by decide +kernel
theorem dX8_init_73 : decode cX8_init 73 = .ok (.getfield 22, 3) := by decide +kernel
theorem dX8_init_76 : decode cX8_init 76 = .ok (.invokespecial 42, 3) := by decide +kernel
theorem dX8_init_79 : decode cX8_init 79 = .ok (.putfield 45, 3) := by decide +kernel
theorem dX8_init_82 : decode cX8_init 82 = .ok (.aload_n 0, 1) := by decide +kernel
theorem dX8_init_83 : decode cX8_init 83 = .ok (.new 49, 3) := by decide +kernel
theorem dX8_init_86 : decode cX8_init 86 = .ok (.dup, 1) := by decide +kernel
theorem dX8_init_87 : decode cX8_init 87 = .ok (.aload_n 0, 1) := by decide +kernel
theorem dX8_init_88 : decode cX8_init 88 = .ok (.getfield 22, 3) := by decide +kernel
theorem dX8_init_91 : decode cX8_init 91 = .ok (.invokespecial 51, 3) := by decide +kernel
theorem dX8_init_94 : decode cX8_init 94 = .ok (.putfield 52, 3) := by decide +kernel
theorem dX8_init_97 : decode cX8_init 97 = .ok (.aload_n 0, 1) := by decide +kernel
theorem dX8_init_98 : decode cX8_init 98 = .ok (.new 49, 3) := by decide +kernel
theorem dX8_init_101 : decode cX8_init 101 = .ok (.dup, 1) := by decide +kernel
theorem dX8_init_102 : decode cX8_init 102 = .ok (.aload_n 0, 1) := by decide +kernel
theorem dX8_init_103 : decode cX8_init 103 = .ok (.getfield 22, 3) := by decide +kernel
theorem dX8_init_106 : decode cX8_init 106 = .ok (.invokespecial 51, 3) := by decide +kernel
theorem dX8_init_109 : decode cX8_init 109 = .ok (.putfield 56, 3) := by decide +kernel
theorem dX8_init_112 : decode cX8_init 112 = .ok (.aload_n 0, 1) := by decide +kernel
theorem dX8_init_113 : decode cX8_init 113 = .ok (.new 59, 3) := by decide +kernel
theorem dX8_init_116 : decode cX8_init 116 = .ok (.dup, 1) := by decide +kernel
theorem dX8_init_117 : decode cX8_init 117 = .ok (.aload_n 0, 1) := by decide +kernel
theorem dX8_init_118 : decode cX8_init 118 = .ok (.getfield 22, 3) := by decide +kernel
theorem dX8_init_121 : decode cX8_init 121 = .ok (.invokespecial 61, 3) := by decide +kernel
theorem dX8_init_124 : decode cX8_init 124 = .ok (.putfield 62, 3) := by decide +kernel
theorem dX8_init_127 : decode cX8_init 127 = .ok (.aload_n 0, 1) := by decide +kernel
theorem dX8_init_128 : decode cX8_init 128 = .ok (.new 66, 3) := by decide +kernel
theorem dX8_init_131 : decode cX8_init 131 = .ok (.dup, 1) := by decide +kernel
theorem dX8_init_132 : decode cX8_init 132 = .ok (.aload_n 0, 1) := by decide +kernel
theorem dX8_init_133 : decode cX8_init 133 = .ok (.getfield 10, 3) := by decide +kernel
theorem dX8_init_136 : decode cX8_init 136 = .ok (.aload_n 0, 1) := by decide +kernel
theorem dX8_init_137 : decode cX8_init 137 = .ok (.getfield 26, 3) := by decide +kernel
theorem dX8_init_140 : decode cX8_init 140 = .ok (.invokespecial 68, 3) := by decide +kernel
theorem dX8_init_143 : decode cX8_init 143 = .ok (.putfield 71, 3) := by decide +kernel
theorem dX8_init_146 : decode cX8_init 146 = .ok (.aload_n 0, 1) := by decide +kernel
theorem dX8_init_147 : decode cX8_init 147 = .ok (.getfield 22, 3) := by decide +kernel
theorem dX8_init_150 : decode cX8_init 150 = .ok (.getfield 75, 3) := by decide +kernel
theorem dX8_init_153 : decode cX8_init 153 = .ok (.iconst 0, 1) := by decide +kernel
theorem dX8_init_154 : decode cX8_init 154 = .ok (.sipush 1500, 3) := by decide +kernel
theorem dX8_init_157 : decode cX8_init 157 = .ok (.bipush 10, 2) := by decide +kernel
theorem dX8_init_159 : decode cX8_init 159 = .ok (.iconst 0, 1) := by decide +kernel
theorem dX8_init_160 : decode cX8_init 160 = .ok (.invokevirtual 79, 3) := by decide +kernel
theorem dX8_init_163 : decode cX8_init 163 = .ok (.return_, 1) := by decide +kernel
set_option maxRecDepth 20000 in
set_option maxRecDepth 100000 in
theorem ggX8_append_X0_addFour : GoodIn wsX8_append wsX0_addFour := goodIn_r _ [9, 10, 11, 12, 8, 13, 14, 15, 27, 28] rfl (by decide +kernel)
set_option maxRecDepth 20000 in
theorem gX8_append_X0_addFour : GoodIn wsX8_append (wsV RX8 96 RX0 yX0_addFour wsX0_addFour) := goodIn_app (goodIn_of _ (by decide +kernel)) ggX8_append_X0_addFour
theorem dX8_append_0 : decode cX8_append 0 = .ok (.aload_n 0, 1) := by decide +kernel
theorem dX8_append_1 : decode cX8_append 1 = .ok (.getfield 10, 3) := by decide +kernel
theorem dX8_append_4 : decode cX8_append 4 = .ok (.getfield 85, 3) := by decide +kernel
theorem dX8_append_7 : decode cX8_append 7 = .ok (.bipush 20, 2) := by decide +kernel
theorem dX8_append_9 : decode cX8_append 9 = .ok (.iadd, 1) := by decide +kernel
theorem dX8_append_10 : decode cX8_append 10 = .ok (.sipush 400, 3) := by decide +kernel
theorem dX8_append_13 : decode cX8_append 13 = .ok (.if_icmp .le 13, 3) := by decide +kernel
theorem dX8_append_16 : decode cX8_append 16 = .ok (.new 89, 3) := by decide +kernel
theorem dX8_append_19 : decode cX8_append 19 = .ok (.dup, 1) := by decide +kernel
theorem dX8_append_20 : decode cX8_append 20 = .ok (.ldc 91, 2) := by decide +kernel
theorem dX8_append_22 : decode cX8_append 22 = .ok (.invokespecial 93, 3) := by decide +kernel
theorem dX8_append_25 : decode cX8_append 25 = .ok (.athrow, 1) := by decide +kernel
theorem dX8_append_26 : decode cX8_append 26 = .ok (.aload_n 0, 1) := by decide +kernel
theorem dX8_append_27 : decode cX8_append 27 = .ok (.getfield 10, 3) := by decide +kernel
theorem dX8_append_30 : decode cX8_append 30 = .ok (.iload_n 1, 1) := by decide +kernel
theorem dX8_append_31 : decode cX8_append 31 = .ok (.invokevirtual 96, 3) := by decide +kernel
theorem dX8_append_34 : decode cX8_append 34 = .ok (.aload_n 0, 1) := by decide +kernel
theorem dX8_append_35 : decode cX8_append 35 = .ok (.getfield 10, 3) := by decide +kernel
theorem dX8_append_38 : decode cX8_append 38 = .ok (.iload_n 2, 1) := by decide +kernel
theorem dX8_append_39 : decode cX8_append 39 = .ok (.invokevirtual 96, 3) := by decide +kernel
theorem dX8_append_42 : decode cX8_append 42 = .ok (.aload_n 0, 1) := by decide +kernel
theorem dX8_append_43 : decode cX8_append 43 = .ok (.getfield 10, 3) := by decide +kernel
theorem dX8_append_46 : decode cX8_append 46 = .ok (.iload_n 3, 1) := by decide +kernel
theorem dX8_append_47 : decode cX8_append 47 = .ok (.invokevirtual 96, 3) := by decide +kernel
theorem dX8_append_50 : decode cX8_append 50 = .ok (.aload_n 0, 1) := by decide +kernel
theorem dX8_append_51 : decode cX8_append 51 = .ok (.getfield 10, 3) := by decide +kernel
theorem dX8_append_54 : decode cX8_append 54 = .ok (.iload 4, 2) := by decide +kernel
theorem dX8_append_56 : decode cX8_append 56 = .ok (.invokevirtual 96, 3) := by decide +kernel
theorem dX8_append_59 : decode cX8_append 59 = .ok (.aload_n 0, 1) := by decide +kernel
theorem dX8_append_60 : decode cX8_append 60 = .ok (.getfield 10, 3) := by decide +kernel
theorem dX8_append_63 : decode cX8_append 63 = .ok (.iload 5, 2) := by decide +kernel
theorem dX8_append_65 : decode cX8_append 65 = .ok (.invokevirtual 96, 3) := by decide +kernel
theorem dX8_append_68 : decode cX8_append 68 = .ok (.aload_n 0, 1) := by decide +kernel
theorem dX8_append_69 : decode cX8_append 69 = .ok (.getfield 10, 3) := by decide +kernel
theorem dX8_append_72 : decode cX8_append 72 = .ok (.getfield 85, 3) := by decide +kernel
theorem dX8_append_75 : decode cX8_append 75 = .ok (.ireturn, 1) := by decide +kernel
set_option maxRecDepth 20000 in
set_option maxRecDepth 100000 in
theorem ggX8_truncate_X8_checkRange : GoodIn wsX8_truncate wsX8_checkRange := goodIn_ca (goodIn_r _ [6, 7, 8] rfl (by decide +kernel)) (goodIn_sub (fun _ h => List.mem_cons_of_mem _ (List.mem_append_right _ h)) (by decide +kernel))
set_option maxRecDepth 20000 in
theorem gX8_truncate_X8_checkRange : GoodIn wsX8_truncate (va_wsS RX8 100 yX8_checkRange wsX8_checkRange) := goodIn_app (goodIn_of _ (by decide +kernel)) ggX8_truncate_X8_checkRange
theorem dX8_truncate_0 : decode cX8_truncate 0 = .ok (.iload_n 1, 1) := by decide +kernel
theorem dX8_truncate_1 : decode cX8_truncate 1 = .ok (.iconst 0, 1) := by decide +kernel
theorem dX8_truncate_2 : decode cX8_truncate 2 = .ok (.aload_n 0, 1) := by decide +kernel
theorem dX8_truncate_3 : decode cX8_truncate 3 = .ok (.getfield 10, 3) := by decide +kernel
theorem dX8_truncate_6 : decode cX8_truncate 6 = .ok (.getfield 85, 3) := by decide +kernel
theorem dX8_truncate_9 : decode cX8_truncate 9 = .ok (.invokestatic 100, 3) := by decide +kernel
theorem dX8_truncate_12 : decode cX8_truncate 12 = .ok (.aload_n 0, 1) := by decide +kernel
theorem dX8_truncate_13 : decode cX8_truncate 13 = .ok (.getfield 10, 3) := by decide +kernel
theorem dX8_truncate_16 : decode cX8_truncate 16 = .ok (.iload_n 1, 1) := by decide +kernel
theorem dX8_truncate_17 : decode cX8_truncate 17 = .ok (.putfield 85, 3) := by decide +kernel
theorem dX8_truncate_20 : decode cX8_truncate 20 = .ok (.return_, 1) := by decide +kernel
set_option maxRecDepth 20000 in
set_option maxRecDepth 100000 in
theorem ggX8_load_X2_parse : GoodIn wsX8_load wsX2_parse := goodIn_r _ [13, 14, 15, 16, 17, 18, 19, 20, 21, 22, 23, 24, 25, 26, 27, 28, 29, 30, 31, 32, 33, 34, 35, 36, 37, 38, 12, 39, 40, 41, 42, 43, 44, 45, 46, 47, 48, 49, 50, 51, 52, 53, 54, 55, 56, 57, 58, 59, 60, 61, 62, 63, 64, 65, 66, 67, 68, 69, 70, 71, 72, 73, 74, 75, 76, 77, 78, 79, 80, 81, 82, 83, 84, 85, 86, 87, 88, 89, 90, 91, 92, 93, 94, 95, 96, 97, 98, 99, 100, 101, 102, 103, 104, 105, 106, 107, 108, 109, 110, 111, 112, 113, 114, 115, 116, 117, 118, 119, 120, 121, 122, 123, 124, 125, 126, 127, 128, 129, 130, 131, 132, 133, 134, 135, 136, 137, 138, 139, 140, 141, 142, 143, 144, 145, 146, 147, 148, 149, 150, 151, 152, 153, 154, 155, 156, 157, 158, 159, 160, 161, 162, 163, 164, 165, 166, 167, 168, 169, 170, 171, 172, 173, 174, 175, 176, 177, 178, 179, 180, 181, 182, 183, 184, 185, 186, 187, 188, 189, 190, 191, 192, 193, 194, 253, 254, 255, 256, 257, 258, 259, 260, 261, 262, 246, 247, 248, 249, 250, 251, 252, 244, 245, 263, 264, 265, 266] rfl (by decide +kernel)
set_option maxRecDepth 20000 in
theorem gX8_load_X2_parse : GoodIn wsX8_load (wsV RX8 104 RX2 yX2_parse wsX2_parse) := goodIn_app (goodIn_of _ (by decide +kernel)) ggX8_load_X2_parse
set_option maxRecDepth 20000 in
set_option maxRecDepth 100000 in
theorem ggX8_load_X1_remember : GoodIn wsX8_load wsX1_remember := goodIn_r _ [199, 200, 201, 202, 203, 24, 204, 205, 46, 47, 48, 206, 164, 207, 208, 209, 210, 211, 212, 213, 214, 147, 26, 28, 29, 34, 35, 215, 216, 217, 218, 158, 149, 219, 220, 221, 222, 223, 224, 225, 226, 227, 228, 229, 230, 231, 30, 31, 32, 33, 267, 268, 269, 246, 247, 248, 249, 250, 251, 252] rfl (by decide +kernel)
set_option maxRecDepth 20000 in
theorem gX8_load_X1_remember : GoodIn wsX8_load (wsV RX8 108 RX1 yX1_remember wsX1_remember) := goodIn_app (goodIn_of _ (by decide +kernel)) ggX8_load_X1_remember
set_option maxRecDepth 20000 in
set_option maxRecDepth 100000 in
theorem ggX8_load_X5_become : GoodIn wsX8_load wsX5_become := goodIn_r _ [222, 26, 28, 29, 34, 35, 223, 224, 225, 147, 226, 158, 227, 46, 47, 48, 228, 229, 230, 231, 149, 30, 31, 32, 24, 33, 246, 247, 248, 249, 250, 251, 252] rfl (by decide +kernel)
set_option maxRecDepth 20000 in
theorem gX8_load_X5_become : GoodIn wsX8_load (wsV RX8 111 RX5 yX5_become wsX5_become) := goodIn_app (goodIn_of _ (by decide +kernel)) ggX8_load_X5_become
theorem dX8_load_0 : decode cX8_load 0 = .ok (.aload_n 0, 1) := by decide +kernel
theorem dX8_load_1 : decode cX8_load 1 = .ok (.getfield 71, 3) := by decide +kernel
theorem dX8_load_4 : decode cX8_load 4 = .ok (.invokevirtual 104, 3) := by decide +kernel
theorem dX8_load_7 : decode cX8_load 7 = .ok (.istore_n 1, 1) := by decide +kernel
theorem dX8_load_8 : decode cX8_load 8 = .ok (.aload_n 0, 1) := by decide +kernel
theorem dX8_load_9 : decode cX8_load 9 = .ok (.getfield 10, 3) := by decide +kernel
theorem dX8_load_12 : decode cX8_load 12 = .ok (.iconst 0, 1) := by decide +kernel
theorem dX8_load_13 : decode cX8_load 13 = .ok (.putfield 85, 3) := by decide +kernel
theorem dX8_load_16 : decode cX8_load 16 = .ok (.iload_n 1, 1) := by decide +kernel
theorem dX8_load_17 : decode cX8_load 17 = .ok (.ifCond .ne 6, 3) := by decide +kernel
theorem dX8_load_20 : decode cX8_load 20 = .ok (.bipush (-4), 2) := by decide +kernel
theorem dX8_load_22 : decode cX8_load 22 = .ok (.ireturn, 1) := by decide +kernel
theorem dX8_load_23 : decode cX8_load 23 = .ok (.aload_n 0, 1) := by decide +kernel
theorem dX8_load_24 : decode cX8_load 24 = .ok (.getfield 32, 3) := by decide +kernel
theorem dX8_load_27 : decode cX8_load 27 = .ok (.aload_n 0, 1) := by decide +kernel
theorem dX8_load_28 : decode cX8_load 28 = .ok (.getfield 22, 3) := by decide +kernel
theorem dX8_load_31 : decode cX8_load 31 = .ok (.invokevirtual 108, 3) := by decide +kernel
theorem dX8_load_34 : decode cX8_load 34 = .ok (.aload_n 0, 1) := by decide +kernel
theorem dX8_load_35 : decode cX8_load 35 = .ok (.getfield 22, 3) := by decide +kernel
theorem dX8_load_38 : decode cX8_load 38 = .ok (.aload_n 0, 1) := by decide +kernel
theorem dX8_load_39 : decode cX8_load 39 = .ok (.getfield 26, 3) := by decide +kernel
theorem dX8_load_42 : decode cX8_load 42 = .ok (.invokevirtual 111, 3) := by decide +kernel
theorem dX8_load_45 : decode cX8_load 45 = .ok (.aload_n 0, 1) := by decide +kernel
theorem dX8_load_46 : decode cX8_load 46 = .ok (.getfield 22, 3) := by decide +kernel
theorem dX8_load_49 : decode cX8_load 49 = .ok (.getfield 75, 3) := by decide +kernel
theorem dX8_load_52 : decode cX8_load 52 = .ok (.getfield 114, 3) := by decide +kernel
theorem dX8_load_55 : decode cX8_load 55 = .ok (.ireturn, 1) := by decide +kernel
theorem dX8_errorCode_0 : decode cX8_errorCode 0 = .ok (.aload_n 0, 1) := by decide +kernel
theorem dX8_errorCode_1 : decode cX8_errorCode 1 = .ok (.getfield 71, 3) := by decide +kernel
theorem dX8_errorCode_4 : decode cX8_errorCode 4 = .ok (.getfield 117, 3) := by decide +kernel
theorem dX8_errorCode_7 : decode cX8_errorCode 7 = .ok (.ireturn, 1) := by decide +kernel
set_option maxRecDepth 20000 in
set_option maxRecDepth 100000 in
theorem ggX8_property_X5_depthOf : GoodIn wsX8_property wsX5_depthOf := goodIn_r _ [14, 15, 16, 17, 18, 19, 20, 21, 22, 34, 35, 36, 37, 38, 39, 40] rfl (by decide +kernel)
set_option maxRecDepth 20000 in
theorem gX8_property_X5_depthOf : GoodIn wsX8_property (wsV RX8 136 RX5 yX5_depthOf wsX5_depthOf) := goodIn_app (goodIn_of _ (by decide +kernel)) ggX8_property_X5_depthOf
theorem dX8_property_0 : decode cX8_property 0 = .ok (.iload_n 1, 1) := by decide +kernel
theorem dX8_property_1 : decode cX8_property 1 = .ok (.tableswitch 111 0 5 #[39, 50, 58, 74, 82, 93], 39) := by decide +kernel
theorem dX8_property_40 : decode cX8_property 40 = .ok (.aload_n 0, 1) := by decide +kernel
theorem dX8_property_41 : decode cX8_property 41 = .ok (.getfield 22, 3) := by decide +kernel
theorem dX8_property_44 : decode cX8_property 44 = .ok (.getfield 75, 3) := by decide +kernel
theorem dX8_property_47 : decode cX8_property 47 = .ok (.getfield 114, 3) := by decide +kernel
theorem dX8_property_50 : decode cX8_property 50 = .ok (.ireturn, 1) := by decide +kernel
theorem dX8_property_51 : decode cX8_property 51 = .ok (.aload_n 0, 1) := by decide +kernel
theorem dX8_property_52 : decode cX8_property 52 = .ok (.getfield 22, 3) := by decide +kernel
theorem dX8_property_55 : decode cX8_property 55 = .ok (.getfield 123, 3) := by decide +kernel
theorem dX8_property_58 : decode cX8_property 58 = .ok (.ireturn, 1) := by decide +kernel
theorem dX8_property_59 : decode cX8_property 59 = .ok (.aload_n 0, 1) := by decide +kernel
theorem dX8_property_60 : decode cX8_property 60 = .ok (.getfield 22, 3) := by decide +kernel
theorem dX8_property_63 : decode cX8_property 63 = .ok (.getfield 126, 3) := by decide +kernel
theorem dX8_property_66 : decode cX8_property 66 = .ok (.ifCond .eq 7, 3) := by decide +kernel
theorem dX8_property_69 : decode cX8_property 69 = .ok (.iconst 1, 1) := by decide +kernel
theorem dX8_property_70 : decode cX8_property 70 = .ok (.goto 4, 3) := by decide +kernel
theorem dX8_property_73 : decode cX8_property 73 = .ok (.iconst 0, 1) := by decide +kernel
theorem dX8_property_74 : decode cX8_property 74 = .ok (.ireturn, 1) := by decide +kernel
theorem dX8_property_75 : decode cX8_property 75 = .ok (.aload_n 0, 1) := by decide +kernel
theorem dX8_property_76 : decode cX8_property 76 = .ok (.getfield 22, 3) := by decide +kernel
theorem dX8_property_79 : decode cX8_property 79 = .ok (.getfield 130, 3) := by decide +kernel
theorem dX8_property_82 : decode cX8_property 82 = .ok (.ireturn, 1) := by decide +kernel
theorem dX8_property_83 : decode cX8_property 83 = .ok (.aload_n 0, 1) := by decide +kernel
theorem dX8_property_84 : decode cX8_property 84 = .ok (.getfield 22, 3) := by decide +kernel
theorem dX8_property_87 : decode cX8_property 87 = .ok (.getfield 133, 3) := by decide +kernel
theorem dX8_property_90 : decode cX8_property 90 = .ok (.getfield 114, 3) := by decide +kernel
theorem dX8_property_93 : decode cX8_property 93 = .ok (.ireturn, 1) := by decide +kernel
theorem dX8_property_94 : decode cX8_property 94 = .ok (.aload_n 0, 1) := by decide +kernel
theorem dX8_property_95 : decode cX8_property 95 = .ok (.getfield 22, 3) := by decide +kernel
theorem dX8_property_98 : decode cX8_property 98 = .ok (.aload_n 0, 1) := by decide +kernel
theorem dX8_property_99 : decode cX8_property 99 = .ok (.getfield 22, 3) := by decide +kernel
theorem dX8_property_102 : decode cX8_property 102 = .ok (.getfield 75, 3) := by decide +kernel
theorem dX8_property_105 : decode cX8_property 105 = .ok (.getfield 114, 3) := by decide +kernel
theorem dX8_property_108 : decode cX8_property 108 = .ok (.invokevirtual 136, 3) := by decide +kernel
theorem dX8_property_111 : decode cX8_property 111 = .ok (.ireturn, 1) := by decide +kernel
theorem dX8_property_112 : decode cX8_property 112 = .ok (.new 140, 3) := by decide +kernel
theorem dX8_property_115 : decode cX8_property 115 = .ok (.dup, 1) := by decide +kernel
theorem dX8_property_116 : decode cX8_property 116 = .ok (.ldc 142, 2) := by decide +kernel
theorem dX8_property_118 : decode cX8_property 118 = .ok (.invokespecial 144, 3) := by decide +kernel
theorem dX8_property_121 : decode cX8_property 121 = .ok (.athrow, 1) := by decide +kernel
set_option maxRecDepth 20000 in
set_option maxRecDepth 100000 in
theorem ggX8_layer_X8_checkLayer : GoodIn wsX8_layer wsX8_checkLayer := goodIn_ca (goodIn_r _ [7, 8, 9, 1, 2, 10, 11, 12, 13, 14, 15, 34, 35, 36, 37, 38, 39, 40, 41, 42, 43, 44, 45, 46, 47, 48, 49, 50, 51] rfl (by decide +kernel)) (goodIn_sub (fun _ h => List.mem_cons_of_mem _ (List.mem_append_left _ (List.mem_append_right _ h))) (by decide +kernel))
set_option maxRecDepth 20000 in
theorem gX8_layer_X8_checkLayer : GoodIn wsX8_layer (wsV RX8 145 RX8 yX8_checkLayer wsX8_checkLayer) := goodIn_app (goodIn_of _ (by decide +kernel)) ggX8_layer_X8_checkLayer
set_option maxRecDepth 20000 in
set_option maxRecDepth 100000 in
theorem ggX8_layer_X8_checkRange : GoodIn wsX8_layer wsX8_checkRange := goodIn_ca (goodIn_r _ [18, 19, 20] rfl (by decide +kernel)) (goodIn_sub (fun _ h => List.mem_cons_of_mem _ (List.mem_append_right _ h)) (by decide +kernel))
set_option maxRecDepth 20000 in
theorem gX8_layer_X8_checkRange : GoodIn wsX8_layer (va_wsS RX8 100 yX8_checkRange wsX8_checkRange) := goodIn_app (goodIn_of _ (by decide +kernel)) ggX8_layer_X8_checkRange
set_option maxRecDepth 20000 in
set_option maxRecDepth 100000 in
theorem ggX8_layer_X5_depthOf : GoodIn wsX8_layer wsX5_depthOf := goodIn_r _ [25, 26, 27, 28, 29, 30, 13, 31, 32, 45, 46, 47, 48, 49, 50, 51] rfl (by decide +kernel)
set_option maxRecDepth 20000 in
theorem gX8_layer_X5_depthOf : GoodIn wsX8_layer (wsV RX8 136 RX5 yX5_depthOf wsX5_depthOf) := goodIn_app (goodIn_of _ (by decide +kernel)) ggX8_layer_X5_depthOf
set_option maxRecDepth 20000 in
set_option maxRecDepth 100000 in
theorem ggX8_layer_X7_get : GoodIn wsX8_layer wsX7_get := goodIn_r _ [31, 32, 50, 51] rfl (by decide +kernel)
set_option maxRecDepth 20000 in
theorem gX8_layer_X7_get : GoodIn wsX8_layer (wsV RX8 148 RX7 yX7_get wsX7_get) := goodIn_app (goodIn_of _ (by decide +kernel)) ggX8_layer_X7_get
theorem dX8_layer_0 : decode cX8_layer 0 = .ok (.aload_n 0, 1) := by decide +kernel
theorem dX8_layer_1 : decode cX8_layer 1 = .ok (.iload_n 1, 1) := by decide +kernel
theorem dX8_layer_2 : decode cX8_layer 2 = .ok (.invokevirtual 145, 3) := by decide +kernel
theorem dX8_layer_5 : decode cX8_layer 5 = .ok (.iload_n 2, 1) := by decide +kernel
theorem dX8_layer_6 : decode cX8_layer 6 = .ok (.iconst 0, 1) := by decide +kernel
theorem dX8_layer_7 : decode cX8_layer 7 = .ok (.iconst 3, 1) := by decide +kernel
theorem dX8_layer_8 : decode cX8_layer 8 = .ok (.invokestatic 100, 3) := by decide +kernel
theorem dX8_layer_11 : decode cX8_layer 11 = .ok (.iload_n 2, 1) := by decide +kernel
theorem dX8_layer_12 : decode cX8_layer 12 = .ok (.iconst 3, 1) := by decide +kernel
theorem dX8_layer_13 : decode cX8_layer 13 = .ok (.if_icmp .ne 14, 3) := by decide +kernel
theorem dX8_layer_16 : decode cX8_layer 16 = .ok (.aload_n 0, 1) := by decide +kernel
theorem dX8_layer_17 : decode cX8_layer 17 = .ok (.getfield 22, 3) := by decide +kernel
theorem dX8_layer_20 : decode cX8_layer 20 = .ok (.iload_n 1, 1) := by decide +kernel
theorem dX8_layer_21 : decode cX8_layer 21 = .ok (.invokevirtual 136, 3) := by decide +kernel
theorem dX8_layer_24 : decode cX8_layer 24 = .ok (.goto 15, 3) := by decide +kernel
theorem dX8_layer_27 : decode cX8_layer 27 = .ok (.aload_n 0, 1) := by decide +kernel
theorem dX8_layer_28 : decode cX8_layer 28 = .ok (.getfield 22, 3) := by decide +kernel
theorem dX8_layer_31 : decode cX8_layer 31 = .ok (.getfield 75, 3) := by decide +kernel
theorem dX8_layer_34 : decode cX8_layer 34 = .ok (.iload_n 1, 1) := by decide +kernel
theorem dX8_layer_35 : decode cX8_layer 35 = .ok (.iload_n 2, 1) := by decide +kernel
theorem dX8_layer_36 : decode cX8_layer 36 = .ok (.invokevirtual 148, 3) := by decide +kernel
theorem dX8_layer_39 : decode cX8_layer 39 = .ok (.ireturn, 1) := by decide +kernel
set_option maxRecDepth 20000 in
set_option maxRecDepth 100000 in
theorem ggX8_shot_X8_checkShot : GoodIn wsX8_shot wsX8_checkShot := goodIn_ca (goodIn_r _ [7, 8, 9, 1, 2, 10, 11, 12, 13, 14, 15, 26, 27, 28, 29, 30, 31, 32, 33, 34, 35, 36, 37, 38, 39, 40, 41, 42, 43] rfl (by decide +kernel)) (goodIn_sub (fun _ h => List.mem_cons_of_mem _ (List.mem_append_left _ (List.mem_append_right _ h))) (by decide +kernel))
set_option maxRecDepth 20000 in
theorem gX8_shot_X8_checkShot : GoodIn wsX8_shot (wsV RX8 152 RX8 yX8_checkShot wsX8_checkShot) := goodIn_app (goodIn_of _ (by decide +kernel)) ggX8_shot_X8_checkShot
set_option maxRecDepth 20000 in
set_option maxRecDepth 100000 in
theorem ggX8_shot_X8_checkRange : GoodIn wsX8_shot wsX8_checkRange := goodIn_ca (goodIn_r _ [18, 19, 20] rfl (by decide +kernel)) (goodIn_sub (fun _ h => List.mem_cons_of_mem _ (List.mem_append_right _ h)) (by decide +kernel))
set_option maxRecDepth 20000 in
theorem gX8_shot_X8_checkRange : GoodIn wsX8_shot (va_wsS RX8 100 yX8_checkRange wsX8_checkRange) := goodIn_app (goodIn_of _ (by decide +kernel)) ggX8_shot_X8_checkRange
set_option maxRecDepth 20000 in
set_option maxRecDepth 100000 in
theorem ggX8_shot_X7_get : GoodIn wsX8_shot wsX7_get := goodIn_r _ [24, 25, 42, 43] rfl (by decide +kernel)
set_option maxRecDepth 20000 in
theorem gX8_shot_X7_get : GoodIn wsX8_shot (wsV RX8 148 RX7 yX7_get wsX7_get) := goodIn_app (goodIn_of _ (by decide +kernel)) ggX8_shot_X7_get
theorem dX8_shot_0 : decode cX8_shot 0 = .ok (.aload_n 0, 1) := by decide +kernel
theorem dX8_shot_1 : decode cX8_shot 1 = .ok (.iload_n 1, 1) := by decide +kernel
theorem dX8_shot_2 : decode cX8_shot 2 = .ok (.invokevirtual 152, 3) := by decide +kernel
theorem dX8_shot_5 : decode cX8_shot 5 = .ok (.iload_n 2, 1) := by decide +kernel
theorem dX8_shot_6 : decode cX8_shot 6 = .ok (.iconst 0, 1) := by decide +kernel
theorem dX8_shot_7 : decode cX8_shot 7 = .ok (.iconst 2, 1) := by decide +kernel
theorem dX8_shot_8 : decode cX8_shot 8 = .ok (.invokestatic 100, 3) := by decide +kernel
theorem dX8_shot_11 : decode cX8_shot 11 = .ok (.aload_n 0, 1) := by decide +kernel
theorem dX8_shot_12 : decode cX8_shot 12 = .ok (.getfield 22, 3) := by decide +kernel
theorem dX8_shot_15 : decode cX8_shot 15 = .ok (.getfield 133, 3) := by decide +kernel
theorem dX8_shot_18 : decode cX8_shot 18 = .ok (.iload_n 1, 1) := by decide +kernel
theorem dX8_shot_19 : decode cX8_shot 19 = .ok (.iload_n 2, 1) := by decide +kernel
theorem dX8_shot_20 : decode cX8_shot 20 = .ok (.invokevirtual 148, 3) := by decide +kernel
theorem dX8_shot_23 : decode cX8_shot 23 = .ok (.ireturn, 1) := by decide +kernel
set_option maxRecDepth 20000 in
set_option maxRecDepth 100000 in
theorem ggX8_path_X8_checkShot : GoodIn wsX8_path wsX8_checkShot := goodIn_ca (goodIn_r _ [18, 19, 20, 3, 21, 22, 23, 24, 25, 26, 27, 158, 159, 160, 161, 162, 163, 164, 165, 166, 167, 168, 187, 188, 189, 190, 191, 192, 193] rfl (by decide +kernel)) (goodIn_sub (fun _ h => List.mem_cons_of_mem _ (List.mem_append_right _ h)) (by decide +kernel))
set_option maxRecDepth 20000 in
theorem gX8_path_X8_checkShot : GoodIn wsX8_path (wsV RX8 152 RX8 yX8_checkShot wsX8_checkShot) := goodIn_app (goodIn_of _ (by decide +kernel)) ggX8_path_X8_checkShot
set_option maxRecDepth 20000 in
set_option maxRecDepth 100000 in
theorem ggX8_path_X8_runOf : GoodIn wsX8_path wsX8_runOf := goodIn_r _ [31, 21, 32, 33, 34, 35, 36, 37, 38, 39, 40, 41, 42, 43, 44, 45, 46, 47, 48, 49, 50, 51, 52, 53, 54, 25, 55, 56, 57, 17, 58, 59, 60, 61, 62, 63, 64, 65, 66, 67, 68, 69, 70, 71, 72, 73, 74, 75, 76, 77, 78, 79, 80, 81, 82, 83, 84, 85, 86, 87, 23, 24, 26, 27, 88, 89, 90, 91, 92, 93, 94, 95, 96, 97, 98, 99, 100, 101, 102, 103, 104, 105, 106, 107, 108, 109, 110, 111, 112, 113, 114, 115, 116, 117, 118, 119, 120, 121, 122, 123, 124, 125, 126, 127, 128, 129, 130, 131, 132, 133, 134, 135, 136, 137, 138, 139, 140, 141, 142, 143, 144, 145, 146, 147, 148, 149, 150, 151, 152, 153, 154, 155, 156, 157, 187, 188, 189, 190, 191, 158, 159, 160, 161, 162, 163, 164, 165, 166, 167, 168, 169, 170, 171, 172, 173, 174, 175, 176, 177, 178, 179, 180, 181, 182, 183, 184, 185, 186, 192, 193] rfl (by decide +kernel)
set_option maxRecDepth 20000 in
theorem gX8_path_X8_runOf : GoodIn wsX8_path (wsV RX8 155 RX8 yX8_runOf wsX8_runOf) := goodIn_app (goodIn_of _ (by decide +kernel)) ggX8_path_X8_runOf
theorem dX8_path_0 : decode cX8_path 0 = .ok (.aload_n 0, 1) := by decide +kernel
theorem dX8_path_1 : decode cX8_path 1 = .ok (.iload_n 1, 1) := by decide +kernel
theorem dX8_path_2 : decode cX8_path 2 = .ok (.invokevirtual 152, 3) := by decide +kernel
theorem dX8_path_5 : decode cX8_path 5 = .ok (.aload_n 0, 1) := by decide +kernel
theorem dX8_path_6 : decode cX8_path 6 = .ok (.aload_n 0, 1) := by decide +kernel
theorem dX8_path_7 : decode cX8_path 7 = .ok (.getfield 22, 3) := by decide +kernel
theorem dX8_path_10 : decode cX8_path 10 = .ok (.iload_n 1, 1) := by decide +kernel
theorem dX8_path_11 : decode cX8_path 11 = .ok (.invokevirtual 155, 3) := by decide +kernel
theorem dX8_path_14 : decode cX8_path 14 = .ok (.astore_n 3, 1) := by decide +kernel
theorem dX8_path_15 : decode cX8_path 15 = .ok (.iload_n 2, 1) := by decide +kernel
theorem dX8_path_16 : decode cX8_path 16 = .ok (.tableswitch 106 0 9 #[56, 61, 66, 71, 76, 81, 86, 91, 96, 101], 56) := by decide +kernel
theorem dX8_path_72 : decode cX8_path 72 = .ok (.aload_n 3, 1) := by decide +kernel
theorem dX8_path_73 : decode cX8_path 73 = .ok (.getfield 159, 3) := by decide +kernel
theorem dX8_path_76 : decode cX8_path 76 = .ok (.ireturn, 1) := by decide +kernel
theorem dX8_path_77 : decode cX8_path 77 = .ok (.aload_n 3, 1) := by decide +kernel
theorem dX8_path_78 : decode cX8_path 78 = .ok (.getfield 162, 3) := by decide +kernel
theorem dX8_path_81 : decode cX8_path 81 = .ok (.ireturn, 1) := by decide +kernel
theorem dX8_path_82 : decode cX8_path 82 = .ok (.aload_n 3, 1) := by decide +kernel
theorem dX8_path_83 : decode cX8_path 83 = .ok (.getfield 165, 3) := by decide +kernel
theorem dX8_path_86 : decode cX8_path 86 = .ok (.ireturn, 1) := by decide +kernel
theorem dX8_path_87 : decode cX8_path 87 = .ok (.aload_n 3, 1) := by decide +kernel
theorem dX8_path_88 : decode cX8_path 88 = .ok (.getfield 168, 3) := by decide +kernel
theorem dX8_path_91 : decode cX8_path 91 = .ok (.ireturn, 1) := by decide +kernel
theorem dX8_path_92 : decode cX8_path 92 = .ok (.aload_n 3, 1) := by decide +kernel
theorem dX8_path_93 : decode cX8_path 93 = .ok (.getfield 171, 3) := by decide +kernel
theorem dX8_path_96 : decode cX8_path 96 = .ok (.ireturn, 1) := by decide +kernel
theorem dX8_path_97 : decode cX8_path 97 = .ok (.aload_n 3, 1) := by decide +kernel
theorem dX8_path_98 : decode cX8_path 98 = .ok (.getfield 174, 3) := by decide +kernel
theorem dX8_path_101 : decode cX8_path 101 = .ok (.ireturn, 1) := by decide +kernel
theorem dX8_path_102 : decode cX8_path 102 = .ok (.aload_n 3, 1) := by decide +kernel
theorem dX8_path_103 : decode cX8_path 103 = .ok (.getfield 177, 3) := by decide +kernel
theorem dX8_path_106 : decode cX8_path 106 = .ok (.ireturn, 1) := by decide +kernel
theorem dX8_path_107 : decode cX8_path 107 = .ok (.aload_n 3, 1) := by decide +kernel
theorem dX8_path_108 : decode cX8_path 108 = .ok (.getfield 180, 3) := by decide +kernel
theorem dX8_path_111 : decode cX8_path 111 = .ok (.ireturn, 1) := by decide +kernel
theorem dX8_path_112 : decode cX8_path 112 = .ok (.aload_n 3, 1) := by decide +kernel
theorem dX8_path_113 : decode cX8_path 113 = .ok (.getfield 183, 3) := by decide +kernel
theorem dX8_path_116 : decode cX8_path 116 = .ok (.ireturn, 1) := by decide +kernel
theorem dX8_path_117 : decode cX8_path 117 = .ok (.aload_n 3, 1) := by decide +kernel
theorem dX8_path_118 : decode cX8_path 118 = .ok (.getfield 186, 3) := by decide +kernel
theorem dX8_path_121 : decode cX8_path 121 = .ok (.ireturn, 1) := by decide +kernel
theorem dX8_path_122 : decode cX8_path 122 = .ok (.new 140, 3) := by decide +kernel
theorem dX8_path_125 : decode cX8_path 125 = .ok (.dup, 1) := by decide +kernel
theorem dX8_path_126 : decode cX8_path 126 = .ok (.ldc 189, 2) := by decide +kernel
theorem dX8_path_128 : decode cX8_path 128 = .ok (.invokespecial 144, 3) := by decide +kernel
theorem dX8_path_131 : decode cX8_path 131 = .ok (.athrow, 1) := by decide +kernel
set_option maxRecDepth 20000 in
set_option maxRecDepth 100000 in
theorem ggX8_leg_X8_checkShot : GoodIn wsX8_leg wsX8_checkShot := goodIn_ca (goodIn_r _ [9, 1, 2, 10, 11, 12, 13, 14, 15, 16, 17, 173, 174, 175, 176, 177, 178, 179, 180, 181, 182, 183, 188, 189, 190, 191, 192, 193, 194] rfl (by decide +kernel)) (goodIn_sub (fun _ h => List.mem_cons_of_mem _ (List.mem_append_left _ (List.mem_append_right _ h))) (by decide +kernel))
set_option maxRecDepth 20000 in
theorem gX8_leg_X8_checkShot : GoodIn wsX8_leg (wsV RX8 152 RX8 yX8_checkShot wsX8_checkShot) := goodIn_app (goodIn_of _ (by decide +kernel)) ggX8_leg_X8_checkShot
set_option maxRecDepth 20000 in
set_option maxRecDepth 100000 in
theorem ggX8_leg_X8_pathOf : GoodIn wsX8_leg wsX8_pathOf := goodIn_r _ [21, 10, 11, 22, 23, 24, 15, 25, 26, 27, 28, 29, 30, 31, 32, 33, 34, 35, 36, 37, 38, 39, 40, 41, 42, 43, 44, 45, 46, 47, 48, 49, 50, 51, 52, 53, 54, 55, 56, 57, 58, 59, 60, 8, 61, 62, 63, 64, 65, 66, 67, 68, 69, 70, 71, 72, 73, 74, 75, 76, 77, 78, 79, 80, 81, 82, 83, 84, 85, 13, 14, 16, 17, 86, 87, 88, 89, 90, 91, 92, 93, 94, 95, 96, 97, 98, 99, 100, 101, 102, 103, 104, 105, 106, 107, 108, 109, 110, 111, 112, 113, 114, 115, 116, 117, 118, 119, 120, 121, 122, 123, 124, 125, 126, 127, 128, 129, 130, 131, 132, 133, 134, 135, 136, 137, 138, 139, 140, 141, 142, 143, 144, 145, 146, 147, 148, 149, 150, 151, 152, 153, 154, 155, 156, 157, 158, 159, 160, 161, 162, 163, 173, 174, 175, 176, 177, 178, 179, 180, 181, 182, 183, 188, 189, 190, 191, 192, 193, 194, 184, 185, 186, 187, 195, 196, 197, 198, 199, 200, 201, 202, 203, 204, 205, 206, 207, 208, 209, 210, 211, 212] rfl (by decide +kernel)
set_option maxRecDepth 20000 in
theorem gX8_leg_X8_pathOf : GoodIn wsX8_leg (wsV RX8 191 RX8 yX8_pathOf wsX8_pathOf) := goodIn_app (goodIn_of _ (by decide +kernel)) ggX8_leg_X8_pathOf
set_option maxRecDepth 20000 in
set_option maxRecDepth 100000 in
theorem ggX8_leg_X8_checkRange : GoodIn wsX8_leg wsX8_checkRange := goodIn_ca (goodIn_r _ [166, 167, 168] rfl (by decide +kernel)) (goodIn_sub (fun _ h => List.mem_cons_of_mem _ (List.mem_append_right _ h)) (by decide +kernel))
set_option maxRecDepth 20000 in
theorem gX8_leg_X8_checkRange : GoodIn wsX8_leg (va_wsS RX8 100 yX8_checkRange wsX8_checkRange) := goodIn_app (goodIn_of _ (by decide +kernel)) ggX8_leg_X8_checkRange
set_option maxRecDepth 20000 in
set_option maxRecDepth 100000 in
theorem ggX8_leg_X3_get : GoodIn wsX8_leg wsX3_get := goodIn_r _ [172, 37, 98, 115, 8, 116, 184, 185, 186, 187] rfl (by decide +kernel)
set_option maxRecDepth 20000 in
theorem gX8_leg_X3_get : GoodIn wsX8_leg (wsV RX8 201 RX3 yX3_get wsX3_get) := goodIn_app (goodIn_of _ (by decide +kernel)) ggX8_leg_X3_get
theorem dX8_leg_0 : decode cX8_leg 0 = .ok (.aload_n 0, 1) := by decide +kernel
theorem dX8_leg_1 : decode cX8_leg 1 = .ok (.iload_n 1, 1) := by decide +kernel
theorem dX8_leg_2 : decode cX8_leg 2 = .ok (.invokevirtual 152, 3) := by decide +kernel
theorem dX8_leg_5 : decode cX8_leg 5 = .ok (.aload_n 0, 1) := by decide +kernel
theorem dX8_leg_6 : decode cX8_leg 6 = .ok (.aload_n 0, 1) := by decide +kernel
theorem dX8_leg_7 : decode cX8_leg 7 = .ok (.getfield 52, 3) := by decide +kernel
theorem dX8_leg_10 : decode cX8_leg 10 = .ok (.iload_n 1, 1) := by decide +kernel
theorem dX8_leg_11 : decode cX8_leg 11 = .ok (.invokevirtual 191, 3) := by decide +kernel
theorem dX8_leg_14 : decode cX8_leg 14 = .ok (.astore 4, 2) := by decide +kernel
theorem dX8_leg_16 : decode cX8_leg 16 = .ok (.iload_n 2, 1) := by decide +kernel
theorem dX8_leg_17 : decode cX8_leg 17 = .ok (.ifCond .lt 12, 3) := by decide +kernel
theorem dX8_leg_20 : decode cX8_leg 20 = .ok (.iload_n 2, 1) := by decide +kernel
theorem dX8_leg_21 : decode cX8_leg 21 = .ok (.aload 4, 2) := by decide +kernel
theorem dX8_leg_23 : decode cX8_leg 23 = .ok (.getfield 195, 3) := by decide +kernel
theorem dX8_leg_26 : decode cX8_leg 26 = .ok (.if_icmp .lt 13, 3) := by decide +kernel
theorem dX8_leg_29 : decode cX8_leg 29 = .ok (.new 196, 3) := by decide +kernel
theorem dX8_leg_32 : decode cX8_leg 32 = .ok (.dup, 1) := by decide +kernel
theorem dX8_leg_33 : decode cX8_leg 33 = .ok (.ldc 198, 2) := by decide +kernel
theorem dX8_leg_35 : decode cX8_leg 35 = .ok (.invokespecial 200, 3) := by decide +kernel
theorem dX8_leg_38 : decode cX8_leg 38 = .ok (.athrow, 1) := by decide +kernel
theorem dX8_leg_39 : decode cX8_leg 39 = .ok (.iload_n 3, 1) := by decide +kernel
theorem dX8_leg_40 : decode cX8_leg 40 = .ok (.iconst 0, 1) := by decide +kernel
theorem dX8_leg_41 : decode cX8_leg 41 = .ok (.bipush 6, 2) := by decide +kernel
theorem dX8_leg_43 : decode cX8_leg 43 = .ok (.invokestatic 100, 3) := by decide +kernel
theorem dX8_leg_46 : decode cX8_leg 46 = .ok (.aload 4, 2) := by decide +kernel
theorem dX8_leg_48 : decode cX8_leg 48 = .ok (.iload_n 2, 1) := by decide +kernel
theorem dX8_leg_49 : decode cX8_leg 49 = .ok (.iload_n 3, 1) := by decide +kernel
theorem dX8_leg_50 : decode cX8_leg 50 = .ok (.invokevirtual 201, 3) := by decide +kernel
theorem dX8_leg_53 : decode cX8_leg 53 = .ok (.ireturn, 1) := by decide +kernel
set_option maxRecDepth 20000 in
set_option maxRecDepth 100000 in
theorem ggX8_critical_X8_checkLayer : GoodIn wsX8_critical wsX8_checkLayer := goodIn_ca (goodIn_r _ [6, 7, 8, 1, 9, 10, 11, 12, 13, 14, 15, 35, 36, 37, 38, 39, 40, 41, 42, 43, 44, 45, 46, 47, 48, 49, 50, 51, 52] rfl (by decide +kernel)) (goodIn_sub (fun _ h => List.mem_cons_of_mem _ (List.mem_append_right _ h)) (by decide +kernel))
set_option maxRecDepth 20000 in
theorem gX8_critical_X8_checkLayer : GoodIn wsX8_critical (wsV RX8 145 RX8 yX8_checkLayer wsX8_checkLayer) := goodIn_app (goodIn_of _ (by decide +kernel)) ggX8_critical_X8_checkLayer
set_option maxRecDepth 20000 in
set_option maxRecDepth 100000 in
theorem ggX8_critical_X5_isMirrorAt : GoodIn wsX8_critical wsX5_isMirrorAt := goodIn_r _ [20, 21, 22, 23, 46, 47, 48, 49, 50, 51, 52] rfl (by decide +kernel)
set_option maxRecDepth 20000 in
theorem gX8_critical_X5_isMirrorAt : GoodIn wsX8_critical (wsV RX8 216 RX5 yX5_isMirrorAt wsX5_isMirrorAt) := goodIn_app (goodIn_of _ (by decide +kernel)) ggX8_critical_X5_isMirrorAt
set_option maxRecDepth 20000 in
set_option maxRecDepth 100000 in
theorem ggX8_critical_X5_indexAt : GoodIn wsX8_critical wsX5_indexAt := goodIn_r _ [27, 28, 22, 23, 21, 29, 30, 31, 32, 13, 33, 34, 46, 47, 48, 49, 50, 51, 52] rfl (by decide +kernel)
set_option maxRecDepth 20000 in
theorem gX8_critical_X5_indexAt : GoodIn wsX8_critical (wsV RX8 220 RX5 yX5_indexAt wsX5_indexAt) := goodIn_app (goodIn_of _ (by decide +kernel)) ggX8_critical_X5_indexAt
theorem dX8_critical_0 : decode cX8_critical 0 = .ok (.aload_n 0, 1) := by decide +kernel
theorem dX8_critical_1 : decode cX8_critical 1 = .ok (.iload_n 1, 1) := by decide +kernel
theorem dX8_critical_2 : decode cX8_critical 2 = .ok (.invokevirtual 145, 3) := by decide +kernel
theorem dX8_critical_5 : decode cX8_critical 5 = .ok (.iload_n 2, 1) := by decide +kernel
theorem dX8_critical_6 : decode cX8_critical 6 = .ok (.ifCond .eq 9, 3) := by decide +kernel
theorem dX8_critical_9 : decode cX8_critical 9 = .ok (.iload_n 1, 1) := by decide +kernel
theorem dX8_critical_10 : decode cX8_critical 10 = .ok (.iconst 1, 1) := by decide +kernel
theorem dX8_critical_11 : decode cX8_critical 11 = .ok (.iadd, 1) := by decide +kernel
theorem dX8_critical_12 : decode cX8_critical 12 = .ok (.goto 6, 3) := by decide +kernel
theorem dX8_critical_15 : decode cX8_critical 15 = .ok (.iload_n 1, 1) := by decide +kernel
theorem dX8_critical_16 : decode cX8_critical 16 = .ok (.iconst 1, 1) := by decide +kernel
theorem dX8_critical_17 : decode cX8_critical 17 = .ok (.isub, 1) := by decide +kernel
theorem dX8_critical_18 : decode cX8_critical 18 = .ok (.istore_n 3, 1) := by decide +kernel
theorem dX8_critical_19 : decode cX8_critical 19 = .ok (.aload_n 0, 1) := by decide +kernel
theorem dX8_critical_20 : decode cX8_critical 20 = .ok (.getfield 22, 3) := by decide +kernel
theorem dX8_critical_23 : decode cX8_critical 23 = .ok (.iload_n 3, 1) := by decide +kernel
theorem dX8_critical_24 : decode cX8_critical 24 = .ok (.invokevirtual 216, 3) := by decide +kernel
theorem dX8_critical_27 : decode cX8_critical 27 = .ok (.ifCond .eq 5, 3) := by decide +kernel
theorem dX8_critical_30 : decode cX8_critical 30 = .ok (.iconst (-1), 1) := by decide +kernel
theorem dX8_critical_31 : decode cX8_critical 31 = .ok (.ireturn, 1) := by decide +kernel
theorem dX8_critical_32 : decode cX8_critical 32 = .ok (.aload_n 0, 1) := by decide +kernel
theorem dX8_critical_33 : decode cX8_critical 33 = .ok (.getfield 22, 3) := by decide +kernel
theorem dX8_critical_36 : decode cX8_critical 36 = .ok (.iload_n 3, 1) := by decide +kernel
theorem dX8_critical_37 : decode cX8_critical 37 = .ok (.invokevirtual 220, 3) := by decide +kernel
theorem dX8_critical_40 : decode cX8_critical 40 = .ok (.istore 4, 2) := by decide +kernel
theorem dX8_critical_42 : decode cX8_critical 42 = .ok (.iload 4, 2) := by decide +kernel
theorem dX8_critical_44 : decode cX8_critical 44 = .ok (.aload_n 0, 1) := by decide +kernel
theorem dX8_critical_45 : decode cX8_critical 45 = .ok (.getfield 22, 3) := by decide +kernel
theorem dX8_critical_48 : decode cX8_critical 48 = .ok (.iload_n 1, 1) := by decide +kernel
theorem dX8_critical_49 : decode cX8_critical 49 = .ok (.invokevirtual 220, 3) := by decide +kernel
theorem dX8_critical_52 : decode cX8_critical 52 = .ok (.if_icmp .ge 8, 3) := by decide +kernel
theorem dX8_critical_55 : decode cX8_critical 55 = .ok (.iload 4, 2) := by decide +kernel
theorem dX8_critical_57 : decode cX8_critical 57 = .ok (.goto 4, 3) := by decide +kernel
theorem dX8_critical_60 : decode cX8_critical 60 = .ok (.iconst (-1), 1) := by decide +kernel
theorem dX8_critical_61 : decode cX8_critical 61 = .ok (.ireturn, 1) := by decide +kernel
set_option maxRecDepth 20000 in
set_option maxRecDepth 100000 in
theorem ggX8_endOf_X8_checkLayer : GoodIn wsX8_endOf wsX8_checkLayer := goodIn_ca (goodIn_r _ [8, 9, 10, 2, 11, 12, 13, 14, 15, 16, 17, 147, 148, 149, 150, 151, 152, 153, 154, 155, 156, 157, 176, 177, 178, 179, 180, 181, 182] rfl (by decide +kernel)) (goodIn_sub (fun _ h => List.mem_cons_of_mem _ (List.mem_append_left _ (List.mem_append_right _ h))) (by decide +kernel))
set_option maxRecDepth 20000 in
theorem gX8_endOf_X8_checkLayer : GoodIn wsX8_endOf (wsV RX8 145 RX8 yX8_checkLayer wsX8_checkLayer) := goodIn_app (goodIn_of _ (by decide +kernel)) ggX8_endOf_X8_checkLayer
set_option maxRecDepth 20000 in
set_option maxRecDepth 100000 in
theorem ggX8_endOf_X8_checkRange : GoodIn wsX8_endOf wsX8_checkRange := goodIn_ca (goodIn_r _ [20, 21, 22] rfl (by decide +kernel)) (goodIn_sub (fun _ h => List.mem_cons_of_mem _ (List.mem_append_right _ h)) (by decide +kernel))
set_option maxRecDepth 20000 in
theorem gX8_endOf_X8_checkRange : GoodIn wsX8_endOf (va_wsS RX8 100 yX8_checkRange wsX8_checkRange) := goodIn_app (goodIn_of _ (by decide +kernel)) ggX8_endOf_X8_checkRange
set_option maxRecDepth 20000 in
set_option maxRecDepth 100000 in
theorem ggX8_endOf_X4_enter : GoodIn wsX8_endOf wsX4_enter := goodIn_r _ [27, 28, 29, 30, 31, 32, 33, 34, 35, 36, 37, 38, 39, 40, 41, 42, 43, 44, 15, 45, 46, 47, 7, 48, 158, 159, 160, 161, 162, 163, 164, 165, 166, 167, 168, 169, 170, 171, 172, 173, 174, 175, 176, 177, 178, 179, 180, 181, 182] rfl (by decide +kernel)
set_option maxRecDepth 20000 in
theorem gX8_endOf_X4_enter : GoodIn wsX8_endOf (wsV RX8 223 RX4 yX4_enter wsX4_enter) := goodIn_app (goodIn_of _ (by decide +kernel)) ggX8_endOf_X4_enter
set_option maxRecDepth 20000 in
set_option maxRecDepth 100000 in
theorem ggX8_endOf_X4_run : GoodIn wsX8_endOf wsX4_run := goodIn_r _ [52, 53, 54, 55, 26, 56, 57, 58, 59, 60, 61, 62, 63, 64, 65, 66, 67, 28, 68, 69, 70, 71, 72, 73, 74, 35, 75, 38, 76, 13, 14, 15, 16, 17, 42, 43, 44, 45, 46, 77, 78, 79, 80, 81, 82, 83, 84, 85, 86, 87, 88, 89, 90, 91, 92, 29, 93, 94, 95, 96, 97, 98, 99, 100, 101, 7, 102, 103, 104, 105, 106, 107, 108, 109, 110, 111, 112, 47, 48, 113, 114, 115, 116, 117, 118, 119, 120, 121, 122, 123, 124, 31, 125, 126, 127, 128, 129, 130, 131, 132, 133, 134, 135, 136, 137, 40, 39, 138, 139, 140, 141, 142, 143, 144, 145, 146, 158, 159, 160, 161, 162, 163, 164, 165, 166, 167, 168, 169, 170, 171, 172, 173, 174, 175, 176, 177, 178, 179, 180, 181, 182] rfl (by decide +kernel)
set_option maxRecDepth 20000 in
theorem gX8_endOf_X4_run : GoodIn wsX8_endOf (wsV RX8 226 RX4 yX4_run wsX4_run) := goodIn_app (goodIn_of _ (by decide +kernel)) ggX8_endOf_X4_run
theorem dX8_endOf_0 : decode cX8_endOf 0 = .ok (.aload_n 0, 1) := by decide +kernel
theorem dX8_endOf_1 : decode cX8_endOf 1 = .ok (.iload_n 1, 1) := by decide +kernel
theorem dX8_endOf_2 : decode cX8_endOf 2 = .ok (.invokevirtual 145, 3) := by decide +kernel
theorem dX8_endOf_5 : decode cX8_endOf 5 = .ok (.iload_n 3, 1) := by decide +kernel
theorem dX8_endOf_6 : decode cX8_endOf 6 = .ok (.iconst 0, 1) := by decide +kernel
theorem dX8_endOf_7 : decode cX8_endOf 7 = .ok (.sipush 3999, 3) := by decide +kernel
theorem dX8_endOf_10 : decode cX8_endOf 10 = .ok (.invokestatic 100, 3) := by decide +kernel
theorem dX8_endOf_13 : decode cX8_endOf 13 = .ok (.aload_n 0, 1) := by decide +kernel
theorem dX8_endOf_14 : decode cX8_endOf 14 = .ok (.getfield 45, 3) := by decide +kernel
theorem dX8_endOf_17 : decode cX8_endOf 17 = .ok (.aload_n 0, 1) := by decide +kernel
theorem dX8_endOf_18 : decode cX8_endOf 18 = .ok (.getfield 22, 3) := by decide +kernel
theorem dX8_endOf_21 : decode cX8_endOf 21 = .ok (.invokevirtual 223, 3) := by decide +kernel
theorem dX8_endOf_24 : decode cX8_endOf 24 = .ok (.aload_n 0, 1) := by decide +kernel
theorem dX8_endOf_25 : decode cX8_endOf 25 = .ok (.getfield 45, 3) := by decide +kernel
theorem dX8_endOf_28 : decode cX8_endOf 28 = .ok (.iload_n 1, 1) := by decide +kernel
theorem dX8_endOf_29 : decode cX8_endOf 29 = .ok (.iload_n 2, 1) := by decide +kernel
theorem dX8_endOf_30 : decode cX8_endOf 30 = .ok (.iload_n 3, 1) := by decide +kernel
theorem dX8_endOf_31 : decode cX8_endOf 31 = .ok (.invokevirtual 226, 3) := by decide +kernel
theorem dX8_endOf_34 : decode cX8_endOf 34 = .ok (.aload_n 0, 1) := by decide +kernel
theorem dX8_endOf_35 : decode cX8_endOf 35 = .ok (.getfield 45, 3) := by decide +kernel
theorem dX8_endOf_38 : decode cX8_endOf 38 = .ok (.getfield 162, 3) := by decide +kernel
theorem dX8_endOf_41 : decode cX8_endOf 41 = .ok (.ireturn, 1) := by decide +kernel
set_option maxRecDepth 20000 in
set_option maxRecDepth 100000 in
theorem ggX8_shiftOf_X8_checkLayer : GoodIn wsX8_shiftOf wsX8_checkLayer := goodIn_ca (goodIn_r _ [9, 10, 11, 2, 12, 13, 14, 15, 16, 17, 18, 148, 149, 150, 151, 152, 153, 154, 155, 156, 157, 158, 177, 178, 179, 180, 181, 182, 183] rfl (by decide +kernel)) (goodIn_sub (fun _ h => List.mem_cons_of_mem _ (List.mem_append_left _ (List.mem_append_right _ h))) (by decide +kernel))
set_option maxRecDepth 20000 in
theorem gX8_shiftOf_X8_checkLayer : GoodIn wsX8_shiftOf (wsV RX8 145 RX8 yX8_checkLayer wsX8_checkLayer) := goodIn_app (goodIn_of _ (by decide +kernel)) ggX8_shiftOf_X8_checkLayer
set_option maxRecDepth 20000 in
set_option maxRecDepth 100000 in
theorem ggX8_shiftOf_X8_checkRange : GoodIn wsX8_shiftOf wsX8_checkRange := goodIn_ca (goodIn_r _ [21, 22, 23] rfl (by decide +kernel)) (goodIn_sub (fun _ h => List.mem_cons_of_mem _ (List.mem_append_right _ h)) (by decide +kernel))
set_option maxRecDepth 20000 in
theorem gX8_shiftOf_X8_checkRange : GoodIn wsX8_shiftOf (va_wsS RX8 100 yX8_checkRange wsX8_checkRange) := goodIn_app (goodIn_of _ (by decide +kernel)) ggX8_shiftOf_X8_checkRange
set_option maxRecDepth 20000 in
set_option maxRecDepth 100000 in
theorem ggX8_shiftOf_X4_enter : GoodIn wsX8_shiftOf wsX4_enter := goodIn_r _ [28, 29, 30, 31, 32, 33, 34, 35, 36, 37, 38, 39, 40, 41, 42, 43, 44, 45, 16, 46, 47, 48, 8, 49, 159, 160, 161, 162, 163, 164, 165, 166, 167, 168, 169, 170, 171, 172, 173, 174, 175, 176, 177, 178, 179, 180, 181, 182, 183] rfl (by decide +kernel)
set_option maxRecDepth 20000 in
theorem gX8_shiftOf_X4_enter : GoodIn wsX8_shiftOf (wsV RX8 223 RX4 yX4_enter wsX4_enter) := goodIn_app (goodIn_of _ (by decide +kernel)) ggX8_shiftOf_X4_enter
set_option maxRecDepth 20000 in
set_option maxRecDepth 100000 in
theorem ggX8_shiftOf_X4_run : GoodIn wsX8_shiftOf wsX4_run := goodIn_r _ [53, 54, 55, 56, 27, 57, 58, 59, 60, 61, 62, 63, 64, 65, 66, 67, 68, 29, 69, 70, 71, 72, 73, 74, 75, 36, 76, 39, 77, 14, 15, 16, 17, 18, 43, 44, 45, 46, 47, 78, 79, 80, 81, 82, 83, 84, 85, 86, 87, 88, 89, 90, 91, 92, 93, 30, 94, 95, 96, 97, 98, 99, 100, 101, 102, 8, 103, 104, 105, 106, 107, 108, 109, 110, 111, 112, 113, 48, 49, 114, 115, 116, 117, 118, 119, 120, 121, 122, 123, 124, 125, 32, 126, 127, 128, 129, 130, 131, 132, 133, 134, 135, 136, 137, 138, 41, 40, 139, 140, 141, 142, 143, 144, 145, 146, 147, 159, 160, 161, 162, 163, 164, 165, 166, 167, 168, 169, 170, 171, 172, 173, 174, 175, 176, 177, 178, 179, 180, 181, 182, 183] rfl (by decide +kernel)
set_option maxRecDepth 20000 in
theorem gX8_shiftOf_X4_run : GoodIn wsX8_shiftOf (wsV RX8 226 RX4 yX4_run wsX4_run) := goodIn_app (goodIn_of _ (by decide +kernel)) ggX8_shiftOf_X4_run
theorem dX8_shiftOf_0 : decode cX8_shiftOf 0 = .ok (.aload_n 0, 1) := by decide +kernel
theorem dX8_shiftOf_1 : decode cX8_shiftOf 1 = .ok (.iload_n 1, 1) := by decide +kernel
theorem dX8_shiftOf_2 : decode cX8_shiftOf 2 = .ok (.invokevirtual 145, 3) := by decide +kernel
theorem dX8_shiftOf_5 : decode cX8_shiftOf 5 = .ok (.iload_n 3, 1) := by decide +kernel
theorem dX8_shiftOf_6 : decode cX8_shiftOf 6 = .ok (.iconst 0, 1) := by decide +kernel
theorem dX8_shiftOf_7 : decode cX8_shiftOf 7 = .ok (.sipush 3999, 3) := by decide +kernel
theorem dX8_shiftOf_10 : decode cX8_shiftOf 10 = .ok (.invokestatic 100, 3) := by decide +kernel
theorem dX8_shiftOf_13 : decode cX8_shiftOf 13 = .ok (.aload_n 0, 1) := by decide +kernel
theorem dX8_shiftOf_14 : decode cX8_shiftOf 14 = .ok (.getfield 45, 3) := by decide +kernel
theorem dX8_shiftOf_17 : decode cX8_shiftOf 17 = .ok (.aload_n 0, 1) := by decide +kernel
theorem dX8_shiftOf_18 : decode cX8_shiftOf 18 = .ok (.getfield 22, 3) := by decide +kernel
theorem dX8_shiftOf_21 : decode cX8_shiftOf 21 = .ok (.invokevirtual 223, 3) := by decide +kernel
theorem dX8_shiftOf_24 : decode cX8_shiftOf 24 = .ok (.aload_n 0, 1) := by decide +kernel
theorem dX8_shiftOf_25 : decode cX8_shiftOf 25 = .ok (.getfield 45, 3) := by decide +kernel
theorem dX8_shiftOf_28 : decode cX8_shiftOf 28 = .ok (.iload_n 1, 1) := by decide +kernel
theorem dX8_shiftOf_29 : decode cX8_shiftOf 29 = .ok (.iload_n 2, 1) := by decide +kernel
theorem dX8_shiftOf_30 : decode cX8_shiftOf 30 = .ok (.iload_n 3, 1) := by decide +kernel
theorem dX8_shiftOf_31 : decode cX8_shiftOf 31 = .ok (.invokevirtual 226, 3) := by decide +kernel
theorem dX8_shiftOf_34 : decode cX8_shiftOf 34 = .ok (.aload_n 0, 1) := by decide +kernel
theorem dX8_shiftOf_35 : decode cX8_shiftOf 35 = .ok (.getfield 45, 3) := by decide +kernel
theorem dX8_shiftOf_38 : decode cX8_shiftOf 38 = .ok (.getfield 162, 3) := by decide +kernel
theorem dX8_shiftOf_41 : decode cX8_shiftOf 41 = .ok (.iconst 4, 1) := by decide +kernel
theorem dX8_shiftOf_42 : decode cX8_shiftOf 42 = .ok (.if_icmp .ne 7, 3) := by decide +kernel
theorem dX8_shiftOf_45 : decode cX8_shiftOf 45 = .ok (.iconst (-1), 1) := by decide +kernel
theorem dX8_shiftOf_46 : decode cX8_shiftOf 46 = .ok (.goto 10, 3) := by decide +kernel
theorem dX8_shiftOf_49 : decode cX8_shiftOf 49 = .ok (.aload_n 0, 1) := by decide +kernel
theorem dX8_shiftOf_50 : decode cX8_shiftOf 50 = .ok (.getfield 45, 3) := by decide +kernel
theorem dX8_shiftOf_53 : decode cX8_shiftOf 53 = .ok (.getfield 165, 3) := by decide +kernel
theorem dX8_shiftOf_56 : decode cX8_shiftOf 56 = .ok (.ireturn, 1) := by decide +kernel
set_option maxRecDepth 20000 in
set_option maxRecDepth 100000 in
theorem ggX8_count_X8_checkRange : GoodIn wsX8_count wsX8_checkRange := goodIn_ca (goodIn_r _ [8, 9, 10] rfl (by decide +kernel)) (goodIn_sub (fun _ h => List.mem_cons_of_mem _ (List.mem_append_right _ h)) (by decide +kernel))
set_option maxRecDepth 20000 in
theorem gX8_count_X8_checkRange : GoodIn wsX8_count (va_wsS RX8 100 yX8_checkRange wsX8_checkRange) := goodIn_app (goodIn_of _ (by decide +kernel)) ggX8_count_X8_checkRange
set_option maxRecDepth 20000 in
set_option maxRecDepth 100000 in
theorem ggX8_count_X8_runOf : GoodIn wsX8_count wsX8_runOf := goodIn_r _ [14, 2, 15, 16, 17, 18, 19, 20, 21, 22, 23, 24, 25, 26, 27, 28, 29, 30, 31, 32, 33, 34, 35, 36, 37, 38, 39, 40, 41, 7, 42, 43, 44, 45, 46, 47, 48, 49, 50, 51, 52, 53, 54, 55, 56, 57, 58, 59, 60, 61, 62, 63, 64, 65, 66, 67, 68, 69, 70, 71, 72, 73, 74, 75, 76, 77, 78, 79, 80, 81, 82, 83, 84, 85, 86, 87, 88, 89, 90, 91, 92, 93, 94, 95, 96, 97, 98, 99, 100, 101, 102, 103, 104, 105, 106, 107, 108, 109, 110, 111, 112, 113, 114, 115, 116, 117, 118, 119, 120, 121, 122, 123, 124, 125, 126, 127, 128, 129, 130, 131, 132, 133, 134, 135, 136, 137, 138, 139, 140, 141, 142, 143, 144, 145, 157, 158, 159, 160, 161, 146, 147, 148, 149, 150, 151, 152, 153, 154, 155, 156, 164, 165, 166, 167, 168, 169, 170, 171, 172, 173, 174, 175, 176, 177, 178, 179, 180, 181, 162, 163] rfl (by decide +kernel)
set_option maxRecDepth 20000 in
theorem gX8_count_X8_runOf : GoodIn wsX8_count (wsV RX8 155 RX8 yX8_runOf wsX8_runOf) := goodIn_app (goodIn_of _ (by decide +kernel)) ggX8_count_X8_runOf
theorem dX8_count_0 : decode cX8_count 0 = .ok (.iload_n 1, 1) := by decide +kernel
theorem dX8_count_1 : decode cX8_count 1 = .ok (.iconst 0, 1) := by decide +kernel
theorem dX8_count_2 : decode cX8_count 2 = .ok (.iconst 4, 1) := by decide +kernel
theorem dX8_count_3 : decode cX8_count 3 = .ok (.invokestatic 100, 3) := by decide +kernel
theorem dX8_count_6 : decode cX8_count 6 = .ok (.iconst 0, 1) := by decide +kernel
theorem dX8_count_7 : decode cX8_count 7 = .ok (.istore_n 2, 1) := by decide +kernel
theorem dX8_count_8 : decode cX8_count 8 = .ok (.iconst 0, 1) := by decide +kernel
theorem dX8_count_9 : decode cX8_count 9 = .ok (.istore_n 3, 1) := by decide +kernel
theorem dX8_count_10 : decode cX8_count 10 = .ok (.iload_n 3, 1) := by decide +kernel
theorem dX8_count_11 : decode cX8_count 11 = .ok (.aload_n 0, 1) := by decide +kernel
theorem dX8_count_12 : decode cX8_count 12 = .ok (.getfield 22, 3) := by decide +kernel
theorem dX8_count_15 : decode cX8_count 15 = .ok (.getfield 133, 3) := by decide +kernel
theorem dX8_count_18 : decode cX8_count 18 = .ok (.getfield 114, 3) := by decide +kernel
theorem dX8_count_21 : decode cX8_count 21 = .ok (.if_icmp .ge 28, 3) := by decide +kernel
theorem dX8_count_24 : decode cX8_count 24 = .ok (.aload_n 0, 1) := by decide +kernel
theorem dX8_count_25 : decode cX8_count 25 = .ok (.aload_n 0, 1) := by decide +kernel
theorem dX8_count_26 : decode cX8_count 26 = .ok (.getfield 22, 3) := by decide +kernel
theorem dX8_count_29 : decode cX8_count 29 = .ok (.iload_n 3, 1) := by decide +kernel
theorem dX8_count_30 : decode cX8_count 30 = .ok (.invokevirtual 155, 3) := by decide +kernel
theorem dX8_count_33 : decode cX8_count 33 = .ok (.getfield 162, 3) := by decide +kernel
theorem dX8_count_36 : decode cX8_count 36 = .ok (.iload_n 1, 1) := by decide +kernel
theorem dX8_count_37 : decode cX8_count 37 = .ok (.if_icmp .ne 6, 3) := by decide +kernel
theorem dX8_count_40 : decode cX8_count 40 = .ok (.iinc 2 1, 3) := by decide +kernel
theorem dX8_count_43 : decode cX8_count 43 = .ok (.iinc 3 1, 3) := by decide +kernel
theorem dX8_count_46 : decode cX8_count 46 = .ok (.goto (-36), 3) := by decide +kernel
theorem dX8_count_49 : decode cX8_count 49 = .ok (.iload_n 2, 1) := by decide +kernel
theorem dX8_count_50 : decode cX8_count 50 = .ok (.ireturn, 1) := by decide +kernel
set_option maxRecDepth 20000 in
set_option maxRecDepth 100000 in
theorem ggX8_legsIn_X8_checkLayer : GoodIn wsX8_legsIn wsX8_checkLayer := goodIn_ca (goodIn_r _ [5, 6, 7, 8, 9, 10, 11, 12, 13, 14, 15, 177, 178, 179, 180, 181, 182, 183, 184, 185, 186, 187, 188, 189, 190, 191, 192, 193, 194] rfl (by decide +kernel)) (goodIn_sub (fun _ h => List.mem_cons_of_mem _ (List.mem_append_right _ h)) (by decide +kernel))
set_option maxRecDepth 20000 in
theorem gX8_legsIn_X8_checkLayer : GoodIn wsX8_legsIn (wsV RX8 145 RX8 yX8_checkLayer wsX8_checkLayer) := goodIn_app (goodIn_of _ (by decide +kernel)) ggX8_legsIn_X8_checkLayer
set_option maxRecDepth 20000 in
set_option maxRecDepth 100000 in
theorem ggX8_legsIn_X8_legsAcross : GoodIn wsX8_legsIn wsX8_legsAcross := goodIn_r _ [19, 8, 20, 21, 22, 23, 24, 25, 4, 26, 27, 28, 29, 13, 30, 31, 32, 33, 34, 35, 36, 37, 38, 39, 40, 41, 42, 43, 44, 45, 46, 47, 48, 49, 50, 51, 52, 53, 54, 55, 56, 57, 58, 59, 60, 61, 62, 63, 64, 65, 66, 67, 68, 69, 70, 71, 72, 73, 74, 75, 76, 77, 78, 79, 80, 81, 82, 83, 84, 85, 86, 87, 88, 89, 90, 11, 12, 14, 15, 91, 92, 93, 94, 95, 96, 97, 98, 99, 100, 101, 102, 103, 104, 105, 106, 107, 108, 109, 110, 111, 112, 113, 114, 115, 116, 117, 118, 119, 120, 121, 122, 123, 124, 125, 126, 127, 128, 129, 130, 131, 132, 133, 134, 135, 136, 137, 138, 139, 140, 141, 142, 143, 144, 145, 146, 147, 148, 149, 150, 151, 152, 153, 154, 155, 156, 157, 158, 159, 160, 161, 162, 163, 164, 165, 166, 167, 168, 169, 170, 171, 172, 173, 174, 175, 176, 177, 178, 179, 180, 181, 182, 183, 184, 185, 186, 187, 188, 189, 190, 191, 192, 193, 194, 195, 196, 197, 198, 199, 200, 201, 202, 203, 204, 205, 206, 207, 208, 209, 210, 211, 212, 213, 214, 215, 216] rfl (by decide +kernel)
set_option maxRecDepth 20000 in
theorem gX8_legsIn_X8_legsAcross : GoodIn wsX8_legsIn (wsV RX8 270 RX8 yX8_legsAcross wsX8_legsAcross) := goodIn_app (goodIn_of _ (by decide +kernel)) ggX8_legsIn_X8_legsAcross
theorem dX8_legsIn_0 : decode cX8_legsIn 0 = .ok (.aload_n 0, 1) := by decide +kernel
theorem dX8_legsIn_1 : decode cX8_legsIn 1 = .ok (.iload_n 1, 1) := by decide +kernel
theorem dX8_legsIn_2 : decode cX8_legsIn 2 = .ok (.invokevirtual 145, 3) := by decide +kernel
theorem dX8_legsIn_5 : decode cX8_legsIn 5 = .ok (.aload_n 0, 1) := by decide +kernel
theorem dX8_legsIn_6 : decode cX8_legsIn 6 = .ok (.iload_n 1, 1) := by decide +kernel
theorem dX8_legsIn_7 : decode cX8_legsIn 7 = .ok (.invokevirtual 270, 3) := by decide +kernel
theorem dX8_legsIn_10 : decode cX8_legsIn 10 = .ok (.ireturn, 1) := by decide +kernel
set_option maxRecDepth 20000 in
set_option maxRecDepth 100000 in
theorem ggX8_share_X8_checkShot : GoodIn wsX8_share wsX8_checkShot := goodIn_ca (goodIn_r _ [8, 9, 10, 1, 11, 12, 13, 14, 15, 16, 17, 148, 149, 150, 151, 152, 153, 154, 155, 156, 157, 158, 177, 178, 179, 180, 181, 182, 183] rfl (by decide +kernel)) (goodIn_sub (fun _ h => List.mem_cons_of_mem _ (List.mem_append_right _ h)) (by decide +kernel))
set_option maxRecDepth 20000 in
theorem gX8_share_X8_checkShot : GoodIn wsX8_share (wsV RX8 152 RX8 yX8_checkShot wsX8_checkShot) := goodIn_app (goodIn_of _ (by decide +kernel)) ggX8_share_X8_checkShot
set_option maxRecDepth 20000 in
set_option maxRecDepth 100000 in
theorem ggX8_share_X8_runOf : GoodIn wsX8_share wsX8_runOf := goodIn_r _ [21, 11, 22, 23, 24, 25, 26, 27, 28, 29, 30, 31, 32, 33, 34, 35, 36, 37, 38, 39, 40, 41, 42, 43, 44, 15, 45, 46, 47, 7, 48, 49, 50, 51, 52, 53, 54, 55, 56, 57, 58, 59, 60, 61, 62, 63, 64, 65, 66, 67, 68, 69, 70, 71, 72, 73, 74, 75, 76, 77, 13, 14, 16, 17, 78, 79, 80, 81, 82, 83, 84, 85, 86, 87, 88, 89, 90, 91, 92, 93, 94, 95, 96, 97, 98, 99, 100, 101, 102, 103, 104, 105, 106, 107, 108, 109, 110, 111, 112, 113, 114, 115, 116, 117, 118, 119, 120, 121, 122, 123, 124, 125, 126, 127, 128, 129, 130, 131, 132, 133, 134, 135, 136, 137, 138, 139, 140, 141, 142, 143, 144, 145, 146, 147, 177, 178, 179, 180, 181, 148, 149, 150, 151, 152, 153, 154, 155, 156, 157, 158, 159, 160, 161, 162, 163, 164, 165, 166, 167, 168, 169, 170, 171, 172, 173, 174, 175, 176, 182, 183] rfl (by decide +kernel)
set_option maxRecDepth 20000 in
theorem gX8_share_X8_runOf : GoodIn wsX8_share (wsV RX8 155 RX8 yX8_runOf wsX8_runOf) := goodIn_app (goodIn_of _ (by decide +kernel)) ggX8_share_X8_runOf
theorem dX8_share_0 : decode cX8_share 0 = .ok (.aload_n 0, 1) := by decide +kernel
theorem dX8_share_1 : decode cX8_share 1 = .ok (.iload_n 1, 1) := by decide +kernel
theorem dX8_share_2 : decode cX8_share 2 = .ok (.invokevirtual 152, 3) := by decide +kernel
theorem dX8_share_5 : decode cX8_share 5 = .ok (.aload_n 0, 1) := by decide +kernel
theorem dX8_share_6 : decode cX8_share 6 = .ok (.aload_n 0, 1) := by decide +kernel
theorem dX8_share_7 : decode cX8_share 7 = .ok (.getfield 22, 3) := by decide +kernel
theorem dX8_share_10 : decode cX8_share 10 = .ok (.iload_n 1, 1) := by decide +kernel
theorem dX8_share_11 : decode cX8_share 11 = .ok (.invokevirtual 155, 3) := by decide +kernel
theorem dX8_share_14 : decode cX8_share 14 = .ok (.getfield 174, 3) := by decide +kernel
theorem dX8_share_17 : decode cX8_share 17 = .ok (.i2f, 1) := by decide +kernel
theorem dX8_share_18 : decode cX8_share 18 = .ok (.ldc_w 273, 3) := by decide +kernel
theorem dX8_share_21 : decode cX8_share 21 = .ok (.fdiv, 1) := by decide +kernel
theorem dX8_share_22 : decode cX8_share 22 = .ok (.freturn, 1) := by decide +kernel
set_option maxRecDepth 20000 in
set_option maxRecDepth 100000 in
theorem ggX8_addLayer_X8_checkRange : GoodIn wsX8_addLayer wsX8_checkRange := goodIn_ca (goodIn_r _ [12, 13, 14] rfl (by decide +kernel)) (goodIn_sub (fun _ h => List.mem_cons_of_mem _ (List.mem_append_right _ h)) (by decide +kernel))
set_option maxRecDepth 20000 in
theorem gX8_addLayer_X8_checkRange : GoodIn wsX8_addLayer (va_wsS RX8 100 yX8_checkRange wsX8_checkRange) := goodIn_app (goodIn_of _ (by decide +kernel)) ggX8_addLayer_X8_checkRange
set_option maxRecDepth 20000 in
set_option maxRecDepth 100000 in
theorem ggX8_addLayer_X1_remember : GoodIn wsX8_addLayer wsX1_remember := goodIn_r _ [19, 20, 21, 22, 23, 24, 25, 26, 27, 28, 29, 30, 11, 31, 32, 33, 34, 35, 36, 37, 38, 39, 40, 41, 42, 43, 44, 45, 46, 47, 48, 49, 50, 51, 52, 53, 54, 55, 56, 57, 58, 59, 60, 61, 62, 63, 64, 65, 66, 67, 104, 105, 106, 97, 98, 99, 100, 101, 102, 103] rfl (by decide +kernel)
set_option maxRecDepth 20000 in
theorem gX8_addLayer_X1_remember : GoodIn wsX8_addLayer (wsV RX8 108 RX1 yX1_remember wsX1_remember) := goodIn_app (goodIn_of _ (by decide +kernel)) ggX8_addLayer_X1_remember
set_option maxRecDepth 20000 in
set_option maxRecDepth 100000 in
theorem ggX8_addLayer_X7_insert : GoodIn wsX8_addLayer wsX7_insert := goodIn_r _ [71, 50, 72, 73, 74, 39, 75, 76, 77, 78, 79, 49, 80, 81, 82, 83, 84, 11, 85, 102, 103] rfl (by decide +kernel)
set_option maxRecDepth 20000 in
theorem gX8_addLayer_X7_insert : GoodIn wsX8_addLayer (wsV RX8 79 RX7 yX7_insert wsX7_insert) := goodIn_app (goodIn_of _ (by decide +kernel)) ggX8_addLayer_X7_insert
theorem dX8_addLayer_0 : decode cX8_addLayer 0 = .ok (.iload_n 1, 1) := by decide +kernel
theorem dX8_addLayer_1 : decode cX8_addLayer 1 = .ok (.ifCond .lt 17, 3) := by decide +kernel
theorem dX8_addLayer_4 : decode cX8_addLayer 4 = .ok (.iload_n 1, 1) := by decide +kernel
theorem dX8_addLayer_5 : decode cX8_addLayer 5 = .ok (.aload_n 0, 1) := by decide +kernel
theorem dX8_addLayer_6 : decode cX8_addLayer 6 = .ok (.getfield 22, 3) := by decide +kernel
theorem dX8_addLayer_9 : decode cX8_addLayer 9 = .ok (.getfield 75, 3) := by decide +kernel
theorem dX8_addLayer_12 : decode cX8_addLayer 12 = .ok (.getfield 114, 3) := by decide +kernel
theorem dX8_addLayer_15 : decode cX8_addLayer 15 = .ok (.if_icmp .le 14, 3) := by decide +kernel
theorem dX8_addLayer_18 : decode cX8_addLayer 18 = .ok (.new 196, 3) := by decide +kernel
theorem dX8_addLayer_21 : decode cX8_addLayer 21 = .ok (.dup, 1) := by decide +kernel
theorem dX8_addLayer_22 : decode cX8_addLayer 22 = .ok (.ldc_w 280, 3) := by decide +kernel
theorem dX8_addLayer_25 : decode cX8_addLayer 25 = .ok (.invokespecial 200, 3) := by decide +kernel
theorem dX8_addLayer_28 : decode cX8_addLayer 28 = .ok (.athrow, 1) := by decide +kernel
theorem dX8_addLayer_29 : decode cX8_addLayer 29 = .ok (.iload_n 2, 1) := by decide +kernel
theorem dX8_addLayer_30 : decode cX8_addLayer 30 = .ok (.sipush 1000, 3) := by decide +kernel
theorem dX8_addLayer_33 : decode cX8_addLayer 33 = .ok (.sipush 4000, 3) := by decide +kernel
theorem dX8_addLayer_36 : decode cX8_addLayer 36 = .ok (.invokestatic 100, 3) := by decide +kernel
theorem dX8_addLayer_39 : decode cX8_addLayer 39 = .ok (.iload_n 3, 1) := by decide +kernel
theorem dX8_addLayer_40 : decode cX8_addLayer 40 = .ok (.iconst 1, 1) := by decide +kernel
theorem dX8_addLayer_41 : decode cX8_addLayer 41 = .ok (.sipush 999, 3) := by decide +kernel
theorem dX8_addLayer_44 : decode cX8_addLayer 44 = .ok (.invokestatic 100, 3) := by decide +kernel
theorem dX8_addLayer_47 : decode cX8_addLayer 47 = .ok (.iload 4, 2) := by decide +kernel
theorem dX8_addLayer_49 : decode cX8_addLayer 49 = .ok (.iconst 0, 1) := by decide +kernel
theorem dX8_addLayer_50 : decode cX8_addLayer 50 = .ok (.bipush 99, 2) := by decide +kernel
theorem dX8_addLayer_52 : decode cX8_addLayer 52 = .ok (.invokestatic 100, 3) := by decide +kernel
theorem dX8_addLayer_55 : decode cX8_addLayer 55 = .ok (.aload_n 0, 1) := by decide +kernel
theorem dX8_addLayer_56 : decode cX8_addLayer 56 = .ok (.getfield 22, 3) := by decide +kernel
theorem dX8_addLayer_59 : decode cX8_addLayer 59 = .ok (.getfield 75, 3) := by decide +kernel
theorem dX8_addLayer_62 : decode cX8_addLayer 62 = .ok (.getfield 114, 3) := by decide +kernel
theorem dX8_addLayer_65 : decode cX8_addLayer 65 = .ok (.bipush 10, 2) := by decide +kernel
theorem dX8_addLayer_67 : decode cX8_addLayer 67 = .ok (.if_icmp .lt 14, 3) := by decide +kernel
theorem dX8_addLayer_70 : decode cX8_addLayer 70 = .ok (.new 89, 3) := by decide +kernel
theorem dX8_addLayer_73 : decode cX8_addLayer 73 = .ok (.dup, 1) := by decide +kernel
theorem dX8_addLayer_74 : decode cX8_addLayer 74 = .ok (.ldc_w 282, 3) := by decide +kernel
theorem dX8_addLayer_77 : decode cX8_addLayer 77 = .ok (.invokespecial 93, 3) := by decide +kernel
theorem dX8_addLayer_80 : decode cX8_addLayer 80 = .ok (.athrow, 1) := by decide +kernel
theorem dX8_addLayer_81 : decode cX8_addLayer 81 = .ok (.aload_n 0, 1) := by decide +kernel
theorem dX8_addLayer_82 : decode cX8_addLayer 82 = .ok (.getfield 32, 3) := by decide +kernel
theorem dX8_addLayer_85 : decode cX8_addLayer 85 = .ok (.aload_n 0, 1) := by decide +kernel
theorem dX8_addLayer_86 : decode cX8_addLayer 86 = .ok (.getfield 22, 3) := by decide +kernel
theorem dX8_addLayer_89 : decode cX8_addLayer 89 = .ok (.invokevirtual 108, 3) := by decide +kernel
theorem dX8_addLayer_92 : decode cX8_addLayer 92 = .ok (.aload_n 0, 1) := by decide +kernel
theorem dX8_addLayer_93 : decode cX8_addLayer 93 = .ok (.getfield 22, 3) := by decide +kernel
theorem dX8_addLayer_96 : decode cX8_addLayer 96 = .ok (.getfield 75, 3) := by decide +kernel
theorem dX8_addLayer_99 : decode cX8_addLayer 99 = .ok (.iload_n 1, 1) := by decide +kernel
theorem dX8_addLayer_100 : decode cX8_addLayer 100 = .ok (.iload_n 2, 1) := by decide +kernel
theorem dX8_addLayer_101 : decode cX8_addLayer 101 = .ok (.iload_n 3, 1) := by decide +kernel
theorem dX8_addLayer_102 : decode cX8_addLayer 102 = .ok (.iload 4, 2) := by decide +kernel
theorem dX8_addLayer_104 : decode cX8_addLayer 104 = .ok (.invokevirtual 79, 3) := by decide +kernel
theorem dX8_addLayer_107 : decode cX8_addLayer 107 = .ok (.aload_n 0, 1) := by decide +kernel
theorem dX8_addLayer_108 : decode cX8_addLayer 108 = .ok (.getfield 22, 3) := by decide +kernel
theorem dX8_addLayer_111 : decode cX8_addLayer 111 = .ok (.getfield 75, 3) := by decide +kernel
theorem dX8_addLayer_114 : decode cX8_addLayer 114 = .ok (.getfield 114, 3) := by decide +kernel
theorem dX8_addLayer_117 : decode cX8_addLayer 117 = .ok (.ireturn, 1) := by decide +kernel
set_option maxRecDepth 20000 in
set_option maxRecDepth 100000 in
theorem ggX8_removeLayer_X8_checkLayer : GoodIn wsX8_removeLayer wsX8_checkLayer := goodIn_ca (goodIn_r _ [11, 12, 13, 3, 4, 14, 15, 16, 17, 18, 19, 89, 90, 91, 92, 93, 94, 95, 96, 97, 98, 99, 100, 101, 102, 103, 104, 105, 106] rfl (by decide +kernel)) (goodIn_sub (fun _ h => List.mem_cons_of_mem _ (List.mem_append_right _ h)) (by decide +kernel))
set_option maxRecDepth 20000 in
theorem gX8_removeLayer_X8_checkLayer : GoodIn wsX8_removeLayer (wsV RX8 145 RX8 yX8_checkLayer wsX8_checkLayer) := goodIn_app (goodIn_of _ (by decide +kernel)) ggX8_removeLayer_X8_checkLayer
set_option maxRecDepth 20000 in
set_option maxRecDepth 100000 in
theorem ggX8_removeLayer_X1_remember : GoodIn wsX8_removeLayer wsX1_remember := goodIn_r _ [24, 25, 26, 27, 28, 29, 30, 31, 32, 33, 34, 35, 10, 36, 37, 38, 39, 40, 41, 42, 43, 17, 44, 45, 46, 47, 48, 49, 50, 51, 52, 53, 19, 54, 55, 56, 57, 58, 59, 60, 61, 62, 63, 64, 65, 66, 67, 68, 69, 70, 107, 108, 109, 100, 101, 102, 103, 104, 105, 106] rfl (by decide +kernel)
set_option maxRecDepth 20000 in
theorem gX8_removeLayer_X1_remember : GoodIn wsX8_removeLayer (wsV RX8 108 RX1 yX1_remember wsX1_remember) := goodIn_app (goodIn_of _ (by decide +kernel)) ggX8_removeLayer_X1_remember
set_option maxRecDepth 20000 in
set_option maxRecDepth 100000 in
theorem ggX8_removeLayer_X7_remove : GoodIn wsX8_removeLayer wsX7_remove := goodIn_r _ [74, 19, 75, 76, 77, 17, 78, 79, 80, 81, 82, 53, 83, 84, 85, 86, 87, 10, 88, 105, 106] rfl (by decide +kernel)
set_option maxRecDepth 20000 in
theorem gX8_removeLayer_X7_remove : GoodIn wsX8_removeLayer (wsV RX8 277 RX7 yX7_remove wsX7_remove) := goodIn_app (goodIn_of _ (by decide +kernel)) ggX8_removeLayer_X7_remove
theorem dX8_removeLayer_0 : decode cX8_removeLayer 0 = .ok (.aload_n 0, 1) := by decide +kernel
theorem dX8_removeLayer_1 : decode cX8_removeLayer 1 = .ok (.iload_n 1, 1) := by decide +kernel
theorem dX8_removeLayer_2 : decode cX8_removeLayer 2 = .ok (.invokevirtual 145, 3) := by decide +kernel
theorem dX8_removeLayer_5 : decode cX8_removeLayer 5 = .ok (.aload_n 0, 1) := by decide +kernel
theorem dX8_removeLayer_6 : decode cX8_removeLayer 6 = .ok (.getfield 22, 3) := by decide +kernel
theorem dX8_removeLayer_9 : decode cX8_removeLayer 9 = .ok (.getfield 75, 3) := by decide +kernel
theorem dX8_removeLayer_12 : decode cX8_removeLayer 12 = .ok (.getfield 114, 3) := by decide +kernel
theorem dX8_removeLayer_15 : decode cX8_removeLayer 15 = .ok (.iconst 2, 1) := by decide +kernel
theorem dX8_removeLayer_16 : decode cX8_removeLayer 16 = .ok (.if_icmp .ge 14, 3) := by decide +kernel
theorem dX8_removeLayer_19 : decode cX8_removeLayer 19 = .ok (.new 89, 3) := by decide +kernel
theorem dX8_removeLayer_22 : decode cX8_removeLayer 22 = .ok (.dup, 1) := by decide +kernel
theorem dX8_removeLayer_23 : decode cX8_removeLayer 23 = .ok (.ldc_w 284, 3) := by decide +kernel
theorem dX8_removeLayer_26 : decode cX8_removeLayer 26 = .ok (.invokespecial 93, 3) := by decide +kernel
theorem dX8_removeLayer_29 : decode cX8_removeLayer 29 = .ok (.athrow, 1) := by decide +kernel
theorem dX8_removeLayer_30 : decode cX8_removeLayer 30 = .ok (.aload_n 0, 1) := by decide +kernel
theorem dX8_removeLayer_31 : decode cX8_removeLayer 31 = .ok (.getfield 32, 3) := by decide +kernel
theorem dX8_removeLayer_34 : decode cX8_removeLayer 34 = .ok (.aload_n 0, 1) := by decide +kernel
theorem dX8_removeLayer_35 : decode cX8_removeLayer 35 = .ok (.getfield 22, 3) := by decide +kernel
theorem dX8_removeLayer_38 : decode cX8_removeLayer 38 = .ok (.invokevirtual 108, 3) := by decide +kernel
theorem dX8_removeLayer_41 : decode cX8_removeLayer 41 = .ok (.aload_n 0, 1) := by decide +kernel
theorem dX8_removeLayer_42 : decode cX8_removeLayer 42 = .ok (.getfield 22, 3) := by decide +kernel
theorem dX8_removeLayer_45 : decode cX8_removeLayer 45 = .ok (.getfield 75, 3) := by decide +kernel
theorem dX8_removeLayer_48 : decode cX8_removeLayer 48 = .ok (.iload_n 1, 1) := by decide +kernel
theorem dX8_removeLayer_49 : decode cX8_removeLayer 49 = .ok (.invokevirtual 277, 3) := by decide +kernel
theorem dX8_removeLayer_52 : decode cX8_removeLayer 52 = .ok (.aload_n 0, 1) := by decide +kernel
theorem dX8_removeLayer_53 : decode cX8_removeLayer 53 = .ok (.getfield 22, 3) := by decide +kernel
theorem dX8_removeLayer_56 : decode cX8_removeLayer 56 = .ok (.getfield 75, 3) := by decide +kernel
theorem dX8_removeLayer_59 : decode cX8_removeLayer 59 = .ok (.getfield 114, 3) := by decide +kernel
theorem dX8_removeLayer_62 : decode cX8_removeLayer 62 = .ok (.ireturn, 1) := by decide +kernel
set_option maxRecDepth 20000 in
set_option maxRecDepth 100000 in
theorem ggX8_setLayer_X8_checkLayer : GoodIn wsX8_setLayer wsX8_checkLayer := goodIn_ca (goodIn_r _ [8, 9, 10, 2, 3, 11, 12, 13, 14, 15, 16, 86, 87, 88, 89, 90, 91, 92, 93, 94, 95, 96, 97, 98, 99, 100, 101, 102, 103] rfl (by decide +kernel)) (goodIn_sub (fun _ h => List.mem_cons_of_mem _ (List.mem_append_left _ (List.mem_append_right _ h))) (by decide +kernel))
set_option maxRecDepth 20000 in
theorem gX8_setLayer_X8_checkLayer : GoodIn wsX8_setLayer (wsV RX8 145 RX8 yX8_checkLayer wsX8_checkLayer) := goodIn_app (goodIn_of _ (by decide +kernel)) ggX8_setLayer_X8_checkLayer
set_option maxRecDepth 20000 in
set_option maxRecDepth 100000 in
theorem ggX8_setLayer_X8_checkLayerValue : GoodIn wsX8_setLayer wsX8_checkLayerValue := goodIn_ca (goodIn_r _ [19, 20, 21, 22, 23, 7, 24] rfl (by decide +kernel)) (goodIn_sub (fun _ h => List.mem_cons_of_mem _ (List.mem_append_right _ h)) (by decide +kernel))
set_option maxRecDepth 20000 in
theorem gX8_setLayer_X8_checkLayerValue : GoodIn wsX8_setLayer (va_wsS RX8 286 yX8_checkLayerValue wsX8_checkLayerValue) := goodIn_app (goodIn_of _ (by decide +kernel)) ggX8_setLayer_X8_checkLayerValue
set_option maxRecDepth 20000 in
set_option maxRecDepth 100000 in
theorem ggX8_setLayer_X1_remember : GoodIn wsX8_setLayer wsX1_remember := goodIn_r _ [29, 30, 31, 32, 33, 34, 35, 36, 37, 38, 39, 40, 7, 41, 42, 43, 44, 45, 46, 47, 48, 14, 49, 50, 51, 52, 53, 54, 55, 56, 57, 58, 16, 59, 60, 61, 62, 63, 64, 65, 66, 67, 68, 69, 70, 71, 72, 73, 74, 75, 104, 105, 106, 97, 98, 99, 100, 101, 102, 103] rfl (by decide +kernel)
set_option maxRecDepth 20000 in
theorem gX8_setLayer_X1_remember : GoodIn wsX8_setLayer (wsV RX8 108 RX1 yX1_remember wsX1_remember) := goodIn_app (goodIn_of _ (by decide +kernel)) ggX8_setLayer_X1_remember
set_option maxRecDepth 20000 in
set_option maxRecDepth 100000 in
theorem ggX8_setLayer_X7_get : GoodIn wsX8_setLayer wsX7_get := goodIn_r _ [79, 58, 102, 103] rfl (by decide +kernel)
set_option maxRecDepth 20000 in
theorem gX8_setLayer_X7_get : GoodIn wsX8_setLayer (wsV RX8 148 RX7 yX7_get wsX7_get) := goodIn_app (goodIn_of _ (by decide +kernel)) ggX8_setLayer_X7_get
set_option maxRecDepth 20000 in
set_option maxRecDepth 100000 in
theorem ggX8_setLayer_X7_set : GoodIn wsX8_setLayer wsX7_set := goodIn_r _ [83, 58, 84, 7, 85, 102, 103] rfl (by decide +kernel)
set_option maxRecDepth 20000 in
theorem gX8_setLayer_X7_set : GoodIn wsX8_setLayer (wsV RX8 274 RX7 yX7_set wsX7_set) := goodIn_app (goodIn_of _ (by decide +kernel)) ggX8_setLayer_X7_set
theorem dX8_setLayer_0 : decode cX8_setLayer 0 = .ok (.aload_n 0, 1) := by decide +kernel
theorem dX8_setLayer_1 : decode cX8_setLayer 1 = .ok (.iload_n 1, 1) := by decide +kernel
theorem dX8_setLayer_2 : decode cX8_setLayer 2 = .ok (.invokevirtual 145, 3) := by decide +kernel
theorem dX8_setLayer_5 : decode cX8_setLayer 5 = .ok (.iload_n 2, 1) := by decide +kernel
theorem dX8_setLayer_6 : decode cX8_setLayer 6 = .ok (.iload_n 3, 1) := by decide +kernel
theorem dX8_setLayer_7 : decode cX8_setLayer 7 = .ok (.invokestatic 286, 3) := by decide +kernel
theorem dX8_setLayer_10 : decode cX8_setLayer 10 = .ok (.aload_n 0, 1) := by decide +kernel
theorem dX8_setLayer_11 : decode cX8_setLayer 11 = .ok (.getfield 32, 3) := by decide +kernel
theorem dX8_setLayer_14 : decode cX8_setLayer 14 = .ok (.aload_n 0, 1) := by decide +kernel
theorem dX8_setLayer_15 : decode cX8_setLayer 15 = .ok (.getfield 22, 3) := by decide +kernel
theorem dX8_setLayer_18 : decode cX8_setLayer 18 = .ok (.invokevirtual 108, 3) := by decide +kernel
theorem dX8_setLayer_21 : decode cX8_setLayer 21 = .ok (.aload_n 0, 1) := by decide +kernel
theorem dX8_setLayer_22 : decode cX8_setLayer 22 = .ok (.getfield 22, 3) := by decide +kernel
theorem dX8_setLayer_25 : decode cX8_setLayer 25 = .ok (.getfield 75, 3) := by decide +kernel
theorem dX8_setLayer_28 : decode cX8_setLayer 28 = .ok (.iload_n 1, 1) := by decide +kernel
theorem dX8_setLayer_29 : decode cX8_setLayer 29 = .ok (.iload_n 2, 1) := by decide +kernel
theorem dX8_setLayer_30 : decode cX8_setLayer 30 = .ok (.invokevirtual 148, 3) := by decide +kernel
theorem dX8_setLayer_33 : decode cX8_setLayer 33 = .ok (.istore 4, 2) := by decide +kernel
theorem dX8_setLayer_35 : decode cX8_setLayer 35 = .ok (.aload_n 0, 1) := by decide +kernel
theorem dX8_setLayer_36 : decode cX8_setLayer 36 = .ok (.getfield 22, 3) := by decide +kernel
theorem dX8_setLayer_39 : decode cX8_setLayer 39 = .ok (.getfield 75, 3) := by decide +kernel
theorem dX8_setLayer_42 : decode cX8_setLayer 42 = .ok (.iload_n 1, 1) := by decide +kernel
theorem dX8_setLayer_43 : decode cX8_setLayer 43 = .ok (.iload_n 2, 1) := by decide +kernel
theorem dX8_setLayer_44 : decode cX8_setLayer 44 = .ok (.iload_n 3, 1) := by decide +kernel
theorem dX8_setLayer_45 : decode cX8_setLayer 45 = .ok (.invokevirtual 274, 3) := by decide +kernel
theorem dX8_setLayer_48 : decode cX8_setLayer 48 = .ok (.iload 4, 2) := by decide +kernel
theorem dX8_setLayer_50 : decode cX8_setLayer 50 = .ok (.ireturn, 1) := by decide +kernel
set_option maxRecDepth 20000 in
set_option maxRecDepth 100000 in
theorem ggX8_swapLayers_X8_checkLayer : GoodIn wsX8_swapLayers wsX8_checkLayer := goodIn_ca (goodIn_r _ [14, 15, 16, 4, 6, 17, 18, 19, 20, 21, 22, 207, 208, 209, 210, 211, 212, 213, 214, 215, 216, 217, 218, 219, 220, 221, 222, 223, 224] rfl (by decide +kernel)) (goodIn_sub (fun _ h => List.mem_cons_of_mem _ (List.mem_append_right _ h)) (by decide +kernel))
set_option maxRecDepth 20000 in
theorem gX8_swapLayers_X8_checkLayer : GoodIn wsX8_swapLayers (wsV RX8 145 RX8 yX8_checkLayer wsX8_checkLayer) := goodIn_app (goodIn_of _ (by decide +kernel)) ggX8_swapLayers_X8_checkLayer
set_option maxRecDepth 20000 in
set_option maxRecDepth 100000 in
theorem ggX8_swapLayers_X1_remember : GoodIn wsX8_swapLayers wsX1_remember := goodIn_r _ [27, 28, 29, 30, 31, 32, 33, 34, 35, 36, 37, 38, 13, 39, 40, 41, 42, 43, 44, 45, 46, 20, 47, 48, 49, 50, 51, 52, 53, 54, 55, 56, 22, 57, 58, 59, 60, 61, 62, 63, 64, 65, 66, 67, 68, 69, 70, 71, 72, 73, 243, 244, 245, 218, 219, 220, 221, 222, 223, 224] rfl (by decide +kernel)
set_option maxRecDepth 20000 in
theorem gX8_swapLayers_X1_remember : GoodIn wsX8_swapLayers (wsV RX8 108 RX1 yX1_remember wsX1_remember) := goodIn_app (goodIn_of _ (by decide +kernel)) ggX8_swapLayers_X1_remember
set_option maxRecDepth 20000 in
set_option maxRecDepth 100000 in
theorem ggX8_swapLayers_X5_become : GoodIn wsX8_swapLayers wsX5_become := goodIn_r _ [60, 47, 48, 49, 50, 51, 61, 62, 63, 20, 64, 56, 65, 35, 36, 37, 66, 67, 68, 69, 22, 70, 71, 72, 32, 73, 218, 219, 220, 221, 222, 223, 224] rfl (by decide +kernel)
set_option maxRecDepth 20000 in
theorem gX8_swapLayers_X5_become : GoodIn wsX8_swapLayers (wsV RX8 111 RX5 yX5_become wsX5_become) := goodIn_app (goodIn_of _ (by decide +kernel)) ggX8_swapLayers_X5_become
set_option maxRecDepth 20000 in
set_option maxRecDepth 100000 in
theorem ggX8_swapLayers_X7_swap : GoodIn wsX8_swapLayers wsX7_swap := goodIn_r _ [78, 79, 80, 81, 20, 82, 56, 83, 84, 85, 86, 87, 13, 88, 223, 224] rfl (by decide +kernel)
set_option maxRecDepth 20000 in
theorem gX8_swapLayers_X7_swap : GoodIn wsX8_swapLayers (wsV RX8 291 RX7 yX7_swap wsX7_swap) := goodIn_app (goodIn_of _ (by decide +kernel)) ggX8_swapLayers_X7_swap
set_option maxRecDepth 20000 in
set_option maxRecDepth 100000 in
theorem ggX8_swapLayers_X8_runOf : GoodIn wsX8_swapLayers wsX8_runOf := goodIn_r _ [92, 7, 93, 94, 95, 96, 97, 98, 99, 100, 101, 102, 103, 104, 105, 32, 106, 49, 47, 107, 50, 51, 108, 80, 81, 20, 82, 56, 87, 13, 88, 109, 110, 111, 112, 113, 114, 115, 116, 117, 118, 119, 120, 121, 122, 123, 124, 125, 126, 127, 128, 129, 130, 131, 132, 133, 134, 135, 136, 137, 18, 19, 21, 22, 138, 139, 140, 141, 142, 143, 144, 145, 146, 147, 148, 149, 150, 151, 36, 152, 153, 154, 155, 156, 157, 158, 159, 160, 161, 162, 163, 164, 165, 166, 167, 168, 169, 170, 171, 172, 173, 174, 175, 176, 177, 178, 179, 180, 181, 182, 183, 184, 185, 186, 187, 188, 189, 190, 191, 192, 193, 194, 195, 196, 197, 198, 199, 200, 201, 202, 203, 204, 205, 206, 218, 219, 220, 221, 222, 207, 208, 209, 210, 211, 212, 213, 214, 215, 216, 217, 225, 226, 227, 228, 229, 230, 231, 232, 233, 234, 235, 236, 237, 238, 239, 240, 241, 242, 223, 224] rfl (by decide +kernel)
set_option maxRecDepth 20000 in
theorem gX8_swapLayers_X8_runOf : GoodIn wsX8_swapLayers (wsV RX8 155 RX8 yX8_runOf wsX8_runOf) := goodIn_app (goodIn_of _ (by decide +kernel)) ggX8_swapLayers_X8_runOf
theorem dX8_swapLayers_0 : decode cX8_swapLayers 0 = .ok (.aload_n 0, 1) := by decide +kernel
theorem dX8_swapLayers_1 : decode cX8_swapLayers 1 = .ok (.iload_n 1, 1) := by decide +kernel
theorem dX8_swapLayers_2 : decode cX8_swapLayers 2 = .ok (.invokevirtual 145, 3) := by decide +kernel
theorem dX8_swapLayers_5 : decode cX8_swapLayers 5 = .ok (.aload_n 0, 1) := by decide +kernel
theorem dX8_swapLayers_6 : decode cX8_swapLayers 6 = .ok (.iload_n 2, 1) := by decide +kernel
theorem dX8_swapLayers_7 : decode cX8_swapLayers 7 = .ok (.invokevirtual 145, 3) := by decide +kernel
theorem dX8_swapLayers_10 : decode cX8_swapLayers 10 = .ok (.iload_n 1, 1) := by decide +kernel
theorem dX8_swapLayers_11 : decode cX8_swapLayers 11 = .ok (.iload_n 2, 1) := by decide +kernel
theorem dX8_swapLayers_12 : decode cX8_swapLayers 12 = .ok (.if_icmp .ne 14, 3) := by decide +kernel
theorem dX8_swapLayers_15 : decode cX8_swapLayers 15 = .ok (.new 140, 3) := by decide +kernel
theorem dX8_swapLayers_18 : decode cX8_swapLayers 18 = .ok (.dup, 1) := by decide +kernel
theorem dX8_swapLayers_19 : decode cX8_swapLayers 19 = .ok (.ldc_w 289, 3) := by decide +kernel
theorem dX8_swapLayers_22 : decode cX8_swapLayers 22 = .ok (.invokespecial 144, 3) := by decide +kernel
theorem dX8_swapLayers_25 : decode cX8_swapLayers 25 = .ok (.athrow, 1) := by decide +kernel
theorem dX8_swapLayers_26 : decode cX8_swapLayers 26 = .ok (.aload_n 0, 1) := by decide +kernel
theorem dX8_swapLayers_27 : decode cX8_swapLayers 27 = .ok (.getfield 32, 3) := by decide +kernel
theorem dX8_swapLayers_30 : decode cX8_swapLayers 30 = .ok (.aload_n 0, 1) := by decide +kernel
theorem dX8_swapLayers_31 : decode cX8_swapLayers 31 = .ok (.getfield 22, 3) := by decide +kernel
theorem dX8_swapLayers_34 : decode cX8_swapLayers 34 = .ok (.invokevirtual 108, 3) := by decide +kernel
theorem dX8_swapLayers_37 : decode cX8_swapLayers 37 = .ok (.aload_n 0, 1) := by decide +kernel
theorem dX8_swapLayers_38 : decode cX8_swapLayers 38 = .ok (.getfield 26, 3) := by decide +kernel
theorem dX8_swapLayers_41 : decode cX8_swapLayers 41 = .ok (.aload_n 0, 1) := by decide +kernel
theorem dX8_swapLayers_42 : decode cX8_swapLayers 42 = .ok (.getfield 22, 3) := by decide +kernel
theorem dX8_swapLayers_45 : decode cX8_swapLayers 45 = .ok (.invokevirtual 111, 3) := by decide +kernel
theorem dX8_swapLayers_48 : decode cX8_swapLayers 48 = .ok (.aload_n 0, 1) := by decide +kernel
theorem dX8_swapLayers_49 : decode cX8_swapLayers 49 = .ok (.getfield 22, 3) := by decide +kernel
theorem dX8_swapLayers_52 : decode cX8_swapLayers 52 = .ok (.getfield 75, 3) := by decide +kernel
theorem dX8_swapLayers_55 : decode cX8_swapLayers 55 = .ok (.iload_n 1, 1) := by decide +kernel
theorem dX8_swapLayers_56 : decode cX8_swapLayers 56 = .ok (.iload_n 2, 1) := by decide +kernel
theorem dX8_swapLayers_57 : decode cX8_swapLayers 57 = .ok (.invokevirtual 291, 3) := by decide +kernel
theorem dX8_swapLayers_60 : decode cX8_swapLayers 60 = .ok (.iconst 0, 1) := by decide +kernel
theorem dX8_swapLayers_61 : decode cX8_swapLayers 61 = .ok (.istore_n 3, 1) := by decide +kernel
theorem dX8_swapLayers_62 : decode cX8_swapLayers 62 = .ok (.iconst 0, 1) := by decide +kernel
theorem dX8_swapLayers_63 : decode cX8_swapLayers 63 = .ok (.istore 4, 2) := by decide +kernel
theorem dX8_swapLayers_65 : decode cX8_swapLayers 65 = .ok (.iload 4, 2) := by decide +kernel
theorem dX8_swapLayers_67 : decode cX8_swapLayers 67 = .ok (.aload_n 0, 1) := by decide +kernel
theorem dX8_swapLayers_68 : decode cX8_swapLayers 68 = .ok (.getfield 22, 3) := by decide +kernel
theorem dX8_swapLayers_71 : decode cX8_swapLayers 71 = .ok (.getfield 133, 3) := by decide +kernel
theorem dX8_swapLayers_74 : decode cX8_swapLayers 74 = .ok (.getfield 114, 3) := by decide +kernel
theorem dX8_swapLayers_77 : decode cX8_swapLayers 77 = .ok (.if_icmp .ge 45, 3) := by decide +kernel
theorem dX8_swapLayers_80 : decode cX8_swapLayers 80 = .ok (.aload_n 0, 1) := by decide +kernel
theorem dX8_swapLayers_81 : decode cX8_swapLayers 81 = .ok (.aload_n 0, 1) := by decide +kernel
theorem dX8_swapLayers_82 : decode cX8_swapLayers 82 = .ok (.getfield 26, 3) := by decide +kernel
theorem dX8_swapLayers_85 : decode cX8_swapLayers 85 = .ok (.iload 4, 2) := by decide +kernel
theorem dX8_swapLayers_87 : decode cX8_swapLayers 87 = .ok (.invokevirtual 155, 3) := by decide +kernel
theorem dX8_swapLayers_90 : decode cX8_swapLayers 90 = .ok (.getfield 162, 3) := by decide +kernel
theorem dX8_swapLayers_93 : decode cX8_swapLayers 93 = .ok (.istore 5, 2) := by decide +kernel
theorem dX8_swapLayers_95 : decode cX8_swapLayers 95 = .ok (.aload_n 0, 1) := by decide +kernel
theorem dX8_swapLayers_96 : decode cX8_swapLayers 96 = .ok (.aload_n 0, 1) := by decide +kernel
theorem dX8_swapLayers_97 : decode cX8_swapLayers 97 = .ok (.getfield 22, 3) := by decide +kernel
theorem dX8_swapLayers_100 : decode cX8_swapLayers 100 = .ok (.iload 4, 2) := by decide +kernel
theorem dX8_swapLayers_102 : decode cX8_swapLayers 102 = .ok (.invokevirtual 155, 3) := by decide +kernel
theorem dX8_swapLayers_105 : decode cX8_swapLayers 105 = .ok (.getfield 162, 3) := by decide +kernel
theorem dX8_swapLayers_108 : decode cX8_swapLayers 108 = .ok (.iload 5, 2) := by decide +kernel
theorem dX8_swapLayers_110 : decode cX8_swapLayers 110 = .ok (.if_icmp .eq 6, 3) := by decide +kernel
theorem dX8_swapLayers_113 : decode cX8_swapLayers 113 = .ok (.iinc 3 1, 3) := by decide +kernel
