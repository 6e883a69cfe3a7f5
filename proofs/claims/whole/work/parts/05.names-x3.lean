set_option maxRecDepth 20000 in
set_option maxRecDepth 100000 in
theorem ggX3_init_X4_init : GoodIn wsX3_init wsX4_init := goodIn_r _ [15, 16, 2, 3, 5, 17, 18, 19, 20, 21, 26, 27, 28, 29, 30, 31, 32, 33, 34, 35, 36, 37, 38, 39, 40, 41, 42, 43] rfl (by decide +kernel)
set_option maxRecDepth 20000 in
theorem gX3_init_X4_init : GoodIn wsX3_init (wsX4_init) := ggX3_init_X4_init
theorem dX3_init_0 : decode cX3_init 0 = .ok (.aload_n 0, 1) := by decide +kernel
theorem dX3_init_1 : decode cX3_init 1 = .ok (.invokespecial 3, 3) := by decide +kernel
theorem dX3_init_4 : decode cX3_init 4 = .ok (.aload_n 0, 1) := by decide +kernel
theorem dX3_init_5 : decode cX3_init 5 = .ok (.bipush 7, 2) := by decide +kernel
theorem dX3_init_7 : decode cX3_init 7 = .ok (.bipush 60, 2) := by decide +kernel
theorem dX3_init_9 : decode cX3_init 9 = .ok (.multianewarray 9 2, 4) := by decide +kernel
theorem dX3_init_13 : decode cX3_init 13 = .ok (.putfield 11, 3) := by decide +kernel
theorem dX3_init_16 : decode cX3_init 16 = .ok (.aload_n 0, 1) := by decide +kernel
theorem dX3_init_17 : decode cX3_init 17 = .ok (.iconst 0, 1) := by decide +kernel
theorem dX3_init_18 : decode cX3_init 18 = .ok (.putfield 16, 3) := by decide +kernel
theorem dX3_init_21 : decode cX3_init 21 = .ok (.aload_n 0, 1) := by decide +kernel
theorem dX3_init_22 : decode cX3_init 22 = .ok (.iconst 4, 1) := by decide +kernel
theorem dX3_init_23 : decode cX3_init 23 = .ok (.putfield 20, 3) := by decide +kernel
theorem dX3_init_26 : decode cX3_init 26 = .ok (.aload_n 0, 1) := by decide +kernel
theorem dX3_init_27 : decode cX3_init 27 = .ok (.new 23, 3) := by decide +kernel
theorem dX3_init_30 : decode cX3_init 30 = .ok (.dup, 1) := by decide +kernel
theorem dX3_init_31 : decode cX3_init 31 = .ok (.aload_n 1, 1) := by decide +kernel
theorem dX3_init_32 : decode cX3_init 32 = .ok (.invokespecial 25, 3) := by decide +kernel
theorem dX3_init_35 : decode cX3_init 35 = .ok (.putfield 28, 3) := by decide +kernel
theorem dX3_init_38 : decode cX3_init 38 = .ok (.return_, 1) := by decide +kernel
set_option maxRecDepth 20000 in
set_option maxRecDepth 100000 in
theorem ggX3_trace_X4_enter : GoodIn wsX3_trace wsX4_enter := goodIn_r _ [13, 14, 15, 16, 17, 18, 19, 20, 21, 22, 23, 24, 25, 26, 27, 28, 29, 30, 31, 32, 33, 34, 35, 36, 148, 149, 150, 151, 152, 153, 154, 155, 156, 157, 158, 159, 160, 161, 162, 163, 164, 165, 166, 167, 168, 169, 170, 171, 172] rfl (by decide +kernel)
set_option maxRecDepth 20000 in
theorem gX3_trace_X4_enter : GoodIn wsX3_trace (wsV RX3 32 RX4 yX4_enter wsX4_enter) := goodIn_app (goodIn_of _ (by decide +kernel)) ggX3_trace_X4_enter
set_option maxRecDepth 20000 in
set_option maxRecDepth 100000 in
theorem ggX3_trace_X4_begin : GoodIn wsX3_trace wsX4_begin := goodIn_r _ [40, 41, 42, 43, 44, 45, 46, 47, 48, 49, 50, 51, 14, 52, 53, 54, 55, 56, 57, 58, 21, 59, 24, 60, 61, 62, 31, 63, 64, 28, 29, 30, 32, 33, 65, 66, 67, 68, 148, 149, 150, 151, 152, 153, 154, 155, 156, 157, 158, 159, 160, 161, 162, 163, 164, 165, 166, 167, 168, 169, 170, 171, 172] rfl (by decide +kernel)
set_option maxRecDepth 20000 in
theorem gX3_trace_X4_begin : GoodIn wsX3_trace (wsV RX3 35 RX4 yX4_begin wsX4_begin) := goodIn_app (goodIn_of _ (by decide +kernel)) ggX3_trace_X4_begin
set_option maxRecDepth 20000 in
set_option maxRecDepth 100000 in
theorem ggX3_trace_X4_isUnderWay : GoodIn wsX3_trace wsX4_isUnderWay := goodIn_r _ [72, 52, 148, 149, 150, 151, 152, 153, 154, 155, 156, 157, 158, 159, 160, 161, 162, 163, 164, 165] rfl (by decide +kernel)
set_option maxRecDepth 20000 in
theorem gX3_trace_X4_isUnderWay : GoodIn wsX3_trace (wsV RX3 39 RX4 yX4_isUnderWay wsX4_isUnderWay) := goodIn_app (goodIn_of _ (by decide +kernel)) ggX3_trace_X4_isUnderWay
set_option maxRecDepth 20000 in
set_option maxRecDepth 100000 in
theorem ggX3_trace_X3_set : GoodIn wsX3_trace wsX3_set := goodIn_r _ [77, 78, 34, 35, 36, 144, 145, 146, 147] rfl (by decide +kernel)
set_option maxRecDepth 20000 in
theorem gX3_trace_X3_set : GoodIn wsX3_trace (wsV RX3 46 RX3 yX3_set wsX3_set) := goodIn_app (goodIn_of _ (by decide +kernel)) ggX3_trace_X3_set
set_option maxRecDepth 20000 in
set_option maxRecDepth 100000 in
theorem ggX3_trace_X4_cross : GoodIn wsX3_trace wsX4_cross := goodIn_r _ [82, 41, 44, 45, 46, 47, 51, 83, 84, 85, 86, 54, 14, 15, 87, 88, 89, 90, 91, 92, 93, 12, 94, 55, 95, 35, 96, 97, 98, 99, 100, 43, 101, 102, 103, 29, 30, 31, 32, 33, 104, 105, 106, 34, 36, 107, 108, 109, 110, 111, 112, 113, 114, 148, 149, 150, 151, 152, 153, 154, 155, 156, 157, 158, 159, 160, 161, 162, 163, 164, 165, 166, 167, 168, 169, 170, 171, 172] rfl (by decide +kernel)
set_option maxRecDepth 20000 in
theorem gX3_trace_X4_cross : GoodIn wsX3_trace (wsV RX3 54 RX4 yX4_cross wsX4_cross) := goodIn_app (goodIn_of _ (by decide +kernel)) ggX3_trace_X4_cross
set_option maxRecDepth 20000 in
set_option maxRecDepth 100000 in
theorem ggX3_trace_X4_shiftIn : GoodIn wsX3_trace wsX4_shiftIn := goodIn_r _ [114, 101, 95, 35, 96, 148, 149, 150, 151, 152, 153, 154, 155, 156, 157, 158, 159, 160, 161, 162, 163, 164, 165] rfl (by decide +kernel)
set_option maxRecDepth 20000 in
theorem gX3_trace_X4_shiftIn : GoodIn wsX3_trace (wsV RX3 57 RX4 yX4_shiftIn wsX4_shiftIn) := goodIn_app (goodIn_of _ (by decide +kernel)) ggX3_trace_X4_shiftIn
set_option maxRecDepth 20000 in
set_option maxRecDepth 100000 in
theorem ggX3_trace_X4_lengthIn : GoodIn wsX3_trace wsX4_lengthIn := goodIn_r _ [110, 102, 95, 35, 96, 148, 149, 150, 151, 152, 153, 154, 155, 156, 157, 158, 159, 160, 161, 162, 163, 164, 165] rfl (by decide +kernel)
set_option maxRecDepth 20000 in
theorem gX3_trace_X4_lengthIn : GoodIn wsX3_trace (wsV RX3 61 RX4 yX4_lengthIn wsX4_lengthIn) := goodIn_app (goodIn_of _ (by decide +kernel)) ggX3_trace_X4_lengthIn
set_option maxRecDepth 20000 in
set_option maxRecDepth 100000 in
theorem ggX3_trace_X4_timeIn : GoodIn wsX3_trace wsX4_timeIn := goodIn_r _ [94, 55, 95, 35, 96, 148, 149, 150, 151, 152, 153, 154, 155, 156, 157, 158, 159, 160, 161, 162, 163, 164, 165] rfl (by decide +kernel)
set_option maxRecDepth 20000 in
theorem gX3_trace_X4_timeIn : GoodIn wsX3_trace (wsV RX3 64 RX4 yX4_timeIn wsX4_timeIn) := goodIn_app (goodIn_of _ (by decide +kernel)) ggX3_trace_X4_timeIn
set_option maxRecDepth 20000 in
set_option maxRecDepth 100000 in
theorem ggX3_trace_X4_goOn : GoodIn wsX3_trace wsX4_goOn := goodIn_r _ [121, 54, 42, 41, 17, 43, 14, 15, 44, 122, 123, 124, 12, 125, 52, 95, 35, 96, 126, 61, 62, 31, 63, 64, 127, 128, 129, 130, 50, 131, 132, 133, 21, 134, 26, 24, 25, 135, 136, 137, 138, 49, 139, 140, 141, 142, 143, 48, 148, 149, 150, 151, 152, 153, 154, 155, 156, 157, 158, 159, 160, 161, 162, 163, 164, 165, 166, 167, 168, 169, 170, 171, 172] rfl (by decide +kernel)
set_option maxRecDepth 20000 in
theorem gX3_trace_X4_goOn : GoodIn wsX3_trace (wsV RX3 70 RX4 yX4_goOn wsX4_goOn) := goodIn_app (goodIn_of _ (by decide +kernel)) ggX3_trace_X4_goOn
theorem dX3_trace_0 : decode cX3_trace 0 = .ok (.aload_n 0, 1) := by decide +kernel
theorem dX3_trace_1 : decode cX3_trace 1 = .ok (.getfield 28, 3) := by decide +kernel
theorem dX3_trace_4 : decode cX3_trace 4 = .ok (.aload_n 1, 1) := by decide +kernel
theorem dX3_trace_5 : decode cX3_trace 5 = .ok (.invokevirtual 32, 3) := by decide +kernel
theorem dX3_trace_8 : decode cX3_trace 8 = .ok (.aload_n 0, 1) := by decide +kernel
theorem dX3_trace_9 : decode cX3_trace 9 = .ok (.getfield 28, 3) := by decide +kernel
theorem dX3_trace_12 : decode cX3_trace 12 = .ok (.iload_n 2, 1) := by decide +kernel
theorem dX3_trace_13 : decode cX3_trace 13 = .ok (.iload_n 3, 1) := by decide +kernel
theorem dX3_trace_14 : decode cX3_trace 14 = .ok (.iload 4, 2) := by decide +kernel
theorem dX3_trace_16 : decode cX3_trace 16 = .ok (.invokevirtual 35, 3) := by decide +kernel
theorem dX3_trace_19 : decode cX3_trace 19 = .ok (.iconst 0, 1) := by decide +kernel
theorem dX3_trace_20 : decode cX3_trace 20 = .ok (.istore 5, 2) := by decide +kernel
theorem dX3_trace_22 : decode cX3_trace 22 = .ok (.iload 5, 2) := by decide +kernel
theorem dX3_trace_24 : decode cX3_trace 24 = .ok (.bipush 60, 2) := by decide +kernel
theorem dX3_trace_26 : decode cX3_trace 26 = .ok (.if_icmp .ge 143, 3) := by decide +kernel
theorem dX3_trace_29 : decode cX3_trace 29 = .ok (.aload_n 0, 1) := by decide +kernel
theorem dX3_trace_30 : decode cX3_trace 30 = .ok (.getfield 28, 3) := by decide +kernel
theorem dX3_trace_33 : decode cX3_trace 33 = .ok (.invokevirtual 39, 3) := by decide +kernel
theorem dX3_trace_36 : decode cX3_trace 36 = .ok (.ifCond .eq 133, 3) := by decide +kernel
theorem dX3_trace_39 : decode cX3_trace 39 = .ok (.aload_n 0, 1) := by decide +kernel
theorem dX3_trace_40 : decode cX3_trace 40 = .ok (.getfield 28, 3) := by decide +kernel
theorem dX3_trace_43 : decode cX3_trace 43 = .ok (.getfield 43, 3) := by decide +kernel
theorem dX3_trace_46 : decode cX3_trace 46 = .ok (.istore 6, 2) := by decide +kernel
theorem dX3_trace_48 : decode cX3_trace 48 = .ok (.aload_n 0, 1) := by decide +kernel
theorem dX3_trace_49 : decode cX3_trace 49 = .ok (.iload 5, 2) := by decide +kernel
theorem dX3_trace_51 : decode cX3_trace 51 = .ok (.iconst 0, 1) := by decide +kernel
theorem dX3_trace_52 : decode cX3_trace 52 = .ok (.iload 6, 2) := by decide +kernel
theorem dX3_trace_54 : decode cX3_trace 54 = .ok (.invokevirtual 46, 3) := by decide +kernel
theorem dX3_trace_57 : decode cX3_trace 57 = .ok (.aload_n 0, 1) := by decide +kernel
theorem dX3_trace_58 : decode cX3_trace 58 = .ok (.iload 5, 2) := by decide +kernel
theorem dX3_trace_60 : decode cX3_trace 60 = .ok (.iconst 1, 1) := by decide +kernel
theorem dX3_trace_61 : decode cX3_trace 61 = .ok (.aload_n 0, 1) := by decide +kernel
theorem dX3_trace_62 : decode cX3_trace 62 = .ok (.getfield 28, 3) := by decide +kernel
theorem dX3_trace_65 : decode cX3_trace 65 = .ok (.getfield 50, 3) := by decide +kernel
theorem dX3_trace_68 : decode cX3_trace 68 = .ok (.ifCond .eq 7, 3) := by decide +kernel
theorem dX3_trace_71 : decode cX3_trace 71 = .ok (.iconst 1, 1) := by decide +kernel
theorem dX3_trace_72 : decode cX3_trace 72 = .ok (.goto 4, 3) := by decide +kernel
theorem dX3_trace_75 : decode cX3_trace 75 = .ok (.iconst 0, 1) := by decide +kernel
theorem dX3_trace_76 : decode cX3_trace 76 = .ok (.invokevirtual 46, 3) := by decide +kernel
theorem dX3_trace_79 : decode cX3_trace 79 = .ok (.aload_n 0, 1) := by decide +kernel
theorem dX3_trace_80 : decode cX3_trace 80 = .ok (.getfield 28, 3) := by decide +kernel
theorem dX3_trace_83 : decode cX3_trace 83 = .ok (.invokevirtual 54, 3) := by decide +kernel
theorem dX3_trace_86 : decode cX3_trace 86 = .ok (.aload_n 0, 1) := by decide +kernel
theorem dX3_trace_87 : decode cX3_trace 87 = .ok (.iload 5, 2) := by decide +kernel
theorem dX3_trace_89 : decode cX3_trace 89 = .ok (.iconst 2, 1) := by decide +kernel
theorem dX3_trace_90 : decode cX3_trace 90 = .ok (.aload_n 0, 1) := by decide +kernel
theorem dX3_trace_91 : decode cX3_trace 91 = .ok (.getfield 28, 3) := by decide +kernel
theorem dX3_trace_94 : decode cX3_trace 94 = .ok (.iload 6, 2) := by decide +kernel
theorem dX3_trace_96 : decode cX3_trace 96 = .ok (.invokevirtual 57, 3) := by decide +kernel
theorem dX3_trace_99 : decode cX3_trace 99 = .ok (.invokevirtual 46, 3) := by decide +kernel
theorem dX3_trace_102 : decode cX3_trace 102 = .ok (.aload_n 0, 1) := by decide +kernel
theorem dX3_trace_103 : decode cX3_trace 103 = .ok (.iload 5, 2) := by decide +kernel
theorem dX3_trace_105 : decode cX3_trace 105 = .ok (.iconst 3, 1) := by decide +kernel
theorem dX3_trace_106 : decode cX3_trace 106 = .ok (.aload_n 0, 1) := by decide +kernel
theorem dX3_trace_107 : decode cX3_trace 107 = .ok (.getfield 28, 3) := by decide +kernel
theorem dX3_trace_110 : decode cX3_trace 110 = .ok (.iload 6, 2) := by decide +kernel
theorem dX3_trace_112 : decode cX3_trace 112 = .ok (.invokevirtual 61, 3) := by decide +kernel
theorem dX3_trace_115 : decode cX3_trace 115 = .ok (.invokevirtual 46, 3) := by decide +kernel
theorem dX3_trace_118 : decode cX3_trace 118 = .ok (.aload_n 0, 1) := by decide +kernel
theorem dX3_trace_119 : decode cX3_trace 119 = .ok (.iload 5, 2) := by decide +kernel
theorem dX3_trace_121 : decode cX3_trace 121 = .ok (.iconst 4, 1) := by decide +kernel
theorem dX3_trace_122 : decode cX3_trace 122 = .ok (.aload_n 0, 1) := by decide +kernel
theorem dX3_trace_123 : decode cX3_trace 123 = .ok (.getfield 28, 3) := by decide +kernel
theorem dX3_trace_126 : decode cX3_trace 126 = .ok (.iload 6, 2) := by decide +kernel
theorem dX3_trace_128 : decode cX3_trace 128 = .ok (.invokevirtual 64, 3) := by decide +kernel
theorem dX3_trace_131 : decode cX3_trace 131 = .ok (.invokevirtual 46, 3) := by decide +kernel
theorem dX3_trace_134 : decode cX3_trace 134 = .ok (.aload_n 0, 1) := by decide +kernel
theorem dX3_trace_135 : decode cX3_trace 135 = .ok (.iload 5, 2) := by decide +kernel
theorem dX3_trace_137 : decode cX3_trace 137 = .ok (.iconst 5, 1) := by decide +kernel
theorem dX3_trace_138 : decode cX3_trace 138 = .ok (.aload_n 0, 1) := by decide +kernel
theorem dX3_trace_139 : decode cX3_trace 139 = .ok (.getfield 28, 3) := by decide +kernel
theorem dX3_trace_142 : decode cX3_trace 142 = .ok (.getfield 67, 3) := by decide +kernel
theorem dX3_trace_145 : decode cX3_trace 145 = .ok (.invokevirtual 46, 3) := by decide +kernel
theorem dX3_trace_148 : decode cX3_trace 148 = .ok (.aload_n 0, 1) := by decide +kernel
theorem dX3_trace_149 : decode cX3_trace 149 = .ok (.iload 5, 2) := by decide +kernel
theorem dX3_trace_151 : decode cX3_trace 151 = .ok (.bipush 6, 2) := by decide +kernel
theorem dX3_trace_153 : decode cX3_trace 153 = .ok (.aload_n 0, 1) := by decide +kernel
theorem dX3_trace_154 : decode cX3_trace 154 = .ok (.getfield 28, 3) := by decide +kernel
theorem dX3_trace_157 : decode cX3_trace 157 = .ok (.invokevirtual 70, 3) := by decide +kernel
theorem dX3_trace_160 : decode cX3_trace 160 = .ok (.invokevirtual 46, 3) := by decide +kernel
theorem dX3_trace_163 : decode cX3_trace 163 = .ok (.iinc 5 1, 3) := by decide +kernel
theorem dX3_trace_166 : decode cX3_trace 166 = .ok (.goto (-144), 3) := by decide +kernel
theorem dX3_trace_169 : decode cX3_trace 169 = .ok (.aload_n 0, 1) := by decide +kernel
theorem dX3_trace_170 : decode cX3_trace 170 = .ok (.aload_n 0, 1) := by decide +kernel
theorem dX3_trace_171 : decode cX3_trace 171 = .ok (.getfield 28, 3) := by decide +kernel
theorem dX3_trace_174 : decode cX3_trace 174 = .ok (.getfield 74, 3) := by decide +kernel
theorem dX3_trace_177 : decode cX3_trace 177 = .ok (.putfield 16, 3) := by decide +kernel
theorem dX3_trace_180 : decode cX3_trace 180 = .ok (.aload_n 0, 1) := by decide +kernel
theorem dX3_trace_181 : decode cX3_trace 181 = .ok (.aload_n 0, 1) := by decide +kernel
theorem dX3_trace_182 : decode cX3_trace 182 = .ok (.getfield 28, 3) := by decide +kernel
theorem dX3_trace_185 : decode cX3_trace 185 = .ok (.getfield 75, 3) := by decide +kernel
theorem dX3_trace_188 : decode cX3_trace 188 = .ok (.putfield 20, 3) := by decide +kernel
theorem dX3_trace_191 : decode cX3_trace 191 = .ok (.return_, 1) := by decide +kernel
set_option maxRecDepth 20000 in
set_option maxRecDepth 100000 in
theorem ggX3_set_X8_put : GoodIn wsX3_set wsX8_put := goodIn_r _ [4] rfl (by decide +kernel)
set_option maxRecDepth 20000 in
theorem gX3_set_X8_put_n76 : GoodIn wsX3_set (wsX8_put) := ggX3_set_X8_put
theorem dX3_set_0 : decode cX3_set 0 = .ok (.iload_n 2, 1) := by decide +kernel
theorem dX3_set_1 : decode cX3_set 1 = .ok (.ifCond .lt 23, 3) := by decide +kernel
theorem dX3_set_4 : decode cX3_set 4 = .ok (.iload_n 2, 1) := by decide +kernel
theorem dX3_set_5 : decode cX3_set 5 = .ok (.aload_n 0, 1) := by decide +kernel
theorem dX3_set_6 : decode cX3_set 6 = .ok (.getfield 11, 3) := by decide +kernel
theorem dX3_set_9 : decode cX3_set 9 = .ok (.arraylength, 1) := by decide +kernel
theorem dX3_set_10 : decode cX3_set 10 = .ok (.if_icmp .ge 14, 3) := by decide +kernel
theorem dX3_set_13 : decode cX3_set 13 = .ok (.aload_n 0, 1) := by decide +kernel
theorem dX3_set_14 : decode cX3_set 14 = .ok (.getfield 11, 3) := by decide +kernel
theorem dX3_set_17 : decode cX3_set 17 = .ok (.iload_n 2, 1) := by decide +kernel
theorem dX3_set_18 : decode cX3_set 18 = .ok (.aaload, 1) := by decide +kernel
theorem dX3_set_19 : decode cX3_set 19 = .ok (.iload_n 1, 1) := by decide +kernel
theorem dX3_set_20 : decode cX3_set 20 = .ok (.iload_n 3, 1) := by decide +kernel
theorem dX3_set_21 : decode cX3_set 21 = .ok (.invokestatic 76, 3) := by decide +kernel
theorem dX3_set_24 : decode cX3_set 24 = .ok (.return_, 1) := by decide +kernel
set_option maxRecDepth 20000 in
set_option maxRecDepth 100000 in
theorem ggX3_get_X8_at : GoodIn wsX3_get wsX8_at := goodIn_r _ [5] rfl (by decide +kernel)
set_option maxRecDepth 20000 in
theorem gX3_get_X8_at_n80 : GoodIn wsX3_get (wsX8_at) := ggX3_get_X8_at
theorem dX3_get_0 : decode cX3_get 0 = .ok (.iload_n 1, 1) := by decide +kernel
theorem dX3_get_1 : decode cX3_get 1 = .ok (.aload_n 0, 1) := by decide +kernel
theorem dX3_get_2 : decode cX3_get 2 = .ok (.getfield 16, 3) := by decide +kernel
theorem dX3_get_5 : decode cX3_get 5 = .ok (.if_icmp .ge 29, 3) := by decide +kernel
theorem dX3_get_8 : decode cX3_get 8 = .ok (.iload_n 2, 1) := by decide +kernel
theorem dX3_get_9 : decode cX3_get 9 = .ok (.ifCond .lt 25, 3) := by decide +kernel
theorem dX3_get_12 : decode cX3_get 12 = .ok (.iload_n 2, 1) := by decide +kernel
theorem dX3_get_13 : decode cX3_get 13 = .ok (.aload_n 0, 1) := by decide +kernel
theorem dX3_get_14 : decode cX3_get 14 = .ok (.getfield 11, 3) := by decide +kernel
theorem dX3_get_17 : decode cX3_get 17 = .ok (.arraylength, 1) := by decide +kernel
theorem dX3_get_18 : decode cX3_get 18 = .ok (.if_icmp .ge 16, 3) := by decide +kernel
theorem dX3_get_21 : decode cX3_get 21 = .ok (.aload_n 0, 1) := by decide +kernel
theorem dX3_get_22 : decode cX3_get 22 = .ok (.getfield 11, 3) := by decide +kernel
theorem dX3_get_25 : decode cX3_get 25 = .ok (.iload_n 2, 1) := by decide +kernel
theorem dX3_get_26 : decode cX3_get 26 = .ok (.aaload, 1) := by decide +kernel
theorem dX3_get_27 : decode cX3_get 27 = .ok (.iload_n 1, 1) := by decide +kernel
theorem dX3_get_28 : decode cX3_get 28 = .ok (.invokestatic 80, 3) := by decide +kernel
theorem dX3_get_31 : decode cX3_get 31 = .ok (.goto 4, 3) := by decide +kernel
theorem dX3_get_34 : decode cX3_get 34 = .ok (.iconst 0, 1) := by decide +kernel
theorem dX3_get_35 : decode cX3_get 35 = .ok (.ireturn, 1) := by decide +kernel
set_option maxRecDepth 20000 in
set_option maxRecDepth 100000 in
theorem ggX3_sumAhead_X3_get : GoodIn wsX3_sumAhead wsX3_get := goodIn_r _ [6, 1, 7, 8, 9, 10, 11, 12, 13, 14] rfl (by decide +kernel)
set_option maxRecDepth 20000 in
theorem gX3_sumAhead_X3_get : GoodIn wsX3_sumAhead (wsV RX3 84 RX3 yX3_get wsX3_get) := goodIn_app (goodIn_of _ (by decide +kernel)) ggX3_sumAhead_X3_get
theorem dX3_sumAhead_0 : decode cX3_sumAhead 0 = .ok (.iconst 0, 1) := by decide +kernel
theorem dX3_sumAhead_1 : decode cX3_sumAhead 1 = .ok (.istore_n 3, 1) := by decide +kernel
theorem dX3_sumAhead_2 : decode cX3_sumAhead 2 = .ok (.iconst 0, 1) := by decide +kernel
theorem dX3_sumAhead_3 : decode cX3_sumAhead 3 = .ok (.istore 4, 2) := by decide +kernel
theorem dX3_sumAhead_5 : decode cX3_sumAhead 5 = .ok (.iload 4, 2) := by decide +kernel
theorem dX3_sumAhead_7 : decode cX3_sumAhead 7 = .ok (.iload_n 1, 1) := by decide +kernel
theorem dX3_sumAhead_8 : decode cX3_sumAhead 8 = .ok (.if_icmp .ge 28, 3) := by decide +kernel
theorem dX3_sumAhead_11 : decode cX3_sumAhead 11 = .ok (.iload 4, 2) := by decide +kernel
theorem dX3_sumAhead_13 : decode cX3_sumAhead 13 = .ok (.aload_n 0, 1) := by decide +kernel
theorem dX3_sumAhead_14 : decode cX3_sumAhead 14 = .ok (.getfield 16, 3) := by decide +kernel
theorem dX3_sumAhead_17 : decode cX3_sumAhead 17 = .ok (.if_icmp .ge 19, 3) := by decide +kernel
theorem dX3_sumAhead_20 : decode cX3_sumAhead 20 = .ok (.iload_n 3, 1) := by decide +kernel
theorem dX3_sumAhead_21 : decode cX3_sumAhead 21 = .ok (.aload_n 0, 1) := by decide +kernel
theorem dX3_sumAhead_22 : decode cX3_sumAhead 22 = .ok (.iload 4, 2) := by decide +kernel
theorem dX3_sumAhead_24 : decode cX3_sumAhead 24 = .ok (.iload_n 2, 1) := by decide +kernel
theorem dX3_sumAhead_25 : decode cX3_sumAhead 25 = .ok (.invokevirtual 84, 3) := by decide +kernel
theorem dX3_sumAhead_28 : decode cX3_sumAhead 28 = .ok (.iadd, 1) := by decide +kernel
theorem dX3_sumAhead_29 : decode cX3_sumAhead 29 = .ok (.istore_n 3, 1) := by decide +kernel
theorem dX3_sumAhead_30 : decode cX3_sumAhead 30 = .ok (.iinc 4 1, 3) := by decide +kernel
theorem dX3_sumAhead_33 : decode cX3_sumAhead 33 = .ok (.goto (-28), 3) := by decide +kernel
theorem dX3_sumAhead_36 : decode cX3_sumAhead 36 = .ok (.iload_n 3, 1) := by decide +kernel
theorem dX3_sumAhead_37 : decode cX3_sumAhead 37 = .ok (.ireturn, 1) := by decide +kernel
set_option maxRecDepth 20000 in
set_option maxRecDepth 100000 in
theorem ggX3_legDuring_X3_get : GoodIn wsX3_legDuring wsX3_get := goodIn_r _ [6, 1, 7, 8, 9, 10, 11, 12, 13, 14] rfl (by decide +kernel)
set_option maxRecDepth 20000 in
theorem gX3_legDuring_X3_get : GoodIn wsX3_legDuring (wsV RX3 84 RX3 yX3_get wsX3_get) := goodIn_app (goodIn_of _ (by decide +kernel)) ggX3_legDuring_X3_get
theorem dX3_legDuring_0 : decode cX3_legDuring 0 = .ok (.iconst 0, 1) := by decide +kernel
theorem dX3_legDuring_1 : decode cX3_legDuring 1 = .ok (.istore_n 2, 1) := by decide +kernel
theorem dX3_legDuring_2 : decode cX3_legDuring 2 = .ok (.iconst 0, 1) := by decide +kernel
theorem dX3_legDuring_3 : decode cX3_legDuring 3 = .ok (.istore_n 3, 1) := by decide +kernel
theorem dX3_legDuring_4 : decode cX3_legDuring 4 = .ok (.iload_n 3, 1) := by decide +kernel
theorem dX3_legDuring_5 : decode cX3_legDuring 5 = .ok (.aload_n 0, 1) := by decide +kernel
theorem dX3_legDuring_6 : decode cX3_legDuring 6 = .ok (.getfield 16, 3) := by decide +kernel
theorem dX3_legDuring_9 : decode cX3_legDuring 9 = .ok (.if_icmp .ge 25, 3) := by decide +kernel
theorem dX3_legDuring_12 : decode cX3_legDuring 12 = .ok (.iload_n 2, 1) := by decide +kernel
theorem dX3_legDuring_13 : decode cX3_legDuring 13 = .ok (.aload_n 0, 1) := by decide +kernel
theorem dX3_legDuring_14 : decode cX3_legDuring 14 = .ok (.iload_n 3, 1) := by decide +kernel
theorem dX3_legDuring_15 : decode cX3_legDuring 15 = .ok (.iconst 4, 1) := by decide +kernel
theorem dX3_legDuring_16 : decode cX3_legDuring 16 = .ok (.invokevirtual 84, 3) := by decide +kernel
theorem dX3_legDuring_19 : decode cX3_legDuring 19 = .ok (.iadd, 1) := by decide +kernel
theorem dX3_legDuring_20 : decode cX3_legDuring 20 = .ok (.istore_n 2, 1) := by decide +kernel
theorem dX3_legDuring_21 : decode cX3_legDuring 21 = .ok (.iload_n 2, 1) := by decide +kernel
theorem dX3_legDuring_22 : decode cX3_legDuring 22 = .ok (.iload_n 1, 1) := by decide +kernel
theorem dX3_legDuring_23 : decode cX3_legDuring 23 = .ok (.if_icmp .le 5, 3) := by decide +kernel
theorem dX3_legDuring_26 : decode cX3_legDuring 26 = .ok (.iload_n 3, 1) := by decide +kernel
theorem dX3_legDuring_27 : decode cX3_legDuring 27 = .ok (.ireturn, 1) := by decide +kernel
theorem dX3_legDuring_28 : decode cX3_legDuring 28 = .ok (.iinc 3 1, 3) := by decide +kernel
theorem dX3_legDuring_31 : decode cX3_legDuring 31 = .ok (.goto (-27), 3) := by decide +kernel
theorem dX3_legDuring_34 : decode cX3_legDuring 34 = .ok (.aload_n 0, 1) := by decide +kernel
theorem dX3_legDuring_35 : decode cX3_legDuring 35 = .ok (.getfield 16, 3) := by decide +kernel
theorem dX3_legDuring_38 : decode cX3_legDuring 38 = .ok (.ireturn, 1) := by decide +kernel
set_option maxRecDepth 20000 in
set_option maxRecDepth 100000 in
theorem ggX3_partOfLeg_X3_get : GoodIn wsX3_partOfLeg wsX3_get := goodIn_r _ [5, 6, 7, 8, 9, 10, 15, 16, 17, 18] rfl (by decide +kernel)
set_option maxRecDepth 20000 in
theorem gX3_partOfLeg_X3_get : GoodIn wsX3_partOfLeg (wsV RX3 84 RX3 yX3_get wsX3_get) := goodIn_app (goodIn_of _ (by decide +kernel)) ggX3_partOfLeg_X3_get
set_option maxRecDepth 20000 in
set_option maxRecDepth 100000 in
theorem ggX3_partOfLeg_X3_sumAhead : GoodIn wsX3_partOfLeg wsX3_sumAhead := goodIn_r _ [14, 6, 1, 2, 3, 4, 5, 7, 8, 9, 10, 15, 16, 17, 18] rfl (by decide +kernel)
set_option maxRecDepth 20000 in
theorem gX3_partOfLeg_X3_sumAhead : GoodIn wsX3_partOfLeg (wsV RX3 88 RX3 yX3_sumAhead wsX3_sumAhead) := goodIn_app (goodIn_of _ (by decide +kernel)) ggX3_partOfLeg_X3_sumAhead
theorem dX3_partOfLeg_0 : decode cX3_partOfLeg 0 = .ok (.aload_n 0, 1) := by decide +kernel
theorem dX3_partOfLeg_1 : decode cX3_partOfLeg 1 = .ok (.iload_n 1, 1) := by decide +kernel
theorem dX3_partOfLeg_2 : decode cX3_partOfLeg 2 = .ok (.iconst 4, 1) := by decide +kernel
theorem dX3_partOfLeg_3 : decode cX3_partOfLeg 3 = .ok (.invokevirtual 84, 3) := by decide +kernel
theorem dX3_partOfLeg_6 : decode cX3_partOfLeg 6 = .ok (.istore 4, 2) := by decide +kernel
theorem dX3_partOfLeg_8 : decode cX3_partOfLeg 8 = .ok (.iload_n 2, 1) := by decide +kernel
theorem dX3_partOfLeg_9 : decode cX3_partOfLeg 9 = .ok (.i2l, 1) := by decide +kernel
theorem dX3_partOfLeg_10 : decode cX3_partOfLeg 10 = .ok (.aload_n 0, 1) := by decide +kernel
theorem dX3_partOfLeg_11 : decode cX3_partOfLeg 11 = .ok (.iload_n 1, 1) := by decide +kernel
theorem dX3_partOfLeg_12 : decode cX3_partOfLeg 12 = .ok (.iconst 4, 1) := by decide +kernel
theorem dX3_partOfLeg_13 : decode cX3_partOfLeg 13 = .ok (.invokevirtual 88, 3) := by decide +kernel
theorem dX3_partOfLeg_16 : decode cX3_partOfLeg 16 = .ok (.i2l, 1) := by decide +kernel
theorem dX3_partOfLeg_17 : decode cX3_partOfLeg 17 = .ok (.lsub, 1) := by decide +kernel
theorem dX3_partOfLeg_18 : decode cX3_partOfLeg 18 = .ok (.lstore 5, 2) := by decide +kernel
theorem dX3_partOfLeg_20 : decode cX3_partOfLeg 20 = .ok (.iload 4, 2) := by decide +kernel
theorem dX3_partOfLeg_22 : decode cX3_partOfLeg 22 = .ok (.ifCond .le 16, 3) := by decide +kernel
theorem dX3_partOfLeg_25 : decode cX3_partOfLeg 25 = .ok (.iload_n 3, 1) := by decide +kernel
theorem dX3_partOfLeg_26 : decode cX3_partOfLeg 26 = .ok (.i2l, 1) := by decide +kernel
theorem dX3_partOfLeg_27 : decode cX3_partOfLeg 27 = .ok (.lload 5, 2) := by decide +kernel
theorem dX3_partOfLeg_29 : decode cX3_partOfLeg 29 = .ok (.lmul, 1) := by decide +kernel
theorem dX3_partOfLeg_30 : decode cX3_partOfLeg 30 = .ok (.iload 4, 2) := by decide +kernel
theorem dX3_partOfLeg_32 : decode cX3_partOfLeg 32 = .ok (.i2l, 1) := by decide +kernel
theorem dX3_partOfLeg_33 : decode cX3_partOfLeg 33 = .ok (.ldiv, 1) := by decide +kernel
theorem dX3_partOfLeg_34 : decode cX3_partOfLeg 34 = .ok (.l2i, 1) := by decide +kernel
theorem dX3_partOfLeg_35 : decode cX3_partOfLeg 35 = .ok (.goto 4, 3) := by decide +kernel
theorem dX3_partOfLeg_38 : decode cX3_partOfLeg 38 = .ok (.iconst 0, 1) := by decide +kernel
theorem dX3_partOfLeg_39 : decode cX3_partOfLeg 39 = .ok (.ireturn, 1) := by decide +kernel
set_option maxRecDepth 20000 in
set_option maxRecDepth 100000 in
theorem ggX3_legsAcross_X3_get : GoodIn wsX3_legsAcross wsX3_get := goodIn_r _ [6, 1, 7, 8, 9, 10, 11, 12, 13, 14] rfl (by decide +kernel)
set_option maxRecDepth 20000 in
theorem gX3_legsAcross_X3_get : GoodIn wsX3_legsAcross (wsV RX3 84 RX3 yX3_get wsX3_get) := goodIn_app (goodIn_of _ (by decide +kernel)) ggX3_legsAcross_X3_get
theorem dX3_legsAcross_0 : decode cX3_legsAcross 0 = .ok (.iconst 0, 1) := by decide +kernel
theorem dX3_legsAcross_1 : decode cX3_legsAcross 1 = .ok (.istore_n 2, 1) := by decide +kernel
theorem dX3_legsAcross_2 : decode cX3_legsAcross 2 = .ok (.iconst 0, 1) := by decide +kernel
theorem dX3_legsAcross_3 : decode cX3_legsAcross 3 = .ok (.istore_n 3, 1) := by decide +kernel
theorem dX3_legsAcross_4 : decode cX3_legsAcross 4 = .ok (.iload_n 3, 1) := by decide +kernel
theorem dX3_legsAcross_5 : decode cX3_legsAcross 5 = .ok (.aload_n 0, 1) := by decide +kernel
theorem dX3_legsAcross_6 : decode cX3_legsAcross 6 = .ok (.getfield 16, 3) := by decide +kernel
theorem dX3_legsAcross_9 : decode cX3_legsAcross 9 = .ok (.if_icmp .ge 22, 3) := by decide +kernel
theorem dX3_legsAcross_12 : decode cX3_legsAcross 12 = .ok (.aload_n 0, 1) := by decide +kernel
theorem dX3_legsAcross_13 : decode cX3_legsAcross 13 = .ok (.iload_n 3, 1) := by decide +kernel
theorem dX3_legsAcross_14 : decode cX3_legsAcross 14 = .ok (.iconst 0, 1) := by decide +kernel
theorem dX3_legsAcross_15 : decode cX3_legsAcross 15 = .ok (.invokevirtual 84, 3) := by decide +kernel
theorem dX3_legsAcross_18 : decode cX3_legsAcross 18 = .ok (.iload_n 1, 1) := by decide +kernel
theorem dX3_legsAcross_19 : decode cX3_legsAcross 19 = .ok (.if_icmp .ne 6, 3) := by decide +kernel
theorem dX3_legsAcross_22 : decode cX3_legsAcross 22 = .ok (.iinc 2 1, 3) := by decide +kernel
theorem dX3_legsAcross_25 : decode cX3_legsAcross 25 = .ok (.iinc 3 1, 3) := by decide +kernel
theorem dX3_legsAcross_28 : decode cX3_legsAcross 28 = .ok (.goto (-24), 3) := by decide +kernel
theorem dX3_legsAcross_31 : decode cX3_legsAcross 31 = .ok (.iload_n 2, 1) := by decide +kernel
theorem dX3_legsAcross_32 : decode cX3_legsAcross 32 = .ok (.ireturn, 1) := by decide +kernel
set_option maxRecDepth 20000 in
set_option maxRecDepth 100000 in
theorem ggX3_legsAlike_X3_get : GoodIn wsX3_legsAlike wsX3_get := goodIn_r _ [6, 1, 7, 8, 9, 10, 11, 12, 13, 14] rfl (by decide +kernel)
set_option maxRecDepth 20000 in
theorem gX3_legsAlike_X3_get : GoodIn wsX3_legsAlike (wsV RX3 84 RX3 yX3_get wsX3_get) := goodIn_app (goodIn_of _ (by decide +kernel)) ggX3_legsAlike_X3_get
theorem dX3_legsAlike_0 : decode cX3_legsAlike 0 = .ok (.iconst 0, 1) := by decide +kernel
theorem dX3_legsAlike_1 : decode cX3_legsAlike 1 = .ok (.istore_n 2, 1) := by decide +kernel
theorem dX3_legsAlike_2 : decode cX3_legsAlike 2 = .ok (.iload_n 2, 1) := by decide +kernel
theorem dX3_legsAlike_3 : decode cX3_legsAlike 3 = .ok (.aload_n 0, 1) := by decide +kernel
theorem dX3_legsAlike_4 : decode cX3_legsAlike 4 = .ok (.getfield 16, 3) := by decide +kernel
theorem dX3_legsAlike_7 : decode cX3_legsAlike 7 = .ok (.if_icmp .ge 47, 3) := by decide +kernel
theorem dX3_legsAlike_10 : decode cX3_legsAlike 10 = .ok (.iload_n 2, 1) := by decide +kernel
theorem dX3_legsAlike_11 : decode cX3_legsAlike 11 = .ok (.aload_n 1, 1) := by decide +kernel
theorem dX3_legsAlike_12 : decode cX3_legsAlike 12 = .ok (.getfield 16, 3) := by decide +kernel
theorem dX3_legsAlike_15 : decode cX3_legsAlike 15 = .ok (.if_icmp .ge 39, 3) := by decide +kernel
theorem dX3_legsAlike_18 : decode cX3_legsAlike 18 = .ok (.aload_n 0, 1) := by decide +kernel
theorem dX3_legsAlike_19 : decode cX3_legsAlike 19 = .ok (.iload_n 2, 1) := by decide +kernel
theorem dX3_legsAlike_20 : decode cX3_legsAlike 20 = .ok (.iconst 0, 1) := by decide +kernel
theorem dX3_legsAlike_21 : decode cX3_legsAlike 21 = .ok (.invokevirtual 84, 3) := by decide +kernel
theorem dX3_legsAlike_24 : decode cX3_legsAlike 24 = .ok (.aload_n 1, 1) := by decide +kernel
theorem dX3_legsAlike_25 : decode cX3_legsAlike 25 = .ok (.iload_n 2, 1) := by decide +kernel
theorem dX3_legsAlike_26 : decode cX3_legsAlike 26 = .ok (.iconst 0, 1) := by decide +kernel
theorem dX3_legsAlike_27 : decode cX3_legsAlike 27 = .ok (.invokevirtual 84, 3) := by decide +kernel
theorem dX3_legsAlike_30 : decode cX3_legsAlike 30 = .ok (.if_icmp .ne 24, 3) := by decide +kernel
theorem dX3_legsAlike_33 : decode cX3_legsAlike 33 = .ok (.aload_n 0, 1) := by decide +kernel
theorem dX3_legsAlike_34 : decode cX3_legsAlike 34 = .ok (.iload_n 2, 1) := by decide +kernel
theorem dX3_legsAlike_35 : decode cX3_legsAlike 35 = .ok (.iconst 1, 1) := by decide +kernel
theorem dX3_legsAlike_36 : decode cX3_legsAlike 36 = .ok (.invokevirtual 84, 3) := by decide +kernel
theorem dX3_legsAlike_39 : decode cX3_legsAlike 39 = .ok (.aload_n 1, 1) := by decide +kernel
theorem dX3_legsAlike_40 : decode cX3_legsAlike 40 = .ok (.iload_n 2, 1) := by decide +kernel
theorem dX3_legsAlike_41 : decode cX3_legsAlike 41 = .ok (.iconst 1, 1) := by decide +kernel
theorem dX3_legsAlike_42 : decode cX3_legsAlike 42 = .ok (.invokevirtual 84, 3) := by decide +kernel
theorem dX3_legsAlike_45 : decode cX3_legsAlike 45 = .ok (.if_icmp .ne 9, 3) := by decide +kernel
theorem dX3_legsAlike_48 : decode cX3_legsAlike 48 = .ok (.iinc 2 1, 3) := by decide +kernel
theorem dX3_legsAlike_51 : decode cX3_legsAlike 51 = .ok (.goto (-49), 3) := by decide +kernel
theorem dX3_legsAlike_54 : decode cX3_legsAlike 54 = .ok (.iload_n 2, 1) := by decide +kernel
theorem dX3_legsAlike_55 : decode cX3_legsAlike 55 = .ok (.ireturn, 1) := by decide +kernel
set_option maxRecDepth 20000 in
set_option maxRecDepth 100000 in
theorem ggX3_meetingTime_X3_get : GoodIn wsX3_meetingTime wsX3_get := goodIn_r _ [10, 1, 11, 12, 13, 14, 19, 20, 21, 22] rfl (by decide +kernel)
set_option maxRecDepth 20000 in
theorem gX3_meetingTime_X3_get : GoodIn wsX3_meetingTime (wsV RX3 84 RX3 yX3_get wsX3_get) := goodIn_app (goodIn_of _ (by decide +kernel)) ggX3_meetingTime_X3_get
set_option maxRecDepth 20000 in
set_option maxRecDepth 100000 in
theorem ggX3_meetingTime_X3_sumAhead : GoodIn wsX3_meetingTime wsX3_sumAhead := goodIn_r _ [18, 1, 6, 7, 8, 9, 10, 11, 12, 13, 14, 19, 20, 21, 22] rfl (by decide +kernel)
set_option maxRecDepth 20000 in
theorem gX3_meetingTime_X3_sumAhead : GoodIn wsX3_meetingTime (wsV RX3 88 RX3 yX3_sumAhead wsX3_sumAhead) := goodIn_app (goodIn_of _ (by decide +kernel)) ggX3_meetingTime_X3_sumAhead
theorem dX3_meetingTime_0 : decode cX3_meetingTime 0 = .ok (.iconst 0, 1) := by decide +kernel
theorem dX3_meetingTime_1 : decode cX3_meetingTime 1 = .ok (.istore_n 2, 1) := by decide +kernel
theorem dX3_meetingTime_2 : decode cX3_meetingTime 2 = .ok (.iconst 0, 1) := by decide +kernel
theorem dX3_meetingTime_3 : decode cX3_meetingTime 3 = .ok (.istore_n 3, 1) := by decide +kernel
theorem dX3_meetingTime_4 : decode cX3_meetingTime 4 = .ok (.iconst 0, 1) := by decide +kernel
theorem dX3_meetingTime_5 : decode cX3_meetingTime 5 = .ok (.istore 4, 2) := by decide +kernel
theorem dX3_meetingTime_7 : decode cX3_meetingTime 7 = .ok (.iconst 0, 1) := by decide +kernel
theorem dX3_meetingTime_8 : decode cX3_meetingTime 8 = .ok (.istore 5, 2) := by decide +kernel
theorem dX3_meetingTime_10 : decode cX3_meetingTime 10 = .ok (.iload 5, 2) := by decide +kernel
theorem dX3_meetingTime_12 : decode cX3_meetingTime 12 = .ok (.bipush 120, 2) := by decide +kernel
theorem dX3_meetingTime_14 : decode cX3_meetingTime 14 = .ok (.if_icmp .gt 92, 3) := by decide +kernel
theorem dX3_meetingTime_17 : decode cX3_meetingTime 17 = .ok (.iload_n 2, 1) := by decide +kernel
theorem dX3_meetingTime_18 : decode cX3_meetingTime 18 = .ok (.aload_n 0, 1) := by decide +kernel
theorem dX3_meetingTime_19 : decode cX3_meetingTime 19 = .ok (.getfield 16, 3) := by decide +kernel
theorem dX3_meetingTime_22 : decode cX3_meetingTime 22 = .ok (.if_icmp .ge 84, 3) := by decide +kernel
theorem dX3_meetingTime_25 : decode cX3_meetingTime 25 = .ok (.iload_n 3, 1) := by decide +kernel
theorem dX3_meetingTime_26 : decode cX3_meetingTime 26 = .ok (.aload_n 1, 1) := by decide +kernel
theorem dX3_meetingTime_27 : decode cX3_meetingTime 27 = .ok (.getfield 16, 3) := by decide +kernel
theorem dX3_meetingTime_30 : decode cX3_meetingTime 30 = .ok (.if_icmp .ge 76, 3) := by decide +kernel
theorem dX3_meetingTime_33 : decode cX3_meetingTime 33 = .ok (.aload_n 0, 1) := by decide +kernel
theorem dX3_meetingTime_34 : decode cX3_meetingTime 34 = .ok (.iload_n 2, 1) := by decide +kernel
theorem dX3_meetingTime_35 : decode cX3_meetingTime 35 = .ok (.iconst 0, 1) := by decide +kernel
theorem dX3_meetingTime_36 : decode cX3_meetingTime 36 = .ok (.invokevirtual 84, 3) := by decide +kernel
theorem dX3_meetingTime_39 : decode cX3_meetingTime 39 = .ok (.aload_n 1, 1) := by decide +kernel
theorem dX3_meetingTime_40 : decode cX3_meetingTime 40 = .ok (.iload_n 3, 1) := by decide +kernel
theorem dX3_meetingTime_41 : decode cX3_meetingTime 41 = .ok (.iconst 0, 1) := by decide +kernel
theorem dX3_meetingTime_42 : decode cX3_meetingTime 42 = .ok (.invokevirtual 84, 3) := by decide +kernel
theorem dX3_meetingTime_45 : decode cX3_meetingTime 45 = .ok (.if_icmp .ne 6, 3) := by decide +kernel
theorem dX3_meetingTime_48 : decode cX3_meetingTime 48 = .ok (.iload 4, 2) := by decide +kernel
theorem dX3_meetingTime_50 : decode cX3_meetingTime 50 = .ok (.ireturn, 1) := by decide +kernel
theorem dX3_meetingTime_51 : decode cX3_meetingTime 51 = .ok (.aload_n 0, 1) := by decide +kernel
theorem dX3_meetingTime_52 : decode cX3_meetingTime 52 = .ok (.iload_n 2, 1) := by decide +kernel
theorem dX3_meetingTime_53 : decode cX3_meetingTime 53 = .ok (.iconst 1, 1) := by decide +kernel
theorem dX3_meetingTime_54 : decode cX3_meetingTime 54 = .ok (.iadd, 1) := by decide +kernel
theorem dX3_meetingTime_55 : decode cX3_meetingTime 55 = .ok (.iconst 4, 1) := by decide +kernel
theorem dX3_meetingTime_56 : decode cX3_meetingTime 56 = .ok (.invokevirtual 88, 3) := by decide +kernel
theorem dX3_meetingTime_59 : decode cX3_meetingTime 59 = .ok (.istore 6, 2) := by decide +kernel
theorem dX3_meetingTime_61 : decode cX3_meetingTime 61 = .ok (.aload_n 1, 1) := by decide +kernel
theorem dX3_meetingTime_62 : decode cX3_meetingTime 62 = .ok (.iload_n 3, 1) := by decide +kernel
theorem dX3_meetingTime_63 : decode cX3_meetingTime 63 = .ok (.iconst 1, 1) := by decide +kernel
theorem dX3_meetingTime_64 : decode cX3_meetingTime 64 = .ok (.iadd, 1) := by decide +kernel
theorem dX3_meetingTime_65 : decode cX3_meetingTime 65 = .ok (.iconst 4, 1) := by decide +kernel
theorem dX3_meetingTime_66 : decode cX3_meetingTime 66 = .ok (.invokevirtual 88, 3) := by decide +kernel
theorem dX3_meetingTime_69 : decode cX3_meetingTime 69 = .ok (.istore 7, 2) := by decide +kernel
theorem dX3_meetingTime_71 : decode cX3_meetingTime 71 = .ok (.iload 6, 2) := by decide +kernel
theorem dX3_meetingTime_73 : decode cX3_meetingTime 73 = .ok (.iload 7, 2) := by decide +kernel
theorem dX3_meetingTime_75 : decode cX3_meetingTime 75 = .ok (.invokestatic 91, 3) := by decide +kernel
theorem dX3_meetingTime_78 : decode cX3_meetingTime 78 = .ok (.istore 4, 2) := by decide +kernel
theorem dX3_meetingTime_80 : decode cX3_meetingTime 80 = .ok (.iload 6, 2) := by decide +kernel
theorem dX3_meetingTime_82 : decode cX3_meetingTime 82 = .ok (.iload 4, 2) := by decide +kernel
theorem dX3_meetingTime_84 : decode cX3_meetingTime 84 = .ok (.if_icmp .ne 6, 3) := by decide +kernel
theorem dX3_meetingTime_87 : decode cX3_meetingTime 87 = .ok (.iinc 2 1, 3) := by decide +kernel
theorem dX3_meetingTime_90 : decode cX3_meetingTime 90 = .ok (.iload 7, 2) := by decide +kernel
theorem dX3_meetingTime_92 : decode cX3_meetingTime 92 = .ok (.iload 4, 2) := by decide +kernel
theorem dX3_meetingTime_94 : decode cX3_meetingTime 94 = .ok (.if_icmp .ne 6, 3) := by decide +kernel
theorem dX3_meetingTime_97 : decode cX3_meetingTime 97 = .ok (.iinc 3 1, 3) := by decide +kernel
theorem dX3_meetingTime_100 : decode cX3_meetingTime 100 = .ok (.iinc 5 1, 3) := by decide +kernel
theorem dX3_meetingTime_103 : decode cX3_meetingTime 103 = .ok (.goto (-93), 3) := by decide +kernel
theorem dX3_meetingTime_106 : decode cX3_meetingTime 106 = .ok (.iconst (-1), 1) := by decide +kernel
theorem dX3_meetingTime_107 : decode cX3_meetingTime 107 = .ok (.ireturn, 1) := by decide +kernel
