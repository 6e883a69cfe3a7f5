theorem dX9_append_34 : decode cX9_append 34 = .ok (.invokevirtual 197, 3) := by decide +kernel
theorem dX9_append_37 : decode cX9_append 37 = .ok (.aload_n 0, 1) := by decide +kernel
theorem dX9_append_38 : decode cX9_append 38 = .ok (.iload_n 3, 1) := by decide +kernel
theorem dX9_append_39 : decode cX9_append 39 = .ok (.invokevirtual 197, 3) := by decide +kernel
theorem dX9_append_42 : decode cX9_append 42 = .ok (.aload_n 0, 1) := by decide +kernel
theorem dX9_append_43 : decode cX9_append 43 = .ok (.iload 4, 2) := by decide +kernel
theorem dX9_append_45 : decode cX9_append 45 = .ok (.invokevirtual 197, 3) := by decide +kernel
theorem dX9_append_48 : decode cX9_append 48 = .ok (.aload_n 0, 1) := by decide +kernel
theorem dX9_append_49 : decode cX9_append 49 = .ok (.iload 5, 2) := by decide +kernel
theorem dX9_append_51 : decode cX9_append 51 = .ok (.invokevirtual 197, 3) := by decide +kernel
theorem dX9_append_54 : decode cX9_append 54 = .ok (.aload_n 0, 1) := by decide +kernel
theorem dX9_append_55 : decode cX9_append 55 = .ok (.getfield 190, 3) := by decide +kernel
theorem dX9_append_58 : decode cX9_append 58 = .ok (.ireturn, 1) := by decide +kernel
set_option maxRecDepth 20000 in
set_option maxRecDepth 100000 in
theorem ggX9_truncate_X9_in : GoodIn wsX9_truncate wsX9_in := goodIn_r _ [5] rfl (by decide +kernel)
set_option maxRecDepth 20000 in
theorem gX9_truncate_X9_in : GoodIn wsX9_truncate (va_wsS RX9 94 yX9_in wsX9_in) := goodIn_app (goodIn_of _ (by decide +kernel)) ggX9_truncate_X9_in
set_option maxRecDepth 20000 in
set_option maxRecDepth 100000 in
theorem ggX9_truncate_X9_passes : GoodIn wsX9_truncate wsX9_passes := goodIn_r _ [9, 10, 11, 12, 4, 13, 14, 15, 16, 17, 18, 19, 20, 21, 22, 23, 24, 25, 26, 27, 28, 29, 30, 31, 32, 33, 34, 35, 36, 37, 38, 39, 40, 41, 42, 43, 44, 45, 46, 47, 48, 49, 50, 51, 52, 53, 54, 55] rfl (by decide +kernel)
set_option maxRecDepth 20000 in
theorem gX9_truncate_X9_passes : GoodIn wsX9_truncate (wsV RX9 193 RX9 yX9_passes wsX9_passes) := goodIn_app (goodIn_of _ (by decide +kernel)) ggX9_truncate_X9_passes
theorem dX9_truncate_0 : decode cX9_truncate 0 = .ok (.aload_n 0, 1) := by decide +kernel
theorem dX9_truncate_1 : decode cX9_truncate 1 = .ok (.iload_n 1, 1) := by decide +kernel
theorem dX9_truncate_2 : decode cX9_truncate 2 = .ok (.i2l, 1) := by decide +kernel
theorem dX9_truncate_3 : decode cX9_truncate 3 = .ok (.lconst 0, 1) := by decide +kernel
theorem dX9_truncate_4 : decode cX9_truncate 4 = .ok (.aload_n 0, 1) := by decide +kernel
theorem dX9_truncate_5 : decode cX9_truncate 5 = .ok (.getfield 190, 3) := by decide +kernel
theorem dX9_truncate_8 : decode cX9_truncate 8 = .ok (.i2l, 1) := by decide +kernel
theorem dX9_truncate_9 : decode cX9_truncate 9 = .ok (.invokestatic 94, 3) := by decide +kernel
theorem dX9_truncate_12 : decode cX9_truncate 12 = .ok (.invokevirtual 193, 3) := by decide +kernel
theorem dX9_truncate_15 : decode cX9_truncate 15 = .ok (.ifCond .eq 8, 3) := by decide +kernel
theorem dX9_truncate_18 : decode cX9_truncate 18 = .ok (.aload_n 0, 1) := by decide +kernel
theorem dX9_truncate_19 : decode cX9_truncate 19 = .ok (.iload_n 1, 1) := by decide +kernel
theorem dX9_truncate_20 : decode cX9_truncate 20 = .ok (.putfield 190, 3) := by decide +kernel
theorem dX9_truncate_23 : decode cX9_truncate 23 = .ok (.return_, 1) := by decide +kernel
theorem dX9_good_0 : decode cX9_good 0 = .ok (.aload_n 0, 1) := by decide +kernel
theorem dX9_good_1 : decode cX9_good 1 = .ok (.getfield 200, 3) := by decide +kernel
theorem dX9_good_4 : decode cX9_good 4 = .ok (.ifCond .ne 7, 3) := by decide +kernel
theorem dX9_good_7 : decode cX9_good 7 = .ok (.iconst 1, 1) := by decide +kernel
theorem dX9_good_8 : decode cX9_good 8 = .ok (.goto 4, 3) := by decide +kernel
theorem dX9_good_11 : decode cX9_good 11 = .ok (.iconst 0, 1) := by decide +kernel
theorem dX9_good_12 : decode cX9_good 12 = .ok (.ireturn, 1) := by decide +kernel
set_option maxRecDepth 20000 in
set_option maxRecDepth 100000 in
theorem ggX9_errs_X9_good : GoodIn wsX9_errs wsX9_good := goodIn_r _ [8, 1, 9, 10, 11, 12, 13, 14, 15, 16, 17, 18, 19, 20, 21, 22, 23, 24, 25, 26, 27, 28, 29, 30, 31, 32, 33, 34, 35, 36, 37, 38, 39, 40, 41, 42, 43, 44, 45, 46, 47, 48, 49] rfl (by decide +kernel)
set_option maxRecDepth 20000 in
theorem gX9_errs_X9_good : GoodIn wsX9_errs (wsV RX9 203 RX9 yX9_good wsX9_good) := goodIn_app (goodIn_of _ (by decide +kernel)) ggX9_errs_X9_good
theorem dX9_errs_0 : decode cX9_errs 0 = .ok (.aload_n 0, 1) := by decide +kernel
theorem dX9_errs_1 : decode cX9_errs 1 = .ok (.invokevirtual 203, 3) := by decide +kernel
theorem dX9_errs_4 : decode cX9_errs 4 = .ok (.ifCond .ne 4, 3) := by decide +kernel
theorem dX9_errs_7 : decode cX9_errs 7 = .ok (.return_, 1) := by decide +kernel
theorem dX9_errs_8 : decode cX9_errs 8 = .ok (.aload_n 0, 1) := by decide +kernel
theorem dX9_errs_9 : decode cX9_errs 9 = .ok (.iload_n 1, 1) := by decide +kernel
theorem dX9_errs_10 : decode cX9_errs 10 = .ok (.putfield 200, 3) := by decide +kernel
theorem dX9_errs_13 : decode cX9_errs 13 = .ok (.aload_n 0, 1) := by decide +kernel
theorem dX9_errs_14 : decode cX9_errs 14 = .ok (.aload_n 0, 1) := by decide +kernel
theorem dX9_errs_15 : decode cX9_errs 15 = .ok (.getfield 207, 3) := by decide +kernel
theorem dX9_errs_18 : decode cX9_errs 18 = .ok (.putfield 53, 3) := by decide +kernel
theorem dX9_errs_21 : decode cX9_errs 21 = .ok (.return_, 1) := by decide +kernel
theorem dX9_byteAt_0 : decode cX9_byteAt 0 = .ok (.iload_n 1, 1) := by decide +kernel
theorem dX9_byteAt_1 : decode cX9_byteAt 1 = .ok (.aload_n 0, 1) := by decide +kernel
theorem dX9_byteAt_2 : decode cX9_byteAt 2 = .ok (.getfield 210, 3) := by decide +kernel
theorem dX9_byteAt_5 : decode cX9_byteAt 5 = .ok (.if_icmp .ge 16, 3) := by decide +kernel
theorem dX9_byteAt_8 : decode cX9_byteAt 8 = .ok (.aload_n 0, 1) := by decide +kernel
theorem dX9_byteAt_9 : decode cX9_byteAt 9 = .ok (.getfield 49, 3) := by decide +kernel
theorem dX9_byteAt_12 : decode cX9_byteAt 12 = .ok (.iload_n 1, 1) := by decide +kernel
theorem dX9_byteAt_13 : decode cX9_byteAt 13 = .ok (.baload, 1) := by decide +kernel
theorem dX9_byteAt_14 : decode cX9_byteAt 14 = .ok (.sipush 255, 3) := by decide +kernel
theorem dX9_byteAt_17 : decode cX9_byteAt 17 = .ok (.iand, 1) := by decide +kernel
theorem dX9_byteAt_18 : decode cX9_byteAt 18 = .ok (.goto 4, 3) := by decide +kernel
theorem dX9_byteAt_21 : decode cX9_byteAt 21 = .ok (.iconst (-1), 1) := by decide +kernel
theorem dX9_byteAt_22 : decode cX9_byteAt 22 = .ok (.ireturn, 1) := by decide +kernel
set_option maxRecDepth 20000 in
set_option maxRecDepth 100000 in
theorem ggX9_scan_X9_byteAt : GoodIn wsX9_scan wsX9_byteAt := goodIn_r _ [17, 18, 19, 23, 24, 25, 26, 27, 28, 29, 30, 31, 32, 33, 34, 35, 36, 37, 38, 39, 40, 41, 42, 43, 44, 45, 46, 47, 48, 49, 50, 51, 52, 53, 54, 55, 56, 57, 58, 59, 60, 61, 62, 63] rfl (by decide +kernel)
set_option maxRecDepth 20000 in
theorem gX9_scan_X9_byteAt : GoodIn wsX9_scan (wsV RX9 216 RX9 yX9_byteAt wsX9_byteAt) := goodIn_app (goodIn_of _ (by decide +kernel)) ggX9_scan_X9_byteAt
set_option maxRecDepth 20000 in
set_option maxRecDepth 100000 in
theorem ggX9_scan_X9_in : GoodIn wsX9_scan wsX9_in := goodIn_r _ [22] rfl (by decide +kernel)
set_option maxRecDepth 20000 in
theorem gX9_scan_X9_in : GoodIn wsX9_scan (va_wsS RX9 94 yX9_in wsX9_in) := goodIn_app (goodIn_of _ (by decide +kernel)) ggX9_scan_X9_in
theorem dX9_scan_0 : decode cX9_scan 0 = .ok (.aload_n 0, 1) := by decide +kernel
theorem dX9_scan_1 : decode cX9_scan 1 = .ok (.aload_n 0, 1) := by decide +kernel
theorem dX9_scan_2 : decode cX9_scan 2 = .ok (.getfield 213, 3) := by decide +kernel
theorem dX9_scan_5 : decode cX9_scan 5 = .ok (.invokevirtual 216, 3) := by decide +kernel
theorem dX9_scan_8 : decode cX9_scan 8 = .ok (.bipush 32, 2) := by decide +kernel
theorem dX9_scan_10 : decode cX9_scan 10 = .ok (.if_icmp .eq 16, 3) := by decide +kernel
theorem dX9_scan_13 : decode cX9_scan 13 = .ok (.aload_n 0, 1) := by decide +kernel
theorem dX9_scan_14 : decode cX9_scan 14 = .ok (.aload_n 0, 1) := by decide +kernel
theorem dX9_scan_15 : decode cX9_scan 15 = .ok (.getfield 213, 3) := by decide +kernel
theorem dX9_scan_18 : decode cX9_scan 18 = .ok (.invokevirtual 216, 3) := by decide +kernel
theorem dX9_scan_21 : decode cX9_scan 21 = .ok (.bipush 10, 2) := by decide +kernel
theorem dX9_scan_23 : decode cX9_scan 23 = .ok (.if_icmp .ne 16, 3) := by decide +kernel
theorem dX9_scan_26 : decode cX9_scan 26 = .ok (.aload_n 0, 1) := by decide +kernel
theorem dX9_scan_27 : decode cX9_scan 27 = .ok (.dup, 1) := by decide +kernel
theorem dX9_scan_28 : decode cX9_scan 28 = .ok (.getfield 213, 3) := by decide +kernel
theorem dX9_scan_31 : decode cX9_scan 31 = .ok (.iconst 1, 1) := by decide +kernel
theorem dX9_scan_32 : decode cX9_scan 32 = .ok (.iadd, 1) := by decide +kernel
theorem dX9_scan_33 : decode cX9_scan 33 = .ok (.putfield 213, 3) := by decide +kernel
theorem dX9_scan_36 : decode cX9_scan 36 = .ok (.goto (-36), 3) := by decide +kernel
theorem dX9_scan_39 : decode cX9_scan 39 = .ok (.aload_n 0, 1) := by decide +kernel
theorem dX9_scan_40 : decode cX9_scan 40 = .ok (.aload_n 0, 1) := by decide +kernel
theorem dX9_scan_41 : decode cX9_scan 41 = .ok (.getfield 213, 3) := by decide +kernel
theorem dX9_scan_44 : decode cX9_scan 44 = .ok (.putfield 207, 3) := by decide +kernel
theorem dX9_scan_47 : decode cX9_scan 47 = .ok (.aload_n 0, 1) := by decide +kernel
theorem dX9_scan_48 : decode cX9_scan 48 = .ok (.aload_n 0, 1) := by decide +kernel
theorem dX9_scan_49 : decode cX9_scan 49 = .ok (.getfield 213, 3) := by decide +kernel
theorem dX9_scan_52 : decode cX9_scan 52 = .ok (.invokevirtual 216, 3) := by decide +kernel
theorem dX9_scan_55 : decode cX9_scan 55 = .ok (.istore_n 1, 1) := by decide +kernel
theorem dX9_scan_56 : decode cX9_scan 56 = .ok (.iload_n 1, 1) := by decide +kernel
theorem dX9_scan_57 : decode cX9_scan 57 = .ok (.iconst (-1), 1) := by decide +kernel
theorem dX9_scan_58 : decode cX9_scan 58 = .ok (.if_icmp .ne 11, 3) := by decide +kernel
theorem dX9_scan_61 : decode cX9_scan 61 = .ok (.aload_n 0, 1) := by decide +kernel
theorem dX9_scan_62 : decode cX9_scan 62 = .ok (.iconst 0, 1) := by decide +kernel
theorem dX9_scan_63 : decode cX9_scan 63 = .ok (.putfield 219, 3) := by decide +kernel
theorem dX9_scan_66 : decode cX9_scan 66 = .ok (.goto 169, 3) := by decide +kernel
theorem dX9_scan_69 : decode cX9_scan 69 = .ok (.iload_n 1, 1) := by decide +kernel
theorem dX9_scan_70 : decode cX9_scan 70 = .ok (.i2l, 1) := by decide +kernel
theorem dX9_scan_71 : decode cX9_scan 71 = .ok (.ldc2_w 222, 3) := by decide +kernel
theorem dX9_scan_74 : decode cX9_scan 74 = .ok (.ldc2_w 224, 3) := by decide +kernel
theorem dX9_scan_77 : decode cX9_scan 77 = .ok (.invokestatic 94, 3) := by decide +kernel
theorem dX9_scan_80 : decode cX9_scan 80 = .ok (.ifCond .eq 45, 3) := by decide +kernel
theorem dX9_scan_83 : decode cX9_scan 83 = .ok (.aload_n 0, 1) := by decide +kernel
theorem dX9_scan_84 : decode cX9_scan 84 = .ok (.aload_n 0, 1) := by decide +kernel
theorem dX9_scan_85 : decode cX9_scan 85 = .ok (.getfield 213, 3) := by decide +kernel
theorem dX9_scan_88 : decode cX9_scan 88 = .ok (.invokevirtual 216, 3) := by decide +kernel
theorem dX9_scan_91 : decode cX9_scan 91 = .ok (.i2l, 1) := by decide +kernel
theorem dX9_scan_92 : decode cX9_scan 92 = .ok (.ldc2_w 222, 3) := by decide +kernel
theorem dX9_scan_95 : decode cX9_scan 95 = .ok (.ldc2_w 224, 3) := by decide +kernel
theorem dX9_scan_98 : decode cX9_scan 98 = .ok (.invokestatic 94, 3) := by decide +kernel
theorem dX9_scan_101 : decode cX9_scan 101 = .ok (.ifCond .eq 16, 3) := by decide +kernel
theorem dX9_scan_104 : decode cX9_scan 104 = .ok (.aload_n 0, 1) := by decide +kernel
theorem dX9_scan_105 : decode cX9_scan 105 = .ok (.dup, 1) := by decide +kernel
theorem dX9_scan_106 : decode cX9_scan 106 = .ok (.getfield 213, 3) := by decide +kernel
theorem dX9_scan_109 : decode cX9_scan 109 = .ok (.iconst 1, 1) := by decide +kernel
theorem dX9_scan_110 : decode cX9_scan 110 = .ok (.iadd, 1) := by decide +kernel
theorem dX9_scan_111 : decode cX9_scan 111 = .ok (.putfield 213, 3) := by decide +kernel
theorem dX9_scan_114 : decode cX9_scan 114 = .ok (.goto (-31), 3) := by decide +kernel
theorem dX9_scan_117 : decode cX9_scan 117 = .ok (.aload_n 0, 1) := by decide +kernel
theorem dX9_scan_118 : decode cX9_scan 118 = .ok (.iconst 1, 1) := by decide +kernel
theorem dX9_scan_119 : decode cX9_scan 119 = .ok (.putfield 219, 3) := by decide +kernel
theorem dX9_scan_122 : decode cX9_scan 122 = .ok (.goto 113, 3) := by decide +kernel
theorem dX9_scan_125 : decode cX9_scan 125 = .ok (.iload_n 1, 1) := by decide +kernel
theorem dX9_scan_126 : decode cX9_scan 126 = .ok (.i2l, 1) := by decide +kernel
theorem dX9_scan_127 : decode cX9_scan 127 = .ok (.ldc2_w 226, 3) := by decide +kernel
theorem dX9_scan_130 : decode cX9_scan 130 = .ok (.ldc2_w 228, 3) := by decide +kernel
theorem dX9_scan_133 : decode cX9_scan 133 = .ok (.invokestatic 94, 3) := by decide +kernel
theorem dX9_scan_136 : decode cX9_scan 136 = .ok (.ifCond .eq 79, 3) := by decide +kernel
theorem dX9_scan_139 : decode cX9_scan 139 = .ok (.aload_n 0, 1) := by decide +kernel
theorem dX9_scan_140 : decode cX9_scan 140 = .ok (.iconst 0, 1) := by decide +kernel
theorem dX9_scan_141 : decode cX9_scan 141 = .ok (.putfield 230, 3) := by decide +kernel
theorem dX9_scan_144 : decode cX9_scan 144 = .ok (.aload_n 0, 1) := by decide +kernel
theorem dX9_scan_145 : decode cX9_scan 145 = .ok (.aload_n 0, 1) := by decide +kernel
theorem dX9_scan_146 : decode cX9_scan 146 = .ok (.getfield 213, 3) := by decide +kernel
theorem dX9_scan_149 : decode cX9_scan 149 = .ok (.invokevirtual 216, 3) := by decide +kernel
theorem dX9_scan_152 : decode cX9_scan 152 = .ok (.i2l, 1) := by decide +kernel
theorem dX9_scan_153 : decode cX9_scan 153 = .ok (.ldc2_w 226, 3) := by decide +kernel
theorem dX9_scan_156 : decode cX9_scan 156 = .ok (.ldc2_w 228, 3) := by decide +kernel
theorem dX9_scan_159 : decode cX9_scan 159 = .ok (.invokestatic 94, 3) := by decide +kernel
theorem dX9_scan_162 : decode cX9_scan 162 = .ok (.ifCond .eq 45, 3) := by decide +kernel
theorem dX9_scan_165 : decode cX9_scan 165 = .ok (.aload_n 0, 1) := by decide +kernel
theorem dX9_scan_166 : decode cX9_scan 166 = .ok (.sipush 9999, 3) := by decide +kernel
theorem dX9_scan_169 : decode cX9_scan 169 = .ok (.bipush 10, 2) := by decide +kernel
theorem dX9_scan_171 : decode cX9_scan 171 = .ok (.aload_n 0, 1) := by decide +kernel
theorem dX9_scan_172 : decode cX9_scan 172 = .ok (.getfield 230, 3) := by decide +kernel
theorem dX9_scan_175 : decode cX9_scan 175 = .ok (.imul, 1) := by decide +kernel
theorem dX9_scan_176 : decode cX9_scan 176 = .ok (.aload_n 0, 1) := by decide +kernel
theorem dX9_scan_177 : decode cX9_scan 177 = .ok (.aload_n 0, 1) := by decide +kernel
theorem dX9_scan_178 : decode cX9_scan 178 = .ok (.getfield 213, 3) := by decide +kernel
theorem dX9_scan_181 : decode cX9_scan 181 = .ok (.invokevirtual 216, 3) := by decide +kernel
theorem dX9_scan_184 : decode cX9_scan 184 = .ok (.iadd, 1) := by decide +kernel
theorem dX9_scan_185 : decode cX9_scan 185 = .ok (.bipush 48, 2) := by decide +kernel
theorem dX9_scan_187 : decode cX9_scan 187 = .ok (.isub, 1) := by decide +kernel
theorem dX9_scan_188 : decode cX9_scan 188 = .ok (.invokestatic 233, 3) := by decide +kernel
theorem dX9_scan_191 : decode cX9_scan 191 = .ok (.putfield 230, 3) := by decide +kernel
theorem dX9_scan_194 : decode cX9_scan 194 = .ok (.aload_n 0, 1) := by decide +kernel
theorem dX9_scan_195 : decode cX9_scan 195 = .ok (.dup, 1) := by decide +kernel
theorem dX9_scan_196 : decode cX9_scan 196 = .ok (.getfield 213, 3) := by decide +kernel
theorem dX9_scan_199 : decode cX9_scan 199 = .ok (.iconst 1, 1) := by decide +kernel
theorem dX9_scan_200 : decode cX9_scan 200 = .ok (.iadd, 1) := by decide +kernel
theorem dX9_scan_201 : decode cX9_scan 201 = .ok (.putfield 213, 3) := by decide +kernel
theorem dX9_scan_204 : decode cX9_scan 204 = .ok (.goto (-60), 3) := by decide +kernel
theorem dX9_scan_207 : decode cX9_scan 207 = .ok (.aload_n 0, 1) := by decide +kernel
theorem dX9_scan_208 : decode cX9_scan 208 = .ok (.iconst 2, 1) := by decide +kernel
theorem dX9_scan_209 : decode cX9_scan 209 = .ok (.putfield 219, 3) := by decide +kernel
theorem dX9_scan_212 : decode cX9_scan 212 = .ok (.goto 23, 3) := by decide +kernel
theorem dX9_scan_215 : decode cX9_scan 215 = .ok (.aload_n 0, 1) := by decide +kernel
theorem dX9_scan_216 : decode cX9_scan 216 = .ok (.iconst 3, 1) := by decide +kernel
theorem dX9_scan_217 : decode cX9_scan 217 = .ok (.putfield 219, 3) := by decide +kernel
theorem dX9_scan_220 : decode cX9_scan 220 = .ok (.aload_n 0, 1) := by decide +kernel
theorem dX9_scan_221 : decode cX9_scan 221 = .ok (.iload_n 1, 1) := by decide +kernel
theorem dX9_scan_222 : decode cX9_scan 222 = .ok (.putfield 230, 3) := by decide +kernel
theorem dX9_scan_225 : decode cX9_scan 225 = .ok (.aload_n 0, 1) := by decide +kernel
theorem dX9_scan_226 : decode cX9_scan 226 = .ok (.dup, 1) := by decide +kernel
theorem dX9_scan_227 : decode cX9_scan 227 = .ok (.getfield 213, 3) := by decide +kernel
theorem dX9_scan_230 : decode cX9_scan 230 = .ok (.iconst 1, 1) := by decide +kernel
theorem dX9_scan_231 : decode cX9_scan 231 = .ok (.iadd, 1) := by decide +kernel
theorem dX9_scan_232 : decode cX9_scan 232 = .ok (.putfield 213, 3) := by decide +kernel
theorem dX9_scan_235 : decode cX9_scan 235 = .ok (.return_, 1) := by decide +kernel
set_option maxRecDepth 20000 in
set_option maxRecDepth 100000 in
theorem ggX9_goOn_X9_good : GoodIn wsX9_goOn wsX9_good := goodIn_r _ [5, 6, 32, 33, 34, 35, 36, 37, 38, 39, 40, 41, 42, 43, 44, 45, 46, 47, 48, 49, 50, 51, 52, 53, 54, 55, 56, 57, 58, 59, 60, 61, 62, 63, 64, 65, 66, 67, 68, 69, 70, 71, 72] rfl (by decide +kernel)
set_option maxRecDepth 20000 in
theorem gX9_goOn_X9_good : GoodIn wsX9_goOn (wsV RX9 203 RX9 yX9_good wsX9_good) := goodIn_app (goodIn_of _ (by decide +kernel)) ggX9_goOn_X9_good
set_option maxRecDepth 20000 in
set_option maxRecDepth 100000 in
theorem ggX9_goOn_X9_scan : GoodIn wsX9_goOn wsX9_scan := goodIn_r _ [10, 11, 12, 13, 14, 15, 16, 17, 18, 19, 20, 21, 22, 23, 24, 25, 4, 26, 27, 28, 29, 30, 31, 32, 33, 34, 35, 36, 37, 38, 39, 40, 41, 42, 43, 44, 45, 46, 47, 48, 49, 50, 51, 52, 53, 54, 55, 56, 57, 58, 59, 60, 61, 62, 63, 64, 65, 66, 67, 68, 69, 70, 71, 72] rfl (by decide +kernel)
set_option maxRecDepth 20000 in
theorem gX9_goOn_X9_scan : GoodIn wsX9_goOn (wsV RX9 236 RX9 yX9_scan wsX9_scan) := goodIn_app (goodIn_of _ (by decide +kernel)) ggX9_goOn_X9_scan
theorem dX9_goOn_0 : decode cX9_goOn 0 = .ok (.aload_n 0, 1) := by decide +kernel
theorem dX9_goOn_1 : decode cX9_goOn 1 = .ok (.invokevirtual 203, 3) := by decide +kernel
theorem dX9_goOn_4 : decode cX9_goOn 4 = .ok (.ifCond .eq 7, 3) := by decide +kernel
theorem dX9_goOn_7 : decode cX9_goOn 7 = .ok (.aload_n 0, 1) := by decide +kernel
theorem dX9_goOn_8 : decode cX9_goOn 8 = .ok (.invokevirtual 236, 3) := by decide +kernel
theorem dX9_goOn_11 : decode cX9_goOn 11 = .ok (.return_, 1) := by decide +kernel
set_option maxRecDepth 20000 in
set_option maxRecDepth 100000 in
theorem ggX9_isWord_X9_good : GoodIn wsX9_isWord wsX9_good := goodIn_r _ [9, 10, 60, 61, 62, 63, 64, 65, 66, 67, 68, 69, 70, 71, 72, 73, 74, 75, 76, 77, 78, 79, 80, 81, 82, 83, 84, 85, 86, 87, 88, 89, 90, 91, 92, 93, 94, 95, 96, 97, 98, 99, 100] rfl (by decide +kernel)
set_option maxRecDepth 20000 in
theorem gX9_isWord_X9_good : GoodIn wsX9_isWord (wsV RX9 203 RX9 yX9_good wsX9_good) := goodIn_app (goodIn_of _ (by decide +kernel)) ggX9_isWord_X9_good
set_option maxRecDepth 20000 in
set_option maxRecDepth 100000 in
theorem ggX9_isWord_J0_length_8abf5 : GoodIn wsX9_isWord wsJ0_length_8abf5 := goodIn_r _ [15, 16, 17, 18, 19, 14, 20, 21, 22] rfl (by decide +kernel)
set_option maxRecDepth 20000 in
theorem gX9_isWord_J0_length_8abf5 : GoodIn wsX9_isWord (wsV RX9 239 RJ0 yJ0_length_8abf5 wsJ0_length_8abf5) := goodIn_app (goodIn_of _ (by decide +kernel)) ggX9_isWord_J0_length_8abf5
set_option maxRecDepth 20000 in
set_option maxRecDepth 100000 in
theorem ggX9_isWord_J0_charAt_5068e : GoodIn wsX9_isWord wsJ0_charAt_5068e := goodIn_r _ [26, 16, 27, 28, 29, 14, 30, 21, 22, 31, 32, 33, 34, 35, 36, 37, 38, 39, 40, 41, 42, 43, 44, 45, 46, 47, 48, 49, 50, 51, 52, 53, 54, 55, 56, 57, 58, 59] rfl (by decide +kernel)
set_option maxRecDepth 20000 in
theorem gX9_isWord_J0_charAt_5068e : GoodIn wsX9_isWord (wsV RX9 244 RJ0 yJ0_charAt_5068e wsJ0_charAt_5068e) := goodIn_app (goodIn_of _ (by decide +kernel)) ggX9_isWord_J0_charAt_5068e
theorem dX9_isWord_0 : decode cX9_isWord 0 = .ok (.aload_n 0, 1) := by decide +kernel
theorem dX9_isWord_1 : decode cX9_isWord 1 = .ok (.invokevirtual 203, 3) := by decide +kernel
theorem dX9_isWord_4 : decode cX9_isWord 4 = .ok (.ifCond .eq 31, 3) := by decide +kernel
theorem dX9_isWord_7 : decode cX9_isWord 7 = .ok (.aload_n 0, 1) := by decide +kernel
theorem dX9_isWord_8 : decode cX9_isWord 8 = .ok (.getfield 219, 3) := by decide +kernel
theorem dX9_isWord_11 : decode cX9_isWord 11 = .ok (.iconst 1, 1) := by decide +kernel
theorem dX9_isWord_12 : decode cX9_isWord 12 = .ok (.if_icmp .ne 23, 3) := by decide +kernel
theorem dX9_isWord_15 : decode cX9_isWord 15 = .ok (.aload_n 0, 1) := by decide +kernel
theorem dX9_isWord_16 : decode cX9_isWord 16 = .ok (.getfield 213, 3) := by decide +kernel
theorem dX9_isWord_19 : decode cX9_isWord 19 = .ok (.aload_n 0, 1) := by decide +kernel
theorem dX9_isWord_20 : decode cX9_isWord 20 = .ok (.getfield 207, 3) := by decide +kernel
theorem dX9_isWord_23 : decode cX9_isWord 23 = .ok (.isub, 1) := by decide +kernel
theorem dX9_isWord_24 : decode cX9_isWord 24 = .ok (.aload_n 1, 1) := by decide +kernel
theorem dX9_isWord_25 : decode cX9_isWord 25 = .ok (.invokevirtual 239, 3) := by decide +kernel
theorem dX9_isWord_28 : decode cX9_isWord 28 = .ok (.if_icmp .ne 7, 3) := by decide +kernel
theorem dX9_isWord_31 : decode cX9_isWord 31 = .ok (.iconst 1, 1) := by decide +kernel
theorem dX9_isWord_32 : decode cX9_isWord 32 = .ok (.goto 4, 3) := by decide +kernel
theorem dX9_isWord_35 : decode cX9_isWord 35 = .ok (.iconst 0, 1) := by decide +kernel
theorem dX9_isWord_36 : decode cX9_isWord 36 = .ok (.istore_n 2, 1) := by decide +kernel
theorem dX9_isWord_37 : decode cX9_isWord 37 = .ok (.iconst 0, 1) := by decide +kernel
theorem dX9_isWord_38 : decode cX9_isWord 38 = .ok (.istore_n 3, 1) := by decide +kernel
theorem dX9_isWord_39 : decode cX9_isWord 39 = .ok (.iload_n 3, 1) := by decide +kernel
theorem dX9_isWord_40 : decode cX9_isWord 40 = .ok (.aload_n 1, 1) := by decide +kernel
theorem dX9_isWord_41 : decode cX9_isWord 41 = .ok (.invokevirtual 239, 3) := by decide +kernel
theorem dX9_isWord_44 : decode cX9_isWord 44 = .ok (.if_icmp .ge 38, 3) := by decide +kernel
theorem dX9_isWord_47 : decode cX9_isWord 47 = .ok (.iload_n 2, 1) := by decide +kernel
theorem dX9_isWord_48 : decode cX9_isWord 48 = .ok (.ifCond .eq 34, 3) := by decide +kernel
theorem dX9_isWord_51 : decode cX9_isWord 51 = .ok (.aload_n 0, 1) := by decide +kernel
theorem dX9_isWord_52 : decode cX9_isWord 52 = .ok (.getfield 49, 3) := by decide +kernel
theorem dX9_isWord_55 : decode cX9_isWord 55 = .ok (.aload_n 0, 1) := by decide +kernel
theorem dX9_isWord_56 : decode cX9_isWord 56 = .ok (.getfield 207, 3) := by decide +kernel
theorem dX9_isWord_59 : decode cX9_isWord 59 = .ok (.iload_n 3, 1) := by decide +kernel
theorem dX9_isWord_60 : decode cX9_isWord 60 = .ok (.iadd, 1) := by decide +kernel
theorem dX9_isWord_61 : decode cX9_isWord 61 = .ok (.baload, 1) := by decide +kernel
theorem dX9_isWord_62 : decode cX9_isWord 62 = .ok (.aload_n 1, 1) := by decide +kernel
theorem dX9_isWord_63 : decode cX9_isWord 63 = .ok (.iload_n 3, 1) := by decide +kernel
theorem dX9_isWord_64 : decode cX9_isWord 64 = .ok (.invokevirtual 244, 3) := by decide +kernel
theorem dX9_isWord_67 : decode cX9_isWord 67 = .ok (.if_icmp .ne 7, 3) := by decide +kernel
theorem dX9_isWord_70 : decode cX9_isWord 70 = .ok (.iconst 1, 1) := by decide +kernel
theorem dX9_isWord_71 : decode cX9_isWord 71 = .ok (.goto 4, 3) := by decide +kernel
theorem dX9_isWord_74 : decode cX9_isWord 74 = .ok (.iconst 0, 1) := by decide +kernel
theorem dX9_isWord_75 : decode cX9_isWord 75 = .ok (.istore_n 2, 1) := by decide +kernel
theorem dX9_isWord_76 : decode cX9_isWord 76 = .ok (.iinc 3 1, 3) := by decide +kernel
theorem dX9_isWord_79 : decode cX9_isWord 79 = .ok (.goto (-40), 3) := by decide +kernel
theorem dX9_isWord_82 : decode cX9_isWord 82 = .ok (.iload_n 2, 1) := by decide +kernel
theorem dX9_isWord_83 : decode cX9_isWord 83 = .ok (.ireturn, 1) := by decide +kernel
set_option maxRecDepth 20000 in
set_option maxRecDepth 100000 in
theorem ggX9_numberHere_X9_good : GoodIn wsX9_numberHere wsX9_good := goodIn_r _ [7, 8, 18, 19, 20, 21, 22, 23, 24, 25, 26, 27, 28, 29, 30, 31, 32, 33, 34, 35, 36, 37, 38, 39, 40, 41, 42, 43, 44, 45, 46, 47, 48, 49, 50, 51, 52, 53, 54, 55, 56, 57, 58] rfl (by decide +kernel)
set_option maxRecDepth 20000 in
theorem gX9_numberHere_X9_good : GoodIn wsX9_numberHere (wsV RX9 203 RX9 yX9_good wsX9_good) := goodIn_app (goodIn_of _ (by decide +kernel)) ggX9_numberHere_X9_good
set_option maxRecDepth 20000 in
set_option maxRecDepth 100000 in
theorem ggX9_numberHere_X9_errs : GoodIn wsX9_numberHere wsX9_errs := goodIn_r _ [12, 8, 13, 14, 3, 4, 5, 6, 7, 18, 19, 20, 21, 22, 23, 24, 25, 26, 27, 28, 29, 30, 31, 32, 33, 34, 35, 36, 37, 38, 39, 40, 41, 42, 43, 44, 45, 46, 47, 48, 49, 50, 51, 52, 53, 54, 55, 56, 57, 58] rfl (by decide +kernel)
set_option maxRecDepth 20000 in
theorem gX9_numberHere_X9_errs : GoodIn wsX9_numberHere (wsV RX9 248 RX9 yX9_errs wsX9_errs) := goodIn_app (goodIn_of _ (by decide +kernel)) ggX9_numberHere_X9_errs
set_option maxRecDepth 20000 in
set_option maxRecDepth 100000 in
theorem ggX9_numberHere_X9_in : GoodIn wsX9_numberHere wsX9_in := goodIn_r _ [17] rfl (by decide +kernel)
set_option maxRecDepth 20000 in
theorem gX9_numberHere_X9_in : GoodIn wsX9_numberHere (va_wsS RX9 94 yX9_in wsX9_in) := goodIn_app (goodIn_of _ (by decide +kernel)) ggX9_numberHere_X9_in
theorem dX9_numberHere_0 : decode cX9_numberHere 0 = .ok (.aload_n 0, 1) := by decide +kernel
theorem dX9_numberHere_1 : decode cX9_numberHere 1 = .ok (.invokevirtual 203, 3) := by decide +kernel
theorem dX9_numberHere_4 : decode cX9_numberHere 4 = .ok (.ifCond .eq 16, 3) := by decide +kernel
theorem dX9_numberHere_7 : decode cX9_numberHere 7 = .ok (.aload_n 0, 1) := by decide +kernel
theorem dX9_numberHere_8 : decode cX9_numberHere 8 = .ok (.getfield 219, 3) := by decide +kernel
theorem dX9_numberHere_11 : decode cX9_numberHere 11 = .ok (.iconst 2, 1) := by decide +kernel
theorem dX9_numberHere_12 : decode cX9_numberHere 12 = .ok (.if_icmp .eq 8, 3) := by decide +kernel
theorem dX9_numberHere_15 : decode cX9_numberHere 15 = .ok (.aload_n 0, 1) := by decide +kernel
theorem dX9_numberHere_16 : decode cX9_numberHere 16 = .ok (.iconst 1, 1) := by decide +kernel
theorem dX9_numberHere_17 : decode cX9_numberHere 17 = .ok (.invokevirtual 248, 3) := by decide +kernel
theorem dX9_numberHere_20 : decode cX9_numberHere 20 = .ok (.aload_n 0, 1) := by decide +kernel
theorem dX9_numberHere_21 : decode cX9_numberHere 21 = .ok (.invokevirtual 203, 3) := by decide +kernel
theorem dX9_numberHere_24 : decode cX9_numberHere 24 = .ok (.ifCond .eq 23, 3) := by decide +kernel
theorem dX9_numberHere_27 : decode cX9_numberHere 27 = .ok (.aload_n 0, 1) := by decide +kernel
theorem dX9_numberHere_28 : decode cX9_numberHere 28 = .ok (.getfield 230, 3) := by decide +kernel
theorem dX9_numberHere_31 : decode cX9_numberHere 31 = .ok (.i2l, 1) := by decide +kernel
theorem dX9_numberHere_32 : decode cX9_numberHere 32 = .ok (.iload_n 1, 1) := by decide +kernel
theorem dX9_numberHere_33 : decode cX9_numberHere 33 = .ok (.i2l, 1) := by decide +kernel
theorem dX9_numberHere_34 : decode cX9_numberHere 34 = .ok (.iload_n 2, 1) := by decide +kernel
theorem dX9_numberHere_35 : decode cX9_numberHere 35 = .ok (.i2l, 1) := by decide +kernel
theorem dX9_numberHere_36 : decode cX9_numberHere 36 = .ok (.invokestatic 94, 3) := by decide +kernel
theorem dX9_numberHere_39 : decode cX9_numberHere 39 = .ok (.ifCond .ne 8, 3) := by decide +kernel
theorem dX9_numberHere_42 : decode cX9_numberHere 42 = .ok (.aload_n 0, 1) := by decide +kernel
theorem dX9_numberHere_43 : decode cX9_numberHere 43 = .ok (.iconst 2, 1) := by decide +kernel
theorem dX9_numberHere_44 : decode cX9_numberHere 44 = .ok (.invokevirtual 248, 3) := by decide +kernel
theorem dX9_numberHere_47 : decode cX9_numberHere 47 = .ok (.aload_n 0, 1) := by decide +kernel
theorem dX9_numberHere_48 : decode cX9_numberHere 48 = .ok (.invokevirtual 203, 3) := by decide +kernel
theorem dX9_numberHere_51 : decode cX9_numberHere 51 = .ok (.ifCond .eq 10, 3) := by decide +kernel
theorem dX9_numberHere_54 : decode cX9_numberHere 54 = .ok (.aload_n 0, 1) := by decide +kernel
theorem dX9_numberHere_55 : decode cX9_numberHere 55 = .ok (.getfield 230, 3) := by decide +kernel
theorem dX9_numberHere_58 : decode cX9_numberHere 58 = .ok (.goto 4, 3) := by decide +kernel
theorem dX9_numberHere_61 : decode cX9_numberHere 61 = .ok (.iload_n 1, 1) := by decide +kernel
theorem dX9_numberHere_62 : decode cX9_numberHere 62 = .ok (.ireturn, 1) := by decide +kernel
set_option maxRecDepth 20000 in
set_option maxRecDepth 100000 in
theorem ggX9_number_X9_numberHere : GoodIn wsX9_number wsX9_numberHere := goodIn_r _ [5, 6, 7, 8, 9, 10, 4, 11, 12, 13, 14, 15, 16, 17, 18, 19, 20, 21, 45, 46, 47, 48, 49, 50, 51, 52, 53, 54, 55, 56, 57, 58, 59, 60, 61, 62, 63, 64, 65, 66, 67, 68, 69, 70, 71, 72, 73, 74, 75, 76, 77, 78, 79, 80, 81, 82, 83, 84, 85] rfl (by decide +kernel)
set_option maxRecDepth 20000 in
theorem gX9_number_X9_numberHere : GoodIn wsX9_number (wsV RX9 251 RX9 yX9_numberHere wsX9_numberHere) := goodIn_app (goodIn_of _ (by decide +kernel)) ggX9_number_X9_numberHere
set_option maxRecDepth 20000 in
set_option maxRecDepth 100000 in
theorem ggX9_number_X9_goOn : GoodIn wsX9_number wsX9_goOn := goodIn_r _ [25, 8, 9, 10, 4, 11, 12, 26, 27, 28, 29, 30, 17, 6, 31, 32, 33, 34, 7, 35, 36, 37, 38, 39, 40, 41, 42, 43, 44, 19, 20, 21, 45, 46, 47, 48, 49, 50, 51, 52, 53, 54, 55, 56, 57, 58, 59, 60, 61, 62, 63, 64, 65, 66, 67, 68, 69, 70, 71, 72, 73, 74, 75, 76, 77, 78, 79, 80, 81, 82, 83, 84, 85] rfl (by decide +kernel)
set_option maxRecDepth 20000 in
theorem gX9_number_X9_goOn : GoodIn wsX9_number (wsV RX9 254 RX9 yX9_goOn wsX9_goOn) := goodIn_app (goodIn_of _ (by decide +kernel)) ggX9_number_X9_goOn
theorem dX9_number_0 : decode cX9_number 0 = .ok (.aload_n 0, 1) := by decide +kernel
theorem dX9_number_1 : decode cX9_number 1 = .ok (.iload_n 1, 1) := by decide +kernel
theorem dX9_number_2 : decode cX9_number 2 = .ok (.iload_n 2, 1) := by decide +kernel
theorem dX9_number_3 : decode cX9_number 3 = .ok (.invokevirtual 251, 3) := by decide +kernel
theorem dX9_number_6 : decode cX9_number 6 = .ok (.istore_n 3, 1) := by decide +kernel
theorem dX9_number_7 : decode cX9_number 7 = .ok (.aload_n 0, 1) := by decide +kernel
theorem dX9_number_8 : decode cX9_number 8 = .ok (.invokevirtual 254, 3) := by decide +kernel
theorem dX9_number_11 : decode cX9_number 11 = .ok (.iload_n 3, 1) := by decide +kernel
theorem dX9_number_12 : decode cX9_number 12 = .ok (.ireturn, 1) := by decide +kernel
set_option maxRecDepth 20000 in
set_option maxRecDepth 100000 in
theorem ggX9_takeWord_X9_isWord : GoodIn wsX9_takeWord wsX9_isWord := goodIn_r _ [5, 6, 7, 8, 9, 10, 11, 12, 4, 13, 14, 15, 16, 17, 18, 19, 20, 21, 22, 23, 24, 25, 26, 27, 28, 29, 30, 31, 32, 33, 34, 35, 36, 37, 38, 39, 40, 41, 42, 43, 44, 45, 46, 47, 48, 49, 50, 51, 52, 53, 54, 55, 56, 57, 58, 59, 60, 61, 62, 63, 94, 95, 96, 97, 98, 99, 100, 101, 102, 103, 104, 105, 106, 107, 108, 109, 110, 111, 112, 113, 114, 115, 116, 117, 118, 119, 120, 121, 122, 123, 124, 125, 126, 127, 128, 129, 130, 131, 132, 133, 134] rfl (by decide +kernel)
set_option maxRecDepth 20000 in
theorem gX9_takeWord_X9_isWord : GoodIn wsX9_takeWord (wsV RX9 257 RX9 yX9_isWord wsX9_isWord) := goodIn_app (goodIn_of _ (by decide +kernel)) ggX9_takeWord_X9_isWord
set_option maxRecDepth 20000 in
set_option maxRecDepth 100000 in
theorem ggX9_takeWord_X9_errs : GoodIn wsX9_takeWord wsX9_errs := goodIn_r _ [67, 14, 8, 68, 10, 11, 12, 4, 13, 94, 95, 96, 97, 98, 99, 100, 101, 102, 103, 104, 105, 106, 107, 108, 109, 110, 111, 112, 113, 114, 115, 116, 117, 118, 119, 120, 121, 122, 123, 124, 125, 126, 127, 128, 129, 130, 131, 132, 133, 134] rfl (by decide +kernel)
set_option maxRecDepth 20000 in
theorem gX9_takeWord_X9_errs : GoodIn wsX9_takeWord (wsV RX9 248 RX9 yX9_errs wsX9_errs) := goodIn_app (goodIn_of _ (by decide +kernel)) ggX9_takeWord_X9_errs
set_option maxRecDepth 20000 in
set_option maxRecDepth 100000 in
theorem ggX9_takeWord_X9_goOn : GoodIn wsX9_takeWord wsX9_goOn := goodIn_r _ [72, 10, 11, 12, 4, 13, 14, 73, 74, 75, 76, 7, 8, 6, 77, 78, 79, 80, 81, 82, 83, 84, 85, 86, 87, 88, 89, 90, 9, 91, 92, 93, 94, 95, 96, 97, 98, 99, 100, 101, 102, 103, 104, 105, 106, 107, 108, 109, 110, 111, 112, 113, 114, 115, 116, 117, 118, 119, 120, 121, 122, 123, 124, 125, 126, 127, 128, 129, 130, 131, 132, 133, 134] rfl (by decide +kernel)
set_option maxRecDepth 20000 in
theorem gX9_takeWord_X9_goOn : GoodIn wsX9_takeWord (wsV RX9 254 RX9 yX9_goOn wsX9_goOn) := goodIn_app (goodIn_of _ (by decide +kernel)) ggX9_takeWord_X9_goOn
theorem dX9_takeWord_0 : decode cX9_takeWord 0 = .ok (.aload_n 0, 1) := by decide +kernel
theorem dX9_takeWord_1 : decode cX9_takeWord 1 = .ok (.aload_n 1, 1) := by decide +kernel
theorem dX9_takeWord_2 : decode cX9_takeWord 2 = .ok (.invokevirtual 257, 3) := by decide +kernel
theorem dX9_takeWord_5 : decode cX9_takeWord 5 = .ok (.ifCond .ne 8, 3) := by decide +kernel
theorem dX9_takeWord_8 : decode cX9_takeWord 8 = .ok (.aload_n 0, 1) := by decide +kernel
theorem dX9_takeWord_9 : decode cX9_takeWord 9 = .ok (.iconst 1, 1) := by decide +kernel
theorem dX9_takeWord_10 : decode cX9_takeWord 10 = .ok (.invokevirtual 248, 3) := by decide +kernel
theorem dX9_takeWord_13 : decode cX9_takeWord 13 = .ok (.aload_n 0, 1) := by decide +kernel
theorem dX9_takeWord_14 : decode cX9_takeWord 14 = .ok (.invokevirtual 254, 3) := by decide +kernel
theorem dX9_takeWord_17 : decode cX9_takeWord 17 = .ok (.return_, 1) := by decide +kernel
set_option maxRecDepth 20000 in
set_option maxRecDepth 100000 in
theorem ggX9_semicolon_X9_good : GoodIn wsX9_semicolon wsX9_good := goodIn_r _ [7, 8, 41, 42, 43, 44, 45, 46, 47, 48, 49, 50, 51, 52, 53, 54, 55, 56, 57, 58, 59, 60, 61, 62, 63, 64, 65, 66, 67, 68, 69, 70, 71, 72, 73, 74, 75, 76, 77, 78, 79, 80, 81] rfl (by decide +kernel)
set_option maxRecDepth 20000 in
theorem gX9_semicolon_X9_good : GoodIn wsX9_semicolon (wsV RX9 203 RX9 yX9_good wsX9_good) := goodIn_app (goodIn_of _ (by decide +kernel)) ggX9_semicolon_X9_good
set_option maxRecDepth 20000 in
set_option maxRecDepth 100000 in
theorem ggX9_semicolon_X9_errs : GoodIn wsX9_semicolon wsX9_errs := goodIn_r _ [12, 8, 13, 14, 3, 4, 5, 6, 7, 41, 42, 43, 44, 45, 46, 47, 48, 49, 50, 51, 52, 53, 54, 55, 56, 57, 58, 59, 60, 61, 62, 63, 64, 65, 66, 67, 68, 69, 70, 71, 72, 73, 74, 75, 76, 77, 78, 79, 80, 81] rfl (by decide +kernel)
set_option maxRecDepth 20000 in
theorem gX9_semicolon_X9_errs : GoodIn wsX9_semicolon (wsV RX9 248 RX9 yX9_errs wsX9_errs) := goodIn_app (goodIn_of _ (by decide +kernel)) ggX9_semicolon_X9_errs
set_option maxRecDepth 20000 in
set_option maxRecDepth 100000 in
theorem ggX9_semicolon_X9_goOn : GoodIn wsX9_semicolon wsX9_goOn := goodIn_r _ [18, 3, 4, 5, 6, 7, 8, 19, 20, 21, 22, 23, 13, 1, 24, 25, 26, 27, 2, 28, 29, 30, 31, 32, 33, 34, 35, 36, 37, 38, 39, 40, 41, 42, 43, 44, 45, 46, 47, 48, 49, 50, 51, 52, 53, 54, 55, 56, 57, 58, 59, 60, 61, 62, 63, 64, 65, 66, 67, 68, 69, 70, 71, 72, 73, 74, 75, 76, 77, 78, 79, 80, 81] rfl (by decide +kernel)
set_option maxRecDepth 20000 in
theorem gX9_semicolon_X9_goOn : GoodIn wsX9_semicolon (wsV RX9 254 RX9 yX9_goOn wsX9_goOn) := goodIn_app (goodIn_of _ (by decide +kernel)) ggX9_semicolon_X9_goOn
theorem dX9_semicolon_0 : decode cX9_semicolon 0 = .ok (.aload_n 0, 1) := by decide +kernel
theorem dX9_semicolon_1 : decode cX9_semicolon 1 = .ok (.invokevirtual 203, 3) := by decide +kernel
theorem dX9_semicolon_4 : decode cX9_semicolon 4 = .ok (.ifCond .eq 20, 3) := by decide +kernel
theorem dX9_semicolon_7 : decode cX9_semicolon 7 = .ok (.aload_n 0, 1) := by decide +kernel
theorem dX9_semicolon_8 : decode cX9_semicolon 8 = .ok (.getfield 219, 3) := by decide +kernel
theorem dX9_semicolon_11 : decode cX9_semicolon 11 = .ok (.iconst 3, 1) := by decide +kernel
theorem dX9_semicolon_12 : decode cX9_semicolon 12 = .ok (.if_icmp .ne 12, 3) := by decide +kernel
theorem dX9_semicolon_15 : decode cX9_semicolon 15 = .ok (.aload_n 0, 1) := by decide +kernel
theorem dX9_semicolon_16 : decode cX9_semicolon 16 = .ok (.getfield 230, 3) := by decide +kernel
theorem dX9_semicolon_19 : decode cX9_semicolon 19 = .ok (.bipush 59, 2) := by decide +kernel
theorem dX9_semicolon_21 : decode cX9_semicolon 21 = .ok (.if_icmp .eq 8, 3) := by decide +kernel
theorem dX9_semicolon_24 : decode cX9_semicolon 24 = .ok (.aload_n 0, 1) := by decide +kernel
theorem dX9_semicolon_25 : decode cX9_semicolon 25 = .ok (.iconst 1, 1) := by decide +kernel
theorem dX9_semicolon_26 : decode cX9_semicolon 26 = .ok (.invokevirtual 248, 3) := by decide +kernel
theorem dX9_semicolon_29 : decode cX9_semicolon 29 = .ok (.aload_n 0, 1) := by decide +kernel
theorem dX9_semicolon_30 : decode cX9_semicolon 30 = .ok (.invokevirtual 254, 3) := by decide +kernel
theorem dX9_semicolon_33 : decode cX9_semicolon 33 = .ok (.return_, 1) := by decide +kernel
set_option maxRecDepth 20000 in
set_option maxRecDepth 100000 in
theorem ggX9_errsIf_X9_good : GoodIn wsX9_errsIf wsX9_good := goodIn_r _ [5, 6, 13, 14, 15, 16, 17, 18, 19, 20, 21, 22, 23, 24, 25, 26, 27, 28, 29, 30, 31, 32, 33, 34, 35, 36, 37, 38, 39, 40, 41, 42, 43, 44, 45, 46, 47, 48, 49, 50, 51, 52, 53] rfl (by decide +kernel)
set_option maxRecDepth 20000 in
theorem gX9_errsIf_X9_good : GoodIn wsX9_errsIf (wsV RX9 203 RX9 yX9_good wsX9_good) := goodIn_app (goodIn_of _ (by decide +kernel)) ggX9_errsIf_X9_good
set_option maxRecDepth 20000 in
set_option maxRecDepth 100000 in
theorem ggX9_errsIf_X9_errs : GoodIn wsX9_errsIf wsX9_errs := goodIn_r _ [10, 6, 11, 12, 1, 2, 3, 4, 5, 13, 14, 15, 16, 17, 18, 19, 20, 21, 22, 23, 24, 25, 26, 27, 28, 29, 30, 31, 32, 33, 34, 35, 36, 37, 38, 39, 40, 41, 42, 43, 44, 45, 46, 47, 48, 49, 50, 51, 52, 53] rfl (by decide +kernel)
set_option maxRecDepth 20000 in
theorem gX9_errsIf_X9_errs : GoodIn wsX9_errsIf (wsV RX9 248 RX9 yX9_errs wsX9_errs) := goodIn_app (goodIn_of _ (by decide +kernel)) ggX9_errsIf_X9_errs
theorem dX9_errsIf_0 : decode cX9_errsIf 0 = .ok (.aload_n 0, 1) := by decide +kernel
theorem dX9_errsIf_1 : decode cX9_errsIf 1 = .ok (.invokevirtual 203, 3) := by decide +kernel
theorem dX9_errsIf_4 : decode cX9_errsIf 4 = .ok (.ifCond .eq 12, 3) := by decide +kernel
theorem dX9_errsIf_7 : decode cX9_errsIf 7 = .ok (.iload_n 1, 1) := by decide +kernel
theorem dX9_errsIf_8 : decode cX9_errsIf 8 = .ok (.ifCond .eq 8, 3) := by decide +kernel
theorem dX9_errsIf_11 : decode cX9_errsIf 11 = .ok (.aload_n 0, 1) := by decide +kernel
theorem dX9_errsIf_12 : decode cX9_errsIf 12 = .ok (.iload_n 2, 1) := by decide +kernel
theorem dX9_errsIf_13 : decode cX9_errsIf 13 = .ok (.invokevirtual 248, 3) := by decide +kernel
theorem dX9_errsIf_16 : decode cX9_errsIf 16 = .ok (.return_, 1) := by decide +kernel
set_option maxRecDepth 20000 in
set_option maxRecDepth 100000 in
theorem ggX9_numberAfter_X9_takeWord : GoodIn wsX9_numberAfter wsX9_takeWord := goodIn_r _ [5, 6, 7, 8, 4, 9, 10, 11, 12, 13, 14, 15, 16, 17, 18, 19, 20, 21, 22, 23, 24, 25, 26, 27, 28, 29, 30, 31, 32, 33, 34, 35, 36, 37, 38, 39, 40, 41, 42, 43, 44, 45, 46, 47, 48, 49, 50, 51, 52, 53, 54, 55, 56, 57, 58, 59, 60, 61, 62, 63, 64, 65, 66, 67, 68, 69, 70, 71, 72, 73, 74, 75, 76, 77, 78, 79, 80, 81, 82, 83, 84, 85, 86, 87, 88, 89, 90, 91, 92, 93, 94, 95, 96, 97, 106, 107, 108, 109, 110, 111, 112, 113, 114, 115, 116, 117, 118, 119, 120, 121, 122, 123, 124, 125, 126, 127, 128, 129, 130, 131, 132, 133, 134, 135, 136, 137, 138, 139, 140, 141, 142, 143, 144, 145, 146] rfl (by decide +kernel)
set_option maxRecDepth 20000 in
theorem gX9_numberAfter_X9_takeWord : GoodIn wsX9_numberAfter (wsV RX9 261 RX9 yX9_takeWord wsX9_takeWord) := goodIn_app (goodIn_of _ (by decide +kernel)) ggX9_numberAfter_X9_takeWord
set_option maxRecDepth 20000 in
set_option maxRecDepth 100000 in
theorem ggX9_numberAfter_X9_number : GoodIn wsX9_numberAfter wsX9_number := goodIn_r _ [101, 102, 103, 104, 4, 105, 10, 85, 14, 15, 16, 17, 18, 68, 69, 70, 71, 12, 72, 95, 96, 97, 73, 74, 75, 76, 77, 78, 79, 80, 11, 81, 82, 83, 84, 86, 87, 88, 89, 90, 91, 92, 93, 94, 13, 106, 107, 108, 109, 110, 111, 112, 113, 114, 115, 116, 117, 118, 119, 120, 121, 122, 123, 124, 125, 126, 127, 128, 129, 130, 131, 132, 133, 134, 135, 136, 137, 138, 139, 140, 141, 142, 143, 144, 145, 146] rfl (by decide +kernel)
set_option maxRecDepth 20000 in
theorem gX9_numberAfter_X9_number : GoodIn wsX9_numberAfter (wsV RX9 265 RX9 yX9_number wsX9_number) := goodIn_app (goodIn_of _ (by decide +kernel)) ggX9_numberAfter_X9_number
theorem dX9_numberAfter_0 : decode cX9_numberAfter 0 = .ok (.aload_n 0, 1) := by decide +kernel
theorem dX9_numberAfter_1 : decode cX9_numberAfter 1 = .ok (.aload_n 1, 1) := by decide +kernel
theorem dX9_numberAfter_2 : decode cX9_numberAfter 2 = .ok (.invokevirtual 261, 3) := by decide +kernel
theorem dX9_numberAfter_5 : decode cX9_numberAfter 5 = .ok (.aload_n 0, 1) := by decide +kernel
theorem dX9_numberAfter_6 : decode cX9_numberAfter 6 = .ok (.iload_n 2, 1) := by decide +kernel
theorem dX9_numberAfter_7 : decode cX9_numberAfter 7 = .ok (.iload_n 3, 1) := by decide +kernel
theorem dX9_numberAfter_8 : decode cX9_numberAfter 8 = .ok (.invokevirtual 265, 3) := by decide +kernel
theorem dX9_numberAfter_11 : decode cX9_numberAfter 11 = .ok (.ireturn, 1) := by decide +kernel
set_option maxRecDepth 20000 in
set_option maxRecDepth 100000 in
theorem ggX9_parseLayer_X9_layers : GoodIn wsX9_parseLayer wsX9_layers := goodIn_r _ [5, 6, 131, 132, 133, 134, 135, 136, 137, 138, 139, 140, 141, 142, 143, 144, 145, 146, 147, 148, 149, 150, 151, 152, 153, 154, 155, 156, 157, 158, 159, 160, 161, 162, 163, 164, 165, 166, 167, 168, 169, 170, 171] rfl (by decide +kernel)
set_option maxRecDepth 20000 in
theorem gX9_parseLayer_X9_layers : GoodIn wsX9_parseLayer (wsV RX9 90 RX9 yX9_layers wsX9_layers) := goodIn_app (goodIn_of _ (by decide +kernel)) ggX9_parseLayer_X9_layers
set_option maxRecDepth 20000 in
set_option maxRecDepth 100000 in
theorem ggX9_parseLayer_X9_errsIf : GoodIn wsX9_parseLayer wsX9_errsIf := goodIn_r _ [10, 11, 12, 13, 4, 14, 15, 16, 17, 18, 19, 20, 21, 131, 132, 133, 134, 135, 136, 137, 138, 139, 140, 141, 142, 143, 144, 145, 146, 147, 148, 149, 150, 151, 152, 153, 154, 155, 156, 157, 158, 159, 160, 161, 162, 163, 164, 165, 166, 167, 168, 169, 170, 171] rfl (by decide +kernel)
set_option maxRecDepth 20000 in
theorem gX9_parseLayer_X9_errsIf : GoodIn wsX9_parseLayer (wsV RX9 268 RX9 yX9_errsIf wsX9_errsIf) := goodIn_app (goodIn_of _ (by decide +kernel)) ggX9_parseLayer_X9_errsIf
set_option maxRecDepth 20000 in
set_option maxRecDepth 100000 in
theorem ggX9_parseLayer_X9_goOn : GoodIn wsX9_parseLayer wsX9_goOn := goodIn_r _ [25, 11, 12, 13, 4, 14, 15, 26, 27, 28, 29, 30, 20, 31, 32, 33, 34, 35, 36, 37, 38, 39, 40, 41, 42, 43, 44, 45, 46, 47, 48, 49, 131, 132, 133, 134, 135, 136, 137, 138, 139, 140, 141, 142, 143, 144, 145, 146, 147, 148, 149, 150, 151, 152, 153, 154, 155, 156, 157, 158, 159, 160, 161, 162, 163, 164, 165, 166, 167, 168, 169, 170, 171] rfl (by decide +kernel)
set_option maxRecDepth 20000 in
theorem gX9_parseLayer_X9_goOn : GoodIn wsX9_parseLayer (wsV RX9 254 RX9 yX9_goOn wsX9_goOn) := goodIn_app (goodIn_of _ (by decide +kernel)) ggX9_parseLayer_X9_goOn
set_option maxRecDepth 20000 in
set_option maxRecDepth 100000 in
theorem ggX9_parseLayer_X9_number : GoodIn wsX9_parseLayer wsX9_number := goodIn_r _ [53, 54, 55, 56, 4, 57, 31, 36, 11, 12, 13, 14, 15, 16, 17, 18, 19, 20, 21, 47, 48, 49, 22, 23, 24, 25, 26, 27, 28, 29, 30, 32, 33, 34, 35, 37, 38, 39, 40, 41, 42, 43, 44, 45, 46, 131, 132, 133, 134, 135, 136, 137, 138, 139, 140, 141, 142, 143, 144, 145, 146, 147, 148, 149, 150, 151, 152, 153, 154, 155, 156, 157, 158, 159, 160, 161, 162, 163, 164, 165, 166, 167, 168, 169, 170, 171] rfl (by decide +kernel)
set_option maxRecDepth 20000 in
theorem gX9_parseLayer_X9_number : GoodIn wsX9_parseLayer (wsV RX9 265 RX9 yX9_number wsX9_number) := goodIn_app (goodIn_of _ (by decide +kernel)) ggX9_parseLayer_X9_number
set_option maxRecDepth 20000 in
set_option maxRecDepth 100000 in
theorem ggX9_parseLayer_X9_numberAfter : GoodIn wsX9_parseLayer wsX9_numberAfter := goodIn_r _ [61, 62, 63, 64, 4, 65, 66, 67, 68, 69, 31, 30, 20, 46, 11, 12, 13, 14, 15, 70, 71, 72, 73, 74, 75, 76, 77, 78, 79, 80, 81, 82, 83, 84, 85, 86, 87, 88, 89, 90, 91, 92, 93, 94, 95, 96, 97, 98, 99, 100, 101, 102, 103, 104, 105, 106, 107, 108, 109, 110, 111, 112, 113, 114, 115, 116, 117, 118, 16, 17, 18, 19, 21, 22, 23, 24, 25, 26, 27, 28, 29, 32, 33, 34, 35, 36, 37, 38, 39, 40, 41, 42, 43, 44, 45, 47, 48, 49, 50, 51, 52, 53, 54, 55, 56, 57, 131, 132, 133, 134, 135, 136, 137, 138, 139, 140, 141, 142, 143, 144, 145, 146, 147, 148, 149, 150, 151, 152, 153, 154, 155, 156, 157, 158, 159, 160, 161, 162, 163, 164, 165, 166, 167, 168, 169, 170, 171] rfl (by decide +kernel)
set_option maxRecDepth 20000 in
theorem gX9_parseLayer_X9_numberAfter : GoodIn wsX9_parseLayer (wsV RX9 274 RX9 yX9_numberAfter wsX9_numberAfter) := goodIn_app (goodIn_of _ (by decide +kernel)) ggX9_parseLayer_X9_numberAfter
set_option maxRecDepth 20000 in
set_option maxRecDepth 100000 in
theorem ggX9_parseLayer_X9_isWord : GoodIn wsX9_parseLayer wsX9_isWord := goodIn_r _ [69, 31, 30, 20, 46, 11, 12, 13, 4, 14, 15, 70, 71, 72, 73, 74, 75, 76, 77, 78, 79, 80, 81, 82, 83, 84, 85, 86, 87, 88, 89, 90, 91, 92, 93, 94, 95, 96, 97, 98, 99, 100, 101, 102, 103, 104, 105, 106, 107, 108, 109, 110, 111, 112, 113, 114, 115, 116, 117, 118, 131, 132, 133, 134, 135, 136, 137, 138, 139, 140, 141, 142, 143, 144, 145, 146, 147, 148, 149, 150, 151, 152, 153, 154, 155, 156, 157, 158, 159, 160, 161, 162, 163, 164, 165, 166, 167, 168, 169, 170, 171] rfl (by decide +kernel)
set_option maxRecDepth 20000 in
theorem gX9_parseLayer_X9_isWord : GoodIn wsX9_parseLayer (wsV RX9 257 RX9 yX9_isWord wsX9_isWord) := goodIn_app (goodIn_of _ (by decide +kernel)) ggX9_parseLayer_X9_isWord
set_option maxRecDepth 20000 in
set_option maxRecDepth 100000 in
theorem ggX9_parseLayer_X9_semicolon : GoodIn wsX9_parseLayer wsX9_semicolon := goodIn_r _ [122, 31, 36, 11, 12, 13, 4, 14, 15, 16, 17, 18, 19, 20, 21, 22, 23, 24, 25, 26, 27, 28, 29, 30, 32, 33, 34, 35, 37, 38, 39, 40, 41, 42, 43, 44, 45, 46, 47, 48, 49, 131, 132, 133, 134, 135, 136, 137, 138, 139, 140, 141, 142, 143, 144, 145, 146, 147, 148, 149, 150, 151, 152, 153, 154, 155, 156, 157, 158, 159, 160, 161, 162, 163, 164, 165, 166, 167, 168, 169, 170, 171] rfl (by decide +kernel)
set_option maxRecDepth 20000 in
theorem gX9_parseLayer_X9_semicolon : GoodIn wsX9_parseLayer (wsV RX9 280 RX9 yX9_semicolon wsX9_semicolon) := goodIn_app (goodIn_of _ (by decide +kernel)) ggX9_parseLayer_X9_semicolon
set_option maxRecDepth 20000 in
set_option maxRecDepth 100000 in
theorem ggX9_parseLayer_X9_good : GoodIn wsX9_parseLayer wsX9_good := goodIn_r _ [14, 15, 131, 132, 133, 134, 135, 136, 137, 138, 139, 140, 141, 142, 143, 144, 145, 146, 147, 148, 149, 150, 151, 152, 153, 154, 155, 156, 157, 158, 159, 160, 161, 162, 163, 164, 165, 166, 167, 168, 169, 170, 171] rfl (by decide +kernel)
set_option maxRecDepth 20000 in
theorem gX9_parseLayer_X9_good : GoodIn wsX9_parseLayer (wsV RX9 203 RX9 yX9_good wsX9_good) := goodIn_app (goodIn_of _ (by decide +kernel)) ggX9_parseLayer_X9_good
set_option maxRecDepth 20000 in
set_option maxRecDepth 100000 in
theorem ggX9_parseLayer_X9_addOne : GoodIn wsX9_parseLayer wsX9_addOne := goodIn_r _ [126, 6, 1, 2, 3, 4, 5, 127, 128, 129, 130, 131, 132, 133, 134, 135, 136, 137, 138, 139, 140, 141, 142, 143, 144, 145, 146, 147, 148, 149, 150, 151, 152, 153, 154, 155, 156, 157, 158, 159, 160, 161, 162, 163, 164, 165, 166, 167, 168, 169, 170, 171] rfl (by decide +kernel)
set_option maxRecDepth 20000 in
theorem gX9_parseLayer_X9_addOne : GoodIn wsX9_parseLayer (wsV RX9 86 RX9 yX9_addOne wsX9_addOne) := goodIn_app (goodIn_of _ (by decide +kernel)) ggX9_parseLayer_X9_addOne
theorem dX9_parseLayer_0 : decode cX9_parseLayer 0 = .ok (.aload_n 0, 1) := by decide +kernel
theorem dX9_parseLayer_1 : decode cX9_parseLayer 1 = .ok (.aload_n 0, 1) := by decide +kernel
theorem dX9_parseLayer_2 : decode cX9_parseLayer 2 = .ok (.invokevirtual 90, 3) := by decide +kernel
theorem dX9_parseLayer_5 : decode cX9_parseLayer 5 = .ok (.bipush 10, 2) := by decide +kernel
theorem dX9_parseLayer_7 : decode cX9_parseLayer 7 = .ok (.if_icmp .ne 7, 3) := by decide +kernel
theorem dX9_parseLayer_10 : decode cX9_parseLayer 10 = .ok (.iconst 1, 1) := by decide +kernel
theorem dX9_parseLayer_11 : decode cX9_parseLayer 11 = .ok (.goto 4, 3) := by decide +kernel
theorem dX9_parseLayer_14 : decode cX9_parseLayer 14 = .ok (.iconst 0, 1) := by decide +kernel
theorem dX9_parseLayer_15 : decode cX9_parseLayer 15 = .ok (.bipush 6, 2) := by decide +kernel
theorem dX9_parseLayer_17 : decode cX9_parseLayer 17 = .ok (.invokevirtual 268, 3) := by decide +kernel
theorem dX9_parseLayer_20 : decode cX9_parseLayer 20 = .ok (.aload_n 0, 1) := by decide +kernel
theorem dX9_parseLayer_21 : decode cX9_parseLayer 21 = .ok (.invokevirtual 254, 3) := by decide +kernel
theorem dX9_parseLayer_24 : decode cX9_parseLayer 24 = .ok (.aload_n 0, 1) := by decide +kernel
theorem dX9_parseLayer_25 : decode cX9_parseLayer 25 = .ok (.sipush 1000, 3) := by decide +kernel
theorem dX9_parseLayer_28 : decode cX9_parseLayer 28 = .ok (.sipush 4000, 3) := by decide +kernel
theorem dX9_parseLayer_31 : decode cX9_parseLayer 31 = .ok (.invokevirtual 265, 3) := by decide +kernel
theorem dX9_parseLayer_34 : decode cX9_parseLayer 34 = .ok (.istore_n 1, 1) := by decide +kernel
theorem dX9_parseLayer_35 : decode cX9_parseLayer 35 = .ok (.aload_n 0, 1) := by decide +kernel
theorem dX9_parseLayer_36 : decode cX9_parseLayer 36 = .ok (.ldc_w 272, 3) := by decide +kernel
theorem dX9_parseLayer_39 : decode cX9_parseLayer 39 = .ok (.iconst 1, 1) := by decide +kernel
theorem dX9_parseLayer_40 : decode cX9_parseLayer 40 = .ok (.sipush 999, 3) := by decide +kernel
theorem dX9_parseLayer_43 : decode cX9_parseLayer 43 = .ok (.invokevirtual 274, 3) := by decide +kernel
theorem dX9_parseLayer_46 : decode cX9_parseLayer 46 = .ok (.istore_n 2, 1) := by decide +kernel
theorem dX9_parseLayer_47 : decode cX9_parseLayer 47 = .ok (.aload_n 0, 1) := by decide +kernel
theorem dX9_parseLayer_48 : decode cX9_parseLayer 48 = .ok (.ldc_w 278, 3) := by decide +kernel
theorem dX9_parseLayer_51 : decode cX9_parseLayer 51 = .ok (.invokevirtual 257, 3) := by decide +kernel
theorem dX9_parseLayer_54 : decode cX9_parseLayer 54 = .ok (.ifCond .eq 16, 3) := by decide +kernel
theorem dX9_parseLayer_57 : decode cX9_parseLayer 57 = .ok (.aload_n 0, 1) := by decide +kernel
theorem dX9_parseLayer_58 : decode cX9_parseLayer 58 = .ok (.ldc_w 278, 3) := by decide +kernel
theorem dX9_parseLayer_61 : decode cX9_parseLayer 61 = .ok (.iconst 0, 1) := by decide +kernel
theorem dX9_parseLayer_62 : decode cX9_parseLayer 62 = .ok (.bipush 99, 2) := by decide +kernel
theorem dX9_parseLayer_64 : decode cX9_parseLayer 64 = .ok (.invokevirtual 274, 3) := by decide +kernel
theorem dX9_parseLayer_67 : decode cX9_parseLayer 67 = .ok (.goto 4, 3) := by decide +kernel
theorem dX9_parseLayer_70 : decode cX9_parseLayer 70 = .ok (.iconst 0, 1) := by decide +kernel
theorem dX9_parseLayer_71 : decode cX9_parseLayer 71 = .ok (.istore_n 3, 1) := by decide +kernel
theorem dX9_parseLayer_72 : decode cX9_parseLayer 72 = .ok (.aload_n 0, 1) := by decide +kernel
theorem dX9_parseLayer_73 : decode cX9_parseLayer 73 = .ok (.invokevirtual 280, 3) := by decide +kernel
theorem dX9_parseLayer_76 : decode cX9_parseLayer 76 = .ok (.aload_n 0, 1) := by decide +kernel
theorem dX9_parseLayer_77 : decode cX9_parseLayer 77 = .ok (.invokevirtual 203, 3) := by decide +kernel
theorem dX9_parseLayer_80 : decode cX9_parseLayer 80 = .ok (.ifCond .eq 14, 3) := by decide +kernel
theorem dX9_parseLayer_83 : decode cX9_parseLayer 83 = .ok (.aload_n 0, 1) := by decide +kernel
theorem dX9_parseLayer_84 : decode cX9_parseLayer 84 = .ok (.aload_n 0, 1) := by decide +kernel
theorem dX9_parseLayer_85 : decode cX9_parseLayer 85 = .ok (.invokevirtual 90, 3) := by decide +kernel
theorem dX9_parseLayer_88 : decode cX9_parseLayer 88 = .ok (.iload_n 1, 1) := by decide +kernel
theorem dX9_parseLayer_89 : decode cX9_parseLayer 89 = .ok (.iload_n 2, 1) := by decide +kernel
theorem dX9_parseLayer_90 : decode cX9_parseLayer 90 = .ok (.iload_n 3, 1) := by decide +kernel
theorem dX9_parseLayer_91 : decode cX9_parseLayer 91 = .ok (.invokevirtual 86, 3) := by decide +kernel
theorem dX9_parseLayer_94 : decode cX9_parseLayer 94 = .ok (.return_, 1) := by decide +kernel
set_option maxRecDepth 20000 in
set_option maxRecDepth 100000 in
theorem ggX9_parseOutside_X9_errsIf : GoodIn wsX9_parseOutside wsX9_errsIf := goodIn_r _ [7, 8, 9, 10, 6, 11, 12, 13, 14, 15, 16, 17, 18, 59, 60, 61, 62, 63, 64, 65, 66, 67, 68, 69, 70, 71, 72, 73, 74, 75, 76, 77, 78, 79, 80, 81, 82, 83, 84, 85, 86, 87, 88, 89, 90, 91, 92, 93, 94, 95, 96, 97, 98, 99] rfl (by decide +kernel)
set_option maxRecDepth 20000 in
theorem gX9_parseOutside_X9_errsIf : GoodIn wsX9_parseOutside (wsV RX9 268 RX9 yX9_errsIf wsX9_errsIf) := goodIn_app (goodIn_of _ (by decide +kernel)) ggX9_parseOutside_X9_errsIf
set_option maxRecDepth 20000 in
set_option maxRecDepth 100000 in
theorem ggX9_parseOutside_X9_goOn : GoodIn wsX9_parseOutside wsX9_goOn := goodIn_r _ [22, 8, 9, 10, 6, 11, 12, 23, 24, 25, 26, 27, 17, 28, 29, 30, 31, 32, 33, 34, 35, 36, 37, 38, 39, 40, 41, 42, 43, 44, 45, 46, 59, 60, 61, 62, 63, 64, 65, 66, 67, 68, 69, 70, 71, 72, 73, 74, 75, 76, 77, 78, 79, 80, 81, 82, 83, 84, 85, 86, 87, 88, 89, 90, 91, 92, 93, 94, 95, 96, 97, 98, 99] rfl (by decide +kernel)
set_option maxRecDepth 20000 in
theorem gX9_parseOutside_X9_goOn : GoodIn wsX9_parseOutside (wsV RX9 254 RX9 yX9_goOn wsX9_goOn) := goodIn_app (goodIn_of _ (by decide +kernel)) ggX9_parseOutside_X9_goOn
set_option maxRecDepth 20000 in
set_option maxRecDepth 100000 in
theorem ggX9_parseOutside_X9_number : GoodIn wsX9_parseOutside wsX9_number := goodIn_r _ [50, 51, 52, 53, 6, 54, 28, 33, 8, 9, 10, 11, 12, 13, 14, 15, 16, 17, 18, 44, 45, 46, 19, 20, 21, 22, 23, 24, 25, 26, 27, 29, 30, 31, 32, 34, 35, 36, 37, 38, 39, 40, 41, 42, 43, 59, 60, 61, 62, 63, 64, 65, 66, 67, 68, 69, 70, 71, 72, 73, 74, 75, 76, 77, 78, 79, 80, 81, 82, 83, 84, 85, 86, 87, 88, 89, 90, 91, 92, 93, 94, 95, 96, 97, 98, 99] rfl (by decide +kernel)
set_option maxRecDepth 20000 in
theorem gX9_parseOutside_X9_number : GoodIn wsX9_parseOutside (wsV RX9 265 RX9 yX9_number wsX9_number) := goodIn_app (goodIn_of _ (by decide +kernel)) ggX9_parseOutside_X9_number
set_option maxRecDepth 20000 in
set_option maxRecDepth 100000 in
theorem ggX9_parseOutside_X9_semicolon : GoodIn wsX9_parseOutside wsX9_semicolon := goodIn_r _ [58, 28, 33, 8, 9, 10, 6, 11, 12, 13, 14, 15, 16, 17, 18, 19, 20, 21, 22, 23, 24, 25, 26, 27, 29, 30, 31, 32, 34, 35, 36, 37, 38, 39, 40, 41, 42, 43, 44, 45, 46, 59, 60, 61, 62, 63, 64, 65, 66, 67, 68, 69, 70, 71, 72, 73, 74, 75, 76, 77, 78, 79, 80, 81, 82, 83, 84, 85, 86, 87, 88, 89, 90, 91, 92, 93, 94, 95, 96, 97, 98, 99] rfl (by decide +kernel)
set_option maxRecDepth 20000 in
theorem gX9_parseOutside_X9_semicolon : GoodIn wsX9_parseOutside (wsV RX9 280 RX9 yX9_semicolon wsX9_semicolon) := goodIn_app (goodIn_of _ (by decide +kernel)) ggX9_parseOutside_X9_semicolon
theorem dX9_parseOutside_0 : decode cX9_parseOutside 0 = .ok (.aload_n 0, 1) := by decide +kernel
theorem dX9_parseOutside_1 : decode cX9_parseOutside 1 = .ok (.aload_n 0, 1) := by decide +kernel
theorem dX9_parseOutside_2 : decode cX9_parseOutside 2 = .ok (.getfield 283, 3) := by decide +kernel
theorem dX9_parseOutside_5 : decode cX9_parseOutside 5 = .ok (.iconst 3, 1) := by decide +kernel
theorem dX9_parseOutside_6 : decode cX9_parseOutside 6 = .ok (.invokevirtual 268, 3) := by decide +kernel
theorem dX9_parseOutside_9 : decode cX9_parseOutside 9 = .ok (.aload_n 0, 1) := by decide +kernel
theorem dX9_parseOutside_10 : decode cX9_parseOutside 10 = .ok (.iconst 1, 1) := by decide +kernel
theorem dX9_parseOutside_11 : decode cX9_parseOutside 11 = .ok (.putfield 283, 3) := by decide +kernel
theorem dX9_parseOutside_14 : decode cX9_parseOutside 14 = .ok (.aload_n 0, 1) := by decide +kernel
theorem dX9_parseOutside_15 : decode cX9_parseOutside 15 = .ok (.invokevirtual 254, 3) := by decide +kernel
theorem dX9_parseOutside_18 : decode cX9_parseOutside 18 = .ok (.aload_n 0, 1) := by decide +kernel
theorem dX9_parseOutside_19 : decode cX9_parseOutside 19 = .ok (.getfield 24, 3) := by decide +kernel
theorem dX9_parseOutside_22 : decode cX9_parseOutside 22 = .ok (.iconst 1, 1) := by decide +kernel
theorem dX9_parseOutside_23 : decode cX9_parseOutside 23 = .ok (.aload_n 0, 1) := by decide +kernel
theorem dX9_parseOutside_24 : decode cX9_parseOutside 24 = .ok (.sipush 1000, 3) := by decide +kernel
theorem dX9_parseOutside_27 : decode cX9_parseOutside 27 = .ok (.sipush 4000, 3) := by decide +kernel
theorem dX9_parseOutside_30 : decode cX9_parseOutside 30 = .ok (.invokevirtual 265, 3) := by decide +kernel
theorem dX9_parseOutside_33 : decode cX9_parseOutside 33 = .ok (.iastore, 1) := by decide +kernel
theorem dX9_parseOutside_34 : decode cX9_parseOutside 34 = .ok (.aload_n 0, 1) := by decide +kernel
theorem dX9_parseOutside_35 : decode cX9_parseOutside 35 = .ok (.invokevirtual 280, 3) := by decide +kernel
theorem dX9_parseOutside_38 : decode cX9_parseOutside 38 = .ok (.return_, 1) := by decide +kernel
set_option maxRecDepth 20000 in
set_option maxRecDepth 100000 in
theorem ggX9_parseBottom_X9_errsIf : GoodIn wsX9_parseBottom wsX9_errsIf := goodIn_r _ [7, 8, 9, 10, 6, 11, 12, 13, 14, 15, 16, 17, 18, 112, 113, 114, 115, 116, 117, 118, 119, 120, 121, 122, 123, 124, 125, 126, 127, 128, 129, 130, 131, 132, 133, 134, 135, 136, 137, 138, 139, 140, 141, 142, 143, 144, 145, 146, 147, 148, 149, 150, 151, 152] rfl (by decide +kernel)
set_option maxRecDepth 20000 in
theorem gX9_parseBottom_X9_errsIf : GoodIn wsX9_parseBottom (wsV RX9 268 RX9 yX9_errsIf wsX9_errsIf) := goodIn_app (goodIn_of _ (by decide +kernel)) ggX9_parseBottom_X9_errsIf
set_option maxRecDepth 20000 in
set_option maxRecDepth 100000 in
theorem ggX9_parseBottom_X9_goOn : GoodIn wsX9_parseBottom wsX9_goOn := goodIn_r _ [22, 8, 9, 10, 6, 11, 12, 23, 24, 25, 26, 27, 17, 28, 29, 30, 31, 32, 33, 34, 35, 36, 37, 38, 39, 40, 41, 42, 43, 44, 45, 46, 112, 113, 114, 115, 116, 117, 118, 119, 120, 121, 122, 123, 124, 125, 126, 127, 128, 129, 130, 131, 132, 133, 134, 135, 136, 137, 138, 139, 140, 141, 142, 143, 144, 145, 146, 147, 148, 149, 150, 151, 152] rfl (by decide +kernel)
set_option maxRecDepth 20000 in
theorem gX9_parseBottom_X9_goOn : GoodIn wsX9_parseBottom (wsV RX9 254 RX9 yX9_goOn wsX9_goOn) := goodIn_app (goodIn_of _ (by decide +kernel)) ggX9_parseBottom_X9_goOn
set_option maxRecDepth 20000 in
set_option maxRecDepth 100000 in
theorem ggX9_parseBottom_X9_isWord : GoodIn wsX9_parseBottom wsX9_isWord := goodIn_r _ [50, 28, 27, 17, 43, 8, 9, 10, 6, 11, 12, 51, 52, 53, 54, 55, 56, 57, 58, 59, 60, 61, 62, 63, 64, 65, 66, 67, 68, 69, 70, 71, 72, 73, 74, 75, 76, 77, 78, 79, 80, 81, 82, 83, 84, 85, 86, 87, 88, 89, 90, 91, 92, 93, 94, 95, 96, 97, 98, 99, 112, 113, 114, 115, 116, 117, 118, 119, 120, 121, 122, 123, 124, 125, 126, 127, 128, 129, 130, 131, 132, 133, 134, 135, 136, 137, 138, 139, 140, 141, 142, 143, 144, 145, 146, 147, 148, 149, 150, 151, 152] rfl (by decide +kernel)
set_option maxRecDepth 20000 in
theorem gX9_parseBottom_X9_isWord : GoodIn wsX9_parseBottom (wsV RX9 257 RX9 yX9_isWord wsX9_isWord) := goodIn_app (goodIn_of _ (by decide +kernel)) ggX9_parseBottom_X9_isWord
set_option maxRecDepth 20000 in
set_option maxRecDepth 100000 in
theorem ggX9_parseBottom_X9_number : GoodIn wsX9_parseBottom wsX9_number := goodIn_r _ [103, 104, 105, 106, 6, 107, 28, 33, 8, 9, 10, 11, 12, 13, 14, 15, 16, 17, 18, 44, 45, 46, 19, 20, 21, 22, 23, 24, 25, 26, 27, 29, 30, 31, 32, 34, 35, 36, 37, 38, 39, 40, 41, 42, 43, 112, 113, 114, 115, 116, 117, 118, 119, 120, 121, 122, 123, 124, 125, 126, 127, 128, 129, 130, 131, 132, 133, 134, 135, 136, 137, 138, 139, 140, 141, 142, 143, 144, 145, 146, 147, 148, 149, 150, 151, 152] rfl (by decide +kernel)
set_option maxRecDepth 20000 in
theorem gX9_parseBottom_X9_number : GoodIn wsX9_parseBottom (wsV RX9 265 RX9 yX9_number wsX9_number) := goodIn_app (goodIn_of _ (by decide +kernel)) ggX9_parseBottom_X9_number
set_option maxRecDepth 20000 in
set_option maxRecDepth 100000 in
theorem ggX9_parseBottom_X9_semicolon : GoodIn wsX9_parseBottom wsX9_semicolon := goodIn_r _ [111, 28, 33, 8, 9, 10, 6, 11, 12, 13, 14, 15, 16, 17, 18, 19, 20, 21, 22, 23, 24, 25, 26, 27, 29, 30, 31, 32, 34, 35, 36, 37, 38, 39, 40, 41, 42, 43, 44, 45, 46, 112, 113, 114, 115, 116, 117, 118, 119, 120, 121, 122, 123, 124, 125, 126, 127, 128, 129, 130, 131, 132, 133, 134, 135, 136, 137, 138, 139, 140, 141, 142, 143, 144, 145, 146, 147, 148, 149, 150, 151, 152] rfl (by decide +kernel)
set_option maxRecDepth 20000 in
theorem gX9_parseBottom_X9_semicolon : GoodIn wsX9_parseBottom (wsV RX9 280 RX9 yX9_semicolon wsX9_semicolon) := goodIn_app (goodIn_of _ (by decide +kernel)) ggX9_parseBottom_X9_semicolon
theorem dX9_parseBottom_0 : decode cX9_parseBottom 0 = .ok (.aload_n 0, 1) := by decide +kernel
theorem dX9_parseBottom_1 : decode cX9_parseBottom 1 = .ok (.aload_n 0, 1) := by decide +kernel
theorem dX9_parseBottom_2 : decode cX9_parseBottom 2 = .ok (.getfield 286, 3) := by decide +kernel
theorem dX9_parseBottom_5 : decode cX9_parseBottom 5 = .ok (.iconst 3, 1) := by decide +kernel
theorem dX9_parseBottom_6 : decode cX9_parseBottom 6 = .ok (.invokevirtual 268, 3) := by decide +kernel
theorem dX9_parseBottom_9 : decode cX9_parseBottom 9 = .ok (.aload_n 0, 1) := by decide +kernel
theorem dX9_parseBottom_10 : decode cX9_parseBottom 10 = .ok (.iconst 1, 1) := by decide +kernel
theorem dX9_parseBottom_11 : decode cX9_parseBottom 11 = .ok (.putfield 286, 3) := by decide +kernel
theorem dX9_parseBottom_14 : decode cX9_parseBottom 14 = .ok (.aload_n 0, 1) := by decide +kernel
theorem dX9_parseBottom_15 : decode cX9_parseBottom 15 = .ok (.invokevirtual 254, 3) := by decide +kernel
theorem dX9_parseBottom_18 : decode cX9_parseBottom 18 = .ok (.aload_n 0, 1) := by decide +kernel
theorem dX9_parseBottom_19 : decode cX9_parseBottom 19 = .ok (.ldc_w 289, 3) := by decide +kernel
theorem dX9_parseBottom_22 : decode cX9_parseBottom 22 = .ok (.invokevirtual 257, 3) := by decide +kernel
theorem dX9_parseBottom_25 : decode cX9_parseBottom 25 = .ok (.istore_n 1, 1) := by decide +kernel
theorem dX9_parseBottom_26 : decode cX9_parseBottom 26 = .ok (.aload_n 0, 1) := by decide +kernel
theorem dX9_parseBottom_27 : decode cX9_parseBottom 27 = .ok (.iload_n 1, 1) := by decide +kernel
theorem dX9_parseBottom_28 : decode cX9_parseBottom 28 = .ok (.ifCond .ne 17, 3) := by decide +kernel
theorem dX9_parseBottom_31 : decode cX9_parseBottom 31 = .ok (.aload_n 0, 1) := by decide +kernel
theorem dX9_parseBottom_32 : decode cX9_parseBottom 32 = .ok (.ldc_w 291, 3) := by decide +kernel
theorem dX9_parseBottom_35 : decode cX9_parseBottom 35 = .ok (.invokevirtual 257, 3) := by decide +kernel
theorem dX9_parseBottom_38 : decode cX9_parseBottom 38 = .ok (.ifCond .ne 7, 3) := by decide +kernel
theorem dX9_parseBottom_41 : decode cX9_parseBottom 41 = .ok (.iconst 1, 1) := by decide +kernel
theorem dX9_parseBottom_42 : decode cX9_parseBottom 42 = .ok (.goto 4, 3) := by decide +kernel
theorem dX9_parseBottom_45 : decode cX9_parseBottom 45 = .ok (.iconst 0, 1) := by decide +kernel
theorem dX9_parseBottom_46 : decode cX9_parseBottom 46 = .ok (.iconst 1, 1) := by decide +kernel
theorem dX9_parseBottom_47 : decode cX9_parseBottom 47 = .ok (.invokevirtual 268, 3) := by decide +kernel
theorem dX9_parseBottom_50 : decode cX9_parseBottom 50 = .ok (.aload_n 0, 1) := by decide +kernel
theorem dX9_parseBottom_51 : decode cX9_parseBottom 51 = .ok (.invokevirtual 254, 3) := by decide +kernel
theorem dX9_parseBottom_54 : decode cX9_parseBottom 54 = .ok (.aload_n 0, 1) := by decide +kernel
theorem dX9_parseBottom_55 : decode cX9_parseBottom 55 = .ok (.getfield 24, 3) := by decide +kernel
theorem dX9_parseBottom_58 : decode cX9_parseBottom 58 = .ok (.iconst 2, 1) := by decide +kernel
theorem dX9_parseBottom_59 : decode cX9_parseBottom 59 = .ok (.iload_n 1, 1) := by decide +kernel
theorem dX9_parseBottom_60 : decode cX9_parseBottom 60 = .ok (.ifCond .eq 7, 3) := by decide +kernel
theorem dX9_parseBottom_63 : decode cX9_parseBottom 63 = .ok (.iconst 0, 1) := by decide +kernel
theorem dX9_parseBottom_64 : decode cX9_parseBottom 64 = .ok (.goto 4, 3) := by decide +kernel
theorem dX9_parseBottom_67 : decode cX9_parseBottom 67 = .ok (.iconst 1, 1) := by decide +kernel
theorem dX9_parseBottom_68 : decode cX9_parseBottom 68 = .ok (.iastore, 1) := by decide +kernel
theorem dX9_parseBottom_69 : decode cX9_parseBottom 69 = .ok (.aload_n 0, 1) := by decide +kernel
theorem dX9_parseBottom_70 : decode cX9_parseBottom 70 = .ok (.getfield 24, 3) := by decide +kernel
theorem dX9_parseBottom_73 : decode cX9_parseBottom 73 = .ok (.iconst 3, 1) := by decide +kernel
theorem dX9_parseBottom_74 : decode cX9_parseBottom 74 = .ok (.iload_n 1, 1) := by decide +kernel
theorem dX9_parseBottom_75 : decode cX9_parseBottom 75 = .ok (.ifCond .eq 16, 3) := by decide +kernel
theorem dX9_parseBottom_78 : decode cX9_parseBottom 78 = .ok (.aload_n 0, 1) := by decide +kernel
theorem dX9_parseBottom_79 : decode cX9_parseBottom 79 = .ok (.sipush 1000, 3) := by decide +kernel
theorem dX9_parseBottom_82 : decode cX9_parseBottom 82 = .ok (.sipush 4000, 3) := by decide +kernel
theorem dX9_parseBottom_85 : decode cX9_parseBottom 85 = .ok (.invokevirtual 265, 3) := by decide +kernel
theorem dX9_parseBottom_88 : decode cX9_parseBottom 88 = .ok (.goto 10, 3) := by decide +kernel
theorem dX9_parseBottom_91 : decode cX9_parseBottom 91 = .ok (.aload_n 0, 1) := by decide +kernel
theorem dX9_parseBottom_92 : decode cX9_parseBottom 92 = .ok (.iconst 0, 1) := by decide +kernel
theorem dX9_parseBottom_93 : decode cX9_parseBottom 93 = .ok (.bipush 100, 2) := by decide +kernel
theorem dX9_parseBottom_95 : decode cX9_parseBottom 95 = .ok (.invokevirtual 265, 3) := by decide +kernel
theorem dX9_parseBottom_98 : decode cX9_parseBottom 98 = .ok (.iastore, 1) := by decide +kernel
theorem dX9_parseBottom_99 : decode cX9_parseBottom 99 = .ok (.aload_n 0, 1) := by decide +kernel
theorem dX9_parseBottom_100 : decode cX9_parseBottom 100 = .ok (.invokevirtual 280, 3) := by decide +kernel
theorem dX9_parseBottom_103 : decode cX9_parseBottom 103 = .ok (.return_, 1) := by decide +kernel
set_option maxRecDepth 20000 in
set_option maxRecDepth 100000 in
theorem ggX9_parseShot_X9_shots : GoodIn wsX9_parseShot wsX9_shots := goodIn_r _ [5, 6, 127, 128, 129, 130, 131, 132, 133, 134, 135, 136, 137, 138, 139, 140, 141, 142, 143, 144, 145, 146, 147, 148, 149, 150, 151, 152, 153, 154, 155, 156, 157, 158, 159, 160, 161, 162, 163, 164, 165, 166, 167] rfl (by decide +kernel)
set_option maxRecDepth 20000 in
theorem gX9_parseShot_X9_shots : GoodIn wsX9_parseShot (wsV RX9 98 RX9 yX9_shots wsX9_shots) := goodIn_app (goodIn_of _ (by decide +kernel)) ggX9_parseShot_X9_shots
set_option maxRecDepth 20000 in
set_option maxRecDepth 100000 in
theorem ggX9_parseShot_X9_errsIf : GoodIn wsX9_parseShot wsX9_errsIf := goodIn_r _ [10, 11, 12, 13, 4, 14, 15, 16, 17, 18, 19, 20, 21, 127, 128, 129, 130, 131, 132, 133, 134, 135, 136, 137, 138, 139, 140, 141, 142, 143, 144, 145, 146, 147, 148, 149, 150, 151, 152, 153, 154, 155, 156, 157, 158, 159, 160, 161, 162, 163, 164, 165, 166, 167] rfl (by decide +kernel)
set_option maxRecDepth 20000 in
theorem gX9_parseShot_X9_errsIf : GoodIn wsX9_parseShot (wsV RX9 268 RX9 yX9_errsIf wsX9_errsIf) := goodIn_app (goodIn_of _ (by decide +kernel)) ggX9_parseShot_X9_errsIf
set_option maxRecDepth 20000 in
set_option maxRecDepth 100000 in
theorem ggX9_parseShot_X9_goOn : GoodIn wsX9_parseShot wsX9_goOn := goodIn_r _ [25, 11, 12, 13, 4, 14, 15, 26, 27, 28, 29, 30, 20, 31, 32, 33, 34, 35, 36, 37, 38, 39, 40, 41, 42, 43, 44, 45, 46, 47, 48, 49, 127, 128, 129, 130, 131, 132, 133, 134, 135, 136, 137, 138, 139, 140, 141, 142, 143, 144, 145, 146, 147, 148, 149, 150, 151, 152, 153, 154, 155, 156, 157, 158, 159, 160, 161, 162, 163, 164, 165, 166, 167] rfl (by decide +kernel)
set_option maxRecDepth 20000 in
theorem gX9_parseShot_X9_goOn : GoodIn wsX9_parseShot (wsV RX9 254 RX9 yX9_goOn wsX9_goOn) := goodIn_app (goodIn_of _ (by decide +kernel)) ggX9_parseShot_X9_goOn
set_option maxRecDepth 20000 in
set_option maxRecDepth 100000 in
theorem ggX9_parseShot_X9_numberHere : GoodIn wsX9_parseShot wsX9_numberHere := goodIn_r _ [53, 31, 36, 11, 12, 13, 4, 14, 15, 16, 17, 18, 19, 20, 21, 47, 48, 49, 127, 128, 129, 130, 131, 132, 133, 134, 135, 136, 137, 138, 139, 140, 141, 142, 143, 144, 145, 146, 147, 148, 149, 150, 151, 152, 153, 154, 155, 156, 157, 158, 159, 160, 161, 162, 163, 164, 165, 166, 167] rfl (by decide +kernel)
set_option maxRecDepth 20000 in
theorem gX9_parseShot_X9_numberHere : GoodIn wsX9_parseShot (wsV RX9 251 RX9 yX9_numberHere wsX9_numberHere) := goodIn_app (goodIn_of _ (by decide +kernel)) ggX9_parseShot_X9_numberHere
set_option maxRecDepth 20000 in
set_option maxRecDepth 100000 in
theorem ggX9_parseShot_X9_isLayer : GoodIn wsX9_parseShot wsX9_isLayer := goodIn_r _ [57, 58, 59, 60, 4, 61, 6, 47, 48, 49, 127, 128, 129, 130, 131, 132, 133, 134, 135, 136, 137, 138, 139, 140, 141, 142, 143, 144, 145, 146, 147, 148, 149, 150, 151, 152, 153, 154, 155, 156, 157, 158, 159, 160, 161, 162, 163, 164, 165, 166, 167] rfl (by decide +kernel)
set_option maxRecDepth 20000 in
theorem gX9_parseShot_X9_isLayer : GoodIn wsX9_parseShot (wsV RX9 140 RX9 yX9_isLayer wsX9_isLayer) := goodIn_app (goodIn_of _ (by decide +kernel)) ggX9_parseShot_X9_isLayer
set_option maxRecDepth 20000 in
set_option maxRecDepth 100000 in
theorem ggX9_parseShot_X9_isWord : GoodIn wsX9_parseShot wsX9_isWord := goodIn_r _ [65, 31, 30, 20, 46, 11, 12, 13, 4, 14, 15, 66, 67, 68, 69, 70, 71, 72, 73, 74, 75, 76, 77, 78, 79, 80, 81, 82, 83, 84, 85, 86, 87, 88, 89, 90, 91, 92, 93, 94, 95, 96, 97, 98, 99, 100, 101, 102, 103, 104, 105, 106, 107, 108, 109, 110, 111, 112, 113, 114, 127, 128, 129, 130, 131, 132, 133, 134, 135, 136, 137, 138, 139, 140, 141, 142, 143, 144, 145, 146, 147, 148, 149, 150, 151, 152, 153, 154, 155, 156, 157, 158, 159, 160, 161, 162, 163, 164, 165, 166, 167] rfl (by decide +kernel)
set_option maxRecDepth 20000 in
theorem gX9_parseShot_X9_isWord : GoodIn wsX9_parseShot (wsV RX9 257 RX9 yX9_isWord wsX9_isWord) := goodIn_app (goodIn_of _ (by decide +kernel)) ggX9_parseShot_X9_isWord
set_option maxRecDepth 20000 in
set_option maxRecDepth 100000 in
theorem ggX9_parseShot_X9_good : GoodIn wsX9_parseShot wsX9_good := goodIn_r _ [14, 15, 127, 128, 129, 130, 131, 132, 133, 134, 135, 136, 137, 138, 139, 140, 141, 142, 143, 144, 145, 146, 147, 148, 149, 150, 151, 152, 153, 154, 155, 156, 157, 158, 159, 160, 161, 162, 163, 164, 165, 166, 167] rfl (by decide +kernel)
set_option maxRecDepth 20000 in
theorem gX9_parseShot_X9_good : GoodIn wsX9_parseShot (wsV RX9 203 RX9 yX9_good wsX9_good) := goodIn_app (goodIn_of _ (by decide +kernel)) ggX9_parseShot_X9_good
set_option maxRecDepth 20000 in
set_option maxRecDepth 100000 in
theorem ggX9_parseShot_X9_ofLayer : GoodIn wsX9_parseShot wsX9_ofLayer := goodIn_r _ [118, 6, 127, 128, 129, 130, 131, 132, 133, 134, 135, 136, 137, 138, 139, 140, 141, 142, 143, 144, 145, 146, 147, 148, 149, 150, 151, 152, 153, 154, 155, 156, 157, 158, 159, 160, 161, 162, 163, 164, 165, 166, 167] rfl (by decide +kernel)
set_option maxRecDepth 20000 in
theorem gX9_parseShot_X9_ofLayer : GoodIn wsX9_parseShot (wsV RX9 105 RX9 yX9_ofLayer wsX9_ofLayer) := goodIn_app (goodIn_of _ (by decide +kernel)) ggX9_parseShot_X9_ofLayer
set_option maxRecDepth 20000 in
set_option maxRecDepth 100000 in
theorem ggX9_parseShot_X9_semicolon : GoodIn wsX9_parseShot wsX9_semicolon := goodIn_r _ [122, 31, 36, 11, 12, 13, 4, 14, 15, 16, 17, 18, 19, 20, 21, 22, 23, 24, 25, 26, 27, 28, 29, 30, 32, 33, 34, 35, 37, 38, 39, 40, 41, 42, 43, 44, 45, 46, 47, 48, 49, 127, 128, 129, 130, 131, 132, 133, 134, 135, 136, 137, 138, 139, 140, 141, 142, 143, 144, 145, 146, 147, 148, 149, 150, 151, 152, 153, 154, 155, 156, 157, 158, 159, 160, 161, 162, 163, 164, 165, 166, 167] rfl (by decide +kernel)
set_option maxRecDepth 20000 in
theorem gX9_parseShot_X9_semicolon : GoodIn wsX9_parseShot (wsV RX9 280 RX9 yX9_semicolon wsX9_semicolon) := goodIn_app (goodIn_of _ (by decide +kernel)) ggX9_parseShot_X9_semicolon
set_option maxRecDepth 20000 in
set_option maxRecDepth 100000 in
theorem ggX9_parseShot_X9_addShot : GoodIn wsX9_parseShot wsX9_addShot := goodIn_r _ [126, 6, 1, 2, 3, 4, 5, 127, 128, 129, 130, 131, 132, 133, 134, 135, 136, 137, 138, 139, 140, 141, 142, 143, 144, 145, 146, 147, 148, 149, 150, 151, 152, 153, 154, 155, 156, 157, 158, 159, 160, 161, 162, 163, 164, 165, 166, 167] rfl (by decide +kernel)
set_option maxRecDepth 20000 in
theorem gX9_parseShot_X9_addShot : GoodIn wsX9_parseShot (wsV RX9 296 RX9 yX9_addShot wsX9_addShot) := goodIn_app (goodIn_of _ (by decide +kernel)) ggX9_parseShot_X9_addShot
theorem dX9_parseShot_0 : decode cX9_parseShot 0 = .ok (.aload_n 0, 1) := by decide +kernel
theorem dX9_parseShot_1 : decode cX9_parseShot 1 = .ok (.aload_n 0, 1) := by decide +kernel
theorem dX9_parseShot_2 : decode cX9_parseShot 2 = .ok (.invokevirtual 98, 3) := by decide +kernel
theorem dX9_parseShot_5 : decode cX9_parseShot 5 = .ok (.bipush 20, 2) := by decide +kernel
theorem dX9_parseShot_7 : decode cX9_parseShot 7 = .ok (.if_icmp .ne 7, 3) := by decide +kernel
theorem dX9_parseShot_10 : decode cX9_parseShot 10 = .ok (.iconst 1, 1) := by decide +kernel
theorem dX9_parseShot_11 : decode cX9_parseShot 11 = .ok (.goto 4, 3) := by decide +kernel
theorem dX9_parseShot_14 : decode cX9_parseShot 14 = .ok (.iconst 0, 1) := by decide +kernel
theorem dX9_parseShot_15 : decode cX9_parseShot 15 = .ok (.bipush 6, 2) := by decide +kernel
theorem dX9_parseShot_17 : decode cX9_parseShot 17 = .ok (.invokevirtual 268, 3) := by decide +kernel
theorem dX9_parseShot_20 : decode cX9_parseShot 20 = .ok (.aload_n 0, 1) := by decide +kernel
theorem dX9_parseShot_21 : decode cX9_parseShot 21 = .ok (.invokevirtual 254, 3) := by decide +kernel
theorem dX9_parseShot_24 : decode cX9_parseShot 24 = .ok (.aload_n 0, 1) := by decide +kernel
theorem dX9_parseShot_25 : decode cX9_parseShot 25 = .ok (.iconst 0, 1) := by decide +kernel
theorem dX9_parseShot_26 : decode cX9_parseShot 26 = .ok (.bipush 9, 2) := by decide +kernel
theorem dX9_parseShot_28 : decode cX9_parseShot 28 = .ok (.invokevirtual 251, 3) := by decide +kernel
theorem dX9_parseShot_31 : decode cX9_parseShot 31 = .ok (.istore_n 1, 1) := by decide +kernel
theorem dX9_parseShot_32 : decode cX9_parseShot 32 = .ok (.aload_n 0, 1) := by decide +kernel
theorem dX9_parseShot_33 : decode cX9_parseShot 33 = .ok (.aload_n 0, 1) := by decide +kernel
theorem dX9_parseShot_34 : decode cX9_parseShot 34 = .ok (.iload_n 1, 1) := by decide +kernel
theorem dX9_parseShot_35 : decode cX9_parseShot 35 = .ok (.invokevirtual 140, 3) := by decide +kernel
theorem dX9_parseShot_38 : decode cX9_parseShot 38 = .ok (.ifCond .ne 7, 3) := by decide +kernel
theorem dX9_parseShot_41 : decode cX9_parseShot 41 = .ok (.iconst 1, 1) := by decide +kernel
theorem dX9_parseShot_42 : decode cX9_parseShot 42 = .ok (.goto 4, 3) := by decide +kernel
theorem dX9_parseShot_45 : decode cX9_parseShot 45 = .ok (.iconst 0, 1) := by decide +kernel
theorem dX9_parseShot_46 : decode cX9_parseShot 46 = .ok (.iconst 4, 1) := by decide +kernel
theorem dX9_parseShot_47 : decode cX9_parseShot 47 = .ok (.invokevirtual 268, 3) := by decide +kernel
theorem dX9_parseShot_50 : decode cX9_parseShot 50 = .ok (.aload_n 0, 1) := by decide +kernel
theorem dX9_parseShot_51 : decode cX9_parseShot 51 = .ok (.invokevirtual 254, 3) := by decide +kernel
theorem dX9_parseShot_54 : decode cX9_parseShot 54 = .ok (.aload_n 0, 1) := by decide +kernel
theorem dX9_parseShot_55 : decode cX9_parseShot 55 = .ok (.ldc_w 292, 3) := by decide +kernel
theorem dX9_parseShot_58 : decode cX9_parseShot 58 = .ok (.invokevirtual 257, 3) := by decide +kernel
theorem dX9_parseShot_61 : decode cX9_parseShot 61 = .ok (.istore_n 2, 1) := by decide +kernel
theorem dX9_parseShot_62 : decode cX9_parseShot 62 = .ok (.aload_n 0, 1) := by decide +kernel
theorem dX9_parseShot_63 : decode cX9_parseShot 63 = .ok (.iload_n 2, 1) := by decide +kernel
theorem dX9_parseShot_64 : decode cX9_parseShot 64 = .ok (.ifCond .ne 17, 3) := by decide +kernel
theorem dX9_parseShot_67 : decode cX9_parseShot 67 = .ok (.aload_n 0, 1) := by decide +kernel
theorem dX9_parseShot_68 : decode cX9_parseShot 68 = .ok (.ldc_w 294, 3) := by decide +kernel
theorem dX9_parseShot_71 : decode cX9_parseShot 71 = .ok (.invokevirtual 257, 3) := by decide +kernel
theorem dX9_parseShot_74 : decode cX9_parseShot 74 = .ok (.ifCond .ne 7, 3) := by decide +kernel
theorem dX9_parseShot_77 : decode cX9_parseShot 77 = .ok (.iconst 1, 1) := by decide +kernel
theorem dX9_parseShot_78 : decode cX9_parseShot 78 = .ok (.goto 4, 3) := by decide +kernel
theorem dX9_parseShot_81 : decode cX9_parseShot 81 = .ok (.iconst 0, 1) := by decide +kernel
theorem dX9_parseShot_82 : decode cX9_parseShot 82 = .ok (.iconst 1, 1) := by decide +kernel
theorem dX9_parseShot_83 : decode cX9_parseShot 83 = .ok (.invokevirtual 268, 3) := by decide +kernel
theorem dX9_parseShot_86 : decode cX9_parseShot 86 = .ok (.aload_n 0, 1) := by decide +kernel
theorem dX9_parseShot_87 : decode cX9_parseShot 87 = .ok (.invokevirtual 254, 3) := by decide +kernel
theorem dX9_parseShot_90 : decode cX9_parseShot 90 = .ok (.aload_n 0, 1) := by decide +kernel
theorem dX9_parseShot_91 : decode cX9_parseShot 91 = .ok (.iconst 0, 1) := by decide +kernel
theorem dX9_parseShot_92 : decode cX9_parseShot 92 = .ok (.sipush 3999, 3) := by decide +kernel
theorem dX9_parseShot_95 : decode cX9_parseShot 95 = .ok (.invokevirtual 251, 3) := by decide +kernel
theorem dX9_parseShot_98 : decode cX9_parseShot 98 = .ok (.istore_n 3, 1) := by decide +kernel
theorem dX9_parseShot_99 : decode cX9_parseShot 99 = .ok (.aload_n 0, 1) := by decide +kernel
theorem dX9_parseShot_100 : decode cX9_parseShot 100 = .ok (.aload_n 0, 1) := by decide +kernel
theorem dX9_parseShot_101 : decode cX9_parseShot 101 = .ok (.invokevirtual 203, 3) := by decide +kernel
theorem dX9_parseShot_104 : decode cX9_parseShot 104 = .ok (.ifCond .eq 17, 3) := by decide +kernel
theorem dX9_parseShot_107 : decode cX9_parseShot 107 = .ok (.iload_n 3, 1) := by decide +kernel
theorem dX9_parseShot_108 : decode cX9_parseShot 108 = .ok (.aload_n 0, 1) := by decide +kernel
theorem dX9_parseShot_109 : decode cX9_parseShot 109 = .ok (.iload_n 1, 1) := by decide +kernel
theorem dX9_parseShot_110 : decode cX9_parseShot 110 = .ok (.iconst 0, 1) := by decide +kernel
theorem dX9_parseShot_111 : decode cX9_parseShot 111 = .ok (.invokevirtual 105, 3) := by decide +kernel
theorem dX9_parseShot_114 : decode cX9_parseShot 114 = .ok (.if_icmp .lt 7, 3) := by decide +kernel
theorem dX9_parseShot_117 : decode cX9_parseShot 117 = .ok (.iconst 1, 1) := by decide +kernel
theorem dX9_parseShot_118 : decode cX9_parseShot 118 = .ok (.goto 4, 3) := by decide +kernel
theorem dX9_parseShot_121 : decode cX9_parseShot 121 = .ok (.iconst 0, 1) := by decide +kernel
theorem dX9_parseShot_122 : decode cX9_parseShot 122 = .ok (.iconst 5, 1) := by decide +kernel
theorem dX9_parseShot_123 : decode cX9_parseShot 123 = .ok (.invokevirtual 268, 3) := by decide +kernel
theorem dX9_parseShot_126 : decode cX9_parseShot 126 = .ok (.aload_n 0, 1) := by decide +kernel
theorem dX9_parseShot_127 : decode cX9_parseShot 127 = .ok (.invokevirtual 254, 3) := by decide +kernel
theorem dX9_parseShot_130 : decode cX9_parseShot 130 = .ok (.aload_n 0, 1) := by decide +kernel
theorem dX9_parseShot_131 : decode cX9_parseShot 131 = .ok (.invokevirtual 280, 3) := by decide +kernel
theorem dX9_parseShot_134 : decode cX9_parseShot 134 = .ok (.aload_n 0, 1) := by decide +kernel
theorem dX9_parseShot_135 : decode cX9_parseShot 135 = .ok (.invokevirtual 203, 3) := by decide +kernel
theorem dX9_parseShot_138 : decode cX9_parseShot 138 = .ok (.ifCond .eq 10, 3) := by decide +kernel
theorem dX9_parseShot_141 : decode cX9_parseShot 141 = .ok (.aload_n 0, 1) := by decide +kernel
theorem dX9_parseShot_142 : decode cX9_parseShot 142 = .ok (.iload_n 1, 1) := by decide +kernel
theorem dX9_parseShot_143 : decode cX9_parseShot 143 = .ok (.iload_n 2, 1) := by decide +kernel
theorem dX9_parseShot_144 : decode cX9_parseShot 144 = .ok (.iload_n 3, 1) := by decide +kernel
theorem dX9_parseShot_145 : decode cX9_parseShot 145 = .ok (.invokevirtual 296, 3) := by decide +kernel
theorem dX9_parseShot_148 : decode cX9_parseShot 148 = .ok (.return_, 1) := by decide +kernel
set_option maxRecDepth 20000 in
set_option maxRecDepth 100000 in
theorem ggX9_parseStatement_X9_isWord : GoodIn wsX9_parseStatement wsX9_isWord := goodIn_r _ [5, 6, 7, 8, 9, 10, 11, 12, 4, 13, 14, 15, 16, 17, 18, 19, 20, 21, 22, 23, 24, 25, 26, 27, 28, 29, 30, 31, 32, 33, 34, 35, 36, 37, 38, 39, 40, 41, 42, 43, 44, 45, 46, 47, 48, 49, 50, 51, 52, 53, 54, 55, 56, 57, 58, 59, 60, 61, 62, 63, 165, 166, 167, 168, 169, 170, 171, 172, 173, 174, 175, 176, 177, 178, 179, 180, 181, 182, 183, 184, 185, 186, 187, 188, 189, 190, 191, 192, 193, 194, 195, 196, 197, 198, 199, 200, 201, 202, 203, 204, 205] rfl (by decide +kernel)
set_option maxRecDepth 20000 in
theorem gX9_parseStatement_X9_isWord : GoodIn wsX9_parseStatement (wsV RX9 257 RX9 yX9_isWord wsX9_isWord) := goodIn_app (goodIn_of _ (by decide +kernel)) ggX9_parseStatement_X9_isWord
set_option maxRecDepth 20000 in
set_option maxRecDepth 100000 in
theorem ggX9_parseStatement_X9_parseLayer : GoodIn wsX9_parseStatement wsX9_parseLayer := goodIn_r _ [67, 68, 69, 70, 4, 71, 72, 73, 74, 75, 76, 10, 11, 12, 13, 14, 77, 78, 79, 80, 8, 81, 82, 83, 84, 85, 86, 87, 88, 89, 7, 6, 90, 91, 92, 93, 94, 95, 96, 97, 98, 99, 100, 101, 102, 103, 9, 104, 105, 106, 107, 108, 109, 110, 111, 112, 113, 114, 115, 116, 117, 118, 119, 120, 121, 122, 1, 2, 3, 5, 15, 16, 17, 18, 19, 20, 21, 22, 23, 24, 25, 26, 27, 28, 29, 30, 31, 32, 33, 34, 35, 36, 37, 38, 39, 40, 41, 42, 43, 44, 45, 46, 47, 48, 49, 50, 51, 52, 53, 54, 55, 56, 57, 58, 59, 60, 61, 62, 63, 123, 124, 125, 126, 127, 128, 129, 130, 131, 132, 133, 134, 165, 166, 167, 168, 169, 170, 171, 172, 173, 174, 175, 176, 177, 178, 179, 180, 181, 182, 183, 184, 185, 186, 187, 188, 189, 190, 191, 192, 193, 194, 195, 196, 197, 198, 199, 200, 201, 202, 203, 204, 205] rfl (by decide +kernel)
set_option maxRecDepth 20000 in
theorem gX9_parseStatement_X9_parseLayer : GoodIn wsX9_parseStatement (wsV RX9 301 RX9 yX9_parseLayer wsX9_parseLayer) := goodIn_app (goodIn_of _ (by decide +kernel)) ggX9_parseStatement_X9_parseLayer
set_option maxRecDepth 20000 in
set_option maxRecDepth 100000 in
theorem ggX9_parseStatement_X9_parseOutside : GoodIn wsX9_parseStatement wsX9_parseOutside := goodIn_r _ [138, 139, 72, 73, 74, 75, 4, 76, 10, 11, 12, 13, 14, 77, 78, 79, 80, 8, 81, 82, 83, 84, 85, 86, 87, 88, 89, 7, 6, 90, 91, 92, 93, 94, 95, 96, 97, 98, 99, 100, 101, 102, 103, 9, 104, 105, 106, 107, 108, 109, 110, 111, 112, 113, 114, 123, 124, 125, 126, 165, 166, 167, 168, 169, 170, 171, 172, 173, 174, 175, 176, 177, 178, 179, 180, 181, 182, 183, 184, 185, 186, 187, 188, 189, 190, 191, 192, 193, 194, 195, 196, 197, 198, 199, 200, 201, 202, 203, 204, 205] rfl (by decide +kernel)
set_option maxRecDepth 20000 in
theorem gX9_parseStatement_X9_parseOutside : GoodIn wsX9_parseStatement (wsV RX9 306 RX9 yX9_parseOutside wsX9_parseOutside) := goodIn_app (goodIn_of _ (by decide +kernel)) ggX9_parseStatement_X9_parseOutside
set_option maxRecDepth 20000 in
set_option maxRecDepth 100000 in
theorem ggX9_parseStatement_X9_parseBottom : GoodIn wsX9_parseStatement wsX9_parseBottom := goodIn_r _ [143, 144, 72, 73, 74, 75, 4, 76, 10, 11, 12, 13, 14, 77, 78, 79, 80, 8, 81, 82, 83, 84, 85, 86, 87, 88, 89, 7, 6, 90, 91, 92, 93, 94, 95, 96, 97, 98, 99, 100, 101, 102, 103, 9, 104, 105, 106, 1, 2, 3, 5, 15, 16, 17, 18, 19, 20, 21, 22, 23, 24, 25, 26, 27, 28, 29, 30, 31, 32, 33, 34, 35, 36, 37, 38, 39, 40, 41, 42, 43, 44, 45, 46, 47, 48, 49, 50, 51, 52, 53, 54, 55, 56, 57, 58, 59, 60, 61, 62, 63, 107, 108, 109, 110, 111, 112, 113, 114, 123, 124, 125, 126, 165, 166, 167, 168, 169, 170, 171, 172, 173, 174, 175, 176, 177, 178, 179, 180, 181, 182, 183, 184, 185, 186, 187, 188, 189, 190, 191, 192, 193, 194, 195, 196, 197, 198, 199, 200, 201, 202, 203, 204, 205] rfl (by decide +kernel)
set_option maxRecDepth 20000 in
theorem gX9_parseStatement_X9_parseBottom : GoodIn wsX9_parseStatement (wsV RX9 311 RX9 yX9_parseBottom wsX9_parseBottom) := goodIn_app (goodIn_of _ (by decide +kernel)) ggX9_parseStatement_X9_parseBottom
set_option maxRecDepth 20000 in
set_option maxRecDepth 100000 in
theorem ggX9_parseStatement_X9_parseShot : GoodIn wsX9_parseStatement wsX9_parseShot := goodIn_r _ [148, 149, 150, 151, 4, 152, 72, 73, 74, 75, 76, 10, 11, 12, 13, 14, 77, 78, 79, 80, 8, 81, 82, 83, 84, 85, 86, 87, 88, 89, 7, 6, 90, 91, 92, 93, 94, 95, 96, 97, 98, 99, 100, 101, 102, 103, 9, 104, 105, 106, 111, 112, 113, 114, 153, 154, 155, 156, 68, 69, 70, 71, 1, 2, 3, 5, 15, 16, 17, 18, 19, 20, 21, 22, 23, 24, 25, 26, 27, 28, 29, 30, 31, 32, 33, 34, 35, 36, 37, 38, 39, 40, 41, 42, 43, 44, 45, 46, 47, 48, 49, 50, 51, 52, 53, 54, 55, 56, 57, 58, 59, 60, 61, 62, 63, 157, 158, 159, 160, 123, 124, 125, 126, 161, 162, 163, 164, 165, 166, 167, 168, 169, 170, 171, 172, 173, 174, 175, 176, 177, 178, 179, 180, 181, 182, 183, 184, 185, 186, 187, 188, 189, 190, 191, 192, 193, 194, 195, 196, 197, 198, 199, 200, 201, 202, 203, 204, 205] rfl (by decide +kernel)
set_option maxRecDepth 20000 in
theorem gX9_parseStatement_X9_parseShot : GoodIn wsX9_parseStatement (wsV RX9 316 RX9 yX9_parseShot wsX9_parseShot) := goodIn_app (goodIn_of _ (by decide +kernel)) ggX9_parseStatement_X9_parseShot
set_option maxRecDepth 20000 in
set_option maxRecDepth 100000 in
theorem ggX9_parseStatement_X9_errs : GoodIn wsX9_parseStatement wsX9_errs := goodIn_r _ [80, 14, 8, 81, 10, 11, 12, 4, 13, 165, 166, 167, 168, 169, 170, 171, 172, 173, 174, 175, 176, 177, 178, 179, 180, 181, 182, 183, 184, 185, 186, 187, 188, 189, 190, 191, 192, 193, 194, 195, 196, 197, 198, 199, 200, 201, 202, 203, 204, 205] rfl (by decide +kernel)
set_option maxRecDepth 20000 in
theorem gX9_parseStatement_X9_errs : GoodIn wsX9_parseStatement (wsV RX9 248 RX9 yX9_errs wsX9_errs) := goodIn_app (goodIn_of _ (by decide +kernel)) ggX9_parseStatement_X9_errs
theorem dX9_parseStatement_0 : decode cX9_parseStatement 0 = .ok (.aload_n 0, 1) := by decide +kernel
theorem dX9_parseStatement_1 : decode cX9_parseStatement 1 = .ok (.ldc_w 299, 3) := by decide +kernel
theorem dX9_parseStatement_4 : decode cX9_parseStatement 4 = .ok (.invokevirtual 257, 3) := by decide +kernel
theorem dX9_parseStatement_7 : decode cX9_parseStatement 7 = .ok (.ifCond .eq 10, 3) := by decide +kernel
theorem dX9_parseStatement_10 : decode cX9_parseStatement 10 = .ok (.aload_n 0, 1) := by decide +kernel
theorem dX9_parseStatement_11 : decode cX9_parseStatement 11 = .ok (.invokevirtual 301, 3) := by decide +kernel
theorem dX9_parseStatement_14 : decode cX9_parseStatement 14 = .ok (.goto 59, 3) := by decide +kernel
theorem dX9_parseStatement_17 : decode cX9_parseStatement 17 = .ok (.aload_n 0, 1) := by decide +kernel
theorem dX9_parseStatement_18 : decode cX9_parseStatement 18 = .ok (.ldc_w 304, 3) := by decide +kernel
theorem dX9_parseStatement_21 : decode cX9_parseStatement 21 = .ok (.invokevirtual 257, 3) := by decide +kernel
theorem dX9_parseStatement_24 : decode cX9_parseStatement 24 = .ok (.ifCond .eq 10, 3) := by decide +kernel
theorem dX9_parseStatement_27 : decode cX9_parseStatement 27 = .ok (.aload_n 0, 1) := by decide +kernel
theorem dX9_parseStatement_28 : decode cX9_parseStatement 28 = .ok (.invokevirtual 306, 3) := by decide +kernel
theorem dX9_parseStatement_31 : decode cX9_parseStatement 31 = .ok (.goto 42, 3) := by decide +kernel
theorem dX9_parseStatement_34 : decode cX9_parseStatement 34 = .ok (.aload_n 0, 1) := by decide +kernel
theorem dX9_parseStatement_35 : decode cX9_parseStatement 35 = .ok (.ldc_w 309, 3) := by decide +kernel
theorem dX9_parseStatement_38 : decode cX9_parseStatement 38 = .ok (.invokevirtual 257, 3) := by decide +kernel
theorem dX9_parseStatement_41 : decode cX9_parseStatement 41 = .ok (.ifCond .eq 10, 3) := by decide +kernel
theorem dX9_parseStatement_44 : decode cX9_parseStatement 44 = .ok (.aload_n 0, 1) := by decide +kernel
theorem dX9_parseStatement_45 : decode cX9_parseStatement 45 = .ok (.invokevirtual 311, 3) := by decide +kernel
theorem dX9_parseStatement_48 : decode cX9_parseStatement 48 = .ok (.goto 25, 3) := by decide +kernel
theorem dX9_parseStatement_51 : decode cX9_parseStatement 51 = .ok (.aload_n 0, 1) := by decide +kernel
theorem dX9_parseStatement_52 : decode cX9_parseStatement 52 = .ok (.ldc_w 314, 3) := by decide +kernel
theorem dX9_parseStatement_55 : decode cX9_parseStatement 55 = .ok (.invokevirtual 257, 3) := by decide +kernel
theorem dX9_parseStatement_58 : decode cX9_parseStatement 58 = .ok (.ifCond .eq 10, 3) := by decide +kernel
theorem dX9_parseStatement_61 : decode cX9_parseStatement 61 = .ok (.aload_n 0, 1) := by decide +kernel
theorem dX9_parseStatement_62 : decode cX9_parseStatement 62 = .ok (.invokevirtual 316, 3) := by decide +kernel
theorem dX9_parseStatement_65 : decode cX9_parseStatement 65 = .ok (.goto 8, 3) := by decide +kernel
theorem dX9_parseStatement_68 : decode cX9_parseStatement 68 = .ok (.aload_n 0, 1) := by decide +kernel
theorem dX9_parseStatement_69 : decode cX9_parseStatement 69 = .ok (.iconst 1, 1) := by decide +kernel
theorem dX9_parseStatement_70 : decode cX9_parseStatement 70 = .ok (.invokevirtual 248, 3) := by decide +kernel
theorem dX9_parseStatement_73 : decode cX9_parseStatement 73 = .ok (.return_, 1) := by decide +kernel
set_option maxRecDepth 20000 in
set_option maxRecDepth 100000 in
theorem ggX9_load_X9_layPlain : GoodIn wsX9_load wsX9_layPlain := goodIn_r _ [17, 10, 183, 184, 185, 186, 187, 188, 189, 190, 191, 192, 193, 194, 195, 196, 197, 198, 199, 200, 201, 202, 203, 204, 205, 206, 207, 208, 209, 210, 211, 212, 213, 214, 215, 216, 217, 218, 219, 220, 221, 222, 223] rfl (by decide +kernel)
set_option maxRecDepth 20000 in
theorem gX9_load_X9_layPlain : GoodIn wsX9_load (wsV RX9 83 RX9 yX9_layPlain wsX9_layPlain) := goodIn_app (goodIn_of _ (by decide +kernel)) ggX9_load_X9_layPlain
set_option maxRecDepth 20000 in
set_option maxRecDepth 100000 in
theorem ggX9_load_X9_scan : GoodIn wsX9_load wsX9_scan := goodIn_r _ [21, 4, 22, 11, 23, 24, 25, 26, 27, 28, 29, 30, 31, 32, 33, 34, 16, 35, 3, 36, 37, 38, 39, 183, 184, 185, 186, 187, 188, 189, 190, 191, 192, 193, 194, 195, 196, 197, 198, 199, 200, 201, 202, 203, 204, 205, 206, 207, 208, 209, 210, 211, 212, 213, 214, 215, 216, 217, 218, 219, 220, 221, 222, 223] rfl (by decide +kernel)
set_option maxRecDepth 20000 in
theorem gX9_load_X9_scan : GoodIn wsX9_load (wsV RX9 236 RX9 yX9_scan wsX9_scan) := goodIn_app (goodIn_of _ (by decide +kernel)) ggX9_load_X9_scan
set_option maxRecDepth 20000 in
set_option maxRecDepth 100000 in
theorem ggX9_load_X9_isWord : GoodIn wsX9_load wsX9_isWord := goodIn_r _ [43, 11, 4, 22, 36, 44, 45, 46, 16, 47, 5, 48, 49, 50, 51, 52, 53, 54, 55, 56, 57, 58, 59, 60, 61, 62, 63, 64, 65, 66, 67, 68, 69, 70, 71, 72, 73, 74, 75, 76, 77, 78, 79, 80, 81, 82, 83, 84, 85, 86, 87, 88, 89, 90, 91, 92, 93, 94, 95, 96, 183, 184, 185, 186, 187, 188, 189, 190, 191, 192, 193, 194, 195, 196, 197, 198, 199, 200, 201, 202, 203, 204, 205, 206, 207, 208, 209, 210, 211, 212, 213, 214, 215, 216, 217, 218, 219, 220, 221, 222, 223] rfl (by decide +kernel)
set_option maxRecDepth 20000 in
theorem gX9_load_X9_isWord : GoodIn wsX9_load (wsV RX9 257 RX9 yX9_isWord wsX9_isWord) := goodIn_app (goodIn_of _ (by decide +kernel)) ggX9_load_X9_isWord
set_option maxRecDepth 20000 in
set_option maxRecDepth 100000 in
theorem ggX9_load_X9_errsIf : GoodIn wsX9_load wsX9_errsIf := goodIn_r _ [100, 44, 45, 46, 16, 47, 5, 101, 102, 103, 104, 22, 6, 183, 184, 185, 186, 187, 188, 189, 190, 191, 192, 193, 194, 195, 196, 197, 198, 199, 200, 201, 202, 203, 204, 205, 206, 207, 208, 209, 210, 211, 212, 213, 214, 215, 216, 217, 218, 219, 220, 221, 222, 223] rfl (by decide +kernel)
set_option maxRecDepth 20000 in
theorem gX9_load_X9_errsIf : GoodIn wsX9_load (wsV RX9 268 RX9 yX9_errsIf wsX9_errsIf) := goodIn_app (goodIn_of _ (by decide +kernel)) ggX9_load_X9_errsIf
set_option maxRecDepth 20000 in
set_option maxRecDepth 100000 in
theorem ggX9_load_X9_good : GoodIn wsX9_load wsX9_good := goodIn_r _ [47, 5, 183, 184, 185, 186, 187, 188, 189, 190, 191, 192, 193, 194, 195, 196, 197, 198, 199, 200, 201, 202, 203, 204, 205, 206, 207, 208, 209, 210, 211, 212, 213, 214, 215, 216, 217, 218, 219, 220, 221, 222, 223] rfl (by decide +kernel)
set_option maxRecDepth 20000 in
theorem gX9_load_X9_good : GoodIn wsX9_load (wsV RX9 203 RX9 yX9_good wsX9_good) := goodIn_app (goodIn_of _ (by decide +kernel)) ggX9_load_X9_good
set_option maxRecDepth 20000 in
set_option maxRecDepth 100000 in
theorem ggX9_load_X9_parseStatement : GoodIn wsX9_load wsX9_parseStatement := goodIn_r _ [108, 40, 41, 42, 16, 43, 11, 4, 22, 36, 44, 45, 46, 47, 5, 48, 49, 50, 51, 52, 53, 54, 55, 56, 57, 58, 59, 60, 61, 62, 63, 64, 65, 66, 67, 68, 69, 70, 71, 72, 73, 74, 75, 76, 77, 78, 79, 80, 81, 82, 83, 84, 85, 86, 87, 88, 89, 90, 91, 92, 93, 94, 95, 96, 109, 110, 111, 112, 113, 114, 115, 116, 10, 97, 98, 99, 100, 101, 102, 103, 104, 6, 117, 118, 119, 120, 18, 19, 20, 21, 23, 24, 25, 26, 27, 28, 29, 30, 31, 32, 33, 34, 35, 3, 37, 38, 39, 121, 122, 123, 124, 125, 126, 127, 128, 129, 130, 131, 132, 133, 134, 135, 136, 137, 138, 139, 140, 141, 142, 143, 144, 145, 146, 147, 148, 149, 150, 151, 152, 7, 153, 154, 155, 156, 8, 157, 158, 159, 160, 161, 162, 163, 164, 165, 166, 167, 168, 169, 170, 171, 172, 173, 174, 175, 176, 183, 184, 185, 186, 187, 188, 189, 190, 191, 192, 193, 194, 195, 196, 197, 198, 199, 200, 201, 202, 203, 204, 205, 206, 207, 208, 209, 210, 211, 212, 213, 214, 215, 216, 217, 218, 219, 220, 221, 222, 223] rfl (by decide +kernel)
set_option maxRecDepth 20000 in
theorem gX9_load_X9_parseStatement : GoodIn wsX9_load (wsV RX9 319 RX9 yX9_parseStatement wsX9_parseStatement) := goodIn_app (goodIn_of _ (by decide +kernel)) ggX9_load_X9_parseStatement
set_option maxRecDepth 20000 in
set_option maxRecDepth 100000 in
theorem ggX9_load_X9_remember : GoodIn wsX9_load wsX9_remember := goodIn_r _ [180, 181, 182, 12, 183, 184, 185, 186, 187, 188, 189, 190, 191, 192, 193, 194, 195, 196, 197, 198, 199, 200, 201, 202, 203, 204, 205, 206, 207, 208, 209, 210, 211, 212, 213, 214, 215, 216, 217, 218, 219, 220, 221, 222, 223] rfl (by decide +kernel)
set_option maxRecDepth 20000 in
theorem gX9_load_X9_remember : GoodIn wsX9_load (wsV RX9 322 RX9 yX9_remember wsX9_remember) := goodIn_app (goodIn_of _ (by decide +kernel)) ggX9_load_X9_remember
set_option maxRecDepth 20000 in
set_option maxRecDepth 100000 in
theorem ggX9_load_X9_layers : GoodIn wsX9_load wsX9_layers := goodIn_r _ [116, 10, 183, 184, 185, 186, 187, 188, 189, 190, 191, 192, 193, 194, 195, 196, 197, 198, 199, 200, 201, 202, 203, 204, 205, 206, 207, 208, 209, 210, 211, 212, 213, 214, 215, 216, 217, 218, 219, 220, 221, 222, 223] rfl (by decide +kernel)
set_option maxRecDepth 20000 in
theorem gX9_load_X9_layers : GoodIn wsX9_load (wsV RX9 90 RX9 yX9_layers wsX9_layers) := goodIn_app (goodIn_of _ (by decide +kernel)) ggX9_load_X9_layers
theorem dX9_load_0 : decode cX9_load 0 = .ok (.aload_n 0, 1) := by decide +kernel
theorem dX9_load_1 : decode cX9_load 1 = .ok (.iconst 0, 1) := by decide +kernel
theorem dX9_load_2 : decode cX9_load 2 = .ok (.putfield 3, 3) := by decide +kernel
theorem dX9_load_5 : decode cX9_load 5 = .ok (.aload_n 0, 1) := by decide +kernel
theorem dX9_load_6 : decode cX9_load 6 = .ok (.aload_n 0, 1) := by decide +kernel
theorem dX9_load_7 : decode cX9_load 7 = .ok (.getfield 190, 3) := by decide +kernel
theorem dX9_load_10 : decode cX9_load 10 = .ok (.putfield 210, 3) := by decide +kernel
theorem dX9_load_13 : decode cX9_load 13 = .ok (.aload_n 0, 1) := by decide +kernel
theorem dX9_load_14 : decode cX9_load 14 = .ok (.iconst 0, 1) := by decide +kernel
theorem dX9_load_15 : decode cX9_load 15 = .ok (.putfield 190, 3) := by decide +kernel
theorem dX9_load_18 : decode cX9_load 18 = .ok (.aload_n 0, 1) := by decide +kernel
theorem dX9_load_19 : decode cX9_load 19 = .ok (.iconst 0, 1) := by decide +kernel
theorem dX9_load_20 : decode cX9_load 20 = .ok (.putfield 213, 3) := by decide +kernel
theorem dX9_load_23 : decode cX9_load 23 = .ok (.aload_n 0, 1) := by decide +kernel
theorem dX9_load_24 : decode cX9_load 24 = .ok (.iconst 0, 1) := by decide +kernel
theorem dX9_load_25 : decode cX9_load 25 = .ok (.putfield 200, 3) := by decide +kernel
theorem dX9_load_28 : decode cX9_load 28 = .ok (.aload_n 0, 1) := by decide +kernel
theorem dX9_load_29 : decode cX9_load 29 = .ok (.iconst (-1), 1) := by decide +kernel
theorem dX9_load_30 : decode cX9_load 30 = .ok (.putfield 53, 3) := by decide +kernel
theorem dX9_load_33 : decode cX9_load 33 = .ok (.aload_n 0, 1) := by decide +kernel
theorem dX9_load_34 : decode cX9_load 34 = .ok (.iconst 0, 1) := by decide +kernel
theorem dX9_load_35 : decode cX9_load 35 = .ok (.putfield 283, 3) := by decide +kernel
theorem dX9_load_38 : decode cX9_load 38 = .ok (.aload_n 0, 1) := by decide +kernel
theorem dX9_load_39 : decode cX9_load 39 = .ok (.iconst 0, 1) := by decide +kernel
theorem dX9_load_40 : decode cX9_load 40 = .ok (.putfield 286, 3) := by decide +kernel
theorem dX9_load_43 : decode cX9_load 43 = .ok (.aload_n 0, 1) := by decide +kernel
theorem dX9_load_44 : decode cX9_load 44 = .ok (.aload_n 0, 1) := by decide +kernel
theorem dX9_load_45 : decode cX9_load 45 = .ok (.getfield 21, 3) := by decide +kernel
theorem dX9_load_48 : decode cX9_load 48 = .ok (.putfield 24, 3) := by decide +kernel
theorem dX9_load_51 : decode cX9_load 51 = .ok (.aload_n 0, 1) := by decide +kernel
theorem dX9_load_52 : decode cX9_load 52 = .ok (.invokevirtual 83, 3) := by decide +kernel
theorem dX9_load_55 : decode cX9_load 55 = .ok (.aload_n 0, 1) := by decide +kernel
theorem dX9_load_56 : decode cX9_load 56 = .ok (.invokevirtual 236, 3) := by decide +kernel
theorem dX9_load_59 : decode cX9_load 59 = .ok (.aload_n 0, 1) := by decide +kernel
theorem dX9_load_60 : decode cX9_load 60 = .ok (.aload_n 0, 1) := by decide +kernel
theorem dX9_load_61 : decode cX9_load 61 = .ok (.ldc_w 299, 3) := by decide +kernel
theorem dX9_load_64 : decode cX9_load 64 = .ok (.invokevirtual 257, 3) := by decide +kernel
theorem dX9_load_67 : decode cX9_load 67 = .ok (.ifCond .ne 7, 3) := by decide +kernel
theorem dX9_load_70 : decode cX9_load 70 = .ok (.iconst 1, 1) := by decide +kernel
theorem dX9_load_71 : decode cX9_load 71 = .ok (.goto 4, 3) := by decide +kernel
theorem dX9_load_74 : decode cX9_load 74 = .ok (.iconst 0, 1) := by decide +kernel
theorem dX9_load_75 : decode cX9_load 75 = .ok (.iconst 1, 1) := by decide +kernel
theorem dX9_load_76 : decode cX9_load 76 = .ok (.invokevirtual 268, 3) := by decide +kernel
theorem dX9_load_79 : decode cX9_load 79 = .ok (.aload_n 0, 1) := by decide +kernel
theorem dX9_load_80 : decode cX9_load 80 = .ok (.invokevirtual 203, 3) := by decide +kernel
theorem dX9_load_83 : decode cX9_load 83 = .ok (.ifCond .eq 17, 3) := by decide +kernel
theorem dX9_load_86 : decode cX9_load 86 = .ok (.aload_n 0, 1) := by decide +kernel
theorem dX9_load_87 : decode cX9_load 87 = .ok (.getfield 219, 3) := by decide +kernel
theorem dX9_load_90 : decode cX9_load 90 = .ok (.ifCond .eq 10, 3) := by decide +kernel
theorem dX9_load_93 : decode cX9_load 93 = .ok (.aload_n 0, 1) := by decide +kernel
theorem dX9_load_94 : decode cX9_load 94 = .ok (.invokevirtual 319, 3) := by decide +kernel
theorem dX9_load_97 : decode cX9_load 97 = .ok (.goto (-18), 3) := by decide +kernel
theorem dX9_load_100 : decode cX9_load 100 = .ok (.aload_n 0, 1) := by decide +kernel
theorem dX9_load_101 : decode cX9_load 101 = .ok (.aload_n 0, 1) := by decide +kernel
theorem dX9_load_102 : decode cX9_load 102 = .ok (.getfield 17, 3) := by decide +kernel
theorem dX9_load_105 : decode cX9_load 105 = .ok (.putfield 24, 3) := by decide +kernel
theorem dX9_load_108 : decode cX9_load 108 = .ok (.aload_n 0, 1) := by decide +kernel
theorem dX9_load_109 : decode cX9_load 109 = .ok (.invokevirtual 203, 3) := by decide +kernel
theorem dX9_load_112 : decode cX9_load 112 = .ok (.ifCond .ne 6, 3) := by decide +kernel
theorem dX9_load_115 : decode cX9_load 115 = .ok (.bipush (-4), 2) := by decide +kernel
theorem dX9_load_117 : decode cX9_load 117 = .ok (.ireturn, 1) := by decide +kernel
theorem dX9_load_118 : decode cX9_load 118 = .ok (.aload_n 0, 1) := by decide +kernel
theorem dX9_load_119 : decode cX9_load 119 = .ok (.invokevirtual 322, 3) := by decide +kernel
theorem dX9_load_122 : decode cX9_load 122 = .ok (.iconst 0, 1) := by decide +kernel
theorem dX9_load_123 : decode cX9_load 123 = .ok (.istore_n 1, 1) := by decide +kernel
theorem dX9_load_124 : decode cX9_load 124 = .ok (.iload_n 1, 1) := by decide +kernel
theorem dX9_load_125 : decode cX9_load 125 = .ok (.bipush 95, 2) := by decide +kernel
theorem dX9_load_127 : decode cX9_load 127 = .ok (.if_icmp .ge 21, 3) := by decide +kernel
theorem dX9_load_130 : decode cX9_load 130 = .ok (.aload_n 0, 1) := by decide +kernel
theorem dX9_load_131 : decode cX9_load 131 = .ok (.getfield 17, 3) := by decide +kernel
theorem dX9_load_134 : decode cX9_load 134 = .ok (.iload_n 1, 1) := by decide +kernel
theorem dX9_load_135 : decode cX9_load 135 = .ok (.aload_n 0, 1) := by decide +kernel
theorem dX9_load_136 : decode cX9_load 136 = .ok (.getfield 21, 3) := by decide +kernel
theorem dX9_load_139 : decode cX9_load 139 = .ok (.iload_n 1, 1) := by decide +kernel
theorem dX9_load_140 : decode cX9_load 140 = .ok (.iaload, 1) := by decide +kernel
theorem dX9_load_141 : decode cX9_load 141 = .ok (.iastore, 1) := by decide +kernel
theorem dX9_load_142 : decode cX9_load 142 = .ok (.iinc 1 1, 3) := by decide +kernel
theorem dX9_load_145 : decode cX9_load 145 = .ok (.goto (-21), 3) := by decide +kernel
theorem dX9_load_148 : decode cX9_load 148 = .ok (.aload_n 0, 1) := by decide +kernel
theorem dX9_load_149 : decode cX9_load 149 = .ok (.invokevirtual 90, 3) := by decide +kernel
theorem dX9_load_152 : decode cX9_load 152 = .ok (.ireturn, 1) := by decide +kernel
theorem dX9_errorCode_0 : decode cX9_errorCode 0 = .ok (.aload_n 0, 1) := by decide +kernel
theorem dX9_errorCode_1 : decode cX9_errorCode 1 = .ok (.iconst 0, 1) := by decide +kernel
theorem dX9_errorCode_2 : decode cX9_errorCode 2 = .ok (.putfield 3, 3) := by decide +kernel
theorem dX9_errorCode_5 : decode cX9_errorCode 5 = .ok (.aload_n 0, 1) := by decide +kernel
theorem dX9_errorCode_6 : decode cX9_errorCode 6 = .ok (.getfield 200, 3) := by decide +kernel
theorem dX9_errorCode_9 : decode cX9_errorCode 9 = .ok (.ireturn, 1) := by decide +kernel
theorem dX9_errorPosition_0 : decode cX9_errorPosition 0 = .ok (.aload_n 0, 1) := by decide +kernel
theorem dX9_errorPosition_1 : decode cX9_errorPosition 1 = .ok (.iconst 0, 1) := by decide +kernel
theorem dX9_errorPosition_2 : decode cX9_errorPosition 2 = .ok (.putfield 3, 3) := by decide +kernel
theorem dX9_errorPosition_5 : decode cX9_errorPosition 5 = .ok (.aload_n 0, 1) := by decide +kernel
theorem dX9_errorPosition_6 : decode cX9_errorPosition 6 = .ok (.getfield 53, 3) := by decide +kernel
theorem dX9_errorPosition_9 : decode cX9_errorPosition 9 = .ok (.ireturn, 1) := by decide +kernel
set_option maxRecDepth 20000 in
set_option maxRecDepth 100000 in
theorem ggX9_property_X9_in : GoodIn wsX9_property wsX9_in := goodIn_r _ [6] rfl (by decide +kernel)
set_option maxRecDepth 20000 in
theorem gX9_property_X9_in : GoodIn wsX9_property (va_wsS RX9 94 yX9_in wsX9_in) := goodIn_app (goodIn_of _ (by decide +kernel)) ggX9_property_X9_in
set_option maxRecDepth 20000 in
set_option maxRecDepth 100000 in
theorem ggX9_property_X9_passes : GoodIn wsX9_property wsX9_passes := goodIn_r _ [10, 11, 12, 13, 5, 14, 15, 33, 34, 35, 36, 37, 38, 39, 40, 41, 42, 43, 44, 45, 46, 47, 48, 49, 50, 51, 52, 53, 54, 55, 56, 57, 58, 59, 60, 61, 62, 63, 64, 65, 66, 67, 68, 69, 70, 71, 72, 73] rfl (by decide +kernel)
set_option maxRecDepth 20000 in
theorem gX9_property_X9_passes : GoodIn wsX9_property (wsV RX9 193 RX9 yX9_passes wsX9_passes) := goodIn_app (goodIn_of _ (by decide +kernel)) ggX9_property_X9_passes
set_option maxRecDepth 20000 in
set_option maxRecDepth 100000 in
theorem ggX9_property_X9_layers : GoodIn wsX9_property wsX9_layers := goodIn_r _ [19, 20, 33, 34, 35, 36, 37, 38, 39, 40, 41, 42, 43, 44, 45, 46, 47, 48, 49, 50, 51, 52, 53, 54, 55, 56, 57, 58, 59, 60, 61, 62, 63, 64, 65, 66, 67, 68, 69, 70, 71, 72, 73] rfl (by decide +kernel)
set_option maxRecDepth 20000 in
theorem gX9_property_X9_layers : GoodIn wsX9_property (wsV RX9 90 RX9 yX9_layers wsX9_layers) := goodIn_app (goodIn_of _ (by decide +kernel)) ggX9_property_X9_layers
set_option maxRecDepth 20000 in
set_option maxRecDepth 100000 in
theorem ggX9_property_X9_shots : GoodIn wsX9_property wsX9_shots := goodIn_r _ [24, 20, 33, 34, 35, 36, 37, 38, 39, 40, 41, 42, 43, 44, 45, 46, 47, 48, 49, 50, 51, 52, 53, 54, 55, 56, 57, 58, 59, 60, 61, 62, 63, 64, 65, 66, 67, 68, 69, 70, 71, 72, 73] rfl (by decide +kernel)
set_option maxRecDepth 20000 in
theorem gX9_property_X9_shots : GoodIn wsX9_property (wsV RX9 98 RX9 yX9_shots wsX9_shots) := goodIn_app (goodIn_of _ (by decide +kernel)) ggX9_property_X9_shots
set_option maxRecDepth 20000 in
set_option maxRecDepth 100000 in
theorem ggX9_property_X9_depthOf : GoodIn wsX9_property wsX9_depthOf := goodIn_r _ [28, 29, 30, 31, 5, 32, 20, 33, 34, 35, 36, 37, 38, 39, 40, 41, 42, 43, 44, 45, 46, 47, 48, 49, 50, 51, 52, 53, 54, 55, 56, 57, 58, 59, 60, 61, 62, 63, 64, 65, 66, 67, 68, 69, 70, 71, 72, 73] rfl (by decide +kernel)
