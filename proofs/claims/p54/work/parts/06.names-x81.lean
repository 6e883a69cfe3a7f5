theorem dX8_swapLayers_116 : decode cX8_swapLayers 116 = .ok (.iinc 4 1, 3) := by decide +kernel
theorem dX8_swapLayers_119 : decode cX8_swapLayers 119 = .ok (.goto (-54), 3) := by decide +kernel
theorem dX8_swapLayers_122 : decode cX8_swapLayers 122 = .ok (.iload_n 3, 1) := by decide +kernel
theorem dX8_swapLayers_123 : decode cX8_swapLayers 123 = .ok (.ireturn, 1) := by decide +kernel
set_option maxRecDepth 20000 in
set_option maxRecDepth 100000 in
theorem ggX8_setOutside_X8_checkRange : GoodIn wsX8_setOutside wsX8_checkRange := goodIn_ca (goodIn_r _ [7, 8, 9] rfl (by decide +kernel)) (goodIn_sub (fun _ h => List.mem_cons_of_mem _ (List.mem_append_right _ h)) (by decide +kernel))
set_option maxRecDepth 20000 in
theorem gX8_setOutside_X8_checkRange : GoodIn wsX8_setOutside (va_wsS RX8 100 yX8_checkRange wsX8_checkRange) := goodIn_app (goodIn_of _ (by decide +kernel)) ggX8_setOutside_X8_checkRange
set_option maxRecDepth 20000 in
set_option maxRecDepth 100000 in
theorem ggX8_setOutside_X1_remember : GoodIn wsX8_setOutside wsX1_remember := goodIn_r _ [14, 15, 16, 17, 18, 19, 20, 21, 22, 23, 24, 25, 6, 26, 27, 28, 29, 30, 31, 32, 33, 34, 35, 36, 37, 38, 39, 40, 41, 42, 43, 44, 45, 46, 47, 48, 49, 50, 51, 52, 53, 54, 55, 56, 57, 58, 59, 60, 61, 62, 79, 80, 81, 74, 75, 76, 77, 78, 82, 83] rfl (by decide +kernel)
set_option maxRecDepth 20000 in
theorem gX8_setOutside_X1_remember : GoodIn wsX8_setOutside (wsV RX8 108 RX1 yX1_remember wsX1_remember) := goodIn_app (goodIn_of _ (by decide +kernel)) ggX8_setOutside_X1_remember
theorem dX8_setOutside_0 : decode cX8_setOutside 0 = .ok (.iload_n 1, 1) := by decide +kernel
theorem dX8_setOutside_1 : decode cX8_setOutside 1 = .ok (.sipush 1000, 3) := by decide +kernel
theorem dX8_setOutside_4 : decode cX8_setOutside 4 = .ok (.sipush 4000, 3) := by decide +kernel
theorem dX8_setOutside_7 : decode cX8_setOutside 7 = .ok (.invokestatic 100, 3) := by decide +kernel
theorem dX8_setOutside_10 : decode cX8_setOutside 10 = .ok (.aload_n 0, 1) := by decide +kernel
theorem dX8_setOutside_11 : decode cX8_setOutside 11 = .ok (.getfield 32, 3) := by decide +kernel
theorem dX8_setOutside_14 : decode cX8_setOutside 14 = .ok (.aload_n 0, 1) := by decide +kernel
theorem dX8_setOutside_15 : decode cX8_setOutside 15 = .ok (.getfield 22, 3) := by decide +kernel
theorem dX8_setOutside_18 : decode cX8_setOutside 18 = .ok (.invokevirtual 108, 3) := by decide +kernel
theorem dX8_setOutside_21 : decode cX8_setOutside 21 = .ok (.aload_n 0, 1) := by decide +kernel
theorem dX8_setOutside_22 : decode cX8_setOutside 22 = .ok (.getfield 22, 3) := by decide +kernel
theorem dX8_setOutside_25 : decode cX8_setOutside 25 = .ok (.getfield 123, 3) := by decide +kernel
theorem dX8_setOutside_28 : decode cX8_setOutside 28 = .ok (.istore_n 2, 1) := by decide +kernel
theorem dX8_setOutside_29 : decode cX8_setOutside 29 = .ok (.aload_n 0, 1) := by decide +kernel
theorem dX8_setOutside_30 : decode cX8_setOutside 30 = .ok (.getfield 22, 3) := by decide +kernel
theorem dX8_setOutside_33 : decode cX8_setOutside 33 = .ok (.iload_n 1, 1) := by decide +kernel
theorem dX8_setOutside_34 : decode cX8_setOutside 34 = .ok (.putfield 123, 3) := by decide +kernel
theorem dX8_setOutside_37 : decode cX8_setOutside 37 = .ok (.iload_n 2, 1) := by decide +kernel
theorem dX8_setOutside_38 : decode cX8_setOutside 38 = .ok (.ireturn, 1) := by decide +kernel
set_option maxRecDepth 20000 in
set_option maxRecDepth 100000 in
theorem ggX8_setOpen_X8_checkRange : GoodIn wsX8_setOpen wsX8_checkRange := goodIn_ca (goodIn_r _ [8, 9, 10] rfl (by decide +kernel)) (goodIn_sub (fun _ h => List.mem_cons_of_mem _ (List.mem_append_right _ h)) (by decide +kernel))
set_option maxRecDepth 20000 in
theorem gX8_setOpen_X8_checkRange : GoodIn wsX8_setOpen (va_wsS RX8 100 yX8_checkRange wsX8_checkRange) := goodIn_app (goodIn_of _ (by decide +kernel)) ggX8_setOpen_X8_checkRange
set_option maxRecDepth 20000 in
set_option maxRecDepth 100000 in
theorem ggX8_setOpen_X1_remember : GoodIn wsX8_setOpen wsX1_remember := goodIn_r _ [15, 16, 17, 18, 19, 20, 21, 22, 23, 24, 25, 26, 7, 27, 28, 29, 30, 31, 32, 33, 34, 35, 36, 37, 38, 39, 40, 41, 42, 43, 44, 45, 46, 47, 48, 49, 50, 51, 52, 53, 54, 55, 56, 57, 58, 59, 60, 61, 62, 63, 81, 82, 83, 76, 77, 78, 79, 80, 84, 85] rfl (by decide +kernel)
set_option maxRecDepth 20000 in
theorem gX8_setOpen_X1_remember : GoodIn wsX8_setOpen (wsV RX8 108 RX1 yX1_remember wsX1_remember) := goodIn_app (goodIn_of _ (by decide +kernel)) ggX8_setOpen_X1_remember
set_option maxRecDepth 20000 in
set_option maxRecDepth 100000 in
theorem ggX8_setOpen_X5_setBottom : GoodIn wsX8_setOpen wsX5_setBottom := goodIn_r _ [63, 39, 40, 76, 77, 78, 79, 80] rfl (by decide +kernel)
set_option maxRecDepth 20000 in
theorem gX8_setOpen_X5_setBottom : GoodIn wsX8_setOpen (wsV RX8 294 RX5 yX5_setBottom wsX5_setBottom) := goodIn_app (goodIn_of _ (by decide +kernel)) ggX8_setOpen_X5_setBottom
theorem dX8_setOpen_0 : decode cX8_setOpen 0 = .ok (.iload_n 1, 1) := by decide +kernel
theorem dX8_setOpen_1 : decode cX8_setOpen 1 = .ok (.sipush 1000, 3) := by decide +kernel
theorem dX8_setOpen_4 : decode cX8_setOpen 4 = .ok (.sipush 4000, 3) := by decide +kernel
theorem dX8_setOpen_7 : decode cX8_setOpen 7 = .ok (.invokestatic 100, 3) := by decide +kernel
theorem dX8_setOpen_10 : decode cX8_setOpen 10 = .ok (.aload_n 0, 1) := by decide +kernel
theorem dX8_setOpen_11 : decode cX8_setOpen 11 = .ok (.getfield 32, 3) := by decide +kernel
theorem dX8_setOpen_14 : decode cX8_setOpen 14 = .ok (.aload_n 0, 1) := by decide +kernel
theorem dX8_setOpen_15 : decode cX8_setOpen 15 = .ok (.getfield 22, 3) := by decide +kernel
theorem dX8_setOpen_18 : decode cX8_setOpen 18 = .ok (.invokevirtual 108, 3) := by decide +kernel
theorem dX8_setOpen_21 : decode cX8_setOpen 21 = .ok (.aload_n 0, 1) := by decide +kernel
theorem dX8_setOpen_22 : decode cX8_setOpen 22 = .ok (.getfield 22, 3) := by decide +kernel
theorem dX8_setOpen_25 : decode cX8_setOpen 25 = .ok (.getfield 126, 3) := by decide +kernel
theorem dX8_setOpen_28 : decode cX8_setOpen 28 = .ok (.ifCond .eq 9, 3) := by decide +kernel
theorem dX8_setOpen_31 : decode cX8_setOpen 31 = .ok (.sipush 5000, 3) := by decide +kernel
theorem dX8_setOpen_34 : decode cX8_setOpen 34 = .ok (.goto 10, 3) := by decide +kernel
theorem dX8_setOpen_37 : decode cX8_setOpen 37 = .ok (.aload_n 0, 1) := by decide +kernel
theorem dX8_setOpen_38 : decode cX8_setOpen 38 = .ok (.getfield 22, 3) := by decide +kernel
theorem dX8_setOpen_41 : decode cX8_setOpen 41 = .ok (.getfield 130, 3) := by decide +kernel
theorem dX8_setOpen_44 : decode cX8_setOpen 44 = .ok (.istore_n 2, 1) := by decide +kernel
theorem dX8_setOpen_45 : decode cX8_setOpen 45 = .ok (.aload_n 0, 1) := by decide +kernel
theorem dX8_setOpen_46 : decode cX8_setOpen 46 = .ok (.getfield 22, 3) := by decide +kernel
theorem dX8_setOpen_49 : decode cX8_setOpen 49 = .ok (.iconst 0, 1) := by decide +kernel
theorem dX8_setOpen_50 : decode cX8_setOpen 50 = .ok (.iload_n 1, 1) := by decide +kernel
theorem dX8_setOpen_51 : decode cX8_setOpen 51 = .ok (.invokevirtual 294, 3) := by decide +kernel
theorem dX8_setOpen_54 : decode cX8_setOpen 54 = .ok (.iload_n 2, 1) := by decide +kernel
theorem dX8_setOpen_55 : decode cX8_setOpen 55 = .ok (.ireturn, 1) := by decide +kernel
set_option maxRecDepth 20000 in
set_option maxRecDepth 100000 in
theorem ggX8_setMirror_X8_checkRange : GoodIn wsX8_setMirror wsX8_checkRange := goodIn_ca (goodIn_r _ [8, 9, 10] rfl (by decide +kernel)) (goodIn_sub (fun _ h => List.mem_cons_of_mem _ (List.mem_append_right _ h)) (by decide +kernel))
set_option maxRecDepth 20000 in
theorem gX8_setMirror_X8_checkRange : GoodIn wsX8_setMirror (va_wsS RX8 100 yX8_checkRange wsX8_checkRange) := goodIn_app (goodIn_of _ (by decide +kernel)) ggX8_setMirror_X8_checkRange
set_option maxRecDepth 20000 in
set_option maxRecDepth 100000 in
theorem ggX8_setMirror_X1_remember : GoodIn wsX8_setMirror wsX1_remember := goodIn_r _ [15, 16, 17, 18, 19, 20, 21, 22, 23, 24, 25, 26, 7, 27, 28, 29, 30, 31, 32, 33, 34, 35, 36, 37, 38, 39, 40, 41, 42, 43, 44, 45, 46, 47, 48, 49, 50, 51, 52, 53, 54, 55, 56, 57, 58, 59, 60, 61, 62, 63, 81, 82, 83, 76, 77, 78, 79, 80, 84, 85] rfl (by decide +kernel)
set_option maxRecDepth 20000 in
theorem gX8_setMirror_X1_remember : GoodIn wsX8_setMirror (wsV RX8 108 RX1 yX1_remember wsX1_remember) := goodIn_app (goodIn_of _ (by decide +kernel)) ggX8_setMirror_X1_remember
set_option maxRecDepth 20000 in
set_option maxRecDepth 100000 in
theorem ggX8_setMirror_X5_setBottom : GoodIn wsX8_setMirror wsX5_setBottom := goodIn_r _ [63, 39, 40, 76, 77, 78, 79, 80] rfl (by decide +kernel)
set_option maxRecDepth 20000 in
theorem gX8_setMirror_X5_setBottom : GoodIn wsX8_setMirror (wsV RX8 294 RX5 yX5_setBottom wsX5_setBottom) := goodIn_app (goodIn_of _ (by decide +kernel)) ggX8_setMirror_X5_setBottom
theorem dX8_setMirror_0 : decode cX8_setMirror 0 = .ok (.iload_n 1, 1) := by decide +kernel
theorem dX8_setMirror_1 : decode cX8_setMirror 1 = .ok (.iconst 0, 1) := by decide +kernel
theorem dX8_setMirror_2 : decode cX8_setMirror 2 = .ok (.bipush 100, 2) := by decide +kernel
theorem dX8_setMirror_4 : decode cX8_setMirror 4 = .ok (.invokestatic 100, 3) := by decide +kernel
theorem dX8_setMirror_7 : decode cX8_setMirror 7 = .ok (.aload_n 0, 1) := by decide +kernel
theorem dX8_setMirror_8 : decode cX8_setMirror 8 = .ok (.getfield 32, 3) := by decide +kernel
theorem dX8_setMirror_11 : decode cX8_setMirror 11 = .ok (.aload_n 0, 1) := by decide +kernel
theorem dX8_setMirror_12 : decode cX8_setMirror 12 = .ok (.getfield 22, 3) := by decide +kernel
theorem dX8_setMirror_15 : decode cX8_setMirror 15 = .ok (.invokevirtual 108, 3) := by decide +kernel
theorem dX8_setMirror_18 : decode cX8_setMirror 18 = .ok (.aload_n 0, 1) := by decide +kernel
theorem dX8_setMirror_19 : decode cX8_setMirror 19 = .ok (.getfield 22, 3) := by decide +kernel
theorem dX8_setMirror_22 : decode cX8_setMirror 22 = .ok (.getfield 126, 3) := by decide +kernel
theorem dX8_setMirror_25 : decode cX8_setMirror 25 = .ok (.ifCond .eq 13, 3) := by decide +kernel
theorem dX8_setMirror_28 : decode cX8_setMirror 28 = .ok (.aload_n 0, 1) := by decide +kernel
theorem dX8_setMirror_29 : decode cX8_setMirror 29 = .ok (.getfield 22, 3) := by decide +kernel
theorem dX8_setMirror_32 : decode cX8_setMirror 32 = .ok (.getfield 130, 3) := by decide +kernel
theorem dX8_setMirror_35 : decode cX8_setMirror 35 = .ok (.goto 4, 3) := by decide +kernel
theorem dX8_setMirror_38 : decode cX8_setMirror 38 = .ok (.iconst (-1), 1) := by decide +kernel
theorem dX8_setMirror_39 : decode cX8_setMirror 39 = .ok (.istore_n 2, 1) := by decide +kernel
theorem dX8_setMirror_40 : decode cX8_setMirror 40 = .ok (.aload_n 0, 1) := by decide +kernel
theorem dX8_setMirror_41 : decode cX8_setMirror 41 = .ok (.getfield 22, 3) := by decide +kernel
theorem dX8_setMirror_44 : decode cX8_setMirror 44 = .ok (.iconst 1, 1) := by decide +kernel
theorem dX8_setMirror_45 : decode cX8_setMirror 45 = .ok (.iload_n 1, 1) := by decide +kernel
theorem dX8_setMirror_46 : decode cX8_setMirror 46 = .ok (.invokevirtual 294, 3) := by decide +kernel
theorem dX8_setMirror_49 : decode cX8_setMirror 49 = .ok (.iload_n 2, 1) := by decide +kernel
theorem dX8_setMirror_50 : decode cX8_setMirror 50 = .ok (.ireturn, 1) := by decide +kernel
set_option maxRecDepth 20000 in
set_option maxRecDepth 100000 in
theorem ggX8_shoot_X8_checkLayer : GoodIn wsX8_shoot wsX8_checkLayer := goodIn_ca (goodIn_r _ [15, 16, 17, 3, 18, 19, 20, 21, 22, 23, 24, 102, 103, 104, 105, 106, 107, 108, 109, 110, 111, 112, 113, 114, 115, 116, 117, 118, 119] rfl (by decide +kernel)) (goodIn_sub (fun _ h => List.mem_cons_of_mem _ (List.mem_append_left _ (List.mem_append_right _ h))) (by decide +kernel))
set_option maxRecDepth 20000 in
theorem gX8_shoot_X8_checkLayer : GoodIn wsX8_shoot (wsV RX8 145 RX8 yX8_checkLayer wsX8_checkLayer) := goodIn_app (goodIn_of _ (by decide +kernel)) ggX8_shoot_X8_checkLayer
set_option maxRecDepth 20000 in
set_option maxRecDepth 100000 in
theorem ggX8_shoot_X5_indexAt : GoodIn wsX8_shoot wsX5_indexAt := goodIn_r _ [29, 30, 31, 32, 33, 34, 35, 36, 37, 22, 38, 39, 113, 114, 115, 116, 117, 118, 119] rfl (by decide +kernel)
set_option maxRecDepth 20000 in
theorem gX8_shoot_X5_indexAt : GoodIn wsX8_shoot (wsV RX8 220 RX5 yX5_indexAt wsX5_indexAt) := goodIn_app (goodIn_of _ (by decide +kernel)) ggX8_shoot_X5_indexAt
set_option maxRecDepth 20000 in
set_option maxRecDepth 100000 in
theorem ggX8_shoot_X8_checkRange : GoodIn wsX8_shoot wsX8_checkRange := goodIn_ca (goodIn_r _ [42, 43, 44] rfl (by decide +kernel)) (goodIn_sub (fun _ h => List.mem_cons_of_mem _ (List.mem_append_right _ h)) (by decide +kernel))
set_option maxRecDepth 20000 in
theorem gX8_shoot_X8_checkRange : GoodIn wsX8_shoot (va_wsS RX8 100 yX8_checkRange wsX8_checkRange) := goodIn_app (goodIn_of _ (by decide +kernel)) ggX8_shoot_X8_checkRange
set_option maxRecDepth 20000 in
set_option maxRecDepth 100000 in
theorem ggX8_shoot_X1_remember : GoodIn wsX8_shoot wsX1_remember := goodIn_r _ [49, 50, 51, 52, 53, 28, 54, 55, 5, 6, 7, 56, 14, 57, 58, 59, 60, 61, 62, 63, 64, 22, 31, 65, 30, 33, 34, 66, 67, 68, 69, 39, 24, 70, 71, 72, 73, 74, 75, 76, 77, 78, 79, 80, 81, 82, 83, 84, 85, 86, 120, 121, 122, 113, 114, 115, 116, 117, 118, 119] rfl (by decide +kernel)
set_option maxRecDepth 20000 in
theorem gX8_shoot_X1_remember : GoodIn wsX8_shoot (wsV RX8 108 RX1 yX1_remember wsX1_remember) := goodIn_app (goodIn_of _ (by decide +kernel)) ggX8_shoot_X1_remember
set_option maxRecDepth 20000 in
set_option maxRecDepth 100000 in
theorem ggX8_shoot_X7_insert : GoodIn wsX8_shoot wsX7_insert := goodIn_r _ [90, 24, 91, 92, 93, 22, 94, 95, 36, 37, 38, 39, 96, 97, 98, 99, 100, 14, 101, 118, 119] rfl (by decide +kernel)
set_option maxRecDepth 20000 in
theorem gX8_shoot_X7_insert : GoodIn wsX8_shoot (wsV RX8 79 RX7 yX7_insert wsX7_insert) := goodIn_app (goodIn_of _ (by decide +kernel)) ggX8_shoot_X7_insert
theorem dX8_shoot_0 : decode cX8_shoot 0 = .ok (.aload_n 0, 1) := by decide +kernel
theorem dX8_shoot_1 : decode cX8_shoot 1 = .ok (.iload_n 1, 1) := by decide +kernel
theorem dX8_shoot_2 : decode cX8_shoot 2 = .ok (.invokevirtual 145, 3) := by decide +kernel
theorem dX8_shoot_5 : decode cX8_shoot 5 = .ok (.iload_n 3, 1) := by decide +kernel
theorem dX8_shoot_6 : decode cX8_shoot 6 = .ok (.iconst 0, 1) := by decide +kernel
theorem dX8_shoot_7 : decode cX8_shoot 7 = .ok (.sipush 3999, 3) := by decide +kernel
theorem dX8_shoot_10 : decode cX8_shoot 10 = .ok (.aload_n 0, 1) := by decide +kernel
theorem dX8_shoot_11 : decode cX8_shoot 11 = .ok (.getfield 22, 3) := by decide +kernel
theorem dX8_shoot_14 : decode cX8_shoot 14 = .ok (.iload_n 1, 1) := by decide +kernel
theorem dX8_shoot_15 : decode cX8_shoot 15 = .ok (.invokevirtual 220, 3) := by decide +kernel
theorem dX8_shoot_18 : decode cX8_shoot 18 = .ok (.iconst 1, 1) := by decide +kernel
theorem dX8_shoot_19 : decode cX8_shoot 19 = .ok (.isub, 1) := by decide +kernel
theorem dX8_shoot_20 : decode cX8_shoot 20 = .ok (.invokestatic 298, 3) := by decide +kernel
theorem dX8_shoot_23 : decode cX8_shoot 23 = .ok (.invokestatic 100, 3) := by decide +kernel
theorem dX8_shoot_26 : decode cX8_shoot 26 = .ok (.aload_n 0, 1) := by decide +kernel
theorem dX8_shoot_27 : decode cX8_shoot 27 = .ok (.getfield 22, 3) := by decide +kernel
theorem dX8_shoot_30 : decode cX8_shoot 30 = .ok (.getfield 133, 3) := by decide +kernel
theorem dX8_shoot_33 : decode cX8_shoot 33 = .ok (.getfield 114, 3) := by decide +kernel
theorem dX8_shoot_36 : decode cX8_shoot 36 = .ok (.istore 4, 2) := by decide +kernel
theorem dX8_shoot_38 : decode cX8_shoot 38 = .ok (.iload 4, 2) := by decide +kernel
theorem dX8_shoot_40 : decode cX8_shoot 40 = .ok (.bipush 20, 2) := by decide +kernel
theorem dX8_shoot_42 : decode cX8_shoot 42 = .ok (.if_icmp .lt 14, 3) := by decide +kernel
theorem dX8_shoot_45 : decode cX8_shoot 45 = .ok (.new 89, 3) := by decide +kernel
theorem dX8_shoot_48 : decode cX8_shoot 48 = .ok (.dup, 1) := by decide +kernel
theorem dX8_shoot_49 : decode cX8_shoot 49 = .ok (.ldc_w 303, 3) := by decide +kernel
theorem dX8_shoot_52 : decode cX8_shoot 52 = .ok (.invokespecial 93, 3) := by decide +kernel
theorem dX8_shoot_55 : decode cX8_shoot 55 = .ok (.athrow, 1) := by decide +kernel
theorem dX8_shoot_56 : decode cX8_shoot 56 = .ok (.aload_n 0, 1) := by decide +kernel
theorem dX8_shoot_57 : decode cX8_shoot 57 = .ok (.getfield 32, 3) := by decide +kernel
theorem dX8_shoot_60 : decode cX8_shoot 60 = .ok (.aload_n 0, 1) := by decide +kernel
theorem dX8_shoot_61 : decode cX8_shoot 61 = .ok (.getfield 22, 3) := by decide +kernel
theorem dX8_shoot_64 : decode cX8_shoot 64 = .ok (.invokevirtual 108, 3) := by decide +kernel
theorem dX8_shoot_67 : decode cX8_shoot 67 = .ok (.aload_n 0, 1) := by decide +kernel
theorem dX8_shoot_68 : decode cX8_shoot 68 = .ok (.getfield 22, 3) := by decide +kernel
theorem dX8_shoot_71 : decode cX8_shoot 71 = .ok (.getfield 133, 3) := by decide +kernel
theorem dX8_shoot_74 : decode cX8_shoot 74 = .ok (.iload 4, 2) := by decide +kernel
theorem dX8_shoot_76 : decode cX8_shoot 76 = .ok (.iload_n 1, 1) := by decide +kernel
theorem dX8_shoot_77 : decode cX8_shoot 77 = .ok (.iload_n 2, 1) := by decide +kernel
theorem dX8_shoot_78 : decode cX8_shoot 78 = .ok (.ifCond .eq 7, 3) := by decide +kernel
theorem dX8_shoot_81 : decode cX8_shoot 81 = .ok (.iconst 1, 1) := by decide +kernel
theorem dX8_shoot_82 : decode cX8_shoot 82 = .ok (.goto 4, 3) := by decide +kernel
theorem dX8_shoot_85 : decode cX8_shoot 85 = .ok (.iconst 0, 1) := by decide +kernel
theorem dX8_shoot_86 : decode cX8_shoot 86 = .ok (.iload_n 3, 1) := by decide +kernel
theorem dX8_shoot_87 : decode cX8_shoot 87 = .ok (.invokevirtual 79, 3) := by decide +kernel
theorem dX8_shoot_90 : decode cX8_shoot 90 = .ok (.iload 4, 2) := by decide +kernel
theorem dX8_shoot_92 : decode cX8_shoot 92 = .ok (.ireturn, 1) := by decide +kernel
set_option maxRecDepth 20000 in
set_option maxRecDepth 100000 in
theorem ggX8_turn_X8_checkShot : GoodIn wsX8_turn wsX8_checkShot := goodIn_ca (goodIn_r _ [9, 10, 11, 2, 3, 12, 13, 14, 15, 16, 17, 201, 202, 203, 204, 205, 206, 207, 208, 209, 210, 211, 212, 213, 214, 215, 216, 235, 236] rfl (by decide +kernel)) (goodIn_sub (fun _ h => List.mem_cons_of_mem _ (List.mem_append_left _ (List.mem_append_right _ h))) (by decide +kernel))
set_option maxRecDepth 20000 in
theorem gX8_turn_X8_checkShot : GoodIn wsX8_turn (wsV RX8 152 RX8 yX8_checkShot wsX8_checkShot) := goodIn_app (goodIn_of _ (by decide +kernel)) ggX8_turn_X8_checkShot
set_option maxRecDepth 20000 in
set_option maxRecDepth 100000 in
theorem ggX8_turn_X8_checkRange : GoodIn wsX8_turn wsX8_checkRange := goodIn_ca (goodIn_r _ [20, 21, 22] rfl (by decide +kernel)) (goodIn_sub (fun _ h => List.mem_cons_of_mem _ (List.mem_append_right _ h)) (by decide +kernel))
set_option maxRecDepth 20000 in
theorem gX8_turn_X8_checkRange : GoodIn wsX8_turn (va_wsS RX8 100 yX8_checkRange wsX8_checkRange) := goodIn_app (goodIn_of _ (by decide +kernel)) ggX8_turn_X8_checkRange
set_option maxRecDepth 20000 in
set_option maxRecDepth 100000 in
theorem ggX8_turn_X1_remember : GoodIn wsX8_turn wsX1_remember := goodIn_r _ [27, 28, 29, 30, 31, 32, 33, 34, 35, 36, 37, 38, 8, 39, 40, 41, 42, 43, 44, 45, 46, 15, 47, 48, 49, 50, 51, 52, 53, 54, 55, 56, 17, 57, 58, 59, 60, 61, 62, 63, 64, 65, 66, 67, 68, 69, 70, 71, 72, 73, 237, 238, 239, 212, 213, 214, 215, 216, 235, 236] rfl (by decide +kernel)
set_option maxRecDepth 20000 in
theorem gX8_turn_X1_remember : GoodIn wsX8_turn (wsV RX8 108 RX1 yX1_remember wsX1_remember) := goodIn_app (goodIn_of _ (by decide +kernel)) ggX8_turn_X1_remember
set_option maxRecDepth 20000 in
set_option maxRecDepth 100000 in
theorem ggX8_turn_X7_set : GoodIn wsX8_turn wsX7_set := goodIn_r _ [77, 56, 78, 8, 79, 235, 236] rfl (by decide +kernel)
set_option maxRecDepth 20000 in
theorem gX8_turn_X7_set : GoodIn wsX8_turn (wsV RX8 274 RX7 yX7_set wsX7_set) := goodIn_app (goodIn_of _ (by decide +kernel)) ggX8_turn_X7_set
set_option maxRecDepth 20000 in
set_option maxRecDepth 100000 in
theorem ggX8_turn_X8_runOf : GoodIn wsX8_turn wsX8_runOf := goodIn_r _ [83, 3, 84, 85, 86, 87, 88, 89, 90, 91, 92, 93, 94, 95, 96, 32, 97, 49, 47, 98, 50, 51, 99, 100, 101, 15, 102, 56, 78, 8, 79, 103, 104, 105, 106, 107, 108, 109, 110, 111, 112, 113, 114, 115, 116, 117, 118, 119, 120, 121, 122, 123, 124, 125, 126, 127, 128, 129, 130, 131, 13, 14, 16, 17, 132, 133, 134, 135, 136, 137, 138, 139, 140, 141, 142, 143, 144, 145, 36, 146, 147, 148, 149, 150, 151, 152, 153, 154, 155, 156, 157, 158, 159, 160, 161, 162, 163, 164, 165, 166, 167, 168, 169, 170, 171, 172, 173, 174, 175, 176, 177, 178, 179, 180, 181, 182, 183, 184, 185, 186, 187, 188, 189, 190, 191, 192, 193, 194, 195, 196, 197, 198, 199, 200, 212, 213, 214, 215, 216, 201, 202, 203, 204, 205, 206, 207, 208, 209, 210, 211, 217, 218, 219, 220, 221, 222, 223, 224, 225, 226, 227, 228, 229, 230, 231, 232, 233, 234, 235, 236] rfl (by decide +kernel)
set_option maxRecDepth 20000 in
theorem gX8_turn_X8_runOf : GoodIn wsX8_turn (wsV RX8 155 RX8 yX8_runOf wsX8_runOf) := goodIn_app (goodIn_of _ (by decide +kernel)) ggX8_turn_X8_runOf
theorem dX8_turn_0 : decode cX8_turn 0 = .ok (.aload_n 0, 1) := by decide +kernel
theorem dX8_turn_1 : decode cX8_turn 1 = .ok (.iload_n 1, 1) := by decide +kernel
theorem dX8_turn_2 : decode cX8_turn 2 = .ok (.invokevirtual 152, 3) := by decide +kernel
theorem dX8_turn_5 : decode cX8_turn 5 = .ok (.iload_n 2, 1) := by decide +kernel
theorem dX8_turn_6 : decode cX8_turn 6 = .ok (.iconst 0, 1) := by decide +kernel
theorem dX8_turn_7 : decode cX8_turn 7 = .ok (.sipush 3999, 3) := by decide +kernel
theorem dX8_turn_10 : decode cX8_turn 10 = .ok (.invokestatic 100, 3) := by decide +kernel
theorem dX8_turn_13 : decode cX8_turn 13 = .ok (.aload_n 0, 1) := by decide +kernel
theorem dX8_turn_14 : decode cX8_turn 14 = .ok (.getfield 32, 3) := by decide +kernel
theorem dX8_turn_17 : decode cX8_turn 17 = .ok (.aload_n 0, 1) := by decide +kernel
theorem dX8_turn_18 : decode cX8_turn 18 = .ok (.getfield 22, 3) := by decide +kernel
theorem dX8_turn_21 : decode cX8_turn 21 = .ok (.invokevirtual 108, 3) := by decide +kernel
theorem dX8_turn_24 : decode cX8_turn 24 = .ok (.aload_n 0, 1) := by decide +kernel
theorem dX8_turn_25 : decode cX8_turn 25 = .ok (.getfield 22, 3) := by decide +kernel
theorem dX8_turn_28 : decode cX8_turn 28 = .ok (.getfield 133, 3) := by decide +kernel
theorem dX8_turn_31 : decode cX8_turn 31 = .ok (.iload_n 1, 1) := by decide +kernel
theorem dX8_turn_32 : decode cX8_turn 32 = .ok (.iconst 2, 1) := by decide +kernel
theorem dX8_turn_33 : decode cX8_turn 33 = .ok (.iload_n 2, 1) := by decide +kernel
theorem dX8_turn_34 : decode cX8_turn 34 = .ok (.invokevirtual 274, 3) := by decide +kernel
theorem dX8_turn_37 : decode cX8_turn 37 = .ok (.aload_n 0, 1) := by decide +kernel
theorem dX8_turn_38 : decode cX8_turn 38 = .ok (.aload_n 0, 1) := by decide +kernel
theorem dX8_turn_39 : decode cX8_turn 39 = .ok (.getfield 22, 3) := by decide +kernel
theorem dX8_turn_42 : decode cX8_turn 42 = .ok (.iload_n 1, 1) := by decide +kernel
theorem dX8_turn_43 : decode cX8_turn 43 = .ok (.invokevirtual 155, 3) := by decide +kernel
theorem dX8_turn_46 : decode cX8_turn 46 = .ok (.getfield 162, 3) := by decide +kernel
theorem dX8_turn_49 : decode cX8_turn 49 = .ok (.ireturn, 1) := by decide +kernel
set_option maxRecDepth 20000 in
set_option maxRecDepth 100000 in
theorem ggX8_dropShot_X8_checkShot : GoodIn wsX8_dropShot wsX8_checkShot := goodIn_ca (goodIn_r _ [9, 10, 11, 2, 3, 12, 13, 14, 15, 16, 17, 87, 88, 89, 90, 91, 92, 93, 94, 95, 96, 97, 98, 99, 100, 101, 102, 103, 104] rfl (by decide +kernel)) (goodIn_sub (fun _ h => List.mem_cons_of_mem _ (List.mem_append_right _ h)) (by decide +kernel))
set_option maxRecDepth 20000 in
theorem gX8_dropShot_X8_checkShot : GoodIn wsX8_dropShot (wsV RX8 152 RX8 yX8_checkShot wsX8_checkShot) := goodIn_app (goodIn_of _ (by decide +kernel)) ggX8_dropShot_X8_checkShot
set_option maxRecDepth 20000 in
set_option maxRecDepth 100000 in
theorem ggX8_dropShot_X1_remember : GoodIn wsX8_dropShot wsX1_remember := goodIn_r _ [22, 23, 24, 25, 26, 27, 28, 29, 30, 31, 32, 33, 8, 34, 35, 36, 37, 38, 39, 40, 41, 15, 42, 43, 44, 45, 46, 47, 48, 49, 50, 51, 17, 52, 53, 54, 55, 56, 57, 58, 59, 60, 61, 62, 63, 64, 65, 66, 67, 68, 105, 106, 107, 98, 99, 100, 101, 102, 103, 104] rfl (by decide +kernel)
set_option maxRecDepth 20000 in
theorem gX8_dropShot_X1_remember : GoodIn wsX8_dropShot (wsV RX8 108 RX1 yX1_remember wsX1_remember) := goodIn_app (goodIn_of _ (by decide +kernel)) ggX8_dropShot_X1_remember
set_option maxRecDepth 20000 in
set_option maxRecDepth 100000 in
theorem ggX8_dropShot_X7_remove : GoodIn wsX8_dropShot wsX7_remove := goodIn_r _ [72, 17, 73, 74, 75, 15, 76, 77, 78, 79, 80, 51, 81, 82, 83, 84, 85, 8, 86, 103, 104] rfl (by decide +kernel)
set_option maxRecDepth 20000 in
theorem gX8_dropShot_X7_remove : GoodIn wsX8_dropShot (wsV RX8 277 RX7 yX7_remove wsX7_remove) := goodIn_app (goodIn_of _ (by decide +kernel)) ggX8_dropShot_X7_remove
theorem dX8_dropShot_0 : decode cX8_dropShot 0 = .ok (.aload_n 0, 1) := by decide +kernel
theorem dX8_dropShot_1 : decode cX8_dropShot 1 = .ok (.iload_n 1, 1) := by decide +kernel
theorem dX8_dropShot_2 : decode cX8_dropShot 2 = .ok (.invokevirtual 152, 3) := by decide +kernel
theorem dX8_dropShot_5 : decode cX8_dropShot 5 = .ok (.aload_n 0, 1) := by decide +kernel
theorem dX8_dropShot_6 : decode cX8_dropShot 6 = .ok (.getfield 32, 3) := by decide +kernel
theorem dX8_dropShot_9 : decode cX8_dropShot 9 = .ok (.aload_n 0, 1) := by decide +kernel
theorem dX8_dropShot_10 : decode cX8_dropShot 10 = .ok (.getfield 22, 3) := by decide +kernel
theorem dX8_dropShot_13 : decode cX8_dropShot 13 = .ok (.invokevirtual 108, 3) := by decide +kernel
theorem dX8_dropShot_16 : decode cX8_dropShot 16 = .ok (.aload_n 0, 1) := by decide +kernel
theorem dX8_dropShot_17 : decode cX8_dropShot 17 = .ok (.getfield 22, 3) := by decide +kernel
theorem dX8_dropShot_20 : decode cX8_dropShot 20 = .ok (.getfield 133, 3) := by decide +kernel
theorem dX8_dropShot_23 : decode cX8_dropShot 23 = .ok (.iload_n 1, 1) := by decide +kernel
theorem dX8_dropShot_24 : decode cX8_dropShot 24 = .ok (.invokevirtual 277, 3) := by decide +kernel
theorem dX8_dropShot_27 : decode cX8_dropShot 27 = .ok (.aload_n 0, 1) := by decide +kernel
theorem dX8_dropShot_28 : decode cX8_dropShot 28 = .ok (.getfield 22, 3) := by decide +kernel
theorem dX8_dropShot_31 : decode cX8_dropShot 31 = .ok (.getfield 133, 3) := by decide +kernel
theorem dX8_dropShot_34 : decode cX8_dropShot 34 = .ok (.getfield 114, 3) := by decide +kernel
theorem dX8_dropShot_37 : decode cX8_dropShot 37 = .ok (.ireturn, 1) := by decide +kernel
theorem dX8_checkRange_0 : decode cX8_checkRange 0 = .ok (.iload_n 0, 1) := by decide +kernel
theorem dX8_checkRange_1 : decode cX8_checkRange 1 = .ok (.iload_n 1, 1) := by decide +kernel
theorem dX8_checkRange_2 : decode cX8_checkRange 2 = .ok (.if_icmp .lt 8, 3) := by decide +kernel
theorem dX8_checkRange_5 : decode cX8_checkRange 5 = .ok (.iload_n 0, 1) := by decide +kernel
theorem dX8_checkRange_6 : decode cX8_checkRange 6 = .ok (.iload_n 2, 1) := by decide +kernel
theorem dX8_checkRange_7 : decode cX8_checkRange 7 = .ok (.if_icmp .le 14, 3) := by decide +kernel
theorem dX8_checkRange_10 : decode cX8_checkRange 10 = .ok (.new 140, 3) := by decide +kernel
theorem dX8_checkRange_13 : decode cX8_checkRange 13 = .ok (.dup, 1) := by decide +kernel
theorem dX8_checkRange_14 : decode cX8_checkRange 14 = .ok (.ldc_w 347, 3) := by decide +kernel
theorem dX8_checkRange_17 : decode cX8_checkRange 17 = .ok (.invokespecial 144, 3) := by decide +kernel
theorem dX8_checkRange_20 : decode cX8_checkRange 20 = .ok (.athrow, 1) := by decide +kernel
theorem dX8_checkRange_21 : decode cX8_checkRange 21 = .ok (.return_, 1) := by decide +kernel
set_option maxRecDepth 20000 in
set_option maxRecDepth 100000 in
theorem ggX8_checkLayer_X7_has : GoodIn wsX8_checkLayer wsX7_has := goodIn_r _ [9, 10, 27, 28] rfl (by decide +kernel)
set_option maxRecDepth 20000 in
theorem gX8_checkLayer_X7_has : GoodIn wsX8_checkLayer (wsV RX8 351 RX7 yX7_has wsX7_has) := goodIn_app (goodIn_of _ (by decide +kernel)) ggX8_checkLayer_X7_has
theorem dX8_checkLayer_0 : decode cX8_checkLayer 0 = .ok (.aload_n 0, 1) := by decide +kernel
theorem dX8_checkLayer_1 : decode cX8_checkLayer 1 = .ok (.getfield 22, 3) := by decide +kernel
theorem dX8_checkLayer_4 : decode cX8_checkLayer 4 = .ok (.getfield 75, 3) := by decide +kernel
theorem dX8_checkLayer_7 : decode cX8_checkLayer 7 = .ok (.iload_n 1, 1) := by decide +kernel
theorem dX8_checkLayer_8 : decode cX8_checkLayer 8 = .ok (.invokevirtual 351, 3) := by decide +kernel
theorem dX8_checkLayer_11 : decode cX8_checkLayer 11 = .ok (.ifCond .ne 14, 3) := by decide +kernel
theorem dX8_checkLayer_14 : decode cX8_checkLayer 14 = .ok (.new 196, 3) := by decide +kernel
theorem dX8_checkLayer_17 : decode cX8_checkLayer 17 = .ok (.dup, 1) := by decide +kernel
theorem dX8_checkLayer_18 : decode cX8_checkLayer 18 = .ok (.ldc_w 354, 3) := by decide +kernel
theorem dX8_checkLayer_21 : decode cX8_checkLayer 21 = .ok (.invokespecial 200, 3) := by decide +kernel
theorem dX8_checkLayer_24 : decode cX8_checkLayer 24 = .ok (.athrow, 1) := by decide +kernel
theorem dX8_checkLayer_25 : decode cX8_checkLayer 25 = .ok (.return_, 1) := by decide +kernel
set_option maxRecDepth 20000 in
set_option maxRecDepth 100000 in
theorem ggX8_checkShot_X7_has : GoodIn wsX8_checkShot wsX7_has := goodIn_r _ [9, 10, 27, 28] rfl (by decide +kernel)
set_option maxRecDepth 20000 in
theorem gX8_checkShot_X7_has : GoodIn wsX8_checkShot (wsV RX8 351 RX7 yX7_has wsX7_has) := goodIn_app (goodIn_of _ (by decide +kernel)) ggX8_checkShot_X7_has
theorem dX8_checkShot_0 : decode cX8_checkShot 0 = .ok (.aload_n 0, 1) := by decide +kernel
theorem dX8_checkShot_1 : decode cX8_checkShot 1 = .ok (.getfield 22, 3) := by decide +kernel
theorem dX8_checkShot_4 : decode cX8_checkShot 4 = .ok (.getfield 133, 3) := by decide +kernel
theorem dX8_checkShot_7 : decode cX8_checkShot 7 = .ok (.iload_n 1, 1) := by decide +kernel
theorem dX8_checkShot_8 : decode cX8_checkShot 8 = .ok (.invokevirtual 351, 3) := by decide +kernel
theorem dX8_checkShot_11 : decode cX8_checkShot 11 = .ok (.ifCond .ne 14, 3) := by decide +kernel
theorem dX8_checkShot_14 : decode cX8_checkShot 14 = .ok (.new 196, 3) := by decide +kernel
theorem dX8_checkShot_17 : decode cX8_checkShot 17 = .ok (.dup, 1) := by decide +kernel
theorem dX8_checkShot_18 : decode cX8_checkShot 18 = .ok (.ldc_w 356, 3) := by decide +kernel
theorem dX8_checkShot_21 : decode cX8_checkShot 21 = .ok (.invokespecial 200, 3) := by decide +kernel
theorem dX8_checkShot_24 : decode cX8_checkShot 24 = .ok (.athrow, 1) := by decide +kernel
theorem dX8_checkShot_25 : decode cX8_checkShot 25 = .ok (.return_, 1) := by decide +kernel
set_option maxRecDepth 20000 in
set_option maxRecDepth 100000 in
theorem ggX8_checkLayerValue_X8_checkRange : GoodIn wsX8_checkLayerValue wsX8_checkRange := goodIn_ca (goodIn_r _ [6, 1, 2] rfl (by decide +kernel)) (goodIn_sub (fun _ h => List.mem_cons_of_mem _ (List.mem_append_right _ h)) (by decide +kernel))
set_option maxRecDepth 20000 in
theorem gX8_checkLayerValue_X8_checkRange : GoodIn wsX8_checkLayerValue (va_wsS RX8 100 yX8_checkRange wsX8_checkRange) := goodIn_app (goodIn_of _ (by decide +kernel)) ggX8_checkLayerValue_X8_checkRange
theorem dX8_checkLayerValue_0 : decode cX8_checkLayerValue 0 = .ok (.iload_n 0, 1) := by decide +kernel
theorem dX8_checkLayerValue_1 : decode cX8_checkLayerValue 1 = .ok (.tableswitch 61 0 2 #[27, 40, 51], 27) := by decide +kernel
theorem dX8_checkLayerValue_28 : decode cX8_checkLayerValue 28 = .ok (.iload_n 1, 1) := by decide +kernel
theorem dX8_checkLayerValue_29 : decode cX8_checkLayerValue 29 = .ok (.sipush 1000, 3) := by decide +kernel
theorem dX8_checkLayerValue_32 : decode cX8_checkLayerValue 32 = .ok (.sipush 4000, 3) := by decide +kernel
theorem dX8_checkLayerValue_35 : decode cX8_checkLayerValue 35 = .ok (.invokestatic 100, 3) := by decide +kernel
theorem dX8_checkLayerValue_38 : decode cX8_checkLayerValue 38 = .ok (.goto 35, 3) := by decide +kernel
theorem dX8_checkLayerValue_41 : decode cX8_checkLayerValue 41 = .ok (.iload_n 1, 1) := by decide +kernel
theorem dX8_checkLayerValue_42 : decode cX8_checkLayerValue 42 = .ok (.iconst 1, 1) := by decide +kernel
theorem dX8_checkLayerValue_43 : decode cX8_checkLayerValue 43 = .ok (.sipush 999, 3) := by decide +kernel
theorem dX8_checkLayerValue_46 : decode cX8_checkLayerValue 46 = .ok (.invokestatic 100, 3) := by decide +kernel
theorem dX8_checkLayerValue_49 : decode cX8_checkLayerValue 49 = .ok (.goto 24, 3) := by decide +kernel
theorem dX8_checkLayerValue_52 : decode cX8_checkLayerValue 52 = .ok (.iload_n 1, 1) := by decide +kernel
theorem dX8_checkLayerValue_53 : decode cX8_checkLayerValue 53 = .ok (.iconst 0, 1) := by decide +kernel
theorem dX8_checkLayerValue_54 : decode cX8_checkLayerValue 54 = .ok (.bipush 99, 2) := by decide +kernel
theorem dX8_checkLayerValue_56 : decode cX8_checkLayerValue 56 = .ok (.invokestatic 100, 3) := by decide +kernel
theorem dX8_checkLayerValue_59 : decode cX8_checkLayerValue 59 = .ok (.goto 14, 3) := by decide +kernel
theorem dX8_checkLayerValue_62 : decode cX8_checkLayerValue 62 = .ok (.new 140, 3) := by decide +kernel
theorem dX8_checkLayerValue_65 : decode cX8_checkLayerValue 65 = .ok (.dup, 1) := by decide +kernel
theorem dX8_checkLayerValue_66 : decode cX8_checkLayerValue 66 = .ok (.ldc_w 362, 3) := by decide +kernel
theorem dX8_checkLayerValue_69 : decode cX8_checkLayerValue 69 = .ok (.invokespecial 144, 3) := by decide +kernel
theorem dX8_checkLayerValue_72 : decode cX8_checkLayerValue 72 = .ok (.athrow, 1) := by decide +kernel
theorem dX8_checkLayerValue_73 : decode cX8_checkLayerValue 73 = .ok (.return_, 1) := by decide +kernel
set_option maxRecDepth 20000 in
set_option maxRecDepth 100000 in
theorem ggX8_runOf_X4_enter : GoodIn wsX8_runOf wsX4_enter := goodIn_r _ [7, 8, 9, 10, 11, 12, 13, 14, 15, 16, 17, 18, 19, 20, 21, 22, 23, 24, 25, 26, 27, 28, 29, 30, 150, 151, 152, 153, 154, 155, 156, 157, 158, 159, 160, 161, 162, 163, 164, 165, 166, 167, 134, 135, 136, 137, 138, 168, 169] rfl (by decide +kernel)
set_option maxRecDepth 20000 in
theorem gX8_runOf_X4_enter : GoodIn wsX8_runOf (wsV RX8 223 RX4 yX4_enter wsX4_enter) := goodIn_app (goodIn_of _ (by decide +kernel)) ggX8_runOf_X4_enter
set_option maxRecDepth 20000 in
set_option maxRecDepth 100000 in
theorem ggX8_runOf_X7_get : GoodIn wsX8_runOf wsX7_get := goodIn_r _ [26, 27, 168, 169] rfl (by decide +kernel)
set_option maxRecDepth 20000 in
theorem gX8_runOf_X7_get : GoodIn wsX8_runOf (wsV RX8 148 RX7 yX7_get wsX7_get) := goodIn_app (goodIn_of _ (by decide +kernel)) ggX8_runOf_X7_get
set_option maxRecDepth 20000 in
set_option maxRecDepth 100000 in
theorem ggX8_runOf_X4_run : GoodIn wsX8_runOf wsX4_run := goodIn_r _ [35, 36, 37, 38, 6, 39, 40, 41, 42, 43, 44, 45, 46, 47, 48, 49, 50, 8, 51, 52, 53, 54, 55, 56, 57, 15, 58, 18, 59, 60, 61, 25, 62, 63, 22, 23, 24, 26, 27, 64, 65, 66, 67, 68, 69, 70, 71, 72, 73, 74, 75, 76, 77, 78, 79, 9, 80, 81, 82, 83, 84, 85, 86, 87, 88, 29, 89, 90, 91, 92, 93, 94, 95, 96, 97, 98, 99, 28, 30, 100, 101, 102, 103, 104, 105, 106, 107, 108, 109, 110, 111, 11, 112, 113, 114, 115, 116, 117, 118, 119, 120, 121, 122, 123, 124, 20, 19, 125, 126, 127, 128, 129, 130, 131, 132, 133, 150, 151, 152, 153, 154, 155, 156, 157, 158, 159, 160, 161, 162, 163, 164, 165, 166, 167, 134, 135, 136, 137, 138, 168, 169] rfl (by decide +kernel)
set_option maxRecDepth 20000 in
theorem gX8_runOf_X4_run : GoodIn wsX8_runOf (wsV RX8 226 RX4 yX4_run wsX4_run) := goodIn_app (goodIn_of _ (by decide +kernel)) ggX8_runOf_X4_run
theorem dX8_runOf_0 : decode cX8_runOf 0 = .ok (.aload_n 1, 1) := by decide +kernel
theorem dX8_runOf_1 : decode cX8_runOf 1 = .ok (.getfield 133, 3) := by decide +kernel
theorem dX8_runOf_4 : decode cX8_runOf 4 = .ok (.astore_n 3, 1) := by decide +kernel
theorem dX8_runOf_5 : decode cX8_runOf 5 = .ok (.aload_n 0, 1) := by decide +kernel
theorem dX8_runOf_6 : decode cX8_runOf 6 = .ok (.getfield 45, 3) := by decide +kernel
theorem dX8_runOf_9 : decode cX8_runOf 9 = .ok (.aload_n 1, 1) := by decide +kernel
theorem dX8_runOf_10 : decode cX8_runOf 10 = .ok (.invokevirtual 223, 3) := by decide +kernel
theorem dX8_runOf_13 : decode cX8_runOf 13 = .ok (.aload_n 0, 1) := by decide +kernel
theorem dX8_runOf_14 : decode cX8_runOf 14 = .ok (.getfield 45, 3) := by decide +kernel
theorem dX8_runOf_17 : decode cX8_runOf 17 = .ok (.aload_n 3, 1) := by decide +kernel
theorem dX8_runOf_18 : decode cX8_runOf 18 = .ok (.iload_n 2, 1) := by decide +kernel
theorem dX8_runOf_19 : decode cX8_runOf 19 = .ok (.iconst 0, 1) := by decide +kernel
theorem dX8_runOf_20 : decode cX8_runOf 20 = .ok (.invokevirtual 148, 3) := by decide +kernel
theorem dX8_runOf_23 : decode cX8_runOf 23 = .ok (.aload_n 3, 1) := by decide +kernel
theorem dX8_runOf_24 : decode cX8_runOf 24 = .ok (.iload_n 2, 1) := by decide +kernel
theorem dX8_runOf_25 : decode cX8_runOf 25 = .ok (.iconst 1, 1) := by decide +kernel
theorem dX8_runOf_26 : decode cX8_runOf 26 = .ok (.invokevirtual 148, 3) := by decide +kernel
theorem dX8_runOf_29 : decode cX8_runOf 29 = .ok (.iconst 1, 1) := by decide +kernel
theorem dX8_runOf_30 : decode cX8_runOf 30 = .ok (.if_icmp .ne 7, 3) := by decide +kernel
theorem dX8_runOf_33 : decode cX8_runOf 33 = .ok (.iconst 1, 1) := by decide +kernel
theorem dX8_runOf_34 : decode cX8_runOf 34 = .ok (.goto 4, 3) := by decide +kernel
theorem dX8_runOf_37 : decode cX8_runOf 37 = .ok (.iconst 0, 1) := by decide +kernel
theorem dX8_runOf_38 : decode cX8_runOf 38 = .ok (.aload_n 3, 1) := by decide +kernel
theorem dX8_runOf_39 : decode cX8_runOf 39 = .ok (.iload_n 2, 1) := by decide +kernel
theorem dX8_runOf_40 : decode cX8_runOf 40 = .ok (.iconst 2, 1) := by decide +kernel
theorem dX8_runOf_41 : decode cX8_runOf 41 = .ok (.invokevirtual 148, 3) := by decide +kernel
theorem dX8_runOf_44 : decode cX8_runOf 44 = .ok (.invokevirtual 226, 3) := by decide +kernel
theorem dX8_runOf_47 : decode cX8_runOf 47 = .ok (.aload_n 0, 1) := by decide +kernel
theorem dX8_runOf_48 : decode cX8_runOf 48 = .ok (.getfield 45, 3) := by decide +kernel
theorem dX8_runOf_51 : decode cX8_runOf 51 = .ok (.areturn, 1) := by decide +kernel
set_option maxRecDepth 20000 in
set_option maxRecDepth 100000 in
theorem ggX8_pathOf_X7_get : GoodIn wsX8_pathOf wsX7_get := goodIn_r _ [7, 8, 167, 168] rfl (by decide +kernel)
set_option maxRecDepth 20000 in
theorem gX8_pathOf_X7_get : GoodIn wsX8_pathOf (wsV RX8 148 RX7 yX7_get wsX7_get) := goodIn_app (goodIn_of _ (by decide +kernel)) ggX8_pathOf_X7_get
set_option maxRecDepth 20000 in
set_option maxRecDepth 100000 in
theorem ggX8_pathOf_X3_trace : GoodIn wsX8_pathOf wsX3_trace := goodIn_r _ [13, 14, 15, 16, 17, 18, 19, 20, 21, 22, 23, 24, 25, 26, 27, 28, 29, 30, 31, 32, 33, 34, 35, 36, 37, 38, 39, 40, 41, 4, 5, 6, 7, 8, 42, 43, 44, 45, 46, 47, 48, 49, 50, 51, 52, 53, 54, 55, 56, 57, 58, 59, 60, 61, 62, 63, 64, 65, 66, 67, 68, 69, 70, 71, 72, 73, 74, 75, 76, 77, 78, 79, 80, 81, 82, 83, 12, 84, 85, 86, 87, 88, 89, 90, 91, 92, 93, 94, 95, 96, 97, 98, 99, 100, 101, 102, 103, 104, 105, 106, 107, 108, 109, 110, 111, 112, 113, 114, 115, 116, 117, 118, 119, 120, 121, 122, 123, 124, 125, 126, 127, 128, 129, 130, 131, 132, 133, 134, 135, 136, 137, 138, 139, 140, 141, 142, 143, 144, 145, 146, 147, 148, 149, 150, 169, 170, 171, 172, 173, 174, 175, 176, 177, 178, 179, 180, 181, 182, 183, 184, 185, 186, 187, 188, 189, 190, 162, 163, 164, 165, 166, 167, 168] rfl (by decide +kernel)
set_option maxRecDepth 20000 in
theorem gX8_pathOf_X3_trace : GoodIn wsX8_pathOf (wsV RX8 364 RX3 yX3_trace wsX3_trace) := goodIn_app (goodIn_of _ (by decide +kernel)) ggX8_pathOf_X3_trace
theorem dX8_pathOf_0 : decode cX8_pathOf 0 = .ok (.aload_n 0, 1) := by decide +kernel
theorem dX8_pathOf_1 : decode cX8_pathOf 1 = .ok (.getfield 22, 3) := by decide +kernel
theorem dX8_pathOf_4 : decode cX8_pathOf 4 = .ok (.getfield 133, 3) := by decide +kernel
theorem dX8_pathOf_7 : decode cX8_pathOf 7 = .ok (.astore_n 3, 1) := by decide +kernel
theorem dX8_pathOf_8 : decode cX8_pathOf 8 = .ok (.aload_n 1, 1) := by decide +kernel
theorem dX8_pathOf_9 : decode cX8_pathOf 9 = .ok (.aload_n 0, 1) := by decide +kernel
theorem dX8_pathOf_10 : decode cX8_pathOf 10 = .ok (.getfield 22, 3) := by decide +kernel
theorem dX8_pathOf_13 : decode cX8_pathOf 13 = .ok (.aload_n 3, 1) := by decide +kernel
theorem dX8_pathOf_14 : decode cX8_pathOf 14 = .ok (.iload_n 2, 1) := by decide +kernel
theorem dX8_pathOf_15 : decode cX8_pathOf 15 = .ok (.iconst 0, 1) := by decide +kernel
theorem dX8_pathOf_16 : decode cX8_pathOf 16 = .ok (.invokevirtual 148, 3) := by decide +kernel
theorem dX8_pathOf_19 : decode cX8_pathOf 19 = .ok (.aload_n 3, 1) := by decide +kernel
theorem dX8_pathOf_20 : decode cX8_pathOf 20 = .ok (.iload_n 2, 1) := by decide +kernel
theorem dX8_pathOf_21 : decode cX8_pathOf 21 = .ok (.iconst 1, 1) := by decide +kernel
theorem dX8_pathOf_22 : decode cX8_pathOf 22 = .ok (.invokevirtual 148, 3) := by decide +kernel
theorem dX8_pathOf_25 : decode cX8_pathOf 25 = .ok (.iconst 1, 1) := by decide +kernel
theorem dX8_pathOf_26 : decode cX8_pathOf 26 = .ok (.if_icmp .ne 7, 3) := by decide +kernel
theorem dX8_pathOf_29 : decode cX8_pathOf 29 = .ok (.iconst 1, 1) := by decide +kernel
theorem dX8_pathOf_30 : decode cX8_pathOf 30 = .ok (.goto 4, 3) := by decide +kernel
theorem dX8_pathOf_33 : decode cX8_pathOf 33 = .ok (.iconst 0, 1) := by decide +kernel
theorem dX8_pathOf_34 : decode cX8_pathOf 34 = .ok (.aload_n 3, 1) := by decide +kernel
theorem dX8_pathOf_35 : decode cX8_pathOf 35 = .ok (.iload_n 2, 1) := by decide +kernel
theorem dX8_pathOf_36 : decode cX8_pathOf 36 = .ok (.iconst 2, 1) := by decide +kernel
theorem dX8_pathOf_37 : decode cX8_pathOf 37 = .ok (.invokevirtual 148, 3) := by decide +kernel
theorem dX8_pathOf_40 : decode cX8_pathOf 40 = .ok (.invokevirtual 364, 3) := by decide +kernel
theorem dX8_pathOf_43 : decode cX8_pathOf 43 = .ok (.aload_n 1, 1) := by decide +kernel
theorem dX8_pathOf_44 : decode cX8_pathOf 44 = .ok (.areturn, 1) := by decide +kernel
set_option maxRecDepth 20000 in
set_option maxRecDepth 100000 in
theorem ggX8_legsAcross_X8_pathOf : GoodIn wsX8_legsAcross wsX8_pathOf := goodIn_r _ [9, 1, 2, 10, 11, 12, 13, 14, 15, 16, 17, 18, 19, 20, 21, 22, 23, 24, 25, 26, 27, 28, 29, 30, 31, 32, 33, 34, 35, 36, 37, 38, 39, 40, 41, 42, 43, 44, 45, 46, 47, 48, 49, 8, 50, 51, 52, 53, 54, 55, 56, 57, 58, 59, 60, 61, 62, 63, 64, 65, 66, 67, 68, 69, 70, 71, 72, 73, 74, 75, 76, 77, 78, 79, 80, 81, 82, 83, 84, 85, 86, 87, 88, 89, 90, 91, 92, 93, 94, 95, 96, 97, 98, 99, 100, 101, 102, 103, 104, 105, 106, 107, 108, 109, 110, 111, 112, 113, 114, 115, 116, 117, 118, 119, 120, 121, 122, 123, 124, 125, 126, 127, 128, 129, 130, 131, 132, 133, 134, 135, 136, 137, 138, 139, 140, 141, 142, 143, 144, 145, 146, 147, 148, 149, 150, 151, 152, 153, 154, 155, 156, 165, 166, 167, 168, 169, 170, 171, 172, 173, 174, 175, 176, 177, 178, 179, 180, 181, 182, 183, 184, 185, 186, 187, 188, 189, 190, 191, 192, 193, 194, 195, 196, 197, 198, 199, 200, 201, 202, 203, 204] rfl (by decide +kernel)
set_option maxRecDepth 20000 in
theorem gX8_legsAcross_X8_pathOf : GoodIn wsX8_legsAcross (wsV RX8 191 RX8 yX8_pathOf wsX8_pathOf) := goodIn_app (goodIn_of _ (by decide +kernel)) ggX8_legsAcross_X8_pathOf
set_option maxRecDepth 20000 in
set_option maxRecDepth 100000 in
theorem ggX8_legsAcross_X3_legsAcross : GoodIn wsX8_legsAcross wsX3_legsAcross := goodIn_r _ [160, 26, 161, 162, 163, 19, 164, 91, 108, 8, 109, 183, 184, 185, 186] rfl (by decide +kernel)
set_option maxRecDepth 20000 in
theorem gX8_legsAcross_X3_legsAcross : GoodIn wsX8_legsAcross (wsV RX8 368 RX3 yX3_legsAcross wsX3_legsAcross) := goodIn_app (goodIn_of _ (by decide +kernel)) ggX8_legsAcross_X3_legsAcross
theorem dX8_legsAcross_0 : decode cX8_legsAcross 0 = .ok (.iconst 0, 1) := by decide +kernel
theorem dX8_legsAcross_1 : decode cX8_legsAcross 1 = .ok (.istore_n 2, 1) := by decide +kernel
theorem dX8_legsAcross_2 : decode cX8_legsAcross 2 = .ok (.iconst 0, 1) := by decide +kernel
theorem dX8_legsAcross_3 : decode cX8_legsAcross 3 = .ok (.istore_n 3, 1) := by decide +kernel
theorem dX8_legsAcross_4 : decode cX8_legsAcross 4 = .ok (.iload_n 3, 1) := by decide +kernel
theorem dX8_legsAcross_5 : decode cX8_legsAcross 5 = .ok (.aload_n 0, 1) := by decide +kernel
theorem dX8_legsAcross_6 : decode cX8_legsAcross 6 = .ok (.getfield 22, 3) := by decide +kernel
theorem dX8_legsAcross_9 : decode cX8_legsAcross 9 = .ok (.getfield 133, 3) := by decide +kernel
theorem dX8_legsAcross_12 : decode cX8_legsAcross 12 = .ok (.getfield 114, 3) := by decide +kernel
theorem dX8_legsAcross_15 : decode cX8_legsAcross 15 = .ok (.if_icmp .ge 25, 3) := by decide +kernel
theorem dX8_legsAcross_18 : decode cX8_legsAcross 18 = .ok (.iload_n 2, 1) := by decide +kernel
theorem dX8_legsAcross_19 : decode cX8_legsAcross 19 = .ok (.aload_n 0, 1) := by decide +kernel
theorem dX8_legsAcross_20 : decode cX8_legsAcross 20 = .ok (.aload_n 0, 1) := by decide +kernel
theorem dX8_legsAcross_21 : decode cX8_legsAcross 21 = .ok (.getfield 52, 3) := by decide +kernel
theorem dX8_legsAcross_24 : decode cX8_legsAcross 24 = .ok (.iload_n 3, 1) := by decide +kernel
theorem dX8_legsAcross_25 : decode cX8_legsAcross 25 = .ok (.invokevirtual 191, 3) := by decide +kernel
theorem dX8_legsAcross_28 : decode cX8_legsAcross 28 = .ok (.iload_n 1, 1) := by decide +kernel
theorem dX8_legsAcross_29 : decode cX8_legsAcross 29 = .ok (.invokevirtual 368, 3) := by decide +kernel
theorem dX8_legsAcross_32 : decode cX8_legsAcross 32 = .ok (.iadd, 1) := by decide +kernel
theorem dX8_legsAcross_33 : decode cX8_legsAcross 33 = .ok (.istore_n 2, 1) := by decide +kernel
theorem dX8_legsAcross_34 : decode cX8_legsAcross 34 = .ok (.iinc 3 1, 3) := by decide +kernel
theorem dX8_legsAcross_37 : decode cX8_legsAcross 37 = .ok (.goto (-33), 3) := by decide +kernel
theorem dX8_legsAcross_40 : decode cX8_legsAcross 40 = .ok (.iload_n 2, 1) := by decide +kernel
theorem dX8_legsAcross_41 : decode cX8_legsAcross 41 = .ok (.ireturn, 1) := by decide +kernel
theorem dX8_at_0 : decode cX8_at 0 = .ok (.aload_n 0, 1) := by decide +kernel
theorem dX8_at_1 : decode cX8_at 1 = .ok (.ifnull 19, 3) := by decide +kernel
theorem dX8_at_4 : decode cX8_at 4 = .ok (.iload_n 1, 1) := by decide +kernel
theorem dX8_at_5 : decode cX8_at 5 = .ok (.ifCond .lt 15, 3) := by decide +kernel
theorem dX8_at_8 : decode cX8_at 8 = .ok (.iload_n 1, 1) := by decide +kernel
theorem dX8_at_9 : decode cX8_at 9 = .ok (.aload_n 0, 1) := by decide +kernel
theorem dX8_at_10 : decode cX8_at 10 = .ok (.arraylength, 1) := by decide +kernel
theorem dX8_at_11 : decode cX8_at 11 = .ok (.if_icmp .ge 9, 3) := by decide +kernel
theorem dX8_at_14 : decode cX8_at 14 = .ok (.aload_n 0, 1) := by decide +kernel
theorem dX8_at_15 : decode cX8_at 15 = .ok (.iload_n 1, 1) := by decide +kernel
theorem dX8_at_16 : decode cX8_at 16 = .ok (.iaload, 1) := by decide +kernel
theorem dX8_at_17 : decode cX8_at 17 = .ok (.goto 4, 3) := by decide +kernel
theorem dX8_at_20 : decode cX8_at 20 = .ok (.iconst 0, 1) := by decide +kernel
theorem dX8_at_21 : decode cX8_at 21 = .ok (.ireturn, 1) := by decide +kernel
theorem dX8_put_0 : decode cX8_put 0 = .ok (.aload_n 0, 1) := by decide +kernel
theorem dX8_put_1 : decode cX8_put 1 = .ok (.ifnull 17, 3) := by decide +kernel
theorem dX8_put_4 : decode cX8_put 4 = .ok (.iload_n 1, 1) := by decide +kernel
theorem dX8_put_5 : decode cX8_put 5 = .ok (.ifCond .lt 13, 3) := by decide +kernel
theorem dX8_put_8 : decode cX8_put 8 = .ok (.iload_n 1, 1) := by decide +kernel
theorem dX8_put_9 : decode cX8_put 9 = .ok (.aload_n 0, 1) := by decide +kernel
theorem dX8_put_10 : decode cX8_put 10 = .ok (.arraylength, 1) := by decide +kernel
theorem dX8_put_11 : decode cX8_put 11 = .ok (.if_icmp .ge 7, 3) := by decide +kernel
theorem dX8_put_14 : decode cX8_put 14 = .ok (.aload_n 0, 1) := by decide +kernel
theorem dX8_put_15 : decode cX8_put 15 = .ok (.iload_n 1, 1) := by decide +kernel
theorem dX8_put_16 : decode cX8_put 16 = .ok (.iload_n 2, 1) := by decide +kernel
theorem dX8_put_17 : decode cX8_put 17 = .ok (.iastore, 1) := by decide +kernel
theorem dX8_put_18 : decode cX8_put 18 = .ok (.return_, 1) := by decide +kernel
theorem dX8_sceneAt_0 : decode cX8_sceneAt 0 = .ok (.aload_n 0, 1) := by decide +kernel
theorem dX8_sceneAt_1 : decode cX8_sceneAt 1 = .ok (.ifnull 19, 3) := by decide +kernel
theorem dX8_sceneAt_4 : decode cX8_sceneAt 4 = .ok (.iload_n 1, 1) := by decide +kernel
theorem dX8_sceneAt_5 : decode cX8_sceneAt 5 = .ok (.ifCond .lt 15, 3) := by decide +kernel
theorem dX8_sceneAt_8 : decode cX8_sceneAt 8 = .ok (.iload_n 1, 1) := by decide +kernel
theorem dX8_sceneAt_9 : decode cX8_sceneAt 9 = .ok (.aload_n 0, 1) := by decide +kernel
theorem dX8_sceneAt_10 : decode cX8_sceneAt 10 = .ok (.arraylength, 1) := by decide +kernel
theorem dX8_sceneAt_11 : decode cX8_sceneAt 11 = .ok (.if_icmp .ge 9, 3) := by decide +kernel
theorem dX8_sceneAt_14 : decode cX8_sceneAt 14 = .ok (.aload_n 0, 1) := by decide +kernel
theorem dX8_sceneAt_15 : decode cX8_sceneAt 15 = .ok (.iload_n 1, 1) := by decide +kernel
theorem dX8_sceneAt_16 : decode cX8_sceneAt 16 = .ok (.aaload, 1) := by decide +kernel
theorem dX8_sceneAt_17 : decode cX8_sceneAt 17 = .ok (.goto 4, 3) := by decide +kernel
theorem dX8_sceneAt_20 : decode cX8_sceneAt 20 = .ok (.aconst_null, 1) := by decide +kernel
theorem dX8_sceneAt_21 : decode cX8_sceneAt 21 = .ok (.areturn, 1) := by decide +kernel
