theorem dX4_init_0 : decode cX4_init 0 = .ok (.aload_n 0, 1) := by decide +kernel
theorem dX4_init_1 : decode cX4_init 1 = .ok (.invokespecial 3, 3) := by decide +kernel
theorem dX4_init_4 : decode cX4_init 4 = .ok (.aload_n 0, 1) := by decide +kernel
theorem dX4_init_5 : decode cX4_init 5 = .ok (.bipush 12, 2) := by decide +kernel
theorem dX4_init_7 : decode cX4_init 7 = .ok (.newarray .int, 2) := by decide +kernel
theorem dX4_init_9 : decode cX4_init 9 = .ok (.putfield 9, 3) := by decide +kernel
theorem dX4_init_12 : decode cX4_init 12 = .ok (.aload_n 0, 1) := by decide +kernel
theorem dX4_init_13 : decode cX4_init 13 = .ok (.bipush 10, 2) := by decide +kernel
theorem dX4_init_15 : decode cX4_init 15 = .ok (.newarray .int, 2) := by decide +kernel
theorem dX4_init_17 : decode cX4_init 17 = .ok (.putfield 15, 3) := by decide +kernel
theorem dX4_init_20 : decode cX4_init 20 = .ok (.aload_n 0, 1) := by decide +kernel
theorem dX4_init_21 : decode cX4_init 21 = .ok (.bipush 10, 2) := by decide +kernel
theorem dX4_init_23 : decode cX4_init 23 = .ok (.newarray .int, 2) := by decide +kernel
theorem dX4_init_25 : decode cX4_init 25 = .ok (.putfield 18, 3) := by decide +kernel
theorem dX4_init_28 : decode cX4_init 28 = .ok (.aload_n 0, 1) := by decide +kernel
theorem dX4_init_29 : decode cX4_init 29 = .ok (.bipush 10, 2) := by decide +kernel
theorem dX4_init_31 : decode cX4_init 31 = .ok (.newarray .int, 2) := by decide +kernel
theorem dX4_init_33 : decode cX4_init 33 = .ok (.putfield 21, 3) := by decide +kernel
theorem dX4_init_36 : decode cX4_init 36 = .ok (.aload_n 0, 1) := by decide +kernel
theorem dX4_init_37 : decode cX4_init 37 = .ok (.aload_n 1, 1) := by decide +kernel
theorem dX4_init_38 : decode cX4_init 38 = .ok (.putfield 24, 3) := by decide +kernel
theorem dX4_init_41 : decode cX4_init 41 = .ok (.return_, 1) := by decide +kernel
set_option maxRecDepth 20000 in
set_option maxRecDepth 100000 in
theorem ggX4_enter_X5_indexAt : GoodIn wsX4_enter wsX5_indexAt := goodIn_r _ [9, 10, 11, 12, 13, 14, 15, 16, 17, 18, 19, 20, 42, 43, 44, 45, 46, 47, 48] rfl (by decide +kernel)
set_option maxRecDepth 20000 in
theorem gX4_enter_X5_indexAt : GoodIn wsX4_enter (wsV RX4 40 RX5 yX5_indexAt wsX5_indexAt) := goodIn_app (goodIn_of _ (by decide +kernel)) ggX4_enter_X5_indexAt
set_option maxRecDepth 20000 in
set_option maxRecDepth 100000 in
theorem ggX4_enter_X8_put : GoodIn wsX4_enter wsX8_put := goodIn_r _ [23] rfl (by decide +kernel)
set_option maxRecDepth 20000 in
theorem gX4_enter_X8_put_n44 : GoodIn wsX4_enter (wsX8_put) := ggX4_enter_X8_put
theorem dX4_enter_0 : decode cX4_enter 0 = .ok (.aload_n 0, 1) := by decide +kernel
theorem dX4_enter_1 : decode cX4_enter 1 = .ok (.aload_n 1, 1) := by decide +kernel
theorem dX4_enter_2 : decode cX4_enter 2 = .ok (.putfield 24, 3) := by decide +kernel
theorem dX4_enter_5 : decode cX4_enter 5 = .ok (.iconst (-1), 1) := by decide +kernel
theorem dX4_enter_6 : decode cX4_enter 6 = .ok (.istore_n 2, 1) := by decide +kernel
theorem dX4_enter_7 : decode cX4_enter 7 = .ok (.iload_n 2, 1) := by decide +kernel
theorem dX4_enter_8 : decode cX4_enter 8 = .ok (.aload_n 0, 1) := by decide +kernel
theorem dX4_enter_9 : decode cX4_enter 9 = .ok (.getfield 24, 3) := by decide +kernel
theorem dX4_enter_12 : decode cX4_enter 12 = .ok (.getfield 28, 3) := by decide +kernel
theorem dX4_enter_15 : decode cX4_enter 15 = .ok (.getfield 34, 3) := by decide +kernel
theorem dX4_enter_18 : decode cX4_enter 18 = .ok (.if_icmp .gt 27, 3) := by decide +kernel
theorem dX4_enter_21 : decode cX4_enter 21 = .ok (.aload_n 0, 1) := by decide +kernel
theorem dX4_enter_22 : decode cX4_enter 22 = .ok (.getfield 9, 3) := by decide +kernel
theorem dX4_enter_25 : decode cX4_enter 25 = .ok (.iload_n 2, 1) := by decide +kernel
theorem dX4_enter_26 : decode cX4_enter 26 = .ok (.iconst 1, 1) := by decide +kernel
theorem dX4_enter_27 : decode cX4_enter 27 = .ok (.iadd, 1) := by decide +kernel
theorem dX4_enter_28 : decode cX4_enter 28 = .ok (.aload_n 0, 1) := by decide +kernel
theorem dX4_enter_29 : decode cX4_enter 29 = .ok (.getfield 24, 3) := by decide +kernel
theorem dX4_enter_32 : decode cX4_enter 32 = .ok (.iload_n 2, 1) := by decide +kernel
theorem dX4_enter_33 : decode cX4_enter 33 = .ok (.invokevirtual 40, 3) := by decide +kernel
theorem dX4_enter_36 : decode cX4_enter 36 = .ok (.invokestatic 44, 3) := by decide +kernel
theorem dX4_enter_39 : decode cX4_enter 39 = .ok (.iinc 2 1, 3) := by decide +kernel
theorem dX4_enter_42 : decode cX4_enter 42 = .ok (.goto (-35), 3) := by decide +kernel
theorem dX4_enter_45 : decode cX4_enter 45 = .ok (.return_, 1) := by decide +kernel
set_option maxRecDepth 20000 in
set_option maxRecDepth 100000 in
theorem ggX4_run_X4_begin : GoodIn wsX4_run wsX4_begin := goodIn_r _ [5, 6, 7, 8, 9, 10, 11, 12, 13, 14, 15, 16, 17, 18, 19, 20, 21, 22, 23, 24, 25, 26, 27, 28, 29, 30, 31, 32, 33, 34, 35, 36, 37, 38, 39, 40, 41, 42, 116, 117, 118, 119, 120, 121, 122, 123, 124, 125, 126, 127, 128, 129, 130, 131, 132, 133, 134, 135, 136, 137, 138, 139, 140] rfl (by decide +kernel)
set_option maxRecDepth 20000 in
theorem gX4_run_X4_begin : GoodIn wsX4_run (wsV RX4 48 RX4 yX4_begin wsX4_begin) := goodIn_app (goodIn_of _ (by decide +kernel)) ggX4_run_X4_begin
set_option maxRecDepth 20000 in
set_option maxRecDepth 100000 in
theorem ggX4_run_X4_isUnderWay : GoodIn wsX4_run wsX4_isUnderWay := goodIn_r _ [46, 18, 116, 117, 118, 119, 120, 121, 122, 123, 124, 125, 126, 127, 128, 129, 130, 131, 132, 133] rfl (by decide +kernel)
set_option maxRecDepth 20000 in
theorem gX4_run_X4_isUnderWay : GoodIn wsX4_run (wsV RX4 52 RX4 yX4_isUnderWay wsX4_isUnderWay) := goodIn_app (goodIn_of _ (by decide +kernel)) ggX4_run_X4_isUnderWay
set_option maxRecDepth 20000 in
set_option maxRecDepth 100000 in
theorem ggX4_run_X4_cross : GoodIn wsX4_run wsX4_cross := goodIn_r _ [50, 6, 9, 10, 11, 12, 16, 51, 52, 53, 54, 20, 17, 55, 56, 57, 58, 59, 60, 61, 62, 4, 63, 21, 64, 65, 66, 67, 68, 69, 70, 8, 71, 72, 73, 35, 36, 31, 37, 38, 74, 75, 76, 77, 78, 79, 80, 81, 82, 83, 84, 85, 86, 116, 117, 118, 119, 120, 121, 122, 123, 124, 125, 126, 127, 128, 129, 130, 131, 132, 133, 134, 135, 136, 137, 138, 139, 140] rfl (by decide +kernel)
set_option maxRecDepth 20000 in
theorem gX4_run_X4_cross : GoodIn wsX4_run (wsV RX4 56 RX4 yX4_cross wsX4_cross) := goodIn_app (goodIn_of _ (by decide +kernel)) ggX4_run_X4_cross
set_option maxRecDepth 20000 in
set_option maxRecDepth 100000 in
theorem ggX4_run_X4_goOn : GoodIn wsX4_run wsX4_goOn := goodIn_r _ [90, 20, 7, 6, 91, 8, 17, 55, 9, 92, 93, 94, 4, 95, 18, 64, 65, 66, 96, 29, 30, 31, 32, 33, 97, 98, 99, 100, 15, 101, 102, 103, 25, 104, 105, 27, 106, 107, 108, 109, 110, 14, 111, 112, 113, 114, 115, 13, 116, 117, 118, 119, 120, 121, 122, 123, 124, 125, 126, 127, 128, 129, 130, 131, 132, 133, 134, 135, 136, 137, 138, 139, 140] rfl (by decide +kernel)
set_option maxRecDepth 20000 in
theorem gX4_run_X4_goOn : GoodIn wsX4_run (wsV RX4 59 RX4 yX4_goOn wsX4_goOn) := goodIn_app (goodIn_of _ (by decide +kernel)) ggX4_run_X4_goOn
theorem dX4_run_0 : decode cX4_run 0 = .ok (.aload_n 0, 1) := by decide +kernel
theorem dX4_run_1 : decode cX4_run 1 = .ok (.iload_n 1, 1) := by decide +kernel
theorem dX4_run_2 : decode cX4_run 2 = .ok (.iload_n 2, 1) := by decide +kernel
theorem dX4_run_3 : decode cX4_run 3 = .ok (.iload_n 3, 1) := by decide +kernel
theorem dX4_run_4 : decode cX4_run 4 = .ok (.invokevirtual 48, 3) := by decide +kernel
theorem dX4_run_7 : decode cX4_run 7 = .ok (.iconst 0, 1) := by decide +kernel
theorem dX4_run_8 : decode cX4_run 8 = .ok (.istore 4, 2) := by decide +kernel
theorem dX4_run_10 : decode cX4_run 10 = .ok (.iload 4, 2) := by decide +kernel
theorem dX4_run_12 : decode cX4_run 12 = .ok (.bipush 60, 2) := by decide +kernel
theorem dX4_run_14 : decode cX4_run 14 = .ok (.if_icmp .ge 25, 3) := by decide +kernel
theorem dX4_run_17 : decode cX4_run 17 = .ok (.aload_n 0, 1) := by decide +kernel
theorem dX4_run_18 : decode cX4_run 18 = .ok (.invokevirtual 52, 3) := by decide +kernel
theorem dX4_run_21 : decode cX4_run 21 = .ok (.ifCond .eq 18, 3) := by decide +kernel
theorem dX4_run_24 : decode cX4_run 24 = .ok (.aload_n 0, 1) := by decide +kernel
theorem dX4_run_25 : decode cX4_run 25 = .ok (.invokevirtual 56, 3) := by decide +kernel
theorem dX4_run_28 : decode cX4_run 28 = .ok (.aload_n 0, 1) := by decide +kernel
theorem dX4_run_29 : decode cX4_run 29 = .ok (.invokevirtual 59, 3) := by decide +kernel
theorem dX4_run_32 : decode cX4_run 32 = .ok (.pop, 1) := by decide +kernel
theorem dX4_run_33 : decode cX4_run 33 = .ok (.iinc 4 1, 3) := by decide +kernel
theorem dX4_run_36 : decode cX4_run 36 = .ok (.goto (-26), 3) := by decide +kernel
theorem dX4_run_39 : decode cX4_run 39 = .ok (.return_, 1) := by decide +kernel
set_option maxRecDepth 20000 in
set_option maxRecDepth 100000 in
theorem ggX4_begin_X5_canBegin : GoodIn wsX4_begin wsX5_canBegin := goodIn_r _ [21, 22, 23, 24, 25, 26, 27, 28, 29, 30, 31, 32, 33, 56, 57, 58, 59, 60, 61, 62] rfl (by decide +kernel)
set_option maxRecDepth 20000 in
theorem gX4_begin_X5_canBegin : GoodIn wsX4_begin (wsV RX4 97 RX5 yX5_canBegin wsX5_canBegin) := goodIn_app (goodIn_of _ (by decide +kernel)) ggX4_begin_X5_canBegin
set_option maxRecDepth 20000 in
set_option maxRecDepth 100000 in
theorem ggX4_begin_J7_fill_53178 : GoodIn wsX4_begin wsJ7_fill_53178 := goodIn_r _ [37] rfl (by decide +kernel)
set_option maxRecDepth 20000 in
theorem gX4_begin_J7_fill_53178 : GoodIn wsX4_begin (va_wsS RX4 108 yJ7_fill_53178 wsJ7_fill_53178) := goodIn_app (goodIn_of _ (by decide +kernel)) ggX4_begin_J7_fill_53178
theorem dX4_begin_0 : decode cX4_begin 0 = .ok (.aload_n 0, 1) := by decide +kernel
theorem dX4_begin_1 : decode cX4_begin 1 = .ok (.iload_n 1, 1) := by decide +kernel
theorem dX4_begin_2 : decode cX4_begin 2 = .ok (.putfield 63, 3) := by decide +kernel
theorem dX4_begin_5 : decode cX4_begin 5 = .ok (.aload_n 0, 1) := by decide +kernel
theorem dX4_begin_6 : decode cX4_begin 6 = .ok (.iload_n 2, 1) := by decide +kernel
theorem dX4_begin_7 : decode cX4_begin 7 = .ok (.putfield 66, 3) := by decide +kernel
theorem dX4_begin_10 : decode cX4_begin 10 = .ok (.aload_n 0, 1) := by decide +kernel
theorem dX4_begin_11 : decode cX4_begin 11 = .ok (.iload_n 3, 1) := by decide +kernel
theorem dX4_begin_12 : decode cX4_begin 12 = .ok (.putfield 70, 3) := by decide +kernel
theorem dX4_begin_15 : decode cX4_begin 15 = .ok (.aload_n 0, 1) := by decide +kernel
theorem dX4_begin_16 : decode cX4_begin 16 = .ok (.iconst 0, 1) := by decide +kernel
theorem dX4_begin_17 : decode cX4_begin 17 = .ok (.putfield 73, 3) := by decide +kernel
theorem dX4_begin_20 : decode cX4_begin 20 = .ok (.aload_n 0, 1) := by decide +kernel
theorem dX4_begin_21 : decode cX4_begin 21 = .ok (.iconst 0, 1) := by decide +kernel
theorem dX4_begin_22 : decode cX4_begin 22 = .ok (.putfield 76, 3) := by decide +kernel
theorem dX4_begin_25 : decode cX4_begin 25 = .ok (.aload_n 0, 1) := by decide +kernel
theorem dX4_begin_26 : decode cX4_begin 26 = .ok (.iconst 0, 1) := by decide +kernel
theorem dX4_begin_27 : decode cX4_begin 27 = .ok (.putfield 79, 3) := by decide +kernel
theorem dX4_begin_30 : decode cX4_begin 30 = .ok (.aload_n 0, 1) := by decide +kernel
theorem dX4_begin_31 : decode cX4_begin 31 = .ok (.iconst 0, 1) := by decide +kernel
theorem dX4_begin_32 : decode cX4_begin 32 = .ok (.putfield 82, 3) := by decide +kernel
theorem dX4_begin_35 : decode cX4_begin 35 = .ok (.aload_n 0, 1) := by decide +kernel
theorem dX4_begin_36 : decode cX4_begin 36 = .ok (.iconst 0, 1) := by decide +kernel
theorem dX4_begin_37 : decode cX4_begin 37 = .ok (.putfield 85, 3) := by decide +kernel
theorem dX4_begin_40 : decode cX4_begin 40 = .ok (.aload_n 0, 1) := by decide +kernel
theorem dX4_begin_41 : decode cX4_begin 41 = .ok (.iconst 0, 1) := by decide +kernel
theorem dX4_begin_42 : decode cX4_begin 42 = .ok (.putfield 88, 3) := by decide +kernel
theorem dX4_begin_45 : decode cX4_begin 45 = .ok (.aload_n 0, 1) := by decide +kernel
theorem dX4_begin_46 : decode cX4_begin 46 = .ok (.iconst 0, 1) := by decide +kernel
theorem dX4_begin_47 : decode cX4_begin 47 = .ok (.putfield 91, 3) := by decide +kernel
theorem dX4_begin_50 : decode cX4_begin 50 = .ok (.aload_n 0, 1) := by decide +kernel
theorem dX4_begin_51 : decode cX4_begin 51 = .ok (.iconst (-1), 1) := by decide +kernel
theorem dX4_begin_52 : decode cX4_begin 52 = .ok (.putfield 94, 3) := by decide +kernel
theorem dX4_begin_55 : decode cX4_begin 55 = .ok (.aload_n 0, 1) := by decide +kernel
theorem dX4_begin_56 : decode cX4_begin 56 = .ok (.getfield 24, 3) := by decide +kernel
theorem dX4_begin_59 : decode cX4_begin 59 = .ok (.aload_n 0, 1) := by decide +kernel
theorem dX4_begin_60 : decode cX4_begin 60 = .ok (.getfield 63, 3) := by decide +kernel
theorem dX4_begin_63 : decode cX4_begin 63 = .ok (.aload_n 0, 1) := by decide +kernel
theorem dX4_begin_64 : decode cX4_begin 64 = .ok (.getfield 70, 3) := by decide +kernel
theorem dX4_begin_67 : decode cX4_begin 67 = .ok (.invokevirtual 97, 3) := by decide +kernel
theorem dX4_begin_70 : decode cX4_begin 70 = .ok (.istore 4, 2) := by decide +kernel
theorem dX4_begin_72 : decode cX4_begin 72 = .ok (.aload_n 0, 1) := by decide +kernel
theorem dX4_begin_73 : decode cX4_begin 73 = .ok (.iload 4, 2) := by decide +kernel
theorem dX4_begin_75 : decode cX4_begin 75 = .ok (.ifCond .eq 7, 3) := by decide +kernel
theorem dX4_begin_78 : decode cX4_begin 78 = .ok (.iconst (-1), 1) := by decide +kernel
theorem dX4_begin_79 : decode cX4_begin 79 = .ok (.goto 4, 3) := by decide +kernel
theorem dX4_begin_82 : decode cX4_begin 82 = .ok (.iconst 4, 1) := by decide +kernel
theorem dX4_begin_83 : decode cX4_begin 83 = .ok (.putfield 101, 3) := by decide +kernel
theorem dX4_begin_86 : decode cX4_begin 86 = .ok (.aload_n 0, 1) := by decide +kernel
theorem dX4_begin_87 : decode cX4_begin 87 = .ok (.iload 4, 2) := by decide +kernel
theorem dX4_begin_89 : decode cX4_begin 89 = .ok (.ifCond .eq 8, 3) := by decide +kernel
theorem dX4_begin_92 : decode cX4_begin 92 = .ok (.ldc 104, 2) := by decide +kernel
theorem dX4_begin_94 : decode cX4_begin 94 = .ok (.goto 4, 3) := by decide +kernel
theorem dX4_begin_97 : decode cX4_begin 97 = .ok (.iconst 0, 1) := by decide +kernel
theorem dX4_begin_98 : decode cX4_begin 98 = .ok (.putfield 105, 3) := by decide +kernel
theorem dX4_begin_101 : decode cX4_begin 101 = .ok (.aload_n 0, 1) := by decide +kernel
theorem dX4_begin_102 : decode cX4_begin 102 = .ok (.getfield 21, 3) := by decide +kernel
theorem dX4_begin_105 : decode cX4_begin 105 = .ok (.iconst 0, 1) := by decide +kernel
theorem dX4_begin_106 : decode cX4_begin 106 = .ok (.invokestatic 108, 3) := by decide +kernel
theorem dX4_begin_109 : decode cX4_begin 109 = .ok (.return_, 1) := by decide +kernel
theorem dX4_isUnderWay_0 : decode cX4_isUnderWay 0 = .ok (.aload_n 0, 1) := by decide +kernel
theorem dX4_isUnderWay_1 : decode cX4_isUnderWay 1 = .ok (.getfield 101, 3) := by decide +kernel
theorem dX4_isUnderWay_4 : decode cX4_isUnderWay 4 = .ok (.iconst (-1), 1) := by decide +kernel
theorem dX4_isUnderWay_5 : decode cX4_isUnderWay 5 = .ok (.if_icmp .ne 7, 3) := by decide +kernel
theorem dX4_isUnderWay_8 : decode cX4_isUnderWay 8 = .ok (.iconst 1, 1) := by decide +kernel
theorem dX4_isUnderWay_9 : decode cX4_isUnderWay 9 = .ok (.goto 4, 3) := by decide +kernel
theorem dX4_isUnderWay_12 : decode cX4_isUnderWay 12 = .ok (.iconst 0, 1) := by decide +kernel
theorem dX4_isUnderWay_13 : decode cX4_isUnderWay 13 = .ok (.ireturn, 1) := by decide +kernel
set_option maxRecDepth 20000 in
set_option maxRecDepth 100000 in
theorem ggX4_shiftIn_X8_at : GoodIn wsX4_shiftIn wsX8_at := goodIn_r _ [4] rfl (by decide +kernel)
set_option maxRecDepth 20000 in
theorem gX4_shiftIn_X8_at_n114 : GoodIn wsX4_shiftIn (wsX8_at) := ggX4_shiftIn_X8_at
theorem dX4_shiftIn_0 : decode cX4_shiftIn 0 = .ok (.aload_n 0, 1) := by decide +kernel
theorem dX4_shiftIn_1 : decode cX4_shiftIn 1 = .ok (.getfield 15, 3) := by decide +kernel
theorem dX4_shiftIn_4 : decode cX4_shiftIn 4 = .ok (.iload_n 1, 1) := by decide +kernel
theorem dX4_shiftIn_5 : decode cX4_shiftIn 5 = .ok (.invokestatic 114, 3) := by decide +kernel
theorem dX4_shiftIn_8 : decode cX4_shiftIn 8 = .ok (.ireturn, 1) := by decide +kernel
set_option maxRecDepth 20000 in
set_option maxRecDepth 100000 in
theorem ggX4_lengthIn_X8_at : GoodIn wsX4_lengthIn wsX8_at := goodIn_r _ [4] rfl (by decide +kernel)
set_option maxRecDepth 20000 in
theorem gX4_lengthIn_X8_at_n114 : GoodIn wsX4_lengthIn (wsX8_at) := ggX4_lengthIn_X8_at
theorem dX4_lengthIn_0 : decode cX4_lengthIn 0 = .ok (.aload_n 0, 1) := by decide +kernel
theorem dX4_lengthIn_1 : decode cX4_lengthIn 1 = .ok (.getfield 18, 3) := by decide +kernel
theorem dX4_lengthIn_4 : decode cX4_lengthIn 4 = .ok (.iload_n 1, 1) := by decide +kernel
theorem dX4_lengthIn_5 : decode cX4_lengthIn 5 = .ok (.invokestatic 114, 3) := by decide +kernel
theorem dX4_lengthIn_8 : decode cX4_lengthIn 8 = .ok (.ireturn, 1) := by decide +kernel
set_option maxRecDepth 20000 in
set_option maxRecDepth 100000 in
theorem ggX4_timeIn_X8_at : GoodIn wsX4_timeIn wsX8_at := goodIn_r _ [4] rfl (by decide +kernel)
set_option maxRecDepth 20000 in
theorem gX4_timeIn_X8_at_n114 : GoodIn wsX4_timeIn (wsX8_at) := ggX4_timeIn_X8_at
theorem dX4_timeIn_0 : decode cX4_timeIn 0 = .ok (.aload_n 0, 1) := by decide +kernel
theorem dX4_timeIn_1 : decode cX4_timeIn 1 = .ok (.getfield 21, 3) := by decide +kernel
theorem dX4_timeIn_4 : decode cX4_timeIn 4 = .ok (.iload_n 1, 1) := by decide +kernel
theorem dX4_timeIn_5 : decode cX4_timeIn 5 = .ok (.invokestatic 114, 3) := by decide +kernel
theorem dX4_timeIn_8 : decode cX4_timeIn 8 = .ok (.ireturn, 1) := by decide +kernel
set_option maxRecDepth 20000 in
set_option maxRecDepth 100000 in
theorem ggX4_cross_X4_timeIn : GoodIn wsX4_cross wsX4_timeIn := goodIn_r _ [22, 23, 24, 25, 26, 53, 54, 55, 56, 57, 58, 59, 60, 61, 62, 63, 64, 65, 66, 67, 68, 69, 70] rfl (by decide +kernel)
set_option maxRecDepth 20000 in
theorem gX4_cross_X4_timeIn : GoodIn wsX4_cross (wsV RX4 118 RX4 yX4_timeIn wsX4_timeIn) := goodIn_app (goodIn_of _ (by decide +kernel)) ggX4_cross_X4_timeIn
set_option maxRecDepth 20000 in
set_option maxRecDepth 100000 in
theorem ggX4_cross_X4_measure : GoodIn wsX4_cross wsX4_measure := goodIn_r _ [30, 12, 13, 1, 31, 32, 33, 23, 34, 35, 36, 37, 38, 39, 40, 41, 21, 42, 43, 25, 44, 53, 54, 55, 56, 57, 58, 59, 60, 61, 62, 63, 64, 65, 66, 67, 68, 69, 70, 71, 72, 73, 74, 75, 76, 77] rfl (by decide +kernel)
set_option maxRecDepth 20000 in
theorem gX4_cross_X4_measure : GoodIn wsX4_cross (wsV RX4 121 RX4 yX4_measure wsX4_measure) := goodIn_app (goodIn_of _ (by decide +kernel)) ggX4_cross_X4_measure
set_option maxRecDepth 20000 in
set_option maxRecDepth 100000 in
theorem ggX4_cross_X4_lengthIn : GoodIn wsX4_cross wsX4_lengthIn := goodIn_r _ [48, 33, 24, 25, 26, 53, 54, 55, 56, 57, 58, 59, 60, 61, 62, 63, 64, 65, 66, 67, 68, 69, 70] rfl (by decide +kernel)
set_option maxRecDepth 20000 in
theorem gX4_cross_X4_lengthIn : GoodIn wsX4_cross (wsV RX4 124 RX4 yX4_lengthIn wsX4_lengthIn) := goodIn_app (goodIn_of _ (by decide +kernel)) ggX4_cross_X4_lengthIn
set_option maxRecDepth 20000 in
set_option maxRecDepth 100000 in
theorem ggX4_cross_X4_shiftIn : GoodIn wsX4_cross wsX4_shiftIn := goodIn_r _ [52, 32, 24, 25, 26, 53, 54, 55, 56, 57, 58, 59, 60, 61, 62, 63, 64, 65, 66, 67, 68, 69, 70] rfl (by decide +kernel)
set_option maxRecDepth 20000 in
theorem gX4_cross_X4_shiftIn : GoodIn wsX4_cross (wsV RX4 127 RX4 yX4_shiftIn wsX4_shiftIn) := goodIn_app (goodIn_of _ (by decide +kernel)) ggX4_cross_X4_shiftIn
set_option maxRecDepth 20000 in
set_option maxRecDepth 100000 in
theorem ggX4_cross_X7_get : GoodIn wsX4_cross wsX7_get := goodIn_r _ [38, 39, 76, 77] rfl (by decide +kernel)
set_option maxRecDepth 20000 in
theorem gX4_cross_X7_get : GoodIn wsX4_cross (wsV RX4 136 RX7 yX7_get wsX7_get) := goodIn_app (goodIn_of _ (by decide +kernel)) ggX4_cross_X7_get
theorem dX4_cross_0 : decode cX4_cross 0 = .ok (.aload_n 0, 1) := by decide +kernel
theorem dX4_cross_1 : decode cX4_cross 1 = .ok (.aload_n 0, 1) := by decide +kernel
theorem dX4_cross_2 : decode cX4_cross 2 = .ok (.getfield 63, 3) := by decide +kernel
theorem dX4_cross_5 : decode cX4_cross 5 = .ok (.invokevirtual 118, 3) := by decide +kernel
theorem dX4_cross_8 : decode cX4_cross 8 = .ok (.ifCond .ne 7, 3) := by decide +kernel
theorem dX4_cross_11 : decode cX4_cross 11 = .ok (.aload_n 0, 1) := by decide +kernel
theorem dX4_cross_12 : decode cX4_cross 12 = .ok (.invokevirtual 121, 3) := by decide +kernel
theorem dX4_cross_15 : decode cX4_cross 15 = .ok (.aload_n 0, 1) := by decide +kernel
theorem dX4_cross_16 : decode cX4_cross 16 = .ok (.aload_n 0, 1) := by decide +kernel
theorem dX4_cross_17 : decode cX4_cross 17 = .ok (.getfield 63, 3) := by decide +kernel
theorem dX4_cross_20 : decode cX4_cross 20 = .ok (.invokevirtual 124, 3) := by decide +kernel
theorem dX4_cross_23 : decode cX4_cross 23 = .ok (.istore_n 1, 1) := by decide +kernel
theorem dX4_cross_24 : decode cX4_cross 24 = .ok (.aload_n 0, 1) := by decide +kernel
theorem dX4_cross_25 : decode cX4_cross 25 = .ok (.dup, 1) := by decide +kernel
theorem dX4_cross_26 : decode cX4_cross 26 = .ok (.getfield 73, 3) := by decide +kernel
theorem dX4_cross_29 : decode cX4_cross 29 = .ok (.iconst 1, 1) := by decide +kernel
theorem dX4_cross_30 : decode cX4_cross 30 = .ok (.iadd, 1) := by decide +kernel
theorem dX4_cross_31 : decode cX4_cross 31 = .ok (.putfield 73, 3) := by decide +kernel
theorem dX4_cross_34 : decode cX4_cross 34 = .ok (.aload_n 0, 1) := by decide +kernel
theorem dX4_cross_35 : decode cX4_cross 35 = .ok (.dup, 1) := by decide +kernel
theorem dX4_cross_36 : decode cX4_cross 36 = .ok (.getfield 76, 3) := by decide +kernel
theorem dX4_cross_39 : decode cX4_cross 39 = .ok (.aload_n 0, 1) := by decide +kernel
theorem dX4_cross_40 : decode cX4_cross 40 = .ok (.aload_n 0, 1) := by decide +kernel
theorem dX4_cross_41 : decode cX4_cross 41 = .ok (.getfield 63, 3) := by decide +kernel
theorem dX4_cross_44 : decode cX4_cross 44 = .ok (.invokevirtual 127, 3) := by decide +kernel
theorem dX4_cross_47 : decode cX4_cross 47 = .ok (.iadd, 1) := by decide +kernel
theorem dX4_cross_48 : decode cX4_cross 48 = .ok (.putfield 76, 3) := by decide +kernel
theorem dX4_cross_51 : decode cX4_cross 51 = .ok (.aload_n 0, 1) := by decide +kernel
theorem dX4_cross_52 : decode cX4_cross 52 = .ok (.dup, 1) := by decide +kernel
theorem dX4_cross_53 : decode cX4_cross 53 = .ok (.getfield 79, 3) := by decide +kernel
theorem dX4_cross_56 : decode cX4_cross 56 = .ok (.iload_n 1, 1) := by decide +kernel
theorem dX4_cross_57 : decode cX4_cross 57 = .ok (.iadd, 1) := by decide +kernel
theorem dX4_cross_58 : decode cX4_cross 58 = .ok (.putfield 79, 3) := by decide +kernel
theorem dX4_cross_61 : decode cX4_cross 61 = .ok (.aload_n 0, 1) := by decide +kernel
theorem dX4_cross_62 : decode cX4_cross 62 = .ok (.dup, 1) := by decide +kernel
theorem dX4_cross_63 : decode cX4_cross 63 = .ok (.getfield 82, 3) := by decide +kernel
theorem dX4_cross_66 : decode cX4_cross 66 = .ok (.aload_n 0, 1) := by decide +kernel
theorem dX4_cross_67 : decode cX4_cross 67 = .ok (.aload_n 0, 1) := by decide +kernel
theorem dX4_cross_68 : decode cX4_cross 68 = .ok (.getfield 63, 3) := by decide +kernel
theorem dX4_cross_71 : decode cX4_cross 71 = .ok (.invokevirtual 118, 3) := by decide +kernel
theorem dX4_cross_74 : decode cX4_cross 74 = .ok (.iadd, 1) := by decide +kernel
theorem dX4_cross_75 : decode cX4_cross 75 = .ok (.putfield 82, 3) := by decide +kernel
theorem dX4_cross_78 : decode cX4_cross 78 = .ok (.aload_n 0, 1) := by decide +kernel
theorem dX4_cross_79 : decode cX4_cross 79 = .ok (.aload_n 0, 1) := by decide +kernel
theorem dX4_cross_80 : decode cX4_cross 80 = .ok (.getfield 94, 3) := by decide +kernel
theorem dX4_cross_83 : decode cX4_cross 83 = .ok (.aload_n 0, 1) := by decide +kernel
theorem dX4_cross_84 : decode cX4_cross 84 = .ok (.getfield 63, 3) := by decide +kernel
theorem dX4_cross_87 : decode cX4_cross 87 = .ok (.invokestatic 130, 3) := by decide +kernel
theorem dX4_cross_90 : decode cX4_cross 90 = .ok (.putfield 94, 3) := by decide +kernel
theorem dX4_cross_93 : decode cX4_cross 93 = .ok (.aload_n 0, 1) := by decide +kernel
theorem dX4_cross_94 : decode cX4_cross 94 = .ok (.getfield 105, 3) := by decide +kernel
theorem dX4_cross_97 : decode cX4_cross 97 = .ok (.i2l, 1) := by decide +kernel
theorem dX4_cross_98 : decode cX4_cross 98 = .ok (.aload_n 0, 1) := by decide +kernel
theorem dX4_cross_99 : decode cX4_cross 99 = .ok (.getfield 24, 3) := by decide +kernel
theorem dX4_cross_102 : decode cX4_cross 102 = .ok (.getfield 28, 3) := by decide +kernel
theorem dX4_cross_105 : decode cX4_cross 105 = .ok (.aload_n 0, 1) := by decide +kernel
theorem dX4_cross_106 : decode cX4_cross 106 = .ok (.getfield 63, 3) := by decide +kernel
theorem dX4_cross_109 : decode cX4_cross 109 = .ok (.iconst 2, 1) := by decide +kernel
theorem dX4_cross_110 : decode cX4_cross 110 = .ok (.invokevirtual 136, 3) := by decide +kernel
theorem dX4_cross_113 : decode cX4_cross 113 = .ok (.i2l, 1) := by decide +kernel
theorem dX4_cross_114 : decode cX4_cross 114 = .ok (.lmul, 1) := by decide +kernel
theorem dX4_cross_115 : decode cX4_cross 115 = .ok (.iload_n 1, 1) := by decide +kernel
theorem dX4_cross_116 : decode cX4_cross 116 = .ok (.i2l, 1) := by decide +kernel
theorem dX4_cross_117 : decode cX4_cross 117 = .ok (.lmul, 1) := by decide +kernel
theorem dX4_cross_118 : decode cX4_cross 118 = .ok (.ldc2_w 139, 3) := by decide +kernel
theorem dX4_cross_121 : decode cX4_cross 121 = .ok (.ldiv, 1) := by decide +kernel
theorem dX4_cross_122 : decode cX4_cross 122 = .ok (.lstore_n 2, 1) := by decide +kernel
theorem dX4_cross_123 : decode cX4_cross 123 = .ok (.aload_n 0, 1) := by decide +kernel
theorem dX4_cross_124 : decode cX4_cross 124 = .ok (.lconst 0, 1) := by decide +kernel
theorem dX4_cross_125 : decode cX4_cross 125 = .ok (.aload_n 0, 1) := by decide +kernel
theorem dX4_cross_126 : decode cX4_cross 126 = .ok (.getfield 105, 3) := by decide +kernel
theorem dX4_cross_129 : decode cX4_cross 129 = .ok (.i2l, 1) := by decide +kernel
theorem dX4_cross_130 : decode cX4_cross 130 = .ok (.lload_n 2, 1) := by decide +kernel
theorem dX4_cross_131 : decode cX4_cross 131 = .ok (.lsub, 1) := by decide +kernel
theorem dX4_cross_132 : decode cX4_cross 132 = .ok (.invokestatic 141, 3) := by decide +kernel
theorem dX4_cross_135 : decode cX4_cross 135 = .ok (.l2i, 1) := by decide +kernel
theorem dX4_cross_136 : decode cX4_cross 136 = .ok (.putfield 105, 3) := by decide +kernel
theorem dX4_cross_139 : decode cX4_cross 139 = .ok (.return_, 1) := by decide +kernel
set_option maxRecDepth 20000 in
set_option maxRecDepth 100000 in
theorem ggX4_measure_X7_get : GoodIn wsX4_measure wsX7_get := goodIn_r _ [12, 13, 44, 45] rfl (by decide +kernel)
set_option maxRecDepth 20000 in
theorem gX4_measure_X7_get : GoodIn wsX4_measure (wsV RX4 136 RX7 yX7_get wsX7_get) := goodIn_app (goodIn_of _ (by decide +kernel)) ggX4_measure_X7_get
set_option maxRecDepth 20000 in
set_option maxRecDepth 100000 in
theorem ggX4_measure_X4_rootOf : GoodIn wsX4_measure wsX4_rootOf := goodIn_r _ [17] rfl (by decide +kernel)
set_option maxRecDepth 20000 in
theorem gX4_measure_X4_rootOf : GoodIn wsX4_measure (va_wsS RX4 144 yX4_rootOf wsX4_rootOf) := goodIn_app (goodIn_of _ (by decide +kernel)) ggX4_measure_X4_rootOf
set_option maxRecDepth 20000 in
set_option maxRecDepth 100000 in
theorem ggX4_measure_X8_put : GoodIn wsX4_measure wsX8_put := goodIn_r _ [20] rfl (by decide +kernel)
set_option maxRecDepth 20000 in
theorem gX4_measure_X8_put_n44 : GoodIn wsX4_measure (wsX8_put) := ggX4_measure_X8_put
theorem dX4_measure_0 : decode cX4_measure 0 = .ok (.aload_n 0, 1) := by decide +kernel
theorem dX4_measure_1 : decode cX4_measure 1 = .ok (.getfield 24, 3) := by decide +kernel
theorem dX4_measure_4 : decode cX4_measure 4 = .ok (.getfield 28, 3) := by decide +kernel
theorem dX4_measure_7 : decode cX4_measure 7 = .ok (.aload_n 0, 1) := by decide +kernel
theorem dX4_measure_8 : decode cX4_measure 8 = .ok (.getfield 63, 3) := by decide +kernel
theorem dX4_measure_11 : decode cX4_measure 11 = .ok (.iconst 0, 1) := by decide +kernel
theorem dX4_measure_12 : decode cX4_measure 12 = .ok (.invokevirtual 136, 3) := by decide +kernel
theorem dX4_measure_15 : decode cX4_measure 15 = .ok (.istore_n 1, 1) := by decide +kernel
theorem dX4_measure_16 : decode cX4_measure 16 = .ok (.aload_n 0, 1) := by decide +kernel
theorem dX4_measure_17 : decode cX4_measure 17 = .ok (.getfield 24, 3) := by decide +kernel
theorem dX4_measure_20 : decode cX4_measure 20 = .ok (.getfield 28, 3) := by decide +kernel
theorem dX4_measure_23 : decode cX4_measure 23 = .ok (.aload_n 0, 1) := by decide +kernel
theorem dX4_measure_24 : decode cX4_measure 24 = .ok (.getfield 63, 3) := by decide +kernel
theorem dX4_measure_27 : decode cX4_measure 27 = .ok (.iconst 1, 1) := by decide +kernel
theorem dX4_measure_28 : decode cX4_measure 28 = .ok (.invokevirtual 136, 3) := by decide +kernel
theorem dX4_measure_31 : decode cX4_measure 31 = .ok (.istore_n 2, 1) := by decide +kernel
theorem dX4_measure_32 : decode cX4_measure 32 = .ok (.iload_n 1, 1) := by decide +kernel
theorem dX4_measure_33 : decode cX4_measure 33 = .ok (.iload_n 1, 1) := by decide +kernel
theorem dX4_measure_34 : decode cX4_measure 34 = .ok (.imul, 1) := by decide +kernel
theorem dX4_measure_35 : decode cX4_measure 35 = .ok (.aload_n 0, 1) := by decide +kernel
theorem dX4_measure_36 : decode cX4_measure 36 = .ok (.getfield 70, 3) := by decide +kernel
theorem dX4_measure_39 : decode cX4_measure 39 = .ok (.aload_n 0, 1) := by decide +kernel
theorem dX4_measure_40 : decode cX4_measure 40 = .ok (.getfield 70, 3) := by decide +kernel
theorem dX4_measure_43 : decode cX4_measure 43 = .ok (.imul, 1) := by decide +kernel
theorem dX4_measure_44 : decode cX4_measure 44 = .ok (.isub, 1) := by decide +kernel
theorem dX4_measure_45 : decode cX4_measure 45 = .ok (.invokestatic 144, 3) := by decide +kernel
theorem dX4_measure_48 : decode cX4_measure 48 = .ok (.istore_n 3, 1) := by decide +kernel
theorem dX4_measure_49 : decode cX4_measure 49 = .ok (.iload_n 3, 1) := by decide +kernel
theorem dX4_measure_50 : decode cX4_measure 50 = .ok (.ifCond .le 61, 3) := by decide +kernel
theorem dX4_measure_53 : decode cX4_measure 53 = .ok (.iload_n 2, 1) := by decide +kernel
theorem dX4_measure_54 : decode cX4_measure 54 = .ok (.iload_n 1, 1) := by decide +kernel
theorem dX4_measure_55 : decode cX4_measure 55 = .ok (.imul, 1) := by decide +kernel
theorem dX4_measure_56 : decode cX4_measure 56 = .ok (.iload_n 3, 1) := by decide +kernel
theorem dX4_measure_57 : decode cX4_measure 57 = .ok (.idiv, 1) := by decide +kernel
theorem dX4_measure_58 : decode cX4_measure 58 = .ok (.istore 4, 2) := by decide +kernel
theorem dX4_measure_60 : decode cX4_measure 60 = .ok (.aload_n 0, 1) := by decide +kernel
theorem dX4_measure_61 : decode cX4_measure 61 = .ok (.getfield 15, 3) := by decide +kernel
theorem dX4_measure_64 : decode cX4_measure 64 = .ok (.aload_n 0, 1) := by decide +kernel
theorem dX4_measure_65 : decode cX4_measure 65 = .ok (.getfield 63, 3) := by decide +kernel
theorem dX4_measure_68 : decode cX4_measure 68 = .ok (.iload_n 2, 1) := by decide +kernel
theorem dX4_measure_69 : decode cX4_measure 69 = .ok (.aload_n 0, 1) := by decide +kernel
theorem dX4_measure_70 : decode cX4_measure 70 = .ok (.getfield 70, 3) := by decide +kernel
theorem dX4_measure_73 : decode cX4_measure 73 = .ok (.imul, 1) := by decide +kernel
theorem dX4_measure_74 : decode cX4_measure 74 = .ok (.iload_n 3, 1) := by decide +kernel
theorem dX4_measure_75 : decode cX4_measure 75 = .ok (.idiv, 1) := by decide +kernel
theorem dX4_measure_76 : decode cX4_measure 76 = .ok (.invokestatic 44, 3) := by decide +kernel
theorem dX4_measure_79 : decode cX4_measure 79 = .ok (.aload_n 0, 1) := by decide +kernel
theorem dX4_measure_80 : decode cX4_measure 80 = .ok (.getfield 18, 3) := by decide +kernel
theorem dX4_measure_83 : decode cX4_measure 83 = .ok (.aload_n 0, 1) := by decide +kernel
theorem dX4_measure_84 : decode cX4_measure 84 = .ok (.getfield 63, 3) := by decide +kernel
theorem dX4_measure_87 : decode cX4_measure 87 = .ok (.iload 4, 2) := by decide +kernel
theorem dX4_measure_89 : decode cX4_measure 89 = .ok (.invokestatic 44, 3) := by decide +kernel
theorem dX4_measure_92 : decode cX4_measure 92 = .ok (.aload_n 0, 1) := by decide +kernel
theorem dX4_measure_93 : decode cX4_measure 93 = .ok (.getfield 21, 3) := by decide +kernel
theorem dX4_measure_96 : decode cX4_measure 96 = .ok (.aload_n 0, 1) := by decide +kernel
theorem dX4_measure_97 : decode cX4_measure 97 = .ok (.getfield 63, 3) := by decide +kernel
theorem dX4_measure_100 : decode cX4_measure 100 = .ok (.iload 4, 2) := by decide +kernel
theorem dX4_measure_102 : decode cX4_measure 102 = .ok (.iload_n 1, 1) := by decide +kernel
theorem dX4_measure_103 : decode cX4_measure 103 = .ok (.imul, 1) := by decide +kernel
theorem dX4_measure_104 : decode cX4_measure 104 = .ok (.sipush 1000, 3) := by decide +kernel
theorem dX4_measure_107 : decode cX4_measure 107 = .ok (.idiv, 1) := by decide +kernel
theorem dX4_measure_108 : decode cX4_measure 108 = .ok (.invokestatic 44, 3) := by decide +kernel
theorem dX4_measure_111 : decode cX4_measure 111 = .ok (.return_, 1) := by decide +kernel
theorem dX4_rootOf_0 : decode cX4_rootOf 0 = .ok (.iconst 0, 1) := by decide +kernel
theorem dX4_rootOf_1 : decode cX4_rootOf 1 = .ok (.istore_n 1, 1) := by decide +kernel
theorem dX4_rootOf_2 : decode cX4_rootOf 2 = .ok (.sipush 2048, 3) := by decide +kernel
theorem dX4_rootOf_5 : decode cX4_rootOf 5 = .ok (.istore_n 2, 1) := by decide +kernel
theorem dX4_rootOf_6 : decode cX4_rootOf 6 = .ok (.iload_n 2, 1) := by decide +kernel
theorem dX4_rootOf_7 : decode cX4_rootOf 7 = .ok (.ifCond .le 23, 3) := by decide +kernel
theorem dX4_rootOf_10 : decode cX4_rootOf 10 = .ok (.iload_n 1, 1) := by decide +kernel
theorem dX4_rootOf_11 : decode cX4_rootOf 11 = .ok (.iload_n 2, 1) := by decide +kernel
theorem dX4_rootOf_12 : decode cX4_rootOf 12 = .ok (.iadd, 1) := by decide +kernel
theorem dX4_rootOf_13 : decode cX4_rootOf 13 = .ok (.istore_n 3, 1) := by decide +kernel
theorem dX4_rootOf_14 : decode cX4_rootOf 14 = .ok (.iload_n 3, 1) := by decide +kernel
theorem dX4_rootOf_15 : decode cX4_rootOf 15 = .ok (.iload_n 3, 1) := by decide +kernel
theorem dX4_rootOf_16 : decode cX4_rootOf 16 = .ok (.imul, 1) := by decide +kernel
theorem dX4_rootOf_17 : decode cX4_rootOf 17 = .ok (.iload_n 0, 1) := by decide +kernel
theorem dX4_rootOf_18 : decode cX4_rootOf 18 = .ok (.if_icmp .gt 5, 3) := by decide +kernel
theorem dX4_rootOf_21 : decode cX4_rootOf 21 = .ok (.iload_n 3, 1) := by decide +kernel
theorem dX4_rootOf_22 : decode cX4_rootOf 22 = .ok (.istore_n 1, 1) := by decide +kernel
theorem dX4_rootOf_23 : decode cX4_rootOf 23 = .ok (.iload_n 2, 1) := by decide +kernel
theorem dX4_rootOf_24 : decode cX4_rootOf 24 = .ok (.iconst 2, 1) := by decide +kernel
theorem dX4_rootOf_25 : decode cX4_rootOf 25 = .ok (.idiv, 1) := by decide +kernel
theorem dX4_rootOf_26 : decode cX4_rootOf 26 = .ok (.istore_n 2, 1) := by decide +kernel
theorem dX4_rootOf_27 : decode cX4_rootOf 27 = .ok (.goto (-21), 3) := by decide +kernel
theorem dX4_rootOf_30 : decode cX4_rootOf 30 = .ok (.iload_n 1, 1) := by decide +kernel
theorem dX4_rootOf_31 : decode cX4_rootOf 31 = .ok (.ireturn, 1) := by decide +kernel
set_option maxRecDepth 20000 in
set_option maxRecDepth 100000 in
theorem ggX4_goOn_X4_endWith : GoodIn wsX4_goOn wsX4_endWith := goodIn_r _ [13, 14, 48, 49, 50, 51, 52, 53, 54, 55, 56, 57, 58, 59, 60, 61, 62, 63, 64, 65] rfl (by decide +kernel)
set_option maxRecDepth 20000 in
theorem gX4_goOn_X4_endWith : GoodIn wsX4_goOn (wsV RX4 147 RX4 yX4_endWith wsX4_endWith) := goodIn_app (goodIn_of _ (by decide +kernel)) ggX4_goOn_X4_endWith
set_option maxRecDepth 20000 in
set_option maxRecDepth 100000 in
theorem ggX4_goOn_X8_at : GoodIn wsX4_goOn wsX8_at := goodIn_r _ [17] rfl (by decide +kernel)
set_option maxRecDepth 20000 in
theorem gX4_goOn_X8_at_n114 : GoodIn wsX4_goOn (wsX8_at) := ggX4_goOn_X8_at
set_option maxRecDepth 20000 in
set_option maxRecDepth 100000 in
theorem ggX4_goOn_X7_has : GoodIn wsX4_goOn wsX7_has := goodIn_r _ [22, 23, 71, 72] rfl (by decide +kernel)
set_option maxRecDepth 20000 in
theorem gX4_goOn_X7_has : GoodIn wsX4_goOn (wsV RX4 150 RX7 yX7_has wsX7_has) := goodIn_app (goodIn_of _ (by decide +kernel)) ggX4_goOn_X7_has
set_option maxRecDepth 20000 in
set_option maxRecDepth 100000 in
theorem ggX4_goOn_X4_passInto : GoodIn wsX4_goOn wsX4_passInto := goodIn_r _ [27, 4, 3, 1, 28, 15, 16, 17, 48, 49, 50, 51, 52, 53, 54, 55, 56, 57, 58, 59, 60, 61, 62, 63, 64, 65] rfl (by decide +kernel)
set_option maxRecDepth 20000 in
theorem gX4_goOn_X4_passInto : GoodIn wsX4_goOn (wsV RX4 154 RX4 yX4_passInto wsX4_passInto) := goodIn_app (goodIn_of _ (by decide +kernel)) ggX4_goOn_X4_passInto
set_option maxRecDepth 20000 in
set_option maxRecDepth 100000 in
theorem ggX4_goOn_X5_isMirrorAt : GoodIn wsX4_goOn wsX5_isMirrorAt := goodIn_r _ [33, 34, 35, 36, 66, 67, 68, 69, 70, 71, 72] rfl (by decide +kernel)
set_option maxRecDepth 20000 in
theorem gX4_goOn_X5_isMirrorAt : GoodIn wsX4_goOn (wsV RX4 157 RX5 yX5_isMirrorAt wsX5_isMirrorAt) := goodIn_app (goodIn_of _ (by decide +kernel)) ggX4_goOn_X5_isMirrorAt
set_option maxRecDepth 20000 in
set_option maxRecDepth 100000 in
theorem ggX4_goOn_X4_mirrorBack : GoodIn wsX4_goOn wsX4_mirrorBack := goodIn_r _ [40, 41, 1, 6, 42, 2, 9, 10, 11, 12, 13, 14, 48, 49, 50, 51, 52, 53, 54, 55, 56, 57, 58, 59, 60, 61, 62, 63, 64, 65, 66, 67, 68, 69, 70] rfl (by decide +kernel)
set_option maxRecDepth 20000 in
theorem gX4_goOn_X4_mirrorBack : GoodIn wsX4_goOn (wsV RX4 160 RX4 yX4_mirrorBack wsX4_mirrorBack) := goodIn_app (goodIn_of _ (by decide +kernel)) ggX4_goOn_X4_mirrorBack
set_option maxRecDepth 20000 in
set_option maxRecDepth 100000 in
theorem ggX4_goOn_X4_turnBack : GoodIn wsX4_goOn wsX4_turnBack := goodIn_r _ [46, 2, 47, 48, 49, 50, 51, 52, 53, 54, 55, 56, 57, 58, 59, 60, 61, 62, 63, 64, 65] rfl (by decide +kernel)
set_option maxRecDepth 20000 in
theorem gX4_goOn_X4_turnBack : GoodIn wsX4_goOn (wsV RX4 163 RX4 yX4_turnBack wsX4_turnBack) := goodIn_app (goodIn_of _ (by decide +kernel)) ggX4_goOn_X4_turnBack
theorem dX4_goOn_0 : decode cX4_goOn 0 = .ok (.aload_n 0, 1) := by decide +kernel
theorem dX4_goOn_1 : decode cX4_goOn 1 = .ok (.getfield 105, 3) := by decide +kernel
theorem dX4_goOn_4 : decode cX4_goOn 4 = .ok (.ifCond .ne 10, 3) := by decide +kernel
theorem dX4_goOn_7 : decode cX4_goOn 7 = .ok (.aload_n 0, 1) := by decide +kernel
theorem dX4_goOn_8 : decode cX4_goOn 8 = .ok (.iconst 2, 1) := by decide +kernel
theorem dX4_goOn_9 : decode cX4_goOn 9 = .ok (.iconst 5, 1) := by decide +kernel
theorem dX4_goOn_10 : decode cX4_goOn 10 = .ok (.invokevirtual 147, 3) := by decide +kernel
theorem dX4_goOn_13 : decode cX4_goOn 13 = .ok (.ireturn, 1) := by decide +kernel
theorem dX4_goOn_14 : decode cX4_goOn 14 = .ok (.aload_n 0, 1) := by decide +kernel
theorem dX4_goOn_15 : decode cX4_goOn 15 = .ok (.getfield 66, 3) := by decide +kernel
theorem dX4_goOn_18 : decode cX4_goOn 18 = .ok (.ifCond .eq 12, 3) := by decide +kernel
theorem dX4_goOn_21 : decode cX4_goOn 21 = .ok (.aload_n 0, 1) := by decide +kernel
theorem dX4_goOn_22 : decode cX4_goOn 22 = .ok (.getfield 63, 3) := by decide +kernel
theorem dX4_goOn_25 : decode cX4_goOn 25 = .ok (.iconst 1, 1) := by decide +kernel
theorem dX4_goOn_26 : decode cX4_goOn 26 = .ok (.iadd, 1) := by decide +kernel
theorem dX4_goOn_27 : decode cX4_goOn 27 = .ok (.goto 9, 3) := by decide +kernel
theorem dX4_goOn_30 : decode cX4_goOn 30 = .ok (.aload_n 0, 1) := by decide +kernel
theorem dX4_goOn_31 : decode cX4_goOn 31 = .ok (.getfield 63, 3) := by decide +kernel
theorem dX4_goOn_34 : decode cX4_goOn 34 = .ok (.iconst 1, 1) := by decide +kernel
theorem dX4_goOn_35 : decode cX4_goOn 35 = .ok (.isub, 1) := by decide +kernel
theorem dX4_goOn_36 : decode cX4_goOn 36 = .ok (.istore_n 1, 1) := by decide +kernel
theorem dX4_goOn_37 : decode cX4_goOn 37 = .ok (.aload_n 0, 1) := by decide +kernel
theorem dX4_goOn_38 : decode cX4_goOn 38 = .ok (.getfield 9, 3) := by decide +kernel
theorem dX4_goOn_41 : decode cX4_goOn 41 = .ok (.iload_n 1, 1) := by decide +kernel
theorem dX4_goOn_42 : decode cX4_goOn 42 = .ok (.iconst 1, 1) := by decide +kernel
theorem dX4_goOn_43 : decode cX4_goOn 43 = .ok (.iadd, 1) := by decide +kernel
theorem dX4_goOn_44 : decode cX4_goOn 44 = .ok (.invokestatic 114, 3) := by decide +kernel
theorem dX4_goOn_47 : decode cX4_goOn 47 = .ok (.aload_n 0, 1) := by decide +kernel
theorem dX4_goOn_48 : decode cX4_goOn 48 = .ok (.getfield 70, 3) := by decide +kernel
theorem dX4_goOn_51 : decode cX4_goOn 51 = .ok (.if_icmp .le 7, 3) := by decide +kernel
theorem dX4_goOn_54 : decode cX4_goOn 54 = .ok (.iconst 1, 1) := by decide +kernel
theorem dX4_goOn_55 : decode cX4_goOn 55 = .ok (.goto 4, 3) := by decide +kernel
theorem dX4_goOn_58 : decode cX4_goOn 58 = .ok (.iconst 0, 1) := by decide +kernel
theorem dX4_goOn_59 : decode cX4_goOn 59 = .ok (.istore_n 2, 1) := by decide +kernel
theorem dX4_goOn_60 : decode cX4_goOn 60 = .ok (.iload_n 2, 1) := by decide +kernel
theorem dX4_goOn_61 : decode cX4_goOn 61 = .ok (.ifCond .eq 40, 3) := by decide +kernel
theorem dX4_goOn_64 : decode cX4_goOn 64 = .ok (.aload_n 0, 1) := by decide +kernel
theorem dX4_goOn_65 : decode cX4_goOn 65 = .ok (.getfield 24, 3) := by decide +kernel
theorem dX4_goOn_68 : decode cX4_goOn 68 = .ok (.getfield 28, 3) := by decide +kernel
theorem dX4_goOn_71 : decode cX4_goOn 71 = .ok (.iload_n 1, 1) := by decide +kernel
theorem dX4_goOn_72 : decode cX4_goOn 72 = .ok (.invokevirtual 150, 3) := by decide +kernel
theorem dX4_goOn_75 : decode cX4_goOn 75 = .ok (.ifCond .ne 26, 3) := by decide +kernel
theorem dX4_goOn_78 : decode cX4_goOn 78 = .ok (.aload_n 0, 1) := by decide +kernel
theorem dX4_goOn_79 : decode cX4_goOn 79 = .ok (.getfield 66, 3) := by decide +kernel
theorem dX4_goOn_82 : decode cX4_goOn 82 = .ok (.ifCond .eq 12, 3) := by decide +kernel
theorem dX4_goOn_85 : decode cX4_goOn 85 = .ok (.aload_n 0, 1) := by decide +kernel
theorem dX4_goOn_86 : decode cX4_goOn 86 = .ok (.iconst 1, 1) := by decide +kernel
theorem dX4_goOn_87 : decode cX4_goOn 87 = .ok (.iconst 4, 1) := by decide +kernel
theorem dX4_goOn_88 : decode cX4_goOn 88 = .ok (.invokevirtual 147, 3) := by decide +kernel
theorem dX4_goOn_91 : decode cX4_goOn 91 = .ok (.goto 9, 3) := by decide +kernel
theorem dX4_goOn_94 : decode cX4_goOn 94 = .ok (.aload_n 0, 1) := by decide +kernel
theorem dX4_goOn_95 : decode cX4_goOn 95 = .ok (.iconst 0, 1) := by decide +kernel
theorem dX4_goOn_96 : decode cX4_goOn 96 = .ok (.iconst 3, 1) := by decide +kernel
theorem dX4_goOn_97 : decode cX4_goOn 97 = .ok (.invokevirtual 147, 3) := by decide +kernel
theorem dX4_goOn_100 : decode cX4_goOn 100 = .ok (.ireturn, 1) := by decide +kernel
theorem dX4_goOn_101 : decode cX4_goOn 101 = .ok (.aload_n 0, 1) := by decide +kernel
theorem dX4_goOn_102 : decode cX4_goOn 102 = .ok (.getfield 73, 3) := by decide +kernel
theorem dX4_goOn_105 : decode cX4_goOn 105 = .ok (.bipush 60, 2) := by decide +kernel
theorem dX4_goOn_107 : decode cX4_goOn 107 = .ok (.if_icmp .lt 11, 3) := by decide +kernel
theorem dX4_goOn_110 : decode cX4_goOn 110 = .ok (.aload_n 0, 1) := by decide +kernel
theorem dX4_goOn_111 : decode cX4_goOn 111 = .ok (.iconst 3, 1) := by decide +kernel
theorem dX4_goOn_112 : decode cX4_goOn 112 = .ok (.bipush 6, 2) := by decide +kernel
theorem dX4_goOn_114 : decode cX4_goOn 114 = .ok (.invokevirtual 147, 3) := by decide +kernel
theorem dX4_goOn_117 : decode cX4_goOn 117 = .ok (.ireturn, 1) := by decide +kernel
theorem dX4_goOn_118 : decode cX4_goOn 118 = .ok (.iload_n 2, 1) := by decide +kernel
theorem dX4_goOn_119 : decode cX4_goOn 119 = .ok (.ifCond .eq 9, 3) := by decide +kernel
theorem dX4_goOn_122 : decode cX4_goOn 122 = .ok (.aload_n 0, 1) := by decide +kernel
theorem dX4_goOn_123 : decode cX4_goOn 123 = .ok (.iload_n 1, 1) := by decide +kernel
theorem dX4_goOn_124 : decode cX4_goOn 124 = .ok (.invokevirtual 154, 3) := by decide +kernel
theorem dX4_goOn_127 : decode cX4_goOn 127 = .ok (.ireturn, 1) := by decide +kernel
theorem dX4_goOn_128 : decode cX4_goOn 128 = .ok (.aload_n 0, 1) := by decide +kernel
theorem dX4_goOn_129 : decode cX4_goOn 129 = .ok (.getfield 24, 3) := by decide +kernel
theorem dX4_goOn_132 : decode cX4_goOn 132 = .ok (.iload_n 1, 1) := by decide +kernel
theorem dX4_goOn_133 : decode cX4_goOn 133 = .ok (.invokevirtual 157, 3) := by decide +kernel
theorem dX4_goOn_136 : decode cX4_goOn 136 = .ok (.ifCond .eq 10, 3) := by decide +kernel
theorem dX4_goOn_139 : decode cX4_goOn 139 = .ok (.aload_n 0, 1) := by decide +kernel
theorem dX4_goOn_140 : decode cX4_goOn 140 = .ok (.invokevirtual 160, 3) := by decide +kernel
theorem dX4_goOn_143 : decode cX4_goOn 143 = .ok (.goto 7, 3) := by decide +kernel
theorem dX4_goOn_146 : decode cX4_goOn 146 = .ok (.aload_n 0, 1) := by decide +kernel
theorem dX4_goOn_147 : decode cX4_goOn 147 = .ok (.invokevirtual 163, 3) := by decide +kernel
theorem dX4_goOn_150 : decode cX4_goOn 150 = .ok (.ireturn, 1) := by decide +kernel
theorem dX4_endWith_0 : decode cX4_endWith 0 = .ok (.aload_n 0, 1) := by decide +kernel
theorem dX4_endWith_1 : decode cX4_endWith 1 = .ok (.iload_n 1, 1) := by decide +kernel
theorem dX4_endWith_2 : decode cX4_endWith 2 = .ok (.putfield 101, 3) := by decide +kernel
theorem dX4_endWith_5 : decode cX4_endWith 5 = .ok (.iload_n 2, 1) := by decide +kernel
theorem dX4_endWith_6 : decode cX4_endWith 6 = .ok (.ireturn, 1) := by decide +kernel
set_option maxRecDepth 20000 in
set_option maxRecDepth 100000 in
theorem ggX4_passInto_X8_at : GoodIn wsX4_passInto wsX8_at := goodIn_r _ [7] rfl (by decide +kernel)
set_option maxRecDepth 20000 in
theorem gX4_passInto_X8_at_n114 : GoodIn wsX4_passInto (wsX8_at) := ggX4_passInto_X8_at
theorem dX4_passInto_0 : decode cX4_passInto 0 = .ok (.aload_n 0, 1) := by decide +kernel
theorem dX4_passInto_1 : decode cX4_passInto 1 = .ok (.getfield 9, 3) := by decide +kernel
theorem dX4_passInto_4 : decode cX4_passInto 4 = .ok (.iload_n 1, 1) := by decide +kernel
theorem dX4_passInto_5 : decode cX4_passInto 5 = .ok (.iconst 1, 1) := by decide +kernel
theorem dX4_passInto_6 : decode cX4_passInto 6 = .ok (.iadd, 1) := by decide +kernel
theorem dX4_passInto_7 : decode cX4_passInto 7 = .ok (.invokestatic 114, 3) := by decide +kernel
theorem dX4_passInto_10 : decode cX4_passInto 10 = .ok (.aload_n 0, 1) := by decide +kernel
theorem dX4_passInto_11 : decode cX4_passInto 11 = .ok (.getfield 9, 3) := by decide +kernel
theorem dX4_passInto_14 : decode cX4_passInto 14 = .ok (.aload_n 0, 1) := by decide +kernel
theorem dX4_passInto_15 : decode cX4_passInto 15 = .ok (.getfield 63, 3) := by decide +kernel
theorem dX4_passInto_18 : decode cX4_passInto 18 = .ok (.iconst 1, 1) := by decide +kernel
theorem dX4_passInto_19 : decode cX4_passInto 19 = .ok (.iadd, 1) := by decide +kernel
theorem dX4_passInto_20 : decode cX4_passInto 20 = .ok (.invokestatic 114, 3) := by decide +kernel
theorem dX4_passInto_23 : decode cX4_passInto 23 = .ok (.isub, 1) := by decide +kernel
theorem dX4_passInto_24 : decode cX4_passInto 24 = .ok (.i2l, 1) := by decide +kernel
theorem dX4_passInto_25 : decode cX4_passInto 25 = .ok (.lstore_n 2, 1) := by decide +kernel
theorem dX4_passInto_26 : decode cX4_passInto 26 = .ok (.aload_n 0, 1) := by decide +kernel
theorem dX4_passInto_27 : decode cX4_passInto 27 = .ok (.getfield 9, 3) := by decide +kernel
theorem dX4_passInto_30 : decode cX4_passInto 30 = .ok (.iload_n 1, 1) := by decide +kernel
theorem dX4_passInto_31 : decode cX4_passInto 31 = .ok (.iconst 1, 1) := by decide +kernel
theorem dX4_passInto_32 : decode cX4_passInto 32 = .ok (.iadd, 1) := by decide +kernel
theorem dX4_passInto_33 : decode cX4_passInto 33 = .ok (.invokestatic 114, 3) := by decide +kernel
theorem dX4_passInto_36 : decode cX4_passInto 36 = .ok (.aload_n 0, 1) := by decide +kernel
theorem dX4_passInto_37 : decode cX4_passInto 37 = .ok (.getfield 9, 3) := by decide +kernel
theorem dX4_passInto_40 : decode cX4_passInto 40 = .ok (.aload_n 0, 1) := by decide +kernel
theorem dX4_passInto_41 : decode cX4_passInto 41 = .ok (.getfield 63, 3) := by decide +kernel
theorem dX4_passInto_44 : decode cX4_passInto 44 = .ok (.iconst 1, 1) := by decide +kernel
theorem dX4_passInto_45 : decode cX4_passInto 45 = .ok (.iadd, 1) := by decide +kernel
theorem dX4_passInto_46 : decode cX4_passInto 46 = .ok (.invokestatic 114, 3) := by decide +kernel
theorem dX4_passInto_49 : decode cX4_passInto 49 = .ok (.iadd, 1) := by decide +kernel
theorem dX4_passInto_50 : decode cX4_passInto 50 = .ok (.i2l, 1) := by decide +kernel
theorem dX4_passInto_51 : decode cX4_passInto 51 = .ok (.lstore 4, 2) := by decide +kernel
theorem dX4_passInto_53 : decode cX4_passInto 53 = .ok (.lload 4, 2) := by decide +kernel
theorem dX4_passInto_55 : decode cX4_passInto 55 = .ok (.lconst 0, 1) := by decide +kernel
theorem dX4_passInto_56 : decode cX4_passInto 56 = .ok (.lcmp, 1) := by decide +kernel
theorem dX4_passInto_57 : decode cX4_passInto 57 = .ok (.ifCond .le 28, 3) := by decide +kernel
theorem dX4_passInto_60 : decode cX4_passInto 60 = .ok (.aload_n 0, 1) := by decide +kernel
theorem dX4_passInto_61 : decode cX4_passInto 61 = .ok (.dup, 1) := by decide +kernel
theorem dX4_passInto_62 : decode cX4_passInto 62 = .ok (.getfield 105, 3) := by decide +kernel
theorem dX4_passInto_65 : decode cX4_passInto 65 = .ok (.aload_n 0, 1) := by decide +kernel
theorem dX4_passInto_66 : decode cX4_passInto 66 = .ok (.getfield 105, 3) := by decide +kernel
theorem dX4_passInto_69 : decode cX4_passInto 69 = .ok (.i2l, 1) := by decide +kernel
theorem dX4_passInto_70 : decode cX4_passInto 70 = .ok (.lload_n 2, 1) := by decide +kernel
theorem dX4_passInto_71 : decode cX4_passInto 71 = .ok (.lload_n 2, 1) := by decide +kernel
theorem dX4_passInto_72 : decode cX4_passInto 72 = .ok (.lmul, 1) := by decide +kernel
theorem dX4_passInto_73 : decode cX4_passInto 73 = .ok (.lmul, 1) := by decide +kernel
theorem dX4_passInto_74 : decode cX4_passInto 74 = .ok (.lload 4, 2) := by decide +kernel
theorem dX4_passInto_76 : decode cX4_passInto 76 = .ok (.lload 4, 2) := by decide +kernel
theorem dX4_passInto_78 : decode cX4_passInto 78 = .ok (.lmul, 1) := by decide +kernel
theorem dX4_passInto_79 : decode cX4_passInto 79 = .ok (.ldiv, 1) := by decide +kernel
theorem dX4_passInto_80 : decode cX4_passInto 80 = .ok (.l2i, 1) := by decide +kernel
theorem dX4_passInto_81 : decode cX4_passInto 81 = .ok (.isub, 1) := by decide +kernel
theorem dX4_passInto_82 : decode cX4_passInto 82 = .ok (.putfield 105, 3) := by decide +kernel
theorem dX4_passInto_85 : decode cX4_passInto 85 = .ok (.aload_n 0, 1) := by decide +kernel
theorem dX4_passInto_86 : decode cX4_passInto 86 = .ok (.iload_n 1, 1) := by decide +kernel
theorem dX4_passInto_87 : decode cX4_passInto 87 = .ok (.putfield 63, 3) := by decide +kernel
theorem dX4_passInto_90 : decode cX4_passInto 90 = .ok (.aload_n 0, 1) := by decide +kernel
theorem dX4_passInto_91 : decode cX4_passInto 91 = .ok (.dup, 1) := by decide +kernel
theorem dX4_passInto_92 : decode cX4_passInto 92 = .ok (.getfield 91, 3) := by decide +kernel
theorem dX4_passInto_95 : decode cX4_passInto 95 = .ok (.iconst 1, 1) := by decide +kernel
theorem dX4_passInto_96 : decode cX4_passInto 96 = .ok (.iadd, 1) := by decide +kernel
theorem dX4_passInto_97 : decode cX4_passInto 97 = .ok (.putfield 91, 3) := by decide +kernel
theorem dX4_passInto_100 : decode cX4_passInto 100 = .ok (.iconst 0, 1) := by decide +kernel
theorem dX4_passInto_101 : decode cX4_passInto 101 = .ok (.ireturn, 1) := by decide +kernel
theorem dX4_turnBack_0 : decode cX4_turnBack 0 = .ok (.aload_n 0, 1) := by decide +kernel
theorem dX4_turnBack_1 : decode cX4_turnBack 1 = .ok (.aload_n 0, 1) := by decide +kernel
theorem dX4_turnBack_2 : decode cX4_turnBack 2 = .ok (.getfield 66, 3) := by decide +kernel
theorem dX4_turnBack_5 : decode cX4_turnBack 5 = .ok (.ifCond .ne 7, 3) := by decide +kernel
theorem dX4_turnBack_8 : decode cX4_turnBack 8 = .ok (.iconst 1, 1) := by decide +kernel
theorem dX4_turnBack_9 : decode cX4_turnBack 9 = .ok (.goto 4, 3) := by decide +kernel
theorem dX4_turnBack_12 : decode cX4_turnBack 12 = .ok (.iconst 0, 1) := by decide +kernel
theorem dX4_turnBack_13 : decode cX4_turnBack 13 = .ok (.putfield 66, 3) := by decide +kernel
theorem dX4_turnBack_16 : decode cX4_turnBack 16 = .ok (.aload_n 0, 1) := by decide +kernel
theorem dX4_turnBack_17 : decode cX4_turnBack 17 = .ok (.dup, 1) := by decide +kernel
theorem dX4_turnBack_18 : decode cX4_turnBack 18 = .ok (.getfield 85, 3) := by decide +kernel
theorem dX4_turnBack_21 : decode cX4_turnBack 21 = .ok (.iconst 1, 1) := by decide +kernel
theorem dX4_turnBack_22 : decode cX4_turnBack 22 = .ok (.iadd, 1) := by decide +kernel
theorem dX4_turnBack_23 : decode cX4_turnBack 23 = .ok (.putfield 85, 3) := by decide +kernel
theorem dX4_turnBack_26 : decode cX4_turnBack 26 = .ok (.iconst 1, 1) := by decide +kernel
theorem dX4_turnBack_27 : decode cX4_turnBack 27 = .ok (.ireturn, 1) := by decide +kernel
set_option maxRecDepth 20000 in
set_option maxRecDepth 100000 in
theorem ggX4_mirrorBack_X4_endWith : GoodIn wsX4_mirrorBack wsX4_endWith := goodIn_r _ [10, 11, 12, 13, 14, 15, 16, 17, 18, 19, 20, 21, 22, 23, 24, 25, 26, 27, 28, 29] rfl (by decide +kernel)
set_option maxRecDepth 20000 in
theorem gX4_mirrorBack_X4_endWith : GoodIn wsX4_mirrorBack (wsV RX4 147 RX4 yX4_endWith wsX4_endWith) := goodIn_app (goodIn_of _ (by decide +kernel)) ggX4_mirrorBack_X4_endWith
theorem dX4_mirrorBack_0 : decode cX4_mirrorBack 0 = .ok (.aload_n 0, 1) := by decide +kernel
theorem dX4_mirrorBack_1 : decode cX4_mirrorBack 1 = .ok (.dup, 1) := by decide +kernel
theorem dX4_mirrorBack_2 : decode cX4_mirrorBack 2 = .ok (.getfield 88, 3) := by decide +kernel
theorem dX4_mirrorBack_5 : decode cX4_mirrorBack 5 = .ok (.iconst 1, 1) := by decide +kernel
theorem dX4_mirrorBack_6 : decode cX4_mirrorBack 6 = .ok (.iadd, 1) := by decide +kernel
theorem dX4_mirrorBack_7 : decode cX4_mirrorBack 7 = .ok (.putfield 88, 3) := by decide +kernel
theorem dX4_mirrorBack_10 : decode cX4_mirrorBack 10 = .ok (.aload_n 0, 1) := by decide +kernel
theorem dX4_mirrorBack_11 : decode cX4_mirrorBack 11 = .ok (.aload_n 0, 1) := by decide +kernel
theorem dX4_mirrorBack_12 : decode cX4_mirrorBack 12 = .ok (.getfield 105, 3) := by decide +kernel
theorem dX4_mirrorBack_15 : decode cX4_mirrorBack 15 = .ok (.aload_n 0, 1) := by decide +kernel
theorem dX4_mirrorBack_16 : decode cX4_mirrorBack 16 = .ok (.getfield 24, 3) := by decide +kernel
theorem dX4_mirrorBack_19 : decode cX4_mirrorBack 19 = .ok (.getfield 166, 3) := by decide +kernel
theorem dX4_mirrorBack_22 : decode cX4_mirrorBack 22 = .ok (.imul, 1) := by decide +kernel
theorem dX4_mirrorBack_23 : decode cX4_mirrorBack 23 = .ok (.bipush 100, 2) := by decide +kernel
theorem dX4_mirrorBack_25 : decode cX4_mirrorBack 25 = .ok (.idiv, 1) := by decide +kernel
theorem dX4_mirrorBack_26 : decode cX4_mirrorBack 26 = .ok (.putfield 105, 3) := by decide +kernel
theorem dX4_mirrorBack_29 : decode cX4_mirrorBack 29 = .ok (.aload_n 0, 1) := by decide +kernel
theorem dX4_mirrorBack_30 : decode cX4_mirrorBack 30 = .ok (.getfield 105, 3) := by decide +kernel
theorem dX4_mirrorBack_33 : decode cX4_mirrorBack 33 = .ok (.ifCond .ne 10, 3) := by decide +kernel
theorem dX4_mirrorBack_36 : decode cX4_mirrorBack 36 = .ok (.aload_n 0, 1) := by decide +kernel
theorem dX4_mirrorBack_37 : decode cX4_mirrorBack 37 = .ok (.iconst 2, 1) := by decide +kernel
theorem dX4_mirrorBack_38 : decode cX4_mirrorBack 38 = .ok (.iconst 5, 1) := by decide +kernel
theorem dX4_mirrorBack_39 : decode cX4_mirrorBack 39 = .ok (.invokevirtual 147, 3) := by decide +kernel
theorem dX4_mirrorBack_42 : decode cX4_mirrorBack 42 = .ok (.ireturn, 1) := by decide +kernel
theorem dX4_mirrorBack_43 : decode cX4_mirrorBack 43 = .ok (.aload_n 0, 1) := by decide +kernel
theorem dX4_mirrorBack_44 : decode cX4_mirrorBack 44 = .ok (.iconst 0, 1) := by decide +kernel
theorem dX4_mirrorBack_45 : decode cX4_mirrorBack 45 = .ok (.putfield 66, 3) := by decide +kernel
theorem dX4_mirrorBack_48 : decode cX4_mirrorBack 48 = .ok (.iconst 2, 1) := by decide +kernel
theorem dX4_mirrorBack_49 : decode cX4_mirrorBack 49 = .ok (.ireturn, 1) := by decide +kernel
set_option maxRecDepth 20000 in
set_option maxRecDepth 100000 in
theorem ggX3_init_X4_init : GoodIn wsX3_init wsX4_init := goodIn_r _ [15, 16, 2, 3, 5, 17, 18, 19, 20, 21, 26, 27, 28, 29, 30, 31, 32, 33, 34, 35, 36, 37, 38, 39, 40, 41, 42, 43] rfl (by decide +kernel)
set_option maxRecDepth 20000 in
theorem gX3_init_X4_init : GoodIn wsX3_init (wsX4_init) := ggX3_init_X4_init
theorem dX3_init_0 : decode cX3_init 0 = .ok (.aload_n 0, 1) := by decide +kernel
theorem dX3_init_1 : decode cX3_init 1 = .ok (.invokespecial 3, 3) := by decide +kernel
theorem dX3_init_4 : decode cX3_init 4 = .ok (.aload_n 0, 1) := by decide +kernel
theorem dX3_init_5 : decode cX3_init 5 = .ok (.bipush 7, 2) := by decide +kernel
theorem dX3_init_7 : decode cX3_init 7 = .ok (.bipush 60, 2) := by decide +kernel
theorem dX3_init_9 : decode cX3_init 9 = .ok (.multianewarray 9 2, 4) := by decide +kernel
theorem dX3_init_13 : decode cX3_init 13 = .ok (.putfield 11, 3) := by decide +kernel
theorem dX3_init_16 : decode cX3_init 16 = .ok (.aload_n 0, 1) := by decide +kernel
theorem dX3_init_17 : decode cX3_init 17 = .ok (.iconst 0, 1) := by decide +kernel
theorem dX3_init_18 : decode cX3_init 18 = .ok (.putfield 16, 3) := by decide +kernel
theorem dX3_init_21 : decode cX3_init 21 = .ok (.aload_n 0, 1) := by decide +kernel
theorem dX3_init_22 : decode cX3_init 22 = .ok (.iconst 4, 1) := by decide +kernel
theorem dX3_init_23 : decode cX3_init 23 = .ok (.putfield 20, 3) := by decide +kernel
theorem dX3_init_26 : decode cX3_init 26 = .ok (.aload_n 0, 1) := by decide +kernel
theorem dX3_init_27 : decode cX3_init 27 = .ok (.new 23, 3) := by decide +kernel
theorem dX3_init_30 : decode cX3_init 30 = .ok (.dup, 1) := by decide +kernel
theorem dX3_init_31 : decode cX3_init 31 = .ok (.aload_n 1, 1) := by decide +kernel
theorem dX3_init_32 : decode cX3_init 32 = .ok (.invokespecial 25, 3) := by decide +kernel
theorem dX3_init_35 : decode cX3_init 35 = .ok (.putfield 28, 3) := by decide +kernel
theorem dX3_init_38 : decode cX3_init 38 = .ok (.return_, 1) := by decide +kernel
set_option maxRecDepth 20000 in
set_option maxRecDepth 100000 in
theorem ggX3_trace_X4_enter : GoodIn wsX3_trace wsX4_enter := goodIn_r _ [13, 14, 15, 16, 17, 18, 19, 20, 21, 22, 23, 24, 25, 26, 27, 28, 29, 30, 31, 32, 33, 34, 35, 36, 148, 149, 150, 151, 152, 153, 154, 155, 156, 157, 158, 159, 160, 161, 162, 163, 164, 165, 166, 167, 168, 169, 170, 171, 172] rfl (by decide +kernel)
set_option maxRecDepth 20000 in
theorem gX3_trace_X4_enter : GoodIn wsX3_trace (wsV RX3 32 RX4 yX4_enter wsX4_enter) := goodIn_app (goodIn_of _ (by decide +kernel)) ggX3_trace_X4_enter
set_option maxRecDepth 20000 in
set_option maxRecDepth 100000 in
theorem ggX3_trace_X4_begin : GoodIn wsX3_trace wsX4_begin := goodIn_r _ [40, 41, 42, 43, 44, 45, 46, 47, 48, 49, 50, 51, 14, 52, 53, 54, 55, 56, 57, 58, 21, 59, 24, 60, 61, 62, 31, 63, 64, 28, 29, 30, 32, 33, 65, 66, 67, 68, 148, 149, 150, 151, 152, 153, 154, 155, 156, 157, 158, 159, 160, 161, 162, 163, 164, 165, 166, 167, 168, 169, 170, 171, 172] rfl (by decide +kernel)
set_option maxRecDepth 20000 in
theorem gX3_trace_X4_begin : GoodIn wsX3_trace (wsV RX3 35 RX4 yX4_begin wsX4_begin) := goodIn_app (goodIn_of _ (by decide +kernel)) ggX3_trace_X4_begin
set_option maxRecDepth 20000 in
set_option maxRecDepth 100000 in
theorem ggX3_trace_X4_isUnderWay : GoodIn wsX3_trace wsX4_isUnderWay := goodIn_r _ [72, 52, 148, 149, 150, 151, 152, 153, 154, 155, 156, 157, 158, 159, 160, 161, 162, 163, 164, 165] rfl (by decide +kernel)
set_option maxRecDepth 20000 in
theorem gX3_trace_X4_isUnderWay : GoodIn wsX3_trace (wsV RX3 39 RX4 yX4_isUnderWay wsX4_isUnderWay) := goodIn_app (goodIn_of _ (by decide +kernel)) ggX3_trace_X4_isUnderWay
set_option maxRecDepth 20000 in
set_option maxRecDepth 100000 in
theorem ggX3_trace_X3_set : GoodIn wsX3_trace wsX3_set := goodIn_r _ [77, 78, 34, 35, 36, 144, 145, 146, 147] rfl (by decide +kernel)
set_option maxRecDepth 20000 in
theorem gX3_trace_X3_set : GoodIn wsX3_trace (wsV RX3 46 RX3 yX3_set wsX3_set) := goodIn_app (goodIn_of _ (by decide +kernel)) ggX3_trace_X3_set
set_option maxRecDepth 20000 in
set_option maxRecDepth 100000 in
theorem ggX3_trace_X4_cross : GoodIn wsX3_trace wsX4_cross := goodIn_r _ [82, 41, 44, 45, 46, 47, 51, 83, 84, 85, 86, 54, 14, 15, 87, 88, 89, 90, 91, 92, 93, 12, 94, 55, 95, 35, 96, 97, 98, 99, 100, 43, 101, 102, 103, 29, 30, 31, 32, 33, 104, 105, 106, 34, 36, 107, 108, 109, 110, 111, 112, 113, 114, 148, 149, 150, 151, 152, 153, 154, 155, 156, 157, 158, 159, 160, 161, 162, 163, 164, 165, 166, 167, 168, 169, 170, 171, 172] rfl (by decide +kernel)
set_option maxRecDepth 20000 in
theorem gX3_trace_X4_cross : GoodIn wsX3_trace (wsV RX3 54 RX4 yX4_cross wsX4_cross) := goodIn_app (goodIn_of _ (by decide +kernel)) ggX3_trace_X4_cross
set_option maxRecDepth 20000 in
set_option maxRecDepth 100000 in
theorem ggX3_trace_X4_shiftIn : GoodIn wsX3_trace wsX4_shiftIn := goodIn_r _ [114, 101, 95, 35, 96, 148, 149, 150, 151, 152, 153, 154, 155, 156, 157, 158, 159, 160, 161, 162, 163, 164, 165] rfl (by decide +kernel)
set_option maxRecDepth 20000 in
theorem gX3_trace_X4_shiftIn : GoodIn wsX3_trace (wsV RX3 57 RX4 yX4_shiftIn wsX4_shiftIn) := goodIn_app (goodIn_of _ (by decide +kernel)) ggX3_trace_X4_shiftIn
set_option maxRecDepth 20000 in
set_option maxRecDepth 100000 in
theorem ggX3_trace_X4_lengthIn : GoodIn wsX3_trace wsX4_lengthIn := goodIn_r _ [110, 102, 95, 35, 96, 148, 149, 150, 151, 152, 153, 154, 155, 156, 157, 158, 159, 160, 161, 162, 163, 164, 165] rfl (by decide +kernel)
set_option maxRecDepth 20000 in
theorem gX3_trace_X4_lengthIn : GoodIn wsX3_trace (wsV RX3 61 RX4 yX4_lengthIn wsX4_lengthIn) := goodIn_app (goodIn_of _ (by decide +kernel)) ggX3_trace_X4_lengthIn
set_option maxRecDepth 20000 in
set_option maxRecDepth 100000 in
theorem ggX3_trace_X4_timeIn : GoodIn wsX3_trace wsX4_timeIn := goodIn_r _ [94, 55, 95, 35, 96, 148, 149, 150, 151, 152, 153, 154, 155, 156, 157, 158, 159, 160, 161, 162, 163, 164, 165] rfl (by decide +kernel)
set_option maxRecDepth 20000 in
theorem gX3_trace_X4_timeIn : GoodIn wsX3_trace (wsV RX3 64 RX4 yX4_timeIn wsX4_timeIn) := goodIn_app (goodIn_of _ (by decide +kernel)) ggX3_trace_X4_timeIn
set_option maxRecDepth 20000 in
set_option maxRecDepth 100000 in
theorem ggX3_trace_X4_goOn : GoodIn wsX3_trace wsX4_goOn := goodIn_r _ [121, 54, 42, 41, 17, 43, 14, 15, 44, 122, 123, 124, 12, 125, 52, 95, 35, 96, 126, 61, 62, 31, 63, 64, 127, 128, 129, 130, 50, 131, 132, 133, 21, 134, 26, 24, 25, 135, 136, 137, 138, 49, 139, 140, 141, 142, 143, 48, 148, 149, 150, 151, 152, 153, 154, 155, 156, 157, 158, 159, 160, 161, 162, 163, 164, 165, 166, 167, 168, 169, 170, 171, 172] rfl (by decide +kernel)
set_option maxRecDepth 20000 in
theorem gX3_trace_X4_goOn : GoodIn wsX3_trace (wsV RX3 70 RX4 yX4_goOn wsX4_goOn) := goodIn_app (goodIn_of _ (by decide +kernel)) ggX3_trace_X4_goOn
theorem dX3_trace_0 : decode cX3_trace 0 = .ok (.aload_n 0, 1) := by decide +kernel
theorem dX3_trace_1 : decode cX3_trace 1 = .ok (.getfield 28, 3) := by decide +kernel
theorem dX3_trace_4 : decode cX3_trace 4 = .ok (.aload_n 1, 1) := by decide +kernel
theorem dX3_trace_5 : decode cX3_trace 5 = .ok (.invokevirtual 32, 3) := by decide +kernel
theorem dX3_trace_8 : decode cX3_trace 8 = .ok (.aload_n 0, 1) := by decide +kernel
theorem dX3_trace_9 : decode cX3_trace 9 = .ok (.getfield 28, 3) := by decide +kernel
theorem dX3_trace_12 : decode cX3_trace 12 = .ok (.iload_n 2, 1) := by decide +kernel
theorem dX3_trace_13 : decode cX3_trace 13 = .ok (.iload_n 3, 1) := by decide +kernel
theorem dX3_trace_14 : decode cX3_trace 14 = .ok (.iload 4, 2) := by decide +kernel
theorem dX3_trace_16 : decode cX3_trace 16 = .ok (.invokevirtual 35, 3) := by decide +kernel
theorem dX3_trace_19 : decode cX3_trace 19 = .ok (.iconst 0, 1) := by decide +kernel
theorem dX3_trace_20 : decode cX3_trace 20 = .ok (.istore 5, 2) := by decide +kernel
theorem dX3_trace_22 : decode cX3_trace 22 = .ok (.iload 5, 2) := by decide +kernel
theorem dX3_trace_24 : decode cX3_trace 24 = .ok (.bipush 60, 2) := by decide +kernel
theorem dX3_trace_26 : decode cX3_trace 26 = .ok (.if_icmp .ge 143, 3) := by decide +kernel
theorem dX3_trace_29 : decode cX3_trace 29 = .ok (.aload_n 0, 1) := by decide +kernel
theorem dX3_trace_30 : decode cX3_trace 30 = .ok (.getfield 28, 3) := by decide +kernel
theorem dX3_trace_33 : decode cX3_trace 33 = .ok (.invokevirtual 39, 3) := by decide +kernel
theorem dX3_trace_36 : decode cX3_trace 36 = .ok (.ifCond .eq 133, 3) := by decide +kernel
theorem dX3_trace_39 : decode cX3_trace 39 = .ok (.aload_n 0, 1) := by decide +kernel
theorem dX3_trace_40 : decode cX3_trace 40 = .ok (.getfield 28, 3) := by decide +kernel
theorem dX3_trace_43 : decode cX3_trace 43 = .ok (.getfield 43, 3) := by decide +kernel
theorem dX3_trace_46 : decode cX3_trace 46 = .ok (.istore 6, 2) := by decide +kernel
theorem dX3_trace_48 : decode cX3_trace 48 = .ok (.aload_n 0, 1) := by decide +kernel
theorem dX3_trace_49 : decode cX3_trace 49 = .ok (.iload 5, 2) := by decide +kernel
theorem dX3_trace_51 : decode cX3_trace 51 = .ok (.iconst 0, 1) := by decide +kernel
theorem dX3_trace_52 : decode cX3_trace 52 = .ok (.iload 6, 2) := by decide +kernel
theorem dX3_trace_54 : decode cX3_trace 54 = .ok (.invokevirtual 46, 3) := by decide +kernel
theorem dX3_trace_57 : decode cX3_trace 57 = .ok (.aload_n 0, 1) := by decide +kernel
theorem dX3_trace_58 : decode cX3_trace 58 = .ok (.iload 5, 2) := by decide +kernel
theorem dX3_trace_60 : decode cX3_trace 60 = .ok (.iconst 1, 1) := by decide +kernel
theorem dX3_trace_61 : decode cX3_trace 61 = .ok (.aload_n 0, 1) := by decide +kernel
theorem dX3_trace_62 : decode cX3_trace 62 = .ok (.getfield 28, 3) := by decide +kernel
theorem dX3_trace_65 : decode cX3_trace 65 = .ok (.getfield 50, 3) := by decide +kernel
theorem dX3_trace_68 : decode cX3_trace 68 = .ok (.ifCond .eq 7, 3) := by decide +kernel
theorem dX3_trace_71 : decode cX3_trace 71 = .ok (.iconst 1, 1) := by decide +kernel
theorem dX3_trace_72 : decode cX3_trace 72 = .ok (.goto 4, 3) := by decide +kernel
theorem dX3_trace_75 : decode cX3_trace 75 = .ok (.iconst 0, 1) := by decide +kernel
theorem dX3_trace_76 : decode cX3_trace 76 = .ok (.invokevirtual 46, 3) := by decide +kernel
theorem dX3_trace_79 : decode cX3_trace 79 = .ok (.aload_n 0, 1) := by decide +kernel
theorem dX3_trace_80 : decode cX3_trace 80 = .ok (.getfield 28, 3) := by decide +kernel
theorem dX3_trace_83 : decode cX3_trace 83 = .ok (.invokevirtual 54, 3) := by decide +kernel
theorem dX3_trace_86 : decode cX3_trace 86 = .ok (.aload_n 0, 1) := by decide +kernel
theorem dX3_trace_87 : decode cX3_trace 87 = .ok (.iload 5, 2) := by decide +kernel
theorem dX3_trace_89 : decode cX3_trace 89 = .ok (.iconst 2, 1) := by decide +kernel
theorem dX3_trace_90 : decode cX3_trace 90 = .ok (.aload_n 0, 1) := by decide +kernel
theorem dX3_trace_91 : decode cX3_trace 91 = .ok (.getfield 28, 3) := by decide +kernel
theorem dX3_trace_94 : decode cX3_trace 94 = .ok (.iload 6, 2) := by decide +kernel
theorem dX3_trace_96 : decode cX3_trace 96 = .ok (.invokevirtual 57, 3) := by decide +kernel
theorem dX3_trace_99 : decode cX3_trace 99 = .ok (.invokevirtual 46, 3) := by decide +kernel
theorem dX3_trace_102 : decode cX3_trace 102 = .ok (.aload_n 0, 1) := by decide +kernel
theorem dX3_trace_103 : decode cX3_trace 103 = .ok (.iload 5, 2) := by decide +kernel
theorem dX3_trace_105 : decode cX3_trace 105 = .ok (.iconst 3, 1) := by decide +kernel
theorem dX3_trace_106 : decode cX3_trace 106 = .ok (.aload_n 0, 1) := by decide +kernel
theorem dX3_trace_107 : decode cX3_trace 107 = .ok (.getfield 28, 3) := by decide +kernel
theorem dX3_trace_110 : decode cX3_trace 110 = .ok (.iload 6, 2) := by decide +kernel
theorem dX3_trace_112 : decode cX3_trace 112 = .ok (.invokevirtual 61, 3) := by decide +kernel
theorem dX3_trace_115 : decode cX3_trace 115 = .ok (.invokevirtual 46, 3) := by decide +kernel
theorem dX3_trace_118 : decode cX3_trace 118 = .ok (.aload_n 0, 1) := by decide +kernel
theorem dX3_trace_119 : decode cX3_trace 119 = .ok (.iload 5, 2) := by decide +kernel
theorem dX3_trace_121 : decode cX3_trace 121 = .ok (.iconst 4, 1) := by decide +kernel
theorem dX3_trace_122 : decode cX3_trace 122 = .ok (.aload_n 0, 1) := by decide +kernel
theorem dX3_trace_123 : decode cX3_trace 123 = .ok (.getfield 28, 3) := by decide +kernel
theorem dX3_trace_126 : decode cX3_trace 126 = .ok (.iload 6, 2) := by decide +kernel
theorem dX3_trace_128 : decode cX3_trace 128 = .ok (.invokevirtual 64, 3) := by decide +kernel
theorem dX3_trace_131 : decode cX3_trace 131 = .ok (.invokevirtual 46, 3) := by decide +kernel
theorem dX3_trace_134 : decode cX3_trace 134 = .ok (.aload_n 0, 1) := by decide +kernel
theorem dX3_trace_135 : decode cX3_trace 135 = .ok (.iload 5, 2) := by decide +kernel
theorem dX3_trace_137 : decode cX3_trace 137 = .ok (.iconst 5, 1) := by decide +kernel
theorem dX3_trace_138 : decode cX3_trace 138 = .ok (.aload_n 0, 1) := by decide +kernel
theorem dX3_trace_139 : decode cX3_trace 139 = .ok (.getfield 28, 3) := by decide +kernel
theorem dX3_trace_142 : decode cX3_trace 142 = .ok (.getfield 67, 3) := by decide +kernel
theorem dX3_trace_145 : decode cX3_trace 145 = .ok (.invokevirtual 46, 3) := by decide +kernel
theorem dX3_trace_148 : decode cX3_trace 148 = .ok (.aload_n 0, 1) := by decide +kernel
theorem dX3_trace_149 : decode cX3_trace 149 = .ok (.iload 5, 2) := by decide +kernel
theorem dX3_trace_151 : decode cX3_trace 151 = .ok (.bipush 6, 2) := by decide +kernel
theorem dX3_trace_153 : decode cX3_trace 153 = .ok (.aload_n 0, 1) := by decide +kernel
theorem dX3_trace_154 : decode cX3_trace 154 = .ok (.getfield 28, 3) := by decide +kernel
theorem dX3_trace_157 : decode cX3_trace 157 = .ok (.invokevirtual 70, 3) := by decide +kernel
theorem dX3_trace_160 : decode cX3_trace 160 = .ok (.invokevirtual 46, 3) := by decide +kernel
theorem dX3_trace_163 : decode cX3_trace 163 = .ok (.iinc 5 1, 3) := by decide +kernel
theorem dX3_trace_166 : decode cX3_trace 166 = .ok (.goto (-144), 3) := by decide +kernel
theorem dX3_trace_169 : decode cX3_trace 169 = .ok (.aload_n 0, 1) := by decide +kernel
theorem dX3_trace_170 : decode cX3_trace 170 = .ok (.aload_n 0, 1) := by decide +kernel
theorem dX3_trace_171 : decode cX3_trace 171 = .ok (.getfield 28, 3) := by decide +kernel
theorem dX3_trace_174 : decode cX3_trace 174 = .ok (.getfield 74, 3) := by decide +kernel
theorem dX3_trace_177 : decode cX3_trace 177 = .ok (.putfield 16, 3) := by decide +kernel
theorem dX3_trace_180 : decode cX3_trace 180 = .ok (.aload_n 0, 1) := by decide +kernel
theorem dX3_trace_181 : decode cX3_trace 181 = .ok (.aload_n 0, 1) := by decide +kernel
theorem dX3_trace_182 : decode cX3_trace 182 = .ok (.getfield 28, 3) := by decide +kernel
theorem dX3_trace_185 : decode cX3_trace 185 = .ok (.getfield 75, 3) := by decide +kernel
theorem dX3_trace_188 : decode cX3_trace 188 = .ok (.putfield 20, 3) := by decide +kernel
theorem dX3_trace_191 : decode cX3_trace 191 = .ok (.return_, 1) := by decide +kernel
set_option maxRecDepth 20000 in
set_option maxRecDepth 100000 in
theorem ggX3_set_X8_put : GoodIn wsX3_set wsX8_put := goodIn_r _ [4] rfl (by decide +kernel)
set_option maxRecDepth 20000 in
theorem gX3_set_X8_put_n76 : GoodIn wsX3_set (wsX8_put) := ggX3_set_X8_put
theorem dX3_set_0 : decode cX3_set 0 = .ok (.iload_n 2, 1) := by decide +kernel
theorem dX3_set_1 : decode cX3_set 1 = .ok (.ifCond .lt 23, 3) := by decide +kernel
theorem dX3_set_4 : decode cX3_set 4 = .ok (.iload_n 2, 1) := by decide +kernel
theorem dX3_set_5 : decode cX3_set 5 = .ok (.aload_n 0, 1) := by decide +kernel
theorem dX3_set_6 : decode cX3_set 6 = .ok (.getfield 11, 3) := by decide +kernel
theorem dX3_set_9 : decode cX3_set 9 = .ok (.arraylength, 1) := by decide +kernel
theorem dX3_set_10 : decode cX3_set 10 = .ok (.if_icmp .ge 14, 3) := by decide +kernel
theorem dX3_set_13 : decode cX3_set 13 = .ok (.aload_n 0, 1) := by decide +kernel
theorem dX3_set_14 : decode cX3_set 14 = .ok (.getfield 11, 3) := by decide +kernel
theorem dX3_set_17 : decode cX3_set 17 = .ok (.iload_n 2, 1) := by decide +kernel
theorem dX3_set_18 : decode cX3_set 18 = .ok (.aaload, 1) := by decide +kernel
theorem dX3_set_19 : decode cX3_set 19 = .ok (.iload_n 1, 1) := by decide +kernel
theorem dX3_set_20 : decode cX3_set 20 = .ok (.iload_n 3, 1) := by decide +kernel
theorem dX3_set_21 : decode cX3_set 21 = .ok (.invokestatic 76, 3) := by decide +kernel
theorem dX3_set_24 : decode cX3_set 24 = .ok (.return_, 1) := by decide +kernel
set_option maxRecDepth 20000 in
set_option maxRecDepth 100000 in
theorem ggX3_get_X8_at : GoodIn wsX3_get wsX8_at := goodIn_r _ [5] rfl (by decide +kernel)
set_option maxRecDepth 20000 in
theorem gX3_get_X8_at_n80 : GoodIn wsX3_get (wsX8_at) := ggX3_get_X8_at
theorem dX3_get_0 : decode cX3_get 0 = .ok (.iload_n 1, 1) := by decide +kernel
theorem dX3_get_1 : decode cX3_get 1 = .ok (.aload_n 0, 1) := by decide +kernel
theorem dX3_get_2 : decode cX3_get 2 = .ok (.getfield 16, 3) := by decide +kernel
theorem dX3_get_5 : decode cX3_get 5 = .ok (.if_icmp .ge 29, 3) := by decide +kernel
theorem dX3_get_8 : decode cX3_get 8 = .ok (.iload_n 2, 1) := by decide +kernel
theorem dX3_get_9 : decode cX3_get 9 = .ok (.ifCond .lt 25, 3) := by decide +kernel
theorem dX3_get_12 : decode cX3_get 12 = .ok (.iload_n 2, 1) := by decide +kernel
theorem dX3_get_13 : decode cX3_get 13 = .ok (.aload_n 0, 1) := by decide +kernel
theorem dX3_get_14 : decode cX3_get 14 = .ok (.getfield 11, 3) := by decide +kernel
theorem dX3_get_17 : decode cX3_get 17 = .ok (.arraylength, 1) := by decide +kernel
theorem dX3_get_18 : decode cX3_get 18 = .ok (.if_icmp .ge 16, 3) := by decide +kernel
theorem dX3_get_21 : decode cX3_get 21 = .ok (.aload_n 0, 1) := by decide +kernel
theorem dX3_get_22 : decode cX3_get 22 = .ok (.getfield 11, 3) := by decide +kernel
theorem dX3_get_25 : decode cX3_get 25 = .ok (.iload_n 2, 1) := by decide +kernel
theorem dX3_get_26 : decode cX3_get 26 = .ok (.aaload, 1) := by decide +kernel
theorem dX3_get_27 : decode cX3_get 27 = .ok (.iload_n 1, 1) := by decide +kernel
theorem dX3_get_28 : decode cX3_get 28 = .ok (.invokestatic 80, 3) := by decide +kernel
theorem dX3_get_31 : decode cX3_get 31 = .ok (.goto 4, 3) := by decide +kernel
theorem dX3_get_34 : decode cX3_get 34 = .ok (.iconst 0, 1) := by decide +kernel
theorem dX3_get_35 : decode cX3_get 35 = .ok (.ireturn, 1) := by decide +kernel
set_option maxRecDepth 20000 in
set_option maxRecDepth 100000 in
theorem ggX3_legsAcross_X3_get : GoodIn wsX3_legsAcross wsX3_get := goodIn_r _ [6, 1, 7, 8, 9, 10, 11, 12, 13, 14] rfl (by decide +kernel)
set_option maxRecDepth 20000 in
theorem gX3_legsAcross_X3_get : GoodIn wsX3_legsAcross (wsV RX3 84 RX3 yX3_get wsX3_get) := goodIn_app (goodIn_of _ (by decide +kernel)) ggX3_legsAcross_X3_get
theorem dX3_legsAcross_0 : decode cX3_legsAcross 0 = .ok (.iconst 0, 1) := by decide +kernel
theorem dX3_legsAcross_1 : decode cX3_legsAcross 1 = .ok (.istore_n 2, 1) := by decide +kernel
theorem dX3_legsAcross_2 : decode cX3_legsAcross 2 = .ok (.iconst 0, 1) := by decide +kernel
theorem dX3_legsAcross_3 : decode cX3_legsAcross 3 = .ok (.istore_n 3, 1) := by decide +kernel
theorem dX3_legsAcross_4 : decode cX3_legsAcross 4 = .ok (.iload_n 3, 1) := by decide +kernel
theorem dX3_legsAcross_5 : decode cX3_legsAcross 5 = .ok (.aload_n 0, 1) := by decide +kernel
theorem dX3_legsAcross_6 : decode cX3_legsAcross 6 = .ok (.getfield 16, 3) := by decide +kernel
theorem dX3_legsAcross_9 : decode cX3_legsAcross 9 = .ok (.if_icmp .ge 22, 3) := by decide +kernel
theorem dX3_legsAcross_12 : decode cX3_legsAcross 12 = .ok (.aload_n 0, 1) := by decide +kernel
theorem dX3_legsAcross_13 : decode cX3_legsAcross 13 = .ok (.iload_n 3, 1) := by decide +kernel
theorem dX3_legsAcross_14 : decode cX3_legsAcross 14 = .ok (.iconst 0, 1) := by decide +kernel
theorem dX3_legsAcross_15 : decode cX3_legsAcross 15 = .ok (.invokevirtual 84, 3) := by decide +kernel
theorem dX3_legsAcross_18 : decode cX3_legsAcross 18 = .ok (.iload_n 1, 1) := by decide +kernel
theorem dX3_legsAcross_19 : decode cX3_legsAcross 19 = .ok (.if_icmp .ne 6, 3) := by decide +kernel
theorem dX3_legsAcross_22 : decode cX3_legsAcross 22 = .ok (.iinc 2 1, 3) := by decide +kernel
theorem dX3_legsAcross_25 : decode cX3_legsAcross 25 = .ok (.iinc 3 1, 3) := by decide +kernel
theorem dX3_legsAcross_28 : decode cX3_legsAcross 28 = .ok (.goto (-24), 3) := by decide +kernel
theorem dX3_legsAcross_31 : decode cX3_legsAcross 31 = .ok (.iload_n 2, 1) := by decide +kernel
theorem dX3_legsAcross_32 : decode cX3_legsAcross 32 = .ok (.ireturn, 1) := by decide +kernel
