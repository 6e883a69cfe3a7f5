set_option maxRecDepth 20000 in
set_option maxRecDepth 100000 in
theorem ggX6_init_X4_init : GoodIn wsX6_init wsX4_init := goodIn_r _ [13, 14, 2, 3, 15, 16, 17, 18, 19, 20, 32, 33, 34, 35, 36, 37, 38, 39, 40, 41, 42, 43, 44, 45, 46, 47, 48, 49] rfl (by decide +kernel)
set_option maxRecDepth 20000 in
theorem gX6_init_X4_init : GoodIn wsX6_init (wsX4_init) := ggX6_init_X4_init
theorem dX6_init_0 : decode cX6_init 0 = .ok (.aload_n 0, 1) := by decide +kernel
theorem dX6_init_1 : decode cX6_init 1 = .ok (.invokespecial 3, 3) := by decide +kernel
theorem dX6_init_4 : decode cX6_init 4 = .ok (.aload_n 0, 1) := by decide +kernel
theorem dX6_init_5 : decode cX6_init 5 = .ok (.iconst (-1), 1) := by decide +kernel
theorem dX6_init_6 : decode cX6_init 6 = .ok (.putfield 9, 3) := by decide +kernel
theorem dX6_init_9 : decode cX6_init 9 = .ok (.aload_n 0, 1) := by decide +kernel
theorem dX6_init_10 : decode cX6_init 10 = .ok (.lconst 0, 1) := by decide +kernel
theorem dX6_init_11 : decode cX6_init 11 = .ok (.putfield 15, 3) := by decide +kernel
theorem dX6_init_14 : decode cX6_init 14 = .ok (.aload_n 0, 1) := by decide +kernel
theorem dX6_init_15 : decode cX6_init 15 = .ok (.aload_n 1, 1) := by decide +kernel
theorem dX6_init_16 : decode cX6_init 16 = .ok (.putfield 19, 3) := by decide +kernel
theorem dX6_init_19 : decode cX6_init 19 = .ok (.aload_n 0, 1) := by decide +kernel
theorem dX6_init_20 : decode cX6_init 20 = .ok (.new 23, 3) := by decide +kernel
theorem dX6_init_23 : decode cX6_init 23 = .ok (.dup, 1) := by decide +kernel
theorem dX6_init_24 : decode cX6_init 24 = .ok (.aload_n 1, 1) := by decide +kernel
theorem dX6_init_25 : decode cX6_init 25 = .ok (.invokespecial 25, 3) := by decide +kernel
theorem dX6_init_28 : decode cX6_init 28 = .ok (.putfield 28, 3) := by decide +kernel
theorem dX6_init_31 : decode cX6_init 31 = .ok (.return_, 1) := by decide +kernel
set_option maxRecDepth 20000 in
set_option maxRecDepth 100000 in
theorem ggX6_start_X4_enter : GoodIn wsX6_start wsX4_enter := goodIn_r _ [12, 13, 14, 15, 16, 17, 18, 19, 20, 21, 22, 23, 24, 25, 26, 27, 28, 29, 30, 31, 32, 33, 34, 35, 48, 49, 50, 51, 52, 53, 54, 55, 56, 57, 58, 59, 60, 61, 62, 63, 64, 65, 66, 67, 68, 69, 70, 71, 72] rfl (by decide +kernel)
set_option maxRecDepth 20000 in
theorem gX6_start_X4_enter : GoodIn wsX6_start (wsV RX6 32 RX4 yX4_enter wsX4_enter) := goodIn_app (goodIn_of _ (by decide +kernel)) ggX6_start_X4_enter
set_option maxRecDepth 20000 in
set_option maxRecDepth 100000 in
theorem ggX6_start_X5_indexAt : GoodIn wsX6_start wsX5_indexAt := goodIn_r _ [21, 22, 23, 24, 25, 26, 27, 28, 29, 30, 31, 32, 66, 67, 68, 69, 70, 71, 72] rfl (by decide +kernel)
set_option maxRecDepth 20000 in
theorem gX6_start_X5_indexAt : GoodIn wsX6_start (wsV RX6 42 RX5 yX5_indexAt wsX5_indexAt) := goodIn_app (goodIn_of _ (by decide +kernel)) ggX6_start_X5_indexAt
theorem dX6_start_0 : decode cX6_start 0 = .ok (.aload_n 0, 1) := by decide +kernel
theorem dX6_start_1 : decode cX6_start 1 = .ok (.getfield 28, 3) := by decide +kernel
theorem dX6_start_4 : decode cX6_start 4 = .ok (.aload_n 0, 1) := by decide +kernel
theorem dX6_start_5 : decode cX6_start 5 = .ok (.getfield 19, 3) := by decide +kernel
theorem dX6_start_8 : decode cX6_start 8 = .ok (.invokevirtual 32, 3) := by decide +kernel
theorem dX6_start_11 : decode cX6_start 11 = .ok (.aload_n 0, 1) := by decide +kernel
theorem dX6_start_12 : decode cX6_start 12 = .ok (.iload_n 1, 1) := by decide +kernel
theorem dX6_start_13 : decode cX6_start 13 = .ok (.putfield 35, 3) := by decide +kernel
theorem dX6_start_16 : decode cX6_start 16 = .ok (.aload_n 0, 1) := by decide +kernel
theorem dX6_start_17 : decode cX6_start 17 = .ok (.iload_n 2, 1) := by decide +kernel
theorem dX6_start_18 : decode cX6_start 18 = .ok (.putfield 38, 3) := by decide +kernel
theorem dX6_start_21 : decode cX6_start 21 = .ok (.aload_n 0, 1) := by decide +kernel
theorem dX6_start_22 : decode cX6_start 22 = .ok (.aload_n 0, 1) := by decide +kernel
theorem dX6_start_23 : decode cX6_start 23 = .ok (.getfield 19, 3) := by decide +kernel
theorem dX6_start_26 : decode cX6_start 26 = .ok (.iload_n 1, 1) := by decide +kernel
theorem dX6_start_27 : decode cX6_start 27 = .ok (.invokevirtual 42, 3) := by decide +kernel
theorem dX6_start_30 : decode cX6_start 30 = .ok (.putfield 48, 3) := by decide +kernel
theorem dX6_start_33 : decode cX6_start 33 = .ok (.aload_n 0, 1) := by decide +kernel
theorem dX6_start_34 : decode cX6_start 34 = .ok (.iconst 0, 1) := by decide +kernel
theorem dX6_start_35 : decode cX6_start 35 = .ok (.putfield 51, 3) := by decide +kernel
theorem dX6_start_38 : decode cX6_start 38 = .ok (.aload_n 0, 1) := by decide +kernel
theorem dX6_start_39 : decode cX6_start 39 = .ok (.iconst (-1), 1) := by decide +kernel
theorem dX6_start_40 : decode cX6_start 40 = .ok (.putfield 9, 3) := by decide +kernel
theorem dX6_start_43 : decode cX6_start 43 = .ok (.return_, 1) := by decide +kernel
set_option maxRecDepth 20000 in
set_option maxRecDepth 100000 in
theorem ggX6_nextPart_X4_run : GoodIn wsX6_nextPart wsX4_run := goodIn_r _ [15, 16, 17, 18, 14, 19, 20, 21, 22, 23, 24, 25, 26, 27, 28, 29, 30, 31, 32, 33, 34, 35, 36, 37, 38, 39, 40, 41, 42, 43, 44, 45, 46, 47, 48, 49, 50, 51, 52, 53, 54, 55, 56, 57, 58, 59, 60, 61, 62, 63, 64, 65, 66, 67, 68, 69, 70, 71, 72, 73, 74, 75, 76, 77, 78, 79, 80, 81, 82, 83, 84, 85, 86, 87, 88, 89, 90, 91, 92, 93, 94, 95, 96, 97, 98, 99, 100, 101, 102, 103, 104, 105, 106, 107, 108, 109, 110, 111, 112, 113, 114, 115, 116, 117, 118, 119, 120, 121, 122, 123, 124, 125, 126, 127, 128, 129, 155, 156, 157, 158, 159, 160, 161, 162, 163, 164, 165, 166, 167, 168, 169, 170, 171, 172, 173, 174, 175, 176, 177, 178, 179] rfl (by decide +kernel)
set_option maxRecDepth 20000 in
theorem gX6_nextPart_X4_run : GoodIn wsX6_nextPart (wsV RX6 57 RX4 yX4_run wsX4_run) := goodIn_app (goodIn_of _ (by decide +kernel)) ggX6_nextPart_X4_run
set_option maxRecDepth 20000 in
set_option maxRecDepth 100000 in
theorem ggX6_nextPart_X6_sameTurnsUntil : GoodIn wsX6_nextPart wsX6_sameTurnsUntil := goodIn_r _ [134, 3, 135, 136, 137, 2, 138, 139, 140, 39, 141, 142, 41, 120, 119, 143, 48, 49, 50, 45, 51, 52, 144, 145, 146, 147, 148, 149, 150, 151, 152, 153, 154, 173, 174, 175, 176, 177, 178, 179] rfl (by decide +kernel)
set_option maxRecDepth 20000 in
theorem gX6_nextPart_X6_sameTurnsUntil : GoodIn wsX6_nextPart (wsV RX6 73 RX6 yX6_sameTurnsUntil wsX6_sameTurnsUntil) := goodIn_app (goodIn_of _ (by decide +kernel)) ggX6_nextPart_X6_sameTurnsUntil
theorem dX6_nextPart_0 : decode cX6_nextPart 0 = .ok (.aload_n 0, 1) := by decide +kernel
theorem dX6_nextPart_1 : decode cX6_nextPart 1 = .ok (.aload_n 0, 1) := by decide +kernel
theorem dX6_nextPart_2 : decode cX6_nextPart 2 = .ok (.getfield 51, 3) := by decide +kernel
theorem dX6_nextPart_5 : decode cX6_nextPart 5 = .ok (.putfield 54, 3) := by decide +kernel
theorem dX6_nextPart_8 : decode cX6_nextPart 8 = .ok (.aload_n 0, 1) := by decide +kernel
theorem dX6_nextPart_9 : decode cX6_nextPart 9 = .ok (.getfield 54, 3) := by decide +kernel
theorem dX6_nextPart_12 : decode cX6_nextPart 12 = .ok (.aload_n 0, 1) := by decide +kernel
theorem dX6_nextPart_13 : decode cX6_nextPart 13 = .ok (.getfield 48, 3) := by decide +kernel
theorem dX6_nextPart_16 : decode cX6_nextPart 16 = .ok (.if_icmp .lt 5, 3) := by decide +kernel
theorem dX6_nextPart_19 : decode cX6_nextPart 19 = .ok (.iconst 0, 1) := by decide +kernel
theorem dX6_nextPart_20 : decode cX6_nextPart 20 = .ok (.ireturn, 1) := by decide +kernel
theorem dX6_nextPart_21 : decode cX6_nextPart 21 = .ok (.aload_n 0, 1) := by decide +kernel
theorem dX6_nextPart_22 : decode cX6_nextPart 22 = .ok (.getfield 28, 3) := by decide +kernel
theorem dX6_nextPart_25 : decode cX6_nextPart 25 = .ok (.aload_n 0, 1) := by decide +kernel
theorem dX6_nextPart_26 : decode cX6_nextPart 26 = .ok (.getfield 35, 3) := by decide +kernel
theorem dX6_nextPart_29 : decode cX6_nextPart 29 = .ok (.aload_n 0, 1) := by decide +kernel
theorem dX6_nextPart_30 : decode cX6_nextPart 30 = .ok (.getfield 38, 3) := by decide +kernel
theorem dX6_nextPart_33 : decode cX6_nextPart 33 = .ok (.aload_n 0, 1) := by decide +kernel
theorem dX6_nextPart_34 : decode cX6_nextPart 34 = .ok (.getfield 54, 3) := by decide +kernel
theorem dX6_nextPart_37 : decode cX6_nextPart 37 = .ok (.invokevirtual 57, 3) := by decide +kernel
theorem dX6_nextPart_40 : decode cX6_nextPart 40 = .ok (.aload_n 0, 1) := by decide +kernel
theorem dX6_nextPart_41 : decode cX6_nextPart 41 = .ok (.aload_n 0, 1) := by decide +kernel
theorem dX6_nextPart_42 : decode cX6_nextPart 42 = .ok (.getfield 28, 3) := by decide +kernel
theorem dX6_nextPart_45 : decode cX6_nextPart 45 = .ok (.getfield 61, 3) := by decide +kernel
theorem dX6_nextPart_48 : decode cX6_nextPart 48 = .ok (.putfield 64, 3) := by decide +kernel
theorem dX6_nextPart_51 : decode cX6_nextPart 51 = .ok (.aload_n 0, 1) := by decide +kernel
theorem dX6_nextPart_52 : decode cX6_nextPart 52 = .ok (.aload_n 0, 1) := by decide +kernel
theorem dX6_nextPart_53 : decode cX6_nextPart 53 = .ok (.getfield 28, 3) := by decide +kernel
theorem dX6_nextPart_56 : decode cX6_nextPart 56 = .ok (.getfield 67, 3) := by decide +kernel
theorem dX6_nextPart_59 : decode cX6_nextPart 59 = .ok (.putfield 70, 3) := by decide +kernel
theorem dX6_nextPart_62 : decode cX6_nextPart 62 = .ok (.aload_n 0, 1) := by decide +kernel
theorem dX6_nextPart_63 : decode cX6_nextPart 63 = .ok (.aload_n 0, 1) := by decide +kernel
theorem dX6_nextPart_64 : decode cX6_nextPart 64 = .ok (.getfield 54, 3) := by decide +kernel
theorem dX6_nextPart_67 : decode cX6_nextPart 67 = .ok (.iconst 1, 1) := by decide +kernel
theorem dX6_nextPart_68 : decode cX6_nextPart 68 = .ok (.iadd, 1) := by decide +kernel
theorem dX6_nextPart_69 : decode cX6_nextPart 69 = .ok (.putfield 51, 3) := by decide +kernel
theorem dX6_nextPart_72 : decode cX6_nextPart 72 = .ok (.aload_n 0, 1) := by decide +kernel
theorem dX6_nextPart_73 : decode cX6_nextPart 73 = .ok (.invokevirtual 73, 3) := by decide +kernel
theorem dX6_nextPart_76 : decode cX6_nextPart 76 = .ok (.istore_n 1, 1) := by decide +kernel
theorem dX6_nextPart_77 : decode cX6_nextPart 77 = .ok (.iconst 0, 1) := by decide +kernel
theorem dX6_nextPart_78 : decode cX6_nextPart 78 = .ok (.istore_n 2, 1) := by decide +kernel
theorem dX6_nextPart_79 : decode cX6_nextPart 79 = .ok (.iload_n 2, 1) := by decide +kernel
theorem dX6_nextPart_80 : decode cX6_nextPart 80 = .ok (.bipush 32, 2) := by decide +kernel
theorem dX6_nextPart_82 : decode cX6_nextPart 82 = .ok (.if_icmp .ge 92, 3) := by decide +kernel
theorem dX6_nextPart_85 : decode cX6_nextPart 85 = .ok (.aload_n 0, 1) := by decide +kernel
theorem dX6_nextPart_86 : decode cX6_nextPart 86 = .ok (.getfield 51, 3) := by decide +kernel
theorem dX6_nextPart_89 : decode cX6_nextPart 89 = .ok (.iload_n 1, 1) := by decide +kernel
theorem dX6_nextPart_90 : decode cX6_nextPart 90 = .ok (.if_icmp .ge 84, 3) := by decide +kernel
theorem dX6_nextPart_93 : decode cX6_nextPart 93 = .ok (.iload_n 2, 1) := by decide +kernel
theorem dX6_nextPart_94 : decode cX6_nextPart 94 = .ok (.ifCond .ne 9, 3) := by decide +kernel
theorem dX6_nextPart_97 : decode cX6_nextPart 97 = .ok (.iload_n 1, 1) := by decide +kernel
theorem dX6_nextPart_98 : decode cX6_nextPart 98 = .ok (.iconst 1, 1) := by decide +kernel
theorem dX6_nextPart_99 : decode cX6_nextPart 99 = .ok (.isub, 1) := by decide +kernel
theorem dX6_nextPart_100 : decode cX6_nextPart 100 = .ok (.goto 11, 3) := by decide +kernel
theorem dX6_nextPart_103 : decode cX6_nextPart 103 = .ok (.aload_n 0, 1) := by decide +kernel
theorem dX6_nextPart_104 : decode cX6_nextPart 104 = .ok (.getfield 51, 3) := by decide +kernel
theorem dX6_nextPart_107 : decode cX6_nextPart 107 = .ok (.iload_n 1, 1) := by decide +kernel
theorem dX6_nextPart_108 : decode cX6_nextPart 108 = .ok (.iadd, 1) := by decide +kernel
theorem dX6_nextPart_109 : decode cX6_nextPart 109 = .ok (.iconst 2, 1) := by decide +kernel
theorem dX6_nextPart_110 : decode cX6_nextPart 110 = .ok (.idiv, 1) := by decide +kernel
theorem dX6_nextPart_111 : decode cX6_nextPart 111 = .ok (.istore_n 3, 1) := by decide +kernel
theorem dX6_nextPart_112 : decode cX6_nextPart 112 = .ok (.aload_n 0, 1) := by decide +kernel
theorem dX6_nextPart_113 : decode cX6_nextPart 113 = .ok (.getfield 28, 3) := by decide +kernel
theorem dX6_nextPart_116 : decode cX6_nextPart 116 = .ok (.aload_n 0, 1) := by decide +kernel
theorem dX6_nextPart_117 : decode cX6_nextPart 117 = .ok (.getfield 35, 3) := by decide +kernel
theorem dX6_nextPart_120 : decode cX6_nextPart 120 = .ok (.aload_n 0, 1) := by decide +kernel
theorem dX6_nextPart_121 : decode cX6_nextPart 121 = .ok (.getfield 38, 3) := by decide +kernel
theorem dX6_nextPart_124 : decode cX6_nextPart 124 = .ok (.iload_n 3, 1) := by decide +kernel
theorem dX6_nextPart_125 : decode cX6_nextPart 125 = .ok (.invokevirtual 57, 3) := by decide +kernel
theorem dX6_nextPart_128 : decode cX6_nextPart 128 = .ok (.aload_n 0, 1) := by decide +kernel
theorem dX6_nextPart_129 : decode cX6_nextPart 129 = .ok (.getfield 28, 3) := by decide +kernel
theorem dX6_nextPart_132 : decode cX6_nextPart 132 = .ok (.getfield 61, 3) := by decide +kernel
theorem dX6_nextPart_135 : decode cX6_nextPart 135 = .ok (.aload_n 0, 1) := by decide +kernel
theorem dX6_nextPart_136 : decode cX6_nextPart 136 = .ok (.getfield 64, 3) := by decide +kernel
theorem dX6_nextPart_139 : decode cX6_nextPart 139 = .ok (.if_icmp .ne 27, 3) := by decide +kernel
theorem dX6_nextPart_142 : decode cX6_nextPart 142 = .ok (.aload_n 0, 1) := by decide +kernel
theorem dX6_nextPart_143 : decode cX6_nextPart 143 = .ok (.getfield 28, 3) := by decide +kernel
theorem dX6_nextPart_146 : decode cX6_nextPart 146 = .ok (.getfield 67, 3) := by decide +kernel
theorem dX6_nextPart_149 : decode cX6_nextPart 149 = .ok (.aload_n 0, 1) := by decide +kernel
theorem dX6_nextPart_150 : decode cX6_nextPart 150 = .ok (.getfield 70, 3) := by decide +kernel
theorem dX6_nextPart_153 : decode cX6_nextPart 153 = .ok (.if_icmp .ne 13, 3) := by decide +kernel
theorem dX6_nextPart_156 : decode cX6_nextPart 156 = .ok (.aload_n 0, 1) := by decide +kernel
theorem dX6_nextPart_157 : decode cX6_nextPart 157 = .ok (.iload_n 3, 1) := by decide +kernel
theorem dX6_nextPart_158 : decode cX6_nextPart 158 = .ok (.iconst 1, 1) := by decide +kernel
theorem dX6_nextPart_159 : decode cX6_nextPart 159 = .ok (.iadd, 1) := by decide +kernel
theorem dX6_nextPart_160 : decode cX6_nextPart 160 = .ok (.putfield 51, 3) := by decide +kernel
theorem dX6_nextPart_163 : decode cX6_nextPart 163 = .ok (.goto 5, 3) := by decide +kernel
theorem dX6_nextPart_166 : decode cX6_nextPart 166 = .ok (.iload_n 3, 1) := by decide +kernel
theorem dX6_nextPart_167 : decode cX6_nextPart 167 = .ok (.istore_n 1, 1) := by decide +kernel
theorem dX6_nextPart_168 : decode cX6_nextPart 168 = .ok (.iinc 2 1, 3) := by decide +kernel
theorem dX6_nextPart_171 : decode cX6_nextPart 171 = .ok (.goto (-92), 3) := by decide +kernel
theorem dX6_nextPart_174 : decode cX6_nextPart 174 = .ok (.iconst 1, 1) := by decide +kernel
theorem dX6_nextPart_175 : decode cX6_nextPart 175 = .ok (.ireturn, 1) := by decide +kernel
set_option maxRecDepth 20000 in
set_option maxRecDepth 100000 in
theorem ggX6_sameTurnsUntil_X5_indexAt : GoodIn wsX6_sameTurnsUntil wsX5_indexAt := goodIn_r _ [10, 11, 12, 13, 14, 15, 16, 17, 18, 19, 20, 21, 33, 34, 35, 36, 37, 38, 39] rfl (by decide +kernel)
set_option maxRecDepth 20000 in
theorem gX6_sameTurnsUntil_X5_indexAt : GoodIn wsX6_sameTurnsUntil (wsV RX6 42 RX5 yX5_indexAt wsX5_indexAt) := goodIn_app (goodIn_of _ (by decide +kernel)) ggX6_sameTurnsUntil_X5_indexAt
theorem dX6_sameTurnsUntil_0 : decode cX6_sameTurnsUntil 0 = .ok (.aload_n 0, 1) := by decide +kernel
theorem dX6_sameTurnsUntil_1 : decode cX6_sameTurnsUntil 1 = .ok (.getfield 48, 3) := by decide +kernel
theorem dX6_sameTurnsUntil_4 : decode cX6_sameTurnsUntil 4 = .ok (.istore_n 1, 1) := by decide +kernel
theorem dX6_sameTurnsUntil_5 : decode cX6_sameTurnsUntil 5 = .ok (.iconst (-1), 1) := by decide +kernel
theorem dX6_sameTurnsUntil_6 : decode cX6_sameTurnsUntil 6 = .ok (.istore_n 2, 1) := by decide +kernel
theorem dX6_sameTurnsUntil_7 : decode cX6_sameTurnsUntil 7 = .ok (.iload_n 2, 1) := by decide +kernel
theorem dX6_sameTurnsUntil_8 : decode cX6_sameTurnsUntil 8 = .ok (.aload_n 0, 1) := by decide +kernel
theorem dX6_sameTurnsUntil_9 : decode cX6_sameTurnsUntil 9 = .ok (.getfield 19, 3) := by decide +kernel
theorem dX6_sameTurnsUntil_12 : decode cX6_sameTurnsUntil 12 = .ok (.getfield 77, 3) := by decide +kernel
theorem dX6_sameTurnsUntil_15 : decode cX6_sameTurnsUntil 15 = .ok (.getfield 81, 3) := by decide +kernel
theorem dX6_sameTurnsUntil_18 : decode cX6_sameTurnsUntil 18 = .ok (.if_icmp .gt 33, 3) := by decide +kernel
theorem dX6_sameTurnsUntil_21 : decode cX6_sameTurnsUntil 21 = .ok (.aload_n 0, 1) := by decide +kernel
theorem dX6_sameTurnsUntil_22 : decode cX6_sameTurnsUntil 22 = .ok (.getfield 19, 3) := by decide +kernel
theorem dX6_sameTurnsUntil_25 : decode cX6_sameTurnsUntil 25 = .ok (.iload_n 2, 1) := by decide +kernel
theorem dX6_sameTurnsUntil_26 : decode cX6_sameTurnsUntil 26 = .ok (.invokevirtual 42, 3) := by decide +kernel
theorem dX6_sameTurnsUntil_29 : decode cX6_sameTurnsUntil 29 = .ok (.istore_n 3, 1) := by decide +kernel
theorem dX6_sameTurnsUntil_30 : decode cX6_sameTurnsUntil 30 = .ok (.iload_n 3, 1) := by decide +kernel
theorem dX6_sameTurnsUntil_31 : decode cX6_sameTurnsUntil 31 = .ok (.aload_n 0, 1) := by decide +kernel
theorem dX6_sameTurnsUntil_32 : decode cX6_sameTurnsUntil 32 = .ok (.getfield 54, 3) := by decide +kernel
theorem dX6_sameTurnsUntil_35 : decode cX6_sameTurnsUntil 35 = .ok (.if_icmp .le 10, 3) := by decide +kernel
theorem dX6_sameTurnsUntil_38 : decode cX6_sameTurnsUntil 38 = .ok (.iload_n 3, 1) := by decide +kernel
theorem dX6_sameTurnsUntil_39 : decode cX6_sameTurnsUntil 39 = .ok (.iload_n 1, 1) := by decide +kernel
theorem dX6_sameTurnsUntil_40 : decode cX6_sameTurnsUntil 40 = .ok (.if_icmp .ge 5, 3) := by decide +kernel
theorem dX6_sameTurnsUntil_43 : decode cX6_sameTurnsUntil 43 = .ok (.iload_n 3, 1) := by decide +kernel
theorem dX6_sameTurnsUntil_44 : decode cX6_sameTurnsUntil 44 = .ok (.istore_n 1, 1) := by decide +kernel
theorem dX6_sameTurnsUntil_45 : decode cX6_sameTurnsUntil 45 = .ok (.iinc 2 1, 3) := by decide +kernel
theorem dX6_sameTurnsUntil_48 : decode cX6_sameTurnsUntil 48 = .ok (.goto (-41), 3) := by decide +kernel
theorem dX6_sameTurnsUntil_51 : decode cX6_sameTurnsUntil 51 = .ok (.iload_n 1, 1) := by decide +kernel
theorem dX6_sameTurnsUntil_52 : decode cX6_sameTurnsUntil 52 = .ok (.ireturn, 1) := by decide +kernel
set_option maxRecDepth 20000 in
set_option maxRecDepth 100000 in
theorem ggX6_countSlants_X6_start : GoodIn wsX6_countSlants wsX6_start := goodIn_r _ [8, 9, 10, 11, 12, 13, 2, 14, 15, 16, 17, 18, 19, 20, 21, 22, 23, 24, 25, 26, 27, 28, 29, 30, 31, 32, 33, 34, 35, 36, 37, 38, 39, 40, 41, 42, 43, 159, 160, 161, 162, 163, 164, 165, 166, 167, 168, 169, 170, 171, 172, 173, 174, 175, 176, 177, 178, 179, 180, 181, 182, 183, 184, 185, 186, 187, 188, 189, 190, 191, 192, 193, 194] rfl (by decide +kernel)
set_option maxRecDepth 20000 in
theorem gX6_countSlants_X6_start : GoodIn wsX6_countSlants (wsV RX6 86 RX6 yX6_start wsX6_start) := goodIn_app (goodIn_of _ (by decide +kernel)) ggX6_countSlants_X6_start
set_option maxRecDepth 20000 in
set_option maxRecDepth 100000 in
theorem ggX6_countSlants_X6_nextPart : GoodIn wsX6_countSlants wsX6_nextPart := goodIn_r _ [47, 2, 3, 13, 9, 11, 12, 48, 1, 49, 50, 51, 52, 53, 18, 54, 55, 56, 57, 58, 59, 60, 61, 62, 63, 64, 65, 66, 67, 68, 69, 20, 70, 71, 72, 73, 74, 75, 76, 27, 77, 30, 78, 79, 80, 37, 81, 82, 34, 35, 36, 38, 39, 83, 84, 85, 86, 87, 88, 89, 90, 91, 92, 93, 94, 95, 96, 97, 98, 21, 99, 100, 101, 102, 103, 104, 105, 106, 107, 41, 108, 109, 110, 111, 112, 113, 114, 115, 116, 117, 118, 40, 42, 119, 120, 121, 122, 123, 124, 125, 126, 127, 128, 129, 130, 23, 131, 132, 133, 134, 135, 136, 137, 138, 139, 140, 141, 142, 143, 32, 31, 144, 145, 146, 147, 148, 149, 150, 151, 152, 153, 154, 155, 7, 156, 10, 157, 158, 43, 25, 26, 28, 29, 33, 159, 160, 161, 162, 163, 164, 165, 166, 167, 168, 169, 170, 171, 172, 173, 174, 175, 176, 177, 178, 179, 180, 181, 182, 183, 184, 185, 186, 187, 188, 189, 190, 191, 192, 193, 194] rfl (by decide +kernel)
set_option maxRecDepth 20000 in
theorem gX6_countSlants_X6_nextPart : GoodIn wsX6_countSlants (wsV RX6 90 RX6 yX6_nextPart wsX6_nextPart) := goodIn_app (goodIn_of _ (by decide +kernel)) ggX6_countSlants_X6_nextPart
theorem dX6_countSlants_0 : decode cX6_countSlants 0 = .ok (.aload_n 0, 1) := by decide +kernel
theorem dX6_countSlants_1 : decode cX6_countSlants 1 = .ok (.iload_n 1, 1) := by decide +kernel
theorem dX6_countSlants_2 : decode cX6_countSlants 2 = .ok (.iload_n 2, 1) := by decide +kernel
theorem dX6_countSlants_3 : decode cX6_countSlants 3 = .ok (.invokevirtual 86, 3) := by decide +kernel
theorem dX6_countSlants_6 : decode cX6_countSlants 6 = .ok (.iconst 0, 1) := by decide +kernel
theorem dX6_countSlants_7 : decode cX6_countSlants 7 = .ok (.istore 4, 2) := by decide +kernel
theorem dX6_countSlants_9 : decode cX6_countSlants 9 = .ok (.iconst 0, 1) := by decide +kernel
theorem dX6_countSlants_10 : decode cX6_countSlants 10 = .ok (.istore 5, 2) := by decide +kernel
theorem dX6_countSlants_12 : decode cX6_countSlants 12 = .ok (.iload 5, 2) := by decide +kernel
theorem dX6_countSlants_14 : decode cX6_countSlants 14 = .ok (.sipush 793, 3) := by decide +kernel
theorem dX6_countSlants_17 : decode cX6_countSlants 17 = .ok (.if_icmp .ge 38, 3) := by decide +kernel
theorem dX6_countSlants_20 : decode cX6_countSlants 20 = .ok (.aload_n 0, 1) := by decide +kernel
theorem dX6_countSlants_21 : decode cX6_countSlants 21 = .ok (.invokevirtual 90, 3) := by decide +kernel
theorem dX6_countSlants_24 : decode cX6_countSlants 24 = .ok (.ifCond .eq 31, 3) := by decide +kernel
theorem dX6_countSlants_27 : decode cX6_countSlants 27 = .ok (.aload_n 0, 1) := by decide +kernel
theorem dX6_countSlants_28 : decode cX6_countSlants 28 = .ok (.getfield 64, 3) := by decide +kernel
theorem dX6_countSlants_31 : decode cX6_countSlants 31 = .ok (.iload_n 3, 1) := by decide +kernel
theorem dX6_countSlants_32 : decode cX6_countSlants 32 = .ok (.if_icmp .ne 17, 3) := by decide +kernel
theorem dX6_countSlants_35 : decode cX6_countSlants 35 = .ok (.iload 4, 2) := by decide +kernel
theorem dX6_countSlants_37 : decode cX6_countSlants 37 = .ok (.aload_n 0, 1) := by decide +kernel
theorem dX6_countSlants_38 : decode cX6_countSlants 38 = .ok (.getfield 51, 3) := by decide +kernel
theorem dX6_countSlants_41 : decode cX6_countSlants 41 = .ok (.aload_n 0, 1) := by decide +kernel
theorem dX6_countSlants_42 : decode cX6_countSlants 42 = .ok (.getfield 54, 3) := by decide +kernel
theorem dX6_countSlants_45 : decode cX6_countSlants 45 = .ok (.isub, 1) := by decide +kernel
theorem dX6_countSlants_46 : decode cX6_countSlants 46 = .ok (.iadd, 1) := by decide +kernel
theorem dX6_countSlants_47 : decode cX6_countSlants 47 = .ok (.istore 4, 2) := by decide +kernel
theorem dX6_countSlants_49 : decode cX6_countSlants 49 = .ok (.iinc 5 1, 3) := by decide +kernel
theorem dX6_countSlants_52 : decode cX6_countSlants 52 = .ok (.goto (-40), 3) := by decide +kernel
theorem dX6_countSlants_55 : decode cX6_countSlants 55 = .ok (.iload 4, 2) := by decide +kernel
theorem dX6_countSlants_57 : decode cX6_countSlants 57 = .ok (.ireturn, 1) := by decide +kernel
set_option maxRecDepth 20000 in
set_option maxRecDepth 100000 in
theorem ggX6_lowestSlant_X6_start : GoodIn wsX6_lowestSlant wsX6_start := goodIn_r _ [7, 8, 9, 10, 11, 12, 13, 14, 15, 16, 17, 18, 19, 20, 21, 22, 23, 24, 25, 26, 27, 28, 29, 30, 31, 32, 33, 34, 35, 36, 37, 38, 39, 40, 41, 42, 43, 159, 160, 161, 162, 163, 164, 165, 166, 167, 168, 169, 170, 171, 172, 173, 174, 175, 176, 177, 178, 179, 180, 181, 182, 183, 184, 185, 186, 187, 188, 189, 190, 191, 192, 193, 194] rfl (by decide +kernel)
set_option maxRecDepth 20000 in
theorem gX6_lowestSlant_X6_start : GoodIn wsX6_lowestSlant (wsV RX6 86 RX6 yX6_start wsX6_start) := goodIn_app (goodIn_of _ (by decide +kernel)) ggX6_lowestSlant_X6_start
set_option maxRecDepth 20000 in
set_option maxRecDepth 100000 in
theorem ggX6_lowestSlant_X6_nextPart : GoodIn wsX6_lowestSlant wsX6_nextPart := goodIn_r _ [47, 13, 2, 12, 8, 10, 11, 48, 1, 49, 50, 51, 52, 53, 18, 54, 55, 56, 57, 58, 59, 60, 61, 62, 63, 64, 65, 66, 67, 68, 69, 20, 70, 71, 72, 73, 74, 75, 76, 27, 77, 30, 78, 79, 80, 37, 81, 82, 34, 35, 36, 38, 39, 83, 84, 85, 86, 87, 88, 89, 90, 91, 92, 93, 94, 95, 96, 97, 98, 21, 99, 100, 101, 102, 103, 104, 105, 106, 107, 41, 108, 109, 110, 111, 112, 113, 114, 115, 116, 117, 118, 40, 42, 119, 120, 121, 122, 123, 124, 125, 126, 127, 128, 129, 130, 23, 131, 132, 133, 134, 135, 136, 137, 138, 139, 140, 141, 142, 143, 32, 31, 144, 145, 146, 147, 148, 149, 150, 151, 152, 153, 154, 155, 6, 156, 9, 157, 158, 43, 25, 26, 28, 29, 33, 159, 160, 161, 162, 163, 164, 165, 166, 167, 168, 169, 170, 171, 172, 173, 174, 175, 176, 177, 178, 179, 180, 181, 182, 183, 184, 185, 186, 187, 188, 189, 190, 191, 192, 193, 194] rfl (by decide +kernel)
set_option maxRecDepth 20000 in
theorem gX6_lowestSlant_X6_nextPart : GoodIn wsX6_lowestSlant (wsV RX6 90 RX6 yX6_nextPart wsX6_nextPart) := goodIn_app (goodIn_of _ (by decide +kernel)) ggX6_lowestSlant_X6_nextPart
theorem dX6_lowestSlant_0 : decode cX6_lowestSlant 0 = .ok (.aload_n 0, 1) := by decide +kernel
theorem dX6_lowestSlant_1 : decode cX6_lowestSlant 1 = .ok (.iload_n 1, 1) := by decide +kernel
theorem dX6_lowestSlant_2 : decode cX6_lowestSlant 2 = .ok (.iload_n 2, 1) := by decide +kernel
theorem dX6_lowestSlant_3 : decode cX6_lowestSlant 3 = .ok (.invokevirtual 86, 3) := by decide +kernel
theorem dX6_lowestSlant_6 : decode cX6_lowestSlant 6 = .ok (.iconst 0, 1) := by decide +kernel
theorem dX6_lowestSlant_7 : decode cX6_lowestSlant 7 = .ok (.istore 4, 2) := by decide +kernel
theorem dX6_lowestSlant_9 : decode cX6_lowestSlant 9 = .ok (.iload 4, 2) := by decide +kernel
theorem dX6_lowestSlant_11 : decode cX6_lowestSlant 11 = .ok (.sipush 793, 3) := by decide +kernel
theorem dX6_lowestSlant_14 : decode cX6_lowestSlant 14 = .ok (.if_icmp .ge 29, 3) := by decide +kernel
theorem dX6_lowestSlant_17 : decode cX6_lowestSlant 17 = .ok (.aload_n 0, 1) := by decide +kernel
theorem dX6_lowestSlant_18 : decode cX6_lowestSlant 18 = .ok (.invokevirtual 90, 3) := by decide +kernel
theorem dX6_lowestSlant_21 : decode cX6_lowestSlant 21 = .ok (.ifCond .eq 22, 3) := by decide +kernel
theorem dX6_lowestSlant_24 : decode cX6_lowestSlant 24 = .ok (.aload_n 0, 1) := by decide +kernel
theorem dX6_lowestSlant_25 : decode cX6_lowestSlant 25 = .ok (.getfield 64, 3) := by decide +kernel
theorem dX6_lowestSlant_28 : decode cX6_lowestSlant 28 = .ok (.iload_n 3, 1) := by decide +kernel
theorem dX6_lowestSlant_29 : decode cX6_lowestSlant 29 = .ok (.if_icmp .ne 8, 3) := by decide +kernel
theorem dX6_lowestSlant_32 : decode cX6_lowestSlant 32 = .ok (.aload_n 0, 1) := by decide +kernel
theorem dX6_lowestSlant_33 : decode cX6_lowestSlant 33 = .ok (.getfield 54, 3) := by decide +kernel
theorem dX6_lowestSlant_36 : decode cX6_lowestSlant 36 = .ok (.ireturn, 1) := by decide +kernel
theorem dX6_lowestSlant_37 : decode cX6_lowestSlant 37 = .ok (.iinc 4 1, 3) := by decide +kernel
theorem dX6_lowestSlant_40 : decode cX6_lowestSlant 40 = .ok (.goto (-31), 3) := by decide +kernel
theorem dX6_lowestSlant_43 : decode cX6_lowestSlant 43 = .ok (.iconst (-1), 1) := by decide +kernel
theorem dX6_lowestSlant_44 : decode cX6_lowestSlant 44 = .ok (.ireturn, 1) := by decide +kernel
set_option maxRecDepth 20000 in
set_option maxRecDepth 100000 in
theorem ggX6_findBest_X6_start : GoodIn wsX6_findBest wsX6_start := goodIn_r _ [11, 4, 12, 5, 6, 13, 2, 14, 15, 16, 17, 18, 19, 20, 21, 22, 23, 24, 25, 26, 27, 28, 29, 30, 31, 32, 33, 34, 35, 36, 37, 38, 39, 40, 41, 42, 43, 171, 172, 173, 174, 175, 176, 177, 178, 179, 180, 181, 182, 183, 184, 185, 186, 187, 188, 189, 190, 191, 192, 193, 194, 195, 196, 197, 198, 199, 200, 201, 202, 203, 204, 205, 206] rfl (by decide +kernel)
set_option maxRecDepth 20000 in
theorem gX6_findBest_X6_start : GoodIn wsX6_findBest (wsV RX6 86 RX6 yX6_start wsX6_start) := goodIn_app (goodIn_of _ (by decide +kernel)) ggX6_findBest_X6_start
set_option maxRecDepth 20000 in
set_option maxRecDepth 100000 in
theorem ggX6_findBest_X6_nextPart : GoodIn wsX6_findBest wsX6_nextPart := goodIn_r _ [47, 2, 3, 13, 4, 5, 6, 48, 1, 49, 50, 51, 52, 53, 18, 54, 55, 56, 57, 58, 59, 60, 61, 62, 63, 64, 65, 66, 67, 68, 69, 20, 70, 71, 72, 73, 74, 75, 76, 27, 77, 30, 78, 79, 80, 37, 81, 82, 34, 35, 36, 38, 39, 83, 84, 85, 86, 87, 88, 89, 90, 91, 92, 93, 94, 95, 96, 97, 98, 21, 99, 100, 101, 102, 103, 104, 105, 106, 107, 41, 108, 109, 110, 111, 112, 113, 114, 115, 116, 117, 118, 40, 42, 119, 120, 121, 122, 123, 124, 125, 126, 127, 128, 129, 130, 23, 131, 132, 133, 134, 135, 136, 137, 138, 139, 140, 141, 142, 143, 32, 31, 144, 145, 146, 147, 148, 149, 150, 151, 152, 153, 154, 155, 10, 156, 12, 157, 158, 43, 25, 26, 28, 29, 33, 171, 172, 173, 174, 175, 176, 177, 178, 179, 180, 181, 182, 183, 184, 185, 186, 187, 188, 189, 190, 191, 192, 193, 194, 195, 196, 197, 198, 199, 200, 201, 202, 203, 204, 205, 206] rfl (by decide +kernel)
set_option maxRecDepth 20000 in
theorem gX6_findBest_X6_nextPart : GoodIn wsX6_findBest (wsV RX6 90 RX6 yX6_nextPart wsX6_nextPart) := goodIn_app (goodIn_of _ (by decide +kernel)) ggX6_findBest_X6_nextPart
set_option maxRecDepth 20000 in
set_option maxRecDepth 100000 in
theorem ggX6_findBest_X4_run : GoodIn wsX6_findBest wsX4_run := goodIn_r _ [54, 55, 56, 57, 18, 58, 59, 60, 61, 62, 63, 64, 65, 66, 67, 68, 69, 20, 70, 71, 72, 73, 74, 75, 76, 27, 77, 30, 78, 79, 80, 37, 81, 82, 34, 35, 36, 38, 39, 83, 84, 85, 86, 87, 88, 89, 90, 91, 92, 93, 94, 95, 96, 97, 98, 21, 99, 100, 101, 102, 103, 104, 105, 106, 107, 41, 108, 109, 110, 111, 112, 113, 114, 115, 116, 117, 118, 40, 42, 119, 120, 121, 122, 123, 124, 125, 126, 127, 128, 129, 130, 23, 131, 132, 133, 134, 135, 136, 137, 138, 139, 140, 141, 142, 143, 32, 31, 144, 145, 146, 147, 148, 149, 150, 151, 152, 182, 183, 184, 185, 186, 187, 188, 189, 190, 191, 192, 193, 194, 195, 196, 197, 198, 199, 200, 201, 202, 203, 204, 205, 206] rfl (by decide +kernel)
set_option maxRecDepth 20000 in
theorem gX6_findBest_X4_run : GoodIn wsX6_findBest (wsV RX6 57 RX4 yX4_run wsX4_run) := goodIn_app (goodIn_of _ (by decide +kernel)) ggX6_findBest_X4_run
set_option maxRecDepth 20000 in
set_option maxRecDepth 100000 in
theorem ggX6_findBest_X6_scoreFor : GoodIn wsX6_findBest wsX6_scoreFor := goodIn_r _ [162, 4, 163, 164, 165, 171, 172, 173, 174, 175, 176, 177, 178, 179, 180, 181, 182, 183, 184, 185, 186, 187, 188, 189, 190, 191, 192, 193, 194, 195, 196, 197, 198, 199] rfl (by decide +kernel)
set_option maxRecDepth 20000 in
theorem gX6_findBest_X6_scoreFor : GoodIn wsX6_findBest (wsV RX6 94 RX6 yX6_scoreFor wsX6_scoreFor) := goodIn_app (goodIn_of _ (by decide +kernel)) ggX6_findBest_X6_scoreFor
set_option maxRecDepth 20000 in
set_option maxRecDepth 100000 in
theorem ggX6_findBest_X6_consider : GoodIn wsX6_findBest wsX6_consider := goodIn_r _ [169, 14, 170, 171, 172, 173, 174, 175, 176, 177, 178, 179, 180, 181] rfl (by decide +kernel)
set_option maxRecDepth 20000 in
theorem gX6_findBest_X6_consider : GoodIn wsX6_findBest (wsV RX6 97 RX6 yX6_consider wsX6_consider) := goodIn_app (goodIn_of _ (by decide +kernel)) ggX6_findBest_X6_consider
theorem dX6_findBest_0 : decode cX6_findBest 0 = .ok (.aload_n 0, 1) := by decide +kernel
theorem dX6_findBest_1 : decode cX6_findBest 1 = .ok (.iload_n 1, 1) := by decide +kernel
theorem dX6_findBest_2 : decode cX6_findBest 2 = .ok (.iload_n 2, 1) := by decide +kernel
theorem dX6_findBest_3 : decode cX6_findBest 3 = .ok (.invokevirtual 86, 3) := by decide +kernel
theorem dX6_findBest_6 : decode cX6_findBest 6 = .ok (.iconst 0, 1) := by decide +kernel
theorem dX6_findBest_7 : decode cX6_findBest 7 = .ok (.istore 5, 2) := by decide +kernel
theorem dX6_findBest_9 : decode cX6_findBest 9 = .ok (.iload 5, 2) := by decide +kernel
theorem dX6_findBest_11 : decode cX6_findBest 11 = .ok (.sipush 793, 3) := by decide +kernel
theorem dX6_findBest_14 : decode cX6_findBest 14 = .ok (.if_icmp .ge 75, 3) := by decide +kernel
theorem dX6_findBest_17 : decode cX6_findBest 17 = .ok (.aload_n 0, 1) := by decide +kernel
theorem dX6_findBest_18 : decode cX6_findBest 18 = .ok (.invokevirtual 90, 3) := by decide +kernel
theorem dX6_findBest_21 : decode cX6_findBest 21 = .ok (.ifCond .eq 68, 3) := by decide +kernel
theorem dX6_findBest_24 : decode cX6_findBest 24 = .ok (.aload_n 0, 1) := by decide +kernel
theorem dX6_findBest_25 : decode cX6_findBest 25 = .ok (.getfield 64, 3) := by decide +kernel
theorem dX6_findBest_28 : decode cX6_findBest 28 = .ok (.iload_n 3, 1) := by decide +kernel
theorem dX6_findBest_29 : decode cX6_findBest 29 = .ok (.if_icmp .ne 54, 3) := by decide +kernel
theorem dX6_findBest_32 : decode cX6_findBest 32 = .ok (.iload 4, 2) := by decide +kernel
theorem dX6_findBest_34 : decode cX6_findBest 34 = .ok (.iconst 2, 1) := by decide +kernel
theorem dX6_findBest_35 : decode cX6_findBest 35 = .ok (.if_icmp .ne 12, 3) := by decide +kernel
theorem dX6_findBest_38 : decode cX6_findBest 38 = .ok (.aload_n 0, 1) := by decide +kernel
theorem dX6_findBest_39 : decode cX6_findBest 39 = .ok (.getfield 51, 3) := by decide +kernel
theorem dX6_findBest_42 : decode cX6_findBest 42 = .ok (.iconst 1, 1) := by decide +kernel
theorem dX6_findBest_43 : decode cX6_findBest 43 = .ok (.isub, 1) := by decide +kernel
theorem dX6_findBest_44 : decode cX6_findBest 44 = .ok (.goto 7, 3) := by decide +kernel
theorem dX6_findBest_47 : decode cX6_findBest 47 = .ok (.aload_n 0, 1) := by decide +kernel
theorem dX6_findBest_48 : decode cX6_findBest 48 = .ok (.getfield 54, 3) := by decide +kernel
theorem dX6_findBest_51 : decode cX6_findBest 51 = .ok (.istore 6, 2) := by decide +kernel
theorem dX6_findBest_53 : decode cX6_findBest 53 = .ok (.aload_n 0, 1) := by decide +kernel
theorem dX6_findBest_54 : decode cX6_findBest 54 = .ok (.getfield 28, 3) := by decide +kernel
theorem dX6_findBest_57 : decode cX6_findBest 57 = .ok (.aload_n 0, 1) := by decide +kernel
theorem dX6_findBest_58 : decode cX6_findBest 58 = .ok (.getfield 35, 3) := by decide +kernel
theorem dX6_findBest_61 : decode cX6_findBest 61 = .ok (.aload_n 0, 1) := by decide +kernel
theorem dX6_findBest_62 : decode cX6_findBest 62 = .ok (.getfield 38, 3) := by decide +kernel
theorem dX6_findBest_65 : decode cX6_findBest 65 = .ok (.iload 6, 2) := by decide +kernel
theorem dX6_findBest_67 : decode cX6_findBest 67 = .ok (.invokevirtual 57, 3) := by decide +kernel
theorem dX6_findBest_70 : decode cX6_findBest 70 = .ok (.aload_n 0, 1) := by decide +kernel
theorem dX6_findBest_71 : decode cX6_findBest 71 = .ok (.iload 6, 2) := by decide +kernel
theorem dX6_findBest_73 : decode cX6_findBest 73 = .ok (.aload_n 0, 1) := by decide +kernel
theorem dX6_findBest_74 : decode cX6_findBest 74 = .ok (.iload 4, 2) := by decide +kernel
theorem dX6_findBest_76 : decode cX6_findBest 76 = .ok (.invokevirtual 94, 3) := by decide +kernel
theorem dX6_findBest_79 : decode cX6_findBest 79 = .ok (.i2l, 1) := by decide +kernel
theorem dX6_findBest_80 : decode cX6_findBest 80 = .ok (.invokevirtual 97, 3) := by decide +kernel
theorem dX6_findBest_83 : decode cX6_findBest 83 = .ok (.iinc 5 1, 3) := by decide +kernel
theorem dX6_findBest_86 : decode cX6_findBest 86 = .ok (.goto (-77), 3) := by decide +kernel
theorem dX6_findBest_89 : decode cX6_findBest 89 = .ok (.return_, 1) := by decide +kernel
set_option maxRecDepth 20000 in
set_option maxRecDepth 100000 in
theorem ggX6_nearestSlant_X6_start : GoodIn wsX6_nearestSlant wsX6_start := goodIn_r _ [7, 8, 9, 10, 11, 12, 13, 2, 14, 15, 16, 17, 18, 19, 20, 21, 22, 23, 24, 25, 26, 27, 28, 29, 30, 31, 32, 33, 34, 35, 36, 37, 38, 39, 40, 41, 42, 177, 178, 179, 180, 181, 182, 183, 184, 185, 186, 187, 188, 189, 190, 191, 192, 193, 194, 195, 196, 197, 198, 199, 200, 201, 202, 203, 204, 205, 206, 207, 208, 209, 210, 211, 212] rfl (by decide +kernel)
set_option maxRecDepth 20000 in
theorem gX6_nearestSlant_X6_start : GoodIn wsX6_nearestSlant (wsV RX6 86 RX6 yX6_start wsX6_start) := goodIn_app (goodIn_of _ (by decide +kernel)) ggX6_nearestSlant_X6_start
set_option maxRecDepth 20000 in
set_option maxRecDepth 100000 in
theorem ggX6_nearestSlant_X6_nextPart : GoodIn wsX6_nearestSlant wsX6_nextPart := goodIn_r _ [46, 13, 47, 12, 8, 10, 11, 48, 1, 49, 50, 51, 52, 53, 17, 54, 55, 56, 57, 58, 59, 60, 61, 62, 63, 64, 65, 66, 67, 68, 69, 19, 70, 71, 72, 73, 74, 75, 76, 26, 77, 29, 78, 79, 80, 36, 81, 82, 33, 34, 35, 37, 38, 83, 84, 85, 86, 87, 88, 89, 90, 91, 92, 93, 94, 95, 96, 97, 98, 20, 99, 100, 101, 102, 103, 104, 105, 106, 107, 40, 108, 109, 110, 111, 112, 113, 114, 115, 116, 117, 118, 39, 41, 119, 120, 121, 122, 123, 124, 125, 126, 127, 128, 129, 130, 22, 131, 132, 133, 134, 135, 136, 137, 138, 139, 140, 141, 142, 143, 31, 30, 144, 145, 146, 147, 148, 149, 150, 151, 152, 153, 154, 155, 6, 156, 9, 157, 158, 42, 24, 25, 27, 28, 32, 177, 178, 179, 180, 181, 182, 183, 184, 185, 186, 187, 188, 189, 190, 191, 192, 193, 194, 195, 196, 197, 198, 199, 200, 201, 202, 203, 204, 205, 206, 207, 208, 209, 210, 211, 212] rfl (by decide +kernel)
set_option maxRecDepth 20000 in
theorem gX6_nearestSlant_X6_nextPart : GoodIn wsX6_nearestSlant (wsV RX6 90 RX6 yX6_nextPart wsX6_nextPart) := goodIn_app (goodIn_of _ (by decide +kernel)) ggX6_nearestSlant_X6_nextPart
set_option maxRecDepth 20000 in
set_option maxRecDepth 100000 in
theorem ggX6_nearestSlant_X6_considerNearest : GoodIn wsX6_nearestSlant wsX6_considerNearest := goodIn_r _ [162, 47, 13, 163, 164, 165, 6, 166, 8, 10, 11, 167, 51, 52, 53, 17, 54, 55, 56, 57, 58, 59, 60, 61, 62, 63, 64, 65, 66, 67, 68, 69, 19, 70, 71, 72, 73, 74, 75, 76, 26, 77, 29, 78, 79, 80, 36, 81, 82, 33, 34, 35, 37, 38, 83, 84, 85, 86, 87, 88, 89, 90, 91, 92, 93, 94, 95, 96, 97, 98, 20, 99, 100, 101, 102, 103, 104, 105, 106, 107, 40, 108, 109, 110, 111, 112, 113, 114, 115, 116, 117, 118, 39, 41, 119, 120, 121, 122, 123, 124, 125, 126, 127, 128, 129, 130, 22, 131, 132, 133, 134, 135, 136, 137, 138, 139, 140, 141, 142, 143, 31, 30, 144, 145, 146, 147, 148, 149, 150, 151, 152, 168, 169, 170, 171, 172, 173, 174, 175, 2, 176, 177, 178, 179, 180, 181, 182, 183, 184, 185, 186, 187, 188, 189, 190, 191, 192, 193, 194, 195, 196, 197, 198, 199, 200, 201, 202, 203, 204, 205, 206, 207, 208, 209, 210, 211, 212] rfl (by decide +kernel)
set_option maxRecDepth 20000 in
theorem gX6_nearestSlant_X6_considerNearest : GoodIn wsX6_nearestSlant (wsV RX6 101 RX6 yX6_considerNearest wsX6_considerNearest) := goodIn_app (goodIn_of _ (by decide +kernel)) ggX6_nearestSlant_X6_considerNearest
theorem dX6_nearestSlant_0 : decode cX6_nearestSlant 0 = .ok (.aload_n 0, 1) := by decide +kernel
theorem dX6_nearestSlant_1 : decode cX6_nearestSlant 1 = .ok (.iload_n 1, 1) := by decide +kernel
theorem dX6_nearestSlant_2 : decode cX6_nearestSlant 2 = .ok (.iload_n 2, 1) := by decide +kernel
theorem dX6_nearestSlant_3 : decode cX6_nearestSlant 3 = .ok (.invokevirtual 86, 3) := by decide +kernel
theorem dX6_nearestSlant_6 : decode cX6_nearestSlant 6 = .ok (.iconst 0, 1) := by decide +kernel
theorem dX6_nearestSlant_7 : decode cX6_nearestSlant 7 = .ok (.istore 4, 2) := by decide +kernel
theorem dX6_nearestSlant_9 : decode cX6_nearestSlant 9 = .ok (.iload 4, 2) := by decide +kernel
theorem dX6_nearestSlant_11 : decode cX6_nearestSlant 11 = .ok (.sipush 793, 3) := by decide +kernel
theorem dX6_nearestSlant_14 : decode cX6_nearestSlant 14 = .ok (.if_icmp .ge 28, 3) := by decide +kernel
theorem dX6_nearestSlant_17 : decode cX6_nearestSlant 17 = .ok (.aload_n 0, 1) := by decide +kernel
theorem dX6_nearestSlant_18 : decode cX6_nearestSlant 18 = .ok (.invokevirtual 90, 3) := by decide +kernel
theorem dX6_nearestSlant_21 : decode cX6_nearestSlant 21 = .ok (.ifCond .eq 21, 3) := by decide +kernel
theorem dX6_nearestSlant_24 : decode cX6_nearestSlant 24 = .ok (.aload_n 0, 1) := by decide +kernel
theorem dX6_nearestSlant_25 : decode cX6_nearestSlant 25 = .ok (.getfield 64, 3) := by decide +kernel
theorem dX6_nearestSlant_28 : decode cX6_nearestSlant 28 = .ok (.ifCond .ne 8, 3) := by decide +kernel
theorem dX6_nearestSlant_31 : decode cX6_nearestSlant 31 = .ok (.aload_n 0, 1) := by decide +kernel
theorem dX6_nearestSlant_32 : decode cX6_nearestSlant 32 = .ok (.iload_n 3, 1) := by decide +kernel
theorem dX6_nearestSlant_33 : decode cX6_nearestSlant 33 = .ok (.invokevirtual 101, 3) := by decide +kernel
theorem dX6_nearestSlant_36 : decode cX6_nearestSlant 36 = .ok (.iinc 4 1, 3) := by decide +kernel
theorem dX6_nearestSlant_39 : decode cX6_nearestSlant 39 = .ok (.goto (-30), 3) := by decide +kernel
theorem dX6_nearestSlant_42 : decode cX6_nearestSlant 42 = .ok (.aload_n 0, 1) := by decide +kernel
theorem dX6_nearestSlant_43 : decode cX6_nearestSlant 43 = .ok (.getfield 9, 3) := by decide +kernel
theorem dX6_nearestSlant_46 : decode cX6_nearestSlant 46 = .ok (.ireturn, 1) := by decide +kernel
set_option maxRecDepth 20000 in
set_option maxRecDepth 100000 in
theorem ggX6_considerNearest_X6_firstReaching : GoodIn wsX6_considerNearest wsX6_firstReaching := goodIn_r _ [7, 1, 2, 8, 9, 10, 11, 12, 13, 14, 15, 16, 17, 18, 19, 20, 21, 22, 23, 24, 25, 26, 27, 28, 29, 30, 31, 32, 33, 34, 35, 36, 37, 38, 39, 40, 41, 42, 43, 44, 45, 46, 47, 48, 49, 50, 51, 52, 53, 54, 55, 56, 57, 58, 59, 60, 61, 62, 63, 64, 65, 66, 67, 68, 69, 70, 71, 72, 73, 74, 75, 76, 77, 78, 79, 80, 81, 82, 83, 84, 85, 86, 87, 88, 89, 90, 91, 92, 93, 94, 95, 96, 97, 98, 99, 100, 101, 102, 103, 104, 105, 106, 107, 108, 109, 110, 111, 112, 113, 114, 115, 116, 117, 118, 119, 120, 121, 122, 123, 124, 125, 126, 127, 128, 129, 130, 141, 142, 143, 144, 145, 146, 147, 148, 149, 150, 151, 152, 153, 154, 155, 156, 157, 158, 159, 160, 161, 162, 163, 164, 165, 166, 167, 168, 169, 170, 171, 172, 173, 174, 175, 176] rfl (by decide +kernel)
set_option maxRecDepth 20000 in
theorem gX6_considerNearest_X6_firstReaching : GoodIn wsX6_considerNearest (wsV RX6 105 RX6 yX6_firstReaching wsX6_firstReaching) := goodIn_app (goodIn_of _ (by decide +kernel)) ggX6_considerNearest_X6_firstReaching
set_option maxRecDepth 20000 in
set_option maxRecDepth 100000 in
theorem ggX6_considerNearest_X6_shiftsWith : GoodIn wsX6_considerNearest wsX6_shiftsWith := goodIn_r _ [134, 8, 9, 10, 11, 12, 13, 14, 15, 16, 17, 18, 19, 20, 21, 22, 23, 24, 25, 26, 27, 28, 29, 30, 31, 32, 33, 34, 35, 36, 37, 38, 39, 40, 41, 42, 43, 44, 45, 46, 47, 48, 49, 50, 51, 52, 53, 54, 55, 56, 57, 58, 59, 60, 61, 62, 63, 64, 65, 66, 67, 68, 69, 70, 71, 72, 73, 74, 75, 76, 77, 78, 79, 80, 81, 82, 83, 84, 85, 86, 87, 88, 89, 90, 91, 92, 93, 94, 95, 96, 97, 98, 99, 100, 101, 102, 103, 104, 105, 106, 107, 108, 109, 110, 111, 112, 113, 114, 115, 116, 117, 118, 119, 120, 121, 122, 123, 124, 125, 126, 127, 128, 129, 130, 141, 142, 143, 144, 145, 146, 147, 148, 149, 150, 151, 152, 153, 154, 155, 156, 157, 158, 159, 160, 161, 162, 163, 164, 165, 166, 167, 168, 169, 170, 171, 172, 173, 174, 175, 176] rfl (by decide +kernel)
set_option maxRecDepth 20000 in
theorem gX6_considerNearest_X6_shiftsWith : GoodIn wsX6_considerNearest (wsV RX6 108 RX6 yX6_shiftsWith wsX6_shiftsWith) := goodIn_app (goodIn_of _ (by decide +kernel)) ggX6_considerNearest_X6_shiftsWith
set_option maxRecDepth 20000 in
set_option maxRecDepth 100000 in
theorem ggX6_considerNearest_X6_consider : GoodIn wsX6_considerNearest wsX6_consider := goodIn_r _ [138, 139, 140, 141, 142, 143, 144, 145, 146, 147, 148, 149, 150, 151] rfl (by decide +kernel)
set_option maxRecDepth 20000 in
theorem gX6_considerNearest_X6_consider : GoodIn wsX6_considerNearest (wsV RX6 97 RX6 yX6_consider wsX6_consider) := goodIn_app (goodIn_of _ (by decide +kernel)) ggX6_considerNearest_X6_consider
theorem dX6_considerNearest_0 : decode cX6_considerNearest 0 = .ok (.aload_n 0, 1) := by decide +kernel
theorem dX6_considerNearest_1 : decode cX6_considerNearest 1 = .ok (.iload_n 1, 1) := by decide +kernel
theorem dX6_considerNearest_2 : decode cX6_considerNearest 2 = .ok (.invokevirtual 105, 3) := by decide +kernel
theorem dX6_considerNearest_5 : decode cX6_considerNearest 5 = .ok (.istore_n 2, 1) := by decide +kernel
theorem dX6_considerNearest_6 : decode cX6_considerNearest 6 = .ok (.iload_n 2, 1) := by decide +kernel
theorem dX6_considerNearest_7 : decode cX6_considerNearest 7 = .ok (.aload_n 0, 1) := by decide +kernel
theorem dX6_considerNearest_8 : decode cX6_considerNearest 8 = .ok (.getfield 54, 3) := by decide +kernel
theorem dX6_considerNearest_11 : decode cX6_considerNearest 11 = .ok (.if_icmp .le 25, 3) := by decide +kernel
theorem dX6_considerNearest_14 : decode cX6_considerNearest 14 = .ok (.aload_n 0, 1) := by decide +kernel
theorem dX6_considerNearest_15 : decode cX6_considerNearest 15 = .ok (.iload_n 2, 1) := by decide +kernel
theorem dX6_considerNearest_16 : decode cX6_considerNearest 16 = .ok (.iconst 1, 1) := by decide +kernel
theorem dX6_considerNearest_17 : decode cX6_considerNearest 17 = .ok (.isub, 1) := by decide +kernel
theorem dX6_considerNearest_18 : decode cX6_considerNearest 18 = .ok (.invokevirtual 108, 3) := by decide +kernel
theorem dX6_considerNearest_21 : decode cX6_considerNearest 21 = .ok (.istore_n 3, 1) := by decide +kernel
theorem dX6_considerNearest_22 : decode cX6_considerNearest 22 = .ok (.aload_n 0, 1) := by decide +kernel
theorem dX6_considerNearest_23 : decode cX6_considerNearest 23 = .ok (.aload_n 0, 1) := by decide +kernel
theorem dX6_considerNearest_24 : decode cX6_considerNearest 24 = .ok (.iload_n 3, 1) := by decide +kernel
theorem dX6_considerNearest_25 : decode cX6_considerNearest 25 = .ok (.invokevirtual 105, 3) := by decide +kernel
theorem dX6_considerNearest_28 : decode cX6_considerNearest 28 = .ok (.iload_n 3, 1) := by decide +kernel
theorem dX6_considerNearest_29 : decode cX6_considerNearest 29 = .ok (.i2l, 1) := by decide +kernel
theorem dX6_considerNearest_30 : decode cX6_considerNearest 30 = .ok (.iload_n 1, 1) := by decide +kernel
theorem dX6_considerNearest_31 : decode cX6_considerNearest 31 = .ok (.i2l, 1) := by decide +kernel
theorem dX6_considerNearest_32 : decode cX6_considerNearest 32 = .ok (.lsub, 1) := by decide +kernel
theorem dX6_considerNearest_33 : decode cX6_considerNearest 33 = .ok (.invokevirtual 97, 3) := by decide +kernel
theorem dX6_considerNearest_36 : decode cX6_considerNearest 36 = .ok (.iload_n 2, 1) := by decide +kernel
theorem dX6_considerNearest_37 : decode cX6_considerNearest 37 = .ok (.aload_n 0, 1) := by decide +kernel
theorem dX6_considerNearest_38 : decode cX6_considerNearest 38 = .ok (.getfield 51, 3) := by decide +kernel
theorem dX6_considerNearest_41 : decode cX6_considerNearest 41 = .ok (.if_icmp .ge 17, 3) := by decide +kernel
theorem dX6_considerNearest_44 : decode cX6_considerNearest 44 = .ok (.aload_n 0, 1) := by decide +kernel
theorem dX6_considerNearest_45 : decode cX6_considerNearest 45 = .ok (.iload_n 2, 1) := by decide +kernel
theorem dX6_considerNearest_46 : decode cX6_considerNearest 46 = .ok (.iload_n 1, 1) := by decide +kernel
theorem dX6_considerNearest_47 : decode cX6_considerNearest 47 = .ok (.i2l, 1) := by decide +kernel
theorem dX6_considerNearest_48 : decode cX6_considerNearest 48 = .ok (.aload_n 0, 1) := by decide +kernel
theorem dX6_considerNearest_49 : decode cX6_considerNearest 49 = .ok (.iload_n 2, 1) := by decide +kernel
theorem dX6_considerNearest_50 : decode cX6_considerNearest 50 = .ok (.invokevirtual 108, 3) := by decide +kernel
theorem dX6_considerNearest_53 : decode cX6_considerNearest 53 = .ok (.i2l, 1) := by decide +kernel
theorem dX6_considerNearest_54 : decode cX6_considerNearest 54 = .ok (.lsub, 1) := by decide +kernel
theorem dX6_considerNearest_55 : decode cX6_considerNearest 55 = .ok (.invokevirtual 97, 3) := by decide +kernel
theorem dX6_considerNearest_58 : decode cX6_considerNearest 58 = .ok (.return_, 1) := by decide +kernel
set_option maxRecDepth 20000 in
set_option maxRecDepth 100000 in
theorem ggX6_firstReaching_X4_run : GoodIn wsX6_firstReaching wsX4_run := goodIn_r _ [11, 12, 13, 14, 10, 15, 16, 17, 18, 19, 20, 21, 22, 23, 24, 25, 26, 27, 28, 29, 30, 31, 32, 33, 34, 35, 36, 37, 38, 39, 40, 41, 42, 43, 44, 45, 46, 47, 48, 49, 50, 51, 52, 53, 54, 55, 56, 57, 58, 59, 60, 61, 62, 63, 64, 65, 66, 67, 68, 69, 70, 71, 72, 73, 74, 75, 76, 77, 78, 79, 80, 81, 82, 83, 84, 85, 86, 87, 88, 89, 90, 91, 92, 93, 94, 95, 96, 97, 98, 99, 100, 101, 102, 103, 104, 105, 106, 107, 108, 109, 110, 111, 112, 113, 114, 115, 116, 117, 118, 119, 120, 121, 122, 123, 124, 125, 137, 138, 139, 140, 141, 142, 143, 144, 145, 146, 147, 148, 149, 150, 151, 152, 153, 154, 155, 156, 157, 158, 159, 160, 161] rfl (by decide +kernel)
set_option maxRecDepth 20000 in
theorem gX6_firstReaching_X4_run : GoodIn wsX6_firstReaching (wsV RX6 57 RX4 yX4_run wsX4_run) := goodIn_app (goodIn_of _ (by decide +kernel)) ggX6_firstReaching_X4_run
theorem dX6_firstReaching_0 : decode cX6_firstReaching 0 = .ok (.aload_n 0, 1) := by decide +kernel
theorem dX6_firstReaching_1 : decode cX6_firstReaching 1 = .ok (.getfield 54, 3) := by decide +kernel
theorem dX6_firstReaching_4 : decode cX6_firstReaching 4 = .ok (.istore_n 2, 1) := by decide +kernel
theorem dX6_firstReaching_5 : decode cX6_firstReaching 5 = .ok (.aload_n 0, 1) := by decide +kernel
theorem dX6_firstReaching_6 : decode cX6_firstReaching 6 = .ok (.getfield 51, 3) := by decide +kernel
theorem dX6_firstReaching_9 : decode cX6_firstReaching 9 = .ok (.istore_n 3, 1) := by decide +kernel
theorem dX6_firstReaching_10 : decode cX6_firstReaching 10 = .ok (.iconst 0, 1) := by decide +kernel
theorem dX6_firstReaching_11 : decode cX6_firstReaching 11 = .ok (.istore 4, 2) := by decide +kernel
theorem dX6_firstReaching_13 : decode cX6_firstReaching 13 = .ok (.iload 4, 2) := by decide +kernel
theorem dX6_firstReaching_15 : decode cX6_firstReaching 15 = .ok (.bipush 32, 2) := by decide +kernel
theorem dX6_firstReaching_17 : decode cX6_firstReaching 17 = .ok (.if_icmp .ge 60, 3) := by decide +kernel
theorem dX6_firstReaching_20 : decode cX6_firstReaching 20 = .ok (.iload_n 2, 1) := by decide +kernel
theorem dX6_firstReaching_21 : decode cX6_firstReaching 21 = .ok (.iload_n 3, 1) := by decide +kernel
theorem dX6_firstReaching_22 : decode cX6_firstReaching 22 = .ok (.if_icmp .ge 55, 3) := by decide +kernel
theorem dX6_firstReaching_25 : decode cX6_firstReaching 25 = .ok (.iload_n 2, 1) := by decide +kernel
theorem dX6_firstReaching_26 : decode cX6_firstReaching 26 = .ok (.iload_n 3, 1) := by decide +kernel
theorem dX6_firstReaching_27 : decode cX6_firstReaching 27 = .ok (.iadd, 1) := by decide +kernel
theorem dX6_firstReaching_28 : decode cX6_firstReaching 28 = .ok (.iconst 2, 1) := by decide +kernel
theorem dX6_firstReaching_29 : decode cX6_firstReaching 29 = .ok (.idiv, 1) := by decide +kernel
theorem dX6_firstReaching_30 : decode cX6_firstReaching 30 = .ok (.istore 5, 2) := by decide +kernel
theorem dX6_firstReaching_32 : decode cX6_firstReaching 32 = .ok (.aload_n 0, 1) := by decide +kernel
theorem dX6_firstReaching_33 : decode cX6_firstReaching 33 = .ok (.getfield 28, 3) := by decide +kernel
theorem dX6_firstReaching_36 : decode cX6_firstReaching 36 = .ok (.aload_n 0, 1) := by decide +kernel
theorem dX6_firstReaching_37 : decode cX6_firstReaching 37 = .ok (.getfield 35, 3) := by decide +kernel
theorem dX6_firstReaching_40 : decode cX6_firstReaching 40 = .ok (.aload_n 0, 1) := by decide +kernel
theorem dX6_firstReaching_41 : decode cX6_firstReaching 41 = .ok (.getfield 38, 3) := by decide +kernel
theorem dX6_firstReaching_44 : decode cX6_firstReaching 44 = .ok (.iload 5, 2) := by decide +kernel
theorem dX6_firstReaching_46 : decode cX6_firstReaching 46 = .ok (.invokevirtual 57, 3) := by decide +kernel
theorem dX6_firstReaching_49 : decode cX6_firstReaching 49 = .ok (.aload_n 0, 1) := by decide +kernel
theorem dX6_firstReaching_50 : decode cX6_firstReaching 50 = .ok (.getfield 28, 3) := by decide +kernel
theorem dX6_firstReaching_53 : decode cX6_firstReaching 53 = .ok (.getfield 111, 3) := by decide +kernel
theorem dX6_firstReaching_56 : decode cX6_firstReaching 56 = .ok (.iload_n 1, 1) := by decide +kernel
theorem dX6_firstReaching_57 : decode cX6_firstReaching 57 = .ok (.if_icmp .lt 9, 3) := by decide +kernel
theorem dX6_firstReaching_60 : decode cX6_firstReaching 60 = .ok (.iload 5, 2) := by decide +kernel
theorem dX6_firstReaching_62 : decode cX6_firstReaching 62 = .ok (.istore_n 3, 1) := by decide +kernel
theorem dX6_firstReaching_63 : decode cX6_firstReaching 63 = .ok (.goto 8, 3) := by decide +kernel
theorem dX6_firstReaching_66 : decode cX6_firstReaching 66 = .ok (.iload 5, 2) := by decide +kernel
theorem dX6_firstReaching_68 : decode cX6_firstReaching 68 = .ok (.iconst 1, 1) := by decide +kernel
theorem dX6_firstReaching_69 : decode cX6_firstReaching 69 = .ok (.iadd, 1) := by decide +kernel
theorem dX6_firstReaching_70 : decode cX6_firstReaching 70 = .ok (.istore_n 2, 1) := by decide +kernel
theorem dX6_firstReaching_71 : decode cX6_firstReaching 71 = .ok (.iinc 4 1, 3) := by decide +kernel
theorem dX6_firstReaching_74 : decode cX6_firstReaching 74 = .ok (.goto (-61), 3) := by decide +kernel
theorem dX6_firstReaching_77 : decode cX6_firstReaching 77 = .ok (.iload_n 2, 1) := by decide +kernel
theorem dX6_firstReaching_78 : decode cX6_firstReaching 78 = .ok (.ireturn, 1) := by decide +kernel
set_option maxRecDepth 20000 in
set_option maxRecDepth 100000 in
theorem ggX6_shiftsWith_X4_run : GoodIn wsX6_shiftsWith wsX4_run := goodIn_r _ [9, 10, 11, 12, 8, 13, 14, 15, 16, 17, 18, 19, 20, 21, 22, 23, 24, 25, 26, 27, 28, 29, 30, 31, 32, 33, 34, 35, 36, 37, 38, 39, 40, 41, 42, 43, 44, 45, 46, 47, 48, 49, 50, 51, 52, 53, 54, 55, 56, 57, 58, 59, 60, 61, 62, 63, 64, 65, 66, 67, 68, 69, 70, 71, 72, 73, 74, 75, 76, 77, 78, 79, 80, 81, 82, 83, 84, 85, 86, 87, 88, 89, 90, 91, 92, 93, 94, 95, 96, 97, 98, 99, 100, 101, 102, 103, 104, 105, 106, 107, 108, 109, 110, 111, 112, 113, 114, 115, 116, 117, 118, 119, 120, 121, 122, 123, 135, 136, 137, 138, 139, 140, 141, 142, 143, 144, 145, 146, 147, 148, 149, 150, 151, 152, 153, 154, 155, 156, 157, 158, 159] rfl (by decide +kernel)
set_option maxRecDepth 20000 in
theorem gX6_shiftsWith_X4_run : GoodIn wsX6_shiftsWith (wsV RX6 57 RX4 yX4_run wsX4_run) := goodIn_app (goodIn_of _ (by decide +kernel)) ggX6_shiftsWith_X4_run
theorem dX6_shiftsWith_0 : decode cX6_shiftsWith 0 = .ok (.aload_n 0, 1) := by decide +kernel
theorem dX6_shiftsWith_1 : decode cX6_shiftsWith 1 = .ok (.getfield 28, 3) := by decide +kernel
theorem dX6_shiftsWith_4 : decode cX6_shiftsWith 4 = .ok (.aload_n 0, 1) := by decide +kernel
theorem dX6_shiftsWith_5 : decode cX6_shiftsWith 5 = .ok (.getfield 35, 3) := by decide +kernel
theorem dX6_shiftsWith_8 : decode cX6_shiftsWith 8 = .ok (.aload_n 0, 1) := by decide +kernel
theorem dX6_shiftsWith_9 : decode cX6_shiftsWith 9 = .ok (.getfield 38, 3) := by decide +kernel
theorem dX6_shiftsWith_12 : decode cX6_shiftsWith 12 = .ok (.iload_n 1, 1) := by decide +kernel
theorem dX6_shiftsWith_13 : decode cX6_shiftsWith 13 = .ok (.invokevirtual 57, 3) := by decide +kernel
theorem dX6_shiftsWith_16 : decode cX6_shiftsWith 16 = .ok (.aload_n 0, 1) := by decide +kernel
theorem dX6_shiftsWith_17 : decode cX6_shiftsWith 17 = .ok (.getfield 28, 3) := by decide +kernel
theorem dX6_shiftsWith_20 : decode cX6_shiftsWith 20 = .ok (.getfield 111, 3) := by decide +kernel
theorem dX6_shiftsWith_23 : decode cX6_shiftsWith 23 = .ok (.ireturn, 1) := by decide +kernel
theorem dX6_scoreFor_0 : decode cX6_scoreFor 0 = .ok (.iload_n 1, 1) := by decide +kernel
theorem dX6_scoreFor_1 : decode cX6_scoreFor 1 = .ok (.lookupswitch 44 #[(0, 27), (1, 36)], 27) := by decide +kernel
theorem dX6_scoreFor_28 : decode cX6_scoreFor 28 = .ok (.aload_n 0, 1) := by decide +kernel
theorem dX6_scoreFor_29 : decode cX6_scoreFor 29 = .ok (.getfield 28, 3) := by decide +kernel
theorem dX6_scoreFor_32 : decode cX6_scoreFor 32 = .ok (.getfield 114, 3) := by decide +kernel
theorem dX6_scoreFor_35 : decode cX6_scoreFor 35 = .ok (.ineg, 1) := by decide +kernel
theorem dX6_scoreFor_36 : decode cX6_scoreFor 36 = .ok (.ireturn, 1) := by decide +kernel
theorem dX6_scoreFor_37 : decode cX6_scoreFor 37 = .ok (.aload_n 0, 1) := by decide +kernel
theorem dX6_scoreFor_38 : decode cX6_scoreFor 38 = .ok (.getfield 28, 3) := by decide +kernel
theorem dX6_scoreFor_41 : decode cX6_scoreFor 41 = .ok (.getfield 117, 3) := by decide +kernel
theorem dX6_scoreFor_44 : decode cX6_scoreFor 44 = .ok (.ireturn, 1) := by decide +kernel
theorem dX6_scoreFor_45 : decode cX6_scoreFor 45 = .ok (.aload_n 0, 1) := by decide +kernel
theorem dX6_scoreFor_46 : decode cX6_scoreFor 46 = .ok (.getfield 28, 3) := by decide +kernel
theorem dX6_scoreFor_49 : decode cX6_scoreFor 49 = .ok (.getfield 111, 3) := by decide +kernel
theorem dX6_scoreFor_52 : decode cX6_scoreFor 52 = .ok (.ireturn, 1) := by decide +kernel
theorem dX6_consider_0 : decode cX6_consider 0 = .ok (.aload_n 0, 1) := by decide +kernel
theorem dX6_consider_1 : decode cX6_consider 1 = .ok (.getfield 9, 3) := by decide +kernel
theorem dX6_consider_4 : decode cX6_consider 4 = .ok (.iconst (-1), 1) := by decide +kernel
theorem dX6_consider_5 : decode cX6_consider 5 = .ok (.if_icmp .eq 12, 3) := by decide +kernel
theorem dX6_consider_8 : decode cX6_consider 8 = .ok (.lload_n 2, 1) := by decide +kernel
theorem dX6_consider_9 : decode cX6_consider 9 = .ok (.aload_n 0, 1) := by decide +kernel
theorem dX6_consider_10 : decode cX6_consider 10 = .ok (.getfield 15, 3) := by decide +kernel
theorem dX6_consider_13 : decode cX6_consider 13 = .ok (.lcmp, 1) := by decide +kernel
theorem dX6_consider_14 : decode cX6_consider 14 = .ok (.ifCond .le 13, 3) := by decide +kernel
theorem dX6_consider_17 : decode cX6_consider 17 = .ok (.aload_n 0, 1) := by decide +kernel
theorem dX6_consider_18 : decode cX6_consider 18 = .ok (.iload_n 1, 1) := by decide +kernel
theorem dX6_consider_19 : decode cX6_consider 19 = .ok (.putfield 9, 3) := by decide +kernel
theorem dX6_consider_22 : decode cX6_consider 22 = .ok (.aload_n 0, 1) := by decide +kernel
theorem dX6_consider_23 : decode cX6_consider 23 = .ok (.lload_n 2, 1) := by decide +kernel
theorem dX6_consider_24 : decode cX6_consider 24 = .ok (.putfield 15, 3) := by decide +kernel
theorem dX6_consider_27 : decode cX6_consider 27 = .ok (.return_, 1) := by decide +kernel
