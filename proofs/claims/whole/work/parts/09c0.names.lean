theorem dX9_thrown_0 : decode cX9_thrown 0 = .ok (.aload_n 0, 1) := by decide +kernel
theorem dX9_thrown_1 : decode cX9_thrown 1 = .ok (.getfield 3, 3) := by decide +kernel
theorem dX9_thrown_4 : decode cX9_thrown 4 = .ok (.ireturn, 1) := by decide +kernel
theorem dX9_in_0 : decode cX9_in 0 = .ok (.lload_n 0, 1) := by decide +kernel
theorem dX9_in_1 : decode cX9_in 1 = .ok (.lload_n 2, 1) := by decide +kernel
theorem dX9_in_2 : decode cX9_in 2 = .ok (.lcmp, 1) := by decide +kernel
theorem dX9_in_3 : decode cX9_in 3 = .ok (.ifCond .lt 14, 3) := by decide +kernel
theorem dX9_in_6 : decode cX9_in 6 = .ok (.lload_n 0, 1) := by decide +kernel
theorem dX9_in_7 : decode cX9_in 7 = .ok (.lload 4, 2) := by decide +kernel
theorem dX9_in_9 : decode cX9_in 9 = .ok (.lcmp, 1) := by decide +kernel
theorem dX9_in_10 : decode cX9_in 10 = .ok (.ifCond .gt 7, 3) := by decide +kernel
theorem dX9_in_13 : decode cX9_in 13 = .ok (.iconst 1, 1) := by decide +kernel
theorem dX9_in_14 : decode cX9_in 14 = .ok (.goto 4, 3) := by decide +kernel
theorem dX9_in_17 : decode cX9_in 17 = .ok (.iconst 0, 1) := by decide +kernel
theorem dX9_in_18 : decode cX9_in 18 = .ok (.ireturn, 1) := by decide +kernel
theorem dX9_passes3_0 : decode cX9_passes3 0 = .ok (.aload_n 0, 1) := by decide +kernel
theorem dX9_passes3_1 : decode cX9_passes3 1 = .ok (.iload_n 1, 1) := by decide +kernel
theorem dX9_passes3_2 : decode cX9_passes3 2 = .ok (.ifCond .ne 7, 3) := by decide +kernel
theorem dX9_passes3_5 : decode cX9_passes3 5 = .ok (.iconst 1, 1) := by decide +kernel
theorem dX9_passes3_6 : decode cX9_passes3 6 = .ok (.goto 20, 3) := by decide +kernel
theorem dX9_passes3_9 : decode cX9_passes3 9 = .ok (.iload_n 2, 1) := by decide +kernel
theorem dX9_passes3_10 : decode cX9_passes3 10 = .ok (.ifCond .ne 7, 3) := by decide +kernel
theorem dX9_passes3_13 : decode cX9_passes3 13 = .ok (.iconst 2, 1) := by decide +kernel
theorem dX9_passes3_14 : decode cX9_passes3 14 = .ok (.goto 12, 3) := by decide +kernel
theorem dX9_passes3_17 : decode cX9_passes3 17 = .ok (.iload_n 3, 1) := by decide +kernel
theorem dX9_passes3_18 : decode cX9_passes3 18 = .ok (.ifCond .ne 7, 3) := by decide +kernel
theorem dX9_passes3_21 : decode cX9_passes3 21 = .ok (.iconst 3, 1) := by decide +kernel
theorem dX9_passes3_22 : decode cX9_passes3 22 = .ok (.goto 4, 3) := by decide +kernel
theorem dX9_passes3_25 : decode cX9_passes3 25 = .ok (.iconst 0, 1) := by decide +kernel
theorem dX9_passes3_26 : decode cX9_passes3 26 = .ok (.putfield 3, 3) := by decide +kernel
theorem dX9_passes3_29 : decode cX9_passes3 29 = .ok (.aload_n 0, 1) := by decide +kernel
theorem dX9_passes3_30 : decode cX9_passes3 30 = .ok (.getfield 3, 3) := by decide +kernel
theorem dX9_passes3_33 : decode cX9_passes3 33 = .ok (.ifCond .ne 7, 3) := by decide +kernel
theorem dX9_passes3_36 : decode cX9_passes3 36 = .ok (.iconst 1, 1) := by decide +kernel
theorem dX9_passes3_37 : decode cX9_passes3 37 = .ok (.goto 4, 3) := by decide +kernel
theorem dX9_passes3_40 : decode cX9_passes3 40 = .ok (.iconst 0, 1) := by decide +kernel
theorem dX9_passes3_41 : decode cX9_passes3 41 = .ok (.ireturn, 1) := by decide +kernel
set_option maxRecDepth 20000 in
set_option maxRecDepth 100000 in
theorem ggX9_passes2_X9_passes3 : GoodIn wsX9_passes2 wsX9_passes3 := goodIn_r _ [5, 6, 7, 8, 9, 10, 11, 12, 13, 14, 15, 16, 17, 18, 19, 20, 21, 22, 23, 24, 25, 26, 27, 28, 29, 30, 31, 32, 33, 34, 35, 36, 37, 38, 39, 40, 41, 42, 43, 44, 45, 46, 47] rfl (by decide +kernel)
set_option maxRecDepth 20000 in
theorem gX9_passes2_X9_passes3 : GoodIn wsX9_passes2 (wsV RX9 7 RX9 yX9_passes3 wsX9_passes3) := goodIn_app (goodIn_of _ (by decide +kernel)) ggX9_passes2_X9_passes3
theorem dX9_passes2_0 : decode cX9_passes2 0 = .ok (.aload_n 0, 1) := by decide +kernel
theorem dX9_passes2_1 : decode cX9_passes2 1 = .ok (.iload_n 1, 1) := by decide +kernel
theorem dX9_passes2_2 : decode cX9_passes2 2 = .ok (.iload_n 2, 1) := by decide +kernel
theorem dX9_passes2_3 : decode cX9_passes2 3 = .ok (.iconst 1, 1) := by decide +kernel
theorem dX9_passes2_4 : decode cX9_passes2 4 = .ok (.invokevirtual 7, 3) := by decide +kernel
theorem dX9_passes2_7 : decode cX9_passes2 7 = .ok (.ireturn, 1) := by decide +kernel
set_option maxRecDepth 20000 in
set_option maxRecDepth 100000 in
theorem ggX9_passes_X9_passes3 : GoodIn wsX9_passes wsX9_passes3 := goodIn_r _ [5, 6, 7, 8, 9, 10, 11, 12, 13, 14, 15, 16, 17, 18, 19, 20, 21, 22, 23, 24, 25, 26, 27, 28, 29, 30, 31, 32, 33, 34, 35, 36, 37, 38, 39, 40, 41, 42, 43, 44, 45, 46, 47] rfl (by decide +kernel)
set_option maxRecDepth 20000 in
theorem gX9_passes_X9_passes3 : GoodIn wsX9_passes (wsV RX9 7 RX9 yX9_passes3 wsX9_passes3) := goodIn_app (goodIn_of _ (by decide +kernel)) ggX9_passes_X9_passes3
theorem dX9_passes_0 : decode cX9_passes 0 = .ok (.aload_n 0, 1) := by decide +kernel
theorem dX9_passes_1 : decode cX9_passes 1 = .ok (.iload_n 1, 1) := by decide +kernel
theorem dX9_passes_2 : decode cX9_passes 2 = .ok (.iconst 1, 1) := by decide +kernel
theorem dX9_passes_3 : decode cX9_passes 3 = .ok (.iconst 1, 1) := by decide +kernel
theorem dX9_passes_4 : decode cX9_passes 4 = .ok (.invokevirtual 7, 3) := by decide +kernel
theorem dX9_passes_7 : decode cX9_passes 7 = .ok (.ireturn, 1) := by decide +kernel
set_option maxRecDepth 20000 in
set_option maxRecDepth 100000 in
theorem ggX9_init_X9_layPlain : GoodIn wsX9_init wsX9_layPlain := goodIn_r _ [32, 7, 45, 46, 47, 48, 49, 50, 51, 52, 53, 54, 55, 56, 57, 58, 59, 60, 61, 62, 63, 64, 65, 66, 67, 68, 69, 70, 71, 72, 73, 74, 75, 76, 77, 78, 79, 80, 81, 82, 83, 84, 85] rfl (by decide +kernel)
set_option maxRecDepth 20000 in
theorem gX9_init_X9_layPlain : GoodIn wsX9_init (wsV RX9 83 RX9 yX9_layPlain wsX9_layPlain) := goodIn_app (goodIn_of _ (by decide +kernel)) ggX9_init_X9_layPlain
set_option maxRecDepth 20000 in
set_option maxRecDepth 100000 in
theorem ggX9_init_X9_addOne : GoodIn wsX9_init wsX9_addOne := goodIn_r _ [36, 7, 37, 38, 39, 31, 40, 41, 42, 43, 44, 45, 46, 47, 48, 49, 50, 51, 52, 53, 54, 55, 56, 57, 58, 59, 60, 61, 62, 63, 64, 65, 66, 67, 68, 69, 70, 71, 72, 73, 74, 75, 76, 77, 78, 79, 80, 81, 82, 83, 84, 85] rfl (by decide +kernel)
set_option maxRecDepth 20000 in
theorem gX9_init_X9_addOne : GoodIn wsX9_init (wsV RX9 86 RX9 yX9_addOne wsX9_addOne) := goodIn_app (goodIn_of _ (by decide +kernel)) ggX9_init_X9_addOne
theorem dX9_init_0 : decode cX9_init 0 = .ok (.aload_n 0, 1) := by decide +kernel
theorem dX9_init_1 : decode cX9_init 1 = .ok (.invokespecial 11, 3) := by decide +kernel
theorem dX9_init_4 : decode cX9_init 4 = .ok (.aload_n 0, 1) := by decide +kernel
theorem dX9_init_5 : decode cX9_init 5 = .ok (.bipush 95, 2) := by decide +kernel
theorem dX9_init_7 : decode cX9_init 7 = .ok (.newarray .int, 2) := by decide +kernel
theorem dX9_init_9 : decode cX9_init 9 = .ok (.putfield 17, 3) := by decide +kernel
theorem dX9_init_12 : decode cX9_init 12 = .ok (.aload_n 0, 1) := by decide +kernel
theorem dX9_init_13 : decode cX9_init 13 = .ok (.bipush 95, 2) := by decide +kernel
theorem dX9_init_15 : decode cX9_init 15 = .ok (.newarray .int, 2) := by decide +kernel
theorem dX9_init_17 : decode cX9_init 17 = .ok (.putfield 21, 3) := by decide +kernel
theorem dX9_init_20 : decode cX9_init 20 = .ok (.aload_n 0, 1) := by decide +kernel
theorem dX9_init_21 : decode cX9_init 21 = .ok (.aload_n 0, 1) := by decide +kernel
theorem dX9_init_22 : decode cX9_init 22 = .ok (.getfield 17, 3) := by decide +kernel
theorem dX9_init_25 : decode cX9_init 25 = .ok (.putfield 24, 3) := by decide +kernel
theorem dX9_init_28 : decode cX9_init 28 = .ok (.aload_n 0, 1) := by decide +kernel
theorem dX9_init_29 : decode cX9_init 29 = .ok (.bipush 60, 2) := by decide +kernel
theorem dX9_init_31 : decode cX9_init 31 = .ok (.newarray .int, 2) := by decide +kernel
theorem dX9_init_33 : decode cX9_init 33 = .ok (.putfield 27, 3) := by decide +kernel
theorem dX9_init_36 : decode cX9_init 36 = .ok (.aload_n 0, 1) := by decide +kernel
theorem dX9_init_37 : decode cX9_init 37 = .ok (.bipush 60, 2) := by decide +kernel
theorem dX9_init_39 : decode cX9_init 39 = .ok (.newarray .boolean, 2) := by decide +kernel
theorem dX9_init_41 : decode cX9_init 41 = .ok (.putfield 30, 3) := by decide +kernel
theorem dX9_init_44 : decode cX9_init 44 = .ok (.aload_n 0, 1) := by decide +kernel
theorem dX9_init_45 : decode cX9_init 45 = .ok (.bipush 60, 2) := by decide +kernel
theorem dX9_init_47 : decode cX9_init 47 = .ok (.newarray .int, 2) := by decide +kernel
theorem dX9_init_49 : decode cX9_init 49 = .ok (.putfield 34, 3) := by decide +kernel
theorem dX9_init_52 : decode cX9_init 52 = .ok (.aload_n 0, 1) := by decide +kernel
theorem dX9_init_53 : decode cX9_init 53 = .ok (.bipush 60, 2) := by decide +kernel
theorem dX9_init_55 : decode cX9_init 55 = .ok (.newarray .int, 2) := by decide +kernel
theorem dX9_init_57 : decode cX9_init 57 = .ok (.putfield 37, 3) := by decide +kernel
theorem dX9_init_60 : decode cX9_init 60 = .ok (.aload_n 0, 1) := by decide +kernel
theorem dX9_init_61 : decode cX9_init 61 = .ok (.bipush 60, 2) := by decide +kernel
theorem dX9_init_63 : decode cX9_init 63 = .ok (.newarray .int, 2) := by decide +kernel
theorem dX9_init_65 : decode cX9_init 65 = .ok (.putfield 40, 3) := by decide +kernel
theorem dX9_init_68 : decode cX9_init 68 = .ok (.aload_n 0, 1) := by decide +kernel
theorem dX9_init_69 : decode cX9_init 69 = .ok (.bipush 60, 2) := by decide +kernel
theorem dX9_init_71 : decode cX9_init 71 = .ok (.newarray .int, 2) := by decide +kernel
theorem dX9_init_73 : decode cX9_init 73 = .ok (.putfield 43, 3) := by decide +kernel
theorem dX9_init_76 : decode cX9_init 76 = .ok (.aload_n 0, 1) := by decide +kernel
theorem dX9_init_77 : decode cX9_init 77 = .ok (.bipush 60, 2) := by decide +kernel
theorem dX9_init_79 : decode cX9_init 79 = .ok (.newarray .int, 2) := by decide +kernel
theorem dX9_init_81 : decode cX9_init 81 = .ok (.putfield 46, 3) := by decide +kernel
theorem dX9_init_84 : decode cX9_init 84 = .ok (.aload_n 0, 1) := by decide +kernel
theorem dX9_init_85 : decode cX9_init 85 = .ok (.sipush 400, 3) := by decide +kernel
theorem dX9_init_88 : decode cX9_init 88 = .ok (.newarray .byte, 2) := by decide +kernel
theorem dX9_init_90 : decode cX9_init 90 = .ok (.putfield 49, 3) := by decide +kernel
theorem dX9_init_93 : decode cX9_init 93 = .ok (.aload_n 0, 1) := by decide +kernel
theorem dX9_init_94 : decode cX9_init 94 = .ok (.iconst (-1), 1) := by decide +kernel
theorem dX9_init_95 : decode cX9_init 95 = .ok (.putfield 53, 3) := by decide +kernel
theorem dX9_init_98 : decode cX9_init 98 = .ok (.aload_n 0, 1) := by decide +kernel
theorem dX9_init_99 : decode cX9_init 99 = .ok (.bipush 60, 2) := by decide +kernel
theorem dX9_init_101 : decode cX9_init 101 = .ok (.newarray .int, 2) := by decide +kernel
theorem dX9_init_103 : decode cX9_init 103 = .ok (.putfield 56, 3) := by decide +kernel
theorem dX9_init_106 : decode cX9_init 106 = .ok (.aload_n 0, 1) := by decide +kernel
theorem dX9_init_107 : decode cX9_init 107 = .ok (.bipush 60, 2) := by decide +kernel
theorem dX9_init_109 : decode cX9_init 109 = .ok (.newarray .boolean, 2) := by decide +kernel
theorem dX9_init_111 : decode cX9_init 111 = .ok (.putfield 59, 3) := by decide +kernel
theorem dX9_init_114 : decode cX9_init 114 = .ok (.aload_n 0, 1) := by decide +kernel
theorem dX9_init_115 : decode cX9_init 115 = .ok (.bipush 60, 2) := by decide +kernel
theorem dX9_init_117 : decode cX9_init 117 = .ok (.newarray .int, 2) := by decide +kernel
theorem dX9_init_119 : decode cX9_init 119 = .ok (.putfield 62, 3) := by decide +kernel
theorem dX9_init_122 : decode cX9_init 122 = .ok (.aload_n 0, 1) := by decide +kernel
theorem dX9_init_123 : decode cX9_init 123 = .ok (.bipush 95, 2) := by decide +kernel
theorem dX9_init_125 : decode cX9_init 125 = .ok (.newarray .int, 2) := by decide +kernel
theorem dX9_init_127 : decode cX9_init 127 = .ok (.putfield 65, 3) := by decide +kernel
theorem dX9_init_130 : decode cX9_init 130 = .ok (.aload_n 0, 1) := by decide +kernel
theorem dX9_init_131 : decode cX9_init 131 = .ok (.bipush 20, 2) := by decide +kernel
theorem dX9_init_133 : decode cX9_init 133 = .ok (.newarray .int, 2) := by decide +kernel
theorem dX9_init_135 : decode cX9_init 135 = .ok (.putfield 68, 3) := by decide +kernel
theorem dX9_init_138 : decode cX9_init 138 = .ok (.aload_n 0, 1) := by decide +kernel
theorem dX9_init_139 : decode cX9_init 139 = .ok (.sipush 190, 3) := by decide +kernel
theorem dX9_init_142 : decode cX9_init 142 = .ok (.newarray .int, 2) := by decide +kernel
theorem dX9_init_144 : decode cX9_init 144 = .ok (.putfield 71, 3) := by decide +kernel
theorem dX9_init_147 : decode cX9_init 147 = .ok (.aload_n 0, 1) := by decide +kernel
theorem dX9_init_148 : decode cX9_init 148 = .ok (.iconst 2, 1) := by decide +kernel
theorem dX9_init_149 : decode cX9_init 149 = .ok (.newarray .boolean, 2) := by decide +kernel
theorem dX9_init_151 : decode cX9_init 151 = .ok (.putfield 74, 3) := by decide +kernel
theorem dX9_init_154 : decode cX9_init 154 = .ok (.aload_n 0, 1) := by decide +kernel
theorem dX9_init_155 : decode cX9_init 155 = .ok (.sipush 570, 3) := by decide +kernel
theorem dX9_init_158 : decode cX9_init 158 = .ok (.newarray .int, 2) := by decide +kernel
theorem dX9_init_160 : decode cX9_init 160 = .ok (.putfield 77, 3) := by decide +kernel
theorem dX9_init_163 : decode cX9_init 163 = .ok (.aload_n 0, 1) := by decide +kernel
theorem dX9_init_164 : decode cX9_init 164 = .ok (.sipush 200, 3) := by decide +kernel
theorem dX9_init_167 : decode cX9_init 167 = .ok (.newarray .byte, 2) := by decide +kernel
theorem dX9_init_169 : decode cX9_init 169 = .ok (.putfield 80, 3) := by decide +kernel
theorem dX9_init_172 : decode cX9_init 172 = .ok (.aload_n 0, 1) := by decide +kernel
theorem dX9_init_173 : decode cX9_init 173 = .ok (.invokevirtual 83, 3) := by decide +kernel
theorem dX9_init_176 : decode cX9_init 176 = .ok (.aload_n 0, 1) := by decide +kernel
theorem dX9_init_177 : decode cX9_init 177 = .ok (.iconst 0, 1) := by decide +kernel
theorem dX9_init_178 : decode cX9_init 178 = .ok (.sipush 1500, 3) := by decide +kernel
theorem dX9_init_181 : decode cX9_init 181 = .ok (.bipush 10, 2) := by decide +kernel
theorem dX9_init_183 : decode cX9_init 183 = .ok (.iconst 0, 1) := by decide +kernel
theorem dX9_init_184 : decode cX9_init 184 = .ok (.invokevirtual 86, 3) := by decide +kernel
theorem dX9_init_187 : decode cX9_init 187 = .ok (.return_, 1) := by decide +kernel
theorem dX9_layPlain_0 : decode cX9_layPlain 0 = .ok (.iconst 0, 1) := by decide +kernel
theorem dX9_layPlain_1 : decode cX9_layPlain 1 = .ok (.istore_n 1, 1) := by decide +kernel
theorem dX9_layPlain_2 : decode cX9_layPlain 2 = .ok (.iload_n 1, 1) := by decide +kernel
theorem dX9_layPlain_3 : decode cX9_layPlain 3 = .ok (.bipush 95, 2) := by decide +kernel
theorem dX9_layPlain_5 : decode cX9_layPlain 5 = .ok (.if_icmp .ge 16, 3) := by decide +kernel
theorem dX9_layPlain_8 : decode cX9_layPlain 8 = .ok (.aload_n 0, 1) := by decide +kernel
theorem dX9_layPlain_9 : decode cX9_layPlain 9 = .ok (.getfield 24, 3) := by decide +kernel
theorem dX9_layPlain_12 : decode cX9_layPlain 12 = .ok (.iload_n 1, 1) := by decide +kernel
theorem dX9_layPlain_13 : decode cX9_layPlain 13 = .ok (.iconst 0, 1) := by decide +kernel
theorem dX9_layPlain_14 : decode cX9_layPlain 14 = .ok (.iastore, 1) := by decide +kernel
theorem dX9_layPlain_15 : decode cX9_layPlain 15 = .ok (.iinc 1 1, 3) := by decide +kernel
theorem dX9_layPlain_18 : decode cX9_layPlain 18 = .ok (.goto (-16), 3) := by decide +kernel
theorem dX9_layPlain_21 : decode cX9_layPlain 21 = .ok (.aload_n 0, 1) := by decide +kernel
theorem dX9_layPlain_22 : decode cX9_layPlain 22 = .ok (.getfield 24, 3) := by decide +kernel
theorem dX9_layPlain_25 : decode cX9_layPlain 25 = .ok (.iconst 1, 1) := by decide +kernel
theorem dX9_layPlain_26 : decode cX9_layPlain 26 = .ok (.sipush 1000, 3) := by decide +kernel
theorem dX9_layPlain_29 : decode cX9_layPlain 29 = .ok (.iastore, 1) := by decide +kernel
theorem dX9_layPlain_30 : decode cX9_layPlain 30 = .ok (.aload_n 0, 1) := by decide +kernel
theorem dX9_layPlain_31 : decode cX9_layPlain 31 = .ok (.getfield 24, 3) := by decide +kernel
theorem dX9_layPlain_34 : decode cX9_layPlain 34 = .ok (.iconst 3, 1) := by decide +kernel
theorem dX9_layPlain_35 : decode cX9_layPlain 35 = .ok (.sipush 1000, 3) := by decide +kernel
theorem dX9_layPlain_38 : decode cX9_layPlain 38 = .ok (.iastore, 1) := by decide +kernel
theorem dX9_layPlain_39 : decode cX9_layPlain 39 = .ok (.return_, 1) := by decide +kernel
theorem dX9_layers_0 : decode cX9_layers 0 = .ok (.aload_n 0, 1) := by decide +kernel
theorem dX9_layers_1 : decode cX9_layers 1 = .ok (.getfield 24, 3) := by decide +kernel
theorem dX9_layers_4 : decode cX9_layers 4 = .ok (.iconst 0, 1) := by decide +kernel
theorem dX9_layers_5 : decode cX9_layers 5 = .ok (.iaload, 1) := by decide +kernel
theorem dX9_layers_6 : decode cX9_layers 6 = .ok (.ireturn, 1) := by decide +kernel
theorem dX9_shots_0 : decode cX9_shots 0 = .ok (.aload_n 0, 1) := by decide +kernel
theorem dX9_shots_1 : decode cX9_shots 1 = .ok (.getfield 24, 3) := by decide +kernel
theorem dX9_shots_4 : decode cX9_shots 4 = .ok (.iconst 4, 1) := by decide +kernel
theorem dX9_shots_5 : decode cX9_shots 5 = .ok (.iaload, 1) := by decide +kernel
theorem dX9_shots_6 : decode cX9_shots 6 = .ok (.ireturn, 1) := by decide +kernel
theorem dX9_ofLayer_0 : decode cX9_ofLayer 0 = .ok (.aload_n 0, 1) := by decide +kernel
theorem dX9_ofLayer_1 : decode cX9_ofLayer 1 = .ok (.getfield 24, 3) := by decide +kernel
theorem dX9_ofLayer_4 : decode cX9_ofLayer 4 = .ok (.iconst 5, 1) := by decide +kernel
theorem dX9_ofLayer_5 : decode cX9_ofLayer 5 = .ok (.iconst 3, 1) := by decide +kernel
theorem dX9_ofLayer_6 : decode cX9_ofLayer 6 = .ok (.iload_n 1, 1) := by decide +kernel
theorem dX9_ofLayer_7 : decode cX9_ofLayer 7 = .ok (.imul, 1) := by decide +kernel
theorem dX9_ofLayer_8 : decode cX9_ofLayer 8 = .ok (.iadd, 1) := by decide +kernel
theorem dX9_ofLayer_9 : decode cX9_ofLayer 9 = .ok (.iload_n 2, 1) := by decide +kernel
theorem dX9_ofLayer_10 : decode cX9_ofLayer 10 = .ok (.iadd, 1) := by decide +kernel
theorem dX9_ofLayer_11 : decode cX9_ofLayer 11 = .ok (.iaload, 1) := by decide +kernel
theorem dX9_ofLayer_12 : decode cX9_ofLayer 12 = .ok (.ireturn, 1) := by decide +kernel
theorem dX9_ofShot_0 : decode cX9_ofShot 0 = .ok (.aload_n 0, 1) := by decide +kernel
theorem dX9_ofShot_1 : decode cX9_ofShot 1 = .ok (.getfield 24, 3) := by decide +kernel
theorem dX9_ofShot_4 : decode cX9_ofShot 4 = .ok (.bipush 35, 2) := by decide +kernel
theorem dX9_ofShot_6 : decode cX9_ofShot 6 = .ok (.iconst 3, 1) := by decide +kernel
theorem dX9_ofShot_7 : decode cX9_ofShot 7 = .ok (.iload_n 1, 1) := by decide +kernel
theorem dX9_ofShot_8 : decode cX9_ofShot 8 = .ok (.imul, 1) := by decide +kernel
theorem dX9_ofShot_9 : decode cX9_ofShot 9 = .ok (.iadd, 1) := by decide +kernel
theorem dX9_ofShot_10 : decode cX9_ofShot 10 = .ok (.iload_n 2, 1) := by decide +kernel
theorem dX9_ofShot_11 : decode cX9_ofShot 11 = .ok (.iadd, 1) := by decide +kernel
theorem dX9_ofShot_12 : decode cX9_ofShot 12 = .ok (.iaload, 1) := by decide +kernel
theorem dX9_ofShot_13 : decode cX9_ofShot 13 = .ok (.ireturn, 1) := by decide +kernel
set_option maxRecDepth 20000 in
set_option maxRecDepth 100000 in
theorem ggX9_isLayer_X9_layers : GoodIn wsX9_isLayer wsX9_layers := goodIn_r _ [5, 6, 10, 11, 12, 13, 14, 15, 16, 17, 18, 19, 20, 21, 22, 23, 24, 25, 26, 27, 28, 29, 30, 31, 32, 33, 34, 35, 36, 37, 38, 39, 40, 41, 42, 43, 44, 45, 46, 47, 48, 49, 50] rfl (by decide +kernel)
set_option maxRecDepth 20000 in
theorem gX9_isLayer_X9_layers : GoodIn wsX9_isLayer (wsV RX9 90 RX9 yX9_layers wsX9_layers) := goodIn_app (goodIn_of _ (by decide +kernel)) ggX9_isLayer_X9_layers
set_option maxRecDepth 20000 in
set_option maxRecDepth 100000 in
theorem ggX9_isLayer_X9_in : GoodIn wsX9_isLayer wsX9_in := goodIn_r _ [9] rfl (by decide +kernel)
set_option maxRecDepth 20000 in
theorem gX9_isLayer_X9_in : GoodIn wsX9_isLayer (va_wsS RX9 94 yX9_in wsX9_in) := goodIn_app (goodIn_of _ (by decide +kernel)) ggX9_isLayer_X9_in
theorem dX9_isLayer_0 : decode cX9_isLayer 0 = .ok (.iload_n 1, 1) := by decide +kernel
theorem dX9_isLayer_1 : decode cX9_isLayer 1 = .ok (.i2l, 1) := by decide +kernel
theorem dX9_isLayer_2 : decode cX9_isLayer 2 = .ok (.lconst 0, 1) := by decide +kernel
theorem dX9_isLayer_3 : decode cX9_isLayer 3 = .ok (.aload_n 0, 1) := by decide +kernel
theorem dX9_isLayer_4 : decode cX9_isLayer 4 = .ok (.invokevirtual 90, 3) := by decide +kernel
theorem dX9_isLayer_7 : decode cX9_isLayer 7 = .ok (.iconst 1, 1) := by decide +kernel
theorem dX9_isLayer_8 : decode cX9_isLayer 8 = .ok (.isub, 1) := by decide +kernel
theorem dX9_isLayer_9 : decode cX9_isLayer 9 = .ok (.i2l, 1) := by decide +kernel
theorem dX9_isLayer_10 : decode cX9_isLayer 10 = .ok (.invokestatic 94, 3) := by decide +kernel
theorem dX9_isLayer_13 : decode cX9_isLayer 13 = .ok (.ireturn, 1) := by decide +kernel
set_option maxRecDepth 20000 in
set_option maxRecDepth 100000 in
theorem ggX9_isShot_X9_shots : GoodIn wsX9_isShot wsX9_shots := goodIn_r _ [5, 6, 10, 11, 12, 13, 14, 15, 16, 17, 18, 19, 20, 21, 22, 23, 24, 25, 26, 27, 28, 29, 30, 31, 32, 33, 34, 35, 36, 37, 38, 39, 40, 41, 42, 43, 44, 45, 46, 47, 48, 49, 50] rfl (by decide +kernel)
set_option maxRecDepth 20000 in
theorem gX9_isShot_X9_shots : GoodIn wsX9_isShot (wsV RX9 98 RX9 yX9_shots wsX9_shots) := goodIn_app (goodIn_of _ (by decide +kernel)) ggX9_isShot_X9_shots
set_option maxRecDepth 20000 in
set_option maxRecDepth 100000 in
theorem ggX9_isShot_X9_in : GoodIn wsX9_isShot wsX9_in := goodIn_r _ [9] rfl (by decide +kernel)
set_option maxRecDepth 20000 in
theorem gX9_isShot_X9_in : GoodIn wsX9_isShot (va_wsS RX9 94 yX9_in wsX9_in) := goodIn_app (goodIn_of _ (by decide +kernel)) ggX9_isShot_X9_in
theorem dX9_isShot_0 : decode cX9_isShot 0 = .ok (.iload_n 1, 1) := by decide +kernel
theorem dX9_isShot_1 : decode cX9_isShot 1 = .ok (.i2l, 1) := by decide +kernel
theorem dX9_isShot_2 : decode cX9_isShot 2 = .ok (.lconst 0, 1) := by decide +kernel
theorem dX9_isShot_3 : decode cX9_isShot 3 = .ok (.aload_n 0, 1) := by decide +kernel
theorem dX9_isShot_4 : decode cX9_isShot 4 = .ok (.invokevirtual 98, 3) := by decide +kernel
theorem dX9_isShot_7 : decode cX9_isShot 7 = .ok (.iconst 1, 1) := by decide +kernel
theorem dX9_isShot_8 : decode cX9_isShot 8 = .ok (.isub, 1) := by decide +kernel
theorem dX9_isShot_9 : decode cX9_isShot 9 = .ok (.i2l, 1) := by decide +kernel
theorem dX9_isShot_10 : decode cX9_isShot 10 = .ok (.invokestatic 94, 3) := by decide +kernel
theorem dX9_isShot_13 : decode cX9_isShot 13 = .ok (.ireturn, 1) := by decide +kernel
theorem dX9_copyLayer_0 : decode cX9_copyLayer 0 = .ok (.iconst 0, 1) := by decide +kernel
theorem dX9_copyLayer_1 : decode cX9_copyLayer 1 = .ok (.istore_n 3, 1) := by decide +kernel
theorem dX9_copyLayer_2 : decode cX9_copyLayer 2 = .ok (.iload_n 3, 1) := by decide +kernel
theorem dX9_copyLayer_3 : decode cX9_copyLayer 3 = .ok (.iconst 3, 1) := by decide +kernel
theorem dX9_copyLayer_4 : decode cX9_copyLayer 4 = .ok (.if_icmp .ge 33, 3) := by decide +kernel
theorem dX9_copyLayer_7 : decode cX9_copyLayer 7 = .ok (.aload_n 0, 1) := by decide +kernel
theorem dX9_copyLayer_8 : decode cX9_copyLayer 8 = .ok (.getfield 24, 3) := by decide +kernel
theorem dX9_copyLayer_11 : decode cX9_copyLayer 11 = .ok (.iconst 5, 1) := by decide +kernel
theorem dX9_copyLayer_12 : decode cX9_copyLayer 12 = .ok (.iconst 3, 1) := by decide +kernel
theorem dX9_copyLayer_13 : decode cX9_copyLayer 13 = .ok (.iload_n 2, 1) := by decide +kernel
theorem dX9_copyLayer_14 : decode cX9_copyLayer 14 = .ok (.imul, 1) := by decide +kernel
theorem dX9_copyLayer_15 : decode cX9_copyLayer 15 = .ok (.iadd, 1) := by decide +kernel
theorem dX9_copyLayer_16 : decode cX9_copyLayer 16 = .ok (.iload_n 3, 1) := by decide +kernel
theorem dX9_copyLayer_17 : decode cX9_copyLayer 17 = .ok (.iadd, 1) := by decide +kernel
theorem dX9_copyLayer_18 : decode cX9_copyLayer 18 = .ok (.aload_n 0, 1) := by decide +kernel
theorem dX9_copyLayer_19 : decode cX9_copyLayer 19 = .ok (.getfield 24, 3) := by decide +kernel
theorem dX9_copyLayer_22 : decode cX9_copyLayer 22 = .ok (.iconst 5, 1) := by decide +kernel
theorem dX9_copyLayer_23 : decode cX9_copyLayer 23 = .ok (.iconst 3, 1) := by decide +kernel
theorem dX9_copyLayer_24 : decode cX9_copyLayer 24 = .ok (.iload_n 1, 1) := by decide +kernel
theorem dX9_copyLayer_25 : decode cX9_copyLayer 25 = .ok (.imul, 1) := by decide +kernel
theorem dX9_copyLayer_26 : decode cX9_copyLayer 26 = .ok (.iadd, 1) := by decide +kernel
theorem dX9_copyLayer_27 : decode cX9_copyLayer 27 = .ok (.iload_n 3, 1) := by decide +kernel
theorem dX9_copyLayer_28 : decode cX9_copyLayer 28 = .ok (.iadd, 1) := by decide +kernel
theorem dX9_copyLayer_29 : decode cX9_copyLayer 29 = .ok (.iaload, 1) := by decide +kernel
theorem dX9_copyLayer_30 : decode cX9_copyLayer 30 = .ok (.iastore, 1) := by decide +kernel
theorem dX9_copyLayer_31 : decode cX9_copyLayer 31 = .ok (.iinc 3 1, 3) := by decide +kernel
theorem dX9_copyLayer_34 : decode cX9_copyLayer 34 = .ok (.goto (-32), 3) := by decide +kernel
theorem dX9_copyLayer_37 : decode cX9_copyLayer 37 = .ok (.return_, 1) := by decide +kernel
set_option maxRecDepth 20000 in
set_option maxRecDepth 100000 in
theorem ggX9_addOne_X9_layers : GoodIn wsX9_addOne wsX9_layers := goodIn_r _ [6, 1, 11, 12, 13, 14, 15, 16, 17, 18, 19, 20, 21, 22, 23, 24, 25, 26, 27, 28, 29, 30, 31, 32, 33, 34, 35, 36, 37, 38, 39, 40, 41, 42, 43, 44, 45, 46, 47, 48, 49, 50, 51] rfl (by decide +kernel)
set_option maxRecDepth 20000 in
theorem gX9_addOne_X9_layers : GoodIn wsX9_addOne (wsV RX9 90 RX9 yX9_layers wsX9_layers) := goodIn_app (goodIn_of _ (by decide +kernel)) ggX9_addOne_X9_layers
set_option maxRecDepth 20000 in
set_option maxRecDepth 100000 in
theorem ggX9_addOne_X9_copyLayer : GoodIn wsX9_addOne wsX9_copyLayer := goodIn_r _ [10, 1, 11, 12, 13, 14, 15, 16, 17, 18, 19, 20, 21, 22, 23, 24, 25, 26, 27, 28, 29, 30, 31, 32, 33, 34, 35, 36, 37, 38, 39, 40, 41, 42, 43, 44, 45, 46, 47, 48, 49, 50, 51] rfl (by decide +kernel)
set_option maxRecDepth 20000 in
theorem gX9_addOne_X9_copyLayer : GoodIn wsX9_addOne (wsV RX9 101 RX9 yX9_copyLayer wsX9_copyLayer) := goodIn_app (goodIn_of _ (by decide +kernel)) ggX9_addOne_X9_copyLayer
theorem dX9_addOne_0 : decode cX9_addOne 0 = .ok (.aload_n 0, 1) := by decide +kernel
theorem dX9_addOne_1 : decode cX9_addOne 1 = .ok (.invokevirtual 90, 3) := by decide +kernel
theorem dX9_addOne_4 : decode cX9_addOne 4 = .ok (.istore 5, 2) := by decide +kernel
theorem dX9_addOne_6 : decode cX9_addOne 6 = .ok (.iload 5, 2) := by decide +kernel
theorem dX9_addOne_8 : decode cX9_addOne 8 = .ok (.iload_n 1, 1) := by decide +kernel
theorem dX9_addOne_9 : decode cX9_addOne 9 = .ok (.if_icmp .le 19, 3) := by decide +kernel
theorem dX9_addOne_12 : decode cX9_addOne 12 = .ok (.aload_n 0, 1) := by decide +kernel
theorem dX9_addOne_13 : decode cX9_addOne 13 = .ok (.iload 5, 2) := by decide +kernel
theorem dX9_addOne_15 : decode cX9_addOne 15 = .ok (.iconst 1, 1) := by decide +kernel
theorem dX9_addOne_16 : decode cX9_addOne 16 = .ok (.isub, 1) := by decide +kernel
theorem dX9_addOne_17 : decode cX9_addOne 17 = .ok (.iload 5, 2) := by decide +kernel
theorem dX9_addOne_19 : decode cX9_addOne 19 = .ok (.invokevirtual 101, 3) := by decide +kernel
theorem dX9_addOne_22 : decode cX9_addOne 22 = .ok (.iinc 5 (-1), 3) := by decide +kernel
theorem dX9_addOne_25 : decode cX9_addOne 25 = .ok (.goto (-19), 3) := by decide +kernel
theorem dX9_addOne_28 : decode cX9_addOne 28 = .ok (.aload_n 0, 1) := by decide +kernel
theorem dX9_addOne_29 : decode cX9_addOne 29 = .ok (.getfield 24, 3) := by decide +kernel
theorem dX9_addOne_32 : decode cX9_addOne 32 = .ok (.iconst 0, 1) := by decide +kernel
theorem dX9_addOne_33 : decode cX9_addOne 33 = .ok (.dup2, 1) := by decide +kernel
theorem dX9_addOne_34 : decode cX9_addOne 34 = .ok (.iaload, 1) := by decide +kernel
theorem dX9_addOne_35 : decode cX9_addOne 35 = .ok (.iconst 1, 1) := by decide +kernel
theorem dX9_addOne_36 : decode cX9_addOne 36 = .ok (.iadd, 1) := by decide +kernel
theorem dX9_addOne_37 : decode cX9_addOne 37 = .ok (.iastore, 1) := by decide +kernel
theorem dX9_addOne_38 : decode cX9_addOne 38 = .ok (.aload_n 0, 1) := by decide +kernel
theorem dX9_addOne_39 : decode cX9_addOne 39 = .ok (.getfield 24, 3) := by decide +kernel
theorem dX9_addOne_42 : decode cX9_addOne 42 = .ok (.iconst 5, 1) := by decide +kernel
theorem dX9_addOne_43 : decode cX9_addOne 43 = .ok (.iconst 3, 1) := by decide +kernel
theorem dX9_addOne_44 : decode cX9_addOne 44 = .ok (.iload_n 1, 1) := by decide +kernel
theorem dX9_addOne_45 : decode cX9_addOne 45 = .ok (.imul, 1) := by decide +kernel
theorem dX9_addOne_46 : decode cX9_addOne 46 = .ok (.iadd, 1) := by decide +kernel
theorem dX9_addOne_47 : decode cX9_addOne 47 = .ok (.iconst 0, 1) := by decide +kernel
theorem dX9_addOne_48 : decode cX9_addOne 48 = .ok (.iadd, 1) := by decide +kernel
theorem dX9_addOne_49 : decode cX9_addOne 49 = .ok (.iload_n 2, 1) := by decide +kernel
theorem dX9_addOne_50 : decode cX9_addOne 50 = .ok (.iastore, 1) := by decide +kernel
theorem dX9_addOne_51 : decode cX9_addOne 51 = .ok (.aload_n 0, 1) := by decide +kernel
theorem dX9_addOne_52 : decode cX9_addOne 52 = .ok (.getfield 24, 3) := by decide +kernel
theorem dX9_addOne_55 : decode cX9_addOne 55 = .ok (.iconst 5, 1) := by decide +kernel
theorem dX9_addOne_56 : decode cX9_addOne 56 = .ok (.iconst 3, 1) := by decide +kernel
theorem dX9_addOne_57 : decode cX9_addOne 57 = .ok (.iload_n 1, 1) := by decide +kernel
theorem dX9_addOne_58 : decode cX9_addOne 58 = .ok (.imul, 1) := by decide +kernel
theorem dX9_addOne_59 : decode cX9_addOne 59 = .ok (.iadd, 1) := by decide +kernel
theorem dX9_addOne_60 : decode cX9_addOne 60 = .ok (.iconst 1, 1) := by decide +kernel
theorem dX9_addOne_61 : decode cX9_addOne 61 = .ok (.iadd, 1) := by decide +kernel
theorem dX9_addOne_62 : decode cX9_addOne 62 = .ok (.iload_n 3, 1) := by decide +kernel
theorem dX9_addOne_63 : decode cX9_addOne 63 = .ok (.iastore, 1) := by decide +kernel
theorem dX9_addOne_64 : decode cX9_addOne 64 = .ok (.aload_n 0, 1) := by decide +kernel
theorem dX9_addOne_65 : decode cX9_addOne 65 = .ok (.getfield 24, 3) := by decide +kernel
theorem dX9_addOne_68 : decode cX9_addOne 68 = .ok (.iconst 5, 1) := by decide +kernel
theorem dX9_addOne_69 : decode cX9_addOne 69 = .ok (.iconst 3, 1) := by decide +kernel
theorem dX9_addOne_70 : decode cX9_addOne 70 = .ok (.iload_n 1, 1) := by decide +kernel
theorem dX9_addOne_71 : decode cX9_addOne 71 = .ok (.imul, 1) := by decide +kernel
theorem dX9_addOne_72 : decode cX9_addOne 72 = .ok (.iadd, 1) := by decide +kernel
theorem dX9_addOne_73 : decode cX9_addOne 73 = .ok (.iconst 2, 1) := by decide +kernel
theorem dX9_addOne_74 : decode cX9_addOne 74 = .ok (.iadd, 1) := by decide +kernel
theorem dX9_addOne_75 : decode cX9_addOne 75 = .ok (.iload 4, 2) := by decide +kernel
theorem dX9_addOne_77 : decode cX9_addOne 77 = .ok (.iastore, 1) := by decide +kernel
theorem dX9_addOne_78 : decode cX9_addOne 78 = .ok (.return_, 1) := by decide +kernel
set_option maxRecDepth 20000 in
set_option maxRecDepth 100000 in
theorem ggX9_removeOne_X9_layers : GoodIn wsX9_removeOne wsX9_layers := goodIn_r _ [6, 1, 11, 12, 13, 14, 15, 16, 17, 18, 19, 20, 21, 22, 23, 24, 25, 26, 27, 28, 29, 30, 31, 32, 33, 34, 35, 36, 37, 38, 39, 40, 41, 42, 43, 44, 45, 46, 47, 48, 49, 50, 51] rfl (by decide +kernel)
set_option maxRecDepth 20000 in
theorem gX9_removeOne_X9_layers : GoodIn wsX9_removeOne (wsV RX9 90 RX9 yX9_layers wsX9_layers) := goodIn_app (goodIn_of _ (by decide +kernel)) ggX9_removeOne_X9_layers
set_option maxRecDepth 20000 in
set_option maxRecDepth 100000 in
theorem ggX9_removeOne_X9_copyLayer : GoodIn wsX9_removeOne wsX9_copyLayer := goodIn_r _ [10, 1, 11, 12, 13, 14, 15, 16, 17, 18, 19, 20, 21, 22, 23, 24, 25, 26, 27, 28, 29, 30, 31, 32, 33, 34, 35, 36, 37, 38, 39, 40, 41, 42, 43, 44, 45, 46, 47, 48, 49, 50, 51] rfl (by decide +kernel)
set_option maxRecDepth 20000 in
theorem gX9_removeOne_X9_copyLayer : GoodIn wsX9_removeOne (wsV RX9 101 RX9 yX9_copyLayer wsX9_copyLayer) := goodIn_app (goodIn_of _ (by decide +kernel)) ggX9_removeOne_X9_copyLayer
theorem dX9_removeOne_0 : decode cX9_removeOne 0 = .ok (.iload_n 1, 1) := by decide +kernel
theorem dX9_removeOne_1 : decode cX9_removeOne 1 = .ok (.istore_n 2, 1) := by decide +kernel
theorem dX9_removeOne_2 : decode cX9_removeOne 2 = .ok (.iload_n 2, 1) := by decide +kernel
theorem dX9_removeOne_3 : decode cX9_removeOne 3 = .ok (.iconst 1, 1) := by decide +kernel
theorem dX9_removeOne_4 : decode cX9_removeOne 4 = .ok (.iadd, 1) := by decide +kernel
theorem dX9_removeOne_5 : decode cX9_removeOne 5 = .ok (.aload_n 0, 1) := by decide +kernel
theorem dX9_removeOne_6 : decode cX9_removeOne 6 = .ok (.invokevirtual 90, 3) := by decide +kernel
theorem dX9_removeOne_9 : decode cX9_removeOne 9 = .ok (.if_icmp .ge 17, 3) := by decide +kernel
theorem dX9_removeOne_12 : decode cX9_removeOne 12 = .ok (.aload_n 0, 1) := by decide +kernel
theorem dX9_removeOne_13 : decode cX9_removeOne 13 = .ok (.iload_n 2, 1) := by decide +kernel
theorem dX9_removeOne_14 : decode cX9_removeOne 14 = .ok (.iconst 1, 1) := by decide +kernel
theorem dX9_removeOne_15 : decode cX9_removeOne 15 = .ok (.iadd, 1) := by decide +kernel
theorem dX9_removeOne_16 : decode cX9_removeOne 16 = .ok (.iload_n 2, 1) := by decide +kernel
theorem dX9_removeOne_17 : decode cX9_removeOne 17 = .ok (.invokevirtual 101, 3) := by decide +kernel
theorem dX9_removeOne_20 : decode cX9_removeOne 20 = .ok (.iinc 2 1, 3) := by decide +kernel
theorem dX9_removeOne_23 : decode cX9_removeOne 23 = .ok (.goto (-21), 3) := by decide +kernel
theorem dX9_removeOne_26 : decode cX9_removeOne 26 = .ok (.aload_n 0, 1) := by decide +kernel
theorem dX9_removeOne_27 : decode cX9_removeOne 27 = .ok (.getfield 24, 3) := by decide +kernel
theorem dX9_removeOne_30 : decode cX9_removeOne 30 = .ok (.iconst 0, 1) := by decide +kernel
theorem dX9_removeOne_31 : decode cX9_removeOne 31 = .ok (.dup2, 1) := by decide +kernel
theorem dX9_removeOne_32 : decode cX9_removeOne 32 = .ok (.iaload, 1) := by decide +kernel
theorem dX9_removeOne_33 : decode cX9_removeOne 33 = .ok (.iconst 1, 1) := by decide +kernel
theorem dX9_removeOne_34 : decode cX9_removeOne 34 = .ok (.isub, 1) := by decide +kernel
theorem dX9_removeOne_35 : decode cX9_removeOne 35 = .ok (.iastore, 1) := by decide +kernel
theorem dX9_removeOne_36 : decode cX9_removeOne 36 = .ok (.return_, 1) := by decide +kernel
set_option maxRecDepth 20000 in
set_option maxRecDepth 100000 in
theorem ggX9_addShot_X9_shots : GoodIn wsX9_addShot wsX9_shots := goodIn_r _ [6, 1, 7, 8, 9, 10, 11, 12, 13, 14, 15, 16, 17, 18, 19, 20, 21, 22, 23, 24, 25, 26, 27, 28, 29, 30, 31, 32, 33, 34, 35, 36, 37, 38, 39, 40, 41, 42, 43, 44, 45, 46, 47] rfl (by decide +kernel)
set_option maxRecDepth 20000 in
theorem gX9_addShot_X9_shots : GoodIn wsX9_addShot (wsV RX9 98 RX9 yX9_shots wsX9_shots) := goodIn_app (goodIn_of _ (by decide +kernel)) ggX9_addShot_X9_shots
theorem dX9_addShot_0 : decode cX9_addShot 0 = .ok (.aload_n 0, 1) := by decide +kernel
theorem dX9_addShot_1 : decode cX9_addShot 1 = .ok (.invokevirtual 98, 3) := by decide +kernel
theorem dX9_addShot_4 : decode cX9_addShot 4 = .ok (.istore 4, 2) := by decide +kernel
theorem dX9_addShot_6 : decode cX9_addShot 6 = .ok (.aload_n 0, 1) := by decide +kernel
theorem dX9_addShot_7 : decode cX9_addShot 7 = .ok (.getfield 24, 3) := by decide +kernel
theorem dX9_addShot_10 : decode cX9_addShot 10 = .ok (.iconst 4, 1) := by decide +kernel
theorem dX9_addShot_11 : decode cX9_addShot 11 = .ok (.dup2, 1) := by decide +kernel
theorem dX9_addShot_12 : decode cX9_addShot 12 = .ok (.iaload, 1) := by decide +kernel
theorem dX9_addShot_13 : decode cX9_addShot 13 = .ok (.iconst 1, 1) := by decide +kernel
theorem dX9_addShot_14 : decode cX9_addShot 14 = .ok (.iadd, 1) := by decide +kernel
theorem dX9_addShot_15 : decode cX9_addShot 15 = .ok (.iastore, 1) := by decide +kernel
theorem dX9_addShot_16 : decode cX9_addShot 16 = .ok (.aload_n 0, 1) := by decide +kernel
theorem dX9_addShot_17 : decode cX9_addShot 17 = .ok (.getfield 24, 3) := by decide +kernel
theorem dX9_addShot_20 : decode cX9_addShot 20 = .ok (.bipush 35, 2) := by decide +kernel
theorem dX9_addShot_22 : decode cX9_addShot 22 = .ok (.iconst 3, 1) := by decide +kernel
theorem dX9_addShot_23 : decode cX9_addShot 23 = .ok (.iload 4, 2) := by decide +kernel
theorem dX9_addShot_25 : decode cX9_addShot 25 = .ok (.imul, 1) := by decide +kernel
theorem dX9_addShot_26 : decode cX9_addShot 26 = .ok (.iadd, 1) := by decide +kernel
theorem dX9_addShot_27 : decode cX9_addShot 27 = .ok (.iconst 0, 1) := by decide +kernel
theorem dX9_addShot_28 : decode cX9_addShot 28 = .ok (.iadd, 1) := by decide +kernel
theorem dX9_addShot_29 : decode cX9_addShot 29 = .ok (.iload_n 1, 1) := by decide +kernel
theorem dX9_addShot_30 : decode cX9_addShot 30 = .ok (.iastore, 1) := by decide +kernel
theorem dX9_addShot_31 : decode cX9_addShot 31 = .ok (.aload_n 0, 1) := by decide +kernel
theorem dX9_addShot_32 : decode cX9_addShot 32 = .ok (.getfield 24, 3) := by decide +kernel
theorem dX9_addShot_35 : decode cX9_addShot 35 = .ok (.bipush 35, 2) := by decide +kernel
theorem dX9_addShot_37 : decode cX9_addShot 37 = .ok (.iconst 3, 1) := by decide +kernel
theorem dX9_addShot_38 : decode cX9_addShot 38 = .ok (.iload 4, 2) := by decide +kernel
theorem dX9_addShot_40 : decode cX9_addShot 40 = .ok (.imul, 1) := by decide +kernel
theorem dX9_addShot_41 : decode cX9_addShot 41 = .ok (.iadd, 1) := by decide +kernel
theorem dX9_addShot_42 : decode cX9_addShot 42 = .ok (.iconst 1, 1) := by decide +kernel
theorem dX9_addShot_43 : decode cX9_addShot 43 = .ok (.iadd, 1) := by decide +kernel
theorem dX9_addShot_44 : decode cX9_addShot 44 = .ok (.iload_n 2, 1) := by decide +kernel
theorem dX9_addShot_45 : decode cX9_addShot 45 = .ok (.ifCond .eq 7, 3) := by decide +kernel
theorem dX9_addShot_48 : decode cX9_addShot 48 = .ok (.iconst 1, 1) := by decide +kernel
theorem dX9_addShot_49 : decode cX9_addShot 49 = .ok (.goto 4, 3) := by decide +kernel
theorem dX9_addShot_52 : decode cX9_addShot 52 = .ok (.iconst 0, 1) := by decide +kernel
theorem dX9_addShot_53 : decode cX9_addShot 53 = .ok (.iastore, 1) := by decide +kernel
theorem dX9_addShot_54 : decode cX9_addShot 54 = .ok (.aload_n 0, 1) := by decide +kernel
theorem dX9_addShot_55 : decode cX9_addShot 55 = .ok (.getfield 24, 3) := by decide +kernel
theorem dX9_addShot_58 : decode cX9_addShot 58 = .ok (.bipush 35, 2) := by decide +kernel
theorem dX9_addShot_60 : decode cX9_addShot 60 = .ok (.iconst 3, 1) := by decide +kernel
theorem dX9_addShot_61 : decode cX9_addShot 61 = .ok (.iload 4, 2) := by decide +kernel
theorem dX9_addShot_63 : decode cX9_addShot 63 = .ok (.imul, 1) := by decide +kernel
theorem dX9_addShot_64 : decode cX9_addShot 64 = .ok (.iadd, 1) := by decide +kernel
theorem dX9_addShot_65 : decode cX9_addShot 65 = .ok (.iconst 2, 1) := by decide +kernel
theorem dX9_addShot_66 : decode cX9_addShot 66 = .ok (.iadd, 1) := by decide +kernel
theorem dX9_addShot_67 : decode cX9_addShot 67 = .ok (.iload_n 3, 1) := by decide +kernel
theorem dX9_addShot_68 : decode cX9_addShot 68 = .ok (.iastore, 1) := by decide +kernel
theorem dX9_addShot_69 : decode cX9_addShot 69 = .ok (.return_, 1) := by decide +kernel
set_option maxRecDepth 20000 in
set_option maxRecDepth 100000 in
theorem ggX9_depthOf_X9_ofLayer : GoodIn wsX9_depthOf wsX9_ofLayer := goodIn_r _ [5, 6, 7, 8, 9, 10, 11, 12, 13, 14, 15, 16, 17, 18, 19, 20, 21, 22, 23, 24, 25, 26, 27, 28, 29, 30, 31, 32, 33, 34, 35, 36, 37, 38, 39, 40, 41, 42, 43, 44, 45, 46, 47] rfl (by decide +kernel)
set_option maxRecDepth 20000 in
theorem gX9_depthOf_X9_ofLayer : GoodIn wsX9_depthOf (wsV RX9 105 RX9 yX9_ofLayer wsX9_ofLayer) := goodIn_app (goodIn_of _ (by decide +kernel)) ggX9_depthOf_X9_ofLayer
theorem dX9_depthOf_0 : decode cX9_depthOf 0 = .ok (.iconst 0, 1) := by decide +kernel
theorem dX9_depthOf_1 : decode cX9_depthOf 1 = .ok (.istore_n 2, 1) := by decide +kernel
theorem dX9_depthOf_2 : decode cX9_depthOf 2 = .ok (.iconst 0, 1) := by decide +kernel
theorem dX9_depthOf_3 : decode cX9_depthOf 3 = .ok (.istore_n 3, 1) := by decide +kernel
theorem dX9_depthOf_4 : decode cX9_depthOf 4 = .ok (.iload_n 3, 1) := by decide +kernel
theorem dX9_depthOf_5 : decode cX9_depthOf 5 = .ok (.iload_n 1, 1) := by decide +kernel
theorem dX9_depthOf_6 : decode cX9_depthOf 6 = .ok (.if_icmp .ge 18, 3) := by decide +kernel
theorem dX9_depthOf_9 : decode cX9_depthOf 9 = .ok (.iload_n 2, 1) := by decide +kernel
theorem dX9_depthOf_10 : decode cX9_depthOf 10 = .ok (.aload_n 0, 1) := by decide +kernel
theorem dX9_depthOf_11 : decode cX9_depthOf 11 = .ok (.iload_n 3, 1) := by decide +kernel
theorem dX9_depthOf_12 : decode cX9_depthOf 12 = .ok (.iconst 1, 1) := by decide +kernel
theorem dX9_depthOf_13 : decode cX9_depthOf 13 = .ok (.invokevirtual 105, 3) := by decide +kernel
theorem dX9_depthOf_16 : decode cX9_depthOf 16 = .ok (.iadd, 1) := by decide +kernel
theorem dX9_depthOf_17 : decode cX9_depthOf 17 = .ok (.istore_n 2, 1) := by decide +kernel
theorem dX9_depthOf_18 : decode cX9_depthOf 18 = .ok (.iinc 3 1, 3) := by decide +kernel
theorem dX9_depthOf_21 : decode cX9_depthOf 21 = .ok (.goto (-17), 3) := by decide +kernel
theorem dX9_depthOf_24 : decode cX9_depthOf 24 = .ok (.iload_n 2, 1) := by decide +kernel
theorem dX9_depthOf_25 : decode cX9_depthOf 25 = .ok (.ireturn, 1) := by decide +kernel
theorem dX9_rootOf_0 : decode cX9_rootOf 0 = .ok (.iconst 0, 1) := by decide +kernel
theorem dX9_rootOf_1 : decode cX9_rootOf 1 = .ok (.istore_n 1, 1) := by decide +kernel
theorem dX9_rootOf_2 : decode cX9_rootOf 2 = .ok (.sipush 2048, 3) := by decide +kernel
theorem dX9_rootOf_5 : decode cX9_rootOf 5 = .ok (.istore_n 2, 1) := by decide +kernel
theorem dX9_rootOf_6 : decode cX9_rootOf 6 = .ok (.iload_n 2, 1) := by decide +kernel
theorem dX9_rootOf_7 : decode cX9_rootOf 7 = .ok (.ifCond .le 27, 3) := by decide +kernel
theorem dX9_rootOf_10 : decode cX9_rootOf 10 = .ok (.iload_n 1, 1) := by decide +kernel
theorem dX9_rootOf_11 : decode cX9_rootOf 11 = .ok (.iload_n 2, 1) := by decide +kernel
theorem dX9_rootOf_12 : decode cX9_rootOf 12 = .ok (.iadd, 1) := by decide +kernel
theorem dX9_rootOf_13 : decode cX9_rootOf 13 = .ok (.istore_n 3, 1) := by decide +kernel
theorem dX9_rootOf_14 : decode cX9_rootOf 14 = .ok (.iload_n 3, 1) := by decide +kernel
theorem dX9_rootOf_15 : decode cX9_rootOf 15 = .ok (.iload_n 3, 1) := by decide +kernel
theorem dX9_rootOf_16 : decode cX9_rootOf 16 = .ok (.imul, 1) := by decide +kernel
theorem dX9_rootOf_17 : decode cX9_rootOf 17 = .ok (.iload_n 0, 1) := by decide +kernel
theorem dX9_rootOf_18 : decode cX9_rootOf 18 = .ok (.if_icmp .gt 7, 3) := by decide +kernel
theorem dX9_rootOf_21 : decode cX9_rootOf 21 = .ok (.iload_n 3, 1) := by decide +kernel
theorem dX9_rootOf_22 : decode cX9_rootOf 22 = .ok (.goto 4, 3) := by decide +kernel
theorem dX9_rootOf_25 : decode cX9_rootOf 25 = .ok (.iload_n 1, 1) := by decide +kernel
theorem dX9_rootOf_26 : decode cX9_rootOf 26 = .ok (.istore_n 1, 1) := by decide +kernel
theorem dX9_rootOf_27 : decode cX9_rootOf 27 = .ok (.iload_n 2, 1) := by decide +kernel
theorem dX9_rootOf_28 : decode cX9_rootOf 28 = .ok (.iconst 2, 1) := by decide +kernel
theorem dX9_rootOf_29 : decode cX9_rootOf 29 = .ok (.idiv, 1) := by decide +kernel
theorem dX9_rootOf_30 : decode cX9_rootOf 30 = .ok (.istore_n 2, 1) := by decide +kernel
theorem dX9_rootOf_31 : decode cX9_rootOf 31 = .ok (.goto (-25), 3) := by decide +kernel
theorem dX9_rootOf_34 : decode cX9_rootOf 34 = .ok (.iload_n 1, 1) := by decide +kernel
theorem dX9_rootOf_35 : decode cX9_rootOf 35 = .ok (.ireturn, 1) := by decide +kernel
set_option maxRecDepth 20000 in
set_option maxRecDepth 100000 in
theorem ggX9_crossLayer_X9_ofLayer : GoodIn wsX9_crossLayer wsX9_ofLayer := goodIn_r _ [22, 23, 27, 28, 29, 30, 31, 32, 33, 34, 35, 36, 37, 38, 39, 40, 41, 42, 43, 44, 45, 46, 47, 48, 49, 50, 51, 52, 53, 54, 55, 56, 57, 58, 59, 60, 61, 62, 63, 64, 65, 66, 67] rfl (by decide +kernel)
set_option maxRecDepth 20000 in
theorem gX9_crossLayer_X9_ofLayer : GoodIn wsX9_crossLayer (wsV RX9 105 RX9 yX9_ofLayer wsX9_ofLayer) := goodIn_app (goodIn_of _ (by decide +kernel)) ggX9_crossLayer_X9_ofLayer
set_option maxRecDepth 20000 in
set_option maxRecDepth 100000 in
theorem ggX9_crossLayer_X9_rootOf : GoodIn wsX9_crossLayer wsX9_rootOf := goodIn_r _ [26] rfl (by decide +kernel)
set_option maxRecDepth 20000 in
theorem gX9_crossLayer_X9_rootOf : GoodIn wsX9_crossLayer (va_wsS RX9 115 yX9_rootOf wsX9_rootOf) := goodIn_app (goodIn_of _ (by decide +kernel)) ggX9_crossLayer_X9_rootOf
theorem dX9_crossLayer_0 : decode cX9_crossLayer 0 = .ok (.aload_n 0, 1) := by decide +kernel
theorem dX9_crossLayer_1 : decode cX9_crossLayer 1 = .ok (.aload_n 0, 1) := by decide +kernel
theorem dX9_crossLayer_2 : decode cX9_crossLayer 2 = .ok (.getfield 109, 3) := by decide +kernel
theorem dX9_crossLayer_5 : decode cX9_crossLayer 5 = .ok (.iconst 0, 1) := by decide +kernel
theorem dX9_crossLayer_6 : decode cX9_crossLayer 6 = .ok (.invokevirtual 105, 3) := by decide +kernel
theorem dX9_crossLayer_9 : decode cX9_crossLayer 9 = .ok (.istore_n 1, 1) := by decide +kernel
theorem dX9_crossLayer_10 : decode cX9_crossLayer 10 = .ok (.aload_n 0, 1) := by decide +kernel
theorem dX9_crossLayer_11 : decode cX9_crossLayer 11 = .ok (.aload_n 0, 1) := by decide +kernel
theorem dX9_crossLayer_12 : decode cX9_crossLayer 12 = .ok (.getfield 109, 3) := by decide +kernel
theorem dX9_crossLayer_15 : decode cX9_crossLayer 15 = .ok (.iconst 1, 1) := by decide +kernel
theorem dX9_crossLayer_16 : decode cX9_crossLayer 16 = .ok (.invokevirtual 105, 3) := by decide +kernel
theorem dX9_crossLayer_19 : decode cX9_crossLayer 19 = .ok (.istore_n 2, 1) := by decide +kernel
theorem dX9_crossLayer_20 : decode cX9_crossLayer 20 = .ok (.iload_n 1, 1) := by decide +kernel
theorem dX9_crossLayer_21 : decode cX9_crossLayer 21 = .ok (.iload_n 1, 1) := by decide +kernel
theorem dX9_crossLayer_22 : decode cX9_crossLayer 22 = .ok (.imul, 1) := by decide +kernel
theorem dX9_crossLayer_23 : decode cX9_crossLayer 23 = .ok (.aload_n 0, 1) := by decide +kernel
theorem dX9_crossLayer_24 : decode cX9_crossLayer 24 = .ok (.getfield 112, 3) := by decide +kernel
theorem dX9_crossLayer_27 : decode cX9_crossLayer 27 = .ok (.aload_n 0, 1) := by decide +kernel
theorem dX9_crossLayer_28 : decode cX9_crossLayer 28 = .ok (.getfield 112, 3) := by decide +kernel
theorem dX9_crossLayer_31 : decode cX9_crossLayer 31 = .ok (.imul, 1) := by decide +kernel
theorem dX9_crossLayer_32 : decode cX9_crossLayer 32 = .ok (.isub, 1) := by decide +kernel
theorem dX9_crossLayer_33 : decode cX9_crossLayer 33 = .ok (.invokestatic 115, 3) := by decide +kernel
theorem dX9_crossLayer_36 : decode cX9_crossLayer 36 = .ok (.istore_n 3, 1) := by decide +kernel
theorem dX9_crossLayer_37 : decode cX9_crossLayer 37 = .ok (.iload_n 2, 1) := by decide +kernel
theorem dX9_crossLayer_38 : decode cX9_crossLayer 38 = .ok (.iload_n 1, 1) := by decide +kernel
theorem dX9_crossLayer_39 : decode cX9_crossLayer 39 = .ok (.imul, 1) := by decide +kernel
theorem dX9_crossLayer_40 : decode cX9_crossLayer 40 = .ok (.iload_n 3, 1) := by decide +kernel
theorem dX9_crossLayer_41 : decode cX9_crossLayer 41 = .ok (.idiv, 1) := by decide +kernel
theorem dX9_crossLayer_42 : decode cX9_crossLayer 42 = .ok (.istore 4, 2) := by decide +kernel
theorem dX9_crossLayer_44 : decode cX9_crossLayer 44 = .ok (.aload_n 0, 1) := by decide +kernel
theorem dX9_crossLayer_45 : decode cX9_crossLayer 45 = .ok (.lconst 0, 1) := by decide +kernel
theorem dX9_crossLayer_46 : decode cX9_crossLayer 46 = .ok (.aload_n 0, 1) := by decide +kernel
theorem dX9_crossLayer_47 : decode cX9_crossLayer 47 = .ok (.getfield 119, 3) := by decide +kernel
theorem dX9_crossLayer_50 : decode cX9_crossLayer 50 = .ok (.aload_n 0, 1) := by decide +kernel
theorem dX9_crossLayer_51 : decode cX9_crossLayer 51 = .ok (.getfield 119, 3) := by decide +kernel
theorem dX9_crossLayer_54 : decode cX9_crossLayer 54 = .ok (.aload_n 0, 1) := by decide +kernel
theorem dX9_crossLayer_55 : decode cX9_crossLayer 55 = .ok (.aload_n 0, 1) := by decide +kernel
theorem dX9_crossLayer_56 : decode cX9_crossLayer 56 = .ok (.getfield 109, 3) := by decide +kernel
theorem dX9_crossLayer_59 : decode cX9_crossLayer 59 = .ok (.iconst 2, 1) := by decide +kernel
theorem dX9_crossLayer_60 : decode cX9_crossLayer 60 = .ok (.invokevirtual 105, 3) := by decide +kernel
theorem dX9_crossLayer_63 : decode cX9_crossLayer 63 = .ok (.i2l, 1) := by decide +kernel
theorem dX9_crossLayer_64 : decode cX9_crossLayer 64 = .ok (.lmul, 1) := by decide +kernel
theorem dX9_crossLayer_65 : decode cX9_crossLayer 65 = .ok (.iload 4, 2) := by decide +kernel
theorem dX9_crossLayer_67 : decode cX9_crossLayer 67 = .ok (.i2l, 1) := by decide +kernel
theorem dX9_crossLayer_68 : decode cX9_crossLayer 68 = .ok (.lmul, 1) := by decide +kernel
theorem dX9_crossLayer_69 : decode cX9_crossLayer 69 = .ok (.ldc2_w 123, 3) := by decide +kernel
theorem dX9_crossLayer_72 : decode cX9_crossLayer 72 = .ok (.ldiv, 1) := by decide +kernel
theorem dX9_crossLayer_73 : decode cX9_crossLayer 73 = .ok (.lsub, 1) := by decide +kernel
theorem dX9_crossLayer_74 : decode cX9_crossLayer 74 = .ok (.invokestatic 125, 3) := by decide +kernel
theorem dX9_crossLayer_77 : decode cX9_crossLayer 77 = .ok (.putfield 119, 3) := by decide +kernel
theorem dX9_crossLayer_80 : decode cX9_crossLayer 80 = .ok (.aload_n 0, 1) := by decide +kernel
theorem dX9_crossLayer_81 : decode cX9_crossLayer 81 = .ok (.getfield 27, 3) := by decide +kernel
theorem dX9_crossLayer_84 : decode cX9_crossLayer 84 = .ok (.aload_n 0, 1) := by decide +kernel
theorem dX9_crossLayer_85 : decode cX9_crossLayer 85 = .ok (.getfield 131, 3) := by decide +kernel
theorem dX9_crossLayer_88 : decode cX9_crossLayer 88 = .ok (.aload_n 0, 1) := by decide +kernel
theorem dX9_crossLayer_89 : decode cX9_crossLayer 89 = .ok (.getfield 109, 3) := by decide +kernel
theorem dX9_crossLayer_92 : decode cX9_crossLayer 92 = .ok (.iastore, 1) := by decide +kernel
theorem dX9_crossLayer_93 : decode cX9_crossLayer 93 = .ok (.aload_n 0, 1) := by decide +kernel
theorem dX9_crossLayer_94 : decode cX9_crossLayer 94 = .ok (.getfield 30, 3) := by decide +kernel
theorem dX9_crossLayer_97 : decode cX9_crossLayer 97 = .ok (.aload_n 0, 1) := by decide +kernel
theorem dX9_crossLayer_98 : decode cX9_crossLayer 98 = .ok (.getfield 131, 3) := by decide +kernel
theorem dX9_crossLayer_101 : decode cX9_crossLayer 101 = .ok (.aload_n 0, 1) := by decide +kernel
theorem dX9_crossLayer_102 : decode cX9_crossLayer 102 = .ok (.getfield 134, 3) := by decide +kernel
theorem dX9_crossLayer_105 : decode cX9_crossLayer 105 = .ok (.bastore, 1) := by decide +kernel
theorem dX9_crossLayer_106 : decode cX9_crossLayer 106 = .ok (.aload_n 0, 1) := by decide +kernel
theorem dX9_crossLayer_107 : decode cX9_crossLayer 107 = .ok (.getfield 34, 3) := by decide +kernel
theorem dX9_crossLayer_110 : decode cX9_crossLayer 110 = .ok (.aload_n 0, 1) := by decide +kernel
theorem dX9_crossLayer_111 : decode cX9_crossLayer 111 = .ok (.getfield 131, 3) := by decide +kernel
theorem dX9_crossLayer_114 : decode cX9_crossLayer 114 = .ok (.iload_n 2, 1) := by decide +kernel
theorem dX9_crossLayer_115 : decode cX9_crossLayer 115 = .ok (.aload_n 0, 1) := by decide +kernel
theorem dX9_crossLayer_116 : decode cX9_crossLayer 116 = .ok (.getfield 112, 3) := by decide +kernel
theorem dX9_crossLayer_119 : decode cX9_crossLayer 119 = .ok (.imul, 1) := by decide +kernel
theorem dX9_crossLayer_120 : decode cX9_crossLayer 120 = .ok (.iload_n 3, 1) := by decide +kernel
theorem dX9_crossLayer_121 : decode cX9_crossLayer 121 = .ok (.idiv, 1) := by decide +kernel
theorem dX9_crossLayer_122 : decode cX9_crossLayer 122 = .ok (.iastore, 1) := by decide +kernel
theorem dX9_crossLayer_123 : decode cX9_crossLayer 123 = .ok (.aload_n 0, 1) := by decide +kernel
theorem dX9_crossLayer_124 : decode cX9_crossLayer 124 = .ok (.getfield 37, 3) := by decide +kernel
theorem dX9_crossLayer_127 : decode cX9_crossLayer 127 = .ok (.aload_n 0, 1) := by decide +kernel
theorem dX9_crossLayer_128 : decode cX9_crossLayer 128 = .ok (.getfield 131, 3) := by decide +kernel
theorem dX9_crossLayer_131 : decode cX9_crossLayer 131 = .ok (.iload 4, 2) := by decide +kernel
theorem dX9_crossLayer_133 : decode cX9_crossLayer 133 = .ok (.iastore, 1) := by decide +kernel
theorem dX9_crossLayer_134 : decode cX9_crossLayer 134 = .ok (.aload_n 0, 1) := by decide +kernel
theorem dX9_crossLayer_135 : decode cX9_crossLayer 135 = .ok (.getfield 40, 3) := by decide +kernel
theorem dX9_crossLayer_138 : decode cX9_crossLayer 138 = .ok (.aload_n 0, 1) := by decide +kernel
theorem dX9_crossLayer_139 : decode cX9_crossLayer 139 = .ok (.getfield 131, 3) := by decide +kernel
theorem dX9_crossLayer_142 : decode cX9_crossLayer 142 = .ok (.iload 4, 2) := by decide +kernel
theorem dX9_crossLayer_144 : decode cX9_crossLayer 144 = .ok (.i2l, 1) := by decide +kernel
theorem dX9_crossLayer_145 : decode cX9_crossLayer 145 = .ok (.iload_n 1, 1) := by decide +kernel
theorem dX9_crossLayer_146 : decode cX9_crossLayer 146 = .ok (.i2l, 1) := by decide +kernel
theorem dX9_crossLayer_147 : decode cX9_crossLayer 147 = .ok (.lmul, 1) := by decide +kernel
theorem dX9_crossLayer_148 : decode cX9_crossLayer 148 = .ok (.ldc2_w 138, 3) := by decide +kernel
theorem dX9_crossLayer_151 : decode cX9_crossLayer 151 = .ok (.ldiv, 1) := by decide +kernel
theorem dX9_crossLayer_152 : decode cX9_crossLayer 152 = .ok (.l2i, 1) := by decide +kernel
theorem dX9_crossLayer_153 : decode cX9_crossLayer 153 = .ok (.iastore, 1) := by decide +kernel
theorem dX9_crossLayer_154 : decode cX9_crossLayer 154 = .ok (.aload_n 0, 1) := by decide +kernel
theorem dX9_crossLayer_155 : decode cX9_crossLayer 155 = .ok (.getfield 43, 3) := by decide +kernel
theorem dX9_crossLayer_158 : decode cX9_crossLayer 158 = .ok (.aload_n 0, 1) := by decide +kernel
theorem dX9_crossLayer_159 : decode cX9_crossLayer 159 = .ok (.getfield 131, 3) := by decide +kernel
theorem dX9_crossLayer_162 : decode cX9_crossLayer 162 = .ok (.aload_n 0, 1) := by decide +kernel
theorem dX9_crossLayer_163 : decode cX9_crossLayer 163 = .ok (.getfield 119, 3) := by decide +kernel
theorem dX9_crossLayer_166 : decode cX9_crossLayer 166 = .ok (.l2i, 1) := by decide +kernel
theorem dX9_crossLayer_167 : decode cX9_crossLayer 167 = .ok (.iastore, 1) := by decide +kernel
theorem dX9_crossLayer_168 : decode cX9_crossLayer 168 = .ok (.aload_n 0, 1) := by decide +kernel
theorem dX9_crossLayer_169 : decode cX9_crossLayer 169 = .ok (.dup, 1) := by decide +kernel
theorem dX9_crossLayer_170 : decode cX9_crossLayer 170 = .ok (.getfield 131, 3) := by decide +kernel
theorem dX9_crossLayer_173 : decode cX9_crossLayer 173 = .ok (.iconst 1, 1) := by decide +kernel
theorem dX9_crossLayer_174 : decode cX9_crossLayer 174 = .ok (.iadd, 1) := by decide +kernel
theorem dX9_crossLayer_175 : decode cX9_crossLayer 175 = .ok (.putfield 131, 3) := by decide +kernel
theorem dX9_crossLayer_178 : decode cX9_crossLayer 178 = .ok (.return_, 1) := by decide +kernel
theorem dX9_layerAhead_0 : decode cX9_layerAhead 0 = .ok (.aload_n 0, 1) := by decide +kernel
theorem dX9_layerAhead_1 : decode cX9_layerAhead 1 = .ok (.getfield 134, 3) := by decide +kernel
theorem dX9_layerAhead_4 : decode cX9_layerAhead 4 = .ok (.ifCond .eq 12, 3) := by decide +kernel
theorem dX9_layerAhead_7 : decode cX9_layerAhead 7 = .ok (.aload_n 0, 1) := by decide +kernel
theorem dX9_layerAhead_8 : decode cX9_layerAhead 8 = .ok (.getfield 109, 3) := by decide +kernel
theorem dX9_layerAhead_11 : decode cX9_layerAhead 11 = .ok (.iconst 1, 1) := by decide +kernel
theorem dX9_layerAhead_12 : decode cX9_layerAhead 12 = .ok (.iadd, 1) := by decide +kernel
theorem dX9_layerAhead_13 : decode cX9_layerAhead 13 = .ok (.goto 9, 3) := by decide +kernel
theorem dX9_layerAhead_16 : decode cX9_layerAhead 16 = .ok (.aload_n 0, 1) := by decide +kernel
theorem dX9_layerAhead_17 : decode cX9_layerAhead 17 = .ok (.getfield 109, 3) := by decide +kernel
theorem dX9_layerAhead_20 : decode cX9_layerAhead 20 = .ok (.iconst 1, 1) := by decide +kernel
theorem dX9_layerAhead_21 : decode cX9_layerAhead 21 = .ok (.isub, 1) := by decide +kernel
theorem dX9_layerAhead_22 : decode cX9_layerAhead 22 = .ok (.ireturn, 1) := by decide +kernel
set_option maxRecDepth 20000 in
set_option maxRecDepth 100000 in
theorem ggX9_indexAhead_X9_isLayer : GoodIn wsX9_indexAhead wsX9_isLayer := goodIn_r _ [6, 7, 8, 9, 5, 10, 1, 11, 12, 13, 18, 19, 20, 21, 22, 23, 24, 25, 26, 27, 28, 29, 30, 31, 32, 33, 34, 35, 36, 37, 38, 39, 40, 41, 42, 43, 44, 45, 46, 47, 48, 49, 50, 51, 52, 53, 54, 55, 56, 57, 58] rfl (by decide +kernel)
set_option maxRecDepth 20000 in
theorem gX9_indexAhead_X9_isLayer : GoodIn wsX9_indexAhead (wsV RX9 140 RX9 yX9_isLayer wsX9_isLayer) := goodIn_app (goodIn_of _ (by decide +kernel)) ggX9_indexAhead_X9_isLayer
set_option maxRecDepth 20000 in
set_option maxRecDepth 100000 in
theorem ggX9_indexAhead_X9_ofLayer : GoodIn wsX9_indexAhead wsX9_ofLayer := goodIn_r _ [17, 1, 18, 19, 20, 21, 22, 23, 24, 25, 26, 27, 28, 29, 30, 31, 32, 33, 34, 35, 36, 37, 38, 39, 40, 41, 42, 43, 44, 45, 46, 47, 48, 49, 50, 51, 52, 53, 54, 55, 56, 57, 58] rfl (by decide +kernel)
set_option maxRecDepth 20000 in
theorem gX9_indexAhead_X9_ofLayer : GoodIn wsX9_indexAhead (wsV RX9 105 RX9 yX9_ofLayer wsX9_ofLayer) := goodIn_app (goodIn_of _ (by decide +kernel)) ggX9_indexAhead_X9_ofLayer
theorem dX9_indexAhead_0 : decode cX9_indexAhead 0 = .ok (.iload_n 2, 1) := by decide +kernel
theorem dX9_indexAhead_1 : decode cX9_indexAhead 1 = .ok (.ifCond .eq 9, 3) := by decide +kernel
theorem dX9_indexAhead_4 : decode cX9_indexAhead 4 = .ok (.iload_n 1, 1) := by decide +kernel
theorem dX9_indexAhead_5 : decode cX9_indexAhead 5 = .ok (.iconst 1, 1) := by decide +kernel
theorem dX9_indexAhead_6 : decode cX9_indexAhead 6 = .ok (.iadd, 1) := by decide +kernel
theorem dX9_indexAhead_7 : decode cX9_indexAhead 7 = .ok (.goto 6, 3) := by decide +kernel
theorem dX9_indexAhead_10 : decode cX9_indexAhead 10 = .ok (.iload_n 1, 1) := by decide +kernel
theorem dX9_indexAhead_11 : decode cX9_indexAhead 11 = .ok (.iconst 1, 1) := by decide +kernel
theorem dX9_indexAhead_12 : decode cX9_indexAhead 12 = .ok (.isub, 1) := by decide +kernel
theorem dX9_indexAhead_13 : decode cX9_indexAhead 13 = .ok (.istore_n 3, 1) := by decide +kernel
theorem dX9_indexAhead_14 : decode cX9_indexAhead 14 = .ok (.aload_n 0, 1) := by decide +kernel
theorem dX9_indexAhead_15 : decode cX9_indexAhead 15 = .ok (.iload_n 3, 1) := by decide +kernel
theorem dX9_indexAhead_16 : decode cX9_indexAhead 16 = .ok (.invokevirtual 140, 3) := by decide +kernel
theorem dX9_indexAhead_19 : decode cX9_indexAhead 19 = .ok (.ifCond .eq 10, 3) := by decide +kernel
theorem dX9_indexAhead_22 : decode cX9_indexAhead 22 = .ok (.aload_n 0, 1) := by decide +kernel
theorem dX9_indexAhead_23 : decode cX9_indexAhead 23 = .ok (.iload_n 3, 1) := by decide +kernel
theorem dX9_indexAhead_24 : decode cX9_indexAhead 24 = .ok (.iconst 0, 1) := by decide +kernel
theorem dX9_indexAhead_25 : decode cX9_indexAhead 25 = .ok (.invokevirtual 105, 3) := by decide +kernel
theorem dX9_indexAhead_28 : decode cX9_indexAhead 28 = .ok (.ireturn, 1) := by decide +kernel
theorem dX9_indexAhead_29 : decode cX9_indexAhead 29 = .ok (.iload_n 2, 1) := by decide +kernel
theorem dX9_indexAhead_30 : decode cX9_indexAhead 30 = .ok (.ifCond .ne 10, 3) := by decide +kernel
theorem dX9_indexAhead_33 : decode cX9_indexAhead 33 = .ok (.aload_n 0, 1) := by decide +kernel
theorem dX9_indexAhead_34 : decode cX9_indexAhead 34 = .ok (.getfield 24, 3) := by decide +kernel
theorem dX9_indexAhead_37 : decode cX9_indexAhead 37 = .ok (.iconst 1, 1) := by decide +kernel
theorem dX9_indexAhead_38 : decode cX9_indexAhead 38 = .ok (.iaload, 1) := by decide +kernel
theorem dX9_indexAhead_39 : decode cX9_indexAhead 39 = .ok (.ireturn, 1) := by decide +kernel
theorem dX9_indexAhead_40 : decode cX9_indexAhead 40 = .ok (.aload_n 0, 1) := by decide +kernel
theorem dX9_indexAhead_41 : decode cX9_indexAhead 41 = .ok (.getfield 24, 3) := by decide +kernel
theorem dX9_indexAhead_44 : decode cX9_indexAhead 44 = .ok (.iconst 2, 1) := by decide +kernel
theorem dX9_indexAhead_45 : decode cX9_indexAhead 45 = .ok (.iaload, 1) := by decide +kernel
theorem dX9_indexAhead_46 : decode cX9_indexAhead 46 = .ok (.iconst 1, 1) := by decide +kernel
theorem dX9_indexAhead_47 : decode cX9_indexAhead 47 = .ok (.if_icmp .ne 7, 3) := by decide +kernel
theorem dX9_indexAhead_50 : decode cX9_indexAhead 50 = .ok (.iconst (-1), 1) := by decide +kernel
theorem dX9_indexAhead_51 : decode cX9_indexAhead 51 = .ok (.goto 9, 3) := by decide +kernel
theorem dX9_indexAhead_54 : decode cX9_indexAhead 54 = .ok (.aload_n 0, 1) := by decide +kernel
theorem dX9_indexAhead_55 : decode cX9_indexAhead 55 = .ok (.getfield 24, 3) := by decide +kernel
theorem dX9_indexAhead_58 : decode cX9_indexAhead 58 = .ok (.iconst 3, 1) := by decide +kernel
theorem dX9_indexAhead_59 : decode cX9_indexAhead 59 = .ok (.iaload, 1) := by decide +kernel
theorem dX9_indexAhead_60 : decode cX9_indexAhead 60 = .ok (.ireturn, 1) := by decide +kernel
set_option maxRecDepth 20000 in
set_option maxRecDepth 100000 in
theorem ggX9_whatBehind_X9_indexAhead : GoodIn wsX9_whatBehind wsX9_indexAhead := goodIn_r _ [9, 10, 11, 12, 13, 8, 14, 15, 16, 17, 18, 19, 20, 21, 22, 23, 24, 25, 30, 31, 32, 33, 34, 35, 36, 37, 38, 39, 40, 41, 42, 43, 44, 45, 46, 47, 48, 49, 50, 51, 52, 53, 54, 55, 56, 57, 58, 59, 60, 61, 62, 63, 64, 65, 66, 67, 68, 69, 70] rfl (by decide +kernel)
set_option maxRecDepth 20000 in
theorem gX9_whatBehind_X9_indexAhead : GoodIn wsX9_whatBehind (wsV RX9 144 RX9 yX9_indexAhead wsX9_indexAhead) := goodIn_app (goodIn_of _ (by decide +kernel)) ggX9_whatBehind_X9_indexAhead
set_option maxRecDepth 20000 in
set_option maxRecDepth 100000 in
theorem ggX9_whatBehind_X9_layerAhead : GoodIn wsX9_whatBehind wsX9_layerAhead := goodIn_r _ [29, 3, 2, 30, 31, 32, 33, 34, 35, 36, 37, 38, 39, 40, 41, 42, 43, 44, 45, 46, 47, 48, 49, 50, 51, 52, 53, 54, 55, 56, 57, 58, 59, 60, 61, 62, 63, 64, 65, 66, 67, 68, 69, 70] rfl (by decide +kernel)
set_option maxRecDepth 20000 in
theorem gX9_whatBehind_X9_layerAhead : GoodIn wsX9_whatBehind (wsV RX9 148 RX9 yX9_layerAhead wsX9_layerAhead) := goodIn_app (goodIn_of _ (by decide +kernel)) ggX9_whatBehind_X9_layerAhead
set_option maxRecDepth 20000 in
set_option maxRecDepth 100000 in
theorem ggX9_whatBehind_X9_isLayer : GoodIn wsX9_whatBehind wsX9_isLayer := goodIn_r _ [14, 15, 16, 17, 8, 18, 10, 19, 20, 21, 30, 31, 32, 33, 34, 35, 36, 37, 38, 39, 40, 41, 42, 43, 44, 45, 46, 47, 48, 49, 50, 51, 52, 53, 54, 55, 56, 57, 58, 59, 60, 61, 62, 63, 64, 65, 66, 67, 68, 69, 70] rfl (by decide +kernel)
set_option maxRecDepth 20000 in
theorem gX9_whatBehind_X9_isLayer : GoodIn wsX9_whatBehind (wsV RX9 140 RX9 yX9_isLayer wsX9_isLayer) := goodIn_app (goodIn_of _ (by decide +kernel)) ggX9_whatBehind_X9_isLayer
theorem dX9_whatBehind_0 : decode cX9_whatBehind 0 = .ok (.aload_n 0, 1) := by decide +kernel
theorem dX9_whatBehind_1 : decode cX9_whatBehind 1 = .ok (.getfield 119, 3) := by decide +kernel
theorem dX9_whatBehind_4 : decode cX9_whatBehind 4 = .ok (.lconst 0, 1) := by decide +kernel
theorem dX9_whatBehind_5 : decode cX9_whatBehind 5 = .ok (.lcmp, 1) := by decide +kernel
theorem dX9_whatBehind_6 : decode cX9_whatBehind 6 = .ok (.ifCond .ne 5, 3) := by decide +kernel
theorem dX9_whatBehind_9 : decode cX9_whatBehind 9 = .ok (.iconst 5, 1) := by decide +kernel
theorem dX9_whatBehind_10 : decode cX9_whatBehind 10 = .ok (.ireturn, 1) := by decide +kernel
theorem dX9_whatBehind_11 : decode cX9_whatBehind 11 = .ok (.aload_n 0, 1) := by decide +kernel
theorem dX9_whatBehind_12 : decode cX9_whatBehind 12 = .ok (.aload_n 0, 1) := by decide +kernel
theorem dX9_whatBehind_13 : decode cX9_whatBehind 13 = .ok (.getfield 109, 3) := by decide +kernel
theorem dX9_whatBehind_16 : decode cX9_whatBehind 16 = .ok (.aload_n 0, 1) := by decide +kernel
theorem dX9_whatBehind_17 : decode cX9_whatBehind 17 = .ok (.getfield 134, 3) := by decide +kernel
theorem dX9_whatBehind_20 : decode cX9_whatBehind 20 = .ok (.invokevirtual 144, 3) := by decide +kernel
theorem dX9_whatBehind_23 : decode cX9_whatBehind 23 = .ok (.istore_n 1, 1) := by decide +kernel
theorem dX9_whatBehind_24 : decode cX9_whatBehind 24 = .ok (.iload_n 1, 1) := by decide +kernel
theorem dX9_whatBehind_25 : decode cX9_whatBehind 25 = .ok (.iconst (-1), 1) := by decide +kernel
theorem dX9_whatBehind_26 : decode cX9_whatBehind 26 = .ok (.if_icmp .ne 5, 3) := by decide +kernel
theorem dX9_whatBehind_29 : decode cX9_whatBehind 29 = .ok (.iconst 2, 1) := by decide +kernel
theorem dX9_whatBehind_30 : decode cX9_whatBehind 30 = .ok (.ireturn, 1) := by decide +kernel
theorem dX9_whatBehind_31 : decode cX9_whatBehind 31 = .ok (.iload_n 1, 1) := by decide +kernel
theorem dX9_whatBehind_32 : decode cX9_whatBehind 32 = .ok (.aload_n 0, 1) := by decide +kernel
theorem dX9_whatBehind_33 : decode cX9_whatBehind 33 = .ok (.getfield 112, 3) := by decide +kernel
theorem dX9_whatBehind_36 : decode cX9_whatBehind 36 = .ok (.if_icmp .gt 5, 3) := by decide +kernel
theorem dX9_whatBehind_39 : decode cX9_whatBehind 39 = .ok (.iconst 1, 1) := by decide +kernel
theorem dX9_whatBehind_40 : decode cX9_whatBehind 40 = .ok (.ireturn, 1) := by decide +kernel
theorem dX9_whatBehind_41 : decode cX9_whatBehind 41 = .ok (.aload_n 0, 1) := by decide +kernel
theorem dX9_whatBehind_42 : decode cX9_whatBehind 42 = .ok (.aload_n 0, 1) := by decide +kernel
theorem dX9_whatBehind_43 : decode cX9_whatBehind 43 = .ok (.invokevirtual 148, 3) := by decide +kernel
theorem dX9_whatBehind_46 : decode cX9_whatBehind 46 = .ok (.invokevirtual 140, 3) := by decide +kernel
theorem dX9_whatBehind_49 : decode cX9_whatBehind 49 = .ok (.ifCond .eq 7, 3) := by decide +kernel
theorem dX9_whatBehind_52 : decode cX9_whatBehind 52 = .ok (.iconst 0, 1) := by decide +kernel
theorem dX9_whatBehind_53 : decode cX9_whatBehind 53 = .ok (.goto 15, 3) := by decide +kernel
theorem dX9_whatBehind_56 : decode cX9_whatBehind 56 = .ok (.aload_n 0, 1) := by decide +kernel
theorem dX9_whatBehind_57 : decode cX9_whatBehind 57 = .ok (.getfield 134, 3) := by decide +kernel
theorem dX9_whatBehind_60 : decode cX9_whatBehind 60 = .ok (.ifCond .eq 7, 3) := by decide +kernel
theorem dX9_whatBehind_63 : decode cX9_whatBehind 63 = .ok (.iconst 4, 1) := by decide +kernel
theorem dX9_whatBehind_64 : decode cX9_whatBehind 64 = .ok (.goto 4, 3) := by decide +kernel
theorem dX9_whatBehind_67 : decode cX9_whatBehind 67 = .ok (.iconst 3, 1) := by decide +kernel
theorem dX9_whatBehind_68 : decode cX9_whatBehind 68 = .ok (.ireturn, 1) := by decide +kernel
set_option maxRecDepth 20000 in
set_option maxRecDepth 100000 in
theorem ggX9_passOn_X9_ofLayer : GoodIn wsX9_passOn wsX9_ofLayer := goodIn_r _ [7, 8, 14, 15, 16, 17, 18, 19, 20, 21, 22, 23, 24, 25, 26, 27, 28, 29, 30, 31, 32, 33, 34, 35, 36, 37, 38, 39, 40, 41, 42, 43, 44, 45, 46, 47, 48, 49, 50, 51, 52, 53, 54] rfl (by decide +kernel)
set_option maxRecDepth 20000 in
theorem gX9_passOn_X9_ofLayer : GoodIn wsX9_passOn (wsV RX9 105 RX9 yX9_ofLayer wsX9_ofLayer) := goodIn_app (goodIn_of _ (by decide +kernel)) ggX9_passOn_X9_ofLayer
set_option maxRecDepth 20000 in
set_option maxRecDepth 100000 in
theorem ggX9_passOn_X9_layerAhead : GoodIn wsX9_passOn wsX9_layerAhead := goodIn_r _ [12, 13, 1, 14, 15, 16, 17, 18, 19, 20, 21, 22, 23, 24, 25, 26, 27, 28, 29, 30, 31, 32, 33, 34, 35, 36, 37, 38, 39, 40, 41, 42, 43, 44, 45, 46, 47, 48, 49, 50, 51, 52, 53, 54] rfl (by decide +kernel)
set_option maxRecDepth 20000 in
theorem gX9_passOn_X9_layerAhead : GoodIn wsX9_passOn (wsV RX9 148 RX9 yX9_layerAhead wsX9_layerAhead) := goodIn_app (goodIn_of _ (by decide +kernel)) ggX9_passOn_X9_layerAhead
theorem dX9_passOn_0 : decode cX9_passOn 0 = .ok (.aload_n 0, 1) := by decide +kernel
theorem dX9_passOn_1 : decode cX9_passOn 1 = .ok (.aload_n 0, 1) := by decide +kernel
theorem dX9_passOn_2 : decode cX9_passOn 2 = .ok (.getfield 109, 3) := by decide +kernel
theorem dX9_passOn_5 : decode cX9_passOn 5 = .ok (.iconst 0, 1) := by decide +kernel
theorem dX9_passOn_6 : decode cX9_passOn 6 = .ok (.invokevirtual 105, 3) := by decide +kernel
theorem dX9_passOn_9 : decode cX9_passOn 9 = .ok (.i2l, 1) := by decide +kernel
theorem dX9_passOn_10 : decode cX9_passOn 10 = .ok (.lstore_n 1, 1) := by decide +kernel
theorem dX9_passOn_11 : decode cX9_passOn 11 = .ok (.aload_n 0, 1) := by decide +kernel
theorem dX9_passOn_12 : decode cX9_passOn 12 = .ok (.aload_n 0, 1) := by decide +kernel
theorem dX9_passOn_13 : decode cX9_passOn 13 = .ok (.invokevirtual 148, 3) := by decide +kernel
theorem dX9_passOn_16 : decode cX9_passOn 16 = .ok (.iconst 0, 1) := by decide +kernel
theorem dX9_passOn_17 : decode cX9_passOn 17 = .ok (.invokevirtual 105, 3) := by decide +kernel
theorem dX9_passOn_20 : decode cX9_passOn 20 = .ok (.i2l, 1) := by decide +kernel
theorem dX9_passOn_21 : decode cX9_passOn 21 = .ok (.lstore_n 3, 1) := by decide +kernel
theorem dX9_passOn_22 : decode cX9_passOn 22 = .ok (.aload_n 0, 1) := by decide +kernel
theorem dX9_passOn_23 : decode cX9_passOn 23 = .ok (.dup, 1) := by decide +kernel
theorem dX9_passOn_24 : decode cX9_passOn 24 = .ok (.getfield 119, 3) := by decide +kernel
theorem dX9_passOn_27 : decode cX9_passOn 27 = .ok (.aload_n 0, 1) := by decide +kernel
theorem dX9_passOn_28 : decode cX9_passOn 28 = .ok (.getfield 119, 3) := by decide +kernel
theorem dX9_passOn_31 : decode cX9_passOn 31 = .ok (.lload_n 1, 1) := by decide +kernel
theorem dX9_passOn_32 : decode cX9_passOn 32 = .ok (.lload_n 3, 1) := by decide +kernel
theorem dX9_passOn_33 : decode cX9_passOn 33 = .ok (.lsub, 1) := by decide +kernel
theorem dX9_passOn_34 : decode cX9_passOn 34 = .ok (.lmul, 1) := by decide +kernel
theorem dX9_passOn_35 : decode cX9_passOn 35 = .ok (.lload_n 1, 1) := by decide +kernel
theorem dX9_passOn_36 : decode cX9_passOn 36 = .ok (.lload_n 3, 1) := by decide +kernel
theorem dX9_passOn_37 : decode cX9_passOn 37 = .ok (.lsub, 1) := by decide +kernel
theorem dX9_passOn_38 : decode cX9_passOn 38 = .ok (.lmul, 1) := by decide +kernel
theorem dX9_passOn_39 : decode cX9_passOn 39 = .ok (.lload_n 1, 1) := by decide +kernel
theorem dX9_passOn_40 : decode cX9_passOn 40 = .ok (.lload_n 3, 1) := by decide +kernel
theorem dX9_passOn_41 : decode cX9_passOn 41 = .ok (.ladd, 1) := by decide +kernel
theorem dX9_passOn_42 : decode cX9_passOn 42 = .ok (.lload_n 1, 1) := by decide +kernel
theorem dX9_passOn_43 : decode cX9_passOn 43 = .ok (.lload_n 3, 1) := by decide +kernel
theorem dX9_passOn_44 : decode cX9_passOn 44 = .ok (.ladd, 1) := by decide +kernel
theorem dX9_passOn_45 : decode cX9_passOn 45 = .ok (.lmul, 1) := by decide +kernel
theorem dX9_passOn_46 : decode cX9_passOn 46 = .ok (.ldiv, 1) := by decide +kernel
theorem dX9_passOn_47 : decode cX9_passOn 47 = .ok (.lsub, 1) := by decide +kernel
theorem dX9_passOn_48 : decode cX9_passOn 48 = .ok (.putfield 119, 3) := by decide +kernel
theorem dX9_passOn_51 : decode cX9_passOn 51 = .ok (.aload_n 0, 1) := by decide +kernel
theorem dX9_passOn_52 : decode cX9_passOn 52 = .ok (.aload_n 0, 1) := by decide +kernel
theorem dX9_passOn_53 : decode cX9_passOn 53 = .ok (.invokevirtual 148, 3) := by decide +kernel
theorem dX9_passOn_56 : decode cX9_passOn 56 = .ok (.putfield 109, 3) := by decide +kernel
theorem dX9_passOn_59 : decode cX9_passOn 59 = .ok (.return_, 1) := by decide +kernel
theorem dX9_endBy_0 : decode cX9_endBy 0 = .ok (.iload_n 1, 1) := by decide +kernel
theorem dX9_endBy_1 : decode cX9_endBy 1 = .ok (.tableswitch 33 3 5 #[27, 29, 31], 27) := by decide +kernel
theorem dX9_endBy_28 : decode cX9_endBy 28 = .ok (.iconst 0, 1) := by decide +kernel
theorem dX9_endBy_29 : decode cX9_endBy 29 = .ok (.ireturn, 1) := by decide +kernel
theorem dX9_endBy_30 : decode cX9_endBy 30 = .ok (.iconst 1, 1) := by decide +kernel
theorem dX9_endBy_31 : decode cX9_endBy 31 = .ok (.ireturn, 1) := by decide +kernel
theorem dX9_endBy_32 : decode cX9_endBy 32 = .ok (.iconst 2, 1) := by decide +kernel
theorem dX9_endBy_33 : decode cX9_endBy 33 = .ok (.ireturn, 1) := by decide +kernel
theorem dX9_endBy_34 : decode cX9_endBy 34 = .ok (.aload_n 0, 1) := by decide +kernel
theorem dX9_endBy_35 : decode cX9_endBy 35 = .ok (.getfield 131, 3) := by decide +kernel
theorem dX9_endBy_38 : decode cX9_endBy 38 = .ok (.bipush 60, 2) := by decide +kernel
theorem dX9_endBy_40 : decode cX9_endBy 40 = .ok (.if_icmp .ne 7, 3) := by decide +kernel
theorem dX9_endBy_43 : decode cX9_endBy 43 = .ok (.iconst 3, 1) := by decide +kernel
theorem dX9_endBy_44 : decode cX9_endBy 44 = .ok (.goto 4, 3) := by decide +kernel
theorem dX9_endBy_47 : decode cX9_endBy 47 = .ok (.iconst (-1), 1) := by decide +kernel
theorem dX9_endBy_48 : decode cX9_endBy 48 = .ok (.ireturn, 1) := by decide +kernel
theorem dX9_mirror_0 : decode cX9_mirror 0 = .ok (.aload_n 0, 1) := by decide +kernel
theorem dX9_mirror_1 : decode cX9_mirror 1 = .ok (.dup, 1) := by decide +kernel
theorem dX9_mirror_2 : decode cX9_mirror 2 = .ok (.getfield 151, 3) := by decide +kernel
theorem dX9_mirror_5 : decode cX9_mirror 5 = .ok (.iconst 1, 1) := by decide +kernel
theorem dX9_mirror_6 : decode cX9_mirror 6 = .ok (.iadd, 1) := by decide +kernel
theorem dX9_mirror_7 : decode cX9_mirror 7 = .ok (.putfield 151, 3) := by decide +kernel
theorem dX9_mirror_10 : decode cX9_mirror 10 = .ok (.aload_n 0, 1) := by decide +kernel
theorem dX9_mirror_11 : decode cX9_mirror 11 = .ok (.aload_n 0, 1) := by decide +kernel
theorem dX9_mirror_12 : decode cX9_mirror 12 = .ok (.getfield 119, 3) := by decide +kernel
theorem dX9_mirror_15 : decode cX9_mirror 15 = .ok (.aload_n 0, 1) := by decide +kernel
theorem dX9_mirror_16 : decode cX9_mirror 16 = .ok (.getfield 24, 3) := by decide +kernel
theorem dX9_mirror_19 : decode cX9_mirror 19 = .ok (.iconst 3, 1) := by decide +kernel
theorem dX9_mirror_20 : decode cX9_mirror 20 = .ok (.iaload, 1) := by decide +kernel
theorem dX9_mirror_21 : decode cX9_mirror 21 = .ok (.i2l, 1) := by decide +kernel
theorem dX9_mirror_22 : decode cX9_mirror 22 = .ok (.lmul, 1) := by decide +kernel
theorem dX9_mirror_23 : decode cX9_mirror 23 = .ok (.ldc2_w 154, 3) := by decide +kernel
theorem dX9_mirror_26 : decode cX9_mirror 26 = .ok (.ldiv, 1) := by decide +kernel
theorem dX9_mirror_27 : decode cX9_mirror 27 = .ok (.putfield 119, 3) := by decide +kernel
theorem dX9_mirror_30 : decode cX9_mirror 30 = .ok (.aload_n 0, 1) := by decide +kernel
theorem dX9_mirror_31 : decode cX9_mirror 31 = .ok (.iconst 0, 1) := by decide +kernel
theorem dX9_mirror_32 : decode cX9_mirror 32 = .ok (.putfield 134, 3) := by decide +kernel
theorem dX9_mirror_35 : decode cX9_mirror 35 = .ok (.aload_n 0, 1) := by decide +kernel
theorem dX9_mirror_36 : decode cX9_mirror 36 = .ok (.getfield 119, 3) := by decide +kernel
theorem dX9_mirror_39 : decode cX9_mirror 39 = .ok (.lconst 0, 1) := by decide +kernel
theorem dX9_mirror_40 : decode cX9_mirror 40 = .ok (.lcmp, 1) := by decide +kernel
theorem dX9_mirror_41 : decode cX9_mirror 41 = .ok (.ifCond .ne 20, 3) := by decide +kernel
theorem dX9_mirror_44 : decode cX9_mirror 44 = .ok (.aload_n 0, 1) := by decide +kernel
theorem dX9_mirror_45 : decode cX9_mirror 45 = .ok (.getfield 46, 3) := by decide +kernel
theorem dX9_mirror_48 : decode cX9_mirror 48 = .ok (.aload_n 0, 1) := by decide +kernel
theorem dX9_mirror_49 : decode cX9_mirror 49 = .ok (.getfield 131, 3) := by decide +kernel
theorem dX9_mirror_52 : decode cX9_mirror 52 = .ok (.iconst 1, 1) := by decide +kernel
theorem dX9_mirror_53 : decode cX9_mirror 53 = .ok (.isub, 1) := by decide +kernel
theorem dX9_mirror_54 : decode cX9_mirror 54 = .ok (.iconst 5, 1) := by decide +kernel
theorem dX9_mirror_55 : decode cX9_mirror 55 = .ok (.iastore, 1) := by decide +kernel
theorem dX9_mirror_56 : decode cX9_mirror 56 = .ok (.aload_n 0, 1) := by decide +kernel
theorem dX9_mirror_57 : decode cX9_mirror 57 = .ok (.iconst 2, 1) := by decide +kernel
theorem dX9_mirror_58 : decode cX9_mirror 58 = .ok (.putfield 156, 3) := by decide +kernel
theorem dX9_mirror_61 : decode cX9_mirror 61 = .ok (.return_, 1) := by decide +kernel
set_option maxRecDepth 20000 in
set_option maxRecDepth 100000 in
theorem ggX9_goOnBy_X9_passOn : GoodIn wsX9_goOnBy wsX9_passOn := goodIn_r _ [6, 7, 8, 9, 10, 11, 5, 12, 13, 14, 15, 16, 17, 1, 27, 28, 29, 30, 31, 32, 33, 34, 35, 36, 37, 38, 39, 40, 41, 42, 43, 44, 45, 46, 47, 48, 49, 50, 51, 52, 53, 54, 55, 56, 57, 58, 59, 60, 61, 62, 63, 64, 65, 66, 67] rfl (by decide +kernel)
set_option maxRecDepth 20000 in
theorem gX9_goOnBy_X9_passOn : GoodIn wsX9_goOnBy (wsV RX9 159 RX9 yX9_passOn wsX9_passOn) := goodIn_app (goodIn_of _ (by decide +kernel)) ggX9_goOnBy_X9_passOn
set_option maxRecDepth 20000 in
set_option maxRecDepth 100000 in
theorem ggX9_goOnBy_X9_mirror : GoodIn wsX9_goOnBy wsX9_mirror := goodIn_r _ [21, 22, 8, 13, 23, 1, 24, 25, 26, 27, 28, 29, 30, 31, 32, 33, 34, 35, 36, 37, 38, 39, 40, 41, 42, 43, 44, 45, 46, 47, 48, 49, 50, 51, 52, 53, 54, 55, 56, 57, 58, 59, 60, 61, 62, 63, 64, 65, 66, 67] rfl (by decide +kernel)
set_option maxRecDepth 20000 in
theorem gX9_goOnBy_X9_mirror : GoodIn wsX9_goOnBy (wsV RX9 162 RX9 yX9_mirror wsX9_mirror) := goodIn_app (goodIn_of _ (by decide +kernel)) ggX9_goOnBy_X9_mirror
theorem dX9_goOnBy_0 : decode cX9_goOnBy 0 = .ok (.iload_n 1, 1) := by decide +kernel
theorem dX9_goOnBy_1 : decode cX9_goOnBy 1 = .ok (.ifCond .ne 10, 3) := by decide +kernel
theorem dX9_goOnBy_4 : decode cX9_goOnBy 4 = .ok (.aload_n 0, 1) := by decide +kernel
theorem dX9_goOnBy_5 : decode cX9_goOnBy 5 = .ok (.invokevirtual 159, 3) := by decide +kernel
theorem dX9_goOnBy_8 : decode cX9_goOnBy 8 = .ok (.goto 31, 3) := by decide +kernel
theorem dX9_goOnBy_11 : decode cX9_goOnBy 11 = .ok (.iload_n 1, 1) := by decide +kernel
theorem dX9_goOnBy_12 : decode cX9_goOnBy 12 = .ok (.iconst 2, 1) := by decide +kernel
theorem dX9_goOnBy_13 : decode cX9_goOnBy 13 = .ok (.if_icmp .ne 10, 3) := by decide +kernel
theorem dX9_goOnBy_16 : decode cX9_goOnBy 16 = .ok (.aload_n 0, 1) := by decide +kernel
theorem dX9_goOnBy_17 : decode cX9_goOnBy 17 = .ok (.invokevirtual 162, 3) := by decide +kernel
theorem dX9_goOnBy_20 : decode cX9_goOnBy 20 = .ok (.goto 19, 3) := by decide +kernel
theorem dX9_goOnBy_23 : decode cX9_goOnBy 23 = .ok (.aload_n 0, 1) := by decide +kernel
theorem dX9_goOnBy_24 : decode cX9_goOnBy 24 = .ok (.aload_n 0, 1) := by decide +kernel
theorem dX9_goOnBy_25 : decode cX9_goOnBy 25 = .ok (.getfield 134, 3) := by decide +kernel
theorem dX9_goOnBy_28 : decode cX9_goOnBy 28 = .ok (.ifCond .ne 7, 3) := by decide +kernel
theorem dX9_goOnBy_31 : decode cX9_goOnBy 31 = .ok (.iconst 1, 1) := by decide +kernel
theorem dX9_goOnBy_32 : decode cX9_goOnBy 32 = .ok (.goto 4, 3) := by decide +kernel
theorem dX9_goOnBy_35 : decode cX9_goOnBy 35 = .ok (.iconst 0, 1) := by decide +kernel
theorem dX9_goOnBy_36 : decode cX9_goOnBy 36 = .ok (.putfield 134, 3) := by decide +kernel
theorem dX9_goOnBy_39 : decode cX9_goOnBy 39 = .ok (.return_, 1) := by decide +kernel
set_option maxRecDepth 20000 in
set_option maxRecDepth 100000 in
theorem ggX9_follow_X9_isLayer : GoodIn wsX9_follow wsX9_isLayer := goodIn_r _ [14, 15, 16, 17, 13, 18, 19, 20, 21, 22, 74, 75, 76, 77, 78, 79, 80, 81, 82, 83, 84, 85, 86, 87, 88, 89, 90, 91, 92, 93, 94, 95, 96, 97, 98, 99, 100, 101, 102, 103, 104, 105, 106, 107, 108, 109, 110, 111, 112, 113, 114] rfl (by decide +kernel)
set_option maxRecDepth 20000 in
theorem gX9_follow_X9_isLayer : GoodIn wsX9_follow (wsV RX9 140 RX9 yX9_isLayer wsX9_isLayer) := goodIn_app (goodIn_of _ (by decide +kernel)) ggX9_follow_X9_isLayer
set_option maxRecDepth 20000 in
set_option maxRecDepth 100000 in
theorem ggX9_follow_X9_ofLayer : GoodIn wsX9_follow wsX9_ofLayer := goodIn_r _ [26, 19, 74, 75, 76, 77, 78, 79, 80, 81, 82, 83, 84, 85, 86, 87, 88, 89, 90, 91, 92, 93, 94, 95, 96, 97, 98, 99, 100, 101, 102, 103, 104, 105, 106, 107, 108, 109, 110, 111, 112, 113, 114] rfl (by decide +kernel)
set_option maxRecDepth 20000 in
theorem gX9_follow_X9_ofLayer : GoodIn wsX9_follow (wsV RX9 105 RX9 yX9_ofLayer wsX9_ofLayer) := goodIn_app (goodIn_of _ (by decide +kernel)) ggX9_follow_X9_ofLayer
set_option maxRecDepth 20000 in
set_option maxRecDepth 100000 in
theorem ggX9_follow_X9_crossLayer : GoodIn wsX9_follow wsX9_crossLayer := goodIn_r _ [30, 6, 8, 4, 3, 31, 32, 33, 34, 35, 1, 36, 7, 37, 38, 39, 40, 41, 23, 24, 25, 13, 26, 19, 42, 43, 44, 74, 75, 76, 77, 78, 79, 80, 81, 82, 83, 84, 85, 86, 87, 88, 89, 90, 91, 92, 93, 94, 95, 96, 97, 98, 99, 100, 101, 102, 103, 104, 105, 106, 107, 108, 109, 110, 111, 112, 113, 114] rfl (by decide +kernel)
set_option maxRecDepth 20000 in
theorem gX9_follow_X9_crossLayer : GoodIn wsX9_follow (wsV RX9 165 RX9 yX9_crossLayer wsX9_crossLayer) := goodIn_app (goodIn_of _ (by decide +kernel)) ggX9_follow_X9_crossLayer
set_option maxRecDepth 20000 in
set_option maxRecDepth 100000 in
theorem ggX9_follow_X9_whatBehind : GoodIn wsX9_follow wsX9_whatBehind := goodIn_r _ [48, 4, 6, 7, 8, 49, 50, 51, 13, 52, 19, 10, 11, 12, 14, 15, 16, 17, 18, 20, 21, 22, 23, 24, 25, 26, 53, 54, 55, 56, 74, 75, 76, 77, 78, 79, 80, 81, 82, 83, 84, 85, 86, 87, 88, 89, 90, 91, 92, 93, 94, 95, 96, 97, 98, 99, 100, 101, 102, 103, 104, 105, 106, 107, 108, 109, 110, 111, 112, 113, 114] rfl (by decide +kernel)
set_option maxRecDepth 20000 in
theorem gX9_follow_X9_whatBehind : GoodIn wsX9_follow (wsV RX9 168 RX9 yX9_whatBehind wsX9_whatBehind) := goodIn_app (goodIn_of _ (by decide +kernel)) ggX9_follow_X9_whatBehind
set_option maxRecDepth 20000 in
set_option maxRecDepth 100000 in
theorem ggX9_follow_X9_endBy : GoodIn wsX9_follow wsX9_endBy := goodIn_r _ [60, 1, 74, 75, 76, 77, 78, 79, 80, 81, 82, 83, 84, 85, 86, 87, 88, 89, 90, 91, 92, 93, 94, 95, 96, 97, 98, 99, 100, 101, 102, 103, 104, 105, 106, 107, 108, 109, 110, 111, 112, 113, 114] rfl (by decide +kernel)
set_option maxRecDepth 20000 in
theorem gX9_follow_X9_endBy : GoodIn wsX9_follow (wsV RX9 171 RX9 yX9_endBy wsX9_endBy) := goodIn_app (goodIn_of _ (by decide +kernel)) ggX9_follow_X9_endBy
set_option maxRecDepth 20000 in
set_option maxRecDepth 100000 in
theorem ggX9_follow_X9_goOnBy : GoodIn wsX9_follow wsX9_goOnBy := goodIn_r _ [64, 7, 65, 66, 67, 13, 68, 6, 4, 23, 24, 25, 26, 19, 53, 54, 55, 56, 69, 70, 71, 72, 2, 73, 9, 1, 5, 74, 75, 76, 77, 78, 79, 80, 81, 82, 83, 84, 85, 86, 87, 88, 89, 90, 91, 92, 93, 94, 95, 96, 97, 98, 99, 100, 101, 102, 103, 104, 105, 106, 107, 108, 109, 110, 111, 112, 113, 114] rfl (by decide +kernel)
set_option maxRecDepth 20000 in
theorem gX9_follow_X9_goOnBy : GoodIn wsX9_follow (wsV RX9 174 RX9 yX9_goOnBy wsX9_goOnBy) := goodIn_app (goodIn_of _ (by decide +kernel)) ggX9_follow_X9_goOnBy
theorem dX9_follow_0 : decode cX9_follow 0 = .ok (.aload_n 0, 1) := by decide +kernel
theorem dX9_follow_1 : decode cX9_follow 1 = .ok (.iconst 0, 1) := by decide +kernel
theorem dX9_follow_2 : decode cX9_follow 2 = .ok (.putfield 131, 3) := by decide +kernel
theorem dX9_follow_5 : decode cX9_follow 5 = .ok (.aload_n 0, 1) := by decide +kernel
theorem dX9_follow_6 : decode cX9_follow 6 = .ok (.iconst 0, 1) := by decide +kernel
theorem dX9_follow_7 : decode cX9_follow 7 = .ok (.putfield 151, 3) := by decide +kernel
theorem dX9_follow_10 : decode cX9_follow 10 = .ok (.aload_n 0, 1) := by decide +kernel
theorem dX9_follow_11 : decode cX9_follow 11 = .ok (.ldc2_w 123, 3) := by decide +kernel
theorem dX9_follow_14 : decode cX9_follow 14 = .ok (.putfield 119, 3) := by decide +kernel
theorem dX9_follow_17 : decode cX9_follow 17 = .ok (.aload_n 0, 1) := by decide +kernel
theorem dX9_follow_18 : decode cX9_follow 18 = .ok (.iconst 4, 1) := by decide +kernel
theorem dX9_follow_19 : decode cX9_follow 19 = .ok (.putfield 156, 3) := by decide +kernel
theorem dX9_follow_22 : decode cX9_follow 22 = .ok (.aload_n 0, 1) := by decide +kernel
theorem dX9_follow_23 : decode cX9_follow 23 = .ok (.iload_n 1, 1) := by decide +kernel
theorem dX9_follow_24 : decode cX9_follow 24 = .ok (.invokevirtual 140, 3) := by decide +kernel
theorem dX9_follow_27 : decode cX9_follow 27 = .ok (.ifCond .eq 13, 3) := by decide +kernel
theorem dX9_follow_30 : decode cX9_follow 30 = .ok (.iload_n 3, 1) := by decide +kernel
theorem dX9_follow_31 : decode cX9_follow 31 = .ok (.aload_n 0, 1) := by decide +kernel
theorem dX9_follow_32 : decode cX9_follow 32 = .ok (.iload_n 1, 1) := by decide +kernel
theorem dX9_follow_33 : decode cX9_follow 33 = .ok (.iconst 0, 1) := by decide +kernel
theorem dX9_follow_34 : decode cX9_follow 34 = .ok (.invokevirtual 105, 3) := by decide +kernel
theorem dX9_follow_37 : decode cX9_follow 37 = .ok (.if_icmp .lt 9, 3) := by decide +kernel
theorem dX9_follow_40 : decode cX9_follow 40 = .ok (.aload_n 0, 1) := by decide +kernel
theorem dX9_follow_41 : decode cX9_follow 41 = .ok (.lconst 0, 1) := by decide +kernel
theorem dX9_follow_42 : decode cX9_follow 42 = .ok (.putfield 119, 3) := by decide +kernel
theorem dX9_follow_45 : decode cX9_follow 45 = .ok (.return_, 1) := by decide +kernel
theorem dX9_follow_46 : decode cX9_follow 46 = .ok (.aload_n 0, 1) := by decide +kernel
theorem dX9_follow_47 : decode cX9_follow 47 = .ok (.iload_n 1, 1) := by decide +kernel
theorem dX9_follow_48 : decode cX9_follow 48 = .ok (.putfield 109, 3) := by decide +kernel
theorem dX9_follow_51 : decode cX9_follow 51 = .ok (.aload_n 0, 1) := by decide +kernel
theorem dX9_follow_52 : decode cX9_follow 52 = .ok (.iload_n 2, 1) := by decide +kernel
theorem dX9_follow_53 : decode cX9_follow 53 = .ok (.putfield 134, 3) := by decide +kernel
theorem dX9_follow_56 : decode cX9_follow 56 = .ok (.aload_n 0, 1) := by decide +kernel
theorem dX9_follow_57 : decode cX9_follow 57 = .ok (.iload_n 3, 1) := by decide +kernel
theorem dX9_follow_58 : decode cX9_follow 58 = .ok (.putfield 112, 3) := by decide +kernel
theorem dX9_follow_61 : decode cX9_follow 61 = .ok (.aload_n 0, 1) := by decide +kernel
theorem dX9_follow_62 : decode cX9_follow 62 = .ok (.iconst (-1), 1) := by decide +kernel
theorem dX9_follow_63 : decode cX9_follow 63 = .ok (.putfield 156, 3) := by decide +kernel
theorem dX9_follow_66 : decode cX9_follow 66 = .ok (.aload_n 0, 1) := by decide +kernel
theorem dX9_follow_67 : decode cX9_follow 67 = .ok (.getfield 156, 3) := by decide +kernel
theorem dX9_follow_70 : decode cX9_follow 70 = .ok (.iconst (-1), 1) := by decide +kernel
theorem dX9_follow_71 : decode cX9_follow 71 = .ok (.if_icmp .ne 66, 3) := by decide +kernel
theorem dX9_follow_74 : decode cX9_follow 74 = .ok (.aload_n 0, 1) := by decide +kernel
theorem dX9_follow_75 : decode cX9_follow 75 = .ok (.invokevirtual 165, 3) := by decide +kernel
theorem dX9_follow_78 : decode cX9_follow 78 = .ok (.aload_n 0, 1) := by decide +kernel
theorem dX9_follow_79 : decode cX9_follow 79 = .ok (.invokevirtual 168, 3) := by decide +kernel
theorem dX9_follow_82 : decode cX9_follow 82 = .ok (.istore 4, 2) := by decide +kernel
theorem dX9_follow_84 : decode cX9_follow 84 = .ok (.aload_n 0, 1) := by decide +kernel
theorem dX9_follow_85 : decode cX9_follow 85 = .ok (.aload_n 0, 1) := by decide +kernel
theorem dX9_follow_86 : decode cX9_follow 86 = .ok (.iload 4, 2) := by decide +kernel
theorem dX9_follow_88 : decode cX9_follow 88 = .ok (.invokevirtual 171, 3) := by decide +kernel
theorem dX9_follow_91 : decode cX9_follow 91 = .ok (.putfield 156, 3) := by decide +kernel
theorem dX9_follow_94 : decode cX9_follow 94 = .ok (.aload_n 0, 1) := by decide +kernel
theorem dX9_follow_95 : decode cX9_follow 95 = .ok (.getfield 46, 3) := by decide +kernel
theorem dX9_follow_98 : decode cX9_follow 98 = .ok (.aload_n 0, 1) := by decide +kernel
theorem dX9_follow_99 : decode cX9_follow 99 = .ok (.getfield 131, 3) := by decide +kernel
theorem dX9_follow_102 : decode cX9_follow 102 = .ok (.iconst 1, 1) := by decide +kernel
theorem dX9_follow_103 : decode cX9_follow 103 = .ok (.isub, 1) := by decide +kernel
theorem dX9_follow_104 : decode cX9_follow 104 = .ok (.aload_n 0, 1) := by decide +kernel
theorem dX9_follow_105 : decode cX9_follow 105 = .ok (.getfield 156, 3) := by decide +kernel
theorem dX9_follow_108 : decode cX9_follow 108 = .ok (.iconst 3, 1) := by decide +kernel
theorem dX9_follow_109 : decode cX9_follow 109 = .ok (.if_icmp .ne 8, 3) := by decide +kernel
theorem dX9_follow_112 : decode cX9_follow 112 = .ok (.bipush 6, 2) := by decide +kernel
theorem dX9_follow_114 : decode cX9_follow 114 = .ok (.goto 5, 3) := by decide +kernel
theorem dX9_follow_117 : decode cX9_follow 117 = .ok (.iload 4, 2) := by decide +kernel
theorem dX9_follow_119 : decode cX9_follow 119 = .ok (.iastore, 1) := by decide +kernel
theorem dX9_follow_120 : decode cX9_follow 120 = .ok (.aload_n 0, 1) := by decide +kernel
theorem dX9_follow_121 : decode cX9_follow 121 = .ok (.getfield 156, 3) := by decide +kernel
theorem dX9_follow_124 : decode cX9_follow 124 = .ok (.iconst (-1), 1) := by decide +kernel
theorem dX9_follow_125 : decode cX9_follow 125 = .ok (.if_icmp .ne 9, 3) := by decide +kernel
theorem dX9_follow_128 : decode cX9_follow 128 = .ok (.aload_n 0, 1) := by decide +kernel
theorem dX9_follow_129 : decode cX9_follow 129 = .ok (.iload 4, 2) := by decide +kernel
theorem dX9_follow_131 : decode cX9_follow 131 = .ok (.invokevirtual 174, 3) := by decide +kernel
theorem dX9_follow_134 : decode cX9_follow 134 = .ok (.goto (-68), 3) := by decide +kernel
theorem dX9_follow_137 : decode cX9_follow 137 = .ok (.return_, 1) := by decide +kernel
set_option maxRecDepth 20000 in
set_option maxRecDepth 100000 in
theorem ggX9_followShot_X9_ofShot : GoodIn wsX9_followShot wsX9_ofShot := goodIn_r _ [5, 6, 82, 83, 84, 85, 86, 87, 88, 89, 90, 91, 92, 93, 94, 95, 96, 97, 98, 99, 100, 101, 102, 103, 104, 105, 106, 107, 108, 109, 110, 111, 112, 113, 114, 115, 116, 117, 118, 119, 120, 121, 122] rfl (by decide +kernel)
set_option maxRecDepth 20000 in
theorem gX9_followShot_X9_ofShot : GoodIn wsX9_followShot (wsV RX9 178 RX9 yX9_ofShot wsX9_ofShot) := goodIn_app (goodIn_of _ (by decide +kernel)) ggX9_followShot_X9_ofShot
set_option maxRecDepth 20000 in
set_option maxRecDepth 100000 in
theorem ggX9_followShot_X9_follow : GoodIn wsX9_followShot wsX9_follow := goodIn_r _ [10, 11, 12, 13, 14, 15, 16, 17, 18, 19, 20, 21, 22, 4, 23, 24, 25, 26, 27, 6, 28, 29, 30, 31, 32, 33, 34, 35, 36, 37, 38, 39, 40, 41, 42, 43, 44, 45, 46, 47, 48, 49, 50, 51, 52, 53, 54, 55, 56, 57, 58, 59, 60, 61, 62, 63, 64, 65, 66, 67, 68, 69, 70, 71, 72, 73, 74, 75, 76, 77, 78, 79, 80, 81, 82, 83, 84, 85, 86, 87, 88, 89, 90, 91, 92, 93, 94, 95, 96, 97, 98, 99, 100, 101, 102, 103, 104, 105, 106, 107, 108, 109, 110, 111, 112, 113, 114, 115, 116, 117, 118, 119, 120, 121, 122] rfl (by decide +kernel)
set_option maxRecDepth 20000 in
theorem gX9_followShot_X9_follow : GoodIn wsX9_followShot (wsV RX9 181 RX9 yX9_follow wsX9_follow) := goodIn_app (goodIn_of _ (by decide +kernel)) ggX9_followShot_X9_follow
theorem dX9_followShot_0 : decode cX9_followShot 0 = .ok (.aload_n 0, 1) := by decide +kernel
theorem dX9_followShot_1 : decode cX9_followShot 1 = .ok (.aload_n 0, 1) := by decide +kernel
theorem dX9_followShot_2 : decode cX9_followShot 2 = .ok (.iload_n 1, 1) := by decide +kernel
theorem dX9_followShot_3 : decode cX9_followShot 3 = .ok (.iconst 0, 1) := by decide +kernel
theorem dX9_followShot_4 : decode cX9_followShot 4 = .ok (.invokevirtual 178, 3) := by decide +kernel
theorem dX9_followShot_7 : decode cX9_followShot 7 = .ok (.aload_n 0, 1) := by decide +kernel
theorem dX9_followShot_8 : decode cX9_followShot 8 = .ok (.iload_n 1, 1) := by decide +kernel
theorem dX9_followShot_9 : decode cX9_followShot 9 = .ok (.iconst 1, 1) := by decide +kernel
theorem dX9_followShot_10 : decode cX9_followShot 10 = .ok (.invokevirtual 178, 3) := by decide +kernel
theorem dX9_followShot_13 : decode cX9_followShot 13 = .ok (.iconst 1, 1) := by decide +kernel
theorem dX9_followShot_14 : decode cX9_followShot 14 = .ok (.if_icmp .ne 7, 3) := by decide +kernel
theorem dX9_followShot_17 : decode cX9_followShot 17 = .ok (.iconst 1, 1) := by decide +kernel
theorem dX9_followShot_18 : decode cX9_followShot 18 = .ok (.goto 4, 3) := by decide +kernel
theorem dX9_followShot_21 : decode cX9_followShot 21 = .ok (.iconst 0, 1) := by decide +kernel
theorem dX9_followShot_22 : decode cX9_followShot 22 = .ok (.aload_n 0, 1) := by decide +kernel
theorem dX9_followShot_23 : decode cX9_followShot 23 = .ok (.iload_n 1, 1) := by decide +kernel
theorem dX9_followShot_24 : decode cX9_followShot 24 = .ok (.iconst 2, 1) := by decide +kernel
theorem dX9_followShot_25 : decode cX9_followShot 25 = .ok (.invokevirtual 178, 3) := by decide +kernel
theorem dX9_followShot_28 : decode cX9_followShot 28 = .ok (.invokevirtual 181, 3) := by decide +kernel
theorem dX9_followShot_31 : decode cX9_followShot 31 = .ok (.return_, 1) := by decide +kernel
set_option maxRecDepth 20000 in
set_option maxRecDepth 100000 in
theorem ggX9_endOfShot_X9_followShot : GoodIn wsX9_endOfShot wsX9_followShot := goodIn_r _ [6, 7, 8, 9, 5, 10, 11, 12, 13, 14, 15, 16, 17, 18, 19, 1, 20, 21, 22, 23, 24, 25, 26, 27, 28, 29, 30, 31, 32, 33, 34, 35, 36, 37, 38, 39, 40, 41, 42, 43, 44, 45, 46, 47, 48, 49, 50, 51, 52, 53, 54, 55, 56, 57, 58, 59, 60, 61, 62, 63, 64, 65, 66, 67, 68, 69, 70, 71, 72, 73, 74, 75, 76, 77, 78, 79, 80, 81, 82, 83, 84, 85, 86, 87, 88, 89, 90, 91, 92, 93, 94, 95, 96, 97, 98, 99, 100, 101, 102, 103, 104, 105, 106, 107, 108, 109, 110, 111, 112, 113, 114, 115, 116, 117, 118, 119, 120, 121, 122, 123, 124, 125, 126] rfl (by decide +kernel)
set_option maxRecDepth 20000 in
theorem gX9_endOfShot_X9_followShot : GoodIn wsX9_endOfShot (wsV RX9 185 RX9 yX9_followShot wsX9_followShot) := goodIn_app (goodIn_of _ (by decide +kernel)) ggX9_endOfShot_X9_followShot
theorem dX9_endOfShot_0 : decode cX9_endOfShot 0 = .ok (.aload_n 0, 1) := by decide +kernel
theorem dX9_endOfShot_1 : decode cX9_endOfShot 1 = .ok (.iload_n 1, 1) := by decide +kernel
theorem dX9_endOfShot_2 : decode cX9_endOfShot 2 = .ok (.invokevirtual 185, 3) := by decide +kernel
theorem dX9_endOfShot_5 : decode cX9_endOfShot 5 = .ok (.aload_n 0, 1) := by decide +kernel
theorem dX9_endOfShot_6 : decode cX9_endOfShot 6 = .ok (.getfield 156, 3) := by decide +kernel
theorem dX9_endOfShot_9 : decode cX9_endOfShot 9 = .ok (.ireturn, 1) := by decide +kernel
theorem dX9_sumUp_0 : decode cX9_sumUp 0 = .ok (.iconst 0, 1) := by decide +kernel
theorem dX9_sumUp_1 : decode cX9_sumUp 1 = .ok (.istore_n 2, 1) := by decide +kernel
theorem dX9_sumUp_2 : decode cX9_sumUp 2 = .ok (.iconst 0, 1) := by decide +kernel
theorem dX9_sumUp_3 : decode cX9_sumUp 3 = .ok (.istore_n 3, 1) := by decide +kernel
theorem dX9_sumUp_4 : decode cX9_sumUp 4 = .ok (.iload_n 3, 1) := by decide +kernel
theorem dX9_sumUp_5 : decode cX9_sumUp 5 = .ok (.iload_n 1, 1) := by decide +kernel
theorem dX9_sumUp_6 : decode cX9_sumUp 6 = .ok (.if_icmp .ge 15, 3) := by decide +kernel
theorem dX9_sumUp_9 : decode cX9_sumUp 9 = .ok (.iload_n 2, 1) := by decide +kernel
theorem dX9_sumUp_10 : decode cX9_sumUp 10 = .ok (.aload_n 0, 1) := by decide +kernel
theorem dX9_sumUp_11 : decode cX9_sumUp 11 = .ok (.iload_n 3, 1) := by decide +kernel
theorem dX9_sumUp_12 : decode cX9_sumUp 12 = .ok (.iaload, 1) := by decide +kernel
theorem dX9_sumUp_13 : decode cX9_sumUp 13 = .ok (.iadd, 1) := by decide +kernel
theorem dX9_sumUp_14 : decode cX9_sumUp 14 = .ok (.istore_n 2, 1) := by decide +kernel
theorem dX9_sumUp_15 : decode cX9_sumUp 15 = .ok (.iinc 3 1, 3) := by decide +kernel
theorem dX9_sumUp_18 : decode cX9_sumUp 18 = .ok (.goto (-14), 3) := by decide +kernel
theorem dX9_sumUp_21 : decode cX9_sumUp 21 = .ok (.iload_n 2, 1) := by decide +kernel
theorem dX9_sumUp_22 : decode cX9_sumUp 22 = .ok (.ireturn, 1) := by decide +kernel
theorem dX9_happened_0 : decode cX9_happened 0 = .ok (.iconst 0, 1) := by decide +kernel
theorem dX9_happened_1 : decode cX9_happened 1 = .ok (.istore_n 2, 1) := by decide +kernel
theorem dX9_happened_2 : decode cX9_happened 2 = .ok (.iconst 0, 1) := by decide +kernel
theorem dX9_happened_3 : decode cX9_happened 3 = .ok (.istore_n 3, 1) := by decide +kernel
theorem dX9_happened_4 : decode cX9_happened 4 = .ok (.iload_n 3, 1) := by decide +kernel
theorem dX9_happened_5 : decode cX9_happened 5 = .ok (.aload_n 0, 1) := by decide +kernel
theorem dX9_happened_6 : decode cX9_happened 6 = .ok (.getfield 131, 3) := by decide +kernel
theorem dX9_happened_9 : decode cX9_happened 9 = .ok (.if_icmp .ge 27, 3) := by decide +kernel
theorem dX9_happened_12 : decode cX9_happened 12 = .ok (.iload_n 2, 1) := by decide +kernel
theorem dX9_happened_13 : decode cX9_happened 13 = .ok (.aload_n 0, 1) := by decide +kernel
theorem dX9_happened_14 : decode cX9_happened 14 = .ok (.getfield 46, 3) := by decide +kernel
theorem dX9_happened_17 : decode cX9_happened 17 = .ok (.iload_n 3, 1) := by decide +kernel
theorem dX9_happened_18 : decode cX9_happened 18 = .ok (.iaload, 1) := by decide +kernel
theorem dX9_happened_19 : decode cX9_happened 19 = .ok (.iload_n 1, 1) := by decide +kernel
theorem dX9_happened_20 : decode cX9_happened 20 = .ok (.if_icmp .ne 7, 3) := by decide +kernel
theorem dX9_happened_23 : decode cX9_happened 23 = .ok (.iconst 1, 1) := by decide +kernel
theorem dX9_happened_24 : decode cX9_happened 24 = .ok (.goto 4, 3) := by decide +kernel
theorem dX9_happened_27 : decode cX9_happened 27 = .ok (.iconst 0, 1) := by decide +kernel
theorem dX9_happened_28 : decode cX9_happened 28 = .ok (.iadd, 1) := by decide +kernel
theorem dX9_happened_29 : decode cX9_happened 29 = .ok (.istore_n 2, 1) := by decide +kernel
theorem dX9_happened_30 : decode cX9_happened 30 = .ok (.iinc 3 1, 3) := by decide +kernel
theorem dX9_happened_33 : decode cX9_happened 33 = .ok (.goto (-29), 3) := by decide +kernel
theorem dX9_happened_36 : decode cX9_happened 36 = .ok (.iload_n 2, 1) := by decide +kernel
theorem dX9_happened_37 : decode cX9_happened 37 = .ok (.ireturn, 1) := by decide +kernel
theorem dX9_deepest_0 : decode cX9_deepest 0 = .ok (.iconst (-1), 1) := by decide +kernel
theorem dX9_deepest_1 : decode cX9_deepest 1 = .ok (.istore_n 1, 1) := by decide +kernel
theorem dX9_deepest_2 : decode cX9_deepest 2 = .ok (.iconst 0, 1) := by decide +kernel
theorem dX9_deepest_3 : decode cX9_deepest 3 = .ok (.istore_n 2, 1) := by decide +kernel
theorem dX9_deepest_4 : decode cX9_deepest 4 = .ok (.iload_n 2, 1) := by decide +kernel
theorem dX9_deepest_5 : decode cX9_deepest 5 = .ok (.aload_n 0, 1) := by decide +kernel
theorem dX9_deepest_6 : decode cX9_deepest 6 = .ok (.getfield 131, 3) := by decide +kernel
theorem dX9_deepest_9 : decode cX9_deepest 9 = .ok (.if_icmp .ge 20, 3) := by decide +kernel
theorem dX9_deepest_12 : decode cX9_deepest 12 = .ok (.iload_n 1, 1) := by decide +kernel
theorem dX9_deepest_13 : decode cX9_deepest 13 = .ok (.aload_n 0, 1) := by decide +kernel
theorem dX9_deepest_14 : decode cX9_deepest 14 = .ok (.getfield 27, 3) := by decide +kernel
theorem dX9_deepest_17 : decode cX9_deepest 17 = .ok (.iload_n 2, 1) := by decide +kernel
theorem dX9_deepest_18 : decode cX9_deepest 18 = .ok (.iaload, 1) := by decide +kernel
theorem dX9_deepest_19 : decode cX9_deepest 19 = .ok (.invokestatic 188, 3) := by decide +kernel
theorem dX9_deepest_22 : decode cX9_deepest 22 = .ok (.istore_n 1, 1) := by decide +kernel
theorem dX9_deepest_23 : decode cX9_deepest 23 = .ok (.iinc 2 1, 3) := by decide +kernel
theorem dX9_deepest_26 : decode cX9_deepest 26 = .ok (.goto (-22), 3) := by decide +kernel
theorem dX9_deepest_29 : decode cX9_deepest 29 = .ok (.iload_n 1, 1) := by decide +kernel
theorem dX9_deepest_30 : decode cX9_deepest 30 = .ok (.ireturn, 1) := by decide +kernel
theorem dX9_legNow_0 : decode cX9_legNow 0 = .ok (.iconst 0, 1) := by decide +kernel
theorem dX9_legNow_1 : decode cX9_legNow 1 = .ok (.istore_n 2, 1) := by decide +kernel
theorem dX9_legNow_2 : decode cX9_legNow 2 = .ok (.iconst 0, 1) := by decide +kernel
theorem dX9_legNow_3 : decode cX9_legNow 3 = .ok (.istore_n 3, 1) := by decide +kernel
theorem dX9_legNow_4 : decode cX9_legNow 4 = .ok (.iload_n 3, 1) := by decide +kernel
theorem dX9_legNow_5 : decode cX9_legNow 5 = .ok (.aload_n 0, 1) := by decide +kernel
theorem dX9_legNow_6 : decode cX9_legNow 6 = .ok (.getfield 131, 3) := by decide +kernel
theorem dX9_legNow_9 : decode cX9_legNow 9 = .ok (.if_icmp .ge 25, 3) := by decide +kernel
theorem dX9_legNow_12 : decode cX9_legNow 12 = .ok (.iload_n 2, 1) := by decide +kernel
theorem dX9_legNow_13 : decode cX9_legNow 13 = .ok (.aload_n 0, 1) := by decide +kernel
theorem dX9_legNow_14 : decode cX9_legNow 14 = .ok (.getfield 40, 3) := by decide +kernel
theorem dX9_legNow_17 : decode cX9_legNow 17 = .ok (.iload_n 3, 1) := by decide +kernel
theorem dX9_legNow_18 : decode cX9_legNow 18 = .ok (.iaload, 1) := by decide +kernel
theorem dX9_legNow_19 : decode cX9_legNow 19 = .ok (.iadd, 1) := by decide +kernel
theorem dX9_legNow_20 : decode cX9_legNow 20 = .ok (.istore_n 2, 1) := by decide +kernel
theorem dX9_legNow_21 : decode cX9_legNow 21 = .ok (.iload_n 2, 1) := by decide +kernel
theorem dX9_legNow_22 : decode cX9_legNow 22 = .ok (.iload_n 1, 1) := by decide +kernel
theorem dX9_legNow_23 : decode cX9_legNow 23 = .ok (.if_icmp .le 5, 3) := by decide +kernel
theorem dX9_legNow_26 : decode cX9_legNow 26 = .ok (.iload_n 3, 1) := by decide +kernel
theorem dX9_legNow_27 : decode cX9_legNow 27 = .ok (.ireturn, 1) := by decide +kernel
theorem dX9_legNow_28 : decode cX9_legNow 28 = .ok (.iinc 3 1, 3) := by decide +kernel
theorem dX9_legNow_31 : decode cX9_legNow 31 = .ok (.goto (-27), 3) := by decide +kernel
theorem dX9_legNow_34 : decode cX9_legNow 34 = .ok (.iconst (-1), 1) := by decide +kernel
theorem dX9_legNow_35 : decode cX9_legNow 35 = .ok (.ireturn, 1) := by decide +kernel
theorem dX9_appendFour_0 : decode cX9_appendFour 0 = .ok (.bipush 24, 2) := by decide +kernel
theorem dX9_appendFour_2 : decode cX9_appendFour 2 = .ok (.istore_n 2, 1) := by decide +kernel
theorem dX9_appendFour_3 : decode cX9_appendFour 3 = .ok (.iload_n 2, 1) := by decide +kernel
theorem dX9_appendFour_4 : decode cX9_appendFour 4 = .ok (.ifCond .lt 32, 3) := by decide +kernel
theorem dX9_appendFour_7 : decode cX9_appendFour 7 = .ok (.aload_n 0, 1) := by decide +kernel
theorem dX9_appendFour_8 : decode cX9_appendFour 8 = .ok (.getfield 49, 3) := by decide +kernel
theorem dX9_appendFour_11 : decode cX9_appendFour 11 = .ok (.aload_n 0, 1) := by decide +kernel
theorem dX9_appendFour_12 : decode cX9_appendFour 12 = .ok (.getfield 190, 3) := by decide +kernel
theorem dX9_appendFour_15 : decode cX9_appendFour 15 = .ok (.iload_n 1, 1) := by decide +kernel
theorem dX9_appendFour_16 : decode cX9_appendFour 16 = .ok (.iload_n 2, 1) := by decide +kernel
theorem dX9_appendFour_17 : decode cX9_appendFour 17 = .ok (.ishr, 1) := by decide +kernel
theorem dX9_appendFour_18 : decode cX9_appendFour 18 = .ok (.i2b, 1) := by decide +kernel
theorem dX9_appendFour_19 : decode cX9_appendFour 19 = .ok (.bastore, 1) := by decide +kernel
theorem dX9_appendFour_20 : decode cX9_appendFour 20 = .ok (.aload_n 0, 1) := by decide +kernel
theorem dX9_appendFour_21 : decode cX9_appendFour 21 = .ok (.dup, 1) := by decide +kernel
theorem dX9_appendFour_22 : decode cX9_appendFour 22 = .ok (.getfield 190, 3) := by decide +kernel
theorem dX9_appendFour_25 : decode cX9_appendFour 25 = .ok (.iconst 1, 1) := by decide +kernel
theorem dX9_appendFour_26 : decode cX9_appendFour 26 = .ok (.iadd, 1) := by decide +kernel
theorem dX9_appendFour_27 : decode cX9_appendFour 27 = .ok (.putfield 190, 3) := by decide +kernel
theorem dX9_appendFour_30 : decode cX9_appendFour 30 = .ok (.iinc 2 (-8), 3) := by decide +kernel
theorem dX9_appendFour_33 : decode cX9_appendFour 33 = .ok (.goto (-30), 3) := by decide +kernel
theorem dX9_appendFour_36 : decode cX9_appendFour 36 = .ok (.return_, 1) := by decide +kernel
set_option maxRecDepth 20000 in
set_option maxRecDepth 100000 in
theorem ggX9_append_X9_passes : GoodIn wsX9_append wsX9_passes := goodIn_r _ [6, 7, 8, 9, 5, 10, 11, 17, 18, 19, 20, 21, 22, 23, 24, 25, 26, 27, 28, 29, 30, 31, 32, 33, 34, 35, 36, 37, 38, 39, 40, 41, 42, 43, 44, 45, 46, 47, 48, 49, 50, 51, 52, 53, 54, 55, 56, 57] rfl (by decide +kernel)
set_option maxRecDepth 20000 in
theorem gX9_append_X9_passes : GoodIn wsX9_append (wsV RX9 193 RX9 yX9_passes wsX9_passes) := goodIn_app (goodIn_of _ (by decide +kernel)) ggX9_append_X9_passes
set_option maxRecDepth 20000 in
set_option maxRecDepth 100000 in
theorem ggX9_append_X9_appendFour : GoodIn wsX9_append wsX9_appendFour := goodIn_r _ [15, 16, 1, 17, 18, 19, 20, 21, 22, 23, 24, 25, 26, 27, 28, 29, 30, 31, 32, 33, 34, 35, 36, 37, 38, 39, 40, 41, 42, 43, 44, 45, 46, 47, 48, 49, 50, 51, 52, 53, 54, 55, 56, 57] rfl (by decide +kernel)
set_option maxRecDepth 20000 in
theorem gX9_append_X9_appendFour : GoodIn wsX9_append (wsV RX9 197 RX9 yX9_appendFour wsX9_appendFour) := goodIn_app (goodIn_of _ (by decide +kernel)) ggX9_append_X9_appendFour
theorem dX9_append_0 : decode cX9_append 0 = .ok (.aload_n 0, 1) := by decide +kernel
theorem dX9_append_1 : decode cX9_append 1 = .ok (.aload_n 0, 1) := by decide +kernel
theorem dX9_append_2 : decode cX9_append 2 = .ok (.getfield 190, 3) := by decide +kernel
theorem dX9_append_5 : decode cX9_append 5 = .ok (.bipush 20, 2) := by decide +kernel
theorem dX9_append_7 : decode cX9_append 7 = .ok (.iadd, 1) := by decide +kernel
theorem dX9_append_8 : decode cX9_append 8 = .ok (.sipush 400, 3) := by decide +kernel
theorem dX9_append_11 : decode cX9_append 11 = .ok (.if_icmp .gt 7, 3) := by decide +kernel
theorem dX9_append_14 : decode cX9_append 14 = .ok (.iconst 1, 1) := by decide +kernel
theorem dX9_append_15 : decode cX9_append 15 = .ok (.goto 4, 3) := by decide +kernel
theorem dX9_append_18 : decode cX9_append 18 = .ok (.iconst 0, 1) := by decide +kernel
theorem dX9_append_19 : decode cX9_append 19 = .ok (.invokevirtual 193, 3) := by decide +kernel
theorem dX9_append_22 : decode cX9_append 22 = .ok (.ifCond .ne 5, 3) := by decide +kernel
theorem dX9_append_25 : decode cX9_append 25 = .ok (.iconst 0, 1) := by decide +kernel
theorem dX9_append_26 : decode cX9_append 26 = .ok (.ireturn, 1) := by decide +kernel
theorem dX9_append_27 : decode cX9_append 27 = .ok (.aload_n 0, 1) := by decide +kernel
theorem dX9_append_28 : decode cX9_append 28 = .ok (.iload_n 1, 1) := by decide +kernel
theorem dX9_append_29 : decode cX9_append 29 = .ok (.invokevirtual 197, 3) := by decide +kernel
theorem dX9_append_32 : decode cX9_append 32 = .ok (.aload_n 0, 1) := by decide +kernel
theorem dX9_append_33 : decode cX9_append 33 = .ok (.iload_n 2, 1) := by decide +kernel
