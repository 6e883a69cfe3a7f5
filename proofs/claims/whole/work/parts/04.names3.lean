theorem dX9_layPlain_2 : decode cX9_layPlain 2 = .ok (.iload_n 1, 1) := by decide +kernel
theorem dX9_layPlain_3 : decode cX9_layPlain 3 = .ok (.bipush 95, 2) := by decide +kernel
theorem dX9_layPlain_5 : decode cX9_layPlain 5 = .ok (.if_icmp .ge 16, 3) := by decide +kernel
theorem dX9_layPlain_8 : decode cX9_layPlain 8 = .ok (.aload_n 0, 1) := by decide +kernel
theorem dX9_layPlain_9 : decode cX9_layPlain 9 = .ok (.getfield 24, 3) := by decide +kernel
theorem dX9_layPlain_12 : decode cX9_layPlain 12 = .ok (.iload_n 1, 1) := by decide +kernel
theorem dX9_layPlain_13 : decode cX9_layPlain 13 = .ok (.iconst 0, 1) := by decide +kernel
theorem dX9_layPlain_14 : decode cX9_layPlain 14 = .ok (.iastore, 1) := by decide +kernel
theorem dX9_layPlain_15 : decode cX9_layPlain 15 = .ok (.iinc 1 1, 3) := by decide +kernel
theorem dX9_layPlain_18 : decode cX9_layPlain 18 = .ok (.goto (-16), 3) := by decide +kernel
theorem dX9_layPlain_21 : decode cX9_layPlain 21 = .ok (.aload_n 0, 1) := by decide +kernel
theorem dX9_layPlain_22 : decode cX9_layPlain 22 = .ok (.getfield 24, 3) := by decide +kernel
theorem dX9_layPlain_25 : decode cX9_layPlain 25 = .ok (.iconst 1, 1) := by decide +kernel
theorem dX9_layPlain_26 : decode cX9_layPlain 26 = .ok (.sipush 1000, 3) := by decide +kernel
theorem dX9_layPlain_29 : decode cX9_layPlain 29 = .ok (.iastore, 1) := by decide +kernel
theorem dX9_layPlain_30 : decode cX9_layPlain 30 = .ok (.aload_n 0, 1) := by decide +kernel
theorem dX9_layPlain_31 : decode cX9_layPlain 31 = .ok (.getfield 24, 3) := by decide +kernel
theorem dX9_layPlain_34 : decode cX9_layPlain 34 = .ok (.iconst 3, 1) := by decide +kernel
theorem dX9_layPlain_35 : decode cX9_layPlain 35 = .ok (.sipush 1000, 3) := by decide +kernel
theorem dX9_layPlain_38 : decode cX9_layPlain 38 = .ok (.iastore, 1) := by decide +kernel
theorem dX9_layPlain_39 : decode cX9_layPlain 39 = .ok (.return_, 1) := by decide +kernel
theorem dX9_layers_0 : decode cX9_layers 0 = .ok (.aload_n 0, 1) := by decide +kernel
theorem dX9_layers_1 : decode cX9_layers 1 = .ok (.getfield 24, 3) := by decide +kernel
theorem dX9_layers_4 : decode cX9_layers 4 = .ok (.iconst 0, 1) := by decide +kernel
theorem dX9_layers_5 : decode cX9_layers 5 = .ok (.iaload, 1) := by decide +kernel
theorem dX9_layers_6 : decode cX9_layers 6 = .ok (.ireturn, 1) := by decide +kernel
theorem dX9_shots_0 : decode cX9_shots 0 = .ok (.aload_n 0, 1) := by decide +kernel
theorem dX9_shots_1 : decode cX9_shots 1 = .ok (.getfield 24, 3) := by decide +kernel
theorem dX9_shots_4 : decode cX9_shots 4 = .ok (.iconst 4, 1) := by decide +kernel
theorem dX9_shots_5 : decode cX9_shots 5 = .ok (.iaload, 1) := by decide +kernel
theorem dX9_shots_6 : decode cX9_shots 6 = .ok (.ireturn, 1) := by decide +kernel
theorem dX9_ofLayer_0 : decode cX9_ofLayer 0 = .ok (.aload_n 0, 1) := by decide +kernel
theorem dX9_ofLayer_1 : decode cX9_ofLayer 1 = .ok (.getfield 24, 3) := by decide +kernel
theorem dX9_ofLayer_4 : decode cX9_ofLayer 4 = .ok (.iconst 5, 1) := by decide +kernel
theorem dX9_ofLayer_5 : decode cX9_ofLayer 5 = .ok (.iconst 3, 1) := by decide +kernel
theorem dX9_ofLayer_6 : decode cX9_ofLayer 6 = .ok (.iload_n 1, 1) := by decide +kernel
theorem dX9_ofLayer_7 : decode cX9_ofLayer 7 = .ok (.imul, 1) := by decide +kernel
theorem dX9_ofLayer_8 : decode cX9_ofLayer 8 = .ok (.iadd, 1) := by decide +kernel
theorem dX9_ofLayer_9 : decode cX9_ofLayer 9 = .ok (.iload_n 2, 1) := by decide +kernel
theorem dX9_ofLayer_10 : decode cX9_ofLayer 10 = .ok (.iadd, 1) := by decide +kernel
theorem dX9_ofLayer_11 : decode cX9_ofLayer 11 = .ok (.iaload, 1) := by decide +kernel
theorem dX9_ofLayer_12 : decode cX9_ofLayer 12 = .ok (.ireturn, 1) := by decide +kernel
theorem dX9_ofShot_0 : decode cX9_ofShot 0 = .ok (.aload_n 0, 1) := by decide +kernel
theorem dX9_ofShot_1 : decode cX9_ofShot 1 = .ok (.getfield 24, 3) := by decide +kernel
theorem dX9_ofShot_4 : decode cX9_ofShot 4 = .ok (.bipush 35, 2) := by decide +kernel
theorem dX9_ofShot_6 : decode cX9_ofShot 6 = .ok (.iconst 3, 1) := by decide +kernel
theorem dX9_ofShot_7 : decode cX9_ofShot 7 = .ok (.iload_n 1, 1) := by decide +kernel
theorem dX9_ofShot_8 : decode cX9_ofShot 8 = .ok (.imul, 1) := by decide +kernel
theorem dX9_ofShot_9 : decode cX9_ofShot 9 = .ok (.iadd, 1) := by decide +kernel
theorem dX9_ofShot_10 : decode cX9_ofShot 10 = .ok (.iload_n 2, 1) := by decide +kernel
theorem dX9_ofShot_11 : decode cX9_ofShot 11 = .ok (.iadd, 1) := by decide +kernel
theorem dX9_ofShot_12 : decode cX9_ofShot 12 = .ok (.iaload, 1) := by decide +kernel
theorem dX9_ofShot_13 : decode cX9_ofShot 13 = .ok (.ireturn, 1) := by decide +kernel
set_option maxRecDepth 20000 in
theorem ggX9_isLayer_X9_layers : GoodIn wsX9_isLayer wsX9_layers := goodIn_r _ [5, 6, 10, 11, 12, 13, 14, 15, 16, 17, 18, 19, 20, 21, 22, 23, 24, 25, 26, 27, 28, 29, 30, 31, 32, 33, 34, 35, 36, 37, 38, 39, 40, 41, 42, 43, 44, 45, 46, 47, 48, 49, 50] (by decide +kernel) (by decide +kernel)
set_option maxRecDepth 20000 in
theorem gX9_isLayer_X9_layers : GoodIn wsX9_isLayer (wsV RX9 90 RX9 yX9_layers wsX9_layers) := goodIn_app (goodIn_of _ (by decide +kernel)) ggX9_isLayer_X9_layers
set_option maxRecDepth 20000 in
theorem ggX9_isLayer_X9_in : GoodIn wsX9_isLayer wsX9_in := goodIn_r _ [9] (by decide +kernel) (by decide +kernel)
set_option maxRecDepth 20000 in
theorem gX9_isLayer_X9_in : GoodIn wsX9_isLayer (va_wsS RX9 94 yX9_in wsX9_in) := goodIn_app (goodIn_of _ (by decide +kernel)) ggX9_isLayer_X9_in
theorem dX9_isLayer_0 : decode cX9_isLayer 0 = .ok (.iload_n 1, 1) := by decide +kernel
theorem dX9_isLayer_1 : decode cX9_isLayer 1 = .ok (.i2l, 1) := by decide +kernel
theorem dX9_isLayer_2 : decode cX9_isLayer 2 = .ok (.lconst 0, 1) := by decide +kernel
theorem dX9_isLayer_3 : decode cX9_isLayer 3 = .ok (.aload_n 0, 1) := by decide +kernel
theorem dX9_isLayer_4 : decode cX9_isLayer 4 = .ok (.invokevirtual 90, 3) := by decide +kernel
theorem dX9_isLayer_7 : decode cX9_isLayer 7 = .ok (.iconst 1, 1) := by decide +kernel
theorem dX9_isLayer_8 : decode cX9_isLayer 8 = .ok (.isub, 1) := by decide +kernel
theorem dX9_isLayer_9 : decode cX9_isLayer 9 = .ok (.i2l, 1) := by decide +kernel
theorem dX9_isLayer_10 : decode cX9_isLayer 10 = .ok (.invokestatic 94, 3) := by decide +kernel
theorem dX9_isLayer_13 : decode cX9_isLayer 13 = .ok (.ireturn, 1) := by decide +kernel
set_option maxRecDepth 20000 in
theorem ggX9_isShot_X9_shots : GoodIn wsX9_isShot wsX9_shots := goodIn_r _ [5, 6, 10, 11, 12, 13, 14, 15, 16, 17, 18, 19, 20, 21, 22, 23, 24, 25, 26, 27, 28, 29, 30, 31, 32, 33, 34, 35, 36, 37, 38, 39, 40, 41, 42, 43, 44, 45, 46, 47, 48, 49, 50] (by decide +kernel) (by decide +kernel)
set_option maxRecDepth 20000 in
theorem gX9_isShot_X9_shots : GoodIn wsX9_isShot (wsV RX9 98 RX9 yX9_shots wsX9_shots) := goodIn_app (goodIn_of _ (by decide +kernel)) ggX9_isShot_X9_shots
set_option maxRecDepth 20000 in
theorem ggX9_isShot_X9_in : GoodIn wsX9_isShot wsX9_in := goodIn_r _ [9] (by decide +kernel) (by decide +kernel)
set_option maxRecDepth 20000 in
theorem gX9_isShot_X9_in : GoodIn wsX9_isShot (va_wsS RX9 94 yX9_in wsX9_in) := goodIn_app (goodIn_of _ (by decide +kernel)) ggX9_isShot_X9_in
theorem dX9_isShot_0 : decode cX9_isShot 0 = .ok (.iload_n 1, 1) := by decide +kernel
theorem dX9_isShot_1 : decode cX9_isShot 1 = .ok (.i2l, 1) := by decide +kernel
theorem dX9_isShot_2 : decode cX9_isShot 2 = .ok (.lconst 0, 1) := by decide +kernel
theorem dX9_isShot_3 : decode cX9_isShot 3 = .ok (.aload_n 0, 1) := by decide +kernel
theorem dX9_isShot_4 : decode cX9_isShot 4 = .ok (.invokevirtual 98, 3) := by decide +kernel
theorem dX9_isShot_7 : decode cX9_isShot 7 = .ok (.iconst 1, 1) := by decide +kernel
theorem dX9_isShot_8 : decode cX9_isShot 8 = .ok (.isub, 1) := by decide +kernel
theorem dX9_isShot_9 : decode cX9_isShot 9 = .ok (.i2l, 1) := by decide +kernel
theorem dX9_isShot_10 : decode cX9_isShot 10 = .ok (.invokestatic 94, 3) := by decide +kernel
theorem dX9_isShot_13 : decode cX9_isShot 13 = .ok (.ireturn, 1) := by decide +kernel
theorem dX9_copyLayer_0 : decode cX9_copyLayer 0 = .ok (.iconst 0, 1) := by decide +kernel
theorem dX9_copyLayer_1 : decode cX9_copyLayer 1 = .ok (.istore_n 3, 1) := by decide +kernel
theorem dX9_copyLayer_2 : decode cX9_copyLayer 2 = .ok (.iload_n 3, 1) := by decide +kernel
theorem dX9_copyLayer_3 : decode cX9_copyLayer 3 = .ok (.iconst 3, 1) := by decide +kernel
theorem dX9_copyLayer_4 : decode cX9_copyLayer 4 = .ok (.if_icmp .ge 33, 3) := by decide +kernel
theorem dX9_copyLayer_7 : decode cX9_copyLayer 7 = .ok (.aload_n 0, 1) := by decide +kernel
theorem dX9_copyLayer_8 : decode cX9_copyLayer 8 = .ok (.getfield 24, 3) := by decide +kernel
theorem dX9_copyLayer_11 : decode cX9_copyLayer 11 = .ok (.iconst 5, 1) := by decide +kernel
theorem dX9_copyLayer_12 : decode cX9_copyLayer 12 = .ok (.iconst 3, 1) := by decide +kernel
theorem dX9_copyLayer_13 : decode cX9_copyLayer 13 = .ok (.iload_n 2, 1) := by decide +kernel
theorem dX9_copyLayer_14 : decode cX9_copyLayer 14 = .ok (.imul, 1) := by decide +kernel
theorem dX9_copyLayer_15 : decode cX9_copyLayer 15 = .ok (.iadd, 1) := by decide +kernel
theorem dX9_copyLayer_16 : decode cX9_copyLayer 16 = .ok (.iload_n 3, 1) := by decide +kernel
theorem dX9_copyLayer_17 : decode cX9_copyLayer 17 = .ok (.iadd, 1) := by decide +kernel
theorem dX9_copyLayer_18 : decode cX9_copyLayer 18 = .ok (.aload_n 0, 1) := by decide +kernel
theorem dX9_copyLayer_19 : decode cX9_copyLayer 19 = .ok (.getfield 24, 3) := by decide +kernel
theorem dX9_copyLayer_22 : decode cX9_copyLayer 22 = .ok (.iconst 5, 1) := by decide +kernel
theorem dX9_copyLayer_23 : decode cX9_copyLayer 23 = .ok (.iconst 3, 1) := by decide +kernel
theorem dX9_copyLayer_24 : decode cX9_copyLayer 24 = .ok (.iload_n 1, 1) := by decide +kernel
theorem dX9_copyLayer_25 : decode cX9_copyLayer 25 = .ok (.imul, 1) := by decide +kernel
theorem dX9_copyLayer_26 : decode cX9_copyLayer 26 = .ok (.iadd, 1) := by decide +kernel
theorem dX9_copyLayer_27 : decode cX9_copyLayer 27 = .ok (.iload_n 3, 1) := by decide +kernel
theorem dX9_copyLayer_28 : decode cX9_copyLayer 28 = .ok (.iadd, 1) := by decide +kernel
theorem dX9_copyLayer_29 : decode cX9_copyLayer 29 = .ok (.iaload, 1) := by decide +kernel
theorem dX9_copyLayer_30 : decode cX9_copyLayer 30 = .ok (.iastore, 1) := by decide +kernel
theorem dX9_copyLayer_31 : decode cX9_copyLayer 31 = .ok (.iinc 3 1, 3) := by decide +kernel
theorem dX9_copyLayer_34 : decode cX9_copyLayer 34 = .ok (.goto (-32), 3) := by decide +kernel
theorem dX9_copyLayer_37 : decode cX9_copyLayer 37 = .ok (.return_, 1) := by decide +kernel
set_option maxRecDepth 20000 in
theorem ggX9_addOne_X9_layers : GoodIn wsX9_addOne wsX9_layers := goodIn_r _ [6, 1, 11, 12, 13, 14, 15, 16, 17, 18, 19, 20, 21, 22, 23, 24, 25, 26, 27, 28, 29, 30, 31, 32, 33, 34, 35, 36, 37, 38, 39, 40, 41, 42, 43, 44, 45, 46, 47, 48, 49, 50, 51] (by decide +kernel) (by decide +kernel)
set_option maxRecDepth 20000 in
theorem gX9_addOne_X9_layers : GoodIn wsX9_addOne (wsV RX9 90 RX9 yX9_layers wsX9_layers) := goodIn_app (goodIn_of _ (by decide +kernel)) ggX9_addOne_X9_layers
set_option maxRecDepth 20000 in
theorem ggX9_addOne_X9_copyLayer : GoodIn wsX9_addOne wsX9_copyLayer := goodIn_r _ [10, 1, 11, 12, 13, 14, 15, 16, 17, 18, 19, 20, 21, 22, 23, 24, 25, 26, 27, 28, 29, 30, 31, 32, 33, 34, 35, 36, 37, 38, 39, 40, 41, 42, 43, 44, 45, 46, 47, 48, 49, 50, 51] (by decide +kernel) (by decide +kernel)
set_option maxRecDepth 20000 in
theorem gX9_addOne_X9_copyLayer : GoodIn wsX9_addOne (wsV RX9 101 RX9 yX9_copyLayer wsX9_copyLayer) := goodIn_app (goodIn_of _ (by decide +kernel)) ggX9_addOne_X9_copyLayer
theorem dX9_addOne_0 : decode cX9_addOne 0 = .ok (.aload_n 0, 1) := by decide +kernel
theorem dX9_addOne_1 : decode cX9_addOne 1 = .ok (.invokevirtual 90, 3) := by decide +kernel
theorem dX9_addOne_4 : decode cX9_addOne 4 = .ok (.istore 5, 2) := by decide +kernel
theorem dX9_addOne_6 : decode cX9_addOne 6 = .ok (.iload 5, 2) := by decide +kernel
theorem dX9_addOne_8 : decode cX9_addOne 8 = .ok (.iload_n 1, 1) := by decide +kernel
theorem dX9_addOne_9 : decode cX9_addOne 9 = .ok (.if_icmp .le 19, 3) := by decide +kernel
theorem dX9_addOne_12 : decode cX9_addOne 12 = .ok (.aload_n 0, 1) := by decide +kernel
theorem dX9_addOne_13 : decode cX9_addOne 13 = .ok (.iload 5, 2) := by decide +kernel
theorem dX9_addOne_15 : decode cX9_addOne 15 = .ok (.iconst 1, 1) := by decide +kernel
theorem dX9_addOne_16 : decode cX9_addOne 16 = .ok (.isub, 1) := by decide +kernel
theorem dX9_addOne_17 : decode cX9_addOne 17 = .ok (.iload 5, 2) := by decide +kernel
theorem dX9_addOne_19 : decode cX9_addOne 19 = .ok (.invokevirtual 101, 3) := by decide +kernel
theorem dX9_addOne_22 : decode cX9_addOne 22 = .ok (.iinc 5 (-1), 3) := by decide +kernel
theorem dX9_addOne_25 : decode cX9_addOne 25 = .ok (.goto (-19), 3) := by decide +kernel
theorem dX9_addOne_28 : decode cX9_addOne 28 = .ok (.aload_n 0, 1) := by decide +kernel
theorem dX9_addOne_29 : decode cX9_addOne 29 = .ok (.getfield 24, 3) := by decide +kernel
theorem dX9_addOne_32 : decode cX9_addOne 32 = .ok (.iconst 0, 1) := by decide +kernel
theorem dX9_addOne_33 : decode cX9_addOne 33 = .ok (.dup2, 1) := by decide +kernel
theorem dX9_addOne_34 : decode cX9_addOne 34 = .ok (.iaload, 1) := by decide +kernel
theorem dX9_addOne_35 : decode cX9_addOne 35 = .ok (.iconst 1, 1) := by decide +kernel
theorem dX9_addOne_36 : decode cX9_addOne 36 = .ok (.iadd, 1) := by decide +kernel
theorem dX9_addOne_37 : decode cX9_addOne 37 = .ok (.iastore, 1) := by decide +kernel
theorem dX9_addOne_38 : decode cX9_addOne 38 = .ok (.aload_n 0, 1) := by decide +kernel
theorem dX9_addOne_39 : decode cX9_addOne 39 = .ok (.getfield 24, 3) := by decide +kernel
theorem dX9_addOne_42 : decode cX9_addOne 42 = .ok (.iconst 5, 1) := by decide +kernel
theorem dX9_addOne_43 : decode cX9_addOne 43 = .ok (.iconst 3, 1) := by decide +kernel
theorem dX9_addOne_44 : decode cX9_addOne 44 = .ok (.iload_n 1, 1) := by decide +kernel
theorem dX9_addOne_45 : decode cX9_addOne 45 = .ok (.imul, 1) := by decide +kernel
theorem dX9_addOne_46 : decode cX9_addOne 46 = .ok (.iadd, 1) := by decide +kernel
theorem dX9_addOne_47 : decode cX9_addOne 47 = .ok (.iconst 0, 1) := by decide +kernel
theorem dX9_addOne_48 : decode cX9_addOne 48 = .ok (.iadd, 1) := by decide +kernel
theorem dX9_addOne_49 : decode cX9_addOne 49 = .ok (.iload_n 2, 1) := by decide +kernel
theorem dX9_addOne_50 : decode cX9_addOne 50 = .ok (.iastore, 1) := by decide +kernel
theorem dX9_addOne_51 : decode cX9_addOne 51 = .ok (.aload_n 0, 1) := by decide +kernel
theorem dX9_addOne_52 : decode cX9_addOne 52 = .ok (.getfield 24, 3) := by decide +kernel
theorem dX9_addOne_55 : decode cX9_addOne 55 = .ok (.iconst 5, 1) := by decide +kernel
theorem dX9_addOne_56 : decode cX9_addOne 56 = .ok (.iconst 3, 1) := by decide +kernel
theorem dX9_addOne_57 : decode cX9_addOne 57 = .ok (.iload_n 1, 1) := by decide +kernel
theorem dX9_addOne_58 : decode cX9_addOne 58 = .ok (.imul, 1) := by decide +kernel
theorem dX9_addOne_59 : decode cX9_addOne 59 = .ok (.iadd, 1) := by decide +kernel
theorem dX9_addOne_60 : decode cX9_addOne 60 = .ok (.iconst 1, 1) := by decide +kernel
theorem dX9_addOne_61 : decode cX9_addOne 61 = .ok (.iadd, 1) := by decide +kernel
theorem dX9_addOne_62 : decode cX9_addOne 62 = .ok (.iload_n 3, 1) := by decide +kernel
theorem dX9_addOne_63 : decode cX9_addOne 63 = .ok (.iastore, 1) := by decide +kernel
theorem dX9_addOne_64 : decode cX9_addOne 64 = .ok (.aload_n 0, 1) := by decide +kernel
theorem dX9_addOne_65 : decode cX9_addOne 65 = .ok (.getfield 24, 3) := by decide +kernel
theorem dX9_addOne_68 : decode cX9_addOne 68 = .ok (.iconst 5, 1) := by decide +kernel
theorem dX9_addOne_69 : decode cX9_addOne 69 = .ok (.iconst 3, 1) := by decide +kernel
theorem dX9_addOne_70 : decode cX9_addOne 70 = .ok (.iload_n 1, 1) := by decide +kernel
theorem dX9_addOne_71 : decode cX9_addOne 71 = .ok (.imul, 1) := by decide +kernel
theorem dX9_addOne_72 : decode cX9_addOne 72 = .ok (.iadd, 1) := by decide +kernel
theorem dX9_addOne_73 : decode cX9_addOne 73 = .ok (.iconst 2, 1) := by decide +kernel
theorem dX9_addOne_74 : decode cX9_addOne 74 = .ok (.iadd, 1) := by decide +kernel
theorem dX9_addOne_75 : decode cX9_addOne 75 = .ok (.iload 4, 2) := by decide +kernel
theorem dX9_addOne_77 : decode cX9_addOne 77 = .ok (.iastore, 1) := by decide +kernel
theorem dX9_addOne_78 : decode cX9_addOne 78 = .ok (.return_, 1) := by decide +kernel
set_option maxRecDepth 20000 in
theorem ggX9_removeOne_X9_layers : GoodIn wsX9_removeOne wsX9_layers := goodIn_r _ [6, 1, 11, 12, 13, 14, 15, 16, 17, 18, 19, 20, 21, 22, 23, 24, 25, 26, 27, 28, 29, 30, 31, 32, 33, 34, 35, 36, 37, 38, 39, 40, 41, 42, 43, 44, 45, 46, 47, 48, 49, 50, 51] (by decide +kernel) (by decide +kernel)
set_option maxRecDepth 20000 in
theorem gX9_removeOne_X9_layers : GoodIn wsX9_removeOne (wsV RX9 90 RX9 yX9_layers wsX9_layers) := goodIn_app (goodIn_of _ (by decide +kernel)) ggX9_removeOne_X9_layers
set_option maxRecDepth 20000 in
theorem ggX9_removeOne_X9_copyLayer : GoodIn wsX9_removeOne wsX9_copyLayer := goodIn_r _ [10, 1, 11, 12, 13, 14, 15, 16, 17, 18, 19, 20, 21, 22, 23, 24, 25, 26, 27, 28, 29, 30, 31, 32, 33, 34, 35, 36, 37, 38, 39, 40, 41, 42, 43, 44, 45, 46, 47, 48, 49, 50, 51] (by decide +kernel) (by decide +kernel)
set_option maxRecDepth 20000 in
theorem gX9_removeOne_X9_copyLayer : GoodIn wsX9_removeOne (wsV RX9 101 RX9 yX9_copyLayer wsX9_copyLayer) := goodIn_app (goodIn_of _ (by decide +kernel)) ggX9_removeOne_X9_copyLayer
theorem dX9_removeOne_0 : decode cX9_removeOne 0 = .ok (.iload_n 1, 1) := by decide +kernel
theorem dX9_removeOne_1 : decode cX9_removeOne 1 = .ok (.istore_n 2, 1) := by decide +kernel
theorem dX9_removeOne_2 : decode cX9_removeOne 2 = .ok (.iload_n 2, 1) := by decide +kernel
theorem dX9_removeOne_3 : decode cX9_removeOne 3 = .ok (.iconst 1, 1) := by decide +kernel
theorem dX9_removeOne_4 : decode cX9_removeOne 4 = .ok (.iadd, 1) := by decide +kernel
theorem dX9_removeOne_5 : decode cX9_removeOne 5 = .ok (.aload_n 0, 1) := by decide +kernel
theorem dX9_removeOne_6 : decode cX9_removeOne 6 = .ok (.invokevirtual 90, 3) := by decide +kernel
theorem dX9_removeOne_9 : decode cX9_removeOne 9 = .ok (.if_icmp .ge 17, 3) := by decide +kernel
theorem dX9_removeOne_12 : decode cX9_removeOne 12 = .ok (.aload_n 0, 1) := by decide +kernel
theorem dX9_removeOne_13 : decode cX9_removeOne 13 = .ok (.iload_n 2, 1) := by decide +kernel
theorem dX9_removeOne_14 : decode cX9_removeOne 14 = .ok (.iconst 1, 1) := by decide +kernel
theorem dX9_removeOne_15 : decode cX9_removeOne 15 = .ok (.iadd, 1) := by decide +kernel
theorem dX9_removeOne_16 : decode cX9_removeOne 16 = .ok (.iload_n 2, 1) := by decide +kernel
theorem dX9_removeOne_17 : decode cX9_removeOne 17 = .ok (.invokevirtual 101, 3) := by decide +kernel
theorem dX9_removeOne_20 : decode cX9_removeOne 20 = .ok (.iinc 2 1, 3) := by decide +kernel
theorem dX9_removeOne_23 : decode cX9_removeOne 23 = .ok (.goto (-21), 3) := by decide +kernel
theorem dX9_removeOne_26 : decode cX9_removeOne 26 = .ok (.aload_n 0, 1) := by decide +kernel
theorem dX9_removeOne_27 : decode cX9_removeOne 27 = .ok (.getfield 24, 3) := by decide +kernel
theorem dX9_removeOne_30 : decode cX9_removeOne 30 = .ok (.iconst 0, 1) := by decide +kernel
theorem dX9_removeOne_31 : decode cX9_removeOne 31 = .ok (.dup2, 1) := by decide +kernel
theorem dX9_removeOne_32 : decode cX9_removeOne 32 = .ok (.iaload, 1) := by decide +kernel
theorem dX9_removeOne_33 : decode cX9_removeOne 33 = .ok (.iconst 1, 1) := by decide +kernel
theorem dX9_removeOne_34 : decode cX9_removeOne 34 = .ok (.isub, 1) := by decide +kernel
theorem dX9_removeOne_35 : decode cX9_removeOne 35 = .ok (.iastore, 1) := by decide +kernel
theorem dX9_removeOne_36 : decode cX9_removeOne 36 = .ok (.return_, 1) := by decide +kernel
set_option maxRecDepth 20000 in
theorem ggX9_addShot_X9_shots : GoodIn wsX9_addShot wsX9_shots := goodIn_r _ [6, 1, 7, 8, 9, 10, 11, 12, 13, 14, 15, 16, 17, 18, 19, 20, 21, 22, 23, 24, 25, 26, 27, 28, 29, 30, 31, 32, 33, 34, 35, 36, 37, 38, 39, 40, 41, 42, 43, 44, 45, 46, 47] (by decide +kernel) (by decide +kernel)
set_option maxRecDepth 20000 in
theorem gX9_addShot_X9_shots : GoodIn wsX9_addShot (wsV RX9 98 RX9 yX9_shots wsX9_shots) := goodIn_app (goodIn_of _ (by decide +kernel)) ggX9_addShot_X9_shots
theorem dX9_addShot_0 : decode cX9_addShot 0 = .ok (.aload_n 0, 1) := by decide +kernel
theorem dX9_addShot_1 : decode cX9_addShot 1 = .ok (.invokevirtual 98, 3) := by decide +kernel
theorem dX9_addShot_4 : decode cX9_addShot 4 = .ok (.istore 4, 2) := by decide +kernel
theorem dX9_addShot_6 : decode cX9_addShot 6 = .ok (.aload_n 0, 1) := by decide +kernel
theorem dX9_addShot_7 : decode cX9_addShot 7 = .ok (.getfield 24, 3) := by decide +kernel
theorem dX9_addShot_10 : decode cX9_addShot 10 = .ok (.iconst 4, 1) := by decide +kernel
theorem dX9_addShot_11 : decode cX9_addShot 11 = .ok (.dup2, 1) := by decide +kernel
theorem dX9_addShot_12 : decode cX9_addShot 12 = .ok (.iaload, 1) := by decide +kernel
theorem dX9_addShot_13 : decode cX9_addShot 13 = .ok (.iconst 1, 1) := by decide +kernel
theorem dX9_addShot_14 : decode cX9_addShot 14 = .ok (.iadd, 1) := by decide +kernel
theorem dX9_addShot_15 : decode cX9_addShot 15 = .ok (.iastore, 1) := by decide +kernel
theorem dX9_addShot_16 : decode cX9_addShot 16 = .ok (.aload_n 0, 1) := by decide +kernel
theorem dX9_addShot_17 : decode cX9_addShot 17 = .ok (.getfield 24, 3) := by decide +kernel
theorem dX9_addShot_20 : decode cX9_addShot 20 = .ok (.bipush 35, 2) := by decide +kernel
theorem dX9_addShot_22 : decode cX9_addShot 22 = .ok (.iconst 3, 1) := by decide +kernel
theorem dX9_addShot_23 : decode cX9_addShot 23 = .ok (.iload 4, 2) := by decide +kernel
theorem dX9_addShot_25 : decode cX9_addShot 25 = .ok (.imul, 1) := by decide +kernel
theorem dX9_addShot_26 : decode cX9_addShot 26 = .ok (.iadd, 1) := by decide +kernel
theorem dX9_addShot_27 : decode cX9_addShot 27 = .ok (.iconst 0, 1) := by decide +kernel
theorem dX9_addShot_28 : decode cX9_addShot 28 = .ok (.iadd, 1) := by decide +kernel
theorem dX9_addShot_29 : decode cX9_addShot 29 = .ok (.iload_n 1, 1) := by decide +kernel
theorem dX9_addShot_30 : decode cX9_addShot 30 = .ok (.iastore, 1) := by decide +kernel
theorem dX9_addShot_31 : decode cX9_addShot 31 = .ok (.aload_n 0, 1) := by decide +kernel
theorem dX9_addShot_32 : decode cX9_addShot 32 = .ok (.getfield 24, 3) := by decide +kernel
theorem dX9_addShot_35 : decode cX9_addShot 35 = .ok (.bipush 35, 2) := by decide +kernel
theorem dX9_addShot_37 : decode cX9_addShot 37 = .ok (.iconst 3, 1) := by decide +kernel
theorem dX9_addShot_38 : decode cX9_addShot 38 = .ok (.iload 4, 2) := by decide +kernel
theorem dX9_addShot_40 : decode cX9_addShot 40 = .ok (.imul, 1) := by decide +kernel
theorem dX9_addShot_41 : decode cX9_addShot 41 = .ok (.iadd, 1) := by decide +kernel
theorem dX9_addShot_42 : decode cX9_addShot 42 = .ok (.iconst 1, 1) := by decide +kernel
theorem dX9_addShot_43 : decode cX9_addShot 43 = .ok (.iadd, 1) := by decide +kernel
theorem dX9_addShot_44 : decode cX9_addShot 44 = .ok (.iload_n 2, 1) := by decide +kernel
theorem dX9_addShot_45 : decode cX9_addShot 45 = .ok (.ifCond .eq 7, 3) := by decide +kernel
theorem dX9_addShot_48 : decode cX9_addShot 48 = .ok (.iconst 1, 1) := by decide +kernel
theorem dX9_addShot_49 : decode cX9_addShot 49 = .ok (.goto 4, 3) := by decide +kernel
theorem dX9_addShot_52 : decode cX9_addShot 52 = .ok (.iconst 0, 1) := by decide +kernel
theorem dX9_addShot_53 : decode cX9_addShot 53 = .ok (.iastore, 1) := by decide +kernel
theorem dX9_addShot_54 : decode cX9_addShot 54 = .ok (.aload_n 0, 1) := by decide +kernel
theorem dX9_addShot_55 : decode cX9_addShot 55 = .ok (.getfield 24, 3) := by decide +kernel
theorem dX9_addShot_58 : decode cX9_addShot 58 = .ok (.bipush 35, 2) := by decide +kernel
theorem dX9_addShot_60 : decode cX9_addShot 60 = .ok (.iconst 3, 1) := by decide +kernel
theorem dX9_addShot_61 : decode cX9_addShot 61 = .ok (.iload 4, 2) := by decide +kernel
theorem dX9_addShot_63 : decode cX9_addShot 63 = .ok (.imul, 1) := by decide +kernel
theorem dX9_addShot_64 : decode cX9_addShot 64 = .ok (.iadd, 1) := by decide +kernel
theorem dX9_addShot_65 : decode cX9_addShot 65 = .ok (.iconst 2, 1) := by decide +kernel
theorem dX9_addShot_66 : decode cX9_addShot 66 = .ok (.iadd, 1) := by decide +kernel
theorem dX9_addShot_67 : decode cX9_addShot 67 = .ok (.iload_n 3, 1) := by decide +kernel
theorem dX9_addShot_68 : decode cX9_addShot 68 = .ok (.iastore, 1) := by decide +kernel
theorem dX9_addShot_69 : decode cX9_addShot 69 = .ok (.return_, 1) := by decide +kernel
set_option maxRecDepth 20000 in
theorem ggX9_depthOf_X9_ofLayer : GoodIn wsX9_depthOf wsX9_ofLayer := goodIn_r _ [5, 6, 7, 8, 9, 10, 11, 12, 13, 14, 15, 16, 17, 18, 19, 20, 21, 22, 23, 24, 25, 26, 27, 28, 29, 30, 31, 32, 33, 34, 35, 36, 37, 38, 39, 40, 41, 42, 43, 44, 45, 46, 47] (by decide +kernel) (by decide +kernel)
set_option maxRecDepth 20000 in
theorem gX9_depthOf_X9_ofLayer : GoodIn wsX9_depthOf (wsV RX9 105 RX9 yX9_ofLayer wsX9_ofLayer) := goodIn_app (goodIn_of _ (by decide +kernel)) ggX9_depthOf_X9_ofLayer
theorem dX9_depthOf_0 : decode cX9_depthOf 0 = .ok (.iconst 0, 1) := by decide +kernel
theorem dX9_depthOf_1 : decode cX9_depthOf 1 = .ok (.istore_n 2, 1) := by decide +kernel
theorem dX9_depthOf_2 : decode cX9_depthOf 2 = .ok (.iconst 0, 1) := by decide +kernel
theorem dX9_depthOf_3 : decode cX9_depthOf 3 = .ok (.istore_n 3, 1) := by decide +kernel
theorem dX9_depthOf_4 : decode cX9_depthOf 4 = .ok (.iload_n 3, 1) := by decide +kernel
theorem dX9_depthOf_5 : decode cX9_depthOf 5 = .ok (.iload_n 1, 1) := by decide +kernel
theorem dX9_depthOf_6 : decode cX9_depthOf 6 = .ok (.if_icmp .ge 18, 3) := by decide +kernel
theorem dX9_depthOf_9 : decode cX9_depthOf 9 = .ok (.iload_n 2, 1) := by decide +kernel
theorem dX9_depthOf_10 : decode cX9_depthOf 10 = .ok (.aload_n 0, 1) := by decide +kernel
theorem dX9_depthOf_11 : decode cX9_depthOf 11 = .ok (.iload_n 3, 1) := by decide +kernel
theorem dX9_depthOf_12 : decode cX9_depthOf 12 = .ok (.iconst 1, 1) := by decide +kernel
theorem dX9_depthOf_13 : decode cX9_depthOf 13 = .ok (.invokevirtual 105, 3) := by decide +kernel
theorem dX9_depthOf_16 : decode cX9_depthOf 16 = .ok (.iadd, 1) := by decide +kernel
theorem dX9_depthOf_17 : decode cX9_depthOf 17 = .ok (.istore_n 2, 1) := by decide +kernel
theorem dX9_depthOf_18 : decode cX9_depthOf 18 = .ok (.iinc 3 1, 3) := by decide +kernel
theorem dX9_depthOf_21 : decode cX9_depthOf 21 = .ok (.goto (-17), 3) := by decide +kernel
theorem dX9_depthOf_24 : decode cX9_depthOf 24 = .ok (.iload_n 2, 1) := by decide +kernel
theorem dX9_depthOf_25 : decode cX9_depthOf 25 = .ok (.ireturn, 1) := by decide +kernel
theorem dX9_rootOf_0 : decode cX9_rootOf 0 = .ok (.iconst 0, 1) := by decide +kernel
theorem dX9_rootOf_1 : decode cX9_rootOf 1 = .ok (.istore_n 1, 1) := by decide +kernel
theorem dX9_rootOf_2 : decode cX9_rootOf 2 = .ok (.sipush 2048, 3) := by decide +kernel
theorem dX9_rootOf_5 : decode cX9_rootOf 5 = .ok (.istore_n 2, 1) := by decide +kernel
theorem dX9_rootOf_6 : decode cX9_rootOf 6 = .ok (.iload_n 2, 1) := by decide +kernel
theorem dX9_rootOf_7 : decode cX9_rootOf 7 = .ok (.ifCond .le 27, 3) := by decide +kernel
theorem dX9_rootOf_10 : decode cX9_rootOf 10 = .ok (.iload_n 1, 1) := by decide +kernel
theorem dX9_rootOf_11 : decode cX9_rootOf 11 = .ok (.iload_n 2, 1) := by decide +kernel
theorem dX9_rootOf_12 : decode cX9_rootOf 12 = .ok (.iadd, 1) := by decide +kernel
theorem dX9_rootOf_13 : decode cX9_rootOf 13 = .ok (.istore_n 3, 1) := by decide +kernel
theorem dX9_rootOf_14 : decode cX9_rootOf 14 = .ok (.iload_n 3, 1) := by decide +kernel
theorem dX9_rootOf_15 : decode cX9_rootOf 15 = .ok (.iload_n 3, 1) := by decide +kernel
theorem dX9_rootOf_16 : decode cX9_rootOf 16 = .ok (.imul, 1) := by decide +kernel
theorem dX9_rootOf_17 : decode cX9_rootOf 17 = .ok (.iload_n 0, 1) := by decide +kernel
theorem dX9_rootOf_18 : decode cX9_rootOf 18 = .ok (.if_icmp .gt 7, 3) := by decide +kernel
theorem dX9_rootOf_21 : decode cX9_rootOf 21 = .ok (.iload_n 3, 1) := by decide +kernel
theorem dX9_rootOf_22 : decode cX9_rootOf 22 = .ok (.goto 4, 3) := by decide +kernel
theorem dX9_rootOf_25 : decode cX9_rootOf 25 = .ok (.iload_n 1, 1) := by decide +kernel
theorem dX9_rootOf_26 : decode cX9_rootOf 26 = .ok (.istore_n 1, 1) := by decide +kernel
theorem dX9_rootOf_27 : decode cX9_rootOf 27 = .ok (.iload_n 2, 1) := by decide +kernel
theorem dX9_rootOf_28 : decode cX9_rootOf 28 = .ok (.iconst 2, 1) := by decide +kernel
theorem dX9_rootOf_29 : decode cX9_rootOf 29 = .ok (.idiv, 1) := by decide +kernel
theorem dX9_rootOf_30 : decode cX9_rootOf 30 = .ok (.istore_n 2, 1) := by decide +kernel
theorem dX9_rootOf_31 : decode cX9_rootOf 31 = .ok (.goto (-25), 3) := by decide +kernel
theorem dX9_rootOf_34 : decode cX9_rootOf 34 = .ok (.iload_n 1, 1) := by decide +kernel
theorem dX9_rootOf_35 : decode cX9_rootOf 35 = .ok (.ireturn, 1) := by decide +kernel
set_option maxRecDepth 20000 in
theorem ggX9_crossLayer_X9_ofLayer : GoodIn wsX9_crossLayer wsX9_ofLayer := goodIn_r _ [22, 23, 27, 28, 29, 30, 31, 32, 33, 34, 35, 36, 37, 38, 39, 40, 41, 42, 43, 44, 45, 46, 47, 48, 49, 50, 51, 52, 53, 54, 55, 56, 57, 58, 59, 60, 61, 62, 63, 64, 65, 66, 67] (by decide +kernel) (by decide +kernel)
set_option maxRecDepth 20000 in
theorem gX9_crossLayer_X9_ofLayer : GoodIn wsX9_crossLayer (wsV RX9 105 RX9 yX9_ofLayer wsX9_ofLayer) := goodIn_app (goodIn_of _ (by decide +kernel)) ggX9_crossLayer_X9_ofLayer
set_option maxRecDepth 20000 in
theorem ggX9_crossLayer_X9_rootOf : GoodIn wsX9_crossLayer wsX9_rootOf := goodIn_r _ [26] (by decide +kernel) (by decide +kernel)
set_option maxRecDepth 20000 in
theorem gX9_crossLayer_X9_rootOf : GoodIn wsX9_crossLayer (va_wsS RX9 115 yX9_rootOf wsX9_rootOf) := goodIn_app (goodIn_of _ (by decide +kernel)) ggX9_crossLayer_X9_rootOf
theorem dX9_crossLayer_0 : decode cX9_crossLayer 0 = .ok (.aload_n 0, 1) := by decide +kernel
theorem dX9_crossLayer_1 : decode cX9_crossLayer 1 = .ok (.aload_n 0, 1) := by decide +kernel
theorem dX9_crossLayer_2 : decode cX9_crossLayer 2 = .ok (.getfield 109, 3) := by decide +kernel
theorem dX9_crossLayer_5 : decode cX9_crossLayer 5 = .ok (.iconst 0, 1) := by decide +kernel
theorem dX9_crossLayer_6 : decode cX9_crossLayer 6 = .ok (.invokevirtual 105, 3) := by decide +kernel
theorem dX9_crossLayer_9 : decode cX9_crossLayer 9 = .ok (.istore_n 1, 1) := by decide +kernel
theorem dX9_crossLayer_10 : decode cX9_crossLayer 10 = .ok (.aload_n 0, 1) := by decide +kernel
theorem dX9_crossLayer_11 : decode cX9_crossLayer 11 = .ok (.aload_n 0, 1) := by decide +kernel
theorem dX9_crossLayer_12 : decode cX9_crossLayer 12 = .ok (.getfield 109, 3) := by decide +kernel
theorem dX9_crossLayer_15 : decode cX9_crossLayer 15 = .ok (.iconst 1, 1) := by decide +kernel
theorem dX9_crossLayer_16 : decode cX9_crossLayer 16 = .ok (.invokevirtual 105, 3) := by decide +kernel
theorem dX9_crossLayer_19 : decode cX9_crossLayer 19 = .ok (.istore_n 2, 1) := by decide +kernel
theorem dX9_crossLayer_20 : decode cX9_crossLayer 20 = .ok (.iload_n 1, 1) := by decide +kernel
theorem dX9_crossLayer_21 : decode cX9_crossLayer 21 = .ok (.iload_n 1, 1) := by decide +kernel
theorem dX9_crossLayer_22 : decode cX9_crossLayer 22 = .ok (.imul, 1) := by decide +kernel
theorem dX9_crossLayer_23 : decode cX9_crossLayer 23 = .ok (.aload_n 0, 1) := by decide +kernel
theorem dX9_crossLayer_24 : decode cX9_crossLayer 24 = .ok (.getfield 112, 3) := by decide +kernel
theorem dX9_crossLayer_27 : decode cX9_crossLayer 27 = .ok (.aload_n 0, 1) := by decide +kernel
theorem dX9_crossLayer_28 : decode cX9_crossLayer 28 = .ok (.getfield 112, 3) := by decide +kernel
theorem dX9_crossLayer_31 : decode cX9_crossLayer 31 = .ok (.imul, 1) := by decide +kernel
theorem dX9_crossLayer_32 : decode cX9_crossLayer 32 = .ok (.isub, 1) := by decide +kernel
theorem dX9_crossLayer_33 : decode cX9_crossLayer 33 = .ok (.invokestatic 115, 3) := by decide +kernel
theorem dX9_crossLayer_36 : decode cX9_crossLayer 36 = .ok (.istore_n 3, 1) := by decide +kernel
theorem dX9_crossLayer_37 : decode cX9_crossLayer 37 = .ok (.iload_n 2, 1) := by decide +kernel
theorem dX9_crossLayer_38 : decode cX9_crossLayer 38 = .ok (.iload_n 1, 1) := by decide +kernel
theorem dX9_crossLayer_39 : decode cX9_crossLayer 39 = .ok (.imul, 1) := by decide +kernel
theorem dX9_crossLayer_40 : decode cX9_crossLayer 40 = .ok (.iload_n 3, 1) := by decide +kernel
theorem dX9_crossLayer_41 : decode cX9_crossLayer 41 = .ok (.idiv, 1) := by decide +kernel
theorem dX9_crossLayer_42 : decode cX9_crossLayer 42 = .ok (.istore 4, 2) := by decide +kernel
theorem dX9_crossLayer_44 : decode cX9_crossLayer 44 = .ok (.aload_n 0, 1) := by decide +kernel
theorem dX9_crossLayer_45 : decode cX9_crossLayer 45 = .ok (.lconst 0, 1) := by decide +kernel
theorem dX9_crossLayer_46 : decode cX9_crossLayer 46 = .ok (.aload_n 0, 1) := by decide +kernel
theorem dX9_crossLayer_47 : decode cX9_crossLayer 47 = .ok (.getfield 119, 3) := by decide +kernel
theorem dX9_crossLayer_50 : decode cX9_crossLayer 50 = .ok (.aload_n 0, 1) := by decide +kernel
theorem dX9_crossLayer_51 : decode cX9_crossLayer 51 = .ok (.getfield 119, 3) := by decide +kernel
theorem dX9_crossLayer_54 : decode cX9_crossLayer 54 = .ok (.aload_n 0, 1) := by decide +kernel
theorem dX9_crossLayer_55 : decode cX9_crossLayer 55 = .ok (.aload_n 0, 1) := by decide +kernel
theorem dX9_crossLayer_56 : decode cX9_crossLayer 56 = .ok (.getfield 109, 3) := by decide +kernel
theorem dX9_crossLayer_59 : decode cX9_crossLayer 59 = .ok (.iconst 2, 1) := by decide +kernel
theorem dX9_crossLayer_60 : decode cX9_crossLayer 60 = .ok (.invokevirtual 105, 3) := by decide +kernel
theorem dX9_crossLayer_63 : decode cX9_crossLayer 63 = .ok (.i2l, 1) := by decide +kernel
theorem dX9_crossLayer_64 : decode cX9_crossLayer 64 = .ok (.lmul, 1) := by decide +kernel
theorem dX9_crossLayer_65 : decode cX9_crossLayer 65 = .ok (.iload 4, 2) := by decide +kernel
theorem dX9_crossLayer_67 : decode cX9_crossLayer 67 = .ok (.i2l, 1) := by decide +kernel
theorem dX9_crossLayer_68 : decode cX9_crossLayer 68 = .ok (.lmul, 1) := by decide +kernel
theorem dX9_crossLayer_69 : decode cX9_crossLayer 69 = .ok (.ldc2_w 123, 3) := by decide +kernel
theorem dX9_crossLayer_72 : decode cX9_crossLayer 72 = .ok (.ldiv, 1) := by decide +kernel
theorem dX9_crossLayer_73 : decode cX9_crossLayer 73 = .ok (.lsub, 1) := by decide +kernel
theorem dX9_crossLayer_74 : decode cX9_crossLayer 74 = .ok (.invokestatic 125, 3) := by decide +kernel
theorem dX9_crossLayer_77 : decode cX9_crossLayer 77 = .ok (.putfield 119, 3) := by decide +kernel
theorem dX9_crossLayer_80 : decode cX9_crossLayer 80 = .ok (.aload_n 0, 1) := by decide +kernel
theorem dX9_crossLayer_81 : decode cX9_crossLayer 81 = .ok (.getfield 27, 3) := by decide +kernel
theorem dX9_crossLayer_84 : decode cX9_crossLayer 84 = .ok (.aload_n 0, 1) := by decide +kernel
theorem dX9_crossLayer_85 : decode cX9_crossLayer 85 = .ok (.getfield 131, 3) := by decide +kernel
theorem dX9_crossLayer_88 : decode cX9_crossLayer 88 = .ok (.aload_n 0, 1) := by decide +kernel
theorem dX9_crossLayer_89 : decode cX9_crossLayer 89 = .ok (.getfield 109, 3) := by decide +kernel
theorem dX9_crossLayer_92 : decode cX9_crossLayer 92 = .ok (.iastore, 1) := by decide +kernel
theorem dX9_crossLayer_93 : decode cX9_crossLayer 93 = .ok (.aload_n 0, 1) := by decide +kernel
theorem dX9_crossLayer_94 : decode cX9_crossLayer 94 = .ok (.getfield 30, 3) := by decide +kernel
theorem dX9_crossLayer_97 : decode cX9_crossLayer 97 = .ok (.aload_n 0, 1) := by decide +kernel
theorem dX9_crossLayer_98 : decode cX9_crossLayer 98 = .ok (.getfield 131, 3) := by decide +kernel
theorem dX9_crossLayer_101 : decode cX9_crossLayer 101 = .ok (.aload_n 0, 1) := by decide +kernel
theorem dX9_crossLayer_102 : decode cX9_crossLayer 102 = .ok (.getfield 134, 3) := by decide +kernel
theorem dX9_crossLayer_105 : decode cX9_crossLayer 105 = .ok (.bastore, 1) := by decide +kernel
theorem dX9_crossLayer_106 : decode cX9_crossLayer 106 = .ok (.aload_n 0, 1) := by decide +kernel
theorem dX9_crossLayer_107 : decode cX9_crossLayer 107 = .ok (.getfield 34, 3) := by decide +kernel
theorem dX9_crossLayer_110 : decode cX9_crossLayer 110 = .ok (.aload_n 0, 1) := by decide +kernel
theorem dX9_crossLayer_111 : decode cX9_crossLayer 111 = .ok (.getfield 131, 3) := by decide +kernel
theorem dX9_crossLayer_114 : decode cX9_crossLayer 114 = .ok (.iload_n 2, 1) := by decide +kernel
theorem dX9_crossLayer_115 : decode cX9_crossLayer 115 = .ok (.aload_n 0, 1) := by decide +kernel
theorem dX9_crossLayer_116 : decode cX9_crossLayer 116 = .ok (.getfield 112, 3) := by decide +kernel
theorem dX9_crossLayer_119 : decode cX9_crossLayer 119 = .ok (.imul, 1) := by decide +kernel
theorem dX9_crossLayer_120 : decode cX9_crossLayer 120 = .ok (.iload_n 3, 1) := by decide +kernel
theorem dX9_crossLayer_121 : decode cX9_crossLayer 121 = .ok (.idiv, 1) := by decide +kernel
theorem dX9_crossLayer_122 : decode cX9_crossLayer 122 = .ok (.iastore, 1) := by decide +kernel
theorem dX9_crossLayer_123 : decode cX9_crossLayer 123 = .ok (.aload_n 0, 1) := by decide +kernel
theorem dX9_crossLayer_124 : decode cX9_crossLayer 124 = .ok (.getfield 37, 3) := by decide +kernel
theorem dX9_crossLayer_127 : decode cX9_crossLayer 127 = .ok (.aload_n 0, 1) := by decide +kernel
theorem dX9_crossLayer_128 : decode cX9_crossLayer 128 = .ok (.getfield 131, 3) := by decide +kernel
theorem dX9_crossLayer_131 : decode cX9_crossLayer 131 = .ok (.iload 4, 2) := by decide +kernel
theorem dX9_crossLayer_133 : decode cX9_crossLayer 133 = .ok (.iastore, 1) := by decide +kernel
theorem dX9_crossLayer_134 : decode cX9_crossLayer 134 = .ok (.aload_n 0, 1) := by decide +kernel
theorem dX9_crossLayer_135 : decode cX9_crossLayer 135 = .ok (.getfield 40, 3) := by decide +kernel
theorem dX9_crossLayer_138 : decode cX9_crossLayer 138 = .ok (.aload_n 0, 1) := by decide +kernel
theorem dX9_crossLayer_139 : decode cX9_crossLayer 139 = .ok (.getfield 131, 3) := by decide +kernel
theorem dX9_crossLayer_142 : decode cX9_crossLayer 142 = .ok (.iload 4, 2) := by decide +kernel
theorem dX9_crossLayer_144 : decode cX9_crossLayer 144 = .ok (.i2l, 1) := by decide +kernel
theorem dX9_crossLayer_145 : decode cX9_crossLayer 145 = .ok (.iload_n 1, 1) := by decide +kernel
theorem dX9_crossLayer_146 : decode cX9_crossLayer 146 = .ok (.i2l, 1) := by decide +kernel
theorem dX9_crossLayer_147 : decode cX9_crossLayer 147 = .ok (.lmul, 1) := by decide +kernel
theorem dX9_crossLayer_148 : decode cX9_crossLayer 148 = .ok (.ldc2_w 138, 3) := by decide +kernel
theorem dX9_crossLayer_151 : decode cX9_crossLayer 151 = .ok (.ldiv, 1) := by decide +kernel
theorem dX9_crossLayer_152 : decode cX9_crossLayer 152 = .ok (.l2i, 1) := by decide +kernel
theorem dX9_crossLayer_153 : decode cX9_crossLayer 153 = .ok (.iastore, 1) := by decide +kernel
theorem dX9_crossLayer_154 : decode cX9_crossLayer 154 = .ok (.aload_n 0, 1) := by decide +kernel
theorem dX9_crossLayer_155 : decode cX9_crossLayer 155 = .ok (.getfield 43, 3) := by decide +kernel
theorem dX9_crossLayer_158 : decode cX9_crossLayer 158 = .ok (.aload_n 0, 1) := by decide +kernel
theorem dX9_crossLayer_159 : decode cX9_crossLayer 159 = .ok (.getfield 131, 3) := by decide +kernel
theorem dX9_crossLayer_162 : decode cX9_crossLayer 162 = .ok (.aload_n 0, 1) := by decide +kernel
theorem dX9_crossLayer_163 : decode cX9_crossLayer 163 = .ok (.getfield 119, 3) := by decide +kernel
theorem dX9_crossLayer_166 : decode cX9_crossLayer 166 = .ok (.l2i, 1) := by decide +kernel
theorem dX9_crossLayer_167 : decode cX9_crossLayer 167 = .ok (.iastore, 1) := by decide +kernel
theorem dX9_crossLayer_168 : decode cX9_crossLayer 168 = .ok (.aload_n 0, 1) := by decide +kernel
theorem dX9_crossLayer_169 : decode cX9_crossLayer 169 = .ok (.dup, 1) := by decide +kernel
theorem dX9_crossLayer_170 : decode cX9_crossLayer 170 = .ok (.getfield 131, 3) := by decide +kernel
theorem dX9_crossLayer_173 : decode cX9_crossLayer 173 = .ok (.iconst 1, 1) := by decide +kernel
theorem dX9_crossLayer_174 : decode cX9_crossLayer 174 = .ok (.iadd, 1) := by decide +kernel
theorem dX9_crossLayer_175 : decode cX9_crossLayer 175 = .ok (.putfield 131, 3) := by decide +kernel
theorem dX9_crossLayer_178 : decode cX9_crossLayer 178 = .ok (.return_, 1) := by decide +kernel
theorem dX9_layerAhead_0 : decode cX9_layerAhead 0 = .ok (.aload_n 0, 1) := by decide +kernel
theorem dX9_layerAhead_1 : decode cX9_layerAhead 1 = .ok (.getfield 134, 3) := by decide +kernel
theorem dX9_layerAhead_4 : decode cX9_layerAhead 4 = .ok (.ifCond .eq 12, 3) := by decide +kernel
theorem dX9_layerAhead_7 : decode cX9_layerAhead 7 = .ok (.aload_n 0, 1) := by decide +kernel
theorem dX9_layerAhead_8 : decode cX9_layerAhead 8 = .ok (.getfield 109, 3) := by decide +kernel
theorem dX9_layerAhead_11 : decode cX9_layerAhead 11 = .ok (.iconst 1, 1) := by decide +kernel
theorem dX9_layerAhead_12 : decode cX9_layerAhead 12 = .ok (.iadd, 1) := by decide +kernel
theorem dX9_layerAhead_13 : decode cX9_layerAhead 13 = .ok (.goto 9, 3) := by decide +kernel
theorem dX9_layerAhead_16 : decode cX9_layerAhead 16 = .ok (.aload_n 0, 1) := by decide +kernel
theorem dX9_layerAhead_17 : decode cX9_layerAhead 17 = .ok (.getfield 109, 3) := by decide +kernel
theorem dX9_layerAhead_20 : decode cX9_layerAhead 20 = .ok (.iconst 1, 1) := by decide +kernel
theorem dX9_layerAhead_21 : decode cX9_layerAhead 21 = .ok (.isub, 1) := by decide +kernel
theorem dX9_layerAhead_22 : decode cX9_layerAhead 22 = .ok (.ireturn, 1) := by decide +kernel
set_option maxRecDepth 20000 in
theorem ggX9_indexAhead_X9_isLayer : GoodIn wsX9_indexAhead wsX9_isLayer := goodIn_r _ [6, 7, 8, 9, 5, 10, 1, 11, 12, 13, 18, 19, 20, 21, 22, 23, 24, 25, 26, 27, 28, 29, 30, 31, 32, 33, 34, 35, 36, 37, 38, 39, 40, 41, 42, 43, 44, 45, 46, 47, 48, 49, 50, 51, 52, 53, 54, 55, 56, 57, 58] (by decide +kernel) (by decide +kernel)
set_option maxRecDepth 20000 in
theorem gX9_indexAhead_X9_isLayer : GoodIn wsX9_indexAhead (wsV RX9 140 RX9 yX9_isLayer wsX9_isLayer) := goodIn_app (goodIn_of _ (by decide +kernel)) ggX9_indexAhead_X9_isLayer
set_option maxRecDepth 20000 in
theorem ggX9_indexAhead_X9_ofLayer : GoodIn wsX9_indexAhead wsX9_ofLayer := goodIn_r _ [17, 1, 18, 19, 20, 21, 22, 23, 24, 25, 26, 27, 28, 29, 30, 31, 32, 33, 34, 35, 36, 37, 38, 39, 40, 41, 42, 43, 44, 45, 46, 47, 48, 49, 50, 51, 52, 53, 54, 55, 56, 57, 58] (by decide +kernel) (by decide +kernel)
set_option maxRecDepth 20000 in
theorem gX9_indexAhead_X9_ofLayer : GoodIn wsX9_indexAhead (wsV RX9 105 RX9 yX9_ofLayer wsX9_ofLayer) := goodIn_app (goodIn_of _ (by decide +kernel)) ggX9_indexAhead_X9_ofLayer
theorem dX9_indexAhead_0 : decode cX9_indexAhead 0 = .ok (.iload_n 2, 1) := by decide +kernel
theorem dX9_indexAhead_1 : decode cX9_indexAhead 1 = .ok (.ifCond .eq 9, 3) := by decide +kernel
theorem dX9_indexAhead_4 : decode cX9_indexAhead 4 = .ok (.iload_n 1, 1) := by decide +kernel
theorem dX9_indexAhead_5 : decode cX9_indexAhead 5 = .ok (.iconst 1, 1) := by decide +kernel
theorem dX9_indexAhead_6 : decode cX9_indexAhead 6 = .ok (.iadd, 1) := by decide +kernel
theorem dX9_indexAhead_7 : decode cX9_indexAhead 7 = .ok (.goto 6, 3) := by decide +kernel
theorem dX9_indexAhead_10 : decode cX9_indexAhead 10 = .ok (.iload_n 1, 1) := by decide +kernel
theorem dX9_indexAhead_11 : decode cX9_indexAhead 11 = .ok (.iconst 1, 1) := by decide +kernel
theorem dX9_indexAhead_12 : decode cX9_indexAhead 12 = .ok (.isub, 1) := by decide +kernel
theorem dX9_indexAhead_13 : decode cX9_indexAhead 13 = .ok (.istore_n 3, 1) := by decide +kernel
theorem dX9_indexAhead_14 : decode cX9_indexAhead 14 = .ok (.aload_n 0, 1) := by decide +kernel
theorem dX9_indexAhead_15 : decode cX9_indexAhead 15 = .ok (.iload_n 3, 1) := by decide +kernel
theorem dX9_indexAhead_16 : decode cX9_indexAhead 16 = .ok (.invokevirtual 140, 3) := by decide +kernel
theorem dX9_indexAhead_19 : decode cX9_indexAhead 19 = .ok (.ifCond .eq 10, 3) := by decide +kernel
theorem dX9_indexAhead_22 : decode cX9_indexAhead 22 = .ok (.aload_n 0, 1) := by decide +kernel
theorem dX9_indexAhead_23 : decode cX9_indexAhead 23 = .ok (.iload_n 3, 1) := by decide +kernel
theorem dX9_indexAhead_24 : decode cX9_indexAhead 24 = .ok (.iconst 0, 1) := by decide +kernel
theorem dX9_indexAhead_25 : decode cX9_indexAhead 25 = .ok (.invokevirtual 105, 3) := by decide +kernel
theorem dX9_indexAhead_28 : decode cX9_indexAhead 28 = .ok (.ireturn, 1) := by decide +kernel
theorem dX9_indexAhead_29 : decode cX9_indexAhead 29 = .ok (.iload_n 2, 1) := by decide +kernel
theorem dX9_indexAhead_30 : decode cX9_indexAhead 30 = .ok (.ifCond .ne 10, 3) := by decide +kernel
theorem dX9_indexAhead_33 : decode cX9_indexAhead 33 = .ok (.aload_n 0, 1) := by decide +kernel
theorem dX9_indexAhead_34 : decode cX9_indexAhead 34 = .ok (.getfield 24, 3) := by decide +kernel
theorem dX9_indexAhead_37 : decode cX9_indexAhead 37 = .ok (.iconst 1, 1) := by decide +kernel
theorem dX9_indexAhead_38 : decode cX9_indexAhead 38 = .ok (.iaload, 1) := by decide +kernel
theorem dX9_indexAhead_39 : decode cX9_indexAhead 39 = .ok (.ireturn, 1) := by decide +kernel
theorem dX9_indexAhead_40 : decode cX9_indexAhead 40 = .ok (.aload_n 0, 1) := by decide +kernel
theorem dX9_indexAhead_41 : decode cX9_indexAhead 41 = .ok (.getfield 24, 3) := by decide +kernel
theorem dX9_indexAhead_44 : decode cX9_indexAhead 44 = .ok (.iconst 2, 1) := by decide +kernel
theorem dX9_indexAhead_45 : decode cX9_indexAhead 45 = .ok (.iaload, 1) := by decide +kernel
theorem dX9_indexAhead_46 : decode cX9_indexAhead 46 = .ok (.iconst 1, 1) := by decide +kernel
theorem dX9_indexAhead_47 : decode cX9_indexAhead 47 = .ok (.if_icmp .ne 7, 3) := by decide +kernel
theorem dX9_indexAhead_50 : decode cX9_indexAhead 50 = .ok (.iconst (-1), 1) := by decide +kernel
theorem dX9_indexAhead_51 : decode cX9_indexAhead 51 = .ok (.goto 9, 3) := by decide +kernel
theorem dX9_indexAhead_54 : decode cX9_indexAhead 54 = .ok (.aload_n 0, 1) := by decide +kernel
theorem dX9_indexAhead_55 : decode cX9_indexAhead 55 = .ok (.getfield 24, 3) := by decide +kernel
theorem dX9_indexAhead_58 : decode cX9_indexAhead 58 = .ok (.iconst 3, 1) := by decide +kernel
theorem dX9_indexAhead_59 : decode cX9_indexAhead 59 = .ok (.iaload, 1) := by decide +kernel
theorem dX9_indexAhead_60 : decode cX9_indexAhead 60 = .ok (.ireturn, 1) := by decide +kernel
set_option maxRecDepth 20000 in
theorem ggX9_whatBehind_X9_indexAhead : GoodIn wsX9_whatBehind wsX9_indexAhead := goodIn_r _ [9, 10, 11, 12, 13, 8, 14, 15, 16, 17, 18, 19, 20, 21, 22, 23, 24, 25, 30, 31, 32, 33, 34, 35, 36, 37, 38, 39, 40, 41, 42, 43, 44, 45, 46, 47, 48, 49, 50, 51, 52, 53, 54, 55, 56, 57, 58, 59, 60, 61, 62, 63, 64, 65, 66, 67, 68, 69, 70] (by decide +kernel) (by decide +kernel)
set_option maxRecDepth 20000 in
theorem gX9_whatBehind_X9_indexAhead : GoodIn wsX9_whatBehind (wsV RX9 144 RX9 yX9_indexAhead wsX9_indexAhead) := goodIn_app (goodIn_of _ (by decide +kernel)) ggX9_whatBehind_X9_indexAhead
set_option maxRecDepth 20000 in
theorem ggX9_whatBehind_X9_layerAhead : GoodIn wsX9_whatBehind wsX9_layerAhead := goodIn_r _ [29, 3, 2, 30, 31, 32, 33, 34, 35, 36, 37, 38, 39, 40, 41, 42, 43, 44, 45, 46, 47, 48, 49, 50, 51, 52, 53, 54, 55, 56, 57, 58, 59, 60, 61, 62, 63, 64, 65, 66, 67, 68, 69, 70] (by decide +kernel) (by decide +kernel)
set_option maxRecDepth 20000 in
theorem gX9_whatBehind_X9_layerAhead : GoodIn wsX9_whatBehind (wsV RX9 148 RX9 yX9_layerAhead wsX9_layerAhead) := goodIn_app (goodIn_of _ (by decide +kernel)) ggX9_whatBehind_X9_layerAhead
set_option maxRecDepth 20000 in
theorem ggX9_whatBehind_X9_isLayer : GoodIn wsX9_whatBehind wsX9_isLayer := goodIn_r _ [14, 15, 16, 17, 8, 18, 10, 19, 20, 21, 30, 31, 32, 33, 34, 35, 36, 37, 38, 39, 40, 41, 42, 43, 44, 45, 46, 47, 48, 49, 50, 51, 52, 53, 54, 55, 56, 57, 58, 59, 60, 61, 62, 63, 64, 65, 66, 67, 68, 69, 70] (by decide +kernel) (by decide +kernel)
set_option maxRecDepth 20000 in
theorem gX9_whatBehind_X9_isLayer : GoodIn wsX9_whatBehind (wsV RX9 140 RX9 yX9_isLayer wsX9_isLayer) := goodIn_app (goodIn_of _ (by decide +kernel)) ggX9_whatBehind_X9_isLayer
theorem dX9_whatBehind_0 : decode cX9_whatBehind 0 = .ok (.aload_n 0, 1) := by decide +kernel
theorem dX9_whatBehind_1 : decode cX9_whatBehind 1 = .ok (.getfield 119, 3) := by decide +kernel
theorem dX9_whatBehind_4 : decode cX9_whatBehind 4 = .ok (.lconst 0, 1) := by decide +kernel
theorem dX9_whatBehind_5 : decode cX9_whatBehind 5 = .ok (.lcmp, 1) := by decide +kernel
theorem dX9_whatBehind_6 : decode cX9_whatBehind 6 = .ok (.ifCond .ne 5, 3) := by decide +kernel
theorem dX9_whatBehind_9 : decode cX9_whatBehind 9 = .ok (.iconst 5, 1) := by decide +kernel
theorem dX9_whatBehind_10 : decode cX9_whatBehind 10 = .ok (.ireturn, 1) := by decide +kernel
theorem dX9_whatBehind_11 : decode cX9_whatBehind 11 = .ok (.aload_n 0, 1) := by decide +kernel
theorem dX9_whatBehind_12 : decode cX9_whatBehind 12 = .ok (.aload_n 0, 1) := by decide +kernel
theorem dX9_whatBehind_13 : decode cX9_whatBehind 13 = .ok (.getfield 109, 3) := by decide +kernel
theorem dX9_whatBehind_16 : decode cX9_whatBehind 16 = .ok (.aload_n 0, 1) := by decide +kernel
theorem dX9_whatBehind_17 : decode cX9_whatBehind 17 = .ok (.getfield 134, 3) := by decide +kernel
theorem dX9_whatBehind_20 : decode cX9_whatBehind 20 = .ok (.invokevirtual 144, 3) := by decide +kernel
theorem dX9_whatBehind_23 : decode cX9_whatBehind 23 = .ok (.istore_n 1, 1) := by decide +kernel
theorem dX9_whatBehind_24 : decode cX9_whatBehind 24 = .ok (.iload_n 1, 1) := by decide +kernel
theorem dX9_whatBehind_25 : decode cX9_whatBehind 25 = .ok (.iconst (-1), 1) := by decide +kernel
theorem dX9_whatBehind_26 : decode cX9_whatBehind 26 = .ok (.if_icmp .ne 5, 3) := by decide +kernel
theorem dX9_whatBehind_29 : decode cX9_whatBehind 29 = .ok (.iconst 2, 1) := by decide +kernel
theorem dX9_whatBehind_30 : decode cX9_whatBehind 30 = .ok (.ireturn, 1) := by decide +kernel
theorem dX9_whatBehind_31 : decode cX9_whatBehind 31 = .ok (.iload_n 1, 1) := by decide +kernel
theorem dX9_whatBehind_32 : decode cX9_whatBehind 32 = .ok (.aload_n 0, 1) := by decide +kernel
theorem dX9_whatBehind_33 : decode cX9_whatBehind 33 = .ok (.getfield 112, 3) := by decide +kernel
theorem dX9_whatBehind_36 : decode cX9_whatBehind 36 = .ok (.if_icmp .gt 5, 3) := by decide +kernel
theorem dX9_whatBehind_39 : decode cX9_whatBehind 39 = .ok (.iconst 1, 1) := by decide +kernel
theorem dX9_whatBehind_40 : decode cX9_whatBehind 40 = .ok (.ireturn, 1) := by decide +kernel
theorem dX9_whatBehind_41 : decode cX9_whatBehind 41 = .ok (.aload_n 0, 1) := by decide +kernel
theorem dX9_whatBehind_42 : decode cX9_whatBehind 42 = .ok (.aload_n 0, 1) := by decide +kernel
theorem dX9_whatBehind_43 : decode cX9_whatBehind 43 = .ok (.invokevirtual 148, 3) := by decide +kernel
theorem dX9_whatBehind_46 : decode cX9_whatBehind 46 = .ok (.invokevirtual 140, 3) := by decide +kernel
theorem dX9_whatBehind_49 : decode cX9_whatBehind 49 = .ok (.ifCond .eq 7, 3) := by decide +kernel
theorem dX9_whatBehind_52 : decode cX9_whatBehind 52 = .ok (.iconst 0, 1) := by decide +kernel
theorem dX9_whatBehind_53 : decode cX9_whatBehind 53 = .ok (.goto 15, 3) := by decide +kernel
theorem dX9_whatBehind_56 : decode cX9_whatBehind 56 = .ok (.aload_n 0, 1) := by decide +kernel
theorem dX9_whatBehind_57 : decode cX9_whatBehind 57 = .ok (.getfield 134, 3) := by decide +kernel
theorem dX9_whatBehind_60 : decode cX9_whatBehind 60 = .ok (.ifCond .eq 7, 3) := by decide +kernel
theorem dX9_whatBehind_63 : decode cX9_whatBehind 63 = .ok (.iconst 4, 1) := by decide +kernel
theorem dX9_whatBehind_64 : decode cX9_whatBehind 64 = .ok (.goto 4, 3) := by decide +kernel
theorem dX9_whatBehind_67 : decode cX9_whatBehind 67 = .ok (.iconst 3, 1) := by decide +kernel
theorem dX9_whatBehind_68 : decode cX9_whatBehind 68 = .ok (.ireturn, 1) := by decide +kernel
set_option maxRecDepth 20000 in
theorem ggX9_passOn_X9_ofLayer : GoodIn wsX9_passOn wsX9_ofLayer := goodIn_r _ [7, 8, 14, 15, 16, 17, 18, 19, 20, 21, 22, 23, 24, 25, 26, 27, 28, 29, 30, 31, 32, 33, 34, 35, 36, 37, 38, 39, 40, 41, 42, 43, 44, 45, 46, 47, 48, 49, 50, 51, 52, 53, 54] (by decide +kernel) (by decide +kernel)
set_option maxRecDepth 20000 in
theorem gX9_passOn_X9_ofLayer : GoodIn wsX9_passOn (wsV RX9 105 RX9 yX9_ofLayer wsX9_ofLayer) := goodIn_app (goodIn_of _ (by decide +kernel)) ggX9_passOn_X9_ofLayer
set_option maxRecDepth 20000 in
theorem ggX9_passOn_X9_layerAhead : GoodIn wsX9_passOn wsX9_layerAhead := goodIn_r _ [12, 13, 1, 14, 15, 16, 17, 18, 19, 20, 21, 22, 23, 24, 25, 26, 27, 28, 29, 30, 31, 32, 33, 34, 35, 36, 37, 38, 39, 40, 41, 42, 43, 44, 45, 46, 47, 48, 49, 50, 51, 52, 53, 54] (by decide +kernel) (by decide +kernel)
set_option maxRecDepth 20000 in
theorem gX9_passOn_X9_layerAhead : GoodIn wsX9_passOn (wsV RX9 148 RX9 yX9_layerAhead wsX9_layerAhead) := goodIn_app (goodIn_of _ (by decide +kernel)) ggX9_passOn_X9_layerAhead
theorem dX9_passOn_0 : decode cX9_passOn 0 = .ok (.aload_n 0, 1) := by decide +kernel
theorem dX9_passOn_1 : decode cX9_passOn 1 = .ok (.aload_n 0, 1) := by decide +kernel
theorem dX9_passOn_2 : decode cX9_passOn 2 = .ok (.getfield 109, 3) := by decide +kernel
theorem dX9_passOn_5 : decode cX9_passOn 5 = .ok (.iconst 0, 1) := by decide +kernel
theorem dX9_passOn_6 : decode cX9_passOn 6 = .ok (.invokevirtual 105, 3) := by decide +kernel
theorem dX9_passOn_9 : decode cX9_passOn 9 = .ok (.i2l, 1) := by decide +kernel
theorem dX9_passOn_10 : decode cX9_passOn 10 = .ok (.lstore_n 1, 1) := by decide +kernel
theorem dX9_passOn_11 : decode cX9_passOn 11 = .ok (.aload_n 0, 1) := by decide +kernel
theorem dX9_passOn_12 : decode cX9_passOn 12 = .ok (.aload_n 0, 1) := by decide +kernel
theorem dX9_passOn_13 : decode cX9_passOn 13 = .ok (.invokevirtual 148, 3) := by decide +kernel
theorem dX9_passOn_16 : decode cX9_passOn 16 = .ok (.iconst 0, 1) := by decide +kernel
theorem dX9_passOn_17 : decode cX9_passOn 17 = .ok (.invokevirtual 105, 3) := by decide +kernel
theorem dX9_passOn_20 : decode cX9_passOn 20 = .ok (.i2l, 1) := by decide +kernel
theorem dX9_passOn_21 : decode cX9_passOn 21 = .ok (.lstore_n 3, 1) := by decide +kernel
theorem dX9_passOn_22 : decode cX9_passOn 22 = .ok (.aload_n 0, 1) := by decide +kernel
theorem dX9_passOn_23 : decode cX9_passOn 23 = .ok (.dup, 1) := by decide +kernel
theorem dX9_passOn_24 : decode cX9_passOn 24 = .ok (.getfield 119, 3) := by decide +kernel
theorem dX9_passOn_27 : decode cX9_passOn 27 = .ok (.aload_n 0, 1) := by decide +kernel
theorem dX9_passOn_28 : decode cX9_passOn 28 = .ok (.getfield 119, 3) := by decide +kernel
theorem dX9_passOn_31 : decode cX9_passOn 31 = .ok (.lload_n 1, 1) := by decide +kernel
theorem dX9_passOn_32 : decode cX9_passOn 32 = .ok (.lload_n 3, 1) := by decide +kernel
theorem dX9_passOn_33 : decode cX9_passOn 33 = .ok (.lsub, 1) := by decide +kernel
theorem dX9_passOn_34 : decode cX9_passOn 34 = .ok (.lmul, 1) := by decide +kernel
theorem dX9_passOn_35 : decode cX9_passOn 35 = .ok (.lload_n 1, 1) := by decide +kernel
theorem dX9_passOn_36 : decode cX9_passOn 36 = .ok (.lload_n 3, 1) := by decide +kernel
theorem dX9_passOn_37 : decode cX9_passOn 37 = .ok (.lsub, 1) := by decide +kernel
theorem dX9_passOn_38 : decode cX9_passOn 38 = .ok (.lmul, 1) := by decide +kernel
theorem dX9_passOn_39 : decode cX9_passOn 39 = .ok (.lload_n 1, 1) := by decide +kernel
theorem dX9_passOn_40 : decode cX9_passOn 40 = .ok (.lload_n 3, 1) := by decide +kernel
theorem dX9_passOn_41 : decode cX9_passOn 41 = .ok (.ladd, 1) := by decide +kernel
theorem dX9_passOn_42 : decode cX9_passOn 42 = .ok (.lload_n 1, 1) := by decide +kernel
theorem dX9_passOn_43 : decode cX9_passOn 43 = .ok (.lload_n 3, 1) := by decide +kernel
theorem dX9_passOn_44 : decode cX9_passOn 44 = .ok (.ladd, 1) := by decide +kernel
theorem dX9_passOn_45 : decode cX9_passOn 45 = .ok (.lmul, 1) := by decide +kernel
theorem dX9_passOn_46 : decode cX9_passOn 46 = .ok (.ldiv, 1) := by decide +kernel
theorem dX9_passOn_47 : decode cX9_passOn 47 = .ok (.lsub, 1) := by decide +kernel
theorem dX9_passOn_48 : decode cX9_passOn 48 = .ok (.putfield 119, 3) := by decide +kernel
theorem dX9_passOn_51 : decode cX9_passOn 51 = .ok (.aload_n 0, 1) := by decide +kernel
theorem dX9_passOn_52 : decode cX9_passOn 52 = .ok (.aload_n 0, 1) := by decide +kernel
theorem dX9_passOn_53 : decode cX9_passOn 53 = .ok (.invokevirtual 148, 3) := by decide +kernel
theorem dX9_passOn_56 : decode cX9_passOn 56 = .ok (.putfield 109, 3) := by decide +kernel
theorem dX9_passOn_59 : decode cX9_passOn 59 = .ok (.return_, 1) := by decide +kernel
theorem dX9_endBy_0 : decode cX9_endBy 0 = .ok (.iload_n 1, 1) := by decide +kernel
theorem dX9_endBy_1 : decode cX9_endBy 1 = .ok (.tableswitch 33 3 5 #[27, 29, 31], 27) := by decide +kernel
theorem dX9_endBy_28 : decode cX9_endBy 28 = .ok (.iconst 0, 1) := by decide +kernel
theorem dX9_endBy_29 : decode cX9_endBy 29 = .ok (.ireturn, 1) := by decide +kernel
theorem dX9_endBy_30 : decode cX9_endBy 30 = .ok (.iconst 1, 1) := by decide +kernel
theorem dX9_endBy_31 : decode cX9_endBy 31 = .ok (.ireturn, 1) := by decide +kernel
theorem dX9_endBy_32 : decode cX9_endBy 32 = .ok (.iconst 2, 1) := by decide +kernel
theorem dX9_endBy_33 : decode cX9_endBy 33 = .ok (.ireturn, 1) := by decide +kernel
theorem dX9_endBy_34 : decode cX9_endBy 34 = .ok (.aload_n 0, 1) := by decide +kernel
theorem dX9_endBy_35 : decode cX9_endBy 35 = .ok (.getfield 131, 3) := by decide +kernel
theorem dX9_endBy_38 : decode cX9_endBy 38 = .ok (.bipush 60, 2) := by decide +kernel
theorem dX9_endBy_40 : decode cX9_endBy 40 = .ok (.if_icmp .ne 7, 3) := by decide +kernel
theorem dX9_endBy_43 : decode cX9_endBy 43 = .ok (.iconst 3, 1) := by decide +kernel
theorem dX9_endBy_44 : decode cX9_endBy 44 = .ok (.goto 4, 3) := by decide +kernel
theorem dX9_endBy_47 : decode cX9_endBy 47 = .ok (.iconst (-1), 1) := by decide +kernel
theorem dX9_endBy_48 : decode cX9_endBy 48 = .ok (.ireturn, 1) := by decide +kernel
theorem dX9_mirror_0 : decode cX9_mirror 0 = .ok (.aload_n 0, 1) := by decide +kernel
theorem dX9_mirror_1 : decode cX9_mirror 1 = .ok (.dup, 1) := by decide +kernel
theorem dX9_mirror_2 : decode cX9_mirror 2 = .ok (.getfield 151, 3) := by decide +kernel
theorem dX9_mirror_5 : decode cX9_mirror 5 = .ok (.iconst 1, 1) := by decide +kernel
theorem dX9_mirror_6 : decode cX9_mirror 6 = .ok (.iadd, 1) := by decide +kernel
theorem dX9_mirror_7 : decode cX9_mirror 7 = .ok (.putfield 151, 3) := by decide +kernel
theorem dX9_mirror_10 : decode cX9_mirror 10 = .ok (.aload_n 0, 1) := by decide +kernel
theorem dX9_mirror_11 : decode cX9_mirror 11 = .ok (.aload_n 0, 1) := by decide +kernel
theorem dX9_mirror_12 : decode cX9_mirror 12 = .ok (.getfield 119, 3) := by decide +kernel
theorem dX9_mirror_15 : decode cX9_mirror 15 = .ok (.aload_n 0, 1) := by decide +kernel
theorem dX9_mirror_16 : decode cX9_mirror 16 = .ok (.getfield 24, 3) := by decide +kernel
theorem dX9_mirror_19 : decode cX9_mirror 19 = .ok (.iconst 3, 1) := by decide +kernel
theorem dX9_mirror_20 : decode cX9_mirror 20 = .ok (.iaload, 1) := by decide +kernel
theorem dX9_mirror_21 : decode cX9_mirror 21 = .ok (.i2l, 1) := by decide +kernel
theorem dX9_mirror_22 : decode cX9_mirror 22 = .ok (.lmul, 1) := by decide +kernel
theorem dX9_mirror_23 : decode cX9_mirror 23 = .ok (.ldc2_w 154, 3) := by decide +kernel
theorem dX9_mirror_26 : decode cX9_mirror 26 = .ok (.ldiv, 1) := by decide +kernel
theorem dX9_mirror_27 : decode cX9_mirror 27 = .ok (.putfield 119, 3) := by decide +kernel
theorem dX9_mirror_30 : decode cX9_mirror 30 = .ok (.aload_n 0, 1) := by decide +kernel
theorem dX9_mirror_31 : decode cX9_mirror 31 = .ok (.iconst 0, 1) := by decide +kernel
theorem dX9_mirror_32 : decode cX9_mirror 32 = .ok (.putfield 134, 3) := by decide +kernel
theorem dX9_mirror_35 : decode cX9_mirror 35 = .ok (.aload_n 0, 1) := by decide +kernel
theorem dX9_mirror_36 : decode cX9_mirror 36 = .ok (.getfield 119, 3) := by decide +kernel
theorem dX9_mirror_39 : decode cX9_mirror 39 = .ok (.lconst 0, 1) := by decide +kernel
theorem dX9_mirror_40 : decode cX9_mirror 40 = .ok (.lcmp, 1) := by decide +kernel
theorem dX9_mirror_41 : decode cX9_mirror 41 = .ok (.ifCond .ne 20, 3) := by decide +kernel
theorem dX9_mirror_44 : decode cX9_mirror 44 = .ok (.aload_n 0, 1) := by decide +kernel
theorem dX9_mirror_45 : decode cX9_mirror 45 = .ok (.getfield 46, 3) := by decide +kernel
theorem dX9_mirror_48 : decode cX9_mirror 48 = .ok (.aload_n 0, 1) := by decide +kernel
theorem dX9_mirror_49 : decode cX9_mirror 49 = .ok (.getfield 131, 3) := by decide +kernel
theorem dX9_mirror_52 : decode cX9_mirror 52 = .ok (.iconst 1, 1) := by decide +kernel
theorem dX9_mirror_53 : decode cX9_mirror 53 = .ok (.isub, 1) := by decide +kernel
theorem dX9_mirror_54 : decode cX9_mirror 54 = .ok (.iconst 5, 1) := by decide +kernel
theorem dX9_mirror_55 : decode cX9_mirror 55 = .ok (.iastore, 1) := by decide +kernel
theorem dX9_mirror_56 : decode cX9_mirror 56 = .ok (.aload_n 0, 1) := by decide +kernel
theorem dX9_mirror_57 : decode cX9_mirror 57 = .ok (.iconst 2, 1) := by decide +kernel
theorem dX9_mirror_58 : decode cX9_mirror 58 = .ok (.putfield 156, 3) := by decide +kernel
theorem dX9_mirror_61 : decode cX9_mirror 61 = .ok (.return_, 1) := by decide +kernel
set_option maxRecDepth 20000 in
theorem ggX9_goOnBy_X9_passOn : GoodIn wsX9_goOnBy wsX9_passOn := goodIn_r _ [6, 7, 8, 9, 10, 11, 5, 12, 13, 14, 15, 16, 17, 1, 27, 28, 29, 30, 31, 32, 33, 34, 35, 36, 37, 38, 39, 40, 41, 42, 43, 44, 45, 46, 47, 48, 49, 50, 51, 52, 53, 54, 55, 56, 57, 58, 59, 60, 61, 62, 63, 64, 65, 66, 67] (by decide +kernel) (by decide +kernel)
set_option maxRecDepth 20000 in
theorem gX9_goOnBy_X9_passOn : GoodIn wsX9_goOnBy (wsV RX9 159 RX9 yX9_passOn wsX9_passOn) := goodIn_app (goodIn_of _ (by decide +kernel)) ggX9_goOnBy_X9_passOn
set_option maxRecDepth 20000 in
theorem ggX9_goOnBy_X9_mirror : GoodIn wsX9_goOnBy wsX9_mirror := goodIn_r _ [21, 22, 8, 13, 23, 1, 24, 25, 26, 27, 28, 29, 30, 31, 32, 33, 34, 35, 36, 37, 38, 39, 40, 41, 42, 43, 44, 45, 46, 47, 48, 49, 50, 51, 52, 53, 54, 55, 56, 57, 58, 59, 60, 61, 62, 63, 64, 65, 66, 67] (by decide +kernel) (by decide +kernel)
set_option maxRecDepth 20000 in
theorem gX9_goOnBy_X9_mirror : GoodIn wsX9_goOnBy (wsV RX9 162 RX9 yX9_mirror wsX9_mirror) := goodIn_app (goodIn_of _ (by decide +kernel)) ggX9_goOnBy_X9_mirror
theorem dX9_goOnBy_0 : decode cX9_goOnBy 0 = .ok (.iload_n 1, 1) := by decide +kernel
theorem dX9_goOnBy_1 : decode cX9_goOnBy 1 = .ok (.ifCond .ne 10, 3) := by decide +kernel
theorem dX9_goOnBy_4 : decode cX9_goOnBy 4 = .ok (.aload_n 0, 1) := by decide +kernel
theorem dX9_goOnBy_5 : decode cX9_goOnBy 5 = .ok (.invokevirtual 159, 3) := by decide +kernel
theorem dX9_goOnBy_8 : decode cX9_goOnBy 8 = .ok (.goto 31, 3) := by decide +kernel
theorem dX9_goOnBy_11 : decode cX9_goOnBy 11 = .ok (.iload_n 1, 1) := by decide +kernel
theorem dX9_goOnBy_12 : decode cX9_goOnBy 12 = .ok (.iconst 2, 1) := by decide +kernel
theorem dX9_goOnBy_13 : decode cX9_goOnBy 13 = .ok (.if_icmp .ne 10, 3) := by decide +kernel
theorem dX9_goOnBy_16 : decode cX9_goOnBy 16 = .ok (.aload_n 0, 1) := by decide +kernel
theorem dX9_goOnBy_17 : decode cX9_goOnBy 17 = .ok (.invokevirtual 162, 3) := by decide +kernel
theorem dX9_goOnBy_20 : decode cX9_goOnBy 20 = .ok (.goto 19, 3) := by decide +kernel
theorem dX9_goOnBy_23 : decode cX9_goOnBy 23 = .ok (.aload_n 0, 1) := by decide +kernel
theorem dX9_goOnBy_24 : decode cX9_goOnBy 24 = .ok (.aload_n 0, 1) := by decide +kernel
theorem dX9_goOnBy_25 : decode cX9_goOnBy 25 = .ok (.getfield 134, 3) := by decide +kernel
theorem dX9_goOnBy_28 : decode cX9_goOnBy 28 = .ok (.ifCond .ne 7, 3) := by decide +kernel
theorem dX9_goOnBy_31 : decode cX9_goOnBy 31 = .ok (.iconst 1, 1) := by decide +kernel
theorem dX9_goOnBy_32 : decode cX9_goOnBy 32 = .ok (.goto 4, 3) := by decide +kernel
theorem dX9_goOnBy_35 : decode cX9_goOnBy 35 = .ok (.iconst 0, 1) := by decide +kernel
theorem dX9_goOnBy_36 : decode cX9_goOnBy 36 = .ok (.putfield 134, 3) := by decide +kernel
theorem dX9_goOnBy_39 : decode cX9_goOnBy 39 = .ok (.return_, 1) := by decide +kernel
set_option maxRecDepth 20000 in
theorem ggX9_follow_X9_isLayer : GoodIn wsX9_follow wsX9_isLayer := goodIn_r _ [14, 15, 16, 17, 13, 18, 19, 20, 21, 22, 74, 75, 76, 77, 78, 79, 80, 81, 82, 83, 84, 85, 86, 87, 88, 89, 90, 91, 92, 93, 94, 95, 96, 97, 98, 99, 100, 101, 102, 103, 104, 105, 106, 107, 108, 109, 110, 111, 112, 113, 114] (by decide +kernel) (by decide +kernel)
set_option maxRecDepth 20000 in
theorem gX9_follow_X9_isLayer : GoodIn wsX9_follow (wsV RX9 140 RX9 yX9_isLayer wsX9_isLayer) := goodIn_app (goodIn_of _ (by decide +kernel)) ggX9_follow_X9_isLayer
set_option maxRecDepth 20000 in
theorem ggX9_follow_X9_ofLayer : GoodIn wsX9_follow wsX9_ofLayer := goodIn_r _ [26, 19, 74, 75, 76, 77, 78, 79, 80, 81, 82, 83, 84, 85, 86, 87, 88, 89, 90, 91, 92, 93, 94, 95, 96, 97, 98, 99, 100, 101, 102, 103, 104, 105, 106, 107, 108, 109, 110, 111, 112, 113, 114] (by decide +kernel) (by decide +kernel)
set_option maxRecDepth 20000 in
theorem gX9_follow_X9_ofLayer : GoodIn wsX9_follow (wsV RX9 105 RX9 yX9_ofLayer wsX9_ofLayer) := goodIn_app (goodIn_of _ (by decide +kernel)) ggX9_follow_X9_ofLayer
set_option maxRecDepth 20000 in
theorem ggX9_follow_X9_crossLayer : GoodIn wsX9_follow wsX9_crossLayer := goodIn_r _ [30, 6, 8, 4, 3, 31, 32, 33, 34, 35, 1, 36, 7, 37, 38, 39, 40, 41, 23, 24, 25, 13, 26, 19, 42, 43, 44, 74, 75, 76, 77, 78, 79, 80, 81, 82, 83, 84, 85, 86, 87, 88, 89, 90, 91, 92, 93, 94, 95, 96, 97, 98, 99, 100, 101, 102, 103, 104, 105, 106, 107, 108, 109, 110, 111, 112, 113, 114] (by decide +kernel) (by decide +kernel)
set_option maxRecDepth 20000 in
theorem gX9_follow_X9_crossLayer : GoodIn wsX9_follow (wsV RX9 165 RX9 yX9_crossLayer wsX9_crossLayer) := goodIn_app (goodIn_of _ (by decide +kernel)) ggX9_follow_X9_crossLayer
set_option maxRecDepth 20000 in
theorem ggX9_follow_X9_whatBehind : GoodIn wsX9_follow wsX9_whatBehind := goodIn_r _ [48, 4, 6, 7, 8, 49, 50, 51, 13, 52, 19, 10, 11, 12, 14, 15, 16, 17, 18, 20, 21, 22, 23, 24, 25, 26, 53, 54, 55, 56, 74, 75, 76, 77, 78, 79, 80, 81, 82, 83, 84, 85, 86, 87, 88, 89, 90, 91, 92, 93, 94, 95, 96, 97, 98, 99, 100, 101, 102, 103, 104, 105, 106, 107, 108, 109, 110, 111, 112, 113, 114] (by decide +kernel) (by decide +kernel)
set_option maxRecDepth 20000 in
theorem gX9_follow_X9_whatBehind : GoodIn wsX9_follow (wsV RX9 168 RX9 yX9_whatBehind wsX9_whatBehind) := goodIn_app (goodIn_of _ (by decide +kernel)) ggX9_follow_X9_whatBehind
set_option maxRecDepth 20000 in
theorem ggX9_follow_X9_endBy : GoodIn wsX9_follow wsX9_endBy := goodIn_r _ [60, 1, 74, 75, 76, 77, 78, 79, 80, 81, 82, 83, 84, 85, 86, 87, 88, 89, 90, 91, 92, 93, 94, 95, 96, 97, 98, 99, 100, 101, 102, 103, 104, 105, 106, 107, 108, 109, 110, 111, 112, 113, 114] (by decide +kernel) (by decide +kernel)
set_option maxRecDepth 20000 in
theorem gX9_follow_X9_endBy : GoodIn wsX9_follow (wsV RX9 171 RX9 yX9_endBy wsX9_endBy) := goodIn_app (goodIn_of _ (by decide +kernel)) ggX9_follow_X9_endBy
set_option maxRecDepth 20000 in
theorem ggX9_follow_X9_goOnBy : GoodIn wsX9_follow wsX9_goOnBy := goodIn_r _ [64, 7, 65, 66, 67, 13, 68, 6, 4, 23, 24, 25, 26, 19, 53, 54, 55, 56, 69, 70, 71, 72, 2, 73, 9, 1, 5, 74, 75, 76, 77, 78, 79, 80, 81, 82, 83, 84, 85, 86, 87, 88, 89, 90, 91, 92, 93, 94, 95, 96, 97, 98, 99, 100, 101, 102, 103, 104, 105, 106, 107, 108, 109, 110, 111, 112, 113, 114] (by decide +kernel) (by decide +kernel)
set_option maxRecDepth 20000 in
theorem gX9_follow_X9_goOnBy : GoodIn wsX9_follow (wsV RX9 174 RX9 yX9_goOnBy wsX9_goOnBy) := goodIn_app (goodIn_of _ (by decide +kernel)) ggX9_follow_X9_goOnBy
theorem dX9_follow_0 : decode cX9_follow 0 = .ok (.aload_n 0, 1) := by decide +kernel
theorem dX9_follow_1 : decode cX9_follow 1 = .ok (.iconst 0, 1) := by decide +kernel
theorem dX9_follow_2 : decode cX9_follow 2 = .ok (.putfield 131, 3) := by decide +kernel
theorem dX9_follow_5 : decode cX9_follow 5 = .ok (.aload_n 0, 1) := by decide +kernel
theorem dX9_follow_6 : decode cX9_follow 6 = .ok (.iconst 0, 1) := by decide +kernel
theorem dX9_follow_7 : decode cX9_follow 7 = .ok (.putfield 151, 3) := by decide +kernel
theorem dX9_follow_10 : decode cX9_follow 10 = .ok (.aload_n 0, 1) := by decide +kernel
theorem dX9_follow_11 : decode cX9_follow 11 = .ok (.ldc2_w 123, 3) := by decide +kernel
theorem dX9_follow_14 : decode cX9_follow 14 = .ok (.putfield 119, 3) := by decide +kernel
theorem dX9_follow_17 : decode cX9_follow 17 = .ok (.aload_n 0, 1) := by decide +kernel
theorem dX9_follow_18 : decode cX9_follow 18 = .ok (.iconst 4, 1) := by decide +kernel
theorem dX9_follow_19 : decode cX9_follow 19 = .ok (.putfield 156, 3) := by decide +kernel
theorem dX9_follow_22 : decode cX9_follow 22 = .ok (.aload_n 0, 1) := by decide +kernel
theorem dX9_follow_23 : decode cX9_follow 23 = .ok (.iload_n 1, 1) := by decide +kernel
theorem dX9_follow_24 : decode cX9_follow 24 = .ok (.invokevirtual 140, 3) := by decide +kernel
theorem dX9_follow_27 : decode cX9_follow 27 = .ok (.ifCond .eq 13, 3) := by decide +kernel
theorem dX9_follow_30 : decode cX9_follow 30 = .ok (.iload_n 3, 1) := by decide +kernel
theorem dX9_follow_31 : decode cX9_follow 31 = .ok (.aload_n 0, 1) := by decide +kernel
theorem dX9_follow_32 : decode cX9_follow 32 = .ok (.iload_n 1, 1) := by decide +kernel
theorem dX9_follow_33 : decode cX9_follow 33 = .ok (.iconst 0, 1) := by decide +kernel
theorem dX9_follow_34 : decode cX9_follow 34 = .ok (.invokevirtual 105, 3) := by decide +kernel
theorem dX9_follow_37 : decode cX9_follow 37 = .ok (.if_icmp .lt 9, 3) := by decide +kernel
theorem dX9_follow_40 : decode cX9_follow 40 = .ok (.aload_n 0, 1) := by decide +kernel
theorem dX9_follow_41 : decode cX9_follow 41 = .ok (.lconst 0, 1) := by decide +kernel
theorem dX9_follow_42 : decode cX9_follow 42 = .ok (.putfield 119, 3) := by decide +kernel
theorem dX9_follow_45 : decode cX9_follow 45 = .ok (.return_, 1) := by decide +kernel
theorem dX9_follow_46 : decode cX9_follow 46 = .ok (.aload_n 0, 1) := by decide +kernel
theorem dX9_follow_47 : decode cX9_follow 47 = .ok (.iload_n 1, 1) := by decide +kernel
theorem dX9_follow_48 : decode cX9_follow 48 = .ok (.putfield 109, 3) := by decide +kernel
theorem dX9_follow_51 : decode cX9_follow 51 = .ok (.aload_n 0, 1) := by decide +kernel
theorem dX9_follow_52 : decode cX9_follow 52 = .ok (.iload_n 2, 1) := by decide +kernel
theorem dX9_follow_53 : decode cX9_follow 53 = .ok (.putfield 134, 3) := by decide +kernel
theorem dX9_follow_56 : decode cX9_follow 56 = .ok (.aload_n 0, 1) := by decide +kernel
theorem dX9_follow_57 : decode cX9_follow 57 = .ok (.iload_n 3, 1) := by decide +kernel
theorem dX9_follow_58 : decode cX9_follow 58 = .ok (.putfield 112, 3) := by decide +kernel
theorem dX9_follow_61 : decode cX9_follow 61 = .ok (.aload_n 0, 1) := by decide +kernel
theorem dX9_follow_62 : decode cX9_follow 62 = .ok (.iconst (-1), 1) := by decide +kernel
theorem dX9_follow_63 : decode cX9_follow 63 = .ok (.putfield 156, 3) := by decide +kernel
theorem dX9_follow_66 : decode cX9_follow 66 = .ok (.aload_n 0, 1) := by decide +kernel
theorem dX9_follow_67 : decode cX9_follow 67 = .ok (.getfield 156, 3) := by decide +kernel
theorem dX9_follow_70 : decode cX9_follow 70 = .ok (.iconst (-1), 1) := by decide +kernel
theorem dX9_follow_71 : decode cX9_follow 71 = .ok (.if_icmp .ne 66, 3) := by decide +kernel
theorem dX9_follow_74 : decode cX9_follow 74 = .ok (.aload_n 0, 1) := by decide +kernel
theorem dX9_follow_75 : decode cX9_follow 75 = .ok (.invokevirtual 165, 3) := by decide +kernel
theorem dX9_follow_78 : decode cX9_follow 78 = .ok (.aload_n 0, 1) := by decide +kernel
theorem dX9_follow_79 : decode cX9_follow 79 = .ok (.invokevirtual 168, 3) := by decide +kernel
theorem dX9_follow_82 : decode cX9_follow 82 = .ok (.istore 4, 2) := by decide +kernel
theorem dX9_follow_84 : decode cX9_follow 84 = .ok (.aload_n 0, 1) := by decide +kernel
theorem dX9_follow_85 : decode cX9_follow 85 = .ok (.aload_n 0, 1) := by decide +kernel
theorem dX9_follow_86 : decode cX9_follow 86 = .ok (.iload 4, 2) := by decide +kernel
theorem dX9_follow_88 : decode cX9_follow 88 = .ok (.invokevirtual 171, 3) := by decide +kernel
theorem dX9_follow_91 : decode cX9_follow 91 = .ok (.putfield 156, 3) := by decide +kernel
theorem dX9_follow_94 : decode cX9_follow 94 = .ok (.aload_n 0, 1) := by decide +kernel
theorem dX9_follow_95 : decode cX9_follow 95 = .ok (.getfield 46, 3) := by decide +kernel
theorem dX9_follow_98 : decode cX9_follow 98 = .ok (.aload_n 0, 1) := by decide +kernel
theorem dX9_follow_99 : decode cX9_follow 99 = .ok (.getfield 131, 3) := by decide +kernel
theorem dX9_follow_102 : decode cX9_follow 102 = .ok (.iconst 1, 1) := by decide +kernel
theorem dX9_follow_103 : decode cX9_follow 103 = .ok (.isub, 1) := by decide +kernel
theorem dX9_follow_104 : decode cX9_follow 104 = .ok (.aload_n 0, 1) := by decide +kernel
theorem dX9_follow_105 : decode cX9_follow 105 = .ok (.getfield 156, 3) := by decide +kernel
theorem dX9_follow_108 : decode cX9_follow 108 = .ok (.iconst 3, 1) := by decide +kernel
theorem dX9_follow_109 : decode cX9_follow 109 = .ok (.if_icmp .ne 8, 3) := by decide +kernel
theorem dX9_follow_112 : decode cX9_follow 112 = .ok (.bipush 6, 2) := by decide +kernel
theorem dX9_follow_114 : decode cX9_follow 114 = .ok (.goto 5, 3) := by decide +kernel
theorem dX9_follow_117 : decode cX9_follow 117 = .ok (.iload 4, 2) := by decide +kernel
theorem dX9_follow_119 : decode cX9_follow 119 = .ok (.iastore, 1) := by decide +kernel
theorem dX9_follow_120 : decode cX9_follow 120 = .ok (.aload_n 0, 1) := by decide +kernel
theorem dX9_follow_121 : decode cX9_follow 121 = .ok (.getfield 156, 3) := by decide +kernel
theorem dX9_follow_124 : decode cX9_follow 124 = .ok (.iconst (-1), 1) := by decide +kernel
theorem dX9_follow_125 : decode cX9_follow 125 = .ok (.if_icmp .ne 9, 3) := by decide +kernel
theorem dX9_follow_128 : decode cX9_follow 128 = .ok (.aload_n 0, 1) := by decide +kernel
theorem dX9_follow_129 : decode cX9_follow 129 = .ok (.iload 4, 2) := by decide +kernel
theorem dX9_follow_131 : decode cX9_follow 131 = .ok (.invokevirtual 174, 3) := by decide +kernel
theorem dX9_follow_134 : decode cX9_follow 134 = .ok (.goto (-68), 3) := by decide +kernel
theorem dX9_follow_137 : decode cX9_follow 137 = .ok (.return_, 1) := by decide +kernel
set_option maxRecDepth 20000 in
theorem ggX9_followShot_X9_ofShot : GoodIn wsX9_followShot wsX9_ofShot := goodIn_r _ [5, 6, 82, 83, 84, 85, 86, 87, 88, 89, 90, 91, 92, 93, 94, 95, 96, 97, 98, 99, 100, 101, 102, 103, 104, 105, 106, 107, 108, 109, 110, 111, 112, 113, 114, 115, 116, 117, 118, 119, 120, 121, 122] (by decide +kernel) (by decide +kernel)
set_option maxRecDepth 20000 in
theorem gX9_followShot_X9_ofShot : GoodIn wsX9_followShot (wsV RX9 178 RX9 yX9_ofShot wsX9_ofShot) := goodIn_app (goodIn_of _ (by decide +kernel)) ggX9_followShot_X9_ofShot
set_option maxRecDepth 20000 in
theorem ggX9_followShot_X9_follow : GoodIn wsX9_followShot wsX9_follow := goodIn_r _ [10, 11, 12, 13, 14, 15, 16, 17, 18, 19, 20, 21, 22, 4, 23, 24, 25, 26, 27, 6, 28, 29, 30, 31, 32, 33, 34, 35, 36, 37, 38, 39, 40, 41, 42, 43, 44, 45, 46, 47, 48, 49, 50, 51, 52, 53, 54, 55, 56, 57, 58, 59, 60, 61, 62, 63, 64, 65, 66, 67, 68, 69, 70, 71, 72, 73, 74, 75, 76, 77, 78, 79, 80, 81, 82, 83, 84, 85, 86, 87, 88, 89, 90, 91, 92, 93, 94, 95, 96, 97, 98, 99, 100, 101, 102, 103, 104, 105, 106, 107, 108, 109, 110, 111, 112, 113, 114, 115, 116, 117, 118, 119, 120, 121, 122] (by decide +kernel) (by decide +kernel)
set_option maxRecDepth 20000 in
theorem gX9_followShot_X9_follow : GoodIn wsX9_followShot (wsV RX9 181 RX9 yX9_follow wsX9_follow) := goodIn_app (goodIn_of _ (by decide +kernel)) ggX9_followShot_X9_follow
theorem dX9_followShot_0 : decode cX9_followShot 0 = .ok (.aload_n 0, 1) := by decide +kernel
theorem dX9_followShot_1 : decode cX9_followShot 1 = .ok (.aload_n 0, 1) := by decide +kernel
theorem dX9_followShot_2 : decode cX9_followShot 2 = .ok (.iload_n 1, 1) := by decide +kernel
theorem dX9_followShot_3 : decode cX9_followShot 3 = .ok (.iconst 0, 1) := by decide +kernel
theorem dX9_followShot_4 : decode cX9_followShot 4 = .ok (.invokevirtual 178, 3) := by decide +kernel
theorem dX9_followShot_7 : decode cX9_followShot 7 = .ok (.aload_n 0, 1) := by decide +kernel
theorem dX9_followShot_8 : decode cX9_followShot 8 = .ok (.iload_n 1, 1) := by decide +kernel
theorem dX9_followShot_9 : decode cX9_followShot 9 = .ok (.iconst 1, 1) := by decide +kernel
theorem dX9_followShot_10 : decode cX9_followShot 10 = .ok (.invokevirtual 178, 3) := by decide +kernel
theorem dX9_followShot_13 : decode cX9_followShot 13 = .ok (.iconst 1, 1) := by decide +kernel
theorem dX9_followShot_14 : decode cX9_followShot 14 = .ok (.if_icmp .ne 7, 3) := by decide +kernel
theorem dX9_followShot_17 : decode cX9_followShot 17 = .ok (.iconst 1, 1) := by decide +kernel
theorem dX9_followShot_18 : decode cX9_followShot 18 = .ok (.goto 4, 3) := by decide +kernel
theorem dX9_followShot_21 : decode cX9_followShot 21 = .ok (.iconst 0, 1) := by decide +kernel
theorem dX9_followShot_22 : decode cX9_followShot 22 = .ok (.aload_n 0, 1) := by decide +kernel
theorem dX9_followShot_23 : decode cX9_followShot 23 = .ok (.iload_n 1, 1) := by decide +kernel
theorem dX9_followShot_24 : decode cX9_followShot 24 = .ok (.iconst 2, 1) := by decide +kernel
theorem dX9_followShot_25 : decode cX9_followShot 25 = .ok (.invokevirtual 178, 3) := by decide +kernel
theorem dX9_followShot_28 : decode cX9_followShot 28 = .ok (.invokevirtual 181, 3) := by decide +kernel
theorem dX9_followShot_31 : decode cX9_followShot 31 = .ok (.return_, 1) := by decide +kernel
set_option maxRecDepth 20000 in
theorem ggX9_endOfShot_X9_followShot : GoodIn wsX9_endOfShot wsX9_followShot := goodIn_r _ [6, 7, 8, 9, 5, 10, 11, 12, 13, 14, 15, 16, 17, 18, 19, 1, 20, 21, 22, 23, 24, 25, 26, 27, 28, 29, 30, 31, 32, 33, 34, 35, 36, 37, 38, 39, 40, 41, 42, 43, 44, 45, 46, 47, 48, 49, 50, 51, 52, 53, 54, 55, 56, 57, 58, 59, 60, 61, 62, 63, 64, 65, 66, 67, 68, 69, 70, 71, 72, 73, 74, 75, 76, 77, 78, 79, 80, 81, 82, 83, 84, 85, 86, 87, 88, 89, 90, 91, 92, 93, 94, 95, 96, 97, 98, 99, 100, 101, 102, 103, 104, 105, 106, 107, 108, 109, 110, 111, 112, 113, 114, 115, 116, 117, 118, 119, 120, 121, 122, 123, 124, 125, 126] (by decide +kernel) (by decide +kernel)
set_option maxRecDepth 20000 in
theorem gX9_endOfShot_X9_followShot : GoodIn wsX9_endOfShot (wsV RX9 185 RX9 yX9_followShot wsX9_followShot) := goodIn_app (goodIn_of _ (by decide +kernel)) ggX9_endOfShot_X9_followShot
theorem dX9_endOfShot_0 : decode cX9_endOfShot 0 = .ok (.aload_n 0, 1) := by decide +kernel
theorem dX9_endOfShot_1 : decode cX9_endOfShot 1 = .ok (.iload_n 1, 1) := by decide +kernel
theorem dX9_endOfShot_2 : decode cX9_endOfShot 2 = .ok (.invokevirtual 185, 3) := by decide +kernel
theorem dX9_endOfShot_5 : decode cX9_endOfShot 5 = .ok (.aload_n 0, 1) := by decide +kernel
theorem dX9_endOfShot_6 : decode cX9_endOfShot 6 = .ok (.getfield 156, 3) := by decide +kernel
theorem dX9_endOfShot_9 : decode cX9_endOfShot 9 = .ok (.ireturn, 1) := by decide +kernel
theorem dX9_sumUp_0 : decode cX9_sumUp 0 = .ok (.iconst 0, 1) := by decide +kernel
theorem dX9_sumUp_1 : decode cX9_sumUp 1 = .ok (.istore_n 2, 1) := by decide +kernel
theorem dX9_sumUp_2 : decode cX9_sumUp 2 = .ok (.iconst 0, 1) := by decide +kernel
theorem dX9_sumUp_3 : decode cX9_sumUp 3 = .ok (.istore_n 3, 1) := by decide +kernel
theorem dX9_sumUp_4 : decode cX9_sumUp 4 = .ok (.iload_n 3, 1) := by decide +kernel
theorem dX9_sumUp_5 : decode cX9_sumUp 5 = .ok (.iload_n 1, 1) := by decide +kernel
theorem dX9_sumUp_6 : decode cX9_sumUp 6 = .ok (.if_icmp .ge 15, 3) := by decide +kernel
theorem dX9_sumUp_9 : decode cX9_sumUp 9 = .ok (.iload_n 2, 1) := by decide +kernel
theorem dX9_sumUp_10 : decode cX9_sumUp 10 = .ok (.aload_n 0, 1) := by decide +kernel
theorem dX9_sumUp_11 : decode cX9_sumUp 11 = .ok (.iload_n 3, 1) := by decide +kernel
theorem dX9_sumUp_12 : decode cX9_sumUp 12 = .ok (.iaload, 1) := by decide +kernel
theorem dX9_sumUp_13 : decode cX9_sumUp 13 = .ok (.iadd, 1) := by decide +kernel
theorem dX9_sumUp_14 : decode cX9_sumUp 14 = .ok (.istore_n 2, 1) := by decide +kernel
theorem dX9_sumUp_15 : decode cX9_sumUp 15 = .ok (.iinc 3 1, 3) := by decide +kernel
theorem dX9_sumUp_18 : decode cX9_sumUp 18 = .ok (.goto (-14), 3) := by decide +kernel
theorem dX9_sumUp_21 : decode cX9_sumUp 21 = .ok (.iload_n 2, 1) := by decide +kernel
theorem dX9_sumUp_22 : decode cX9_sumUp 22 = .ok (.ireturn, 1) := by decide +kernel
theorem dX9_happened_0 : decode cX9_happened 0 = .ok (.iconst 0, 1) := by decide +kernel
theorem dX9_happened_1 : decode cX9_happened 1 = .ok (.istore_n 2, 1) := by decide +kernel
theorem dX9_happened_2 : decode cX9_happened 2 = .ok (.iconst 0, 1) := by decide +kernel
theorem dX9_happened_3 : decode cX9_happened 3 = .ok (.istore_n 3, 1) := by decide +kernel
theorem dX9_happened_4 : decode cX9_happened 4 = .ok (.iload_n 3, 1) := by decide +kernel
theorem dX9_happened_5 : decode cX9_happened 5 = .ok (.aload_n 0, 1) := by decide +kernel
theorem dX9_happened_6 : decode cX9_happened 6 = .ok (.getfield 131, 3) := by decide +kernel
theorem dX9_happened_9 : decode cX9_happened 9 = .ok (.if_icmp .ge 27, 3) := by decide +kernel
theorem dX9_happened_12 : decode cX9_happened 12 = .ok (.iload_n 2, 1) := by decide +kernel
theorem dX9_happened_13 : decode cX9_happened 13 = .ok (.aload_n 0, 1) := by decide +kernel
theorem dX9_happened_14 : decode cX9_happened 14 = .ok (.getfield 46, 3) := by decide +kernel
theorem dX9_happened_17 : decode cX9_happened 17 = .ok (.iload_n 3, 1) := by decide +kernel
theorem dX9_happened_18 : decode cX9_happened 18 = .ok (.iaload, 1) := by decide +kernel
theorem dX9_happened_19 : decode cX9_happened 19 = .ok (.iload_n 1, 1) := by decide +kernel
theorem dX9_happened_20 : decode cX9_happened 20 = .ok (.if_icmp .ne 7, 3) := by decide +kernel
theorem dX9_happened_23 : decode cX9_happened 23 = .ok (.iconst 1, 1) := by decide +kernel
theorem dX9_happened_24 : decode cX9_happened 24 = .ok (.goto 4, 3) := by decide +kernel
theorem dX9_happened_27 : decode cX9_happened 27 = .ok (.iconst 0, 1) := by decide +kernel
theorem dX9_happened_28 : decode cX9_happened 28 = .ok (.iadd, 1) := by decide +kernel
theorem dX9_happened_29 : decode cX9_happened 29 = .ok (.istore_n 2, 1) := by decide +kernel
theorem dX9_happened_30 : decode cX9_happened 30 = .ok (.iinc 3 1, 3) := by decide +kernel
theorem dX9_happened_33 : decode cX9_happened 33 = .ok (.goto (-29), 3) := by decide +kernel
theorem dX9_happened_36 : decode cX9_happened 36 = .ok (.iload_n 2, 1) := by decide +kernel
theorem dX9_happened_37 : decode cX9_happened 37 = .ok (.ireturn, 1) := by decide +kernel
theorem dX9_deepest_0 : decode cX9_deepest 0 = .ok (.iconst (-1), 1) := by decide +kernel
theorem dX9_deepest_1 : decode cX9_deepest 1 = .ok (.istore_n 1, 1) := by decide +kernel
theorem dX9_deepest_2 : decode cX9_deepest 2 = .ok (.iconst 0, 1) := by decide +kernel
theorem dX9_deepest_3 : decode cX9_deepest 3 = .ok (.istore_n 2, 1) := by decide +kernel
theorem dX9_deepest_4 : decode cX9_deepest 4 = .ok (.iload_n 2, 1) := by decide +kernel
theorem dX9_deepest_5 : decode cX9_deepest 5 = .ok (.aload_n 0, 1) := by decide +kernel
theorem dX9_deepest_6 : decode cX9_deepest 6 = .ok (.getfield 131, 3) := by decide +kernel
theorem dX9_deepest_9 : decode cX9_deepest 9 = .ok (.if_icmp .ge 20, 3) := by decide +kernel
theorem dX9_deepest_12 : decode cX9_deepest 12 = .ok (.iload_n 1, 1) := by decide +kernel
theorem dX9_deepest_13 : decode cX9_deepest 13 = .ok (.aload_n 0, 1) := by decide +kernel
theorem dX9_deepest_14 : decode cX9_deepest 14 = .ok (.getfield 27, 3) := by decide +kernel
theorem dX9_deepest_17 : decode cX9_deepest 17 = .ok (.iload_n 2, 1) := by decide +kernel
theorem dX9_deepest_18 : decode cX9_deepest 18 = .ok (.iaload, 1) := by decide +kernel
theorem dX9_deepest_19 : decode cX9_deepest 19 = .ok (.invokestatic 188, 3) := by decide +kernel
theorem dX9_deepest_22 : decode cX9_deepest 22 = .ok (.istore_n 1, 1) := by decide +kernel
theorem dX9_deepest_23 : decode cX9_deepest 23 = .ok (.iinc 2 1, 3) := by decide +kernel
theorem dX9_deepest_26 : decode cX9_deepest 26 = .ok (.goto (-22), 3) := by decide +kernel
theorem dX9_deepest_29 : decode cX9_deepest 29 = .ok (.iload_n 1, 1) := by decide +kernel
theorem dX9_deepest_30 : decode cX9_deepest 30 = .ok (.ireturn, 1) := by decide +kernel
theorem dX9_legNow_0 : decode cX9_legNow 0 = .ok (.iconst 0, 1) := by decide +kernel
theorem dX9_legNow_1 : decode cX9_legNow 1 = .ok (.istore_n 2, 1) := by decide +kernel
theorem dX9_legNow_2 : decode cX9_legNow 2 = .ok (.iconst 0, 1) := by decide +kernel
theorem dX9_legNow_3 : decode cX9_legNow 3 = .ok (.istore_n 3, 1) := by decide +kernel
theorem dX9_legNow_4 : decode cX9_legNow 4 = .ok (.iload_n 3, 1) := by decide +kernel
theorem dX9_legNow_5 : decode cX9_legNow 5 = .ok (.aload_n 0, 1) := by decide +kernel
theorem dX9_legNow_6 : decode cX9_legNow 6 = .ok (.getfield 131, 3) := by decide +kernel
theorem dX9_legNow_9 : decode cX9_legNow 9 = .ok (.if_icmp .ge 25, 3) := by decide +kernel
theorem dX9_legNow_12 : decode cX9_legNow 12 = .ok (.iload_n 2, 1) := by decide +kernel
theorem dX9_legNow_13 : decode cX9_legNow 13 = .ok (.aload_n 0, 1) := by decide +kernel
theorem dX9_legNow_14 : decode cX9_legNow 14 = .ok (.getfield 40, 3) := by decide +kernel
theorem dX9_legNow_17 : decode cX9_legNow 17 = .ok (.iload_n 3, 1) := by decide +kernel
theorem dX9_legNow_18 : decode cX9_legNow 18 = .ok (.iaload, 1) := by decide +kernel
theorem dX9_legNow_19 : decode cX9_legNow 19 = .ok (.iadd, 1) := by decide +kernel
theorem dX9_legNow_20 : decode cX9_legNow 20 = .ok (.istore_n 2, 1) := by decide +kernel
theorem dX9_legNow_21 : decode cX9_legNow 21 = .ok (.iload_n 2, 1) := by decide +kernel
theorem dX9_legNow_22 : decode cX9_legNow 22 = .ok (.iload_n 1, 1) := by decide +kernel
theorem dX9_legNow_23 : decode cX9_legNow 23 = .ok (.if_icmp .le 5, 3) := by decide +kernel
theorem dX9_legNow_26 : decode cX9_legNow 26 = .ok (.iload_n 3, 1) := by decide +kernel
theorem dX9_legNow_27 : decode cX9_legNow 27 = .ok (.ireturn, 1) := by decide +kernel
theorem dX9_legNow_28 : decode cX9_legNow 28 = .ok (.iinc 3 1, 3) := by decide +kernel
theorem dX9_legNow_31 : decode cX9_legNow 31 = .ok (.goto (-27), 3) := by decide +kernel
theorem dX9_legNow_34 : decode cX9_legNow 34 = .ok (.iconst (-1), 1) := by decide +kernel
theorem dX9_legNow_35 : decode cX9_legNow 35 = .ok (.ireturn, 1) := by decide +kernel
theorem dX9_appendFour_0 : decode cX9_appendFour 0 = .ok (.bipush 24, 2) := by decide +kernel
theorem dX9_appendFour_2 : decode cX9_appendFour 2 = .ok (.istore_n 2, 1) := by decide +kernel
theorem dX9_appendFour_3 : decode cX9_appendFour 3 = .ok (.iload_n 2, 1) := by decide +kernel
theorem dX9_appendFour_4 : decode cX9_appendFour 4 = .ok (.ifCond .lt 32, 3) := by decide +kernel
theorem dX9_appendFour_7 : decode cX9_appendFour 7 = .ok (.aload_n 0, 1) := by decide +kernel
theorem dX9_appendFour_8 : decode cX9_appendFour 8 = .ok (.getfield 49, 3) := by decide +kernel
theorem dX9_appendFour_11 : decode cX9_appendFour 11 = .ok (.aload_n 0, 1) := by decide +kernel
theorem dX9_appendFour_12 : decode cX9_appendFour 12 = .ok (.getfield 190, 3) := by decide +kernel
theorem dX9_appendFour_15 : decode cX9_appendFour 15 = .ok (.iload_n 1, 1) := by decide +kernel
theorem dX9_appendFour_16 : decode cX9_appendFour 16 = .ok (.iload_n 2, 1) := by decide +kernel
theorem dX9_appendFour_17 : decode cX9_appendFour 17 = .ok (.ishr, 1) := by decide +kernel
theorem dX9_appendFour_18 : decode cX9_appendFour 18 = .ok (.i2b, 1) := by decide +kernel
theorem dX9_appendFour_19 : decode cX9_appendFour 19 = .ok (.bastore, 1) := by decide +kernel
theorem dX9_appendFour_20 : decode cX9_appendFour 20 = .ok (.aload_n 0, 1) := by decide +kernel
theorem dX9_appendFour_21 : decode cX9_appendFour 21 = .ok (.dup, 1) := by decide +kernel
theorem dX9_appendFour_22 : decode cX9_appendFour 22 = .ok (.getfield 190, 3) := by decide +kernel
theorem dX9_appendFour_25 : decode cX9_appendFour 25 = .ok (.iconst 1, 1) := by decide +kernel
theorem dX9_appendFour_26 : decode cX9_appendFour 26 = .ok (.iadd, 1) := by decide +kernel
theorem dX9_appendFour_27 : decode cX9_appendFour 27 = .ok (.putfield 190, 3) := by decide +kernel
theorem dX9_appendFour_30 : decode cX9_appendFour 30 = .ok (.iinc 2 (-8), 3) := by decide +kernel
theorem dX9_appendFour_33 : decode cX9_appendFour 33 = .ok (.goto (-30), 3) := by decide +kernel
theorem dX9_appendFour_36 : decode cX9_appendFour 36 = .ok (.return_, 1) := by decide +kernel
set_option maxRecDepth 20000 in
theorem ggX9_append_X9_passes : GoodIn wsX9_append wsX9_passes := goodIn_r _ [6, 7, 8, 9, 5, 10, 11, 17, 18, 19, 20, 21, 22, 23, 24, 25, 26, 27, 28, 29, 30, 31, 32, 33, 34, 35, 36, 37, 38, 39, 40, 41, 42, 43, 44, 45, 46, 47, 48, 49, 50, 51, 52, 53, 54, 55, 56, 57] (by decide +kernel) (by decide +kernel)
set_option maxRecDepth 20000 in
theorem gX9_append_X9_passes : GoodIn wsX9_append (wsV RX9 193 RX9 yX9_passes wsX9_passes) := goodIn_app (goodIn_of _ (by decide +kernel)) ggX9_append_X9_passes
set_option maxRecDepth 20000 in
theorem ggX9_append_X9_appendFour : GoodIn wsX9_append wsX9_appendFour := goodIn_r _ [15, 16, 1, 17, 18, 19, 20, 21, 22, 23, 24, 25, 26, 27, 28, 29, 30, 31, 32, 33, 34, 35, 36, 37, 38, 39, 40, 41, 42, 43, 44, 45, 46, 47, 48, 49, 50, 51, 52, 53, 54, 55, 56, 57] (by decide +kernel) (by decide +kernel)
set_option maxRecDepth 20000 in
theorem gX9_append_X9_appendFour : GoodIn wsX9_append (wsV RX9 197 RX9 yX9_appendFour wsX9_appendFour) := goodIn_app (goodIn_of _ (by decide +kernel)) ggX9_append_X9_appendFour
theorem dX9_append_0 : decode cX9_append 0 = .ok (.aload_n 0, 1) := by decide +kernel
theorem dX9_append_1 : decode cX9_append 1 = .ok (.aload_n 0, 1) := by decide +kernel
theorem dX9_append_2 : decode cX9_append 2 = .ok (.getfield 190, 3) := by decide +kernel
theorem dX9_append_5 : decode cX9_append 5 = .ok (.bipush 20, 2) := by decide +kernel
theorem dX9_append_7 : decode cX9_append 7 = .ok (.iadd, 1) := by decide +kernel
theorem dX9_append_8 : decode cX9_append 8 = .ok (.sipush 400, 3) := by decide +kernel
theorem dX9_append_11 : decode cX9_append 11 = .ok (.if_icmp .gt 7, 3) := by decide +kernel
theorem dX9_append_14 : decode cX9_append 14 = .ok (.iconst 1, 1) := by decide +kernel
theorem dX9_append_15 : decode cX9_append 15 = .ok (.goto 4, 3) := by decide +kernel
theorem dX9_append_18 : decode cX9_append 18 = .ok (.iconst 0, 1) := by decide +kernel
theorem dX9_append_19 : decode cX9_append 19 = .ok (.invokevirtual 193, 3) := by decide +kernel
theorem dX9_append_22 : decode cX9_append 22 = .ok (.ifCond .ne 5, 3) := by decide +kernel
theorem dX9_append_25 : decode cX9_append 25 = .ok (.iconst 0, 1) := by decide +kernel
theorem dX9_append_26 : decode cX9_append 26 = .ok (.ireturn, 1) := by decide +kernel
theorem dX9_append_27 : decode cX9_append 27 = .ok (.aload_n 0, 1) := by decide +kernel
theorem dX9_append_28 : decode cX9_append 28 = .ok (.iload_n 1, 1) := by decide +kernel
theorem dX9_append_29 : decode cX9_append 29 = .ok (.invokevirtual 197, 3) := by decide +kernel
theorem dX9_append_32 : decode cX9_append 32 = .ok (.aload_n 0, 1) := by decide +kernel
theorem dX9_append_33 : decode cX9_append 33 = .ok (.iload_n 2, 1) := by decide +kernel
theorem dX9_append_34 : decode cX9_append 34 = .ok (.invokevirtual 197, 3) := by decide +kernel
theorem dX9_append_37 : decode cX9_append 37 = .ok (.aload_n 0, 1) := by decide +kernel
theorem dX9_append_38 : decode cX9_append 38 = .ok (.iload_n 3, 1) := by decide +kernel
theorem dX9_append_39 : decode cX9_append 39 = .ok (.invokevirtual 197, 3) := by decide +kernel
theorem dX9_append_42 : decode cX9_append 42 = .ok (.aload_n 0, 1) := by decide +kernel
theorem dX9_append_43 : decode cX9_append 43 = .ok (.iload 4, 2) := by decide +kernel
theorem dX9_append_45 : decode cX9_append 45 = .ok (.invokevirtual 197, 3) := by decide +kernel
theorem dX9_append_48 : decode cX9_append 48 = .ok (.aload_n 0, 1) := by decide +kernel
theorem dX9_append_49 : decode cX9_append 49 = .ok (.iload 5, 2) := by decide +kernel
theorem dX9_append_51 : decode cX9_append 51 = .ok (.invokevirtual 197, 3) := by decide +kernel
theorem dX9_append_54 : decode cX9_append 54 = .ok (.aload_n 0, 1) := by decide +kernel
theorem dX9_append_55 : decode cX9_append 55 = .ok (.getfield 190, 3) := by decide +kernel
theorem dX9_append_58 : decode cX9_append 58 = .ok (.ireturn, 1) := by decide +kernel
set_option maxRecDepth 20000 in
theorem ggX9_truncate_X9_in : GoodIn wsX9_truncate wsX9_in := goodIn_r _ [5] (by decide +kernel) (by decide +kernel)
set_option maxRecDepth 20000 in
theorem gX9_truncate_X9_in : GoodIn wsX9_truncate (va_wsS RX9 94 yX9_in wsX9_in) := goodIn_app (goodIn_of _ (by decide +kernel)) ggX9_truncate_X9_in
set_option maxRecDepth 20000 in
theorem ggX9_truncate_X9_passes : GoodIn wsX9_truncate wsX9_passes := goodIn_r _ [9, 10, 11, 12, 4, 13, 14, 15, 16, 17, 18, 19, 20, 21, 22, 23, 24, 25, 26, 27, 28, 29, 30, 31, 32, 33, 34, 35, 36, 37, 38, 39, 40, 41, 42, 43, 44, 45, 46, 47, 48, 49, 50, 51, 52, 53, 54, 55] (by decide +kernel) (by decide +kernel)
set_option maxRecDepth 20000 in
theorem gX9_truncate_X9_passes : GoodIn wsX9_truncate (wsV RX9 193 RX9 yX9_passes wsX9_passes) := goodIn_app (goodIn_of _ (by decide +kernel)) ggX9_truncate_X9_passes
theorem dX9_truncate_0 : decode cX9_truncate 0 = .ok (.aload_n 0, 1) := by decide +kernel
theorem dX9_truncate_1 : decode cX9_truncate 1 = .ok (.iload_n 1, 1) := by decide +kernel
theorem dX9_truncate_2 : decode cX9_truncate 2 = .ok (.i2l, 1) := by decide +kernel
theorem dX9_truncate_3 : decode cX9_truncate 3 = .ok (.lconst 0, 1) := by decide +kernel
theorem dX9_truncate_4 : decode cX9_truncate 4 = .ok (.aload_n 0, 1) := by decide +kernel
theorem dX9_truncate_5 : decode cX9_truncate 5 = .ok (.getfield 190, 3) := by decide +kernel
theorem dX9_truncate_8 : decode cX9_truncate 8 = .ok (.i2l, 1) := by decide +kernel
theorem dX9_truncate_9 : decode cX9_truncate 9 = .ok (.invokestatic 94, 3) := by decide +kernel
theorem dX9_truncate_12 : decode cX9_truncate 12 = .ok (.invokevirtual 193, 3) := by decide +kernel
theorem dX9_truncate_15 : decode cX9_truncate 15 = .ok (.ifCond .eq 8, 3) := by decide +kernel
theorem dX9_truncate_18 : decode cX9_truncate 18 = .ok (.aload_n 0, 1) := by decide +kernel
theorem dX9_truncate_19 : decode cX9_truncate 19 = .ok (.iload_n 1, 1) := by decide +kernel
theorem dX9_truncate_20 : decode cX9_truncate 20 = .ok (.putfield 190, 3) := by decide +kernel
theorem dX9_truncate_23 : decode cX9_truncate 23 = .ok (.return_, 1) := by decide +kernel
theorem dX9_good_0 : decode cX9_good 0 = .ok (.aload_n 0, 1) := by decide +kernel
theorem dX9_good_1 : decode cX9_good 1 = .ok (.getfield 200, 3) := by decide +kernel
theorem dX9_good_4 : decode cX9_good 4 = .ok (.ifCond .ne 7, 3) := by decide +kernel
theorem dX9_good_7 : decode cX9_good 7 = .ok (.iconst 1, 1) := by decide +kernel
theorem dX9_good_8 : decode cX9_good 8 = .ok (.goto 4, 3) := by decide +kernel
theorem dX9_good_11 : decode cX9_good 11 = .ok (.iconst 0, 1) := by decide +kernel
theorem dX9_good_12 : decode cX9_good 12 = .ok (.ireturn, 1) := by decide +kernel
set_option maxRecDepth 20000 in
theorem ggX9_errs_X9_good : GoodIn wsX9_errs wsX9_good := goodIn_r _ [8, 1, 9, 10, 11, 12, 13, 14, 15, 16, 17, 18, 19, 20, 21, 22, 23, 24, 25, 26, 27, 28, 29, 30, 31, 32, 33, 34, 35, 36, 37, 38, 39, 40, 41, 42, 43, 44, 45, 46, 47, 48, 49] (by decide +kernel) (by decide +kernel)
set_option maxRecDepth 20000 in
theorem gX9_errs_X9_good : GoodIn wsX9_errs (wsV RX9 203 RX9 yX9_good wsX9_good) := goodIn_app (goodIn_of _ (by decide +kernel)) ggX9_errs_X9_good
theorem dX9_errs_0 : decode cX9_errs 0 = .ok (.aload_n 0, 1) := by decide +kernel
theorem dX9_errs_1 : decode cX9_errs 1 = .ok (.invokevirtual 203, 3) := by decide +kernel
theorem dX9_errs_4 : decode cX9_errs 4 = .ok (.ifCond .ne 4, 3) := by decide +kernel
theorem dX9_errs_7 : decode cX9_errs 7 = .ok (.return_, 1) := by decide +kernel
theorem dX9_errs_8 : decode cX9_errs 8 = .ok (.aload_n 0, 1) := by decide +kernel
theorem dX9_errs_9 : decode cX9_errs 9 = .ok (.iload_n 1, 1) := by decide +kernel
theorem dX9_errs_10 : decode cX9_errs 10 = .ok (.putfield 200, 3) := by decide +kernel
theorem dX9_errs_13 : decode cX9_errs 13 = .ok (.aload_n 0, 1) := by decide +kernel
theorem dX9_errs_14 : decode cX9_errs 14 = .ok (.aload_n 0, 1) := by decide +kernel
theorem dX9_errs_15 : decode cX9_errs 15 = .ok (.getfield 207, 3) := by decide +kernel
theorem dX9_errs_18 : decode cX9_errs 18 = .ok (.putfield 53, 3) := by decide +kernel
theorem dX9_errs_21 : decode cX9_errs 21 = .ok (.return_, 1) := by decide +kernel
theorem dX9_byteAt_0 : decode cX9_byteAt 0 = .ok (.iload_n 1, 1) := by decide +kernel
theorem dX9_byteAt_1 : decode cX9_byteAt 1 = .ok (.aload_n 0, 1) := by decide +kernel
theorem dX9_byteAt_2 : decode cX9_byteAt 2 = .ok (.getfield 210, 3) := by decide +kernel
theorem dX9_byteAt_5 : decode cX9_byteAt 5 = .ok (.if_icmp .ge 16, 3) := by decide +kernel
theorem dX9_byteAt_8 : decode cX9_byteAt 8 = .ok (.aload_n 0, 1) := by decide +kernel
theorem dX9_byteAt_9 : decode cX9_byteAt 9 = .ok (.getfield 49, 3) := by decide +kernel
theorem dX9_byteAt_12 : decode cX9_byteAt 12 = .ok (.iload_n 1, 1) := by decide +kernel
theorem dX9_byteAt_13 : decode cX9_byteAt 13 = .ok (.baload, 1) := by decide +kernel
theorem dX9_byteAt_14 : decode cX9_byteAt 14 = .ok (.sipush 255, 3) := by decide +kernel
theorem dX9_byteAt_17 : decode cX9_byteAt 17 = .ok (.iand, 1) := by decide +kernel
theorem dX9_byteAt_18 : decode cX9_byteAt 18 = .ok (.goto 4, 3) := by decide +kernel
theorem dX9_byteAt_21 : decode cX9_byteAt 21 = .ok (.iconst (-1), 1) := by decide +kernel
theorem dX9_byteAt_22 : decode cX9_byteAt 22 = .ok (.ireturn, 1) := by decide +kernel
set_option maxRecDepth 20000 in
theorem ggX9_scan_X9_byteAt : GoodIn wsX9_scan wsX9_byteAt := goodIn_r _ [17, 18, 19, 23, 24, 25, 26, 27, 28, 29, 30, 31, 32, 33, 34, 35, 36, 37, 38, 39, 40, 41, 42, 43, 44, 45, 46, 47, 48, 49, 50, 51, 52, 53, 54, 55, 56, 57, 58, 59, 60, 61, 62, 63] (by decide +kernel) (by decide +kernel)
set_option maxRecDepth 20000 in
theorem gX9_scan_X9_byteAt : GoodIn wsX9_scan (wsV RX9 216 RX9 yX9_byteAt wsX9_byteAt) := goodIn_app (goodIn_of _ (by decide +kernel)) ggX9_scan_X9_byteAt
set_option maxRecDepth 20000 in
theorem ggX9_scan_X9_in : GoodIn wsX9_scan wsX9_in := goodIn_r _ [22] (by decide +kernel) (by decide +kernel)
set_option maxRecDepth 20000 in
theorem gX9_scan_X9_in : GoodIn wsX9_scan (va_wsS RX9 94 yX9_in wsX9_in) := goodIn_app (goodIn_of _ (by decide +kernel)) ggX9_scan_X9_in
theorem dX9_scan_0 : decode cX9_scan 0 = .ok (.aload_n 0, 1) := by decide +kernel
theorem dX9_scan_1 : decode cX9_scan 1 = .ok (.aload_n 0, 1) := by decide +kernel
theorem dX9_scan_2 : decode cX9_scan 2 = .ok (.getfield 213, 3) := by decide +kernel
theorem dX9_scan_5 : decode cX9_scan 5 = .ok (.invokevirtual 216, 3) := by decide +kernel
theorem dX9_scan_8 : decode cX9_scan 8 = .ok (.bipush 32, 2) := by decide +kernel
theorem dX9_scan_10 : decode cX9_scan 10 = .ok (.if_icmp .eq 16, 3) := by decide +kernel
theorem dX9_scan_13 : decode cX9_scan 13 = .ok (.aload_n 0, 1) := by decide +kernel
theorem dX9_scan_14 : decode cX9_scan 14 = .ok (.aload_n 0, 1) := by decide +kernel
theorem dX9_scan_15 : decode cX9_scan 15 = .ok (.getfield 213, 3) := by decide +kernel
theorem dX9_scan_18 : decode cX9_scan 18 = .ok (.invokevirtual 216, 3) := by decide +kernel
theorem dX9_scan_21 : decode cX9_scan 21 = .ok (.bipush 10, 2) := by decide +kernel
theorem dX9_scan_23 : decode cX9_scan 23 = .ok (.if_icmp .ne 16, 3) := by decide +kernel
theorem dX9_scan_26 : decode cX9_scan 26 = .ok (.aload_n 0, 1) := by decide +kernel
theorem dX9_scan_27 : decode cX9_scan 27 = .ok (.dup, 1) := by decide +kernel
theorem dX9_scan_28 : decode cX9_scan 28 = .ok (.getfield 213, 3) := by decide +kernel
theorem dX9_scan_31 : decode cX9_scan 31 = .ok (.iconst 1, 1) := by decide +kernel
theorem dX9_scan_32 : decode cX9_scan 32 = .ok (.iadd, 1) := by decide +kernel
theorem dX9_scan_33 : decode cX9_scan 33 = .ok (.putfield 213, 3) := by decide +kernel
theorem dX9_scan_36 : decode cX9_scan 36 = .ok (.goto (-36), 3) := by decide +kernel
theorem dX9_scan_39 : decode cX9_scan 39 = .ok (.aload_n 0, 1) := by decide +kernel
theorem dX9_scan_40 : decode cX9_scan 40 = .ok (.aload_n 0, 1) := by decide +kernel
theorem dX9_scan_41 : decode cX9_scan 41 = .ok (.getfield 213, 3) := by decide +kernel
theorem dX9_scan_44 : decode cX9_scan 44 = .ok (.putfield 207, 3) := by decide +kernel
theorem dX9_scan_47 : decode cX9_scan 47 = .ok (.aload_n 0, 1) := by decide +kernel
theorem dX9_scan_48 : decode cX9_scan 48 = .ok (.aload_n 0, 1) := by decide +kernel
theorem dX9_scan_49 : decode cX9_scan 49 = .ok (.getfield 213, 3) := by decide +kernel
theorem dX9_scan_52 : decode cX9_scan 52 = .ok (.invokevirtual 216, 3) := by decide +kernel
theorem dX9_scan_55 : decode cX9_scan 55 = .ok (.istore_n 1, 1) := by decide +kernel
theorem dX9_scan_56 : decode cX9_scan 56 = .ok (.iload_n 1, 1) := by decide +kernel
theorem dX9_scan_57 : decode cX9_scan 57 = .ok (.iconst (-1), 1) := by decide +kernel
theorem dX9_scan_58 : decode cX9_scan 58 = .ok (.if_icmp .ne 11, 3) := by decide +kernel
theorem dX9_scan_61 : decode cX9_scan 61 = .ok (.aload_n 0, 1) := by decide +kernel
theorem dX9_scan_62 : decode cX9_scan 62 = .ok (.iconst 0, 1) := by decide +kernel
theorem dX9_scan_63 : decode cX9_scan 63 = .ok (.putfield 219, 3) := by decide +kernel
theorem dX9_scan_66 : decode cX9_scan 66 = .ok (.goto 169, 3) := by decide +kernel
theorem dX9_scan_69 : decode cX9_scan 69 = .ok (.iload_n 1, 1) := by decide +kernel
theorem dX9_scan_70 : decode cX9_scan 70 = .ok (.i2l, 1) := by decide +kernel
theorem dX9_scan_71 : decode cX9_scan 71 = .ok (.ldc2_w 222, 3) := by decide +kernel
theorem dX9_scan_74 : decode cX9_scan 74 = .ok (.ldc2_w 224, 3) := by decide +kernel
theorem dX9_scan_77 : decode cX9_scan 77 = .ok (.invokestatic 94, 3) := by decide +kernel
theorem dX9_scan_80 : decode cX9_scan 80 = .ok (.ifCond .eq 45, 3) := by decide +kernel
theorem dX9_scan_83 : decode cX9_scan 83 = .ok (.aload_n 0, 1) := by decide +kernel
theorem dX9_scan_84 : decode cX9_scan 84 = .ok (.aload_n 0, 1) := by decide +kernel
theorem dX9_scan_85 : decode cX9_scan 85 = .ok (.getfield 213, 3) := by decide +kernel
theorem dX9_scan_88 : decode cX9_scan 88 = .ok (.invokevirtual 216, 3) := by decide +kernel
theorem dX9_scan_91 : decode cX9_scan 91 = .ok (.i2l, 1) := by decide +kernel
theorem dX9_scan_92 : decode cX9_scan 92 = .ok (.ldc2_w 222, 3) := by decide +kernel
theorem dX9_scan_95 : decode cX9_scan 95 = .ok (.ldc2_w 224, 3) := by decide +kernel
theorem dX9_scan_98 : decode cX9_scan 98 = .ok (.invokestatic 94, 3) := by decide +kernel
theorem dX9_scan_101 : decode cX9_scan 101 = .ok (.ifCond .eq 16, 3) := by decide +kernel
theorem dX9_scan_104 : decode cX9_scan 104 = .ok (.aload_n 0, 1) := by decide +kernel
theorem dX9_scan_105 : decode cX9_scan 105 = .ok (.dup, 1) := by decide +kernel
theorem dX9_scan_106 : decode cX9_scan 106 = .ok (.getfield 213, 3) := by decide +kernel
theorem dX9_scan_109 : decode cX9_scan 109 = .ok (.iconst 1, 1) := by decide +kernel
theorem dX9_scan_110 : decode cX9_scan 110 = .ok (.iadd, 1) := by decide +kernel
theorem dX9_scan_111 : decode cX9_scan 111 = .ok (.putfield 213, 3) := by decide +kernel
theorem dX9_scan_114 : decode cX9_scan 114 = .ok (.goto (-31), 3) := by decide +kernel
theorem dX9_scan_117 : decode cX9_scan 117 = .ok (.aload_n 0, 1) := by decide +kernel
theorem dX9_scan_118 : decode cX9_scan 118 = .ok (.iconst 1, 1) := by decide +kernel
theorem dX9_scan_119 : decode cX9_scan 119 = .ok (.putfield 219, 3) := by decide +kernel
theorem dX9_scan_122 : decode cX9_scan 122 = .ok (.goto 113, 3) := by decide +kernel
theorem dX9_scan_125 : decode cX9_scan 125 = .ok (.iload_n 1, 1) := by decide +kernel
theorem dX9_scan_126 : decode cX9_scan 126 = .ok (.i2l, 1) := by decide +kernel
theorem dX9_scan_127 : decode cX9_scan 127 = .ok (.ldc2_w 226, 3) := by decide +kernel
theorem dX9_scan_130 : decode cX9_scan 130 = .ok (.ldc2_w 228, 3) := by decide +kernel
theorem dX9_scan_133 : decode cX9_scan 133 = .ok (.invokestatic 94, 3) := by decide +kernel
theorem dX9_scan_136 : decode cX9_scan 136 = .ok (.ifCond .eq 79, 3) := by decide +kernel
theorem dX9_scan_139 : decode cX9_scan 139 = .ok (.aload_n 0, 1) := by decide +kernel
theorem dX9_scan_140 : decode cX9_scan 140 = .ok (.iconst 0, 1) := by decide +kernel
theorem dX9_scan_141 : decode cX9_scan 141 = .ok (.putfield 230, 3) := by decide +kernel
theorem dX9_scan_144 : decode cX9_scan 144 = .ok (.aload_n 0, 1) := by decide +kernel
theorem dX9_scan_145 : decode cX9_scan 145 = .ok (.aload_n 0, 1) := by decide +kernel
theorem dX9_scan_146 : decode cX9_scan 146 = .ok (.getfield 213, 3) := by decide +kernel
theorem dX9_scan_149 : decode cX9_scan 149 = .ok (.invokevirtual 216, 3) := by decide +kernel
theorem dX9_scan_152 : decode cX9_scan 152 = .ok (.i2l, 1) := by decide +kernel
theorem dX9_scan_153 : decode cX9_scan 153 = .ok (.ldc2_w 226, 3) := by decide +kernel
theorem dX9_scan_156 : decode cX9_scan 156 = .ok (.ldc2_w 228, 3) := by decide +kernel
theorem dX9_scan_159 : decode cX9_scan 159 = .ok (.invokestatic 94, 3) := by decide +kernel
theorem dX9_scan_162 : decode cX9_scan 162 = .ok (.ifCond .eq 45, 3) := by decide +kernel
theorem dX9_scan_165 : decode cX9_scan 165 = .ok (.aload_n 0, 1) := by decide +kernel
theorem dX9_scan_166 : decode cX9_scan 166 = .ok (.sipush 9999, 3) := by decide +kernel
theorem dX9_scan_169 : decode cX9_scan 169 = .ok (.bipush 10, 2) := by decide +kernel
theorem dX9_scan_171 : decode cX9_scan 171 = .ok (.aload_n 0, 1) := by decide +kernel
theorem dX9_scan_172 : decode cX9_scan 172 = .ok (.getfield 230, 3) := by decide +kernel
theorem dX9_scan_175 : decode cX9_scan 175 = .ok (.imul, 1) := by decide +kernel
theorem dX9_scan_176 : decode cX9_scan 176 = .ok (.aload_n 0, 1) := by decide +kernel
theorem dX9_scan_177 : decode cX9_scan 177 = .ok (.aload_n 0, 1) := by decide +kernel
theorem dX9_scan_178 : decode cX9_scan 178 = .ok (.getfield 213, 3) := by decide +kernel
theorem dX9_scan_181 : decode cX9_scan 181 = .ok (.invokevirtual 216, 3) := by decide +kernel
theorem dX9_scan_184 : decode cX9_scan 184 = .ok (.iadd, 1) := by decide +kernel
theorem dX9_scan_185 : decode cX9_scan 185 = .ok (.bipush 48, 2) := by decide +kernel
theorem dX9_scan_187 : decode cX9_scan 187 = .ok (.isub, 1) := by decide +kernel
theorem dX9_scan_188 : decode cX9_scan 188 = .ok (.invokestatic 233, 3) := by decide +kernel
theorem dX9_scan_191 : decode cX9_scan 191 = .ok (.putfield 230, 3) := by decide +kernel
theorem dX9_scan_194 : decode cX9_scan 194 = .ok (.aload_n 0, 1) := by decide +kernel
theorem dX9_scan_195 : decode cX9_scan 195 = .ok (.dup, 1) := by decide +kernel
theorem dX9_scan_196 : decode cX9_scan 196 = .ok (.getfield 213, 3) := by decide +kernel
theorem dX9_scan_199 : decode cX9_scan 199 = .ok (.iconst 1, 1) := by decide +kernel
theorem dX9_scan_200 : decode cX9_scan 200 = .ok (.iadd, 1) := by decide +kernel
theorem dX9_scan_201 : decode cX9_scan 201 = .ok (.putfield 213, 3) := by decide +kernel
theorem dX9_scan_204 : decode cX9_scan 204 = .ok (.goto (-60), 3) := by decide +kernel
theorem dX9_scan_207 : decode cX9_scan 207 = .ok (.aload_n 0, 1) := by decide +kernel
theorem dX9_scan_208 : decode cX9_scan 208 = .ok (.iconst 2, 1) := by decide +kernel
theorem dX9_scan_209 : decode cX9_scan 209 = .ok (.putfield 219, 3) := by decide +kernel
theorem dX9_scan_212 : decode cX9_scan 212 = .ok (.goto 23, 3) := by decide +kernel
theorem dX9_scan_215 : decode cX9_scan 215 = .ok (.aload_n 0, 1) := by decide +kernel
theorem dX9_scan_216 : decode cX9_scan 216 = .ok (.iconst 3, 1) := by decide +kernel
theorem dX9_scan_217 : decode cX9_scan 217 = .ok (.putfield 219, 3) := by decide +kernel
theorem dX9_scan_220 : decode cX9_scan 220 = .ok (.aload_n 0, 1) := by decide +kernel
theorem dX9_scan_221 : decode cX9_scan 221 = .ok (.iload_n 1, 1) := by decide +kernel
theorem dX9_scan_222 : decode cX9_scan 222 = .ok (.putfield 230, 3) := by decide +kernel
theorem dX9_scan_225 : decode cX9_scan 225 = .ok (.aload_n 0, 1) := by decide +kernel
theorem dX9_scan_226 : decode cX9_scan 226 = .ok (.dup, 1) := by decide +kernel
theorem dX9_scan_227 : decode cX9_scan 227 = .ok (.getfield 213, 3) := by decide +kernel
theorem dX9_scan_230 : decode cX9_scan 230 = .ok (.iconst 1, 1) := by decide +kernel
theorem dX9_scan_231 : decode cX9_scan 231 = .ok (.iadd, 1) := by decide +kernel
theorem dX9_scan_232 : decode cX9_scan 232 = .ok (.putfield 213, 3) := by decide +kernel
theorem dX9_scan_235 : decode cX9_scan 235 = .ok (.return_, 1) := by decide +kernel
set_option maxRecDepth 20000 in
theorem ggX9_goOn_X9_good : GoodIn wsX9_goOn wsX9_good := goodIn_r _ [5, 6, 32, 33, 34, 35, 36, 37, 38, 39, 40, 41, 42, 43, 44, 45, 46, 47, 48, 49, 50, 51, 52, 53, 54, 55, 56, 57, 58, 59, 60, 61, 62, 63, 64, 65, 66, 67, 68, 69, 70, 71, 72] (by decide +kernel) (by decide +kernel)
set_option maxRecDepth 20000 in
theorem gX9_goOn_X9_good : GoodIn wsX9_goOn (wsV RX9 203 RX9 yX9_good wsX9_good) := goodIn_app (goodIn_of _ (by decide +kernel)) ggX9_goOn_X9_good
set_option maxRecDepth 20000 in
theorem ggX9_goOn_X9_scan : GoodIn wsX9_goOn wsX9_scan := goodIn_r _ [10, 11, 12, 13, 14, 15, 16, 17, 18, 19, 20, 21, 22, 23, 24, 25, 4, 26, 27, 28, 29, 30, 31, 32, 33, 34, 35, 36, 37, 38, 39, 40, 41, 42, 43, 44, 45, 46, 47, 48, 49, 50, 51, 52, 53, 54, 55, 56, 57, 58, 59, 60, 61, 62, 63, 64, 65, 66, 67, 68, 69, 70, 71, 72] (by decide +kernel) (by decide +kernel)
set_option maxRecDepth 20000 in
theorem gX9_goOn_X9_scan : GoodIn wsX9_goOn (wsV RX9 236 RX9 yX9_scan wsX9_scan) := goodIn_app (goodIn_of _ (by decide +kernel)) ggX9_goOn_X9_scan
theorem dX9_goOn_0 : decode cX9_goOn 0 = .ok (.aload_n 0, 1) := by decide +kernel
theorem dX9_goOn_1 : decode cX9_goOn 1 = .ok (.invokevirtual 203, 3) := by decide +kernel
theorem dX9_goOn_4 : decode cX9_goOn 4 = .ok (.ifCond .eq 7, 3) := by decide +kernel
theorem dX9_goOn_7 : decode cX9_goOn 7 = .ok (.aload_n 0, 1) := by decide +kernel
theorem dX9_goOn_8 : decode cX9_goOn 8 = .ok (.invokevirtual 236, 3) := by decide +kernel
theorem dX9_goOn_11 : decode cX9_goOn 11 = .ok (.return_, 1) := by decide +kernel
set_option maxRecDepth 20000 in
theorem ggX9_isWord_X9_good : GoodIn wsX9_isWord wsX9_good := goodIn_r _ [9, 10, 60, 61, 62, 63, 64, 65, 66, 67, 68, 69, 70, 71, 72, 73, 74, 75, 76, 77, 78, 79, 80, 81, 82, 83, 84, 85, 86, 87, 88, 89, 90, 91, 92, 93, 94, 95, 96, 97, 98, 99, 100] (by decide +kernel) (by decide +kernel)
set_option maxRecDepth 20000 in
theorem gX9_isWord_X9_good : GoodIn wsX9_isWord (wsV RX9 203 RX9 yX9_good wsX9_good) := goodIn_app (goodIn_of _ (by decide +kernel)) ggX9_isWord_X9_good
set_option maxRecDepth 20000 in
theorem ggX9_isWord_J0_length_8abf5 : GoodIn wsX9_isWord wsJ0_length_8abf5 := goodIn_r _ [15, 16, 17, 18, 19, 14, 20, 21, 22] (by decide +kernel) (by decide +kernel)
set_option maxRecDepth 20000 in
theorem gX9_isWord_J0_length_8abf5 : GoodIn wsX9_isWord (wsV RX9 239 RJ0 yJ0_length_8abf5 wsJ0_length_8abf5) := goodIn_app (goodIn_of _ (by decide +kernel)) ggX9_isWord_J0_length_8abf5
set_option maxRecDepth 20000 in
theorem ggX9_isWord_J0_charAt_5068e : GoodIn wsX9_isWord wsJ0_charAt_5068e := goodIn_r _ [26, 16, 27, 28, 29, 14, 30, 21, 22, 31, 32, 33, 34, 35, 36, 37, 38, 39, 40, 41, 42, 43, 44, 45, 46, 47, 48, 49, 50, 51, 52, 53, 54, 55, 56, 57, 58, 59] (by decide +kernel) (by decide +kernel)
set_option maxRecDepth 20000 in
theorem gX9_isWord_J0_charAt_5068e : GoodIn wsX9_isWord (wsV RX9 244 RJ0 yJ0_charAt_5068e wsJ0_charAt_5068e) := goodIn_app (goodIn_of _ (by decide +kernel)) ggX9_isWord_J0_charAt_5068e
theorem dX9_isWord_0 : decode cX9_isWord 0 = .ok (.aload_n 0, 1) := by decide +kernel
theorem dX9_isWord_1 : decode cX9_isWord 1 = .ok (.invokevirtual 203, 3) := by decide +kernel
theorem dX9_isWord_4 : decode cX9_isWord 4 = .ok (.ifCond .eq 31, 3) := by decide +kernel
theorem dX9_isWord_7 : decode cX9_isWord 7 = .ok (.aload_n 0, 1) := by decide +kernel
theorem dX9_isWord_8 : decode cX9_isWord 8 = .ok (.getfield 219, 3) := by decide +kernel
theorem dX9_isWord_11 : decode cX9_isWord 11 = .ok (.iconst 1, 1) := by decide +kernel
theorem dX9_isWord_12 : decode cX9_isWord 12 = .ok (.if_icmp .ne 23, 3) := by decide +kernel
theorem dX9_isWord_15 : decode cX9_isWord 15 = .ok (.aload_n 0, 1) := by decide +kernel
theorem dX9_isWord_16 : decode cX9_isWord 16 = .ok (.getfield 213, 3) := by decide +kernel
theorem dX9_isWord_19 : decode cX9_isWord 19 = .ok (.aload_n 0, 1) := by decide +kernel
theorem dX9_isWord_20 : decode cX9_isWord 20 = .ok (.getfield 207, 3) := by decide +kernel
theorem dX9_isWord_23 : decode cX9_isWord 23 = .ok (.isub, 1) := by decide +kernel
theorem dX9_isWord_24 : decode cX9_isWord 24 = .ok (.aload_n 1, 1) := by decide +kernel
theorem dX9_isWord_25 : decode cX9_isWord 25 = .ok (.invokevirtual 239, 3) := by decide +kernel
theorem dX9_isWord_28 : decode cX9_isWord 28 = .ok (.if_icmp .ne 7, 3) := by decide +kernel
theorem dX9_isWord_31 : decode cX9_isWord 31 = .ok (.iconst 1, 1) := by decide +kernel
theorem dX9_isWord_32 : decode cX9_isWord 32 = .ok (.goto 4, 3) := by decide +kernel
theorem dX9_isWord_35 : decode cX9_isWord 35 = .ok (.iconst 0, 1) := by decide +kernel
theorem dX9_isWord_36 : decode cX9_isWord 36 = .ok (.istore_n 2, 1) := by decide +kernel
theorem dX9_isWord_37 : decode cX9_isWord 37 = .ok (.iconst 0, 1) := by decide +kernel
theorem dX9_isWord_38 : decode cX9_isWord 38 = .ok (.istore_n 3, 1) := by decide +kernel
theorem dX9_isWord_39 : decode cX9_isWord 39 = .ok (.iload_n 3, 1) := by decide +kernel
theorem dX9_isWord_40 : decode cX9_isWord 40 = .ok (.aload_n 1, 1) := by decide +kernel
theorem dX9_isWord_41 : decode cX9_isWord 41 = .ok (.invokevirtual 239, 3) := by decide +kernel
theorem dX9_isWord_44 : decode cX9_isWord 44 = .ok (.if_icmp .ge 38, 3) := by decide +kernel
theorem dX9_isWord_47 : decode cX9_isWord 47 = .ok (.iload_n 2, 1) := by decide +kernel
theorem dX9_isWord_48 : decode cX9_isWord 48 = .ok (.ifCond .eq 34, 3) := by decide +kernel
theorem dX9_isWord_51 : decode cX9_isWord 51 = .ok (.aload_n 0, 1) := by decide +kernel
theorem dX9_isWord_52 : decode cX9_isWord 52 = .ok (.getfield 49, 3) := by decide +kernel
theorem dX9_isWord_55 : decode cX9_isWord 55 = .ok (.aload_n 0, 1) := by decide +kernel
theorem dX9_isWord_56 : decode cX9_isWord 56 = .ok (.getfield 207, 3) := by decide +kernel
theorem dX9_isWord_59 : decode cX9_isWord 59 = .ok (.iload_n 3, 1) := by decide +kernel
theorem dX9_isWord_60 : decode cX9_isWord 60 = .ok (.iadd, 1) := by decide +kernel
theorem dX9_isWord_61 : decode cX9_isWord 61 = .ok (.baload, 1) := by decide +kernel
theorem dX9_isWord_62 : decode cX9_isWord 62 = .ok (.aload_n 1, 1) := by decide +kernel
theorem dX9_isWord_63 : decode cX9_isWord 63 = .ok (.iload_n 3, 1) := by decide +kernel
theorem dX9_isWord_64 : decode cX9_isWord 64 = .ok (.invokevirtual 244, 3) := by decide +kernel
theorem dX9_isWord_67 : decode cX9_isWord 67 = .ok (.if_icmp .ne 7, 3) := by decide +kernel
theorem dX9_isWord_70 : decode cX9_isWord 70 = .ok (.iconst 1, 1) := by decide +kernel
theorem dX9_isWord_71 : decode cX9_isWord 71 = .ok (.goto 4, 3) := by decide +kernel
theorem dX9_isWord_74 : decode cX9_isWord 74 = .ok (.iconst 0, 1) := by decide +kernel
theorem dX9_isWord_75 : decode cX9_isWord 75 = .ok (.istore_n 2, 1) := by decide +kernel
theorem dX9_isWord_76 : decode cX9_isWord 76 = .ok (.iinc 3 1, 3) := by decide +kernel
theorem dX9_isWord_79 : decode cX9_isWord 79 = .ok (.goto (-40), 3) := by decide +kernel
theorem dX9_isWord_82 : decode cX9_isWord 82 = .ok (.iload_n 2, 1) := by decide +kernel
theorem dX9_isWord_83 : decode cX9_isWord 83 = .ok (.ireturn, 1) := by decide +kernel
set_option maxRecDepth 20000 in
theorem ggX9_numberHere_X9_good : GoodIn wsX9_numberHere wsX9_good := goodIn_r _ [7, 8, 18, 19, 20, 21, 22, 23, 24, 25, 26, 27, 28, 29, 30, 31, 32, 33, 34, 35, 36, 37, 38, 39, 40, 41, 42, 43, 44, 45, 46, 47, 48, 49, 50, 51, 52, 53, 54, 55, 56, 57, 58] (by decide +kernel) (by decide +kernel)
set_option maxRecDepth 20000 in
theorem gX9_numberHere_X9_good : GoodIn wsX9_numberHere (wsV RX9 203 RX9 yX9_good wsX9_good) := goodIn_app (goodIn_of _ (by decide +kernel)) ggX9_numberHere_X9_good
set_option maxRecDepth 20000 in
theorem ggX9_numberHere_X9_errs : GoodIn wsX9_numberHere wsX9_errs := goodIn_r _ [12, 8, 13, 14, 3, 4, 5, 6, 7, 18, 19, 20, 21, 22, 23, 24, 25, 26, 27, 28, 29, 30, 31, 32, 33, 34, 35, 36, 37, 38, 39, 40, 41, 42, 43, 44, 45, 46, 47, 48, 49, 50, 51, 52, 53, 54, 55, 56, 57, 58] (by decide +kernel) (by decide +kernel)
set_option maxRecDepth 20000 in
theorem gX9_numberHere_X9_errs : GoodIn wsX9_numberHere (wsV RX9 248 RX9 yX9_errs wsX9_errs) := goodIn_app (goodIn_of _ (by decide +kernel)) ggX9_numberHere_X9_errs
set_option maxRecDepth 20000 in
theorem ggX9_numberHere_X9_in : GoodIn wsX9_numberHere wsX9_in := goodIn_r _ [17] (by decide +kernel) (by decide +kernel)
set_option maxRecDepth 20000 in
theorem gX9_numberHere_X9_in : GoodIn wsX9_numberHere (va_wsS RX9 94 yX9_in wsX9_in) := goodIn_app (goodIn_of _ (by decide +kernel)) ggX9_numberHere_X9_in
theorem dX9_numberHere_0 : decode cX9_numberHere 0 = .ok (.aload_n 0, 1) := by decide +kernel
theorem dX9_numberHere_1 : decode cX9_numberHere 1 = .ok (.invokevirtual 203, 3) := by decide +kernel
theorem dX9_numberHere_4 : decode cX9_numberHere 4 = .ok (.ifCond .eq 16, 3) := by decide +kernel
theorem dX9_numberHere_7 : decode cX9_numberHere 7 = .ok (.aload_n 0, 1) := by decide +kernel
theorem dX9_numberHere_8 : decode cX9_numberHere 8 = .ok (.getfield 219, 3) := by decide +kernel
theorem dX9_numberHere_11 : decode cX9_numberHere 11 = .ok (.iconst 2, 1) := by decide +kernel
theorem dX9_numberHere_12 : decode cX9_numberHere 12 = .ok (.if_icmp .eq 8, 3) := by decide +kernel
theorem dX9_numberHere_15 : decode cX9_numberHere 15 = .ok (.aload_n 0, 1) := by decide +kernel
theorem dX9_numberHere_16 : decode cX9_numberHere 16 = .ok (.iconst 1, 1) := by decide +kernel
theorem dX9_numberHere_17 : decode cX9_numberHere 17 = .ok (.invokevirtual 248, 3) := by decide +kernel
theorem dX9_numberHere_20 : decode cX9_numberHere 20 = .ok (.aload_n 0, 1) := by decide +kernel
theorem dX9_numberHere_21 : decode cX9_numberHere 21 = .ok (.invokevirtual 203, 3) := by decide +kernel
theorem dX9_numberHere_24 : decode cX9_numberHere 24 = .ok (.ifCond .eq 23, 3) := by decide +kernel
theorem dX9_numberHere_27 : decode cX9_numberHere 27 = .ok (.aload_n 0, 1) := by decide +kernel
theorem dX9_numberHere_28 : decode cX9_numberHere 28 = .ok (.getfield 230, 3) := by decide +kernel
theorem dX9_numberHere_31 : decode cX9_numberHere 31 = .ok (.i2l, 1) := by decide +kernel
theorem dX9_numberHere_32 : decode cX9_numberHere 32 = .ok (.iload_n 1, 1) := by decide +kernel
theorem dX9_numberHere_33 : decode cX9_numberHere 33 = .ok (.i2l, 1) := by decide +kernel
theorem dX9_numberHere_34 : decode cX9_numberHere 34 = .ok (.iload_n 2, 1) := by decide +kernel
theorem dX9_numberHere_35 : decode cX9_numberHere 35 = .ok (.i2l, 1) := by decide +kernel
theorem dX9_numberHere_36 : decode cX9_numberHere 36 = .ok (.invokestatic 94, 3) := by decide +kernel
theorem dX9_numberHere_39 : decode cX9_numberHere 39 = .ok (.ifCond .ne 8, 3) := by decide +kernel
theorem dX9_numberHere_42 : decode cX9_numberHere 42 = .ok (.aload_n 0, 1) := by decide +kernel
theorem dX9_numberHere_43 : decode cX9_numberHere 43 = .ok (.iconst 2, 1) := by decide +kernel
theorem dX9_numberHere_44 : decode cX9_numberHere 44 = .ok (.invokevirtual 248, 3) := by decide +kernel
theorem dX9_numberHere_47 : decode cX9_numberHere 47 = .ok (.aload_n 0, 1) := by decide +kernel
theorem dX9_numberHere_48 : decode cX9_numberHere 48 = .ok (.invokevirtual 203, 3) := by decide +kernel
theorem dX9_numberHere_51 : decode cX9_numberHere 51 = .ok (.ifCond .eq 10, 3) := by decide +kernel
theorem dX9_numberHere_54 : decode cX9_numberHere 54 = .ok (.aload_n 0, 1) := by decide +kernel
theorem dX9_numberHere_55 : decode cX9_numberHere 55 = .ok (.getfield 230, 3) := by decide +kernel
theorem dX9_numberHere_58 : decode cX9_numberHere 58 = .ok (.goto 4, 3) := by decide +kernel
theorem dX9_numberHere_61 : decode cX9_numberHere 61 = .ok (.iload_n 1, 1) := by decide +kernel
theorem dX9_numberHere_62 : decode cX9_numberHere 62 = .ok (.ireturn, 1) := by decide +kernel
set_option maxRecDepth 20000 in
theorem ggX9_number_X9_numberHere : GoodIn wsX9_number wsX9_numberHere := goodIn_r _ [5, 6, 7, 8, 9, 10, 4, 11, 12, 13, 14, 15, 16, 17, 18, 19, 20, 21, 45, 46, 47, 48, 49, 50, 51, 52, 53, 54, 55, 56, 57, 58, 59, 60, 61, 62, 63, 64, 65, 66, 67, 68, 69, 70, 71, 72, 73, 74, 75, 76, 77, 78, 79, 80, 81, 82, 83, 84, 85] (by decide +kernel) (by decide +kernel)
set_option maxRecDepth 20000 in
theorem gX9_number_X9_numberHere : GoodIn wsX9_number (wsV RX9 251 RX9 yX9_numberHere wsX9_numberHere) := goodIn_app (goodIn_of _ (by decide +kernel)) ggX9_number_X9_numberHere
set_option maxRecDepth 20000 in
theorem ggX9_number_X9_goOn : GoodIn wsX9_number wsX9_goOn := goodIn_r _ [25, 8, 9, 10, 4, 11, 12, 26, 27, 28, 29, 30, 17, 6, 31, 32, 33, 34, 7, 35, 36, 37, 38, 39, 40, 41, 42, 43, 44, 19, 20, 21, 45, 46, 47, 48, 49, 50, 51, 52, 53, 54, 55, 56, 57, 58, 59, 60, 61, 62, 63, 64, 65, 66, 67, 68, 69, 70, 71, 72, 73, 74, 75, 76, 77, 78, 79, 80, 81, 82, 83, 84, 85] (by decide +kernel) (by decide +kernel)
set_option maxRecDepth 20000 in
theorem gX9_number_X9_goOn : GoodIn wsX9_number (wsV RX9 254 RX9 yX9_goOn wsX9_goOn) := goodIn_app (goodIn_of _ (by decide +kernel)) ggX9_number_X9_goOn
theorem dX9_number_0 : decode cX9_number 0 = .ok (.aload_n 0, 1) := by decide +kernel
theorem dX9_number_1 : decode cX9_number 1 = .ok (.iload_n 1, 1) := by decide +kernel
theorem dX9_number_2 : decode cX9_number 2 = .ok (.iload_n 2, 1) := by decide +kernel
theorem dX9_number_3 : decode cX9_number 3 = .ok (.invokevirtual 251, 3) := by decide +kernel
theorem dX9_number_6 : decode cX9_number 6 = .ok (.istore_n 3, 1) := by decide +kernel
theorem dX9_number_7 : decode cX9_number 7 = .ok (.aload_n 0, 1) := by decide +kernel
theorem dX9_number_8 : decode cX9_number 8 = .ok (.invokevirtual 254, 3) := by decide +kernel
theorem dX9_number_11 : decode cX9_number 11 = .ok (.iload_n 3, 1) := by decide +kernel
theorem dX9_number_12 : decode cX9_number 12 = .ok (.ireturn, 1) := by decide +kernel
set_option maxRecDepth 20000 in
theorem ggX9_takeWord_X9_isWord : GoodIn wsX9_takeWord wsX9_isWord := goodIn_r _ [5, 6, 7, 8, 9, 10, 11, 12, 4, 13, 14, 15, 16, 17, 18, 19, 20, 21, 22, 23, 24, 25, 26, 27, 28, 29, 30, 31, 32, 33, 34, 35, 36, 37, 38, 39, 40, 41, 42, 43, 44, 45, 46, 47, 48, 49, 50, 51, 52, 53, 54, 55, 56, 57, 58, 59, 60, 61, 62, 63, 94, 95, 96, 97, 98, 99, 100, 101, 102, 103, 104, 105, 106, 107, 108, 109, 110, 111, 112, 113, 114, 115, 116, 117, 118, 119, 120, 121, 122, 123, 124, 125, 126, 127, 128, 129, 130, 131, 132, 133, 134] (by decide +kernel) (by decide +kernel)
set_option maxRecDepth 20000 in
theorem gX9_takeWord_X9_isWord : GoodIn wsX9_takeWord (wsV RX9 257 RX9 yX9_isWord wsX9_isWord) := goodIn_app (goodIn_of _ (by decide +kernel)) ggX9_takeWord_X9_isWord
set_option maxRecDepth 20000 in
theorem ggX9_takeWord_X9_errs : GoodIn wsX9_takeWord wsX9_errs := goodIn_r _ [67, 14, 8, 68, 10, 11, 12, 4, 13, 94, 95, 96, 97, 98, 99, 100, 101, 102, 103, 104, 105, 106, 107, 108, 109, 110, 111, 112, 113, 114, 115, 116, 117, 118, 119, 120, 121, 122, 123, 124, 125, 126, 127, 128, 129, 130, 131, 132, 133, 134] (by decide +kernel) (by decide +kernel)
set_option maxRecDepth 20000 in
theorem gX9_takeWord_X9_errs : GoodIn wsX9_takeWord (wsV RX9 248 RX9 yX9_errs wsX9_errs) := goodIn_app (goodIn_of _ (by decide +kernel)) ggX9_takeWord_X9_errs
set_option maxRecDepth 20000 in
theorem ggX9_takeWord_X9_goOn : GoodIn wsX9_takeWord wsX9_goOn := goodIn_r _ [72, 10, 11, 12, 4, 13, 14, 73, 74, 75, 76, 7, 8, 6, 77, 78, 79, 80, 81, 82, 83, 84, 85, 86, 87, 88, 89, 90, 9, 91, 92, 93, 94, 95, 96, 97, 98, 99, 100, 101, 102, 103, 104, 105, 106, 107, 108, 109, 110, 111, 112, 113, 114, 115, 116, 117, 118, 119, 120, 121, 122, 123, 124, 125, 126, 127, 128, 129, 130, 131, 132, 133, 134] (by decide +kernel) (by decide +kernel)
set_option maxRecDepth 20000 in
theorem gX9_takeWord_X9_goOn : GoodIn wsX9_takeWord (wsV RX9 254 RX9 yX9_goOn wsX9_goOn) := goodIn_app (goodIn_of _ (by decide +kernel)) ggX9_takeWord_X9_goOn
theorem dX9_takeWord_0 : decode cX9_takeWord 0 = .ok (.aload_n 0, 1) := by decide +kernel
theorem dX9_takeWord_1 : decode cX9_takeWord 1 = .ok (.aload_n 1, 1) := by decide +kernel
theorem dX9_takeWord_2 : decode cX9_takeWord 2 = .ok (.invokevirtual 257, 3) := by decide +kernel
theorem dX9_takeWord_5 : decode cX9_takeWord 5 = .ok (.ifCond .ne 8, 3) := by decide +kernel
theorem dX9_takeWord_8 : decode cX9_takeWord 8 = .ok (.aload_n 0, 1) := by decide +kernel
theorem dX9_takeWord_9 : decode cX9_takeWord 9 = .ok (.iconst 1, 1) := by decide +kernel
theorem dX9_takeWord_10 : decode cX9_takeWord 10 = .ok (.invokevirtual 248, 3) := by decide +kernel
theorem dX9_takeWord_13 : decode cX9_takeWord 13 = .ok (.aload_n 0, 1) := by decide +kernel
theorem dX9_takeWord_14 : decode cX9_takeWord 14 = .ok (.invokevirtual 254, 3) := by decide +kernel
theorem dX9_takeWord_17 : decode cX9_takeWord 17 = .ok (.return_, 1) := by decide +kernel
set_option maxRecDepth 20000 in
theorem ggX9_semicolon_X9_good : GoodIn wsX9_semicolon wsX9_good := goodIn_r _ [7, 8, 41, 42, 43, 44, 45, 46, 47, 48, 49, 50, 51, 52, 53, 54, 55, 56, 57, 58, 59, 60, 61, 62, 63, 64, 65, 66, 67, 68, 69, 70, 71, 72, 73, 74, 75, 76, 77, 78, 79, 80, 81] (by decide +kernel) (by decide +kernel)
set_option maxRecDepth 20000 in
theorem gX9_semicolon_X9_good : GoodIn wsX9_semicolon (wsV RX9 203 RX9 yX9_good wsX9_good) := goodIn_app (goodIn_of _ (by decide +kernel)) ggX9_semicolon_X9_good
set_option maxRecDepth 20000 in
theorem ggX9_semicolon_X9_errs : GoodIn wsX9_semicolon wsX9_errs := goodIn_r _ [12, 8, 13, 14, 3, 4, 5, 6, 7, 41, 42, 43, 44, 45, 46, 47, 48, 49, 50, 51, 52, 53, 54, 55, 56, 57, 58, 59, 60, 61, 62, 63, 64, 65, 66, 67, 68, 69, 70, 71, 72, 73, 74, 75, 76, 77, 78, 79, 80, 81] (by decide +kernel) (by decide +kernel)
set_option maxRecDepth 20000 in
theorem gX9_semicolon_X9_errs : GoodIn wsX9_semicolon (wsV RX9 248 RX9 yX9_errs wsX9_errs) := goodIn_app (goodIn_of _ (by decide +kernel)) ggX9_semicolon_X9_errs
set_option maxRecDepth 20000 in
theorem ggX9_semicolon_X9_goOn : GoodIn wsX9_semicolon wsX9_goOn := goodIn_r _ [18, 3, 4, 5, 6, 7, 8, 19, 20, 21, 22, 23, 13, 1, 24, 25, 26, 27, 2, 28, 29, 30, 31, 32, 33, 34, 35, 36, 37, 38, 39, 40, 41, 42, 43, 44, 45, 46, 47, 48, 49, 50, 51, 52, 53, 54, 55, 56, 57, 58, 59, 60, 61, 62, 63, 64, 65, 66, 67, 68, 69, 70, 71, 72, 73, 74, 75, 76, 77, 78, 79, 80, 81] (by decide +kernel) (by decide +kernel)
set_option maxRecDepth 20000 in
theorem gX9_semicolon_X9_goOn : GoodIn wsX9_semicolon (wsV RX9 254 RX9 yX9_goOn wsX9_goOn) := goodIn_app (goodIn_of _ (by decide +kernel)) ggX9_semicolon_X9_goOn
theorem dX9_semicolon_0 : decode cX9_semicolon 0 = .ok (.aload_n 0, 1) := by decide +kernel
theorem dX9_semicolon_1 : decode cX9_semicolon 1 = .ok (.invokevirtual 203, 3) := by decide +kernel
theorem dX9_semicolon_4 : decode cX9_semicolon 4 = .ok (.ifCond .eq 20, 3) := by decide +kernel
theorem dX9_semicolon_7 : decode cX9_semicolon 7 = .ok (.aload_n 0, 1) := by decide +kernel
theorem dX9_semicolon_8 : decode cX9_semicolon 8 = .ok (.getfield 219, 3) := by decide +kernel
theorem dX9_semicolon_11 : decode cX9_semicolon 11 = .ok (.iconst 3, 1) := by decide +kernel
theorem dX9_semicolon_12 : decode cX9_semicolon 12 = .ok (.if_icmp .ne 12, 3) := by decide +kernel
theorem dX9_semicolon_15 : decode cX9_semicolon 15 = .ok (.aload_n 0, 1) := by decide +kernel
theorem dX9_semicolon_16 : decode cX9_semicolon 16 = .ok (.getfield 230, 3) := by decide +kernel
theorem dX9_semicolon_19 : decode cX9_semicolon 19 = .ok (.bipush 59, 2) := by decide +kernel
theorem dX9_semicolon_21 : decode cX9_semicolon 21 = .ok (.if_icmp .eq 8, 3) := by decide +kernel
theorem dX9_semicolon_24 : decode cX9_semicolon 24 = .ok (.aload_n 0, 1) := by decide +kernel
theorem dX9_semicolon_25 : decode cX9_semicolon 25 = .ok (.iconst 1, 1) := by decide +kernel
theorem dX9_semicolon_26 : decode cX9_semicolon 26 = .ok (.invokevirtual 248, 3) := by decide +kernel
theorem dX9_semicolon_29 : decode cX9_semicolon 29 = .ok (.aload_n 0, 1) := by decide +kernel
theorem dX9_semicolon_30 : decode cX9_semicolon 30 = .ok (.invokevirtual 254, 3) := by decide +kernel
theorem dX9_semicolon_33 : decode cX9_semicolon 33 = .ok (.return_, 1) := by decide +kernel
set_option maxRecDepth 20000 in
theorem ggX9_errsIf_X9_good : GoodIn wsX9_errsIf wsX9_good := goodIn_r _ [5, 6, 13, 14, 15, 16, 17, 18, 19, 20, 21, 22, 23, 24, 25, 26, 27, 28, 29, 30, 31, 32, 33, 34, 35, 36, 37, 38, 39, 40, 41, 42, 43, 44, 45, 46, 47, 48, 49, 50, 51, 52, 53] (by decide +kernel) (by decide +kernel)
set_option maxRecDepth 20000 in
theorem gX9_errsIf_X9_good : GoodIn wsX9_errsIf (wsV RX9 203 RX9 yX9_good wsX9_good) := goodIn_app (goodIn_of _ (by decide +kernel)) ggX9_errsIf_X9_good
set_option maxRecDepth 20000 in
theorem ggX9_errsIf_X9_errs : GoodIn wsX9_errsIf wsX9_errs := goodIn_r _ [10, 6, 11, 12, 1, 2, 3, 4, 5, 13, 14, 15, 16, 17, 18, 19, 20, 21, 22, 23, 24, 25, 26, 27, 28, 29, 30, 31, 32, 33, 34, 35, 36, 37, 38, 39, 40, 41, 42, 43, 44, 45, 46, 47, 48, 49, 50, 51, 52, 53] (by decide +kernel) (by decide +kernel)
set_option maxRecDepth 20000 in
theorem gX9_errsIf_X9_errs : GoodIn wsX9_errsIf (wsV RX9 248 RX9 yX9_errs wsX9_errs) := goodIn_app (goodIn_of _ (by decide +kernel)) ggX9_errsIf_X9_errs
theorem dX9_errsIf_0 : decode cX9_errsIf 0 = .ok (.aload_n 0, 1) := by decide +kernel
theorem dX9_errsIf_1 : decode cX9_errsIf 1 = .ok (.invokevirtual 203, 3) := by decide +kernel
theorem dX9_errsIf_4 : decode cX9_errsIf 4 = .ok (.ifCond .eq 12, 3) := by decide +kernel
theorem dX9_errsIf_7 : decode cX9_errsIf 7 = .ok (.iload_n 1, 1) := by decide +kernel
theorem dX9_errsIf_8 : decode cX9_errsIf 8 = .ok (.ifCond .eq 8, 3) := by decide +kernel
theorem dX9_errsIf_11 : decode cX9_errsIf 11 = .ok (.aload_n 0, 1) := by decide +kernel
theorem dX9_errsIf_12 : decode cX9_errsIf 12 = .ok (.iload_n 2, 1) := by decide +kernel
theorem dX9_errsIf_13 : decode cX9_errsIf 13 = .ok (.invokevirtual 248, 3) := by decide +kernel
theorem dX9_errsIf_16 : decode cX9_errsIf 16 = .ok (.return_, 1) := by decide +kernel
set_option maxRecDepth 20000 in
theorem ggX9_numberAfter_X9_takeWord : GoodIn wsX9_numberAfter wsX9_takeWord := goodIn_r _ [5, 6, 7, 8, 4, 9, 10, 11, 12, 13, 14, 15, 16, 17, 18, 19, 20, 21, 22, 23, 24, 25, 26, 27, 28, 29, 30, 31, 32, 33, 34, 35, 36, 37, 38, 39, 40, 41, 42, 43, 44, 45, 46, 47, 48, 49, 50, 51, 52, 53, 54, 55, 56, 57, 58, 59, 60, 61, 62, 63, 64, 65, 66, 67, 68, 69, 70, 71, 72, 73, 74, 75, 76, 77, 78, 79, 80, 81, 82, 83, 84, 85, 86, 87, 88, 89, 90, 91, 92, 93, 94, 95, 96, 97, 106, 107, 108, 109, 110, 111, 112, 113, 114, 115, 116, 117, 118, 119, 120, 121, 122, 123, 124, 125, 126, 127, 128, 129, 130, 131, 132, 133, 134, 135, 136, 137, 138, 139, 140, 141, 142, 143, 144, 145, 146] (by decide +kernel) (by decide +kernel)
set_option maxRecDepth 20000 in
theorem gX9_numberAfter_X9_takeWord : GoodIn wsX9_numberAfter (wsV RX9 261 RX9 yX9_takeWord wsX9_takeWord) := goodIn_app (goodIn_of _ (by decide +kernel)) ggX9_numberAfter_X9_takeWord
set_option maxRecDepth 20000 in
theorem ggX9_numberAfter_X9_number : GoodIn wsX9_numberAfter wsX9_number := goodIn_r _ [101, 102, 103, 104, 4, 105, 10, 85, 14, 15, 16, 17, 18, 68, 69, 70, 71, 12, 72, 95, 96, 97, 73, 74, 75, 76, 77, 78, 79, 80, 11, 81, 82, 83, 84, 86, 87, 88, 89, 90, 91, 92, 93, 94, 13, 106, 107, 108, 109, 110, 111, 112, 113, 114, 115, 116, 117, 118, 119, 120, 121, 122, 123, 124, 125, 126, 127, 128, 129, 130, 131, 132, 133, 134, 135, 136, 137, 138, 139, 140, 141, 142, 143, 144, 145, 146] (by decide +kernel) (by decide +kernel)
set_option maxRecDepth 20000 in
theorem gX9_numberAfter_X9_number : GoodIn wsX9_numberAfter (wsV RX9 265 RX9 yX9_number wsX9_number) := goodIn_app (goodIn_of _ (by decide +kernel)) ggX9_numberAfter_X9_number
theorem dX9_numberAfter_0 : decode cX9_numberAfter 0 = .ok (.aload_n 0, 1) := by decide +kernel
theorem dX9_numberAfter_1 : decode cX9_numberAfter 1 = .ok (.aload_n 1, 1) := by decide +kernel
theorem dX9_numberAfter_2 : decode cX9_numberAfter 2 = .ok (.invokevirtual 261, 3) := by decide +kernel
theorem dX9_numberAfter_5 : decode cX9_numberAfter 5 = .ok (.aload_n 0, 1) := by decide +kernel
theorem dX9_numberAfter_6 : decode cX9_numberAfter 6 = .ok (.iload_n 2, 1) := by decide +kernel
theorem dX9_numberAfter_7 : decode cX9_numberAfter 7 = .ok (.iload_n 3, 1) := by decide +kernel
theorem dX9_numberAfter_8 : decode cX9_numberAfter 8 = .ok (.invokevirtual 265, 3) := by decide +kernel
theorem dX9_numberAfter_11 : decode cX9_numberAfter 11 = .ok (.ireturn, 1) := by decide +kernel
set_option maxRecDepth 20000 in
theorem ggX9_parseLayer_X9_layers : GoodIn wsX9_parseLayer wsX9_layers := goodIn_r _ [5, 6, 131, 132, 133, 134, 135, 136, 137, 138, 139, 140, 141, 142, 143, 144, 145, 146, 147, 148, 149, 150, 151, 152, 153, 154, 155, 156, 157, 158, 159, 160, 161, 162, 163, 164, 165, 166, 167, 168, 169, 170, 171] (by decide +kernel) (by decide +kernel)
set_option maxRecDepth 20000 in
theorem gX9_parseLayer_X9_layers : GoodIn wsX9_parseLayer (wsV RX9 90 RX9 yX9_layers wsX9_layers) := goodIn_app (goodIn_of _ (by decide +kernel)) ggX9_parseLayer_X9_layers
set_option maxRecDepth 20000 in
theorem ggX9_parseLayer_X9_errsIf : GoodIn wsX9_parseLayer wsX9_errsIf := goodIn_r _ [10, 11, 12, 13, 4, 14, 15, 16, 17, 18, 19, 20, 21, 131, 132, 133, 134, 135, 136, 137, 138, 139, 140, 141, 142, 143, 144, 145, 146, 147, 148, 149, 150, 151, 152, 153, 154, 155, 156, 157, 158, 159, 160, 161, 162, 163, 164, 165, 166, 167, 168, 169, 170, 171] (by decide +kernel) (by decide +kernel)
set_option maxRecDepth 20000 in
theorem gX9_parseLayer_X9_errsIf : GoodIn wsX9_parseLayer (wsV RX9 268 RX9 yX9_errsIf wsX9_errsIf) := goodIn_app (goodIn_of _ (by decide +kernel)) ggX9_parseLayer_X9_errsIf
set_option maxRecDepth 20000 in
theorem ggX9_parseLayer_X9_goOn : GoodIn wsX9_parseLayer wsX9_goOn := goodIn_r _ [25, 11, 12, 13, 4, 14, 15, 26, 27, 28, 29, 30, 20, 31, 32, 33, 34, 35, 36, 37, 38, 39, 40, 41, 42, 43, 44, 45, 46, 47, 48, 49, 131, 132, 133, 134, 135, 136, 137, 138, 139, 140, 141, 142, 143, 144, 145, 146, 147, 148, 149, 150, 151, 152, 153, 154, 155, 156, 157, 158, 159, 160, 161, 162, 163, 164, 165, 166, 167, 168, 169, 170, 171] (by decide +kernel) (by decide +kernel)
set_option maxRecDepth 20000 in
theorem gX9_parseLayer_X9_goOn : GoodIn wsX9_parseLayer (wsV RX9 254 RX9 yX9_goOn wsX9_goOn) := goodIn_app (goodIn_of _ (by decide +kernel)) ggX9_parseLayer_X9_goOn
set_option maxRecDepth 20000 in
theorem ggX9_parseLayer_X9_number : GoodIn wsX9_parseLayer wsX9_number := goodIn_r _ [53, 54, 55, 56, 4, 57, 31, 36, 11, 12, 13, 14, 15, 16, 17, 18, 19, 20, 21, 47, 48, 49, 22, 23, 24, 25, 26, 27, 28, 29, 30, 32, 33, 34, 35, 37, 38, 39, 40, 41, 42, 43, 44, 45, 46, 131, 132, 133, 134, 135, 136, 137, 138, 139, 140, 141, 142, 143, 144, 145, 146, 147, 148, 149, 150, 151, 152, 153, 154, 155, 156, 157, 158, 159, 160, 161, 162, 163, 164, 165, 166, 167, 168, 169, 170, 171] (by decide +kernel) (by decide +kernel)
set_option maxRecDepth 20000 in
theorem gX9_parseLayer_X9_number : GoodIn wsX9_parseLayer (wsV RX9 265 RX9 yX9_number wsX9_number) := goodIn_app (goodIn_of _ (by decide +kernel)) ggX9_parseLayer_X9_number
set_option maxRecDepth 20000 in
theorem ggX9_parseLayer_X9_numberAfter : GoodIn wsX9_parseLayer wsX9_numberAfter := goodIn_r _ [61, 62, 63, 64, 4, 65, 66, 67, 68, 69, 31, 30, 20, 46, 11, 12, 13, 14, 15, 70, 71, 72, 73, 74, 75, 76, 77, 78, 79, 80, 81, 82, 83, 84, 85, 86, 87, 88, 89, 90, 91, 92, 93, 94, 95, 96, 97, 98, 99, 100, 101, 102, 103, 104, 105, 106, 107, 108, 109, 110, 111, 112, 113, 114, 115, 116, 117, 118, 16, 17, 18, 19, 21, 22, 23, 24, 25, 26, 27, 28, 29, 32, 33, 34, 35, 36, 37, 38, 39, 40, 41, 42, 43, 44, 45, 47, 48, 49, 50, 51, 52, 53, 54, 55, 56, 57, 131, 132, 133, 134, 135, 136, 137, 138, 139, 140, 141, 142, 143, 144, 145, 146, 147, 148, 149, 150, 151, 152, 153, 154, 155, 156, 157, 158, 159, 160, 161, 162, 163, 164, 165, 166, 167, 168, 169, 170, 171] (by decide +kernel) (by decide +kernel)
set_option maxRecDepth 20000 in
theorem gX9_parseLayer_X9_numberAfter : GoodIn wsX9_parseLayer (wsV RX9 274 RX9 yX9_numberAfter wsX9_numberAfter) := goodIn_app (goodIn_of _ (by decide +kernel)) ggX9_parseLayer_X9_numberAfter
set_option maxRecDepth 20000 in
theorem ggX9_parseLayer_X9_isWord : GoodIn wsX9_parseLayer wsX9_isWord := goodIn_r _ [69, 31, 30, 20, 46, 11, 12, 13, 4, 14, 15, 70, 71, 72, 73, 74, 75, 76, 77, 78, 79, 80, 81, 82, 83, 84, 85, 86, 87, 88, 89, 90, 91, 92, 93, 94, 95, 96, 97, 98, 99, 100, 101, 102, 103, 104, 105, 106, 107, 108, 109, 110, 111, 112, 113, 114, 115, 116, 117, 118, 131, 132, 133, 134, 135, 136, 137, 138, 139, 140, 141, 142, 143, 144, 145, 146, 147, 148, 149, 150, 151, 152, 153, 154, 155, 156, 157, 158, 159, 160, 161, 162, 163, 164, 165, 166, 167, 168, 169, 170, 171] (by decide +kernel) (by decide +kernel)
set_option maxRecDepth 20000 in
theorem gX9_parseLayer_X9_isWord : GoodIn wsX9_parseLayer (wsV RX9 257 RX9 yX9_isWord wsX9_isWord) := goodIn_app (goodIn_of _ (by decide +kernel)) ggX9_parseLayer_X9_isWord
set_option maxRecDepth 20000 in
theorem ggX9_parseLayer_X9_semicolon : GoodIn wsX9_parseLayer wsX9_semicolon := goodIn_r _ [122, 31, 36, 11, 12, 13, 4, 14, 15, 16, 17, 18, 19, 20, 21, 22, 23, 24, 25, 26, 27, 28, 29, 30, 32, 33, 34, 35, 37, 38, 39, 40, 41, 42, 43, 44, 45, 46, 47, 48, 49, 131, 132, 133, 134, 135, 136, 137, 138, 139, 140, 141, 142, 143, 144, 145, 146, 147, 148, 149, 150, 151, 152, 153, 154, 155, 156, 157, 158, 159, 160, 161, 162, 163, 164, 165, 166, 167, 168, 169, 170, 171] (by decide +kernel) (by decide +kernel)
set_option maxRecDepth 20000 in
theorem gX9_parseLayer_X9_semicolon : GoodIn wsX9_parseLayer (wsV RX9 280 RX9 yX9_semicolon wsX9_semicolon) := goodIn_app (goodIn_of _ (by decide +kernel)) ggX9_parseLayer_X9_semicolon
set_option maxRecDepth 20000 in
theorem ggX9_parseLayer_X9_good : GoodIn wsX9_parseLayer wsX9_good := goodIn_r _ [14, 15, 131, 132, 133, 134, 135, 136, 137, 138, 139, 140, 141, 142, 143, 144, 145, 146, 147, 148, 149, 150, 151, 152, 153, 154, 155, 156, 157, 158, 159, 160, 161, 162, 163, 164, 165, 166, 167, 168, 169, 170, 171] (by decide +kernel) (by decide +kernel)
set_option maxRecDepth 20000 in
theorem gX9_parseLayer_X9_good : GoodIn wsX9_parseLayer (wsV RX9 203 RX9 yX9_good wsX9_good) := goodIn_app (goodIn_of _ (by decide +kernel)) ggX9_parseLayer_X9_good
set_option maxRecDepth 20000 in
theorem ggX9_parseLayer_X9_addOne : GoodIn wsX9_parseLayer wsX9_addOne := goodIn_r _ [126, 6, 1, 2, 3, 4, 5, 127, 128, 129, 130, 131, 132, 133, 134, 135, 136, 137, 138, 139, 140, 141, 142, 143, 144, 145, 146, 147, 148, 149, 150, 151, 152, 153, 154, 155, 156, 157, 158, 159, 160, 161, 162, 163, 164, 165, 166, 167, 168, 169, 170, 171] (by decide +kernel) (by decide +kernel)
set_option maxRecDepth 20000 in
theorem gX9_parseLayer_X9_addOne : GoodIn wsX9_parseLayer (wsV RX9 86 RX9 yX9_addOne wsX9_addOne) := goodIn_app (goodIn_of _ (by decide +kernel)) ggX9_parseLayer_X9_addOne
theorem dX9_parseLayer_0 : decode cX9_parseLayer 0 = .ok (.aload_n 0, 1) := by decide +kernel
theorem dX9_parseLayer_1 : decode cX9_parseLayer 1 = .ok (.aload_n 0, 1) := by decide +kernel
theorem dX9_parseLayer_2 : decode cX9_parseLayer 2 = .ok (.invokevirtual 90, 3) := by decide +kernel
theorem dX9_parseLayer_5 : decode cX9_parseLayer 5 = .ok (.bipush 10, 2) := by decide +kernel
theorem dX9_parseLayer_7 : decode cX9_parseLayer 7 = .ok (.if_icmp .ne 7, 3) := by decide +kernel
theorem dX9_parseLayer_10 : decode cX9_parseLayer 10 = .ok (.iconst 1, 1) := by decide +kernel
theorem dX9_parseLayer_11 : decode cX9_parseLayer 11 = .ok (.goto 4, 3) := by decide +kernel
theorem dX9_parseLayer_14 : decode cX9_parseLayer 14 = .ok (.iconst 0, 1) := by decide +kernel
theorem dX9_parseLayer_15 : decode cX9_parseLayer 15 = .ok (.bipush 6, 2) := by decide +kernel
theorem dX9_parseLayer_17 : decode cX9_parseLayer 17 = .ok (.invokevirtual 268, 3) := by decide +kernel
theorem dX9_parseLayer_20 : decode cX9_parseLayer 20 = .ok (.aload_n 0, 1) := by decide +kernel
theorem dX9_parseLayer_21 : decode cX9_parseLayer 21 = .ok (.invokevirtual 254, 3) := by decide +kernel
theorem dX9_parseLayer_24 : decode cX9_parseLayer 24 = .ok (.aload_n 0, 1) := by decide +kernel
theorem dX9_parseLayer_25 : decode cX9_parseLayer 25 = .ok (.sipush 1000, 3) := by decide +kernel
theorem dX9_parseLayer_28 : decode cX9_parseLayer 28 = .ok (.sipush 4000, 3) := by decide +kernel
theorem dX9_parseLayer_31 : decode cX9_parseLayer 31 = .ok (.invokevirtual 265, 3) := by decide +kernel
theorem dX9_parseLayer_34 : decode cX9_parseLayer 34 = .ok (.istore_n 1, 1) := by decide +kernel
theorem dX9_parseLayer_35 : decode cX9_parseLayer 35 = .ok (.aload_n 0, 1) := by decide +kernel
theorem dX9_parseLayer_36 : decode cX9_parseLayer 36 = .ok (.ldc_w 272, 3) := by decide +kernel
theorem dX9_parseLayer_39 : decode cX9_parseLayer 39 = .ok (.iconst 1, 1) := by decide +kernel
theorem dX9_parseLayer_40 : decode cX9_parseLayer 40 = .ok (.sipush 999, 3) := by decide +kernel
theorem dX9_parseLayer_43 : decode cX9_parseLayer 43 = .ok (.invokevirtual 274, 3) := by decide +kernel
theorem dX9_parseLayer_46 : decode cX9_parseLayer 46 = .ok (.istore_n 2, 1) := by decide +kernel
theorem dX9_parseLayer_47 : decode cX9_parseLayer 47 = .ok (.aload_n 0, 1) := by decide +kernel
theorem dX9_parseLayer_48 : decode cX9_parseLayer 48 = .ok (.ldc_w 278, 3) := by decide +kernel
theorem dX9_parseLayer_51 : decode cX9_parseLayer 51 = .ok (.invokevirtual 257, 3) := by decide +kernel
theorem dX9_parseLayer_54 : decode cX9_parseLayer 54 = .ok (.ifCond .eq 16, 3) := by decide +kernel
theorem dX9_parseLayer_57 : decode cX9_parseLayer 57 = .ok (.aload_n 0, 1) := by decide +kernel
theorem dX9_parseLayer_58 : decode cX9_parseLayer 58 = .ok (.ldc_w 278, 3) := by decide +kernel
theorem dX9_parseLayer_61 : decode cX9_parseLayer 61 = .ok (.iconst 0, 1) := by decide +kernel
theorem dX9_parseLayer_62 : decode cX9_parseLayer 62 = .ok (.bipush 99, 2) := by decide +kernel
theorem dX9_parseLayer_64 : decode cX9_parseLayer 64 = .ok (.invokevirtual 274, 3) := by decide +kernel
theorem dX9_parseLayer_67 : decode cX9_parseLayer 67 = .ok (.goto 4, 3) := by decide +kernel
theorem dX9_parseLayer_70 : decode cX9_parseLayer 70 = .ok (.iconst 0, 1) := by decide +kernel
theorem dX9_parseLayer_71 : decode cX9_parseLayer 71 = .ok (.istore_n 3, 1) := by decide +kernel
theorem dX9_parseLayer_72 : decode cX9_parseLayer 72 = .ok (.aload_n 0, 1) := by decide +kernel
theorem dX9_parseLayer_73 : decode cX9_parseLayer 73 = .ok (.invokevirtual 280, 3) := by decide +kernel
theorem dX9_parseLayer_76 : decode cX9_parseLayer 76 = .ok (.aload_n 0, 1) := by decide +kernel
theorem dX9_parseLayer_77 : decode cX9_parseLayer 77 = .ok (.invokevirtual 203, 3) := by decide +kernel
theorem dX9_parseLayer_80 : decode cX9_parseLayer 80 = .ok (.ifCond .eq 14, 3) := by decide +kernel
theorem dX9_parseLayer_83 : decode cX9_parseLayer 83 = .ok (.aload_n 0, 1) := by decide +kernel
theorem dX9_parseLayer_84 : decode cX9_parseLayer 84 = .ok (.aload_n 0, 1) := by decide +kernel
theorem dX9_parseLayer_85 : decode cX9_parseLayer 85 = .ok (.invokevirtual 90, 3) := by decide +kernel
theorem dX9_parseLayer_88 : decode cX9_parseLayer 88 = .ok (.iload_n 1, 1) := by decide +kernel
theorem dX9_parseLayer_89 : decode cX9_parseLayer 89 = .ok (.iload_n 2, 1) := by decide +kernel
theorem dX9_parseLayer_90 : decode cX9_parseLayer 90 = .ok (.iload_n 3, 1) := by decide +kernel
theorem dX9_parseLayer_91 : decode cX9_parseLayer 91 = .ok (.invokevirtual 86, 3) := by decide +kernel
theorem dX9_parseLayer_94 : decode cX9_parseLayer 94 = .ok (.return_, 1) := by decide +kernel
set_option maxRecDepth 20000 in
theorem ggX9_parseOutside_X9_errsIf : GoodIn wsX9_parseOutside wsX9_errsIf := goodIn_r _ [7, 8, 9, 10, 6, 11, 12, 13, 14, 15, 16, 17, 18, 59, 60, 61, 62, 63, 64, 65, 66, 67, 68, 69, 70, 71, 72, 73, 74, 75, 76, 77, 78, 79, 80, 81, 82, 83, 84, 85, 86, 87, 88, 89, 90, 91, 92, 93, 94, 95, 96, 97, 98, 99] (by decide +kernel) (by decide +kernel)
set_option maxRecDepth 20000 in
theorem gX9_parseOutside_X9_errsIf : GoodIn wsX9_parseOutside (wsV RX9 268 RX9 yX9_errsIf wsX9_errsIf) := goodIn_app (goodIn_of _ (by decide +kernel)) ggX9_parseOutside_X9_errsIf
set_option maxRecDepth 20000 in
theorem ggX9_parseOutside_X9_goOn : GoodIn wsX9_parseOutside wsX9_goOn := goodIn_r _ [22, 8, 9, 10, 6, 11, 12, 23, 24, 25, 26, 27, 17, 28, 29, 30, 31, 32, 33, 34, 35, 36, 37, 38, 39, 40, 41, 42, 43, 44, 45, 46, 59, 60, 61, 62, 63, 64, 65, 66, 67, 68, 69, 70, 71, 72, 73, 74, 75, 76, 77, 78, 79, 80, 81, 82, 83, 84, 85, 86, 87, 88, 89, 90, 91, 92, 93, 94, 95, 96, 97, 98, 99] (by decide +kernel) (by decide +kernel)
set_option maxRecDepth 20000 in
theorem gX9_parseOutside_X9_goOn : GoodIn wsX9_parseOutside (wsV RX9 254 RX9 yX9_goOn wsX9_goOn) := goodIn_app (goodIn_of _ (by decide +kernel)) ggX9_parseOutside_X9_goOn
set_option maxRecDepth 20000 in
theorem ggX9_parseOutside_X9_number : GoodIn wsX9_parseOutside wsX9_number := goodIn_r _ [50, 51, 52, 53, 6, 54, 28, 33, 8, 9, 10, 11, 12, 13, 14, 15, 16, 17, 18, 44, 45, 46, 19, 20, 21, 22, 23, 24, 25, 26, 27, 29, 30, 31, 32, 34, 35, 36, 37, 38, 39, 40, 41, 42, 43, 59, 60, 61, 62, 63, 64, 65, 66, 67, 68, 69, 70, 71, 72, 73, 74, 75, 76, 77, 78, 79, 80, 81, 82, 83, 84, 85, 86, 87, 88, 89, 90, 91, 92, 93, 94, 95, 96, 97, 98, 99] (by decide +kernel) (by decide +kernel)
set_option maxRecDepth 20000 in
theorem gX9_parseOutside_X9_number : GoodIn wsX9_parseOutside (wsV RX9 265 RX9 yX9_number wsX9_number) := goodIn_app (goodIn_of _ (by decide +kernel)) ggX9_parseOutside_X9_number
set_option maxRecDepth 20000 in
theorem ggX9_parseOutside_X9_semicolon : GoodIn wsX9_parseOutside wsX9_semicolon := goodIn_r _ [58, 28, 33, 8, 9, 10, 6, 11, 12, 13, 14, 15, 16, 17, 18, 19, 20, 21, 22, 23, 24, 25, 26, 27, 29, 30, 31, 32, 34, 35, 36, 37, 38, 39, 40, 41, 42, 43, 44, 45, 46, 59, 60, 61, 62, 63, 64, 65, 66, 67, 68, 69, 70, 71, 72, 73, 74, 75, 76, 77, 78, 79, 80, 81, 82, 83, 84, 85, 86, 87, 88, 89, 90, 91, 92, 93, 94, 95, 96, 97, 98, 99] (by decide +kernel) (by decide +kernel)
set_option maxRecDepth 20000 in
theorem gX9_parseOutside_X9_semicolon : GoodIn wsX9_parseOutside (wsV RX9 280 RX9 yX9_semicolon wsX9_semicolon) := goodIn_app (goodIn_of _ (by decide +kernel)) ggX9_parseOutside_X9_semicolon
theorem dX9_parseOutside_0 : decode cX9_parseOutside 0 = .ok (.aload_n 0, 1) := by decide +kernel
theorem dX9_parseOutside_1 : decode cX9_parseOutside 1 = .ok (.aload_n 0, 1) := by decide +kernel
theorem dX9_parseOutside_2 : decode cX9_parseOutside 2 = .ok (.getfield 283, 3) := by decide +kernel
theorem dX9_parseOutside_5 : decode cX9_parseOutside 5 = .ok (.iconst 3, 1) := by decide +kernel
theorem dX9_parseOutside_6 : decode cX9_parseOutside 6 = .ok (.invokevirtual 268, 3) := by decide +kernel
theorem dX9_parseOutside_9 : decode cX9_parseOutside 9 = .ok (.aload_n 0, 1) := by decide +kernel
theorem dX9_parseOutside_10 : decode cX9_parseOutside 10 = .ok (.iconst 1, 1) := by decide +kernel
theorem dX9_parseOutside_11 : decode cX9_parseOutside 11 = .ok (.putfield 283, 3) := by decide +kernel
theorem dX9_parseOutside_14 : decode cX9_parseOutside 14 = .ok (.aload_n 0, 1) := by decide +kernel
theorem dX9_parseOutside_15 : decode cX9_parseOutside 15 = .ok (.invokevirtual 254, 3) := by decide +kernel
theorem dX9_parseOutside_18 : decode cX9_parseOutside 18 = .ok (.aload_n 0, 1) := by decide +kernel
theorem dX9_parseOutside_19 : decode cX9_parseOutside 19 = .ok (.getfield 24, 3) := by decide +kernel
theorem dX9_parseOutside_22 : decode cX9_parseOutside 22 = .ok (.iconst 1, 1) := by decide +kernel
theorem dX9_parseOutside_23 : decode cX9_parseOutside 23 = .ok (.aload_n 0, 1) := by decide +kernel
theorem dX9_parseOutside_24 : decode cX9_parseOutside 24 = .ok (.sipush 1000, 3) := by decide +kernel
theorem dX9_parseOutside_27 : decode cX9_parseOutside 27 = .ok (.sipush 4000, 3) := by decide +kernel
theorem dX9_parseOutside_30 : decode cX9_parseOutside 30 = .ok (.invokevirtual 265, 3) := by decide +kernel
theorem dX9_parseOutside_33 : decode cX9_parseOutside 33 = .ok (.iastore, 1) := by decide +kernel
theorem dX9_parseOutside_34 : decode cX9_parseOutside 34 = .ok (.aload_n 0, 1) := by decide +kernel
theorem dX9_parseOutside_35 : decode cX9_parseOutside 35 = .ok (.invokevirtual 280, 3) := by decide +kernel
theorem dX9_parseOutside_38 : decode cX9_parseOutside 38 = .ok (.return_, 1) := by decide +kernel
set_option maxRecDepth 20000 in
theorem ggX9_parseBottom_X9_errsIf : GoodIn wsX9_parseBottom wsX9_errsIf := goodIn_r _ [7, 8, 9, 10, 6, 11, 12, 13, 14, 15, 16, 17, 18, 112, 113, 114, 115, 116, 117, 118, 119, 120, 121, 122, 123, 124, 125, 126, 127, 128, 129, 130, 131, 132, 133, 134, 135, 136, 137, 138, 139, 140, 141, 142, 143, 144, 145, 146, 147, 148, 149, 150, 151, 152] (by decide +kernel) (by decide +kernel)
set_option maxRecDepth 20000 in
theorem gX9_parseBottom_X9_errsIf : GoodIn wsX9_parseBottom (wsV RX9 268 RX9 yX9_errsIf wsX9_errsIf) := goodIn_app (goodIn_of _ (by decide +kernel)) ggX9_parseBottom_X9_errsIf
set_option maxRecDepth 20000 in
theorem ggX9_parseBottom_X9_goOn : GoodIn wsX9_parseBottom wsX9_goOn := goodIn_r _ [22, 8, 9, 10, 6, 11, 12, 23, 24, 25, 26, 27, 17, 28, 29, 30, 31, 32, 33, 34, 35, 36, 37, 38, 39, 40, 41, 42, 43, 44, 45, 46, 112, 113, 114, 115, 116, 117, 118, 119, 120, 121, 122, 123, 124, 125, 126, 127, 128, 129, 130, 131, 132, 133, 134, 135, 136, 137, 138, 139, 140, 141, 142, 143, 144, 145, 146, 147, 148, 149, 150, 151, 152] (by decide +kernel) (by decide +kernel)
set_option maxRecDepth 20000 in
theorem gX9_parseBottom_X9_goOn : GoodIn wsX9_parseBottom (wsV RX9 254 RX9 yX9_goOn wsX9_goOn) := goodIn_app (goodIn_of _ (by decide +kernel)) ggX9_parseBottom_X9_goOn
set_option maxRecDepth 20000 in
theorem ggX9_parseBottom_X9_isWord : GoodIn wsX9_parseBottom wsX9_isWord := goodIn_r _ [50, 28, 27, 17, 43, 8, 9, 10, 6, 11, 12, 51, 52, 53, 54, 55, 56, 57, 58, 59, 60, 61, 62, 63, 64, 65, 66, 67, 68, 69, 70, 71, 72, 73, 74, 75, 76, 77, 78, 79, 80, 81, 82, 83, 84, 85, 86, 87, 88, 89, 90, 91, 92, 93, 94, 95, 96, 97, 98, 99, 112, 113, 114, 115, 116, 117, 118, 119, 120, 121, 122, 123, 124, 125, 126, 127, 128, 129, 130, 131, 132, 133, 134, 135, 136, 137, 138, 139, 140, 141, 142, 143, 144, 145, 146, 147, 148, 149, 150, 151, 152] (by decide +kernel) (by decide +kernel)
set_option maxRecDepth 20000 in
theorem gX9_parseBottom_X9_isWord : GoodIn wsX9_parseBottom (wsV RX9 257 RX9 yX9_isWord wsX9_isWord) := goodIn_app (goodIn_of _ (by decide +kernel)) ggX9_parseBottom_X9_isWord
set_option maxRecDepth 20000 in
theorem ggX9_parseBottom_X9_number : GoodIn wsX9_parseBottom wsX9_number := goodIn_r _ [103, 104, 105, 106, 6, 107, 28, 33, 8, 9, 10, 11, 12, 13, 14, 15, 16, 17, 18, 44, 45, 46, 19, 20, 21, 22, 23, 24, 25, 26, 27, 29, 30, 31, 32, 34, 35, 36, 37, 38, 39, 40, 41, 42, 43, 112, 113, 114, 115, 116, 117, 118, 119, 120, 121, 122, 123, 124, 125, 126, 127, 128, 129, 130, 131, 132, 133, 134, 135, 136, 137, 138, 139, 140, 141, 142, 143, 144, 145, 146, 147, 148, 149, 150, 151, 152] (by decide +kernel) (by decide +kernel)
set_option maxRecDepth 20000 in
theorem gX9_parseBottom_X9_number : GoodIn wsX9_parseBottom (wsV RX9 265 RX9 yX9_number wsX9_number) := goodIn_app (goodIn_of _ (by decide +kernel)) ggX9_parseBottom_X9_number
set_option maxRecDepth 20000 in
theorem ggX9_parseBottom_X9_semicolon : GoodIn wsX9_parseBottom wsX9_semicolon := goodIn_r _ [111, 28, 33, 8, 9, 10, 6, 11, 12, 13, 14, 15, 16, 17, 18, 19, 20, 21, 22, 23, 24, 25, 26, 27, 29, 30, 31, 32, 34, 35, 36, 37, 38, 39, 40, 41, 42, 43, 44, 45, 46, 112, 113, 114, 115, 116, 117, 118, 119, 120, 121, 122, 123, 124, 125, 126, 127, 128, 129, 130, 131, 132, 133, 134, 135, 136, 137, 138, 139, 140, 141, 142, 143, 144, 145, 146, 147, 148, 149, 150, 151, 152] (by decide +kernel) (by decide +kernel)
set_option maxRecDepth 20000 in
theorem gX9_parseBottom_X9_semicolon : GoodIn wsX9_parseBottom (wsV RX9 280 RX9 yX9_semicolon wsX9_semicolon) := goodIn_app (goodIn_of _ (by decide +kernel)) ggX9_parseBottom_X9_semicolon
theorem dX9_parseBottom_0 : decode cX9_parseBottom 0 = .ok (.aload_n 0, 1) := by decide +kernel
theorem dX9_parseBottom_1 : decode cX9_parseBottom 1 = .ok (.aload_n 0, 1) := by decide +kernel
theorem dX9_parseBottom_2 : decode cX9_parseBottom 2 = .ok (.getfield 286, 3) := by decide +kernel
theorem dX9_parseBottom_5 : decode cX9_parseBottom 5 = .ok (.iconst 3, 1) := by decide +kernel
theorem dX9_parseBottom_6 : decode cX9_parseBottom 6 = .ok (.invokevirtual 268, 3) := by decide +kernel
theorem dX9_parseBottom_9 : decode cX9_parseBottom 9 = .ok (.aload_n 0, 1) := by decide +kernel
theorem dX9_parseBottom_10 : decode cX9_parseBottom 10 = .ok (.iconst 1, 1) := by decide +kernel
theorem dX9_parseBottom_11 : decode cX9_parseBottom 11 = .ok (.putfield 286, 3) := by decide +kernel
theorem dX9_parseBottom_14 : decode cX9_parseBottom 14 = .ok (.aload_n 0, 1) := by decide +kernel
theorem dX9_parseBottom_15 : decode cX9_parseBottom 15 = .ok (.invokevirtual 254, 3) := by decide +kernel
theorem dX9_parseBottom_18 : decode cX9_parseBottom 18 = .ok (.aload_n 0, 1) := by decide +kernel
theorem dX9_parseBottom_19 : decode cX9_parseBottom 19 = .ok (.ldc_w 289, 3) := by decide +kernel
theorem dX9_parseBottom_22 : decode cX9_parseBottom 22 = .ok (.invokevirtual 257, 3) := by decide +kernel
theorem dX9_parseBottom_25 : decode cX9_parseBottom 25 = .ok (.istore_n 1, 1) := by decide +kernel
theorem dX9_parseBottom_26 : decode cX9_parseBottom 26 = .ok (.aload_n 0, 1) := by decide +kernel
theorem dX9_parseBottom_27 : decode cX9_parseBottom 27 = .ok (.iload_n 1, 1) := by decide +kernel
theorem dX9_parseBottom_28 : decode cX9_parseBottom 28 = .ok (.ifCond .ne 17, 3) := by decide +kernel
theorem dX9_parseBottom_31 : decode cX9_parseBottom 31 = .ok (.aload_n 0, 1) := by decide +kernel
theorem dX9_parseBottom_32 : decode cX9_parseBottom 32 = .ok (.ldc_w 291, 3) := by decide +kernel
theorem dX9_parseBottom_35 : decode cX9_parseBottom 35 = .ok (.invokevirtual 257, 3) := by decide +kernel
theorem dX9_parseBottom_38 : decode cX9_parseBottom 38 = .ok (.ifCond .ne 7, 3) := by decide +kernel
theorem dX9_parseBottom_41 : decode cX9_parseBottom 41 = .ok (.iconst 1, 1) := by decide +kernel
theorem dX9_parseBottom_42 : decode cX9_parseBottom 42 = .ok (.goto 4, 3) := by decide +kernel
theorem dX9_parseBottom_45 : decode cX9_parseBottom 45 = .ok (.iconst 0, 1) := by decide +kernel
theorem dX9_parseBottom_46 : decode cX9_parseBottom 46 = .ok (.iconst 1, 1) := by decide +kernel
theorem dX9_parseBottom_47 : decode cX9_parseBottom 47 = .ok (.invokevirtual 268, 3) := by decide +kernel
theorem dX9_parseBottom_50 : decode cX9_parseBottom 50 = .ok (.aload_n 0, 1) := by decide +kernel
theorem dX9_parseBottom_51 : decode cX9_parseBottom 51 = .ok (.invokevirtual 254, 3) := by decide +kernel
theorem dX9_parseBottom_54 : decode cX9_parseBottom 54 = .ok (.aload_n 0, 1) := by decide +kernel
theorem dX9_parseBottom_55 : decode cX9_parseBottom 55 = .ok (.getfield 24, 3) := by decide +kernel
theorem dX9_parseBottom_58 : decode cX9_parseBottom 58 = .ok (.iconst 2, 1) := by decide +kernel
theorem dX9_parseBottom_59 : decode cX9_parseBottom 59 = .ok (.iload_n 1, 1) := by decide +kernel
theorem dX9_parseBottom_60 : decode cX9_parseBottom 60 = .ok (.ifCond .eq 7, 3) := by decide +kernel
theorem dX9_parseBottom_63 : decode cX9_parseBottom 63 = .ok (.iconst 0, 1) := by decide +kernel
theorem dX9_parseBottom_64 : decode cX9_parseBottom 64 = .ok (.goto 4, 3) := by decide +kernel
theorem dX9_parseBottom_67 : decode cX9_parseBottom 67 = .ok (.iconst 1, 1) := by decide +kernel
theorem dX9_parseBottom_68 : decode cX9_parseBottom 68 = .ok (.iastore, 1) := by decide +kernel
theorem dX9_parseBottom_69 : decode cX9_parseBottom 69 = .ok (.aload_n 0, 1) := by decide +kernel
theorem dX9_parseBottom_70 : decode cX9_parseBottom 70 = .ok (.getfield 24, 3) := by decide +kernel
theorem dX9_parseBottom_73 : decode cX9_parseBottom 73 = .ok (.iconst 3, 1) := by decide +kernel
theorem dX9_parseBottom_74 : decode cX9_parseBottom 74 = .ok (.iload_n 1, 1) := by decide +kernel
theorem dX9_parseBottom_75 : decode cX9_parseBottom 75 = .ok (.ifCond .eq 16, 3) := by decide +kernel
theorem dX9_parseBottom_78 : decode cX9_parseBottom 78 = .ok (.aload_n 0, 1) := by decide +kernel
theorem dX9_parseBottom_79 : decode cX9_parseBottom 79 = .ok (.sipush 1000, 3) := by decide +kernel
theorem dX9_parseBottom_82 : decode cX9_parseBottom 82 = .ok (.sipush 4000, 3) := by decide +kernel
theorem dX9_parseBottom_85 : decode cX9_parseBottom 85 = .ok (.invokevirtual 265, 3) := by decide +kernel
theorem dX9_parseBottom_88 : decode cX9_parseBottom 88 = .ok (.goto 10, 3) := by decide +kernel
theorem dX9_parseBottom_91 : decode cX9_parseBottom 91 = .ok (.aload_n 0, 1) := by decide +kernel
theorem dX9_parseBottom_92 : decode cX9_parseBottom 92 = .ok (.iconst 0, 1) := by decide +kernel
theorem dX9_parseBottom_93 : decode cX9_parseBottom 93 = .ok (.bipush 100, 2) := by decide +kernel
theorem dX9_parseBottom_95 : decode cX9_parseBottom 95 = .ok (.invokevirtual 265, 3) := by decide +kernel
theorem dX9_parseBottom_98 : decode cX9_parseBottom 98 = .ok (.iastore, 1) := by decide +kernel
theorem dX9_parseBottom_99 : decode cX9_parseBottom 99 = .ok (.aload_n 0, 1) := by decide +kernel
theorem dX9_parseBottom_100 : decode cX9_parseBottom 100 = .ok (.invokevirtual 280, 3) := by decide +kernel
theorem dX9_parseBottom_103 : decode cX9_parseBottom 103 = .ok (.return_, 1) := by decide +kernel
set_option maxRecDepth 20000 in
theorem ggX9_parseShot_X9_shots : GoodIn wsX9_parseShot wsX9_shots := goodIn_r _ [5, 6, 127, 128, 129, 130, 131, 132, 133, 134, 135, 136, 137, 138, 139, 140, 141, 142, 143, 144, 145, 146, 147, 148, 149, 150, 151, 152, 153, 154, 155, 156, 157, 158, 159, 160, 161, 162, 163, 164, 165, 166, 167] (by decide +kernel) (by decide +kernel)
set_option maxRecDepth 20000 in
theorem gX9_parseShot_X9_shots : GoodIn wsX9_parseShot (wsV RX9 98 RX9 yX9_shots wsX9_shots) := goodIn_app (goodIn_of _ (by decide +kernel)) ggX9_parseShot_X9_shots
set_option maxRecDepth 20000 in
theorem ggX9_parseShot_X9_errsIf : GoodIn wsX9_parseShot wsX9_errsIf := goodIn_r _ [10, 11, 12, 13, 4, 14, 15, 16, 17, 18, 19, 20, 21, 127, 128, 129, 130, 131, 132, 133, 134, 135, 136, 137, 138, 139, 140, 141, 142, 143, 144, 145, 146, 147, 148, 149, 150, 151, 152, 153, 154, 155, 156, 157, 158, 159, 160, 161, 162, 163, 164, 165, 166, 167] (by decide +kernel) (by decide +kernel)
set_option maxRecDepth 20000 in
theorem gX9_parseShot_X9_errsIf : GoodIn wsX9_parseShot (wsV RX9 268 RX9 yX9_errsIf wsX9_errsIf) := goodIn_app (goodIn_of _ (by decide +kernel)) ggX9_parseShot_X9_errsIf
set_option maxRecDepth 20000 in
theorem ggX9_parseShot_X9_goOn : GoodIn wsX9_parseShot wsX9_goOn := goodIn_r _ [25, 11, 12, 13, 4, 14, 15, 26, 27, 28, 29, 30, 20, 31, 32, 33, 34, 35, 36, 37, 38, 39, 40, 41, 42, 43, 44, 45, 46, 47, 48, 49, 127, 128, 129, 130, 131, 132, 133, 134, 135, 136, 137, 138, 139, 140, 141, 142, 143, 144, 145, 146, 147, 148, 149, 150, 151, 152, 153, 154, 155, 156, 157, 158, 159, 160, 161, 162, 163, 164, 165, 166, 167] (by decide +kernel) (by decide +kernel)
set_option maxRecDepth 20000 in
theorem gX9_parseShot_X9_goOn : GoodIn wsX9_parseShot (wsV RX9 254 RX9 yX9_goOn wsX9_goOn) := goodIn_app (goodIn_of _ (by decide +kernel)) ggX9_parseShot_X9_goOn
set_option maxRecDepth 20000 in
theorem ggX9_parseShot_X9_numberHere : GoodIn wsX9_parseShot wsX9_numberHere := goodIn_r _ [53, 31, 36, 11, 12, 13, 4, 14, 15, 16, 17, 18, 19, 20, 21, 47, 48, 49, 127, 128, 129, 130, 131, 132, 133, 134, 135, 136, 137, 138, 139, 140, 141, 142, 143, 144, 145, 146, 147, 148, 149, 150, 151, 152, 153, 154, 155, 156, 157, 158, 159, 160, 161, 162, 163, 164, 165, 166, 167] (by decide +kernel) (by decide +kernel)
set_option maxRecDepth 20000 in
theorem gX9_parseShot_X9_numberHere : GoodIn wsX9_parseShot (wsV RX9 251 RX9 yX9_numberHere wsX9_numberHere) := goodIn_app (goodIn_of _ (by decide +kernel)) ggX9_parseShot_X9_numberHere
set_option maxRecDepth 20000 in
theorem ggX9_parseShot_X9_isLayer : GoodIn wsX9_parseShot wsX9_isLayer := goodIn_r _ [57, 58, 59, 60, 4, 61, 6, 47, 48, 49, 127, 128, 129, 130, 131, 132, 133, 134, 135, 136, 137, 138, 139, 140, 141, 142, 143, 144, 145, 146, 147, 148, 149, 150, 151, 152, 153, 154, 155, 156, 157, 158, 159, 160, 161, 162, 163, 164, 165, 166, 167] (by decide +kernel) (by decide +kernel)
set_option maxRecDepth 20000 in
theorem gX9_parseShot_X9_isLayer : GoodIn wsX9_parseShot (wsV RX9 140 RX9 yX9_isLayer wsX9_isLayer) := goodIn_app (goodIn_of _ (by decide +kernel)) ggX9_parseShot_X9_isLayer
set_option maxRecDepth 20000 in
theorem ggX9_parseShot_X9_isWord : GoodIn wsX9_parseShot wsX9_isWord := goodIn_r _ [65, 31, 30, 20, 46, 11, 12, 13, 4, 14, 15, 66, 67, 68, 69, 70, 71, 72, 73, 74, 75, 76, 77, 78, 79, 80, 81, 82, 83, 84, 85, 86, 87, 88, 89, 90, 91, 92, 93, 94, 95, 96, 97, 98, 99, 100, 101, 102, 103, 104, 105, 106, 107, 108, 109, 110, 111, 112, 113, 114, 127, 128, 129, 130, 131, 132, 133, 134, 135, 136, 137, 138, 139, 140, 141, 142, 143, 144, 145, 146, 147, 148, 149, 150, 151, 152, 153, 154, 155, 156, 157, 158, 159, 160, 161, 162, 163, 164, 165, 166, 167] (by decide +kernel) (by decide +kernel)
set_option maxRecDepth 20000 in
theorem gX9_parseShot_X9_isWord : GoodIn wsX9_parseShot (wsV RX9 257 RX9 yX9_isWord wsX9_isWord) := goodIn_app (goodIn_of _ (by decide +kernel)) ggX9_parseShot_X9_isWord
set_option maxRecDepth 20000 in
theorem ggX9_parseShot_X9_good : GoodIn wsX9_parseShot wsX9_good := goodIn_r _ [14, 15, 127, 128, 129, 130, 131, 132, 133, 134, 135, 136, 137, 138, 139, 140, 141, 142, 143, 144, 145, 146, 147, 148, 149, 150, 151, 152, 153, 154, 155, 156, 157, 158, 159, 160, 161, 162, 163, 164, 165, 166, 167] (by decide +kernel) (by decide +kernel)
set_option maxRecDepth 20000 in
theorem gX9_parseShot_X9_good : GoodIn wsX9_parseShot (wsV RX9 203 RX9 yX9_good wsX9_good) := goodIn_app (goodIn_of _ (by decide +kernel)) ggX9_parseShot_X9_good
set_option maxRecDepth 20000 in
theorem ggX9_parseShot_X9_ofLayer : GoodIn wsX9_parseShot wsX9_ofLayer := goodIn_r _ [118, 6, 127, 128, 129, 130, 131, 132, 133, 134, 135, 136, 137, 138, 139, 140, 141, 142, 143, 144, 145, 146, 147, 148, 149, 150, 151, 152, 153, 154, 155, 156, 157, 158, 159, 160, 161, 162, 163, 164, 165, 166, 167] (by decide +kernel) (by decide +kernel)
set_option maxRecDepth 20000 in
theorem gX9_parseShot_X9_ofLayer : GoodIn wsX9_parseShot (wsV RX9 105 RX9 yX9_ofLayer wsX9_ofLayer) := goodIn_app (goodIn_of _ (by decide +kernel)) ggX9_parseShot_X9_ofLayer
set_option maxRecDepth 20000 in
theorem ggX9_parseShot_X9_semicolon : GoodIn wsX9_parseShot wsX9_semicolon := goodIn_r _ [122, 31, 36, 11, 12, 13, 4, 14, 15, 16, 17, 18, 19, 20, 21, 22, 23, 24, 25, 26, 27, 28, 29, 30, 32, 33, 34, 35, 37, 38, 39, 40, 41, 42, 43, 44, 45, 46, 47, 48, 49, 127, 128, 129, 130, 131, 132, 133, 134, 135, 136, 137, 138, 139, 140, 141, 142, 143, 144, 145, 146, 147, 148, 149, 150, 151, 152, 153, 154, 155, 156, 157, 158, 159, 160, 161, 162, 163, 164, 165, 166, 167] (by decide +kernel) (by decide +kernel)
set_option maxRecDepth 20000 in
theorem gX9_parseShot_X9_semicolon : GoodIn wsX9_parseShot (wsV RX9 280 RX9 yX9_semicolon wsX9_semicolon) := goodIn_app (goodIn_of _ (by decide +kernel)) ggX9_parseShot_X9_semicolon
set_option maxRecDepth 20000 in
theorem ggX9_parseShot_X9_addShot : GoodIn wsX9_parseShot wsX9_addShot := goodIn_r _ [126, 6, 1, 2, 3, 4, 5, 127, 128, 129, 130, 131, 132, 133, 134, 135, 136, 137, 138, 139, 140, 141, 142, 143, 144, 145, 146, 147, 148, 149, 150, 151, 152, 153, 154, 155, 156, 157, 158, 159, 160, 161, 162, 163, 164, 165, 166, 167] (by decide +kernel) (by decide +kernel)
set_option maxRecDepth 20000 in
theorem gX9_parseShot_X9_addShot : GoodIn wsX9_parseShot (wsV RX9 296 RX9 yX9_addShot wsX9_addShot) := goodIn_app (goodIn_of _ (by decide +kernel)) ggX9_parseShot_X9_addShot
theorem dX9_parseShot_0 : decode cX9_parseShot 0 = .ok (.aload_n 0, 1) := by decide +kernel
theorem dX9_parseShot_1 : decode cX9_parseShot 1 = .ok (.aload_n 0, 1) := by decide +kernel
theorem dX9_parseShot_2 : decode cX9_parseShot 2 = .ok (.invokevirtual 98, 3) := by decide +kernel
theorem dX9_parseShot_5 : decode cX9_parseShot 5 = .ok (.bipush 20, 2) := by decide +kernel
theorem dX9_parseShot_7 : decode cX9_parseShot 7 = .ok (.if_icmp .ne 7, 3) := by decide +kernel
theorem dX9_parseShot_10 : decode cX9_parseShot 10 = .ok (.iconst 1, 1) := by decide +kernel
theorem dX9_parseShot_11 : decode cX9_parseShot 11 = .ok (.goto 4, 3) := by decide +kernel
theorem dX9_parseShot_14 : decode cX9_parseShot 14 = .ok (.iconst 0, 1) := by decide +kernel
theorem dX9_parseShot_15 : decode cX9_parseShot 15 = .ok (.bipush 6, 2) := by decide +kernel
theorem dX9_parseShot_17 : decode cX9_parseShot 17 = .ok (.invokevirtual 268, 3) := by decide +kernel
theorem dX9_parseShot_20 : decode cX9_parseShot 20 = .ok (.aload_n 0, 1) := by decide +kernel
theorem dX9_parseShot_21 : decode cX9_parseShot 21 = .ok (.invokevirtual 254, 3) := by decide +kernel
theorem dX9_parseShot_24 : decode cX9_parseShot 24 = .ok (.aload_n 0, 1) := by decide +kernel
theorem dX9_parseShot_25 : decode cX9_parseShot 25 = .ok (.iconst 0, 1) := by decide +kernel
theorem dX9_parseShot_26 : decode cX9_parseShot 26 = .ok (.bipush 9, 2) := by decide +kernel
theorem dX9_parseShot_28 : decode cX9_parseShot 28 = .ok (.invokevirtual 251, 3) := by decide +kernel
theorem dX9_parseShot_31 : decode cX9_parseShot 31 = .ok (.istore_n 1, 1) := by decide +kernel
theorem dX9_parseShot_32 : decode cX9_parseShot 32 = .ok (.aload_n 0, 1) := by decide +kernel
theorem dX9_parseShot_33 : decode cX9_parseShot 33 = .ok (.aload_n 0, 1) := by decide +kernel
theorem dX9_parseShot_34 : decode cX9_parseShot 34 = .ok (.iload_n 1, 1) := by decide +kernel
theorem dX9_parseShot_35 : decode cX9_parseShot 35 = .ok (.invokevirtual 140, 3) := by decide +kernel
theorem dX9_parseShot_38 : decode cX9_parseShot 38 = .ok (.ifCond .ne 7, 3) := by decide +kernel
theorem dX9_parseShot_41 : decode cX9_parseShot 41 = .ok (.iconst 1, 1) := by decide +kernel
theorem dX9_parseShot_42 : decode cX9_parseShot 42 = .ok (.goto 4, 3) := by decide +kernel
theorem dX9_parseShot_45 : decode cX9_parseShot 45 = .ok (.iconst 0, 1) := by decide +kernel
theorem dX9_parseShot_46 : decode cX9_parseShot 46 = .ok (.iconst 4, 1) := by decide +kernel
theorem dX9_parseShot_47 : decode cX9_parseShot 47 = .ok (.invokevirtual 268, 3) := by decide +kernel
theorem dX9_parseShot_50 : decode cX9_parseShot 50 = .ok (.aload_n 0, 1) := by decide +kernel
theorem dX9_parseShot_51 : decode cX9_parseShot 51 = .ok (.invokevirtual 254, 3) := by decide +kernel
theorem dX9_parseShot_54 : decode cX9_parseShot 54 = .ok (.aload_n 0, 1) := by decide +kernel
theorem dX9_parseShot_55 : decode cX9_parseShot 55 = .ok (.ldc_w 292, 3) := by decide +kernel
theorem dX9_parseShot_58 : decode cX9_parseShot 58 = .ok (.invokevirtual 257, 3) := by decide +kernel
theorem dX9_parseShot_61 : decode cX9_parseShot 61 = .ok (.istore_n 2, 1) := by decide +kernel
theorem dX9_parseShot_62 : decode cX9_parseShot 62 = .ok (.aload_n 0, 1) := by decide +kernel
theorem dX9_parseShot_63 : decode cX9_parseShot 63 = .ok (.iload_n 2, 1) := by decide +kernel
theorem dX9_parseShot_64 : decode cX9_parseShot 64 = .ok (.ifCond .ne 17, 3) := by decide +kernel
theorem dX9_parseShot_67 : decode cX9_parseShot 67 = .ok (.aload_n 0, 1) := by decide +kernel
theorem dX9_parseShot_68 : decode cX9_parseShot 68 = .ok (.ldc_w 294, 3) := by decide +kernel
theorem dX9_parseShot_71 : decode cX9_parseShot 71 = .ok (.invokevirtual 257, 3) := by decide +kernel
theorem dX9_parseShot_74 : decode cX9_parseShot 74 = .ok (.ifCond .ne 7, 3) := by decide +kernel
theorem dX9_parseShot_77 : decode cX9_parseShot 77 = .ok (.iconst 1, 1) := by decide +kernel
theorem dX9_parseShot_78 : decode cX9_parseShot 78 = .ok (.goto 4, 3) := by decide +kernel
theorem dX9_parseShot_81 : decode cX9_parseShot 81 = .ok (.iconst 0, 1) := by decide +kernel
theorem dX9_parseShot_82 : decode cX9_parseShot 82 = .ok (.iconst 1, 1) := by decide +kernel
theorem dX9_parseShot_83 : decode cX9_parseShot 83 = .ok (.invokevirtual 268, 3) := by decide +kernel
theorem dX9_parseShot_86 : decode cX9_parseShot 86 = .ok (.aload_n 0, 1) := by decide +kernel
theorem dX9_parseShot_87 : decode cX9_parseShot 87 = .ok (.invokevirtual 254, 3) := by decide +kernel
theorem dX9_parseShot_90 : decode cX9_parseShot 90 = .ok (.aload_n 0, 1) := by decide +kernel
theorem dX9_parseShot_91 : decode cX9_parseShot 91 = .ok (.iconst 0, 1) := by decide +kernel
theorem dX9_parseShot_92 : decode cX9_parseShot 92 = .ok (.sipush 3999, 3) := by decide +kernel
theorem dX9_parseShot_95 : decode cX9_parseShot 95 = .ok (.invokevirtual 251, 3) := by decide +kernel
theorem dX9_parseShot_98 : decode cX9_parseShot 98 = .ok (.istore_n 3, 1) := by decide +kernel
theorem dX9_parseShot_99 : decode cX9_parseShot 99 = .ok (.aload_n 0, 1) := by decide +kernel
theorem dX9_parseShot_100 : decode cX9_parseShot 100 = .ok (.aload_n 0, 1) := by decide +kernel
theorem dX9_parseShot_101 : decode cX9_parseShot 101 = .ok (.invokevirtual 203, 3) := by decide +kernel
theorem dX9_parseShot_104 : decode cX9_parseShot 104 = .ok (.ifCond .eq 17, 3) := by decide +kernel
theorem dX9_parseShot_107 : decode cX9_parseShot 107 = .ok (.iload_n 3, 1) := by decide +kernel
theorem dX9_parseShot_108 : decode cX9_parseShot 108 = .ok (.aload_n 0, 1) := by decide +kernel
theorem dX9_parseShot_109 : decode cX9_parseShot 109 = .ok (.iload_n 1, 1) := by decide +kernel
theorem dX9_parseShot_110 : decode cX9_parseShot 110 = .ok (.iconst 0, 1) := by decide +kernel
theorem dX9_parseShot_111 : decode cX9_parseShot 111 = .ok (.invokevirtual 105, 3) := by decide +kernel
theorem dX9_parseShot_114 : decode cX9_parseShot 114 = .ok (.if_icmp .lt 7, 3) := by decide +kernel
theorem dX9_parseShot_117 : decode cX9_parseShot 117 = .ok (.iconst 1, 1) := by decide +kernel
theorem dX9_parseShot_118 : decode cX9_parseShot 118 = .ok (.goto 4, 3) := by decide +kernel
theorem dX9_parseShot_121 : decode cX9_parseShot 121 = .ok (.iconst 0, 1) := by decide +kernel
theorem dX9_parseShot_122 : decode cX9_parseShot 122 = .ok (.iconst 5, 1) := by decide +kernel
theorem dX9_parseShot_123 : decode cX9_parseShot 123 = .ok (.invokevirtual 268, 3) := by decide +kernel
theorem dX9_parseShot_126 : decode cX9_parseShot 126 = .ok (.aload_n 0, 1) := by decide +kernel
theorem dX9_parseShot_127 : decode cX9_parseShot 127 = .ok (.invokevirtual 254, 3) := by decide +kernel
theorem dX9_parseShot_130 : decode cX9_parseShot 130 = .ok (.aload_n 0, 1) := by decide +kernel
theorem dX9_parseShot_131 : decode cX9_parseShot 131 = .ok (.invokevirtual 280, 3) := by decide +kernel
theorem dX9_parseShot_134 : decode cX9_parseShot 134 = .ok (.aload_n 0, 1) := by decide +kernel
theorem dX9_parseShot_135 : decode cX9_parseShot 135 = .ok (.invokevirtual 203, 3) := by decide +kernel
theorem dX9_parseShot_138 : decode cX9_parseShot 138 = .ok (.ifCond .eq 10, 3) := by decide +kernel
theorem dX9_parseShot_141 : decode cX9_parseShot 141 = .ok (.aload_n 0, 1) := by decide +kernel
theorem dX9_parseShot_142 : decode cX9_parseShot 142 = .ok (.iload_n 1, 1) := by decide +kernel
theorem dX9_parseShot_143 : decode cX9_parseShot 143 = .ok (.iload_n 2, 1) := by decide +kernel
theorem dX9_parseShot_144 : decode cX9_parseShot 144 = .ok (.iload_n 3, 1) := by decide +kernel
theorem dX9_parseShot_145 : decode cX9_parseShot 145 = .ok (.invokevirtual 296, 3) := by decide +kernel
theorem dX9_parseShot_148 : decode cX9_parseShot 148 = .ok (.return_, 1) := by decide +kernel
set_option maxRecDepth 20000 in
theorem ggX9_parseStatement_X9_isWord : GoodIn wsX9_parseStatement wsX9_isWord := goodIn_r _ [5, 6, 7, 8, 9, 10, 11, 12, 4, 13, 14, 15, 16, 17, 18, 19, 20, 21, 22, 23, 24, 25, 26, 27, 28, 29, 30, 31, 32, 33, 34, 35, 36, 37, 38, 39, 40, 41, 42, 43, 44, 45, 46, 47, 48, 49, 50, 51, 52, 53, 54, 55, 56, 57, 58, 59, 60, 61, 62, 63, 165, 166, 167, 168, 169, 170, 171, 172, 173, 174, 175, 176, 177, 178, 179, 180, 181, 182, 183, 184, 185, 186, 187, 188, 189, 190, 191, 192, 193, 194, 195, 196, 197, 198, 199, 200, 201, 202, 203, 204, 205] (by decide +kernel) (by decide +kernel)
set_option maxRecDepth 20000 in
theorem gX9_parseStatement_X9_isWord : GoodIn wsX9_parseStatement (wsV RX9 257 RX9 yX9_isWord wsX9_isWord) := goodIn_app (goodIn_of _ (by decide +kernel)) ggX9_parseStatement_X9_isWord
set_option maxRecDepth 20000 in
theorem ggX9_parseStatement_X9_parseLayer : GoodIn wsX9_parseStatement wsX9_parseLayer := goodIn_r _ [67, 68, 69, 70, 4, 71, 72, 73, 74, 75, 76, 10, 11, 12, 13, 14, 77, 78, 79, 80, 8, 81, 82, 83, 84, 85, 86, 87, 88, 89, 7, 6, 90, 91, 92, 93, 94, 95, 96, 97, 98, 99, 100, 101, 102, 103, 9, 104, 105, 106, 107, 108, 109, 110, 111, 112, 113, 114, 115, 116, 117, 118, 119, 120, 121, 122, 1, 2, 3, 5, 15, 16, 17, 18, 19, 20, 21, 22, 23, 24, 25, 26, 27, 28, 29, 30, 31, 32, 33, 34, 35, 36, 37, 38, 39, 40, 41, 42, 43, 44, 45, 46, 47, 48, 49, 50, 51, 52, 53, 54, 55, 56, 57, 58, 59, 60, 61, 62, 63, 123, 124, 125, 126, 127, 128, 129, 130, 131, 132, 133, 134, 165, 166, 167, 168, 169, 170, 171, 172, 173, 174, 175, 176, 177, 178, 179, 180, 181, 182, 183, 184, 185, 186, 187, 188, 189, 190, 191, 192, 193, 194, 195, 196, 197, 198, 199, 200, 201, 202, 203, 204, 205] (by decide +kernel) (by decide +kernel)
set_option maxRecDepth 20000 in
theorem gX9_parseStatement_X9_parseLayer : GoodIn wsX9_parseStatement (wsV RX9 301 RX9 yX9_parseLayer wsX9_parseLayer) := goodIn_app (goodIn_of _ (by decide +kernel)) ggX9_parseStatement_X9_parseLayer
set_option maxRecDepth 20000 in
theorem ggX9_parseStatement_X9_parseOutside : GoodIn wsX9_parseStatement wsX9_parseOutside := goodIn_r _ [138, 139, 72, 73, 74, 75, 4, 76, 10, 11, 12, 13, 14, 77, 78, 79, 80, 8, 81, 82, 83, 84, 85, 86, 87, 88, 89, 7, 6, 90, 91, 92, 93, 94, 95, 96, 97, 98, 99, 100, 101, 102, 103, 9, 104, 105, 106, 107, 108, 109, 110, 111, 112, 113, 114, 123, 124, 125, 126, 165, 166, 167, 168, 169, 170, 171, 172, 173, 174, 175, 176, 177, 178, 179, 180, 181, 182, 183, 184, 185, 186, 187, 188, 189, 190, 191, 192, 193, 194, 195, 196, 197, 198, 199, 200, 201, 202, 203, 204, 205] (by decide +kernel) (by decide +kernel)
set_option maxRecDepth 20000 in
theorem gX9_parseStatement_X9_parseOutside : GoodIn wsX9_parseStatement (wsV RX9 306 RX9 yX9_parseOutside wsX9_parseOutside) := goodIn_app (goodIn_of _ (by decide +kernel)) ggX9_parseStatement_X9_parseOutside
set_option maxRecDepth 20000 in
theorem ggX9_parseStatement_X9_parseBottom : GoodIn wsX9_parseStatement wsX9_parseBottom := goodIn_r _ [143, 144, 72, 73, 74, 75, 4, 76, 10, 11, 12, 13, 14, 77, 78, 79, 80, 8, 81, 82, 83, 84, 85, 86, 87, 88, 89, 7, 6, 90, 91, 92, 93, 94, 95, 96, 97, 98, 99, 100, 101, 102, 103, 9, 104, 105, 106, 1, 2, 3, 5, 15, 16, 17, 18, 19, 20, 21, 22, 23, 24, 25, 26, 27, 28, 29, 30, 31, 32, 33, 34, 35, 36, 37, 38, 39, 40, 41, 42, 43, 44, 45, 46, 47, 48, 49, 50, 51, 52, 53, 54, 55, 56, 57, 58, 59, 60, 61, 62, 63, 107, 108, 109, 110, 111, 112, 113, 114, 123, 124, 125, 126, 165, 166, 167, 168, 169, 170, 171, 172, 173, 174, 175, 176, 177, 178, 179, 180, 181, 182, 183, 184, 185, 186, 187, 188, 189, 190, 191, 192, 193, 194, 195, 196, 197, 198, 199, 200, 201, 202, 203, 204, 205] (by decide +kernel) (by decide +kernel)
set_option maxRecDepth 20000 in
theorem gX9_parseStatement_X9_parseBottom : GoodIn wsX9_parseStatement (wsV RX9 311 RX9 yX9_parseBottom wsX9_parseBottom) := goodIn_app (goodIn_of _ (by decide +kernel)) ggX9_parseStatement_X9_parseBottom
set_option maxRecDepth 20000 in
theorem ggX9_parseStatement_X9_parseShot : GoodIn wsX9_parseStatement wsX9_parseShot := goodIn_r _ [148, 149, 150, 151, 4, 152, 72, 73, 74, 75, 76, 10, 11, 12, 13, 14, 77, 78, 79, 80, 8, 81, 82, 83, 84, 85, 86, 87, 88, 89, 7, 6, 90, 91, 92, 93, 94, 95, 96, 97, 98, 99, 100, 101, 102, 103, 9, 104, 105, 106, 111, 112, 113, 114, 153, 154, 155, 156, 68, 69, 70, 71, 1, 2, 3, 5, 15, 16, 17, 18, 19, 20, 21, 22, 23, 24, 25, 26, 27, 28, 29, 30, 31, 32, 33, 34, 35, 36, 37, 38, 39, 40, 41, 42, 43, 44, 45, 46, 47, 48, 49, 50, 51, 52, 53, 54, 55, 56, 57, 58, 59, 60, 61, 62, 63, 157, 158, 159, 160, 123, 124, 125, 126, 161, 162, 163, 164, 165, 166, 167, 168, 169, 170, 171, 172, 173, 174, 175, 176, 177, 178, 179, 180, 181, 182, 183, 184, 185, 186, 187, 188, 189, 190, 191, 192, 193, 194, 195, 196, 197, 198, 199, 200, 201, 202, 203, 204, 205] (by decide +kernel) (by decide +kernel)
set_option maxRecDepth 20000 in
theorem gX9_parseStatement_X9_parseShot : GoodIn wsX9_parseStatement (wsV RX9 316 RX9 yX9_parseShot wsX9_parseShot) := goodIn_app (goodIn_of _ (by decide +kernel)) ggX9_parseStatement_X9_parseShot
set_option maxRecDepth 20000 in
theorem ggX9_parseStatement_X9_errs : GoodIn wsX9_parseStatement wsX9_errs := goodIn_r _ [80, 14, 8, 81, 10, 11, 12, 4, 13, 165, 166, 167, 168, 169, 170, 171, 172, 173, 174, 175, 176, 177, 178, 179, 180, 181, 182, 183, 184, 185, 186, 187, 188, 189, 190, 191, 192, 193, 194, 195, 196, 197, 198, 199, 200, 201, 202, 203, 204, 205] (by decide +kernel) (by decide +kernel)
set_option maxRecDepth 20000 in
theorem gX9_parseStatement_X9_errs : GoodIn wsX9_parseStatement (wsV RX9 248 RX9 yX9_errs wsX9_errs) := goodIn_app (goodIn_of _ (by decide +kernel)) ggX9_parseStatement_X9_errs
theorem dX9_parseStatement_0 : decode cX9_parseStatement 0 = .ok (.aload_n 0, 1) := by decide +kernel
theorem dX9_parseStatement_1 : decode cX9_parseStatement 1 = .ok (.ldc_w 299, 3) := by decide +kernel
theorem dX9_parseStatement_4 : decode cX9_parseStatement 4 = .ok (.invokevirtual 257, 3) := by decide +kernel
theorem dX9_parseStatement_7 : decode cX9_parseStatement 7 = .ok (.ifCond .eq 10, 3) := by decide +kernel
theorem dX9_parseStatement_10 : decode cX9_parseStatement 10 = .ok (.aload_n 0, 1) := by decide +kernel
theorem dX9_parseStatement_11 : decode cX9_parseStatement 11 = .ok (.invokevirtual 301, 3) := by decide +kernel
theorem dX9_parseStatement_14 : decode cX9_parseStatement 14 = .ok (.goto 59, 3) := by decide +kernel
theorem dX9_parseStatement_17 : decode cX9_parseStatement 17 = .ok (.aload_n 0, 1) := by decide +kernel
theorem dX9_parseStatement_18 : decode cX9_parseStatement 18 = .ok (.ldc_w 304, 3) := by decide +kernel
theorem dX9_parseStatement_21 : decode cX9_parseStatement 21 = .ok (.invokevirtual 257, 3) := by decide +kernel
theorem dX9_parseStatement_24 : decode cX9_parseStatement 24 = .ok (.ifCond .eq 10, 3) := by decide +kernel
theorem dX9_parseStatement_27 : decode cX9_parseStatement 27 = .ok (.aload_n 0, 1) := by decide +kernel
theorem dX9_parseStatement_28 : decode cX9_parseStatement 28 = .ok (.invokevirtual 306, 3) := by decide +kernel
theorem dX9_parseStatement_31 : decode cX9_parseStatement 31 = .ok (.goto 42, 3) := by decide +kernel
theorem dX9_parseStatement_34 : decode cX9_parseStatement 34 = .ok (.aload_n 0, 1) := by decide +kernel
theorem dX9_parseStatement_35 : decode cX9_parseStatement 35 = .ok (.ldc_w 309, 3) := by decide +kernel
theorem dX9_parseStatement_38 : decode cX9_parseStatement 38 = .ok (.invokevirtual 257, 3) := by decide +kernel
theorem dX9_parseStatement_41 : decode cX9_parseStatement 41 = .ok (.ifCond .eq 10, 3) := by decide +kernel
theorem dX9_parseStatement_44 : decode cX9_parseStatement 44 = .ok (.aload_n 0, 1) := by decide +kernel
theorem dX9_parseStatement_45 : decode cX9_parseStatement 45 = .ok (.invokevirtual 311, 3) := by decide +kernel
theorem dX9_parseStatement_48 : decode cX9_parseStatement 48 = .ok (.goto 25, 3) := by decide +kernel
theorem dX9_parseStatement_51 : decode cX9_parseStatement 51 = .ok (.aload_n 0, 1) := by decide +kernel
theorem dX9_parseStatement_52 : decode cX9_parseStatement 52 = .ok (.ldc_w 314, 3) := by decide +kernel
theorem dX9_parseStatement_55 : decode cX9_parseStatement 55 = .ok (.invokevirtual 257, 3) := by decide +kernel
theorem dX9_parseStatement_58 : decode cX9_parseStatement 58 = .ok (.ifCond .eq 10, 3) := by decide +kernel
theorem dX9_parseStatement_61 : decode cX9_parseStatement 61 = .ok (.aload_n 0, 1) := by decide +kernel
theorem dX9_parseStatement_62 : decode cX9_parseStatement 62 = .ok (.invokevirtual 316, 3) := by decide +kernel
theorem dX9_parseStatement_65 : decode cX9_parseStatement 65 = .ok (.goto 8, 3) := by decide +kernel
theorem dX9_parseStatement_68 : decode cX9_parseStatement 68 = .ok (.aload_n 0, 1) := by decide +kernel
theorem dX9_parseStatement_69 : decode cX9_parseStatement 69 = .ok (.iconst 1, 1) := by decide +kernel
theorem dX9_parseStatement_70 : decode cX9_parseStatement 70 = .ok (.invokevirtual 248, 3) := by decide +kernel
theorem dX9_parseStatement_73 : decode cX9_parseStatement 73 = .ok (.return_, 1) := by decide +kernel
set_option maxRecDepth 20000 in
theorem ggX9_load_X9_layPlain : GoodIn wsX9_load wsX9_layPlain := goodIn_r _ [17, 10, 183, 184, 185, 186, 187, 188, 189, 190, 191, 192, 193, 194, 195, 196, 197, 198, 199, 200, 201, 202, 203, 204, 205, 206, 207, 208, 209, 210, 211, 212, 213, 214, 215, 216, 217, 218, 219, 220, 221, 222, 223] (by decide +kernel) (by decide +kernel)
set_option maxRecDepth 20000 in
theorem gX9_load_X9_layPlain : GoodIn wsX9_load (wsV RX9 83 RX9 yX9_layPlain wsX9_layPlain) := goodIn_app (goodIn_of _ (by decide +kernel)) ggX9_load_X9_layPlain
set_option maxRecDepth 20000 in
theorem ggX9_load_X9_scan : GoodIn wsX9_load wsX9_scan := goodIn_r _ [21, 4, 22, 11, 23, 24, 25, 26, 27, 28, 29, 30, 31, 32, 33, 34, 16, 35, 3, 36, 37, 38, 39, 183, 184, 185, 186, 187, 188, 189, 190, 191, 192, 193, 194, 195, 196, 197, 198, 199, 200, 201, 202, 203, 204, 205, 206, 207, 208, 209, 210, 211, 212, 213, 214, 215, 216, 217, 218, 219, 220, 221, 222, 223] (by decide +kernel) (by decide +kernel)
set_option maxRecDepth 20000 in
theorem gX9_load_X9_scan : GoodIn wsX9_load (wsV RX9 236 RX9 yX9_scan wsX9_scan) := goodIn_app (goodIn_of _ (by decide +kernel)) ggX9_load_X9_scan
set_option maxRecDepth 20000 in
theorem ggX9_load_X9_isWord : GoodIn wsX9_load wsX9_isWord := goodIn_r _ [43, 11, 4, 22, 36, 44, 45, 46, 16, 47, 5, 48, 49, 50, 51, 52, 53, 54, 55, 56, 57, 58, 59, 60, 61, 62, 63, 64, 65, 66, 67, 68, 69, 70, 71, 72, 73, 74, 75, 76, 77, 78, 79, 80, 81, 82, 83, 84, 85, 86, 87, 88, 89, 90, 91, 92, 93, 94, 95, 96, 183, 184, 185, 186, 187, 188, 189, 190, 191, 192, 193, 194, 195, 196, 197, 198, 199, 200, 201, 202, 203, 204, 205, 206, 207, 208, 209, 210, 211, 212, 213, 214, 215, 216, 217, 218, 219, 220, 221, 222, 223] (by decide +kernel) (by decide +kernel)
set_option maxRecDepth 20000 in
theorem gX9_load_X9_isWord : GoodIn wsX9_load (wsV RX9 257 RX9 yX9_isWord wsX9_isWord) := goodIn_app (goodIn_of _ (by decide +kernel)) ggX9_load_X9_isWord
set_option maxRecDepth 20000 in
theorem ggX9_load_X9_errsIf : GoodIn wsX9_load wsX9_errsIf := goodIn_r _ [100, 44, 45, 46, 16, 47, 5, 101, 102, 103, 104, 22, 6, 183, 184, 185, 186, 187, 188, 189, 190, 191, 192, 193, 194, 195, 196, 197, 198, 199, 200, 201, 202, 203, 204, 205, 206, 207, 208, 209, 210, 211, 212, 213, 214, 215, 216, 217, 218, 219, 220, 221, 222, 223] (by decide +kernel) (by decide +kernel)
set_option maxRecDepth 20000 in
theorem gX9_load_X9_errsIf : GoodIn wsX9_load (wsV RX9 268 RX9 yX9_errsIf wsX9_errsIf) := goodIn_app (goodIn_of _ (by decide +kernel)) ggX9_load_X9_errsIf
set_option maxRecDepth 20000 in
theorem ggX9_load_X9_good : GoodIn wsX9_load wsX9_good := goodIn_r _ [47, 5, 183, 184, 185, 186, 187, 188, 189, 190, 191, 192, 193, 194, 195, 196, 197, 198, 199, 200, 201, 202, 203, 204, 205, 206, 207, 208, 209, 210, 211, 212, 213, 214, 215, 216, 217, 218, 219, 220, 221, 222, 223] (by decide +kernel) (by decide +kernel)
set_option maxRecDepth 20000 in
theorem gX9_load_X9_good : GoodIn wsX9_load (wsV RX9 203 RX9 yX9_good wsX9_good) := goodIn_app (goodIn_of _ (by decide +kernel)) ggX9_load_X9_good
set_option maxRecDepth 20000 in
theorem ggX9_load_X9_parseStatement : GoodIn wsX9_load wsX9_parseStatement := goodIn_r _ [108, 40, 41, 42, 16, 43, 11, 4, 22, 36, 44, 45, 46, 47, 5, 48, 49, 50, 51, 52, 53, 54, 55, 56, 57, 58, 59, 60, 61, 62, 63, 64, 65, 66, 67, 68, 69, 70, 71, 72, 73, 74, 75, 76, 77, 78, 79, 80, 81, 82, 83, 84, 85, 86, 87, 88, 89, 90, 91, 92, 93, 94, 95, 96, 109, 110, 111, 112, 113, 114, 115, 116, 10, 97, 98, 99, 100, 101, 102, 103, 104, 6, 117, 118, 119, 120, 18, 19, 20, 21, 23, 24, 25, 26, 27, 28, 29, 30, 31, 32, 33, 34, 35, 3, 37, 38, 39, 121, 122, 123, 124, 125, 126, 127, 128, 129, 130, 131, 132, 133, 134, 135, 136, 137, 138, 139, 140, 141, 142, 143, 144, 145, 146, 147, 148, 149, 150, 151, 152, 7, 153, 154, 155, 156, 8, 157, 158, 159, 160, 161, 162, 163, 164, 165, 166, 167, 168, 169, 170, 171, 172, 173, 174, 175, 176, 183, 184, 185, 186, 187, 188, 189, 190, 191, 192, 193, 194, 195, 196, 197, 198, 199, 200, 201, 202, 203, 204, 205, 206, 207, 208, 209, 210, 211, 212, 213, 214, 215, 216, 217, 218, 219, 220, 221, 222, 223] (by decide +kernel) (by decide +kernel)
set_option maxRecDepth 20000 in
theorem gX9_load_X9_parseStatement : GoodIn wsX9_load (wsV RX9 319 RX9 yX9_parseStatement wsX9_parseStatement) := goodIn_app (goodIn_of _ (by decide +kernel)) ggX9_load_X9_parseStatement
set_option maxRecDepth 20000 in
theorem ggX9_load_X9_remember : GoodIn wsX9_load wsX9_remember := goodIn_r _ [180, 181, 182, 12, 183, 184, 185, 186, 187, 188, 189, 190, 191, 192, 193, 194, 195, 196, 197, 198, 199, 200, 201, 202, 203, 204, 205, 206, 207, 208, 209, 210, 211, 212, 213, 214, 215, 216, 217, 218, 219, 220, 221, 222, 223] (by decide +kernel) (by decide +kernel)
set_option maxRecDepth 20000 in
theorem gX9_load_X9_remember : GoodIn wsX9_load (wsV RX9 322 RX9 yX9_remember wsX9_remember) := goodIn_app (goodIn_of _ (by decide +kernel)) ggX9_load_X9_remember
set_option maxRecDepth 20000 in
theorem ggX9_load_X9_layers : GoodIn wsX9_load wsX9_layers := goodIn_r _ [116, 10, 183, 184, 185, 186, 187, 188, 189, 190, 191, 192, 193, 194, 195, 196, 197, 198, 199, 200, 201, 202, 203, 204, 205, 206, 207, 208, 209, 210, 211, 212, 213, 214, 215, 216, 217, 218, 219, 220, 221, 222, 223] (by decide +kernel) (by decide +kernel)
set_option maxRecDepth 20000 in
theorem gX9_load_X9_layers : GoodIn wsX9_load (wsV RX9 90 RX9 yX9_layers wsX9_layers) := goodIn_app (goodIn_of _ (by decide +kernel)) ggX9_load_X9_layers
theorem dX9_load_0 : decode cX9_load 0 = .ok (.aload_n 0, 1) := by decide +kernel
theorem dX9_load_1 : decode cX9_load 1 = .ok (.iconst 0, 1) := by decide +kernel
theorem dX9_load_2 : decode cX9_load 2 = .ok (.putfield 3, 3) := by decide +kernel
theorem dX9_load_5 : decode cX9_load 5 = .ok (.aload_n 0, 1) := by decide +kernel
theorem dX9_load_6 : decode cX9_load 6 = .ok (.aload_n 0, 1) := by decide +kernel
theorem dX9_load_7 : decode cX9_load 7 = .ok (.getfield 190, 3) := by decide +kernel
theorem dX9_load_10 : decode cX9_load 10 = .ok (.putfield 210, 3) := by decide +kernel
theorem dX9_load_13 : decode cX9_load 13 = .ok (.aload_n 0, 1) := by decide +kernel
theorem dX9_load_14 : decode cX9_load 14 = .ok (.iconst 0, 1) := by decide +kernel
theorem dX9_load_15 : decode cX9_load 15 = .ok (.putfield 190, 3) := by decide +kernel
theorem dX9_load_18 : decode cX9_load 18 = .ok (.aload_n 0, 1) := by decide +kernel
theorem dX9_load_19 : decode cX9_load 19 = .ok (.iconst 0, 1) := by decide +kernel
theorem dX9_load_20 : decode cX9_load 20 = .ok (.putfield 213, 3) := by decide +kernel
theorem dX9_load_23 : decode cX9_load 23 = .ok (.aload_n 0, 1) := by decide +kernel
theorem dX9_load_24 : decode cX9_load 24 = .ok (.iconst 0, 1) := by decide +kernel
theorem dX9_load_25 : decode cX9_load 25 = .ok (.putfield 200, 3) := by decide +kernel
theorem dX9_load_28 : decode cX9_load 28 = .ok (.aload_n 0, 1) := by decide +kernel
theorem dX9_load_29 : decode cX9_load 29 = .ok (.iconst (-1), 1) := by decide +kernel
theorem dX9_load_30 : decode cX9_load 30 = .ok (.putfield 53, 3) := by decide +kernel
theorem dX9_load_33 : decode cX9_load 33 = .ok (.aload_n 0, 1) := by decide +kernel
theorem dX9_load_34 : decode cX9_load 34 = .ok (.iconst 0, 1) := by decide +kernel
theorem dX9_load_35 : decode cX9_load 35 = .ok (.putfield 283, 3) := by decide +kernel
theorem dX9_load_38 : decode cX9_load 38 = .ok (.aload_n 0, 1) := by decide +kernel
theorem dX9_load_39 : decode cX9_load 39 = .ok (.iconst 0, 1) := by decide +kernel
theorem dX9_load_40 : decode cX9_load 40 = .ok (.putfield 286, 3) := by decide +kernel
theorem dX9_load_43 : decode cX9_load 43 = .ok (.aload_n 0, 1) := by decide +kernel
theorem dX9_load_44 : decode cX9_load 44 = .ok (.aload_n 0, 1) := by decide +kernel
theorem dX9_load_45 : decode cX9_load 45 = .ok (.getfield 21, 3) := by decide +kernel
theorem dX9_load_48 : decode cX9_load 48 = .ok (.putfield 24, 3) := by decide +kernel
theorem dX9_load_51 : decode cX9_load 51 = .ok (.aload_n 0, 1) := by decide +kernel
theorem dX9_load_52 : decode cX9_load 52 = .ok (.invokevirtual 83, 3) := by decide +kernel
theorem dX9_load_55 : decode cX9_load 55 = .ok (.aload_n 0, 1) := by decide +kernel
theorem dX9_load_56 : decode cX9_load 56 = .ok (.invokevirtual 236, 3) := by decide +kernel
theorem dX9_load_59 : decode cX9_load 59 = .ok (.aload_n 0, 1) := by decide +kernel
theorem dX9_load_60 : decode cX9_load 60 = .ok (.aload_n 0, 1) := by decide +kernel
theorem dX9_load_61 : decode cX9_load 61 = .ok (.ldc_w 299, 3) := by decide +kernel
theorem dX9_load_64 : decode cX9_load 64 = .ok (.invokevirtual 257, 3) := by decide +kernel
theorem dX9_load_67 : decode cX9_load 67 = .ok (.ifCond .ne 7, 3) := by decide +kernel
theorem dX9_load_70 : decode cX9_load 70 = .ok (.iconst 1, 1) := by decide +kernel
theorem dX9_load_71 : decode cX9_load 71 = .ok (.goto 4, 3) := by decide +kernel
theorem dX9_load_74 : decode cX9_load 74 = .ok (.iconst 0, 1) := by decide +kernel
theorem dX9_load_75 : decode cX9_load 75 = .ok (.iconst 1, 1) := by decide +kernel
theorem dX9_load_76 : decode cX9_load 76 = .ok (.invokevirtual 268, 3) := by decide +kernel
theorem dX9_load_79 : decode cX9_load 79 = .ok (.aload_n 0, 1) := by decide +kernel
theorem dX9_load_80 : decode cX9_load 80 = .ok (.invokevirtual 203, 3) := by decide +kernel
theorem dX9_load_83 : decode cX9_load 83 = .ok (.ifCond .eq 17, 3) := by decide +kernel
theorem dX9_load_86 : decode cX9_load 86 = .ok (.aload_n 0, 1) := by decide +kernel
theorem dX9_load_87 : decode cX9_load 87 = .ok (.getfield 219, 3) := by decide +kernel
theorem dX9_load_90 : decode cX9_load 90 = .ok (.ifCond .eq 10, 3) := by decide +kernel
theorem dX9_load_93 : decode cX9_load 93 = .ok (.aload_n 0, 1) := by decide +kernel
theorem dX9_load_94 : decode cX9_load 94 = .ok (.invokevirtual 319, 3) := by decide +kernel
theorem dX9_load_97 : decode cX9_load 97 = .ok (.goto (-18), 3) := by decide +kernel
theorem dX9_load_100 : decode cX9_load 100 = .ok (.aload_n 0, 1) := by decide +kernel
theorem dX9_load_101 : decode cX9_load 101 = .ok (.aload_n 0, 1) := by decide +kernel
theorem dX9_load_102 : decode cX9_load 102 = .ok (.getfield 17, 3) := by decide +kernel
theorem dX9_load_105 : decode cX9_load 105 = .ok (.putfield 24, 3) := by decide +kernel
theorem dX9_load_108 : decode cX9_load 108 = .ok (.aload_n 0, 1) := by decide +kernel
theorem dX9_load_109 : decode cX9_load 109 = .ok (.invokevirtual 203, 3) := by decide +kernel
theorem dX9_load_112 : decode cX9_load 112 = .ok (.ifCond .ne 6, 3) := by decide +kernel
theorem dX9_load_115 : decode cX9_load 115 = .ok (.bipush (-4), 2) := by decide +kernel
theorem dX9_load_117 : decode cX9_load 117 = .ok (.ireturn, 1) := by decide +kernel
theorem dX9_load_118 : decode cX9_load 118 = .ok (.aload_n 0, 1) := by decide +kernel
theorem dX9_load_119 : decode cX9_load 119 = .ok (.invokevirtual 322, 3) := by decide +kernel
theorem dX9_load_122 : decode cX9_load 122 = .ok (.iconst 0, 1) := by decide +kernel
theorem dX9_load_123 : decode cX9_load 123 = .ok (.istore_n 1, 1) := by decide +kernel
theorem dX9_load_124 : decode cX9_load 124 = .ok (.iload_n 1, 1) := by decide +kernel
theorem dX9_load_125 : decode cX9_load 125 = .ok (.bipush 95, 2) := by decide +kernel
theorem dX9_load_127 : decode cX9_load 127 = .ok (.if_icmp .ge 21, 3) := by decide +kernel
theorem dX9_load_130 : decode cX9_load 130 = .ok (.aload_n 0, 1) := by decide +kernel
theorem dX9_load_131 : decode cX9_load 131 = .ok (.getfield 17, 3) := by decide +kernel
theorem dX9_load_134 : decode cX9_load 134 = .ok (.iload_n 1, 1) := by decide +kernel
theorem dX9_load_135 : decode cX9_load 135 = .ok (.aload_n 0, 1) := by decide +kernel
theorem dX9_load_136 : decode cX9_load 136 = .ok (.getfield 21, 3) := by decide +kernel
theorem dX9_load_139 : decode cX9_load 139 = .ok (.iload_n 1, 1) := by decide +kernel
theorem dX9_load_140 : decode cX9_load 140 = .ok (.iaload, 1) := by decide +kernel
theorem dX9_load_141 : decode cX9_load 141 = .ok (.iastore, 1) := by decide +kernel
theorem dX9_load_142 : decode cX9_load 142 = .ok (.iinc 1 1, 3) := by decide +kernel
theorem dX9_load_145 : decode cX9_load 145 = .ok (.goto (-21), 3) := by decide +kernel
theorem dX9_load_148 : decode cX9_load 148 = .ok (.aload_n 0, 1) := by decide +kernel
theorem dX9_load_149 : decode cX9_load 149 = .ok (.invokevirtual 90, 3) := by decide +kernel
theorem dX9_load_152 : decode cX9_load 152 = .ok (.ireturn, 1) := by decide +kernel
theorem dX9_errorCode_0 : decode cX9_errorCode 0 = .ok (.aload_n 0, 1) := by decide +kernel
theorem dX9_errorCode_1 : decode cX9_errorCode 1 = .ok (.iconst 0, 1) := by decide +kernel
theorem dX9_errorCode_2 : decode cX9_errorCode 2 = .ok (.putfield 3, 3) := by decide +kernel
theorem dX9_errorCode_5 : decode cX9_errorCode 5 = .ok (.aload_n 0, 1) := by decide +kernel
theorem dX9_errorCode_6 : decode cX9_errorCode 6 = .ok (.getfield 200, 3) := by decide +kernel
theorem dX9_errorCode_9 : decode cX9_errorCode 9 = .ok (.ireturn, 1) := by decide +kernel
theorem dX9_errorPosition_0 : decode cX9_errorPosition 0 = .ok (.aload_n 0, 1) := by decide +kernel
theorem dX9_errorPosition_1 : decode cX9_errorPosition 1 = .ok (.iconst 0, 1) := by decide +kernel
theorem dX9_errorPosition_2 : decode cX9_errorPosition 2 = .ok (.putfield 3, 3) := by decide +kernel
theorem dX9_errorPosition_5 : decode cX9_errorPosition 5 = .ok (.aload_n 0, 1) := by decide +kernel
theorem dX9_errorPosition_6 : decode cX9_errorPosition 6 = .ok (.getfield 53, 3) := by decide +kernel
theorem dX9_errorPosition_9 : decode cX9_errorPosition 9 = .ok (.ireturn, 1) := by decide +kernel
set_option maxRecDepth 20000 in
theorem ggX9_property_X9_in : GoodIn wsX9_property wsX9_in := goodIn_r _ [6] (by decide +kernel) (by decide +kernel)
set_option maxRecDepth 20000 in
theorem gX9_property_X9_in : GoodIn wsX9_property (va_wsS RX9 94 yX9_in wsX9_in) := goodIn_app (goodIn_of _ (by decide +kernel)) ggX9_property_X9_in
set_option maxRecDepth 20000 in
theorem ggX9_property_X9_passes : GoodIn wsX9_property wsX9_passes := goodIn_r _ [10, 11, 12, 13, 5, 14, 15, 33, 34, 35, 36, 37, 38, 39, 40, 41, 42, 43, 44, 45, 46, 47, 48, 49, 50, 51, 52, 53, 54, 55, 56, 57, 58, 59, 60, 61, 62, 63, 64, 65, 66, 67, 68, 69, 70, 71, 72, 73] (by decide +kernel) (by decide +kernel)
set_option maxRecDepth 20000 in
theorem gX9_property_X9_passes : GoodIn wsX9_property (wsV RX9 193 RX9 yX9_passes wsX9_passes) := goodIn_app (goodIn_of _ (by decide +kernel)) ggX9_property_X9_passes
set_option maxRecDepth 20000 in
theorem ggX9_property_X9_layers : GoodIn wsX9_property wsX9_layers := goodIn_r _ [19, 20, 33, 34, 35, 36, 37, 38, 39, 40, 41, 42, 43, 44, 45, 46, 47, 48, 49, 50, 51, 52, 53, 54, 55, 56, 57, 58, 59, 60, 61, 62, 63, 64, 65, 66, 67, 68, 69, 70, 71, 72, 73] (by decide +kernel) (by decide +kernel)
set_option maxRecDepth 20000 in
theorem gX9_property_X9_layers : GoodIn wsX9_property (wsV RX9 90 RX9 yX9_layers wsX9_layers) := goodIn_app (goodIn_of _ (by decide +kernel)) ggX9_property_X9_layers
set_option maxRecDepth 20000 in
theorem ggX9_property_X9_shots : GoodIn wsX9_property wsX9_shots := goodIn_r _ [24, 20, 33, 34, 35, 36, 37, 38, 39, 40, 41, 42, 43, 44, 45, 46, 47, 48, 49, 50, 51, 52, 53, 54, 55, 56, 57, 58, 59, 60, 61, 62, 63, 64, 65, 66, 67, 68, 69, 70, 71, 72, 73] (by decide +kernel) (by decide +kernel)
set_option maxRecDepth 20000 in
theorem gX9_property_X9_shots : GoodIn wsX9_property (wsV RX9 98 RX9 yX9_shots wsX9_shots) := goodIn_app (goodIn_of _ (by decide +kernel)) ggX9_property_X9_shots
set_option maxRecDepth 20000 in
theorem ggX9_property_X9_depthOf : GoodIn wsX9_property wsX9_depthOf := goodIn_r _ [28, 29, 30, 31, 5, 32, 20, 33, 34, 35, 36, 37, 38, 39, 40, 41, 42, 43, 44, 45, 46, 47, 48, 49, 50, 51, 52, 53, 54, 55, 56, 57, 58, 59, 60, 61, 62, 63, 64, 65, 66, 67, 68, 69, 70, 71, 72, 73] (by decide +kernel) (by decide +kernel)
set_option maxRecDepth 20000 in
theorem gX9_property_X9_depthOf : GoodIn wsX9_property (wsV RX9 327 RX9 yX9_depthOf wsX9_depthOf) := goodIn_app (goodIn_of _ (by decide +kernel)) ggX9_property_X9_depthOf
theorem dX9_property_0 : decode cX9_property 0 = .ok (.aload_n 0, 1) := by decide +kernel
theorem dX9_property_1 : decode cX9_property 1 = .ok (.iload_n 1, 1) := by decide +kernel
theorem dX9_property_2 : decode cX9_property 2 = .ok (.i2l, 1) := by decide +kernel
theorem dX9_property_3 : decode cX9_property 3 = .ok (.lconst 0, 1) := by decide +kernel
theorem dX9_property_4 : decode cX9_property 4 = .ok (.ldc2_w 325, 3) := by decide +kernel
theorem dX9_property_7 : decode cX9_property 7 = .ok (.invokestatic 94, 3) := by decide +kernel
theorem dX9_property_10 : decode cX9_property 10 = .ok (.invokevirtual 193, 3) := by decide +kernel
theorem dX9_property_13 : decode cX9_property 13 = .ok (.ifCond .ne 5, 3) := by decide +kernel
theorem dX9_property_16 : decode cX9_property 16 = .ok (.iconst 0, 1) := by decide +kernel
theorem dX9_property_17 : decode cX9_property 17 = .ok (.ireturn, 1) := by decide +kernel
theorem dX9_property_18 : decode cX9_property 18 = .ok (.iload_n 1, 1) := by decide +kernel
theorem dX9_property_19 : decode cX9_property 19 = .ok (.tableswitch 64 0 4 #[33, 38, 45, 52, 59], 33) := by decide +kernel
theorem dX9_property_52 : decode cX9_property 52 = .ok (.aload_n 0, 1) := by decide +kernel
theorem dX9_property_53 : decode cX9_property 53 = .ok (.invokevirtual 90, 3) := by decide +kernel
theorem dX9_property_56 : decode cX9_property 56 = .ok (.ireturn, 1) := by decide +kernel
theorem dX9_property_57 : decode cX9_property 57 = .ok (.aload_n 0, 1) := by decide +kernel
theorem dX9_property_58 : decode cX9_property 58 = .ok (.getfield 17, 3) := by decide +kernel
theorem dX9_property_61 : decode cX9_property 61 = .ok (.iconst 1, 1) := by decide +kernel
theorem dX9_property_62 : decode cX9_property 62 = .ok (.iaload, 1) := by decide +kernel
theorem dX9_property_63 : decode cX9_property 63 = .ok (.ireturn, 1) := by decide +kernel
theorem dX9_property_64 : decode cX9_property 64 = .ok (.aload_n 0, 1) := by decide +kernel
theorem dX9_property_65 : decode cX9_property 65 = .ok (.getfield 17, 3) := by decide +kernel
theorem dX9_property_68 : decode cX9_property 68 = .ok (.iconst 2, 1) := by decide +kernel
theorem dX9_property_69 : decode cX9_property 69 = .ok (.iaload, 1) := by decide +kernel
theorem dX9_property_70 : decode cX9_property 70 = .ok (.ireturn, 1) := by decide +kernel
theorem dX9_property_71 : decode cX9_property 71 = .ok (.aload_n 0, 1) := by decide +kernel
theorem dX9_property_72 : decode cX9_property 72 = .ok (.getfield 17, 3) := by decide +kernel
theorem dX9_property_75 : decode cX9_property 75 = .ok (.iconst 3, 1) := by decide +kernel
theorem dX9_property_76 : decode cX9_property 76 = .ok (.iaload, 1) := by decide +kernel
theorem dX9_property_77 : decode cX9_property 77 = .ok (.ireturn, 1) := by decide +kernel
theorem dX9_property_78 : decode cX9_property 78 = .ok (.aload_n 0, 1) := by decide +kernel
theorem dX9_property_79 : decode cX9_property 79 = .ok (.invokevirtual 98, 3) := by decide +kernel
theorem dX9_property_82 : decode cX9_property 82 = .ok (.ireturn, 1) := by decide +kernel
theorem dX9_property_83 : decode cX9_property 83 = .ok (.aload_n 0, 1) := by decide +kernel
theorem dX9_property_84 : decode cX9_property 84 = .ok (.aload_n 0, 1) := by decide +kernel
theorem dX9_property_85 : decode cX9_property 85 = .ok (.invokevirtual 90, 3) := by decide +kernel
theorem dX9_property_88 : decode cX9_property 88 = .ok (.invokevirtual 327, 3) := by decide +kernel
theorem dX9_property_91 : decode cX9_property 91 = .ok (.ireturn, 1) := by decide +kernel
set_option maxRecDepth 20000 in
theorem ggX9_layer_X9_isLayer : GoodIn wsX9_layer wsX9_isLayer := goodIn_r _ [6, 7, 8, 9, 5, 10, 11, 12, 13, 14, 32, 33, 34, 35, 36, 37, 38, 39, 40, 41, 42, 43, 44, 45, 46, 47, 48, 49, 50, 51, 52, 53, 54, 55, 56, 57, 58, 59, 60, 61, 62, 63, 64, 65, 66, 67, 68, 69, 70, 71, 72] (by decide +kernel) (by decide +kernel)
set_option maxRecDepth 20000 in
theorem gX9_layer_X9_isLayer : GoodIn wsX9_layer (wsV RX9 140 RX9 yX9_isLayer wsX9_isLayer) := goodIn_app (goodIn_of _ (by decide +kernel)) ggX9_layer_X9_isLayer
set_option maxRecDepth 20000 in
theorem ggX9_layer_X9_in : GoodIn wsX9_layer wsX9_in := goodIn_r _ [14] (by decide +kernel) (by decide +kernel)
set_option maxRecDepth 20000 in
theorem gX9_layer_X9_in : GoodIn wsX9_layer (va_wsS RX9 94 yX9_in wsX9_in) := goodIn_app (goodIn_of _ (by decide +kernel)) ggX9_layer_X9_in
set_option maxRecDepth 20000 in
theorem ggX9_layer_X9_passes2 : GoodIn wsX9_layer wsX9_passes2 := goodIn_r _ [18, 19, 20, 21, 5, 22, 23, 32, 33, 34, 35, 36, 37, 38, 39, 40, 41, 42, 43, 44, 45, 46, 47, 48, 49, 50, 51, 52, 53, 54, 55, 56, 57, 58, 59, 60, 61, 62, 63, 64, 65, 66, 67, 68, 69, 70, 71, 72] (by decide +kernel) (by decide +kernel)
set_option maxRecDepth 20000 in
theorem gX9_layer_X9_passes2 : GoodIn wsX9_layer (wsV RX9 332 RX9 yX9_passes2 wsX9_passes2) := goodIn_app (goodIn_of _ (by decide +kernel)) ggX9_layer_X9_passes2
set_option maxRecDepth 20000 in
theorem ggX9_layer_X9_depthOf : GoodIn wsX9_layer wsX9_depthOf := goodIn_r _ [27, 28, 29, 30, 5, 31, 11, 32, 33, 34, 35, 36, 37, 38, 39, 40, 41, 42, 43, 44, 45, 46, 47, 48, 49, 50, 51, 52, 53, 54, 55, 56, 57, 58, 59, 60, 61, 62, 63, 64, 65, 66, 67, 68, 69, 70, 71, 72] (by decide +kernel) (by decide +kernel)
set_option maxRecDepth 20000 in
theorem gX9_layer_X9_depthOf : GoodIn wsX9_layer (wsV RX9 327 RX9 yX9_depthOf wsX9_depthOf) := goodIn_app (goodIn_of _ (by decide +kernel)) ggX9_layer_X9_depthOf
set_option maxRecDepth 20000 in
theorem ggX9_layer_X9_ofLayer : GoodIn wsX9_layer wsX9_ofLayer := goodIn_r _ [31, 11, 32, 33, 34, 35, 36, 37, 38, 39, 40, 41, 42, 43, 44, 45, 46, 47, 48, 49, 50, 51, 52, 53, 54, 55, 56, 57, 58, 59, 60, 61, 62, 63, 64, 65, 66, 67, 68, 69, 70, 71, 72] (by decide +kernel) (by decide +kernel)
set_option maxRecDepth 20000 in
theorem gX9_layer_X9_ofLayer : GoodIn wsX9_layer (wsV RX9 105 RX9 yX9_ofLayer wsX9_ofLayer) := goodIn_app (goodIn_of _ (by decide +kernel)) ggX9_layer_X9_ofLayer
theorem dX9_layer_0 : decode cX9_layer 0 = .ok (.aload_n 0, 1) := by decide +kernel
theorem dX9_layer_1 : decode cX9_layer 1 = .ok (.aload_n 0, 1) := by decide +kernel
theorem dX9_layer_2 : decode cX9_layer 2 = .ok (.iload_n 1, 1) := by decide +kernel
theorem dX9_layer_3 : decode cX9_layer 3 = .ok (.invokevirtual 140, 3) := by decide +kernel
theorem dX9_layer_6 : decode cX9_layer 6 = .ok (.iload_n 2, 1) := by decide +kernel
theorem dX9_layer_7 : decode cX9_layer 7 = .ok (.i2l, 1) := by decide +kernel
theorem dX9_layer_8 : decode cX9_layer 8 = .ok (.lconst 0, 1) := by decide +kernel
theorem dX9_layer_9 : decode cX9_layer 9 = .ok (.ldc2_w 330, 3) := by decide +kernel
theorem dX9_layer_12 : decode cX9_layer 12 = .ok (.invokestatic 94, 3) := by decide +kernel
theorem dX9_layer_15 : decode cX9_layer 15 = .ok (.invokevirtual 332, 3) := by decide +kernel
theorem dX9_layer_18 : decode cX9_layer 18 = .ok (.ifCond .ne 5, 3) := by decide +kernel
theorem dX9_layer_21 : decode cX9_layer 21 = .ok (.iconst 0, 1) := by decide +kernel
theorem dX9_layer_22 : decode cX9_layer 22 = .ok (.ireturn, 1) := by decide +kernel
theorem dX9_layer_23 : decode cX9_layer 23 = .ok (.iload_n 2, 1) := by decide +kernel
theorem dX9_layer_24 : decode cX9_layer 24 = .ok (.iconst 3, 1) := by decide +kernel
theorem dX9_layer_25 : decode cX9_layer 25 = .ok (.if_icmp .ne 11, 3) := by decide +kernel
theorem dX9_layer_28 : decode cX9_layer 28 = .ok (.aload_n 0, 1) := by decide +kernel
theorem dX9_layer_29 : decode cX9_layer 29 = .ok (.iload_n 1, 1) := by decide +kernel
theorem dX9_layer_30 : decode cX9_layer 30 = .ok (.invokevirtual 327, 3) := by decide +kernel
theorem dX9_layer_33 : decode cX9_layer 33 = .ok (.goto 9, 3) := by decide +kernel
theorem dX9_layer_36 : decode cX9_layer 36 = .ok (.aload_n 0, 1) := by decide +kernel
theorem dX9_layer_37 : decode cX9_layer 37 = .ok (.iload_n 1, 1) := by decide +kernel
theorem dX9_layer_38 : decode cX9_layer 38 = .ok (.iload_n 2, 1) := by decide +kernel
theorem dX9_layer_39 : decode cX9_layer 39 = .ok (.invokevirtual 105, 3) := by decide +kernel
theorem dX9_layer_42 : decode cX9_layer 42 = .ok (.ireturn, 1) := by decide +kernel
set_option maxRecDepth 20000 in
theorem ggX9_shot_X9_isShot : GoodIn wsX9_shot wsX9_isShot := goodIn_r _ [6, 7, 8, 9, 5, 10, 11, 12, 13, 14, 28, 29, 30, 31, 32, 33, 34, 35, 36, 37, 38, 39, 40, 41, 42, 43, 44, 45, 46, 47, 48, 49, 50, 51, 52, 53, 54, 55, 56, 57, 58, 59, 60, 61, 62, 63, 64, 65, 66, 67, 68] (by decide +kernel) (by decide +kernel)
set_option maxRecDepth 20000 in
theorem gX9_shot_X9_isShot : GoodIn wsX9_shot (wsV RX9 336 RX9 yX9_isShot wsX9_isShot) := goodIn_app (goodIn_of _ (by decide +kernel)) ggX9_shot_X9_isShot
set_option maxRecDepth 20000 in
theorem ggX9_shot_X9_in : GoodIn wsX9_shot wsX9_in := goodIn_r _ [14] (by decide +kernel) (by decide +kernel)
set_option maxRecDepth 20000 in
theorem gX9_shot_X9_in : GoodIn wsX9_shot (va_wsS RX9 94 yX9_in wsX9_in) := goodIn_app (goodIn_of _ (by decide +kernel)) ggX9_shot_X9_in
set_option maxRecDepth 20000 in
theorem ggX9_shot_X9_passes2 : GoodIn wsX9_shot wsX9_passes2 := goodIn_r _ [18, 19, 20, 21, 5, 22, 23, 28, 29, 30, 31, 32, 33, 34, 35, 36, 37, 38, 39, 40, 41, 42, 43, 44, 45, 46, 47, 48, 49, 50, 51, 52, 53, 54, 55, 56, 57, 58, 59, 60, 61, 62, 63, 64, 65, 66, 67, 68] (by decide +kernel) (by decide +kernel)
set_option maxRecDepth 20000 in
theorem gX9_shot_X9_passes2 : GoodIn wsX9_shot (wsV RX9 332 RX9 yX9_passes2 wsX9_passes2) := goodIn_app (goodIn_of _ (by decide +kernel)) ggX9_shot_X9_passes2
set_option maxRecDepth 20000 in
theorem ggX9_shot_X9_ofShot : GoodIn wsX9_shot wsX9_ofShot := goodIn_r _ [27, 11, 28, 29, 30, 31, 32, 33, 34, 35, 36, 37, 38, 39, 40, 41, 42, 43, 44, 45, 46, 47, 48, 49, 50, 51, 52, 53, 54, 55, 56, 57, 58, 59, 60, 61, 62, 63, 64, 65, 66, 67, 68] (by decide +kernel) (by decide +kernel)
set_option maxRecDepth 20000 in
theorem gX9_shot_X9_ofShot : GoodIn wsX9_shot (wsV RX9 178 RX9 yX9_ofShot wsX9_ofShot) := goodIn_app (goodIn_of _ (by decide +kernel)) ggX9_shot_X9_ofShot
theorem dX9_shot_0 : decode cX9_shot 0 = .ok (.aload_n 0, 1) := by decide +kernel
theorem dX9_shot_1 : decode cX9_shot 1 = .ok (.aload_n 0, 1) := by decide +kernel
theorem dX9_shot_2 : decode cX9_shot 2 = .ok (.iload_n 1, 1) := by decide +kernel
theorem dX9_shot_3 : decode cX9_shot 3 = .ok (.invokevirtual 336, 3) := by decide +kernel
theorem dX9_shot_6 : decode cX9_shot 6 = .ok (.iload_n 2, 1) := by decide +kernel
theorem dX9_shot_7 : decode cX9_shot 7 = .ok (.i2l, 1) := by decide +kernel
theorem dX9_shot_8 : decode cX9_shot 8 = .ok (.lconst 0, 1) := by decide +kernel
theorem dX9_shot_9 : decode cX9_shot 9 = .ok (.ldc2_w 339, 3) := by decide +kernel
theorem dX9_shot_12 : decode cX9_shot 12 = .ok (.invokestatic 94, 3) := by decide +kernel
theorem dX9_shot_15 : decode cX9_shot 15 = .ok (.invokevirtual 332, 3) := by decide +kernel
theorem dX9_shot_18 : decode cX9_shot 18 = .ok (.ifCond .eq 12, 3) := by decide +kernel
theorem dX9_shot_21 : decode cX9_shot 21 = .ok (.aload_n 0, 1) := by decide +kernel
theorem dX9_shot_22 : decode cX9_shot 22 = .ok (.iload_n 1, 1) := by decide +kernel
theorem dX9_shot_23 : decode cX9_shot 23 = .ok (.iload_n 2, 1) := by decide +kernel
theorem dX9_shot_24 : decode cX9_shot 24 = .ok (.invokevirtual 178, 3) := by decide +kernel
theorem dX9_shot_27 : decode cX9_shot 27 = .ok (.goto 4, 3) := by decide +kernel
theorem dX9_shot_30 : decode cX9_shot 30 = .ok (.iconst 0, 1) := by decide +kernel
theorem dX9_shot_31 : decode cX9_shot 31 = .ok (.ireturn, 1) := by decide +kernel
set_option maxRecDepth 20000 in
theorem ggX9_path_X9_isShot : GoodIn wsX9_path wsX9_isShot := goodIn_r _ [13, 14, 15, 16, 12, 17, 18, 19, 20, 21, 118, 119, 120, 121, 122, 123, 124, 125, 126, 127, 128, 129, 130, 131, 132, 133, 134, 135, 136, 137, 138, 139, 140, 141, 142, 143, 144, 145, 146, 147, 148, 149, 150, 151, 152, 153, 154, 155, 156, 157, 158] (by decide +kernel) (by decide +kernel)
set_option maxRecDepth 20000 in
theorem gX9_path_X9_isShot : GoodIn wsX9_path (wsV RX9 336 RX9 yX9_isShot wsX9_isShot) := goodIn_app (goodIn_of _ (by decide +kernel)) ggX9_path_X9_isShot
set_option maxRecDepth 20000 in
theorem ggX9_path_X9_in : GoodIn wsX9_path wsX9_in := goodIn_r _ [21] (by decide +kernel) (by decide +kernel)
set_option maxRecDepth 20000 in
theorem gX9_path_X9_in : GoodIn wsX9_path (va_wsS RX9 94 yX9_in wsX9_in) := goodIn_app (goodIn_of _ (by decide +kernel)) ggX9_path_X9_in
set_option maxRecDepth 20000 in
theorem ggX9_path_X9_passes2 : GoodIn wsX9_path wsX9_passes2 := goodIn_r _ [25, 26, 27, 28, 12, 29, 30, 118, 119, 120, 121, 122, 123, 124, 125, 126, 127, 128, 129, 130, 131, 132, 133, 134, 135, 136, 137, 138, 139, 140, 141, 142, 143, 144, 145, 146, 147, 148, 149, 150, 151, 152, 153, 154, 155, 156, 157, 158] (by decide +kernel) (by decide +kernel)
set_option maxRecDepth 20000 in
theorem gX9_path_X9_passes2 : GoodIn wsX9_path (wsV RX9 332 RX9 yX9_passes2 wsX9_passes2) := goodIn_app (goodIn_of _ (by decide +kernel)) ggX9_path_X9_passes2
set_option maxRecDepth 20000 in
theorem ggX9_path_X9_followShot : GoodIn wsX9_path wsX9_followShot := goodIn_r _ [34, 35, 36, 37, 12, 38, 18, 39, 40, 41, 42, 2, 8, 43, 7, 3, 44, 45, 46, 47, 48, 49, 50, 51, 52, 53, 54, 55, 19, 20, 21, 56, 57, 58, 59, 60, 61, 62, 63, 64, 65, 66, 67, 68, 69, 4, 5, 6, 70, 71, 72, 73, 74, 75, 76, 77, 78, 79, 80, 81, 82, 83, 84, 85, 86, 87, 88, 89, 90, 91, 92, 93, 94, 95, 96, 97, 98, 99, 100, 101, 102, 103, 118, 119, 120, 121, 122, 123, 124, 125, 126, 127, 128, 129, 130, 131, 132, 133, 134, 135, 136, 137, 138, 139, 140, 141, 142, 143, 144, 145, 146, 147, 148, 149, 150, 151, 152, 153, 154, 155, 156, 157, 158] (by decide +kernel) (by decide +kernel)
set_option maxRecDepth 20000 in
theorem gX9_path_X9_followShot : GoodIn wsX9_path (wsV RX9 185 RX9 yX9_followShot wsX9_followShot) := goodIn_app (goodIn_of _ (by decide +kernel)) ggX9_path_X9_followShot
set_option maxRecDepth 20000 in
theorem ggX9_path_X9_sumUp : GoodIn wsX9_path wsX9_sumUp := goodIn_r _ [106] (by decide +kernel) (by decide +kernel)
set_option maxRecDepth 20000 in
theorem gX9_path_X9_sumUp : GoodIn wsX9_path (va_wsS RX9 343 yX9_sumUp wsX9_sumUp) := goodIn_app (goodIn_of _ (by decide +kernel)) ggX9_path_X9_sumUp
set_option maxRecDepth 20000 in
theorem ggX9_path_X9_happened : GoodIn wsX9_path wsX9_happened := goodIn_r _ [110, 2, 47, 118, 119, 120, 121, 122, 123, 124, 125, 126, 127, 128, 129, 130, 131, 132, 133, 134, 135, 136, 137, 138, 139, 140, 141, 142, 143, 144, 145, 146, 147, 148, 149, 150, 151, 152, 153, 154, 155, 156, 157, 158] (by decide +kernel) (by decide +kernel)
set_option maxRecDepth 20000 in
theorem gX9_path_X9_happened : GoodIn wsX9_path (wsV RX9 347 RX9 yX9_happened wsX9_happened) := goodIn_app (goodIn_of _ (by decide +kernel)) ggX9_path_X9_happened
set_option maxRecDepth 20000 in
theorem ggX9_path_X9_deepest : GoodIn wsX9_path wsX9_deepest := goodIn_r _ [114, 2, 68, 115, 116, 66, 117, 118, 119, 120, 121, 122, 123, 124, 125, 126, 127, 128, 129, 130, 131, 132, 133, 134, 135, 136, 137, 138, 139, 140, 141, 142, 143, 144, 145, 146, 147, 148, 149, 150, 151, 152, 153, 154, 155, 156, 157, 158] (by decide +kernel) (by decide +kernel)
set_option maxRecDepth 20000 in
theorem gX9_path_X9_deepest : GoodIn wsX9_path (wsV RX9 350 RX9 yX9_deepest wsX9_deepest) := goodIn_app (goodIn_of _ (by decide +kernel)) ggX9_path_X9_deepest
theorem dX9_path_0 : decode cX9_path 0 = .ok (.aload_n 0, 1) := by decide +kernel
theorem dX9_path_1 : decode cX9_path 1 = .ok (.aload_n 0, 1) := by decide +kernel
theorem dX9_path_2 : decode cX9_path 2 = .ok (.iload_n 1, 1) := by decide +kernel
theorem dX9_path_3 : decode cX9_path 3 = .ok (.invokevirtual 336, 3) := by decide +kernel
theorem dX9_path_6 : decode cX9_path 6 = .ok (.iload_n 2, 1) := by decide +kernel
theorem dX9_path_7 : decode cX9_path 7 = .ok (.i2l, 1) := by decide +kernel
theorem dX9_path_8 : decode cX9_path 8 = .ok (.lconst 0, 1) := by decide +kernel
theorem dX9_path_9 : decode cX9_path 9 = .ok (.ldc2_w 341, 3) := by decide +kernel
theorem dX9_path_12 : decode cX9_path 12 = .ok (.invokestatic 94, 3) := by decide +kernel
theorem dX9_path_15 : decode cX9_path 15 = .ok (.invokevirtual 332, 3) := by decide +kernel
theorem dX9_path_18 : decode cX9_path 18 = .ok (.ifCond .ne 5, 3) := by decide +kernel
theorem dX9_path_21 : decode cX9_path 21 = .ok (.iconst 0, 1) := by decide +kernel
theorem dX9_path_22 : decode cX9_path 22 = .ok (.ireturn, 1) := by decide +kernel
theorem dX9_path_23 : decode cX9_path 23 = .ok (.aload_n 0, 1) := by decide +kernel
theorem dX9_path_24 : decode cX9_path 24 = .ok (.iload_n 1, 1) := by decide +kernel
theorem dX9_path_25 : decode cX9_path 25 = .ok (.invokevirtual 185, 3) := by decide +kernel
theorem dX9_path_28 : decode cX9_path 28 = .ok (.iload_n 2, 1) := by decide +kernel
theorem dX9_path_29 : decode cX9_path 29 = .ok (.tableswitch 120 0 8 #[51, 56, 61, 73, 85, 97, 103, 109, 114], 51) := by decide +kernel
theorem dX9_path_80 : decode cX9_path 80 = .ok (.aload_n 0, 1) := by decide +kernel
theorem dX9_path_81 : decode cX9_path 81 = .ok (.getfield 131, 3) := by decide +kernel
theorem dX9_path_84 : decode cX9_path 84 = .ok (.ireturn, 1) := by decide +kernel
theorem dX9_path_85 : decode cX9_path 85 = .ok (.aload_n 0, 1) := by decide +kernel
theorem dX9_path_86 : decode cX9_path 86 = .ok (.getfield 156, 3) := by decide +kernel
theorem dX9_path_89 : decode cX9_path 89 = .ok (.ireturn, 1) := by decide +kernel
theorem dX9_path_90 : decode cX9_path 90 = .ok (.aload_n 0, 1) := by decide +kernel
theorem dX9_path_91 : decode cX9_path 91 = .ok (.getfield 34, 3) := by decide +kernel
theorem dX9_path_94 : decode cX9_path 94 = .ok (.aload_n 0, 1) := by decide +kernel
theorem dX9_path_95 : decode cX9_path 95 = .ok (.getfield 131, 3) := by decide +kernel
theorem dX9_path_98 : decode cX9_path 98 = .ok (.invokestatic 343, 3) := by decide +kernel
theorem dX9_path_101 : decode cX9_path 101 = .ok (.ireturn, 1) := by decide +kernel
theorem dX9_path_102 : decode cX9_path 102 = .ok (.aload_n 0, 1) := by decide +kernel
theorem dX9_path_103 : decode cX9_path 103 = .ok (.getfield 37, 3) := by decide +kernel
theorem dX9_path_106 : decode cX9_path 106 = .ok (.aload_n 0, 1) := by decide +kernel
theorem dX9_path_107 : decode cX9_path 107 = .ok (.getfield 131, 3) := by decide +kernel
theorem dX9_path_110 : decode cX9_path 110 = .ok (.invokestatic 343, 3) := by decide +kernel
theorem dX9_path_113 : decode cX9_path 113 = .ok (.ireturn, 1) := by decide +kernel
theorem dX9_path_114 : decode cX9_path 114 = .ok (.aload_n 0, 1) := by decide +kernel
theorem dX9_path_115 : decode cX9_path 115 = .ok (.getfield 40, 3) := by decide +kernel
theorem dX9_path_118 : decode cX9_path 118 = .ok (.aload_n 0, 1) := by decide +kernel
theorem dX9_path_119 : decode cX9_path 119 = .ok (.getfield 131, 3) := by decide +kernel
theorem dX9_path_122 : decode cX9_path 122 = .ok (.invokestatic 343, 3) := by decide +kernel
theorem dX9_path_125 : decode cX9_path 125 = .ok (.ireturn, 1) := by decide +kernel
theorem dX9_path_126 : decode cX9_path 126 = .ok (.aload_n 0, 1) := by decide +kernel
theorem dX9_path_127 : decode cX9_path 127 = .ok (.getfield 119, 3) := by decide +kernel
theorem dX9_path_130 : decode cX9_path 130 = .ok (.l2i, 1) := by decide +kernel
theorem dX9_path_131 : decode cX9_path 131 = .ok (.ireturn, 1) := by decide +kernel
theorem dX9_path_132 : decode cX9_path 132 = .ok (.aload_n 0, 1) := by decide +kernel
theorem dX9_path_133 : decode cX9_path 133 = .ok (.iconst 1, 1) := by decide +kernel
theorem dX9_path_134 : decode cX9_path 134 = .ok (.invokevirtual 347, 3) := by decide +kernel
theorem dX9_path_137 : decode cX9_path 137 = .ok (.ireturn, 1) := by decide +kernel
theorem dX9_path_138 : decode cX9_path 138 = .ok (.aload_n 0, 1) := by decide +kernel
theorem dX9_path_139 : decode cX9_path 139 = .ok (.getfield 151, 3) := by decide +kernel
theorem dX9_path_142 : decode cX9_path 142 = .ok (.ireturn, 1) := by decide +kernel
theorem dX9_path_143 : decode cX9_path 143 = .ok (.aload_n 0, 1) := by decide +kernel
theorem dX9_path_144 : decode cX9_path 144 = .ok (.iconst 0, 1) := by decide +kernel
theorem dX9_path_145 : decode cX9_path 145 = .ok (.invokevirtual 347, 3) := by decide +kernel
theorem dX9_path_148 : decode cX9_path 148 = .ok (.ireturn, 1) := by decide +kernel
theorem dX9_path_149 : decode cX9_path 149 = .ok (.aload_n 0, 1) := by decide +kernel
theorem dX9_path_150 : decode cX9_path 150 = .ok (.invokevirtual 350, 3) := by decide +kernel
theorem dX9_path_153 : decode cX9_path 153 = .ok (.ireturn, 1) := by decide +kernel
set_option maxRecDepth 20000 in
theorem ggX9_hasLeg_X9_isShot : GoodIn wsX9_hasLeg wsX9_isShot := goodIn_r _ [6, 7, 8, 9, 5, 10, 11, 12, 13, 14, 94, 95, 96, 97, 98, 99, 100, 101, 102, 103, 104, 105, 106, 107, 108, 109, 110, 111, 112, 113, 114, 115, 116, 117, 118, 119, 120, 121, 122, 123, 124, 125, 126, 127, 128, 129, 130, 131, 132, 133, 134] (by decide +kernel) (by decide +kernel)
set_option maxRecDepth 20000 in
theorem gX9_hasLeg_X9_isShot : GoodIn wsX9_hasLeg (wsV RX9 336 RX9 yX9_isShot wsX9_isShot) := goodIn_app (goodIn_of _ (by decide +kernel)) ggX9_hasLeg_X9_isShot
set_option maxRecDepth 20000 in
theorem ggX9_hasLeg_X9_followShot : GoodIn wsX9_hasLeg wsX9_followShot := goodIn_r _ [18, 19, 20, 21, 5, 22, 11, 23, 24, 25, 26, 1, 27, 28, 29, 30, 31, 32, 33, 34, 35, 36, 37, 38, 39, 40, 41, 42, 12, 13, 14, 43, 44, 45, 46, 47, 48, 49, 50, 51, 52, 53, 54, 55, 56, 57, 58, 59, 60, 61, 62, 63, 64, 65, 66, 67, 68, 69, 70, 71, 72, 73, 74, 75, 76, 77, 78, 79, 80, 81, 82, 83, 84, 85, 86, 87, 88, 89, 90, 91, 92, 93, 94, 95, 96, 97, 98, 99, 100, 101, 102, 103, 104, 105, 106, 107, 108, 109, 110, 111, 112, 113, 114, 115, 116, 117, 118, 119, 120, 121, 122, 123, 124, 125, 126, 127, 128, 129, 130, 131, 132, 133, 134] (by decide +kernel) (by decide +kernel)
set_option maxRecDepth 20000 in
theorem gX9_hasLeg_X9_followShot : GoodIn wsX9_hasLeg (wsV RX9 185 RX9 yX9_followShot wsX9_followShot) := goodIn_app (goodIn_of _ (by decide +kernel)) ggX9_hasLeg_X9_followShot
set_option maxRecDepth 20000 in
theorem ggX9_hasLeg_X9_in : GoodIn wsX9_hasLeg wsX9_in := goodIn_r _ [14] (by decide +kernel) (by decide +kernel)
set_option maxRecDepth 20000 in
theorem gX9_hasLeg_X9_in : GoodIn wsX9_hasLeg (va_wsS RX9 94 yX9_in wsX9_in) := goodIn_app (goodIn_of _ (by decide +kernel)) ggX9_hasLeg_X9_in
theorem dX9_hasLeg_0 : decode cX9_hasLeg 0 = .ok (.aload_n 0, 1) := by decide +kernel
theorem dX9_hasLeg_1 : decode cX9_hasLeg 1 = .ok (.iload_n 1, 1) := by decide +kernel
theorem dX9_hasLeg_2 : decode cX9_hasLeg 2 = .ok (.invokevirtual 336, 3) := by decide +kernel
theorem dX9_hasLeg_5 : decode cX9_hasLeg 5 = .ok (.ifCond .ne 5, 3) := by decide +kernel
theorem dX9_hasLeg_8 : decode cX9_hasLeg 8 = .ok (.iconst 0, 1) := by decide +kernel
theorem dX9_hasLeg_9 : decode cX9_hasLeg 9 = .ok (.ireturn, 1) := by decide +kernel
theorem dX9_hasLeg_10 : decode cX9_hasLeg 10 = .ok (.aload_n 0, 1) := by decide +kernel
theorem dX9_hasLeg_11 : decode cX9_hasLeg 11 = .ok (.iload_n 1, 1) := by decide +kernel
theorem dX9_hasLeg_12 : decode cX9_hasLeg 12 = .ok (.invokevirtual 185, 3) := by decide +kernel
theorem dX9_hasLeg_15 : decode cX9_hasLeg 15 = .ok (.iload_n 2, 1) := by decide +kernel
theorem dX9_hasLeg_16 : decode cX9_hasLeg 16 = .ok (.i2l, 1) := by decide +kernel
theorem dX9_hasLeg_17 : decode cX9_hasLeg 17 = .ok (.lconst 0, 1) := by decide +kernel
theorem dX9_hasLeg_18 : decode cX9_hasLeg 18 = .ok (.aload_n 0, 1) := by decide +kernel
theorem dX9_hasLeg_19 : decode cX9_hasLeg 19 = .ok (.getfield 131, 3) := by decide +kernel
theorem dX9_hasLeg_22 : decode cX9_hasLeg 22 = .ok (.iconst 1, 1) := by decide +kernel
theorem dX9_hasLeg_23 : decode cX9_hasLeg 23 = .ok (.isub, 1) := by decide +kernel
theorem dX9_hasLeg_24 : decode cX9_hasLeg 24 = .ok (.i2l, 1) := by decide +kernel
theorem dX9_hasLeg_25 : decode cX9_hasLeg 25 = .ok (.invokestatic 94, 3) := by decide +kernel
theorem dX9_hasLeg_28 : decode cX9_hasLeg 28 = .ok (.ireturn, 1) := by decide +kernel
set_option maxRecDepth 20000 in
theorem ggX9_leg_X9_hasLeg : GoodIn wsX9_leg wsX9_hasLeg := goodIn_r _ [13, 14, 15, 16, 17, 12, 18, 19, 20, 21, 22, 23, 24, 25, 26, 27, 28, 29, 30, 31, 32, 33, 34, 35, 36, 37, 38, 39, 40, 41, 42, 43, 44, 45, 8, 46, 47, 48, 49, 50, 51, 52, 53, 54, 55, 56, 57, 58, 59, 60, 61, 62, 63, 64, 65, 2, 3, 4, 5, 6, 66, 7, 67, 68, 69, 70, 71, 72, 73, 74, 75, 76, 77, 78, 79, 80, 81, 82, 83, 84, 85, 86, 87, 88, 89, 90, 91, 92, 93, 94, 95, 96, 97, 98, 108, 109, 110, 111, 112, 113, 114, 115, 116, 117, 118, 119, 120, 121, 122, 123, 124, 125, 126, 127, 128, 129, 130, 131, 132, 133, 134, 135, 136, 137, 138, 139, 140, 141, 142, 143, 144, 145, 146, 147, 148] (by decide +kernel) (by decide +kernel)
set_option maxRecDepth 20000 in
theorem gX9_leg_X9_hasLeg : GoodIn wsX9_leg (wsV RX9 353 RX9 yX9_hasLeg wsX9_hasLeg) := goodIn_app (goodIn_of _ (by decide +kernel)) ggX9_leg_X9_hasLeg
set_option maxRecDepth 20000 in
theorem ggX9_leg_X9_in : GoodIn wsX9_leg wsX9_in := goodIn_r _ [26] (by decide +kernel) (by decide +kernel)
set_option maxRecDepth 20000 in
theorem gX9_leg_X9_in : GoodIn wsX9_leg (va_wsS RX9 94 yX9_in wsX9_in) := goodIn_app (goodIn_of _ (by decide +kernel)) ggX9_leg_X9_in
set_option maxRecDepth 20000 in
theorem ggX9_leg_X9_passes2 : GoodIn wsX9_leg wsX9_passes2 := goodIn_r _ [102, 103, 104, 105, 12, 106, 107, 108, 109, 110, 111, 112, 113, 114, 115, 116, 117, 118, 119, 120, 121, 122, 123, 124, 125, 126, 127, 128, 129, 130, 131, 132, 133, 134, 135, 136, 137, 138, 139, 140, 141, 142, 143, 144, 145, 146, 147, 148] (by decide +kernel) (by decide +kernel)
set_option maxRecDepth 20000 in
theorem gX9_leg_X9_passes2 : GoodIn wsX9_leg (wsV RX9 332 RX9 yX9_passes2 wsX9_passes2) := goodIn_app (goodIn_of _ (by decide +kernel)) ggX9_leg_X9_passes2
theorem dX9_leg_0 : decode cX9_leg 0 = .ok (.aload_n 0, 1) := by decide +kernel
theorem dX9_leg_1 : decode cX9_leg 1 = .ok (.aload_n 0, 1) := by decide +kernel
theorem dX9_leg_2 : decode cX9_leg 2 = .ok (.iload_n 1, 1) := by decide +kernel
theorem dX9_leg_3 : decode cX9_leg 3 = .ok (.iload_n 2, 1) := by decide +kernel
theorem dX9_leg_4 : decode cX9_leg 4 = .ok (.invokevirtual 353, 3) := by decide +kernel
theorem dX9_leg_7 : decode cX9_leg 7 = .ok (.iload_n 3, 1) := by decide +kernel
theorem dX9_leg_8 : decode cX9_leg 8 = .ok (.i2l, 1) := by decide +kernel
theorem dX9_leg_9 : decode cX9_leg 9 = .ok (.lconst 0, 1) := by decide +kernel
theorem dX9_leg_10 : decode cX9_leg 10 = .ok (.ldc2_w 357, 3) := by decide +kernel
theorem dX9_leg_13 : decode cX9_leg 13 = .ok (.invokestatic 94, 3) := by decide +kernel
theorem dX9_leg_16 : decode cX9_leg 16 = .ok (.invokevirtual 332, 3) := by decide +kernel
theorem dX9_leg_19 : decode cX9_leg 19 = .ok (.ifCond .ne 5, 3) := by decide +kernel
theorem dX9_leg_22 : decode cX9_leg 22 = .ok (.iconst 0, 1) := by decide +kernel
theorem dX9_leg_23 : decode cX9_leg 23 = .ok (.ireturn, 1) := by decide +kernel
theorem dX9_leg_24 : decode cX9_leg 24 = .ok (.iload_n 3, 1) := by decide +kernel
theorem dX9_leg_25 : decode cX9_leg 25 = .ok (.tableswitch 89 0 5 #[39, 46, 61, 68, 75, 82], 39) := by decide +kernel
theorem dX9_leg_64 : decode cX9_leg 64 = .ok (.aload_n 0, 1) := by decide +kernel
theorem dX9_leg_65 : decode cX9_leg 65 = .ok (.getfield 27, 3) := by decide +kernel
theorem dX9_leg_68 : decode cX9_leg 68 = .ok (.iload_n 2, 1) := by decide +kernel
theorem dX9_leg_69 : decode cX9_leg 69 = .ok (.iaload, 1) := by decide +kernel
theorem dX9_leg_70 : decode cX9_leg 70 = .ok (.ireturn, 1) := by decide +kernel
theorem dX9_leg_71 : decode cX9_leg 71 = .ok (.aload_n 0, 1) := by decide +kernel
theorem dX9_leg_72 : decode cX9_leg 72 = .ok (.getfield 30, 3) := by decide +kernel
theorem dX9_leg_75 : decode cX9_leg 75 = .ok (.iload_n 2, 1) := by decide +kernel
theorem dX9_leg_76 : decode cX9_leg 76 = .ok (.baload, 1) := by decide +kernel
theorem dX9_leg_77 : decode cX9_leg 77 = .ok (.ifCond .eq 7, 3) := by decide +kernel
theorem dX9_leg_80 : decode cX9_leg 80 = .ok (.iconst 1, 1) := by decide +kernel
theorem dX9_leg_81 : decode cX9_leg 81 = .ok (.goto 4, 3) := by decide +kernel
theorem dX9_leg_84 : decode cX9_leg 84 = .ok (.iconst 0, 1) := by decide +kernel
theorem dX9_leg_85 : decode cX9_leg 85 = .ok (.ireturn, 1) := by decide +kernel
theorem dX9_leg_86 : decode cX9_leg 86 = .ok (.aload_n 0, 1) := by decide +kernel
theorem dX9_leg_87 : decode cX9_leg 87 = .ok (.getfield 34, 3) := by decide +kernel
theorem dX9_leg_90 : decode cX9_leg 90 = .ok (.iload_n 2, 1) := by decide +kernel
theorem dX9_leg_91 : decode cX9_leg 91 = .ok (.iaload, 1) := by decide +kernel
theorem dX9_leg_92 : decode cX9_leg 92 = .ok (.ireturn, 1) := by decide +kernel
theorem dX9_leg_93 : decode cX9_leg 93 = .ok (.aload_n 0, 1) := by decide +kernel
theorem dX9_leg_94 : decode cX9_leg 94 = .ok (.getfield 37, 3) := by decide +kernel
theorem dX9_leg_97 : decode cX9_leg 97 = .ok (.iload_n 2, 1) := by decide +kernel
theorem dX9_leg_98 : decode cX9_leg 98 = .ok (.iaload, 1) := by decide +kernel
theorem dX9_leg_99 : decode cX9_leg 99 = .ok (.ireturn, 1) := by decide +kernel
theorem dX9_leg_100 : decode cX9_leg 100 = .ok (.aload_n 0, 1) := by decide +kernel
theorem dX9_leg_101 : decode cX9_leg 101 = .ok (.getfield 40, 3) := by decide +kernel
theorem dX9_leg_104 : decode cX9_leg 104 = .ok (.iload_n 2, 1) := by decide +kernel
theorem dX9_leg_105 : decode cX9_leg 105 = .ok (.iaload, 1) := by decide +kernel
theorem dX9_leg_106 : decode cX9_leg 106 = .ok (.ireturn, 1) := by decide +kernel
theorem dX9_leg_107 : decode cX9_leg 107 = .ok (.aload_n 0, 1) := by decide +kernel
theorem dX9_leg_108 : decode cX9_leg 108 = .ok (.getfield 43, 3) := by decide +kernel
theorem dX9_leg_111 : decode cX9_leg 111 = .ok (.iload_n 2, 1) := by decide +kernel
theorem dX9_leg_112 : decode cX9_leg 112 = .ok (.iaload, 1) := by decide +kernel
theorem dX9_leg_113 : decode cX9_leg 113 = .ok (.ireturn, 1) := by decide +kernel
theorem dX9_leg_114 : decode cX9_leg 114 = .ok (.aload_n 0, 1) := by decide +kernel
theorem dX9_leg_115 : decode cX9_leg 115 = .ok (.getfield 46, 3) := by decide +kernel
theorem dX9_leg_118 : decode cX9_leg 118 = .ok (.iload_n 2, 1) := by decide +kernel
theorem dX9_leg_119 : decode cX9_leg 119 = .ok (.iaload, 1) := by decide +kernel
theorem dX9_leg_120 : decode cX9_leg 120 = .ok (.ireturn, 1) := by decide +kernel
set_option maxRecDepth 20000 in
theorem ggX9_legAt_X9_isShot : GoodIn wsX9_legAt wsX9_isShot := goodIn_r _ [5, 6, 7, 8, 4, 9, 10, 11, 12, 13, 107, 108, 109, 110, 111, 112, 113, 114, 115, 116, 117, 118, 119, 120, 121, 122, 123, 124, 125, 126, 127, 128, 129, 130, 131, 132, 133, 134, 135, 136, 137, 138, 139, 140, 141, 142, 143, 144, 145, 146, 147] (by decide +kernel) (by decide +kernel)
set_option maxRecDepth 20000 in
theorem gX9_legAt_X9_isShot : GoodIn wsX9_legAt (wsV RX9 336 RX9 yX9_isShot wsX9_isShot) := goodIn_app (goodIn_of _ (by decide +kernel)) ggX9_legAt_X9_isShot
set_option maxRecDepth 20000 in
theorem ggX9_legAt_X9_passes2 : GoodIn wsX9_legAt wsX9_passes2 := goodIn_r _ [17, 18, 19, 20, 4, 21, 22, 107, 108, 109, 110, 111, 112, 113, 114, 115, 116, 117, 118, 119, 120, 121, 122, 123, 124, 125, 126, 127, 128, 129, 130, 131, 132, 133, 134, 135, 136, 137, 138, 139, 140, 141, 142, 143, 144, 145, 146, 147] (by decide +kernel) (by decide +kernel)
set_option maxRecDepth 20000 in
theorem gX9_legAt_X9_passes2 : GoodIn wsX9_legAt (wsV RX9 332 RX9 yX9_passes2 wsX9_passes2) := goodIn_app (goodIn_of _ (by decide +kernel)) ggX9_legAt_X9_passes2
set_option maxRecDepth 20000 in
theorem ggX9_legAt_X9_followShot : GoodIn wsX9_legAt wsX9_followShot := goodIn_r _ [26, 27, 28, 29, 4, 30, 10, 31, 32, 33, 34, 35, 36, 37, 38, 39, 40, 41, 42, 43, 44, 45, 46, 47, 48, 49, 50, 51, 11, 12, 13, 52, 53, 54, 55, 56, 57, 58, 59, 60, 61, 62, 63, 64, 65, 66, 67, 68, 69, 70, 71, 72, 73, 74, 75, 76, 77, 78, 79, 80, 81, 82, 83, 84, 85, 86, 87, 88, 89, 90, 91, 92, 93, 94, 95, 96, 97, 98, 99, 100, 101, 102, 107, 108, 109, 110, 111, 112, 113, 114, 115, 116, 117, 118, 119, 120, 121, 122, 123, 124, 125, 126, 127, 128, 129, 130, 131, 132, 133, 134, 135, 136, 137, 138, 139, 140, 141, 142, 143, 144, 145, 146, 147] (by decide +kernel) (by decide +kernel)
set_option maxRecDepth 20000 in
theorem gX9_legAt_X9_followShot : GoodIn wsX9_legAt (wsV RX9 185 RX9 yX9_followShot wsX9_followShot) := goodIn_app (goodIn_of _ (by decide +kernel)) ggX9_legAt_X9_followShot
set_option maxRecDepth 20000 in
theorem ggX9_legAt_X9_legNow : GoodIn wsX9_legAt wsX9_legNow := goodIn_r _ [106, 35, 68, 107, 108, 109, 110, 111, 112, 113, 114, 115, 116, 117, 118, 119, 120, 121, 122, 123, 124, 125, 126, 127, 128, 129, 130, 131, 132, 133, 134, 135, 136, 137, 138, 139, 140, 141, 142, 143, 144, 145, 146, 147] (by decide +kernel) (by decide +kernel)
set_option maxRecDepth 20000 in
theorem gX9_legAt_X9_legNow : GoodIn wsX9_legAt (wsV RX9 359 RX9 yX9_legNow wsX9_legNow) := goodIn_app (goodIn_of _ (by decide +kernel)) ggX9_legAt_X9_legNow
theorem dX9_legAt_0 : decode cX9_legAt 0 = .ok (.aload_n 0, 1) := by decide +kernel
theorem dX9_legAt_1 : decode cX9_legAt 1 = .ok (.aload_n 0, 1) := by decide +kernel
theorem dX9_legAt_2 : decode cX9_legAt 2 = .ok (.iload_n 1, 1) := by decide +kernel
theorem dX9_legAt_3 : decode cX9_legAt 3 = .ok (.invokevirtual 336, 3) := by decide +kernel
theorem dX9_legAt_6 : decode cX9_legAt 6 = .ok (.iload_n 2, 1) := by decide +kernel
theorem dX9_legAt_7 : decode cX9_legAt 7 = .ok (.ifCond .lt 7, 3) := by decide +kernel
theorem dX9_legAt_10 : decode cX9_legAt 10 = .ok (.iconst 1, 1) := by decide +kernel
theorem dX9_legAt_11 : decode cX9_legAt 11 = .ok (.goto 4, 3) := by decide +kernel
theorem dX9_legAt_14 : decode cX9_legAt 14 = .ok (.iconst 0, 1) := by decide +kernel
theorem dX9_legAt_15 : decode cX9_legAt 15 = .ok (.invokevirtual 332, 3) := by decide +kernel
theorem dX9_legAt_18 : decode cX9_legAt 18 = .ok (.ifCond .ne 5, 3) := by decide +kernel
theorem dX9_legAt_21 : decode cX9_legAt 21 = .ok (.iconst 0, 1) := by decide +kernel
theorem dX9_legAt_22 : decode cX9_legAt 22 = .ok (.ireturn, 1) := by decide +kernel
theorem dX9_legAt_23 : decode cX9_legAt 23 = .ok (.aload_n 0, 1) := by decide +kernel
theorem dX9_legAt_24 : decode cX9_legAt 24 = .ok (.iload_n 1, 1) := by decide +kernel
theorem dX9_legAt_25 : decode cX9_legAt 25 = .ok (.invokevirtual 185, 3) := by decide +kernel
theorem dX9_legAt_28 : decode cX9_legAt 28 = .ok (.aload_n 0, 1) := by decide +kernel
theorem dX9_legAt_29 : decode cX9_legAt 29 = .ok (.iload_n 2, 1) := by decide +kernel
theorem dX9_legAt_30 : decode cX9_legAt 30 = .ok (.invokevirtual 359, 3) := by decide +kernel
theorem dX9_legAt_33 : decode cX9_legAt 33 = .ok (.ireturn, 1) := by decide +kernel
set_option maxRecDepth 20000 in
theorem ggX9_partOf_X9_sumUp : GoodIn wsX9_partOf wsX9_sumUp := goodIn_r _ [5] (by decide +kernel) (by decide +kernel)
set_option maxRecDepth 20000 in
theorem gX9_partOf_X9_sumUp : GoodIn wsX9_partOf (va_wsS RX9 343 yX9_sumUp wsX9_sumUp) := goodIn_app (goodIn_of _ (by decide +kernel)) ggX9_partOf_X9_sumUp
theorem dX9_partOf_0 : decode cX9_partOf 0 = .ok (.iload_n 1, 1) := by decide +kernel
theorem dX9_partOf_1 : decode cX9_partOf 1 = .ok (.i2l, 1) := by decide +kernel
theorem dX9_partOf_2 : decode cX9_partOf 2 = .ok (.iload_n 3, 1) := by decide +kernel
theorem dX9_partOf_3 : decode cX9_partOf 3 = .ok (.aload_n 0, 1) := by decide +kernel
theorem dX9_partOf_4 : decode cX9_partOf 4 = .ok (.getfield 40, 3) := by decide +kernel
theorem dX9_partOf_7 : decode cX9_partOf 7 = .ok (.iload_n 2, 1) := by decide +kernel
theorem dX9_partOf_8 : decode cX9_partOf 8 = .ok (.invokestatic 343, 3) := by decide +kernel
theorem dX9_partOf_11 : decode cX9_partOf 11 = .ok (.isub, 1) := by decide +kernel
theorem dX9_partOf_12 : decode cX9_partOf 12 = .ok (.i2l, 1) := by decide +kernel
theorem dX9_partOf_13 : decode cX9_partOf 13 = .ok (.lmul, 1) := by decide +kernel
theorem dX9_partOf_14 : decode cX9_partOf 14 = .ok (.aload_n 0, 1) := by decide +kernel
theorem dX9_partOf_15 : decode cX9_partOf 15 = .ok (.getfield 40, 3) := by decide +kernel
theorem dX9_partOf_18 : decode cX9_partOf 18 = .ok (.iload_n 2, 1) := by decide +kernel
theorem dX9_partOf_19 : decode cX9_partOf 19 = .ok (.iaload, 1) := by decide +kernel
theorem dX9_partOf_20 : decode cX9_partOf 20 = .ok (.i2l, 1) := by decide +kernel
theorem dX9_partOf_21 : decode cX9_partOf 21 = .ok (.ldiv, 1) := by decide +kernel
theorem dX9_partOf_22 : decode cX9_partOf 22 = .ok (.l2i, 1) := by decide +kernel
theorem dX9_partOf_23 : decode cX9_partOf 23 = .ok (.ireturn, 1) := by decide +kernel
set_option maxRecDepth 20000 in
theorem ggX9_shiftAt_X9_isShot : GoodIn wsX9_shiftAt wsX9_isShot := goodIn_r _ [7, 8, 9, 10, 6, 11, 12, 13, 14, 15, 114, 115, 116, 117, 118, 119, 120, 121, 122, 123, 124, 125, 126, 127, 128, 129, 130, 131, 132, 133, 134, 135, 136, 137, 138, 139, 140, 141, 142, 143, 144, 145, 146, 147, 148, 149, 150, 151, 152, 153, 154] (by decide +kernel) (by decide +kernel)
set_option maxRecDepth 20000 in
theorem gX9_shiftAt_X9_isShot : GoodIn wsX9_shiftAt (wsV RX9 336 RX9 yX9_isShot wsX9_isShot) := goodIn_app (goodIn_of _ (by decide +kernel)) ggX9_shiftAt_X9_isShot
set_option maxRecDepth 20000 in
theorem ggX9_shiftAt_X9_passes2 : GoodIn wsX9_shiftAt wsX9_passes2 := goodIn_r _ [19, 20, 21, 22, 6, 23, 24, 114, 115, 116, 117, 118, 119, 120, 121, 122, 123, 124, 125, 126, 127, 128, 129, 130, 131, 132, 133, 134, 135, 136, 137, 138, 139, 140, 141, 142, 143, 144, 145, 146, 147, 148, 149, 150, 151, 152, 153, 154] (by decide +kernel) (by decide +kernel)
set_option maxRecDepth 20000 in
theorem gX9_shiftAt_X9_passes2 : GoodIn wsX9_shiftAt (wsV RX9 332 RX9 yX9_passes2 wsX9_passes2) := goodIn_app (goodIn_of _ (by decide +kernel)) ggX9_shiftAt_X9_passes2
set_option maxRecDepth 20000 in
theorem ggX9_shiftAt_X9_followShot : GoodIn wsX9_shiftAt wsX9_followShot := goodIn_r _ [28, 29, 30, 31, 6, 32, 12, 33, 34, 35, 36, 2, 37, 38, 39, 40, 41, 42, 43, 44, 45, 46, 47, 48, 49, 50, 51, 52, 13, 14, 15, 53, 54, 55, 56, 57, 58, 59, 60, 61, 62, 63, 64, 65, 66, 1, 67, 68, 69, 70, 71, 72, 73, 74, 75, 76, 77, 78, 79, 80, 81, 82, 83, 84, 85, 86, 87, 88, 89, 90, 91, 92, 93, 94, 95, 96, 97, 98, 99, 100, 101, 102, 114, 115, 116, 117, 118, 119, 120, 121, 122, 123, 124, 125, 126, 127, 128, 129, 130, 131, 132, 133, 134, 135, 136, 137, 138, 139, 140, 141, 142, 143, 144, 145, 146, 147, 148, 149, 150, 151, 152, 153, 154] (by decide +kernel) (by decide +kernel)
set_option maxRecDepth 20000 in
theorem gX9_shiftAt_X9_followShot : GoodIn wsX9_shiftAt (wsV RX9 185 RX9 yX9_followShot wsX9_followShot) := goodIn_app (goodIn_of _ (by decide +kernel)) ggX9_shiftAt_X9_followShot
set_option maxRecDepth 20000 in
theorem ggX9_shiftAt_X9_legNow : GoodIn wsX9_shiftAt wsX9_legNow := goodIn_r _ [106, 2, 68, 114, 115, 116, 117, 118, 119, 120, 121, 122, 123, 124, 125, 126, 127, 128, 129, 130, 131, 132, 133, 134, 135, 136, 137, 138, 139, 140, 141, 142, 143, 144, 145, 146, 147, 148, 149, 150, 151, 152, 153, 154] (by decide +kernel) (by decide +kernel)
set_option maxRecDepth 20000 in
theorem gX9_shiftAt_X9_legNow : GoodIn wsX9_shiftAt (wsV RX9 359 RX9 yX9_legNow wsX9_legNow) := goodIn_app (goodIn_of _ (by decide +kernel)) ggX9_shiftAt_X9_legNow
set_option maxRecDepth 20000 in
theorem ggX9_shiftAt_X9_sumUp : GoodIn wsX9_shiftAt wsX9_sumUp := goodIn_r _ [109] (by decide +kernel) (by decide +kernel)
set_option maxRecDepth 20000 in
theorem gX9_shiftAt_X9_sumUp : GoodIn wsX9_shiftAt (va_wsS RX9 343 yX9_sumUp wsX9_sumUp) := goodIn_app (goodIn_of _ (by decide +kernel)) ggX9_shiftAt_X9_sumUp
set_option maxRecDepth 20000 in
theorem ggX9_shiftAt_X9_partOf : GoodIn wsX9_shiftAt wsX9_partOf := goodIn_r _ [113, 68, 107, 108, 6, 109, 114, 115, 116, 117, 118, 119, 120, 121, 122, 123, 124, 125, 126, 127, 128, 129, 130, 131, 132, 133, 134, 135, 136, 137, 138, 139, 140, 141, 142, 143, 144, 145, 146, 147, 148, 149, 150, 151, 152, 153, 154] (by decide +kernel) (by decide +kernel)
set_option maxRecDepth 20000 in
theorem gX9_shiftAt_X9_partOf : GoodIn wsX9_shiftAt (wsV RX9 362 RX9 yX9_partOf wsX9_partOf) := goodIn_app (goodIn_of _ (by decide +kernel)) ggX9_shiftAt_X9_partOf
theorem dX9_shiftAt_0 : decode cX9_shiftAt 0 = .ok (.aload_n 0, 1) := by decide +kernel
theorem dX9_shiftAt_1 : decode cX9_shiftAt 1 = .ok (.aload_n 0, 1) := by decide +kernel
theorem dX9_shiftAt_2 : decode cX9_shiftAt 2 = .ok (.iload_n 1, 1) := by decide +kernel
theorem dX9_shiftAt_3 : decode cX9_shiftAt 3 = .ok (.invokevirtual 336, 3) := by decide +kernel
theorem dX9_shiftAt_6 : decode cX9_shiftAt 6 = .ok (.iload_n 2, 1) := by decide +kernel
theorem dX9_shiftAt_7 : decode cX9_shiftAt 7 = .ok (.ifCond .lt 7, 3) := by decide +kernel
theorem dX9_shiftAt_10 : decode cX9_shiftAt 10 = .ok (.iconst 1, 1) := by decide +kernel
theorem dX9_shiftAt_11 : decode cX9_shiftAt 11 = .ok (.goto 4, 3) := by decide +kernel
theorem dX9_shiftAt_14 : decode cX9_shiftAt 14 = .ok (.iconst 0, 1) := by decide +kernel
theorem dX9_shiftAt_15 : decode cX9_shiftAt 15 = .ok (.invokevirtual 332, 3) := by decide +kernel
theorem dX9_shiftAt_18 : decode cX9_shiftAt 18 = .ok (.ifCond .ne 5, 3) := by decide +kernel
theorem dX9_shiftAt_21 : decode cX9_shiftAt 21 = .ok (.iconst 0, 1) := by decide +kernel
theorem dX9_shiftAt_22 : decode cX9_shiftAt 22 = .ok (.ireturn, 1) := by decide +kernel
theorem dX9_shiftAt_23 : decode cX9_shiftAt 23 = .ok (.aload_n 0, 1) := by decide +kernel
theorem dX9_shiftAt_24 : decode cX9_shiftAt 24 = .ok (.iload_n 1, 1) := by decide +kernel
theorem dX9_shiftAt_25 : decode cX9_shiftAt 25 = .ok (.invokevirtual 185, 3) := by decide +kernel
theorem dX9_shiftAt_28 : decode cX9_shiftAt 28 = .ok (.aload_n 0, 1) := by decide +kernel
theorem dX9_shiftAt_29 : decode cX9_shiftAt 29 = .ok (.iload_n 2, 1) := by decide +kernel
theorem dX9_shiftAt_30 : decode cX9_shiftAt 30 = .ok (.invokevirtual 359, 3) := by decide +kernel
theorem dX9_shiftAt_33 : decode cX9_shiftAt 33 = .ok (.istore_n 3, 1) := by decide +kernel
theorem dX9_shiftAt_34 : decode cX9_shiftAt 34 = .ok (.iload_n 3, 1) := by decide +kernel
theorem dX9_shiftAt_35 : decode cX9_shiftAt 35 = .ok (.iconst (-1), 1) := by decide +kernel
theorem dX9_shiftAt_36 : decode cX9_shiftAt 36 = .ok (.if_icmp .ne 17, 3) := by decide +kernel
theorem dX9_shiftAt_39 : decode cX9_shiftAt 39 = .ok (.aload_n 0, 1) := by decide +kernel
theorem dX9_shiftAt_40 : decode cX9_shiftAt 40 = .ok (.getfield 34, 3) := by decide +kernel
theorem dX9_shiftAt_43 : decode cX9_shiftAt 43 = .ok (.aload_n 0, 1) := by decide +kernel
theorem dX9_shiftAt_44 : decode cX9_shiftAt 44 = .ok (.getfield 131, 3) := by decide +kernel
theorem dX9_shiftAt_47 : decode cX9_shiftAt 47 = .ok (.invokestatic 343, 3) := by decide +kernel
theorem dX9_shiftAt_50 : decode cX9_shiftAt 50 = .ok (.goto 24, 3) := by decide +kernel
theorem dX9_shiftAt_53 : decode cX9_shiftAt 53 = .ok (.aload_n 0, 1) := by decide +kernel
theorem dX9_shiftAt_54 : decode cX9_shiftAt 54 = .ok (.getfield 34, 3) := by decide +kernel
theorem dX9_shiftAt_57 : decode cX9_shiftAt 57 = .ok (.iload_n 3, 1) := by decide +kernel
theorem dX9_shiftAt_58 : decode cX9_shiftAt 58 = .ok (.invokestatic 343, 3) := by decide +kernel
theorem dX9_shiftAt_61 : decode cX9_shiftAt 61 = .ok (.aload_n 0, 1) := by decide +kernel
theorem dX9_shiftAt_62 : decode cX9_shiftAt 62 = .ok (.aload_n 0, 1) := by decide +kernel
theorem dX9_shiftAt_63 : decode cX9_shiftAt 63 = .ok (.getfield 34, 3) := by decide +kernel
theorem dX9_shiftAt_66 : decode cX9_shiftAt 66 = .ok (.iload_n 3, 1) := by decide +kernel
theorem dX9_shiftAt_67 : decode cX9_shiftAt 67 = .ok (.iaload, 1) := by decide +kernel
theorem dX9_shiftAt_68 : decode cX9_shiftAt 68 = .ok (.iload_n 3, 1) := by decide +kernel
theorem dX9_shiftAt_69 : decode cX9_shiftAt 69 = .ok (.iload_n 2, 1) := by decide +kernel
theorem dX9_shiftAt_70 : decode cX9_shiftAt 70 = .ok (.invokevirtual 362, 3) := by decide +kernel
theorem dX9_shiftAt_73 : decode cX9_shiftAt 73 = .ok (.iadd, 1) := by decide +kernel
theorem dX9_shiftAt_74 : decode cX9_shiftAt 74 = .ok (.ireturn, 1) := by decide +kernel
set_option maxRecDepth 20000 in
theorem ggX9_depthAt_X9_isShot : GoodIn wsX9_depthAt wsX9_isShot := goodIn_r _ [7, 8, 9, 10, 6, 11, 12, 13, 14, 15, 118, 119, 120, 121, 122, 123, 124, 125, 126, 127, 128, 129, 130, 131, 132, 133, 134, 135, 136, 137, 138, 139, 140, 141, 142, 143, 144, 145, 146, 147, 148, 149, 150, 151, 152, 153, 154, 155, 156, 157, 158] (by decide +kernel) (by decide +kernel)
set_option maxRecDepth 20000 in
theorem gX9_depthAt_X9_isShot : GoodIn wsX9_depthAt (wsV RX9 336 RX9 yX9_isShot wsX9_isShot) := goodIn_app (goodIn_of _ (by decide +kernel)) ggX9_depthAt_X9_isShot
set_option maxRecDepth 20000 in
theorem ggX9_depthAt_X9_passes2 : GoodIn wsX9_depthAt wsX9_passes2 := goodIn_r _ [19, 20, 21, 22, 6, 23, 24, 118, 119, 120, 121, 122, 123, 124, 125, 126, 127, 128, 129, 130, 131, 132, 133, 134, 135, 136, 137, 138, 139, 140, 141, 142, 143, 144, 145, 146, 147, 148, 149, 150, 151, 152, 153, 154, 155, 156, 157, 158] (by decide +kernel) (by decide +kernel)
set_option maxRecDepth 20000 in
theorem gX9_depthAt_X9_passes2 : GoodIn wsX9_depthAt (wsV RX9 332 RX9 yX9_passes2 wsX9_passes2) := goodIn_app (goodIn_of _ (by decide +kernel)) ggX9_depthAt_X9_passes2
set_option maxRecDepth 20000 in
theorem ggX9_depthAt_X9_followShot : GoodIn wsX9_depthAt wsX9_followShot := goodIn_r _ [28, 29, 30, 31, 6, 32, 12, 33, 34, 35, 36, 37, 38, 39, 40, 41, 42, 43, 44, 45, 46, 47, 48, 49, 50, 51, 52, 53, 13, 14, 15, 54, 55, 56, 57, 58, 59, 60, 61, 62, 63, 64, 65, 1, 2, 66, 67, 68, 69, 70, 71, 72, 73, 74, 75, 76, 77, 78, 79, 80, 81, 82, 83, 84, 85, 86, 87, 88, 89, 90, 91, 92, 93, 94, 95, 96, 97, 98, 99, 100, 101, 102, 118, 119, 120, 121, 122, 123, 124, 125, 126, 127, 128, 129, 130, 131, 132, 133, 134, 135, 136, 137, 138, 139, 140, 141, 142, 143, 144, 145, 146, 147, 148, 149, 150, 151, 152, 153, 154, 155, 156, 157, 158] (by decide +kernel) (by decide +kernel)
set_option maxRecDepth 20000 in
theorem gX9_depthAt_X9_followShot : GoodIn wsX9_depthAt (wsV RX9 185 RX9 yX9_followShot wsX9_followShot) := goodIn_app (goodIn_of _ (by decide +kernel)) ggX9_depthAt_X9_followShot
set_option maxRecDepth 20000 in
theorem ggX9_depthAt_X9_legNow : GoodIn wsX9_depthAt wsX9_legNow := goodIn_r _ [106, 37, 68, 118, 119, 120, 121, 122, 123, 124, 125, 126, 127, 128, 129, 130, 131, 132, 133, 134, 135, 136, 137, 138, 139, 140, 141, 142, 143, 144, 145, 146, 147, 148, 149, 150, 151, 152, 153, 154, 155, 156, 157, 158] (by decide +kernel) (by decide +kernel)
set_option maxRecDepth 20000 in
theorem gX9_depthAt_X9_legNow : GoodIn wsX9_depthAt (wsV RX9 359 RX9 yX9_legNow wsX9_legNow) := goodIn_app (goodIn_of _ (by decide +kernel)) ggX9_depthAt_X9_legNow
set_option maxRecDepth 20000 in
theorem ggX9_depthAt_X9_ofLayer : GoodIn wsX9_depthAt wsX9_ofLayer := goodIn_r _ [57, 12, 118, 119, 120, 121, 122, 123, 124, 125, 126, 127, 128, 129, 130, 131, 132, 133, 134, 135, 136, 137, 138, 139, 140, 141, 142, 143, 144, 145, 146, 147, 148, 149, 150, 151, 152, 153, 154, 155, 156, 157, 158] (by decide +kernel) (by decide +kernel)
set_option maxRecDepth 20000 in
theorem gX9_depthAt_X9_ofLayer : GoodIn wsX9_depthAt (wsV RX9 105 RX9 yX9_ofLayer wsX9_ofLayer) := goodIn_app (goodIn_of _ (by decide +kernel)) ggX9_depthAt_X9_ofLayer
set_option maxRecDepth 20000 in
theorem ggX9_depthAt_X9_partOf : GoodIn wsX9_depthAt wsX9_partOf := goodIn_r _ [110, 68, 111, 112, 6, 113, 118, 119, 120, 121, 122, 123, 124, 125, 126, 127, 128, 129, 130, 131, 132, 133, 134, 135, 136, 137, 138, 139, 140, 141, 142, 143, 144, 145, 146, 147, 148, 149, 150, 151, 152, 153, 154, 155, 156, 157, 158] (by decide +kernel) (by decide +kernel)
set_option maxRecDepth 20000 in
theorem gX9_depthAt_X9_partOf : GoodIn wsX9_depthAt (wsV RX9 362 RX9 yX9_partOf wsX9_partOf) := goodIn_app (goodIn_of _ (by decide +kernel)) ggX9_depthAt_X9_partOf
set_option maxRecDepth 20000 in
theorem ggX9_depthAt_X9_depthOf : GoodIn wsX9_depthAt wsX9_depthOf := goodIn_r _ [117, 54, 55, 56, 6, 57, 12, 118, 119, 120, 121, 122, 123, 124, 125, 126, 127, 128, 129, 130, 131, 132, 133, 134, 135, 136, 137, 138, 139, 140, 141, 142, 143, 144, 145, 146, 147, 148, 149, 150, 151, 152, 153, 154, 155, 156, 157, 158] (by decide +kernel) (by decide +kernel)
set_option maxRecDepth 20000 in
theorem gX9_depthAt_X9_depthOf : GoodIn wsX9_depthAt (wsV RX9 327 RX9 yX9_depthOf wsX9_depthOf) := goodIn_app (goodIn_of _ (by decide +kernel)) ggX9_depthAt_X9_depthOf
theorem dX9_depthAt_0 : decode cX9_depthAt 0 = .ok (.aload_n 0, 1) := by decide +kernel
theorem dX9_depthAt_1 : decode cX9_depthAt 1 = .ok (.aload_n 0, 1) := by decide +kernel
theorem dX9_depthAt_2 : decode cX9_depthAt 2 = .ok (.iload_n 1, 1) := by decide +kernel
theorem dX9_depthAt_3 : decode cX9_depthAt 3 = .ok (.invokevirtual 336, 3) := by decide +kernel
theorem dX9_depthAt_6 : decode cX9_depthAt 6 = .ok (.iload_n 2, 1) := by decide +kernel
theorem dX9_depthAt_7 : decode cX9_depthAt 7 = .ok (.ifCond .lt 7, 3) := by decide +kernel
theorem dX9_depthAt_10 : decode cX9_depthAt 10 = .ok (.iconst 1, 1) := by decide +kernel
theorem dX9_depthAt_11 : decode cX9_depthAt 11 = .ok (.goto 4, 3) := by decide +kernel
theorem dX9_depthAt_14 : decode cX9_depthAt 14 = .ok (.iconst 0, 1) := by decide +kernel
theorem dX9_depthAt_15 : decode cX9_depthAt 15 = .ok (.invokevirtual 332, 3) := by decide +kernel
theorem dX9_depthAt_18 : decode cX9_depthAt 18 = .ok (.ifCond .ne 5, 3) := by decide +kernel
theorem dX9_depthAt_21 : decode cX9_depthAt 21 = .ok (.iconst 0, 1) := by decide +kernel
theorem dX9_depthAt_22 : decode cX9_depthAt 22 = .ok (.ireturn, 1) := by decide +kernel
theorem dX9_depthAt_23 : decode cX9_depthAt 23 = .ok (.aload_n 0, 1) := by decide +kernel
theorem dX9_depthAt_24 : decode cX9_depthAt 24 = .ok (.iload_n 1, 1) := by decide +kernel
theorem dX9_depthAt_25 : decode cX9_depthAt 25 = .ok (.invokevirtual 185, 3) := by decide +kernel
theorem dX9_depthAt_28 : decode cX9_depthAt 28 = .ok (.aload_n 0, 1) := by decide +kernel
theorem dX9_depthAt_29 : decode cX9_depthAt 29 = .ok (.iload_n 2, 1) := by decide +kernel
theorem dX9_depthAt_30 : decode cX9_depthAt 30 = .ok (.invokevirtual 359, 3) := by decide +kernel
theorem dX9_depthAt_33 : decode cX9_depthAt 33 = .ok (.istore_n 3, 1) := by decide +kernel
theorem dX9_depthAt_34 : decode cX9_depthAt 34 = .ok (.iload_n 3, 1) := by decide +kernel
theorem dX9_depthAt_35 : decode cX9_depthAt 35 = .ok (.iconst (-1), 1) := by decide +kernel
theorem dX9_depthAt_36 : decode cX9_depthAt 36 = .ok (.if_icmp .ne 5, 3) := by decide +kernel
theorem dX9_depthAt_39 : decode cX9_depthAt 39 = .ok (.iconst (-1), 1) := by decide +kernel
theorem dX9_depthAt_40 : decode cX9_depthAt 40 = .ok (.ireturn, 1) := by decide +kernel
theorem dX9_depthAt_41 : decode cX9_depthAt 41 = .ok (.aload_n 0, 1) := by decide +kernel
theorem dX9_depthAt_42 : decode cX9_depthAt 42 = .ok (.getfield 27, 3) := by decide +kernel
theorem dX9_depthAt_45 : decode cX9_depthAt 45 = .ok (.iload_n 3, 1) := by decide +kernel
theorem dX9_depthAt_46 : decode cX9_depthAt 46 = .ok (.iaload, 1) := by decide +kernel
theorem dX9_depthAt_47 : decode cX9_depthAt 47 = .ok (.istore 4, 2) := by decide +kernel
theorem dX9_depthAt_49 : decode cX9_depthAt 49 = .ok (.aload_n 0, 1) := by decide +kernel
theorem dX9_depthAt_50 : decode cX9_depthAt 50 = .ok (.aload_n 0, 1) := by decide +kernel
theorem dX9_depthAt_51 : decode cX9_depthAt 51 = .ok (.iload 4, 2) := by decide +kernel
theorem dX9_depthAt_53 : decode cX9_depthAt 53 = .ok (.iconst 1, 1) := by decide +kernel
theorem dX9_depthAt_54 : decode cX9_depthAt 54 = .ok (.invokevirtual 105, 3) := by decide +kernel
theorem dX9_depthAt_57 : decode cX9_depthAt 57 = .ok (.iload_n 3, 1) := by decide +kernel
theorem dX9_depthAt_58 : decode cX9_depthAt 58 = .ok (.iload_n 2, 1) := by decide +kernel
theorem dX9_depthAt_59 : decode cX9_depthAt 59 = .ok (.invokevirtual 362, 3) := by decide +kernel
theorem dX9_depthAt_62 : decode cX9_depthAt 62 = .ok (.istore 5, 2) := by decide +kernel
theorem dX9_depthAt_64 : decode cX9_depthAt 64 = .ok (.aload_n 0, 1) := by decide +kernel
theorem dX9_depthAt_65 : decode cX9_depthAt 65 = .ok (.getfield 30, 3) := by decide +kernel
theorem dX9_depthAt_68 : decode cX9_depthAt 68 = .ok (.iload_n 3, 1) := by decide +kernel
theorem dX9_depthAt_69 : decode cX9_depthAt 69 = .ok (.baload, 1) := by decide +kernel
theorem dX9_depthAt_70 : decode cX9_depthAt 70 = .ok (.ifCond .eq 15, 3) := by decide +kernel
theorem dX9_depthAt_73 : decode cX9_depthAt 73 = .ok (.aload_n 0, 1) := by decide +kernel
theorem dX9_depthAt_74 : decode cX9_depthAt 74 = .ok (.iload 4, 2) := by decide +kernel
theorem dX9_depthAt_76 : decode cX9_depthAt 76 = .ok (.invokevirtual 327, 3) := by decide +kernel
theorem dX9_depthAt_79 : decode cX9_depthAt 79 = .ok (.iload 5, 2) := by decide +kernel
theorem dX9_depthAt_81 : decode cX9_depthAt 81 = .ok (.iadd, 1) := by decide +kernel
theorem dX9_depthAt_82 : decode cX9_depthAt 82 = .ok (.goto 14, 3) := by decide +kernel
theorem dX9_depthAt_85 : decode cX9_depthAt 85 = .ok (.aload_n 0, 1) := by decide +kernel
theorem dX9_depthAt_86 : decode cX9_depthAt 86 = .ok (.iload 4, 2) := by decide +kernel
theorem dX9_depthAt_88 : decode cX9_depthAt 88 = .ok (.iconst 1, 1) := by decide +kernel
theorem dX9_depthAt_89 : decode cX9_depthAt 89 = .ok (.iadd, 1) := by decide +kernel
theorem dX9_depthAt_90 : decode cX9_depthAt 90 = .ok (.invokevirtual 327, 3) := by decide +kernel
theorem dX9_depthAt_93 : decode cX9_depthAt 93 = .ok (.iload 5, 2) := by decide +kernel
theorem dX9_depthAt_95 : decode cX9_depthAt 95 = .ok (.isub, 1) := by decide +kernel
theorem dX9_depthAt_96 : decode cX9_depthAt 96 = .ok (.ireturn, 1) := by decide +kernel
set_option maxRecDepth 20000 in
theorem ggX9_isSlant_X9_in : GoodIn wsX9_isSlant wsX9_in := goodIn_r _ [5] (by decide +kernel) (by decide +kernel)
set_option maxRecDepth 20000 in
theorem gX9_isSlant_X9_in : GoodIn wsX9_isSlant (va_wsS RX9 94 yX9_in wsX9_in) := goodIn_app (goodIn_of _ (by decide +kernel)) ggX9_isSlant_X9_in
theorem dX9_isSlant_0 : decode cX9_isSlant 0 = .ok (.iload_n 0, 1) := by decide +kernel
theorem dX9_isSlant_1 : decode cX9_isSlant 1 = .ok (.i2l, 1) := by decide +kernel
theorem dX9_isSlant_2 : decode cX9_isSlant 2 = .ok (.lconst 0, 1) := by decide +kernel
theorem dX9_isSlant_3 : decode cX9_isSlant 3 = .ok (.ldc2_w 366, 3) := by decide +kernel
theorem dX9_isSlant_6 : decode cX9_isSlant 6 = .ok (.invokestatic 94, 3) := by decide +kernel
theorem dX9_isSlant_9 : decode cX9_isSlant 9 = .ok (.ireturn, 1) := by decide +kernel
set_option maxRecDepth 20000 in
theorem ggX9_isEnd_X9_in : GoodIn wsX9_isEnd wsX9_in := goodIn_r _ [5] (by decide +kernel) (by decide +kernel)
set_option maxRecDepth 20000 in
theorem gX9_isEnd_X9_in : GoodIn wsX9_isEnd (va_wsS RX9 94 yX9_in wsX9_in) := goodIn_app (goodIn_of _ (by decide +kernel)) ggX9_isEnd_X9_in
theorem dX9_isEnd_0 : decode cX9_isEnd 0 = .ok (.iload_n 0, 1) := by decide +kernel
theorem dX9_isEnd_1 : decode cX9_isEnd 1 = .ok (.i2l, 1) := by decide +kernel
theorem dX9_isEnd_2 : decode cX9_isEnd 2 = .ok (.lconst 0, 1) := by decide +kernel
theorem dX9_isEnd_3 : decode cX9_isEnd 3 = .ok (.ldc2_w 330, 3) := by decide +kernel
theorem dX9_isEnd_6 : decode cX9_isEnd 6 = .ok (.invokestatic 94, 3) := by decide +kernel
theorem dX9_isEnd_9 : decode cX9_isEnd 9 = .ok (.ireturn, 1) := by decide +kernel
set_option maxRecDepth 20000 in
theorem ggX9_isIndex_X9_in : GoodIn wsX9_isIndex wsX9_in := goodIn_r _ [6] (by decide +kernel) (by decide +kernel)
set_option maxRecDepth 20000 in
theorem gX9_isIndex_X9_in : GoodIn wsX9_isIndex (va_wsS RX9 94 yX9_in wsX9_in) := goodIn_app (goodIn_of _ (by decide +kernel)) ggX9_isIndex_X9_in
theorem dX9_isIndex_0 : decode cX9_isIndex 0 = .ok (.iload_n 0, 1) := by decide +kernel
theorem dX9_isIndex_1 : decode cX9_isIndex 1 = .ok (.i2l, 1) := by decide +kernel
theorem dX9_isIndex_2 : decode cX9_isIndex 2 = .ok (.ldc2_w 138, 3) := by decide +kernel
theorem dX9_isIndex_5 : decode cX9_isIndex 5 = .ok (.ldc2_w 368, 3) := by decide +kernel
theorem dX9_isIndex_8 : decode cX9_isIndex 8 = .ok (.invokestatic 94, 3) := by decide +kernel
theorem dX9_isIndex_11 : decode cX9_isIndex 11 = .ok (.ireturn, 1) := by decide +kernel
set_option maxRecDepth 20000 in
theorem ggX9_critical_X9_isLayer : GoodIn wsX9_critical wsX9_isLayer := goodIn_r _ [5, 6, 7, 8, 4, 9, 10, 11, 12, 13, 31, 32, 33, 34, 35, 36, 37, 38, 39, 40, 41, 42, 43, 44, 45, 46, 47, 48, 49, 50, 51, 52, 53, 54, 55, 56, 57, 58, 59, 60, 61, 62, 63, 64, 65, 66, 67, 68, 69, 70, 71] (by decide +kernel) (by decide +kernel)
set_option maxRecDepth 20000 in
theorem gX9_critical_X9_isLayer : GoodIn wsX9_critical (wsV RX9 140 RX9 yX9_isLayer wsX9_isLayer) := goodIn_app (goodIn_of _ (by decide +kernel)) ggX9_critical_X9_isLayer
set_option maxRecDepth 20000 in
theorem ggX9_critical_X9_passes : GoodIn wsX9_critical wsX9_passes := goodIn_r _ [17, 18, 19, 20, 4, 21, 22, 31, 32, 33, 34, 35, 36, 37, 38, 39, 40, 41, 42, 43, 44, 45, 46, 47, 48, 49, 50, 51, 52, 53, 54, 55, 56, 57, 58, 59, 60, 61, 62, 63, 64, 65, 66, 67, 68, 69, 70, 71] (by decide +kernel) (by decide +kernel)
set_option maxRecDepth 20000 in
theorem gX9_critical_X9_passes : GoodIn wsX9_critical (wsV RX9 193 RX9 yX9_passes wsX9_passes) := goodIn_app (goodIn_of _ (by decide +kernel)) ggX9_critical_X9_passes
set_option maxRecDepth 20000 in
theorem ggX9_critical_X9_indexAhead : GoodIn wsX9_critical wsX9_indexAhead := goodIn_r _ [26, 10, 1, 2, 3, 4, 5, 6, 7, 8, 9, 11, 12, 13, 27, 28, 29, 30, 31, 32, 33, 34, 35, 36, 37, 38, 39, 40, 41, 42, 43, 44, 45, 46, 47, 48, 49, 50, 51, 52, 53, 54, 55, 56, 57, 58, 59, 60, 61, 62, 63, 64, 65, 66, 67, 68, 69, 70, 71] (by decide +kernel) (by decide +kernel)
set_option maxRecDepth 20000 in
theorem gX9_critical_X9_indexAhead : GoodIn wsX9_critical (wsV RX9 144 RX9 yX9_indexAhead wsX9_indexAhead) := goodIn_app (goodIn_of _ (by decide +kernel)) ggX9_critical_X9_indexAhead
set_option maxRecDepth 20000 in
theorem ggX9_critical_X9_ofLayer : GoodIn wsX9_critical wsX9_ofLayer := goodIn_r _ [30, 10, 31, 32, 33, 34, 35, 36, 37, 38, 39, 40, 41, 42, 43, 44, 45, 46, 47, 48, 49, 50, 51, 52, 53, 54, 55, 56, 57, 58, 59, 60, 61, 62, 63, 64, 65, 66, 67, 68, 69, 70, 71] (by decide +kernel) (by decide +kernel)
set_option maxRecDepth 20000 in
theorem gX9_critical_X9_ofLayer : GoodIn wsX9_critical (wsV RX9 105 RX9 yX9_ofLayer wsX9_ofLayer) := goodIn_app (goodIn_of _ (by decide +kernel)) ggX9_critical_X9_ofLayer
theorem dX9_critical_0 : decode cX9_critical 0 = .ok (.aload_n 0, 1) := by decide +kernel
theorem dX9_critical_1 : decode cX9_critical 1 = .ok (.aload_n 0, 1) := by decide +kernel
theorem dX9_critical_2 : decode cX9_critical 2 = .ok (.iload_n 1, 1) := by decide +kernel
theorem dX9_critical_3 : decode cX9_critical 3 = .ok (.invokevirtual 140, 3) := by decide +kernel
theorem dX9_critical_6 : decode cX9_critical 6 = .ok (.invokevirtual 193, 3) := by decide +kernel
theorem dX9_critical_9 : decode cX9_critical 9 = .ok (.ifCond .ne 5, 3) := by decide +kernel
theorem dX9_critical_12 : decode cX9_critical 12 = .ok (.iconst 0, 1) := by decide +kernel
theorem dX9_critical_13 : decode cX9_critical 13 = .ok (.ireturn, 1) := by decide +kernel
theorem dX9_critical_14 : decode cX9_critical 14 = .ok (.aload_n 0, 1) := by decide +kernel
theorem dX9_critical_15 : decode cX9_critical 15 = .ok (.iload_n 1, 1) := by decide +kernel
theorem dX9_critical_16 : decode cX9_critical 16 = .ok (.iload_n 2, 1) := by decide +kernel
theorem dX9_critical_17 : decode cX9_critical 17 = .ok (.invokevirtual 144, 3) := by decide +kernel
theorem dX9_critical_20 : decode cX9_critical 20 = .ok (.istore_n 3, 1) := by decide +kernel
theorem dX9_critical_21 : decode cX9_critical 21 = .ok (.iload_n 3, 1) := by decide +kernel
theorem dX9_critical_22 : decode cX9_critical 22 = .ok (.iconst (-1), 1) := by decide +kernel
theorem dX9_critical_23 : decode cX9_critical 23 = .ok (.if_icmp .eq 17, 3) := by decide +kernel
theorem dX9_critical_26 : decode cX9_critical 26 = .ok (.iload_n 3, 1) := by decide +kernel
theorem dX9_critical_27 : decode cX9_critical 27 = .ok (.aload_n 0, 1) := by decide +kernel
theorem dX9_critical_28 : decode cX9_critical 28 = .ok (.iload_n 1, 1) := by decide +kernel
theorem dX9_critical_29 : decode cX9_critical 29 = .ok (.iconst 0, 1) := by decide +kernel
theorem dX9_critical_30 : decode cX9_critical 30 = .ok (.invokevirtual 105, 3) := by decide +kernel
theorem dX9_critical_33 : decode cX9_critical 33 = .ok (.if_icmp .ge 7, 3) := by decide +kernel
theorem dX9_critical_36 : decode cX9_critical 36 = .ok (.iload_n 3, 1) := by decide +kernel
theorem dX9_critical_37 : decode cX9_critical 37 = .ok (.goto 4, 3) := by decide +kernel
theorem dX9_critical_40 : decode cX9_critical 40 = .ok (.iconst (-1), 1) := by decide +kernel
theorem dX9_critical_41 : decode cX9_critical 41 = .ok (.ireturn, 1) := by decide +kernel
set_option maxRecDepth 20000 in
theorem ggX9_endOf_X9_isLayer : GoodIn wsX9_endOf wsX9_isLayer := goodIn_r _ [6, 7, 8, 9, 5, 10, 11, 12, 13, 14, 91, 92, 93, 94, 95, 96, 97, 98, 99, 100, 101, 102, 103, 104, 105, 106, 107, 108, 109, 110, 111, 112, 113, 114, 115, 116, 117, 118, 119, 120, 121, 122, 123, 124, 125, 126, 127, 128, 129, 130, 131] (by decide +kernel) (by decide +kernel)
set_option maxRecDepth 20000 in
theorem gX9_endOf_X9_isLayer : GoodIn wsX9_endOf (wsV RX9 140 RX9 yX9_isLayer wsX9_isLayer) := goodIn_app (goodIn_of _ (by decide +kernel)) ggX9_endOf_X9_isLayer
set_option maxRecDepth 20000 in
theorem ggX9_endOf_X9_isSlant : GoodIn wsX9_endOf wsX9_isSlant := goodIn_r _ [17, 18, 12, 13, 5, 14] (by decide +kernel) (by decide +kernel)
set_option maxRecDepth 20000 in
theorem gX9_endOf_X9_isSlant : GoodIn wsX9_endOf (va_wsS RX9 370 yX9_isSlant wsX9_isSlant) := goodIn_app (goodIn_of _ (by decide +kernel)) ggX9_endOf_X9_isSlant
set_option maxRecDepth 20000 in
theorem ggX9_endOf_X9_passes2 : GoodIn wsX9_endOf wsX9_passes2 := goodIn_r _ [22, 23, 24, 25, 5, 26, 27, 91, 92, 93, 94, 95, 96, 97, 98, 99, 100, 101, 102, 103, 104, 105, 106, 107, 108, 109, 110, 111, 112, 113, 114, 115, 116, 117, 118, 119, 120, 121, 122, 123, 124, 125, 126, 127, 128, 129, 130, 131] (by decide +kernel) (by decide +kernel)
set_option maxRecDepth 20000 in
theorem gX9_endOf_X9_passes2 : GoodIn wsX9_endOf (wsV RX9 332 RX9 yX9_passes2 wsX9_passes2) := goodIn_app (goodIn_of _ (by decide +kernel)) ggX9_endOf_X9_passes2
set_option maxRecDepth 20000 in
theorem ggX9_endOf_X9_follow : GoodIn wsX9_endOf wsX9_follow := goodIn_r _ [31, 32, 33, 34, 35, 1, 36, 37, 38, 39, 2, 3, 4, 5, 6, 7, 8, 9, 10, 11, 12, 13, 14, 40, 41, 42, 43, 44, 45, 46, 47, 48, 49, 50, 51, 52, 53, 54, 55, 56, 57, 58, 59, 60, 61, 62, 63, 64, 65, 66, 67, 68, 69, 70, 71, 72, 73, 74, 75, 76, 77, 78, 79, 80, 81, 82, 83, 84, 85, 86, 87, 88, 89, 90, 91, 92, 93, 94, 95, 96, 97, 98, 99, 100, 101, 102, 103, 104, 105, 106, 107, 108, 109, 110, 111, 112, 113, 114, 115, 116, 117, 118, 119, 120, 121, 122, 123, 124, 125, 126, 127, 128, 129, 130, 131] (by decide +kernel) (by decide +kernel)
set_option maxRecDepth 20000 in
theorem gX9_endOf_X9_follow : GoodIn wsX9_endOf (wsV RX9 181 RX9 yX9_follow wsX9_follow) := goodIn_app (goodIn_of _ (by decide +kernel)) ggX9_endOf_X9_follow
theorem dX9_endOf_0 : decode cX9_endOf 0 = .ok (.aload_n 0, 1) := by decide +kernel
theorem dX9_endOf_1 : decode cX9_endOf 1 = .ok (.aload_n 0, 1) := by decide +kernel
theorem dX9_endOf_2 : decode cX9_endOf 2 = .ok (.iload_n 1, 1) := by decide +kernel
theorem dX9_endOf_3 : decode cX9_endOf 3 = .ok (.invokevirtual 140, 3) := by decide +kernel
theorem dX9_endOf_6 : decode cX9_endOf 6 = .ok (.iload_n 3, 1) := by decide +kernel
theorem dX9_endOf_7 : decode cX9_endOf 7 = .ok (.invokestatic 370, 3) := by decide +kernel
theorem dX9_endOf_10 : decode cX9_endOf 10 = .ok (.invokevirtual 332, 3) := by decide +kernel
theorem dX9_endOf_13 : decode cX9_endOf 13 = .ok (.ifCond .ne 5, 3) := by decide +kernel
theorem dX9_endOf_16 : decode cX9_endOf 16 = .ok (.iconst 0, 1) := by decide +kernel
theorem dX9_endOf_17 : decode cX9_endOf 17 = .ok (.ireturn, 1) := by decide +kernel
theorem dX9_endOf_18 : decode cX9_endOf 18 = .ok (.aload_n 0, 1) := by decide +kernel
theorem dX9_endOf_19 : decode cX9_endOf 19 = .ok (.iload_n 1, 1) := by decide +kernel
theorem dX9_endOf_20 : decode cX9_endOf 20 = .ok (.iload_n 2, 1) := by decide +kernel
theorem dX9_endOf_21 : decode cX9_endOf 21 = .ok (.iload_n 3, 1) := by decide +kernel
theorem dX9_endOf_22 : decode cX9_endOf 22 = .ok (.invokevirtual 181, 3) := by decide +kernel
theorem dX9_endOf_25 : decode cX9_endOf 25 = .ok (.aload_n 0, 1) := by decide +kernel
theorem dX9_endOf_26 : decode cX9_endOf 26 = .ok (.getfield 156, 3) := by decide +kernel
theorem dX9_endOf_29 : decode cX9_endOf 29 = .ok (.ireturn, 1) := by decide +kernel
set_option maxRecDepth 20000 in
theorem ggX9_shiftOf_X9_isLayer : GoodIn wsX9_shiftOf wsX9_isLayer := goodIn_r _ [8, 9, 10, 11, 7, 12, 13, 14, 15, 16, 94, 95, 96, 97, 98, 99, 100, 101, 102, 103, 104, 105, 106, 107, 108, 109, 110, 111, 112, 113, 114, 115, 116, 117, 118, 119, 120, 121, 122, 123, 124, 125, 126, 127, 128, 129, 130, 131, 132, 133, 134] (by decide +kernel) (by decide +kernel)
set_option maxRecDepth 20000 in
theorem gX9_shiftOf_X9_isLayer : GoodIn wsX9_shiftOf (wsV RX9 140 RX9 yX9_isLayer wsX9_isLayer) := goodIn_app (goodIn_of _ (by decide +kernel)) ggX9_shiftOf_X9_isLayer
set_option maxRecDepth 20000 in
theorem ggX9_shiftOf_X9_isSlant : GoodIn wsX9_shiftOf wsX9_isSlant := goodIn_r _ [19, 20, 14, 15, 7, 16] (by decide +kernel) (by decide +kernel)
set_option maxRecDepth 20000 in
theorem gX9_shiftOf_X9_isSlant : GoodIn wsX9_shiftOf (va_wsS RX9 370 yX9_isSlant wsX9_isSlant) := goodIn_app (goodIn_of _ (by decide +kernel)) ggX9_shiftOf_X9_isSlant
set_option maxRecDepth 20000 in
theorem ggX9_shiftOf_X9_passes2 : GoodIn wsX9_shiftOf wsX9_passes2 := goodIn_r _ [24, 25, 26, 27, 7, 28, 29, 94, 95, 96, 97, 98, 99, 100, 101, 102, 103, 104, 105, 106, 107, 108, 109, 110, 111, 112, 113, 114, 115, 116, 117, 118, 119, 120, 121, 122, 123, 124, 125, 126, 127, 128, 129, 130, 131, 132, 133, 134] (by decide +kernel) (by decide +kernel)
set_option maxRecDepth 20000 in
theorem gX9_shiftOf_X9_passes2 : GoodIn wsX9_shiftOf (wsV RX9 332 RX9 yX9_passes2 wsX9_passes2) := goodIn_app (goodIn_of _ (by decide +kernel)) ggX9_shiftOf_X9_passes2
set_option maxRecDepth 20000 in
theorem ggX9_shiftOf_X9_follow : GoodIn wsX9_shiftOf wsX9_follow := goodIn_r _ [33, 3, 34, 35, 36, 1, 37, 38, 39, 40, 4, 5, 6, 7, 8, 9, 10, 11, 12, 13, 14, 15, 16, 41, 42, 43, 44, 45, 46, 47, 48, 49, 50, 51, 52, 53, 54, 2, 55, 56, 57, 58, 59, 60, 61, 62, 63, 64, 65, 66, 67, 68, 69, 70, 71, 72, 73, 74, 75, 76, 77, 78, 79, 80, 81, 82, 83, 84, 85, 86, 87, 88, 89, 90, 94, 95, 96, 97, 98, 99, 100, 101, 102, 103, 104, 105, 106, 107, 108, 109, 110, 111, 112, 113, 114, 115, 116, 117, 118, 119, 120, 121, 122, 123, 124, 125, 126, 127, 128, 129, 130, 131, 132, 133, 134] (by decide +kernel) (by decide +kernel)
set_option maxRecDepth 20000 in
theorem gX9_shiftOf_X9_follow : GoodIn wsX9_shiftOf (wsV RX9 181 RX9 yX9_follow wsX9_follow) := goodIn_app (goodIn_of _ (by decide +kernel)) ggX9_shiftOf_X9_follow
set_option maxRecDepth 20000 in
theorem ggX9_shiftOf_X9_sumUp : GoodIn wsX9_shiftOf wsX9_sumUp := goodIn_r _ [93] (by decide +kernel) (by decide +kernel)
set_option maxRecDepth 20000 in
theorem gX9_shiftOf_X9_sumUp : GoodIn wsX9_shiftOf (va_wsS RX9 343 yX9_sumUp wsX9_sumUp) := goodIn_app (goodIn_of _ (by decide +kernel)) ggX9_shiftOf_X9_sumUp
theorem dX9_shiftOf_0 : decode cX9_shiftOf 0 = .ok (.aload_n 0, 1) := by decide +kernel
theorem dX9_shiftOf_1 : decode cX9_shiftOf 1 = .ok (.aload_n 0, 1) := by decide +kernel
theorem dX9_shiftOf_2 : decode cX9_shiftOf 2 = .ok (.iload_n 1, 1) := by decide +kernel
theorem dX9_shiftOf_3 : decode cX9_shiftOf 3 = .ok (.invokevirtual 140, 3) := by decide +kernel
theorem dX9_shiftOf_6 : decode cX9_shiftOf 6 = .ok (.iload_n 3, 1) := by decide +kernel
theorem dX9_shiftOf_7 : decode cX9_shiftOf 7 = .ok (.invokestatic 370, 3) := by decide +kernel
theorem dX9_shiftOf_10 : decode cX9_shiftOf 10 = .ok (.invokevirtual 332, 3) := by decide +kernel
theorem dX9_shiftOf_13 : decode cX9_shiftOf 13 = .ok (.ifCond .ne 5, 3) := by decide +kernel
theorem dX9_shiftOf_16 : decode cX9_shiftOf 16 = .ok (.iconst 0, 1) := by decide +kernel
theorem dX9_shiftOf_17 : decode cX9_shiftOf 17 = .ok (.ireturn, 1) := by decide +kernel
theorem dX9_shiftOf_18 : decode cX9_shiftOf 18 = .ok (.aload_n 0, 1) := by decide +kernel
theorem dX9_shiftOf_19 : decode cX9_shiftOf 19 = .ok (.iload_n 1, 1) := by decide +kernel
theorem dX9_shiftOf_20 : decode cX9_shiftOf 20 = .ok (.iload_n 2, 1) := by decide +kernel
theorem dX9_shiftOf_21 : decode cX9_shiftOf 21 = .ok (.iload_n 3, 1) := by decide +kernel
theorem dX9_shiftOf_22 : decode cX9_shiftOf 22 = .ok (.invokevirtual 181, 3) := by decide +kernel
theorem dX9_shiftOf_25 : decode cX9_shiftOf 25 = .ok (.aload_n 0, 1) := by decide +kernel
theorem dX9_shiftOf_26 : decode cX9_shiftOf 26 = .ok (.getfield 156, 3) := by decide +kernel
theorem dX9_shiftOf_29 : decode cX9_shiftOf 29 = .ok (.iconst 4, 1) := by decide +kernel
theorem dX9_shiftOf_30 : decode cX9_shiftOf 30 = .ok (.if_icmp .ne 7, 3) := by decide +kernel
theorem dX9_shiftOf_33 : decode cX9_shiftOf 33 = .ok (.iconst (-1), 1) := by decide +kernel
theorem dX9_shiftOf_34 : decode cX9_shiftOf 34 = .ok (.goto 14, 3) := by decide +kernel
theorem dX9_shiftOf_37 : decode cX9_shiftOf 37 = .ok (.aload_n 0, 1) := by decide +kernel
theorem dX9_shiftOf_38 : decode cX9_shiftOf 38 = .ok (.getfield 34, 3) := by decide +kernel
theorem dX9_shiftOf_41 : decode cX9_shiftOf 41 = .ok (.aload_n 0, 1) := by decide +kernel
theorem dX9_shiftOf_42 : decode cX9_shiftOf 42 = .ok (.getfield 131, 3) := by decide +kernel
theorem dX9_shiftOf_45 : decode cX9_shiftOf 45 = .ok (.invokestatic 343, 3) := by decide +kernel
theorem dX9_shiftOf_48 : decode cX9_shiftOf 48 = .ok (.ireturn, 1) := by decide +kernel
set_option maxRecDepth 20000 in
theorem ggX9_slantsOf_X9_ofLayer : GoodIn wsX9_slantsOf wsX9_ofLayer := goodIn_r _ [6, 7, 78, 79, 80, 81, 82, 83, 84, 85, 86, 87, 88, 89, 90, 91, 92, 93, 94, 95, 96, 97, 98, 99, 100, 101, 102, 103, 104, 105, 106, 107, 108, 109, 110, 111, 112, 113, 114, 115, 116, 117, 118] (by decide +kernel) (by decide +kernel)
set_option maxRecDepth 20000 in
theorem gX9_slantsOf_X9_ofLayer : GoodIn wsX9_slantsOf (wsV RX9 105 RX9 yX9_ofLayer wsX9_ofLayer) := goodIn_app (goodIn_of _ (by decide +kernel)) ggX9_slantsOf_X9_ofLayer
set_option maxRecDepth 20000 in
theorem ggX9_slantsOf_X9_follow : GoodIn wsX9_slantsOf wsX9_follow := goodIn_r _ [11, 12, 13, 14, 15, 1, 16, 17, 18, 19, 20, 21, 22, 5, 23, 24, 25, 26, 27, 7, 28, 29, 30, 2, 3, 4, 6, 31, 32, 33, 34, 35, 36, 37, 38, 39, 40, 41, 42, 43, 44, 45, 46, 47, 48, 49, 50, 51, 52, 53, 54, 55, 56, 57, 58, 59, 60, 61, 62, 63, 64, 65, 66, 67, 68, 69, 70, 71, 72, 73, 74, 75, 76, 77, 78, 79, 80, 81, 82, 83, 84, 85, 86, 87, 88, 89, 90, 91, 92, 93, 94, 95, 96, 97, 98, 99, 100, 101, 102, 103, 104, 105, 106, 107, 108, 109, 110, 111, 112, 113, 114, 115, 116, 117, 118] (by decide +kernel) (by decide +kernel)
set_option maxRecDepth 20000 in
theorem gX9_slantsOf_X9_follow : GoodIn wsX9_slantsOf (wsV RX9 181 RX9 yX9_follow wsX9_follow) := goodIn_app (goodIn_of _ (by decide +kernel)) ggX9_slantsOf_X9_follow
theorem dX9_slantsOf_0 : decode cX9_slantsOf 0 = .ok (.iconst 0, 1) := by decide +kernel
theorem dX9_slantsOf_1 : decode cX9_slantsOf 1 = .ok (.istore 4, 2) := by decide +kernel
theorem dX9_slantsOf_3 : decode cX9_slantsOf 3 = .ok (.iconst 0, 1) := by decide +kernel
theorem dX9_slantsOf_4 : decode cX9_slantsOf 4 = .ok (.istore 5, 2) := by decide +kernel
theorem dX9_slantsOf_6 : decode cX9_slantsOf 6 = .ok (.iload 5, 2) := by decide +kernel
theorem dX9_slantsOf_8 : decode cX9_slantsOf 8 = .ok (.aload_n 0, 1) := by decide +kernel
theorem dX9_slantsOf_9 : decode cX9_slantsOf 9 = .ok (.iload_n 1, 1) := by decide +kernel
theorem dX9_slantsOf_10 : decode cX9_slantsOf 10 = .ok (.iconst 0, 1) := by decide +kernel
theorem dX9_slantsOf_11 : decode cX9_slantsOf 11 = .ok (.invokevirtual 105, 3) := by decide +kernel
theorem dX9_slantsOf_14 : decode cX9_slantsOf 14 = .ok (.if_icmp .ge 35, 3) := by decide +kernel
theorem dX9_slantsOf_17 : decode cX9_slantsOf 17 = .ok (.aload_n 0, 1) := by decide +kernel
theorem dX9_slantsOf_18 : decode cX9_slantsOf 18 = .ok (.iload_n 1, 1) := by decide +kernel
theorem dX9_slantsOf_19 : decode cX9_slantsOf 19 = .ok (.iload_n 2, 1) := by decide +kernel
theorem dX9_slantsOf_20 : decode cX9_slantsOf 20 = .ok (.iload 5, 2) := by decide +kernel
theorem dX9_slantsOf_22 : decode cX9_slantsOf 22 = .ok (.invokevirtual 181, 3) := by decide +kernel
theorem dX9_slantsOf_25 : decode cX9_slantsOf 25 = .ok (.iload 4, 2) := by decide +kernel
theorem dX9_slantsOf_27 : decode cX9_slantsOf 27 = .ok (.aload_n 0, 1) := by decide +kernel
theorem dX9_slantsOf_28 : decode cX9_slantsOf 28 = .ok (.getfield 156, 3) := by decide +kernel
theorem dX9_slantsOf_31 : decode cX9_slantsOf 31 = .ok (.iload_n 3, 1) := by decide +kernel
theorem dX9_slantsOf_32 : decode cX9_slantsOf 32 = .ok (.if_icmp .ne 7, 3) := by decide +kernel
theorem dX9_slantsOf_35 : decode cX9_slantsOf 35 = .ok (.iconst 1, 1) := by decide +kernel
theorem dX9_slantsOf_36 : decode cX9_slantsOf 36 = .ok (.goto 4, 3) := by decide +kernel
theorem dX9_slantsOf_39 : decode cX9_slantsOf 39 = .ok (.iconst 0, 1) := by decide +kernel
theorem dX9_slantsOf_40 : decode cX9_slantsOf 40 = .ok (.iadd, 1) := by decide +kernel
theorem dX9_slantsOf_41 : decode cX9_slantsOf 41 = .ok (.istore 4, 2) := by decide +kernel
theorem dX9_slantsOf_43 : decode cX9_slantsOf 43 = .ok (.iinc 5 1, 3) := by decide +kernel
theorem dX9_slantsOf_46 : decode cX9_slantsOf 46 = .ok (.goto (-40), 3) := by decide +kernel
theorem dX9_slantsOf_49 : decode cX9_slantsOf 49 = .ok (.iload 4, 2) := by decide +kernel
theorem dX9_slantsOf_51 : decode cX9_slantsOf 51 = .ok (.ireturn, 1) := by decide +kernel
set_option maxRecDepth 20000 in
theorem ggX9_slants_X9_isLayer : GoodIn wsX9_slants wsX9_isLayer := goodIn_r _ [5, 6, 7, 8, 4, 9, 10, 11, 12, 13, 95, 96, 97, 98, 99, 100, 101, 102, 103, 104, 105, 106, 107, 108, 109, 110, 111, 112, 113, 114, 115, 116, 117, 118, 119, 120, 121, 122, 123, 124, 125, 126, 127, 128, 129, 130, 131, 132, 133, 134, 135] (by decide +kernel) (by decide +kernel)
set_option maxRecDepth 20000 in
theorem gX9_slants_X9_isLayer : GoodIn wsX9_slants (wsV RX9 140 RX9 yX9_isLayer wsX9_isLayer) := goodIn_app (goodIn_of _ (by decide +kernel)) ggX9_slants_X9_isLayer
set_option maxRecDepth 20000 in
theorem ggX9_slants_X9_isEnd : GoodIn wsX9_slants wsX9_isEnd := goodIn_r _ [16, 17, 11, 12, 4, 13] (by decide +kernel) (by decide +kernel)
set_option maxRecDepth 20000 in
theorem gX9_slants_X9_isEnd : GoodIn wsX9_slants (va_wsS RX9 373 yX9_isEnd wsX9_isEnd) := goodIn_app (goodIn_of _ (by decide +kernel)) ggX9_slants_X9_isEnd
set_option maxRecDepth 20000 in
theorem ggX9_slants_X9_passes2 : GoodIn wsX9_slants wsX9_passes2 := goodIn_r _ [21, 22, 23, 24, 4, 25, 26, 95, 96, 97, 98, 99, 100, 101, 102, 103, 104, 105, 106, 107, 108, 109, 110, 111, 112, 113, 114, 115, 116, 117, 118, 119, 120, 121, 122, 123, 124, 125, 126, 127, 128, 129, 130, 131, 132, 133, 134, 135] (by decide +kernel) (by decide +kernel)
set_option maxRecDepth 20000 in
theorem gX9_slants_X9_passes2 : GoodIn wsX9_slants (wsV RX9 332 RX9 yX9_passes2 wsX9_passes2) := goodIn_app (goodIn_of _ (by decide +kernel)) ggX9_slants_X9_passes2
set_option maxRecDepth 20000 in
theorem ggX9_slants_X9_slantsOf : GoodIn wsX9_slants wsX9_slantsOf := goodIn_r _ [30, 31, 32, 33, 34, 4, 35, 10, 36, 37, 38, 39, 40, 41, 42, 43, 44, 45, 46, 47, 1, 2, 3, 5, 6, 7, 8, 9, 11, 12, 13, 48, 49, 50, 51, 52, 53, 54, 55, 56, 57, 58, 59, 60, 61, 62, 63, 64, 65, 66, 67, 68, 69, 70, 71, 72, 73, 74, 75, 76, 77, 78, 79, 80, 81, 82, 83, 84, 85, 86, 87, 88, 89, 90, 91, 92, 93, 94, 95, 96, 97, 98, 99, 100, 101, 102, 103, 104, 105, 106, 107, 108, 109, 110, 111, 112, 113, 114, 115, 116, 117, 118, 119, 120, 121, 122, 123, 124, 125, 126, 127, 128, 129, 130, 131, 132, 133, 134, 135] (by decide +kernel) (by decide +kernel)
set_option maxRecDepth 20000 in
theorem gX9_slants_X9_slantsOf : GoodIn wsX9_slants (wsV RX9 376 RX9 yX9_slantsOf wsX9_slantsOf) := goodIn_app (goodIn_of _ (by decide +kernel)) ggX9_slants_X9_slantsOf
theorem dX9_slants_0 : decode cX9_slants 0 = .ok (.aload_n 0, 1) := by decide +kernel
theorem dX9_slants_1 : decode cX9_slants 1 = .ok (.aload_n 0, 1) := by decide +kernel
theorem dX9_slants_2 : decode cX9_slants 2 = .ok (.iload_n 1, 1) := by decide +kernel
theorem dX9_slants_3 : decode cX9_slants 3 = .ok (.invokevirtual 140, 3) := by decide +kernel
theorem dX9_slants_6 : decode cX9_slants 6 = .ok (.iload_n 3, 1) := by decide +kernel
theorem dX9_slants_7 : decode cX9_slants 7 = .ok (.invokestatic 373, 3) := by decide +kernel
theorem dX9_slants_10 : decode cX9_slants 10 = .ok (.invokevirtual 332, 3) := by decide +kernel
theorem dX9_slants_13 : decode cX9_slants 13 = .ok (.ifCond .eq 13, 3) := by decide +kernel
theorem dX9_slants_16 : decode cX9_slants 16 = .ok (.aload_n 0, 1) := by decide +kernel
theorem dX9_slants_17 : decode cX9_slants 17 = .ok (.iload_n 1, 1) := by decide +kernel
theorem dX9_slants_18 : decode cX9_slants 18 = .ok (.iload_n 2, 1) := by decide +kernel
theorem dX9_slants_19 : decode cX9_slants 19 = .ok (.iload_n 3, 1) := by decide +kernel
theorem dX9_slants_20 : decode cX9_slants 20 = .ok (.invokevirtual 376, 3) := by decide +kernel
theorem dX9_slants_23 : decode cX9_slants 23 = .ok (.goto 4, 3) := by decide +kernel
theorem dX9_slants_26 : decode cX9_slants 26 = .ok (.iconst 0, 1) := by decide +kernel
theorem dX9_slants_27 : decode cX9_slants 27 = .ok (.ireturn, 1) := by decide +kernel
set_option maxRecDepth 20000 in
theorem ggX9_leastSlant_X9_isLayer : GoodIn wsX9_leastSlant wsX9_isLayer := goodIn_r _ [6, 7, 8, 9, 5, 10, 11, 12, 13, 14, 91, 92, 93, 94, 95, 96, 97, 98, 99, 100, 101, 102, 103, 104, 105, 106, 107, 108, 109, 110, 111, 112, 113, 114, 115, 116, 117, 118, 119, 120, 121, 122, 123, 124, 125, 126, 127, 128, 129, 130, 131] (by decide +kernel) (by decide +kernel)
set_option maxRecDepth 20000 in
theorem gX9_leastSlant_X9_isLayer : GoodIn wsX9_leastSlant (wsV RX9 140 RX9 yX9_isLayer wsX9_isLayer) := goodIn_app (goodIn_of _ (by decide +kernel)) ggX9_leastSlant_X9_isLayer
set_option maxRecDepth 20000 in
theorem ggX9_leastSlant_X9_isEnd : GoodIn wsX9_leastSlant wsX9_isEnd := goodIn_r _ [17, 18, 12, 13, 5, 14] (by decide +kernel) (by decide +kernel)
set_option maxRecDepth 20000 in
theorem gX9_leastSlant_X9_isEnd : GoodIn wsX9_leastSlant (va_wsS RX9 373 yX9_isEnd wsX9_isEnd) := goodIn_app (goodIn_of _ (by decide +kernel)) ggX9_leastSlant_X9_isEnd
set_option maxRecDepth 20000 in
theorem ggX9_leastSlant_X9_passes2 : GoodIn wsX9_leastSlant wsX9_passes2 := goodIn_r _ [22, 23, 24, 25, 5, 26, 27, 91, 92, 93, 94, 95, 96, 97, 98, 99, 100, 101, 102, 103, 104, 105, 106, 107, 108, 109, 110, 111, 112, 113, 114, 115, 116, 117, 118, 119, 120, 121, 122, 123, 124, 125, 126, 127, 128, 129, 130, 131] (by decide +kernel) (by decide +kernel)
set_option maxRecDepth 20000 in
theorem gX9_leastSlant_X9_passes2 : GoodIn wsX9_leastSlant (wsV RX9 332 RX9 yX9_passes2 wsX9_passes2) := goodIn_app (goodIn_of _ (by decide +kernel)) ggX9_leastSlant_X9_passes2
set_option maxRecDepth 20000 in
theorem ggX9_leastSlant_X9_ofLayer : GoodIn wsX9_leastSlant wsX9_ofLayer := goodIn_r _ [31, 11, 91, 92, 93, 94, 95, 96, 97, 98, 99, 100, 101, 102, 103, 104, 105, 106, 107, 108, 109, 110, 111, 112, 113, 114, 115, 116, 117, 118, 119, 120, 121, 122, 123, 124, 125, 126, 127, 128, 129, 130, 131] (by decide +kernel) (by decide +kernel)
set_option maxRecDepth 20000 in
theorem gX9_leastSlant_X9_ofLayer : GoodIn wsX9_leastSlant (wsV RX9 105 RX9 yX9_ofLayer wsX9_ofLayer) := goodIn_app (goodIn_of _ (by decide +kernel)) ggX9_leastSlant_X9_ofLayer
set_option maxRecDepth 20000 in
theorem ggX9_leastSlant_X9_follow : GoodIn wsX9_leastSlant wsX9_follow := goodIn_r _ [35, 36, 37, 38, 39, 1, 40, 41, 42, 43, 2, 3, 4, 5, 6, 7, 8, 9, 10, 11, 12, 13, 14, 28, 29, 30, 31, 44, 45, 46, 47, 48, 49, 50, 51, 52, 53, 54, 55, 56, 57, 58, 59, 60, 61, 62, 63, 64, 65, 66, 67, 68, 69, 70, 71, 72, 73, 74, 75, 76, 77, 78, 79, 80, 81, 82, 83, 84, 85, 86, 87, 88, 89, 90, 91, 92, 93, 94, 95, 96, 97, 98, 99, 100, 101, 102, 103, 104, 105, 106, 107, 108, 109, 110, 111, 112, 113, 114, 115, 116, 117, 118, 119, 120, 121, 122, 123, 124, 125, 126, 127, 128, 129, 130, 131] (by decide +kernel) (by decide +kernel)
set_option maxRecDepth 20000 in
theorem gX9_leastSlant_X9_follow : GoodIn wsX9_leastSlant (wsV RX9 181 RX9 yX9_follow wsX9_follow) := goodIn_app (goodIn_of _ (by decide +kernel)) ggX9_leastSlant_X9_follow
theorem dX9_leastSlant_0 : decode cX9_leastSlant 0 = .ok (.aload_n 0, 1) := by decide +kernel
theorem dX9_leastSlant_1 : decode cX9_leastSlant 1 = .ok (.aload_n 0, 1) := by decide +kernel
theorem dX9_leastSlant_2 : decode cX9_leastSlant 2 = .ok (.iload_n 1, 1) := by decide +kernel
theorem dX9_leastSlant_3 : decode cX9_leastSlant 3 = .ok (.invokevirtual 140, 3) := by decide +kernel
theorem dX9_leastSlant_6 : decode cX9_leastSlant 6 = .ok (.iload_n 3, 1) := by decide +kernel
theorem dX9_leastSlant_7 : decode cX9_leastSlant 7 = .ok (.invokestatic 373, 3) := by decide +kernel
theorem dX9_leastSlant_10 : decode cX9_leastSlant 10 = .ok (.invokevirtual 332, 3) := by decide +kernel
theorem dX9_leastSlant_13 : decode cX9_leastSlant 13 = .ok (.ifCond .ne 5, 3) := by decide +kernel
theorem dX9_leastSlant_16 : decode cX9_leastSlant 16 = .ok (.iconst 0, 1) := by decide +kernel
theorem dX9_leastSlant_17 : decode cX9_leastSlant 17 = .ok (.ireturn, 1) := by decide +kernel
theorem dX9_leastSlant_18 : decode cX9_leastSlant 18 = .ok (.iconst 0, 1) := by decide +kernel
theorem dX9_leastSlant_19 : decode cX9_leastSlant 19 = .ok (.istore 4, 2) := by decide +kernel
theorem dX9_leastSlant_21 : decode cX9_leastSlant 21 = .ok (.iload 4, 2) := by decide +kernel
theorem dX9_leastSlant_23 : decode cX9_leastSlant 23 = .ok (.aload_n 0, 1) := by decide +kernel
theorem dX9_leastSlant_24 : decode cX9_leastSlant 24 = .ok (.iload_n 1, 1) := by decide +kernel
theorem dX9_leastSlant_25 : decode cX9_leastSlant 25 = .ok (.iconst 0, 1) := by decide +kernel
theorem dX9_leastSlant_26 : decode cX9_leastSlant 26 = .ok (.invokevirtual 105, 3) := by decide +kernel
theorem dX9_leastSlant_29 : decode cX9_leastSlant 29 = .ok (.if_icmp .ge 28, 3) := by decide +kernel
theorem dX9_leastSlant_32 : decode cX9_leastSlant 32 = .ok (.aload_n 0, 1) := by decide +kernel
theorem dX9_leastSlant_33 : decode cX9_leastSlant 33 = .ok (.iload_n 1, 1) := by decide +kernel
theorem dX9_leastSlant_34 : decode cX9_leastSlant 34 = .ok (.iload_n 2, 1) := by decide +kernel
theorem dX9_leastSlant_35 : decode cX9_leastSlant 35 = .ok (.iload 4, 2) := by decide +kernel
theorem dX9_leastSlant_37 : decode cX9_leastSlant 37 = .ok (.invokevirtual 181, 3) := by decide +kernel
theorem dX9_leastSlant_40 : decode cX9_leastSlant 40 = .ok (.aload_n 0, 1) := by decide +kernel
theorem dX9_leastSlant_41 : decode cX9_leastSlant 41 = .ok (.getfield 156, 3) := by decide +kernel
theorem dX9_leastSlant_44 : decode cX9_leastSlant 44 = .ok (.iload_n 3, 1) := by decide +kernel
theorem dX9_leastSlant_45 : decode cX9_leastSlant 45 = .ok (.if_icmp .ne 6, 3) := by decide +kernel
theorem dX9_leastSlant_48 : decode cX9_leastSlant 48 = .ok (.iload 4, 2) := by decide +kernel
theorem dX9_leastSlant_50 : decode cX9_leastSlant 50 = .ok (.ireturn, 1) := by decide +kernel
theorem dX9_leastSlant_51 : decode cX9_leastSlant 51 = .ok (.iinc 4 1, 3) := by decide +kernel
theorem dX9_leastSlant_54 : decode cX9_leastSlant 54 = .ok (.goto (-33), 3) := by decide +kernel
theorem dX9_leastSlant_57 : decode cX9_leastSlant 57 = .ok (.iconst (-1), 1) := by decide +kernel
theorem dX9_leastSlant_58 : decode cX9_leastSlant 58 = .ok (.ireturn, 1) := by decide +kernel
set_option maxRecDepth 20000 in
theorem ggX9_slantFor_X9_isLayer : GoodIn wsX9_slantFor wsX9_isLayer := goodIn_r _ [13, 14, 15, 16, 12, 17, 18, 19, 20, 21, 94, 95, 96, 97, 98, 99, 100, 101, 102, 103, 104, 105, 106, 107, 108, 109, 110, 111, 112, 113, 114, 115, 116, 117, 118, 119, 120, 121, 122, 123, 124, 125, 126, 127, 128, 129, 130, 131, 132, 133, 134] (by decide +kernel) (by decide +kernel)
set_option maxRecDepth 20000 in
theorem gX9_slantFor_X9_isLayer : GoodIn wsX9_slantFor (wsV RX9 140 RX9 yX9_isLayer wsX9_isLayer) := goodIn_app (goodIn_of _ (by decide +kernel)) ggX9_slantFor_X9_isLayer
set_option maxRecDepth 20000 in
theorem ggX9_slantFor_X9_passes2 : GoodIn wsX9_slantFor wsX9_passes2 := goodIn_r _ [25, 26, 27, 28, 12, 29, 30, 94, 95, 96, 97, 98, 99, 100, 101, 102, 103, 104, 105, 106, 107, 108, 109, 110, 111, 112, 113, 114, 115, 116, 117, 118, 119, 120, 121, 122, 123, 124, 125, 126, 127, 128, 129, 130, 131, 132, 133, 134] (by decide +kernel) (by decide +kernel)
set_option maxRecDepth 20000 in
theorem gX9_slantFor_X9_passes2 : GoodIn wsX9_slantFor (wsV RX9 332 RX9 yX9_passes2 wsX9_passes2) := goodIn_app (goodIn_of _ (by decide +kernel)) ggX9_slantFor_X9_passes2
set_option maxRecDepth 20000 in
theorem ggX9_slantFor_X9_ofLayer : GoodIn wsX9_slantFor wsX9_ofLayer := goodIn_r _ [34, 18, 94, 95, 96, 97, 98, 99, 100, 101, 102, 103, 104, 105, 106, 107, 108, 109, 110, 111, 112, 113, 114, 115, 116, 117, 118, 119, 120, 121, 122, 123, 124, 125, 126, 127, 128, 129, 130, 131, 132, 133, 134] (by decide +kernel) (by decide +kernel)
set_option maxRecDepth 20000 in
theorem gX9_slantFor_X9_ofLayer : GoodIn wsX9_slantFor (wsV RX9 105 RX9 yX9_ofLayer wsX9_ofLayer) := goodIn_app (goodIn_of _ (by decide +kernel)) ggX9_slantFor_X9_ofLayer
set_option maxRecDepth 20000 in
theorem ggX9_slantFor_X9_follow : GoodIn wsX9_slantFor wsX9_follow := goodIn_r _ [38, 3, 39, 40, 41, 8, 42, 43, 44, 45, 9, 10, 11, 12, 13, 14, 15, 16, 17, 18, 19, 20, 21, 31, 32, 33, 34, 46, 47, 48, 49, 50, 51, 6, 52, 53, 54, 2, 55, 56, 57, 58, 59, 60, 61, 62, 63, 64, 65, 66, 67, 68, 69, 70, 71, 72, 73, 74, 75, 76, 77, 78, 79, 80, 81, 82, 83, 84, 85, 86, 87, 88, 89, 90, 94, 95, 96, 97, 98, 99, 100, 101, 102, 103, 104, 105, 106, 107, 108, 109, 110, 111, 112, 113, 114, 115, 116, 117, 118, 119, 120, 121, 122, 123, 124, 125, 126, 127, 128, 129, 130, 131, 132, 133, 134] (by decide +kernel) (by decide +kernel)
set_option maxRecDepth 20000 in
theorem gX9_slantFor_X9_follow : GoodIn wsX9_slantFor (wsV RX9 181 RX9 yX9_follow wsX9_follow) := goodIn_app (goodIn_of _ (by decide +kernel)) ggX9_slantFor_X9_follow
set_option maxRecDepth 20000 in
theorem ggX9_slantFor_X9_sumUp : GoodIn wsX9_slantFor wsX9_sumUp := goodIn_r _ [93] (by decide +kernel) (by decide +kernel)
set_option maxRecDepth 20000 in
theorem gX9_slantFor_X9_sumUp : GoodIn wsX9_slantFor (va_wsS RX9 343 yX9_sumUp wsX9_sumUp) := goodIn_app (goodIn_of _ (by decide +kernel)) ggX9_slantFor_X9_sumUp
theorem dX9_slantFor_0 : decode cX9_slantFor 0 = .ok (.aload_n 0, 1) := by decide +kernel
theorem dX9_slantFor_1 : decode cX9_slantFor 1 = .ok (.aload_n 0, 1) := by decide +kernel
theorem dX9_slantFor_2 : decode cX9_slantFor 2 = .ok (.iload_n 1, 1) := by decide +kernel
theorem dX9_slantFor_3 : decode cX9_slantFor 3 = .ok (.invokevirtual 140, 3) := by decide +kernel
theorem dX9_slantFor_6 : decode cX9_slantFor 6 = .ok (.iload_n 3, 1) := by decide +kernel
theorem dX9_slantFor_7 : decode cX9_slantFor 7 = .ok (.ifCond .lt 7, 3) := by decide +kernel
theorem dX9_slantFor_10 : decode cX9_slantFor 10 = .ok (.iconst 1, 1) := by decide +kernel
theorem dX9_slantFor_11 : decode cX9_slantFor 11 = .ok (.goto 4, 3) := by decide +kernel
theorem dX9_slantFor_14 : decode cX9_slantFor 14 = .ok (.iconst 0, 1) := by decide +kernel
theorem dX9_slantFor_15 : decode cX9_slantFor 15 = .ok (.invokevirtual 332, 3) := by decide +kernel
theorem dX9_slantFor_18 : decode cX9_slantFor 18 = .ok (.ifCond .ne 5, 3) := by decide +kernel
theorem dX9_slantFor_21 : decode cX9_slantFor 21 = .ok (.iconst 0, 1) := by decide +kernel
theorem dX9_slantFor_22 : decode cX9_slantFor 22 = .ok (.ireturn, 1) := by decide +kernel
theorem dX9_slantFor_23 : decode cX9_slantFor 23 = .ok (.iconst (-1), 1) := by decide +kernel
theorem dX9_slantFor_24 : decode cX9_slantFor 24 = .ok (.istore 4, 2) := by decide +kernel
theorem dX9_slantFor_26 : decode cX9_slantFor 26 = .ok (.ldc_w 382, 3) := by decide +kernel
theorem dX9_slantFor_29 : decode cX9_slantFor 29 = .ok (.istore 5, 2) := by decide +kernel
theorem dX9_slantFor_31 : decode cX9_slantFor 31 = .ok (.iconst 0, 1) := by decide +kernel
theorem dX9_slantFor_32 : decode cX9_slantFor 32 = .ok (.istore 6, 2) := by decide +kernel
theorem dX9_slantFor_34 : decode cX9_slantFor 34 = .ok (.iload 6, 2) := by decide +kernel
theorem dX9_slantFor_36 : decode cX9_slantFor 36 = .ok (.aload_n 0, 1) := by decide +kernel
theorem dX9_slantFor_37 : decode cX9_slantFor 37 = .ok (.iload_n 1, 1) := by decide +kernel
theorem dX9_slantFor_38 : decode cX9_slantFor 38 = .ok (.iconst 0, 1) := by decide +kernel
theorem dX9_slantFor_39 : decode cX9_slantFor 39 = .ok (.invokevirtual 105, 3) := by decide +kernel
theorem dX9_slantFor_42 : decode cX9_slantFor 42 = .ok (.if_icmp .ge 63, 3) := by decide +kernel
theorem dX9_slantFor_45 : decode cX9_slantFor 45 = .ok (.aload_n 0, 1) := by decide +kernel
theorem dX9_slantFor_46 : decode cX9_slantFor 46 = .ok (.iload_n 1, 1) := by decide +kernel
theorem dX9_slantFor_47 : decode cX9_slantFor 47 = .ok (.iload_n 2, 1) := by decide +kernel
theorem dX9_slantFor_48 : decode cX9_slantFor 48 = .ok (.iload 6, 2) := by decide +kernel
theorem dX9_slantFor_50 : decode cX9_slantFor 50 = .ok (.invokevirtual 181, 3) := by decide +kernel
theorem dX9_slantFor_53 : decode cX9_slantFor 53 = .ok (.aload_n 0, 1) := by decide +kernel
theorem dX9_slantFor_54 : decode cX9_slantFor 54 = .ok (.getfield 34, 3) := by decide +kernel
theorem dX9_slantFor_57 : decode cX9_slantFor 57 = .ok (.aload_n 0, 1) := by decide +kernel
theorem dX9_slantFor_58 : decode cX9_slantFor 58 = .ok (.getfield 131, 3) := by decide +kernel
theorem dX9_slantFor_61 : decode cX9_slantFor 61 = .ok (.invokestatic 343, 3) := by decide +kernel
theorem dX9_slantFor_64 : decode cX9_slantFor 64 = .ok (.iload_n 3, 1) := by decide +kernel
theorem dX9_slantFor_65 : decode cX9_slantFor 65 = .ok (.isub, 1) := by decide +kernel
theorem dX9_slantFor_66 : decode cX9_slantFor 66 = .ok (.invokestatic 383, 3) := by decide +kernel
theorem dX9_slantFor_69 : decode cX9_slantFor 69 = .ok (.istore 7, 2) := by decide +kernel
theorem dX9_slantFor_71 : decode cX9_slantFor 71 = .ok (.aload_n 0, 1) := by decide +kernel
theorem dX9_slantFor_72 : decode cX9_slantFor 72 = .ok (.getfield 156, 3) := by decide +kernel
theorem dX9_slantFor_75 : decode cX9_slantFor 75 = .ok (.ifCond .ne 24, 3) := by decide +kernel
theorem dX9_slantFor_78 : decode cX9_slantFor 78 = .ok (.iload 4, 2) := by decide +kernel
theorem dX9_slantFor_80 : decode cX9_slantFor 80 = .ok (.iconst (-1), 1) := by decide +kernel
theorem dX9_slantFor_81 : decode cX9_slantFor 81 = .ok (.if_icmp .eq 10, 3) := by decide +kernel
theorem dX9_slantFor_84 : decode cX9_slantFor 84 = .ok (.iload 7, 2) := by decide +kernel
theorem dX9_slantFor_86 : decode cX9_slantFor 86 = .ok (.iload 5, 2) := by decide +kernel
theorem dX9_slantFor_88 : decode cX9_slantFor 88 = .ok (.if_icmp .ge 11, 3) := by decide +kernel
theorem dX9_slantFor_91 : decode cX9_slantFor 91 = .ok (.iload 6, 2) := by decide +kernel
theorem dX9_slantFor_93 : decode cX9_slantFor 93 = .ok (.istore 4, 2) := by decide +kernel
theorem dX9_slantFor_95 : decode cX9_slantFor 95 = .ok (.iload 7, 2) := by decide +kernel
theorem dX9_slantFor_97 : decode cX9_slantFor 97 = .ok (.istore 5, 2) := by decide +kernel
theorem dX9_slantFor_99 : decode cX9_slantFor 99 = .ok (.iinc 6 1, 3) := by decide +kernel
theorem dX9_slantFor_102 : decode cX9_slantFor 102 = .ok (.goto (-68), 3) := by decide +kernel
theorem dX9_slantFor_105 : decode cX9_slantFor 105 = .ok (.iload 4, 2) := by decide +kernel
theorem dX9_slantFor_107 : decode cX9_slantFor 107 = .ok (.ireturn, 1) := by decide +kernel
set_option maxRecDepth 20000 in
theorem ggX9_fastest_X9_isLayer : GoodIn wsX9_fastest wsX9_isLayer := goodIn_r _ [8, 9, 10, 11, 7, 12, 13, 14, 15, 16, 94, 95, 96, 97, 98, 99, 100, 101, 102, 103, 104, 105, 106, 107, 108, 109, 110, 111, 112, 113, 114, 115, 116, 117, 118, 119, 120, 121, 122, 123, 124, 125, 126, 127, 128, 129, 130, 131, 132, 133, 134] (by decide +kernel) (by decide +kernel)
set_option maxRecDepth 20000 in
theorem gX9_fastest_X9_isLayer : GoodIn wsX9_fastest (wsV RX9 140 RX9 yX9_isLayer wsX9_isLayer) := goodIn_app (goodIn_of _ (by decide +kernel)) ggX9_fastest_X9_isLayer
set_option maxRecDepth 20000 in
theorem ggX9_fastest_X9_isEnd : GoodIn wsX9_fastest wsX9_isEnd := goodIn_r _ [19, 20, 14, 15, 7, 16] (by decide +kernel) (by decide +kernel)
set_option maxRecDepth 20000 in
theorem gX9_fastest_X9_isEnd : GoodIn wsX9_fastest (va_wsS RX9 373 yX9_isEnd wsX9_isEnd) := goodIn_app (goodIn_of _ (by decide +kernel)) ggX9_fastest_X9_isEnd
set_option maxRecDepth 20000 in
theorem ggX9_fastest_X9_passes2 : GoodIn wsX9_fastest wsX9_passes2 := goodIn_r _ [24, 25, 26, 27, 7, 28, 29, 94, 95, 96, 97, 98, 99, 100, 101, 102, 103, 104, 105, 106, 107, 108, 109, 110, 111, 112, 113, 114, 115, 116, 117, 118, 119, 120, 121, 122, 123, 124, 125, 126, 127, 128, 129, 130, 131, 132, 133, 134] (by decide +kernel) (by decide +kernel)
set_option maxRecDepth 20000 in
theorem gX9_fastest_X9_passes2 : GoodIn wsX9_fastest (wsV RX9 332 RX9 yX9_passes2 wsX9_passes2) := goodIn_app (goodIn_of _ (by decide +kernel)) ggX9_fastest_X9_passes2
set_option maxRecDepth 20000 in
theorem ggX9_fastest_X9_ofLayer : GoodIn wsX9_fastest wsX9_ofLayer := goodIn_r _ [33, 13, 94, 95, 96, 97, 98, 99, 100, 101, 102, 103, 104, 105, 106, 107, 108, 109, 110, 111, 112, 113, 114, 115, 116, 117, 118, 119, 120, 121, 122, 123, 124, 125, 126, 127, 128, 129, 130, 131, 132, 133, 134] (by decide +kernel) (by decide +kernel)
set_option maxRecDepth 20000 in
theorem gX9_fastest_X9_ofLayer : GoodIn wsX9_fastest (wsV RX9 105 RX9 yX9_ofLayer wsX9_ofLayer) := goodIn_app (goodIn_of _ (by decide +kernel)) ggX9_fastest_X9_ofLayer
set_option maxRecDepth 20000 in
theorem ggX9_fastest_X9_follow : GoodIn wsX9_fastest wsX9_follow := goodIn_r _ [37, 2, 38, 39, 40, 3, 41, 42, 43, 44, 4, 5, 6, 7, 8, 9, 10, 11, 12, 13, 14, 15, 16, 30, 31, 32, 33, 45, 46, 47, 48, 49, 50, 51, 52, 53, 54, 55, 56, 1, 57, 58, 59, 60, 61, 62, 63, 64, 65, 66, 67, 68, 69, 70, 71, 72, 73, 74, 75, 76, 77, 78, 79, 80, 81, 82, 83, 84, 85, 86, 87, 88, 89, 90, 94, 95, 96, 97, 98, 99, 100, 101, 102, 103, 104, 105, 106, 107, 108, 109, 110, 111, 112, 113, 114, 115, 116, 117, 118, 119, 120, 121, 122, 123, 124, 125, 126, 127, 128, 129, 130, 131, 132, 133, 134] (by decide +kernel) (by decide +kernel)
set_option maxRecDepth 20000 in
theorem gX9_fastest_X9_follow : GoodIn wsX9_fastest (wsV RX9 181 RX9 yX9_follow wsX9_follow) := goodIn_app (goodIn_of _ (by decide +kernel)) ggX9_fastest_X9_follow
set_option maxRecDepth 20000 in
theorem ggX9_fastest_X9_sumUp : GoodIn wsX9_fastest wsX9_sumUp := goodIn_r _ [93] (by decide +kernel) (by decide +kernel)
set_option maxRecDepth 20000 in
theorem gX9_fastest_X9_sumUp : GoodIn wsX9_fastest (va_wsS RX9 343 yX9_sumUp wsX9_sumUp) := goodIn_app (goodIn_of _ (by decide +kernel)) ggX9_fastest_X9_sumUp
theorem dX9_fastest_0 : decode cX9_fastest 0 = .ok (.aload_n 0, 1) := by decide +kernel
theorem dX9_fastest_1 : decode cX9_fastest 1 = .ok (.aload_n 0, 1) := by decide +kernel
theorem dX9_fastest_2 : decode cX9_fastest 2 = .ok (.iload_n 1, 1) := by decide +kernel
theorem dX9_fastest_3 : decode cX9_fastest 3 = .ok (.invokevirtual 140, 3) := by decide +kernel
theorem dX9_fastest_6 : decode cX9_fastest 6 = .ok (.iload_n 3, 1) := by decide +kernel
theorem dX9_fastest_7 : decode cX9_fastest 7 = .ok (.invokestatic 373, 3) := by decide +kernel
theorem dX9_fastest_10 : decode cX9_fastest 10 = .ok (.invokevirtual 332, 3) := by decide +kernel
theorem dX9_fastest_13 : decode cX9_fastest 13 = .ok (.ifCond .ne 5, 3) := by decide +kernel
theorem dX9_fastest_16 : decode cX9_fastest 16 = .ok (.iconst 0, 1) := by decide +kernel
theorem dX9_fastest_17 : decode cX9_fastest 17 = .ok (.ireturn, 1) := by decide +kernel
theorem dX9_fastest_18 : decode cX9_fastest 18 = .ok (.iconst (-1), 1) := by decide +kernel
theorem dX9_fastest_19 : decode cX9_fastest 19 = .ok (.istore 4, 2) := by decide +kernel
theorem dX9_fastest_21 : decode cX9_fastest 21 = .ok (.iconst 0, 1) := by decide +kernel
theorem dX9_fastest_22 : decode cX9_fastest 22 = .ok (.istore 5, 2) := by decide +kernel
theorem dX9_fastest_24 : decode cX9_fastest 24 = .ok (.iconst 0, 1) := by decide +kernel
theorem dX9_fastest_25 : decode cX9_fastest 25 = .ok (.istore 6, 2) := by decide +kernel
theorem dX9_fastest_27 : decode cX9_fastest 27 = .ok (.iload 6, 2) := by decide +kernel
theorem dX9_fastest_29 : decode cX9_fastest 29 = .ok (.aload_n 0, 1) := by decide +kernel
theorem dX9_fastest_30 : decode cX9_fastest 30 = .ok (.iload_n 1, 1) := by decide +kernel
theorem dX9_fastest_31 : decode cX9_fastest 31 = .ok (.iconst 0, 1) := by decide +kernel
theorem dX9_fastest_32 : decode cX9_fastest 32 = .ok (.invokevirtual 105, 3) := by decide +kernel
theorem dX9_fastest_35 : decode cX9_fastest 35 = .ok (.if_icmp .ge 59, 3) := by decide +kernel
theorem dX9_fastest_38 : decode cX9_fastest 38 = .ok (.aload_n 0, 1) := by decide +kernel
theorem dX9_fastest_39 : decode cX9_fastest 39 = .ok (.iload_n 1, 1) := by decide +kernel
theorem dX9_fastest_40 : decode cX9_fastest 40 = .ok (.iload_n 2, 1) := by decide +kernel
theorem dX9_fastest_41 : decode cX9_fastest 41 = .ok (.iload 6, 2) := by decide +kernel
theorem dX9_fastest_43 : decode cX9_fastest 43 = .ok (.invokevirtual 181, 3) := by decide +kernel
theorem dX9_fastest_46 : decode cX9_fastest 46 = .ok (.aload_n 0, 1) := by decide +kernel
theorem dX9_fastest_47 : decode cX9_fastest 47 = .ok (.getfield 40, 3) := by decide +kernel
theorem dX9_fastest_50 : decode cX9_fastest 50 = .ok (.aload_n 0, 1) := by decide +kernel
theorem dX9_fastest_51 : decode cX9_fastest 51 = .ok (.getfield 131, 3) := by decide +kernel
theorem dX9_fastest_54 : decode cX9_fastest 54 = .ok (.invokestatic 343, 3) := by decide +kernel
theorem dX9_fastest_57 : decode cX9_fastest 57 = .ok (.istore 7, 2) := by decide +kernel
theorem dX9_fastest_59 : decode cX9_fastest 59 = .ok (.aload_n 0, 1) := by decide +kernel
theorem dX9_fastest_60 : decode cX9_fastest 60 = .ok (.getfield 156, 3) := by decide +kernel
theorem dX9_fastest_63 : decode cX9_fastest 63 = .ok (.iload_n 3, 1) := by decide +kernel
theorem dX9_fastest_64 : decode cX9_fastest 64 = .ok (.if_icmp .ne 24, 3) := by decide +kernel
theorem dX9_fastest_67 : decode cX9_fastest 67 = .ok (.iload 4, 2) := by decide +kernel
theorem dX9_fastest_69 : decode cX9_fastest 69 = .ok (.iconst (-1), 1) := by decide +kernel
theorem dX9_fastest_70 : decode cX9_fastest 70 = .ok (.if_icmp .eq 10, 3) := by decide +kernel
theorem dX9_fastest_73 : decode cX9_fastest 73 = .ok (.iload 7, 2) := by decide +kernel
theorem dX9_fastest_75 : decode cX9_fastest 75 = .ok (.iload 5, 2) := by decide +kernel
theorem dX9_fastest_77 : decode cX9_fastest 77 = .ok (.if_icmp .ge 11, 3) := by decide +kernel
theorem dX9_fastest_80 : decode cX9_fastest 80 = .ok (.iload 6, 2) := by decide +kernel
theorem dX9_fastest_82 : decode cX9_fastest 82 = .ok (.istore 4, 2) := by decide +kernel
theorem dX9_fastest_84 : decode cX9_fastest 84 = .ok (.iload 7, 2) := by decide +kernel
theorem dX9_fastest_86 : decode cX9_fastest 86 = .ok (.istore 5, 2) := by decide +kernel
theorem dX9_fastest_88 : decode cX9_fastest 88 = .ok (.iinc 6 1, 3) := by decide +kernel
theorem dX9_fastest_91 : decode cX9_fastest 91 = .ok (.goto (-64), 3) := by decide +kernel
theorem dX9_fastest_94 : decode cX9_fastest 94 = .ok (.iload 4, 2) := by decide +kernel
theorem dX9_fastest_96 : decode cX9_fastest 96 = .ok (.ireturn, 1) := by decide +kernel
set_option maxRecDepth 20000 in
theorem ggX9_brightest_X9_isLayer : GoodIn wsX9_brightest wsX9_isLayer := goodIn_r _ [8, 9, 10, 11, 7, 12, 13, 14, 15, 16, 92, 93, 94, 95, 96, 97, 98, 99, 100, 101, 102, 103, 104, 105, 106, 107, 108, 109, 110, 111, 112, 113, 114, 115, 116, 117, 118, 119, 120, 121, 122, 123, 124, 125, 126, 127, 128, 129, 130, 131, 132] (by decide +kernel) (by decide +kernel)
set_option maxRecDepth 20000 in
theorem gX9_brightest_X9_isLayer : GoodIn wsX9_brightest (wsV RX9 140 RX9 yX9_isLayer wsX9_isLayer) := goodIn_app (goodIn_of _ (by decide +kernel)) ggX9_brightest_X9_isLayer
set_option maxRecDepth 20000 in
theorem ggX9_brightest_X9_isEnd : GoodIn wsX9_brightest wsX9_isEnd := goodIn_r _ [19, 20, 14, 15, 7, 16] (by decide +kernel) (by decide +kernel)
set_option maxRecDepth 20000 in
theorem gX9_brightest_X9_isEnd : GoodIn wsX9_brightest (va_wsS RX9 373 yX9_isEnd wsX9_isEnd) := goodIn_app (goodIn_of _ (by decide +kernel)) ggX9_brightest_X9_isEnd
set_option maxRecDepth 20000 in
theorem ggX9_brightest_X9_passes2 : GoodIn wsX9_brightest wsX9_passes2 := goodIn_r _ [24, 25, 26, 27, 7, 28, 29, 92, 93, 94, 95, 96, 97, 98, 99, 100, 101, 102, 103, 104, 105, 106, 107, 108, 109, 110, 111, 112, 113, 114, 115, 116, 117, 118, 119, 120, 121, 122, 123, 124, 125, 126, 127, 128, 129, 130, 131, 132] (by decide +kernel) (by decide +kernel)
set_option maxRecDepth 20000 in
theorem gX9_brightest_X9_passes2 : GoodIn wsX9_brightest (wsV RX9 332 RX9 yX9_passes2 wsX9_passes2) := goodIn_app (goodIn_of _ (by decide +kernel)) ggX9_brightest_X9_passes2
set_option maxRecDepth 20000 in
theorem ggX9_brightest_X9_ofLayer : GoodIn wsX9_brightest wsX9_ofLayer := goodIn_r _ [33, 13, 92, 93, 94, 95, 96, 97, 98, 99, 100, 101, 102, 103, 104, 105, 106, 107, 108, 109, 110, 111, 112, 113, 114, 115, 116, 117, 118, 119, 120, 121, 122, 123, 124, 125, 126, 127, 128, 129, 130, 131, 132] (by decide +kernel) (by decide +kernel)
set_option maxRecDepth 20000 in
theorem gX9_brightest_X9_ofLayer : GoodIn wsX9_brightest (wsV RX9 105 RX9 yX9_ofLayer wsX9_ofLayer) := goodIn_app (goodIn_of _ (by decide +kernel)) ggX9_brightest_X9_ofLayer
set_option maxRecDepth 20000 in
theorem ggX9_brightest_X9_follow : GoodIn wsX9_brightest wsX9_follow := goodIn_r _ [37, 38, 39, 40, 3, 2, 41, 42, 43, 44, 4, 5, 6, 7, 8, 9, 10, 11, 12, 13, 14, 15, 16, 30, 31, 32, 33, 45, 46, 47, 48, 49, 50, 51, 52, 53, 54, 55, 56, 57, 58, 59, 60, 61, 62, 63, 64, 65, 66, 67, 68, 69, 70, 71, 72, 73, 74, 75, 76, 77, 78, 79, 80, 81, 82, 83, 84, 85, 86, 87, 88, 89, 90, 91, 92, 93, 94, 95, 96, 97, 98, 99, 100, 101, 102, 103, 104, 105, 106, 107, 108, 109, 110, 111, 112, 113, 114, 115, 116, 117, 118, 119, 120, 121, 122, 123, 124, 125, 126, 127, 128, 129, 130, 131, 132] (by decide +kernel) (by decide +kernel)
set_option maxRecDepth 20000 in
theorem gX9_brightest_X9_follow : GoodIn wsX9_brightest (wsV RX9 181 RX9 yX9_follow wsX9_follow) := goodIn_app (goodIn_of _ (by decide +kernel)) ggX9_brightest_X9_follow
theorem dX9_brightest_0 : decode cX9_brightest 0 = .ok (.aload_n 0, 1) := by decide +kernel
theorem dX9_brightest_1 : decode cX9_brightest 1 = .ok (.aload_n 0, 1) := by decide +kernel
theorem dX9_brightest_2 : decode cX9_brightest 2 = .ok (.iload_n 1, 1) := by decide +kernel
theorem dX9_brightest_3 : decode cX9_brightest 3 = .ok (.invokevirtual 140, 3) := by decide +kernel
theorem dX9_brightest_6 : decode cX9_brightest 6 = .ok (.iload_n 3, 1) := by decide +kernel
theorem dX9_brightest_7 : decode cX9_brightest 7 = .ok (.invokestatic 373, 3) := by decide +kernel
theorem dX9_brightest_10 : decode cX9_brightest 10 = .ok (.invokevirtual 332, 3) := by decide +kernel
theorem dX9_brightest_13 : decode cX9_brightest 13 = .ok (.ifCond .ne 5, 3) := by decide +kernel
theorem dX9_brightest_16 : decode cX9_brightest 16 = .ok (.iconst 0, 1) := by decide +kernel
theorem dX9_brightest_17 : decode cX9_brightest 17 = .ok (.ireturn, 1) := by decide +kernel
theorem dX9_brightest_18 : decode cX9_brightest 18 = .ok (.iconst (-1), 1) := by decide +kernel
theorem dX9_brightest_19 : decode cX9_brightest 19 = .ok (.istore 4, 2) := by decide +kernel
theorem dX9_brightest_21 : decode cX9_brightest 21 = .ok (.ldc2_w 386, 3) := by decide +kernel
theorem dX9_brightest_24 : decode cX9_brightest 24 = .ok (.lstore 5, 2) := by decide +kernel
theorem dX9_brightest_26 : decode cX9_brightest 26 = .ok (.iconst 0, 1) := by decide +kernel
theorem dX9_brightest_27 : decode cX9_brightest 27 = .ok (.istore 7, 2) := by decide +kernel
theorem dX9_brightest_29 : decode cX9_brightest 29 = .ok (.iload 7, 2) := by decide +kernel
theorem dX9_brightest_31 : decode cX9_brightest 31 = .ok (.aload_n 0, 1) := by decide +kernel
theorem dX9_brightest_32 : decode cX9_brightest 32 = .ok (.iload_n 1, 1) := by decide +kernel
theorem dX9_brightest_33 : decode cX9_brightest 33 = .ok (.iconst 0, 1) := by decide +kernel
theorem dX9_brightest_34 : decode cX9_brightest 34 = .ok (.invokevirtual 105, 3) := by decide +kernel
theorem dX9_brightest_37 : decode cX9_brightest 37 = .ok (.if_icmp .ge 45, 3) := by decide +kernel
theorem dX9_brightest_40 : decode cX9_brightest 40 = .ok (.aload_n 0, 1) := by decide +kernel
theorem dX9_brightest_41 : decode cX9_brightest 41 = .ok (.iload_n 1, 1) := by decide +kernel
theorem dX9_brightest_42 : decode cX9_brightest 42 = .ok (.iload_n 2, 1) := by decide +kernel
theorem dX9_brightest_43 : decode cX9_brightest 43 = .ok (.iload 7, 2) := by decide +kernel
theorem dX9_brightest_45 : decode cX9_brightest 45 = .ok (.invokevirtual 181, 3) := by decide +kernel
theorem dX9_brightest_48 : decode cX9_brightest 48 = .ok (.aload_n 0, 1) := by decide +kernel
theorem dX9_brightest_49 : decode cX9_brightest 49 = .ok (.getfield 156, 3) := by decide +kernel
theorem dX9_brightest_52 : decode cX9_brightest 52 = .ok (.iload_n 3, 1) := by decide +kernel
theorem dX9_brightest_53 : decode cX9_brightest 53 = .ok (.if_icmp .ne 23, 3) := by decide +kernel
theorem dX9_brightest_56 : decode cX9_brightest 56 = .ok (.aload_n 0, 1) := by decide +kernel
theorem dX9_brightest_57 : decode cX9_brightest 57 = .ok (.getfield 119, 3) := by decide +kernel
theorem dX9_brightest_60 : decode cX9_brightest 60 = .ok (.lload 5, 2) := by decide +kernel
theorem dX9_brightest_62 : decode cX9_brightest 62 = .ok (.lcmp, 1) := by decide +kernel
theorem dX9_brightest_63 : decode cX9_brightest 63 = .ok (.ifCond .le 13, 3) := by decide +kernel
theorem dX9_brightest_66 : decode cX9_brightest 66 = .ok (.iload 7, 2) := by decide +kernel
theorem dX9_brightest_68 : decode cX9_brightest 68 = .ok (.istore 4, 2) := by decide +kernel
theorem dX9_brightest_70 : decode cX9_brightest 70 = .ok (.aload_n 0, 1) := by decide +kernel
theorem dX9_brightest_71 : decode cX9_brightest 71 = .ok (.getfield 119, 3) := by decide +kernel
theorem dX9_brightest_74 : decode cX9_brightest 74 = .ok (.lstore 5, 2) := by decide +kernel
theorem dX9_brightest_76 : decode cX9_brightest 76 = .ok (.iinc 7 1, 3) := by decide +kernel
theorem dX9_brightest_79 : decode cX9_brightest 79 = .ok (.goto (-50), 3) := by decide +kernel
theorem dX9_brightest_82 : decode cX9_brightest 82 = .ok (.iload 4, 2) := by decide +kernel
theorem dX9_brightest_84 : decode cX9_brightest 84 = .ok (.ireturn, 1) := by decide +kernel
set_option maxRecDepth 20000 in
theorem ggX9_farthest_X9_isLayer : GoodIn wsX9_farthest wsX9_isLayer := goodIn_r _ [12, 13, 14, 15, 11, 16, 17, 18, 19, 20, 97, 98, 99, 100, 101, 102, 103, 104, 105, 106, 107, 108, 109, 110, 111, 112, 113, 114, 115, 116, 117, 118, 119, 120, 121, 122, 123, 124, 125, 126, 127, 128, 129, 130, 131, 132, 133, 134, 135, 136, 137] (by decide +kernel) (by decide +kernel)
set_option maxRecDepth 20000 in
theorem gX9_farthest_X9_isLayer : GoodIn wsX9_farthest (wsV RX9 140 RX9 yX9_isLayer wsX9_isLayer) := goodIn_app (goodIn_of _ (by decide +kernel)) ggX9_farthest_X9_isLayer
set_option maxRecDepth 20000 in
theorem ggX9_farthest_X9_isEnd : GoodIn wsX9_farthest wsX9_isEnd := goodIn_r _ [23, 24, 18, 19, 11, 20] (by decide +kernel) (by decide +kernel)
set_option maxRecDepth 20000 in
theorem gX9_farthest_X9_isEnd : GoodIn wsX9_farthest (va_wsS RX9 373 yX9_isEnd wsX9_isEnd) := goodIn_app (goodIn_of _ (by decide +kernel)) ggX9_farthest_X9_isEnd
set_option maxRecDepth 20000 in
theorem ggX9_farthest_X9_passes2 : GoodIn wsX9_farthest wsX9_passes2 := goodIn_r _ [28, 29, 30, 31, 11, 32, 33, 97, 98, 99, 100, 101, 102, 103, 104, 105, 106, 107, 108, 109, 110, 111, 112, 113, 114, 115, 116, 117, 118, 119, 120, 121, 122, 123, 124, 125, 126, 127, 128, 129, 130, 131, 132, 133, 134, 135, 136, 137] (by decide +kernel) (by decide +kernel)
set_option maxRecDepth 20000 in
theorem gX9_farthest_X9_passes2 : GoodIn wsX9_farthest (wsV RX9 332 RX9 yX9_passes2 wsX9_passes2) := goodIn_app (goodIn_of _ (by decide +kernel)) ggX9_farthest_X9_passes2
set_option maxRecDepth 20000 in
theorem ggX9_farthest_X9_ofLayer : GoodIn wsX9_farthest wsX9_ofLayer := goodIn_r _ [37, 17, 97, 98, 99, 100, 101, 102, 103, 104, 105, 106, 107, 108, 109, 110, 111, 112, 113, 114, 115, 116, 117, 118, 119, 120, 121, 122, 123, 124, 125, 126, 127, 128, 129, 130, 131, 132, 133, 134, 135, 136, 137] (by decide +kernel) (by decide +kernel)
set_option maxRecDepth 20000 in
theorem gX9_farthest_X9_ofLayer : GoodIn wsX9_farthest (wsV RX9 105 RX9 yX9_ofLayer wsX9_ofLayer) := goodIn_app (goodIn_of _ (by decide +kernel)) ggX9_farthest_X9_ofLayer
set_option maxRecDepth 20000 in
theorem ggX9_farthest_X9_follow : GoodIn wsX9_farthest wsX9_follow := goodIn_r _ [41, 3, 42, 43, 44, 1, 45, 46, 47, 48, 8, 9, 10, 11, 12, 13, 14, 15, 16, 17, 18, 19, 20, 34, 35, 36, 37, 49, 50, 51, 52, 53, 54, 6, 55, 56, 57, 2, 58, 59, 60, 61, 62, 63, 64, 65, 66, 67, 68, 69, 70, 71, 72, 73, 74, 75, 76, 77, 78, 79, 80, 81, 82, 83, 84, 85, 86, 87, 88, 89, 90, 91, 92, 93, 97, 98, 99, 100, 101, 102, 103, 104, 105, 106, 107, 108, 109, 110, 111, 112, 113, 114, 115, 116, 117, 118, 119, 120, 121, 122, 123, 124, 125, 126, 127, 128, 129, 130, 131, 132, 133, 134, 135, 136, 137] (by decide +kernel) (by decide +kernel)
set_option maxRecDepth 20000 in
theorem gX9_farthest_X9_follow : GoodIn wsX9_farthest (wsV RX9 181 RX9 yX9_follow wsX9_follow) := goodIn_app (goodIn_of _ (by decide +kernel)) ggX9_farthest_X9_follow
set_option maxRecDepth 20000 in
theorem ggX9_farthest_X9_sumUp : GoodIn wsX9_farthest wsX9_sumUp := goodIn_r _ [96] (by decide +kernel) (by decide +kernel)
set_option maxRecDepth 20000 in
theorem gX9_farthest_X9_sumUp : GoodIn wsX9_farthest (va_wsS RX9 343 yX9_sumUp wsX9_sumUp) := goodIn_app (goodIn_of _ (by decide +kernel)) ggX9_farthest_X9_sumUp
theorem dX9_farthest_0 : decode cX9_farthest 0 = .ok (.aload_n 0, 1) := by decide +kernel
theorem dX9_farthest_1 : decode cX9_farthest 1 = .ok (.aload_n 0, 1) := by decide +kernel
theorem dX9_farthest_2 : decode cX9_farthest 2 = .ok (.iload_n 1, 1) := by decide +kernel
theorem dX9_farthest_3 : decode cX9_farthest 3 = .ok (.invokevirtual 140, 3) := by decide +kernel
theorem dX9_farthest_6 : decode cX9_farthest 6 = .ok (.iload_n 3, 1) := by decide +kernel
theorem dX9_farthest_7 : decode cX9_farthest 7 = .ok (.invokestatic 373, 3) := by decide +kernel
theorem dX9_farthest_10 : decode cX9_farthest 10 = .ok (.invokevirtual 332, 3) := by decide +kernel
theorem dX9_farthest_13 : decode cX9_farthest 13 = .ok (.ifCond .ne 5, 3) := by decide +kernel
theorem dX9_farthest_16 : decode cX9_farthest 16 = .ok (.iconst 0, 1) := by decide +kernel
theorem dX9_farthest_17 : decode cX9_farthest 17 = .ok (.ireturn, 1) := by decide +kernel
theorem dX9_farthest_18 : decode cX9_farthest 18 = .ok (.iconst (-1), 1) := by decide +kernel
theorem dX9_farthest_19 : decode cX9_farthest 19 = .ok (.istore 4, 2) := by decide +kernel
theorem dX9_farthest_21 : decode cX9_farthest 21 = .ok (.iconst 0, 1) := by decide +kernel
theorem dX9_farthest_22 : decode cX9_farthest 22 = .ok (.istore 5, 2) := by decide +kernel
theorem dX9_farthest_24 : decode cX9_farthest 24 = .ok (.iload 5, 2) := by decide +kernel
theorem dX9_farthest_26 : decode cX9_farthest 26 = .ok (.aload_n 0, 1) := by decide +kernel
theorem dX9_farthest_27 : decode cX9_farthest 27 = .ok (.iload_n 1, 1) := by decide +kernel
theorem dX9_farthest_28 : decode cX9_farthest 28 = .ok (.iconst 0, 1) := by decide +kernel
theorem dX9_farthest_29 : decode cX9_farthest 29 = .ok (.invokevirtual 105, 3) := by decide +kernel
theorem dX9_farthest_32 : decode cX9_farthest 32 = .ok (.if_icmp .ge 48, 3) := by decide +kernel
theorem dX9_farthest_35 : decode cX9_farthest 35 = .ok (.aload_n 0, 1) := by decide +kernel
theorem dX9_farthest_36 : decode cX9_farthest 36 = .ok (.iload_n 1, 1) := by decide +kernel
theorem dX9_farthest_37 : decode cX9_farthest 37 = .ok (.iload_n 2, 1) := by decide +kernel
theorem dX9_farthest_38 : decode cX9_farthest 38 = .ok (.iload 5, 2) := by decide +kernel
theorem dX9_farthest_40 : decode cX9_farthest 40 = .ok (.invokevirtual 181, 3) := by decide +kernel
theorem dX9_farthest_43 : decode cX9_farthest 43 = .ok (.aload_n 0, 1) := by decide +kernel
theorem dX9_farthest_44 : decode cX9_farthest 44 = .ok (.getfield 156, 3) := by decide +kernel
theorem dX9_farthest_47 : decode cX9_farthest 47 = .ok (.iload_n 3, 1) := by decide +kernel
theorem dX9_farthest_48 : decode cX9_farthest 48 = .ok (.if_icmp .ne 22, 3) := by decide +kernel
theorem dX9_farthest_51 : decode cX9_farthest 51 = .ok (.iload 4, 2) := by decide +kernel
theorem dX9_farthest_53 : decode cX9_farthest 53 = .ok (.aload_n 0, 1) := by decide +kernel
theorem dX9_farthest_54 : decode cX9_farthest 54 = .ok (.getfield 34, 3) := by decide +kernel
theorem dX9_farthest_57 : decode cX9_farthest 57 = .ok (.aload_n 0, 1) := by decide +kernel
theorem dX9_farthest_58 : decode cX9_farthest 58 = .ok (.getfield 131, 3) := by decide +kernel
theorem dX9_farthest_61 : decode cX9_farthest 61 = .ok (.invokestatic 343, 3) := by decide +kernel
theorem dX9_farthest_64 : decode cX9_farthest 64 = .ok (.invokestatic 188, 3) := by decide +kernel
theorem dX9_farthest_67 : decode cX9_farthest 67 = .ok (.goto 5, 3) := by decide +kernel
theorem dX9_farthest_70 : decode cX9_farthest 70 = .ok (.iload 4, 2) := by decide +kernel
theorem dX9_farthest_72 : decode cX9_farthest 72 = .ok (.istore 4, 2) := by decide +kernel
theorem dX9_farthest_74 : decode cX9_farthest 74 = .ok (.iinc 5 1, 3) := by decide +kernel
theorem dX9_farthest_77 : decode cX9_farthest 77 = .ok (.goto (-53), 3) := by decide +kernel
theorem dX9_farthest_80 : decode cX9_farthest 80 = .ok (.iload 4, 2) := by decide +kernel
theorem dX9_farthest_82 : decode cX9_farthest 82 = .ok (.ireturn, 1) := by decide +kernel
set_option maxRecDepth 20000 in
theorem ggX9_guide_X9_layers : GoodIn wsX9_guide wsX9_layers := goodIn_r _ [10, 11, 86, 87, 88, 89, 90, 91, 92, 93, 94, 95, 96, 97, 98, 99, 100, 101, 102, 103, 104, 105, 106, 107, 108, 109, 110, 111, 112, 113, 114, 115, 116, 117, 118, 119, 120, 121, 122, 123, 124, 125, 126] (by decide +kernel) (by decide +kernel)
set_option maxRecDepth 20000 in
theorem gX9_guide_X9_layers : GoodIn wsX9_guide (wsV RX9 90 RX9 yX9_layers wsX9_layers) := goodIn_app (goodIn_of _ (by decide +kernel)) ggX9_guide_X9_layers
set_option maxRecDepth 20000 in
theorem ggX9_guide_X9_slantsOf : GoodIn wsX9_guide wsX9_slantsOf := goodIn_r _ [15, 16, 17, 18, 19, 9, 20, 11, 21, 22, 23, 24, 25, 26, 27, 28, 29, 30, 31, 32, 33, 34, 35, 36, 6, 7, 8, 10, 37, 38, 39, 40, 41, 42, 43, 44, 45, 4, 46, 47, 48, 49, 50, 51, 52, 53, 54, 55, 56, 57, 58, 59, 60, 61, 62, 63, 64, 65, 66, 67, 68, 69, 70, 71, 72, 73, 74, 75, 76, 77, 78, 79, 80, 81, 82, 83, 84, 85, 86, 87, 88, 89, 90, 91, 92, 93, 94, 95, 96, 97, 98, 99, 100, 101, 102, 103, 104, 105, 106, 107, 108, 109, 110, 111, 112, 113, 114, 115, 116, 117, 118, 119, 120, 121, 122, 123, 124, 125, 126] (by decide +kernel) (by decide +kernel)
set_option maxRecDepth 20000 in
theorem gX9_guide_X9_slantsOf : GoodIn wsX9_guide (wsV RX9 376 RX9 yX9_slantsOf wsX9_slantsOf) := goodIn_app (goodIn_of _ (by decide +kernel)) ggX9_guide_X9_slantsOf
theorem dX9_guide_0 : decode cX9_guide 0 = .ok (.aload_n 0, 1) := by decide +kernel
theorem dX9_guide_1 : decode cX9_guide 1 = .ok (.iconst 0, 1) := by decide +kernel
theorem dX9_guide_2 : decode cX9_guide 2 = .ok (.putfield 3, 3) := by decide +kernel
theorem dX9_guide_5 : decode cX9_guide 5 = .ok (.iconst (-1), 1) := by decide +kernel
theorem dX9_guide_6 : decode cX9_guide 6 = .ok (.istore_n 1, 1) := by decide +kernel
theorem dX9_guide_7 : decode cX9_guide 7 = .ok (.iconst 0, 1) := by decide +kernel
theorem dX9_guide_8 : decode cX9_guide 8 = .ok (.istore_n 2, 1) := by decide +kernel
theorem dX9_guide_9 : decode cX9_guide 9 = .ok (.iconst 0, 1) := by decide +kernel
theorem dX9_guide_10 : decode cX9_guide 10 = .ok (.istore_n 3, 1) := by decide +kernel
theorem dX9_guide_11 : decode cX9_guide 11 = .ok (.iload_n 3, 1) := by decide +kernel
theorem dX9_guide_12 : decode cX9_guide 12 = .ok (.aload_n 0, 1) := by decide +kernel
theorem dX9_guide_13 : decode cX9_guide 13 = .ok (.invokevirtual 90, 3) := by decide +kernel
theorem dX9_guide_16 : decode cX9_guide 16 = .ok (.if_icmp .ge 37, 3) := by decide +kernel
theorem dX9_guide_19 : decode cX9_guide 19 = .ok (.aload_n 0, 1) := by decide +kernel
theorem dX9_guide_20 : decode cX9_guide 20 = .ok (.iload_n 3, 1) := by decide +kernel
theorem dX9_guide_21 : decode cX9_guide 21 = .ok (.iconst 1, 1) := by decide +kernel
theorem dX9_guide_22 : decode cX9_guide 22 = .ok (.iconst 3, 1) := by decide +kernel
theorem dX9_guide_23 : decode cX9_guide 23 = .ok (.invokevirtual 376, 3) := by decide +kernel
theorem dX9_guide_26 : decode cX9_guide 26 = .ok (.istore 4, 2) := by decide +kernel
theorem dX9_guide_28 : decode cX9_guide 28 = .ok (.iload 4, 2) := by decide +kernel
theorem dX9_guide_30 : decode cX9_guide 30 = .ok (.iload_n 2, 1) := by decide +kernel
theorem dX9_guide_31 : decode cX9_guide 31 = .ok (.if_icmp .le 7, 3) := by decide +kernel
theorem dX9_guide_34 : decode cX9_guide 34 = .ok (.iload_n 3, 1) := by decide +kernel
theorem dX9_guide_35 : decode cX9_guide 35 = .ok (.goto 4, 3) := by decide +kernel
theorem dX9_guide_38 : decode cX9_guide 38 = .ok (.iload_n 1, 1) := by decide +kernel
theorem dX9_guide_39 : decode cX9_guide 39 = .ok (.istore_n 1, 1) := by decide +kernel
theorem dX9_guide_40 : decode cX9_guide 40 = .ok (.iload_n 2, 1) := by decide +kernel
theorem dX9_guide_41 : decode cX9_guide 41 = .ok (.iload 4, 2) := by decide +kernel
theorem dX9_guide_43 : decode cX9_guide 43 = .ok (.invokestatic 188, 3) := by decide +kernel
theorem dX9_guide_46 : decode cX9_guide 46 = .ok (.istore_n 2, 1) := by decide +kernel
theorem dX9_guide_47 : decode cX9_guide 47 = .ok (.iinc 3 1, 3) := by decide +kernel
theorem dX9_guide_50 : decode cX9_guide 50 = .ok (.goto (-39), 3) := by decide +kernel
theorem dX9_guide_53 : decode cX9_guide 53 = .ok (.iload_n 1, 1) := by decide +kernel
theorem dX9_guide_54 : decode cX9_guide 54 = .ok (.ireturn, 1) := by decide +kernel
set_option maxRecDepth 20000 in
theorem ggX9_count_X9_in : GoodIn wsX9_count wsX9_in := goodIn_r _ [5] (by decide +kernel) (by decide +kernel)
set_option maxRecDepth 20000 in
theorem gX9_count_X9_in : GoodIn wsX9_count (va_wsS RX9 94 yX9_in wsX9_in) := goodIn_app (goodIn_of _ (by decide +kernel)) ggX9_count_X9_in
set_option maxRecDepth 20000 in
theorem ggX9_count_X9_passes : GoodIn wsX9_count wsX9_passes := goodIn_r _ [9, 10, 11, 12, 4, 13, 14, 104, 105, 106, 107, 108, 109, 110, 111, 112, 113, 114, 115, 116, 117, 118, 119, 120, 121, 122, 123, 124, 125, 126, 127, 128, 129, 130, 131, 132, 133, 134, 135, 136, 137, 138, 139, 140, 141, 142, 143, 144] (by decide +kernel) (by decide +kernel)
set_option maxRecDepth 20000 in
theorem gX9_count_X9_passes : GoodIn wsX9_count (wsV RX9 193 RX9 yX9_passes wsX9_passes) := goodIn_app (goodIn_of _ (by decide +kernel)) ggX9_count_X9_passes
set_option maxRecDepth 20000 in
theorem ggX9_count_X9_shots : GoodIn wsX9_count wsX9_shots := goodIn_r _ [18, 19, 104, 105, 106, 107, 108, 109, 110, 111, 112, 113, 114, 115, 116, 117, 118, 119, 120, 121, 122, 123, 124, 125, 126, 127, 128, 129, 130, 131, 132, 133, 134, 135, 136, 137, 138, 139, 140, 141, 142, 143, 144] (by decide +kernel) (by decide +kernel)
set_option maxRecDepth 20000 in
theorem gX9_count_X9_shots : GoodIn wsX9_count (wsV RX9 98 RX9 yX9_shots wsX9_shots) := goodIn_app (goodIn_of _ (by decide +kernel)) ggX9_count_X9_shots
set_option maxRecDepth 20000 in
theorem ggX9_count_X9_endOfShot : GoodIn wsX9_count wsX9_endOfShot := goodIn_r _ [23, 24, 25, 26, 27, 4, 28, 29, 30, 31, 32, 19, 33, 34, 35, 36, 37, 38, 39, 40, 41, 42, 43, 44, 45, 46, 47, 48, 49, 50, 51, 52, 2, 3, 5, 53, 54, 55, 56, 57, 58, 59, 60, 61, 62, 63, 64, 65, 66, 67, 68, 69, 70, 71, 72, 73, 74, 75, 76, 77, 78, 79, 80, 81, 82, 83, 84, 85, 86, 87, 88, 89, 90, 91, 92, 93, 94, 95, 96, 97, 98, 99, 100, 101, 102, 103, 104, 105, 106, 107, 108, 109, 110, 111, 112, 113, 114, 115, 116, 117, 118, 119, 120, 121, 122, 123, 124, 125, 126, 127, 128, 129, 130, 131, 132, 133, 134, 135, 136, 137, 138, 139, 140, 141, 142, 143, 144] (by decide +kernel) (by decide +kernel)
set_option maxRecDepth 20000 in
theorem gX9_count_X9_endOfShot : GoodIn wsX9_count (wsV RX9 390 RX9 yX9_endOfShot wsX9_endOfShot) := goodIn_app (goodIn_of _ (by decide +kernel)) ggX9_count_X9_endOfShot
theorem dX9_count_0 : decode cX9_count 0 = .ok (.aload_n 0, 1) := by decide +kernel
theorem dX9_count_1 : decode cX9_count 1 = .ok (.iload_n 1, 1) := by decide +kernel
theorem dX9_count_2 : decode cX9_count 2 = .ok (.i2l, 1) := by decide +kernel
theorem dX9_count_3 : decode cX9_count 3 = .ok (.lconst 0, 1) := by decide +kernel
theorem dX9_count_4 : decode cX9_count 4 = .ok (.ldc2_w 388, 3) := by decide +kernel
theorem dX9_count_7 : decode cX9_count 7 = .ok (.invokestatic 94, 3) := by decide +kernel
theorem dX9_count_10 : decode cX9_count 10 = .ok (.invokevirtual 193, 3) := by decide +kernel
theorem dX9_count_13 : decode cX9_count 13 = .ok (.ifCond .ne 5, 3) := by decide +kernel
theorem dX9_count_16 : decode cX9_count 16 = .ok (.iconst 0, 1) := by decide +kernel
theorem dX9_count_17 : decode cX9_count 17 = .ok (.ireturn, 1) := by decide +kernel
theorem dX9_count_18 : decode cX9_count 18 = .ok (.iconst 0, 1) := by decide +kernel
theorem dX9_count_19 : decode cX9_count 19 = .ok (.istore_n 2, 1) := by decide +kernel
theorem dX9_count_20 : decode cX9_count 20 = .ok (.iconst 0, 1) := by decide +kernel
theorem dX9_count_21 : decode cX9_count 21 = .ok (.istore_n 3, 1) := by decide +kernel
theorem dX9_count_22 : decode cX9_count 22 = .ok (.iload_n 3, 1) := by decide +kernel
theorem dX9_count_23 : decode cX9_count 23 = .ok (.aload_n 0, 1) := by decide +kernel
theorem dX9_count_24 : decode cX9_count 24 = .ok (.invokevirtual 98, 3) := by decide +kernel
theorem dX9_count_27 : decode cX9_count 27 = .ok (.if_icmp .ge 26, 3) := by decide +kernel
theorem dX9_count_30 : decode cX9_count 30 = .ok (.iload_n 2, 1) := by decide +kernel
theorem dX9_count_31 : decode cX9_count 31 = .ok (.aload_n 0, 1) := by decide +kernel
theorem dX9_count_32 : decode cX9_count 32 = .ok (.iload_n 3, 1) := by decide +kernel
theorem dX9_count_33 : decode cX9_count 33 = .ok (.invokevirtual 390, 3) := by decide +kernel
theorem dX9_count_36 : decode cX9_count 36 = .ok (.iload_n 1, 1) := by decide +kernel
theorem dX9_count_37 : decode cX9_count 37 = .ok (.if_icmp .ne 7, 3) := by decide +kernel
theorem dX9_count_40 : decode cX9_count 40 = .ok (.iconst 1, 1) := by decide +kernel
theorem dX9_count_41 : decode cX9_count 41 = .ok (.goto 4, 3) := by decide +kernel
theorem dX9_count_44 : decode cX9_count 44 = .ok (.iconst 0, 1) := by decide +kernel
theorem dX9_count_45 : decode cX9_count 45 = .ok (.iadd, 1) := by decide +kernel
theorem dX9_count_46 : decode cX9_count 46 = .ok (.istore_n 2, 1) := by decide +kernel
theorem dX9_count_47 : decode cX9_count 47 = .ok (.iinc 3 1, 3) := by decide +kernel
theorem dX9_count_50 : decode cX9_count 50 = .ok (.goto (-28), 3) := by decide +kernel
theorem dX9_count_53 : decode cX9_count 53 = .ok (.iload_n 2, 1) := by decide +kernel
theorem dX9_count_54 : decode cX9_count 54 = .ok (.ireturn, 1) := by decide +kernel
set_option maxRecDepth 20000 in
theorem ggX9_isOut_X9_followShot : GoodIn wsX9_isOut wsX9_followShot := goodIn_r _ [6, 7, 8, 9, 5, 10, 11, 12, 13, 14, 15, 16, 17, 18, 19, 1, 20, 21, 22, 23, 24, 25, 26, 27, 28, 29, 30, 31, 32, 33, 34, 35, 36, 37, 38, 39, 40, 41, 42, 43, 44, 45, 46, 47, 48, 49, 50, 51, 52, 53, 54, 55, 56, 57, 58, 59, 60, 61, 62, 63, 64, 65, 66, 67, 68, 69, 70, 71, 72, 73, 74, 75, 76, 77, 78, 79, 80, 81, 82, 83, 84, 85, 86, 87, 88, 89, 90, 91, 92, 93, 94, 95, 96, 97, 98, 99, 100, 101, 102, 103, 104, 105, 106, 107, 108, 109, 110, 111, 112, 113, 114, 115, 116, 117, 118, 119, 120, 121, 122, 123, 124, 125, 126] (by decide +kernel) (by decide +kernel)
set_option maxRecDepth 20000 in
theorem gX9_isOut_X9_followShot : GoodIn wsX9_isOut (wsV RX9 185 RX9 yX9_followShot wsX9_followShot) := goodIn_app (goodIn_of _ (by decide +kernel)) ggX9_isOut_X9_followShot
theorem dX9_isOut_0 : decode cX9_isOut 0 = .ok (.aload_n 0, 1) := by decide +kernel
theorem dX9_isOut_1 : decode cX9_isOut 1 = .ok (.iload_n 1, 1) := by decide +kernel
theorem dX9_isOut_2 : decode cX9_isOut 2 = .ok (.invokevirtual 185, 3) := by decide +kernel
theorem dX9_isOut_5 : decode cX9_isOut 5 = .ok (.aload_n 0, 1) := by decide +kernel
theorem dX9_isOut_6 : decode cX9_isOut 6 = .ok (.getfield 156, 3) := by decide +kernel
theorem dX9_isOut_9 : decode cX9_isOut 9 = .ok (.ifCond .eq 11, 3) := by decide +kernel
theorem dX9_isOut_12 : decode cX9_isOut 12 = .ok (.aload_n 0, 1) := by decide +kernel
theorem dX9_isOut_13 : decode cX9_isOut 13 = .ok (.getfield 156, 3) := by decide +kernel
theorem dX9_isOut_16 : decode cX9_isOut 16 = .ok (.iconst 1, 1) := by decide +kernel
theorem dX9_isOut_17 : decode cX9_isOut 17 = .ok (.if_icmp .ne 7, 3) := by decide +kernel
theorem dX9_isOut_20 : decode cX9_isOut 20 = .ok (.iconst 1, 1) := by decide +kernel
theorem dX9_isOut_21 : decode cX9_isOut 21 = .ok (.goto 4, 3) := by decide +kernel
theorem dX9_isOut_24 : decode cX9_isOut 24 = .ok (.iconst 0, 1) := by decide +kernel
theorem dX9_isOut_25 : decode cX9_isOut 25 = .ok (.ireturn, 1) := by decide +kernel
set_option maxRecDepth 20000 in
theorem ggX9_first_X9_shots : GoodIn wsX9_first wsX9_shots := goodIn_r _ [8, 9, 98, 99, 100, 101, 102, 103, 104, 105, 106, 107, 108, 109, 110, 111, 112, 113, 114, 115, 116, 117, 118, 119, 120, 121, 122, 123, 124, 125, 126, 127, 128, 129, 130, 131, 132, 133, 134, 135, 136, 137, 138] (by decide +kernel) (by decide +kernel)
set_option maxRecDepth 20000 in
theorem gX9_first_X9_shots : GoodIn wsX9_first (wsV RX9 98 RX9 yX9_shots wsX9_shots) := goodIn_app (goodIn_of _ (by decide +kernel)) ggX9_first_X9_shots
set_option maxRecDepth 20000 in
theorem ggX9_first_X9_isOut : GoodIn wsX9_first wsX9_isOut := goodIn_r _ [13, 14, 15, 16, 17, 7, 18, 19, 20, 21, 22, 9, 23, 24, 25, 26, 3, 27, 28, 29, 30, 31, 32, 33, 34, 35, 36, 37, 38, 39, 40, 41, 42, 43, 44, 45, 46, 47, 48, 49, 50, 51, 52, 53, 54, 55, 56, 57, 58, 59, 60, 2, 61, 62, 63, 64, 65, 66, 67, 68, 69, 70, 71, 72, 73, 74, 75, 76, 77, 78, 79, 80, 81, 82, 83, 84, 85, 86, 87, 88, 89, 90, 91, 92, 93, 94, 98, 99, 100, 101, 102, 103, 104, 105, 106, 107, 108, 109, 110, 111, 112, 113, 114, 115, 116, 117, 118, 119, 120, 121, 122, 123, 124, 125, 126, 127, 128, 129, 130, 131, 132, 133, 134, 135, 136, 137, 138] (by decide +kernel) (by decide +kernel)
set_option maxRecDepth 20000 in
theorem gX9_first_X9_isOut : GoodIn wsX9_first (wsV RX9 393 RX9 yX9_isOut wsX9_isOut) := goodIn_app (goodIn_of _ (by decide +kernel)) ggX9_first_X9_isOut
set_option maxRecDepth 20000 in
theorem ggX9_first_X9_sumUp : GoodIn wsX9_first wsX9_sumUp := goodIn_r _ [97] (by decide +kernel) (by decide +kernel)
set_option maxRecDepth 20000 in
theorem gX9_first_X9_sumUp : GoodIn wsX9_first (va_wsS RX9 343 yX9_sumUp wsX9_sumUp) := goodIn_app (goodIn_of _ (by decide +kernel)) ggX9_first_X9_sumUp
theorem dX9_first_0 : decode cX9_first 0 = .ok (.aload_n 0, 1) := by decide +kernel
theorem dX9_first_1 : decode cX9_first 1 = .ok (.iconst 0, 1) := by decide +kernel
theorem dX9_first_2 : decode cX9_first 2 = .ok (.putfield 3, 3) := by decide +kernel
theorem dX9_first_5 : decode cX9_first 5 = .ok (.iconst (-1), 1) := by decide +kernel
theorem dX9_first_6 : decode cX9_first 6 = .ok (.istore_n 1, 1) := by decide +kernel
theorem dX9_first_7 : decode cX9_first 7 = .ok (.iconst 0, 1) := by decide +kernel
theorem dX9_first_8 : decode cX9_first 8 = .ok (.istore_n 2, 1) := by decide +kernel
theorem dX9_first_9 : decode cX9_first 9 = .ok (.iconst 0, 1) := by decide +kernel
theorem dX9_first_10 : decode cX9_first 10 = .ok (.istore_n 3, 1) := by decide +kernel
theorem dX9_first_11 : decode cX9_first 11 = .ok (.iload_n 3, 1) := by decide +kernel
theorem dX9_first_12 : decode cX9_first 12 = .ok (.aload_n 0, 1) := by decide +kernel
theorem dX9_first_13 : decode cX9_first 13 = .ok (.invokevirtual 98, 3) := by decide +kernel
theorem dX9_first_16 : decode cX9_first 16 = .ok (.if_icmp .ge 50, 3) := by decide +kernel
theorem dX9_first_19 : decode cX9_first 19 = .ok (.aload_n 0, 1) := by decide +kernel
theorem dX9_first_20 : decode cX9_first 20 = .ok (.iload_n 3, 1) := by decide +kernel
theorem dX9_first_21 : decode cX9_first 21 = .ok (.invokevirtual 393, 3) := by decide +kernel
theorem dX9_first_24 : decode cX9_first 24 = .ok (.istore 4, 2) := by decide +kernel
theorem dX9_first_26 : decode cX9_first 26 = .ok (.aload_n 0, 1) := by decide +kernel
theorem dX9_first_27 : decode cX9_first 27 = .ok (.getfield 40, 3) := by decide +kernel
theorem dX9_first_30 : decode cX9_first 30 = .ok (.aload_n 0, 1) := by decide +kernel
theorem dX9_first_31 : decode cX9_first 31 = .ok (.getfield 131, 3) := by decide +kernel
theorem dX9_first_34 : decode cX9_first 34 = .ok (.invokestatic 343, 3) := by decide +kernel
theorem dX9_first_37 : decode cX9_first 37 = .ok (.istore 5, 2) := by decide +kernel
theorem dX9_first_39 : decode cX9_first 39 = .ok (.iload 4, 2) := by decide +kernel
theorem dX9_first_41 : decode cX9_first 41 = .ok (.ifCond .eq 19, 3) := by decide +kernel
theorem dX9_first_44 : decode cX9_first 44 = .ok (.iload_n 1, 1) := by decide +kernel
theorem dX9_first_45 : decode cX9_first 45 = .ok (.iconst (-1), 1) := by decide +kernel
theorem dX9_first_46 : decode cX9_first 46 = .ok (.if_icmp .eq 9, 3) := by decide +kernel
theorem dX9_first_49 : decode cX9_first 49 = .ok (.iload 5, 2) := by decide +kernel
theorem dX9_first_51 : decode cX9_first 51 = .ok (.iload_n 2, 1) := by decide +kernel
theorem dX9_first_52 : decode cX9_first 52 = .ok (.if_icmp .ge 8, 3) := by decide +kernel
theorem dX9_first_55 : decode cX9_first 55 = .ok (.iload_n 3, 1) := by decide +kernel
theorem dX9_first_56 : decode cX9_first 56 = .ok (.istore_n 1, 1) := by decide +kernel
theorem dX9_first_57 : decode cX9_first 57 = .ok (.iload 5, 2) := by decide +kernel
theorem dX9_first_59 : decode cX9_first 59 = .ok (.istore_n 2, 1) := by decide +kernel
theorem dX9_first_60 : decode cX9_first 60 = .ok (.iinc 3 1, 3) := by decide +kernel
theorem dX9_first_63 : decode cX9_first 63 = .ok (.goto (-52), 3) := by decide +kernel
theorem dX9_first_66 : decode cX9_first 66 = .ok (.iload_n 1, 1) := by decide +kernel
theorem dX9_first_67 : decode cX9_first 67 = .ok (.ireturn, 1) := by decide +kernel
set_option maxRecDepth 20000 in
theorem ggX9_strongest_X9_shots : GoodIn wsX9_strongest wsX9_shots := goodIn_r _ [8, 9, 96, 97, 98, 99, 100, 101, 102, 103, 104, 105, 106, 107, 108, 109, 110, 111, 112, 113, 114, 115, 116, 117, 118, 119, 120, 121, 122, 123, 124, 125, 126, 127, 128, 129, 130, 131, 132, 133, 134, 135, 136] (by decide +kernel) (by decide +kernel)
set_option maxRecDepth 20000 in
theorem gX9_strongest_X9_shots : GoodIn wsX9_strongest (wsV RX9 98 RX9 yX9_shots wsX9_shots) := goodIn_app (goodIn_of _ (by decide +kernel)) ggX9_strongest_X9_shots
set_option maxRecDepth 20000 in
theorem ggX9_strongest_X9_isOut : GoodIn wsX9_strongest wsX9_isOut := goodIn_r _ [13, 14, 15, 16, 17, 7, 18, 19, 20, 21, 22, 9, 23, 24, 25, 26, 27, 28, 29, 3, 30, 31, 32, 33, 34, 35, 36, 37, 38, 39, 40, 41, 42, 43, 44, 45, 46, 47, 48, 49, 50, 51, 52, 53, 54, 55, 56, 57, 58, 59, 60, 61, 62, 63, 64, 65, 66, 67, 68, 69, 70, 71, 72, 73, 74, 75, 76, 77, 78, 79, 80, 81, 82, 83, 84, 85, 86, 87, 88, 89, 90, 91, 92, 93, 94, 95, 96, 97, 98, 99, 100, 101, 102, 103, 104, 105, 106, 107, 108, 109, 110, 111, 112, 113, 114, 115, 116, 117, 118, 119, 120, 121, 122, 123, 124, 125, 126, 127, 128, 129, 130, 131, 132, 133, 134, 135, 136] (by decide +kernel) (by decide +kernel)
set_option maxRecDepth 20000 in
theorem gX9_strongest_X9_isOut : GoodIn wsX9_strongest (wsV RX9 393 RX9 yX9_isOut wsX9_isOut) := goodIn_app (goodIn_of _ (by decide +kernel)) ggX9_strongest_X9_isOut
theorem dX9_strongest_0 : decode cX9_strongest 0 = .ok (.aload_n 0, 1) := by decide +kernel
theorem dX9_strongest_1 : decode cX9_strongest 1 = .ok (.iconst 0, 1) := by decide +kernel
theorem dX9_strongest_2 : decode cX9_strongest 2 = .ok (.putfield 3, 3) := by decide +kernel
theorem dX9_strongest_5 : decode cX9_strongest 5 = .ok (.iconst (-1), 1) := by decide +kernel
theorem dX9_strongest_6 : decode cX9_strongest 6 = .ok (.istore_n 1, 1) := by decide +kernel
theorem dX9_strongest_7 : decode cX9_strongest 7 = .ok (.ldc2_w 386, 3) := by decide +kernel
theorem dX9_strongest_10 : decode cX9_strongest 10 = .ok (.lstore_n 2, 1) := by decide +kernel
theorem dX9_strongest_11 : decode cX9_strongest 11 = .ok (.iconst 0, 1) := by decide +kernel
theorem dX9_strongest_12 : decode cX9_strongest 12 = .ok (.istore 4, 2) := by decide +kernel
theorem dX9_strongest_14 : decode cX9_strongest 14 = .ok (.iload 4, 2) := by decide +kernel
theorem dX9_strongest_16 : decode cX9_strongest 16 = .ok (.aload_n 0, 1) := by decide +kernel
theorem dX9_strongest_17 : decode cX9_strongest 17 = .ok (.invokevirtual 98, 3) := by decide +kernel
theorem dX9_strongest_20 : decode cX9_strongest 20 = .ok (.if_icmp .ge 35, 3) := by decide +kernel
theorem dX9_strongest_23 : decode cX9_strongest 23 = .ok (.aload_n 0, 1) := by decide +kernel
theorem dX9_strongest_24 : decode cX9_strongest 24 = .ok (.iload 4, 2) := by decide +kernel
theorem dX9_strongest_26 : decode cX9_strongest 26 = .ok (.invokevirtual 393, 3) := by decide +kernel
theorem dX9_strongest_29 : decode cX9_strongest 29 = .ok (.ifCond .eq 20, 3) := by decide +kernel
theorem dX9_strongest_32 : decode cX9_strongest 32 = .ok (.aload_n 0, 1) := by decide +kernel
theorem dX9_strongest_33 : decode cX9_strongest 33 = .ok (.getfield 119, 3) := by decide +kernel
theorem dX9_strongest_36 : decode cX9_strongest 36 = .ok (.lload_n 2, 1) := by decide +kernel
theorem dX9_strongest_37 : decode cX9_strongest 37 = .ok (.lcmp, 1) := by decide +kernel
theorem dX9_strongest_38 : decode cX9_strongest 38 = .ok (.ifCond .le 11, 3) := by decide +kernel
theorem dX9_strongest_41 : decode cX9_strongest 41 = .ok (.iload 4, 2) := by decide +kernel
theorem dX9_strongest_43 : decode cX9_strongest 43 = .ok (.istore_n 1, 1) := by decide +kernel
theorem dX9_strongest_44 : decode cX9_strongest 44 = .ok (.aload_n 0, 1) := by decide +kernel
theorem dX9_strongest_45 : decode cX9_strongest 45 = .ok (.getfield 119, 3) := by decide +kernel
theorem dX9_strongest_48 : decode cX9_strongest 48 = .ok (.lstore_n 2, 1) := by decide +kernel
theorem dX9_strongest_49 : decode cX9_strongest 49 = .ok (.iinc 4 1, 3) := by decide +kernel
theorem dX9_strongest_52 : decode cX9_strongest 52 = .ok (.goto (-38), 3) := by decide +kernel
theorem dX9_strongest_55 : decode cX9_strongest 55 = .ok (.iload_n 1, 1) := by decide +kernel
theorem dX9_strongest_56 : decode cX9_strongest 56 = .ok (.ireturn, 1) := by decide +kernel
set_option maxRecDepth 20000 in
theorem ggX9_followBoth_X9_followShot : GoodIn wsX9_followBoth wsX9_followShot := goodIn_r _ [13, 14, 15, 16, 12, 17, 18, 19, 20, 21, 22, 1, 23, 24, 25, 26, 27, 28, 29, 30, 31, 32, 33, 34, 35, 36, 37, 38, 39, 40, 41, 42, 43, 44, 45, 46, 47, 48, 49, 50, 51, 52, 53, 4, 6, 54, 55, 8, 56, 57, 58, 59, 60, 61, 62, 63, 64, 65, 66, 67, 68, 69, 70, 71, 72, 73, 74, 75, 76, 77, 78, 79, 80, 81, 82, 83, 84, 85, 86, 87, 88, 89, 90, 91, 92, 93, 94, 95, 96, 97, 98, 99, 100, 101, 102, 103, 104, 105, 106, 107, 108, 109, 110, 111, 112, 113, 114, 115, 116, 117, 118, 119, 120, 121, 122, 123, 124, 125, 126, 127, 128, 129, 130] (by decide +kernel) (by decide +kernel)
set_option maxRecDepth 20000 in
theorem gX9_followBoth_X9_followShot : GoodIn wsX9_followBoth (wsV RX9 185 RX9 yX9_followShot wsX9_followShot) := goodIn_app (goodIn_of _ (by decide +kernel)) ggX9_followBoth_X9_followShot
theorem dX9_followBoth_0 : decode cX9_followBoth 0 = .ok (.aload_n 0, 1) := by decide +kernel
theorem dX9_followBoth_1 : decode cX9_followBoth 1 = .ok (.iload_n 1, 1) := by decide +kernel
theorem dX9_followBoth_2 : decode cX9_followBoth 2 = .ok (.invokevirtual 185, 3) := by decide +kernel
theorem dX9_followBoth_5 : decode cX9_followBoth 5 = .ok (.aload_n 0, 1) := by decide +kernel
theorem dX9_followBoth_6 : decode cX9_followBoth 6 = .ok (.aload_n 0, 1) := by decide +kernel
theorem dX9_followBoth_7 : decode cX9_followBoth 7 = .ok (.getfield 131, 3) := by decide +kernel
theorem dX9_followBoth_10 : decode cX9_followBoth 10 = .ok (.putfield 396, 3) := by decide +kernel
theorem dX9_followBoth_13 : decode cX9_followBoth 13 = .ok (.iconst 0, 1) := by decide +kernel
theorem dX9_followBoth_14 : decode cX9_followBoth 14 = .ok (.istore_n 3, 1) := by decide +kernel
theorem dX9_followBoth_15 : decode cX9_followBoth 15 = .ok (.iload_n 3, 1) := by decide +kernel
theorem dX9_followBoth_16 : decode cX9_followBoth 16 = .ok (.aload_n 0, 1) := by decide +kernel
theorem dX9_followBoth_17 : decode cX9_followBoth 17 = .ok (.getfield 131, 3) := by decide +kernel
theorem dX9_followBoth_20 : decode cX9_followBoth 20 = .ok (.if_icmp .ge 45, 3) := by decide +kernel
theorem dX9_followBoth_23 : decode cX9_followBoth 23 = .ok (.aload_n 0, 1) := by decide +kernel
theorem dX9_followBoth_24 : decode cX9_followBoth 24 = .ok (.getfield 56, 3) := by decide +kernel
theorem dX9_followBoth_27 : decode cX9_followBoth 27 = .ok (.iload_n 3, 1) := by decide +kernel
theorem dX9_followBoth_28 : decode cX9_followBoth 28 = .ok (.aload_n 0, 1) := by decide +kernel
theorem dX9_followBoth_29 : decode cX9_followBoth 29 = .ok (.getfield 27, 3) := by decide +kernel
theorem dX9_followBoth_32 : decode cX9_followBoth 32 = .ok (.iload_n 3, 1) := by decide +kernel
theorem dX9_followBoth_33 : decode cX9_followBoth 33 = .ok (.iaload, 1) := by decide +kernel
theorem dX9_followBoth_34 : decode cX9_followBoth 34 = .ok (.iastore, 1) := by decide +kernel
theorem dX9_followBoth_35 : decode cX9_followBoth 35 = .ok (.aload_n 0, 1) := by decide +kernel
theorem dX9_followBoth_36 : decode cX9_followBoth 36 = .ok (.getfield 59, 3) := by decide +kernel
theorem dX9_followBoth_39 : decode cX9_followBoth 39 = .ok (.iload_n 3, 1) := by decide +kernel
theorem dX9_followBoth_40 : decode cX9_followBoth 40 = .ok (.aload_n 0, 1) := by decide +kernel
theorem dX9_followBoth_41 : decode cX9_followBoth 41 = .ok (.getfield 30, 3) := by decide +kernel
theorem dX9_followBoth_44 : decode cX9_followBoth 44 = .ok (.iload_n 3, 1) := by decide +kernel
theorem dX9_followBoth_45 : decode cX9_followBoth 45 = .ok (.baload, 1) := by decide +kernel
theorem dX9_followBoth_46 : decode cX9_followBoth 46 = .ok (.bastore, 1) := by decide +kernel
theorem dX9_followBoth_47 : decode cX9_followBoth 47 = .ok (.aload_n 0, 1) := by decide +kernel
theorem dX9_followBoth_48 : decode cX9_followBoth 48 = .ok (.getfield 62, 3) := by decide +kernel
theorem dX9_followBoth_51 : decode cX9_followBoth 51 = .ok (.iload_n 3, 1) := by decide +kernel
theorem dX9_followBoth_52 : decode cX9_followBoth 52 = .ok (.aload_n 0, 1) := by decide +kernel
theorem dX9_followBoth_53 : decode cX9_followBoth 53 = .ok (.getfield 40, 3) := by decide +kernel
theorem dX9_followBoth_56 : decode cX9_followBoth 56 = .ok (.iload_n 3, 1) := by decide +kernel
theorem dX9_followBoth_57 : decode cX9_followBoth 57 = .ok (.iaload, 1) := by decide +kernel
theorem dX9_followBoth_58 : decode cX9_followBoth 58 = .ok (.iastore, 1) := by decide +kernel
theorem dX9_followBoth_59 : decode cX9_followBoth 59 = .ok (.iinc 3 1, 3) := by decide +kernel
theorem dX9_followBoth_62 : decode cX9_followBoth 62 = .ok (.goto (-47), 3) := by decide +kernel
theorem dX9_followBoth_65 : decode cX9_followBoth 65 = .ok (.aload_n 0, 1) := by decide +kernel
theorem dX9_followBoth_66 : decode cX9_followBoth 66 = .ok (.iload_n 2, 1) := by decide +kernel
theorem dX9_followBoth_67 : decode cX9_followBoth 67 = .ok (.invokevirtual 185, 3) := by decide +kernel
theorem dX9_followBoth_70 : decode cX9_followBoth 70 = .ok (.return_, 1) := by decide +kernel
set_option maxRecDepth 20000 in
theorem ggX9_alike_X9_isShot : GoodIn wsX9_alike wsX9_isShot := goodIn_r _ [11, 12, 13, 14, 10, 15, 16, 17, 18, 19, 111, 112, 113, 114, 115, 116, 117, 118, 119, 120, 121, 122, 123, 124, 125, 126, 127, 128, 129, 130, 131, 132, 133, 134, 135, 136, 137, 138, 139, 140, 141, 142, 143, 144, 145, 146, 147, 148, 149, 150, 151] (by decide +kernel) (by decide +kernel)
set_option maxRecDepth 20000 in
theorem gX9_alike_X9_isShot : GoodIn wsX9_alike (wsV RX9 336 RX9 yX9_isShot wsX9_isShot) := goodIn_app (goodIn_of _ (by decide +kernel)) ggX9_alike_X9_isShot
set_option maxRecDepth 20000 in
theorem ggX9_alike_X9_passes2 : GoodIn wsX9_alike wsX9_passes2 := goodIn_r _ [23, 24, 25, 26, 10, 27, 28, 111, 112, 113, 114, 115, 116, 117, 118, 119, 120, 121, 122, 123, 124, 125, 126, 127, 128, 129, 130, 131, 132, 133, 134, 135, 136, 137, 138, 139, 140, 141, 142, 143, 144, 145, 146, 147, 148, 149, 150, 151] (by decide +kernel) (by decide +kernel)
set_option maxRecDepth 20000 in
theorem gX9_alike_X9_passes2 : GoodIn wsX9_alike (wsV RX9 332 RX9 yX9_passes2 wsX9_passes2) := goodIn_app (goodIn_of _ (by decide +kernel)) ggX9_alike_X9_passes2
set_option maxRecDepth 20000 in
theorem ggX9_alike_X9_followBoth : GoodIn wsX9_alike wsX9_followBoth := goodIn_r _ [32, 1, 2, 4, 3, 6, 5, 33, 34, 35, 36, 37, 10, 38, 39, 40, 41, 42, 16, 43, 44, 45, 46, 47, 48, 49, 50, 51, 52, 53, 54, 55, 56, 57, 58, 59, 60, 61, 62, 17, 18, 19, 63, 64, 65, 66, 67, 68, 69, 70, 71, 72, 73, 74, 75, 76, 77, 78, 79, 80, 81, 82, 83, 84, 85, 86, 87, 88, 89, 90, 91, 92, 93, 94, 95, 96, 97, 98, 99, 100, 101, 102, 103, 104, 105, 106, 107, 108, 109, 110, 111, 112, 113, 114, 115, 116, 117, 118, 119, 120, 121, 122, 123, 124, 125, 126, 127, 128, 129, 130, 131, 132, 133, 134, 135, 136, 137, 138, 139, 140, 141, 142, 143, 144, 145, 146, 147, 148, 149, 150, 151] (by decide +kernel) (by decide +kernel)
set_option maxRecDepth 20000 in
theorem gX9_alike_X9_followBoth : GoodIn wsX9_alike (wsV RX9 399 RX9 yX9_followBoth wsX9_followBoth) := goodIn_app (goodIn_of _ (by decide +kernel)) ggX9_alike_X9_followBoth
theorem dX9_alike_0 : decode cX9_alike 0 = .ok (.aload_n 0, 1) := by decide +kernel
theorem dX9_alike_1 : decode cX9_alike 1 = .ok (.aload_n 0, 1) := by decide +kernel
theorem dX9_alike_2 : decode cX9_alike 2 = .ok (.iload_n 1, 1) := by decide +kernel
theorem dX9_alike_3 : decode cX9_alike 3 = .ok (.invokevirtual 336, 3) := by decide +kernel
theorem dX9_alike_6 : decode cX9_alike 6 = .ok (.ifCond .eq 15, 3) := by decide +kernel
theorem dX9_alike_9 : decode cX9_alike 9 = .ok (.aload_n 0, 1) := by decide +kernel
theorem dX9_alike_10 : decode cX9_alike 10 = .ok (.iload_n 2, 1) := by decide +kernel
theorem dX9_alike_11 : decode cX9_alike 11 = .ok (.invokevirtual 336, 3) := by decide +kernel
theorem dX9_alike_14 : decode cX9_alike 14 = .ok (.ifCond .eq 7, 3) := by decide +kernel
theorem dX9_alike_17 : decode cX9_alike 17 = .ok (.iconst 1, 1) := by decide +kernel
theorem dX9_alike_18 : decode cX9_alike 18 = .ok (.goto 4, 3) := by decide +kernel
theorem dX9_alike_21 : decode cX9_alike 21 = .ok (.iconst 0, 1) := by decide +kernel
theorem dX9_alike_22 : decode cX9_alike 22 = .ok (.iload_n 1, 1) := by decide +kernel
theorem dX9_alike_23 : decode cX9_alike 23 = .ok (.iload_n 2, 1) := by decide +kernel
theorem dX9_alike_24 : decode cX9_alike 24 = .ok (.if_icmp .eq 7, 3) := by decide +kernel
theorem dX9_alike_27 : decode cX9_alike 27 = .ok (.iconst 1, 1) := by decide +kernel
theorem dX9_alike_28 : decode cX9_alike 28 = .ok (.goto 4, 3) := by decide +kernel
theorem dX9_alike_31 : decode cX9_alike 31 = .ok (.iconst 0, 1) := by decide +kernel
theorem dX9_alike_32 : decode cX9_alike 32 = .ok (.invokevirtual 332, 3) := by decide +kernel
theorem dX9_alike_35 : decode cX9_alike 35 = .ok (.ifCond .ne 5, 3) := by decide +kernel
theorem dX9_alike_38 : decode cX9_alike 38 = .ok (.iconst 0, 1) := by decide +kernel
theorem dX9_alike_39 : decode cX9_alike 39 = .ok (.ireturn, 1) := by decide +kernel
theorem dX9_alike_40 : decode cX9_alike 40 = .ok (.aload_n 0, 1) := by decide +kernel
theorem dX9_alike_41 : decode cX9_alike 41 = .ok (.iload_n 1, 1) := by decide +kernel
theorem dX9_alike_42 : decode cX9_alike 42 = .ok (.iload_n 2, 1) := by decide +kernel
theorem dX9_alike_43 : decode cX9_alike 43 = .ok (.invokevirtual 399, 3) := by decide +kernel
theorem dX9_alike_46 : decode cX9_alike 46 = .ok (.iconst 0, 1) := by decide +kernel
theorem dX9_alike_47 : decode cX9_alike 47 = .ok (.istore_n 3, 1) := by decide +kernel
theorem dX9_alike_48 : decode cX9_alike 48 = .ok (.iload_n 3, 1) := by decide +kernel
theorem dX9_alike_49 : decode cX9_alike 49 = .ok (.aload_n 0, 1) := by decide +kernel
theorem dX9_alike_50 : decode cX9_alike 50 = .ok (.getfield 131, 3) := by decide +kernel
theorem dX9_alike_53 : decode cX9_alike 53 = .ok (.if_icmp .ge 47, 3) := by decide +kernel
theorem dX9_alike_56 : decode cX9_alike 56 = .ok (.iload_n 3, 1) := by decide +kernel
theorem dX9_alike_57 : decode cX9_alike 57 = .ok (.aload_n 0, 1) := by decide +kernel
theorem dX9_alike_58 : decode cX9_alike 58 = .ok (.getfield 396, 3) := by decide +kernel
theorem dX9_alike_61 : decode cX9_alike 61 = .ok (.if_icmp .ge 39, 3) := by decide +kernel
theorem dX9_alike_64 : decode cX9_alike 64 = .ok (.aload_n 0, 1) := by decide +kernel
theorem dX9_alike_65 : decode cX9_alike 65 = .ok (.getfield 27, 3) := by decide +kernel
theorem dX9_alike_68 : decode cX9_alike 68 = .ok (.iload_n 3, 1) := by decide +kernel
theorem dX9_alike_69 : decode cX9_alike 69 = .ok (.iaload, 1) := by decide +kernel
theorem dX9_alike_70 : decode cX9_alike 70 = .ok (.aload_n 0, 1) := by decide +kernel
theorem dX9_alike_71 : decode cX9_alike 71 = .ok (.getfield 56, 3) := by decide +kernel
theorem dX9_alike_74 : decode cX9_alike 74 = .ok (.iload_n 3, 1) := by decide +kernel
theorem dX9_alike_75 : decode cX9_alike 75 = .ok (.iaload, 1) := by decide +kernel
theorem dX9_alike_76 : decode cX9_alike 76 = .ok (.if_icmp .ne 24, 3) := by decide +kernel
theorem dX9_alike_79 : decode cX9_alike 79 = .ok (.aload_n 0, 1) := by decide +kernel
theorem dX9_alike_80 : decode cX9_alike 80 = .ok (.getfield 30, 3) := by decide +kernel
theorem dX9_alike_83 : decode cX9_alike 83 = .ok (.iload_n 3, 1) := by decide +kernel
theorem dX9_alike_84 : decode cX9_alike 84 = .ok (.baload, 1) := by decide +kernel
theorem dX9_alike_85 : decode cX9_alike 85 = .ok (.aload_n 0, 1) := by decide +kernel
theorem dX9_alike_86 : decode cX9_alike 86 = .ok (.getfield 59, 3) := by decide +kernel
theorem dX9_alike_89 : decode cX9_alike 89 = .ok (.iload_n 3, 1) := by decide +kernel
theorem dX9_alike_90 : decode cX9_alike 90 = .ok (.baload, 1) := by decide +kernel
theorem dX9_alike_91 : decode cX9_alike 91 = .ok (.if_icmp .ne 9, 3) := by decide +kernel
theorem dX9_alike_94 : decode cX9_alike 94 = .ok (.iinc 3 1, 3) := by decide +kernel
theorem dX9_alike_97 : decode cX9_alike 97 = .ok (.goto (-49), 3) := by decide +kernel
theorem dX9_alike_100 : decode cX9_alike 100 = .ok (.iload_n 3, 1) := by decide +kernel
theorem dX9_alike_101 : decode cX9_alike 101 = .ok (.ireturn, 1) := by decide +kernel
theorem dX9_layerBy_0 : decode cX9_layerBy 0 = .ok (.iconst 0, 1) := by decide +kernel
theorem dX9_layerBy_1 : decode cX9_layerBy 1 = .ok (.istore 4, 2) := by decide +kernel
theorem dX9_layerBy_3 : decode cX9_layerBy 3 = .ok (.iconst 0, 1) := by decide +kernel
theorem dX9_layerBy_4 : decode cX9_layerBy 4 = .ok (.istore 5, 2) := by decide +kernel
theorem dX9_layerBy_6 : decode cX9_layerBy 6 = .ok (.iload 5, 2) := by decide +kernel
theorem dX9_layerBy_8 : decode cX9_layerBy 8 = .ok (.iload_n 2, 1) := by decide +kernel
theorem dX9_layerBy_9 : decode cX9_layerBy 9 = .ok (.if_icmp .ge 29, 3) := by decide +kernel
theorem dX9_layerBy_12 : decode cX9_layerBy 12 = .ok (.iload 4, 2) := by decide +kernel
theorem dX9_layerBy_14 : decode cX9_layerBy 14 = .ok (.aload_n 1, 1) := by decide +kernel
theorem dX9_layerBy_15 : decode cX9_layerBy 15 = .ok (.iload 5, 2) := by decide +kernel
theorem dX9_layerBy_17 : decode cX9_layerBy 17 = .ok (.iaload, 1) := by decide +kernel
theorem dX9_layerBy_18 : decode cX9_layerBy 18 = .ok (.iadd, 1) := by decide +kernel
theorem dX9_layerBy_19 : decode cX9_layerBy 19 = .ok (.istore 4, 2) := by decide +kernel
theorem dX9_layerBy_21 : decode cX9_layerBy 21 = .ok (.iload 4, 2) := by decide +kernel
theorem dX9_layerBy_23 : decode cX9_layerBy 23 = .ok (.iload_n 3, 1) := by decide +kernel
theorem dX9_layerBy_24 : decode cX9_layerBy 24 = .ok (.if_icmp .le 8, 3) := by decide +kernel
theorem dX9_layerBy_27 : decode cX9_layerBy 27 = .ok (.aload_n 0, 1) := by decide +kernel
theorem dX9_layerBy_28 : decode cX9_layerBy 28 = .ok (.iload 5, 2) := by decide +kernel
theorem dX9_layerBy_30 : decode cX9_layerBy 30 = .ok (.iaload, 1) := by decide +kernel
theorem dX9_layerBy_31 : decode cX9_layerBy 31 = .ok (.ireturn, 1) := by decide +kernel
theorem dX9_layerBy_32 : decode cX9_layerBy 32 = .ok (.iinc 5 1, 3) := by decide +kernel
theorem dX9_layerBy_35 : decode cX9_layerBy 35 = .ok (.goto (-29), 3) := by decide +kernel
theorem dX9_layerBy_38 : decode cX9_layerBy 38 = .ok (.iconst (-1), 1) := by decide +kernel
theorem dX9_layerBy_39 : decode cX9_layerBy 39 = .ok (.ireturn, 1) := by decide +kernel
set_option maxRecDepth 20000 in
theorem ggX9_areTogether_X9_layerBy : GoodIn wsX9_areTogether wsX9_layerBy := goodIn_r _ [10] (by decide +kernel) (by decide +kernel)
set_option maxRecDepth 20000 in
theorem gX9_areTogether_X9_layerBy : GoodIn wsX9_areTogether (va_wsS RX9 402 yX9_layerBy wsX9_layerBy) := goodIn_app (goodIn_of _ (by decide +kernel)) ggX9_areTogether_X9_layerBy
theorem dX9_areTogether_0 : decode cX9_areTogether 0 = .ok (.aload_n 0, 1) := by decide +kernel
theorem dX9_areTogether_1 : decode cX9_areTogether 1 = .ok (.getfield 27, 3) := by decide +kernel
theorem dX9_areTogether_4 : decode cX9_areTogether 4 = .ok (.aload_n 0, 1) := by decide +kernel
theorem dX9_areTogether_5 : decode cX9_areTogether 5 = .ok (.getfield 40, 3) := by decide +kernel
theorem dX9_areTogether_8 : decode cX9_areTogether 8 = .ok (.aload_n 0, 1) := by decide +kernel
theorem dX9_areTogether_9 : decode cX9_areTogether 9 = .ok (.getfield 131, 3) := by decide +kernel
theorem dX9_areTogether_12 : decode cX9_areTogether 12 = .ok (.iload_n 1, 1) := by decide +kernel
theorem dX9_areTogether_13 : decode cX9_areTogether 13 = .ok (.invokestatic 402, 3) := by decide +kernel
theorem dX9_areTogether_16 : decode cX9_areTogether 16 = .ok (.istore_n 2, 1) := by decide +kernel
theorem dX9_areTogether_17 : decode cX9_areTogether 17 = .ok (.iload_n 2, 1) := by decide +kernel
theorem dX9_areTogether_18 : decode cX9_areTogether 18 = .ok (.iconst (-1), 1) := by decide +kernel
theorem dX9_areTogether_19 : decode cX9_areTogether 19 = .ok (.if_icmp .eq 27, 3) := by decide +kernel
theorem dX9_areTogether_22 : decode cX9_areTogether 22 = .ok (.iload_n 2, 1) := by decide +kernel
theorem dX9_areTogether_23 : decode cX9_areTogether 23 = .ok (.aload_n 0, 1) := by decide +kernel
theorem dX9_areTogether_24 : decode cX9_areTogether 24 = .ok (.getfield 56, 3) := by decide +kernel
theorem dX9_areTogether_27 : decode cX9_areTogether 27 = .ok (.aload_n 0, 1) := by decide +kernel
theorem dX9_areTogether_28 : decode cX9_areTogether 28 = .ok (.getfield 62, 3) := by decide +kernel
theorem dX9_areTogether_31 : decode cX9_areTogether 31 = .ok (.aload_n 0, 1) := by decide +kernel
theorem dX9_areTogether_32 : decode cX9_areTogether 32 = .ok (.getfield 396, 3) := by decide +kernel
theorem dX9_areTogether_35 : decode cX9_areTogether 35 = .ok (.iload_n 1, 1) := by decide +kernel
theorem dX9_areTogether_36 : decode cX9_areTogether 36 = .ok (.invokestatic 402, 3) := by decide +kernel
theorem dX9_areTogether_39 : decode cX9_areTogether 39 = .ok (.if_icmp .ne 7, 3) := by decide +kernel
theorem dX9_areTogether_42 : decode cX9_areTogether 42 = .ok (.iconst 1, 1) := by decide +kernel
theorem dX9_areTogether_43 : decode cX9_areTogether 43 = .ok (.goto 4, 3) := by decide +kernel
theorem dX9_areTogether_46 : decode cX9_areTogether 46 = .ok (.iconst 0, 1) := by decide +kernel
theorem dX9_areTogether_47 : decode cX9_areTogether 47 = .ok (.ireturn, 1) := by decide +kernel
set_option maxRecDepth 20000 in
theorem ggX9_together_X9_isShot : GoodIn wsX9_together wsX9_isShot := goodIn_r _ [9, 10, 11, 12, 8, 13, 14, 15, 16, 17, 118, 119, 120, 121, 122, 123, 124, 125, 126, 127, 128, 129, 130, 131, 132, 133, 134, 135, 136, 137, 138, 139, 140, 141, 142, 143, 144, 145, 146, 147, 148, 149, 150, 151, 152, 153, 154, 155, 156, 157, 158] (by decide +kernel) (by decide +kernel)
set_option maxRecDepth 20000 in
theorem gX9_together_X9_isShot : GoodIn wsX9_together (wsV RX9 336 RX9 yX9_isShot wsX9_isShot) := goodIn_app (goodIn_of _ (by decide +kernel)) ggX9_together_X9_isShot
set_option maxRecDepth 20000 in
theorem ggX9_together_X9_passes2 : GoodIn wsX9_together wsX9_passes2 := goodIn_r _ [21, 22, 23, 24, 8, 25, 26, 118, 119, 120, 121, 122, 123, 124, 125, 126, 127, 128, 129, 130, 131, 132, 133, 134, 135, 136, 137, 138, 139, 140, 141, 142, 143, 144, 145, 146, 147, 148, 149, 150, 151, 152, 153, 154, 155, 156, 157, 158] (by decide +kernel) (by decide +kernel)
set_option maxRecDepth 20000 in
theorem gX9_together_X9_passes2 : GoodIn wsX9_together (wsV RX9 332 RX9 yX9_passes2 wsX9_passes2) := goodIn_app (goodIn_of _ (by decide +kernel)) ggX9_together_X9_passes2
set_option maxRecDepth 20000 in
theorem ggX9_together_X9_followBoth : GoodIn wsX9_together wsX9_followBoth := goodIn_r _ [30, 1, 3, 31, 32, 33, 34, 4, 2, 35, 36, 37, 8, 38, 39, 40, 41, 42, 14, 43, 44, 45, 46, 47, 48, 49, 50, 51, 52, 53, 54, 55, 56, 57, 58, 59, 60, 61, 62, 15, 16, 17, 63, 64, 65, 66, 67, 68, 69, 70, 71, 72, 73, 74, 75, 76, 77, 78, 79, 80, 81, 82, 83, 84, 85, 86, 87, 88, 89, 90, 91, 92, 93, 94, 95, 96, 97, 98, 99, 100, 101, 102, 103, 104, 105, 106, 107, 108, 109, 110, 118, 119, 120, 121, 122, 123, 124, 125, 126, 127, 128, 129, 130, 131, 132, 133, 134, 135, 136, 137, 138, 139, 140, 141, 142, 143, 144, 145, 146, 147, 148, 149, 150, 151, 152, 153, 154, 155, 156, 157, 158] (by decide +kernel) (by decide +kernel)
set_option maxRecDepth 20000 in
theorem gX9_together_X9_followBoth : GoodIn wsX9_together (wsV RX9 399 RX9 yX9_followBoth wsX9_followBoth) := goodIn_app (goodIn_of _ (by decide +kernel)) ggX9_together_X9_followBoth
set_option maxRecDepth 20000 in
theorem ggX9_together_X9_areTogether : GoodIn wsX9_together wsX9_areTogether := goodIn_r _ [114, 32, 2, 1, 31, 4, 3, 115, 116, 8, 117, 118, 119, 120, 121, 122, 123, 124, 125, 126, 127, 128, 129, 130, 131, 132, 133, 134, 135, 136, 137, 138, 139, 140, 141, 142, 143, 144, 145, 146, 147, 148, 149, 150, 151, 152, 153, 154, 155, 156, 157, 158] (by decide +kernel) (by decide +kernel)
set_option maxRecDepth 20000 in
theorem gX9_together_X9_areTogether : GoodIn wsX9_together (wsV RX9 406 RX9 yX9_areTogether wsX9_areTogether) := goodIn_app (goodIn_of _ (by decide +kernel)) ggX9_together_X9_areTogether
theorem dX9_together_0 : decode cX9_together 0 = .ok (.aload_n 0, 1) := by decide +kernel
theorem dX9_together_1 : decode cX9_together 1 = .ok (.aload_n 0, 1) := by decide +kernel
theorem dX9_together_2 : decode cX9_together 2 = .ok (.iload_n 1, 1) := by decide +kernel
theorem dX9_together_3 : decode cX9_together 3 = .ok (.invokevirtual 336, 3) := by decide +kernel
theorem dX9_together_6 : decode cX9_together 6 = .ok (.ifCond .eq 15, 3) := by decide +kernel
theorem dX9_together_9 : decode cX9_together 9 = .ok (.aload_n 0, 1) := by decide +kernel
theorem dX9_together_10 : decode cX9_together 10 = .ok (.iload_n 2, 1) := by decide +kernel
theorem dX9_together_11 : decode cX9_together 11 = .ok (.invokevirtual 336, 3) := by decide +kernel
theorem dX9_together_14 : decode cX9_together 14 = .ok (.ifCond .eq 7, 3) := by decide +kernel
theorem dX9_together_17 : decode cX9_together 17 = .ok (.iconst 1, 1) := by decide +kernel
theorem dX9_together_18 : decode cX9_together 18 = .ok (.goto 4, 3) := by decide +kernel
theorem dX9_together_21 : decode cX9_together 21 = .ok (.iconst 0, 1) := by decide +kernel
theorem dX9_together_22 : decode cX9_together 22 = .ok (.iload_n 1, 1) := by decide +kernel
theorem dX9_together_23 : decode cX9_together 23 = .ok (.iload_n 2, 1) := by decide +kernel
theorem dX9_together_24 : decode cX9_together 24 = .ok (.if_icmp .eq 7, 3) := by decide +kernel
theorem dX9_together_27 : decode cX9_together 27 = .ok (.iconst 1, 1) := by decide +kernel
theorem dX9_together_28 : decode cX9_together 28 = .ok (.goto 4, 3) := by decide +kernel
theorem dX9_together_31 : decode cX9_together 31 = .ok (.iconst 0, 1) := by decide +kernel
theorem dX9_together_32 : decode cX9_together 32 = .ok (.invokevirtual 332, 3) := by decide +kernel
theorem dX9_together_35 : decode cX9_together 35 = .ok (.ifCond .ne 5, 3) := by decide +kernel
theorem dX9_together_38 : decode cX9_together 38 = .ok (.iconst 0, 1) := by decide +kernel
theorem dX9_together_39 : decode cX9_together 39 = .ok (.ireturn, 1) := by decide +kernel
theorem dX9_together_40 : decode cX9_together 40 = .ok (.aload_n 0, 1) := by decide +kernel
theorem dX9_together_41 : decode cX9_together 41 = .ok (.iload_n 1, 1) := by decide +kernel
theorem dX9_together_42 : decode cX9_together 42 = .ok (.iload_n 2, 1) := by decide +kernel
theorem dX9_together_43 : decode cX9_together 43 = .ok (.invokevirtual 399, 3) := by decide +kernel
theorem dX9_together_46 : decode cX9_together 46 = .ok (.aload_n 0, 1) := by decide +kernel
theorem dX9_together_47 : decode cX9_together 47 = .ok (.iconst 0, 1) := by decide +kernel
theorem dX9_together_48 : decode cX9_together 48 = .ok (.invokevirtual 406, 3) := by decide +kernel
theorem dX9_together_51 : decode cX9_together 51 = .ok (.ifCond .eq 7, 3) := by decide +kernel
theorem dX9_together_54 : decode cX9_together 54 = .ok (.iconst 0, 1) := by decide +kernel
theorem dX9_together_55 : decode cX9_together 55 = .ok (.goto 4, 3) := by decide +kernel
theorem dX9_together_58 : decode cX9_together 58 = .ok (.iconst (-1), 1) := by decide +kernel
theorem dX9_together_59 : decode cX9_together 59 = .ok (.istore_n 3, 1) := by decide +kernel
theorem dX9_together_60 : decode cX9_together 60 = .ok (.iconst 0, 1) := by decide +kernel
theorem dX9_together_61 : decode cX9_together 61 = .ok (.istore 4, 2) := by decide +kernel
theorem dX9_together_63 : decode cX9_together 63 = .ok (.iconst 0, 1) := by decide +kernel
theorem dX9_together_64 : decode cX9_together 64 = .ok (.istore 5, 2) := by decide +kernel
theorem dX9_together_66 : decode cX9_together 66 = .ok (.iload 5, 2) := by decide +kernel
theorem dX9_together_68 : decode cX9_together 68 = .ok (.aload_n 0, 1) := by decide +kernel
theorem dX9_together_69 : decode cX9_together 69 = .ok (.getfield 131, 3) := by decide +kernel
theorem dX9_together_72 : decode cX9_together 72 = .ok (.if_icmp .ge 48, 3) := by decide +kernel
theorem dX9_together_75 : decode cX9_together 75 = .ok (.iload 4, 2) := by decide +kernel
theorem dX9_together_77 : decode cX9_together 77 = .ok (.aload_n 0, 1) := by decide +kernel
theorem dX9_together_78 : decode cX9_together 78 = .ok (.getfield 40, 3) := by decide +kernel
theorem dX9_together_81 : decode cX9_together 81 = .ok (.iload 5, 2) := by decide +kernel
theorem dX9_together_83 : decode cX9_together 83 = .ok (.iaload, 1) := by decide +kernel
theorem dX9_together_84 : decode cX9_together 84 = .ok (.iadd, 1) := by decide +kernel
theorem dX9_together_85 : decode cX9_together 85 = .ok (.istore 4, 2) := by decide +kernel
theorem dX9_together_87 : decode cX9_together 87 = .ok (.aload_n 0, 1) := by decide +kernel
theorem dX9_together_88 : decode cX9_together 88 = .ok (.iload 4, 2) := by decide +kernel
theorem dX9_together_90 : decode cX9_together 90 = .ok (.invokevirtual 406, 3) := by decide +kernel
theorem dX9_together_93 : decode cX9_together 93 = .ok (.ifCond .eq 19, 3) := by decide +kernel
theorem dX9_together_96 : decode cX9_together 96 = .ok (.iload_n 3, 1) := by decide +kernel
theorem dX9_together_97 : decode cX9_together 97 = .ok (.iconst (-1), 1) := by decide +kernel
theorem dX9_together_98 : decode cX9_together 98 = .ok (.if_icmp .eq 9, 3) := by decide +kernel
theorem dX9_together_101 : decode cX9_together 101 = .ok (.iload 4, 2) := by decide +kernel
theorem dX9_together_103 : decode cX9_together 103 = .ok (.iload_n 3, 1) := by decide +kernel
theorem dX9_together_104 : decode cX9_together 104 = .ok (.if_icmp .ge 8, 3) := by decide +kernel
theorem dX9_together_107 : decode cX9_together 107 = .ok (.iload 4, 2) := by decide +kernel
theorem dX9_together_109 : decode cX9_together 109 = .ok (.goto 4, 3) := by decide +kernel
theorem dX9_together_112 : decode cX9_together 112 = .ok (.iload_n 3, 1) := by decide +kernel
theorem dX9_together_113 : decode cX9_together 113 = .ok (.istore_n 3, 1) := by decide +kernel
theorem dX9_together_114 : decode cX9_together 114 = .ok (.iinc 5 1, 3) := by decide +kernel
theorem dX9_together_117 : decode cX9_together 117 = .ok (.goto (-51), 3) := by decide +kernel
theorem dX9_together_120 : decode cX9_together 120 = .ok (.iconst 0, 1) := by decide +kernel
theorem dX9_together_121 : decode cX9_together 121 = .ok (.istore 5, 2) := by decide +kernel
theorem dX9_together_123 : decode cX9_together 123 = .ok (.iconst 0, 1) := by decide +kernel
theorem dX9_together_124 : decode cX9_together 124 = .ok (.istore 6, 2) := by decide +kernel
theorem dX9_together_126 : decode cX9_together 126 = .ok (.iload 6, 2) := by decide +kernel
theorem dX9_together_128 : decode cX9_together 128 = .ok (.aload_n 0, 1) := by decide +kernel
theorem dX9_together_129 : decode cX9_together 129 = .ok (.getfield 396, 3) := by decide +kernel
theorem dX9_together_132 : decode cX9_together 132 = .ok (.if_icmp .ge 48, 3) := by decide +kernel
theorem dX9_together_135 : decode cX9_together 135 = .ok (.iload 5, 2) := by decide +kernel
theorem dX9_together_137 : decode cX9_together 137 = .ok (.aload_n 0, 1) := by decide +kernel
theorem dX9_together_138 : decode cX9_together 138 = .ok (.getfield 62, 3) := by decide +kernel
theorem dX9_together_141 : decode cX9_together 141 = .ok (.iload 6, 2) := by decide +kernel
theorem dX9_together_143 : decode cX9_together 143 = .ok (.iaload, 1) := by decide +kernel
theorem dX9_together_144 : decode cX9_together 144 = .ok (.iadd, 1) := by decide +kernel
theorem dX9_together_145 : decode cX9_together 145 = .ok (.istore 5, 2) := by decide +kernel
theorem dX9_together_147 : decode cX9_together 147 = .ok (.aload_n 0, 1) := by decide +kernel
theorem dX9_together_148 : decode cX9_together 148 = .ok (.iload 5, 2) := by decide +kernel
theorem dX9_together_150 : decode cX9_together 150 = .ok (.invokevirtual 406, 3) := by decide +kernel
theorem dX9_together_153 : decode cX9_together 153 = .ok (.ifCond .eq 19, 3) := by decide +kernel
theorem dX9_together_156 : decode cX9_together 156 = .ok (.iload_n 3, 1) := by decide +kernel
theorem dX9_together_157 : decode cX9_together 157 = .ok (.iconst (-1), 1) := by decide +kernel
theorem dX9_together_158 : decode cX9_together 158 = .ok (.if_icmp .eq 9, 3) := by decide +kernel
theorem dX9_together_161 : decode cX9_together 161 = .ok (.iload 5, 2) := by decide +kernel
theorem dX9_together_163 : decode cX9_together 163 = .ok (.iload_n 3, 1) := by decide +kernel
theorem dX9_together_164 : decode cX9_together 164 = .ok (.if_icmp .ge 8, 3) := by decide +kernel
theorem dX9_together_167 : decode cX9_together 167 = .ok (.iload 5, 2) := by decide +kernel
theorem dX9_together_169 : decode cX9_together 169 = .ok (.goto 4, 3) := by decide +kernel
theorem dX9_together_172 : decode cX9_together 172 = .ok (.iload_n 3, 1) := by decide +kernel
theorem dX9_together_173 : decode cX9_together 173 = .ok (.istore_n 3, 1) := by decide +kernel
theorem dX9_together_174 : decode cX9_together 174 = .ok (.iinc 6 1, 3) := by decide +kernel
theorem dX9_together_177 : decode cX9_together 177 = .ok (.goto (-51), 3) := by decide +kernel
theorem dX9_together_180 : decode cX9_together 180 = .ok (.iload_n 3, 1) := by decide +kernel
theorem dX9_together_181 : decode cX9_together 181 = .ok (.ireturn, 1) := by decide +kernel
set_option maxRecDepth 20000 in
theorem ggX9_legsThrough_X9_shots : GoodIn wsX9_legsThrough wsX9_shots := goodIn_r _ [7, 8, 90, 91, 92, 93, 94, 95, 96, 97, 98, 99, 100, 101, 102, 103, 104, 105, 106, 107, 108, 109, 110, 111, 112, 113, 114, 115, 116, 117, 118, 119, 120, 121, 122, 123, 124, 125, 126, 127, 128, 129, 130] (by decide +kernel) (by decide +kernel)
set_option maxRecDepth 20000 in
theorem gX9_legsThrough_X9_shots : GoodIn wsX9_legsThrough (wsV RX9 98 RX9 yX9_shots wsX9_shots) := goodIn_app (goodIn_of _ (by decide +kernel)) ggX9_legsThrough_X9_shots
set_option maxRecDepth 20000 in
theorem ggX9_legsThrough_X9_followShot : GoodIn wsX9_legsThrough wsX9_followShot := goodIn_r _ [12, 13, 14, 15, 6, 16, 8, 17, 18, 19, 20, 1, 21, 22, 23, 24, 25, 26, 27, 28, 29, 30, 31, 32, 33, 34, 35, 36, 37, 38, 39, 40, 41, 42, 43, 44, 45, 46, 47, 48, 49, 50, 51, 2, 52, 53, 54, 55, 56, 57, 58, 59, 60, 61, 62, 63, 64, 65, 66, 67, 68, 69, 70, 71, 72, 73, 74, 75, 76, 77, 78, 79, 80, 81, 82, 83, 84, 85, 86, 87, 88, 89, 90, 91, 92, 93, 94, 95, 96, 97, 98, 99, 100, 101, 102, 103, 104, 105, 106, 107, 108, 109, 110, 111, 112, 113, 114, 115, 116, 117, 118, 119, 120, 121, 122, 123, 124, 125, 126, 127, 128, 129, 130] (by decide +kernel) (by decide +kernel)
set_option maxRecDepth 20000 in
theorem gX9_legsThrough_X9_followShot : GoodIn wsX9_legsThrough (wsV RX9 185 RX9 yX9_followShot wsX9_followShot) := goodIn_app (goodIn_of _ (by decide +kernel)) ggX9_legsThrough_X9_followShot
theorem dX9_legsThrough_0 : decode cX9_legsThrough 0 = .ok (.iconst 0, 1) := by decide +kernel
theorem dX9_legsThrough_1 : decode cX9_legsThrough 1 = .ok (.istore_n 2, 1) := by decide +kernel
theorem dX9_legsThrough_2 : decode cX9_legsThrough 2 = .ok (.iconst 0, 1) := by decide +kernel
theorem dX9_legsThrough_3 : decode cX9_legsThrough 3 = .ok (.istore_n 3, 1) := by decide +kernel
theorem dX9_legsThrough_4 : decode cX9_legsThrough 4 = .ok (.iload_n 3, 1) := by decide +kernel
theorem dX9_legsThrough_5 : decode cX9_legsThrough 5 = .ok (.aload_n 0, 1) := by decide +kernel
theorem dX9_legsThrough_6 : decode cX9_legsThrough 6 = .ok (.invokevirtual 98, 3) := by decide +kernel
theorem dX9_legsThrough_9 : decode cX9_legsThrough 9 = .ok (.if_icmp .ge 51, 3) := by decide +kernel
theorem dX9_legsThrough_12 : decode cX9_legsThrough 12 = .ok (.aload_n 0, 1) := by decide +kernel
theorem dX9_legsThrough_13 : decode cX9_legsThrough 13 = .ok (.iload_n 3, 1) := by decide +kernel
theorem dX9_legsThrough_14 : decode cX9_legsThrough 14 = .ok (.invokevirtual 185, 3) := by decide +kernel
theorem dX9_legsThrough_17 : decode cX9_legsThrough 17 = .ok (.iconst 0, 1) := by decide +kernel
theorem dX9_legsThrough_18 : decode cX9_legsThrough 18 = .ok (.istore 4, 2) := by decide +kernel
theorem dX9_legsThrough_20 : decode cX9_legsThrough 20 = .ok (.iload 4, 2) := by decide +kernel
theorem dX9_legsThrough_22 : decode cX9_legsThrough 22 = .ok (.aload_n 0, 1) := by decide +kernel
theorem dX9_legsThrough_23 : decode cX9_legsThrough 23 = .ok (.getfield 131, 3) := by decide +kernel
theorem dX9_legsThrough_26 : decode cX9_legsThrough 26 = .ok (.if_icmp .ge 28, 3) := by decide +kernel
theorem dX9_legsThrough_29 : decode cX9_legsThrough 29 = .ok (.iload_n 2, 1) := by decide +kernel
theorem dX9_legsThrough_30 : decode cX9_legsThrough 30 = .ok (.aload_n 0, 1) := by decide +kernel
theorem dX9_legsThrough_31 : decode cX9_legsThrough 31 = .ok (.getfield 27, 3) := by decide +kernel
theorem dX9_legsThrough_34 : decode cX9_legsThrough 34 = .ok (.iload 4, 2) := by decide +kernel
theorem dX9_legsThrough_36 : decode cX9_legsThrough 36 = .ok (.iaload, 1) := by decide +kernel
theorem dX9_legsThrough_37 : decode cX9_legsThrough 37 = .ok (.iload_n 1, 1) := by decide +kernel
theorem dX9_legsThrough_38 : decode cX9_legsThrough 38 = .ok (.if_icmp .ne 7, 3) := by decide +kernel
theorem dX9_legsThrough_41 : decode cX9_legsThrough 41 = .ok (.iconst 1, 1) := by decide +kernel
theorem dX9_legsThrough_42 : decode cX9_legsThrough 42 = .ok (.goto 4, 3) := by decide +kernel
theorem dX9_legsThrough_45 : decode cX9_legsThrough 45 = .ok (.iconst 0, 1) := by decide +kernel
theorem dX9_legsThrough_46 : decode cX9_legsThrough 46 = .ok (.iadd, 1) := by decide +kernel
theorem dX9_legsThrough_47 : decode cX9_legsThrough 47 = .ok (.istore_n 2, 1) := by decide +kernel
theorem dX9_legsThrough_48 : decode cX9_legsThrough 48 = .ok (.iinc 4 1, 3) := by decide +kernel
theorem dX9_legsThrough_51 : decode cX9_legsThrough 51 = .ok (.goto (-31), 3) := by decide +kernel
theorem dX9_legsThrough_54 : decode cX9_legsThrough 54 = .ok (.iinc 3 1, 3) := by decide +kernel
theorem dX9_legsThrough_57 : decode cX9_legsThrough 57 = .ok (.goto (-53), 3) := by decide +kernel
theorem dX9_legsThrough_60 : decode cX9_legsThrough 60 = .ok (.iload_n 2, 1) := by decide +kernel
theorem dX9_legsThrough_61 : decode cX9_legsThrough 61 = .ok (.ireturn, 1) := by decide +kernel
set_option maxRecDepth 20000 in
theorem ggX9_legsIn_X9_isLayer : GoodIn wsX9_legsIn wsX9_isLayer := goodIn_r _ [5, 6, 7, 8, 4, 9, 10, 11, 12, 13, 103, 104, 105, 106, 107, 108, 109, 110, 111, 112, 113, 114, 115, 116, 117, 118, 119, 120, 121, 122, 123, 124, 125, 126, 127, 128, 129, 130, 131, 132, 133, 134, 135, 136, 137, 138, 139, 140, 141, 142, 143] (by decide +kernel) (by decide +kernel)
set_option maxRecDepth 20000 in
theorem gX9_legsIn_X9_isLayer : GoodIn wsX9_legsIn (wsV RX9 140 RX9 yX9_isLayer wsX9_isLayer) := goodIn_app (goodIn_of _ (by decide +kernel)) ggX9_legsIn_X9_isLayer
set_option maxRecDepth 20000 in
theorem ggX9_legsIn_X9_passes : GoodIn wsX9_legsIn wsX9_passes := goodIn_r _ [17, 18, 19, 20, 4, 21, 22, 103, 104, 105, 106, 107, 108, 109, 110, 111, 112, 113, 114, 115, 116, 117, 118, 119, 120, 121, 122, 123, 124, 125, 126, 127, 128, 129, 130, 131, 132, 133, 134, 135, 136, 137, 138, 139, 140, 141, 142, 143] (by decide +kernel) (by decide +kernel)
set_option maxRecDepth 20000 in
theorem gX9_legsIn_X9_passes : GoodIn wsX9_legsIn (wsV RX9 193 RX9 yX9_passes wsX9_passes) := goodIn_app (goodIn_of _ (by decide +kernel)) ggX9_legsIn_X9_passes
set_option maxRecDepth 20000 in
theorem ggX9_legsIn_X9_legsThrough : GoodIn wsX9_legsIn wsX9_legsThrough := goodIn_r _ [26, 27, 28, 29, 30, 31, 4, 32, 10, 33, 34, 35, 36, 37, 38, 39, 40, 41, 42, 43, 44, 45, 46, 47, 48, 49, 50, 51, 52, 1, 2, 3, 5, 6, 7, 8, 9, 11, 12, 13, 53, 54, 55, 56, 57, 58, 59, 60, 61, 62, 63, 64, 65, 66, 67, 68, 69, 70, 71, 72, 73, 74, 75, 76, 77, 78, 79, 80, 81, 82, 83, 84, 85, 86, 87, 88, 89, 90, 91, 92, 93, 94, 95, 96, 97, 98, 99, 100, 101, 102, 103, 104, 105, 106, 107, 108, 109, 110, 111, 112, 113, 114, 115, 116, 117, 118, 119, 120, 121, 122, 123, 124, 125, 126, 127, 128, 129, 130, 131, 132, 133, 134, 135, 136, 137, 138, 139, 140, 141, 142, 143] (by decide +kernel) (by decide +kernel)
set_option maxRecDepth 20000 in
theorem gX9_legsIn_X9_legsThrough : GoodIn wsX9_legsIn (wsV RX9 409 RX9 yX9_legsThrough wsX9_legsThrough) := goodIn_app (goodIn_of _ (by decide +kernel)) ggX9_legsIn_X9_legsThrough
theorem dX9_legsIn_0 : decode cX9_legsIn 0 = .ok (.aload_n 0, 1) := by decide +kernel
theorem dX9_legsIn_1 : decode cX9_legsIn 1 = .ok (.aload_n 0, 1) := by decide +kernel
theorem dX9_legsIn_2 : decode cX9_legsIn 2 = .ok (.iload_n 1, 1) := by decide +kernel
theorem dX9_legsIn_3 : decode cX9_legsIn 3 = .ok (.invokevirtual 140, 3) := by decide +kernel
theorem dX9_legsIn_6 : decode cX9_legsIn 6 = .ok (.invokevirtual 193, 3) := by decide +kernel
theorem dX9_legsIn_9 : decode cX9_legsIn 9 = .ok (.ifCond .eq 11, 3) := by decide +kernel
theorem dX9_legsIn_12 : decode cX9_legsIn 12 = .ok (.aload_n 0, 1) := by decide +kernel
theorem dX9_legsIn_13 : decode cX9_legsIn 13 = .ok (.iload_n 1, 1) := by decide +kernel
theorem dX9_legsIn_14 : decode cX9_legsIn 14 = .ok (.invokevirtual 409, 3) := by decide +kernel
theorem dX9_legsIn_17 : decode cX9_legsIn 17 = .ok (.goto 4, 3) := by decide +kernel
theorem dX9_legsIn_20 : decode cX9_legsIn 20 = .ok (.iconst 0, 1) := by decide +kernel
theorem dX9_legsIn_21 : decode cX9_legsIn 21 = .ok (.ireturn, 1) := by decide +kernel
set_option maxRecDepth 20000 in
theorem ggX9_busiest_X9_layers : GoodIn wsX9_busiest wsX9_layers := goodIn_r _ [10, 11, 98, 99, 100, 101, 102, 103, 104, 105, 106, 107, 108, 109, 110, 111, 112, 113, 114, 115, 116, 117, 118, 119, 120, 121, 122, 123, 124, 125, 126, 127, 128, 129, 130, 131, 132, 133, 134, 135, 136, 137, 138] (by decide +kernel) (by decide +kernel)
set_option maxRecDepth 20000 in
theorem gX9_busiest_X9_layers : GoodIn wsX9_busiest (wsV RX9 90 RX9 yX9_layers wsX9_layers) := goodIn_app (goodIn_of _ (by decide +kernel)) ggX9_busiest_X9_layers
set_option maxRecDepth 20000 in
theorem ggX9_busiest_X9_legsThrough : GoodIn wsX9_busiest wsX9_legsThrough := goodIn_r _ [15, 16, 17, 18, 19, 20, 9, 21, 11, 22, 23, 24, 25, 26, 27, 28, 29, 30, 31, 32, 33, 34, 35, 36, 37, 38, 39, 40, 41, 42, 43, 44, 45, 6, 7, 8, 10, 46, 47, 48, 49, 50, 51, 52, 53, 54, 55, 56, 57, 58, 4, 59, 60, 61, 62, 63, 64, 65, 66, 67, 68, 69, 70, 71, 72, 73, 74, 75, 76, 77, 78, 79, 80, 81, 82, 83, 84, 85, 86, 87, 88, 89, 90, 91, 92, 93, 94, 95, 96, 97, 98, 99, 100, 101, 102, 103, 104, 105, 106, 107, 108, 109, 110, 111, 112, 113, 114, 115, 116, 117, 118, 119, 120, 121, 122, 123, 124, 125, 126, 127, 128, 129, 130, 131, 132, 133, 134, 135, 136, 137, 138] (by decide +kernel) (by decide +kernel)
set_option maxRecDepth 20000 in
theorem gX9_busiest_X9_legsThrough : GoodIn wsX9_busiest (wsV RX9 409 RX9 yX9_legsThrough wsX9_legsThrough) := goodIn_app (goodIn_of _ (by decide +kernel)) ggX9_busiest_X9_legsThrough
theorem dX9_busiest_0 : decode cX9_busiest 0 = .ok (.aload_n 0, 1) := by decide +kernel
theorem dX9_busiest_1 : decode cX9_busiest 1 = .ok (.iconst 0, 1) := by decide +kernel
theorem dX9_busiest_2 : decode cX9_busiest 2 = .ok (.putfield 3, 3) := by decide +kernel
theorem dX9_busiest_5 : decode cX9_busiest 5 = .ok (.iconst (-1), 1) := by decide +kernel
theorem dX9_busiest_6 : decode cX9_busiest 6 = .ok (.istore_n 1, 1) := by decide +kernel
theorem dX9_busiest_7 : decode cX9_busiest 7 = .ok (.iconst 0, 1) := by decide +kernel
theorem dX9_busiest_8 : decode cX9_busiest 8 = .ok (.istore_n 2, 1) := by decide +kernel
theorem dX9_busiest_9 : decode cX9_busiest 9 = .ok (.iconst 0, 1) := by decide +kernel
theorem dX9_busiest_10 : decode cX9_busiest 10 = .ok (.istore_n 3, 1) := by decide +kernel
theorem dX9_busiest_11 : decode cX9_busiest 11 = .ok (.iload_n 3, 1) := by decide +kernel
theorem dX9_busiest_12 : decode cX9_busiest 12 = .ok (.aload_n 0, 1) := by decide +kernel
theorem dX9_busiest_13 : decode cX9_busiest 13 = .ok (.invokevirtual 90, 3) := by decide +kernel
theorem dX9_busiest_16 : decode cX9_busiest 16 = .ok (.if_icmp .ge 35, 3) := by decide +kernel
theorem dX9_busiest_19 : decode cX9_busiest 19 = .ok (.aload_n 0, 1) := by decide +kernel
theorem dX9_busiest_20 : decode cX9_busiest 20 = .ok (.iload_n 3, 1) := by decide +kernel
theorem dX9_busiest_21 : decode cX9_busiest 21 = .ok (.invokevirtual 409, 3) := by decide +kernel
theorem dX9_busiest_24 : decode cX9_busiest 24 = .ok (.istore 4, 2) := by decide +kernel
theorem dX9_busiest_26 : decode cX9_busiest 26 = .ok (.iload 4, 2) := by decide +kernel
theorem dX9_busiest_28 : decode cX9_busiest 28 = .ok (.iload_n 2, 1) := by decide +kernel
theorem dX9_busiest_29 : decode cX9_busiest 29 = .ok (.if_icmp .le 7, 3) := by decide +kernel
theorem dX9_busiest_32 : decode cX9_busiest 32 = .ok (.iload_n 3, 1) := by decide +kernel
theorem dX9_busiest_33 : decode cX9_busiest 33 = .ok (.goto 4, 3) := by decide +kernel
theorem dX9_busiest_36 : decode cX9_busiest 36 = .ok (.iload_n 1, 1) := by decide +kernel
theorem dX9_busiest_37 : decode cX9_busiest 37 = .ok (.istore_n 1, 1) := by decide +kernel
theorem dX9_busiest_38 : decode cX9_busiest 38 = .ok (.iload_n 2, 1) := by decide +kernel
theorem dX9_busiest_39 : decode cX9_busiest 39 = .ok (.iload 4, 2) := by decide +kernel
theorem dX9_busiest_41 : decode cX9_busiest 41 = .ok (.invokestatic 188, 3) := by decide +kernel
theorem dX9_busiest_44 : decode cX9_busiest 44 = .ok (.istore_n 2, 1) := by decide +kernel
theorem dX9_busiest_45 : decode cX9_busiest 45 = .ok (.iinc 3 1, 3) := by decide +kernel
theorem dX9_busiest_48 : decode cX9_busiest 48 = .ok (.goto (-37), 3) := by decide +kernel
theorem dX9_busiest_51 : decode cX9_busiest 51 = .ok (.iload_n 1, 1) := by decide +kernel
theorem dX9_busiest_52 : decode cX9_busiest 52 = .ok (.ireturn, 1) := by decide +kernel
set_option maxRecDepth 20000 in
theorem ggX9_meanIndex_X9_layers : GoodIn wsX9_meanIndex wsX9_layers := goodIn_r _ [6, 7, 16, 17, 18, 19, 20, 21, 22, 23, 24, 25, 26, 27, 28, 29, 30, 31, 32, 33, 34, 35, 36, 37, 38, 39, 40, 41, 42, 43, 44, 45, 46, 47, 48, 49, 50, 51, 52, 53, 54, 55, 56] (by decide +kernel) (by decide +kernel)
set_option maxRecDepth 20000 in
theorem gX9_meanIndex_X9_layers : GoodIn wsX9_meanIndex (wsV RX9 90 RX9 yX9_layers wsX9_layers) := goodIn_app (goodIn_of _ (by decide +kernel)) ggX9_meanIndex_X9_layers
set_option maxRecDepth 20000 in
theorem ggX9_meanIndex_X9_ofLayer : GoodIn wsX9_meanIndex wsX9_ofLayer := goodIn_r _ [11, 7, 16, 17, 18, 19, 20, 21, 22, 23, 24, 25, 26, 27, 28, 29, 30, 31, 32, 33, 34, 35, 36, 37, 38, 39, 40, 41, 42, 43, 44, 45, 46, 47, 48, 49, 50, 51, 52, 53, 54, 55, 56] (by decide +kernel) (by decide +kernel)
set_option maxRecDepth 20000 in
theorem gX9_meanIndex_X9_ofLayer : GoodIn wsX9_meanIndex (wsV RX9 105 RX9 yX9_ofLayer wsX9_ofLayer) := goodIn_app (goodIn_of _ (by decide +kernel)) ggX9_meanIndex_X9_ofLayer
set_option maxRecDepth 20000 in
theorem ggX9_meanIndex_X9_depthOf : GoodIn wsX9_meanIndex wsX9_depthOf := goodIn_r _ [15, 8, 9, 10, 5, 11, 7, 16, 17, 18, 19, 20, 21, 22, 23, 24, 25, 26, 27, 28, 29, 30, 31, 32, 33, 34, 35, 36, 37, 38, 39, 40, 41, 42, 43, 44, 45, 46, 47, 48, 49, 50, 51, 52, 53, 54, 55, 56] (by decide +kernel) (by decide +kernel)
set_option maxRecDepth 20000 in
theorem gX9_meanIndex_X9_depthOf : GoodIn wsX9_meanIndex (wsV RX9 327 RX9 yX9_depthOf wsX9_depthOf) := goodIn_app (goodIn_of _ (by decide +kernel)) ggX9_meanIndex_X9_depthOf
theorem dX9_meanIndex_0 : decode cX9_meanIndex 0 = .ok (.aload_n 0, 1) := by decide +kernel
theorem dX9_meanIndex_1 : decode cX9_meanIndex 1 = .ok (.iconst 0, 1) := by decide +kernel
theorem dX9_meanIndex_2 : decode cX9_meanIndex 2 = .ok (.putfield 3, 3) := by decide +kernel
theorem dX9_meanIndex_5 : decode cX9_meanIndex 5 = .ok (.iconst 0, 1) := by decide +kernel
theorem dX9_meanIndex_6 : decode cX9_meanIndex 6 = .ok (.istore_n 1, 1) := by decide +kernel
theorem dX9_meanIndex_7 : decode cX9_meanIndex 7 = .ok (.iconst 0, 1) := by decide +kernel
theorem dX9_meanIndex_8 : decode cX9_meanIndex 8 = .ok (.istore_n 2, 1) := by decide +kernel
theorem dX9_meanIndex_9 : decode cX9_meanIndex 9 = .ok (.iload_n 2, 1) := by decide +kernel
theorem dX9_meanIndex_10 : decode cX9_meanIndex 10 = .ok (.aload_n 0, 1) := by decide +kernel
theorem dX9_meanIndex_11 : decode cX9_meanIndex 11 = .ok (.invokevirtual 90, 3) := by decide +kernel
theorem dX9_meanIndex_14 : decode cX9_meanIndex 14 = .ok (.if_icmp .ge 25, 3) := by decide +kernel
theorem dX9_meanIndex_17 : decode cX9_meanIndex 17 = .ok (.iload_n 1, 1) := by decide +kernel
theorem dX9_meanIndex_18 : decode cX9_meanIndex 18 = .ok (.aload_n 0, 1) := by decide +kernel
theorem dX9_meanIndex_19 : decode cX9_meanIndex 19 = .ok (.iload_n 2, 1) := by decide +kernel
theorem dX9_meanIndex_20 : decode cX9_meanIndex 20 = .ok (.iconst 0, 1) := by decide +kernel
theorem dX9_meanIndex_21 : decode cX9_meanIndex 21 = .ok (.invokevirtual 105, 3) := by decide +kernel
theorem dX9_meanIndex_24 : decode cX9_meanIndex 24 = .ok (.aload_n 0, 1) := by decide +kernel
theorem dX9_meanIndex_25 : decode cX9_meanIndex 25 = .ok (.iload_n 2, 1) := by decide +kernel
theorem dX9_meanIndex_26 : decode cX9_meanIndex 26 = .ok (.iconst 1, 1) := by decide +kernel
theorem dX9_meanIndex_27 : decode cX9_meanIndex 27 = .ok (.invokevirtual 105, 3) := by decide +kernel
theorem dX9_meanIndex_30 : decode cX9_meanIndex 30 = .ok (.imul, 1) := by decide +kernel
theorem dX9_meanIndex_31 : decode cX9_meanIndex 31 = .ok (.iadd, 1) := by decide +kernel
theorem dX9_meanIndex_32 : decode cX9_meanIndex 32 = .ok (.istore_n 1, 1) := by decide +kernel
theorem dX9_meanIndex_33 : decode cX9_meanIndex 33 = .ok (.iinc 2 1, 3) := by decide +kernel
theorem dX9_meanIndex_36 : decode cX9_meanIndex 36 = .ok (.goto (-27), 3) := by decide +kernel
theorem dX9_meanIndex_39 : decode cX9_meanIndex 39 = .ok (.iload_n 1, 1) := by decide +kernel
theorem dX9_meanIndex_40 : decode cX9_meanIndex 40 = .ok (.i2d, 1) := by decide +kernel
theorem dX9_meanIndex_41 : decode cX9_meanIndex 41 = .ok (.aload_n 0, 1) := by decide +kernel
theorem dX9_meanIndex_42 : decode cX9_meanIndex 42 = .ok (.aload_n 0, 1) := by decide +kernel
theorem dX9_meanIndex_43 : decode cX9_meanIndex 43 = .ok (.invokevirtual 90, 3) := by decide +kernel
theorem dX9_meanIndex_46 : decode cX9_meanIndex 46 = .ok (.invokevirtual 327, 3) := by decide +kernel
theorem dX9_meanIndex_49 : decode cX9_meanIndex 49 = .ok (.i2d, 1) := by decide +kernel
theorem dX9_meanIndex_50 : decode cX9_meanIndex 50 = .ok (.ddiv, 1) := by decide +kernel
theorem dX9_meanIndex_51 : decode cX9_meanIndex 51 = .ok (.dreturn, 1) := by decide +kernel
set_option maxRecDepth 20000 in
theorem ggX9_share_X9_isShot : GoodIn wsX9_share wsX9_isShot := goodIn_r _ [8, 9, 10, 11, 7, 12, 13, 14, 15, 16, 104, 105, 106, 107, 108, 109, 110, 111, 112, 113, 114, 115, 116, 117, 118, 119, 120, 121, 122, 123, 124, 125, 126, 127, 128, 129, 130, 131, 132, 133, 134, 135, 136, 137, 138, 139, 140, 141, 142, 143, 144] (by decide +kernel) (by decide +kernel)
set_option maxRecDepth 20000 in
theorem gX9_share_X9_isShot : GoodIn wsX9_share (wsV RX9 336 RX9 yX9_isShot wsX9_isShot) := goodIn_app (goodIn_of _ (by decide +kernel)) ggX9_share_X9_isShot
set_option maxRecDepth 20000 in
theorem ggX9_share_X9_passes : GoodIn wsX9_share wsX9_passes := goodIn_r _ [20, 21, 22, 23, 7, 24, 25, 104, 105, 106, 107, 108, 109, 110, 111, 112, 113, 114, 115, 116, 117, 118, 119, 120, 121, 122, 123, 124, 125, 126, 127, 128, 129, 130, 131, 132, 133, 134, 135, 136, 137, 138, 139, 140, 141, 142, 143, 144] (by decide +kernel) (by decide +kernel)
set_option maxRecDepth 20000 in
theorem gX9_share_X9_passes : GoodIn wsX9_share (wsV RX9 193 RX9 yX9_passes wsX9_passes) := goodIn_app (goodIn_of _ (by decide +kernel)) ggX9_share_X9_passes
set_option maxRecDepth 20000 in
theorem ggX9_share_X9_followShot : GoodIn wsX9_share wsX9_followShot := goodIn_r _ [29, 30, 31, 32, 7, 33, 13, 34, 35, 36, 37, 38, 39, 40, 2, 1, 41, 42, 43, 44, 45, 46, 47, 48, 49, 50, 51, 52, 14, 15, 16, 53, 54, 55, 56, 57, 58, 59, 60, 61, 62, 63, 64, 65, 66, 67, 68, 69, 70, 71, 72, 73, 74, 75, 76, 77, 78, 79, 80, 81, 82, 83, 84, 85, 86, 87, 88, 89, 90, 91, 92, 93, 94, 95, 96, 97, 98, 99, 100, 101, 102, 103, 104, 105, 106, 107, 108, 109, 110, 111, 112, 113, 114, 115, 116, 117, 118, 119, 120, 121, 122, 123, 124, 125, 126, 127, 128, 129, 130, 131, 132, 133, 134, 135, 136, 137, 138, 139, 140, 141, 142, 143, 144] (by decide +kernel) (by decide +kernel)
set_option maxRecDepth 20000 in
theorem gX9_share_X9_followShot : GoodIn wsX9_share (wsV RX9 185 RX9 yX9_followShot wsX9_followShot) := goodIn_app (goodIn_of _ (by decide +kernel)) ggX9_share_X9_followShot
theorem dX9_share_0 : decode cX9_share 0 = .ok (.aload_n 0, 1) := by decide +kernel
theorem dX9_share_1 : decode cX9_share 1 = .ok (.aload_n 0, 1) := by decide +kernel
theorem dX9_share_2 : decode cX9_share 2 = .ok (.iload_n 1, 1) := by decide +kernel
theorem dX9_share_3 : decode cX9_share 3 = .ok (.invokevirtual 336, 3) := by decide +kernel
theorem dX9_share_6 : decode cX9_share 6 = .ok (.invokevirtual 193, 3) := by decide +kernel
theorem dX9_share_9 : decode cX9_share 9 = .ok (.ifCond .ne 5, 3) := by decide +kernel
theorem dX9_share_12 : decode cX9_share 12 = .ok (.fconst 0, 1) := by decide +kernel
theorem dX9_share_13 : decode cX9_share 13 = .ok (.freturn, 1) := by decide +kernel
theorem dX9_share_14 : decode cX9_share 14 = .ok (.aload_n 0, 1) := by decide +kernel
theorem dX9_share_15 : decode cX9_share 15 = .ok (.iload_n 1, 1) := by decide +kernel
theorem dX9_share_16 : decode cX9_share 16 = .ok (.invokevirtual 185, 3) := by decide +kernel
theorem dX9_share_19 : decode cX9_share 19 = .ok (.aload_n 0, 1) := by decide +kernel
theorem dX9_share_20 : decode cX9_share 20 = .ok (.getfield 156, 3) := by decide +kernel
theorem dX9_share_23 : decode cX9_share 23 = .ok (.iconst 4, 1) := by decide +kernel
theorem dX9_share_24 : decode cX9_share 24 = .ok (.if_icmp .ne 7, 3) := by decide +kernel
theorem dX9_share_27 : decode cX9_share 27 = .ok (.fconst 0, 1) := by decide +kernel
theorem dX9_share_28 : decode cX9_share 28 = .ok (.goto 12, 3) := by decide +kernel
theorem dX9_share_31 : decode cX9_share 31 = .ok (.aload_n 0, 1) := by decide +kernel
theorem dX9_share_32 : decode cX9_share 32 = .ok (.getfield 119, 3) := by decide +kernel
theorem dX9_share_35 : decode cX9_share 35 = .ok (.l2f, 1) := by decide +kernel
theorem dX9_share_36 : decode cX9_share 36 = .ok (.ldc_w 412, 3) := by decide +kernel
theorem dX9_share_39 : decode cX9_share 39 = .ok (.fdiv, 1) := by decide +kernel
theorem dX9_share_40 : decode cX9_share 40 = .ok (.freturn, 1) := by decide +kernel
theorem dX9_keepAside_0 : decode cX9_keepAside 0 = .ok (.iconst 0, 1) := by decide +kernel
theorem dX9_keepAside_1 : decode cX9_keepAside 1 = .ok (.istore_n 1, 1) := by decide +kernel
theorem dX9_keepAside_2 : decode cX9_keepAside 2 = .ok (.iload_n 1, 1) := by decide +kernel
theorem dX9_keepAside_3 : decode cX9_keepAside 3 = .ok (.bipush 95, 2) := by decide +kernel
theorem dX9_keepAside_5 : decode cX9_keepAside 5 = .ok (.if_icmp .ge 21, 3) := by decide +kernel
theorem dX9_keepAside_8 : decode cX9_keepAside 8 = .ok (.aload_n 0, 1) := by decide +kernel
theorem dX9_keepAside_9 : decode cX9_keepAside 9 = .ok (.getfield 65, 3) := by decide +kernel
theorem dX9_keepAside_12 : decode cX9_keepAside 12 = .ok (.iload_n 1, 1) := by decide +kernel
theorem dX9_keepAside_13 : decode cX9_keepAside 13 = .ok (.aload_n 0, 1) := by decide +kernel
theorem dX9_keepAside_14 : decode cX9_keepAside 14 = .ok (.getfield 17, 3) := by decide +kernel
theorem dX9_keepAside_17 : decode cX9_keepAside 17 = .ok (.iload_n 1, 1) := by decide +kernel
theorem dX9_keepAside_18 : decode cX9_keepAside 18 = .ok (.iaload, 1) := by decide +kernel
theorem dX9_keepAside_19 : decode cX9_keepAside 19 = .ok (.iastore, 1) := by decide +kernel
theorem dX9_keepAside_20 : decode cX9_keepAside 20 = .ok (.iinc 1 1, 3) := by decide +kernel
theorem dX9_keepAside_23 : decode cX9_keepAside 23 = .ok (.goto (-21), 3) := by decide +kernel
theorem dX9_keepAside_26 : decode cX9_keepAside 26 = .ok (.return_, 1) := by decide +kernel
theorem dX9_layBack_0 : decode cX9_layBack 0 = .ok (.iconst 0, 1) := by decide +kernel
theorem dX9_layBack_1 : decode cX9_layBack 1 = .ok (.istore_n 1, 1) := by decide +kernel
theorem dX9_layBack_2 : decode cX9_layBack 2 = .ok (.iload_n 1, 1) := by decide +kernel
theorem dX9_layBack_3 : decode cX9_layBack 3 = .ok (.bipush 95, 2) := by decide +kernel
theorem dX9_layBack_5 : decode cX9_layBack 5 = .ok (.if_icmp .ge 21, 3) := by decide +kernel
theorem dX9_layBack_8 : decode cX9_layBack 8 = .ok (.aload_n 0, 1) := by decide +kernel
theorem dX9_layBack_9 : decode cX9_layBack 9 = .ok (.getfield 17, 3) := by decide +kernel
theorem dX9_layBack_12 : decode cX9_layBack 12 = .ok (.iload_n 1, 1) := by decide +kernel
theorem dX9_layBack_13 : decode cX9_layBack 13 = .ok (.aload_n 0, 1) := by decide +kernel
theorem dX9_layBack_14 : decode cX9_layBack 14 = .ok (.getfield 65, 3) := by decide +kernel
theorem dX9_layBack_17 : decode cX9_layBack 17 = .ok (.iload_n 1, 1) := by decide +kernel
theorem dX9_layBack_18 : decode cX9_layBack 18 = .ok (.iaload, 1) := by decide +kernel
theorem dX9_layBack_19 : decode cX9_layBack 19 = .ok (.iastore, 1) := by decide +kernel
theorem dX9_layBack_20 : decode cX9_layBack 20 = .ok (.iinc 1 1, 3) := by decide +kernel
theorem dX9_layBack_23 : decode cX9_layBack 23 = .ok (.goto (-21), 3) := by decide +kernel
theorem dX9_layBack_26 : decode cX9_layBack 26 = .ok (.return_, 1) := by decide +kernel
set_option maxRecDepth 20000 in
theorem ggX9_endIf_X9_isShot : GoodIn wsX9_endIf wsX9_isShot := goodIn_r _ [6, 7, 8, 9, 5, 10, 11, 12, 13, 14, 121, 122, 123, 124, 125, 126, 127, 128, 129, 130, 131, 132, 133, 134, 135, 136, 137, 138, 139, 140, 141, 142, 143, 144, 145, 146, 147, 148, 149, 150, 151, 152, 153, 154, 155, 156, 157, 158, 159, 160, 161] (by decide +kernel) (by decide +kernel)
set_option maxRecDepth 20000 in
theorem gX9_endIf_X9_isShot : GoodIn wsX9_endIf (wsV RX9 336 RX9 yX9_isShot wsX9_isShot) := goodIn_app (goodIn_of _ (by decide +kernel)) ggX9_endIf_X9_isShot
set_option maxRecDepth 20000 in
theorem ggX9_endIf_X9_isLayer : GoodIn wsX9_endIf wsX9_isLayer := goodIn_r _ [18, 19, 20, 21, 5, 22, 11, 12, 13, 14, 121, 122, 123, 124, 125, 126, 127, 128, 129, 130, 131, 132, 133, 134, 135, 136, 137, 138, 139, 140, 141, 142, 143, 144, 145, 146, 147, 148, 149, 150, 151, 152, 153, 154, 155, 156, 157, 158, 159, 160, 161] (by decide +kernel) (by decide +kernel)
set_option maxRecDepth 20000 in
theorem gX9_endIf_X9_isLayer : GoodIn wsX9_endIf (wsV RX9 140 RX9 yX9_isLayer wsX9_isLayer) := goodIn_app (goodIn_of _ (by decide +kernel)) ggX9_endIf_X9_isLayer
set_option maxRecDepth 20000 in
theorem ggX9_endIf_X9_isIndex : GoodIn wsX9_endIf wsX9_isIndex := goodIn_r _ [25, 26, 27, 12, 13, 5, 14] (by decide +kernel) (by decide +kernel)
set_option maxRecDepth 20000 in
theorem gX9_endIf_X9_isIndex : GoodIn wsX9_endIf (va_wsS RX9 413 yX9_isIndex wsX9_isIndex) := goodIn_app (goodIn_of _ (by decide +kernel)) ggX9_endIf_X9_isIndex
set_option maxRecDepth 20000 in
theorem ggX9_endIf_X9_passes2 : GoodIn wsX9_endIf wsX9_passes2 := goodIn_r _ [31, 32, 33, 34, 5, 35, 36, 121, 122, 123, 124, 125, 126, 127, 128, 129, 130, 131, 132, 133, 134, 135, 136, 137, 138, 139, 140, 141, 142, 143, 144, 145, 146, 147, 148, 149, 150, 151, 152, 153, 154, 155, 156, 157, 158, 159, 160, 161] (by decide +kernel) (by decide +kernel)
set_option maxRecDepth 20000 in
theorem gX9_endIf_X9_passes2 : GoodIn wsX9_endIf (wsV RX9 332 RX9 yX9_passes2 wsX9_passes2) := goodIn_app (goodIn_of _ (by decide +kernel)) ggX9_endIf_X9_passes2
set_option maxRecDepth 20000 in
theorem ggX9_endIf_X9_keepAside : GoodIn wsX9_endIf wsX9_keepAside := goodIn_r _ [40, 41, 1, 121, 122, 123, 124, 125, 126, 127, 128, 129, 130, 131, 132, 133, 134, 135, 136, 137, 138, 139, 140, 141, 142, 143, 144, 145, 146, 147, 148, 149, 150, 151, 152, 153, 154, 155, 156, 157, 158, 159, 160, 161] (by decide +kernel) (by decide +kernel)
set_option maxRecDepth 20000 in
theorem gX9_endIf_X9_keepAside : GoodIn wsX9_endIf (wsV RX9 416 RX9 yX9_keepAside wsX9_keepAside) := goodIn_app (goodIn_of _ (by decide +kernel)) ggX9_endIf_X9_keepAside
set_option maxRecDepth 20000 in
theorem ggX9_endIf_X9_endOfShot : GoodIn wsX9_endIf wsX9_endOfShot := goodIn_r _ [45, 46, 47, 48, 49, 5, 50, 51, 52, 53, 54, 11, 55, 56, 57, 58, 59, 60, 61, 62, 63, 64, 65, 66, 15, 16, 17, 18, 19, 20, 21, 22, 12, 13, 14, 67, 68, 69, 70, 71, 72, 73, 74, 75, 76, 77, 78, 79, 80, 81, 82, 83, 26, 84, 85, 86, 87, 88, 89, 90, 91, 92, 93, 94, 95, 96, 97, 98, 99, 100, 101, 102, 103, 104, 105, 106, 107, 108, 109, 110, 111, 112, 113, 114, 115, 116, 121, 122, 123, 124, 125, 126, 127, 128, 129, 130, 131, 132, 133, 134, 135, 136, 137, 138, 139, 140, 141, 142, 143, 144, 145, 146, 147, 148, 149, 150, 151, 152, 153, 154, 155, 156, 157, 158, 159, 160, 161] (by decide +kernel) (by decide +kernel)
set_option maxRecDepth 20000 in
theorem gX9_endIf_X9_endOfShot : GoodIn wsX9_endIf (wsV RX9 390 RX9 yX9_endOfShot wsX9_endOfShot) := goodIn_app (goodIn_of _ (by decide +kernel)) ggX9_endIf_X9_endOfShot
set_option maxRecDepth 20000 in
theorem ggX9_endIf_X9_layBack : GoodIn wsX9_endIf wsX9_layBack := goodIn_r _ [120, 1, 41, 121, 122, 123, 124, 125, 126, 127, 128, 129, 130, 131, 132, 133, 134, 135, 136, 137, 138, 139, 140, 141, 142, 143, 144, 145, 146, 147, 148, 149, 150, 151, 152, 153, 154, 155, 156, 157, 158, 159, 160, 161] (by decide +kernel) (by decide +kernel)
set_option maxRecDepth 20000 in
theorem gX9_endIf_X9_layBack : GoodIn wsX9_endIf (wsV RX9 419 RX9 yX9_layBack wsX9_layBack) := goodIn_app (goodIn_of _ (by decide +kernel)) ggX9_endIf_X9_layBack
theorem dX9_endIf_0 : decode cX9_endIf 0 = .ok (.aload_n 0, 1) := by decide +kernel
theorem dX9_endIf_1 : decode cX9_endIf 1 = .ok (.aload_n 0, 1) := by decide +kernel
theorem dX9_endIf_2 : decode cX9_endIf 2 = .ok (.iload_n 1, 1) := by decide +kernel
theorem dX9_endIf_3 : decode cX9_endIf 3 = .ok (.invokevirtual 336, 3) := by decide +kernel
theorem dX9_endIf_6 : decode cX9_endIf 6 = .ok (.ifCond .eq 15, 3) := by decide +kernel
theorem dX9_endIf_9 : decode cX9_endIf 9 = .ok (.aload_n 0, 1) := by decide +kernel
theorem dX9_endIf_10 : decode cX9_endIf 10 = .ok (.iload_n 2, 1) := by decide +kernel
theorem dX9_endIf_11 : decode cX9_endIf 11 = .ok (.invokevirtual 140, 3) := by decide +kernel
theorem dX9_endIf_14 : decode cX9_endIf 14 = .ok (.ifCond .eq 7, 3) := by decide +kernel
theorem dX9_endIf_17 : decode cX9_endIf 17 = .ok (.iconst 1, 1) := by decide +kernel
theorem dX9_endIf_18 : decode cX9_endIf 18 = .ok (.goto 4, 3) := by decide +kernel
theorem dX9_endIf_21 : decode cX9_endIf 21 = .ok (.iconst 0, 1) := by decide +kernel
theorem dX9_endIf_22 : decode cX9_endIf 22 = .ok (.iload_n 3, 1) := by decide +kernel
theorem dX9_endIf_23 : decode cX9_endIf 23 = .ok (.invokestatic 413, 3) := by decide +kernel
theorem dX9_endIf_26 : decode cX9_endIf 26 = .ok (.invokevirtual 332, 3) := by decide +kernel
theorem dX9_endIf_29 : decode cX9_endIf 29 = .ok (.ifCond .ne 5, 3) := by decide +kernel
theorem dX9_endIf_32 : decode cX9_endIf 32 = .ok (.iconst 0, 1) := by decide +kernel
theorem dX9_endIf_33 : decode cX9_endIf 33 = .ok (.ireturn, 1) := by decide +kernel
theorem dX9_endIf_34 : decode cX9_endIf 34 = .ok (.aload_n 0, 1) := by decide +kernel
theorem dX9_endIf_35 : decode cX9_endIf 35 = .ok (.invokevirtual 416, 3) := by decide +kernel
theorem dX9_endIf_38 : decode cX9_endIf 38 = .ok (.aload_n 0, 1) := by decide +kernel
theorem dX9_endIf_39 : decode cX9_endIf 39 = .ok (.getfield 17, 3) := by decide +kernel
theorem dX9_endIf_42 : decode cX9_endIf 42 = .ok (.iconst 5, 1) := by decide +kernel
theorem dX9_endIf_43 : decode cX9_endIf 43 = .ok (.iconst 3, 1) := by decide +kernel
theorem dX9_endIf_44 : decode cX9_endIf 44 = .ok (.iload_n 2, 1) := by decide +kernel
theorem dX9_endIf_45 : decode cX9_endIf 45 = .ok (.imul, 1) := by decide +kernel
theorem dX9_endIf_46 : decode cX9_endIf 46 = .ok (.iadd, 1) := by decide +kernel
theorem dX9_endIf_47 : decode cX9_endIf 47 = .ok (.iconst 0, 1) := by decide +kernel
theorem dX9_endIf_48 : decode cX9_endIf 48 = .ok (.iadd, 1) := by decide +kernel
theorem dX9_endIf_49 : decode cX9_endIf 49 = .ok (.iload_n 3, 1) := by decide +kernel
theorem dX9_endIf_50 : decode cX9_endIf 50 = .ok (.iastore, 1) := by decide +kernel
theorem dX9_endIf_51 : decode cX9_endIf 51 = .ok (.aload_n 0, 1) := by decide +kernel
theorem dX9_endIf_52 : decode cX9_endIf 52 = .ok (.iload_n 1, 1) := by decide +kernel
theorem dX9_endIf_53 : decode cX9_endIf 53 = .ok (.invokevirtual 390, 3) := by decide +kernel
theorem dX9_endIf_56 : decode cX9_endIf 56 = .ok (.istore 4, 2) := by decide +kernel
theorem dX9_endIf_58 : decode cX9_endIf 58 = .ok (.aload_n 0, 1) := by decide +kernel
theorem dX9_endIf_59 : decode cX9_endIf 59 = .ok (.invokevirtual 419, 3) := by decide +kernel
theorem dX9_endIf_62 : decode cX9_endIf 62 = .ok (.iload 4, 2) := by decide +kernel
theorem dX9_endIf_64 : decode cX9_endIf 64 = .ok (.ireturn, 1) := by decide +kernel
set_option maxRecDepth 20000 in
theorem ggX9_bestWithout_X9_isShot : GoodIn wsX9_bestWithout wsX9_isShot := goodIn_r _ [11, 12, 13, 14, 10, 15, 16, 17, 18, 19, 122, 123, 124, 125, 126, 127, 128, 129, 130, 131, 132, 133, 134, 135, 136, 137, 138, 139, 140, 141, 142, 143, 144, 145, 146, 147, 148, 149, 150, 151, 152, 153, 154, 155, 156, 157, 158, 159, 160, 161, 162] (by decide +kernel) (by decide +kernel)
set_option maxRecDepth 20000 in
theorem gX9_bestWithout_X9_isShot : GoodIn wsX9_bestWithout (wsV RX9 336 RX9 yX9_isShot wsX9_isShot) := goodIn_app (goodIn_of _ (by decide +kernel)) ggX9_bestWithout_X9_isShot
set_option maxRecDepth 20000 in
theorem ggX9_bestWithout_X9_passes : GoodIn wsX9_bestWithout wsX9_passes := goodIn_r _ [23, 24, 25, 26, 10, 27, 28, 122, 123, 124, 125, 126, 127, 128, 129, 130, 131, 132, 133, 134, 135, 136, 137, 138, 139, 140, 141, 142, 143, 144, 145, 146, 147, 148, 149, 150, 151, 152, 153, 154, 155, 156, 157, 158, 159, 160, 161, 162] (by decide +kernel) (by decide +kernel)
set_option maxRecDepth 20000 in
theorem gX9_bestWithout_X9_passes : GoodIn wsX9_bestWithout (wsV RX9 193 RX9 yX9_passes wsX9_passes) := goodIn_app (goodIn_of _ (by decide +kernel)) ggX9_bestWithout_X9_passes
set_option maxRecDepth 20000 in
theorem ggX9_bestWithout_X9_layers : GoodIn wsX9_bestWithout wsX9_layers := goodIn_r _ [32, 16, 122, 123, 124, 125, 126, 127, 128, 129, 130, 131, 132, 133, 134, 135, 136, 137, 138, 139, 140, 141, 142, 143, 144, 145, 146, 147, 148, 149, 150, 151, 152, 153, 154, 155, 156, 157, 158, 159, 160, 161, 162] (by decide +kernel) (by decide +kernel)
set_option maxRecDepth 20000 in
theorem gX9_bestWithout_X9_layers : GoodIn wsX9_bestWithout (wsV RX9 90 RX9 yX9_layers wsX9_layers) := goodIn_app (goodIn_of _ (by decide +kernel)) ggX9_bestWithout_X9_layers
set_option maxRecDepth 20000 in
theorem ggX9_bestWithout_X9_keepAside : GoodIn wsX9_bestWithout wsX9_keepAside := goodIn_r _ [36, 37, 38, 122, 123, 124, 125, 126, 127, 128, 129, 130, 131, 132, 133, 134, 135, 136, 137, 138, 139, 140, 141, 142, 143, 144, 145, 146, 147, 148, 149, 150, 151, 152, 153, 154, 155, 156, 157, 158, 159, 160, 161, 162] (by decide +kernel) (by decide +kernel)
set_option maxRecDepth 20000 in
theorem gX9_bestWithout_X9_keepAside : GoodIn wsX9_bestWithout (wsV RX9 416 RX9 yX9_keepAside wsX9_keepAside) := goodIn_app (goodIn_of _ (by decide +kernel)) ggX9_bestWithout_X9_keepAside
set_option maxRecDepth 20000 in
theorem ggX9_bestWithout_X9_removeOne : GoodIn wsX9_bestWithout wsX9_removeOne := goodIn_r _ [42, 16, 29, 30, 31, 10, 32, 43, 44, 45, 46, 122, 123, 124, 125, 126, 127, 128, 129, 130, 131, 132, 133, 134, 135, 136, 137, 138, 139, 140, 141, 142, 143, 144, 145, 146, 147, 148, 149, 150, 151, 152, 153, 154, 155, 156, 157, 158, 159, 160, 161, 162] (by decide +kernel) (by decide +kernel)
set_option maxRecDepth 20000 in
theorem gX9_bestWithout_X9_removeOne : GoodIn wsX9_bestWithout (wsV RX9 422 RX9 yX9_removeOne wsX9_removeOne) := goodIn_app (goodIn_of _ (by decide +kernel)) ggX9_bestWithout_X9_removeOne
set_option maxRecDepth 20000 in
theorem ggX9_bestWithout_X9_followShot : GoodIn wsX9_bestWithout wsX9_followShot := goodIn_r _ [50, 51, 52, 53, 10, 54, 16, 55, 56, 57, 58, 59, 60, 61, 2, 62, 63, 64, 65, 66, 67, 68, 69, 70, 29, 30, 31, 32, 17, 18, 19, 71, 72, 73, 74, 75, 76, 77, 78, 3, 4, 5, 6, 79, 80, 81, 82, 83, 84, 85, 86, 87, 88, 89, 90, 91, 92, 93, 94, 95, 96, 97, 98, 99, 100, 101, 102, 103, 104, 105, 106, 107, 108, 109, 110, 111, 112, 113, 114, 115, 116, 117, 122, 123, 124, 125, 126, 127, 128, 129, 130, 131, 132, 133, 134, 135, 136, 137, 138, 139, 140, 141, 142, 143, 144, 145, 146, 147, 148, 149, 150, 151, 152, 153, 154, 155, 156, 157, 158, 159, 160, 161, 162] (by decide +kernel) (by decide +kernel)
set_option maxRecDepth 20000 in
theorem gX9_bestWithout_X9_followShot : GoodIn wsX9_bestWithout (wsV RX9 185 RX9 yX9_followShot wsX9_followShot) := goodIn_app (goodIn_of _ (by decide +kernel)) ggX9_bestWithout_X9_followShot
set_option maxRecDepth 20000 in
theorem ggX9_bestWithout_X9_layBack : GoodIn wsX9_bestWithout wsX9_layBack := goodIn_r _ [121, 38, 37, 122, 123, 124, 125, 126, 127, 128, 129, 130, 131, 132, 133, 134, 135, 136, 137, 138, 139, 140, 141, 142, 143, 144, 145, 146, 147, 148, 149, 150, 151, 152, 153, 154, 155, 156, 157, 158, 159, 160, 161, 162] (by decide +kernel) (by decide +kernel)
set_option maxRecDepth 20000 in
theorem gX9_bestWithout_X9_layBack : GoodIn wsX9_bestWithout (wsV RX9 419 RX9 yX9_layBack wsX9_layBack) := goodIn_app (goodIn_of _ (by decide +kernel)) ggX9_bestWithout_X9_layBack
theorem dX9_bestWithout_0 : decode cX9_bestWithout 0 = .ok (.aload_n 0, 1) := by decide +kernel
theorem dX9_bestWithout_1 : decode cX9_bestWithout 1 = .ok (.aload_n 0, 1) := by decide +kernel
theorem dX9_bestWithout_2 : decode cX9_bestWithout 2 = .ok (.iload_n 1, 1) := by decide +kernel
theorem dX9_bestWithout_3 : decode cX9_bestWithout 3 = .ok (.invokevirtual 336, 3) := by decide +kernel
theorem dX9_bestWithout_6 : decode cX9_bestWithout 6 = .ok (.invokevirtual 193, 3) := by decide +kernel
theorem dX9_bestWithout_9 : decode cX9_bestWithout 9 = .ok (.ifCond .ne 5, 3) := by decide +kernel
theorem dX9_bestWithout_12 : decode cX9_bestWithout 12 = .ok (.iconst 0, 1) := by decide +kernel
theorem dX9_bestWithout_13 : decode cX9_bestWithout 13 = .ok (.ireturn, 1) := by decide +kernel
theorem dX9_bestWithout_14 : decode cX9_bestWithout 14 = .ok (.iconst (-1), 1) := by decide +kernel
theorem dX9_bestWithout_15 : decode cX9_bestWithout 15 = .ok (.istore_n 2, 1) := by decide +kernel
theorem dX9_bestWithout_16 : decode cX9_bestWithout 16 = .ok (.ldc2_w 386, 3) := by decide +kernel
theorem dX9_bestWithout_19 : decode cX9_bestWithout 19 = .ok (.lstore_n 3, 1) := by decide +kernel
theorem dX9_bestWithout_20 : decode cX9_bestWithout 20 = .ok (.aload_n 0, 1) := by decide +kernel
theorem dX9_bestWithout_21 : decode cX9_bestWithout 21 = .ok (.invokevirtual 90, 3) := by decide +kernel
theorem dX9_bestWithout_24 : decode cX9_bestWithout 24 = .ok (.istore 5, 2) := by decide +kernel
theorem dX9_bestWithout_26 : decode cX9_bestWithout 26 = .ok (.iconst 0, 1) := by decide +kernel
theorem dX9_bestWithout_27 : decode cX9_bestWithout 27 = .ok (.istore 6, 2) := by decide +kernel
theorem dX9_bestWithout_29 : decode cX9_bestWithout 29 = .ok (.iload 6, 2) := by decide +kernel
theorem dX9_bestWithout_31 : decode cX9_bestWithout 31 = .ok (.iload 5, 2) := by decide +kernel
theorem dX9_bestWithout_33 : decode cX9_bestWithout 33 = .ok (.if_icmp .ge 59, 3) := by decide +kernel
theorem dX9_bestWithout_36 : decode cX9_bestWithout 36 = .ok (.iload 5, 2) := by decide +kernel
theorem dX9_bestWithout_38 : decode cX9_bestWithout 38 = .ok (.iconst 1, 1) := by decide +kernel
theorem dX9_bestWithout_39 : decode cX9_bestWithout 39 = .ok (.if_icmp .le 53, 3) := by decide +kernel
theorem dX9_bestWithout_42 : decode cX9_bestWithout 42 = .ok (.aload_n 0, 1) := by decide +kernel
theorem dX9_bestWithout_43 : decode cX9_bestWithout 43 = .ok (.invokevirtual 416, 3) := by decide +kernel
theorem dX9_bestWithout_46 : decode cX9_bestWithout 46 = .ok (.aload_n 0, 1) := by decide +kernel
theorem dX9_bestWithout_47 : decode cX9_bestWithout 47 = .ok (.iload 6, 2) := by decide +kernel
theorem dX9_bestWithout_49 : decode cX9_bestWithout 49 = .ok (.invokevirtual 422, 3) := by decide +kernel
theorem dX9_bestWithout_52 : decode cX9_bestWithout 52 = .ok (.aload_n 0, 1) := by decide +kernel
theorem dX9_bestWithout_53 : decode cX9_bestWithout 53 = .ok (.iload_n 1, 1) := by decide +kernel
theorem dX9_bestWithout_54 : decode cX9_bestWithout 54 = .ok (.invokevirtual 185, 3) := by decide +kernel
theorem dX9_bestWithout_57 : decode cX9_bestWithout 57 = .ok (.aload_n 0, 1) := by decide +kernel
theorem dX9_bestWithout_58 : decode cX9_bestWithout 58 = .ok (.invokevirtual 419, 3) := by decide +kernel
theorem dX9_bestWithout_61 : decode cX9_bestWithout 61 = .ok (.aload_n 0, 1) := by decide +kernel
theorem dX9_bestWithout_62 : decode cX9_bestWithout 62 = .ok (.getfield 119, 3) := by decide +kernel
theorem dX9_bestWithout_65 : decode cX9_bestWithout 65 = .ok (.lload_n 3, 1) := by decide +kernel
theorem dX9_bestWithout_66 : decode cX9_bestWithout 66 = .ok (.lcmp, 1) := by decide +kernel
theorem dX9_bestWithout_67 : decode cX9_bestWithout 67 = .ok (.ifCond .le 8, 3) := by decide +kernel
theorem dX9_bestWithout_70 : decode cX9_bestWithout 70 = .ok (.iload 6, 2) := by decide +kernel
theorem dX9_bestWithout_72 : decode cX9_bestWithout 72 = .ok (.goto 4, 3) := by decide +kernel
theorem dX9_bestWithout_75 : decode cX9_bestWithout 75 = .ok (.iload_n 2, 1) := by decide +kernel
theorem dX9_bestWithout_76 : decode cX9_bestWithout 76 = .ok (.istore_n 2, 1) := by decide +kernel
theorem dX9_bestWithout_77 : decode cX9_bestWithout 77 = .ok (.lload_n 3, 1) := by decide +kernel
theorem dX9_bestWithout_78 : decode cX9_bestWithout 78 = .ok (.aload_n 0, 1) := by decide +kernel
theorem dX9_bestWithout_79 : decode cX9_bestWithout 79 = .ok (.getfield 119, 3) := by decide +kernel
theorem dX9_bestWithout_82 : decode cX9_bestWithout 82 = .ok (.invokestatic 125, 3) := by decide +kernel
theorem dX9_bestWithout_85 : decode cX9_bestWithout 85 = .ok (.lstore_n 3, 1) := by decide +kernel
theorem dX9_bestWithout_86 : decode cX9_bestWithout 86 = .ok (.iinc 6 1, 3) := by decide +kernel
theorem dX9_bestWithout_89 : decode cX9_bestWithout 89 = .ok (.goto (-60), 3) := by decide +kernel
theorem dX9_bestWithout_92 : decode cX9_bestWithout 92 = .ok (.iload_n 2, 1) := by decide +kernel
theorem dX9_bestWithout_93 : decode cX9_bestWithout 93 = .ok (.ireturn, 1) := by decide +kernel
set_option maxRecDepth 20000 in
theorem ggX9_isThickness_X9_in : GoodIn wsX9_isThickness wsX9_in := goodIn_r _ [5] (by decide +kernel) (by decide +kernel)
set_option maxRecDepth 20000 in
theorem gX9_isThickness_X9_in : GoodIn wsX9_isThickness (va_wsS RX9 94 yX9_in wsX9_in) := goodIn_app (goodIn_of _ (by decide +kernel)) ggX9_isThickness_X9_in
theorem dX9_isThickness_0 : decode cX9_isThickness 0 = .ok (.iload_n 0, 1) := by decide +kernel
theorem dX9_isThickness_1 : decode cX9_isThickness 1 = .ok (.i2l, 1) := by decide +kernel
theorem dX9_isThickness_2 : decode cX9_isThickness 2 = .ok (.lconst 1, 1) := by decide +kernel
theorem dX9_isThickness_3 : decode cX9_isThickness 3 = .ok (.ldc2_w 425, 3) := by decide +kernel
theorem dX9_isThickness_6 : decode cX9_isThickness 6 = .ok (.invokestatic 94, 3) := by decide +kernel
theorem dX9_isThickness_9 : decode cX9_isThickness 9 = .ok (.ireturn, 1) := by decide +kernel
set_option maxRecDepth 20000 in
theorem ggX9_isLoss_X9_in : GoodIn wsX9_isLoss wsX9_in := goodIn_r _ [5] (by decide +kernel) (by decide +kernel)
set_option maxRecDepth 20000 in
theorem gX9_isLoss_X9_in : GoodIn wsX9_isLoss (va_wsS RX9 94 yX9_in wsX9_in) := goodIn_app (goodIn_of _ (by decide +kernel)) ggX9_isLoss_X9_in
theorem dX9_isLoss_0 : decode cX9_isLoss 0 = .ok (.iload_n 0, 1) := by decide +kernel
theorem dX9_isLoss_1 : decode cX9_isLoss 1 = .ok (.i2l, 1) := by decide +kernel
theorem dX9_isLoss_2 : decode cX9_isLoss 2 = .ok (.lconst 0, 1) := by decide +kernel
theorem dX9_isLoss_3 : decode cX9_isLoss 3 = .ok (.ldc2_w 427, 3) := by decide +kernel
theorem dX9_isLoss_6 : decode cX9_isLoss 6 = .ok (.invokestatic 94, 3) := by decide +kernel
theorem dX9_isLoss_9 : decode cX9_isLoss 9 = .ok (.ireturn, 1) := by decide +kernel
set_option maxRecDepth 20000 in
theorem ggX9_addLayer_X9_layers : GoodIn wsX9_addLayer wsX9_layers := goodIn_r _ [5, 6, 43, 44, 45, 46, 47, 48, 49, 50, 51, 52, 53, 54, 55, 56, 57, 58, 59, 60, 61, 62, 63, 64, 65, 66, 67, 68, 69, 70, 71, 72, 73, 74, 75, 76, 77, 78, 79, 80, 81, 82, 83] (by decide +kernel) (by decide +kernel)
set_option maxRecDepth 20000 in
theorem gX9_addLayer_X9_layers : GoodIn wsX9_addLayer (wsV RX9 90 RX9 yX9_layers wsX9_layers) := goodIn_app (goodIn_of _ (by decide +kernel)) ggX9_addLayer_X9_layers
set_option maxRecDepth 20000 in
theorem ggX9_addLayer_X9_in : GoodIn wsX9_addLayer wsX9_in := goodIn_r _ [9] (by decide +kernel) (by decide +kernel)
set_option maxRecDepth 20000 in
theorem gX9_addLayer_X9_in : GoodIn wsX9_addLayer (va_wsS RX9 94 yX9_in wsX9_in) := goodIn_app (goodIn_of _ (by decide +kernel)) ggX9_addLayer_X9_in
set_option maxRecDepth 20000 in
theorem ggX9_addLayer_X9_isIndex : GoodIn wsX9_addLayer wsX9_isIndex := goodIn_r _ [12, 13, 14, 7, 8, 4, 9] (by decide +kernel) (by decide +kernel)
set_option maxRecDepth 20000 in
theorem gX9_addLayer_X9_isIndex : GoodIn wsX9_addLayer (va_wsS RX9 413 yX9_isIndex wsX9_isIndex) := goodIn_app (goodIn_of _ (by decide +kernel)) ggX9_addLayer_X9_isIndex
set_option maxRecDepth 20000 in
theorem ggX9_addLayer_X9_isThickness : GoodIn wsX9_addLayer wsX9_isThickness := goodIn_r _ [17, 18, 7, 8, 4, 9] (by decide +kernel) (by decide +kernel)
set_option maxRecDepth 20000 in
theorem gX9_addLayer_X9_isThickness : GoodIn wsX9_addLayer (va_wsS RX9 429 yX9_isThickness wsX9_isThickness) := goodIn_app (goodIn_of _ (by decide +kernel)) ggX9_addLayer_X9_isThickness
set_option maxRecDepth 20000 in
theorem ggX9_addLayer_X9_isLoss : GoodIn wsX9_addLayer wsX9_isLoss := goodIn_r _ [21, 22, 7, 8, 4, 9] (by decide +kernel) (by decide +kernel)
set_option maxRecDepth 20000 in
theorem gX9_addLayer_X9_isLoss : GoodIn wsX9_addLayer (va_wsS RX9 432 yX9_isLoss wsX9_isLoss) := goodIn_app (goodIn_of _ (by decide +kernel)) ggX9_addLayer_X9_isLoss
set_option maxRecDepth 20000 in
theorem ggX9_addLayer_X9_passes3 : GoodIn wsX9_addLayer wsX9_passes3 := goodIn_r _ [26, 27, 43, 44, 45, 46, 47, 48, 49, 50, 51, 52, 53, 54, 55, 56, 57, 58, 59, 60, 61, 62, 63, 64, 65, 66, 67, 68, 69, 70, 71, 72, 73, 74, 75, 76, 77, 78, 79, 80, 81, 82, 83] (by decide +kernel) (by decide +kernel)
set_option maxRecDepth 20000 in
theorem gX9_addLayer_X9_passes3 : GoodIn wsX9_addLayer (wsV RX9 7 RX9 yX9_passes3 wsX9_passes3) := goodIn_app (goodIn_of _ (by decide +kernel)) ggX9_addLayer_X9_passes3
set_option maxRecDepth 20000 in
theorem ggX9_addLayer_X9_remember : GoodIn wsX9_addLayer wsX9_remember := goodIn_r _ [31, 32, 33, 34, 43, 44, 45, 46, 47, 48, 49, 50, 51, 52, 53, 54, 55, 56, 57, 58, 59, 60, 61, 62, 63, 64, 65, 66, 67, 68, 69, 70, 71, 72, 73, 74, 75, 76, 77, 78, 79, 80, 81, 82, 83] (by decide +kernel) (by decide +kernel)
set_option maxRecDepth 20000 in
theorem gX9_addLayer_X9_remember : GoodIn wsX9_addLayer (wsV RX9 322 RX9 yX9_remember wsX9_remember) := goodIn_app (goodIn_of _ (by decide +kernel)) ggX9_addLayer_X9_remember
set_option maxRecDepth 20000 in
theorem ggX9_addLayer_X9_addOne : GoodIn wsX9_addLayer wsX9_addOne := goodIn_r _ [38, 6, 1, 2, 3, 4, 5, 39, 40, 41, 42, 43, 44, 45, 46, 47, 48, 49, 50, 51, 52, 53, 54, 55, 56, 57, 58, 59, 60, 61, 62, 63, 64, 65, 66, 67, 68, 69, 70, 71, 72, 73, 74, 75, 76, 77, 78, 79, 80, 81, 82, 83] (by decide +kernel) (by decide +kernel)
set_option maxRecDepth 20000 in
theorem gX9_addLayer_X9_addOne : GoodIn wsX9_addLayer (wsV RX9 86 RX9 yX9_addOne wsX9_addOne) := goodIn_app (goodIn_of _ (by decide +kernel)) ggX9_addLayer_X9_addOne
theorem dX9_addLayer_0 : decode cX9_addLayer 0 = .ok (.aload_n 0, 1) := by decide +kernel
theorem dX9_addLayer_1 : decode cX9_addLayer 1 = .ok (.iload_n 1, 1) := by decide +kernel
theorem dX9_addLayer_2 : decode cX9_addLayer 2 = .ok (.i2l, 1) := by decide +kernel
theorem dX9_addLayer_3 : decode cX9_addLayer 3 = .ok (.lconst 0, 1) := by decide +kernel
theorem dX9_addLayer_4 : decode cX9_addLayer 4 = .ok (.aload_n 0, 1) := by decide +kernel
theorem dX9_addLayer_5 : decode cX9_addLayer 5 = .ok (.invokevirtual 90, 3) := by decide +kernel
theorem dX9_addLayer_8 : decode cX9_addLayer 8 = .ok (.i2l, 1) := by decide +kernel
theorem dX9_addLayer_9 : decode cX9_addLayer 9 = .ok (.invokestatic 94, 3) := by decide +kernel
theorem dX9_addLayer_12 : decode cX9_addLayer 12 = .ok (.iload_n 2, 1) := by decide +kernel
theorem dX9_addLayer_13 : decode cX9_addLayer 13 = .ok (.invokestatic 413, 3) := by decide +kernel
theorem dX9_addLayer_16 : decode cX9_addLayer 16 = .ok (.ifCond .eq 22, 3) := by decide +kernel
theorem dX9_addLayer_19 : decode cX9_addLayer 19 = .ok (.iload_n 3, 1) := by decide +kernel
theorem dX9_addLayer_20 : decode cX9_addLayer 20 = .ok (.invokestatic 429, 3) := by decide +kernel
theorem dX9_addLayer_23 : decode cX9_addLayer 23 = .ok (.ifCond .eq 15, 3) := by decide +kernel
theorem dX9_addLayer_26 : decode cX9_addLayer 26 = .ok (.iload 4, 2) := by decide +kernel
theorem dX9_addLayer_28 : decode cX9_addLayer 28 = .ok (.invokestatic 432, 3) := by decide +kernel
theorem dX9_addLayer_31 : decode cX9_addLayer 31 = .ok (.ifCond .eq 7, 3) := by decide +kernel
theorem dX9_addLayer_34 : decode cX9_addLayer 34 = .ok (.iconst 1, 1) := by decide +kernel
theorem dX9_addLayer_35 : decode cX9_addLayer 35 = .ok (.goto 4, 3) := by decide +kernel
theorem dX9_addLayer_38 : decode cX9_addLayer 38 = .ok (.iconst 0, 1) := by decide +kernel
theorem dX9_addLayer_39 : decode cX9_addLayer 39 = .ok (.aload_n 0, 1) := by decide +kernel
theorem dX9_addLayer_40 : decode cX9_addLayer 40 = .ok (.invokevirtual 90, 3) := by decide +kernel
theorem dX9_addLayer_43 : decode cX9_addLayer 43 = .ok (.bipush 10, 2) := by decide +kernel
theorem dX9_addLayer_45 : decode cX9_addLayer 45 = .ok (.if_icmp .ge 7, 3) := by decide +kernel
theorem dX9_addLayer_48 : decode cX9_addLayer 48 = .ok (.iconst 1, 1) := by decide +kernel
theorem dX9_addLayer_49 : decode cX9_addLayer 49 = .ok (.goto 4, 3) := by decide +kernel
theorem dX9_addLayer_52 : decode cX9_addLayer 52 = .ok (.iconst 0, 1) := by decide +kernel
theorem dX9_addLayer_53 : decode cX9_addLayer 53 = .ok (.invokevirtual 7, 3) := by decide +kernel
theorem dX9_addLayer_56 : decode cX9_addLayer 56 = .ok (.ifCond .ne 5, 3) := by decide +kernel
theorem dX9_addLayer_59 : decode cX9_addLayer 59 = .ok (.iconst 0, 1) := by decide +kernel
theorem dX9_addLayer_60 : decode cX9_addLayer 60 = .ok (.ireturn, 1) := by decide +kernel
theorem dX9_addLayer_61 : decode cX9_addLayer 61 = .ok (.aload_n 0, 1) := by decide +kernel
theorem dX9_addLayer_62 : decode cX9_addLayer 62 = .ok (.invokevirtual 322, 3) := by decide +kernel
theorem dX9_addLayer_65 : decode cX9_addLayer 65 = .ok (.aload_n 0, 1) := by decide +kernel
theorem dX9_addLayer_66 : decode cX9_addLayer 66 = .ok (.iload_n 1, 1) := by decide +kernel
theorem dX9_addLayer_67 : decode cX9_addLayer 67 = .ok (.iload_n 2, 1) := by decide +kernel
theorem dX9_addLayer_68 : decode cX9_addLayer 68 = .ok (.iload_n 3, 1) := by decide +kernel
theorem dX9_addLayer_69 : decode cX9_addLayer 69 = .ok (.iload 4, 2) := by decide +kernel
theorem dX9_addLayer_71 : decode cX9_addLayer 71 = .ok (.invokevirtual 86, 3) := by decide +kernel
theorem dX9_addLayer_74 : decode cX9_addLayer 74 = .ok (.aload_n 0, 1) := by decide +kernel
theorem dX9_addLayer_75 : decode cX9_addLayer 75 = .ok (.invokevirtual 90, 3) := by decide +kernel
theorem dX9_addLayer_78 : decode cX9_addLayer 78 = .ok (.ireturn, 1) := by decide +kernel
set_option maxRecDepth 20000 in
theorem ggX9_removeLayer_X9_isLayer : GoodIn wsX9_removeLayer wsX9_isLayer := goodIn_r _ [5, 6, 7, 8, 4, 9, 10, 11, 12, 13, 38, 39, 40, 41, 42, 43, 44, 45, 46, 47, 48, 49, 50, 51, 52, 53, 54, 55, 56, 57, 58, 59, 60, 61, 62, 63, 64, 65, 66, 67, 68, 69, 70, 71, 72, 73, 74, 75, 76, 77, 78] (by decide +kernel) (by decide +kernel)
set_option maxRecDepth 20000 in
theorem gX9_removeLayer_X9_isLayer : GoodIn wsX9_removeLayer (wsV RX9 140 RX9 yX9_isLayer wsX9_isLayer) := goodIn_app (goodIn_of _ (by decide +kernel)) ggX9_removeLayer_X9_isLayer
set_option maxRecDepth 20000 in
theorem ggX9_removeLayer_X9_layers : GoodIn wsX9_removeLayer wsX9_layers := goodIn_r _ [9, 10, 38, 39, 40, 41, 42, 43, 44, 45, 46, 47, 48, 49, 50, 51, 52, 53, 54, 55, 56, 57, 58, 59, 60, 61, 62, 63, 64, 65, 66, 67, 68, 69, 70, 71, 72, 73, 74, 75, 76, 77, 78] (by decide +kernel) (by decide +kernel)
set_option maxRecDepth 20000 in
theorem gX9_removeLayer_X9_layers : GoodIn wsX9_removeLayer (wsV RX9 90 RX9 yX9_layers wsX9_layers) := goodIn_app (goodIn_of _ (by decide +kernel)) ggX9_removeLayer_X9_layers
set_option maxRecDepth 20000 in
theorem ggX9_removeLayer_X9_passes2 : GoodIn wsX9_removeLayer wsX9_passes2 := goodIn_r _ [17, 18, 19, 20, 4, 21, 22, 38, 39, 40, 41, 42, 43, 44, 45, 46, 47, 48, 49, 50, 51, 52, 53, 54, 55, 56, 57, 58, 59, 60, 61, 62, 63, 64, 65, 66, 67, 68, 69, 70, 71, 72, 73, 74, 75, 76, 77, 78] (by decide +kernel) (by decide +kernel)
set_option maxRecDepth 20000 in
theorem gX9_removeLayer_X9_passes2 : GoodIn wsX9_removeLayer (wsV RX9 332 RX9 yX9_passes2 wsX9_passes2) := goodIn_app (goodIn_of _ (by decide +kernel)) ggX9_removeLayer_X9_passes2
set_option maxRecDepth 20000 in
theorem ggX9_removeLayer_X9_remember : GoodIn wsX9_removeLayer wsX9_remember := goodIn_r _ [26, 27, 28, 29, 38, 39, 40, 41, 42, 43, 44, 45, 46, 47, 48, 49, 50, 51, 52, 53, 54, 55, 56, 57, 58, 59, 60, 61, 62, 63, 64, 65, 66, 67, 68, 69, 70, 71, 72, 73, 74, 75, 76, 77, 78] (by decide +kernel) (by decide +kernel)
set_option maxRecDepth 20000 in
theorem gX9_removeLayer_X9_remember : GoodIn wsX9_removeLayer (wsV RX9 322 RX9 yX9_remember wsX9_remember) := goodIn_app (goodIn_of _ (by decide +kernel)) ggX9_removeLayer_X9_remember
set_option maxRecDepth 20000 in
theorem ggX9_removeLayer_X9_removeOne : GoodIn wsX9_removeLayer wsX9_removeOne := goodIn_r _ [33, 10, 6, 7, 8, 4, 9, 34, 35, 36, 37, 38, 39, 40, 41, 42, 43, 44, 45, 46, 47, 48, 49, 50, 51, 52, 53, 54, 55, 56, 57, 58, 59, 60, 61, 62, 63, 64, 65, 66, 67, 68, 69, 70, 71, 72, 73, 74, 75, 76, 77, 78] (by decide +kernel) (by decide +kernel)
set_option maxRecDepth 20000 in
theorem gX9_removeLayer_X9_removeOne : GoodIn wsX9_removeLayer (wsV RX9 422 RX9 yX9_removeOne wsX9_removeOne) := goodIn_app (goodIn_of _ (by decide +kernel)) ggX9_removeLayer_X9_removeOne
theorem dX9_removeLayer_0 : decode cX9_removeLayer 0 = .ok (.aload_n 0, 1) := by decide +kernel
theorem dX9_removeLayer_1 : decode cX9_removeLayer 1 = .ok (.aload_n 0, 1) := by decide +kernel
theorem dX9_removeLayer_2 : decode cX9_removeLayer 2 = .ok (.iload_n 1, 1) := by decide +kernel
theorem dX9_removeLayer_3 : decode cX9_removeLayer 3 = .ok (.invokevirtual 140, 3) := by decide +kernel
theorem dX9_removeLayer_6 : decode cX9_removeLayer 6 = .ok (.aload_n 0, 1) := by decide +kernel
theorem dX9_removeLayer_7 : decode cX9_removeLayer 7 = .ok (.invokevirtual 90, 3) := by decide +kernel
theorem dX9_removeLayer_10 : decode cX9_removeLayer 10 = .ok (.iconst 1, 1) := by decide +kernel
theorem dX9_removeLayer_11 : decode cX9_removeLayer 11 = .ok (.if_icmp .le 7, 3) := by decide +kernel
theorem dX9_removeLayer_14 : decode cX9_removeLayer 14 = .ok (.iconst 1, 1) := by decide +kernel
theorem dX9_removeLayer_15 : decode cX9_removeLayer 15 = .ok (.goto 4, 3) := by decide +kernel
theorem dX9_removeLayer_18 : decode cX9_removeLayer 18 = .ok (.iconst 0, 1) := by decide +kernel
theorem dX9_removeLayer_19 : decode cX9_removeLayer 19 = .ok (.invokevirtual 332, 3) := by decide +kernel
theorem dX9_removeLayer_22 : decode cX9_removeLayer 22 = .ok (.ifCond .ne 5, 3) := by decide +kernel
theorem dX9_removeLayer_25 : decode cX9_removeLayer 25 = .ok (.iconst 0, 1) := by decide +kernel
theorem dX9_removeLayer_26 : decode cX9_removeLayer 26 = .ok (.ireturn, 1) := by decide +kernel
theorem dX9_removeLayer_27 : decode cX9_removeLayer 27 = .ok (.aload_n 0, 1) := by decide +kernel
theorem dX9_removeLayer_28 : decode cX9_removeLayer 28 = .ok (.invokevirtual 322, 3) := by decide +kernel
theorem dX9_removeLayer_31 : decode cX9_removeLayer 31 = .ok (.aload_n 0, 1) := by decide +kernel
theorem dX9_removeLayer_32 : decode cX9_removeLayer 32 = .ok (.iload_n 1, 1) := by decide +kernel
theorem dX9_removeLayer_33 : decode cX9_removeLayer 33 = .ok (.invokevirtual 422, 3) := by decide +kernel
theorem dX9_removeLayer_36 : decode cX9_removeLayer 36 = .ok (.aload_n 0, 1) := by decide +kernel
theorem dX9_removeLayer_37 : decode cX9_removeLayer 37 = .ok (.invokevirtual 90, 3) := by decide +kernel
theorem dX9_removeLayer_40 : decode cX9_removeLayer 40 = .ok (.ireturn, 1) := by decide +kernel
set_option maxRecDepth 20000 in
theorem ggX9_isValue_X9_isIndex : GoodIn wsX9_isValue wsX9_isIndex := goodIn_r _ [4, 5, 6, 7, 8, 3, 9] (by decide +kernel) (by decide +kernel)
set_option maxRecDepth 20000 in
theorem gX9_isValue_X9_isIndex : GoodIn wsX9_isValue (va_wsS RX9 413 yX9_isIndex wsX9_isIndex) := goodIn_app (goodIn_of _ (by decide +kernel)) ggX9_isValue_X9_isIndex
set_option maxRecDepth 20000 in
theorem ggX9_isValue_X9_isThickness : GoodIn wsX9_isValue wsX9_isThickness := goodIn_r _ [12, 13, 7, 8, 3, 9] (by decide +kernel) (by decide +kernel)
set_option maxRecDepth 20000 in
theorem gX9_isValue_X9_isThickness : GoodIn wsX9_isValue (va_wsS RX9 429 yX9_isThickness wsX9_isThickness) := goodIn_app (goodIn_of _ (by decide +kernel)) ggX9_isValue_X9_isThickness
set_option maxRecDepth 20000 in
theorem ggX9_isValue_X9_isLoss : GoodIn wsX9_isValue wsX9_isLoss := goodIn_r _ [16, 17, 7, 8, 3, 9] (by decide +kernel) (by decide +kernel)
set_option maxRecDepth 20000 in
theorem gX9_isValue_X9_isLoss : GoodIn wsX9_isValue (va_wsS RX9 432 yX9_isLoss wsX9_isLoss) := goodIn_app (goodIn_of _ (by decide +kernel)) ggX9_isValue_X9_isLoss
theorem dX9_isValue_0 : decode cX9_isValue 0 = .ok (.iload_n 0, 1) := by decide +kernel
theorem dX9_isValue_1 : decode cX9_isValue 1 = .ok (.tableswitch 42 0 2 #[27, 32, 37], 27) := by decide +kernel
theorem dX9_isValue_28 : decode cX9_isValue 28 = .ok (.iload_n 1, 1) := by decide +kernel
theorem dX9_isValue_29 : decode cX9_isValue 29 = .ok (.invokestatic 413, 3) := by decide +kernel
theorem dX9_isValue_32 : decode cX9_isValue 32 = .ok (.ireturn, 1) := by decide +kernel
theorem dX9_isValue_33 : decode cX9_isValue 33 = .ok (.iload_n 1, 1) := by decide +kernel
theorem dX9_isValue_34 : decode cX9_isValue 34 = .ok (.invokestatic 429, 3) := by decide +kernel
theorem dX9_isValue_37 : decode cX9_isValue 37 = .ok (.ireturn, 1) := by decide +kernel
theorem dX9_isValue_38 : decode cX9_isValue 38 = .ok (.iload_n 1, 1) := by decide +kernel
theorem dX9_isValue_39 : decode cX9_isValue 39 = .ok (.invokestatic 432, 3) := by decide +kernel
theorem dX9_isValue_42 : decode cX9_isValue 42 = .ok (.ireturn, 1) := by decide +kernel
theorem dX9_isValue_43 : decode cX9_isValue 43 = .ok (.iconst 0, 1) := by decide +kernel
theorem dX9_isValue_44 : decode cX9_isValue 44 = .ok (.ireturn, 1) := by decide +kernel
set_option maxRecDepth 20000 in
theorem ggX9_becomes_X9_remember : GoodIn wsX9_becomes wsX9_remember := goodIn_r _ [6, 7, 8, 1, 9, 10, 11, 12, 13, 14, 15, 16, 17, 18, 19, 20, 21, 22, 23, 24, 25, 26, 27, 28, 29, 30, 31, 32, 33, 34, 35, 36, 37, 38, 39, 40, 41, 42, 43, 44, 45, 46, 47, 48, 49] (by decide +kernel) (by decide +kernel)
set_option maxRecDepth 20000 in
theorem gX9_becomes_X9_remember : GoodIn wsX9_becomes (wsV RX9 322 RX9 yX9_remember wsX9_remember) := goodIn_app (goodIn_of _ (by decide +kernel)) ggX9_becomes_X9_remember
theorem dX9_becomes_0 : decode cX9_becomes 0 = .ok (.aload_n 0, 1) := by decide +kernel
theorem dX9_becomes_1 : decode cX9_becomes 1 = .ok (.invokevirtual 322, 3) := by decide +kernel
theorem dX9_becomes_4 : decode cX9_becomes 4 = .ok (.aload_n 0, 1) := by decide +kernel
theorem dX9_becomes_5 : decode cX9_becomes 5 = .ok (.getfield 17, 3) := by decide +kernel
theorem dX9_becomes_8 : decode cX9_becomes 8 = .ok (.iload_n 1, 1) := by decide +kernel
theorem dX9_becomes_9 : decode cX9_becomes 9 = .ok (.iaload, 1) := by decide +kernel
theorem dX9_becomes_10 : decode cX9_becomes 10 = .ok (.istore_n 3, 1) := by decide +kernel
theorem dX9_becomes_11 : decode cX9_becomes 11 = .ok (.aload_n 0, 1) := by decide +kernel
theorem dX9_becomes_12 : decode cX9_becomes 12 = .ok (.getfield 17, 3) := by decide +kernel
theorem dX9_becomes_15 : decode cX9_becomes 15 = .ok (.iload_n 1, 1) := by decide +kernel
theorem dX9_becomes_16 : decode cX9_becomes 16 = .ok (.iload_n 2, 1) := by decide +kernel
theorem dX9_becomes_17 : decode cX9_becomes 17 = .ok (.iastore, 1) := by decide +kernel
theorem dX9_becomes_18 : decode cX9_becomes 18 = .ok (.iload_n 3, 1) := by decide +kernel
theorem dX9_becomes_19 : decode cX9_becomes 19 = .ok (.ireturn, 1) := by decide +kernel
set_option maxRecDepth 20000 in
theorem ggX9_setLayer_X9_isLayer : GoodIn wsX9_setLayer wsX9_isLayer := goodIn_r _ [5, 6, 7, 8, 4, 9, 10, 11, 12, 13, 50, 51, 52, 53, 54, 55, 56, 57, 58, 59, 60, 61, 62, 63, 64, 65, 66, 67, 68, 69, 70, 71, 72, 73, 74, 75, 76, 77, 78, 79, 80, 81, 82, 83, 84, 85, 86, 87, 88, 89, 90] (by decide +kernel) (by decide +kernel)
set_option maxRecDepth 20000 in
theorem gX9_setLayer_X9_isLayer : GoodIn wsX9_setLayer (wsV RX9 140 RX9 yX9_isLayer wsX9_isLayer) := goodIn_app (goodIn_of _ (by decide +kernel)) ggX9_setLayer_X9_isLayer
set_option maxRecDepth 20000 in
theorem ggX9_setLayer_X9_isValue : GoodIn wsX9_setLayer wsX9_isValue := goodIn_r _ [16, 17, 18, 4, 19, 20, 21, 11, 12, 13, 22, 23, 24, 25, 26, 27, 28, 29] (by decide +kernel) (by decide +kernel)
set_option maxRecDepth 20000 in
theorem gX9_setLayer_X9_isValue : GoodIn wsX9_setLayer (va_wsS RX9 435 yX9_isValue wsX9_isValue) := goodIn_app (goodIn_of _ (by decide +kernel)) ggX9_setLayer_X9_isValue
set_option maxRecDepth 20000 in
theorem ggX9_setLayer_X9_passes2 : GoodIn wsX9_setLayer wsX9_passes2 := goodIn_r _ [33, 34, 35, 36, 4, 37, 38, 50, 51, 52, 53, 54, 55, 56, 57, 58, 59, 60, 61, 62, 63, 64, 65, 66, 67, 68, 69, 70, 71, 72, 73, 74, 75, 76, 77, 78, 79, 80, 81, 82, 83, 84, 85, 86, 87, 88, 89, 90] (by decide +kernel) (by decide +kernel)
set_option maxRecDepth 20000 in
theorem gX9_setLayer_X9_passes2 : GoodIn wsX9_setLayer (wsV RX9 332 RX9 yX9_passes2 wsX9_passes2) := goodIn_app (goodIn_of _ (by decide +kernel)) ggX9_setLayer_X9_passes2
set_option maxRecDepth 20000 in
theorem ggX9_setLayer_X9_becomes : GoodIn wsX9_setLayer wsX9_becomes := goodIn_r _ [42, 43, 44, 45, 46, 4, 47, 48, 49, 50, 51, 52, 53, 54, 55, 56, 57, 58, 59, 60, 61, 62, 63, 64, 65, 66, 67, 68, 69, 70, 71, 72, 73, 74, 75, 76, 77, 78, 79, 80, 81, 82, 83, 84, 85, 86, 87, 88, 89, 90] (by decide +kernel) (by decide +kernel)
set_option maxRecDepth 20000 in
theorem gX9_setLayer_X9_becomes : GoodIn wsX9_setLayer (wsV RX9 438 RX9 yX9_becomes wsX9_becomes) := goodIn_app (goodIn_of _ (by decide +kernel)) ggX9_setLayer_X9_becomes
theorem dX9_setLayer_0 : decode cX9_setLayer 0 = .ok (.aload_n 0, 1) := by decide +kernel
theorem dX9_setLayer_1 : decode cX9_setLayer 1 = .ok (.aload_n 0, 1) := by decide +kernel
theorem dX9_setLayer_2 : decode cX9_setLayer 2 = .ok (.iload_n 1, 1) := by decide +kernel
theorem dX9_setLayer_3 : decode cX9_setLayer 3 = .ok (.invokevirtual 140, 3) := by decide +kernel
theorem dX9_setLayer_6 : decode cX9_setLayer 6 = .ok (.iload_n 2, 1) := by decide +kernel
theorem dX9_setLayer_7 : decode cX9_setLayer 7 = .ok (.iload_n 3, 1) := by decide +kernel
theorem dX9_setLayer_8 : decode cX9_setLayer 8 = .ok (.invokestatic 435, 3) := by decide +kernel
theorem dX9_setLayer_11 : decode cX9_setLayer 11 = .ok (.invokevirtual 332, 3) := by decide +kernel
theorem dX9_setLayer_14 : decode cX9_setLayer 14 = .ok (.ifCond .eq 18, 3) := by decide +kernel
theorem dX9_setLayer_17 : decode cX9_setLayer 17 = .ok (.aload_n 0, 1) := by decide +kernel
theorem dX9_setLayer_18 : decode cX9_setLayer 18 = .ok (.iconst 5, 1) := by decide +kernel
theorem dX9_setLayer_19 : decode cX9_setLayer 19 = .ok (.iconst 3, 1) := by decide +kernel
theorem dX9_setLayer_20 : decode cX9_setLayer 20 = .ok (.iload_n 1, 1) := by decide +kernel
theorem dX9_setLayer_21 : decode cX9_setLayer 21 = .ok (.imul, 1) := by decide +kernel
theorem dX9_setLayer_22 : decode cX9_setLayer 22 = .ok (.iadd, 1) := by decide +kernel
theorem dX9_setLayer_23 : decode cX9_setLayer 23 = .ok (.iload_n 2, 1) := by decide +kernel
theorem dX9_setLayer_24 : decode cX9_setLayer 24 = .ok (.iadd, 1) := by decide +kernel
theorem dX9_setLayer_25 : decode cX9_setLayer 25 = .ok (.iload_n 3, 1) := by decide +kernel
theorem dX9_setLayer_26 : decode cX9_setLayer 26 = .ok (.invokevirtual 438, 3) := by decide +kernel
theorem dX9_setLayer_29 : decode cX9_setLayer 29 = .ok (.goto 4, 3) := by decide +kernel
theorem dX9_setLayer_32 : decode cX9_setLayer 32 = .ok (.iconst 0, 1) := by decide +kernel
theorem dX9_setLayer_33 : decode cX9_setLayer 33 = .ok (.ireturn, 1) := by decide +kernel
set_option maxRecDepth 20000 in
theorem ggX9_swapLayers_X9_isLayer : GoodIn wsX9_swapLayers wsX9_isLayer := goodIn_r _ [7, 8, 9, 10, 6, 11, 12, 13, 14, 15, 111, 112, 113, 114, 115, 116, 117, 118, 119, 120, 121, 122, 123, 124, 125, 126, 127, 128, 129, 130, 131, 132, 133, 134, 135, 136, 137, 138, 139, 140, 141, 142, 143, 144, 145, 146, 147, 148, 149, 150, 151] (by decide +kernel) (by decide +kernel)
set_option maxRecDepth 20000 in
theorem gX9_swapLayers_X9_isLayer : GoodIn wsX9_swapLayers (wsV RX9 140 RX9 yX9_isLayer wsX9_isLayer) := goodIn_app (goodIn_of _ (by decide +kernel)) ggX9_swapLayers_X9_isLayer
set_option maxRecDepth 20000 in
theorem ggX9_swapLayers_X9_passes2 : GoodIn wsX9_swapLayers wsX9_passes2 := goodIn_r _ [19, 20, 21, 22, 6, 23, 24, 111, 112, 113, 114, 115, 116, 117, 118, 119, 120, 121, 122, 123, 124, 125, 126, 127, 128, 129, 130, 131, 132, 133, 134, 135, 136, 137, 138, 139, 140, 141, 142, 143, 144, 145, 146, 147, 148, 149, 150, 151] (by decide +kernel) (by decide +kernel)
set_option maxRecDepth 20000 in
theorem gX9_swapLayers_X9_passes2 : GoodIn wsX9_swapLayers (wsV RX9 332 RX9 yX9_passes2 wsX9_passes2) := goodIn_app (goodIn_of _ (by decide +kernel)) ggX9_swapLayers_X9_passes2
set_option maxRecDepth 20000 in
theorem ggX9_swapLayers_X9_remember : GoodIn wsX9_swapLayers wsX9_remember := goodIn_r _ [28, 29, 30, 2, 111, 112, 113, 114, 115, 116, 117, 118, 119, 120, 121, 122, 123, 124, 125, 126, 127, 128, 129, 130, 131, 132, 133, 134, 135, 136, 137, 138, 139, 140, 141, 142, 143, 144, 145, 146, 147, 148, 149, 150, 151] (by decide +kernel) (by decide +kernel)
set_option maxRecDepth 20000 in
theorem gX9_swapLayers_X9_remember : GoodIn wsX9_swapLayers (wsV RX9 322 RX9 yX9_remember wsX9_remember) := goodIn_app (goodIn_of _ (by decide +kernel)) ggX9_swapLayers_X9_remember
set_option maxRecDepth 20000 in
theorem ggX9_swapLayers_X9_shots : GoodIn wsX9_swapLayers wsX9_shots := goodIn_r _ [34, 12, 111, 112, 113, 114, 115, 116, 117, 118, 119, 120, 121, 122, 123, 124, 125, 126, 127, 128, 129, 130, 131, 132, 133, 134, 135, 136, 137, 138, 139, 140, 141, 142, 143, 144, 145, 146, 147, 148, 149, 150, 151] (by decide +kernel) (by decide +kernel)
set_option maxRecDepth 20000 in
theorem gX9_swapLayers_X9_shots : GoodIn wsX9_swapLayers (wsV RX9 98 RX9 yX9_shots wsX9_shots) := goodIn_app (goodIn_of _ (by decide +kernel)) ggX9_swapLayers_X9_shots
set_option maxRecDepth 20000 in
theorem ggX9_swapLayers_X9_endOfShot : GoodIn wsX9_swapLayers wsX9_endOfShot := goodIn_r _ [38, 39, 40, 41, 42, 6, 43, 44, 45, 46, 47, 12, 48, 49, 50, 51, 52, 53, 54, 55, 56, 57, 58, 59, 3, 4, 5, 7, 8, 9, 10, 11, 13, 14, 15, 60, 61, 62, 63, 64, 65, 66, 67, 68, 69, 70, 71, 72, 73, 74, 75, 76, 77, 78, 79, 80, 81, 82, 83, 84, 85, 86, 87, 88, 89, 90, 91, 92, 93, 94, 95, 96, 97, 98, 99, 100, 101, 102, 103, 104, 105, 106, 107, 108, 109, 110, 111, 112, 113, 114, 115, 116, 117, 118, 119, 120, 121, 122, 123, 124, 125, 126, 127, 128, 129, 130, 131, 132, 133, 134, 135, 136, 137, 138, 139, 140, 141, 142, 143, 144, 145, 146, 147, 148, 149, 150, 151] (by decide +kernel) (by decide +kernel)
set_option maxRecDepth 20000 in
theorem gX9_swapLayers_X9_endOfShot : GoodIn wsX9_swapLayers (wsV RX9 390 RX9 yX9_endOfShot wsX9_endOfShot) := goodIn_app (goodIn_of _ (by decide +kernel)) ggX9_swapLayers_X9_endOfShot
theorem dX9_swapLayers_0 : decode cX9_swapLayers 0 = .ok (.aload_n 0, 1) := by decide +kernel
theorem dX9_swapLayers_1 : decode cX9_swapLayers 1 = .ok (.aload_n 0, 1) := by decide +kernel
theorem dX9_swapLayers_2 : decode cX9_swapLayers 2 = .ok (.iload_n 1, 1) := by decide +kernel
theorem dX9_swapLayers_3 : decode cX9_swapLayers 3 = .ok (.invokevirtual 140, 3) := by decide +kernel
theorem dX9_swapLayers_6 : decode cX9_swapLayers 6 = .ok (.ifCond .eq 15, 3) := by decide +kernel
theorem dX9_swapLayers_9 : decode cX9_swapLayers 9 = .ok (.aload_n 0, 1) := by decide +kernel
theorem dX9_swapLayers_10 : decode cX9_swapLayers 10 = .ok (.iload_n 2, 1) := by decide +kernel
theorem dX9_swapLayers_11 : decode cX9_swapLayers 11 = .ok (.invokevirtual 140, 3) := by decide +kernel
theorem dX9_swapLayers_14 : decode cX9_swapLayers 14 = .ok (.ifCond .eq 7, 3) := by decide +kernel
theorem dX9_swapLayers_17 : decode cX9_swapLayers 17 = .ok (.iconst 1, 1) := by decide +kernel
theorem dX9_swapLayers_18 : decode cX9_swapLayers 18 = .ok (.goto 4, 3) := by decide +kernel
theorem dX9_swapLayers_21 : decode cX9_swapLayers 21 = .ok (.iconst 0, 1) := by decide +kernel
theorem dX9_swapLayers_22 : decode cX9_swapLayers 22 = .ok (.iload_n 1, 1) := by decide +kernel
theorem dX9_swapLayers_23 : decode cX9_swapLayers 23 = .ok (.iload_n 2, 1) := by decide +kernel
theorem dX9_swapLayers_24 : decode cX9_swapLayers 24 = .ok (.if_icmp .eq 7, 3) := by decide +kernel
theorem dX9_swapLayers_27 : decode cX9_swapLayers 27 = .ok (.iconst 1, 1) := by decide +kernel
theorem dX9_swapLayers_28 : decode cX9_swapLayers 28 = .ok (.goto 4, 3) := by decide +kernel
theorem dX9_swapLayers_31 : decode cX9_swapLayers 31 = .ok (.iconst 0, 1) := by decide +kernel
theorem dX9_swapLayers_32 : decode cX9_swapLayers 32 = .ok (.invokevirtual 332, 3) := by decide +kernel
theorem dX9_swapLayers_35 : decode cX9_swapLayers 35 = .ok (.ifCond .ne 5, 3) := by decide +kernel
theorem dX9_swapLayers_38 : decode cX9_swapLayers 38 = .ok (.iconst 0, 1) := by decide +kernel
theorem dX9_swapLayers_39 : decode cX9_swapLayers 39 = .ok (.ireturn, 1) := by decide +kernel
theorem dX9_swapLayers_40 : decode cX9_swapLayers 40 = .ok (.aload_n 0, 1) := by decide +kernel
theorem dX9_swapLayers_41 : decode cX9_swapLayers 41 = .ok (.invokevirtual 322, 3) := by decide +kernel
theorem dX9_swapLayers_44 : decode cX9_swapLayers 44 = .ok (.iconst 0, 1) := by decide +kernel
theorem dX9_swapLayers_45 : decode cX9_swapLayers 45 = .ok (.istore_n 3, 1) := by decide +kernel
theorem dX9_swapLayers_46 : decode cX9_swapLayers 46 = .ok (.iload_n 3, 1) := by decide +kernel
theorem dX9_swapLayers_47 : decode cX9_swapLayers 47 = .ok (.aload_n 0, 1) := by decide +kernel
theorem dX9_swapLayers_48 : decode cX9_swapLayers 48 = .ok (.invokevirtual 98, 3) := by decide +kernel
theorem dX9_swapLayers_51 : decode cX9_swapLayers 51 = .ok (.if_icmp .ge 20, 3) := by decide +kernel
theorem dX9_swapLayers_54 : decode cX9_swapLayers 54 = .ok (.aload_n 0, 1) := by decide +kernel
theorem dX9_swapLayers_55 : decode cX9_swapLayers 55 = .ok (.getfield 68, 3) := by decide +kernel
theorem dX9_swapLayers_58 : decode cX9_swapLayers 58 = .ok (.iload_n 3, 1) := by decide +kernel
theorem dX9_swapLayers_59 : decode cX9_swapLayers 59 = .ok (.aload_n 0, 1) := by decide +kernel
theorem dX9_swapLayers_60 : decode cX9_swapLayers 60 = .ok (.iload_n 3, 1) := by decide +kernel
theorem dX9_swapLayers_61 : decode cX9_swapLayers 61 = .ok (.invokevirtual 390, 3) := by decide +kernel
theorem dX9_swapLayers_64 : decode cX9_swapLayers 64 = .ok (.iastore, 1) := by decide +kernel
theorem dX9_swapLayers_65 : decode cX9_swapLayers 65 = .ok (.iinc 3 1, 3) := by decide +kernel
theorem dX9_swapLayers_68 : decode cX9_swapLayers 68 = .ok (.goto (-22), 3) := by decide +kernel
theorem dX9_swapLayers_71 : decode cX9_swapLayers 71 = .ok (.iconst 0, 1) := by decide +kernel
theorem dX9_swapLayers_72 : decode cX9_swapLayers 72 = .ok (.istore_n 3, 1) := by decide +kernel
theorem dX9_swapLayers_73 : decode cX9_swapLayers 73 = .ok (.iload_n 3, 1) := by decide +kernel
theorem dX9_swapLayers_74 : decode cX9_swapLayers 74 = .ok (.iconst 3, 1) := by decide +kernel
theorem dX9_swapLayers_75 : decode cX9_swapLayers 75 = .ok (.if_icmp .ge 61, 3) := by decide +kernel
theorem dX9_swapLayers_78 : decode cX9_swapLayers 78 = .ok (.aload_n 0, 1) := by decide +kernel
theorem dX9_swapLayers_79 : decode cX9_swapLayers 79 = .ok (.getfield 17, 3) := by decide +kernel
theorem dX9_swapLayers_82 : decode cX9_swapLayers 82 = .ok (.iconst 5, 1) := by decide +kernel
theorem dX9_swapLayers_83 : decode cX9_swapLayers 83 = .ok (.iconst 3, 1) := by decide +kernel
theorem dX9_swapLayers_84 : decode cX9_swapLayers 84 = .ok (.iload_n 1, 1) := by decide +kernel
theorem dX9_swapLayers_85 : decode cX9_swapLayers 85 = .ok (.imul, 1) := by decide +kernel
theorem dX9_swapLayers_86 : decode cX9_swapLayers 86 = .ok (.iadd, 1) := by decide +kernel
theorem dX9_swapLayers_87 : decode cX9_swapLayers 87 = .ok (.iload_n 3, 1) := by decide +kernel
theorem dX9_swapLayers_88 : decode cX9_swapLayers 88 = .ok (.iadd, 1) := by decide +kernel
theorem dX9_swapLayers_89 : decode cX9_swapLayers 89 = .ok (.iaload, 1) := by decide +kernel
theorem dX9_swapLayers_90 : decode cX9_swapLayers 90 = .ok (.istore 4, 2) := by decide +kernel
theorem dX9_swapLayers_92 : decode cX9_swapLayers 92 = .ok (.aload_n 0, 1) := by decide +kernel
theorem dX9_swapLayers_93 : decode cX9_swapLayers 93 = .ok (.getfield 17, 3) := by decide +kernel
theorem dX9_swapLayers_96 : decode cX9_swapLayers 96 = .ok (.iconst 5, 1) := by decide +kernel
theorem dX9_swapLayers_97 : decode cX9_swapLayers 97 = .ok (.iconst 3, 1) := by decide +kernel
theorem dX9_swapLayers_98 : decode cX9_swapLayers 98 = .ok (.iload_n 1, 1) := by decide +kernel
theorem dX9_swapLayers_99 : decode cX9_swapLayers 99 = .ok (.imul, 1) := by decide +kernel
theorem dX9_swapLayers_100 : decode cX9_swapLayers 100 = .ok (.iadd, 1) := by decide +kernel
theorem dX9_swapLayers_101 : decode cX9_swapLayers 101 = .ok (.iload_n 3, 1) := by decide +kernel
theorem dX9_swapLayers_102 : decode cX9_swapLayers 102 = .ok (.iadd, 1) := by decide +kernel
theorem dX9_swapLayers_103 : decode cX9_swapLayers 103 = .ok (.aload_n 0, 1) := by decide +kernel
theorem dX9_swapLayers_104 : decode cX9_swapLayers 104 = .ok (.getfield 17, 3) := by decide +kernel
theorem dX9_swapLayers_107 : decode cX9_swapLayers 107 = .ok (.iconst 5, 1) := by decide +kernel
theorem dX9_swapLayers_108 : decode cX9_swapLayers 108 = .ok (.iconst 3, 1) := by decide +kernel
theorem dX9_swapLayers_109 : decode cX9_swapLayers 109 = .ok (.iload_n 2, 1) := by decide +kernel
theorem dX9_swapLayers_110 : decode cX9_swapLayers 110 = .ok (.imul, 1) := by decide +kernel
theorem dX9_swapLayers_111 : decode cX9_swapLayers 111 = .ok (.iadd, 1) := by decide +kernel
theorem dX9_swapLayers_112 : decode cX9_swapLayers 112 = .ok (.iload_n 3, 1) := by decide +kernel
theorem dX9_swapLayers_113 : decode cX9_swapLayers 113 = .ok (.iadd, 1) := by decide +kernel
theorem dX9_swapLayers_114 : decode cX9_swapLayers 114 = .ok (.iaload, 1) := by decide +kernel
theorem dX9_swapLayers_115 : decode cX9_swapLayers 115 = .ok (.iastore, 1) := by decide +kernel
theorem dX9_swapLayers_116 : decode cX9_swapLayers 116 = .ok (.aload_n 0, 1) := by decide +kernel
theorem dX9_swapLayers_117 : decode cX9_swapLayers 117 = .ok (.getfield 17, 3) := by decide +kernel
theorem dX9_swapLayers_120 : decode cX9_swapLayers 120 = .ok (.iconst 5, 1) := by decide +kernel
theorem dX9_swapLayers_121 : decode cX9_swapLayers 121 = .ok (.iconst 3, 1) := by decide +kernel
theorem dX9_swapLayers_122 : decode cX9_swapLayers 122 = .ok (.iload_n 2, 1) := by decide +kernel
theorem dX9_swapLayers_123 : decode cX9_swapLayers 123 = .ok (.imul, 1) := by decide +kernel
theorem dX9_swapLayers_124 : decode cX9_swapLayers 124 = .ok (.iadd, 1) := by decide +kernel
theorem dX9_swapLayers_125 : decode cX9_swapLayers 125 = .ok (.iload_n 3, 1) := by decide +kernel
theorem dX9_swapLayers_126 : decode cX9_swapLayers 126 = .ok (.iadd, 1) := by decide +kernel
theorem dX9_swapLayers_127 : decode cX9_swapLayers 127 = .ok (.iload 4, 2) := by decide +kernel
theorem dX9_swapLayers_129 : decode cX9_swapLayers 129 = .ok (.iastore, 1) := by decide +kernel
theorem dX9_swapLayers_130 : decode cX9_swapLayers 130 = .ok (.iinc 3 1, 3) := by decide +kernel
theorem dX9_swapLayers_133 : decode cX9_swapLayers 133 = .ok (.goto (-60), 3) := by decide +kernel
theorem dX9_swapLayers_136 : decode cX9_swapLayers 136 = .ok (.iconst 0, 1) := by decide +kernel
theorem dX9_swapLayers_137 : decode cX9_swapLayers 137 = .ok (.istore_n 3, 1) := by decide +kernel
theorem dX9_swapLayers_138 : decode cX9_swapLayers 138 = .ok (.iconst 0, 1) := by decide +kernel
theorem dX9_swapLayers_139 : decode cX9_swapLayers 139 = .ok (.istore 4, 2) := by decide +kernel
theorem dX9_swapLayers_141 : decode cX9_swapLayers 141 = .ok (.iload 4, 2) := by decide +kernel
theorem dX9_swapLayers_143 : decode cX9_swapLayers 143 = .ok (.aload_n 0, 1) := by decide +kernel
theorem dX9_swapLayers_144 : decode cX9_swapLayers 144 = .ok (.invokevirtual 98, 3) := by decide +kernel
theorem dX9_swapLayers_147 : decode cX9_swapLayers 147 = .ok (.if_icmp .ge 33, 3) := by decide +kernel
theorem dX9_swapLayers_150 : decode cX9_swapLayers 150 = .ok (.iload_n 3, 1) := by decide +kernel
theorem dX9_swapLayers_151 : decode cX9_swapLayers 151 = .ok (.aload_n 0, 1) := by decide +kernel
theorem dX9_swapLayers_152 : decode cX9_swapLayers 152 = .ok (.iload 4, 2) := by decide +kernel
theorem dX9_swapLayers_154 : decode cX9_swapLayers 154 = .ok (.invokevirtual 390, 3) := by decide +kernel
theorem dX9_swapLayers_157 : decode cX9_swapLayers 157 = .ok (.aload_n 0, 1) := by decide +kernel
theorem dX9_swapLayers_158 : decode cX9_swapLayers 158 = .ok (.getfield 68, 3) := by decide +kernel
theorem dX9_swapLayers_161 : decode cX9_swapLayers 161 = .ok (.iload 4, 2) := by decide +kernel
theorem dX9_swapLayers_163 : decode cX9_swapLayers 163 = .ok (.iaload, 1) := by decide +kernel
theorem dX9_swapLayers_164 : decode cX9_swapLayers 164 = .ok (.if_icmp .eq 7, 3) := by decide +kernel
theorem dX9_swapLayers_167 : decode cX9_swapLayers 167 = .ok (.iconst 1, 1) := by decide +kernel
theorem dX9_swapLayers_168 : decode cX9_swapLayers 168 = .ok (.goto 4, 3) := by decide +kernel
theorem dX9_swapLayers_171 : decode cX9_swapLayers 171 = .ok (.iconst 0, 1) := by decide +kernel
theorem dX9_swapLayers_172 : decode cX9_swapLayers 172 = .ok (.iadd, 1) := by decide +kernel
theorem dX9_swapLayers_173 : decode cX9_swapLayers 173 = .ok (.istore_n 3, 1) := by decide +kernel
theorem dX9_swapLayers_174 : decode cX9_swapLayers 174 = .ok (.iinc 4 1, 3) := by decide +kernel
theorem dX9_swapLayers_177 : decode cX9_swapLayers 177 = .ok (.goto (-36), 3) := by decide +kernel
theorem dX9_swapLayers_180 : decode cX9_swapLayers 180 = .ok (.iload_n 3, 1) := by decide +kernel
theorem dX9_swapLayers_181 : decode cX9_swapLayers 181 = .ok (.ireturn, 1) := by decide +kernel
set_option maxRecDepth 20000 in
theorem ggX9_setOutside_X9_isIndex : GoodIn wsX9_setOutside wsX9_isIndex := goodIn_r _ [4, 5, 6, 7, 8, 3, 9] (by decide +kernel) (by decide +kernel)
set_option maxRecDepth 20000 in
theorem gX9_setOutside_X9_isIndex : GoodIn wsX9_setOutside (va_wsS RX9 413 yX9_isIndex wsX9_isIndex) := goodIn_app (goodIn_of _ (by decide +kernel)) ggX9_setOutside_X9_isIndex
set_option maxRecDepth 20000 in
theorem ggX9_setOutside_X9_passes : GoodIn wsX9_setOutside wsX9_passes := goodIn_r _ [13, 14, 15, 16, 3, 17, 18, 30, 31, 32, 33, 34, 35, 36, 37, 38, 39, 40, 41, 42, 43, 44, 45, 46, 47, 48, 49, 50, 51, 52, 53, 54, 55, 56, 57, 58, 59, 60, 61, 62, 63, 64, 65, 66, 67, 68, 69, 70] (by decide +kernel) (by decide +kernel)
set_option maxRecDepth 20000 in
theorem gX9_setOutside_X9_passes : GoodIn wsX9_setOutside (wsV RX9 193 RX9 yX9_passes wsX9_passes) := goodIn_app (goodIn_of _ (by decide +kernel)) ggX9_setOutside_X9_passes
set_option maxRecDepth 20000 in
theorem ggX9_setOutside_X9_becomes : GoodIn wsX9_setOutside wsX9_becomes := goodIn_r _ [22, 23, 24, 25, 26, 3, 27, 28, 29, 30, 31, 32, 33, 34, 35, 36, 37, 38, 39, 40, 41, 42, 43, 44, 45, 46, 47, 48, 49, 50, 51, 52, 53, 54, 55, 56, 57, 58, 59, 60, 61, 62, 63, 64, 65, 66, 67, 68, 69, 70] (by decide +kernel) (by decide +kernel)
set_option maxRecDepth 20000 in
theorem gX9_setOutside_X9_becomes : GoodIn wsX9_setOutside (wsV RX9 438 RX9 yX9_becomes wsX9_becomes) := goodIn_app (goodIn_of _ (by decide +kernel)) ggX9_setOutside_X9_becomes
theorem dX9_setOutside_0 : decode cX9_setOutside 0 = .ok (.aload_n 0, 1) := by decide +kernel
theorem dX9_setOutside_1 : decode cX9_setOutside 1 = .ok (.iload_n 1, 1) := by decide +kernel
theorem dX9_setOutside_2 : decode cX9_setOutside 2 = .ok (.invokestatic 413, 3) := by decide +kernel
theorem dX9_setOutside_5 : decode cX9_setOutside 5 = .ok (.invokevirtual 193, 3) := by decide +kernel
theorem dX9_setOutside_8 : decode cX9_setOutside 8 = .ok (.ifCond .eq 12, 3) := by decide +kernel
theorem dX9_setOutside_11 : decode cX9_setOutside 11 = .ok (.aload_n 0, 1) := by decide +kernel
theorem dX9_setOutside_12 : decode cX9_setOutside 12 = .ok (.iconst 1, 1) := by decide +kernel
theorem dX9_setOutside_13 : decode cX9_setOutside 13 = .ok (.iload_n 1, 1) := by decide +kernel
theorem dX9_setOutside_14 : decode cX9_setOutside 14 = .ok (.invokevirtual 438, 3) := by decide +kernel
theorem dX9_setOutside_17 : decode cX9_setOutside 17 = .ok (.goto 4, 3) := by decide +kernel
theorem dX9_setOutside_20 : decode cX9_setOutside 20 = .ok (.iconst 0, 1) := by decide +kernel
theorem dX9_setOutside_21 : decode cX9_setOutside 21 = .ok (.ireturn, 1) := by decide +kernel
set_option maxRecDepth 20000 in
theorem ggX9_setOpen_X9_isIndex : GoodIn wsX9_setOpen wsX9_isIndex := goodIn_r _ [5, 6, 7, 8, 9, 4, 10] (by decide +kernel) (by decide +kernel)
set_option maxRecDepth 20000 in
theorem gX9_setOpen_X9_isIndex : GoodIn wsX9_setOpen (va_wsS RX9 413 yX9_isIndex wsX9_isIndex) := goodIn_app (goodIn_of _ (by decide +kernel)) ggX9_setOpen_X9_isIndex
set_option maxRecDepth 20000 in
theorem ggX9_setOpen_X9_passes : GoodIn wsX9_setOpen wsX9_passes := goodIn_r _ [14, 15, 16, 17, 4, 18, 19, 30, 31, 32, 33, 34, 35, 36, 37, 38, 39, 40, 41, 42, 43, 44, 45, 46, 47, 48, 49, 50, 51, 52, 53, 54, 55, 56, 57, 58, 59, 60, 61, 62, 63, 64, 65, 66, 67, 68, 69, 70] (by decide +kernel) (by decide +kernel)
set_option maxRecDepth 20000 in
theorem gX9_setOpen_X9_passes : GoodIn wsX9_setOpen (wsV RX9 193 RX9 yX9_passes wsX9_passes) := goodIn_app (goodIn_of _ (by decide +kernel)) ggX9_setOpen_X9_passes
set_option maxRecDepth 20000 in
theorem ggX9_setOpen_X9_becomes : GoodIn wsX9_setOpen wsX9_becomes := goodIn_r _ [23, 1, 24, 25, 26, 4, 27, 28, 29, 30, 31, 32, 33, 34, 35, 36, 37, 38, 39, 40, 41, 42, 43, 44, 45, 46, 47, 48, 49, 50, 51, 52, 53, 54, 55, 56, 57, 58, 59, 60, 61, 62, 63, 64, 65, 66, 67, 68, 69, 70] (by decide +kernel) (by decide +kernel)
set_option maxRecDepth 20000 in
theorem gX9_setOpen_X9_becomes : GoodIn wsX9_setOpen (wsV RX9 438 RX9 yX9_becomes wsX9_becomes) := goodIn_app (goodIn_of _ (by decide +kernel)) ggX9_setOpen_X9_becomes
theorem dX9_setOpen_0 : decode cX9_setOpen 0 = .ok (.aload_n 0, 1) := by decide +kernel
theorem dX9_setOpen_1 : decode cX9_setOpen 1 = .ok (.iload_n 1, 1) := by decide +kernel
theorem dX9_setOpen_2 : decode cX9_setOpen 2 = .ok (.invokestatic 413, 3) := by decide +kernel
theorem dX9_setOpen_5 : decode cX9_setOpen 5 = .ok (.invokevirtual 193, 3) := by decide +kernel
theorem dX9_setOpen_8 : decode cX9_setOpen 8 = .ok (.ifCond .ne 5, 3) := by decide +kernel
theorem dX9_setOpen_11 : decode cX9_setOpen 11 = .ok (.iconst 0, 1) := by decide +kernel
theorem dX9_setOpen_12 : decode cX9_setOpen 12 = .ok (.ireturn, 1) := by decide +kernel
theorem dX9_setOpen_13 : decode cX9_setOpen 13 = .ok (.aload_n 0, 1) := by decide +kernel
theorem dX9_setOpen_14 : decode cX9_setOpen 14 = .ok (.iconst 3, 1) := by decide +kernel
theorem dX9_setOpen_15 : decode cX9_setOpen 15 = .ok (.iload_n 1, 1) := by decide +kernel
theorem dX9_setOpen_16 : decode cX9_setOpen 16 = .ok (.invokevirtual 438, 3) := by decide +kernel
theorem dX9_setOpen_19 : decode cX9_setOpen 19 = .ok (.istore_n 2, 1) := by decide +kernel
theorem dX9_setOpen_20 : decode cX9_setOpen 20 = .ok (.aload_n 0, 1) := by decide +kernel
theorem dX9_setOpen_21 : decode cX9_setOpen 21 = .ok (.getfield 17, 3) := by decide +kernel
theorem dX9_setOpen_24 : decode cX9_setOpen 24 = .ok (.iconst 2, 1) := by decide +kernel
theorem dX9_setOpen_25 : decode cX9_setOpen 25 = .ok (.iaload, 1) := by decide +kernel
theorem dX9_setOpen_26 : decode cX9_setOpen 26 = .ok (.iconst 1, 1) := by decide +kernel
theorem dX9_setOpen_27 : decode cX9_setOpen 27 = .ok (.if_icmp .ne 7, 3) := by decide +kernel
theorem dX9_setOpen_30 : decode cX9_setOpen 30 = .ok (.iconst 1, 1) := by decide +kernel
theorem dX9_setOpen_31 : decode cX9_setOpen 31 = .ok (.goto 4, 3) := by decide +kernel
theorem dX9_setOpen_34 : decode cX9_setOpen 34 = .ok (.iconst 0, 1) := by decide +kernel
theorem dX9_setOpen_35 : decode cX9_setOpen 35 = .ok (.istore_n 3, 1) := by decide +kernel
theorem dX9_setOpen_36 : decode cX9_setOpen 36 = .ok (.aload_n 0, 1) := by decide +kernel
theorem dX9_setOpen_37 : decode cX9_setOpen 37 = .ok (.getfield 17, 3) := by decide +kernel
theorem dX9_setOpen_40 : decode cX9_setOpen 40 = .ok (.iconst 2, 1) := by decide +kernel
theorem dX9_setOpen_41 : decode cX9_setOpen 41 = .ok (.iconst 0, 1) := by decide +kernel
theorem dX9_setOpen_42 : decode cX9_setOpen 42 = .ok (.iastore, 1) := by decide +kernel
theorem dX9_setOpen_43 : decode cX9_setOpen 43 = .ok (.iload_n 3, 1) := by decide +kernel
theorem dX9_setOpen_44 : decode cX9_setOpen 44 = .ok (.ifCond .eq 9, 3) := by decide +kernel
theorem dX9_setOpen_47 : decode cX9_setOpen 47 = .ok (.sipush 5000, 3) := by decide +kernel
theorem dX9_setOpen_50 : decode cX9_setOpen 50 = .ok (.goto 4, 3) := by decide +kernel
theorem dX9_setOpen_53 : decode cX9_setOpen 53 = .ok (.iload_n 2, 1) := by decide +kernel
theorem dX9_setOpen_54 : decode cX9_setOpen 54 = .ok (.ireturn, 1) := by decide +kernel
set_option maxRecDepth 20000 in
theorem ggX9_setMirror_X9_in : GoodIn wsX9_setMirror wsX9_in := goodIn_r _ [6] (by decide +kernel) (by decide +kernel)
set_option maxRecDepth 20000 in
theorem gX9_setMirror_X9_in : GoodIn wsX9_setMirror (va_wsS RX9 94 yX9_in wsX9_in) := goodIn_app (goodIn_of _ (by decide +kernel)) ggX9_setMirror_X9_in
set_option maxRecDepth 20000 in
theorem ggX9_setMirror_X9_passes : GoodIn wsX9_setMirror wsX9_passes := goodIn_r _ [10, 11, 12, 13, 5, 14, 15, 26, 27, 28, 29, 30, 31, 32, 33, 34, 35, 36, 37, 38, 39, 40, 41, 42, 43, 44, 45, 46, 47, 48, 49, 50, 51, 52, 53, 54, 55, 56, 57, 58, 59, 60, 61, 62, 63, 64, 65, 66] (by decide +kernel) (by decide +kernel)
set_option maxRecDepth 20000 in
theorem gX9_setMirror_X9_passes : GoodIn wsX9_setMirror (wsV RX9 193 RX9 yX9_passes wsX9_passes) := goodIn_app (goodIn_of _ (by decide +kernel)) ggX9_setMirror_X9_passes
set_option maxRecDepth 20000 in
theorem ggX9_setMirror_X9_becomes : GoodIn wsX9_setMirror wsX9_becomes := goodIn_r _ [19, 2, 20, 21, 22, 5, 23, 24, 25, 26, 27, 28, 29, 30, 31, 32, 33, 34, 35, 36, 37, 38, 39, 40, 41, 42, 43, 44, 45, 46, 47, 48, 49, 50, 51, 52, 53, 54, 55, 56, 57, 58, 59, 60, 61, 62, 63, 64, 65, 66] (by decide +kernel) (by decide +kernel)
set_option maxRecDepth 20000 in
theorem gX9_setMirror_X9_becomes : GoodIn wsX9_setMirror (wsV RX9 438 RX9 yX9_becomes wsX9_becomes) := goodIn_app (goodIn_of _ (by decide +kernel)) ggX9_setMirror_X9_becomes
theorem dX9_setMirror_0 : decode cX9_setMirror 0 = .ok (.aload_n 0, 1) := by decide +kernel
theorem dX9_setMirror_1 : decode cX9_setMirror 1 = .ok (.iload_n 1, 1) := by decide +kernel
theorem dX9_setMirror_2 : decode cX9_setMirror 2 = .ok (.i2l, 1) := by decide +kernel
theorem dX9_setMirror_3 : decode cX9_setMirror 3 = .ok (.lconst 0, 1) := by decide +kernel
theorem dX9_setMirror_4 : decode cX9_setMirror 4 = .ok (.ldc2_w 154, 3) := by decide +kernel
theorem dX9_setMirror_7 : decode cX9_setMirror 7 = .ok (.invokestatic 94, 3) := by decide +kernel
theorem dX9_setMirror_10 : decode cX9_setMirror 10 = .ok (.invokevirtual 193, 3) := by decide +kernel
theorem dX9_setMirror_13 : decode cX9_setMirror 13 = .ok (.ifCond .ne 5, 3) := by decide +kernel
theorem dX9_setMirror_16 : decode cX9_setMirror 16 = .ok (.iconst 0, 1) := by decide +kernel
theorem dX9_setMirror_17 : decode cX9_setMirror 17 = .ok (.ireturn, 1) := by decide +kernel
theorem dX9_setMirror_18 : decode cX9_setMirror 18 = .ok (.aload_n 0, 1) := by decide +kernel
theorem dX9_setMirror_19 : decode cX9_setMirror 19 = .ok (.iconst 3, 1) := by decide +kernel
theorem dX9_setMirror_20 : decode cX9_setMirror 20 = .ok (.iload_n 1, 1) := by decide +kernel
theorem dX9_setMirror_21 : decode cX9_setMirror 21 = .ok (.invokevirtual 438, 3) := by decide +kernel
theorem dX9_setMirror_24 : decode cX9_setMirror 24 = .ok (.istore_n 2, 1) := by decide +kernel
theorem dX9_setMirror_25 : decode cX9_setMirror 25 = .ok (.aload_n 0, 1) := by decide +kernel
theorem dX9_setMirror_26 : decode cX9_setMirror 26 = .ok (.getfield 17, 3) := by decide +kernel
theorem dX9_setMirror_29 : decode cX9_setMirror 29 = .ok (.iconst 2, 1) := by decide +kernel
theorem dX9_setMirror_30 : decode cX9_setMirror 30 = .ok (.iaload, 1) := by decide +kernel
theorem dX9_setMirror_31 : decode cX9_setMirror 31 = .ok (.iconst 1, 1) := by decide +kernel
theorem dX9_setMirror_32 : decode cX9_setMirror 32 = .ok (.if_icmp .ne 7, 3) := by decide +kernel
theorem dX9_setMirror_35 : decode cX9_setMirror 35 = .ok (.iconst 1, 1) := by decide +kernel
theorem dX9_setMirror_36 : decode cX9_setMirror 36 = .ok (.goto 4, 3) := by decide +kernel
theorem dX9_setMirror_39 : decode cX9_setMirror 39 = .ok (.iconst 0, 1) := by decide +kernel
theorem dX9_setMirror_40 : decode cX9_setMirror 40 = .ok (.istore_n 3, 1) := by decide +kernel
theorem dX9_setMirror_41 : decode cX9_setMirror 41 = .ok (.aload_n 0, 1) := by decide +kernel
theorem dX9_setMirror_42 : decode cX9_setMirror 42 = .ok (.getfield 17, 3) := by decide +kernel
theorem dX9_setMirror_45 : decode cX9_setMirror 45 = .ok (.iconst 2, 1) := by decide +kernel
theorem dX9_setMirror_46 : decode cX9_setMirror 46 = .ok (.iconst 1, 1) := by decide +kernel
theorem dX9_setMirror_47 : decode cX9_setMirror 47 = .ok (.iastore, 1) := by decide +kernel
theorem dX9_setMirror_48 : decode cX9_setMirror 48 = .ok (.iload_n 3, 1) := by decide +kernel
theorem dX9_setMirror_49 : decode cX9_setMirror 49 = .ok (.ifCond .eq 7, 3) := by decide +kernel
theorem dX9_setMirror_52 : decode cX9_setMirror 52 = .ok (.iload_n 2, 1) := by decide +kernel
theorem dX9_setMirror_53 : decode cX9_setMirror 53 = .ok (.goto 4, 3) := by decide +kernel
theorem dX9_setMirror_56 : decode cX9_setMirror 56 = .ok (.iconst (-1), 1) := by decide +kernel
theorem dX9_setMirror_57 : decode cX9_setMirror 57 = .ok (.ireturn, 1) := by decide +kernel
set_option maxRecDepth 20000 in
theorem ggX9_shoot_X9_isLayer : GoodIn wsX9_shoot wsX9_isLayer := goodIn_r _ [5, 6, 7, 8, 4, 9, 10, 11, 12, 13, 42, 43, 44, 45, 46, 47, 48, 49, 50, 51, 52, 53, 54, 55, 56, 57, 58, 59, 60, 61, 62, 63, 64, 65, 66, 67, 68, 69, 70, 71, 72, 73, 74, 75, 76, 77, 78, 79, 80, 81, 82] (by decide +kernel) (by decide +kernel)
set_option maxRecDepth 20000 in
theorem gX9_shoot_X9_isLayer : GoodIn wsX9_shoot (wsV RX9 140 RX9 yX9_isLayer wsX9_isLayer) := goodIn_app (goodIn_of _ (by decide +kernel)) ggX9_shoot_X9_isLayer
set_option maxRecDepth 20000 in
theorem ggX9_shoot_X9_isSlant : GoodIn wsX9_shoot wsX9_isSlant := goodIn_r _ [16, 17, 11, 12, 4, 13] (by decide +kernel) (by decide +kernel)
set_option maxRecDepth 20000 in
theorem gX9_shoot_X9_isSlant : GoodIn wsX9_shoot (va_wsS RX9 370 yX9_isSlant wsX9_isSlant) := goodIn_app (goodIn_of _ (by decide +kernel)) ggX9_shoot_X9_isSlant
set_option maxRecDepth 20000 in
theorem ggX9_shoot_X9_ofLayer : GoodIn wsX9_shoot wsX9_ofLayer := goodIn_r _ [21, 10, 42, 43, 44, 45, 46, 47, 48, 49, 50, 51, 52, 53, 54, 55, 56, 57, 58, 59, 60, 61, 62, 63, 64, 65, 66, 67, 68, 69, 70, 71, 72, 73, 74, 75, 76, 77, 78, 79, 80, 81, 82] (by decide +kernel) (by decide +kernel)
set_option maxRecDepth 20000 in
theorem gX9_shoot_X9_ofLayer : GoodIn wsX9_shoot (wsV RX9 105 RX9 yX9_ofLayer wsX9_ofLayer) := goodIn_app (goodIn_of _ (by decide +kernel)) ggX9_shoot_X9_ofLayer
set_option maxRecDepth 20000 in
theorem ggX9_shoot_X9_shots : GoodIn wsX9_shoot wsX9_shots := goodIn_r _ [25, 10, 42, 43, 44, 45, 46, 47, 48, 49, 50, 51, 52, 53, 54, 55, 56, 57, 58, 59, 60, 61, 62, 63, 64, 65, 66, 67, 68, 69, 70, 71, 72, 73, 74, 75, 76, 77, 78, 79, 80, 81, 82] (by decide +kernel) (by decide +kernel)
set_option maxRecDepth 20000 in
theorem gX9_shoot_X9_shots : GoodIn wsX9_shoot (wsV RX9 98 RX9 yX9_shots wsX9_shots) := goodIn_app (goodIn_of _ (by decide +kernel)) ggX9_shoot_X9_shots
set_option maxRecDepth 20000 in
theorem ggX9_shoot_X9_passes3 : GoodIn wsX9_shoot wsX9_passes3 := goodIn_r _ [29, 30, 42, 43, 44, 45, 46, 47, 48, 49, 50, 51, 52, 53, 54, 55, 56, 57, 58, 59, 60, 61, 62, 63, 64, 65, 66, 67, 68, 69, 70, 71, 72, 73, 74, 75, 76, 77, 78, 79, 80, 81, 82] (by decide +kernel) (by decide +kernel)
set_option maxRecDepth 20000 in
theorem gX9_shoot_X9_passes3 : GoodIn wsX9_shoot (wsV RX9 7 RX9 yX9_passes3 wsX9_passes3) := goodIn_app (goodIn_of _ (by decide +kernel)) ggX9_shoot_X9_passes3
set_option maxRecDepth 20000 in
theorem ggX9_shoot_X9_remember : GoodIn wsX9_shoot wsX9_remember := goodIn_r _ [34, 35, 36, 37, 42, 43, 44, 45, 46, 47, 48, 49, 50, 51, 52, 53, 54, 55, 56, 57, 58, 59, 60, 61, 62, 63, 64, 65, 66, 67, 68, 69, 70, 71, 72, 73, 74, 75, 76, 77, 78, 79, 80, 81, 82] (by decide +kernel) (by decide +kernel)
set_option maxRecDepth 20000 in
theorem gX9_shoot_X9_remember : GoodIn wsX9_shoot (wsV RX9 322 RX9 yX9_remember wsX9_remember) := goodIn_app (goodIn_of _ (by decide +kernel)) ggX9_shoot_X9_remember
set_option maxRecDepth 20000 in
theorem ggX9_shoot_X9_addShot : GoodIn wsX9_shoot wsX9_addShot := goodIn_r _ [41, 10, 22, 23, 24, 4, 25, 42, 43, 44, 45, 46, 47, 48, 49, 50, 51, 52, 53, 54, 55, 56, 57, 58, 59, 60, 61, 62, 63, 64, 65, 66, 67, 68, 69, 70, 71, 72, 73, 74, 75, 76, 77, 78, 79, 80, 81, 82] (by decide +kernel) (by decide +kernel)
set_option maxRecDepth 20000 in
theorem gX9_shoot_X9_addShot : GoodIn wsX9_shoot (wsV RX9 296 RX9 yX9_addShot wsX9_addShot) := goodIn_app (goodIn_of _ (by decide +kernel)) ggX9_shoot_X9_addShot
theorem dX9_shoot_0 : decode cX9_shoot 0 = .ok (.aload_n 0, 1) := by decide +kernel
theorem dX9_shoot_1 : decode cX9_shoot 1 = .ok (.iload_n 1, 1) := by decide +kernel
theorem dX9_shoot_2 : decode cX9_shoot 2 = .ok (.invokevirtual 140, 3) := by decide +kernel
theorem dX9_shoot_5 : decode cX9_shoot 5 = .ok (.istore 4, 2) := by decide +kernel
theorem dX9_shoot_7 : decode cX9_shoot 7 = .ok (.aload_n 0, 1) := by decide +kernel
theorem dX9_shoot_8 : decode cX9_shoot 8 = .ok (.iload 4, 2) := by decide +kernel
theorem dX9_shoot_10 : decode cX9_shoot 10 = .ok (.iload 4, 2) := by decide +kernel
theorem dX9_shoot_12 : decode cX9_shoot 12 = .ok (.ifCond .eq 24, 3) := by decide +kernel
theorem dX9_shoot_15 : decode cX9_shoot 15 = .ok (.iload_n 3, 1) := by decide +kernel
theorem dX9_shoot_16 : decode cX9_shoot 16 = .ok (.invokestatic 370, 3) := by decide +kernel
theorem dX9_shoot_19 : decode cX9_shoot 19 = .ok (.ifCond .eq 17, 3) := by decide +kernel
theorem dX9_shoot_22 : decode cX9_shoot 22 = .ok (.iload_n 3, 1) := by decide +kernel
theorem dX9_shoot_23 : decode cX9_shoot 23 = .ok (.aload_n 0, 1) := by decide +kernel
theorem dX9_shoot_24 : decode cX9_shoot 24 = .ok (.iload_n 1, 1) := by decide +kernel
theorem dX9_shoot_25 : decode cX9_shoot 25 = .ok (.iconst 0, 1) := by decide +kernel
theorem dX9_shoot_26 : decode cX9_shoot 26 = .ok (.invokevirtual 105, 3) := by decide +kernel
theorem dX9_shoot_29 : decode cX9_shoot 29 = .ok (.if_icmp .ge 7, 3) := by decide +kernel
theorem dX9_shoot_32 : decode cX9_shoot 32 = .ok (.iconst 1, 1) := by decide +kernel
theorem dX9_shoot_33 : decode cX9_shoot 33 = .ok (.goto 4, 3) := by decide +kernel
theorem dX9_shoot_36 : decode cX9_shoot 36 = .ok (.iconst 0, 1) := by decide +kernel
theorem dX9_shoot_37 : decode cX9_shoot 37 = .ok (.aload_n 0, 1) := by decide +kernel
theorem dX9_shoot_38 : decode cX9_shoot 38 = .ok (.invokevirtual 98, 3) := by decide +kernel
theorem dX9_shoot_41 : decode cX9_shoot 41 = .ok (.bipush 20, 2) := by decide +kernel
theorem dX9_shoot_43 : decode cX9_shoot 43 = .ok (.if_icmp .ge 7, 3) := by decide +kernel
theorem dX9_shoot_46 : decode cX9_shoot 46 = .ok (.iconst 1, 1) := by decide +kernel
theorem dX9_shoot_47 : decode cX9_shoot 47 = .ok (.goto 4, 3) := by decide +kernel
theorem dX9_shoot_50 : decode cX9_shoot 50 = .ok (.iconst 0, 1) := by decide +kernel
theorem dX9_shoot_51 : decode cX9_shoot 51 = .ok (.invokevirtual 7, 3) := by decide +kernel
theorem dX9_shoot_54 : decode cX9_shoot 54 = .ok (.ifCond .ne 5, 3) := by decide +kernel
theorem dX9_shoot_57 : decode cX9_shoot 57 = .ok (.iconst 0, 1) := by decide +kernel
theorem dX9_shoot_58 : decode cX9_shoot 58 = .ok (.ireturn, 1) := by decide +kernel
theorem dX9_shoot_59 : decode cX9_shoot 59 = .ok (.aload_n 0, 1) := by decide +kernel
theorem dX9_shoot_60 : decode cX9_shoot 60 = .ok (.invokevirtual 322, 3) := by decide +kernel
theorem dX9_shoot_63 : decode cX9_shoot 63 = .ok (.aload_n 0, 1) := by decide +kernel
theorem dX9_shoot_64 : decode cX9_shoot 64 = .ok (.iload_n 1, 1) := by decide +kernel
theorem dX9_shoot_65 : decode cX9_shoot 65 = .ok (.iload_n 2, 1) := by decide +kernel
theorem dX9_shoot_66 : decode cX9_shoot 66 = .ok (.iload_n 3, 1) := by decide +kernel
theorem dX9_shoot_67 : decode cX9_shoot 67 = .ok (.invokevirtual 296, 3) := by decide +kernel
theorem dX9_shoot_70 : decode cX9_shoot 70 = .ok (.aload_n 0, 1) := by decide +kernel
theorem dX9_shoot_71 : decode cX9_shoot 71 = .ok (.invokevirtual 98, 3) := by decide +kernel
theorem dX9_shoot_74 : decode cX9_shoot 74 = .ok (.iconst 1, 1) := by decide +kernel
theorem dX9_shoot_75 : decode cX9_shoot 75 = .ok (.isub, 1) := by decide +kernel
theorem dX9_shoot_76 : decode cX9_shoot 76 = .ok (.ireturn, 1) := by decide +kernel
set_option maxRecDepth 20000 in
theorem ggX9_turn_X9_isShot : GoodIn wsX9_turn wsX9_isShot := goodIn_r _ [5, 6, 7, 8, 4, 9, 10, 11, 12, 13, 122, 123, 124, 125, 126, 127, 128, 129, 130, 131, 132, 133, 134, 135, 136, 137, 138, 139, 140, 141, 142, 143, 144, 145, 146, 147, 148, 149, 150, 151, 152, 153, 154, 155, 156, 157, 158, 159, 160, 161, 162] (by decide +kernel) (by decide +kernel)
set_option maxRecDepth 20000 in
theorem gX9_turn_X9_isShot : GoodIn wsX9_turn (wsV RX9 336 RX9 yX9_isShot wsX9_isShot) := goodIn_app (goodIn_of _ (by decide +kernel)) ggX9_turn_X9_isShot
set_option maxRecDepth 20000 in
theorem ggX9_turn_X9_isSlant : GoodIn wsX9_turn wsX9_isSlant := goodIn_r _ [16, 17, 11, 12, 4, 13] (by decide +kernel) (by decide +kernel)
set_option maxRecDepth 20000 in
theorem gX9_turn_X9_isSlant : GoodIn wsX9_turn (va_wsS RX9 370 yX9_isSlant wsX9_isSlant) := goodIn_app (goodIn_of _ (by decide +kernel)) ggX9_turn_X9_isSlant
set_option maxRecDepth 20000 in
theorem ggX9_turn_X9_passes2 : GoodIn wsX9_turn wsX9_passes2 := goodIn_r _ [21, 22, 23, 24, 4, 25, 26, 122, 123, 124, 125, 126, 127, 128, 129, 130, 131, 132, 133, 134, 135, 136, 137, 138, 139, 140, 141, 142, 143, 144, 145, 146, 147, 148, 149, 150, 151, 152, 153, 154, 155, 156, 157, 158, 159, 160, 161, 162] (by decide +kernel) (by decide +kernel)
set_option maxRecDepth 20000 in
theorem gX9_turn_X9_passes2 : GoodIn wsX9_turn (wsV RX9 332 RX9 yX9_passes2 wsX9_passes2) := goodIn_app (goodIn_of _ (by decide +kernel)) ggX9_turn_X9_passes2
set_option maxRecDepth 20000 in
theorem ggX9_turn_X9_becomes : GoodIn wsX9_turn wsX9_becomes := goodIn_r _ [30, 31, 32, 33, 34, 4, 35, 36, 37, 122, 123, 124, 125, 126, 127, 128, 129, 130, 131, 132, 133, 134, 135, 136, 137, 138, 139, 140, 141, 142, 143, 144, 145, 146, 147, 148, 149, 150, 151, 152, 153, 154, 155, 156, 157, 158, 159, 160, 161, 162] (by decide +kernel) (by decide +kernel)
set_option maxRecDepth 20000 in
theorem gX9_turn_X9_becomes : GoodIn wsX9_turn (wsV RX9 438 RX9 yX9_becomes wsX9_becomes) := goodIn_app (goodIn_of _ (by decide +kernel)) ggX9_turn_X9_becomes
set_option maxRecDepth 20000 in
theorem ggX9_turn_X9_endOfShot : GoodIn wsX9_turn wsX9_endOfShot := goodIn_r _ [41, 42, 43, 44, 45, 4, 46, 47, 48, 49, 50, 10, 51, 52, 53, 54, 55, 56, 57, 58, 59, 60, 61, 62, 63, 64, 65, 66, 67, 68, 69, 70, 11, 12, 13, 71, 72, 73, 74, 75, 76, 77, 78, 79, 80, 81, 82, 83, 84, 85, 86, 87, 88, 89, 90, 91, 92, 93, 94, 95, 96, 97, 98, 99, 100, 101, 102, 103, 104, 105, 106, 107, 108, 109, 110, 111, 112, 113, 114, 115, 116, 117, 118, 119, 120, 121, 122, 123, 124, 125, 126, 127, 128, 129, 130, 131, 132, 133, 134, 135, 136, 137, 138, 139, 140, 141, 142, 143, 144, 145, 146, 147, 148, 149, 150, 151, 152, 153, 154, 155, 156, 157, 158, 159, 160, 161, 162] (by decide +kernel) (by decide +kernel)
set_option maxRecDepth 20000 in
theorem gX9_turn_X9_endOfShot : GoodIn wsX9_turn (wsV RX9 390 RX9 yX9_endOfShot wsX9_endOfShot) := goodIn_app (goodIn_of _ (by decide +kernel)) ggX9_turn_X9_endOfShot
theorem dX9_turn_0 : decode cX9_turn 0 = .ok (.aload_n 0, 1) := by decide +kernel
theorem dX9_turn_1 : decode cX9_turn 1 = .ok (.aload_n 0, 1) := by decide +kernel
theorem dX9_turn_2 : decode cX9_turn 2 = .ok (.iload_n 1, 1) := by decide +kernel
theorem dX9_turn_3 : decode cX9_turn 3 = .ok (.invokevirtual 336, 3) := by decide +kernel
theorem dX9_turn_6 : decode cX9_turn 6 = .ok (.iload_n 2, 1) := by decide +kernel
theorem dX9_turn_7 : decode cX9_turn 7 = .ok (.invokestatic 370, 3) := by decide +kernel
theorem dX9_turn_10 : decode cX9_turn 10 = .ok (.invokevirtual 332, 3) := by decide +kernel
theorem dX9_turn_13 : decode cX9_turn 13 = .ok (.ifCond .ne 5, 3) := by decide +kernel
theorem dX9_turn_16 : decode cX9_turn 16 = .ok (.iconst 0, 1) := by decide +kernel
theorem dX9_turn_17 : decode cX9_turn 17 = .ok (.ireturn, 1) := by decide +kernel
theorem dX9_turn_18 : decode cX9_turn 18 = .ok (.aload_n 0, 1) := by decide +kernel
theorem dX9_turn_19 : decode cX9_turn 19 = .ok (.bipush 35, 2) := by decide +kernel
theorem dX9_turn_21 : decode cX9_turn 21 = .ok (.iconst 3, 1) := by decide +kernel
theorem dX9_turn_22 : decode cX9_turn 22 = .ok (.iload_n 1, 1) := by decide +kernel
theorem dX9_turn_23 : decode cX9_turn 23 = .ok (.imul, 1) := by decide +kernel
theorem dX9_turn_24 : decode cX9_turn 24 = .ok (.iadd, 1) := by decide +kernel
theorem dX9_turn_25 : decode cX9_turn 25 = .ok (.iconst 2, 1) := by decide +kernel
theorem dX9_turn_26 : decode cX9_turn 26 = .ok (.iadd, 1) := by decide +kernel
theorem dX9_turn_27 : decode cX9_turn 27 = .ok (.iload_n 2, 1) := by decide +kernel
theorem dX9_turn_28 : decode cX9_turn 28 = .ok (.invokevirtual 438, 3) := by decide +kernel
theorem dX9_turn_31 : decode cX9_turn 31 = .ok (.istore_n 3, 1) := by decide +kernel
theorem dX9_turn_32 : decode cX9_turn 32 = .ok (.aload_n 0, 1) := by decide +kernel
theorem dX9_turn_33 : decode cX9_turn 33 = .ok (.iload_n 1, 1) := by decide +kernel
theorem dX9_turn_34 : decode cX9_turn 34 = .ok (.invokevirtual 390, 3) := by decide +kernel
theorem dX9_turn_37 : decode cX9_turn 37 = .ok (.ireturn, 1) := by decide +kernel
set_option maxRecDepth 20000 in
theorem ggX9_dropShot_X9_isShot : GoodIn wsX9_dropShot wsX9_isShot := goodIn_r _ [6, 7, 8, 9, 5, 10, 11, 12, 13, 14, 30, 31, 32, 33, 34, 35, 36, 37, 38, 39, 40, 41, 42, 43, 44, 45, 46, 47, 48, 49, 50, 51, 52, 53, 54, 55, 56, 57, 58, 59, 60, 61, 62, 63, 64, 65, 66, 67, 68, 69, 70] (by decide +kernel) (by decide +kernel)
set_option maxRecDepth 20000 in
theorem gX9_dropShot_X9_isShot : GoodIn wsX9_dropShot (wsV RX9 336 RX9 yX9_isShot wsX9_isShot) := goodIn_app (goodIn_of _ (by decide +kernel)) ggX9_dropShot_X9_isShot
set_option maxRecDepth 20000 in
theorem ggX9_dropShot_X9_passes : GoodIn wsX9_dropShot wsX9_passes := goodIn_r _ [18, 19, 20, 21, 5, 22, 23, 30, 31, 32, 33, 34, 35, 36, 37, 38, 39, 40, 41, 42, 43, 44, 45, 46, 47, 48, 49, 50, 51, 52, 53, 54, 55, 56, 57, 58, 59, 60, 61, 62, 63, 64, 65, 66, 67, 68, 69, 70] (by decide +kernel) (by decide +kernel)
set_option maxRecDepth 20000 in
theorem gX9_dropShot_X9_passes : GoodIn wsX9_dropShot (wsV RX9 193 RX9 yX9_passes wsX9_passes) := goodIn_app (goodIn_of _ (by decide +kernel)) ggX9_dropShot_X9_passes
set_option maxRecDepth 20000 in
theorem ggX9_dropShot_X9_remember : GoodIn wsX9_dropShot wsX9_remember := goodIn_r _ [27, 28, 29, 1, 30, 31, 32, 33, 34, 35, 36, 37, 38, 39, 40, 41, 42, 43, 44, 45, 46, 47, 48, 49, 50, 51, 52, 53, 54, 55, 56, 57, 58, 59, 60, 61, 62, 63, 64, 65, 66, 67, 68, 69, 70] (by decide +kernel) (by decide +kernel)
set_option maxRecDepth 20000 in
theorem gX9_dropShot_X9_remember : GoodIn wsX9_dropShot (wsV RX9 322 RX9 yX9_remember wsX9_remember) := goodIn_app (goodIn_of _ (by decide +kernel)) ggX9_dropShot_X9_remember
set_option maxRecDepth 20000 in
theorem ggX9_dropShot_X9_shots : GoodIn wsX9_dropShot wsX9_shots := goodIn_r _ [10, 11, 30, 31, 32, 33, 34, 35, 36, 37, 38, 39, 40, 41, 42, 43, 44, 45, 46, 47, 48, 49, 50, 51, 52, 53, 54, 55, 56, 57, 58, 59, 60, 61, 62, 63, 64, 65, 66, 67, 68, 69, 70] (by decide +kernel) (by decide +kernel)
set_option maxRecDepth 20000 in
theorem gX9_dropShot_X9_shots : GoodIn wsX9_dropShot (wsV RX9 98 RX9 yX9_shots wsX9_shots) := goodIn_app (goodIn_of _ (by decide +kernel)) ggX9_dropShot_X9_shots
theorem dX9_dropShot_0 : decode cX9_dropShot 0 = .ok (.aload_n 0, 1) := by decide +kernel
theorem dX9_dropShot_1 : decode cX9_dropShot 1 = .ok (.aload_n 0, 1) := by decide +kernel
theorem dX9_dropShot_2 : decode cX9_dropShot 2 = .ok (.iload_n 1, 1) := by decide +kernel
theorem dX9_dropShot_3 : decode cX9_dropShot 3 = .ok (.invokevirtual 336, 3) := by decide +kernel
theorem dX9_dropShot_6 : decode cX9_dropShot 6 = .ok (.invokevirtual 193, 3) := by decide +kernel
theorem dX9_dropShot_9 : decode cX9_dropShot 9 = .ok (.ifCond .ne 5, 3) := by decide +kernel
theorem dX9_dropShot_12 : decode cX9_dropShot 12 = .ok (.iconst 0, 1) := by decide +kernel
theorem dX9_dropShot_13 : decode cX9_dropShot 13 = .ok (.ireturn, 1) := by decide +kernel
theorem dX9_dropShot_14 : decode cX9_dropShot 14 = .ok (.aload_n 0, 1) := by decide +kernel
theorem dX9_dropShot_15 : decode cX9_dropShot 15 = .ok (.invokevirtual 322, 3) := by decide +kernel
theorem dX9_dropShot_18 : decode cX9_dropShot 18 = .ok (.aload_n 0, 1) := by decide +kernel
theorem dX9_dropShot_19 : decode cX9_dropShot 19 = .ok (.getfield 17, 3) := by decide +kernel
theorem dX9_dropShot_22 : decode cX9_dropShot 22 = .ok (.iconst 4, 1) := by decide +kernel
theorem dX9_dropShot_23 : decode cX9_dropShot 23 = .ok (.dup2, 1) := by decide +kernel
theorem dX9_dropShot_24 : decode cX9_dropShot 24 = .ok (.iaload, 1) := by decide +kernel
theorem dX9_dropShot_25 : decode cX9_dropShot 25 = .ok (.iconst 1, 1) := by decide +kernel
theorem dX9_dropShot_26 : decode cX9_dropShot 26 = .ok (.isub, 1) := by decide +kernel
theorem dX9_dropShot_27 : decode cX9_dropShot 27 = .ok (.iastore, 1) := by decide +kernel
theorem dX9_dropShot_28 : decode cX9_dropShot 28 = .ok (.bipush 35, 2) := by decide +kernel
theorem dX9_dropShot_30 : decode cX9_dropShot 30 = .ok (.iconst 3, 1) := by decide +kernel
theorem dX9_dropShot_31 : decode cX9_dropShot 31 = .ok (.iload_n 1, 1) := by decide +kernel
theorem dX9_dropShot_32 : decode cX9_dropShot 32 = .ok (.imul, 1) := by decide +kernel
theorem dX9_dropShot_33 : decode cX9_dropShot 33 = .ok (.iadd, 1) := by decide +kernel
theorem dX9_dropShot_34 : decode cX9_dropShot 34 = .ok (.istore_n 2, 1) := by decide +kernel
theorem dX9_dropShot_35 : decode cX9_dropShot 35 = .ok (.iload_n 2, 1) := by decide +kernel
theorem dX9_dropShot_36 : decode cX9_dropShot 36 = .ok (.bipush 35, 2) := by decide +kernel
theorem dX9_dropShot_38 : decode cX9_dropShot 38 = .ok (.iconst 3, 1) := by decide +kernel
theorem dX9_dropShot_39 : decode cX9_dropShot 39 = .ok (.aload_n 0, 1) := by decide +kernel
theorem dX9_dropShot_40 : decode cX9_dropShot 40 = .ok (.invokevirtual 98, 3) := by decide +kernel
theorem dX9_dropShot_43 : decode cX9_dropShot 43 = .ok (.imul, 1) := by decide +kernel
theorem dX9_dropShot_44 : decode cX9_dropShot 44 = .ok (.iadd, 1) := by decide +kernel
theorem dX9_dropShot_45 : decode cX9_dropShot 45 = .ok (.if_icmp .ge 23, 3) := by decide +kernel
theorem dX9_dropShot_48 : decode cX9_dropShot 48 = .ok (.aload_n 0, 1) := by decide +kernel
theorem dX9_dropShot_49 : decode cX9_dropShot 49 = .ok (.getfield 17, 3) := by decide +kernel
theorem dX9_dropShot_52 : decode cX9_dropShot 52 = .ok (.iload_n 2, 1) := by decide +kernel
theorem dX9_dropShot_53 : decode cX9_dropShot 53 = .ok (.aload_n 0, 1) := by decide +kernel
theorem dX9_dropShot_54 : decode cX9_dropShot 54 = .ok (.getfield 17, 3) := by decide +kernel
theorem dX9_dropShot_57 : decode cX9_dropShot 57 = .ok (.iload_n 2, 1) := by decide +kernel
theorem dX9_dropShot_58 : decode cX9_dropShot 58 = .ok (.iconst 3, 1) := by decide +kernel
theorem dX9_dropShot_59 : decode cX9_dropShot 59 = .ok (.iadd, 1) := by decide +kernel
theorem dX9_dropShot_60 : decode cX9_dropShot 60 = .ok (.iaload, 1) := by decide +kernel
theorem dX9_dropShot_61 : decode cX9_dropShot 61 = .ok (.iastore, 1) := by decide +kernel
theorem dX9_dropShot_62 : decode cX9_dropShot 62 = .ok (.iinc 2 1, 3) := by decide +kernel
theorem dX9_dropShot_65 : decode cX9_dropShot 65 = .ok (.goto (-30), 3) := by decide +kernel
theorem dX9_dropShot_68 : decode cX9_dropShot 68 = .ok (.aload_n 0, 1) := by decide +kernel
theorem dX9_dropShot_69 : decode cX9_dropShot 69 = .ok (.invokevirtual 98, 3) := by decide +kernel
theorem dX9_dropShot_72 : decode cX9_dropShot 72 = .ok (.ireturn, 1) := by decide +kernel
set_option maxRecDepth 20000 in
theorem ggX9_isKeep_X9_in : GoodIn wsX9_isKeep wsX9_in := goodIn_r _ [4] (by decide +kernel) (by decide +kernel)
set_option maxRecDepth 20000 in
theorem gX9_isKeep_X9_in : GoodIn wsX9_isKeep (va_wsS RX9 94 yX9_in wsX9_in) := goodIn_app (goodIn_of _ (by decide +kernel)) ggX9_isKeep_X9_in
theorem dX9_isKeep_0 : decode cX9_isKeep 0 = .ok (.iload_n 0, 1) := by decide +kernel
theorem dX9_isKeep_1 : decode cX9_isKeep 1 = .ok (.i2l, 1) := by decide +kernel
theorem dX9_isKeep_2 : decode cX9_isKeep 2 = .ok (.lconst 0, 1) := by decide +kernel
theorem dX9_isKeep_3 : decode cX9_isKeep 3 = .ok (.lconst 1, 1) := by decide +kernel
theorem dX9_isKeep_4 : decode cX9_isKeep 4 = .ok (.invokestatic 94, 3) := by decide +kernel
theorem dX9_isKeep_7 : decode cX9_isKeep 7 = .ok (.ireturn, 1) := by decide +kernel
set_option maxRecDepth 20000 in
theorem ggX9_keep_X9_isKeep : GoodIn wsX9_keep wsX9_isKeep := goodIn_r _ [7, 8, 9, 6, 10] (by decide +kernel) (by decide +kernel)
set_option maxRecDepth 20000 in
theorem gX9_keep_X9_isKeep : GoodIn wsX9_keep (va_wsS RX9 441 yX9_isKeep wsX9_isKeep) := goodIn_app (goodIn_of _ (by decide +kernel)) ggX9_keep_X9_isKeep
set_option maxRecDepth 20000 in
theorem ggX9_keep_X9_passes : GoodIn wsX9_keep wsX9_passes := goodIn_r _ [14, 15, 16, 17, 6, 18, 19, 25, 26, 27, 28, 29, 30, 31, 32, 33, 34, 35, 36, 37, 38, 39, 40, 41, 42, 43, 44, 45, 46, 47, 48, 49, 50, 51, 52, 53, 54, 55, 56, 57, 58, 59, 60, 61, 62, 63, 64, 65] (by decide +kernel) (by decide +kernel)
set_option maxRecDepth 20000 in
theorem gX9_keep_X9_passes : GoodIn wsX9_keep (wsV RX9 193 RX9 yX9_passes wsX9_passes) := goodIn_app (goodIn_of _ (by decide +kernel)) ggX9_keep_X9_passes
set_option maxRecDepth 20000 in
theorem ggX9_keep_X9_shots : GoodIn wsX9_keep wsX9_shots := goodIn_r _ [23, 24, 25, 26, 27, 28, 29, 30, 31, 32, 33, 34, 35, 36, 37, 38, 39, 40, 41, 42, 43, 44, 45, 46, 47, 48, 49, 50, 51, 52, 53, 54, 55, 56, 57, 58, 59, 60, 61, 62, 63, 64, 65] (by decide +kernel) (by decide +kernel)
set_option maxRecDepth 20000 in
theorem gX9_keep_X9_shots : GoodIn wsX9_keep (wsV RX9 98 RX9 yX9_shots wsX9_shots) := goodIn_app (goodIn_of _ (by decide +kernel)) ggX9_keep_X9_shots
theorem dX9_keep_0 : decode cX9_keep 0 = .ok (.aload_n 0, 1) := by decide +kernel
theorem dX9_keep_1 : decode cX9_keep 1 = .ok (.iload_n 1, 1) := by decide +kernel
theorem dX9_keep_2 : decode cX9_keep 2 = .ok (.invokestatic 441, 3) := by decide +kernel
theorem dX9_keep_5 : decode cX9_keep 5 = .ok (.invokevirtual 193, 3) := by decide +kernel
theorem dX9_keep_8 : decode cX9_keep 8 = .ok (.ifCond .ne 5, 3) := by decide +kernel
theorem dX9_keep_11 : decode cX9_keep 11 = .ok (.iconst 0, 1) := by decide +kernel
theorem dX9_keep_12 : decode cX9_keep 12 = .ok (.ireturn, 1) := by decide +kernel
theorem dX9_keep_13 : decode cX9_keep 13 = .ok (.iconst 0, 1) := by decide +kernel
theorem dX9_keep_14 : decode cX9_keep 14 = .ok (.istore_n 2, 1) := by decide +kernel
theorem dX9_keep_15 : decode cX9_keep 15 = .ok (.iload_n 2, 1) := by decide +kernel
theorem dX9_keep_16 : decode cX9_keep 16 = .ok (.bipush 95, 2) := by decide +kernel
theorem dX9_keep_18 : decode cX9_keep 18 = .ok (.if_icmp .ge 26, 3) := by decide +kernel
theorem dX9_keep_21 : decode cX9_keep 21 = .ok (.aload_n 0, 1) := by decide +kernel
theorem dX9_keep_22 : decode cX9_keep 22 = .ok (.getfield 71, 3) := by decide +kernel
theorem dX9_keep_25 : decode cX9_keep 25 = .ok (.bipush 95, 2) := by decide +kernel
theorem dX9_keep_27 : decode cX9_keep 27 = .ok (.iload_n 1, 1) := by decide +kernel
theorem dX9_keep_28 : decode cX9_keep 28 = .ok (.imul, 1) := by decide +kernel
theorem dX9_keep_29 : decode cX9_keep 29 = .ok (.iload_n 2, 1) := by decide +kernel
theorem dX9_keep_30 : decode cX9_keep 30 = .ok (.iadd, 1) := by decide +kernel
theorem dX9_keep_31 : decode cX9_keep 31 = .ok (.aload_n 0, 1) := by decide +kernel
theorem dX9_keep_32 : decode cX9_keep 32 = .ok (.getfield 17, 3) := by decide +kernel
theorem dX9_keep_35 : decode cX9_keep 35 = .ok (.iload_n 2, 1) := by decide +kernel
theorem dX9_keep_36 : decode cX9_keep 36 = .ok (.iaload, 1) := by decide +kernel
theorem dX9_keep_37 : decode cX9_keep 37 = .ok (.iastore, 1) := by decide +kernel
theorem dX9_keep_38 : decode cX9_keep 38 = .ok (.iinc 2 1, 3) := by decide +kernel
theorem dX9_keep_41 : decode cX9_keep 41 = .ok (.goto (-26), 3) := by decide +kernel
theorem dX9_keep_44 : decode cX9_keep 44 = .ok (.aload_n 0, 1) := by decide +kernel
theorem dX9_keep_45 : decode cX9_keep 45 = .ok (.getfield 74, 3) := by decide +kernel
theorem dX9_keep_48 : decode cX9_keep 48 = .ok (.iload_n 1, 1) := by decide +kernel
theorem dX9_keep_49 : decode cX9_keep 49 = .ok (.iconst 1, 1) := by decide +kernel
theorem dX9_keep_50 : decode cX9_keep 50 = .ok (.bastore, 1) := by decide +kernel
theorem dX9_keep_51 : decode cX9_keep 51 = .ok (.aload_n 0, 1) := by decide +kernel
theorem dX9_keep_52 : decode cX9_keep 52 = .ok (.invokevirtual 98, 3) := by decide +kernel
theorem dX9_keep_55 : decode cX9_keep 55 = .ok (.ireturn, 1) := by decide +kernel
set_option maxRecDepth 20000 in
theorem ggX9_restore_X9_isKeep : GoodIn wsX9_restore wsX9_isKeep := goodIn_r _ [7, 8, 9, 6, 10] (by decide +kernel) (by decide +kernel)
set_option maxRecDepth 20000 in
theorem gX9_restore_X9_isKeep : GoodIn wsX9_restore (va_wsS RX9 441 yX9_isKeep wsX9_isKeep) := goodIn_app (goodIn_of _ (by decide +kernel)) ggX9_restore_X9_isKeep
set_option maxRecDepth 20000 in
theorem ggX9_restore_X9_passes2 : GoodIn wsX9_restore wsX9_passes2 := goodIn_r _ [14, 15, 16, 17, 6, 18, 19, 31, 32, 33, 34, 35, 36, 37, 38, 39, 40, 41, 42, 43, 44, 45, 46, 47, 48, 49, 50, 51, 52, 53, 54, 55, 56, 57, 58, 59, 60, 61, 62, 63, 64, 65, 66, 67, 68, 69, 70, 71] (by decide +kernel) (by decide +kernel)
set_option maxRecDepth 20000 in
theorem gX9_restore_X9_passes2 : GoodIn wsX9_restore (wsV RX9 332 RX9 yX9_passes2 wsX9_passes2) := goodIn_app (goodIn_of _ (by decide +kernel)) ggX9_restore_X9_passes2
set_option maxRecDepth 20000 in
theorem ggX9_restore_X9_remember : GoodIn wsX9_restore wsX9_remember := goodIn_r _ [23, 24, 25, 2, 31, 32, 33, 34, 35, 36, 37, 38, 39, 40, 41, 42, 43, 44, 45, 46, 47, 48, 49, 50, 51, 52, 53, 54, 55, 56, 57, 58, 59, 60, 61, 62, 63, 64, 65, 66, 67, 68, 69, 70, 71] (by decide +kernel) (by decide +kernel)
set_option maxRecDepth 20000 in
theorem gX9_restore_X9_remember : GoodIn wsX9_restore (wsV RX9 322 RX9 yX9_remember wsX9_remember) := goodIn_app (goodIn_of _ (by decide +kernel)) ggX9_restore_X9_remember
set_option maxRecDepth 20000 in
theorem ggX9_restore_X9_shots : GoodIn wsX9_restore wsX9_shots := goodIn_r _ [29, 30, 31, 32, 33, 34, 35, 36, 37, 38, 39, 40, 41, 42, 43, 44, 45, 46, 47, 48, 49, 50, 51, 52, 53, 54, 55, 56, 57, 58, 59, 60, 61, 62, 63, 64, 65, 66, 67, 68, 69, 70, 71] (by decide +kernel) (by decide +kernel)
set_option maxRecDepth 20000 in
theorem gX9_restore_X9_shots : GoodIn wsX9_restore (wsV RX9 98 RX9 yX9_shots wsX9_shots) := goodIn_app (goodIn_of _ (by decide +kernel)) ggX9_restore_X9_shots
theorem dX9_restore_0 : decode cX9_restore 0 = .ok (.aload_n 0, 1) := by decide +kernel
theorem dX9_restore_1 : decode cX9_restore 1 = .ok (.iload_n 1, 1) := by decide +kernel
theorem dX9_restore_2 : decode cX9_restore 2 = .ok (.invokestatic 441, 3) := by decide +kernel
theorem dX9_restore_5 : decode cX9_restore 5 = .ok (.iload_n 1, 1) := by decide +kernel
theorem dX9_restore_6 : decode cX9_restore 6 = .ok (.invokestatic 441, 3) := by decide +kernel
theorem dX9_restore_9 : decode cX9_restore 9 = .ok (.ifCond .eq 12, 3) := by decide +kernel
theorem dX9_restore_12 : decode cX9_restore 12 = .ok (.aload_n 0, 1) := by decide +kernel
theorem dX9_restore_13 : decode cX9_restore 13 = .ok (.getfield 74, 3) := by decide +kernel
theorem dX9_restore_16 : decode cX9_restore 16 = .ok (.iload_n 1, 1) := by decide +kernel
theorem dX9_restore_17 : decode cX9_restore 17 = .ok (.baload, 1) := by decide +kernel
theorem dX9_restore_18 : decode cX9_restore 18 = .ok (.ifCond .eq 7, 3) := by decide +kernel
theorem dX9_restore_21 : decode cX9_restore 21 = .ok (.iconst 1, 1) := by decide +kernel
theorem dX9_restore_22 : decode cX9_restore 22 = .ok (.goto 4, 3) := by decide +kernel
theorem dX9_restore_25 : decode cX9_restore 25 = .ok (.iconst 0, 1) := by decide +kernel
theorem dX9_restore_26 : decode cX9_restore 26 = .ok (.invokevirtual 332, 3) := by decide +kernel
theorem dX9_restore_29 : decode cX9_restore 29 = .ok (.ifCond .ne 5, 3) := by decide +kernel
theorem dX9_restore_32 : decode cX9_restore 32 = .ok (.iconst 0, 1) := by decide +kernel
theorem dX9_restore_33 : decode cX9_restore 33 = .ok (.ireturn, 1) := by decide +kernel
theorem dX9_restore_34 : decode cX9_restore 34 = .ok (.aload_n 0, 1) := by decide +kernel
theorem dX9_restore_35 : decode cX9_restore 35 = .ok (.invokevirtual 322, 3) := by decide +kernel
theorem dX9_restore_38 : decode cX9_restore 38 = .ok (.iconst 0, 1) := by decide +kernel
theorem dX9_restore_39 : decode cX9_restore 39 = .ok (.istore_n 2, 1) := by decide +kernel
theorem dX9_restore_40 : decode cX9_restore 40 = .ok (.iload_n 2, 1) := by decide +kernel
theorem dX9_restore_41 : decode cX9_restore 41 = .ok (.bipush 95, 2) := by decide +kernel
theorem dX9_restore_43 : decode cX9_restore 43 = .ok (.if_icmp .ge 26, 3) := by decide +kernel
theorem dX9_restore_46 : decode cX9_restore 46 = .ok (.aload_n 0, 1) := by decide +kernel
theorem dX9_restore_47 : decode cX9_restore 47 = .ok (.getfield 17, 3) := by decide +kernel
theorem dX9_restore_50 : decode cX9_restore 50 = .ok (.iload_n 2, 1) := by decide +kernel
theorem dX9_restore_51 : decode cX9_restore 51 = .ok (.aload_n 0, 1) := by decide +kernel
theorem dX9_restore_52 : decode cX9_restore 52 = .ok (.getfield 71, 3) := by decide +kernel
theorem dX9_restore_55 : decode cX9_restore 55 = .ok (.bipush 95, 2) := by decide +kernel
theorem dX9_restore_57 : decode cX9_restore 57 = .ok (.iload_n 1, 1) := by decide +kernel
theorem dX9_restore_58 : decode cX9_restore 58 = .ok (.imul, 1) := by decide +kernel
theorem dX9_restore_59 : decode cX9_restore 59 = .ok (.iload_n 2, 1) := by decide +kernel
theorem dX9_restore_60 : decode cX9_restore 60 = .ok (.iadd, 1) := by decide +kernel
theorem dX9_restore_61 : decode cX9_restore 61 = .ok (.iaload, 1) := by decide +kernel
theorem dX9_restore_62 : decode cX9_restore 62 = .ok (.iastore, 1) := by decide +kernel
theorem dX9_restore_63 : decode cX9_restore 63 = .ok (.iinc 2 1, 3) := by decide +kernel
theorem dX9_restore_66 : decode cX9_restore 66 = .ok (.goto (-26), 3) := by decide +kernel
theorem dX9_restore_69 : decode cX9_restore 69 = .ok (.aload_n 0, 1) := by decide +kernel
theorem dX9_restore_70 : decode cX9_restore 70 = .ok (.invokevirtual 98, 3) := by decide +kernel
theorem dX9_restore_73 : decode cX9_restore 73 = .ok (.ireturn, 1) := by decide +kernel
theorem dX9_remember_0 : decode cX9_remember 0 = .ok (.aload_n 0, 1) := by decide +kernel
theorem dX9_remember_1 : decode cX9_remember 1 = .ok (.getfield 444, 3) := by decide +kernel
theorem dX9_remember_4 : decode cX9_remember 4 = .ok (.bipush 6, 2) := by decide +kernel
theorem dX9_remember_6 : decode cX9_remember 6 = .ok (.if_icmp .ne 44, 3) := by decide +kernel
theorem dX9_remember_9 : decode cX9_remember 9 = .ok (.bipush 95, 2) := by decide +kernel
theorem dX9_remember_11 : decode cX9_remember 11 = .ok (.istore_n 1, 1) := by decide +kernel
theorem dX9_remember_12 : decode cX9_remember 12 = .ok (.iload_n 1, 1) := by decide +kernel
theorem dX9_remember_13 : decode cX9_remember 13 = .ok (.sipush 570, 3) := by decide +kernel
theorem dX9_remember_16 : decode cX9_remember 16 = .ok (.if_icmp .ge 24, 3) := by decide +kernel
theorem dX9_remember_19 : decode cX9_remember 19 = .ok (.aload_n 0, 1) := by decide +kernel
theorem dX9_remember_20 : decode cX9_remember 20 = .ok (.getfield 77, 3) := by decide +kernel
theorem dX9_remember_23 : decode cX9_remember 23 = .ok (.iload_n 1, 1) := by decide +kernel
theorem dX9_remember_24 : decode cX9_remember 24 = .ok (.bipush 95, 2) := by decide +kernel
theorem dX9_remember_26 : decode cX9_remember 26 = .ok (.isub, 1) := by decide +kernel
theorem dX9_remember_27 : decode cX9_remember 27 = .ok (.aload_n 0, 1) := by decide +kernel
theorem dX9_remember_28 : decode cX9_remember 28 = .ok (.getfield 77, 3) := by decide +kernel
theorem dX9_remember_31 : decode cX9_remember 31 = .ok (.iload_n 1, 1) := by decide +kernel
theorem dX9_remember_32 : decode cX9_remember 32 = .ok (.iaload, 1) := by decide +kernel
theorem dX9_remember_33 : decode cX9_remember 33 = .ok (.iastore, 1) := by decide +kernel
theorem dX9_remember_34 : decode cX9_remember 34 = .ok (.iinc 1 1, 3) := by decide +kernel
theorem dX9_remember_37 : decode cX9_remember 37 = .ok (.goto (-25), 3) := by decide +kernel
theorem dX9_remember_40 : decode cX9_remember 40 = .ok (.aload_n 0, 1) := by decide +kernel
theorem dX9_remember_41 : decode cX9_remember 41 = .ok (.dup, 1) := by decide +kernel
theorem dX9_remember_42 : decode cX9_remember 42 = .ok (.getfield 444, 3) := by decide +kernel
theorem dX9_remember_45 : decode cX9_remember 45 = .ok (.iconst 1, 1) := by decide +kernel
theorem dX9_remember_46 : decode cX9_remember 46 = .ok (.isub, 1) := by decide +kernel
theorem dX9_remember_47 : decode cX9_remember 47 = .ok (.putfield 444, 3) := by decide +kernel
theorem dX9_remember_50 : decode cX9_remember 50 = .ok (.iconst 0, 1) := by decide +kernel
theorem dX9_remember_51 : decode cX9_remember 51 = .ok (.istore_n 1, 1) := by decide +kernel
theorem dX9_remember_52 : decode cX9_remember 52 = .ok (.iload_n 1, 1) := by decide +kernel
theorem dX9_remember_53 : decode cX9_remember 53 = .ok (.bipush 95, 2) := by decide +kernel
theorem dX9_remember_55 : decode cX9_remember 55 = .ok (.if_icmp .ge 29, 3) := by decide +kernel
theorem dX9_remember_58 : decode cX9_remember 58 = .ok (.aload_n 0, 1) := by decide +kernel
theorem dX9_remember_59 : decode cX9_remember 59 = .ok (.getfield 77, 3) := by decide +kernel
theorem dX9_remember_62 : decode cX9_remember 62 = .ok (.bipush 95, 2) := by decide +kernel
theorem dX9_remember_64 : decode cX9_remember 64 = .ok (.aload_n 0, 1) := by decide +kernel
theorem dX9_remember_65 : decode cX9_remember 65 = .ok (.getfield 444, 3) := by decide +kernel
theorem dX9_remember_68 : decode cX9_remember 68 = .ok (.imul, 1) := by decide +kernel
theorem dX9_remember_69 : decode cX9_remember 69 = .ok (.iload_n 1, 1) := by decide +kernel
theorem dX9_remember_70 : decode cX9_remember 70 = .ok (.iadd, 1) := by decide +kernel
theorem dX9_remember_71 : decode cX9_remember 71 = .ok (.aload_n 0, 1) := by decide +kernel
theorem dX9_remember_72 : decode cX9_remember 72 = .ok (.getfield 17, 3) := by decide +kernel
theorem dX9_remember_75 : decode cX9_remember 75 = .ok (.iload_n 1, 1) := by decide +kernel
theorem dX9_remember_76 : decode cX9_remember 76 = .ok (.iaload, 1) := by decide +kernel
theorem dX9_remember_77 : decode cX9_remember 77 = .ok (.iastore, 1) := by decide +kernel
theorem dX9_remember_78 : decode cX9_remember 78 = .ok (.iinc 1 1, 3) := by decide +kernel
theorem dX9_remember_81 : decode cX9_remember 81 = .ok (.goto (-29), 3) := by decide +kernel
theorem dX9_remember_84 : decode cX9_remember 84 = .ok (.aload_n 0, 1) := by decide +kernel
theorem dX9_remember_85 : decode cX9_remember 85 = .ok (.dup, 1) := by decide +kernel
theorem dX9_remember_86 : decode cX9_remember 86 = .ok (.getfield 444, 3) := by decide +kernel
theorem dX9_remember_89 : decode cX9_remember 89 = .ok (.iconst 1, 1) := by decide +kernel
theorem dX9_remember_90 : decode cX9_remember 90 = .ok (.iadd, 1) := by decide +kernel
theorem dX9_remember_91 : decode cX9_remember 91 = .ok (.putfield 444, 3) := by decide +kernel
theorem dX9_remember_94 : decode cX9_remember 94 = .ok (.return_, 1) := by decide +kernel
set_option maxRecDepth 20000 in
theorem ggX9_undo_X9_passes : GoodIn wsX9_undo wsX9_passes := goodIn_r _ [8, 9, 10, 11, 7, 12, 13, 14, 15, 16, 17, 18, 19, 20, 21, 22, 23, 24, 25, 26, 27, 28, 29, 30, 31, 32, 33, 34, 35, 36, 37, 38, 39, 40, 41, 42, 43, 44, 45, 46, 47, 48, 49, 50, 51, 52, 53, 54] (by decide +kernel) (by decide +kernel)
set_option maxRecDepth 20000 in
theorem gX9_undo_X9_passes : GoodIn wsX9_undo (wsV RX9 193 RX9 yX9_passes wsX9_passes) := goodIn_app (goodIn_of _ (by decide +kernel)) ggX9_undo_X9_passes
theorem dX9_undo_0 : decode cX9_undo 0 = .ok (.aload_n 0, 1) := by decide +kernel
theorem dX9_undo_1 : decode cX9_undo 1 = .ok (.aload_n 0, 1) := by decide +kernel
theorem dX9_undo_2 : decode cX9_undo 2 = .ok (.getfield 444, 3) := by decide +kernel
theorem dX9_undo_5 : decode cX9_undo 5 = .ok (.ifCond .le 7, 3) := by decide +kernel
theorem dX9_undo_8 : decode cX9_undo 8 = .ok (.iconst 1, 1) := by decide +kernel
theorem dX9_undo_9 : decode cX9_undo 9 = .ok (.goto 4, 3) := by decide +kernel
theorem dX9_undo_12 : decode cX9_undo 12 = .ok (.iconst 0, 1) := by decide +kernel
theorem dX9_undo_13 : decode cX9_undo 13 = .ok (.invokevirtual 193, 3) := by decide +kernel
theorem dX9_undo_16 : decode cX9_undo 16 = .ok (.ifCond .ne 5, 3) := by decide +kernel
theorem dX9_undo_19 : decode cX9_undo 19 = .ok (.iconst 0, 1) := by decide +kernel
theorem dX9_undo_20 : decode cX9_undo 20 = .ok (.ireturn, 1) := by decide +kernel
theorem dX9_undo_21 : decode cX9_undo 21 = .ok (.aload_n 0, 1) := by decide +kernel
theorem dX9_undo_22 : decode cX9_undo 22 = .ok (.dup, 1) := by decide +kernel
theorem dX9_undo_23 : decode cX9_undo 23 = .ok (.getfield 444, 3) := by decide +kernel
theorem dX9_undo_26 : decode cX9_undo 26 = .ok (.iconst 1, 1) := by decide +kernel
theorem dX9_undo_27 : decode cX9_undo 27 = .ok (.isub, 1) := by decide +kernel
theorem dX9_undo_28 : decode cX9_undo 28 = .ok (.putfield 444, 3) := by decide +kernel
theorem dX9_undo_31 : decode cX9_undo 31 = .ok (.iconst 0, 1) := by decide +kernel
theorem dX9_undo_32 : decode cX9_undo 32 = .ok (.istore_n 1, 1) := by decide +kernel
theorem dX9_undo_33 : decode cX9_undo 33 = .ok (.iload_n 1, 1) := by decide +kernel
theorem dX9_undo_34 : decode cX9_undo 34 = .ok (.bipush 95, 2) := by decide +kernel
theorem dX9_undo_36 : decode cX9_undo 36 = .ok (.if_icmp .ge 29, 3) := by decide +kernel
theorem dX9_undo_39 : decode cX9_undo 39 = .ok (.aload_n 0, 1) := by decide +kernel
theorem dX9_undo_40 : decode cX9_undo 40 = .ok (.getfield 17, 3) := by decide +kernel
theorem dX9_undo_43 : decode cX9_undo 43 = .ok (.iload_n 1, 1) := by decide +kernel
theorem dX9_undo_44 : decode cX9_undo 44 = .ok (.aload_n 0, 1) := by decide +kernel
theorem dX9_undo_45 : decode cX9_undo 45 = .ok (.getfield 77, 3) := by decide +kernel
theorem dX9_undo_48 : decode cX9_undo 48 = .ok (.bipush 95, 2) := by decide +kernel
theorem dX9_undo_50 : decode cX9_undo 50 = .ok (.aload_n 0, 1) := by decide +kernel
theorem dX9_undo_51 : decode cX9_undo 51 = .ok (.getfield 444, 3) := by decide +kernel
theorem dX9_undo_54 : decode cX9_undo 54 = .ok (.imul, 1) := by decide +kernel
theorem dX9_undo_55 : decode cX9_undo 55 = .ok (.iload_n 1, 1) := by decide +kernel
theorem dX9_undo_56 : decode cX9_undo 56 = .ok (.iadd, 1) := by decide +kernel
theorem dX9_undo_57 : decode cX9_undo 57 = .ok (.iaload, 1) := by decide +kernel
theorem dX9_undo_58 : decode cX9_undo 58 = .ok (.iastore, 1) := by decide +kernel
theorem dX9_undo_59 : decode cX9_undo 59 = .ok (.iinc 1 1, 3) := by decide +kernel
theorem dX9_undo_62 : decode cX9_undo 62 = .ok (.goto (-29), 3) := by decide +kernel
theorem dX9_undo_65 : decode cX9_undo 65 = .ok (.aload_n 0, 1) := by decide +kernel
theorem dX9_undo_66 : decode cX9_undo 66 = .ok (.getfield 444, 3) := by decide +kernel
theorem dX9_undo_69 : decode cX9_undo 69 = .ok (.ireturn, 1) := by decide +kernel
theorem dX9_undoCount_0 : decode cX9_undoCount 0 = .ok (.aload_n 0, 1) := by decide +kernel
theorem dX9_undoCount_1 : decode cX9_undoCount 1 = .ok (.iconst 0, 1) := by decide +kernel
theorem dX9_undoCount_2 : decode cX9_undoCount 2 = .ok (.putfield 3, 3) := by decide +kernel
theorem dX9_undoCount_5 : decode cX9_undoCount 5 = .ok (.aload_n 0, 1) := by decide +kernel
theorem dX9_undoCount_6 : decode cX9_undoCount 6 = .ok (.getfield 444, 3) := by decide +kernel
theorem dX9_undoCount_9 : decode cX9_undoCount 9 = .ok (.ireturn, 1) := by decide +kernel
theorem dX9_write_0 : decode cX9_write 0 = .ok (.aload_n 0, 1) := by decide +kernel
theorem dX9_write_1 : decode cX9_write 1 = .ok (.getfield 80, 3) := by decide +kernel
theorem dX9_write_4 : decode cX9_write 4 = .ok (.aload_n 0, 1) := by decide +kernel
theorem dX9_write_5 : decode cX9_write 5 = .ok (.getfield 447, 3) := by decide +kernel
theorem dX9_write_8 : decode cX9_write 8 = .ok (.iload_n 1, 1) := by decide +kernel
theorem dX9_write_9 : decode cX9_write 9 = .ok (.i2b, 1) := by decide +kernel
theorem dX9_write_10 : decode cX9_write 10 = .ok (.bastore, 1) := by decide +kernel
theorem dX9_write_11 : decode cX9_write 11 = .ok (.aload_n 0, 1) := by decide +kernel
theorem dX9_write_12 : decode cX9_write 12 = .ok (.dup, 1) := by decide +kernel
theorem dX9_write_13 : decode cX9_write 13 = .ok (.getfield 447, 3) := by decide +kernel
theorem dX9_write_16 : decode cX9_write 16 = .ok (.iconst 1, 1) := by decide +kernel
theorem dX9_write_17 : decode cX9_write 17 = .ok (.iadd, 1) := by decide +kernel
theorem dX9_write_18 : decode cX9_write 18 = .ok (.putfield 447, 3) := by decide +kernel
theorem dX9_write_21 : decode cX9_write 21 = .ok (.return_, 1) := by decide +kernel
set_option maxRecDepth 20000 in
theorem ggX9_writeInt_X9_write : GoodIn wsX9_writeInt wsX9_write := goodIn_r _ [5, 6, 7, 8, 9, 10, 11, 12, 13, 14, 15, 16, 17, 18, 19, 20, 21, 22, 23, 24, 25, 26, 27, 28, 29, 30, 31, 32, 33, 34, 35, 36, 37, 38, 39, 40, 41, 42, 43, 44, 45, 46, 47, 48] (by decide +kernel) (by decide +kernel)
set_option maxRecDepth 20000 in
theorem gX9_writeInt_X9_write : GoodIn wsX9_writeInt (wsV RX9 450 RX9 yX9_write wsX9_write) := goodIn_app (goodIn_of _ (by decide +kernel)) ggX9_writeInt_X9_write
theorem dX9_writeInt_0 : decode cX9_writeInt 0 = .ok (.iconst 1, 1) := by decide +kernel
theorem dX9_writeInt_1 : decode cX9_writeInt 1 = .ok (.istore_n 2, 1) := by decide +kernel
theorem dX9_writeInt_2 : decode cX9_writeInt 2 = .ok (.iload_n 1, 1) := by decide +kernel
theorem dX9_writeInt_3 : decode cX9_writeInt 3 = .ok (.iload_n 2, 1) := by decide +kernel
theorem dX9_writeInt_4 : decode cX9_writeInt 4 = .ok (.idiv, 1) := by decide +kernel
theorem dX9_writeInt_5 : decode cX9_writeInt 5 = .ok (.bipush 10, 2) := by decide +kernel
theorem dX9_writeInt_7 : decode cX9_writeInt 7 = .ok (.if_icmp .lt 11, 3) := by decide +kernel
theorem dX9_writeInt_10 : decode cX9_writeInt 10 = .ok (.iload_n 2, 1) := by decide +kernel
theorem dX9_writeInt_11 : decode cX9_writeInt 11 = .ok (.bipush 10, 2) := by decide +kernel
theorem dX9_writeInt_13 : decode cX9_writeInt 13 = .ok (.imul, 1) := by decide +kernel
theorem dX9_writeInt_14 : decode cX9_writeInt 14 = .ok (.istore_n 2, 1) := by decide +kernel
theorem dX9_writeInt_15 : decode cX9_writeInt 15 = .ok (.goto (-13), 3) := by decide +kernel
theorem dX9_writeInt_18 : decode cX9_writeInt 18 = .ok (.iload_n 2, 1) := by decide +kernel
theorem dX9_writeInt_19 : decode cX9_writeInt 19 = .ok (.istore_n 3, 1) := by decide +kernel
theorem dX9_writeInt_20 : decode cX9_writeInt 20 = .ok (.iload_n 3, 1) := by decide +kernel
theorem dX9_writeInt_21 : decode cX9_writeInt 21 = .ok (.ifCond .le 24, 3) := by decide +kernel
theorem dX9_writeInt_24 : decode cX9_writeInt 24 = .ok (.aload_n 0, 1) := by decide +kernel
theorem dX9_writeInt_25 : decode cX9_writeInt 25 = .ok (.bipush 48, 2) := by decide +kernel
theorem dX9_writeInt_27 : decode cX9_writeInt 27 = .ok (.iload_n 1, 1) := by decide +kernel
theorem dX9_writeInt_28 : decode cX9_writeInt 28 = .ok (.iload_n 3, 1) := by decide +kernel
theorem dX9_writeInt_29 : decode cX9_writeInt 29 = .ok (.idiv, 1) := by decide +kernel
theorem dX9_writeInt_30 : decode cX9_writeInt 30 = .ok (.bipush 10, 2) := by decide +kernel
theorem dX9_writeInt_32 : decode cX9_writeInt 32 = .ok (.irem, 1) := by decide +kernel
theorem dX9_writeInt_33 : decode cX9_writeInt 33 = .ok (.iadd, 1) := by decide +kernel
theorem dX9_writeInt_34 : decode cX9_writeInt 34 = .ok (.invokevirtual 450, 3) := by decide +kernel
theorem dX9_writeInt_37 : decode cX9_writeInt 37 = .ok (.iload_n 3, 1) := by decide +kernel
theorem dX9_writeInt_38 : decode cX9_writeInt 38 = .ok (.bipush 10, 2) := by decide +kernel
theorem dX9_writeInt_40 : decode cX9_writeInt 40 = .ok (.idiv, 1) := by decide +kernel
theorem dX9_writeInt_41 : decode cX9_writeInt 41 = .ok (.istore_n 3, 1) := by decide +kernel
theorem dX9_writeInt_42 : decode cX9_writeInt 42 = .ok (.goto (-22), 3) := by decide +kernel
theorem dX9_writeInt_45 : decode cX9_writeInt 45 = .ok (.return_, 1) := by decide +kernel
set_option maxRecDepth 20000 in
theorem ggX9_writeLayers_X9_layers : GoodIn wsX9_writeLayers wsX9_layers := goodIn_r _ [8, 9, 23, 24, 25, 26, 27, 28, 29, 30, 31, 32, 33, 34, 35, 36, 37, 38, 39, 40, 41, 42, 43, 44, 45, 46, 47, 48, 49, 50, 51, 52, 53, 54, 55, 56, 57, 58, 59, 60, 61, 62, 63] (by decide +kernel) (by decide +kernel)
set_option maxRecDepth 20000 in
theorem gX9_writeLayers_X9_layers : GoodIn wsX9_writeLayers (wsV RX9 90 RX9 yX9_layers wsX9_layers) := goodIn_app (goodIn_of _ (by decide +kernel)) ggX9_writeLayers_X9_layers
set_option maxRecDepth 20000 in
theorem ggX9_writeLayers_X9_write : GoodIn wsX9_writeLayers wsX9_write := goodIn_r _ [13, 14, 2, 23, 24, 25, 26, 27, 28, 29, 30, 31, 32, 33, 34, 35, 36, 37, 38, 39, 40, 41, 42, 43, 44, 45, 46, 47, 48, 49, 50, 51, 52, 53, 54, 55, 56, 57, 58, 59, 60, 61, 62, 63] (by decide +kernel) (by decide +kernel)
set_option maxRecDepth 20000 in
theorem gX9_writeLayers_X9_write : GoodIn wsX9_writeLayers (wsV RX9 450 RX9 yX9_write wsX9_write) := goodIn_app (goodIn_of _ (by decide +kernel)) ggX9_writeLayers_X9_write
set_option maxRecDepth 20000 in
theorem ggX9_writeLayers_X9_ofLayer : GoodIn wsX9_writeLayers wsX9_ofLayer := goodIn_r _ [18, 9, 23, 24, 25, 26, 27, 28, 29, 30, 31, 32, 33, 34, 35, 36, 37, 38, 39, 40, 41, 42, 43, 44, 45, 46, 47, 48, 49, 50, 51, 52, 53, 54, 55, 56, 57, 58, 59, 60, 61, 62, 63] (by decide +kernel) (by decide +kernel)
set_option maxRecDepth 20000 in
theorem gX9_writeLayers_X9_ofLayer : GoodIn wsX9_writeLayers (wsV RX9 105 RX9 yX9_ofLayer wsX9_ofLayer) := goodIn_app (goodIn_of _ (by decide +kernel)) ggX9_writeLayers_X9_ofLayer
set_option maxRecDepth 20000 in
theorem ggX9_writeLayers_X9_writeInt : GoodIn wsX9_writeLayers wsX9_writeInt := goodIn_r _ [22, 10, 11, 12, 7, 13, 14, 2, 23, 24, 25, 26, 27, 28, 29, 30, 31, 32, 33, 34, 35, 36, 37, 38, 39, 40, 41, 42, 43, 44, 45, 46, 47, 48, 49, 50, 51, 52, 53, 54, 55, 56, 57, 58, 59, 60, 61, 62, 63] (by decide +kernel) (by decide +kernel)
set_option maxRecDepth 20000 in
theorem gX9_writeLayers_X9_writeInt : GoodIn wsX9_writeLayers (wsV RX9 453 RX9 yX9_writeInt wsX9_writeInt) := goodIn_app (goodIn_of _ (by decide +kernel)) ggX9_writeLayers_X9_writeInt
theorem dX9_writeLayers_0 : decode cX9_writeLayers 0 = .ok (.aload_n 0, 1) := by decide +kernel
theorem dX9_writeLayers_1 : decode cX9_writeLayers 1 = .ok (.iconst 0, 1) := by decide +kernel
theorem dX9_writeLayers_2 : decode cX9_writeLayers 2 = .ok (.putfield 3, 3) := by decide +kernel
theorem dX9_writeLayers_5 : decode cX9_writeLayers 5 = .ok (.aload_n 0, 1) := by decide +kernel
theorem dX9_writeLayers_6 : decode cX9_writeLayers 6 = .ok (.iconst 0, 1) := by decide +kernel
theorem dX9_writeLayers_7 : decode cX9_writeLayers 7 = .ok (.putfield 447, 3) := by decide +kernel
theorem dX9_writeLayers_10 : decode cX9_writeLayers 10 = .ok (.iconst 0, 1) := by decide +kernel
theorem dX9_writeLayers_11 : decode cX9_writeLayers 11 = .ok (.istore_n 1, 1) := by decide +kernel
theorem dX9_writeLayers_12 : decode cX9_writeLayers 12 = .ok (.iload_n 1, 1) := by decide +kernel
theorem dX9_writeLayers_13 : decode cX9_writeLayers 13 = .ok (.aload_n 0, 1) := by decide +kernel
theorem dX9_writeLayers_14 : decode cX9_writeLayers 14 = .ok (.invokevirtual 90, 3) := by decide +kernel
theorem dX9_writeLayers_17 : decode cX9_writeLayers 17 = .ok (.if_icmp .ge 45, 3) := by decide +kernel
theorem dX9_writeLayers_20 : decode cX9_writeLayers 20 = .ok (.iload_n 1, 1) := by decide +kernel
theorem dX9_writeLayers_21 : decode cX9_writeLayers 21 = .ok (.ifCond .le 9, 3) := by decide +kernel
theorem dX9_writeLayers_24 : decode cX9_writeLayers 24 = .ok (.aload_n 0, 1) := by decide +kernel
theorem dX9_writeLayers_25 : decode cX9_writeLayers 25 = .ok (.bipush 47, 2) := by decide +kernel
theorem dX9_writeLayers_27 : decode cX9_writeLayers 27 = .ok (.invokevirtual 450, 3) := by decide +kernel
theorem dX9_writeLayers_30 : decode cX9_writeLayers 30 = .ok (.aload_n 0, 1) := by decide +kernel
theorem dX9_writeLayers_31 : decode cX9_writeLayers 31 = .ok (.aload_n 0, 1) := by decide +kernel
theorem dX9_writeLayers_32 : decode cX9_writeLayers 32 = .ok (.iload_n 1, 1) := by decide +kernel
theorem dX9_writeLayers_33 : decode cX9_writeLayers 33 = .ok (.iconst 0, 1) := by decide +kernel
theorem dX9_writeLayers_34 : decode cX9_writeLayers 34 = .ok (.invokevirtual 105, 3) := by decide +kernel
theorem dX9_writeLayers_37 : decode cX9_writeLayers 37 = .ok (.invokevirtual 453, 3) := by decide +kernel
theorem dX9_writeLayers_40 : decode cX9_writeLayers 40 = .ok (.aload_n 0, 1) := by decide +kernel
theorem dX9_writeLayers_41 : decode cX9_writeLayers 41 = .ok (.bipush 120, 2) := by decide +kernel
theorem dX9_writeLayers_43 : decode cX9_writeLayers 43 = .ok (.invokevirtual 450, 3) := by decide +kernel
theorem dX9_writeLayers_46 : decode cX9_writeLayers 46 = .ok (.aload_n 0, 1) := by decide +kernel
theorem dX9_writeLayers_47 : decode cX9_writeLayers 47 = .ok (.aload_n 0, 1) := by decide +kernel
theorem dX9_writeLayers_48 : decode cX9_writeLayers 48 = .ok (.iload_n 1, 1) := by decide +kernel
theorem dX9_writeLayers_49 : decode cX9_writeLayers 49 = .ok (.iconst 1, 1) := by decide +kernel
theorem dX9_writeLayers_50 : decode cX9_writeLayers 50 = .ok (.invokevirtual 105, 3) := by decide +kernel
theorem dX9_writeLayers_53 : decode cX9_writeLayers 53 = .ok (.invokevirtual 453, 3) := by decide +kernel
theorem dX9_writeLayers_56 : decode cX9_writeLayers 56 = .ok (.iinc 1 1, 3) := by decide +kernel
theorem dX9_writeLayers_59 : decode cX9_writeLayers 59 = .ok (.goto (-47), 3) := by decide +kernel
theorem dX9_writeLayers_62 : decode cX9_writeLayers 62 = .ok (.aload_n 0, 1) := by decide +kernel
theorem dX9_writeLayers_63 : decode cX9_writeLayers 63 = .ok (.aload_n 0, 1) := by decide +kernel
theorem dX9_writeLayers_64 : decode cX9_writeLayers 64 = .ok (.getfield 17, 3) := by decide +kernel
theorem dX9_writeLayers_67 : decode cX9_writeLayers 67 = .ok (.iconst 2, 1) := by decide +kernel
theorem dX9_writeLayers_68 : decode cX9_writeLayers 68 = .ok (.iaload, 1) := by decide +kernel
theorem dX9_writeLayers_69 : decode cX9_writeLayers 69 = .ok (.iconst 1, 1) := by decide +kernel
theorem dX9_writeLayers_70 : decode cX9_writeLayers 70 = .ok (.if_icmp .ne 8, 3) := by decide +kernel
theorem dX9_writeLayers_73 : decode cX9_writeLayers 73 = .ok (.bipush 35, 2) := by decide +kernel
theorem dX9_writeLayers_75 : decode cX9_writeLayers 75 = .ok (.goto 5, 3) := by decide +kernel
theorem dX9_writeLayers_78 : decode cX9_writeLayers 78 = .ok (.bipush 124, 2) := by decide +kernel
theorem dX9_writeLayers_80 : decode cX9_writeLayers 80 = .ok (.invokevirtual 450, 3) := by decide +kernel
theorem dX9_writeLayers_83 : decode cX9_writeLayers 83 = .ok (.aload_n 0, 1) := by decide +kernel
theorem dX9_writeLayers_84 : decode cX9_writeLayers 84 = .ok (.aload_n 0, 1) := by decide +kernel
theorem dX9_writeLayers_85 : decode cX9_writeLayers 85 = .ok (.getfield 17, 3) := by decide +kernel
theorem dX9_writeLayers_88 : decode cX9_writeLayers 88 = .ok (.iconst 3, 1) := by decide +kernel
theorem dX9_writeLayers_89 : decode cX9_writeLayers 89 = .ok (.iaload, 1) := by decide +kernel
theorem dX9_writeLayers_90 : decode cX9_writeLayers 90 = .ok (.invokevirtual 453, 3) := by decide +kernel
theorem dX9_writeLayers_93 : decode cX9_writeLayers 93 = .ok (.aload_n 0, 1) := by decide +kernel
theorem dX9_writeLayers_94 : decode cX9_writeLayers 94 = .ok (.getfield 447, 3) := by decide +kernel
theorem dX9_writeLayers_97 : decode cX9_writeLayers 97 = .ok (.ireturn, 1) := by decide +kernel
set_option maxRecDepth 20000 in
theorem ggX9_writePath_X9_isShot : GoodIn wsX9_writePath wsX9_isShot := goodIn_r _ [10, 11, 12, 13, 9, 14, 15, 16, 17, 18, 154, 155, 156, 157, 158, 159, 160, 161, 162, 163, 164, 165, 166, 167, 168, 169, 170, 171, 172, 173, 174, 175, 176, 177, 178, 179, 180, 181, 182, 183, 184, 185, 186, 187, 188, 189, 190, 191, 192, 193, 194] (by decide +kernel) (by decide +kernel)
set_option maxRecDepth 20000 in
theorem gX9_writePath_X9_isShot : GoodIn wsX9_writePath (wsV RX9 336 RX9 yX9_isShot wsX9_isShot) := goodIn_app (goodIn_of _ (by decide +kernel)) ggX9_writePath_X9_isShot
set_option maxRecDepth 20000 in
theorem ggX9_writePath_X9_passes : GoodIn wsX9_writePath wsX9_passes := goodIn_r _ [22, 23, 24, 25, 9, 26, 27, 154, 155, 156, 157, 158, 159, 160, 161, 162, 163, 164, 165, 166, 167, 168, 169, 170, 171, 172, 173, 174, 175, 176, 177, 178, 179, 180, 181, 182, 183, 184, 185, 186, 187, 188, 189, 190, 191, 192, 193, 194] (by decide +kernel) (by decide +kernel)
set_option maxRecDepth 20000 in
theorem gX9_writePath_X9_passes : GoodIn wsX9_writePath (wsV RX9 193 RX9 yX9_passes wsX9_passes) := goodIn_app (goodIn_of _ (by decide +kernel)) ggX9_writePath_X9_passes
set_option maxRecDepth 20000 in
theorem ggX9_writePath_X9_followShot : GoodIn wsX9_writePath wsX9_followShot := goodIn_r _ [31, 32, 33, 34, 9, 35, 15, 36, 37, 38, 39, 2, 40, 41, 42, 5, 43, 44, 45, 46, 47, 48, 49, 50, 51, 52, 53, 54, 16, 17, 18, 55, 56, 57, 58, 59, 60, 61, 62, 63, 64, 65, 66, 4, 3, 67, 68, 69, 70, 71, 72, 73, 74, 75, 76, 77, 78, 79, 80, 81, 82, 83, 84, 85, 86, 87, 88, 89, 90, 91, 92, 93, 94, 95, 96, 97, 98, 99, 100, 101, 102, 103, 154, 155, 156, 157, 158, 159, 160, 161, 162, 163, 164, 165, 166, 167, 168, 169, 170, 171, 172, 173, 174, 175, 176, 177, 178, 179, 180, 181, 182, 183, 184, 185, 186, 187, 188, 189, 190, 191, 192, 193, 194] (by decide +kernel) (by decide +kernel)
set_option maxRecDepth 20000 in
theorem gX9_writePath_X9_followShot : GoodIn wsX9_writePath (wsV RX9 185 RX9 yX9_followShot wsX9_followShot) := goodIn_app (goodIn_of _ (by decide +kernel)) ggX9_writePath_X9_followShot
set_option maxRecDepth 20000 in
theorem ggX9_writePath_X9_write : GoodIn wsX9_writePath wsX9_write := goodIn_r _ [107, 108, 1, 154, 155, 156, 157, 158, 159, 160, 161, 162, 163, 164, 165, 166, 167, 168, 169, 170, 171, 172, 173, 174, 175, 176, 177, 178, 179, 180, 181, 182, 183, 184, 185, 186, 187, 188, 189, 190, 191, 192, 193, 194] (by decide +kernel) (by decide +kernel)
set_option maxRecDepth 20000 in
theorem gX9_writePath_X9_write : GoodIn wsX9_writePath (wsV RX9 450 RX9 yX9_write wsX9_write) := goodIn_app (goodIn_of _ (by decide +kernel)) ggX9_writePath_X9_write
set_option maxRecDepth 20000 in
theorem ggX9_writePath_X9_writeInt : GoodIn wsX9_writePath wsX9_writeInt := goodIn_r _ [112, 104, 105, 106, 9, 107, 108, 1, 154, 155, 156, 157, 158, 159, 160, 161, 162, 163, 164, 165, 166, 167, 168, 169, 170, 171, 172, 173, 174, 175, 176, 177, 178, 179, 180, 181, 182, 183, 184, 185, 186, 187, 188, 189, 190, 191, 192, 193, 194] (by decide +kernel) (by decide +kernel)
set_option maxRecDepth 20000 in
theorem gX9_writePath_X9_writeInt : GoodIn wsX9_writePath (wsV RX9 453 RX9 yX9_writeInt wsX9_writeInt) := goodIn_app (goodIn_of _ (by decide +kernel)) ggX9_writePath_X9_writeInt
set_option maxRecDepth 20000 in
theorem ggX9_writePath_J0_charAt_5068e : GoodIn wsX9_writePath wsJ0_charAt_5068e := goodIn_r _ [117, 118, 119, 120, 121, 116, 122, 123, 124, 125, 126, 127, 128, 129, 130, 131, 132, 133, 134, 135, 136, 137, 138, 139, 140, 141, 142, 143, 144, 145, 146, 147, 148, 149, 150, 151, 152, 153] (by decide +kernel) (by decide +kernel)
set_option maxRecDepth 20000 in
theorem gX9_writePath_J0_charAt_5068e : GoodIn wsX9_writePath (wsV RX9 244 RJ0 yJ0_charAt_5068e wsJ0_charAt_5068e) := goodIn_app (goodIn_of _ (by decide +kernel)) ggX9_writePath_J0_charAt_5068e
theorem dX9_writePath_0 : decode cX9_writePath 0 = .ok (.aload_n 0, 1) := by decide +kernel
theorem dX9_writePath_1 : decode cX9_writePath 1 = .ok (.aload_n 0, 1) := by decide +kernel
theorem dX9_writePath_2 : decode cX9_writePath 2 = .ok (.iload_n 1, 1) := by decide +kernel
theorem dX9_writePath_3 : decode cX9_writePath 3 = .ok (.invokevirtual 336, 3) := by decide +kernel
theorem dX9_writePath_6 : decode cX9_writePath 6 = .ok (.invokevirtual 193, 3) := by decide +kernel
theorem dX9_writePath_9 : decode cX9_writePath 9 = .ok (.ifCond .ne 5, 3) := by decide +kernel
theorem dX9_writePath_12 : decode cX9_writePath 12 = .ok (.iconst 0, 1) := by decide +kernel
theorem dX9_writePath_13 : decode cX9_writePath 13 = .ok (.ireturn, 1) := by decide +kernel
theorem dX9_writePath_14 : decode cX9_writePath 14 = .ok (.aload_n 0, 1) := by decide +kernel
theorem dX9_writePath_15 : decode cX9_writePath 15 = .ok (.iload_n 1, 1) := by decide +kernel
theorem dX9_writePath_16 : decode cX9_writePath 16 = .ok (.invokevirtual 185, 3) := by decide +kernel
theorem dX9_writePath_19 : decode cX9_writePath 19 = .ok (.aload_n 0, 1) := by decide +kernel
theorem dX9_writePath_20 : decode cX9_writePath 20 = .ok (.iconst 0, 1) := by decide +kernel
theorem dX9_writePath_21 : decode cX9_writePath 21 = .ok (.putfield 447, 3) := by decide +kernel
theorem dX9_writePath_24 : decode cX9_writePath 24 = .ok (.iconst 0, 1) := by decide +kernel
theorem dX9_writePath_25 : decode cX9_writePath 25 = .ok (.istore_n 2, 1) := by decide +kernel
theorem dX9_writePath_26 : decode cX9_writePath 26 = .ok (.iload_n 2, 1) := by decide +kernel
theorem dX9_writePath_27 : decode cX9_writePath 27 = .ok (.aload_n 0, 1) := by decide +kernel
theorem dX9_writePath_28 : decode cX9_writePath 28 = .ok (.getfield 131, 3) := by decide +kernel
theorem dX9_writePath_31 : decode cX9_writePath 31 = .ok (.if_icmp .ge 39, 3) := by decide +kernel
theorem dX9_writePath_34 : decode cX9_writePath 34 = .ok (.aload_n 0, 1) := by decide +kernel
theorem dX9_writePath_35 : decode cX9_writePath 35 = .ok (.aload_n 0, 1) := by decide +kernel
theorem dX9_writePath_36 : decode cX9_writePath 36 = .ok (.getfield 30, 3) := by decide +kernel
theorem dX9_writePath_39 : decode cX9_writePath 39 = .ok (.iload_n 2, 1) := by decide +kernel
theorem dX9_writePath_40 : decode cX9_writePath 40 = .ok (.baload, 1) := by decide +kernel
theorem dX9_writePath_41 : decode cX9_writePath 41 = .ok (.ifCond .eq 8, 3) := by decide +kernel
theorem dX9_writePath_44 : decode cX9_writePath 44 = .ok (.bipush 118, 2) := by decide +kernel
theorem dX9_writePath_46 : decode cX9_writePath 46 = .ok (.goto 5, 3) := by decide +kernel
theorem dX9_writePath_49 : decode cX9_writePath 49 = .ok (.bipush 94, 2) := by decide +kernel
theorem dX9_writePath_51 : decode cX9_writePath 51 = .ok (.invokevirtual 450, 3) := by decide +kernel
theorem dX9_writePath_54 : decode cX9_writePath 54 = .ok (.aload_n 0, 1) := by decide +kernel
theorem dX9_writePath_55 : decode cX9_writePath 55 = .ok (.aload_n 0, 1) := by decide +kernel
theorem dX9_writePath_56 : decode cX9_writePath 56 = .ok (.getfield 27, 3) := by decide +kernel
theorem dX9_writePath_59 : decode cX9_writePath 59 = .ok (.iload_n 2, 1) := by decide +kernel
theorem dX9_writePath_60 : decode cX9_writePath 60 = .ok (.iaload, 1) := by decide +kernel
theorem dX9_writePath_61 : decode cX9_writePath 61 = .ok (.invokevirtual 453, 3) := by decide +kernel
theorem dX9_writePath_64 : decode cX9_writePath 64 = .ok (.iinc 2 1, 3) := by decide +kernel
theorem dX9_writePath_67 : decode cX9_writePath 67 = .ok (.goto (-41), 3) := by decide +kernel
theorem dX9_writePath_70 : decode cX9_writePath 70 = .ok (.aload_n 0, 1) := by decide +kernel
theorem dX9_writePath_71 : decode cX9_writePath 71 = .ok (.ldc_w 456, 3) := by decide +kernel
theorem dX9_writePath_74 : decode cX9_writePath 74 = .ok (.aload_n 0, 1) := by decide +kernel
theorem dX9_writePath_75 : decode cX9_writePath 75 = .ok (.getfield 156, 3) := by decide +kernel
theorem dX9_writePath_78 : decode cX9_writePath 78 = .ok (.invokevirtual 244, 3) := by decide +kernel
theorem dX9_writePath_81 : decode cX9_writePath 81 = .ok (.invokevirtual 450, 3) := by decide +kernel
theorem dX9_writePath_84 : decode cX9_writePath 84 = .ok (.aload_n 0, 1) := by decide +kernel
theorem dX9_writePath_85 : decode cX9_writePath 85 = .ok (.getfield 447, 3) := by decide +kernel
theorem dX9_writePath_88 : decode cX9_writePath 88 = .ok (.ireturn, 1) := by decide +kernel
set_option maxRecDepth 20000 in
theorem ggX9_outputByte_X9_in : GoodIn wsX9_outputByte wsX9_in := goodIn_r _ [6] (by decide +kernel) (by decide +kernel)
set_option maxRecDepth 20000 in
theorem gX9_outputByte_X9_in : GoodIn wsX9_outputByte (va_wsS RX9 94 yX9_in wsX9_in) := goodIn_app (goodIn_of _ (by decide +kernel)) ggX9_outputByte_X9_in
set_option maxRecDepth 20000 in
theorem ggX9_outputByte_X9_passes : GoodIn wsX9_outputByte wsX9_passes := goodIn_r _ [10, 11, 12, 13, 5, 14, 15, 16, 17, 18, 19, 20, 21, 22, 23, 24, 25, 26, 27, 28, 29, 30, 31, 32, 33, 34, 35, 36, 37, 38, 39, 40, 41, 42, 43, 44, 45, 46, 47, 48, 49, 50, 51, 52, 53, 54, 55, 56] (by decide +kernel) (by decide +kernel)
set_option maxRecDepth 20000 in
theorem gX9_outputByte_X9_passes : GoodIn wsX9_outputByte (wsV RX9 193 RX9 yX9_passes wsX9_passes) := goodIn_app (goodIn_of _ (by decide +kernel)) ggX9_outputByte_X9_passes
theorem dX9_outputByte_0 : decode cX9_outputByte 0 = .ok (.aload_n 0, 1) := by decide +kernel
theorem dX9_outputByte_1 : decode cX9_outputByte 1 = .ok (.iload_n 1, 1) := by decide +kernel
theorem dX9_outputByte_2 : decode cX9_outputByte 2 = .ok (.i2l, 1) := by decide +kernel
theorem dX9_outputByte_3 : decode cX9_outputByte 3 = .ok (.lconst 0, 1) := by decide +kernel
theorem dX9_outputByte_4 : decode cX9_outputByte 4 = .ok (.aload_n 0, 1) := by decide +kernel
theorem dX9_outputByte_5 : decode cX9_outputByte 5 = .ok (.getfield 447, 3) := by decide +kernel
theorem dX9_outputByte_8 : decode cX9_outputByte 8 = .ok (.iconst 1, 1) := by decide +kernel
theorem dX9_outputByte_9 : decode cX9_outputByte 9 = .ok (.isub, 1) := by decide +kernel
theorem dX9_outputByte_10 : decode cX9_outputByte 10 = .ok (.i2l, 1) := by decide +kernel
theorem dX9_outputByte_11 : decode cX9_outputByte 11 = .ok (.invokestatic 94, 3) := by decide +kernel
theorem dX9_outputByte_14 : decode cX9_outputByte 14 = .ok (.invokevirtual 193, 3) := by decide +kernel
theorem dX9_outputByte_17 : decode cX9_outputByte 17 = .ok (.ifCond .eq 12, 3) := by decide +kernel
theorem dX9_outputByte_20 : decode cX9_outputByte 20 = .ok (.aload_n 0, 1) := by decide +kernel
theorem dX9_outputByte_21 : decode cX9_outputByte 21 = .ok (.getfield 80, 3) := by decide +kernel
theorem dX9_outputByte_24 : decode cX9_outputByte 24 = .ok (.iload_n 1, 1) := by decide +kernel
theorem dX9_outputByte_25 : decode cX9_outputByte 25 = .ok (.baload, 1) := by decide +kernel
theorem dX9_outputByte_26 : decode cX9_outputByte 26 = .ok (.goto 4, 3) := by decide +kernel
theorem dX9_outputByte_29 : decode cX9_outputByte 29 = .ok (.iconst 0, 1) := by decide +kernel
theorem dX9_outputByte_30 : decode cX9_outputByte 30 = .ok (.ireturn, 1) := by decide +kernel
theorem dJ9_abs_0f7a4_0 : decode cJ9_abs_0f7a4 0 = .ok (.iload_n 0, 1) := by decide +kernel
theorem dJ9_abs_0f7a4_1 : decode cJ9_abs_0f7a4 1 = .ok (.ifCond .ge 8, 3) := by decide +kernel
theorem dJ9_abs_0f7a4_4 : decode cJ9_abs_0f7a4 4 = .ok (.iload_n 0, 1) := by decide +kernel
theorem dJ9_abs_0f7a4_5 : decode cJ9_abs_0f7a4 5 = .ok (.ineg, 1) := by decide +kernel
theorem dJ9_abs_0f7a4_6 : decode cJ9_abs_0f7a4 6 = .ok (.goto 4, 3) := by decide +kernel
theorem dJ9_abs_0f7a4_9 : decode cJ9_abs_0f7a4 9 = .ok (.iload_n 0, 1) := by decide +kernel
theorem dJ9_abs_0f7a4_10 : decode cJ9_abs_0f7a4 10 = .ok (.ireturn, 1) := by decide +kernel
theorem dJ9_max_7cf53_0 : decode cJ9_max_7cf53 0 = .ok (.iload_n 0, 1) := by decide +kernel
theorem dJ9_max_7cf53_1 : decode cJ9_max_7cf53 1 = .ok (.iload_n 1, 1) := by decide +kernel
theorem dJ9_max_7cf53_2 : decode cJ9_max_7cf53 2 = .ok (.if_icmp .lt 7, 3) := by decide +kernel
theorem dJ9_max_7cf53_5 : decode cJ9_max_7cf53 5 = .ok (.iload_n 0, 1) := by decide +kernel
theorem dJ9_max_7cf53_6 : decode cJ9_max_7cf53 6 = .ok (.goto 4, 3) := by decide +kernel
theorem dJ9_max_7cf53_9 : decode cJ9_max_7cf53 9 = .ok (.iload_n 1, 1) := by decide +kernel
theorem dJ9_max_7cf53_10 : decode cJ9_max_7cf53 10 = .ok (.ireturn, 1) := by decide +kernel
theorem dJ9_max_f86c9_0 : decode cJ9_max_f86c9 0 = .ok (.lload_n 0, 1) := by decide +kernel
theorem dJ9_max_f86c9_1 : decode cJ9_max_f86c9 1 = .ok (.lload_n 2, 1) := by decide +kernel
theorem dJ9_max_f86c9_2 : decode cJ9_max_f86c9 2 = .ok (.lcmp, 1) := by decide +kernel
theorem dJ9_max_f86c9_3 : decode cJ9_max_f86c9 3 = .ok (.ifCond .lt 7, 3) := by decide +kernel
theorem dJ9_max_f86c9_6 : decode cJ9_max_f86c9 6 = .ok (.lload_n 0, 1) := by decide +kernel
theorem dJ9_max_f86c9_7 : decode cJ9_max_f86c9 7 = .ok (.goto 4, 3) := by decide +kernel
theorem dJ9_max_f86c9_10 : decode cJ9_max_f86c9 10 = .ok (.lload_n 2, 1) := by decide +kernel
theorem dJ9_max_f86c9_11 : decode cJ9_max_f86c9 11 = .ok (.lreturn, 1) := by decide +kernel
theorem dJ9_min_7cf53_0 : decode cJ9_min_7cf53 0 = .ok (.iload_n 0, 1) := by decide +kernel
theorem dJ9_min_7cf53_1 : decode cJ9_min_7cf53 1 = .ok (.iload_n 1, 1) := by decide +kernel
theorem dJ9_min_7cf53_2 : decode cJ9_min_7cf53 2 = .ok (.if_icmp .gt 7, 3) := by decide +kernel
theorem dJ9_min_7cf53_5 : decode cJ9_min_7cf53 5 = .ok (.iload_n 0, 1) := by decide +kernel
theorem dJ9_min_7cf53_6 : decode cJ9_min_7cf53 6 = .ok (.goto 4, 3) := by decide +kernel
theorem dJ9_min_7cf53_9 : decode cJ9_min_7cf53 9 = .ok (.iload_n 1, 1) := by decide +kernel
theorem dJ9_min_7cf53_10 : decode cJ9_min_7cf53 10 = .ok (.ireturn, 1) := by decide +kernel
set_option maxRecDepth 20000 in
theorem ggJ0_length_8abf5_J0_coder_7d493 : GoodIn wsJ0_length_8abf5 wsJ0_coder_7d493 := goodIn_r _ [6, 7, 8] (by decide +kernel) (by decide +kernel)
set_option maxRecDepth 20000 in
theorem gJ0_length_8abf5_J0_coder_7d493 : GoodIn wsJ0_length_8abf5 (wsV RJ0 335 RJ0 yJ0_coder_7d493 wsJ0_coder_7d493) := goodIn_app (goodIn_of _ (by decide +kernel)) ggJ0_length_8abf5_J0_coder_7d493
theorem dJ0_length_8abf5_0 : decode cJ0_length_8abf5 0 = .ok (.aload_n 0, 1) := by decide +kernel
theorem dJ0_length_8abf5_1 : decode cJ0_length_8abf5 1 = .ok (.getfield 9, 3) := by decide +kernel
theorem dJ0_length_8abf5_4 : decode cJ0_length_8abf5 4 = .ok (.arraylength, 1) := by decide +kernel
theorem dJ0_length_8abf5_5 : decode cJ0_length_8abf5 5 = .ok (.aload_n 0, 1) := by decide +kernel
theorem dJ0_length_8abf5_6 : decode cJ0_length_8abf5 6 = .ok (.invokevirtual 335, 3) := by decide +kernel
theorem dJ0_length_8abf5_9 : decode cJ0_length_8abf5 9 = .ok (.ishr, 1) := by decide +kernel
theorem dJ0_length_8abf5_10 : decode cJ0_length_8abf5 10 = .ok (.ireturn, 1) := by decide +kernel
set_option maxRecDepth 20000 in
theorem ggJ0_charAt_5068e_J0_isLatin1_aae02 : GoodIn wsJ0_charAt_5068e wsJ0_isLatin1_aae02 := goodIn_r _ [6, 7, 8] (by decide +kernel) (by decide +kernel)
set_option maxRecDepth 20000 in
theorem gJ0_charAt_5068e_J0_isLatin1_aae02 : GoodIn wsJ0_charAt_5068e (wsV RJ0 492 RJ0 yJ0_isLatin1_aae02 wsJ0_isLatin1_aae02) := goodIn_app (goodIn_of _ (by decide +kernel)) ggJ0_charAt_5068e_J0_isLatin1_aae02
set_option maxRecDepth 20000 in
theorem ggJ0_charAt_5068e_J1_charAt_3b067 : GoodIn wsJ0_charAt_5068e wsJ1_charAt_3b067 := goodIn_r _ [12, 13, 14, 5, 15, 16, 17, 18, 19, 20] (by decide +kernel) (by decide +kernel)
set_option maxRecDepth 20000 in
theorem gJ0_charAt_5068e_J1_charAt_3b067 : GoodIn wsJ0_charAt_5068e (va_wsS RJ0 495 yJ1_charAt_3b067 wsJ1_charAt_3b067) := goodIn_app (goodIn_of _ (by decide +kernel)) ggJ0_charAt_5068e_J1_charAt_3b067
set_option maxRecDepth 20000 in
theorem ggJ0_charAt_5068e_J2_charAt_3b067 : GoodIn wsJ0_charAt_5068e wsJ2_charAt_3b067 := goodIn_r _ [24, 25, 26, 23, 27, 28, 29, 30, 31, 14, 5, 15, 16, 17, 18, 19, 20, 32, 33, 34, 35, 36, 37] (by decide +kernel) (by decide +kernel)
set_option maxRecDepth 20000 in
theorem gJ0_charAt_5068e_J2_charAt_3b067 : GoodIn wsJ0_charAt_5068e (va_wsS RJ0 498 yJ2_charAt_3b067 wsJ2_charAt_3b067) := goodIn_app (goodIn_of _ (by decide +kernel)) ggJ0_charAt_5068e_J2_charAt_3b067
theorem dJ0_charAt_5068e_0 : decode cJ0_charAt_5068e 0 = .ok (.aload_n 0, 1) := by decide +kernel
theorem dJ0_charAt_5068e_1 : decode cJ0_charAt_5068e 1 = .ok (.invokevirtual 492, 3) := by decide +kernel
theorem dJ0_charAt_5068e_4 : decode cJ0_charAt_5068e 4 = .ok (.ifCond .eq 12, 3) := by decide +kernel
theorem dJ0_charAt_5068e_7 : decode cJ0_charAt_5068e 7 = .ok (.aload_n 0, 1) := by decide +kernel
theorem dJ0_charAt_5068e_8 : decode cJ0_charAt_5068e 8 = .ok (.getfield 9, 3) := by decide +kernel
theorem dJ0_charAt_5068e_11 : decode cJ0_charAt_5068e 11 = .ok (.iload_n 1, 1) := by decide +kernel
theorem dJ0_charAt_5068e_12 : decode cJ0_charAt_5068e 12 = .ok (.invokestatic 495, 3) := by decide +kernel
theorem dJ0_charAt_5068e_15 : decode cJ0_charAt_5068e 15 = .ok (.ireturn, 1) := by decide +kernel
theorem dJ0_charAt_5068e_16 : decode cJ0_charAt_5068e 16 = .ok (.aload_n 0, 1) := by decide +kernel
theorem dJ0_charAt_5068e_17 : decode cJ0_charAt_5068e 17 = .ok (.getfield 9, 3) := by decide +kernel
theorem dJ0_charAt_5068e_20 : decode cJ0_charAt_5068e 20 = .ok (.iload_n 1, 1) := by decide +kernel
theorem dJ0_charAt_5068e_21 : decode cJ0_charAt_5068e 21 = .ok (.invokestatic 498, 3) := by decide +kernel
theorem dJ0_charAt_5068e_24 : decode cJ0_charAt_5068e 24 = .ok (.ireturn, 1) := by decide +kernel
theorem dJ0_coder_7d493_0 : decode cJ0_coder_7d493 0 = .ok (.getstatic 38, 3) := by decide +kernel
theorem dJ0_coder_7d493_3 : decode cJ0_coder_7d493 3 = .ok (.ifCond .eq 10, 3) := by decide +kernel
theorem dJ0_coder_7d493_6 : decode cJ0_coder_7d493 6 = .ok (.aload_n 0, 1) := by decide +kernel
theorem dJ0_coder_7d493_7 : decode cJ0_coder_7d493 7 = .ok (.getfield 15, 3) := by decide +kernel
theorem dJ0_coder_7d493_10 : decode cJ0_coder_7d493 10 = .ok (.goto 4, 3) := by decide +kernel
theorem dJ0_coder_7d493_13 : decode cJ0_coder_7d493 13 = .ok (.iconst 1, 1) := by decide +kernel
theorem dJ0_coder_7d493_14 : decode cJ0_coder_7d493 14 = .ok (.ireturn, 1) := by decide +kernel
theorem dJ0_isLatin1_aae02_0 : decode cJ0_isLatin1_aae02 0 = .ok (.getstatic 38, 3) := by decide +kernel
theorem dJ0_isLatin1_aae02_3 : decode cJ0_isLatin1_aae02 3 = .ok (.ifCond .eq 14, 3) := by decide +kernel
theorem dJ0_isLatin1_aae02_6 : decode cJ0_isLatin1_aae02 6 = .ok (.aload_n 0, 1) := by decide +kernel
theorem dJ0_isLatin1_aae02_7 : decode cJ0_isLatin1_aae02 7 = .ok (.getfield 15, 3) := by decide +kernel
theorem dJ0_isLatin1_aae02_10 : decode cJ0_isLatin1_aae02 10 = .ok (.ifCond .ne 7, 3) := by decide +kernel
theorem dJ0_isLatin1_aae02_13 : decode cJ0_isLatin1_aae02 13 = .ok (.iconst 1, 1) := by decide +kernel
theorem dJ0_isLatin1_aae02_14 : decode cJ0_isLatin1_aae02 14 = .ok (.goto 4, 3) := by decide +kernel
theorem dJ0_isLatin1_aae02_17 : decode cJ0_isLatin1_aae02 17 = .ok (.iconst 0, 1) := by decide +kernel
theorem dJ0_isLatin1_aae02_18 : decode cJ0_isLatin1_aae02 18 = .ok (.ireturn, 1) := by decide +kernel
set_option maxRecDepth 20000 in
theorem ggJ0_checkIndex_df160_J3_checkIndex_8e157 : GoodIn wsJ0_checkIndex_df160 wsJ3_checkIndex_8e157 := goodIn_r _ [5] (by decide +kernel) (by decide +kernel)
set_option maxRecDepth 20000 in
theorem gJ0_checkIndex_df160_J3_checkIndex_8e157 : GoodIn wsJ0_checkIndex_df160 (va_wsS RJ0 1059 yJ3_checkIndex_8e157 wsJ3_checkIndex_8e157) := goodIn_app (goodIn_of _ (by decide +kernel)) ggJ0_checkIndex_df160_J3_checkIndex_8e157
theorem dJ0_checkIndex_df160_0 : decode cJ0_checkIndex_df160 0 = .ok (.iload_n 0, 1) := by decide +kernel
theorem dJ0_checkIndex_df160_1 : decode cJ0_checkIndex_df160 1 = .ok (.iload_n 1, 1) := by decide +kernel
theorem dJ0_checkIndex_df160_2 : decode cJ0_checkIndex_df160 2 = .ok (.getstatic 1053, 3) := by decide +kernel
theorem dJ0_checkIndex_df160_5 : decode cJ0_checkIndex_df160 5 = .ok (.invokestatic 1059, 3) := by decide +kernel
theorem dJ0_checkIndex_df160_8 : decode cJ0_checkIndex_df160 8 = .ok (.pop, 1) := by decide +kernel
theorem dJ0_checkIndex_df160_9 : decode cJ0_checkIndex_df160 9 = .ok (.return_, 1) := by decide +kernel
set_option maxRecDepth 20000 in
theorem ggJ1_charAt_3b067_J0_checkIndex_df160 : GoodIn wsJ1_charAt_3b067 wsJ0_checkIndex_df160 := goodIn_r _ [4, 5, 6, 7, 8, 9] (by decide +kernel) (by decide +kernel)
set_option maxRecDepth 20000 in
theorem gJ1_charAt_3b067_J0_checkIndex_df160 : GoodIn wsJ1_charAt_3b067 (va_wsS RJ1 9 yJ0_checkIndex_df160 wsJ0_checkIndex_df160) := goodIn_app (goodIn_of _ (by decide +kernel)) ggJ1_charAt_3b067_J0_checkIndex_df160
theorem dJ1_charAt_3b067_0 : decode cJ1_charAt_3b067 0 = .ok (.iload_n 1, 1) := by decide +kernel
theorem dJ1_charAt_3b067_1 : decode cJ1_charAt_3b067 1 = .ok (.aload_n 0, 1) := by decide +kernel
theorem dJ1_charAt_3b067_2 : decode cJ1_charAt_3b067 2 = .ok (.arraylength, 1) := by decide +kernel
theorem dJ1_charAt_3b067_3 : decode cJ1_charAt_3b067 3 = .ok (.invokestatic 9, 3) := by decide +kernel
theorem dJ1_charAt_3b067_6 : decode cJ1_charAt_3b067 6 = .ok (.aload_n 0, 1) := by decide +kernel
theorem dJ1_charAt_3b067_7 : decode cJ1_charAt_3b067 7 = .ok (.iload_n 1, 1) := by decide +kernel
theorem dJ1_charAt_3b067_8 : decode cJ1_charAt_3b067 8 = .ok (.baload, 1) := by decide +kernel
theorem dJ1_charAt_3b067_9 : decode cJ1_charAt_3b067 9 = .ok (.sipush 255, 3) := by decide +kernel
theorem dJ1_charAt_3b067_12 : decode cJ1_charAt_3b067 12 = .ok (.iand, 1) := by decide +kernel
theorem dJ1_charAt_3b067_13 : decode cJ1_charAt_3b067 13 = .ok (.i2c, 1) := by decide +kernel
theorem dJ1_charAt_3b067_14 : decode cJ1_charAt_3b067 14 = .ok (.ireturn, 1) := by decide +kernel
set_option maxRecDepth 20000 in
theorem ggJ2_getChar_3b067_J2_length_9d52b : GoodIn wsJ2_getChar_3b067 wsJ2_length_9d52b := goodIn_r _ [7] (by decide +kernel) (by decide +kernel)
set_option maxRecDepth 20000 in
theorem gJ2_getChar_3b067_J2_length_9d52b : GoodIn wsJ2_getChar_3b067 (va_wsS RJ2 48 yJ2_length_9d52b wsJ2_length_9d52b) := goodIn_app (goodIn_of _ (by decide +kernel)) ggJ2_getChar_3b067_J2_length_9d52b
theorem dJ2_getChar_3b067_0 : decode cJ2_getChar_3b067 0 = .ok (.getstatic 44, 3) := by decide +kernel
theorem dJ2_getChar_3b067_3 : decode cJ2_getChar_3b067 3 = .ok (.ifCond .ne 25, 3) := by decide +kernel
theorem dJ2_getChar_3b067_6 : decode cJ2_getChar_3b067 6 = .ok (.iload_n 1, 1) := by decide +kernel
theorem dJ2_getChar_3b067_7 : decode cJ2_getChar_3b067 7 = .ok (.ifCond .lt 11, 3) := by decide +kernel
theorem dJ2_getChar_3b067_10 : decode cJ2_getChar_3b067 10 = .ok (.iload_n 1, 1) := by decide +kernel
theorem dJ2_getChar_3b067_11 : decode cJ2_getChar_3b067 11 = .ok (.aload_n 0, 1) := by decide +kernel
theorem dJ2_getChar_3b067_12 : decode cJ2_getChar_3b067 12 = .ok (.invokestatic 48, 3) := by decide +kernel
theorem dJ2_getChar_3b067_15 : decode cJ2_getChar_3b067 15 = .ok (.if_icmp .lt 13, 3) := by decide +kernel
theorem dJ2_getChar_3b067_18 : decode cJ2_getChar_3b067 18 = .ok (.new 52, 3) := by decide +kernel
theorem dJ2_getChar_3b067_21 : decode cJ2_getChar_3b067 21 = .ok (.dup, 1) := by decide +kernel
theorem dJ2_getChar_3b067_22 : decode cJ2_getChar_3b067 22 = .ok (.ldc 54, 2) := by decide +kernel
theorem dJ2_getChar_3b067_24 : decode cJ2_getChar_3b067 24 = .ok (.invokespecial 56, 3) := by decide +kernel
theorem dJ2_getChar_3b067_27 : decode cJ2_getChar_3b067 27 = .ok (.athrow, 1) := by decide +kernel
theorem dJ2_getChar_3b067_28 : decode cJ2_getChar_3b067 28 = .ok (.iload_n 1, 1) := by decide +kernel
theorem dJ2_getChar_3b067_29 : decode cJ2_getChar_3b067 29 = .ok (.iconst 1, 1) := by decide +kernel
theorem dJ2_getChar_3b067_30 : decode cJ2_getChar_3b067 30 = .ok (.ishl, 1) := by decide +kernel
theorem dJ2_getChar_3b067_31 : decode cJ2_getChar_3b067 31 = .ok (.istore_n 1, 1) := by decide +kernel
theorem dJ2_getChar_3b067_32 : decode cJ2_getChar_3b067 32 = .ok (.aload_n 0, 1) := by decide +kernel
theorem dJ2_getChar_3b067_33 : decode cJ2_getChar_3b067 33 = .ok (.iload_n 1, 1) := by decide +kernel
theorem dJ2_getChar_3b067_34 : decode cJ2_getChar_3b067 34 = .ok (.iinc 1 1, 3) := by decide +kernel
theorem dJ2_getChar_3b067_37 : decode cJ2_getChar_3b067 37 = .ok (.baload, 1) := by decide +kernel
theorem dJ2_getChar_3b067_38 : decode cJ2_getChar_3b067 38 = .ok (.sipush 255, 3) := by decide +kernel
theorem dJ2_getChar_3b067_41 : decode cJ2_getChar_3b067 41 = .ok (.iand, 1) := by decide +kernel
theorem dJ2_getChar_3b067_42 : decode cJ2_getChar_3b067 42 = .ok (.getstatic 59, 3) := by decide +kernel
theorem dJ2_getChar_3b067_45 : decode cJ2_getChar_3b067 45 = .ok (.ishl, 1) := by decide +kernel
theorem dJ2_getChar_3b067_46 : decode cJ2_getChar_3b067 46 = .ok (.aload_n 0, 1) := by decide +kernel
theorem dJ2_getChar_3b067_47 : decode cJ2_getChar_3b067 47 = .ok (.iload_n 1, 1) := by decide +kernel
theorem dJ2_getChar_3b067_48 : decode cJ2_getChar_3b067 48 = .ok (.baload, 1) := by decide +kernel
theorem dJ2_getChar_3b067_49 : decode cJ2_getChar_3b067 49 = .ok (.sipush 255, 3) := by decide +kernel
theorem dJ2_getChar_3b067_52 : decode cJ2_getChar_3b067 52 = .ok (.iand, 1) := by decide +kernel
theorem dJ2_getChar_3b067_53 : decode cJ2_getChar_3b067 53 = .ok (.getstatic 63, 3) := by decide +kernel
theorem dJ2_getChar_3b067_56 : decode cJ2_getChar_3b067 56 = .ok (.ishl, 1) := by decide +kernel
theorem dJ2_getChar_3b067_57 : decode cJ2_getChar_3b067 57 = .ok (.ior, 1) := by decide +kernel
theorem dJ2_getChar_3b067_58 : decode cJ2_getChar_3b067 58 = .ok (.i2c, 1) := by decide +kernel
theorem dJ2_getChar_3b067_59 : decode cJ2_getChar_3b067 59 = .ok (.ireturn, 1) := by decide +kernel
theorem dJ2_length_9d52b_0 : decode cJ2_length_9d52b 0 = .ok (.aload_n 0, 1) := by decide +kernel
theorem dJ2_length_9d52b_1 : decode cJ2_length_9d52b 1 = .ok (.arraylength, 1) := by decide +kernel
theorem dJ2_length_9d52b_2 : decode cJ2_length_9d52b 2 = .ok (.iconst 1, 1) := by decide +kernel
theorem dJ2_length_9d52b_3 : decode cJ2_length_9d52b 3 = .ok (.ishr, 1) := by decide +kernel
theorem dJ2_length_9d52b_4 : decode cJ2_length_9d52b 4 = .ok (.ireturn, 1) := by decide +kernel
set_option maxRecDepth 20000 in
theorem ggJ2_charAt_3b067_J2_checkIndex_2214a : GoodIn wsJ2_charAt_3b067 wsJ2_checkIndex_2214a := goodIn_r _ [4, 5, 6, 3, 7, 8, 9, 10, 11, 12, 13, 14, 15, 16] (by decide +kernel) (by decide +kernel)
set_option maxRecDepth 20000 in
theorem gJ2_charAt_3b067_J2_checkIndex_2214a : GoodIn wsJ2_charAt_3b067 (va_wsS RJ2 67 yJ2_checkIndex_2214a wsJ2_checkIndex_2214a) := goodIn_app (goodIn_of _ (by decide +kernel)) ggJ2_charAt_3b067_J2_checkIndex_2214a
set_option maxRecDepth 20000 in
theorem ggJ2_charAt_3b067_J2_getChar_3b067 : GoodIn wsJ2_charAt_3b067 wsJ2_getChar_3b067 := goodIn_r _ [19, 20, 21, 22, 5, 6, 3, 7] (by decide +kernel) (by decide +kernel)
set_option maxRecDepth 20000 in
theorem gJ2_charAt_3b067_J2_getChar_3b067 : GoodIn wsJ2_charAt_3b067 (va_wsS RJ2 71 yJ2_getChar_3b067 wsJ2_getChar_3b067) := goodIn_app (goodIn_of _ (by decide +kernel)) ggJ2_charAt_3b067_J2_getChar_3b067
theorem dJ2_charAt_3b067_0 : decode cJ2_charAt_3b067 0 = .ok (.iload_n 1, 1) := by decide +kernel
theorem dJ2_charAt_3b067_1 : decode cJ2_charAt_3b067 1 = .ok (.aload_n 0, 1) := by decide +kernel
theorem dJ2_charAt_3b067_2 : decode cJ2_charAt_3b067 2 = .ok (.invokestatic 67, 3) := by decide +kernel
theorem dJ2_charAt_3b067_5 : decode cJ2_charAt_3b067 5 = .ok (.aload_n 0, 1) := by decide +kernel
theorem dJ2_charAt_3b067_6 : decode cJ2_charAt_3b067 6 = .ok (.iload_n 1, 1) := by decide +kernel
theorem dJ2_charAt_3b067_7 : decode cJ2_charAt_3b067 7 = .ok (.invokestatic 71, 3) := by decide +kernel
theorem dJ2_charAt_3b067_10 : decode cJ2_charAt_3b067 10 = .ok (.ireturn, 1) := by decide +kernel
set_option maxRecDepth 20000 in
theorem ggJ2_checkIndex_2214a_J2_length_9d52b : GoodIn wsJ2_checkIndex_2214a wsJ2_length_9d52b := goodIn_r _ [4] (by decide +kernel) (by decide +kernel)
set_option maxRecDepth 20000 in
theorem gJ2_checkIndex_2214a_J2_length_9d52b : GoodIn wsJ2_checkIndex_2214a (va_wsS RJ2 48 yJ2_length_9d52b wsJ2_length_9d52b) := goodIn_app (goodIn_of _ (by decide +kernel)) ggJ2_checkIndex_2214a_J2_length_9d52b
set_option maxRecDepth 20000 in
theorem ggJ2_checkIndex_2214a_J0_checkIndex_df160 : GoodIn wsJ2_checkIndex_2214a wsJ0_checkIndex_df160 := goodIn_r _ [8, 9, 10, 11, 12, 13] (by decide +kernel) (by decide +kernel)
set_option maxRecDepth 20000 in
theorem gJ2_checkIndex_2214a_J0_checkIndex_df160 : GoodIn wsJ2_checkIndex_2214a (va_wsS RJ2 414 yJ0_checkIndex_df160 wsJ0_checkIndex_df160) := goodIn_app (goodIn_of _ (by decide +kernel)) ggJ2_checkIndex_2214a_J0_checkIndex_df160
theorem dJ2_checkIndex_2214a_0 : decode cJ2_checkIndex_2214a 0 = .ok (.iload_n 0, 1) := by decide +kernel
theorem dJ2_checkIndex_2214a_1 : decode cJ2_checkIndex_2214a 1 = .ok (.aload_n 1, 1) := by decide +kernel
theorem dJ2_checkIndex_2214a_2 : decode cJ2_checkIndex_2214a 2 = .ok (.invokestatic 48, 3) := by decide +kernel
theorem dJ2_checkIndex_2214a_5 : decode cJ2_checkIndex_2214a 5 = .ok (.invokestatic 414, 3) := by decide +kernel
theorem dJ2_checkIndex_2214a_8 : decode cJ2_checkIndex_2214a 8 = .ok (.return_, 1) := by decide +kernel
theorem dJ7_fill_53178_0 : decode cJ7_fill_53178 0 = .ok (.iconst 0, 1) := by decide +kernel
theorem dJ7_fill_53178_1 : decode cJ7_fill_53178 1 = .ok (.istore_n 2, 1) := by decide +kernel
theorem dJ7_fill_53178_2 : decode cJ7_fill_53178 2 = .ok (.aload_n 0, 1) := by decide +kernel
theorem dJ7_fill_53178_3 : decode cJ7_fill_53178 3 = .ok (.arraylength, 1) := by decide +kernel
theorem dJ7_fill_53178_4 : decode cJ7_fill_53178 4 = .ok (.istore_n 3, 1) := by decide +kernel
theorem dJ7_fill_53178_5 : decode cJ7_fill_53178 5 = .ok (.iload_n 2, 1) := by decide +kernel
theorem dJ7_fill_53178_6 : decode cJ7_fill_53178 6 = .ok (.iload_n 3, 1) := by decide +kernel
theorem dJ7_fill_53178_7 : decode cJ7_fill_53178 7 = .ok (.if_icmp .ge 13, 3) := by decide +kernel
theorem dJ7_fill_53178_10 : decode cJ7_fill_53178 10 = .ok (.aload_n 0, 1) := by decide +kernel
theorem dJ7_fill_53178_11 : decode cJ7_fill_53178 11 = .ok (.iload_n 2, 1) := by decide +kernel
theorem dJ7_fill_53178_12 : decode cJ7_fill_53178 12 = .ok (.iload_n 1, 1) := by decide +kernel
theorem dJ7_fill_53178_13 : decode cJ7_fill_53178 13 = .ok (.iastore, 1) := by decide +kernel
theorem dJ7_fill_53178_14 : decode cJ7_fill_53178 14 = .ok (.iinc 2 1, 3) := by decide +kernel
theorem dJ7_fill_53178_17 : decode cJ7_fill_53178 17 = .ok (.goto (-12), 3) := by decide +kernel
theorem dJ7_fill_53178_20 : decode cJ7_fill_53178 20 = .ok (.return_, 1) := by decide +kernel
theorem dJ3_checkIndex_8e157_0 : decode cJ3_checkIndex_8e157 0 = .ok (.iload_n 0, 1) := by decide +kernel
theorem dJ3_checkIndex_8e157_1 : decode cJ3_checkIndex_8e157 1 = .ok (.ifCond .lt 8, 3) := by decide +kernel
theorem dJ3_checkIndex_8e157_4 : decode cJ3_checkIndex_8e157 4 = .ok (.iload_n 0, 1) := by decide +kernel
theorem dJ3_checkIndex_8e157_5 : decode cJ3_checkIndex_8e157 5 = .ok (.iload_n 1, 1) := by decide +kernel
theorem dJ3_checkIndex_8e157_6 : decode cJ3_checkIndex_8e157 6 = .ok (.if_icmp .lt 10, 3) := by decide +kernel
theorem dJ3_checkIndex_8e157_9 : decode cJ3_checkIndex_8e157 9 = .ok (.aload_n 2, 1) := by decide +kernel
