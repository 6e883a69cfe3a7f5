theorem dX9_addLayer_0 : decode cX9_addLayer 0 = .ok (.aload_n 0, 1) := by decide +kernel
theorem dX9_addLayer_1 : decode cX9_addLayer 1 = .ok (.iload_n 1, 1) := by decide +kernel
theorem dX9_addLayer_2 : decode cX9_addLayer 2 = .ok (.i2l, 1) := by decide +kernel
theorem dX9_addLayer_3 : decode cX9_addLayer 3 = .ok (.lconst 0, 1) := by decide +kernel
theorem dX9_addLayer_4 : decode cX9_addLayer 4 = .ok (.aload_n 0, 1) := by decide +kernel
theorem dX9_addLayer_5 : decode cX9_addLayer 5 = .ok (.invokevirtual 90, 3) := by decide +kernel
theorem dX9_addLayer_8 : decode cX9_addLayer 8 = .ok (.i2l, 1) := by decide +kernel
theorem dX9_addLayer_9 : decode cX9_addLayer 9 = .ok (.invokestatic 94, 3) := by decide +kernel
theorem dX9_addLayer_12 : decode cX9_addLayer 12 = .ok (.iload_n 2, 1) := by decide +kernel
theorem dX9_addLayer_13 : decode cX9_addLayer 13 = .ok (.invokestatic 413, 3) := by decide +kernel
theorem dX9_addLayer_16 : decode cX9_addLayer 16 = .ok (.ifCond .eq 22, 3) := by decide +kernel
theorem dX9_addLayer_19 : decode cX9_addLayer 19 = .ok (.iload_n 3, 1) := by decide +kernel
theorem dX9_addLayer_20 : decode cX9_addLayer 20 = .ok (.invokestatic 429, 3) := by decide +kernel
theorem dX9_addLayer_23 : decode cX9_addLayer 23 = .ok (.ifCond .eq 15, 3) := by decide +kernel
theorem dX9_addLayer_26 : decode cX9_addLayer 26 = .ok (.iload 4, 2) := by decide +kernel
theorem dX9_addLayer_28 : decode cX9_addLayer 28 = .ok (.invokestatic 432, 3) := by decide +kernel
theorem dX9_addLayer_31 : decode cX9_addLayer 31 = .ok (.ifCond .eq 7, 3) := by decide +kernel
theorem dX9_addLayer_34 : decode cX9_addLayer 34 = .ok (.iconst 1, 1) := by decide +kernel
theorem dX9_addLayer_35 : decode cX9_addLayer 35 = .ok (.goto 4, 3) := by decide +kernel
theorem dX9_addLayer_38 : decode cX9_addLayer 38 = .ok (.iconst 0, 1) := by decide +kernel
theorem dX9_addLayer_39 : decode cX9_addLayer 39 = .ok (.aload_n 0, 1) := by decide +kernel
theorem dX9_addLayer_40 : decode cX9_addLayer 40 = .ok (.invokevirtual 90, 3) := by decide +kernel
theorem dX9_addLayer_43 : decode cX9_addLayer 43 = .ok (.bipush 10, 2) := by decide +kernel
theorem dX9_addLayer_45 : decode cX9_addLayer 45 = .ok (.if_icmp .ge 7, 3) := by decide +kernel
theorem dX9_addLayer_48 : decode cX9_addLayer 48 = .ok (.iconst 1, 1) := by decide +kernel
theorem dX9_addLayer_49 : decode cX9_addLayer 49 = .ok (.goto 4, 3) := by decide +kernel
theorem dX9_addLayer_52 : decode cX9_addLayer 52 = .ok (.iconst 0, 1) := by decide +kernel
theorem dX9_addLayer_53 : decode cX9_addLayer 53 = .ok (.invokevirtual 7, 3) := by decide +kernel
theorem dX9_addLayer_56 : decode cX9_addLayer 56 = .ok (.ifCond .ne 5, 3) := by decide +kernel
theorem dX9_addLayer_59 : decode cX9_addLayer 59 = .ok (.iconst 0, 1) := by decide +kernel
theorem dX9_addLayer_60 : decode cX9_addLayer 60 = .ok (.ireturn, 1) := by decide +kernel
theorem dX9_addLayer_61 : decode cX9_addLayer 61 = .ok (.aload_n 0, 1) := by decide +kernel
theorem dX9_addLayer_62 : decode cX9_addLayer 62 = .ok (.invokevirtual 322, 3) := by decide +kernel
theorem dX9_addLayer_65 : decode cX9_addLayer 65 = .ok (.aload_n 0, 1) := by decide +kernel
theorem dX9_addLayer_66 : decode cX9_addLayer 66 = .ok (.iload_n 1, 1) := by decide +kernel
theorem dX9_addLayer_67 : decode cX9_addLayer 67 = .ok (.iload_n 2, 1) := by decide +kernel
theorem dX9_addLayer_68 : decode cX9_addLayer 68 = .ok (.iload_n 3, 1) := by decide +kernel
theorem dX9_addLayer_69 : decode cX9_addLayer 69 = .ok (.iload 4, 2) := by decide +kernel
theorem dX9_addLayer_71 : decode cX9_addLayer 71 = .ok (.invokevirtual 86, 3) := by decide +kernel
theorem dX9_addLayer_74 : decode cX9_addLayer 74 = .ok (.aload_n 0, 1) := by decide +kernel
theorem dX9_addLayer_75 : decode cX9_addLayer 75 = .ok (.invokevirtual 90, 3) := by decide +kernel
theorem dX9_addLayer_78 : decode cX9_addLayer 78 = .ok (.ireturn, 1) := by decide +kernel
set_option maxRecDepth 20000 in
set_option maxRecDepth 100000 in
theorem ggX9_removeLayer_X9_isLayer : GoodIn wsX9_removeLayer wsX9_isLayer := goodIn_r _ [5, 6, 7, 8, 4, 9, 10, 11, 12, 13, 38, 39, 40, 41, 42, 43, 44, 45, 46, 47, 48, 49, 50, 51, 52, 53, 54, 55, 56, 57, 58, 59, 60, 61, 62, 63, 64, 65, 66, 67, 68, 69, 70, 71, 72, 73, 74, 75, 76, 77, 78] rfl (by decide +kernel)
set_option maxRecDepth 20000 in
theorem gX9_removeLayer_X9_isLayer : GoodIn wsX9_removeLayer (wsV RX9 140 RX9 yX9_isLayer wsX9_isLayer) := goodIn_app (goodIn_of _ (by decide +kernel)) ggX9_removeLayer_X9_isLayer
set_option maxRecDepth 20000 in
set_option maxRecDepth 100000 in
theorem ggX9_removeLayer_X9_layers : GoodIn wsX9_removeLayer wsX9_layers := goodIn_r _ [9, 10, 38, 39, 40, 41, 42, 43, 44, 45, 46, 47, 48, 49, 50, 51, 52, 53, 54, 55, 56, 57, 58, 59, 60, 61, 62, 63, 64, 65, 66, 67, 68, 69, 70, 71, 72, 73, 74, 75, 76, 77, 78] rfl (by decide +kernel)
set_option maxRecDepth 20000 in
theorem gX9_removeLayer_X9_layers : GoodIn wsX9_removeLayer (wsV RX9 90 RX9 yX9_layers wsX9_layers) := goodIn_app (goodIn_of _ (by decide +kernel)) ggX9_removeLayer_X9_layers
set_option maxRecDepth 20000 in
set_option maxRecDepth 100000 in
theorem ggX9_removeLayer_X9_passes2 : GoodIn wsX9_removeLayer wsX9_passes2 := goodIn_r _ [17, 18, 19, 20, 4, 21, 22, 38, 39, 40, 41, 42, 43, 44, 45, 46, 47, 48, 49, 50, 51, 52, 53, 54, 55, 56, 57, 58, 59, 60, 61, 62, 63, 64, 65, 66, 67, 68, 69, 70, 71, 72, 73, 74, 75, 76, 77, 78] rfl (by decide +kernel)
set_option maxRecDepth 20000 in
theorem gX9_removeLayer_X9_passes2 : GoodIn wsX9_removeLayer (wsV RX9 332 RX9 yX9_passes2 wsX9_passes2) := goodIn_app (goodIn_of _ (by decide +kernel)) ggX9_removeLayer_X9_passes2
set_option maxRecDepth 20000 in
set_option maxRecDepth 100000 in
theorem ggX9_removeLayer_X9_remember : GoodIn wsX9_removeLayer wsX9_remember := goodIn_r _ [26, 27, 28, 29, 38, 39, 40, 41, 42, 43, 44, 45, 46, 47, 48, 49, 50, 51, 52, 53, 54, 55, 56, 57, 58, 59, 60, 61, 62, 63, 64, 65, 66, 67, 68, 69, 70, 71, 72, 73, 74, 75, 76, 77, 78] rfl (by decide +kernel)
set_option maxRecDepth 20000 in
theorem gX9_removeLayer_X9_remember : GoodIn wsX9_removeLayer (wsV RX9 322 RX9 yX9_remember wsX9_remember) := goodIn_app (goodIn_of _ (by decide +kernel)) ggX9_removeLayer_X9_remember
set_option maxRecDepth 20000 in
set_option maxRecDepth 100000 in
theorem ggX9_removeLayer_X9_removeOne : GoodIn wsX9_removeLayer wsX9_removeOne := goodIn_r _ [33, 10, 6, 7, 8, 4, 9, 34, 35, 36, 37, 38, 39, 40, 41, 42, 43, 44, 45, 46, 47, 48, 49, 50, 51, 52, 53, 54, 55, 56, 57, 58, 59, 60, 61, 62, 63, 64, 65, 66, 67, 68, 69, 70, 71, 72, 73, 74, 75, 76, 77, 78] rfl (by decide +kernel)
set_option maxRecDepth 20000 in
theorem gX9_removeLayer_X9_removeOne : GoodIn wsX9_removeLayer (wsV RX9 422 RX9 yX9_removeOne wsX9_removeOne) := goodIn_app (goodIn_of _ (by decide +kernel)) ggX9_removeLayer_X9_removeOne
theorem dX9_removeLayer_0 : decode cX9_removeLayer 0 = .ok (.aload_n 0, 1) := by decide +kernel
theorem dX9_removeLayer_1 : decode cX9_removeLayer 1 = .ok (.aload_n 0, 1) := by decide +kernel
theorem dX9_removeLayer_2 : decode cX9_removeLayer 2 = .ok (.iload_n 1, 1) := by decide +kernel
theorem dX9_removeLayer_3 : decode cX9_removeLayer 3 = .ok (.invokevirtual 140, 3) := by decide +kernel
theorem dX9_removeLayer_6 : decode cX9_removeLayer 6 = .ok (.aload_n 0, 1) := by decide +kernel
theorem dX9_removeLayer_7 : decode cX9_removeLayer 7 = .ok (.invokevirtual 90, 3) := by decide +kernel
theorem dX9_removeLayer_10 : decode cX9_removeLayer 10 = .ok (.iconst 1, 1) := by decide +kernel
theorem dX9_removeLayer_11 : decode cX9_removeLayer 11 = .ok (.if_icmp .le 7, 3) := by decide +kernel
theorem dX9_removeLayer_14 : decode cX9_removeLayer 14 = .ok (.iconst 1, 1) := by decide +kernel
theorem dX9_removeLayer_15 : decode cX9_removeLayer 15 = .ok (.goto 4, 3) := by decide +kernel
theorem dX9_removeLayer_18 : decode cX9_removeLayer 18 = .ok (.iconst 0, 1) := by decide +kernel
theorem dX9_removeLayer_19 : decode cX9_removeLayer 19 = .ok (.invokevirtual 332, 3) := by decide +kernel
theorem dX9_removeLayer_22 : decode cX9_removeLayer 22 = .ok (.ifCond .ne 5, 3) := by decide +kernel
theorem dX9_removeLayer_25 : decode cX9_removeLayer 25 = .ok (.iconst 0, 1) := by decide +kernel
theorem dX9_removeLayer_26 : decode cX9_removeLayer 26 = .ok (.ireturn, 1) := by decide +kernel
theorem dX9_removeLayer_27 : decode cX9_removeLayer 27 = .ok (.aload_n 0, 1) := by decide +kernel
theorem dX9_removeLayer_28 : decode cX9_removeLayer 28 = .ok (.invokevirtual 322, 3) := by decide +kernel
theorem dX9_removeLayer_31 : decode cX9_removeLayer 31 = .ok (.aload_n 0, 1) := by decide +kernel
theorem dX9_removeLayer_32 : decode cX9_removeLayer 32 = .ok (.iload_n 1, 1) := by decide +kernel
theorem dX9_removeLayer_33 : decode cX9_removeLayer 33 = .ok (.invokevirtual 422, 3) := by decide +kernel
theorem dX9_removeLayer_36 : decode cX9_removeLayer 36 = .ok (.aload_n 0, 1) := by decide +kernel
theorem dX9_removeLayer_37 : decode cX9_removeLayer 37 = .ok (.invokevirtual 90, 3) := by decide +kernel
theorem dX9_removeLayer_40 : decode cX9_removeLayer 40 = .ok (.ireturn, 1) := by decide +kernel
set_option maxRecDepth 20000 in
set_option maxRecDepth 100000 in
theorem ggX9_isValue_X9_isIndex : GoodIn wsX9_isValue wsX9_isIndex := goodIn_r _ [4, 5, 6, 7, 8, 3, 9] rfl (by decide +kernel)
set_option maxRecDepth 20000 in
theorem gX9_isValue_X9_isIndex : GoodIn wsX9_isValue (va_wsS RX9 413 yX9_isIndex wsX9_isIndex) := goodIn_app (goodIn_of _ (by decide +kernel)) ggX9_isValue_X9_isIndex
set_option maxRecDepth 20000 in
set_option maxRecDepth 100000 in
theorem ggX9_isValue_X9_isThickness : GoodIn wsX9_isValue wsX9_isThickness := goodIn_r _ [12, 13, 7, 8, 3, 9] rfl (by decide +kernel)
set_option maxRecDepth 20000 in
theorem gX9_isValue_X9_isThickness : GoodIn wsX9_isValue (va_wsS RX9 429 yX9_isThickness wsX9_isThickness) := goodIn_app (goodIn_of _ (by decide +kernel)) ggX9_isValue_X9_isThickness
set_option maxRecDepth 20000 in
set_option maxRecDepth 100000 in
theorem ggX9_isValue_X9_isLoss : GoodIn wsX9_isValue wsX9_isLoss := goodIn_r _ [16, 17, 7, 8, 3, 9] rfl (by decide +kernel)
set_option maxRecDepth 20000 in
theorem gX9_isValue_X9_isLoss : GoodIn wsX9_isValue (va_wsS RX9 432 yX9_isLoss wsX9_isLoss) := goodIn_app (goodIn_of _ (by decide +kernel)) ggX9_isValue_X9_isLoss
theorem dX9_isValue_0 : decode cX9_isValue 0 = .ok (.iload_n 0, 1) := by decide +kernel
theorem dX9_isValue_1 : decode cX9_isValue 1 = .ok (.tableswitch 42 0 2 #[27, 32, 37], 27) := by decide +kernel
theorem dX9_isValue_28 : decode cX9_isValue 28 = .ok (.iload_n 1, 1) := by decide +kernel
theorem dX9_isValue_29 : decode cX9_isValue 29 = .ok (.invokestatic 413, 3) := by decide +kernel
theorem dX9_isValue_32 : decode cX9_isValue 32 = .ok (.ireturn, 1) := by decide +kernel
theorem dX9_isValue_33 : decode cX9_isValue 33 = .ok (.iload_n 1, 1) := by decide +kernel
theorem dX9_isValue_34 : decode cX9_isValue 34 = .ok (.invokestatic 429, 3) := by decide +kernel
theorem dX9_isValue_37 : decode cX9_isValue 37 = .ok (.ireturn, 1) := by decide +kernel
theorem dX9_isValue_38 : decode cX9_isValue 38 = .ok (.iload_n 1, 1) := by decide +kernel
theorem dX9_isValue_39 : decode cX9_isValue 39 = .ok (.invokestatic 432, 3) := by decide +kernel
theorem dX9_isValue_42 : decode cX9_isValue 42 = .ok (.ireturn, 1) := by decide +kernel
theorem dX9_isValue_43 : decode cX9_isValue 43 = .ok (.iconst 0, 1) := by decide +kernel
theorem dX9_isValue_44 : decode cX9_isValue 44 = .ok (.ireturn, 1) := by decide +kernel
set_option maxRecDepth 20000 in
set_option maxRecDepth 100000 in
theorem ggX9_becomes_X9_remember : GoodIn wsX9_becomes wsX9_remember := goodIn_r _ [6, 7, 8, 1, 9, 10, 11, 12, 13, 14, 15, 16, 17, 18, 19, 20, 21, 22, 23, 24, 25, 26, 27, 28, 29, 30, 31, 32, 33, 34, 35, 36, 37, 38, 39, 40, 41, 42, 43, 44, 45, 46, 47, 48, 49] rfl (by decide +kernel)
set_option maxRecDepth 20000 in
theorem gX9_becomes_X9_remember : GoodIn wsX9_becomes (wsV RX9 322 RX9 yX9_remember wsX9_remember) := goodIn_app (goodIn_of _ (by decide +kernel)) ggX9_becomes_X9_remember
theorem dX9_becomes_0 : decode cX9_becomes 0 = .ok (.aload_n 0, 1) := by decide +kernel
theorem dX9_becomes_1 : decode cX9_becomes 1 = .ok (.invokevirtual 322, 3) := by decide +kernel
theorem dX9_becomes_4 : decode cX9_becomes 4 = .ok (.aload_n 0, 1) := by decide +kernel
theorem dX9_becomes_5 : decode cX9_becomes 5 = .ok (.getfield 17, 3) := by decide +kernel
theorem dX9_becomes_8 : decode cX9_becomes 8 = .ok (.iload_n 1, 1) := by decide +kernel
theorem dX9_becomes_9 : decode cX9_becomes 9 = .ok (.iaload, 1) := by decide +kernel
theorem dX9_becomes_10 : decode cX9_becomes 10 = .ok (.istore_n 3, 1) := by decide +kernel
theorem dX9_becomes_11 : decode cX9_becomes 11 = .ok (.aload_n 0, 1) := by decide +kernel
theorem dX9_becomes_12 : decode cX9_becomes 12 = .ok (.getfield 17, 3) := by decide +kernel
theorem dX9_becomes_15 : decode cX9_becomes 15 = .ok (.iload_n 1, 1) := by decide +kernel
theorem dX9_becomes_16 : decode cX9_becomes 16 = .ok (.iload_n 2, 1) := by decide +kernel
theorem dX9_becomes_17 : decode cX9_becomes 17 = .ok (.iastore, 1) := by decide +kernel
theorem dX9_becomes_18 : decode cX9_becomes 18 = .ok (.iload_n 3, 1) := by decide +kernel
theorem dX9_becomes_19 : decode cX9_becomes 19 = .ok (.ireturn, 1) := by decide +kernel
set_option maxRecDepth 20000 in
set_option maxRecDepth 100000 in
theorem ggX9_setLayer_X9_isLayer : GoodIn wsX9_setLayer wsX9_isLayer := goodIn_r _ [5, 6, 7, 8, 4, 9, 10, 11, 12, 13, 50, 51, 52, 53, 54, 55, 56, 57, 58, 59, 60, 61, 62, 63, 64, 65, 66, 67, 68, 69, 70, 71, 72, 73, 74, 75, 76, 77, 78, 79, 80, 81, 82, 83, 84, 85, 86, 87, 88, 89, 90] rfl (by decide +kernel)
set_option maxRecDepth 20000 in
theorem gX9_setLayer_X9_isLayer : GoodIn wsX9_setLayer (wsV RX9 140 RX9 yX9_isLayer wsX9_isLayer) := goodIn_app (goodIn_of _ (by decide +kernel)) ggX9_setLayer_X9_isLayer
set_option maxRecDepth 20000 in
set_option maxRecDepth 100000 in
theorem ggX9_setLayer_X9_isValue : GoodIn wsX9_setLayer wsX9_isValue := goodIn_r _ [16, 17, 18, 4, 19, 20, 21, 11, 12, 13, 22, 23, 24, 25, 26, 27, 28, 29] rfl (by decide +kernel)
set_option maxRecDepth 20000 in
theorem gX9_setLayer_X9_isValue : GoodIn wsX9_setLayer (va_wsS RX9 435 yX9_isValue wsX9_isValue) := goodIn_app (goodIn_of _ (by decide +kernel)) ggX9_setLayer_X9_isValue
set_option maxRecDepth 20000 in
set_option maxRecDepth 100000 in
theorem ggX9_setLayer_X9_passes2 : GoodIn wsX9_setLayer wsX9_passes2 := goodIn_r _ [33, 34, 35, 36, 4, 37, 38, 50, 51, 52, 53, 54, 55, 56, 57, 58, 59, 60, 61, 62, 63, 64, 65, 66, 67, 68, 69, 70, 71, 72, 73, 74, 75, 76, 77, 78, 79, 80, 81, 82, 83, 84, 85, 86, 87, 88, 89, 90] rfl (by decide +kernel)
set_option maxRecDepth 20000 in
theorem gX9_setLayer_X9_passes2 : GoodIn wsX9_setLayer (wsV RX9 332 RX9 yX9_passes2 wsX9_passes2) := goodIn_app (goodIn_of _ (by decide +kernel)) ggX9_setLayer_X9_passes2
set_option maxRecDepth 20000 in
set_option maxRecDepth 100000 in
theorem ggX9_setLayer_X9_becomes : GoodIn wsX9_setLayer wsX9_becomes := goodIn_r _ [42, 43, 44, 45, 46, 4, 47, 48, 49, 50, 51, 52, 53, 54, 55, 56, 57, 58, 59, 60, 61, 62, 63, 64, 65, 66, 67, 68, 69, 70, 71, 72, 73, 74, 75, 76, 77, 78, 79, 80, 81, 82, 83, 84, 85, 86, 87, 88, 89, 90] rfl (by decide +kernel)
set_option maxRecDepth 20000 in
theorem gX9_setLayer_X9_becomes : GoodIn wsX9_setLayer (wsV RX9 438 RX9 yX9_becomes wsX9_becomes) := goodIn_app (goodIn_of _ (by decide +kernel)) ggX9_setLayer_X9_becomes
theorem dX9_setLayer_0 : decode cX9_setLayer 0 = .ok (.aload_n 0, 1) := by decide +kernel
theorem dX9_setLayer_1 : decode cX9_setLayer 1 = .ok (.aload_n 0, 1) := by decide +kernel
theorem dX9_setLayer_2 : decode cX9_setLayer 2 = .ok (.iload_n 1, 1) := by decide +kernel
theorem dX9_setLayer_3 : decode cX9_setLayer 3 = .ok (.invokevirtual 140, 3) := by decide +kernel
theorem dX9_setLayer_6 : decode cX9_setLayer 6 = .ok (.iload_n 2, 1) := by decide +kernel
theorem dX9_setLayer_7 : decode cX9_setLayer 7 = .ok (.iload_n 3, 1) := by decide +kernel
theorem dX9_setLayer_8 : decode cX9_setLayer 8 = .ok (.invokestatic 435, 3) := by decide +kernel
theorem dX9_setLayer_11 : decode cX9_setLayer 11 = .ok (.invokevirtual 332, 3) := by decide +kernel
theorem dX9_setLayer_14 : decode cX9_setLayer 14 = .ok (.ifCond .eq 18, 3) := by decide +kernel
theorem dX9_setLayer_17 : decode cX9_setLayer 17 = .ok (.aload_n 0, 1) := by decide +kernel
theorem dX9_setLayer_18 : decode cX9_setLayer 18 = .ok (.iconst 5, 1) := by decide +kernel
theorem dX9_setLayer_19 : decode cX9_setLayer 19 = .ok (.iconst 3, 1) := by decide +kernel
theorem dX9_setLayer_20 : decode cX9_setLayer 20 = .ok (.iload_n 1, 1) := by decide +kernel
theorem dX9_setLayer_21 : decode cX9_setLayer 21 = .ok (.imul, 1) := by decide +kernel
theorem dX9_setLayer_22 : decode cX9_setLayer 22 = .ok (.iadd, 1) := by decide +kernel
theorem dX9_setLayer_23 : decode cX9_setLayer 23 = .ok (.iload_n 2, 1) := by decide +kernel
theorem dX9_setLayer_24 : decode cX9_setLayer 24 = .ok (.iadd, 1) := by decide +kernel
theorem dX9_setLayer_25 : decode cX9_setLayer 25 = .ok (.iload_n 3, 1) := by decide +kernel
theorem dX9_setLayer_26 : decode cX9_setLayer 26 = .ok (.invokevirtual 438, 3) := by decide +kernel
theorem dX9_setLayer_29 : decode cX9_setLayer 29 = .ok (.goto 4, 3) := by decide +kernel
theorem dX9_setLayer_32 : decode cX9_setLayer 32 = .ok (.iconst 0, 1) := by decide +kernel
theorem dX9_setLayer_33 : decode cX9_setLayer 33 = .ok (.ireturn, 1) := by decide +kernel
set_option maxRecDepth 20000 in
set_option maxRecDepth 100000 in
theorem ggX9_swapLayers_X9_isLayer : GoodIn wsX9_swapLayers wsX9_isLayer := goodIn_r _ [7, 8, 9, 10, 6, 11, 12, 13, 14, 15, 111, 112, 113, 114, 115, 116, 117, 118, 119, 120, 121, 122, 123, 124, 125, 126, 127, 128, 129, 130, 131, 132, 133, 134, 135, 136, 137, 138, 139, 140, 141, 142, 143, 144, 145, 146, 147, 148, 149, 150, 151] rfl (by decide +kernel)
set_option maxRecDepth 20000 in
theorem gX9_swapLayers_X9_isLayer : GoodIn wsX9_swapLayers (wsV RX9 140 RX9 yX9_isLayer wsX9_isLayer) := goodIn_app (goodIn_of _ (by decide +kernel)) ggX9_swapLayers_X9_isLayer
set_option maxRecDepth 20000 in
set_option maxRecDepth 100000 in
theorem ggX9_swapLayers_X9_passes2 : GoodIn wsX9_swapLayers wsX9_passes2 := goodIn_r _ [19, 20, 21, 22, 6, 23, 24, 111, 112, 113, 114, 115, 116, 117, 118, 119, 120, 121, 122, 123, 124, 125, 126, 127, 128, 129, 130, 131, 132, 133, 134, 135, 136, 137, 138, 139, 140, 141, 142, 143, 144, 145, 146, 147, 148, 149, 150, 151] rfl (by decide +kernel)
set_option maxRecDepth 20000 in
theorem gX9_swapLayers_X9_passes2 : GoodIn wsX9_swapLayers (wsV RX9 332 RX9 yX9_passes2 wsX9_passes2) := goodIn_app (goodIn_of _ (by decide +kernel)) ggX9_swapLayers_X9_passes2
set_option maxRecDepth 20000 in
set_option maxRecDepth 100000 in
theorem ggX9_swapLayers_X9_remember : GoodIn wsX9_swapLayers wsX9_remember := goodIn_r _ [28, 29, 30, 2, 111, 112, 113, 114, 115, 116, 117, 118, 119, 120, 121, 122, 123, 124, 125, 126, 127, 128, 129, 130, 131, 132, 133, 134, 135, 136, 137, 138, 139, 140, 141, 142, 143, 144, 145, 146, 147, 148, 149, 150, 151] rfl (by decide +kernel)
set_option maxRecDepth 20000 in
theorem gX9_swapLayers_X9_remember : GoodIn wsX9_swapLayers (wsV RX9 322 RX9 yX9_remember wsX9_remember) := goodIn_app (goodIn_of _ (by decide +kernel)) ggX9_swapLayers_X9_remember
set_option maxRecDepth 20000 in
set_option maxRecDepth 100000 in
theorem ggX9_swapLayers_X9_shots : GoodIn wsX9_swapLayers wsX9_shots := goodIn_r _ [34, 12, 111, 112, 113, 114, 115, 116, 117, 118, 119, 120, 121, 122, 123, 124, 125, 126, 127, 128, 129, 130, 131, 132, 133, 134, 135, 136, 137, 138, 139, 140, 141, 142, 143, 144, 145, 146, 147, 148, 149, 150, 151] rfl (by decide +kernel)
set_option maxRecDepth 20000 in
theorem gX9_swapLayers_X9_shots : GoodIn wsX9_swapLayers (wsV RX9 98 RX9 yX9_shots wsX9_shots) := goodIn_app (goodIn_of _ (by decide +kernel)) ggX9_swapLayers_X9_shots
set_option maxRecDepth 20000 in
set_option maxRecDepth 100000 in
theorem ggX9_swapLayers_X9_endOfShot : GoodIn wsX9_swapLayers wsX9_endOfShot := goodIn_r _ [38, 39, 40, 41, 42, 6, 43, 44, 45, 46, 47, 12, 48, 49, 50, 51, 52, 53, 54, 55, 56, 57, 58, 59, 3, 4, 5, 7, 8, 9, 10, 11, 13, 14, 15, 60, 61, 62, 63, 64, 65, 66, 67, 68, 69, 70, 71, 72, 73, 74, 75, 76, 77, 78, 79, 80, 81, 82, 83, 84, 85, 86, 87, 88, 89, 90, 91, 92, 93, 94, 95, 96, 97, 98, 99, 100, 101, 102, 103, 104, 105, 106, 107, 108, 109, 110, 111, 112, 113, 114, 115, 116, 117, 118, 119, 120, 121, 122, 123, 124, 125, 126, 127, 128, 129, 130, 131, 132, 133, 134, 135, 136, 137, 138, 139, 140, 141, 142, 143, 144, 145, 146, 147, 148, 149, 150, 151] rfl (by decide +kernel)
set_option maxRecDepth 20000 in
theorem gX9_swapLayers_X9_endOfShot : GoodIn wsX9_swapLayers (wsV RX9 390 RX9 yX9_endOfShot wsX9_endOfShot) := goodIn_app (goodIn_of _ (by decide +kernel)) ggX9_swapLayers_X9_endOfShot
theorem dX9_swapLayers_0 : decode cX9_swapLayers 0 = .ok (.aload_n 0, 1) := by decide +kernel
theorem dX9_swapLayers_1 : decode cX9_swapLayers 1 = .ok (.aload_n 0, 1) := by decide +kernel
theorem dX9_swapLayers_2 : decode cX9_swapLayers 2 = .ok (.iload_n 1, 1) := by decide +kernel
theorem dX9_swapLayers_3 : decode cX9_swapLayers 3 = .ok (.invokevirtual 140, 3) := by decide +kernel
theorem dX9_swapLayers_6 : decode cX9_swapLayers 6 = .ok (.ifCond .eq 15, 3) := by decide +kernel
theorem dX9_swapLayers_9 : decode cX9_swapLayers 9 = .ok (.aload_n 0, 1) := by decide +kernel
theorem dX9_swapLayers_10 : decode cX9_swapLayers 10 = .ok (.iload_n 2, 1) := by decide +kernel
theorem dX9_swapLayers_11 : decode cX9_swapLayers 11 = .ok (.invokevirtual 140, 3) := by decide +kernel
theorem dX9_swapLayers_14 : decode cX9_swapLayers 14 = .ok (.ifCond .eq 7, 3) := by decide +kernel
theorem dX9_swapLayers_17 : decode cX9_swapLayers 17 = .ok (.iconst 1, 1) := by decide +kernel
theorem dX9_swapLayers_18 : decode cX9_swapLayers 18 = .ok (.goto 4, 3) := by decide +kernel
theorem dX9_swapLayers_21 : decode cX9_swapLayers 21 = .ok (.iconst 0, 1) := by decide +kernel
theorem dX9_swapLayers_22 : decode cX9_swapLayers 22 = .ok (.iload_n 1, 1) := by decide +kernel
theorem dX9_swapLayers_23 : decode cX9_swapLayers 23 = .ok (.iload_n 2, 1) := by decide +kernel
theorem dX9_swapLayers_24 : decode cX9_swapLayers 24 = .ok (.if_icmp .eq 7, 3) := by decide +kernel
theorem dX9_swapLayers_27 : decode cX9_swapLayers 27 = .ok (.iconst 1, 1) := by decide +kernel
theorem dX9_swapLayers_28 : decode cX9_swapLayers 28 = .ok (.goto 4, 3) := by decide +kernel
theorem dX9_swapLayers_31 : decode cX9_swapLayers 31 = .ok (.iconst 0, 1) := by decide +kernel
theorem dX9_swapLayers_32 : decode cX9_swapLayers 32 = .ok (.invokevirtual 332, 3) := by decide +kernel
theorem dX9_swapLayers_35 : decode cX9_swapLayers 35 = .ok (.ifCond .ne 5, 3) := by decide +kernel
theorem dX9_swapLayers_38 : decode cX9_swapLayers 38 = .ok (.iconst 0, 1) := by decide +kernel
theorem dX9_swapLayers_39 : decode cX9_swapLayers 39 = .ok (.ireturn, 1) := by decide +kernel
theorem dX9_swapLayers_40 : decode cX9_swapLayers 40 = .ok (.aload_n 0, 1) := by decide +kernel
theorem dX9_swapLayers_41 : decode cX9_swapLayers 41 = .ok (.invokevirtual 322, 3) := by decide +kernel
theorem dX9_swapLayers_44 : decode cX9_swapLayers 44 = .ok (.iconst 0, 1) := by decide +kernel
theorem dX9_swapLayers_45 : decode cX9_swapLayers 45 = .ok (.istore_n 3, 1) := by decide +kernel
theorem dX9_swapLayers_46 : decode cX9_swapLayers 46 = .ok (.iload_n 3, 1) := by decide +kernel
theorem dX9_swapLayers_47 : decode cX9_swapLayers 47 = .ok (.aload_n 0, 1) := by decide +kernel
theorem dX9_swapLayers_48 : decode cX9_swapLayers 48 = .ok (.invokevirtual 98, 3) := by decide +kernel
theorem dX9_swapLayers_51 : decode cX9_swapLayers 51 = .ok (.if_icmp .ge 20, 3) := by decide +kernel
theorem dX9_swapLayers_54 : decode cX9_swapLayers 54 = .ok (.aload_n 0, 1) := by decide +kernel
theorem dX9_swapLayers_55 : decode cX9_swapLayers 55 = .ok (.getfield 68, 3) := by decide +kernel
theorem dX9_swapLayers_58 : decode cX9_swapLayers 58 = .ok (.iload_n 3, 1) := by decide +kernel
theorem dX9_swapLayers_59 : decode cX9_swapLayers 59 = .ok (.aload_n 0, 1) := by decide +kernel
theorem dX9_swapLayers_60 : decode cX9_swapLayers 60 = .ok (.iload_n 3, 1) := by decide +kernel
theorem dX9_swapLayers_61 : decode cX9_swapLayers 61 = .ok (.invokevirtual 390, 3) := by decide +kernel
theorem dX9_swapLayers_64 : decode cX9_swapLayers 64 = .ok (.iastore, 1) := by decide +kernel
theorem dX9_swapLayers_65 : decode cX9_swapLayers 65 = .ok (.iinc 3 1, 3) := by decide +kernel
theorem dX9_swapLayers_68 : decode cX9_swapLayers 68 = .ok (.goto (-22), 3) := by decide +kernel
theorem dX9_swapLayers_71 : decode cX9_swapLayers 71 = .ok (.iconst 0, 1) := by decide +kernel
theorem dX9_swapLayers_72 : decode cX9_swapLayers 72 = .ok (.istore_n 3, 1) := by decide +kernel
theorem dX9_swapLayers_73 : decode cX9_swapLayers 73 = .ok (.iload_n 3, 1) := by decide +kernel
theorem dX9_swapLayers_74 : decode cX9_swapLayers 74 = .ok (.iconst 3, 1) := by decide +kernel
theorem dX9_swapLayers_75 : decode cX9_swapLayers 75 = .ok (.if_icmp .ge 61, 3) := by decide +kernel
theorem dX9_swapLayers_78 : decode cX9_swapLayers 78 = .ok (.aload_n 0, 1) := by decide +kernel
theorem dX9_swapLayers_79 : decode cX9_swapLayers 79 = .ok (.getfield 17, 3) := by decide +kernel
theorem dX9_swapLayers_82 : decode cX9_swapLayers 82 = .ok (.iconst 5, 1) := by decide +kernel
theorem dX9_swapLayers_83 : decode cX9_swapLayers 83 = .ok (.iconst 3, 1) := by decide +kernel
theorem dX9_swapLayers_84 : decode cX9_swapLayers 84 = .ok (.iload_n 1, 1) := by decide +kernel
theorem dX9_swapLayers_85 : decode cX9_swapLayers 85 = .ok (.imul, 1) := by decide +kernel
theorem dX9_swapLayers_86 : decode cX9_swapLayers 86 = .ok (.iadd, 1) := by decide +kernel
theorem dX9_swapLayers_87 : decode cX9_swapLayers 87 = .ok (.iload_n 3, 1) := by decide +kernel
theorem dX9_swapLayers_88 : decode cX9_swapLayers 88 = .ok (.iadd, 1) := by decide +kernel
theorem dX9_swapLayers_89 : decode cX9_swapLayers 89 = .ok (.iaload, 1) := by decide +kernel
theorem dX9_swapLayers_90 : decode cX9_swapLayers 90 = .ok (.istore 4, 2) := by decide +kernel
theorem dX9_swapLayers_92 : decode cX9_swapLayers 92 = .ok (.aload_n 0, 1) := by decide +kernel
theorem dX9_swapLayers_93 : decode cX9_swapLayers 93 = .ok (.getfield 17, 3) := by decide +kernel
theorem dX9_swapLayers_96 : decode cX9_swapLayers 96 = .ok (.iconst 5, 1) := by decide +kernel
theorem dX9_swapLayers_97 : decode cX9_swapLayers 97 = .ok (.iconst 3, 1) := by decide +kernel
theorem dX9_swapLayers_98 : decode cX9_swapLayers 98 = .ok (.iload_n 1, 1) := by decide +kernel
theorem dX9_swapLayers_99 : decode cX9_swapLayers 99 = .ok (.imul, 1) := by decide +kernel
theorem dX9_swapLayers_100 : decode cX9_swapLayers 100 = .ok (.iadd, 1) := by decide +kernel
theorem dX9_swapLayers_101 : decode cX9_swapLayers 101 = .ok (.iload_n 3, 1) := by decide +kernel
theorem dX9_swapLayers_102 : decode cX9_swapLayers 102 = .ok (.iadd, 1) := by decide +kernel
theorem dX9_swapLayers_103 : decode cX9_swapLayers 103 = .ok (.aload_n 0, 1) := by decide +kernel
theorem dX9_swapLayers_104 : decode cX9_swapLayers 104 = .ok (.getfield 17, 3) := by decide +kernel
theorem dX9_swapLayers_107 : decode cX9_swapLayers 107 = .ok (.iconst 5, 1) := by decide +kernel
theorem dX9_swapLayers_108 : decode cX9_swapLayers 108 = .ok (.iconst 3, 1) := by decide +kernel
theorem dX9_swapLayers_109 : decode cX9_swapLayers 109 = .ok (.iload_n 2, 1) := by decide +kernel
theorem dX9_swapLayers_110 : decode cX9_swapLayers 110 = .ok (.imul, 1) := by decide +kernel
theorem dX9_swapLayers_111 : decode cX9_swapLayers 111 = .ok (.iadd, 1) := by decide +kernel
theorem dX9_swapLayers_112 : decode cX9_swapLayers 112 = .ok (.iload_n 3, 1) := by decide +kernel
theorem dX9_swapLayers_113 : decode cX9_swapLayers 113 = .ok (.iadd, 1) := by decide +kernel
theorem dX9_swapLayers_114 : decode cX9_swapLayers 114 = .ok (.iaload, 1) := by decide +kernel
theorem dX9_swapLayers_115 : decode cX9_swapLayers 115 = .ok (.iastore, 1) := by decide +kernel
theorem dX9_swapLayers_116 : decode cX9_swapLayers 116 = .ok (.aload_n 0, 1) := by decide +kernel
theorem dX9_swapLayers_117 : decode cX9_swapLayers 117 = .ok (.getfield 17, 3) := by decide +kernel
theorem dX9_swapLayers_120 : decode cX9_swapLayers 120 = .ok (.iconst 5, 1) := by decide +kernel
theorem dX9_swapLayers_121 : decode cX9_swapLayers 121 = .ok (.iconst 3, 1) := by decide +kernel
theorem dX9_swapLayers_122 : decode cX9_swapLayers 122 = .ok (.iload_n 2, 1) := by decide +kernel
theorem dX9_swapLayers_123 : decode cX9_swapLayers 123 = .ok (.imul, 1) := by decide +kernel
theorem dX9_swapLayers_124 : decode cX9_swapLayers 124 = .ok (.iadd, 1) := by decide +kernel
theorem dX9_swapLayers_125 : decode cX9_swapLayers 125 = .ok (.iload_n 3, 1) := by decide +kernel
theorem dX9_swapLayers_126 : decode cX9_swapLayers 126 = .ok (.iadd, 1) := by decide +kernel
theorem dX9_swapLayers_127 : decode cX9_swapLayers 127 = .ok (.iload 4, 2) := by decide +kernel
theorem dX9_swapLayers_129 : decode cX9_swapLayers 129 = .ok (.iastore, 1) := by decide +kernel
theorem dX9_swapLayers_130 : decode cX9_swapLayers 130 = .ok (.iinc 3 1, 3) := by decide +kernel
theorem dX9_swapLayers_133 : decode cX9_swapLayers 133 = .ok (.goto (-60), 3) := by decide +kernel
theorem dX9_swapLayers_136 : decode cX9_swapLayers 136 = .ok (.iconst 0, 1) := by decide +kernel
theorem dX9_swapLayers_137 : decode cX9_swapLayers 137 = .ok (.istore_n 3, 1) := by decide +kernel
theorem dX9_swapLayers_138 : decode cX9_swapLayers 138 = .ok (.iconst 0, 1) := by decide +kernel
theorem dX9_swapLayers_139 : decode cX9_swapLayers 139 = .ok (.istore 4, 2) := by decide +kernel
theorem dX9_swapLayers_141 : decode cX9_swapLayers 141 = .ok (.iload 4, 2) := by decide +kernel
theorem dX9_swapLayers_143 : decode cX9_swapLayers 143 = .ok (.aload_n 0, 1) := by decide +kernel
theorem dX9_swapLayers_144 : decode cX9_swapLayers 144 = .ok (.invokevirtual 98, 3) := by decide +kernel
theorem dX9_swapLayers_147 : decode cX9_swapLayers 147 = .ok (.if_icmp .ge 33, 3) := by decide +kernel
theorem dX9_swapLayers_150 : decode cX9_swapLayers 150 = .ok (.iload_n 3, 1) := by decide +kernel
theorem dX9_swapLayers_151 : decode cX9_swapLayers 151 = .ok (.aload_n 0, 1) := by decide +kernel
theorem dX9_swapLayers_152 : decode cX9_swapLayers 152 = .ok (.iload 4, 2) := by decide +kernel
theorem dX9_swapLayers_154 : decode cX9_swapLayers 154 = .ok (.invokevirtual 390, 3) := by decide +kernel
theorem dX9_swapLayers_157 : decode cX9_swapLayers 157 = .ok (.aload_n 0, 1) := by decide +kernel
theorem dX9_swapLayers_158 : decode cX9_swapLayers 158 = .ok (.getfield 68, 3) := by decide +kernel
theorem dX9_swapLayers_161 : decode cX9_swapLayers 161 = .ok (.iload 4, 2) := by decide +kernel
theorem dX9_swapLayers_163 : decode cX9_swapLayers 163 = .ok (.iaload, 1) := by decide +kernel
theorem dX9_swapLayers_164 : decode cX9_swapLayers 164 = .ok (.if_icmp .eq 7, 3) := by decide +kernel
theorem dX9_swapLayers_167 : decode cX9_swapLayers 167 = .ok (.iconst 1, 1) := by decide +kernel
theorem dX9_swapLayers_168 : decode cX9_swapLayers 168 = .ok (.goto 4, 3) := by decide +kernel
theorem dX9_swapLayers_171 : decode cX9_swapLayers 171 = .ok (.iconst 0, 1) := by decide +kernel
theorem dX9_swapLayers_172 : decode cX9_swapLayers 172 = .ok (.iadd, 1) := by decide +kernel
theorem dX9_swapLayers_173 : decode cX9_swapLayers 173 = .ok (.istore_n 3, 1) := by decide +kernel
theorem dX9_swapLayers_174 : decode cX9_swapLayers 174 = .ok (.iinc 4 1, 3) := by decide +kernel
theorem dX9_swapLayers_177 : decode cX9_swapLayers 177 = .ok (.goto (-36), 3) := by decide +kernel
theorem dX9_swapLayers_180 : decode cX9_swapLayers 180 = .ok (.iload_n 3, 1) := by decide +kernel
theorem dX9_swapLayers_181 : decode cX9_swapLayers 181 = .ok (.ireturn, 1) := by decide +kernel
set_option maxRecDepth 20000 in
set_option maxRecDepth 100000 in
theorem ggX9_setOutside_X9_isIndex : GoodIn wsX9_setOutside wsX9_isIndex := goodIn_r _ [4, 5, 6, 7, 8, 3, 9] rfl (by decide +kernel)
set_option maxRecDepth 20000 in
theorem gX9_setOutside_X9_isIndex : GoodIn wsX9_setOutside (va_wsS RX9 413 yX9_isIndex wsX9_isIndex) := goodIn_app (goodIn_of _ (by decide +kernel)) ggX9_setOutside_X9_isIndex
set_option maxRecDepth 20000 in
set_option maxRecDepth 100000 in
theorem ggX9_setOutside_X9_passes : GoodIn wsX9_setOutside wsX9_passes := goodIn_r _ [13, 14, 15, 16, 3, 17, 18, 30, 31, 32, 33, 34, 35, 36, 37, 38, 39, 40, 41, 42, 43, 44, 45, 46, 47, 48, 49, 50, 51, 52, 53, 54, 55, 56, 57, 58, 59, 60, 61, 62, 63, 64, 65, 66, 67, 68, 69, 70] rfl (by decide +kernel)
set_option maxRecDepth 20000 in
theorem gX9_setOutside_X9_passes : GoodIn wsX9_setOutside (wsV RX9 193 RX9 yX9_passes wsX9_passes) := goodIn_app (goodIn_of _ (by decide +kernel)) ggX9_setOutside_X9_passes
set_option maxRecDepth 20000 in
set_option maxRecDepth 100000 in
theorem ggX9_setOutside_X9_becomes : GoodIn wsX9_setOutside wsX9_becomes := goodIn_r _ [22, 23, 24, 25, 26, 3, 27, 28, 29, 30, 31, 32, 33, 34, 35, 36, 37, 38, 39, 40, 41, 42, 43, 44, 45, 46, 47, 48, 49, 50, 51, 52, 53, 54, 55, 56, 57, 58, 59, 60, 61, 62, 63, 64, 65, 66, 67, 68, 69, 70] rfl (by decide +kernel)
set_option maxRecDepth 20000 in
theorem gX9_setOutside_X9_becomes : GoodIn wsX9_setOutside (wsV RX9 438 RX9 yX9_becomes wsX9_becomes) := goodIn_app (goodIn_of _ (by decide +kernel)) ggX9_setOutside_X9_becomes
theorem dX9_setOutside_0 : decode cX9_setOutside 0 = .ok (.aload_n 0, 1) := by decide +kernel
theorem dX9_setOutside_1 : decode cX9_setOutside 1 = .ok (.iload_n 1, 1) := by decide +kernel
theorem dX9_setOutside_2 : decode cX9_setOutside 2 = .ok (.invokestatic 413, 3) := by decide +kernel
theorem dX9_setOutside_5 : decode cX9_setOutside 5 = .ok (.invokevirtual 193, 3) := by decide +kernel
theorem dX9_setOutside_8 : decode cX9_setOutside 8 = .ok (.ifCond .eq 12, 3) := by decide +kernel
theorem dX9_setOutside_11 : decode cX9_setOutside 11 = .ok (.aload_n 0, 1) := by decide +kernel
theorem dX9_setOutside_12 : decode cX9_setOutside 12 = .ok (.iconst 1, 1) := by decide +kernel
theorem dX9_setOutside_13 : decode cX9_setOutside 13 = .ok (.iload_n 1, 1) := by decide +kernel
theorem dX9_setOutside_14 : decode cX9_setOutside 14 = .ok (.invokevirtual 438, 3) := by decide +kernel
theorem dX9_setOutside_17 : decode cX9_setOutside 17 = .ok (.goto 4, 3) := by decide +kernel
theorem dX9_setOutside_20 : decode cX9_setOutside 20 = .ok (.iconst 0, 1) := by decide +kernel
theorem dX9_setOutside_21 : decode cX9_setOutside 21 = .ok (.ireturn, 1) := by decide +kernel
set_option maxRecDepth 20000 in
set_option maxRecDepth 100000 in
theorem ggX9_setOpen_X9_isIndex : GoodIn wsX9_setOpen wsX9_isIndex := goodIn_r _ [5, 6, 7, 8, 9, 4, 10] rfl (by decide +kernel)
set_option maxRecDepth 20000 in
theorem gX9_setOpen_X9_isIndex : GoodIn wsX9_setOpen (va_wsS RX9 413 yX9_isIndex wsX9_isIndex) := goodIn_app (goodIn_of _ (by decide +kernel)) ggX9_setOpen_X9_isIndex
set_option maxRecDepth 20000 in
set_option maxRecDepth 100000 in
theorem ggX9_setOpen_X9_passes : GoodIn wsX9_setOpen wsX9_passes := goodIn_r _ [14, 15, 16, 17, 4, 18, 19, 30, 31, 32, 33, 34, 35, 36, 37, 38, 39, 40, 41, 42, 43, 44, 45, 46, 47, 48, 49, 50, 51, 52, 53, 54, 55, 56, 57, 58, 59, 60, 61, 62, 63, 64, 65, 66, 67, 68, 69, 70] rfl (by decide +kernel)
set_option maxRecDepth 20000 in
theorem gX9_setOpen_X9_passes : GoodIn wsX9_setOpen (wsV RX9 193 RX9 yX9_passes wsX9_passes) := goodIn_app (goodIn_of _ (by decide +kernel)) ggX9_setOpen_X9_passes
set_option maxRecDepth 20000 in
set_option maxRecDepth 100000 in
theorem ggX9_setOpen_X9_becomes : GoodIn wsX9_setOpen wsX9_becomes := goodIn_r _ [23, 1, 24, 25, 26, 4, 27, 28, 29, 30, 31, 32, 33, 34, 35, 36, 37, 38, 39, 40, 41, 42, 43, 44, 45, 46, 47, 48, 49, 50, 51, 52, 53, 54, 55, 56, 57, 58, 59, 60, 61, 62, 63, 64, 65, 66, 67, 68, 69, 70] rfl (by decide +kernel)
set_option maxRecDepth 20000 in
theorem gX9_setOpen_X9_becomes : GoodIn wsX9_setOpen (wsV RX9 438 RX9 yX9_becomes wsX9_becomes) := goodIn_app (goodIn_of _ (by decide +kernel)) ggX9_setOpen_X9_becomes
theorem dX9_setOpen_0 : decode cX9_setOpen 0 = .ok (.aload_n 0, 1) := by decide +kernel
theorem dX9_setOpen_1 : decode cX9_setOpen 1 = .ok (.iload_n 1, 1) := by decide +kernel
theorem dX9_setOpen_2 : decode cX9_setOpen 2 = .ok (.invokestatic 413, 3) := by decide +kernel
theorem dX9_setOpen_5 : decode cX9_setOpen 5 = .ok (.invokevirtual 193, 3) := by decide +kernel
theorem dX9_setOpen_8 : decode cX9_setOpen 8 = .ok (.ifCond .ne 5, 3) := by decide +kernel
theorem dX9_setOpen_11 : decode cX9_setOpen 11 = .ok (.iconst 0, 1) := by decide +kernel
theorem dX9_setOpen_12 : decode cX9_setOpen 12 = .ok (.ireturn, 1) := by decide +kernel
theorem dX9_setOpen_13 : decode cX9_setOpen 13 = .ok (.aload_n 0, 1) := by decide +kernel
theorem dX9_setOpen_14 : decode cX9_setOpen 14 = .ok (.iconst 3, 1) := by decide +kernel
theorem dX9_setOpen_15 : decode cX9_setOpen 15 = .ok (.iload_n 1, 1) := by decide +kernel
theorem dX9_setOpen_16 : decode cX9_setOpen 16 = .ok (.invokevirtual 438, 3) := by decide +kernel
theorem dX9_setOpen_19 : decode cX9_setOpen 19 = .ok (.istore_n 2, 1) := by decide +kernel
theorem dX9_setOpen_20 : decode cX9_setOpen 20 = .ok (.aload_n 0, 1) := by decide +kernel
theorem dX9_setOpen_21 : decode cX9_setOpen 21 = .ok (.getfield 17, 3) := by decide +kernel
theorem dX9_setOpen_24 : decode cX9_setOpen 24 = .ok (.iconst 2, 1) := by decide +kernel
theorem dX9_setOpen_25 : decode cX9_setOpen 25 = .ok (.iaload, 1) := by decide +kernel
theorem dX9_setOpen_26 : decode cX9_setOpen 26 = .ok (.iconst 1, 1) := by decide +kernel
theorem dX9_setOpen_27 : decode cX9_setOpen 27 = .ok (.if_icmp .ne 7, 3) := by decide +kernel
theorem dX9_setOpen_30 : decode cX9_setOpen 30 = .ok (.iconst 1, 1) := by decide +kernel
theorem dX9_setOpen_31 : decode cX9_setOpen 31 = .ok (.goto 4, 3) := by decide +kernel
theorem dX9_setOpen_34 : decode cX9_setOpen 34 = .ok (.iconst 0, 1) := by decide +kernel
theorem dX9_setOpen_35 : decode cX9_setOpen 35 = .ok (.istore_n 3, 1) := by decide +kernel
theorem dX9_setOpen_36 : decode cX9_setOpen 36 = .ok (.aload_n 0, 1) := by decide +kernel
theorem dX9_setOpen_37 : decode cX9_setOpen 37 = .ok (.getfield 17, 3) := by decide +kernel
theorem dX9_setOpen_40 : decode cX9_setOpen 40 = .ok (.iconst 2, 1) := by decide +kernel
theorem dX9_setOpen_41 : decode cX9_setOpen 41 = .ok (.iconst 0, 1) := by decide +kernel
theorem dX9_setOpen_42 : decode cX9_setOpen 42 = .ok (.iastore, 1) := by decide +kernel
theorem dX9_setOpen_43 : decode cX9_setOpen 43 = .ok (.iload_n 3, 1) := by decide +kernel
theorem dX9_setOpen_44 : decode cX9_setOpen 44 = .ok (.ifCond .eq 9, 3) := by decide +kernel
theorem dX9_setOpen_47 : decode cX9_setOpen 47 = .ok (.sipush 5000, 3) := by decide +kernel
theorem dX9_setOpen_50 : decode cX9_setOpen 50 = .ok (.goto 4, 3) := by decide +kernel
theorem dX9_setOpen_53 : decode cX9_setOpen 53 = .ok (.iload_n 2, 1) := by decide +kernel
theorem dX9_setOpen_54 : decode cX9_setOpen 54 = .ok (.ireturn, 1) := by decide +kernel
set_option maxRecDepth 20000 in
set_option maxRecDepth 100000 in
theorem ggX9_setMirror_X9_in : GoodIn wsX9_setMirror wsX9_in := goodIn_r _ [6] rfl (by decide +kernel)
set_option maxRecDepth 20000 in
theorem gX9_setMirror_X9_in : GoodIn wsX9_setMirror (va_wsS RX9 94 yX9_in wsX9_in) := goodIn_app (goodIn_of _ (by decide +kernel)) ggX9_setMirror_X9_in
set_option maxRecDepth 20000 in
set_option maxRecDepth 100000 in
theorem ggX9_setMirror_X9_passes : GoodIn wsX9_setMirror wsX9_passes := goodIn_r _ [10, 11, 12, 13, 5, 14, 15, 26, 27, 28, 29, 30, 31, 32, 33, 34, 35, 36, 37, 38, 39, 40, 41, 42, 43, 44, 45, 46, 47, 48, 49, 50, 51, 52, 53, 54, 55, 56, 57, 58, 59, 60, 61, 62, 63, 64, 65, 66] rfl (by decide +kernel)
set_option maxRecDepth 20000 in
theorem gX9_setMirror_X9_passes : GoodIn wsX9_setMirror (wsV RX9 193 RX9 yX9_passes wsX9_passes) := goodIn_app (goodIn_of _ (by decide +kernel)) ggX9_setMirror_X9_passes
set_option maxRecDepth 20000 in
set_option maxRecDepth 100000 in
theorem ggX9_setMirror_X9_becomes : GoodIn wsX9_setMirror wsX9_becomes := goodIn_r _ [19, 2, 20, 21, 22, 5, 23, 24, 25, 26, 27, 28, 29, 30, 31, 32, 33, 34, 35, 36, 37, 38, 39, 40, 41, 42, 43, 44, 45, 46, 47, 48, 49, 50, 51, 52, 53, 54, 55, 56, 57, 58, 59, 60, 61, 62, 63, 64, 65, 66] rfl (by decide +kernel)
set_option maxRecDepth 20000 in
theorem gX9_setMirror_X9_becomes : GoodIn wsX9_setMirror (wsV RX9 438 RX9 yX9_becomes wsX9_becomes) := goodIn_app (goodIn_of _ (by decide +kernel)) ggX9_setMirror_X9_becomes
theorem dX9_setMirror_0 : decode cX9_setMirror 0 = .ok (.aload_n 0, 1) := by decide +kernel
theorem dX9_setMirror_1 : decode cX9_setMirror 1 = .ok (.iload_n 1, 1) := by decide +kernel
theorem dX9_setMirror_2 : decode cX9_setMirror 2 = .ok (.i2l, 1) := by decide +kernel
theorem dX9_setMirror_3 : decode cX9_setMirror 3 = .ok (.lconst 0, 1) := by decide +kernel
theorem dX9_setMirror_4 : decode cX9_setMirror 4 = .ok (.ldc2_w 154, 3) := by decide +kernel
theorem dX9_setMirror_7 : decode cX9_setMirror 7 = .ok (.invokestatic 94, 3) := by decide +kernel
theorem dX9_setMirror_10 : decode cX9_setMirror 10 = .ok (.invokevirtual 193, 3) := by decide +kernel
theorem dX9_setMirror_13 : decode cX9_setMirror 13 = .ok (.ifCond .ne 5, 3) := by decide +kernel
theorem dX9_setMirror_16 : decode cX9_setMirror 16 = .ok (.iconst 0, 1) := by decide +kernel
theorem dX9_setMirror_17 : decode cX9_setMirror 17 = .ok (.ireturn, 1) := by decide +kernel
theorem dX9_setMirror_18 : decode cX9_setMirror 18 = .ok (.aload_n 0, 1) := by decide +kernel
theorem dX9_setMirror_19 : decode cX9_setMirror 19 = .ok (.iconst 3, 1) := by decide +kernel
theorem dX9_setMirror_20 : decode cX9_setMirror 20 = .ok (.iload_n 1, 1) := by decide +kernel
theorem dX9_setMirror_21 : decode cX9_setMirror 21 = .ok (.invokevirtual 438, 3) := by decide +kernel
theorem dX9_setMirror_24 : decode cX9_setMirror 24 = .ok (.istore_n 2, 1) := by decide +kernel
theorem dX9_setMirror_25 : decode cX9_setMirror 25 = .ok (.aload_n 0, 1) := by decide +kernel
theorem dX9_setMirror_26 : decode cX9_setMirror 26 = .ok (.getfield 17, 3) := by decide +kernel
theorem dX9_setMirror_29 : decode cX9_setMirror 29 = .ok (.iconst 2, 1) := by decide +kernel
theorem dX9_setMirror_30 : decode cX9_setMirror 30 = .ok (.iaload, 1) := by decide +kernel
theorem dX9_setMirror_31 : decode cX9_setMirror 31 = .ok (.iconst 1, 1) := by decide +kernel
theorem dX9_setMirror_32 : decode cX9_setMirror 32 = .ok (.if_icmp .ne 7, 3) := by decide +kernel
theorem dX9_setMirror_35 : decode cX9_setMirror 35 = .ok (.iconst 1, 1) := by decide +kernel
theorem dX9_setMirror_36 : decode cX9_setMirror 36 = .ok (.goto 4, 3) := by decide +kernel
theorem dX9_setMirror_39 : decode cX9_setMirror 39 = .ok (.iconst 0, 1) := by decide +kernel
theorem dX9_setMirror_40 : decode cX9_setMirror 40 = .ok (.istore_n 3, 1) := by decide +kernel
theorem dX9_setMirror_41 : decode cX9_setMirror 41 = .ok (.aload_n 0, 1) := by decide +kernel
theorem dX9_setMirror_42 : decode cX9_setMirror 42 = .ok (.getfield 17, 3) := by decide +kernel
theorem dX9_setMirror_45 : decode cX9_setMirror 45 = .ok (.iconst 2, 1) := by decide +kernel
theorem dX9_setMirror_46 : decode cX9_setMirror 46 = .ok (.iconst 1, 1) := by decide +kernel
theorem dX9_setMirror_47 : decode cX9_setMirror 47 = .ok (.iastore, 1) := by decide +kernel
theorem dX9_setMirror_48 : decode cX9_setMirror 48 = .ok (.iload_n 3, 1) := by decide +kernel
theorem dX9_setMirror_49 : decode cX9_setMirror 49 = .ok (.ifCond .eq 7, 3) := by decide +kernel
theorem dX9_setMirror_52 : decode cX9_setMirror 52 = .ok (.iload_n 2, 1) := by decide +kernel
theorem dX9_setMirror_53 : decode cX9_setMirror 53 = .ok (.goto 4, 3) := by decide +kernel
theorem dX9_setMirror_56 : decode cX9_setMirror 56 = .ok (.iconst (-1), 1) := by decide +kernel
theorem dX9_setMirror_57 : decode cX9_setMirror 57 = .ok (.ireturn, 1) := by decide +kernel
set_option maxRecDepth 20000 in
set_option maxRecDepth 100000 in
theorem ggX9_shoot_X9_isLayer : GoodIn wsX9_shoot wsX9_isLayer := goodIn_r _ [5, 6, 7, 8, 4, 9, 10, 11, 12, 13, 42, 43, 44, 45, 46, 47, 48, 49, 50, 51, 52, 53, 54, 55, 56, 57, 58, 59, 60, 61, 62, 63, 64, 65, 66, 67, 68, 69, 70, 71, 72, 73, 74, 75, 76, 77, 78, 79, 80, 81, 82] rfl (by decide +kernel)
set_option maxRecDepth 20000 in
theorem gX9_shoot_X9_isLayer : GoodIn wsX9_shoot (wsV RX9 140 RX9 yX9_isLayer wsX9_isLayer) := goodIn_app (goodIn_of _ (by decide +kernel)) ggX9_shoot_X9_isLayer
set_option maxRecDepth 20000 in
set_option maxRecDepth 100000 in
theorem ggX9_shoot_X9_isSlant : GoodIn wsX9_shoot wsX9_isSlant := goodIn_r _ [16, 17, 11, 12, 4, 13] rfl (by decide +kernel)
set_option maxRecDepth 20000 in
theorem gX9_shoot_X9_isSlant : GoodIn wsX9_shoot (va_wsS RX9 370 yX9_isSlant wsX9_isSlant) := goodIn_app (goodIn_of _ (by decide +kernel)) ggX9_shoot_X9_isSlant
set_option maxRecDepth 20000 in
set_option maxRecDepth 100000 in
theorem ggX9_shoot_X9_ofLayer : GoodIn wsX9_shoot wsX9_ofLayer := goodIn_r _ [21, 10, 42, 43, 44, 45, 46, 47, 48, 49, 50, 51, 52, 53, 54, 55, 56, 57, 58, 59, 60, 61, 62, 63, 64, 65, 66, 67, 68, 69, 70, 71, 72, 73, 74, 75, 76, 77, 78, 79, 80, 81, 82] rfl (by decide +kernel)
set_option maxRecDepth 20000 in
theorem gX9_shoot_X9_ofLayer : GoodIn wsX9_shoot (wsV RX9 105 RX9 yX9_ofLayer wsX9_ofLayer) := goodIn_app (goodIn_of _ (by decide +kernel)) ggX9_shoot_X9_ofLayer
set_option maxRecDepth 20000 in
set_option maxRecDepth 100000 in
theorem ggX9_shoot_X9_shots : GoodIn wsX9_shoot wsX9_shots := goodIn_r _ [25, 10, 42, 43, 44, 45, 46, 47, 48, 49, 50, 51, 52, 53, 54, 55, 56, 57, 58, 59, 60, 61, 62, 63, 64, 65, 66, 67, 68, 69, 70, 71, 72, 73, 74, 75, 76, 77, 78, 79, 80, 81, 82] rfl (by decide +kernel)
set_option maxRecDepth 20000 in
theorem gX9_shoot_X9_shots : GoodIn wsX9_shoot (wsV RX9 98 RX9 yX9_shots wsX9_shots) := goodIn_app (goodIn_of _ (by decide +kernel)) ggX9_shoot_X9_shots
set_option maxRecDepth 20000 in
set_option maxRecDepth 100000 in
theorem ggX9_shoot_X9_passes3 : GoodIn wsX9_shoot wsX9_passes3 := goodIn_r _ [29, 30, 42, 43, 44, 45, 46, 47, 48, 49, 50, 51, 52, 53, 54, 55, 56, 57, 58, 59, 60, 61, 62, 63, 64, 65, 66, 67, 68, 69, 70, 71, 72, 73, 74, 75, 76, 77, 78, 79, 80, 81, 82] rfl (by decide +kernel)
set_option maxRecDepth 20000 in
theorem gX9_shoot_X9_passes3 : GoodIn wsX9_shoot (wsV RX9 7 RX9 yX9_passes3 wsX9_passes3) := goodIn_app (goodIn_of _ (by decide +kernel)) ggX9_shoot_X9_passes3
set_option maxRecDepth 20000 in
set_option maxRecDepth 100000 in
theorem ggX9_shoot_X9_remember : GoodIn wsX9_shoot wsX9_remember := goodIn_r _ [34, 35, 36, 37, 42, 43, 44, 45, 46, 47, 48, 49, 50, 51, 52, 53, 54, 55, 56, 57, 58, 59, 60, 61, 62, 63, 64, 65, 66, 67, 68, 69, 70, 71, 72, 73, 74, 75, 76, 77, 78, 79, 80, 81, 82] rfl (by decide +kernel)
set_option maxRecDepth 20000 in
theorem gX9_shoot_X9_remember : GoodIn wsX9_shoot (wsV RX9 322 RX9 yX9_remember wsX9_remember) := goodIn_app (goodIn_of _ (by decide +kernel)) ggX9_shoot_X9_remember
set_option maxRecDepth 20000 in
set_option maxRecDepth 100000 in
theorem ggX9_shoot_X9_addShot : GoodIn wsX9_shoot wsX9_addShot := goodIn_r _ [41, 10, 22, 23, 24, 4, 25, 42, 43, 44, 45, 46, 47, 48, 49, 50, 51, 52, 53, 54, 55, 56, 57, 58, 59, 60, 61, 62, 63, 64, 65, 66, 67, 68, 69, 70, 71, 72, 73, 74, 75, 76, 77, 78, 79, 80, 81, 82] rfl (by decide +kernel)
set_option maxRecDepth 20000 in
theorem gX9_shoot_X9_addShot : GoodIn wsX9_shoot (wsV RX9 296 RX9 yX9_addShot wsX9_addShot) := goodIn_app (goodIn_of _ (by decide +kernel)) ggX9_shoot_X9_addShot
theorem dX9_shoot_0 : decode cX9_shoot 0 = .ok (.aload_n 0, 1) := by decide +kernel
theorem dX9_shoot_1 : decode cX9_shoot 1 = .ok (.iload_n 1, 1) := by decide +kernel
theorem dX9_shoot_2 : decode cX9_shoot 2 = .ok (.invokevirtual 140, 3) := by decide +kernel
theorem dX9_shoot_5 : decode cX9_shoot 5 = .ok (.istore 4, 2) := by decide +kernel
theorem dX9_shoot_7 : decode cX9_shoot 7 = .ok (.aload_n 0, 1) := by decide +kernel
theorem dX9_shoot_8 : decode cX9_shoot 8 = .ok (.iload 4, 2) := by decide +kernel
theorem dX9_shoot_10 : decode cX9_shoot 10 = .ok (.iload 4, 2) := by decide +kernel
theorem dX9_shoot_12 : decode cX9_shoot 12 = .ok (.ifCond .eq 24, 3) := by decide +kernel
theorem dX9_shoot_15 : decode cX9_shoot 15 = .ok (.iload_n 3, 1) := by decide +kernel
theorem dX9_shoot_16 : decode cX9_shoot 16 = .ok (.invokestatic 370, 3) := by decide +kernel
theorem dX9_shoot_19 : decode cX9_shoot 19 = .ok (.ifCond .eq 17, 3) := by decide +kernel
theorem dX9_shoot_22 : decode cX9_shoot 22 = .ok (.iload_n 3, 1) := by decide +kernel
theorem dX9_shoot_23 : decode cX9_shoot 23 = .ok (.aload_n 0, 1) := by decide +kernel
theorem dX9_shoot_24 : decode cX9_shoot 24 = .ok (.iload_n 1, 1) := by decide +kernel
theorem dX9_shoot_25 : decode cX9_shoot 25 = .ok (.iconst 0, 1) := by decide +kernel
theorem dX9_shoot_26 : decode cX9_shoot 26 = .ok (.invokevirtual 105, 3) := by decide +kernel
theorem dX9_shoot_29 : decode cX9_shoot 29 = .ok (.if_icmp .ge 7, 3) := by decide +kernel
theorem dX9_shoot_32 : decode cX9_shoot 32 = .ok (.iconst 1, 1) := by decide +kernel
theorem dX9_shoot_33 : decode cX9_shoot 33 = .ok (.goto 4, 3) := by decide +kernel
theorem dX9_shoot_36 : decode cX9_shoot 36 = .ok (.iconst 0, 1) := by decide +kernel
theorem dX9_shoot_37 : decode cX9_shoot 37 = .ok (.aload_n 0, 1) := by decide +kernel
theorem dX9_shoot_38 : decode cX9_shoot 38 = .ok (.invokevirtual 98, 3) := by decide +kernel
theorem dX9_shoot_41 : decode cX9_shoot 41 = .ok (.bipush 20, 2) := by decide +kernel
theorem dX9_shoot_43 : decode cX9_shoot 43 = .ok (.if_icmp .ge 7, 3) := by decide +kernel
theorem dX9_shoot_46 : decode cX9_shoot 46 = .ok (.iconst 1, 1) := by decide +kernel
theorem dX9_shoot_47 : decode cX9_shoot 47 = .ok (.goto 4, 3) := by decide +kernel
theorem dX9_shoot_50 : decode cX9_shoot 50 = .ok (.iconst 0, 1) := by decide +kernel
theorem dX9_shoot_51 : decode cX9_shoot 51 = .ok (.invokevirtual 7, 3) := by decide +kernel
theorem dX9_shoot_54 : decode cX9_shoot 54 = .ok (.ifCond .ne 5, 3) := by decide +kernel
theorem dX9_shoot_57 : decode cX9_shoot 57 = .ok (.iconst 0, 1) := by decide +kernel
theorem dX9_shoot_58 : decode cX9_shoot 58 = .ok (.ireturn, 1) := by decide +kernel
theorem dX9_shoot_59 : decode cX9_shoot 59 = .ok (.aload_n 0, 1) := by decide +kernel
theorem dX9_shoot_60 : decode cX9_shoot 60 = .ok (.invokevirtual 322, 3) := by decide +kernel
theorem dX9_shoot_63 : decode cX9_shoot 63 = .ok (.aload_n 0, 1) := by decide +kernel
theorem dX9_shoot_64 : decode cX9_shoot 64 = .ok (.iload_n 1, 1) := by decide +kernel
theorem dX9_shoot_65 : decode cX9_shoot 65 = .ok (.iload_n 2, 1) := by decide +kernel
theorem dX9_shoot_66 : decode cX9_shoot 66 = .ok (.iload_n 3, 1) := by decide +kernel
theorem dX9_shoot_67 : decode cX9_shoot 67 = .ok (.invokevirtual 296, 3) := by decide +kernel
theorem dX9_shoot_70 : decode cX9_shoot 70 = .ok (.aload_n 0, 1) := by decide +kernel
theorem dX9_shoot_71 : decode cX9_shoot 71 = .ok (.invokevirtual 98, 3) := by decide +kernel
theorem dX9_shoot_74 : decode cX9_shoot 74 = .ok (.iconst 1, 1) := by decide +kernel
theorem dX9_shoot_75 : decode cX9_shoot 75 = .ok (.isub, 1) := by decide +kernel
theorem dX9_shoot_76 : decode cX9_shoot 76 = .ok (.ireturn, 1) := by decide +kernel
set_option maxRecDepth 20000 in
set_option maxRecDepth 100000 in
theorem ggX9_turn_X9_isShot : GoodIn wsX9_turn wsX9_isShot := goodIn_r _ [5, 6, 7, 8, 4, 9, 10, 11, 12, 13, 122, 123, 124, 125, 126, 127, 128, 129, 130, 131, 132, 133, 134, 135, 136, 137, 138, 139, 140, 141, 142, 143, 144, 145, 146, 147, 148, 149, 150, 151, 152, 153, 154, 155, 156, 157, 158, 159, 160, 161, 162] rfl (by decide +kernel)
set_option maxRecDepth 20000 in
theorem gX9_turn_X9_isShot : GoodIn wsX9_turn (wsV RX9 336 RX9 yX9_isShot wsX9_isShot) := goodIn_app (goodIn_of _ (by decide +kernel)) ggX9_turn_X9_isShot
set_option maxRecDepth 20000 in
set_option maxRecDepth 100000 in
theorem ggX9_turn_X9_isSlant : GoodIn wsX9_turn wsX9_isSlant := goodIn_r _ [16, 17, 11, 12, 4, 13] rfl (by decide +kernel)
set_option maxRecDepth 20000 in
theorem gX9_turn_X9_isSlant : GoodIn wsX9_turn (va_wsS RX9 370 yX9_isSlant wsX9_isSlant) := goodIn_app (goodIn_of _ (by decide +kernel)) ggX9_turn_X9_isSlant
set_option maxRecDepth 20000 in
set_option maxRecDepth 100000 in
theorem ggX9_turn_X9_passes2 : GoodIn wsX9_turn wsX9_passes2 := goodIn_r _ [21, 22, 23, 24, 4, 25, 26, 122, 123, 124, 125, 126, 127, 128, 129, 130, 131, 132, 133, 134, 135, 136, 137, 138, 139, 140, 141, 142, 143, 144, 145, 146, 147, 148, 149, 150, 151, 152, 153, 154, 155, 156, 157, 158, 159, 160, 161, 162] rfl (by decide +kernel)
set_option maxRecDepth 20000 in
theorem gX9_turn_X9_passes2 : GoodIn wsX9_turn (wsV RX9 332 RX9 yX9_passes2 wsX9_passes2) := goodIn_app (goodIn_of _ (by decide +kernel)) ggX9_turn_X9_passes2
set_option maxRecDepth 20000 in
set_option maxRecDepth 100000 in
theorem ggX9_turn_X9_becomes : GoodIn wsX9_turn wsX9_becomes := goodIn_r _ [30, 31, 32, 33, 34, 4, 35, 36, 37, 122, 123, 124, 125, 126, 127, 128, 129, 130, 131, 132, 133, 134, 135, 136, 137, 138, 139, 140, 141, 142, 143, 144, 145, 146, 147, 148, 149, 150, 151, 152, 153, 154, 155, 156, 157, 158, 159, 160, 161, 162] rfl (by decide +kernel)
set_option maxRecDepth 20000 in
theorem gX9_turn_X9_becomes : GoodIn wsX9_turn (wsV RX9 438 RX9 yX9_becomes wsX9_becomes) := goodIn_app (goodIn_of _ (by decide +kernel)) ggX9_turn_X9_becomes
set_option maxRecDepth 20000 in
set_option maxRecDepth 100000 in
theorem ggX9_turn_X9_endOfShot : GoodIn wsX9_turn wsX9_endOfShot := goodIn_r _ [41, 42, 43, 44, 45, 4, 46, 47, 48, 49, 50, 10, 51, 52, 53, 54, 55, 56, 57, 58, 59, 60, 61, 62, 63, 64, 65, 66, 67, 68, 69, 70, 11, 12, 13, 71, 72, 73, 74, 75, 76, 77, 78, 79, 80, 81, 82, 83, 84, 85, 86, 87, 88, 89, 90, 91, 92, 93, 94, 95, 96, 97, 98, 99, 100, 101, 102, 103, 104, 105, 106, 107, 108, 109, 110, 111, 112, 113, 114, 115, 116, 117, 118, 119, 120, 121, 122, 123, 124, 125, 126, 127, 128, 129, 130, 131, 132, 133, 134, 135, 136, 137, 138, 139, 140, 141, 142, 143, 144, 145, 146, 147, 148, 149, 150, 151, 152, 153, 154, 155, 156, 157, 158, 159, 160, 161, 162] rfl (by decide +kernel)
set_option maxRecDepth 20000 in
theorem gX9_turn_X9_endOfShot : GoodIn wsX9_turn (wsV RX9 390 RX9 yX9_endOfShot wsX9_endOfShot) := goodIn_app (goodIn_of _ (by decide +kernel)) ggX9_turn_X9_endOfShot
theorem dX9_turn_0 : decode cX9_turn 0 = .ok (.aload_n 0, 1) := by decide +kernel
theorem dX9_turn_1 : decode cX9_turn 1 = .ok (.aload_n 0, 1) := by decide +kernel
theorem dX9_turn_2 : decode cX9_turn 2 = .ok (.iload_n 1, 1) := by decide +kernel
theorem dX9_turn_3 : decode cX9_turn 3 = .ok (.invokevirtual 336, 3) := by decide +kernel
theorem dX9_turn_6 : decode cX9_turn 6 = .ok (.iload_n 2, 1) := by decide +kernel
theorem dX9_turn_7 : decode cX9_turn 7 = .ok (.invokestatic 370, 3) := by decide +kernel
theorem dX9_turn_10 : decode cX9_turn 10 = .ok (.invokevirtual 332, 3) := by decide +kernel
theorem dX9_turn_13 : decode cX9_turn 13 = .ok (.ifCond .ne 5, 3) := by decide +kernel
theorem dX9_turn_16 : decode cX9_turn 16 = .ok (.iconst 0, 1) := by decide +kernel
theorem dX9_turn_17 : decode cX9_turn 17 = .ok (.ireturn, 1) := by decide +kernel
theorem dX9_turn_18 : decode cX9_turn 18 = .ok (.aload_n 0, 1) := by decide +kernel
theorem dX9_turn_19 : decode cX9_turn 19 = .ok (.bipush 35, 2) := by decide +kernel
theorem dX9_turn_21 : decode cX9_turn 21 = .ok (.iconst 3, 1) := by decide +kernel
theorem dX9_turn_22 : decode cX9_turn 22 = .ok (.iload_n 1, 1) := by decide +kernel
theorem dX9_turn_23 : decode cX9_turn 23 = .ok (.imul, 1) := by decide +kernel
theorem dX9_turn_24 : decode cX9_turn 24 = .ok (.iadd, 1) := by decide +kernel
theorem dX9_turn_25 : decode cX9_turn 25 = .ok (.iconst 2, 1) := by decide +kernel
theorem dX9_turn_26 : decode cX9_turn 26 = .ok (.iadd, 1) := by decide +kernel
theorem dX9_turn_27 : decode cX9_turn 27 = .ok (.iload_n 2, 1) := by decide +kernel
theorem dX9_turn_28 : decode cX9_turn 28 = .ok (.invokevirtual 438, 3) := by decide +kernel
theorem dX9_turn_31 : decode cX9_turn 31 = .ok (.istore_n 3, 1) := by decide +kernel
theorem dX9_turn_32 : decode cX9_turn 32 = .ok (.aload_n 0, 1) := by decide +kernel
theorem dX9_turn_33 : decode cX9_turn 33 = .ok (.iload_n 1, 1) := by decide +kernel
theorem dX9_turn_34 : decode cX9_turn 34 = .ok (.invokevirtual 390, 3) := by decide +kernel
theorem dX9_turn_37 : decode cX9_turn 37 = .ok (.ireturn, 1) := by decide +kernel
set_option maxRecDepth 20000 in
set_option maxRecDepth 100000 in
theorem ggX9_dropShot_X9_isShot : GoodIn wsX9_dropShot wsX9_isShot := goodIn_r _ [6, 7, 8, 9, 5, 10, 11, 12, 13, 14, 30, 31, 32, 33, 34, 35, 36, 37, 38, 39, 40, 41, 42, 43, 44, 45, 46, 47, 48, 49, 50, 51, 52, 53, 54, 55, 56, 57, 58, 59, 60, 61, 62, 63, 64, 65, 66, 67, 68, 69, 70] rfl (by decide +kernel)
set_option maxRecDepth 20000 in
theorem gX9_dropShot_X9_isShot : GoodIn wsX9_dropShot (wsV RX9 336 RX9 yX9_isShot wsX9_isShot) := goodIn_app (goodIn_of _ (by decide +kernel)) ggX9_dropShot_X9_isShot
set_option maxRecDepth 20000 in
set_option maxRecDepth 100000 in
theorem ggX9_dropShot_X9_passes : GoodIn wsX9_dropShot wsX9_passes := goodIn_r _ [18, 19, 20, 21, 5, 22, 23, 30, 31, 32, 33, 34, 35, 36, 37, 38, 39, 40, 41, 42, 43, 44, 45, 46, 47, 48, 49, 50, 51, 52, 53, 54, 55, 56, 57, 58, 59, 60, 61, 62, 63, 64, 65, 66, 67, 68, 69, 70] rfl (by decide +kernel)
set_option maxRecDepth 20000 in
theorem gX9_dropShot_X9_passes : GoodIn wsX9_dropShot (wsV RX9 193 RX9 yX9_passes wsX9_passes) := goodIn_app (goodIn_of _ (by decide +kernel)) ggX9_dropShot_X9_passes
set_option maxRecDepth 20000 in
set_option maxRecDepth 100000 in
theorem ggX9_dropShot_X9_remember : GoodIn wsX9_dropShot wsX9_remember := goodIn_r _ [27, 28, 29, 1, 30, 31, 32, 33, 34, 35, 36, 37, 38, 39, 40, 41, 42, 43, 44, 45, 46, 47, 48, 49, 50, 51, 52, 53, 54, 55, 56, 57, 58, 59, 60, 61, 62, 63, 64, 65, 66, 67, 68, 69, 70] rfl (by decide +kernel)
set_option maxRecDepth 20000 in
theorem gX9_dropShot_X9_remember : GoodIn wsX9_dropShot (wsV RX9 322 RX9 yX9_remember wsX9_remember) := goodIn_app (goodIn_of _ (by decide +kernel)) ggX9_dropShot_X9_remember
set_option maxRecDepth 20000 in
set_option maxRecDepth 100000 in
theorem ggX9_dropShot_X9_shots : GoodIn wsX9_dropShot wsX9_shots := goodIn_r _ [10, 11, 30, 31, 32, 33, 34, 35, 36, 37, 38, 39, 40, 41, 42, 43, 44, 45, 46, 47, 48, 49, 50, 51, 52, 53, 54, 55, 56, 57, 58, 59, 60, 61, 62, 63, 64, 65, 66, 67, 68, 69, 70] rfl (by decide +kernel)
set_option maxRecDepth 20000 in
theorem gX9_dropShot_X9_shots : GoodIn wsX9_dropShot (wsV RX9 98 RX9 yX9_shots wsX9_shots) := goodIn_app (goodIn_of _ (by decide +kernel)) ggX9_dropShot_X9_shots
theorem dX9_dropShot_0 : decode cX9_dropShot 0 = .ok (.aload_n 0, 1) := by decide +kernel
theorem dX9_dropShot_1 : decode cX9_dropShot 1 = .ok (.aload_n 0, 1) := by decide +kernel
theorem dX9_dropShot_2 : decode cX9_dropShot 2 = .ok (.iload_n 1, 1) := by decide +kernel
theorem dX9_dropShot_3 : decode cX9_dropShot 3 = .ok (.invokevirtual 336, 3) := by decide +kernel
theorem dX9_dropShot_6 : decode cX9_dropShot 6 = .ok (.invokevirtual 193, 3) := by decide +kernel
theorem dX9_dropShot_9 : decode cX9_dropShot 9 = .ok (.ifCond .ne 5, 3) := by decide +kernel
theorem dX9_dropShot_12 : decode cX9_dropShot 12 = .ok (.iconst 0, 1) := by decide +kernel
theorem dX9_dropShot_13 : decode cX9_dropShot 13 = .ok (.ireturn, 1) := by decide +kernel
theorem dX9_dropShot_14 : decode cX9_dropShot 14 = .ok (.aload_n 0, 1) := by decide +kernel
theorem dX9_dropShot_15 : decode cX9_dropShot 15 = .ok (.invokevirtual 322, 3) := by decide +kernel
theorem dX9_dropShot_18 : decode cX9_dropShot 18 = .ok (.aload_n 0, 1) := by decide +kernel
theorem dX9_dropShot_19 : decode cX9_dropShot 19 = .ok (.getfield 17, 3) := by decide +kernel
theorem dX9_dropShot_22 : decode cX9_dropShot 22 = .ok (.iconst 4, 1) := by decide +kernel
theorem dX9_dropShot_23 : decode cX9_dropShot 23 = .ok (.dup2, 1) := by decide +kernel
theorem dX9_dropShot_24 : decode cX9_dropShot 24 = .ok (.iaload, 1) := by decide +kernel
theorem dX9_dropShot_25 : decode cX9_dropShot 25 = .ok (.iconst 1, 1) := by decide +kernel
theorem dX9_dropShot_26 : decode cX9_dropShot 26 = .ok (.isub, 1) := by decide +kernel
theorem dX9_dropShot_27 : decode cX9_dropShot 27 = .ok (.iastore, 1) := by decide +kernel
theorem dX9_dropShot_28 : decode cX9_dropShot 28 = .ok (.bipush 35, 2) := by decide +kernel
theorem dX9_dropShot_30 : decode cX9_dropShot 30 = .ok (.iconst 3, 1) := by decide +kernel
theorem dX9_dropShot_31 : decode cX9_dropShot 31 = .ok (.iload_n 1, 1) := by decide +kernel
theorem dX9_dropShot_32 : decode cX9_dropShot 32 = .ok (.imul, 1) := by decide +kernel
theorem dX9_dropShot_33 : decode cX9_dropShot 33 = .ok (.iadd, 1) := by decide +kernel
theorem dX9_dropShot_34 : decode cX9_dropShot 34 = .ok (.istore_n 2, 1) := by decide +kernel
theorem dX9_dropShot_35 : decode cX9_dropShot 35 = .ok (.iload_n 2, 1) := by decide +kernel
theorem dX9_dropShot_36 : decode cX9_dropShot 36 = .ok (.bipush 35, 2) := by decide +kernel
theorem dX9_dropShot_38 : decode cX9_dropShot 38 = .ok (.iconst 3, 1) := by decide +kernel
theorem dX9_dropShot_39 : decode cX9_dropShot 39 = .ok (.aload_n 0, 1) := by decide +kernel
theorem dX9_dropShot_40 : decode cX9_dropShot 40 = .ok (.invokevirtual 98, 3) := by decide +kernel
theorem dX9_dropShot_43 : decode cX9_dropShot 43 = .ok (.imul, 1) := by decide +kernel
theorem dX9_dropShot_44 : decode cX9_dropShot 44 = .ok (.iadd, 1) := by decide +kernel
theorem dX9_dropShot_45 : decode cX9_dropShot 45 = .ok (.if_icmp .ge 23, 3) := by decide +kernel
theorem dX9_dropShot_48 : decode cX9_dropShot 48 = .ok (.aload_n 0, 1) := by decide +kernel
theorem dX9_dropShot_49 : decode cX9_dropShot 49 = .ok (.getfield 17, 3) := by decide +kernel
theorem dX9_dropShot_52 : decode cX9_dropShot 52 = .ok (.iload_n 2, 1) := by decide +kernel
theorem dX9_dropShot_53 : decode cX9_dropShot 53 = .ok (.aload_n 0, 1) := by decide +kernel
theorem dX9_dropShot_54 : decode cX9_dropShot 54 = .ok (.getfield 17, 3) := by decide +kernel
theorem dX9_dropShot_57 : decode cX9_dropShot 57 = .ok (.iload_n 2, 1) := by decide +kernel
theorem dX9_dropShot_58 : decode cX9_dropShot 58 = .ok (.iconst 3, 1) := by decide +kernel
theorem dX9_dropShot_59 : decode cX9_dropShot 59 = .ok (.iadd, 1) := by decide +kernel
theorem dX9_dropShot_60 : decode cX9_dropShot 60 = .ok (.iaload, 1) := by decide +kernel
theorem dX9_dropShot_61 : decode cX9_dropShot 61 = .ok (.iastore, 1) := by decide +kernel
theorem dX9_dropShot_62 : decode cX9_dropShot 62 = .ok (.iinc 2 1, 3) := by decide +kernel
theorem dX9_dropShot_65 : decode cX9_dropShot 65 = .ok (.goto (-30), 3) := by decide +kernel
theorem dX9_dropShot_68 : decode cX9_dropShot 68 = .ok (.aload_n 0, 1) := by decide +kernel
theorem dX9_dropShot_69 : decode cX9_dropShot 69 = .ok (.invokevirtual 98, 3) := by decide +kernel
theorem dX9_dropShot_72 : decode cX9_dropShot 72 = .ok (.ireturn, 1) := by decide +kernel
set_option maxRecDepth 20000 in
set_option maxRecDepth 100000 in
theorem ggX9_isKeep_X9_in : GoodIn wsX9_isKeep wsX9_in := goodIn_r _ [4] rfl (by decide +kernel)
set_option maxRecDepth 20000 in
theorem gX9_isKeep_X9_in : GoodIn wsX9_isKeep (va_wsS RX9 94 yX9_in wsX9_in) := goodIn_app (goodIn_of _ (by decide +kernel)) ggX9_isKeep_X9_in
theorem dX9_isKeep_0 : decode cX9_isKeep 0 = .ok (.iload_n 0, 1) := by decide +kernel
theorem dX9_isKeep_1 : decode cX9_isKeep 1 = .ok (.i2l, 1) := by decide +kernel
theorem dX9_isKeep_2 : decode cX9_isKeep 2 = .ok (.lconst 0, 1) := by decide +kernel
theorem dX9_isKeep_3 : decode cX9_isKeep 3 = .ok (.lconst 1, 1) := by decide +kernel
theorem dX9_isKeep_4 : decode cX9_isKeep 4 = .ok (.invokestatic 94, 3) := by decide +kernel
theorem dX9_isKeep_7 : decode cX9_isKeep 7 = .ok (.ireturn, 1) := by decide +kernel
set_option maxRecDepth 20000 in
set_option maxRecDepth 100000 in
theorem ggX9_keep_X9_isKeep : GoodIn wsX9_keep wsX9_isKeep := goodIn_r _ [7, 8, 9, 6, 10] rfl (by decide +kernel)
set_option maxRecDepth 20000 in
theorem gX9_keep_X9_isKeep : GoodIn wsX9_keep (va_wsS RX9 441 yX9_isKeep wsX9_isKeep) := goodIn_app (goodIn_of _ (by decide +kernel)) ggX9_keep_X9_isKeep
set_option maxRecDepth 20000 in
set_option maxRecDepth 100000 in
theorem ggX9_keep_X9_passes : GoodIn wsX9_keep wsX9_passes := goodIn_r _ [14, 15, 16, 17, 6, 18, 19, 25, 26, 27, 28, 29, 30, 31, 32, 33, 34, 35, 36, 37, 38, 39, 40, 41, 42, 43, 44, 45, 46, 47, 48, 49, 50, 51, 52, 53, 54, 55, 56, 57, 58, 59, 60, 61, 62, 63, 64, 65] rfl (by decide +kernel)
set_option maxRecDepth 20000 in
theorem gX9_keep_X9_passes : GoodIn wsX9_keep (wsV RX9 193 RX9 yX9_passes wsX9_passes) := goodIn_app (goodIn_of _ (by decide +kernel)) ggX9_keep_X9_passes
set_option maxRecDepth 20000 in
set_option maxRecDepth 100000 in
theorem ggX9_keep_X9_shots : GoodIn wsX9_keep wsX9_shots := goodIn_r _ [23, 24, 25, 26, 27, 28, 29, 30, 31, 32, 33, 34, 35, 36, 37, 38, 39, 40, 41, 42, 43, 44, 45, 46, 47, 48, 49, 50, 51, 52, 53, 54, 55, 56, 57, 58, 59, 60, 61, 62, 63, 64, 65] rfl (by decide +kernel)
set_option maxRecDepth 20000 in
theorem gX9_keep_X9_shots : GoodIn wsX9_keep (wsV RX9 98 RX9 yX9_shots wsX9_shots) := goodIn_app (goodIn_of _ (by decide +kernel)) ggX9_keep_X9_shots
theorem dX9_keep_0 : decode cX9_keep 0 = .ok (.aload_n 0, 1) := by decide +kernel
theorem dX9_keep_1 : decode cX9_keep 1 = .ok (.iload_n 1, 1) := by decide +kernel
theorem dX9_keep_2 : decode cX9_keep 2 = .ok (.invokestatic 441, 3) := by decide +kernel
theorem dX9_keep_5 : decode cX9_keep 5 = .ok (.invokevirtual 193, 3) := by decide +kernel
theorem dX9_keep_8 : decode cX9_keep 8 = .ok (.ifCond .ne 5, 3) := by decide +kernel
theorem dX9_keep_11 : decode cX9_keep 11 = .ok (.iconst 0, 1) := by decide +kernel
theorem dX9_keep_12 : decode cX9_keep 12 = .ok (.ireturn, 1) := by decide +kernel
theorem dX9_keep_13 : decode cX9_keep 13 = .ok (.iconst 0, 1) := by decide +kernel
theorem dX9_keep_14 : decode cX9_keep 14 = .ok (.istore_n 2, 1) := by decide +kernel
theorem dX9_keep_15 : decode cX9_keep 15 = .ok (.iload_n 2, 1) := by decide +kernel
theorem dX9_keep_16 : decode cX9_keep 16 = .ok (.bipush 95, 2) := by decide +kernel
theorem dX9_keep_18 : decode cX9_keep 18 = .ok (.if_icmp .ge 26, 3) := by decide +kernel
theorem dX9_keep_21 : decode cX9_keep 21 = .ok (.aload_n 0, 1) := by decide +kernel
theorem dX9_keep_22 : decode cX9_keep 22 = .ok (.getfield 71, 3) := by decide +kernel
theorem dX9_keep_25 : decode cX9_keep 25 = .ok (.bipush 95, 2) := by decide +kernel
theorem dX9_keep_27 : decode cX9_keep 27 = .ok (.iload_n 1, 1) := by decide +kernel
theorem dX9_keep_28 : decode cX9_keep 28 = .ok (.imul, 1) := by decide +kernel
theorem dX9_keep_29 : decode cX9_keep 29 = .ok (.iload_n 2, 1) := by decide +kernel
theorem dX9_keep_30 : decode cX9_keep 30 = .ok (.iadd, 1) := by decide +kernel
theorem dX9_keep_31 : decode cX9_keep 31 = .ok (.aload_n 0, 1) := by decide +kernel
theorem dX9_keep_32 : decode cX9_keep 32 = .ok (.getfield 17, 3) := by decide +kernel
theorem dX9_keep_35 : decode cX9_keep 35 = .ok (.iload_n 2, 1) := by decide +kernel
theorem dX9_keep_36 : decode cX9_keep 36 = .ok (.iaload, 1) := by decide +kernel
theorem dX9_keep_37 : decode cX9_keep 37 = .ok (.iastore, 1) := by decide +kernel
theorem dX9_keep_38 : decode cX9_keep 38 = .ok (.iinc 2 1, 3) := by decide +kernel
theorem dX9_keep_41 : decode cX9_keep 41 = .ok (.goto (-26), 3) := by decide +kernel
theorem dX9_keep_44 : decode cX9_keep 44 = .ok (.aload_n 0, 1) := by decide +kernel
theorem dX9_keep_45 : decode cX9_keep 45 = .ok (.getfield 74, 3) := by decide +kernel
theorem dX9_keep_48 : decode cX9_keep 48 = .ok (.iload_n 1, 1) := by decide +kernel
theorem dX9_keep_49 : decode cX9_keep 49 = .ok (.iconst 1, 1) := by decide +kernel
theorem dX9_keep_50 : decode cX9_keep 50 = .ok (.bastore, 1) := by decide +kernel
theorem dX9_keep_51 : decode cX9_keep 51 = .ok (.aload_n 0, 1) := by decide +kernel
theorem dX9_keep_52 : decode cX9_keep 52 = .ok (.invokevirtual 98, 3) := by decide +kernel
theorem dX9_keep_55 : decode cX9_keep 55 = .ok (.ireturn, 1) := by decide +kernel
set_option maxRecDepth 20000 in
set_option maxRecDepth 100000 in
theorem ggX9_restore_X9_isKeep : GoodIn wsX9_restore wsX9_isKeep := goodIn_r _ [7, 8, 9, 6, 10] rfl (by decide +kernel)
set_option maxRecDepth 20000 in
theorem gX9_restore_X9_isKeep : GoodIn wsX9_restore (va_wsS RX9 441 yX9_isKeep wsX9_isKeep) := goodIn_app (goodIn_of _ (by decide +kernel)) ggX9_restore_X9_isKeep
set_option maxRecDepth 20000 in
set_option maxRecDepth 100000 in
theorem ggX9_restore_X9_passes2 : GoodIn wsX9_restore wsX9_passes2 := goodIn_r _ [14, 15, 16, 17, 6, 18, 19, 31, 32, 33, 34, 35, 36, 37, 38, 39, 40, 41, 42, 43, 44, 45, 46, 47, 48, 49, 50, 51, 52, 53, 54, 55, 56, 57, 58, 59, 60, 61, 62, 63, 64, 65, 66, 67, 68, 69, 70, 71] rfl (by decide +kernel)
set_option maxRecDepth 20000 in
theorem gX9_restore_X9_passes2 : GoodIn wsX9_restore (wsV RX9 332 RX9 yX9_passes2 wsX9_passes2) := goodIn_app (goodIn_of _ (by decide +kernel)) ggX9_restore_X9_passes2
set_option maxRecDepth 20000 in
set_option maxRecDepth 100000 in
theorem ggX9_restore_X9_remember : GoodIn wsX9_restore wsX9_remember := goodIn_r _ [23, 24, 25, 2, 31, 32, 33, 34, 35, 36, 37, 38, 39, 40, 41, 42, 43, 44, 45, 46, 47, 48, 49, 50, 51, 52, 53, 54, 55, 56, 57, 58, 59, 60, 61, 62, 63, 64, 65, 66, 67, 68, 69, 70, 71] rfl (by decide +kernel)
set_option maxRecDepth 20000 in
theorem gX9_restore_X9_remember : GoodIn wsX9_restore (wsV RX9 322 RX9 yX9_remember wsX9_remember) := goodIn_app (goodIn_of _ (by decide +kernel)) ggX9_restore_X9_remember
set_option maxRecDepth 20000 in
set_option maxRecDepth 100000 in
theorem ggX9_restore_X9_shots : GoodIn wsX9_restore wsX9_shots := goodIn_r _ [29, 30, 31, 32, 33, 34, 35, 36, 37, 38, 39, 40, 41, 42, 43, 44, 45, 46, 47, 48, 49, 50, 51, 52, 53, 54, 55, 56, 57, 58, 59, 60, 61, 62, 63, 64, 65, 66, 67, 68, 69, 70, 71] rfl (by decide +kernel)
set_option maxRecDepth 20000 in
theorem gX9_restore_X9_shots : GoodIn wsX9_restore (wsV RX9 98 RX9 yX9_shots wsX9_shots) := goodIn_app (goodIn_of _ (by decide +kernel)) ggX9_restore_X9_shots
theorem dX9_restore_0 : decode cX9_restore 0 = .ok (.aload_n 0, 1) := by decide +kernel
theorem dX9_restore_1 : decode cX9_restore 1 = .ok (.iload_n 1, 1) := by decide +kernel
theorem dX9_restore_2 : decode cX9_restore 2 = .ok (.invokestatic 441, 3) := by decide +kernel
theorem dX9_restore_5 : decode cX9_restore 5 = .ok (.iload_n 1, 1) := by decide +kernel
theorem dX9_restore_6 : decode cX9_restore 6 = .ok (.invokestatic 441, 3) := by decide +kernel
theorem dX9_restore_9 : decode cX9_restore 9 = .ok (.ifCond .eq 12, 3) := by decide +kernel
theorem dX9_restore_12 : decode cX9_restore 12 = .ok (.aload_n 0, 1) := by decide +kernel
theorem dX9_restore_13 : decode cX9_restore 13 = .ok (.getfield 74, 3) := by decide +kernel
theorem dX9_restore_16 : decode cX9_restore 16 = .ok (.iload_n 1, 1) := by decide +kernel
theorem dX9_restore_17 : decode cX9_restore 17 = .ok (.baload, 1) := by decide +kernel
theorem dX9_restore_18 : decode cX9_restore 18 = .ok (.ifCond .eq 7, 3) := by decide +kernel
theorem dX9_restore_21 : decode cX9_restore 21 = .ok (.iconst 1, 1) := by decide +kernel
theorem dX9_restore_22 : decode cX9_restore 22 = .ok (.goto 4, 3) := by decide +kernel
theorem dX9_restore_25 : decode cX9_restore 25 = .ok (.iconst 0, 1) := by decide +kernel
theorem dX9_restore_26 : decode cX9_restore 26 = .ok (.invokevirtual 332, 3) := by decide +kernel
theorem dX9_restore_29 : decode cX9_restore 29 = .ok (.ifCond .ne 5, 3) := by decide +kernel
theorem dX9_restore_32 : decode cX9_restore 32 = .ok (.iconst 0, 1) := by decide +kernel
theorem dX9_restore_33 : decode cX9_restore 33 = .ok (.ireturn, 1) := by decide +kernel
theorem dX9_restore_34 : decode cX9_restore 34 = .ok (.aload_n 0, 1) := by decide +kernel
theorem dX9_restore_35 : decode cX9_restore 35 = .ok (.invokevirtual 322, 3) := by decide +kernel
theorem dX9_restore_38 : decode cX9_restore 38 = .ok (.iconst 0, 1) := by decide +kernel
theorem dX9_restore_39 : decode cX9_restore 39 = .ok (.istore_n 2, 1) := by decide +kernel
theorem dX9_restore_40 : decode cX9_restore 40 = .ok (.iload_n 2, 1) := by decide +kernel
theorem dX9_restore_41 : decode cX9_restore 41 = .ok (.bipush 95, 2) := by decide +kernel
theorem dX9_restore_43 : decode cX9_restore 43 = .ok (.if_icmp .ge 26, 3) := by decide +kernel
theorem dX9_restore_46 : decode cX9_restore 46 = .ok (.aload_n 0, 1) := by decide +kernel
theorem dX9_restore_47 : decode cX9_restore 47 = .ok (.getfield 17, 3) := by decide +kernel
theorem dX9_restore_50 : decode cX9_restore 50 = .ok (.iload_n 2, 1) := by decide +kernel
theorem dX9_restore_51 : decode cX9_restore 51 = .ok (.aload_n 0, 1) := by decide +kernel
theorem dX9_restore_52 : decode cX9_restore 52 = .ok (.getfield 71, 3) := by decide +kernel
theorem dX9_restore_55 : decode cX9_restore 55 = .ok (.bipush 95, 2) := by decide +kernel
theorem dX9_restore_57 : decode cX9_restore 57 = .ok (.iload_n 1, 1) := by decide +kernel
theorem dX9_restore_58 : decode cX9_restore 58 = .ok (.imul, 1) := by decide +kernel
theorem dX9_restore_59 : decode cX9_restore 59 = .ok (.iload_n 2, 1) := by decide +kernel
theorem dX9_restore_60 : decode cX9_restore 60 = .ok (.iadd, 1) := by decide +kernel
theorem dX9_restore_61 : decode cX9_restore 61 = .ok (.iaload, 1) := by decide +kernel
theorem dX9_restore_62 : decode cX9_restore 62 = .ok (.iastore, 1) := by decide +kernel
theorem dX9_restore_63 : decode cX9_restore 63 = .ok (.iinc 2 1, 3) := by decide +kernel
theorem dX9_restore_66 : decode cX9_restore 66 = .ok (.goto (-26), 3) := by decide +kernel
theorem dX9_restore_69 : decode cX9_restore 69 = .ok (.aload_n 0, 1) := by decide +kernel
theorem dX9_restore_70 : decode cX9_restore 70 = .ok (.invokevirtual 98, 3) := by decide +kernel
theorem dX9_restore_73 : decode cX9_restore 73 = .ok (.ireturn, 1) := by decide +kernel
theorem dX9_remember_0 : decode cX9_remember 0 = .ok (.aload_n 0, 1) := by decide +kernel
theorem dX9_remember_1 : decode cX9_remember 1 = .ok (.getfield 444, 3) := by decide +kernel
theorem dX9_remember_4 : decode cX9_remember 4 = .ok (.bipush 6, 2) := by decide +kernel
theorem dX9_remember_6 : decode cX9_remember 6 = .ok (.if_icmp .ne 44, 3) := by decide +kernel
theorem dX9_remember_9 : decode cX9_remember 9 = .ok (.bipush 95, 2) := by decide +kernel
theorem dX9_remember_11 : decode cX9_remember 11 = .ok (.istore_n 1, 1) := by decide +kernel
theorem dX9_remember_12 : decode cX9_remember 12 = .ok (.iload_n 1, 1) := by decide +kernel
theorem dX9_remember_13 : decode cX9_remember 13 = .ok (.sipush 570, 3) := by decide +kernel
theorem dX9_remember_16 : decode cX9_remember 16 = .ok (.if_icmp .ge 24, 3) := by decide +kernel
theorem dX9_remember_19 : decode cX9_remember 19 = .ok (.aload_n 0, 1) := by decide +kernel
theorem dX9_remember_20 : decode cX9_remember 20 = .ok (.getfield 77, 3) := by decide +kernel
theorem dX9_remember_23 : decode cX9_remember 23 = .ok (.iload_n 1, 1) := by decide +kernel
theorem dX9_remember_24 : decode cX9_remember 24 = .ok (.bipush 95, 2) := by decide +kernel
theorem dX9_remember_26 : decode cX9_remember 26 = .ok (.isub, 1) := by decide +kernel
theorem dX9_remember_27 : decode cX9_remember 27 = .ok (.aload_n 0, 1) := by decide +kernel
theorem dX9_remember_28 : decode cX9_remember 28 = .ok (.getfield 77, 3) := by decide +kernel
theorem dX9_remember_31 : decode cX9_remember 31 = .ok (.iload_n 1, 1) := by decide +kernel
theorem dX9_remember_32 : decode cX9_remember 32 = .ok (.iaload, 1) := by decide +kernel
theorem dX9_remember_33 : decode cX9_remember 33 = .ok (.iastore, 1) := by decide +kernel
theorem dX9_remember_34 : decode cX9_remember 34 = .ok (.iinc 1 1, 3) := by decide +kernel
theorem dX9_remember_37 : decode cX9_remember 37 = .ok (.goto (-25), 3) := by decide +kernel
theorem dX9_remember_40 : decode cX9_remember 40 = .ok (.aload_n 0, 1) := by decide +kernel
theorem dX9_remember_41 : decode cX9_remember 41 = .ok (.dup, 1) := by decide +kernel
theorem dX9_remember_42 : decode cX9_remember 42 = .ok (.getfield 444, 3) := by decide +kernel
theorem dX9_remember_45 : decode cX9_remember 45 = .ok (.iconst 1, 1) := by decide +kernel
theorem dX9_remember_46 : decode cX9_remember 46 = .ok (.isub, 1) := by decide +kernel
theorem dX9_remember_47 : decode cX9_remember 47 = .ok (.putfield 444, 3) := by decide +kernel
theorem dX9_remember_50 : decode cX9_remember 50 = .ok (.iconst 0, 1) := by decide +kernel
theorem dX9_remember_51 : decode cX9_remember 51 = .ok (.istore_n 1, 1) := by decide +kernel
theorem dX9_remember_52 : decode cX9_remember 52 = .ok (.iload_n 1, 1) := by decide +kernel
theorem dX9_remember_53 : decode cX9_remember 53 = .ok (.bipush 95, 2) := by decide +kernel
theorem dX9_remember_55 : decode cX9_remember 55 = .ok (.if_icmp .ge 29, 3) := by decide +kernel
theorem dX9_remember_58 : decode cX9_remember 58 = .ok (.aload_n 0, 1) := by decide +kernel
theorem dX9_remember_59 : decode cX9_remember 59 = .ok (.getfield 77, 3) := by decide +kernel
theorem dX9_remember_62 : decode cX9_remember 62 = .ok (.bipush 95, 2) := by decide +kernel
theorem dX9_remember_64 : decode cX9_remember 64 = .ok (.aload_n 0, 1) := by decide +kernel
theorem dX9_remember_65 : decode cX9_remember 65 = .ok (.getfield 444, 3) := by decide +kernel
theorem dX9_remember_68 : decode cX9_remember 68 = .ok (.imul, 1) := by decide +kernel
theorem dX9_remember_69 : decode cX9_remember 69 = .ok (.iload_n 1, 1) := by decide +kernel
theorem dX9_remember_70 : decode cX9_remember 70 = .ok (.iadd, 1) := by decide +kernel
theorem dX9_remember_71 : decode cX9_remember 71 = .ok (.aload_n 0, 1) := by decide +kernel
theorem dX9_remember_72 : decode cX9_remember 72 = .ok (.getfield 17, 3) := by decide +kernel
theorem dX9_remember_75 : decode cX9_remember 75 = .ok (.iload_n 1, 1) := by decide +kernel
theorem dX9_remember_76 : decode cX9_remember 76 = .ok (.iaload, 1) := by decide +kernel
theorem dX9_remember_77 : decode cX9_remember 77 = .ok (.iastore, 1) := by decide +kernel
theorem dX9_remember_78 : decode cX9_remember 78 = .ok (.iinc 1 1, 3) := by decide +kernel
theorem dX9_remember_81 : decode cX9_remember 81 = .ok (.goto (-29), 3) := by decide +kernel
theorem dX9_remember_84 : decode cX9_remember 84 = .ok (.aload_n 0, 1) := by decide +kernel
theorem dX9_remember_85 : decode cX9_remember 85 = .ok (.dup, 1) := by decide +kernel
theorem dX9_remember_86 : decode cX9_remember 86 = .ok (.getfield 444, 3) := by decide +kernel
theorem dX9_remember_89 : decode cX9_remember 89 = .ok (.iconst 1, 1) := by decide +kernel
theorem dX9_remember_90 : decode cX9_remember 90 = .ok (.iadd, 1) := by decide +kernel
theorem dX9_remember_91 : decode cX9_remember 91 = .ok (.putfield 444, 3) := by decide +kernel
theorem dX9_remember_94 : decode cX9_remember 94 = .ok (.return_, 1) := by decide +kernel
set_option maxRecDepth 20000 in
set_option maxRecDepth 100000 in
theorem ggX9_undo_X9_passes : GoodIn wsX9_undo wsX9_passes := goodIn_r _ [8, 9, 10, 11, 7, 12, 13, 14, 15, 16, 17, 18, 19, 20, 21, 22, 23, 24, 25, 26, 27, 28, 29, 30, 31, 32, 33, 34, 35, 36, 37, 38, 39, 40, 41, 42, 43, 44, 45, 46, 47, 48, 49, 50, 51, 52, 53, 54] rfl (by decide +kernel)
set_option maxRecDepth 20000 in
theorem gX9_undo_X9_passes : GoodIn wsX9_undo (wsV RX9 193 RX9 yX9_passes wsX9_passes) := goodIn_app (goodIn_of _ (by decide +kernel)) ggX9_undo_X9_passes
theorem dX9_undo_0 : decode cX9_undo 0 = .ok (.aload_n 0, 1) := by decide +kernel
theorem dX9_undo_1 : decode cX9_undo 1 = .ok (.aload_n 0, 1) := by decide +kernel
theorem dX9_undo_2 : decode cX9_undo 2 = .ok (.getfield 444, 3) := by decide +kernel
theorem dX9_undo_5 : decode cX9_undo 5 = .ok (.ifCond .le 7, 3) := by decide +kernel
theorem dX9_undo_8 : decode cX9_undo 8 = .ok (.iconst 1, 1) := by decide +kernel
theorem dX9_undo_9 : decode cX9_undo 9 = .ok (.goto 4, 3) := by decide +kernel
theorem dX9_undo_12 : decode cX9_undo 12 = .ok (.iconst 0, 1) := by decide +kernel
theorem dX9_undo_13 : decode cX9_undo 13 = .ok (.invokevirtual 193, 3) := by decide +kernel
theorem dX9_undo_16 : decode cX9_undo 16 = .ok (.ifCond .ne 5, 3) := by decide +kernel
theorem dX9_undo_19 : decode cX9_undo 19 = .ok (.iconst 0, 1) := by decide +kernel
theorem dX9_undo_20 : decode cX9_undo 20 = .ok (.ireturn, 1) := by decide +kernel
theorem dX9_undo_21 : decode cX9_undo 21 = .ok (.aload_n 0, 1) := by decide +kernel
theorem dX9_undo_22 : decode cX9_undo 22 = .ok (.dup, 1) := by decide +kernel
theorem dX9_undo_23 : decode cX9_undo 23 = .ok (.getfield 444, 3) := by decide +kernel
theorem dX9_undo_26 : decode cX9_undo 26 = .ok (.iconst 1, 1) := by decide +kernel
theorem dX9_undo_27 : decode cX9_undo 27 = .ok (.isub, 1) := by decide +kernel
theorem dX9_undo_28 : decode cX9_undo 28 = .ok (.putfield 444, 3) := by decide +kernel
theorem dX9_undo_31 : decode cX9_undo 31 = .ok (.iconst 0, 1) := by decide +kernel
theorem dX9_undo_32 : decode cX9_undo 32 = .ok (.istore_n 1, 1) := by decide +kernel
theorem dX9_undo_33 : decode cX9_undo 33 = .ok (.iload_n 1, 1) := by decide +kernel
theorem dX9_undo_34 : decode cX9_undo 34 = .ok (.bipush 95, 2) := by decide +kernel
theorem dX9_undo_36 : decode cX9_undo 36 = .ok (.if_icmp .ge 29, 3) := by decide +kernel
theorem dX9_undo_39 : decode cX9_undo 39 = .ok (.aload_n 0, 1) := by decide +kernel
theorem dX9_undo_40 : decode cX9_undo 40 = .ok (.getfield 17, 3) := by decide +kernel
theorem dX9_undo_43 : decode cX9_undo 43 = .ok (.iload_n 1, 1) := by decide +kernel
theorem dX9_undo_44 : decode cX9_undo 44 = .ok (.aload_n 0, 1) := by decide +kernel
theorem dX9_undo_45 : decode cX9_undo 45 = .ok (.getfield 77, 3) := by decide +kernel
theorem dX9_undo_48 : decode cX9_undo 48 = .ok (.bipush 95, 2) := by decide +kernel
theorem dX9_undo_50 : decode cX9_undo 50 = .ok (.aload_n 0, 1) := by decide +kernel
theorem dX9_undo_51 : decode cX9_undo 51 = .ok (.getfield 444, 3) := by decide +kernel
theorem dX9_undo_54 : decode cX9_undo 54 = .ok (.imul, 1) := by decide +kernel
theorem dX9_undo_55 : decode cX9_undo 55 = .ok (.iload_n 1, 1) := by decide +kernel
theorem dX9_undo_56 : decode cX9_undo 56 = .ok (.iadd, 1) := by decide +kernel
theorem dX9_undo_57 : decode cX9_undo 57 = .ok (.iaload, 1) := by decide +kernel
theorem dX9_undo_58 : decode cX9_undo 58 = .ok (.iastore, 1) := by decide +kernel
theorem dX9_undo_59 : decode cX9_undo 59 = .ok (.iinc 1 1, 3) := by decide +kernel
theorem dX9_undo_62 : decode cX9_undo 62 = .ok (.goto (-29), 3) := by decide +kernel
theorem dX9_undo_65 : decode cX9_undo 65 = .ok (.aload_n 0, 1) := by decide +kernel
theorem dX9_undo_66 : decode cX9_undo 66 = .ok (.getfield 444, 3) := by decide +kernel
theorem dX9_undo_69 : decode cX9_undo 69 = .ok (.ireturn, 1) := by decide +kernel
theorem dX9_undoCount_0 : decode cX9_undoCount 0 = .ok (.aload_n 0, 1) := by decide +kernel
theorem dX9_undoCount_1 : decode cX9_undoCount 1 = .ok (.iconst 0, 1) := by decide +kernel
theorem dX9_undoCount_2 : decode cX9_undoCount 2 = .ok (.putfield 3, 3) := by decide +kernel
theorem dX9_undoCount_5 : decode cX9_undoCount 5 = .ok (.aload_n 0, 1) := by decide +kernel
theorem dX9_undoCount_6 : decode cX9_undoCount 6 = .ok (.getfield 444, 3) := by decide +kernel
theorem dX9_undoCount_9 : decode cX9_undoCount 9 = .ok (.ireturn, 1) := by decide +kernel
theorem dX9_write_0 : decode cX9_write 0 = .ok (.aload_n 0, 1) := by decide +kernel
theorem dX9_write_1 : decode cX9_write 1 = .ok (.getfield 80, 3) := by decide +kernel
theorem dX9_write_4 : decode cX9_write 4 = .ok (.aload_n 0, 1) := by decide +kernel
theorem dX9_write_5 : decode cX9_write 5 = .ok (.getfield 447, 3) := by decide +kernel
theorem dX9_write_8 : decode cX9_write 8 = .ok (.iload_n 1, 1) := by decide +kernel
theorem dX9_write_9 : decode cX9_write 9 = .ok (.i2b, 1) := by decide +kernel
theorem dX9_write_10 : decode cX9_write 10 = .ok (.bastore, 1) := by decide +kernel
theorem dX9_write_11 : decode cX9_write 11 = .ok (.aload_n 0, 1) := by decide +kernel
theorem dX9_write_12 : decode cX9_write 12 = .ok (.dup, 1) := by decide +kernel
theorem dX9_write_13 : decode cX9_write 13 = .ok (.getfield 447, 3) := by decide +kernel
theorem dX9_write_16 : decode cX9_write 16 = .ok (.iconst 1, 1) := by decide +kernel
theorem dX9_write_17 : decode cX9_write 17 = .ok (.iadd, 1) := by decide +kernel
theorem dX9_write_18 : decode cX9_write 18 = .ok (.putfield 447, 3) := by decide +kernel
theorem dX9_write_21 : decode cX9_write 21 = .ok (.return_, 1) := by decide +kernel
set_option maxRecDepth 20000 in
set_option maxRecDepth 100000 in
theorem ggX9_writeInt_X9_write : GoodIn wsX9_writeInt wsX9_write := goodIn_r _ [5, 6, 7, 8, 9, 10, 11, 12, 13, 14, 15, 16, 17, 18, 19, 20, 21, 22, 23, 24, 25, 26, 27, 28, 29, 30, 31, 32, 33, 34, 35, 36, 37, 38, 39, 40, 41, 42, 43, 44, 45, 46, 47, 48] rfl (by decide +kernel)
set_option maxRecDepth 20000 in
theorem gX9_writeInt_X9_write : GoodIn wsX9_writeInt (wsV RX9 450 RX9 yX9_write wsX9_write) := goodIn_app (goodIn_of _ (by decide +kernel)) ggX9_writeInt_X9_write
theorem dX9_writeInt_0 : decode cX9_writeInt 0 = .ok (.iconst 1, 1) := by decide +kernel
theorem dX9_writeInt_1 : decode cX9_writeInt 1 = .ok (.istore_n 2, 1) := by decide +kernel
theorem dX9_writeInt_2 : decode cX9_writeInt 2 = .ok (.iload_n 1, 1) := by decide +kernel
theorem dX9_writeInt_3 : decode cX9_writeInt 3 = .ok (.iload_n 2, 1) := by decide +kernel
theorem dX9_writeInt_4 : decode cX9_writeInt 4 = .ok (.idiv, 1) := by decide +kernel
theorem dX9_writeInt_5 : decode cX9_writeInt 5 = .ok (.bipush 10, 2) := by decide +kernel
theorem dX9_writeInt_7 : decode cX9_writeInt 7 = .ok (.if_icmp .lt 11, 3) := by decide +kernel
theorem dX9_writeInt_10 : decode cX9_writeInt 10 = .ok (.iload_n 2, 1) := by decide +kernel
theorem dX9_writeInt_11 : decode cX9_writeInt 11 = .ok (.bipush 10, 2) := by decide +kernel
theorem dX9_writeInt_13 : decode cX9_writeInt 13 = .ok (.imul, 1) := by decide +kernel
theorem dX9_writeInt_14 : decode cX9_writeInt 14 = .ok (.istore_n 2, 1) := by decide +kernel
theorem dX9_writeInt_15 : decode cX9_writeInt 15 = .ok (.goto (-13), 3) := by decide +kernel
theorem dX9_writeInt_18 : decode cX9_writeInt 18 = .ok (.iload_n 2, 1) := by decide +kernel
theorem dX9_writeInt_19 : decode cX9_writeInt 19 = .ok (.istore_n 3, 1) := by decide +kernel
theorem dX9_writeInt_20 : decode cX9_writeInt 20 = .ok (.iload_n 3, 1) := by decide +kernel
theorem dX9_writeInt_21 : decode cX9_writeInt 21 = .ok (.ifCond .le 24, 3) := by decide +kernel
theorem dX9_writeInt_24 : decode cX9_writeInt 24 = .ok (.aload_n 0, 1) := by decide +kernel
theorem dX9_writeInt_25 : decode cX9_writeInt 25 = .ok (.bipush 48, 2) := by decide +kernel
theorem dX9_writeInt_27 : decode cX9_writeInt 27 = .ok (.iload_n 1, 1) := by decide +kernel
theorem dX9_writeInt_28 : decode cX9_writeInt 28 = .ok (.iload_n 3, 1) := by decide +kernel
theorem dX9_writeInt_29 : decode cX9_writeInt 29 = .ok (.idiv, 1) := by decide +kernel
theorem dX9_writeInt_30 : decode cX9_writeInt 30 = .ok (.bipush 10, 2) := by decide +kernel
theorem dX9_writeInt_32 : decode cX9_writeInt 32 = .ok (.irem, 1) := by decide +kernel
theorem dX9_writeInt_33 : decode cX9_writeInt 33 = .ok (.iadd, 1) := by decide +kernel
theorem dX9_writeInt_34 : decode cX9_writeInt 34 = .ok (.invokevirtual 450, 3) := by decide +kernel
theorem dX9_writeInt_37 : decode cX9_writeInt 37 = .ok (.iload_n 3, 1) := by decide +kernel
theorem dX9_writeInt_38 : decode cX9_writeInt 38 = .ok (.bipush 10, 2) := by decide +kernel
theorem dX9_writeInt_40 : decode cX9_writeInt 40 = .ok (.idiv, 1) := by decide +kernel
theorem dX9_writeInt_41 : decode cX9_writeInt 41 = .ok (.istore_n 3, 1) := by decide +kernel
theorem dX9_writeInt_42 : decode cX9_writeInt 42 = .ok (.goto (-22), 3) := by decide +kernel
theorem dX9_writeInt_45 : decode cX9_writeInt 45 = .ok (.return_, 1) := by decide +kernel
set_option maxRecDepth 20000 in
set_option maxRecDepth 100000 in
theorem ggX9_writeLayers_X9_layers : GoodIn wsX9_writeLayers wsX9_layers := goodIn_r _ [8, 9, 23, 24, 25, 26, 27, 28, 29, 30, 31, 32, 33, 34, 35, 36, 37, 38, 39, 40, 41, 42, 43, 44, 45, 46, 47, 48, 49, 50, 51, 52, 53, 54, 55, 56, 57, 58, 59, 60, 61, 62, 63] rfl (by decide +kernel)
set_option maxRecDepth 20000 in
theorem gX9_writeLayers_X9_layers : GoodIn wsX9_writeLayers (wsV RX9 90 RX9 yX9_layers wsX9_layers) := goodIn_app (goodIn_of _ (by decide +kernel)) ggX9_writeLayers_X9_layers
set_option maxRecDepth 20000 in
set_option maxRecDepth 100000 in
theorem ggX9_writeLayers_X9_write : GoodIn wsX9_writeLayers wsX9_write := goodIn_r _ [13, 14, 2, 23, 24, 25, 26, 27, 28, 29, 30, 31, 32, 33, 34, 35, 36, 37, 38, 39, 40, 41, 42, 43, 44, 45, 46, 47, 48, 49, 50, 51, 52, 53, 54, 55, 56, 57, 58, 59, 60, 61, 62, 63] rfl (by decide +kernel)
set_option maxRecDepth 20000 in
theorem gX9_writeLayers_X9_write : GoodIn wsX9_writeLayers (wsV RX9 450 RX9 yX9_write wsX9_write) := goodIn_app (goodIn_of _ (by decide +kernel)) ggX9_writeLayers_X9_write
set_option maxRecDepth 20000 in
set_option maxRecDepth 100000 in
theorem ggX9_writeLayers_X9_ofLayer : GoodIn wsX9_writeLayers wsX9_ofLayer := goodIn_r _ [18, 9, 23, 24, 25, 26, 27, 28, 29, 30, 31, 32, 33, 34, 35, 36, 37, 38, 39, 40, 41, 42, 43, 44, 45, 46, 47, 48, 49, 50, 51, 52, 53, 54, 55, 56, 57, 58, 59, 60, 61, 62, 63] rfl (by decide +kernel)
set_option maxRecDepth 20000 in
theorem gX9_writeLayers_X9_ofLayer : GoodIn wsX9_writeLayers (wsV RX9 105 RX9 yX9_ofLayer wsX9_ofLayer) := goodIn_app (goodIn_of _ (by decide +kernel)) ggX9_writeLayers_X9_ofLayer
set_option maxRecDepth 20000 in
set_option maxRecDepth 100000 in
theorem ggX9_writeLayers_X9_writeInt : GoodIn wsX9_writeLayers wsX9_writeInt := goodIn_r _ [22, 10, 11, 12, 7, 13, 14, 2, 23, 24, 25, 26, 27, 28, 29, 30, 31, 32, 33, 34, 35, 36, 37, 38, 39, 40, 41, 42, 43, 44, 45, 46, 47, 48, 49, 50, 51, 52, 53, 54, 55, 56, 57, 58, 59, 60, 61, 62, 63] rfl (by decide +kernel)
set_option maxRecDepth 20000 in
theorem gX9_writeLayers_X9_writeInt : GoodIn wsX9_writeLayers (wsV RX9 453 RX9 yX9_writeInt wsX9_writeInt) := goodIn_app (goodIn_of _ (by decide +kernel)) ggX9_writeLayers_X9_writeInt
theorem dX9_writeLayers_0 : decode cX9_writeLayers 0 = .ok (.aload_n 0, 1) := by decide +kernel
theorem dX9_writeLayers_1 : decode cX9_writeLayers 1 = .ok (.iconst 0, 1) := by decide +kernel
theorem dX9_writeLayers_2 : decode cX9_writeLayers 2 = .ok (.putfield 3, 3) := by decide +kernel
theorem dX9_writeLayers_5 : decode cX9_writeLayers 5 = .ok (.aload_n 0, 1) := by decide +kernel
theorem dX9_writeLayers_6 : decode cX9_writeLayers 6 = .ok (.iconst 0, 1) := by decide +kernel
theorem dX9_writeLayers_7 : decode cX9_writeLayers 7 = .ok (.putfield 447, 3) := by decide +kernel
theorem dX9_writeLayers_10 : decode cX9_writeLayers 10 = .ok (.iconst 0, 1) := by decide +kernel
theorem dX9_writeLayers_11 : decode cX9_writeLayers 11 = .ok (.istore_n 1, 1) := by decide +kernel
theorem dX9_writeLayers_12 : decode cX9_writeLayers 12 = .ok (.iload_n 1, 1) := by decide +kernel
theorem dX9_writeLayers_13 : decode cX9_writeLayers 13 = .ok (.aload_n 0, 1) := by decide +kernel
theorem dX9_writeLayers_14 : decode cX9_writeLayers 14 = .ok (.invokevirtual 90, 3) := by decide +kernel
theorem dX9_writeLayers_17 : decode cX9_writeLayers 17 = .ok (.if_icmp .ge 45, 3) := by decide +kernel
theorem dX9_writeLayers_20 : decode cX9_writeLayers 20 = .ok (.iload_n 1, 1) := by decide +kernel
theorem dX9_writeLayers_21 : decode cX9_writeLayers 21 = .ok (.ifCond .le 9, 3) := by decide +kernel
theorem dX9_writeLayers_24 : decode cX9_writeLayers 24 = .ok (.aload_n 0, 1) := by decide +kernel
theorem dX9_writeLayers_25 : decode cX9_writeLayers 25 = .ok (.bipush 47, 2) := by decide +kernel
theorem dX9_writeLayers_27 : decode cX9_writeLayers 27 = .ok (.invokevirtual 450, 3) := by decide +kernel
theorem dX9_writeLayers_30 : decode cX9_writeLayers 30 = .ok (.aload_n 0, 1) := by decide +kernel
theorem dX9_writeLayers_31 : decode cX9_writeLayers 31 = .ok (.aload_n 0, 1) := by decide +kernel
theorem dX9_writeLayers_32 : decode cX9_writeLayers 32 = .ok (.iload_n 1, 1) := by decide +kernel
theorem dX9_writeLayers_33 : decode cX9_writeLayers 33 = .ok (.iconst 0, 1) := by decide +kernel
theorem dX9_writeLayers_34 : decode cX9_writeLayers 34 = .ok (.invokevirtual 105, 3) := by decide +kernel
theorem dX9_writeLayers_37 : decode cX9_writeLayers 37 = .ok (.invokevirtual 453, 3) := by decide +kernel
theorem dX9_writeLayers_40 : decode cX9_writeLayers 40 = .ok (.aload_n 0, 1) := by decide +kernel
theorem dX9_writeLayers_41 : decode cX9_writeLayers 41 = .ok (.bipush 120, 2) := by decide +kernel
theorem dX9_writeLayers_43 : decode cX9_writeLayers 43 = .ok (.invokevirtual 450, 3) := by decide +kernel
theorem dX9_writeLayers_46 : decode cX9_writeLayers 46 = .ok (.aload_n 0, 1) := by decide +kernel
theorem dX9_writeLayers_47 : decode cX9_writeLayers 47 = .ok (.aload_n 0, 1) := by decide +kernel
theorem dX9_writeLayers_48 : decode cX9_writeLayers 48 = .ok (.iload_n 1, 1) := by decide +kernel
theorem dX9_writeLayers_49 : decode cX9_writeLayers 49 = .ok (.iconst 1, 1) := by decide +kernel
theorem dX9_writeLayers_50 : decode cX9_writeLayers 50 = .ok (.invokevirtual 105, 3) := by decide +kernel
theorem dX9_writeLayers_53 : decode cX9_writeLayers 53 = .ok (.invokevirtual 453, 3) := by decide +kernel
theorem dX9_writeLayers_56 : decode cX9_writeLayers 56 = .ok (.iinc 1 1, 3) := by decide +kernel
theorem dX9_writeLayers_59 : decode cX9_writeLayers 59 = .ok (.goto (-47), 3) := by decide +kernel
theorem dX9_writeLayers_62 : decode cX9_writeLayers 62 = .ok (.aload_n 0, 1) := by decide +kernel
theorem dX9_writeLayers_63 : decode cX9_writeLayers 63 = .ok (.aload_n 0, 1) := by decide +kernel
theorem dX9_writeLayers_64 : decode cX9_writeLayers 64 = .ok (.getfield 17, 3) := by decide +kernel
theorem dX9_writeLayers_67 : decode cX9_writeLayers 67 = .ok (.iconst 2, 1) := by decide +kernel
theorem dX9_writeLayers_68 : decode cX9_writeLayers 68 = .ok (.iaload, 1) := by decide +kernel
theorem dX9_writeLayers_69 : decode cX9_writeLayers 69 = .ok (.iconst 1, 1) := by decide +kernel
theorem dX9_writeLayers_70 : decode cX9_writeLayers 70 = .ok (.if_icmp .ne 8, 3) := by decide +kernel
theorem dX9_writeLayers_73 : decode cX9_writeLayers 73 = .ok (.bipush 35, 2) := by decide +kernel
theorem dX9_writeLayers_75 : decode cX9_writeLayers 75 = .ok (.goto 5, 3) := by decide +kernel
theorem dX9_writeLayers_78 : decode cX9_writeLayers 78 = .ok (.bipush 124, 2) := by decide +kernel
theorem dX9_writeLayers_80 : decode cX9_writeLayers 80 = .ok (.invokevirtual 450, 3) := by decide +kernel
theorem dX9_writeLayers_83 : decode cX9_writeLayers 83 = .ok (.aload_n 0, 1) := by decide +kernel
theorem dX9_writeLayers_84 : decode cX9_writeLayers 84 = .ok (.aload_n 0, 1) := by decide +kernel
theorem dX9_writeLayers_85 : decode cX9_writeLayers 85 = .ok (.getfield 17, 3) := by decide +kernel
theorem dX9_writeLayers_88 : decode cX9_writeLayers 88 = .ok (.iconst 3, 1) := by decide +kernel
theorem dX9_writeLayers_89 : decode cX9_writeLayers 89 = .ok (.iaload, 1) := by decide +kernel
theorem dX9_writeLayers_90 : decode cX9_writeLayers 90 = .ok (.invokevirtual 453, 3) := by decide +kernel
theorem dX9_writeLayers_93 : decode cX9_writeLayers 93 = .ok (.aload_n 0, 1) := by decide +kernel
theorem dX9_writeLayers_94 : decode cX9_writeLayers 94 = .ok (.getfield 447, 3) := by decide +kernel
theorem dX9_writeLayers_97 : decode cX9_writeLayers 97 = .ok (.ireturn, 1) := by decide +kernel
set_option maxRecDepth 20000 in
set_option maxRecDepth 100000 in
theorem ggX9_writePath_X9_isShot : GoodIn wsX9_writePath wsX9_isShot := goodIn_r _ [10, 11, 12, 13, 9, 14, 15, 16, 17, 18, 154, 155, 156, 157, 158, 159, 160, 161, 162, 163, 164, 165, 166, 167, 168, 169, 170, 171, 172, 173, 174, 175, 176, 177, 178, 179, 180, 181, 182, 183, 184, 185, 186, 187, 188, 189, 190, 191, 192, 193, 194] rfl (by decide +kernel)
set_option maxRecDepth 20000 in
theorem gX9_writePath_X9_isShot : GoodIn wsX9_writePath (wsV RX9 336 RX9 yX9_isShot wsX9_isShot) := goodIn_app (goodIn_of _ (by decide +kernel)) ggX9_writePath_X9_isShot
set_option maxRecDepth 20000 in
set_option maxRecDepth 100000 in
theorem ggX9_writePath_X9_passes : GoodIn wsX9_writePath wsX9_passes := goodIn_r _ [22, 23, 24, 25, 9, 26, 27, 154, 155, 156, 157, 158, 159, 160, 161, 162, 163, 164, 165, 166, 167, 168, 169, 170, 171, 172, 173, 174, 175, 176, 177, 178, 179, 180, 181, 182, 183, 184, 185, 186, 187, 188, 189, 190, 191, 192, 193, 194] rfl (by decide +kernel)
set_option maxRecDepth 20000 in
theorem gX9_writePath_X9_passes : GoodIn wsX9_writePath (wsV RX9 193 RX9 yX9_passes wsX9_passes) := goodIn_app (goodIn_of _ (by decide +kernel)) ggX9_writePath_X9_passes
set_option maxRecDepth 20000 in
set_option maxRecDepth 100000 in
theorem ggX9_writePath_X9_followShot : GoodIn wsX9_writePath wsX9_followShot := goodIn_r _ [31, 32, 33, 34, 9, 35, 15, 36, 37, 38, 39, 2, 40, 41, 42, 5, 43, 44, 45, 46, 47, 48, 49, 50, 51, 52, 53, 54, 16, 17, 18, 55, 56, 57, 58, 59, 60, 61, 62, 63, 64, 65, 66, 4, 3, 67, 68, 69, 70, 71, 72, 73, 74, 75, 76, 77, 78, 79, 80, 81, 82, 83, 84, 85, 86, 87, 88, 89, 90, 91, 92, 93, 94, 95, 96, 97, 98, 99, 100, 101, 102, 103, 154, 155, 156, 157, 158, 159, 160, 161, 162, 163, 164, 165, 166, 167, 168, 169, 170, 171, 172, 173, 174, 175, 176, 177, 178, 179, 180, 181, 182, 183, 184, 185, 186, 187, 188, 189, 190, 191, 192, 193, 194] rfl (by decide +kernel)
set_option maxRecDepth 20000 in
theorem gX9_writePath_X9_followShot : GoodIn wsX9_writePath (wsV RX9 185 RX9 yX9_followShot wsX9_followShot) := goodIn_app (goodIn_of _ (by decide +kernel)) ggX9_writePath_X9_followShot
set_option maxRecDepth 20000 in
set_option maxRecDepth 100000 in
theorem ggX9_writePath_X9_write : GoodIn wsX9_writePath wsX9_write := goodIn_r _ [107, 108, 1, 154, 155, 156, 157, 158, 159, 160, 161, 162, 163, 164, 165, 166, 167, 168, 169, 170, 171, 172, 173, 174, 175, 176, 177, 178, 179, 180, 181, 182, 183, 184, 185, 186, 187, 188, 189, 190, 191, 192, 193, 194] rfl (by decide +kernel)
set_option maxRecDepth 20000 in
theorem gX9_writePath_X9_write : GoodIn wsX9_writePath (wsV RX9 450 RX9 yX9_write wsX9_write) := goodIn_app (goodIn_of _ (by decide +kernel)) ggX9_writePath_X9_write
set_option maxRecDepth 20000 in
set_option maxRecDepth 100000 in
theorem ggX9_writePath_X9_writeInt : GoodIn wsX9_writePath wsX9_writeInt := goodIn_r _ [112, 104, 105, 106, 9, 107, 108, 1, 154, 155, 156, 157, 158, 159, 160, 161, 162, 163, 164, 165, 166, 167, 168, 169, 170, 171, 172, 173, 174, 175, 176, 177, 178, 179, 180, 181, 182, 183, 184, 185, 186, 187, 188, 189, 190, 191, 192, 193, 194] rfl (by decide +kernel)
set_option maxRecDepth 20000 in
theorem gX9_writePath_X9_writeInt : GoodIn wsX9_writePath (wsV RX9 453 RX9 yX9_writeInt wsX9_writeInt) := goodIn_app (goodIn_of _ (by decide +kernel)) ggX9_writePath_X9_writeInt
set_option maxRecDepth 20000 in
set_option maxRecDepth 100000 in
theorem ggX9_writePath_J0_charAt_5068e : GoodIn wsX9_writePath wsJ0_charAt_5068e := goodIn_r _ [117, 118, 119, 120, 121, 116, 122, 123, 124, 125, 126, 127, 128, 129, 130, 131, 132, 133, 134, 135, 136, 137, 138, 139, 140, 141, 142, 143, 144, 145, 146, 147, 148, 149, 150, 151, 152, 153] rfl (by decide +kernel)
set_option maxRecDepth 20000 in
theorem gX9_writePath_J0_charAt_5068e : GoodIn wsX9_writePath (wsV RX9 244 RJ0 yJ0_charAt_5068e wsJ0_charAt_5068e) := goodIn_app (goodIn_of _ (by decide +kernel)) ggX9_writePath_J0_charAt_5068e
theorem dX9_writePath_0 : decode cX9_writePath 0 = .ok (.aload_n 0, 1) := by decide +kernel
theorem dX9_writePath_1 : decode cX9_writePath 1 = .ok (.aload_n 0, 1) := by decide +kernel
theorem dX9_writePath_2 : decode cX9_writePath 2 = .ok (.iload_n 1, 1) := by decide +kernel
theorem dX9_writePath_3 : decode cX9_writePath 3 = .ok (.invokevirtual 336, 3) := by decide +kernel
theorem dX9_writePath_6 : decode cX9_writePath 6 = .ok (.invokevirtual 193, 3) := by decide +kernel
theorem dX9_writePath_9 : decode cX9_writePath 9 = .ok (.ifCond .ne 5, 3) := by decide +kernel
theorem dX9_writePath_12 : decode cX9_writePath 12 = .ok (.iconst 0, 1) := by decide +kernel
theorem dX9_writePath_13 : decode cX9_writePath 13 = .ok (.ireturn, 1) := by decide +kernel
theorem dX9_writePath_14 : decode cX9_writePath 14 = .ok (.aload_n 0, 1) := by decide +kernel
theorem dX9_writePath_15 : decode cX9_writePath 15 = .ok (.iload_n 1, 1) := by decide +kernel
theorem dX9_writePath_16 : decode cX9_writePath 16 = .ok (.invokevirtual 185, 3) := by decide +kernel
theorem dX9_writePath_19 : decode cX9_writePath 19 = .ok (.aload_n 0, 1) := by decide +kernel
theorem dX9_writePath_20 : decode cX9_writePath 20 = .ok (.iconst 0, 1) := by decide +kernel
theorem dX9_writePath_21 : decode cX9_writePath 21 = .ok (.putfield 447, 3) := by decide +kernel
theorem dX9_writePath_24 : decode cX9_writePath 24 = .ok (.iconst 0, 1) := by decide +kernel
theorem dX9_writePath_25 : decode cX9_writePath 25 = .ok (.istore_n 2, 1) := by decide +kernel
theorem dX9_writePath_26 : decode cX9_writePath 26 = .ok (.iload_n 2, 1) := by decide +kernel
theorem dX9_writePath_27 : decode cX9_writePath 27 = .ok (.aload_n 0, 1) := by decide +kernel
theorem dX9_writePath_28 : decode cX9_writePath 28 = .ok (.getfield 131, 3) := by decide +kernel
theorem dX9_writePath_31 : decode cX9_writePath 31 = .ok (.if_icmp .ge 39, 3) := by decide +kernel
theorem dX9_writePath_34 : decode cX9_writePath 34 = .ok (.aload_n 0, 1) := by decide +kernel
theorem dX9_writePath_35 : decode cX9_writePath 35 = .ok (.aload_n 0, 1) := by decide +kernel
theorem dX9_writePath_36 : decode cX9_writePath 36 = .ok (.getfield 30, 3) := by decide +kernel
theorem dX9_writePath_39 : decode cX9_writePath 39 = .ok (.iload_n 2, 1) := by decide +kernel
theorem dX9_writePath_40 : decode cX9_writePath 40 = .ok (.baload, 1) := by decide +kernel
theorem dX9_writePath_41 : decode cX9_writePath 41 = .ok (.ifCond .eq 8, 3) := by decide +kernel
theorem dX9_writePath_44 : decode cX9_writePath 44 = .ok (.bipush 118, 2) := by decide +kernel
theorem dX9_writePath_46 : decode cX9_writePath 46 = .ok (.goto 5, 3) := by decide +kernel
theorem dX9_writePath_49 : decode cX9_writePath 49 = .ok (.bipush 94, 2) := by decide +kernel
theorem dX9_writePath_51 : decode cX9_writePath 51 = .ok (.invokevirtual 450, 3) := by decide +kernel
theorem dX9_writePath_54 : decode cX9_writePath 54 = .ok (.aload_n 0, 1) := by decide +kernel
theorem dX9_writePath_55 : decode cX9_writePath 55 = .ok (.aload_n 0, 1) := by decide +kernel
theorem dX9_writePath_56 : decode cX9_writePath 56 = .ok (.getfield 27, 3) := by decide +kernel
theorem dX9_writePath_59 : decode cX9_writePath 59 = .ok (.iload_n 2, 1) := by decide +kernel
theorem dX9_writePath_60 : decode cX9_writePath 60 = .ok (.iaload, 1) := by decide +kernel
theorem dX9_writePath_61 : decode cX9_writePath 61 = .ok (.invokevirtual 453, 3) := by decide +kernel
theorem dX9_writePath_64 : decode cX9_writePath 64 = .ok (.iinc 2 1, 3) := by decide +kernel
theorem dX9_writePath_67 : decode cX9_writePath 67 = .ok (.goto (-41), 3) := by decide +kernel
theorem dX9_writePath_70 : decode cX9_writePath 70 = .ok (.aload_n 0, 1) := by decide +kernel
theorem dX9_writePath_71 : decode cX9_writePath 71 = .ok (.ldc_w 456, 3) := by decide +kernel
theorem dX9_writePath_74 : decode cX9_writePath 74 = .ok (.aload_n 0, 1) := by decide +kernel
theorem dX9_writePath_75 : decode cX9_writePath 75 = .ok (.getfield 156, 3) := by decide +kernel
theorem dX9_writePath_78 : decode cX9_writePath 78 = .ok (.invokevirtual 244, 3) := by decide +kernel
theorem dX9_writePath_81 : decode cX9_writePath 81 = .ok (.invokevirtual 450, 3) := by decide +kernel
theorem dX9_writePath_84 : decode cX9_writePath 84 = .ok (.aload_n 0, 1) := by decide +kernel
theorem dX9_writePath_85 : decode cX9_writePath 85 = .ok (.getfield 447, 3) := by decide +kernel
theorem dX9_writePath_88 : decode cX9_writePath 88 = .ok (.ireturn, 1) := by decide +kernel
set_option maxRecDepth 20000 in
set_option maxRecDepth 100000 in
theorem ggX9_outputByte_X9_in : GoodIn wsX9_outputByte wsX9_in := goodIn_r _ [6] rfl (by decide +kernel)
set_option maxRecDepth 20000 in
theorem gX9_outputByte_X9_in : GoodIn wsX9_outputByte (va_wsS RX9 94 yX9_in wsX9_in) := goodIn_app (goodIn_of _ (by decide +kernel)) ggX9_outputByte_X9_in
set_option maxRecDepth 20000 in
set_option maxRecDepth 100000 in
theorem ggX9_outputByte_X9_passes : GoodIn wsX9_outputByte wsX9_passes := goodIn_r _ [10, 11, 12, 13, 5, 14, 15, 16, 17, 18, 19, 20, 21, 22, 23, 24, 25, 26, 27, 28, 29, 30, 31, 32, 33, 34, 35, 36, 37, 38, 39, 40, 41, 42, 43, 44, 45, 46, 47, 48, 49, 50, 51, 52, 53, 54, 55, 56] rfl (by decide +kernel)
set_option maxRecDepth 20000 in
theorem gX9_outputByte_X9_passes : GoodIn wsX9_outputByte (wsV RX9 193 RX9 yX9_passes wsX9_passes) := goodIn_app (goodIn_of _ (by decide +kernel)) ggX9_outputByte_X9_passes
theorem dX9_outputByte_0 : decode cX9_outputByte 0 = .ok (.aload_n 0, 1) := by decide +kernel
theorem dX9_outputByte_1 : decode cX9_outputByte 1 = .ok (.iload_n 1, 1) := by decide +kernel
theorem dX9_outputByte_2 : decode cX9_outputByte 2 = .ok (.i2l, 1) := by decide +kernel
theorem dX9_outputByte_3 : decode cX9_outputByte 3 = .ok (.lconst 0, 1) := by decide +kernel
theorem dX9_outputByte_4 : decode cX9_outputByte 4 = .ok (.aload_n 0, 1) := by decide +kernel
theorem dX9_outputByte_5 : decode cX9_outputByte 5 = .ok (.getfield 447, 3) := by decide +kernel
theorem dX9_outputByte_8 : decode cX9_outputByte 8 = .ok (.iconst 1, 1) := by decide +kernel
theorem dX9_outputByte_9 : decode cX9_outputByte 9 = .ok (.isub, 1) := by decide +kernel
theorem dX9_outputByte_10 : decode cX9_outputByte 10 = .ok (.i2l, 1) := by decide +kernel
theorem dX9_outputByte_11 : decode cX9_outputByte 11 = .ok (.invokestatic 94, 3) := by decide +kernel
theorem dX9_outputByte_14 : decode cX9_outputByte 14 = .ok (.invokevirtual 193, 3) := by decide +kernel
theorem dX9_outputByte_17 : decode cX9_outputByte 17 = .ok (.ifCond .eq 12, 3) := by decide +kernel
theorem dX9_outputByte_20 : decode cX9_outputByte 20 = .ok (.aload_n 0, 1) := by decide +kernel
theorem dX9_outputByte_21 : decode cX9_outputByte 21 = .ok (.getfield 80, 3) := by decide +kernel
theorem dX9_outputByte_24 : decode cX9_outputByte 24 = .ok (.iload_n 1, 1) := by decide +kernel
theorem dX9_outputByte_25 : decode cX9_outputByte 25 = .ok (.baload, 1) := by decide +kernel
theorem dX9_outputByte_26 : decode cX9_outputByte 26 = .ok (.goto 4, 3) := by decide +kernel
theorem dX9_outputByte_29 : decode cX9_outputByte 29 = .ok (.iconst 0, 1) := by decide +kernel
theorem dX9_outputByte_30 : decode cX9_outputByte 30 = .ok (.ireturn, 1) := by decide +kernel

