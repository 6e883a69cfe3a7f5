theorem dX0_init_0 : decode cX0_init 0 = .ok (.aload_n 0, 1) := by decide +kernel
theorem dX0_init_1 : decode cX0_init 1 = .ok (.invokespecial 3, 3) := by decide +kernel
theorem dX0_init_4 : decode cX0_init 4 = .ok (.aload_n 0, 1) := by decide +kernel
theorem dX0_init_5 : decode cX0_init 5 = .ok (.sipush 400, 3) := by decide +kernel
theorem dX0_init_8 : decode cX0_init 8 = .ok (.newarray .byte, 2) := by decide +kernel
theorem dX0_init_10 : decode cX0_init 10 = .ok (.putfield 9, 3) := by decide +kernel
theorem dX0_init_13 : decode cX0_init 13 = .ok (.aload_n 0, 1) := by decide +kernel
theorem dX0_init_14 : decode cX0_init 14 = .ok (.iconst 0, 1) := by decide +kernel
theorem dX0_init_15 : decode cX0_init 15 = .ok (.putfield 15, 3) := by decide +kernel
theorem dX0_init_18 : decode cX0_init 18 = .ok (.return_, 1) := by decide +kernel
theorem dX0_get_0 : decode cX0_get 0 = .ok (.iload_n 1, 1) := by decide +kernel
theorem dX0_get_1 : decode cX0_get 1 = .ok (.ifCond .lt 33, 3) := by decide +kernel
theorem dX0_get_4 : decode cX0_get 4 = .ok (.iload_n 1, 1) := by decide +kernel
theorem dX0_get_5 : decode cX0_get 5 = .ok (.aload_n 0, 1) := by decide +kernel
theorem dX0_get_6 : decode cX0_get 6 = .ok (.getfield 15, 3) := by decide +kernel
theorem dX0_get_9 : decode cX0_get 9 = .ok (.if_icmp .ge 25, 3) := by decide +kernel
theorem dX0_get_12 : decode cX0_get 12 = .ok (.iload_n 1, 1) := by decide +kernel
theorem dX0_get_13 : decode cX0_get 13 = .ok (.aload_n 0, 1) := by decide +kernel
theorem dX0_get_14 : decode cX0_get 14 = .ok (.getfield 9, 3) := by decide +kernel
theorem dX0_get_17 : decode cX0_get 17 = .ok (.arraylength, 1) := by decide +kernel
theorem dX0_get_18 : decode cX0_get 18 = .ok (.if_icmp .ge 16, 3) := by decide +kernel
theorem dX0_get_21 : decode cX0_get 21 = .ok (.aload_n 0, 1) := by decide +kernel
theorem dX0_get_22 : decode cX0_get 22 = .ok (.getfield 9, 3) := by decide +kernel
theorem dX0_get_25 : decode cX0_get 25 = .ok (.iload_n 1, 1) := by decide +kernel
theorem dX0_get_26 : decode cX0_get 26 = .ok (.baload, 1) := by decide +kernel
theorem dX0_get_27 : decode cX0_get 27 = .ok (.sipush 255, 3) := by decide +kernel
theorem dX0_get_30 : decode cX0_get 30 = .ok (.iand, 1) := by decide +kernel
theorem dX0_get_31 : decode cX0_get 31 = .ok (.goto 4, 3) := by decide +kernel
theorem dX0_get_34 : decode cX0_get 34 = .ok (.iconst (-1), 1) := by decide +kernel
theorem dX0_get_35 : decode cX0_get 35 = .ok (.ireturn, 1) := by decide +kernel
theorem dX0_add_0 : decode cX0_add 0 = .ok (.aload_n 0, 1) := by decide +kernel
theorem dX0_add_1 : decode cX0_add 1 = .ok (.getfield 15, 3) := by decide +kernel
theorem dX0_add_4 : decode cX0_add 4 = .ok (.ifCond .lt 36, 3) := by decide +kernel
theorem dX0_add_7 : decode cX0_add 7 = .ok (.aload_n 0, 1) := by decide +kernel
theorem dX0_add_8 : decode cX0_add 8 = .ok (.getfield 15, 3) := by decide +kernel
theorem dX0_add_11 : decode cX0_add 11 = .ok (.aload_n 0, 1) := by decide +kernel
theorem dX0_add_12 : decode cX0_add 12 = .ok (.getfield 9, 3) := by decide +kernel
theorem dX0_add_15 : decode cX0_add 15 = .ok (.arraylength, 1) := by decide +kernel
theorem dX0_add_16 : decode cX0_add 16 = .ok (.if_icmp .ge 24, 3) := by decide +kernel
theorem dX0_add_19 : decode cX0_add 19 = .ok (.aload_n 0, 1) := by decide +kernel
theorem dX0_add_20 : decode cX0_add 20 = .ok (.getfield 9, 3) := by decide +kernel
theorem dX0_add_23 : decode cX0_add 23 = .ok (.aload_n 0, 1) := by decide +kernel
theorem dX0_add_24 : decode cX0_add 24 = .ok (.getfield 15, 3) := by decide +kernel
theorem dX0_add_27 : decode cX0_add 27 = .ok (.iload_n 1, 1) := by decide +kernel
theorem dX0_add_28 : decode cX0_add 28 = .ok (.i2b, 1) := by decide +kernel
theorem dX0_add_29 : decode cX0_add 29 = .ok (.bastore, 1) := by decide +kernel
theorem dX0_add_30 : decode cX0_add 30 = .ok (.aload_n 0, 1) := by decide +kernel
theorem dX0_add_31 : decode cX0_add 31 = .ok (.dup, 1) := by decide +kernel
theorem dX0_add_32 : decode cX0_add 32 = .ok (.getfield 15, 3) := by decide +kernel
theorem dX0_add_35 : decode cX0_add 35 = .ok (.iconst 1, 1) := by decide +kernel
theorem dX0_add_36 : decode cX0_add 36 = .ok (.iadd, 1) := by decide +kernel
theorem dX0_add_37 : decode cX0_add 37 = .ok (.putfield 15, 3) := by decide +kernel
theorem dX0_add_40 : decode cX0_add 40 = .ok (.return_, 1) := by decide +kernel
set_option maxRecDepth 20000 in
theorem ggX0_addFour_X0_add : GoodIn wsX0_addFour wsX0_add := goodIn_r _ [5, 6, 7, 8, 9] (by decide +kernel) (by decide +kernel)
set_option maxRecDepth 20000 in
theorem gX0_addFour_X0_add : GoodIn wsX0_addFour (wsV RX0 19 RX0 yX0_add wsX0_add) := goodIn_app (goodIn_of _ (by decide +kernel)) ggX0_addFour_X0_add
theorem dX0_addFour_0 : decode cX0_addFour 0 = .ok (.bipush 24, 2) := by decide +kernel
theorem dX0_addFour_2 : decode cX0_addFour 2 = .ok (.istore_n 2, 1) := by decide +kernel
theorem dX0_addFour_3 : decode cX0_addFour 3 = .ok (.iload_n 2, 1) := by decide +kernel
theorem dX0_addFour_4 : decode cX0_addFour 4 = .ok (.ifCond .lt 16, 3) := by decide +kernel
theorem dX0_addFour_7 : decode cX0_addFour 7 = .ok (.aload_n 0, 1) := by decide +kernel
theorem dX0_addFour_8 : decode cX0_addFour 8 = .ok (.iload_n 1, 1) := by decide +kernel
theorem dX0_addFour_9 : decode cX0_addFour 9 = .ok (.iload_n 2, 1) := by decide +kernel
theorem dX0_addFour_10 : decode cX0_addFour 10 = .ok (.ishr, 1) := by decide +kernel
theorem dX0_addFour_11 : decode cX0_addFour 11 = .ok (.invokevirtual 19, 3) := by decide +kernel
theorem dX0_addFour_14 : decode cX0_addFour 14 = .ok (.iinc 2 (-8), 3) := by decide +kernel
theorem dX0_addFour_17 : decode cX0_addFour 17 = .ok (.goto (-14), 3) := by decide +kernel
theorem dX0_addFour_20 : decode cX0_addFour 20 = .ok (.return_, 1) := by decide +kernel
set_option maxRecDepth 20000 in
theorem ggX0_addNumber_X0_add : GoodIn wsX0_addNumber wsX0_add := goodIn_r _ [5, 6, 7, 8, 9] (by decide +kernel) (by decide +kernel)
set_option maxRecDepth 20000 in
theorem gX0_addNumber_X0_add : GoodIn wsX0_addNumber (wsV RX0 19 RX0 yX0_add wsX0_add) := goodIn_app (goodIn_of _ (by decide +kernel)) ggX0_addNumber_X0_add
theorem dX0_addNumber_0 : decode cX0_addNumber 0 = .ok (.sipush 1000, 3) := by decide +kernel
theorem dX0_addNumber_3 : decode cX0_addNumber 3 = .ok (.istore_n 2, 1) := by decide +kernel
theorem dX0_addNumber_4 : decode cX0_addNumber 4 = .ok (.iload_n 2, 1) := by decide +kernel
theorem dX0_addNumber_5 : decode cX0_addNumber 5 = .ok (.ifCond .le 34, 3) := by decide +kernel
theorem dX0_addNumber_8 : decode cX0_addNumber 8 = .ok (.iload_n 1, 1) := by decide +kernel
theorem dX0_addNumber_9 : decode cX0_addNumber 9 = .ok (.iload_n 2, 1) := by decide +kernel
theorem dX0_addNumber_10 : decode cX0_addNumber 10 = .ok (.if_icmp .ge 8, 3) := by decide +kernel
theorem dX0_addNumber_13 : decode cX0_addNumber 13 = .ok (.iload_n 2, 1) := by decide +kernel
theorem dX0_addNumber_14 : decode cX0_addNumber 14 = .ok (.iconst 1, 1) := by decide +kernel
theorem dX0_addNumber_15 : decode cX0_addNumber 15 = .ok (.if_icmp .ne 16, 3) := by decide +kernel
theorem dX0_addNumber_18 : decode cX0_addNumber 18 = .ok (.aload_n 0, 1) := by decide +kernel
theorem dX0_addNumber_19 : decode cX0_addNumber 19 = .ok (.bipush 48, 2) := by decide +kernel
theorem dX0_addNumber_21 : decode cX0_addNumber 21 = .ok (.iload_n 1, 1) := by decide +kernel
theorem dX0_addNumber_22 : decode cX0_addNumber 22 = .ok (.iload_n 2, 1) := by decide +kernel
theorem dX0_addNumber_23 : decode cX0_addNumber 23 = .ok (.idiv, 1) := by decide +kernel
theorem dX0_addNumber_24 : decode cX0_addNumber 24 = .ok (.bipush 10, 2) := by decide +kernel
theorem dX0_addNumber_26 : decode cX0_addNumber 26 = .ok (.irem, 1) := by decide +kernel
theorem dX0_addNumber_27 : decode cX0_addNumber 27 = .ok (.iadd, 1) := by decide +kernel
theorem dX0_addNumber_28 : decode cX0_addNumber 28 = .ok (.invokevirtual 19, 3) := by decide +kernel
theorem dX0_addNumber_31 : decode cX0_addNumber 31 = .ok (.iload_n 2, 1) := by decide +kernel
theorem dX0_addNumber_32 : decode cX0_addNumber 32 = .ok (.bipush 10, 2) := by decide +kernel
theorem dX0_addNumber_34 : decode cX0_addNumber 34 = .ok (.idiv, 1) := by decide +kernel
theorem dX0_addNumber_35 : decode cX0_addNumber 35 = .ok (.istore_n 2, 1) := by decide +kernel
theorem dX0_addNumber_36 : decode cX0_addNumber 36 = .ok (.goto (-32), 3) := by decide +kernel
theorem dX0_addNumber_39 : decode cX0_addNumber 39 = .ok (.return_, 1) := by decide +kernel
theorem dX1_init_0 : decode cX1_init 0 = .ok (.aload_n 0, 1) := by decide +kernel
theorem dX1_init_1 : decode cX1_init 1 = .ok (.invokespecial 3, 3) := by decide +kernel
theorem dX1_init_4 : decode cX1_init 4 = .ok (.aload_n 0, 1) := by decide +kernel
theorem dX1_init_5 : decode cX1_init 5 = .ok (.bipush 6, 2) := by decide +kernel
theorem dX1_init_7 : decode cX1_init 7 = .ok (.anewarray 9, 3) := by decide +kernel
theorem dX1_init_10 : decode cX1_init 10 = .ok (.putfield 11, 3) := by decide +kernel
theorem dX1_init_13 : decode cX1_init 13 = .ok (.aload_n 0, 1) := by decide +kernel
theorem dX1_init_14 : decode cX1_init 14 = .ok (.iconst 0, 1) := by decide +kernel
theorem dX1_init_15 : decode cX1_init 15 = .ok (.putfield 17, 3) := by decide +kernel
theorem dX1_init_18 : decode cX1_init 18 = .ok (.aload_n 0, 1) := by decide +kernel
theorem dX1_init_19 : decode cX1_init 19 = .ok (.iconst 0, 1) := by decide +kernel
theorem dX1_init_20 : decode cX1_init 20 = .ok (.putfield 21, 3) := by decide +kernel
theorem dX1_init_23 : decode cX1_init 23 = .ok (.return_, 1) := by decide +kernel
set_option maxRecDepth 20000 in
theorem ggX1_remember_X8_sceneAt : GoodIn wsX1_remember wsX8_sceneAt := goodIn_r _ [13] (by decide +kernel) (by decide +kernel)
set_option maxRecDepth 20000 in
theorem gX1_remember_X8_sceneAt_n24 : GoodIn wsX1_remember (wsX8_sceneAt) := ggX1_remember_X8_sceneAt
set_option maxRecDepth 20000 in
theorem ggX1_remember_X5_init : GoodIn wsX1_remember wsX5_init := goodIn_r _ [15, 16, 17, 18, 19, 20, 21, 22, 23, 24, 25, 26, 27, 28, 29, 30, 31, 32, 58, 59, 53, 54, 55, 56, 57] (by decide +kernel) (by decide +kernel)
set_option maxRecDepth 20000 in
theorem gX1_remember_X5_init_n28 : GoodIn wsX1_remember (wsX5_init) := ggX1_remember_X5_init
set_option maxRecDepth 20000 in
theorem ggX1_remember_X5_become : GoodIn wsX1_remember wsX5_become := goodIn_r _ [36, 22, 23, 24, 25, 26, 37, 38, 39, 21, 40, 31, 41, 8, 9, 10, 42, 43, 44, 45, 32, 46, 47, 48, 5, 49, 53, 54, 55, 56, 57, 58, 59] (by decide +kernel) (by decide +kernel)
set_option maxRecDepth 20000 in
theorem gX1_remember_X5_become : GoodIn wsX1_remember (wsV RX1 29 RX5 yX5_become wsX5_become) := goodIn_app (goodIn_of _ (by decide +kernel)) ggX1_remember_X5_become
theorem dX1_remember_0 : decode cX1_remember 0 = .ok (.aload_n 0, 1) := by decide +kernel
theorem dX1_remember_1 : decode cX1_remember 1 = .ok (.getfield 11, 3) := by decide +kernel
theorem dX1_remember_4 : decode cX1_remember 4 = .ok (.aload_n 0, 1) := by decide +kernel
theorem dX1_remember_5 : decode cX1_remember 5 = .ok (.getfield 17, 3) := by decide +kernel
theorem dX1_remember_8 : decode cX1_remember 8 = .ok (.invokestatic 24, 3) := by decide +kernel
theorem dX1_remember_11 : decode cX1_remember 11 = .ok (.astore_n 2, 1) := by decide +kernel
theorem dX1_remember_12 : decode cX1_remember 12 = .ok (.aload_n 2, 1) := by decide +kernel
theorem dX1_remember_13 : decode cX1_remember 13 = .ok (.ifnonnull 40, 3) := by decide +kernel
theorem dX1_remember_16 : decode cX1_remember 16 = .ok (.new 9, 3) := by decide +kernel
theorem dX1_remember_19 : decode cX1_remember 19 = .ok (.dup, 1) := by decide +kernel
theorem dX1_remember_20 : decode cX1_remember 20 = .ok (.invokespecial 28, 3) := by decide +kernel
theorem dX1_remember_23 : decode cX1_remember 23 = .ok (.astore_n 2, 1) := by decide +kernel
theorem dX1_remember_24 : decode cX1_remember 24 = .ok (.aload_n 0, 1) := by decide +kernel
theorem dX1_remember_25 : decode cX1_remember 25 = .ok (.getfield 17, 3) := by decide +kernel
theorem dX1_remember_28 : decode cX1_remember 28 = .ok (.ifCond .lt 25, 3) := by decide +kernel
theorem dX1_remember_31 : decode cX1_remember 31 = .ok (.aload_n 0, 1) := by decide +kernel
theorem dX1_remember_32 : decode cX1_remember 32 = .ok (.getfield 17, 3) := by decide +kernel
theorem dX1_remember_35 : decode cX1_remember 35 = .ok (.aload_n 0, 1) := by decide +kernel
theorem dX1_remember_36 : decode cX1_remember 36 = .ok (.getfield 11, 3) := by decide +kernel
theorem dX1_remember_39 : decode cX1_remember 39 = .ok (.arraylength, 1) := by decide +kernel
theorem dX1_remember_40 : decode cX1_remember 40 = .ok (.if_icmp .ge 13, 3) := by decide +kernel
theorem dX1_remember_43 : decode cX1_remember 43 = .ok (.aload_n 0, 1) := by decide +kernel
theorem dX1_remember_44 : decode cX1_remember 44 = .ok (.getfield 11, 3) := by decide +kernel
theorem dX1_remember_47 : decode cX1_remember 47 = .ok (.aload_n 0, 1) := by decide +kernel
theorem dX1_remember_48 : decode cX1_remember 48 = .ok (.getfield 17, 3) := by decide +kernel
theorem dX1_remember_51 : decode cX1_remember 51 = .ok (.aload_n 2, 1) := by decide +kernel
theorem dX1_remember_52 : decode cX1_remember 52 = .ok (.aastore, 1) := by decide +kernel
theorem dX1_remember_53 : decode cX1_remember 53 = .ok (.aload_n 2, 1) := by decide +kernel
theorem dX1_remember_54 : decode cX1_remember 54 = .ok (.aload_n 1, 1) := by decide +kernel
theorem dX1_remember_55 : decode cX1_remember 55 = .ok (.invokevirtual 29, 3) := by decide +kernel
theorem dX1_remember_58 : decode cX1_remember 58 = .ok (.aload_n 0, 1) := by decide +kernel
theorem dX1_remember_59 : decode cX1_remember 59 = .ok (.aload_n 0, 1) := by decide +kernel
theorem dX1_remember_60 : decode cX1_remember 60 = .ok (.getfield 17, 3) := by decide +kernel
theorem dX1_remember_63 : decode cX1_remember 63 = .ok (.iconst 1, 1) := by decide +kernel
theorem dX1_remember_64 : decode cX1_remember 64 = .ok (.iadd, 1) := by decide +kernel
theorem dX1_remember_65 : decode cX1_remember 65 = .ok (.bipush 6, 2) := by decide +kernel
theorem dX1_remember_67 : decode cX1_remember 67 = .ok (.irem, 1) := by decide +kernel
theorem dX1_remember_68 : decode cX1_remember 68 = .ok (.putfield 17, 3) := by decide +kernel
theorem dX1_remember_71 : decode cX1_remember 71 = .ok (.aload_n 0, 1) := by decide +kernel
theorem dX1_remember_72 : decode cX1_remember 72 = .ok (.aload_n 0, 1) := by decide +kernel
theorem dX1_remember_73 : decode cX1_remember 73 = .ok (.getfield 21, 3) := by decide +kernel
theorem dX1_remember_76 : decode cX1_remember 76 = .ok (.iconst 1, 1) := by decide +kernel
theorem dX1_remember_77 : decode cX1_remember 77 = .ok (.iadd, 1) := by decide +kernel
theorem dX1_remember_78 : decode cX1_remember 78 = .ok (.bipush 6, 2) := by decide +kernel
theorem dX1_remember_80 : decode cX1_remember 80 = .ok (.invokestatic 33, 3) := by decide +kernel
theorem dX1_remember_83 : decode cX1_remember 83 = .ok (.putfield 21, 3) := by decide +kernel
theorem dX1_remember_86 : decode cX1_remember 86 = .ok (.return_, 1) := by decide +kernel
set_option maxRecDepth 20000 in
theorem ggX1_recall_X8_sceneAt : GoodIn wsX1_recall wsX8_sceneAt := goodIn_r _ [6] (by decide +kernel) (by decide +kernel)
set_option maxRecDepth 20000 in
theorem gX1_recall_X8_sceneAt_n24 : GoodIn wsX1_recall (wsX8_sceneAt) := ggX1_recall_X8_sceneAt
set_option maxRecDepth 20000 in
theorem ggX1_recall_X5_become : GoodIn wsX1_recall wsX5_become := goodIn_r _ [11, 12, 13, 14, 15, 16, 17, 18, 19, 20, 21, 22, 23, 24, 25, 26, 27, 28, 29, 30, 31, 32, 33, 34, 10, 35, 39, 40, 41, 42, 43, 44, 45] (by decide +kernel) (by decide +kernel)
set_option maxRecDepth 20000 in
theorem gX1_recall_X5_become : GoodIn wsX1_recall (wsV RX1 29 RX5 yX5_become wsX5_become) := goodIn_app (goodIn_of _ (by decide +kernel)) ggX1_recall_X5_become
theorem dX1_recall_0 : decode cX1_recall 0 = .ok (.aload_n 0, 1) := by decide +kernel
theorem dX1_recall_1 : decode cX1_recall 1 = .ok (.aload_n 0, 1) := by decide +kernel
theorem dX1_recall_2 : decode cX1_recall 2 = .ok (.getfield 17, 3) := by decide +kernel
theorem dX1_recall_5 : decode cX1_recall 5 = .ok (.bipush 6, 2) := by decide +kernel
theorem dX1_recall_7 : decode cX1_recall 7 = .ok (.iadd, 1) := by decide +kernel
theorem dX1_recall_8 : decode cX1_recall 8 = .ok (.iconst 1, 1) := by decide +kernel
theorem dX1_recall_9 : decode cX1_recall 9 = .ok (.isub, 1) := by decide +kernel
theorem dX1_recall_10 : decode cX1_recall 10 = .ok (.bipush 6, 2) := by decide +kernel
theorem dX1_recall_12 : decode cX1_recall 12 = .ok (.irem, 1) := by decide +kernel
theorem dX1_recall_13 : decode cX1_recall 13 = .ok (.putfield 17, 3) := by decide +kernel
theorem dX1_recall_16 : decode cX1_recall 16 = .ok (.aload_n 0, 1) := by decide +kernel
theorem dX1_recall_17 : decode cX1_recall 17 = .ok (.dup, 1) := by decide +kernel
theorem dX1_recall_18 : decode cX1_recall 18 = .ok (.getfield 21, 3) := by decide +kernel
theorem dX1_recall_21 : decode cX1_recall 21 = .ok (.iconst 1, 1) := by decide +kernel
theorem dX1_recall_22 : decode cX1_recall 22 = .ok (.isub, 1) := by decide +kernel
theorem dX1_recall_23 : decode cX1_recall 23 = .ok (.putfield 21, 3) := by decide +kernel
theorem dX1_recall_26 : decode cX1_recall 26 = .ok (.aload_n 0, 1) := by decide +kernel
theorem dX1_recall_27 : decode cX1_recall 27 = .ok (.getfield 11, 3) := by decide +kernel
theorem dX1_recall_30 : decode cX1_recall 30 = .ok (.aload_n 0, 1) := by decide +kernel
theorem dX1_recall_31 : decode cX1_recall 31 = .ok (.getfield 17, 3) := by decide +kernel
theorem dX1_recall_34 : decode cX1_recall 34 = .ok (.invokestatic 24, 3) := by decide +kernel
theorem dX1_recall_37 : decode cX1_recall 37 = .ok (.astore_n 2, 1) := by decide +kernel
theorem dX1_recall_38 : decode cX1_recall 38 = .ok (.aload_n 2, 1) := by decide +kernel
theorem dX1_recall_39 : decode cX1_recall 39 = .ok (.ifnull 8, 3) := by decide +kernel
theorem dX1_recall_42 : decode cX1_recall 42 = .ok (.aload_n 1, 1) := by decide +kernel
theorem dX1_recall_43 : decode cX1_recall 43 = .ok (.aload_n 2, 1) := by decide +kernel
theorem dX1_recall_44 : decode cX1_recall 44 = .ok (.invokevirtual 29, 3) := by decide +kernel
theorem dX1_recall_47 : decode cX1_recall 47 = .ok (.return_, 1) := by decide +kernel
theorem dX2_init_0 : decode cX2_init 0 = .ok (.aload_n 0, 1) := by decide +kernel
theorem dX2_init_1 : decode cX2_init 1 = .ok (.invokespecial 3, 3) := by decide +kernel
theorem dX2_init_4 : decode cX2_init 4 = .ok (.aload_n 0, 1) := by decide +kernel
theorem dX2_init_5 : decode cX2_init 5 = .ok (.iconst 0, 1) := by decide +kernel
theorem dX2_init_6 : decode cX2_init 6 = .ok (.putfield 9, 3) := by decide +kernel
theorem dX2_init_9 : decode cX2_init 9 = .ok (.aload_n 0, 1) := by decide +kernel
theorem dX2_init_10 : decode cX2_init 10 = .ok (.iconst (-1), 1) := by decide +kernel
theorem dX2_init_11 : decode cX2_init 11 = .ok (.putfield 15, 3) := by decide +kernel
theorem dX2_init_14 : decode cX2_init 14 = .ok (.aload_n 0, 1) := by decide +kernel
theorem dX2_init_15 : decode cX2_init 15 = .ok (.aload_n 1, 1) := by decide +kernel
theorem dX2_init_16 : decode cX2_init 16 = .ok (.putfield 18, 3) := by decide +kernel
theorem dX2_init_19 : decode cX2_init 19 = .ok (.aload_n 0, 1) := by decide +kernel
theorem dX2_init_20 : decode cX2_init 20 = .ok (.aload_n 2, 1) := by decide +kernel
theorem dX2_init_21 : decode cX2_init 21 = .ok (.putfield 22, 3) := by decide +kernel
theorem dX2_init_24 : decode cX2_init 24 = .ok (.return_, 1) := by decide +kernel
set_option maxRecDepth 20000 in
theorem ggX2_parse_X5_empty : GoodIn wsX2_parse wsX5_empty := goodIn_r _ [12, 13, 14, 15, 16, 17, 18, 19, 11, 20, 21, 22, 193, 194, 195, 196, 197, 198, 199] (by decide +kernel) (by decide +kernel)
set_option maxRecDepth 20000 in
theorem gX2_parse_X5_empty : GoodIn wsX2_parse (wsV RX2 26 RX5 yX5_empty wsX5_empty) := goodIn_app (goodIn_of _ (by decide +kernel)) ggX2_parse_X5_empty
set_option maxRecDepth 20000 in
theorem ggX2_parse_X2_readToken : GoodIn wsX2_parse wsX2_readToken := goodIn_r _ [27, 2, 28, 29, 30, 7, 31, 32, 33, 34, 35, 36, 37, 38, 39, 40, 41, 42, 43, 44, 45, 26, 46, 47, 48, 49, 50, 51, 52, 183, 184, 185, 186, 187, 188, 189, 190, 191, 192, 200, 201] (by decide +kernel) (by decide +kernel)
set_option maxRecDepth 20000 in
theorem gX2_parse_X2_readToken : GoodIn wsX2_parse (wsV RX2 41 RX2 yX2_readToken wsX2_readToken) := goodIn_app (goodIn_of _ (by decide +kernel)) ggX2_parse_X2_readToken
set_option maxRecDepth 20000 in
theorem ggX2_parse_X2_parseStatement : GoodIn wsX2_parse wsX2_parseStatement := goodIn_r _ [56, 1, 57, 58, 59, 60, 61, 26, 62, 7, 2, 30, 28, 63, 64, 65, 66, 67, 68, 69, 70, 71, 72, 73, 74, 37, 38, 39, 40, 41, 42, 43, 75, 76, 77, 78, 79, 80, 81, 82, 83, 84, 85, 86, 87, 88, 89, 90, 91, 92, 93, 94, 95, 96, 97, 98, 99, 100, 101, 102, 103, 104, 105, 106, 107, 108, 109, 110, 111, 112, 113, 114, 115, 116, 117, 118, 119, 5, 6, 23, 24, 25, 27, 29, 31, 32, 33, 34, 35, 36, 44, 45, 46, 47, 48, 49, 50, 51, 52, 120, 121, 122, 123, 124, 125, 126, 127, 128, 129, 130, 131, 132, 133, 134, 135, 136, 137, 138, 139, 140, 141, 142, 143, 144, 145, 146, 147, 148, 149, 150, 151, 152, 153, 154, 155, 156, 157, 158, 159, 160, 161, 3, 162, 163, 164, 165, 166, 4, 167, 18, 19, 11, 20, 21, 22, 168, 169, 170, 171, 172, 173, 174, 175, 176, 177, 178, 179, 180, 13, 181, 182, 183, 184, 185, 186, 187, 188, 189, 190, 191, 192, 193, 194, 195, 196, 197, 198, 199, 200, 201] (by decide +kernel) (by decide +kernel)
set_option maxRecDepth 20000 in
theorem gX2_parse_X2_parseStatement : GoodIn wsX2_parse (wsV RX2 44 RX2 yX2_parseStatement wsX2_parseStatement) := goodIn_app (goodIn_of _ (by decide +kernel)) ggX2_parse_X2_parseStatement
theorem dX2_parse_0 : decode cX2_parse 0 = .ok (.aload_n 0, 1) := by decide +kernel
theorem dX2_parse_1 : decode cX2_parse 1 = .ok (.getfield 22, 3) := by decide +kernel
theorem dX2_parse_4 : decode cX2_parse 4 = .ok (.invokevirtual 26, 3) := by decide +kernel
theorem dX2_parse_7 : decode cX2_parse 7 = .ok (.aload_n 0, 1) := by decide +kernel
theorem dX2_parse_8 : decode cX2_parse 8 = .ok (.iconst 0, 1) := by decide +kernel
theorem dX2_parse_9 : decode cX2_parse 9 = .ok (.putfield 31, 3) := by decide +kernel
theorem dX2_parse_12 : decode cX2_parse 12 = .ok (.aload_n 0, 1) := by decide +kernel
theorem dX2_parse_13 : decode cX2_parse 13 = .ok (.iconst 0, 1) := by decide +kernel
theorem dX2_parse_14 : decode cX2_parse 14 = .ok (.putfield 34, 3) := by decide +kernel
theorem dX2_parse_17 : decode cX2_parse 17 = .ok (.aload_n 0, 1) := by decide +kernel
theorem dX2_parse_18 : decode cX2_parse 18 = .ok (.iconst 0, 1) := by decide +kernel
theorem dX2_parse_19 : decode cX2_parse 19 = .ok (.putfield 38, 3) := by decide +kernel
theorem dX2_parse_22 : decode cX2_parse 22 = .ok (.aload_n 0, 1) := by decide +kernel
theorem dX2_parse_23 : decode cX2_parse 23 = .ok (.iconst 0, 1) := by decide +kernel
theorem dX2_parse_24 : decode cX2_parse 24 = .ok (.putfield 9, 3) := by decide +kernel
theorem dX2_parse_27 : decode cX2_parse 27 = .ok (.aload_n 0, 1) := by decide +kernel
theorem dX2_parse_28 : decode cX2_parse 28 = .ok (.iconst (-1), 1) := by decide +kernel
theorem dX2_parse_29 : decode cX2_parse 29 = .ok (.putfield 15, 3) := by decide +kernel
theorem dX2_parse_32 : decode cX2_parse 32 = .ok (.aload_n 0, 1) := by decide +kernel
theorem dX2_parse_33 : decode cX2_parse 33 = .ok (.invokevirtual 41, 3) := by decide +kernel
theorem dX2_parse_36 : decode cX2_parse 36 = .ok (.aload_n 0, 1) := by decide +kernel
theorem dX2_parse_37 : decode cX2_parse 37 = .ok (.invokevirtual 44, 3) := by decide +kernel
theorem dX2_parse_40 : decode cX2_parse 40 = .ok (.istore_n 1, 1) := by decide +kernel
theorem dX2_parse_41 : decode cX2_parse 41 = .ok (.iconst 1, 1) := by decide +kernel
theorem dX2_parse_42 : decode cX2_parse 42 = .ok (.istore_n 2, 1) := by decide +kernel
theorem dX2_parse_43 : decode cX2_parse 43 = .ok (.iload_n 2, 1) := by decide +kernel
theorem dX2_parse_44 : decode cX2_parse 44 = .ok (.sipush 400, 3) := by decide +kernel
theorem dX2_parse_47 : decode cX2_parse 47 = .ok (.if_icmp .gt 25, 3) := by decide +kernel
theorem dX2_parse_50 : decode cX2_parse 50 = .ok (.iload_n 1, 1) := by decide +kernel
theorem dX2_parse_51 : decode cX2_parse 51 = .ok (.ifCond .eq 21, 3) := by decide +kernel
theorem dX2_parse_54 : decode cX2_parse 54 = .ok (.aload_n 0, 1) := by decide +kernel
theorem dX2_parse_55 : decode cX2_parse 55 = .ok (.getfield 48, 3) := by decide +kernel
theorem dX2_parse_58 : decode cX2_parse 58 = .ok (.ifCond .eq 14, 3) := by decide +kernel
theorem dX2_parse_61 : decode cX2_parse 61 = .ok (.aload_n 0, 1) := by decide +kernel
theorem dX2_parse_62 : decode cX2_parse 62 = .ok (.invokevirtual 44, 3) := by decide +kernel
theorem dX2_parse_65 : decode cX2_parse 65 = .ok (.istore_n 1, 1) := by decide +kernel
theorem dX2_parse_66 : decode cX2_parse 66 = .ok (.iinc 2 1, 3) := by decide +kernel
theorem dX2_parse_69 : decode cX2_parse 69 = .ok (.goto (-26), 3) := by decide +kernel
theorem dX2_parse_72 : decode cX2_parse 72 = .ok (.iload_n 1, 1) := by decide +kernel
theorem dX2_parse_73 : decode cX2_parse 73 = .ok (.ireturn, 1) := by decide +kernel
set_option maxRecDepth 20000 in
theorem ggX2_parseStatement_X2_isWord : GoodIn wsX2_parseStatement wsX2_isWord := goodIn_r _ [8, 9, 10, 11, 12, 13, 14, 15, 16, 17, 18, 19, 20, 21, 22, 23, 24, 25, 26, 27, 28, 29, 30, 31, 32, 33, 34, 35, 36, 37, 38, 39, 40, 41, 42, 43, 44, 45, 46, 47, 48, 49, 50, 51, 52, 53, 54, 55, 56, 57, 58, 59, 60, 61, 62, 63, 64, 65, 66, 67, 68, 171, 172, 173, 174, 175, 176, 177, 178, 179, 180, 188, 189] (by decide +kernel) (by decide +kernel)
set_option maxRecDepth 20000 in
theorem gX2_parseStatement_X2_isWord : GoodIn wsX2_parseStatement (wsV RX2 53 RX2 yX2_isWord wsX2_isWord) := goodIn_app (goodIn_of _ (by decide +kernel)) ggX2_parseStatement_X2_isWord
set_option maxRecDepth 20000 in
theorem ggX2_parseStatement_X2_parseLayer : GoodIn wsX2_parseStatement wsX2_parseLayer := goodIn_r _ [72, 1, 2, 3, 73, 74, 75, 7, 76, 77, 11, 78, 79, 80, 81, 82, 10, 12, 83, 9, 84, 85, 86, 87, 88, 89, 25, 26, 27, 28, 29, 30, 31, 90, 91, 92, 93, 94, 95, 96, 97, 98, 99, 100, 101, 102, 103, 104, 105, 106, 107, 108, 109, 110, 4, 5, 6, 8, 13, 14, 15, 16, 17, 18, 19, 20, 21, 22, 23, 24, 32, 33, 34, 35, 36, 37, 38, 39, 40, 41, 42, 43, 44, 45, 46, 47, 48, 49, 50, 51, 52, 53, 54, 55, 56, 57, 58, 59, 60, 61, 62, 63, 64, 65, 66, 67, 68, 111, 112, 113, 114, 115, 116, 117, 118, 119, 120, 121, 122, 123, 124, 125, 126, 127, 128, 129, 130, 131, 132, 133, 134, 135, 136, 171, 172, 173, 174, 175, 176, 177, 178, 179, 180, 181, 182, 183, 184, 185, 186, 187, 188, 189] (by decide +kernel) (by decide +kernel)
set_option maxRecDepth 20000 in
theorem gX2_parseStatement_X2_parseLayer : GoodIn wsX2_parseStatement (wsV RX2 57 RX2 yX2_parseLayer wsX2_parseLayer) := goodIn_app (goodIn_of _ (by decide +kernel)) ggX2_parseStatement_X2_parseLayer
set_option maxRecDepth 20000 in
theorem ggX2_parseStatement_X2_fail : GoodIn wsX2_parseStatement wsX2_fail := goodIn_r _ [76, 77, 11, 78, 171, 172, 173, 174, 175, 176, 177, 178, 179, 180] (by decide +kernel) (by decide +kernel)
set_option maxRecDepth 20000 in
theorem gX2_parseStatement_X2_fail : GoodIn wsX2_parseStatement (wsV RX2 69 RX2 yX2_fail wsX2_fail) := goodIn_app (goodIn_of _ (by decide +kernel)) ggX2_parseStatement_X2_fail
set_option maxRecDepth 20000 in
theorem ggX2_parseStatement_X2_parseOutside : GoodIn wsX2_parseStatement wsX2_parseOutside := goodIn_r _ [140, 141, 1, 142, 73, 74, 75, 7, 76, 77, 11, 78, 79, 80, 81, 82, 10, 12, 83, 9, 84, 85, 86, 87, 88, 89, 25, 26, 27, 28, 29, 30, 31, 90, 91, 92, 93, 94, 95, 96, 97, 98, 99, 100, 101, 102, 103, 104, 105, 106, 133, 134, 135, 136, 171, 172, 173, 174, 175, 176, 177, 178, 179, 180, 181, 182, 183, 184, 185, 188, 189] (by decide +kernel) (by decide +kernel)
set_option maxRecDepth 20000 in
theorem gX2_parseStatement_X2_parseOutside : GoodIn wsX2_parseStatement (wsV RX2 75 RX2 yX2_parseOutside wsX2_parseOutside) := goodIn_app (goodIn_of _ (by decide +kernel)) ggX2_parseStatement_X2_parseOutside
set_option maxRecDepth 20000 in
theorem ggX2_parseStatement_X2_parseBottom : GoodIn wsX2_parseStatement wsX2_parseBottom := goodIn_r _ [146, 147, 1, 73, 74, 75, 7, 76, 77, 11, 78, 79, 80, 81, 82, 10, 12, 83, 9, 84, 85, 86, 87, 88, 89, 25, 26, 27, 28, 29, 30, 31, 90, 91, 92, 93, 94, 95, 96, 97, 98, 4, 5, 6, 8, 13, 14, 15, 16, 17, 18, 19, 20, 21, 22, 23, 24, 32, 33, 34, 35, 36, 37, 38, 39, 40, 41, 42, 43, 44, 45, 46, 47, 48, 49, 50, 51, 52, 53, 54, 55, 56, 57, 58, 59, 60, 61, 62, 63, 64, 65, 66, 67, 68, 99, 100, 101, 102, 103, 104, 105, 106, 148, 149, 150, 151, 152, 153, 154, 133, 134, 135, 136, 171, 172, 173, 174, 175, 176, 177, 178, 179, 180, 188, 189, 181, 182, 183, 184, 185] (by decide +kernel) (by decide +kernel)
set_option maxRecDepth 20000 in
theorem gX2_parseStatement_X2_parseBottom : GoodIn wsX2_parseStatement (wsV RX2 80 RX2 yX2_parseBottom wsX2_parseBottom) := goodIn_app (goodIn_of _ (by decide +kernel)) ggX2_parseStatement_X2_parseBottom
set_option maxRecDepth 20000 in
theorem ggX2_parseStatement_X2_parseShot : GoodIn wsX2_parseStatement wsX2_parseShot := goodIn_r _ [158, 1, 159, 3, 2, 84, 73, 74, 75, 7, 76, 77, 11, 78, 79, 80, 81, 82, 10, 12, 83, 9, 85, 86, 87, 88, 89, 25, 26, 27, 28, 29, 30, 31, 90, 91, 92, 93, 94, 95, 96, 97, 98, 99, 100, 101, 102, 160, 161, 162, 114, 163, 116, 103, 104, 105, 106, 4, 5, 6, 8, 13, 14, 15, 16, 17, 18, 19, 20, 21, 22, 23, 24, 32, 33, 34, 35, 36, 37, 38, 39, 40, 41, 42, 43, 44, 45, 46, 47, 48, 49, 50, 51, 52, 53, 54, 55, 56, 57, 58, 59, 60, 61, 62, 63, 64, 65, 66, 67, 68, 164, 165, 166, 151, 167, 168, 169, 170, 122, 123, 124, 125, 111, 112, 113, 115, 117, 118, 119, 120, 121, 126, 127, 128, 129, 130, 131, 132, 133, 134, 135, 136, 171, 172, 173, 174, 175, 176, 177, 178, 179, 180, 181, 182, 183, 184, 185, 186, 187, 188, 189] (by decide +kernel) (by decide +kernel)
set_option maxRecDepth 20000 in
theorem gX2_parseStatement_X2_parseShot : GoodIn wsX2_parseStatement (wsV RX2 85 RX2 yX2_parseShot wsX2_parseShot) := goodIn_app (goodIn_of _ (by decide +kernel)) ggX2_parseStatement_X2_parseShot
theorem dX2_parseStatement_0 : decode cX2_parseStatement 0 = .ok (.aload_n 0, 1) := by decide +kernel
theorem dX2_parseStatement_1 : decode cX2_parseStatement 1 = .ok (.ldc 51, 2) := by decide +kernel
theorem dX2_parseStatement_3 : decode cX2_parseStatement 3 = .ok (.invokevirtual 53, 3) := by decide +kernel
theorem dX2_parseStatement_6 : decode cX2_parseStatement 6 = .ok (.ifCond .eq 8, 3) := by decide +kernel
theorem dX2_parseStatement_9 : decode cX2_parseStatement 9 = .ok (.aload_n 0, 1) := by decide +kernel
theorem dX2_parseStatement_10 : decode cX2_parseStatement 10 = .ok (.invokevirtual 57, 3) := by decide +kernel
theorem dX2_parseStatement_13 : decode cX2_parseStatement 13 = .ok (.ireturn, 1) := by decide +kernel
theorem dX2_parseStatement_14 : decode cX2_parseStatement 14 = .ok (.aload_n 0, 1) := by decide +kernel
theorem dX2_parseStatement_15 : decode cX2_parseStatement 15 = .ok (.getfield 22, 3) := by decide +kernel
theorem dX2_parseStatement_18 : decode cX2_parseStatement 18 = .ok (.getfield 60, 3) := by decide +kernel
theorem dX2_parseStatement_21 : decode cX2_parseStatement 21 = .ok (.getfield 64, 3) := by decide +kernel
theorem dX2_parseStatement_24 : decode cX2_parseStatement 24 = .ok (.ifCond .ne 9, 3) := by decide +kernel
theorem dX2_parseStatement_27 : decode cX2_parseStatement 27 = .ok (.aload_n 0, 1) := by decide +kernel
theorem dX2_parseStatement_28 : decode cX2_parseStatement 28 = .ok (.iconst 1, 1) := by decide +kernel
theorem dX2_parseStatement_29 : decode cX2_parseStatement 29 = .ok (.invokevirtual 69, 3) := by decide +kernel
theorem dX2_parseStatement_32 : decode cX2_parseStatement 32 = .ok (.ireturn, 1) := by decide +kernel
theorem dX2_parseStatement_33 : decode cX2_parseStatement 33 = .ok (.aload_n 0, 1) := by decide +kernel
theorem dX2_parseStatement_34 : decode cX2_parseStatement 34 = .ok (.ldc 73, 2) := by decide +kernel
theorem dX2_parseStatement_36 : decode cX2_parseStatement 36 = .ok (.invokevirtual 53, 3) := by decide +kernel
theorem dX2_parseStatement_39 : decode cX2_parseStatement 39 = .ok (.ifCond .eq 8, 3) := by decide +kernel
theorem dX2_parseStatement_42 : decode cX2_parseStatement 42 = .ok (.aload_n 0, 1) := by decide +kernel
theorem dX2_parseStatement_43 : decode cX2_parseStatement 43 = .ok (.invokevirtual 75, 3) := by decide +kernel
theorem dX2_parseStatement_46 : decode cX2_parseStatement 46 = .ok (.ireturn, 1) := by decide +kernel
theorem dX2_parseStatement_47 : decode cX2_parseStatement 47 = .ok (.aload_n 0, 1) := by decide +kernel
theorem dX2_parseStatement_48 : decode cX2_parseStatement 48 = .ok (.ldc 78, 2) := by decide +kernel
theorem dX2_parseStatement_50 : decode cX2_parseStatement 50 = .ok (.invokevirtual 53, 3) := by decide +kernel
theorem dX2_parseStatement_53 : decode cX2_parseStatement 53 = .ok (.ifCond .eq 8, 3) := by decide +kernel
theorem dX2_parseStatement_56 : decode cX2_parseStatement 56 = .ok (.aload_n 0, 1) := by decide +kernel
theorem dX2_parseStatement_57 : decode cX2_parseStatement 57 = .ok (.invokevirtual 80, 3) := by decide +kernel
theorem dX2_parseStatement_60 : decode cX2_parseStatement 60 = .ok (.ireturn, 1) := by decide +kernel
theorem dX2_parseStatement_61 : decode cX2_parseStatement 61 = .ok (.aload_n 0, 1) := by decide +kernel
theorem dX2_parseStatement_62 : decode cX2_parseStatement 62 = .ok (.ldc 83, 2) := by decide +kernel
theorem dX2_parseStatement_64 : decode cX2_parseStatement 64 = .ok (.invokevirtual 53, 3) := by decide +kernel
theorem dX2_parseStatement_67 : decode cX2_parseStatement 67 = .ok (.ifCond .eq 10, 3) := by decide +kernel
theorem dX2_parseStatement_70 : decode cX2_parseStatement 70 = .ok (.aload_n 0, 1) := by decide +kernel
theorem dX2_parseStatement_71 : decode cX2_parseStatement 71 = .ok (.invokevirtual 85, 3) := by decide +kernel
theorem dX2_parseStatement_74 : decode cX2_parseStatement 74 = .ok (.goto 8, 3) := by decide +kernel
theorem dX2_parseStatement_77 : decode cX2_parseStatement 77 = .ok (.aload_n 0, 1) := by decide +kernel
theorem dX2_parseStatement_78 : decode cX2_parseStatement 78 = .ok (.iconst 1, 1) := by decide +kernel
theorem dX2_parseStatement_79 : decode cX2_parseStatement 79 = .ok (.invokevirtual 69, 3) := by decide +kernel
theorem dX2_parseStatement_82 : decode cX2_parseStatement 82 = .ok (.ireturn, 1) := by decide +kernel
set_option maxRecDepth 20000 in
theorem ggX2_parseLayer_X2_fail : GoodIn wsX2_parseLayer wsX2_fail := goodIn_r _ [8, 9, 10, 11, 133, 134, 135, 136, 137, 138, 139, 140, 141, 142] (by decide +kernel) (by decide +kernel)
set_option maxRecDepth 20000 in
theorem gX2_parseLayer_X2_fail : GoodIn wsX2_parseLayer (wsV RX2 69 RX2 yX2_fail wsX2_fail) := goodIn_app (goodIn_of _ (by decide +kernel)) ggX2_parseLayer_X2_fail
set_option maxRecDepth 20000 in
theorem ggX2_parseLayer_X2_readToken : GoodIn wsX2_parseLayer wsX2_readToken := goodIn_r _ [15, 16, 17, 18, 10, 19, 20, 21, 22, 23, 24, 25, 26, 27, 28, 29, 30, 31, 32, 33, 34, 7, 35, 36, 37, 38, 39, 40, 41, 133, 134, 135, 136, 137, 138, 139, 140, 141, 142, 150, 151] (by decide +kernel) (by decide +kernel)
set_option maxRecDepth 20000 in
theorem gX2_parseLayer_X2_readToken : GoodIn wsX2_parseLayer (wsV RX2 41 RX2 yX2_readToken wsX2_readToken) := goodIn_app (goodIn_of _ (by decide +kernel)) ggX2_parseLayer_X2_readToken
set_option maxRecDepth 20000 in
theorem ggX2_parseLayer_X2_isNumber : GoodIn wsX2_parseLayer wsX2_isNumber := goodIn_r _ [45, 19, 20, 4, 5, 6, 7, 8, 9, 10, 11, 133, 134, 135, 136, 137, 138, 139, 140, 141, 142] (by decide +kernel) (by decide +kernel)
set_option maxRecDepth 20000 in
theorem gX2_parseLayer_X2_isNumber : GoodIn wsX2_parseLayer (wsV RX2 88 RX2 yX2_isNumber wsX2_isNumber) := goodIn_app (goodIn_of _ (by decide +kernel)) ggX2_parseLayer_X2_isNumber
set_option maxRecDepth 20000 in
theorem ggX2_parseLayer_X2_takeNumber : GoodIn wsX2_parseLayer wsX2_takeNumber := goodIn_r _ [49, 20, 12, 13, 14, 7, 15, 16, 17, 18, 10, 19, 21, 22, 23, 24, 25, 26, 27, 28, 29, 30, 31, 32, 33, 34, 35, 36, 37, 38, 39, 40, 41, 133, 134, 135, 136, 137, 138, 139, 140, 141, 142, 150, 151] (by decide +kernel) (by decide +kernel)
set_option maxRecDepth 20000 in
theorem gX2_parseLayer_X2_takeNumber : GoodIn wsX2_parseLayer (wsV RX2 92 RX2 yX2_takeNumber wsX2_takeNumber) := goodIn_app (goodIn_of _ (by decide +kernel)) ggX2_parseLayer_X2_takeNumber
set_option maxRecDepth 20000 in
theorem ggX2_parseLayer_X2_takeWord : GoodIn wsX2_parseLayer wsX2_takeWord := goodIn_r _ [53, 54, 55, 56, 7, 57, 19, 16, 10, 17, 58, 59, 60, 61, 62, 63, 64, 65, 66, 67, 68, 69, 26, 27, 28, 29, 30, 31, 32, 70, 71, 72, 73, 74, 75, 76, 77, 78, 79, 80, 81, 82, 83, 84, 85, 86, 87, 88, 89, 90, 91, 92, 93, 94, 95, 96, 97, 98, 99, 100, 101, 102, 103, 104, 105, 106, 4, 5, 6, 8, 9, 11, 12, 13, 14, 15, 18, 20, 21, 22, 23, 24, 25, 33, 34, 35, 36, 37, 38, 39, 40, 41, 133, 134, 135, 136, 137, 138, 139, 140, 141, 142, 150, 151] (by decide +kernel) (by decide +kernel)
set_option maxRecDepth 20000 in
theorem gX2_parseLayer_X2_takeWord : GoodIn wsX2_parseLayer (wsV RX2 98 RX2 yX2_takeWord wsX2_takeWord) := goodIn_app (goodIn_of _ (by decide +kernel)) ggX2_parseLayer_X2_takeWord
set_option maxRecDepth 20000 in
theorem ggX2_parseLayer_X2_isWord : GoodIn wsX2_parseLayer wsX2_isWord := goodIn_r _ [57, 19, 16, 10, 17, 58, 59, 60, 61, 62, 63, 64, 65, 66, 67, 68, 69, 26, 27, 28, 29, 30, 31, 32, 70, 71, 72, 73, 74, 75, 76, 77, 78, 79, 80, 81, 82, 83, 84, 85, 86, 87, 88, 89, 90, 91, 92, 93, 94, 95, 96, 97, 98, 99, 100, 101, 102, 103, 104, 105, 106, 133, 134, 135, 136, 137, 138, 139, 140, 141, 142, 150, 151] (by decide +kernel) (by decide +kernel)
set_option maxRecDepth 20000 in
theorem gX2_parseLayer_X2_isWord : GoodIn wsX2_parseLayer (wsV RX2 53 RX2 yX2_isWord wsX2_isWord) := goodIn_app (goodIn_of _ (by decide +kernel)) ggX2_parseLayer_X2_isWord
set_option maxRecDepth 20000 in
theorem ggX2_parseLayer_X7_insert : GoodIn wsX2_parseLayer wsX7_insert := goodIn_r _ [111, 112, 113, 114, 115, 110, 116, 117, 118, 119, 120, 121, 122, 123, 124, 125, 126, 127, 128, 148, 149] (by decide +kernel) (by decide +kernel)
set_option maxRecDepth 20000 in
theorem gX2_parseLayer_X7_insert : GoodIn wsX2_parseLayer (wsV RX2 103 RX7 yX7_insert wsX7_insert) := goodIn_app (goodIn_of _ (by decide +kernel)) ggX2_parseLayer_X7_insert
set_option maxRecDepth 20000 in
theorem ggX2_parseLayer_X2_takeSemicolon : GoodIn wsX2_parseLayer wsX2_takeSemicolon := goodIn_r _ [132, 19, 17, 10, 26, 27, 28, 29, 30, 31, 32, 4, 5, 6, 7, 8, 9, 11, 12, 13, 14, 15, 16, 18, 20, 21, 22, 23, 24, 25, 33, 34, 35, 36, 37, 38, 39, 40, 41, 133, 134, 135, 136, 137, 138, 139, 140, 141, 142, 150, 151] (by decide +kernel) (by decide +kernel)
set_option maxRecDepth 20000 in
theorem gX2_parseLayer_X2_takeSemicolon : GoodIn wsX2_parseLayer (wsV RX2 107 RX2 yX2_takeSemicolon wsX2_takeSemicolon) := goodIn_app (goodIn_of _ (by decide +kernel)) ggX2_parseLayer_X2_takeSemicolon
theorem dX2_parseLayer_0 : decode cX2_parseLayer 0 = .ok (.aload_n 0, 1) := by decide +kernel
theorem dX2_parseLayer_1 : decode cX2_parseLayer 1 = .ok (.getfield 22, 3) := by decide +kernel
theorem dX2_parseLayer_4 : decode cX2_parseLayer 4 = .ok (.getfield 60, 3) := by decide +kernel
theorem dX2_parseLayer_7 : decode cX2_parseLayer 7 = .ok (.getfield 64, 3) := by decide +kernel
theorem dX2_parseLayer_10 : decode cX2_parseLayer 10 = .ok (.bipush 10, 2) := by decide +kernel
theorem dX2_parseLayer_12 : decode cX2_parseLayer 12 = .ok (.if_icmp .lt 10, 3) := by decide +kernel
theorem dX2_parseLayer_15 : decode cX2_parseLayer 15 = .ok (.aload_n 0, 1) := by decide +kernel
theorem dX2_parseLayer_16 : decode cX2_parseLayer 16 = .ok (.bipush 6, 2) := by decide +kernel
theorem dX2_parseLayer_18 : decode cX2_parseLayer 18 = .ok (.invokevirtual 69, 3) := by decide +kernel
theorem dX2_parseLayer_21 : decode cX2_parseLayer 21 = .ok (.ireturn, 1) := by decide +kernel
theorem dX2_parseLayer_22 : decode cX2_parseLayer 22 = .ok (.aload_n 0, 1) := by decide +kernel
theorem dX2_parseLayer_23 : decode cX2_parseLayer 23 = .ok (.invokevirtual 41, 3) := by decide +kernel
theorem dX2_parseLayer_26 : decode cX2_parseLayer 26 = .ok (.aload_n 0, 1) := by decide +kernel
theorem dX2_parseLayer_27 : decode cX2_parseLayer 27 = .ok (.sipush 1000, 3) := by decide +kernel
theorem dX2_parseLayer_30 : decode cX2_parseLayer 30 = .ok (.sipush 4000, 3) := by decide +kernel
theorem dX2_parseLayer_33 : decode cX2_parseLayer 33 = .ok (.invokevirtual 88, 3) := by decide +kernel
theorem dX2_parseLayer_36 : decode cX2_parseLayer 36 = .ok (.ifCond .ne 5, 3) := by decide +kernel
theorem dX2_parseLayer_39 : decode cX2_parseLayer 39 = .ok (.iconst 0, 1) := by decide +kernel
theorem dX2_parseLayer_40 : decode cX2_parseLayer 40 = .ok (.ireturn, 1) := by decide +kernel
theorem dX2_parseLayer_41 : decode cX2_parseLayer 41 = .ok (.aload_n 0, 1) := by decide +kernel
theorem dX2_parseLayer_42 : decode cX2_parseLayer 42 = .ok (.invokevirtual 92, 3) := by decide +kernel
theorem dX2_parseLayer_45 : decode cX2_parseLayer 45 = .ok (.istore_n 1, 1) := by decide +kernel
theorem dX2_parseLayer_46 : decode cX2_parseLayer 46 = .ok (.aload_n 0, 1) := by decide +kernel
theorem dX2_parseLayer_47 : decode cX2_parseLayer 47 = .ok (.ldc 96, 2) := by decide +kernel
theorem dX2_parseLayer_49 : decode cX2_parseLayer 49 = .ok (.invokevirtual 98, 3) := by decide +kernel
theorem dX2_parseLayer_52 : decode cX2_parseLayer 52 = .ok (.ifCond .eq 14, 3) := by decide +kernel
theorem dX2_parseLayer_55 : decode cX2_parseLayer 55 = .ok (.aload_n 0, 1) := by decide +kernel
theorem dX2_parseLayer_56 : decode cX2_parseLayer 56 = .ok (.iconst 1, 1) := by decide +kernel
theorem dX2_parseLayer_57 : decode cX2_parseLayer 57 = .ok (.sipush 999, 3) := by decide +kernel
theorem dX2_parseLayer_60 : decode cX2_parseLayer 60 = .ok (.invokevirtual 88, 3) := by decide +kernel
theorem dX2_parseLayer_63 : decode cX2_parseLayer 63 = .ok (.ifCond .ne 5, 3) := by decide +kernel
theorem dX2_parseLayer_66 : decode cX2_parseLayer 66 = .ok (.iconst 0, 1) := by decide +kernel
theorem dX2_parseLayer_67 : decode cX2_parseLayer 67 = .ok (.ireturn, 1) := by decide +kernel
theorem dX2_parseLayer_68 : decode cX2_parseLayer 68 = .ok (.aload_n 0, 1) := by decide +kernel
theorem dX2_parseLayer_69 : decode cX2_parseLayer 69 = .ok (.invokevirtual 92, 3) := by decide +kernel
theorem dX2_parseLayer_72 : decode cX2_parseLayer 72 = .ok (.istore_n 2, 1) := by decide +kernel
theorem dX2_parseLayer_73 : decode cX2_parseLayer 73 = .ok (.iconst 0, 1) := by decide +kernel
theorem dX2_parseLayer_74 : decode cX2_parseLayer 74 = .ok (.istore_n 3, 1) := by decide +kernel
theorem dX2_parseLayer_75 : decode cX2_parseLayer 75 = .ok (.aload_n 0, 1) := by decide +kernel
theorem dX2_parseLayer_76 : decode cX2_parseLayer 76 = .ok (.ldc 101, 2) := by decide +kernel
theorem dX2_parseLayer_78 : decode cX2_parseLayer 78 = .ok (.invokevirtual 53, 3) := by decide +kernel
theorem dX2_parseLayer_81 : decode cX2_parseLayer 81 = .ok (.ifCond .eq 24, 3) := by decide +kernel
theorem dX2_parseLayer_84 : decode cX2_parseLayer 84 = .ok (.aload_n 0, 1) := by decide +kernel
theorem dX2_parseLayer_85 : decode cX2_parseLayer 85 = .ok (.invokevirtual 41, 3) := by decide +kernel
theorem dX2_parseLayer_88 : decode cX2_parseLayer 88 = .ok (.aload_n 0, 1) := by decide +kernel
theorem dX2_parseLayer_89 : decode cX2_parseLayer 89 = .ok (.iconst 0, 1) := by decide +kernel
theorem dX2_parseLayer_90 : decode cX2_parseLayer 90 = .ok (.bipush 99, 2) := by decide +kernel
theorem dX2_parseLayer_92 : decode cX2_parseLayer 92 = .ok (.invokevirtual 88, 3) := by decide +kernel
theorem dX2_parseLayer_95 : decode cX2_parseLayer 95 = .ok (.ifCond .ne 5, 3) := by decide +kernel
theorem dX2_parseLayer_98 : decode cX2_parseLayer 98 = .ok (.iconst 0, 1) := by decide +kernel
theorem dX2_parseLayer_99 : decode cX2_parseLayer 99 = .ok (.ireturn, 1) := by decide +kernel
theorem dX2_parseLayer_100 : decode cX2_parseLayer 100 = .ok (.aload_n 0, 1) := by decide +kernel
theorem dX2_parseLayer_101 : decode cX2_parseLayer 101 = .ok (.invokevirtual 92, 3) := by decide +kernel
theorem dX2_parseLayer_104 : decode cX2_parseLayer 104 = .ok (.istore_n 3, 1) := by decide +kernel
theorem dX2_parseLayer_105 : decode cX2_parseLayer 105 = .ok (.aload_n 0, 1) := by decide +kernel
theorem dX2_parseLayer_106 : decode cX2_parseLayer 106 = .ok (.getfield 22, 3) := by decide +kernel
theorem dX2_parseLayer_109 : decode cX2_parseLayer 109 = .ok (.getfield 60, 3) := by decide +kernel
theorem dX2_parseLayer_112 : decode cX2_parseLayer 112 = .ok (.aload_n 0, 1) := by decide +kernel
theorem dX2_parseLayer_113 : decode cX2_parseLayer 113 = .ok (.getfield 22, 3) := by decide +kernel
theorem dX2_parseLayer_116 : decode cX2_parseLayer 116 = .ok (.getfield 60, 3) := by decide +kernel
theorem dX2_parseLayer_119 : decode cX2_parseLayer 119 = .ok (.getfield 64, 3) := by decide +kernel
theorem dX2_parseLayer_122 : decode cX2_parseLayer 122 = .ok (.iload_n 1, 1) := by decide +kernel
theorem dX2_parseLayer_123 : decode cX2_parseLayer 123 = .ok (.iload_n 2, 1) := by decide +kernel
theorem dX2_parseLayer_124 : decode cX2_parseLayer 124 = .ok (.iload_n 3, 1) := by decide +kernel
theorem dX2_parseLayer_125 : decode cX2_parseLayer 125 = .ok (.invokevirtual 103, 3) := by decide +kernel
theorem dX2_parseLayer_128 : decode cX2_parseLayer 128 = .ok (.aload_n 0, 1) := by decide +kernel
theorem dX2_parseLayer_129 : decode cX2_parseLayer 129 = .ok (.invokevirtual 107, 3) := by decide +kernel
theorem dX2_parseLayer_132 : decode cX2_parseLayer 132 = .ok (.ireturn, 1) := by decide +kernel
set_option maxRecDepth 20000 in
theorem ggX2_parseOutside_X2_fail : GoodIn wsX2_parseOutside wsX2_fail := goodIn_r _ [8, 9, 10, 11, 54, 55, 56, 57, 58, 59, 60, 61, 62, 63] (by decide +kernel) (by decide +kernel)
set_option maxRecDepth 20000 in
theorem gX2_parseOutside_X2_fail : GoodIn wsX2_parseOutside (wsV RX2 69 RX2 yX2_fail wsX2_fail) := goodIn_app (goodIn_of _ (by decide +kernel)) ggX2_parseOutside_X2_fail
set_option maxRecDepth 20000 in
theorem ggX2_parseOutside_X2_readToken : GoodIn wsX2_parseOutside wsX2_readToken := goodIn_r _ [15, 16, 17, 18, 10, 19, 20, 21, 22, 23, 24, 25, 26, 27, 28, 29, 30, 31, 32, 33, 34, 7, 35, 36, 37, 38, 39, 40, 41, 54, 55, 56, 57, 58, 59, 60, 61, 62, 63, 69, 70] (by decide +kernel) (by decide +kernel)
set_option maxRecDepth 20000 in
theorem gX2_parseOutside_X2_readToken : GoodIn wsX2_parseOutside (wsV RX2 41 RX2 yX2_readToken wsX2_readToken) := goodIn_app (goodIn_of _ (by decide +kernel)) ggX2_parseOutside_X2_readToken
set_option maxRecDepth 20000 in
theorem ggX2_parseOutside_X2_isNumber : GoodIn wsX2_parseOutside wsX2_isNumber := goodIn_r _ [45, 19, 20, 4, 5, 6, 7, 8, 9, 10, 11, 54, 55, 56, 57, 58, 59, 60, 61, 62, 63] (by decide +kernel) (by decide +kernel)
set_option maxRecDepth 20000 in
theorem gX2_parseOutside_X2_isNumber : GoodIn wsX2_parseOutside (wsV RX2 88 RX2 yX2_isNumber wsX2_isNumber) := goodIn_app (goodIn_of _ (by decide +kernel)) ggX2_parseOutside_X2_isNumber
set_option maxRecDepth 20000 in
theorem ggX2_parseOutside_X2_takeNumber : GoodIn wsX2_parseOutside wsX2_takeNumber := goodIn_r _ [49, 20, 12, 13, 14, 7, 15, 16, 17, 18, 10, 19, 21, 22, 23, 24, 25, 26, 27, 28, 29, 30, 31, 32, 33, 34, 35, 36, 37, 38, 39, 40, 41, 54, 55, 56, 57, 58, 59, 60, 61, 62, 63, 69, 70] (by decide +kernel) (by decide +kernel)
set_option maxRecDepth 20000 in
theorem gX2_parseOutside_X2_takeNumber : GoodIn wsX2_parseOutside (wsV RX2 92 RX2 yX2_takeNumber wsX2_takeNumber) := goodIn_app (goodIn_of _ (by decide +kernel)) ggX2_parseOutside_X2_takeNumber
set_option maxRecDepth 20000 in
theorem ggX2_parseOutside_X2_takeSemicolon : GoodIn wsX2_parseOutside wsX2_takeSemicolon := goodIn_r _ [53, 19, 17, 10, 26, 27, 28, 29, 30, 31, 32, 4, 5, 6, 7, 8, 9, 11, 12, 13, 14, 15, 16, 18, 20, 21, 22, 23, 24, 25, 33, 34, 35, 36, 37, 38, 39, 40, 41, 54, 55, 56, 57, 58, 59, 60, 61, 62, 63, 69, 70] (by decide +kernel) (by decide +kernel)
set_option maxRecDepth 20000 in
theorem gX2_parseOutside_X2_takeSemicolon : GoodIn wsX2_parseOutside (wsV RX2 107 RX2 yX2_takeSemicolon wsX2_takeSemicolon) := goodIn_app (goodIn_of _ (by decide +kernel)) ggX2_parseOutside_X2_takeSemicolon
theorem dX2_parseOutside_0 : decode cX2_parseOutside 0 = .ok (.aload_n 0, 1) := by decide +kernel
theorem dX2_parseOutside_1 : decode cX2_parseOutside 1 = .ok (.getfield 34, 3) := by decide +kernel
theorem dX2_parseOutside_4 : decode cX2_parseOutside 4 = .ok (.ifCond .eq 9, 3) := by decide +kernel
theorem dX2_parseOutside_7 : decode cX2_parseOutside 7 = .ok (.aload_n 0, 1) := by decide +kernel
theorem dX2_parseOutside_8 : decode cX2_parseOutside 8 = .ok (.iconst 3, 1) := by decide +kernel
theorem dX2_parseOutside_9 : decode cX2_parseOutside 9 = .ok (.invokevirtual 69, 3) := by decide +kernel
theorem dX2_parseOutside_12 : decode cX2_parseOutside 12 = .ok (.ireturn, 1) := by decide +kernel
theorem dX2_parseOutside_13 : decode cX2_parseOutside 13 = .ok (.aload_n 0, 1) := by decide +kernel
theorem dX2_parseOutside_14 : decode cX2_parseOutside 14 = .ok (.iconst 1, 1) := by decide +kernel
theorem dX2_parseOutside_15 : decode cX2_parseOutside 15 = .ok (.putfield 34, 3) := by decide +kernel
theorem dX2_parseOutside_18 : decode cX2_parseOutside 18 = .ok (.aload_n 0, 1) := by decide +kernel
theorem dX2_parseOutside_19 : decode cX2_parseOutside 19 = .ok (.invokevirtual 41, 3) := by decide +kernel
theorem dX2_parseOutside_22 : decode cX2_parseOutside 22 = .ok (.aload_n 0, 1) := by decide +kernel
theorem dX2_parseOutside_23 : decode cX2_parseOutside 23 = .ok (.sipush 1000, 3) := by decide +kernel
theorem dX2_parseOutside_26 : decode cX2_parseOutside 26 = .ok (.sipush 4000, 3) := by decide +kernel
theorem dX2_parseOutside_29 : decode cX2_parseOutside 29 = .ok (.invokevirtual 88, 3) := by decide +kernel
theorem dX2_parseOutside_32 : decode cX2_parseOutside 32 = .ok (.ifCond .ne 5, 3) := by decide +kernel
theorem dX2_parseOutside_35 : decode cX2_parseOutside 35 = .ok (.iconst 0, 1) := by decide +kernel
theorem dX2_parseOutside_36 : decode cX2_parseOutside 36 = .ok (.ireturn, 1) := by decide +kernel
theorem dX2_parseOutside_37 : decode cX2_parseOutside 37 = .ok (.aload_n 0, 1) := by decide +kernel
theorem dX2_parseOutside_38 : decode cX2_parseOutside 38 = .ok (.getfield 22, 3) := by decide +kernel
theorem dX2_parseOutside_41 : decode cX2_parseOutside 41 = .ok (.aload_n 0, 1) := by decide +kernel
theorem dX2_parseOutside_42 : decode cX2_parseOutside 42 = .ok (.invokevirtual 92, 3) := by decide +kernel
theorem dX2_parseOutside_45 : decode cX2_parseOutside 45 = .ok (.putfield 110, 3) := by decide +kernel
theorem dX2_parseOutside_48 : decode cX2_parseOutside 48 = .ok (.aload_n 0, 1) := by decide +kernel
theorem dX2_parseOutside_49 : decode cX2_parseOutside 49 = .ok (.invokevirtual 107, 3) := by decide +kernel
theorem dX2_parseOutside_52 : decode cX2_parseOutside 52 = .ok (.ireturn, 1) := by decide +kernel
set_option maxRecDepth 20000 in
theorem ggX2_parseBottom_X2_fail : GoodIn wsX2_parseBottom wsX2_fail := goodIn_r _ [7, 8, 9, 10, 113, 114, 115, 116, 117, 118, 119, 120, 121, 122] (by decide +kernel) (by decide +kernel)
set_option maxRecDepth 20000 in
theorem gX2_parseBottom_X2_fail : GoodIn wsX2_parseBottom (wsV RX2 69 RX2 yX2_fail wsX2_fail) := goodIn_app (goodIn_of _ (by decide +kernel)) ggX2_parseBottom_X2_fail
set_option maxRecDepth 20000 in
theorem ggX2_parseBottom_X2_readToken : GoodIn wsX2_parseBottom wsX2_readToken := goodIn_r _ [14, 15, 16, 17, 9, 18, 19, 20, 21, 22, 23, 24, 25, 26, 27, 28, 29, 30, 31, 32, 33, 6, 34, 35, 36, 37, 38, 39, 40, 113, 114, 115, 116, 117, 118, 119, 120, 121, 122, 123, 124] (by decide +kernel) (by decide +kernel)
set_option maxRecDepth 20000 in
theorem gX2_parseBottom_X2_readToken : GoodIn wsX2_parseBottom (wsV RX2 41 RX2 yX2_readToken wsX2_readToken) := goodIn_app (goodIn_of _ (by decide +kernel)) ggX2_parseBottom_X2_readToken
set_option maxRecDepth 20000 in
theorem ggX2_parseBottom_X2_isWord : GoodIn wsX2_parseBottom wsX2_isWord := goodIn_r _ [44, 18, 15, 9, 16, 45, 46, 47, 48, 49, 50, 51, 52, 53, 54, 55, 56, 25, 26, 27, 28, 29, 30, 31, 57, 58, 59, 60, 61, 62, 63, 64, 65, 66, 67, 68, 69, 70, 71, 72, 73, 74, 75, 76, 77, 78, 79, 80, 81, 82, 83, 84, 85, 86, 87, 88, 89, 90, 91, 92, 93, 113, 114, 115, 116, 117, 118, 119, 120, 121, 122, 123, 124] (by decide +kernel) (by decide +kernel)
set_option maxRecDepth 20000 in
theorem gX2_parseBottom_X2_isWord : GoodIn wsX2_parseBottom (wsV RX2 53 RX2 yX2_isWord wsX2_isWord) := goodIn_app (goodIn_of _ (by decide +kernel)) ggX2_parseBottom_X2_isWord
set_option maxRecDepth 20000 in
theorem ggX2_parseBottom_X2_isNumber : GoodIn wsX2_parseBottom wsX2_isNumber := goodIn_r _ [97, 18, 19, 3, 4, 5, 6, 7, 8, 9, 10, 113, 114, 115, 116, 117, 118, 119, 120, 121, 122] (by decide +kernel) (by decide +kernel)
set_option maxRecDepth 20000 in
theorem gX2_parseBottom_X2_isNumber : GoodIn wsX2_parseBottom (wsV RX2 88 RX2 yX2_isNumber wsX2_isNumber) := goodIn_app (goodIn_of _ (by decide +kernel)) ggX2_parseBottom_X2_isNumber
set_option maxRecDepth 20000 in
theorem ggX2_parseBottom_X2_takeNumber : GoodIn wsX2_parseBottom wsX2_takeNumber := goodIn_r _ [101, 19, 11, 12, 13, 6, 14, 15, 16, 17, 9, 18, 20, 21, 22, 23, 24, 25, 26, 27, 28, 29, 30, 31, 32, 33, 34, 35, 36, 37, 38, 39, 40, 113, 114, 115, 116, 117, 118, 119, 120, 121, 122, 123, 124] (by decide +kernel) (by decide +kernel)
set_option maxRecDepth 20000 in
theorem gX2_parseBottom_X2_takeNumber : GoodIn wsX2_parseBottom (wsV RX2 92 RX2 yX2_takeNumber wsX2_takeNumber) := goodIn_app (goodIn_of _ (by decide +kernel)) ggX2_parseBottom_X2_takeNumber
set_option maxRecDepth 20000 in
theorem ggX2_parseBottom_X5_setBottom : GoodIn wsX2_parseBottom wsX5_setBottom := goodIn_r _ [106, 107, 108, 125, 126, 127, 128, 129] (by decide +kernel) (by decide +kernel)
set_option maxRecDepth 20000 in
theorem gX2_parseBottom_X5_setBottom : GoodIn wsX2_parseBottom (wsV RX2 116 RX5 yX5_setBottom wsX5_setBottom) := goodIn_app (goodIn_of _ (by decide +kernel)) ggX2_parseBottom_X5_setBottom
set_option maxRecDepth 20000 in
theorem ggX2_parseBottom_X2_takeSemicolon : GoodIn wsX2_parseBottom wsX2_takeSemicolon := goodIn_r _ [112, 18, 16, 9, 25, 26, 27, 28, 29, 30, 31, 3, 4, 5, 6, 7, 8, 10, 11, 12, 13, 14, 15, 17, 19, 20, 21, 22, 23, 24, 32, 33, 34, 35, 36, 37, 38, 39, 40, 113, 114, 115, 116, 117, 118, 119, 120, 121, 122, 123, 124] (by decide +kernel) (by decide +kernel)
set_option maxRecDepth 20000 in
theorem gX2_parseBottom_X2_takeSemicolon : GoodIn wsX2_parseBottom (wsV RX2 107 RX2 yX2_takeSemicolon wsX2_takeSemicolon) := goodIn_app (goodIn_of _ (by decide +kernel)) ggX2_parseBottom_X2_takeSemicolon
theorem dX2_parseBottom_0 : decode cX2_parseBottom 0 = .ok (.aload_n 0, 1) := by decide +kernel
theorem dX2_parseBottom_1 : decode cX2_parseBottom 1 = .ok (.getfield 38, 3) := by decide +kernel
theorem dX2_parseBottom_4 : decode cX2_parseBottom 4 = .ok (.ifCond .eq 9, 3) := by decide +kernel
theorem dX2_parseBottom_7 : decode cX2_parseBottom 7 = .ok (.aload_n 0, 1) := by decide +kernel
theorem dX2_parseBottom_8 : decode cX2_parseBottom 8 = .ok (.iconst 3, 1) := by decide +kernel
theorem dX2_parseBottom_9 : decode cX2_parseBottom 9 = .ok (.invokevirtual 69, 3) := by decide +kernel
theorem dX2_parseBottom_12 : decode cX2_parseBottom 12 = .ok (.ireturn, 1) := by decide +kernel
theorem dX2_parseBottom_13 : decode cX2_parseBottom 13 = .ok (.aload_n 0, 1) := by decide +kernel
theorem dX2_parseBottom_14 : decode cX2_parseBottom 14 = .ok (.iconst 1, 1) := by decide +kernel
theorem dX2_parseBottom_15 : decode cX2_parseBottom 15 = .ok (.putfield 38, 3) := by decide +kernel
theorem dX2_parseBottom_18 : decode cX2_parseBottom 18 = .ok (.aload_n 0, 1) := by decide +kernel
theorem dX2_parseBottom_19 : decode cX2_parseBottom 19 = .ok (.invokevirtual 41, 3) := by decide +kernel
theorem dX2_parseBottom_22 : decode cX2_parseBottom 22 = .ok (.aload_n 0, 1) := by decide +kernel
theorem dX2_parseBottom_23 : decode cX2_parseBottom 23 = .ok (.ldc 112, 2) := by decide +kernel
theorem dX2_parseBottom_25 : decode cX2_parseBottom 25 = .ok (.invokevirtual 53, 3) := by decide +kernel
theorem dX2_parseBottom_28 : decode cX2_parseBottom 28 = .ok (.istore_n 1, 1) := by decide +kernel
theorem dX2_parseBottom_29 : decode cX2_parseBottom 29 = .ok (.iload_n 1, 1) := by decide +kernel
theorem dX2_parseBottom_30 : decode cX2_parseBottom 30 = .ok (.ifCond .ne 18, 3) := by decide +kernel
theorem dX2_parseBottom_33 : decode cX2_parseBottom 33 = .ok (.aload_n 0, 1) := by decide +kernel
theorem dX2_parseBottom_34 : decode cX2_parseBottom 34 = .ok (.ldc 114, 2) := by decide +kernel
theorem dX2_parseBottom_36 : decode cX2_parseBottom 36 = .ok (.invokevirtual 53, 3) := by decide +kernel
theorem dX2_parseBottom_39 : decode cX2_parseBottom 39 = .ok (.ifCond .ne 9, 3) := by decide +kernel
theorem dX2_parseBottom_42 : decode cX2_parseBottom 42 = .ok (.aload_n 0, 1) := by decide +kernel
theorem dX2_parseBottom_43 : decode cX2_parseBottom 43 = .ok (.iconst 1, 1) := by decide +kernel
theorem dX2_parseBottom_44 : decode cX2_parseBottom 44 = .ok (.invokevirtual 69, 3) := by decide +kernel
theorem dX2_parseBottom_47 : decode cX2_parseBottom 47 = .ok (.ireturn, 1) := by decide +kernel
theorem dX2_parseBottom_48 : decode cX2_parseBottom 48 = .ok (.aload_n 0, 1) := by decide +kernel
theorem dX2_parseBottom_49 : decode cX2_parseBottom 49 = .ok (.invokevirtual 41, 3) := by decide +kernel
theorem dX2_parseBottom_52 : decode cX2_parseBottom 52 = .ok (.aload_n 0, 1) := by decide +kernel
theorem dX2_parseBottom_53 : decode cX2_parseBottom 53 = .ok (.iload_n 1, 1) := by decide +kernel
theorem dX2_parseBottom_54 : decode cX2_parseBottom 54 = .ok (.ifCond .eq 7, 3) := by decide +kernel
theorem dX2_parseBottom_57 : decode cX2_parseBottom 57 = .ok (.iconst 0, 1) := by decide +kernel
theorem dX2_parseBottom_58 : decode cX2_parseBottom 58 = .ok (.goto 6, 3) := by decide +kernel
theorem dX2_parseBottom_61 : decode cX2_parseBottom 61 = .ok (.sipush 1000, 3) := by decide +kernel
theorem dX2_parseBottom_64 : decode cX2_parseBottom 64 = .ok (.iload_n 1, 1) := by decide +kernel
theorem dX2_parseBottom_65 : decode cX2_parseBottom 65 = .ok (.ifCond .eq 8, 3) := by decide +kernel
theorem dX2_parseBottom_68 : decode cX2_parseBottom 68 = .ok (.bipush 100, 2) := by decide +kernel
theorem dX2_parseBottom_70 : decode cX2_parseBottom 70 = .ok (.goto 6, 3) := by decide +kernel
theorem dX2_parseBottom_73 : decode cX2_parseBottom 73 = .ok (.sipush 4000, 3) := by decide +kernel
theorem dX2_parseBottom_76 : decode cX2_parseBottom 76 = .ok (.invokevirtual 88, 3) := by decide +kernel
theorem dX2_parseBottom_79 : decode cX2_parseBottom 79 = .ok (.ifCond .ne 5, 3) := by decide +kernel
theorem dX2_parseBottom_82 : decode cX2_parseBottom 82 = .ok (.iconst 0, 1) := by decide +kernel
theorem dX2_parseBottom_83 : decode cX2_parseBottom 83 = .ok (.ireturn, 1) := by decide +kernel
theorem dX2_parseBottom_84 : decode cX2_parseBottom 84 = .ok (.aload_n 0, 1) := by decide +kernel
theorem dX2_parseBottom_85 : decode cX2_parseBottom 85 = .ok (.getfield 22, 3) := by decide +kernel
theorem dX2_parseBottom_88 : decode cX2_parseBottom 88 = .ok (.iload_n 1, 1) := by decide +kernel
theorem dX2_parseBottom_89 : decode cX2_parseBottom 89 = .ok (.aload_n 0, 1) := by decide +kernel
theorem dX2_parseBottom_90 : decode cX2_parseBottom 90 = .ok (.invokevirtual 92, 3) := by decide +kernel
theorem dX2_parseBottom_93 : decode cX2_parseBottom 93 = .ok (.invokevirtual 116, 3) := by decide +kernel
theorem dX2_parseBottom_96 : decode cX2_parseBottom 96 = .ok (.aload_n 0, 1) := by decide +kernel
theorem dX2_parseBottom_97 : decode cX2_parseBottom 97 = .ok (.invokevirtual 107, 3) := by decide +kernel
theorem dX2_parseBottom_100 : decode cX2_parseBottom 100 = .ok (.ireturn, 1) := by decide +kernel
set_option maxRecDepth 20000 in
theorem ggX2_parseShot_X2_fail : GoodIn wsX2_parseShot wsX2_fail := goodIn_r _ [10, 11, 12, 13, 142, 143, 144, 145, 146, 147, 148, 149, 150, 151] (by decide +kernel) (by decide +kernel)
set_option maxRecDepth 20000 in
theorem gX2_parseShot_X2_fail : GoodIn wsX2_parseShot (wsV RX2 69 RX2 yX2_fail wsX2_fail) := goodIn_app (goodIn_of _ (by decide +kernel)) ggX2_parseShot_X2_fail
set_option maxRecDepth 20000 in
theorem ggX2_parseShot_X2_readToken : GoodIn wsX2_parseShot wsX2_readToken := goodIn_r _ [17, 18, 19, 20, 12, 21, 5, 22, 23, 24, 25, 26, 27, 28, 29, 30, 31, 32, 33, 34, 35, 9, 36, 37, 38, 39, 40, 41, 42, 142, 143, 144, 145, 146, 147, 148, 149, 150, 151, 159, 160] (by decide +kernel) (by decide +kernel)
set_option maxRecDepth 20000 in
theorem gX2_parseShot_X2_readToken : GoodIn wsX2_parseShot (wsV RX2 41 RX2 yX2_readToken wsX2_readToken) := goodIn_app (goodIn_of _ (by decide +kernel)) ggX2_parseShot_X2_readToken
set_option maxRecDepth 20000 in
theorem ggX2_parseShot_X2_isNumber : GoodIn wsX2_parseShot wsX2_isNumber := goodIn_r _ [46, 21, 5, 6, 7, 8, 9, 10, 11, 12, 13, 142, 143, 144, 145, 146, 147, 148, 149, 150, 151] (by decide +kernel) (by decide +kernel)
set_option maxRecDepth 20000 in
theorem gX2_parseShot_X2_isNumber : GoodIn wsX2_parseShot (wsV RX2 88 RX2 yX2_isNumber wsX2_isNumber) := goodIn_app (goodIn_of _ (by decide +kernel)) ggX2_parseShot_X2_isNumber
set_option maxRecDepth 20000 in
theorem ggX2_parseShot_X7_has : GoodIn wsX2_parseShot wsX7_has := goodIn_r _ [51, 52, 157, 158] (by decide +kernel) (by decide +kernel)
set_option maxRecDepth 20000 in
theorem gX2_parseShot_X7_has : GoodIn wsX2_parseShot (wsV RX2 126 RX7 yX7_has wsX7_has) := goodIn_app (goodIn_of _ (by decide +kernel)) ggX2_parseShot_X7_has
set_option maxRecDepth 20000 in
theorem ggX2_parseShot_X2_takeNumber : GoodIn wsX2_parseShot wsX2_takeNumber := goodIn_r _ [56, 5, 14, 15, 16, 9, 17, 18, 19, 20, 12, 21, 22, 23, 24, 25, 26, 27, 28, 29, 30, 31, 32, 33, 34, 35, 36, 37, 38, 39, 40, 41, 42, 142, 143, 144, 145, 146, 147, 148, 149, 150, 151, 159, 160] (by decide +kernel) (by decide +kernel)
set_option maxRecDepth 20000 in
theorem gX2_parseShot_X2_takeNumber : GoodIn wsX2_parseShot (wsV RX2 92 RX2 yX2_takeNumber wsX2_takeNumber) := goodIn_app (goodIn_of _ (by decide +kernel)) ggX2_parseShot_X2_takeNumber
set_option maxRecDepth 20000 in
theorem ggX2_parseShot_X2_isWord : GoodIn wsX2_parseShot wsX2_isWord := goodIn_r _ [60, 21, 18, 12, 19, 61, 62, 63, 64, 65, 66, 67, 68, 69, 70, 71, 72, 27, 28, 29, 30, 31, 32, 33, 73, 74, 75, 76, 77, 78, 79, 80, 81, 82, 83, 84, 85, 86, 87, 88, 89, 90, 91, 92, 93, 94, 95, 96, 97, 98, 99, 100, 101, 102, 103, 104, 105, 106, 107, 108, 109, 142, 143, 144, 145, 146, 147, 148, 149, 150, 151, 159, 160] (by decide +kernel) (by decide +kernel)
set_option maxRecDepth 20000 in
theorem gX2_parseShot_X2_isWord : GoodIn wsX2_parseShot (wsV RX2 53 RX2 yX2_isWord wsX2_isWord) := goodIn_app (goodIn_of _ (by decide +kernel)) ggX2_parseShot_X2_isWord
set_option maxRecDepth 20000 in
theorem ggX2_parseShot_X5_canBegin : GoodIn wsX2_parseShot wsX5_canBegin := goodIn_r _ [114, 115, 116, 48, 49, 50, 51, 52, 117, 118, 119, 120, 121, 152, 153, 154, 155, 156, 157, 158] (by decide +kernel) (by decide +kernel)
set_option maxRecDepth 20000 in
theorem gX2_parseShot_X5_canBegin : GoodIn wsX2_parseShot (wsV RX2 133 RX5 yX5_canBegin wsX5_canBegin) := goodIn_app (goodIn_of _ (by decide +kernel)) ggX2_parseShot_X5_canBegin
set_option maxRecDepth 20000 in
theorem ggX2_parseShot_X7_insert : GoodIn wsX2_parseShot wsX7_insert := goodIn_r _ [125, 52, 126, 127, 128, 50, 129, 130, 118, 119, 120, 121, 131, 132, 133, 134, 135, 136, 137, 157, 158] (by decide +kernel) (by decide +kernel)
set_option maxRecDepth 20000 in
theorem gX2_parseShot_X7_insert : GoodIn wsX2_parseShot (wsV RX2 103 RX7 yX7_insert wsX7_insert) := goodIn_app (goodIn_of _ (by decide +kernel)) ggX2_parseShot_X7_insert
set_option maxRecDepth 20000 in
theorem ggX2_parseShot_X2_takeSemicolon : GoodIn wsX2_parseShot wsX2_takeSemicolon := goodIn_r _ [141, 21, 19, 12, 27, 28, 29, 30, 31, 32, 33, 6, 7, 8, 9, 10, 11, 13, 14, 15, 16, 17, 18, 20, 5, 22, 23, 24, 25, 26, 34, 35, 36, 37, 38, 39, 40, 41, 42, 142, 143, 144, 145, 146, 147, 148, 149, 150, 151, 159, 160] (by decide +kernel) (by decide +kernel)
set_option maxRecDepth 20000 in
theorem gX2_parseShot_X2_takeSemicolon : GoodIn wsX2_parseShot (wsV RX2 107 RX2 yX2_takeSemicolon wsX2_takeSemicolon) := goodIn_app (goodIn_of _ (by decide +kernel)) ggX2_parseShot_X2_takeSemicolon
theorem dX2_parseShot_0 : decode cX2_parseShot 0 = .ok (.aload_n 0, 1) := by decide +kernel
theorem dX2_parseShot_1 : decode cX2_parseShot 1 = .ok (.getfield 22, 3) := by decide +kernel
theorem dX2_parseShot_4 : decode cX2_parseShot 4 = .ok (.getfield 120, 3) := by decide +kernel
theorem dX2_parseShot_7 : decode cX2_parseShot 7 = .ok (.getfield 64, 3) := by decide +kernel
theorem dX2_parseShot_10 : decode cX2_parseShot 10 = .ok (.bipush 20, 2) := by decide +kernel
theorem dX2_parseShot_12 : decode cX2_parseShot 12 = .ok (.if_icmp .lt 10, 3) := by decide +kernel
theorem dX2_parseShot_15 : decode cX2_parseShot 15 = .ok (.aload_n 0, 1) := by decide +kernel
theorem dX2_parseShot_16 : decode cX2_parseShot 16 = .ok (.bipush 6, 2) := by decide +kernel
theorem dX2_parseShot_18 : decode cX2_parseShot 18 = .ok (.invokevirtual 69, 3) := by decide +kernel
theorem dX2_parseShot_21 : decode cX2_parseShot 21 = .ok (.ireturn, 1) := by decide +kernel
theorem dX2_parseShot_22 : decode cX2_parseShot 22 = .ok (.aload_n 0, 1) := by decide +kernel
theorem dX2_parseShot_23 : decode cX2_parseShot 23 = .ok (.invokevirtual 41, 3) := by decide +kernel
theorem dX2_parseShot_26 : decode cX2_parseShot 26 = .ok (.aload_n 0, 1) := by decide +kernel
theorem dX2_parseShot_27 : decode cX2_parseShot 27 = .ok (.iconst 0, 1) := by decide +kernel
theorem dX2_parseShot_28 : decode cX2_parseShot 28 = .ok (.bipush 9, 2) := by decide +kernel
theorem dX2_parseShot_30 : decode cX2_parseShot 30 = .ok (.invokevirtual 88, 3) := by decide +kernel
theorem dX2_parseShot_33 : decode cX2_parseShot 33 = .ok (.ifCond .ne 5, 3) := by decide +kernel
theorem dX2_parseShot_36 : decode cX2_parseShot 36 = .ok (.iconst 0, 1) := by decide +kernel
theorem dX2_parseShot_37 : decode cX2_parseShot 37 = .ok (.ireturn, 1) := by decide +kernel
theorem dX2_parseShot_38 : decode cX2_parseShot 38 = .ok (.aload_n 0, 1) := by decide +kernel
theorem dX2_parseShot_39 : decode cX2_parseShot 39 = .ok (.getfield 22, 3) := by decide +kernel
theorem dX2_parseShot_42 : decode cX2_parseShot 42 = .ok (.getfield 60, 3) := by decide +kernel
theorem dX2_parseShot_45 : decode cX2_parseShot 45 = .ok (.aload_n 0, 1) := by decide +kernel
theorem dX2_parseShot_46 : decode cX2_parseShot 46 = .ok (.getfield 123, 3) := by decide +kernel
theorem dX2_parseShot_49 : decode cX2_parseShot 49 = .ok (.invokevirtual 126, 3) := by decide +kernel
theorem dX2_parseShot_52 : decode cX2_parseShot 52 = .ok (.ifCond .ne 9, 3) := by decide +kernel
theorem dX2_parseShot_55 : decode cX2_parseShot 55 = .ok (.aload_n 0, 1) := by decide +kernel
theorem dX2_parseShot_56 : decode cX2_parseShot 56 = .ok (.iconst 4, 1) := by decide +kernel
theorem dX2_parseShot_57 : decode cX2_parseShot 57 = .ok (.invokevirtual 69, 3) := by decide +kernel
theorem dX2_parseShot_60 : decode cX2_parseShot 60 = .ok (.ireturn, 1) := by decide +kernel
theorem dX2_parseShot_61 : decode cX2_parseShot 61 = .ok (.aload_n 0, 1) := by decide +kernel
theorem dX2_parseShot_62 : decode cX2_parseShot 62 = .ok (.invokevirtual 92, 3) := by decide +kernel
theorem dX2_parseShot_65 : decode cX2_parseShot 65 = .ok (.istore_n 1, 1) := by decide +kernel
theorem dX2_parseShot_66 : decode cX2_parseShot 66 = .ok (.aload_n 0, 1) := by decide +kernel
theorem dX2_parseShot_67 : decode cX2_parseShot 67 = .ok (.ldc 129, 2) := by decide +kernel
theorem dX2_parseShot_69 : decode cX2_parseShot 69 = .ok (.invokevirtual 53, 3) := by decide +kernel
theorem dX2_parseShot_72 : decode cX2_parseShot 72 = .ok (.istore_n 2, 1) := by decide +kernel
theorem dX2_parseShot_73 : decode cX2_parseShot 73 = .ok (.iload_n 2, 1) := by decide +kernel
theorem dX2_parseShot_74 : decode cX2_parseShot 74 = .ok (.ifCond .ne 18, 3) := by decide +kernel
theorem dX2_parseShot_77 : decode cX2_parseShot 77 = .ok (.aload_n 0, 1) := by decide +kernel
theorem dX2_parseShot_78 : decode cX2_parseShot 78 = .ok (.ldc 131, 2) := by decide +kernel
theorem dX2_parseShot_80 : decode cX2_parseShot 80 = .ok (.invokevirtual 53, 3) := by decide +kernel
theorem dX2_parseShot_83 : decode cX2_parseShot 83 = .ok (.ifCond .ne 9, 3) := by decide +kernel
theorem dX2_parseShot_86 : decode cX2_parseShot 86 = .ok (.aload_n 0, 1) := by decide +kernel
theorem dX2_parseShot_87 : decode cX2_parseShot 87 = .ok (.iconst 1, 1) := by decide +kernel
theorem dX2_parseShot_88 : decode cX2_parseShot 88 = .ok (.invokevirtual 69, 3) := by decide +kernel
theorem dX2_parseShot_91 : decode cX2_parseShot 91 = .ok (.ireturn, 1) := by decide +kernel
theorem dX2_parseShot_92 : decode cX2_parseShot 92 = .ok (.aload_n 0, 1) := by decide +kernel
theorem dX2_parseShot_93 : decode cX2_parseShot 93 = .ok (.invokevirtual 41, 3) := by decide +kernel
theorem dX2_parseShot_96 : decode cX2_parseShot 96 = .ok (.aload_n 0, 1) := by decide +kernel
theorem dX2_parseShot_97 : decode cX2_parseShot 97 = .ok (.iconst 0, 1) := by decide +kernel
theorem dX2_parseShot_98 : decode cX2_parseShot 98 = .ok (.sipush 3999, 3) := by decide +kernel
theorem dX2_parseShot_101 : decode cX2_parseShot 101 = .ok (.invokevirtual 88, 3) := by decide +kernel
theorem dX2_parseShot_104 : decode cX2_parseShot 104 = .ok (.ifCond .ne 5, 3) := by decide +kernel
theorem dX2_parseShot_107 : decode cX2_parseShot 107 = .ok (.iconst 0, 1) := by decide +kernel
theorem dX2_parseShot_108 : decode cX2_parseShot 108 = .ok (.ireturn, 1) := by decide +kernel
theorem dX2_parseShot_109 : decode cX2_parseShot 109 = .ok (.aload_n 0, 1) := by decide +kernel
theorem dX2_parseShot_110 : decode cX2_parseShot 110 = .ok (.getfield 22, 3) := by decide +kernel
theorem dX2_parseShot_113 : decode cX2_parseShot 113 = .ok (.iload_n 1, 1) := by decide +kernel
theorem dX2_parseShot_114 : decode cX2_parseShot 114 = .ok (.aload_n 0, 1) := by decide +kernel
theorem dX2_parseShot_115 : decode cX2_parseShot 115 = .ok (.getfield 123, 3) := by decide +kernel
theorem dX2_parseShot_118 : decode cX2_parseShot 118 = .ok (.invokevirtual 133, 3) := by decide +kernel
theorem dX2_parseShot_121 : decode cX2_parseShot 121 = .ok (.ifCond .ne 9, 3) := by decide +kernel
theorem dX2_parseShot_124 : decode cX2_parseShot 124 = .ok (.aload_n 0, 1) := by decide +kernel
theorem dX2_parseShot_125 : decode cX2_parseShot 125 = .ok (.iconst 5, 1) := by decide +kernel
theorem dX2_parseShot_126 : decode cX2_parseShot 126 = .ok (.invokevirtual 69, 3) := by decide +kernel
theorem dX2_parseShot_129 : decode cX2_parseShot 129 = .ok (.ireturn, 1) := by decide +kernel
theorem dX2_parseShot_130 : decode cX2_parseShot 130 = .ok (.aload_n 0, 1) := by decide +kernel
theorem dX2_parseShot_131 : decode cX2_parseShot 131 = .ok (.getfield 22, 3) := by decide +kernel
theorem dX2_parseShot_134 : decode cX2_parseShot 134 = .ok (.getfield 120, 3) := by decide +kernel
theorem dX2_parseShot_137 : decode cX2_parseShot 137 = .ok (.aload_n 0, 1) := by decide +kernel
theorem dX2_parseShot_138 : decode cX2_parseShot 138 = .ok (.getfield 22, 3) := by decide +kernel
theorem dX2_parseShot_141 : decode cX2_parseShot 141 = .ok (.getfield 120, 3) := by decide +kernel
theorem dX2_parseShot_144 : decode cX2_parseShot 144 = .ok (.getfield 64, 3) := by decide +kernel
theorem dX2_parseShot_147 : decode cX2_parseShot 147 = .ok (.iload_n 1, 1) := by decide +kernel
theorem dX2_parseShot_148 : decode cX2_parseShot 148 = .ok (.iload_n 2, 1) := by decide +kernel
theorem dX2_parseShot_149 : decode cX2_parseShot 149 = .ok (.ifCond .eq 7, 3) := by decide +kernel
theorem dX2_parseShot_152 : decode cX2_parseShot 152 = .ok (.iconst 1, 1) := by decide +kernel
theorem dX2_parseShot_153 : decode cX2_parseShot 153 = .ok (.goto 4, 3) := by decide +kernel
theorem dX2_parseShot_156 : decode cX2_parseShot 156 = .ok (.iconst 0, 1) := by decide +kernel
theorem dX2_parseShot_157 : decode cX2_parseShot 157 = .ok (.aload_n 0, 1) := by decide +kernel
theorem dX2_parseShot_158 : decode cX2_parseShot 158 = .ok (.invokevirtual 92, 3) := by decide +kernel
theorem dX2_parseShot_161 : decode cX2_parseShot 161 = .ok (.invokevirtual 103, 3) := by decide +kernel
theorem dX2_parseShot_164 : decode cX2_parseShot 164 = .ok (.aload_n 0, 1) := by decide +kernel
theorem dX2_parseShot_165 : decode cX2_parseShot 165 = .ok (.invokevirtual 107, 3) := by decide +kernel
theorem dX2_parseShot_168 : decode cX2_parseShot 168 = .ok (.ireturn, 1) := by decide +kernel
theorem dX2_fail_0 : decode cX2_fail 0 = .ok (.aload_n 0, 1) := by decide +kernel
theorem dX2_fail_1 : decode cX2_fail 1 = .ok (.iload_n 1, 1) := by decide +kernel
theorem dX2_fail_2 : decode cX2_fail 2 = .ok (.putfield 9, 3) := by decide +kernel
theorem dX2_fail_5 : decode cX2_fail 5 = .ok (.aload_n 0, 1) := by decide +kernel
theorem dX2_fail_6 : decode cX2_fail 6 = .ok (.aload_n 0, 1) := by decide +kernel
theorem dX2_fail_7 : decode cX2_fail 7 = .ok (.getfield 136, 3) := by decide +kernel
theorem dX2_fail_10 : decode cX2_fail 10 = .ok (.putfield 15, 3) := by decide +kernel
theorem dX2_fail_13 : decode cX2_fail 13 = .ok (.iconst 0, 1) := by decide +kernel
theorem dX2_fail_14 : decode cX2_fail 14 = .ok (.ireturn, 1) := by decide +kernel
set_option maxRecDepth 20000 in
theorem ggX2_isWord_J0_length_8abf5 : GoodIn wsX2_isWord wsJ0_length_8abf5 := goodIn_r _ [9, 10, 11, 12, 13, 8, 14, 15, 16] (by decide +kernel) (by decide +kernel)
set_option maxRecDepth 20000 in
theorem gX2_isWord_J0_length_8abf5 : GoodIn wsX2_isWord (wsV RX2 139 RJ0 yJ0_length_8abf5 wsJ0_length_8abf5) := goodIn_app (goodIn_of _ (by decide +kernel)) ggX2_isWord_J0_length_8abf5
set_option maxRecDepth 20000 in
theorem ggX2_isWord_X0_get : GoodIn wsX2_isWord wsX0_get := goodIn_r _ [21, 22, 23, 71, 72] (by decide +kernel) (by decide +kernel)
set_option maxRecDepth 20000 in
theorem gX2_isWord_X0_get : GoodIn wsX2_isWord (wsV RX2 144 RX0 yX0_get wsX0_get) := goodIn_app (goodIn_of _ (by decide +kernel)) ggX2_isWord_X0_get
set_option maxRecDepth 20000 in
theorem ggX2_isWord_J0_charAt_5068e : GoodIn wsX2_isWord wsJ0_charAt_5068e := goodIn_r _ [27, 10, 28, 29, 30, 8, 31, 15, 16, 32, 33, 34, 35, 36, 37, 38, 39, 40, 41, 42, 43, 44, 45, 46, 47, 48, 49, 50, 51, 52, 53, 54, 55, 56, 57, 58, 59, 60] (by decide +kernel) (by decide +kernel)
set_option maxRecDepth 20000 in
theorem gX2_isWord_J0_charAt_5068e : GoodIn wsX2_isWord (wsV RX2 150 RJ0 yJ0_charAt_5068e wsJ0_charAt_5068e) := goodIn_app (goodIn_of _ (by decide +kernel)) ggX2_isWord_J0_charAt_5068e
theorem dX2_isWord_0 : decode cX2_isWord 0 = .ok (.aload_n 0, 1) := by decide +kernel
theorem dX2_isWord_1 : decode cX2_isWord 1 = .ok (.getfield 48, 3) := by decide +kernel
theorem dX2_isWord_4 : decode cX2_isWord 4 = .ok (.iconst 1, 1) := by decide +kernel
theorem dX2_isWord_5 : decode cX2_isWord 5 = .ok (.if_icmp .ne 19, 3) := by decide +kernel
theorem dX2_isWord_8 : decode cX2_isWord 8 = .ok (.aload_n 0, 1) := by decide +kernel
theorem dX2_isWord_9 : decode cX2_isWord 9 = .ok (.getfield 31, 3) := by decide +kernel
theorem dX2_isWord_12 : decode cX2_isWord 12 = .ok (.aload_n 0, 1) := by decide +kernel
theorem dX2_isWord_13 : decode cX2_isWord 13 = .ok (.getfield 136, 3) := by decide +kernel
theorem dX2_isWord_16 : decode cX2_isWord 16 = .ok (.isub, 1) := by decide +kernel
theorem dX2_isWord_17 : decode cX2_isWord 17 = .ok (.aload_n 1, 1) := by decide +kernel
theorem dX2_isWord_18 : decode cX2_isWord 18 = .ok (.invokevirtual 139, 3) := by decide +kernel
theorem dX2_isWord_21 : decode cX2_isWord 21 = .ok (.if_icmp .eq 5, 3) := by decide +kernel
theorem dX2_isWord_24 : decode cX2_isWord 24 = .ok (.iconst 0, 1) := by decide +kernel
theorem dX2_isWord_25 : decode cX2_isWord 25 = .ok (.ireturn, 1) := by decide +kernel
theorem dX2_isWord_26 : decode cX2_isWord 26 = .ok (.iconst 0, 1) := by decide +kernel
theorem dX2_isWord_27 : decode cX2_isWord 27 = .ok (.istore_n 2, 1) := by decide +kernel
theorem dX2_isWord_28 : decode cX2_isWord 28 = .ok (.iload_n 2, 1) := by decide +kernel
theorem dX2_isWord_29 : decode cX2_isWord 29 = .ok (.aload_n 1, 1) := by decide +kernel
theorem dX2_isWord_30 : decode cX2_isWord 30 = .ok (.invokevirtual 139, 3) := by decide +kernel
theorem dX2_isWord_33 : decode cX2_isWord 33 = .ok (.if_icmp .ge 32, 3) := by decide +kernel
theorem dX2_isWord_36 : decode cX2_isWord 36 = .ok (.aload_n 0, 1) := by decide +kernel
theorem dX2_isWord_37 : decode cX2_isWord 37 = .ok (.getfield 18, 3) := by decide +kernel
theorem dX2_isWord_40 : decode cX2_isWord 40 = .ok (.aload_n 0, 1) := by decide +kernel
theorem dX2_isWord_41 : decode cX2_isWord 41 = .ok (.getfield 136, 3) := by decide +kernel
theorem dX2_isWord_44 : decode cX2_isWord 44 = .ok (.iload_n 2, 1) := by decide +kernel
theorem dX2_isWord_45 : decode cX2_isWord 45 = .ok (.iadd, 1) := by decide +kernel
theorem dX2_isWord_46 : decode cX2_isWord 46 = .ok (.invokevirtual 144, 3) := by decide +kernel
theorem dX2_isWord_49 : decode cX2_isWord 49 = .ok (.aload_n 1, 1) := by decide +kernel
theorem dX2_isWord_50 : decode cX2_isWord 50 = .ok (.iload_n 2, 1) := by decide +kernel
theorem dX2_isWord_51 : decode cX2_isWord 51 = .ok (.invokevirtual 150, 3) := by decide +kernel
theorem dX2_isWord_54 : decode cX2_isWord 54 = .ok (.if_icmp .eq 5, 3) := by decide +kernel
theorem dX2_isWord_57 : decode cX2_isWord 57 = .ok (.iconst 0, 1) := by decide +kernel
theorem dX2_isWord_58 : decode cX2_isWord 58 = .ok (.ireturn, 1) := by decide +kernel
theorem dX2_isWord_59 : decode cX2_isWord 59 = .ok (.iinc 2 1, 3) := by decide +kernel
theorem dX2_isWord_62 : decode cX2_isWord 62 = .ok (.goto (-34), 3) := by decide +kernel
theorem dX2_isWord_65 : decode cX2_isWord 65 = .ok (.iconst 1, 1) := by decide +kernel
theorem dX2_isWord_66 : decode cX2_isWord 66 = .ok (.ireturn, 1) := by decide +kernel
set_option maxRecDepth 20000 in
theorem ggX2_isNumber_X2_fail : GoodIn wsX2_isNumber wsX2_fail := goodIn_r _ [7, 8, 9, 10, 11, 12, 13, 14, 15, 16, 17, 18, 19, 20] (by decide +kernel) (by decide +kernel)
set_option maxRecDepth 20000 in
theorem gX2_isNumber_X2_fail : GoodIn wsX2_isNumber (wsV RX2 69 RX2 yX2_fail wsX2_fail) := goodIn_app (goodIn_of _ (by decide +kernel)) ggX2_isNumber_X2_fail
theorem dX2_isNumber_0 : decode cX2_isNumber 0 = .ok (.aload_n 0, 1) := by decide +kernel
theorem dX2_isNumber_1 : decode cX2_isNumber 1 = .ok (.getfield 48, 3) := by decide +kernel
theorem dX2_isNumber_4 : decode cX2_isNumber 4 = .ok (.iconst 2, 1) := by decide +kernel
theorem dX2_isNumber_5 : decode cX2_isNumber 5 = .ok (.if_icmp .eq 9, 3) := by decide +kernel
theorem dX2_isNumber_8 : decode cX2_isNumber 8 = .ok (.aload_n 0, 1) := by decide +kernel
theorem dX2_isNumber_9 : decode cX2_isNumber 9 = .ok (.iconst 1, 1) := by decide +kernel
theorem dX2_isNumber_10 : decode cX2_isNumber 10 = .ok (.invokevirtual 69, 3) := by decide +kernel
theorem dX2_isNumber_13 : decode cX2_isNumber 13 = .ok (.ireturn, 1) := by decide +kernel
theorem dX2_isNumber_14 : decode cX2_isNumber 14 = .ok (.aload_n 0, 1) := by decide +kernel
theorem dX2_isNumber_15 : decode cX2_isNumber 15 = .ok (.getfield 123, 3) := by decide +kernel
theorem dX2_isNumber_18 : decode cX2_isNumber 18 = .ok (.iload_n 1, 1) := by decide +kernel
theorem dX2_isNumber_19 : decode cX2_isNumber 19 = .ok (.if_icmp .lt 11, 3) := by decide +kernel
theorem dX2_isNumber_22 : decode cX2_isNumber 22 = .ok (.aload_n 0, 1) := by decide +kernel
theorem dX2_isNumber_23 : decode cX2_isNumber 23 = .ok (.getfield 123, 3) := by decide +kernel
theorem dX2_isNumber_26 : decode cX2_isNumber 26 = .ok (.iload_n 2, 1) := by decide +kernel
theorem dX2_isNumber_27 : decode cX2_isNumber 27 = .ok (.if_icmp .le 11, 3) := by decide +kernel
theorem dX2_isNumber_30 : decode cX2_isNumber 30 = .ok (.aload_n 0, 1) := by decide +kernel
theorem dX2_isNumber_31 : decode cX2_isNumber 31 = .ok (.iconst 2, 1) := by decide +kernel
theorem dX2_isNumber_32 : decode cX2_isNumber 32 = .ok (.invokevirtual 69, 3) := by decide +kernel
theorem dX2_isNumber_35 : decode cX2_isNumber 35 = .ok (.ifCond .eq 7, 3) := by decide +kernel
theorem dX2_isNumber_38 : decode cX2_isNumber 38 = .ok (.iconst 1, 1) := by decide +kernel
theorem dX2_isNumber_39 : decode cX2_isNumber 39 = .ok (.goto 4, 3) := by decide +kernel
theorem dX2_isNumber_42 : decode cX2_isNumber 42 = .ok (.iconst 0, 1) := by decide +kernel
theorem dX2_isNumber_43 : decode cX2_isNumber 43 = .ok (.ireturn, 1) := by decide +kernel
set_option maxRecDepth 20000 in
theorem ggX2_takeNumber_X2_readToken : GoodIn wsX2_takeNumber wsX2_readToken := goodIn_r _ [6, 7, 8, 9, 10, 11, 1, 12, 13, 14, 15, 16, 17, 18, 19, 20, 21, 22, 23, 24, 25, 5, 26, 27, 28, 29, 30, 31, 32, 33, 34, 35, 36, 37, 38, 39, 40, 41, 42, 43, 44] (by decide +kernel) (by decide +kernel)
set_option maxRecDepth 20000 in
theorem gX2_takeNumber_X2_readToken : GoodIn wsX2_takeNumber (wsV RX2 41 RX2 yX2_readToken wsX2_readToken) := goodIn_app (goodIn_of _ (by decide +kernel)) ggX2_takeNumber_X2_readToken
theorem dX2_takeNumber_0 : decode cX2_takeNumber 0 = .ok (.aload_n 0, 1) := by decide +kernel
theorem dX2_takeNumber_1 : decode cX2_takeNumber 1 = .ok (.getfield 123, 3) := by decide +kernel
theorem dX2_takeNumber_4 : decode cX2_takeNumber 4 = .ok (.istore_n 1, 1) := by decide +kernel
theorem dX2_takeNumber_5 : decode cX2_takeNumber 5 = .ok (.aload_n 0, 1) := by decide +kernel
theorem dX2_takeNumber_6 : decode cX2_takeNumber 6 = .ok (.invokevirtual 41, 3) := by decide +kernel
theorem dX2_takeNumber_9 : decode cX2_takeNumber 9 = .ok (.iload_n 1, 1) := by decide +kernel
theorem dX2_takeNumber_10 : decode cX2_takeNumber 10 = .ok (.ireturn, 1) := by decide +kernel
set_option maxRecDepth 20000 in
theorem ggX2_takeWord_X2_isWord : GoodIn wsX2_takeWord wsX2_isWord := goodIn_r _ [5, 6, 7, 8, 9, 10, 11, 12, 13, 14, 15, 16, 17, 18, 19, 20, 21, 22, 23, 24, 25, 26, 27, 28, 29, 30, 31, 32, 33, 34, 35, 36, 37, 38, 39, 40, 41, 42, 43, 44, 45, 46, 47, 48, 49, 50, 51, 52, 53, 54, 55, 56, 57, 58, 59, 60, 61, 62, 63, 64, 65, 92, 93, 94, 95, 96, 97, 98, 99, 100, 101, 102, 103] (by decide +kernel) (by decide +kernel)
set_option maxRecDepth 20000 in
theorem gX2_takeWord_X2_isWord : GoodIn wsX2_takeWord (wsV RX2 53 RX2 yX2_isWord wsX2_isWord) := goodIn_app (goodIn_of _ (by decide +kernel)) ggX2_takeWord_X2_isWord
set_option maxRecDepth 20000 in
theorem ggX2_takeWord_X2_fail : GoodIn wsX2_takeWord wsX2_fail := goodIn_r _ [69, 70, 8, 71, 92, 93, 94, 95, 96, 97, 98, 99, 100, 101] (by decide +kernel) (by decide +kernel)
set_option maxRecDepth 20000 in
theorem gX2_takeWord_X2_fail : GoodIn wsX2_takeWord (wsV RX2 69 RX2 yX2_fail wsX2_fail) := goodIn_app (goodIn_of _ (by decide +kernel)) ggX2_takeWord_X2_fail
set_option maxRecDepth 20000 in
theorem ggX2_takeWord_X2_readToken : GoodIn wsX2_takeWord wsX2_readToken := goodIn_r _ [75, 7, 9, 76, 8, 6, 77, 78, 79, 80, 81, 82, 22, 23, 24, 25, 26, 27, 28, 83, 84, 4, 85, 86, 87, 88, 89, 90, 91, 92, 93, 94, 95, 96, 97, 98, 99, 100, 101, 102, 103] (by decide +kernel) (by decide +kernel)
set_option maxRecDepth 20000 in
theorem gX2_takeWord_X2_readToken : GoodIn wsX2_takeWord (wsV RX2 41 RX2 yX2_readToken wsX2_readToken) := goodIn_app (goodIn_of _ (by decide +kernel)) ggX2_takeWord_X2_readToken
theorem dX2_takeWord_0 : decode cX2_takeWord 0 = .ok (.aload_n 0, 1) := by decide +kernel
theorem dX2_takeWord_1 : decode cX2_takeWord 1 = .ok (.aload_n 1, 1) := by decide +kernel
theorem dX2_takeWord_2 : decode cX2_takeWord 2 = .ok (.invokevirtual 53, 3) := by decide +kernel
theorem dX2_takeWord_5 : decode cX2_takeWord 5 = .ok (.ifCond .ne 9, 3) := by decide +kernel
theorem dX2_takeWord_8 : decode cX2_takeWord 8 = .ok (.aload_n 0, 1) := by decide +kernel
theorem dX2_takeWord_9 : decode cX2_takeWord 9 = .ok (.iconst 1, 1) := by decide +kernel
theorem dX2_takeWord_10 : decode cX2_takeWord 10 = .ok (.invokevirtual 69, 3) := by decide +kernel
theorem dX2_takeWord_13 : decode cX2_takeWord 13 = .ok (.ireturn, 1) := by decide +kernel
theorem dX2_takeWord_14 : decode cX2_takeWord 14 = .ok (.aload_n 0, 1) := by decide +kernel
theorem dX2_takeWord_15 : decode cX2_takeWord 15 = .ok (.invokevirtual 41, 3) := by decide +kernel
theorem dX2_takeWord_18 : decode cX2_takeWord 18 = .ok (.iconst 1, 1) := by decide +kernel
theorem dX2_takeWord_19 : decode cX2_takeWord 19 = .ok (.ireturn, 1) := by decide +kernel
set_option maxRecDepth 20000 in
theorem ggX2_takeSemicolon_X0_get : GoodIn wsX2_takeSemicolon wsX0_get := goodIn_r _ [8, 9, 10, 49, 50] (by decide +kernel) (by decide +kernel)
set_option maxRecDepth 20000 in
theorem gX2_takeSemicolon_X0_get : GoodIn wsX2_takeSemicolon (wsV RX2 144 RX0 yX0_get wsX0_get) := goodIn_app (goodIn_of _ (by decide +kernel)) ggX2_takeSemicolon_X0_get
set_option maxRecDepth 20000 in
theorem ggX2_takeSemicolon_X2_fail : GoodIn wsX2_takeSemicolon wsX2_fail := goodIn_r _ [15, 16, 3, 17, 39, 40, 41, 42, 43, 44, 45, 46, 47, 48] (by decide +kernel) (by decide +kernel)
set_option maxRecDepth 20000 in
theorem gX2_takeSemicolon_X2_fail : GoodIn wsX2_takeSemicolon (wsV RX2 69 RX2 yX2_fail wsX2_fail) := goodIn_app (goodIn_of _ (by decide +kernel)) ggX2_takeSemicolon_X2_fail
set_option maxRecDepth 20000 in
theorem ggX2_takeSemicolon_X2_readToken : GoodIn wsX2_takeSemicolon wsX2_readToken := goodIn_r _ [21, 22, 2, 23, 3, 1, 24, 25, 26, 27, 28, 29, 4, 5, 6, 7, 8, 9, 10, 30, 31, 14, 32, 33, 34, 35, 36, 37, 38, 39, 40, 41, 42, 43, 44, 45, 46, 47, 48, 49, 50] (by decide +kernel) (by decide +kernel)
set_option maxRecDepth 20000 in
theorem gX2_takeSemicolon_X2_readToken : GoodIn wsX2_takeSemicolon (wsV RX2 41 RX2 yX2_readToken wsX2_readToken) := goodIn_app (goodIn_of _ (by decide +kernel)) ggX2_takeSemicolon_X2_readToken
theorem dX2_takeSemicolon_0 : decode cX2_takeSemicolon 0 = .ok (.aload_n 0, 1) := by decide +kernel
theorem dX2_takeSemicolon_1 : decode cX2_takeSemicolon 1 = .ok (.getfield 48, 3) := by decide +kernel
theorem dX2_takeSemicolon_4 : decode cX2_takeSemicolon 4 = .ok (.iconst 3, 1) := by decide +kernel
theorem dX2_takeSemicolon_5 : decode cX2_takeSemicolon 5 = .ok (.if_icmp .ne 19, 3) := by decide +kernel
theorem dX2_takeSemicolon_8 : decode cX2_takeSemicolon 8 = .ok (.aload_n 0, 1) := by decide +kernel
theorem dX2_takeSemicolon_9 : decode cX2_takeSemicolon 9 = .ok (.getfield 18, 3) := by decide +kernel
theorem dX2_takeSemicolon_12 : decode cX2_takeSemicolon 12 = .ok (.aload_n 0, 1) := by decide +kernel
theorem dX2_takeSemicolon_13 : decode cX2_takeSemicolon 13 = .ok (.getfield 136, 3) := by decide +kernel
theorem dX2_takeSemicolon_16 : decode cX2_takeSemicolon 16 = .ok (.invokevirtual 144, 3) := by decide +kernel
theorem dX2_takeSemicolon_19 : decode cX2_takeSemicolon 19 = .ok (.bipush 59, 2) := by decide +kernel
theorem dX2_takeSemicolon_21 : decode cX2_takeSemicolon 21 = .ok (.if_icmp .eq 9, 3) := by decide +kernel
theorem dX2_takeSemicolon_24 : decode cX2_takeSemicolon 24 = .ok (.aload_n 0, 1) := by decide +kernel
theorem dX2_takeSemicolon_25 : decode cX2_takeSemicolon 25 = .ok (.iconst 1, 1) := by decide +kernel
theorem dX2_takeSemicolon_26 : decode cX2_takeSemicolon 26 = .ok (.invokevirtual 69, 3) := by decide +kernel
theorem dX2_takeSemicolon_29 : decode cX2_takeSemicolon 29 = .ok (.ireturn, 1) := by decide +kernel
theorem dX2_takeSemicolon_30 : decode cX2_takeSemicolon 30 = .ok (.aload_n 0, 1) := by decide +kernel
theorem dX2_takeSemicolon_31 : decode cX2_takeSemicolon 31 = .ok (.invokevirtual 41, 3) := by decide +kernel
theorem dX2_takeSemicolon_34 : decode cX2_takeSemicolon 34 = .ok (.iconst 1, 1) := by decide +kernel
theorem dX2_takeSemicolon_35 : decode cX2_takeSemicolon 35 = .ok (.ireturn, 1) := by decide +kernel
set_option maxRecDepth 20000 in
theorem ggX2_readToken_X0_get : GoodIn wsX2_readToken wsX0_get := goodIn_r _ [16, 17, 18, 39, 40] (by decide +kernel) (by decide +kernel)
set_option maxRecDepth 20000 in
theorem gX2_readToken_X0_get : GoodIn wsX2_readToken (wsV RX2 144 RX0 yX0_get wsX0_get) := goodIn_app (goodIn_of _ (by decide +kernel)) ggX2_readToken_X0_get
set_option maxRecDepth 20000 in
theorem ggX2_readToken_X2_isBlank : GoodIn wsX2_readToken wsX2_isBlank := goodIn_r _ [22] (by decide +kernel) (by decide +kernel)
set_option maxRecDepth 20000 in
theorem gX2_readToken_X2_isBlank : GoodIn wsX2_readToken (va_wsS RX2 156 yX2_isBlank wsX2_isBlank) := goodIn_app (goodIn_of _ (by decide +kernel)) ggX2_readToken_X2_isBlank
set_option maxRecDepth 20000 in
theorem ggX2_readToken_X2_isLetter : GoodIn wsX2_readToken wsX2_isLetter := goodIn_r _ [25] (by decide +kernel) (by decide +kernel)
set_option maxRecDepth 20000 in
theorem gX2_readToken_X2_isLetter : GoodIn wsX2_readToken (va_wsS RX2 159 yX2_isLetter wsX2_isLetter) := goodIn_app (goodIn_of _ (by decide +kernel)) ggX2_readToken_X2_isLetter
set_option maxRecDepth 20000 in
theorem ggX2_readToken_X2_isDigit : GoodIn wsX2_readToken wsX2_isDigit := goodIn_r _ [28] (by decide +kernel) (by decide +kernel)
set_option maxRecDepth 20000 in
theorem gX2_readToken_X2_isDigit : GoodIn wsX2_readToken (va_wsS RX2 162 yX2_isDigit wsX2_isDigit) := goodIn_app (goodIn_of _ (by decide +kernel)) ggX2_readToken_X2_isDigit
theorem dX2_readToken_0 : decode cX2_readToken 0 = .ok (.aload_n 0, 1) := by decide +kernel
theorem dX2_readToken_1 : decode cX2_readToken 1 = .ok (.getfield 31, 3) := by decide +kernel
theorem dX2_readToken_4 : decode cX2_readToken 4 = .ok (.aload_n 0, 1) := by decide +kernel
theorem dX2_readToken_5 : decode cX2_readToken 5 = .ok (.getfield 18, 3) := by decide +kernel
theorem dX2_readToken_8 : decode cX2_readToken 8 = .ok (.getfield 154, 3) := by decide +kernel
theorem dX2_readToken_11 : decode cX2_readToken 11 = .ok (.if_icmp .ge 33, 3) := by decide +kernel
theorem dX2_readToken_14 : decode cX2_readToken 14 = .ok (.aload_n 0, 1) := by decide +kernel
theorem dX2_readToken_15 : decode cX2_readToken 15 = .ok (.getfield 18, 3) := by decide +kernel
theorem dX2_readToken_18 : decode cX2_readToken 18 = .ok (.aload_n 0, 1) := by decide +kernel
theorem dX2_readToken_19 : decode cX2_readToken 19 = .ok (.getfield 31, 3) := by decide +kernel
theorem dX2_readToken_22 : decode cX2_readToken 22 = .ok (.invokevirtual 144, 3) := by decide +kernel
theorem dX2_readToken_25 : decode cX2_readToken 25 = .ok (.invokestatic 156, 3) := by decide +kernel
theorem dX2_readToken_28 : decode cX2_readToken 28 = .ok (.ifCond .eq 16, 3) := by decide +kernel
theorem dX2_readToken_31 : decode cX2_readToken 31 = .ok (.aload_n 0, 1) := by decide +kernel
theorem dX2_readToken_32 : decode cX2_readToken 32 = .ok (.dup, 1) := by decide +kernel
theorem dX2_readToken_33 : decode cX2_readToken 33 = .ok (.getfield 31, 3) := by decide +kernel
theorem dX2_readToken_36 : decode cX2_readToken 36 = .ok (.iconst 1, 1) := by decide +kernel
theorem dX2_readToken_37 : decode cX2_readToken 37 = .ok (.iadd, 1) := by decide +kernel
theorem dX2_readToken_38 : decode cX2_readToken 38 = .ok (.putfield 31, 3) := by decide +kernel
theorem dX2_readToken_41 : decode cX2_readToken 41 = .ok (.goto (-41), 3) := by decide +kernel
theorem dX2_readToken_44 : decode cX2_readToken 44 = .ok (.aload_n 0, 1) := by decide +kernel
theorem dX2_readToken_45 : decode cX2_readToken 45 = .ok (.aload_n 0, 1) := by decide +kernel
theorem dX2_readToken_46 : decode cX2_readToken 46 = .ok (.getfield 31, 3) := by decide +kernel
theorem dX2_readToken_49 : decode cX2_readToken 49 = .ok (.putfield 136, 3) := by decide +kernel
theorem dX2_readToken_52 : decode cX2_readToken 52 = .ok (.aload_n 0, 1) := by decide +kernel
theorem dX2_readToken_53 : decode cX2_readToken 53 = .ok (.getfield 18, 3) := by decide +kernel
theorem dX2_readToken_56 : decode cX2_readToken 56 = .ok (.aload_n 0, 1) := by decide +kernel
theorem dX2_readToken_57 : decode cX2_readToken 57 = .ok (.getfield 31, 3) := by decide +kernel
theorem dX2_readToken_60 : decode cX2_readToken 60 = .ok (.invokevirtual 144, 3) := by decide +kernel
theorem dX2_readToken_63 : decode cX2_readToken 63 = .ok (.istore_n 1, 1) := by decide +kernel
theorem dX2_readToken_64 : decode cX2_readToken 64 = .ok (.iload_n 1, 1) := by decide +kernel
theorem dX2_readToken_65 : decode cX2_readToken 65 = .ok (.iconst (-1), 1) := by decide +kernel
theorem dX2_readToken_66 : decode cX2_readToken 66 = .ok (.if_icmp .ne 11, 3) := by decide +kernel
theorem dX2_readToken_69 : decode cX2_readToken 69 = .ok (.aload_n 0, 1) := by decide +kernel
theorem dX2_readToken_70 : decode cX2_readToken 70 = .ok (.iconst 0, 1) := by decide +kernel
theorem dX2_readToken_71 : decode cX2_readToken 71 = .ok (.putfield 48, 3) := by decide +kernel
theorem dX2_readToken_74 : decode cX2_readToken 74 = .ok (.goto 166, 3) := by decide +kernel
theorem dX2_readToken_77 : decode cX2_readToken 77 = .ok (.iload_n 1, 1) := by decide +kernel
theorem dX2_readToken_78 : decode cX2_readToken 78 = .ok (.invokestatic 159, 3) := by decide +kernel
theorem dX2_readToken_81 : decode cX2_readToken 81 = .ok (.ifCond .eq 52, 3) := by decide +kernel
theorem dX2_readToken_84 : decode cX2_readToken 84 = .ok (.aload_n 0, 1) := by decide +kernel
theorem dX2_readToken_85 : decode cX2_readToken 85 = .ok (.iconst 1, 1) := by decide +kernel
theorem dX2_readToken_86 : decode cX2_readToken 86 = .ok (.putfield 48, 3) := by decide +kernel
theorem dX2_readToken_89 : decode cX2_readToken 89 = .ok (.aload_n 0, 1) := by decide +kernel
theorem dX2_readToken_90 : decode cX2_readToken 90 = .ok (.getfield 31, 3) := by decide +kernel
theorem dX2_readToken_93 : decode cX2_readToken 93 = .ok (.aload_n 0, 1) := by decide +kernel
theorem dX2_readToken_94 : decode cX2_readToken 94 = .ok (.getfield 18, 3) := by decide +kernel
theorem dX2_readToken_97 : decode cX2_readToken 97 = .ok (.getfield 154, 3) := by decide +kernel
theorem dX2_readToken_100 : decode cX2_readToken 100 = .ok (.if_icmp .ge 140, 3) := by decide +kernel
theorem dX2_readToken_103 : decode cX2_readToken 103 = .ok (.aload_n 0, 1) := by decide +kernel
theorem dX2_readToken_104 : decode cX2_readToken 104 = .ok (.getfield 18, 3) := by decide +kernel
theorem dX2_readToken_107 : decode cX2_readToken 107 = .ok (.aload_n 0, 1) := by decide +kernel
theorem dX2_readToken_108 : decode cX2_readToken 108 = .ok (.getfield 31, 3) := by decide +kernel
theorem dX2_readToken_111 : decode cX2_readToken 111 = .ok (.invokevirtual 144, 3) := by decide +kernel
theorem dX2_readToken_114 : decode cX2_readToken 114 = .ok (.invokestatic 159, 3) := by decide +kernel
theorem dX2_readToken_117 : decode cX2_readToken 117 = .ok (.ifCond .eq 123, 3) := by decide +kernel
theorem dX2_readToken_120 : decode cX2_readToken 120 = .ok (.aload_n 0, 1) := by decide +kernel
theorem dX2_readToken_121 : decode cX2_readToken 121 = .ok (.dup, 1) := by decide +kernel
theorem dX2_readToken_122 : decode cX2_readToken 122 = .ok (.getfield 31, 3) := by decide +kernel
theorem dX2_readToken_125 : decode cX2_readToken 125 = .ok (.iconst 1, 1) := by decide +kernel
theorem dX2_readToken_126 : decode cX2_readToken 126 = .ok (.iadd, 1) := by decide +kernel
theorem dX2_readToken_127 : decode cX2_readToken 127 = .ok (.putfield 31, 3) := by decide +kernel
theorem dX2_readToken_130 : decode cX2_readToken 130 = .ok (.goto (-41), 3) := by decide +kernel
theorem dX2_readToken_133 : decode cX2_readToken 133 = .ok (.iload_n 1, 1) := by decide +kernel
theorem dX2_readToken_134 : decode cX2_readToken 134 = .ok (.invokestatic 162, 3) := by decide +kernel
theorem dX2_readToken_137 : decode cX2_readToken 137 = .ok (.ifCond .eq 88, 3) := by decide +kernel
theorem dX2_readToken_140 : decode cX2_readToken 140 = .ok (.aload_n 0, 1) := by decide +kernel
theorem dX2_readToken_141 : decode cX2_readToken 141 = .ok (.iconst 2, 1) := by decide +kernel
theorem dX2_readToken_142 : decode cX2_readToken 142 = .ok (.putfield 48, 3) := by decide +kernel
theorem dX2_readToken_145 : decode cX2_readToken 145 = .ok (.aload_n 0, 1) := by decide +kernel
theorem dX2_readToken_146 : decode cX2_readToken 146 = .ok (.iconst 0, 1) := by decide +kernel
theorem dX2_readToken_147 : decode cX2_readToken 147 = .ok (.putfield 123, 3) := by decide +kernel
theorem dX2_readToken_150 : decode cX2_readToken 150 = .ok (.aload_n 0, 1) := by decide +kernel
theorem dX2_readToken_151 : decode cX2_readToken 151 = .ok (.getfield 31, 3) := by decide +kernel
theorem dX2_readToken_154 : decode cX2_readToken 154 = .ok (.aload_n 0, 1) := by decide +kernel
theorem dX2_readToken_155 : decode cX2_readToken 155 = .ok (.getfield 18, 3) := by decide +kernel
theorem dX2_readToken_158 : decode cX2_readToken 158 = .ok (.getfield 154, 3) := by decide +kernel
theorem dX2_readToken_161 : decode cX2_readToken 161 = .ok (.if_icmp .ge 79, 3) := by decide +kernel
theorem dX2_readToken_164 : decode cX2_readToken 164 = .ok (.aload_n 0, 1) := by decide +kernel
theorem dX2_readToken_165 : decode cX2_readToken 165 = .ok (.getfield 18, 3) := by decide +kernel
theorem dX2_readToken_168 : decode cX2_readToken 168 = .ok (.aload_n 0, 1) := by decide +kernel
theorem dX2_readToken_169 : decode cX2_readToken 169 = .ok (.getfield 31, 3) := by decide +kernel
theorem dX2_readToken_172 : decode cX2_readToken 172 = .ok (.invokevirtual 144, 3) := by decide +kernel
theorem dX2_readToken_175 : decode cX2_readToken 175 = .ok (.invokestatic 162, 3) := by decide +kernel
theorem dX2_readToken_178 : decode cX2_readToken 178 = .ok (.ifCond .eq 62, 3) := by decide +kernel
theorem dX2_readToken_181 : decode cX2_readToken 181 = .ok (.aload_n 0, 1) := by decide +kernel
theorem dX2_readToken_182 : decode cX2_readToken 182 = .ok (.ldc 165, 2) := by decide +kernel
theorem dX2_readToken_184 : decode cX2_readToken 184 = .ok (.aload_n 0, 1) := by decide +kernel
theorem dX2_readToken_185 : decode cX2_readToken 185 = .ok (.getfield 123, 3) := by decide +kernel
theorem dX2_readToken_188 : decode cX2_readToken 188 = .ok (.bipush 10, 2) := by decide +kernel
theorem dX2_readToken_190 : decode cX2_readToken 190 = .ok (.imul, 1) := by decide +kernel
theorem dX2_readToken_191 : decode cX2_readToken 191 = .ok (.aload_n 0, 1) := by decide +kernel
theorem dX2_readToken_192 : decode cX2_readToken 192 = .ok (.getfield 18, 3) := by decide +kernel
theorem dX2_readToken_195 : decode cX2_readToken 195 = .ok (.aload_n 0, 1) := by decide +kernel
theorem dX2_readToken_196 : decode cX2_readToken 196 = .ok (.getfield 31, 3) := by decide +kernel
theorem dX2_readToken_199 : decode cX2_readToken 199 = .ok (.invokevirtual 144, 3) := by decide +kernel
theorem dX2_readToken_202 : decode cX2_readToken 202 = .ok (.iadd, 1) := by decide +kernel
theorem dX2_readToken_203 : decode cX2_readToken 203 = .ok (.bipush 48, 2) := by decide +kernel
theorem dX2_readToken_205 : decode cX2_readToken 205 = .ok (.isub, 1) := by decide +kernel
theorem dX2_readToken_206 : decode cX2_readToken 206 = .ok (.invokestatic 166, 3) := by decide +kernel
theorem dX2_readToken_209 : decode cX2_readToken 209 = .ok (.putfield 123, 3) := by decide +kernel
theorem dX2_readToken_212 : decode cX2_readToken 212 = .ok (.aload_n 0, 1) := by decide +kernel
theorem dX2_readToken_213 : decode cX2_readToken 213 = .ok (.dup, 1) := by decide +kernel
theorem dX2_readToken_214 : decode cX2_readToken 214 = .ok (.getfield 31, 3) := by decide +kernel
theorem dX2_readToken_217 : decode cX2_readToken 217 = .ok (.iconst 1, 1) := by decide +kernel
theorem dX2_readToken_218 : decode cX2_readToken 218 = .ok (.iadd, 1) := by decide +kernel
theorem dX2_readToken_219 : decode cX2_readToken 219 = .ok (.putfield 31, 3) := by decide +kernel
theorem dX2_readToken_222 : decode cX2_readToken 222 = .ok (.goto (-72), 3) := by decide +kernel
theorem dX2_readToken_225 : decode cX2_readToken 225 = .ok (.aload_n 0, 1) := by decide +kernel
theorem dX2_readToken_226 : decode cX2_readToken 226 = .ok (.iconst 3, 1) := by decide +kernel
theorem dX2_readToken_227 : decode cX2_readToken 227 = .ok (.putfield 48, 3) := by decide +kernel
theorem dX2_readToken_230 : decode cX2_readToken 230 = .ok (.aload_n 0, 1) := by decide +kernel
theorem dX2_readToken_231 : decode cX2_readToken 231 = .ok (.dup, 1) := by decide +kernel
theorem dX2_readToken_232 : decode cX2_readToken 232 = .ok (.getfield 31, 3) := by decide +kernel
theorem dX2_readToken_235 : decode cX2_readToken 235 = .ok (.iconst 1, 1) := by decide +kernel
theorem dX2_readToken_236 : decode cX2_readToken 236 = .ok (.iadd, 1) := by decide +kernel
theorem dX2_readToken_237 : decode cX2_readToken 237 = .ok (.putfield 31, 3) := by decide +kernel
theorem dX2_readToken_240 : decode cX2_readToken 240 = .ok (.return_, 1) := by decide +kernel
theorem dX2_isBlank_0 : decode cX2_isBlank 0 = .ok (.iload_n 0, 1) := by decide +kernel
theorem dX2_isBlank_1 : decode cX2_isBlank 1 = .ok (.bipush 32, 2) := by decide +kernel
theorem dX2_isBlank_3 : decode cX2_isBlank 3 = .ok (.if_icmp .eq 9, 3) := by decide +kernel
theorem dX2_isBlank_6 : decode cX2_isBlank 6 = .ok (.iload_n 0, 1) := by decide +kernel
theorem dX2_isBlank_7 : decode cX2_isBlank 7 = .ok (.bipush 10, 2) := by decide +kernel
theorem dX2_isBlank_9 : decode cX2_isBlank 9 = .ok (.if_icmp .ne 7, 3) := by decide +kernel
theorem dX2_isBlank_12 : decode cX2_isBlank 12 = .ok (.iconst 1, 1) := by decide +kernel
theorem dX2_isBlank_13 : decode cX2_isBlank 13 = .ok (.goto 4, 3) := by decide +kernel
theorem dX2_isBlank_16 : decode cX2_isBlank 16 = .ok (.iconst 0, 1) := by decide +kernel
theorem dX2_isBlank_17 : decode cX2_isBlank 17 = .ok (.ireturn, 1) := by decide +kernel
theorem dX2_isLetter_0 : decode cX2_isLetter 0 = .ok (.iload_n 0, 1) := by decide +kernel
theorem dX2_isLetter_1 : decode cX2_isLetter 1 = .ok (.bipush 97, 2) := by decide +kernel
theorem dX2_isLetter_3 : decode cX2_isLetter 3 = .ok (.if_icmp .lt 13, 3) := by decide +kernel
theorem dX2_isLetter_6 : decode cX2_isLetter 6 = .ok (.iload_n 0, 1) := by decide +kernel
theorem dX2_isLetter_7 : decode cX2_isLetter 7 = .ok (.bipush 122, 2) := by decide +kernel
theorem dX2_isLetter_9 : decode cX2_isLetter 9 = .ok (.if_icmp .gt 7, 3) := by decide +kernel
theorem dX2_isLetter_12 : decode cX2_isLetter 12 = .ok (.iconst 1, 1) := by decide +kernel
theorem dX2_isLetter_13 : decode cX2_isLetter 13 = .ok (.goto 4, 3) := by decide +kernel
theorem dX2_isLetter_16 : decode cX2_isLetter 16 = .ok (.iconst 0, 1) := by decide +kernel
theorem dX2_isLetter_17 : decode cX2_isLetter 17 = .ok (.ireturn, 1) := by decide +kernel
theorem dX2_isDigit_0 : decode cX2_isDigit 0 = .ok (.iload_n 0, 1) := by decide +kernel
theorem dX2_isDigit_1 : decode cX2_isDigit 1 = .ok (.bipush 48, 2) := by decide +kernel
theorem dX2_isDigit_3 : decode cX2_isDigit 3 = .ok (.if_icmp .lt 13, 3) := by decide +kernel
theorem dX2_isDigit_6 : decode cX2_isDigit 6 = .ok (.iload_n 0, 1) := by decide +kernel
theorem dX2_isDigit_7 : decode cX2_isDigit 7 = .ok (.bipush 57, 2) := by decide +kernel
theorem dX2_isDigit_9 : decode cX2_isDigit 9 = .ok (.if_icmp .gt 7, 3) := by decide +kernel
theorem dX2_isDigit_12 : decode cX2_isDigit 12 = .ok (.iconst 1, 1) := by decide +kernel
theorem dX2_isDigit_13 : decode cX2_isDigit 13 = .ok (.goto 4, 3) := by decide +kernel
theorem dX2_isDigit_16 : decode cX2_isDigit 16 = .ok (.iconst 0, 1) := by decide +kernel
theorem dX2_isDigit_17 : decode cX2_isDigit 17 = .ok (.ireturn, 1) := by decide +kernel
set_option maxRecDepth 20000 in
theorem ggX3_init_X4_init : GoodIn wsX3_init wsX4_init := goodIn_r _ [15, 16, 2, 3, 5, 17, 18, 19, 20, 21, 26, 27, 28, 29, 30, 31, 32, 33, 34, 35, 36, 37, 38, 39, 40, 41, 42, 43] (by decide +kernel) (by decide +kernel)
set_option maxRecDepth 20000 in
theorem gX3_init_X4_init : GoodIn wsX3_init (wsX4_init) := ggX3_init_X4_init
theorem dX3_init_0 : decode cX3_init 0 = .ok (.aload_n 0, 1) := by decide +kernel
theorem dX3_init_1 : decode cX3_init 1 = .ok (.invokespecial 3, 3) := by decide +kernel
theorem dX3_init_4 : decode cX3_init 4 = .ok (.aload_n 0, 1) := by decide +kernel
theorem dX3_init_5 : decode cX3_init 5 = .ok (.bipush 7, 2) := by decide +kernel
theorem dX3_init_7 : decode cX3_init 7 = .ok (.bipush 60, 2) := by decide +kernel
theorem dX3_init_9 : decode cX3_init 9 = .ok (.multianewarray 9 2, 4) := by decide +kernel
theorem dX3_init_13 : decode cX3_init 13 = .ok (.putfield 11, 3) := by decide +kernel
theorem dX3_init_16 : decode cX3_init 16 = .ok (.aload_n 0, 1) := by decide +kernel
theorem dX3_init_17 : decode cX3_init 17 = .ok (.iconst 0, 1) := by decide +kernel
theorem dX3_init_18 : decode cX3_init 18 = .ok (.putfield 16, 3) := by decide +kernel
theorem dX3_init_21 : decode cX3_init 21 = .ok (.aload_n 0, 1) := by decide +kernel
theorem dX3_init_22 : decode cX3_init 22 = .ok (.iconst 4, 1) := by decide +kernel
theorem dX3_init_23 : decode cX3_init 23 = .ok (.putfield 20, 3) := by decide +kernel
theorem dX3_init_26 : decode cX3_init 26 = .ok (.aload_n 0, 1) := by decide +kernel
theorem dX3_init_27 : decode cX3_init 27 = .ok (.new 23, 3) := by decide +kernel
theorem dX3_init_30 : decode cX3_init 30 = .ok (.dup, 1) := by decide +kernel
theorem dX3_init_31 : decode cX3_init 31 = .ok (.aload_n 1, 1) := by decide +kernel
theorem dX3_init_32 : decode cX3_init 32 = .ok (.invokespecial 25, 3) := by decide +kernel
theorem dX3_init_35 : decode cX3_init 35 = .ok (.putfield 28, 3) := by decide +kernel
theorem dX3_init_38 : decode cX3_init 38 = .ok (.return_, 1) := by decide +kernel
set_option maxRecDepth 20000 in
theorem ggX3_trace_X4_enter : GoodIn wsX3_trace wsX4_enter := goodIn_r _ [13, 14, 15, 16, 17, 18, 19, 20, 21, 22, 23, 24, 25, 26, 27, 28, 29, 30, 31, 32, 33, 34, 35, 36, 148, 149, 150, 151, 152, 153, 154, 155, 156, 157, 158, 159, 160, 161, 162, 163, 164, 165, 166, 167, 168, 169, 170, 171, 172] (by decide +kernel) (by decide +kernel)
set_option maxRecDepth 20000 in
theorem gX3_trace_X4_enter : GoodIn wsX3_trace (wsV RX3 32 RX4 yX4_enter wsX4_enter) := goodIn_app (goodIn_of _ (by decide +kernel)) ggX3_trace_X4_enter
set_option maxRecDepth 20000 in
theorem ggX3_trace_X4_begin : GoodIn wsX3_trace wsX4_begin := goodIn_r _ [40, 41, 42, 43, 44, 45, 46, 47, 48, 49, 50, 51, 14, 52, 53, 54, 55, 56, 57, 58, 21, 59, 24, 60, 61, 62, 31, 63, 64, 28, 29, 30, 32, 33, 65, 66, 67, 68, 148, 149, 150, 151, 152, 153, 154, 155, 156, 157, 158, 159, 160, 161, 162, 163, 164, 165, 166, 167, 168, 169, 170, 171, 172] (by decide +kernel) (by decide +kernel)
set_option maxRecDepth 20000 in
theorem gX3_trace_X4_begin : GoodIn wsX3_trace (wsV RX3 35 RX4 yX4_begin wsX4_begin) := goodIn_app (goodIn_of _ (by decide +kernel)) ggX3_trace_X4_begin
set_option maxRecDepth 20000 in
theorem ggX3_trace_X4_isUnderWay : GoodIn wsX3_trace wsX4_isUnderWay := goodIn_r _ [72, 52, 148, 149, 150, 151, 152, 153, 154, 155, 156, 157, 158, 159, 160, 161, 162, 163, 164, 165] (by decide +kernel) (by decide +kernel)
set_option maxRecDepth 20000 in
theorem gX3_trace_X4_isUnderWay : GoodIn wsX3_trace (wsV RX3 39 RX4 yX4_isUnderWay wsX4_isUnderWay) := goodIn_app (goodIn_of _ (by decide +kernel)) ggX3_trace_X4_isUnderWay
set_option maxRecDepth 20000 in
theorem ggX3_trace_X3_set : GoodIn wsX3_trace wsX3_set := goodIn_r _ [77, 78, 34, 35, 36, 144, 145, 146, 147] (by decide +kernel) (by decide +kernel)
set_option maxRecDepth 20000 in
theorem gX3_trace_X3_set : GoodIn wsX3_trace (wsV RX3 46 RX3 yX3_set wsX3_set) := goodIn_app (goodIn_of _ (by decide +kernel)) ggX3_trace_X3_set
set_option maxRecDepth 20000 in
theorem ggX3_trace_X4_cross : GoodIn wsX3_trace wsX4_cross := goodIn_r _ [82, 41, 44, 45, 46, 47, 51, 83, 84, 85, 86, 54, 14, 15, 87, 88, 89, 90, 91, 92, 93, 12, 94, 55, 95, 35, 96, 97, 98, 99, 100, 43, 101, 102, 103, 29, 30, 31, 32, 33, 104, 105, 106, 34, 36, 107, 108, 109, 110, 111, 112, 113, 114, 148, 149, 150, 151, 152, 153, 154, 155, 156, 157, 158, 159, 160, 161, 162, 163, 164, 165, 166, 167, 168, 169, 170, 171, 172] (by decide +kernel) (by decide +kernel)
set_option maxRecDepth 20000 in
theorem gX3_trace_X4_cross : GoodIn wsX3_trace (wsV RX3 54 RX4 yX4_cross wsX4_cross) := goodIn_app (goodIn_of _ (by decide +kernel)) ggX3_trace_X4_cross
set_option maxRecDepth 20000 in
theorem ggX3_trace_X4_shiftIn : GoodIn wsX3_trace wsX4_shiftIn := goodIn_r _ [114, 101, 95, 35, 96, 148, 149, 150, 151, 152, 153, 154, 155, 156, 157, 158, 159, 160, 161, 162, 163, 164, 165] (by decide +kernel) (by decide +kernel)
set_option maxRecDepth 20000 in
theorem gX3_trace_X4_shiftIn : GoodIn wsX3_trace (wsV RX3 57 RX4 yX4_shiftIn wsX4_shiftIn) := goodIn_app (goodIn_of _ (by decide +kernel)) ggX3_trace_X4_shiftIn
set_option maxRecDepth 20000 in
theorem ggX3_trace_X4_lengthIn : GoodIn wsX3_trace wsX4_lengthIn := goodIn_r _ [110, 102, 95, 35, 96, 148, 149, 150, 151, 152, 153, 154, 155, 156, 157, 158, 159, 160, 161, 162, 163, 164, 165] (by decide +kernel) (by decide +kernel)
set_option maxRecDepth 20000 in
theorem gX3_trace_X4_lengthIn : GoodIn wsX3_trace (wsV RX3 61 RX4 yX4_lengthIn wsX4_lengthIn) := goodIn_app (goodIn_of _ (by decide +kernel)) ggX3_trace_X4_lengthIn
set_option maxRecDepth 20000 in
theorem ggX3_trace_X4_timeIn : GoodIn wsX3_trace wsX4_timeIn := goodIn_r _ [94, 55, 95, 35, 96, 148, 149, 150, 151, 152, 153, 154, 155, 156, 157, 158, 159, 160, 161, 162, 163, 164, 165] (by decide +kernel) (by decide +kernel)
set_option maxRecDepth 20000 in
theorem gX3_trace_X4_timeIn : GoodIn wsX3_trace (wsV RX3 64 RX4 yX4_timeIn wsX4_timeIn) := goodIn_app (goodIn_of _ (by decide +kernel)) ggX3_trace_X4_timeIn
set_option maxRecDepth 20000 in
theorem ggX3_trace_X4_goOn : GoodIn wsX3_trace wsX4_goOn := goodIn_r _ [121, 54, 42, 41, 17, 43, 14, 15, 44, 122, 123, 124, 12, 125, 52, 95, 35, 96, 126, 61, 62, 31, 63, 64, 127, 128, 129, 130, 50, 131, 132, 133, 21, 134, 26, 24, 25, 135, 136, 137, 138, 49, 139, 140, 141, 142, 143, 48, 148, 149, 150, 151, 152, 153, 154, 155, 156, 157, 158, 159, 160, 161, 162, 163, 164, 165, 166, 167, 168, 169, 170, 171, 172] (by decide +kernel) (by decide +kernel)
set_option maxRecDepth 20000 in
theorem gX3_trace_X4_goOn : GoodIn wsX3_trace (wsV RX3 70 RX4 yX4_goOn wsX4_goOn) := goodIn_app (goodIn_of _ (by decide +kernel)) ggX3_trace_X4_goOn
theorem dX3_trace_0 : decode cX3_trace 0 = .ok (.aload_n 0, 1) := by decide +kernel
theorem dX3_trace_1 : decode cX3_trace 1 = .ok (.getfield 28, 3) := by decide +kernel
theorem dX3_trace_4 : decode cX3_trace 4 = .ok (.aload_n 1, 1) := by decide +kernel
theorem dX3_trace_5 : decode cX3_trace 5 = .ok (.invokevirtual 32, 3) := by decide +kernel
theorem dX3_trace_8 : decode cX3_trace 8 = .ok (.aload_n 0, 1) := by decide +kernel
theorem dX3_trace_9 : decode cX3_trace 9 = .ok (.getfield 28, 3) := by decide +kernel
theorem dX3_trace_12 : decode cX3_trace 12 = .ok (.iload_n 2, 1) := by decide +kernel
theorem dX3_trace_13 : decode cX3_trace 13 = .ok (.iload_n 3, 1) := by decide +kernel
theorem dX3_trace_14 : decode cX3_trace 14 = .ok (.iload 4, 2) := by decide +kernel
theorem dX3_trace_16 : decode cX3_trace 16 = .ok (.invokevirtual 35, 3) := by decide +kernel
theorem dX3_trace_19 : decode cX3_trace 19 = .ok (.iconst 0, 1) := by decide +kernel
theorem dX3_trace_20 : decode cX3_trace 20 = .ok (.istore 5, 2) := by decide +kernel
theorem dX3_trace_22 : decode cX3_trace 22 = .ok (.iload 5, 2) := by decide +kernel
theorem dX3_trace_24 : decode cX3_trace 24 = .ok (.bipush 60, 2) := by decide +kernel
theorem dX3_trace_26 : decode cX3_trace 26 = .ok (.if_icmp .ge 143, 3) := by decide +kernel
theorem dX3_trace_29 : decode cX3_trace 29 = .ok (.aload_n 0, 1) := by decide +kernel
theorem dX3_trace_30 : decode cX3_trace 30 = .ok (.getfield 28, 3) := by decide +kernel
theorem dX3_trace_33 : decode cX3_trace 33 = .ok (.invokevirtual 39, 3) := by decide +kernel
theorem dX3_trace_36 : decode cX3_trace 36 = .ok (.ifCond .eq 133, 3) := by decide +kernel
theorem dX3_trace_39 : decode cX3_trace 39 = .ok (.aload_n 0, 1) := by decide +kernel
theorem dX3_trace_40 : decode cX3_trace 40 = .ok (.getfield 28, 3) := by decide +kernel
theorem dX3_trace_43 : decode cX3_trace 43 = .ok (.getfield 43, 3) := by decide +kernel
theorem dX3_trace_46 : decode cX3_trace 46 = .ok (.istore 6, 2) := by decide +kernel
theorem dX3_trace_48 : decode cX3_trace 48 = .ok (.aload_n 0, 1) := by decide +kernel
theorem dX3_trace_49 : decode cX3_trace 49 = .ok (.iload 5, 2) := by decide +kernel
theorem dX3_trace_51 : decode cX3_trace 51 = .ok (.iconst 0, 1) := by decide +kernel
theorem dX3_trace_52 : decode cX3_trace 52 = .ok (.iload 6, 2) := by decide +kernel
theorem dX3_trace_54 : decode cX3_trace 54 = .ok (.invokevirtual 46, 3) := by decide +kernel
theorem dX3_trace_57 : decode cX3_trace 57 = .ok (.aload_n 0, 1) := by decide +kernel
theorem dX3_trace_58 : decode cX3_trace 58 = .ok (.iload 5, 2) := by decide +kernel
theorem dX3_trace_60 : decode cX3_trace 60 = .ok (.iconst 1, 1) := by decide +kernel
theorem dX3_trace_61 : decode cX3_trace 61 = .ok (.aload_n 0, 1) := by decide +kernel
theorem dX3_trace_62 : decode cX3_trace 62 = .ok (.getfield 28, 3) := by decide +kernel
theorem dX3_trace_65 : decode cX3_trace 65 = .ok (.getfield 50, 3) := by decide +kernel
theorem dX3_trace_68 : decode cX3_trace 68 = .ok (.ifCond .eq 7, 3) := by decide +kernel
theorem dX3_trace_71 : decode cX3_trace 71 = .ok (.iconst 1, 1) := by decide +kernel
theorem dX3_trace_72 : decode cX3_trace 72 = .ok (.goto 4, 3) := by decide +kernel
theorem dX3_trace_75 : decode cX3_trace 75 = .ok (.iconst 0, 1) := by decide +kernel
theorem dX3_trace_76 : decode cX3_trace 76 = .ok (.invokevirtual 46, 3) := by decide +kernel
theorem dX3_trace_79 : decode cX3_trace 79 = .ok (.aload_n 0, 1) := by decide +kernel
theorem dX3_trace_80 : decode cX3_trace 80 = .ok (.getfield 28, 3) := by decide +kernel
theorem dX3_trace_83 : decode cX3_trace 83 = .ok (.invokevirtual 54, 3) := by decide +kernel
theorem dX3_trace_86 : decode cX3_trace 86 = .ok (.aload_n 0, 1) := by decide +kernel
theorem dX3_trace_87 : decode cX3_trace 87 = .ok (.iload 5, 2) := by decide +kernel
theorem dX3_trace_89 : decode cX3_trace 89 = .ok (.iconst 2, 1) := by decide +kernel
theorem dX3_trace_90 : decode cX3_trace 90 = .ok (.aload_n 0, 1) := by decide +kernel
theorem dX3_trace_91 : decode cX3_trace 91 = .ok (.getfield 28, 3) := by decide +kernel
theorem dX3_trace_94 : decode cX3_trace 94 = .ok (.iload 6, 2) := by decide +kernel
theorem dX3_trace_96 : decode cX3_trace 96 = .ok (.invokevirtual 57, 3) := by decide +kernel
theorem dX3_trace_99 : decode cX3_trace 99 = .ok (.invokevirtual 46, 3) := by decide +kernel
theorem dX3_trace_102 : decode cX3_trace 102 = .ok (.aload_n 0, 1) := by decide +kernel
theorem dX3_trace_103 : decode cX3_trace 103 = .ok (.iload 5, 2) := by decide +kernel
theorem dX3_trace_105 : decode cX3_trace 105 = .ok (.iconst 3, 1) := by decide +kernel
theorem dX3_trace_106 : decode cX3_trace 106 = .ok (.aload_n 0, 1) := by decide +kernel
theorem dX3_trace_107 : decode cX3_trace 107 = .ok (.getfield 28, 3) := by decide +kernel
theorem dX3_trace_110 : decode cX3_trace 110 = .ok (.iload 6, 2) := by decide +kernel
theorem dX3_trace_112 : decode cX3_trace 112 = .ok (.invokevirtual 61, 3) := by decide +kernel
theorem dX3_trace_115 : decode cX3_trace 115 = .ok (.invokevirtual 46, 3) := by decide +kernel
theorem dX3_trace_118 : decode cX3_trace 118 = .ok (.aload_n 0, 1) := by decide +kernel
theorem dX3_trace_119 : decode cX3_trace 119 = .ok (.iload 5, 2) := by decide +kernel
theorem dX3_trace_121 : decode cX3_trace 121 = .ok (.iconst 4, 1) := by decide +kernel
theorem dX3_trace_122 : decode cX3_trace 122 = .ok (.aload_n 0, 1) := by decide +kernel
theorem dX3_trace_123 : decode cX3_trace 123 = .ok (.getfield 28, 3) := by decide +kernel
theorem dX3_trace_126 : decode cX3_trace 126 = .ok (.iload 6, 2) := by decide +kernel
theorem dX3_trace_128 : decode cX3_trace 128 = .ok (.invokevirtual 64, 3) := by decide +kernel
theorem dX3_trace_131 : decode cX3_trace 131 = .ok (.invokevirtual 46, 3) := by decide +kernel
theorem dX3_trace_134 : decode cX3_trace 134 = .ok (.aload_n 0, 1) := by decide +kernel
theorem dX3_trace_135 : decode cX3_trace 135 = .ok (.iload 5, 2) := by decide +kernel
theorem dX3_trace_137 : decode cX3_trace 137 = .ok (.iconst 5, 1) := by decide +kernel
theorem dX3_trace_138 : decode cX3_trace 138 = .ok (.aload_n 0, 1) := by decide +kernel
theorem dX3_trace_139 : decode cX3_trace 139 = .ok (.getfield 28, 3) := by decide +kernel
theorem dX3_trace_142 : decode cX3_trace 142 = .ok (.getfield 67, 3) := by decide +kernel
theorem dX3_trace_145 : decode cX3_trace 145 = .ok (.invokevirtual 46, 3) := by decide +kernel
theorem dX3_trace_148 : decode cX3_trace 148 = .ok (.aload_n 0, 1) := by decide +kernel
theorem dX3_trace_149 : decode cX3_trace 149 = .ok (.iload 5, 2) := by decide +kernel
theorem dX3_trace_151 : decode cX3_trace 151 = .ok (.bipush 6, 2) := by decide +kernel
theorem dX3_trace_153 : decode cX3_trace 153 = .ok (.aload_n 0, 1) := by decide +kernel
theorem dX3_trace_154 : decode cX3_trace 154 = .ok (.getfield 28, 3) := by decide +kernel
theorem dX3_trace_157 : decode cX3_trace 157 = .ok (.invokevirtual 70, 3) := by decide +kernel
theorem dX3_trace_160 : decode cX3_trace 160 = .ok (.invokevirtual 46, 3) := by decide +kernel
theorem dX3_trace_163 : decode cX3_trace 163 = .ok (.iinc 5 1, 3) := by decide +kernel
theorem dX3_trace_166 : decode cX3_trace 166 = .ok (.goto (-144), 3) := by decide +kernel
theorem dX3_trace_169 : decode cX3_trace 169 = .ok (.aload_n 0, 1) := by decide +kernel
theorem dX3_trace_170 : decode cX3_trace 170 = .ok (.aload_n 0, 1) := by decide +kernel
theorem dX3_trace_171 : decode cX3_trace 171 = .ok (.getfield 28, 3) := by decide +kernel
theorem dX3_trace_174 : decode cX3_trace 174 = .ok (.getfield 74, 3) := by decide +kernel
theorem dX3_trace_177 : decode cX3_trace 177 = .ok (.putfield 16, 3) := by decide +kernel
theorem dX3_trace_180 : decode cX3_trace 180 = .ok (.aload_n 0, 1) := by decide +kernel
theorem dX3_trace_181 : decode cX3_trace 181 = .ok (.aload_n 0, 1) := by decide +kernel
theorem dX3_trace_182 : decode cX3_trace 182 = .ok (.getfield 28, 3) := by decide +kernel
theorem dX3_trace_185 : decode cX3_trace 185 = .ok (.getfield 75, 3) := by decide +kernel
theorem dX3_trace_188 : decode cX3_trace 188 = .ok (.putfield 20, 3) := by decide +kernel
theorem dX3_trace_191 : decode cX3_trace 191 = .ok (.return_, 1) := by decide +kernel
set_option maxRecDepth 20000 in
theorem ggX3_set_X8_put : GoodIn wsX3_set wsX8_put := goodIn_r _ [4] (by decide +kernel) (by decide +kernel)
set_option maxRecDepth 20000 in
theorem gX3_set_X8_put_n76 : GoodIn wsX3_set (wsX8_put) := ggX3_set_X8_put
theorem dX3_set_0 : decode cX3_set 0 = .ok (.iload_n 2, 1) := by decide +kernel
theorem dX3_set_1 : decode cX3_set 1 = .ok (.ifCond .lt 23, 3) := by decide +kernel
theorem dX3_set_4 : decode cX3_set 4 = .ok (.iload_n 2, 1) := by decide +kernel
theorem dX3_set_5 : decode cX3_set 5 = .ok (.aload_n 0, 1) := by decide +kernel
theorem dX3_set_6 : decode cX3_set 6 = .ok (.getfield 11, 3) := by decide +kernel
theorem dX3_set_9 : decode cX3_set 9 = .ok (.arraylength, 1) := by decide +kernel
theorem dX3_set_10 : decode cX3_set 10 = .ok (.if_icmp .ge 14, 3) := by decide +kernel
theorem dX3_set_13 : decode cX3_set 13 = .ok (.aload_n 0, 1) := by decide +kernel
theorem dX3_set_14 : decode cX3_set 14 = .ok (.getfield 11, 3) := by decide +kernel
theorem dX3_set_17 : decode cX3_set 17 = .ok (.iload_n 2, 1) := by decide +kernel
theorem dX3_set_18 : decode cX3_set 18 = .ok (.aaload, 1) := by decide +kernel
theorem dX3_set_19 : decode cX3_set 19 = .ok (.iload_n 1, 1) := by decide +kernel
theorem dX3_set_20 : decode cX3_set 20 = .ok (.iload_n 3, 1) := by decide +kernel
theorem dX3_set_21 : decode cX3_set 21 = .ok (.invokestatic 76, 3) := by decide +kernel
theorem dX3_set_24 : decode cX3_set 24 = .ok (.return_, 1) := by decide +kernel
set_option maxRecDepth 20000 in
theorem ggX3_get_X8_at : GoodIn wsX3_get wsX8_at := goodIn_r _ [5] (by decide +kernel) (by decide +kernel)
set_option maxRecDepth 20000 in
theorem gX3_get_X8_at_n80 : GoodIn wsX3_get (wsX8_at) := ggX3_get_X8_at
theorem dX3_get_0 : decode cX3_get 0 = .ok (.iload_n 1, 1) := by decide +kernel
theorem dX3_get_1 : decode cX3_get 1 = .ok (.aload_n 0, 1) := by decide +kernel
theorem dX3_get_2 : decode cX3_get 2 = .ok (.getfield 16, 3) := by decide +kernel
theorem dX3_get_5 : decode cX3_get 5 = .ok (.if_icmp .ge 29, 3) := by decide +kernel
theorem dX3_get_8 : decode cX3_get 8 = .ok (.iload_n 2, 1) := by decide +kernel
theorem dX3_get_9 : decode cX3_get 9 = .ok (.ifCond .lt 25, 3) := by decide +kernel
theorem dX3_get_12 : decode cX3_get 12 = .ok (.iload_n 2, 1) := by decide +kernel
theorem dX3_get_13 : decode cX3_get 13 = .ok (.aload_n 0, 1) := by decide +kernel
theorem dX3_get_14 : decode cX3_get 14 = .ok (.getfield 11, 3) := by decide +kernel
theorem dX3_get_17 : decode cX3_get 17 = .ok (.arraylength, 1) := by decide +kernel
theorem dX3_get_18 : decode cX3_get 18 = .ok (.if_icmp .ge 16, 3) := by decide +kernel
theorem dX3_get_21 : decode cX3_get 21 = .ok (.aload_n 0, 1) := by decide +kernel
theorem dX3_get_22 : decode cX3_get 22 = .ok (.getfield 11, 3) := by decide +kernel
theorem dX3_get_25 : decode cX3_get 25 = .ok (.iload_n 2, 1) := by decide +kernel
theorem dX3_get_26 : decode cX3_get 26 = .ok (.aaload, 1) := by decide +kernel
theorem dX3_get_27 : decode cX3_get 27 = .ok (.iload_n 1, 1) := by decide +kernel
theorem dX3_get_28 : decode cX3_get 28 = .ok (.invokestatic 80, 3) := by decide +kernel
theorem dX3_get_31 : decode cX3_get 31 = .ok (.goto 4, 3) := by decide +kernel
theorem dX3_get_34 : decode cX3_get 34 = .ok (.iconst 0, 1) := by decide +kernel
theorem dX3_get_35 : decode cX3_get 35 = .ok (.ireturn, 1) := by decide +kernel
set_option maxRecDepth 20000 in
theorem ggX3_sumAhead_X3_get : GoodIn wsX3_sumAhead wsX3_get := goodIn_r _ [6, 1, 7, 8, 9, 10, 11, 12, 13, 14] (by decide +kernel) (by decide +kernel)
set_option maxRecDepth 20000 in
theorem gX3_sumAhead_X3_get : GoodIn wsX3_sumAhead (wsV RX3 84 RX3 yX3_get wsX3_get) := goodIn_app (goodIn_of _ (by decide +kernel)) ggX3_sumAhead_X3_get
theorem dX3_sumAhead_0 : decode cX3_sumAhead 0 = .ok (.iconst 0, 1) := by decide +kernel
theorem dX3_sumAhead_1 : decode cX3_sumAhead 1 = .ok (.istore_n 3, 1) := by decide +kernel
theorem dX3_sumAhead_2 : decode cX3_sumAhead 2 = .ok (.iconst 0, 1) := by decide +kernel
theorem dX3_sumAhead_3 : decode cX3_sumAhead 3 = .ok (.istore 4, 2) := by decide +kernel
theorem dX3_sumAhead_5 : decode cX3_sumAhead 5 = .ok (.iload 4, 2) := by decide +kernel
theorem dX3_sumAhead_7 : decode cX3_sumAhead 7 = .ok (.iload_n 1, 1) := by decide +kernel
theorem dX3_sumAhead_8 : decode cX3_sumAhead 8 = .ok (.if_icmp .ge 28, 3) := by decide +kernel
theorem dX3_sumAhead_11 : decode cX3_sumAhead 11 = .ok (.iload 4, 2) := by decide +kernel
theorem dX3_sumAhead_13 : decode cX3_sumAhead 13 = .ok (.aload_n 0, 1) := by decide +kernel
theorem dX3_sumAhead_14 : decode cX3_sumAhead 14 = .ok (.getfield 16, 3) := by decide +kernel
theorem dX3_sumAhead_17 : decode cX3_sumAhead 17 = .ok (.if_icmp .ge 19, 3) := by decide +kernel
theorem dX3_sumAhead_20 : decode cX3_sumAhead 20 = .ok (.iload_n 3, 1) := by decide +kernel
theorem dX3_sumAhead_21 : decode cX3_sumAhead 21 = .ok (.aload_n 0, 1) := by decide +kernel
theorem dX3_sumAhead_22 : decode cX3_sumAhead 22 = .ok (.iload 4, 2) := by decide +kernel
theorem dX3_sumAhead_24 : decode cX3_sumAhead 24 = .ok (.iload_n 2, 1) := by decide +kernel
theorem dX3_sumAhead_25 : decode cX3_sumAhead 25 = .ok (.invokevirtual 84, 3) := by decide +kernel
theorem dX3_sumAhead_28 : decode cX3_sumAhead 28 = .ok (.iadd, 1) := by decide +kernel
theorem dX3_sumAhead_29 : decode cX3_sumAhead 29 = .ok (.istore_n 3, 1) := by decide +kernel
theorem dX3_sumAhead_30 : decode cX3_sumAhead 30 = .ok (.iinc 4 1, 3) := by decide +kernel
theorem dX3_sumAhead_33 : decode cX3_sumAhead 33 = .ok (.goto (-28), 3) := by decide +kernel
theorem dX3_sumAhead_36 : decode cX3_sumAhead 36 = .ok (.iload_n 3, 1) := by decide +kernel
theorem dX3_sumAhead_37 : decode cX3_sumAhead 37 = .ok (.ireturn, 1) := by decide +kernel
set_option maxRecDepth 20000 in
theorem ggX3_legDuring_X3_get : GoodIn wsX3_legDuring wsX3_get := goodIn_r _ [6, 1, 7, 8, 9, 10, 11, 12, 13, 14] (by decide +kernel) (by decide +kernel)
set_option maxRecDepth 20000 in
theorem gX3_legDuring_X3_get : GoodIn wsX3_legDuring (wsV RX3 84 RX3 yX3_get wsX3_get) := goodIn_app (goodIn_of _ (by decide +kernel)) ggX3_legDuring_X3_get
theorem dX3_legDuring_0 : decode cX3_legDuring 0 = .ok (.iconst 0, 1) := by decide +kernel
theorem dX3_legDuring_1 : decode cX3_legDuring 1 = .ok (.istore_n 2, 1) := by decide +kernel
theorem dX3_legDuring_2 : decode cX3_legDuring 2 = .ok (.iconst 0, 1) := by decide +kernel
theorem dX3_legDuring_3 : decode cX3_legDuring 3 = .ok (.istore_n 3, 1) := by decide +kernel
theorem dX3_legDuring_4 : decode cX3_legDuring 4 = .ok (.iload_n 3, 1) := by decide +kernel
theorem dX3_legDuring_5 : decode cX3_legDuring 5 = .ok (.aload_n 0, 1) := by decide +kernel
theorem dX3_legDuring_6 : decode cX3_legDuring 6 = .ok (.getfield 16, 3) := by decide +kernel
theorem dX3_legDuring_9 : decode cX3_legDuring 9 = .ok (.if_icmp .ge 25, 3) := by decide +kernel
theorem dX3_legDuring_12 : decode cX3_legDuring 12 = .ok (.iload_n 2, 1) := by decide +kernel
theorem dX3_legDuring_13 : decode cX3_legDuring 13 = .ok (.aload_n 0, 1) := by decide +kernel
theorem dX3_legDuring_14 : decode cX3_legDuring 14 = .ok (.iload_n 3, 1) := by decide +kernel
theorem dX3_legDuring_15 : decode cX3_legDuring 15 = .ok (.iconst 4, 1) := by decide +kernel
theorem dX3_legDuring_16 : decode cX3_legDuring 16 = .ok (.invokevirtual 84, 3) := by decide +kernel
theorem dX3_legDuring_19 : decode cX3_legDuring 19 = .ok (.iadd, 1) := by decide +kernel
theorem dX3_legDuring_20 : decode cX3_legDuring 20 = .ok (.istore_n 2, 1) := by decide +kernel
theorem dX3_legDuring_21 : decode cX3_legDuring 21 = .ok (.iload_n 2, 1) := by decide +kernel
theorem dX3_legDuring_22 : decode cX3_legDuring 22 = .ok (.iload_n 1, 1) := by decide +kernel
theorem dX3_legDuring_23 : decode cX3_legDuring 23 = .ok (.if_icmp .le 5, 3) := by decide +kernel
theorem dX3_legDuring_26 : decode cX3_legDuring 26 = .ok (.iload_n 3, 1) := by decide +kernel
theorem dX3_legDuring_27 : decode cX3_legDuring 27 = .ok (.ireturn, 1) := by decide +kernel
theorem dX3_legDuring_28 : decode cX3_legDuring 28 = .ok (.iinc 3 1, 3) := by decide +kernel
theorem dX3_legDuring_31 : decode cX3_legDuring 31 = .ok (.goto (-27), 3) := by decide +kernel
theorem dX3_legDuring_34 : decode cX3_legDuring 34 = .ok (.aload_n 0, 1) := by decide +kernel
theorem dX3_legDuring_35 : decode cX3_legDuring 35 = .ok (.getfield 16, 3) := by decide +kernel
theorem dX3_legDuring_38 : decode cX3_legDuring 38 = .ok (.ireturn, 1) := by decide +kernel
set_option maxRecDepth 20000 in
theorem ggX3_partOfLeg_X3_get : GoodIn wsX3_partOfLeg wsX3_get := goodIn_r _ [5, 6, 7, 8, 9, 10, 15, 16, 17, 18] (by decide +kernel) (by decide +kernel)
set_option maxRecDepth 20000 in
theorem gX3_partOfLeg_X3_get : GoodIn wsX3_partOfLeg (wsV RX3 84 RX3 yX3_get wsX3_get) := goodIn_app (goodIn_of _ (by decide +kernel)) ggX3_partOfLeg_X3_get
set_option maxRecDepth 20000 in
theorem ggX3_partOfLeg_X3_sumAhead : GoodIn wsX3_partOfLeg wsX3_sumAhead := goodIn_r _ [14, 6, 1, 2, 3, 4, 5, 7, 8, 9, 10, 15, 16, 17, 18] (by decide +kernel) (by decide +kernel)
set_option maxRecDepth 20000 in
theorem gX3_partOfLeg_X3_sumAhead : GoodIn wsX3_partOfLeg (wsV RX3 88 RX3 yX3_sumAhead wsX3_sumAhead) := goodIn_app (goodIn_of _ (by decide +kernel)) ggX3_partOfLeg_X3_sumAhead
theorem dX3_partOfLeg_0 : decode cX3_partOfLeg 0 = .ok (.aload_n 0, 1) := by decide +kernel
theorem dX3_partOfLeg_1 : decode cX3_partOfLeg 1 = .ok (.iload_n 1, 1) := by decide +kernel
theorem dX3_partOfLeg_2 : decode cX3_partOfLeg 2 = .ok (.iconst 4, 1) := by decide +kernel
theorem dX3_partOfLeg_3 : decode cX3_partOfLeg 3 = .ok (.invokevirtual 84, 3) := by decide +kernel
theorem dX3_partOfLeg_6 : decode cX3_partOfLeg 6 = .ok (.istore 4, 2) := by decide +kernel
theorem dX3_partOfLeg_8 : decode cX3_partOfLeg 8 = .ok (.iload_n 2, 1) := by decide +kernel
theorem dX3_partOfLeg_9 : decode cX3_partOfLeg 9 = .ok (.i2l, 1) := by decide +kernel
theorem dX3_partOfLeg_10 : decode cX3_partOfLeg 10 = .ok (.aload_n 0, 1) := by decide +kernel
theorem dX3_partOfLeg_11 : decode cX3_partOfLeg 11 = .ok (.iload_n 1, 1) := by decide +kernel
theorem dX3_partOfLeg_12 : decode cX3_partOfLeg 12 = .ok (.iconst 4, 1) := by decide +kernel
theorem dX3_partOfLeg_13 : decode cX3_partOfLeg 13 = .ok (.invokevirtual 88, 3) := by decide +kernel
theorem dX3_partOfLeg_16 : decode cX3_partOfLeg 16 = .ok (.i2l, 1) := by decide +kernel
theorem dX3_partOfLeg_17 : decode cX3_partOfLeg 17 = .ok (.lsub, 1) := by decide +kernel
theorem dX3_partOfLeg_18 : decode cX3_partOfLeg 18 = .ok (.lstore 5, 2) := by decide +kernel
theorem dX3_partOfLeg_20 : decode cX3_partOfLeg 20 = .ok (.iload 4, 2) := by decide +kernel
theorem dX3_partOfLeg_22 : decode cX3_partOfLeg 22 = .ok (.ifCond .le 16, 3) := by decide +kernel
theorem dX3_partOfLeg_25 : decode cX3_partOfLeg 25 = .ok (.iload_n 3, 1) := by decide +kernel
theorem dX3_partOfLeg_26 : decode cX3_partOfLeg 26 = .ok (.i2l, 1) := by decide +kernel
theorem dX3_partOfLeg_27 : decode cX3_partOfLeg 27 = .ok (.lload 5, 2) := by decide +kernel
theorem dX3_partOfLeg_29 : decode cX3_partOfLeg 29 = .ok (.lmul, 1) := by decide +kernel
theorem dX3_partOfLeg_30 : decode cX3_partOfLeg 30 = .ok (.iload 4, 2) := by decide +kernel
theorem dX3_partOfLeg_32 : decode cX3_partOfLeg 32 = .ok (.i2l, 1) := by decide +kernel
theorem dX3_partOfLeg_33 : decode cX3_partOfLeg 33 = .ok (.ldiv, 1) := by decide +kernel
theorem dX3_partOfLeg_34 : decode cX3_partOfLeg 34 = .ok (.l2i, 1) := by decide +kernel
theorem dX3_partOfLeg_35 : decode cX3_partOfLeg 35 = .ok (.goto 4, 3) := by decide +kernel
theorem dX3_partOfLeg_38 : decode cX3_partOfLeg 38 = .ok (.iconst 0, 1) := by decide +kernel
theorem dX3_partOfLeg_39 : decode cX3_partOfLeg 39 = .ok (.ireturn, 1) := by decide +kernel
set_option maxRecDepth 20000 in
theorem ggX3_legsAcross_X3_get : GoodIn wsX3_legsAcross wsX3_get := goodIn_r _ [6, 1, 7, 8, 9, 10, 11, 12, 13, 14] (by decide +kernel) (by decide +kernel)
set_option maxRecDepth 20000 in
theorem gX3_legsAcross_X3_get : GoodIn wsX3_legsAcross (wsV RX3 84 RX3 yX3_get wsX3_get) := goodIn_app (goodIn_of _ (by decide +kernel)) ggX3_legsAcross_X3_get
theorem dX3_legsAcross_0 : decode cX3_legsAcross 0 = .ok (.iconst 0, 1) := by decide +kernel
theorem dX3_legsAcross_1 : decode cX3_legsAcross 1 = .ok (.istore_n 2, 1) := by decide +kernel
theorem dX3_legsAcross_2 : decode cX3_legsAcross 2 = .ok (.iconst 0, 1) := by decide +kernel
theorem dX3_legsAcross_3 : decode cX3_legsAcross 3 = .ok (.istore_n 3, 1) := by decide +kernel
theorem dX3_legsAcross_4 : decode cX3_legsAcross 4 = .ok (.iload_n 3, 1) := by decide +kernel
theorem dX3_legsAcross_5 : decode cX3_legsAcross 5 = .ok (.aload_n 0, 1) := by decide +kernel
theorem dX3_legsAcross_6 : decode cX3_legsAcross 6 = .ok (.getfield 16, 3) := by decide +kernel
theorem dX3_legsAcross_9 : decode cX3_legsAcross 9 = .ok (.if_icmp .ge 22, 3) := by decide +kernel
theorem dX3_legsAcross_12 : decode cX3_legsAcross 12 = .ok (.aload_n 0, 1) := by decide +kernel
theorem dX3_legsAcross_13 : decode cX3_legsAcross 13 = .ok (.iload_n 3, 1) := by decide +kernel
theorem dX3_legsAcross_14 : decode cX3_legsAcross 14 = .ok (.iconst 0, 1) := by decide +kernel
theorem dX3_legsAcross_15 : decode cX3_legsAcross 15 = .ok (.invokevirtual 84, 3) := by decide +kernel
theorem dX3_legsAcross_18 : decode cX3_legsAcross 18 = .ok (.iload_n 1, 1) := by decide +kernel
theorem dX3_legsAcross_19 : decode cX3_legsAcross 19 = .ok (.if_icmp .ne 6, 3) := by decide +kernel
theorem dX3_legsAcross_22 : decode cX3_legsAcross 22 = .ok (.iinc 2 1, 3) := by decide +kernel
theorem dX3_legsAcross_25 : decode cX3_legsAcross 25 = .ok (.iinc 3 1, 3) := by decide +kernel
theorem dX3_legsAcross_28 : decode cX3_legsAcross 28 = .ok (.goto (-24), 3) := by decide +kernel
theorem dX3_legsAcross_31 : decode cX3_legsAcross 31 = .ok (.iload_n 2, 1) := by decide +kernel
theorem dX3_legsAcross_32 : decode cX3_legsAcross 32 = .ok (.ireturn, 1) := by decide +kernel
set_option maxRecDepth 20000 in
theorem ggX3_legsAlike_X3_get : GoodIn wsX3_legsAlike wsX3_get := goodIn_r _ [6, 1, 7, 8, 9, 10, 11, 12, 13, 14] (by decide +kernel) (by decide +kernel)
set_option maxRecDepth 20000 in
theorem gX3_legsAlike_X3_get : GoodIn wsX3_legsAlike (wsV RX3 84 RX3 yX3_get wsX3_get) := goodIn_app (goodIn_of _ (by decide +kernel)) ggX3_legsAlike_X3_get
theorem dX3_legsAlike_0 : decode cX3_legsAlike 0 = .ok (.iconst 0, 1) := by decide +kernel
theorem dX3_legsAlike_1 : decode cX3_legsAlike 1 = .ok (.istore_n 2, 1) := by decide +kernel
theorem dX3_legsAlike_2 : decode cX3_legsAlike 2 = .ok (.iload_n 2, 1) := by decide +kernel
theorem dX3_legsAlike_3 : decode cX3_legsAlike 3 = .ok (.aload_n 0, 1) := by decide +kernel
theorem dX3_legsAlike_4 : decode cX3_legsAlike 4 = .ok (.getfield 16, 3) := by decide +kernel
theorem dX3_legsAlike_7 : decode cX3_legsAlike 7 = .ok (.if_icmp .ge 47, 3) := by decide +kernel
theorem dX3_legsAlike_10 : decode cX3_legsAlike 10 = .ok (.iload_n 2, 1) := by decide +kernel
theorem dX3_legsAlike_11 : decode cX3_legsAlike 11 = .ok (.aload_n 1, 1) := by decide +kernel
theorem dX3_legsAlike_12 : decode cX3_legsAlike 12 = .ok (.getfield 16, 3) := by decide +kernel
theorem dX3_legsAlike_15 : decode cX3_legsAlike 15 = .ok (.if_icmp .ge 39, 3) := by decide +kernel
theorem dX3_legsAlike_18 : decode cX3_legsAlike 18 = .ok (.aload_n 0, 1) := by decide +kernel
theorem dX3_legsAlike_19 : decode cX3_legsAlike 19 = .ok (.iload_n 2, 1) := by decide +kernel
theorem dX3_legsAlike_20 : decode cX3_legsAlike 20 = .ok (.iconst 0, 1) := by decide +kernel
theorem dX3_legsAlike_21 : decode cX3_legsAlike 21 = .ok (.invokevirtual 84, 3) := by decide +kernel
theorem dX3_legsAlike_24 : decode cX3_legsAlike 24 = .ok (.aload_n 1, 1) := by decide +kernel
theorem dX3_legsAlike_25 : decode cX3_legsAlike 25 = .ok (.iload_n 2, 1) := by decide +kernel
theorem dX3_legsAlike_26 : decode cX3_legsAlike 26 = .ok (.iconst 0, 1) := by decide +kernel
theorem dX3_legsAlike_27 : decode cX3_legsAlike 27 = .ok (.invokevirtual 84, 3) := by decide +kernel
theorem dX3_legsAlike_30 : decode cX3_legsAlike 30 = .ok (.if_icmp .ne 24, 3) := by decide +kernel
theorem dX3_legsAlike_33 : decode cX3_legsAlike 33 = .ok (.aload_n 0, 1) := by decide +kernel
theorem dX3_legsAlike_34 : decode cX3_legsAlike 34 = .ok (.iload_n 2, 1) := by decide +kernel
theorem dX3_legsAlike_35 : decode cX3_legsAlike 35 = .ok (.iconst 1, 1) := by decide +kernel
theorem dX3_legsAlike_36 : decode cX3_legsAlike 36 = .ok (.invokevirtual 84, 3) := by decide +kernel
theorem dX3_legsAlike_39 : decode cX3_legsAlike 39 = .ok (.aload_n 1, 1) := by decide +kernel
theorem dX3_legsAlike_40 : decode cX3_legsAlike 40 = .ok (.iload_n 2, 1) := by decide +kernel
theorem dX3_legsAlike_41 : decode cX3_legsAlike 41 = .ok (.iconst 1, 1) := by decide +kernel
theorem dX3_legsAlike_42 : decode cX3_legsAlike 42 = .ok (.invokevirtual 84, 3) := by decide +kernel
theorem dX3_legsAlike_45 : decode cX3_legsAlike 45 = .ok (.if_icmp .ne 9, 3) := by decide +kernel
theorem dX3_legsAlike_48 : decode cX3_legsAlike 48 = .ok (.iinc 2 1, 3) := by decide +kernel
theorem dX3_legsAlike_51 : decode cX3_legsAlike 51 = .ok (.goto (-49), 3) := by decide +kernel
theorem dX3_legsAlike_54 : decode cX3_legsAlike 54 = .ok (.iload_n 2, 1) := by decide +kernel
theorem dX3_legsAlike_55 : decode cX3_legsAlike 55 = .ok (.ireturn, 1) := by decide +kernel
set_option maxRecDepth 20000 in
theorem ggX3_meetingTime_X3_get : GoodIn wsX3_meetingTime wsX3_get := goodIn_r _ [10, 1, 11, 12, 13, 14, 19, 20, 21, 22] (by decide +kernel) (by decide +kernel)
set_option maxRecDepth 20000 in
theorem gX3_meetingTime_X3_get : GoodIn wsX3_meetingTime (wsV RX3 84 RX3 yX3_get wsX3_get) := goodIn_app (goodIn_of _ (by decide +kernel)) ggX3_meetingTime_X3_get
set_option maxRecDepth 20000 in
theorem ggX3_meetingTime_X3_sumAhead : GoodIn wsX3_meetingTime wsX3_sumAhead := goodIn_r _ [18, 1, 6, 7, 8, 9, 10, 11, 12, 13, 14, 19, 20, 21, 22] (by decide +kernel) (by decide +kernel)
set_option maxRecDepth 20000 in
theorem gX3_meetingTime_X3_sumAhead : GoodIn wsX3_meetingTime (wsV RX3 88 RX3 yX3_sumAhead wsX3_sumAhead) := goodIn_app (goodIn_of _ (by decide +kernel)) ggX3_meetingTime_X3_sumAhead
theorem dX3_meetingTime_0 : decode cX3_meetingTime 0 = .ok (.iconst 0, 1) := by decide +kernel
theorem dX3_meetingTime_1 : decode cX3_meetingTime 1 = .ok (.istore_n 2, 1) := by decide +kernel
theorem dX3_meetingTime_2 : decode cX3_meetingTime 2 = .ok (.iconst 0, 1) := by decide +kernel
theorem dX3_meetingTime_3 : decode cX3_meetingTime 3 = .ok (.istore_n 3, 1) := by decide +kernel
theorem dX3_meetingTime_4 : decode cX3_meetingTime 4 = .ok (.iconst 0, 1) := by decide +kernel
theorem dX3_meetingTime_5 : decode cX3_meetingTime 5 = .ok (.istore 4, 2) := by decide +kernel
theorem dX3_meetingTime_7 : decode cX3_meetingTime 7 = .ok (.iconst 0, 1) := by decide +kernel
theorem dX3_meetingTime_8 : decode cX3_meetingTime 8 = .ok (.istore 5, 2) := by decide +kernel
theorem dX3_meetingTime_10 : decode cX3_meetingTime 10 = .ok (.iload 5, 2) := by decide +kernel
theorem dX3_meetingTime_12 : decode cX3_meetingTime 12 = .ok (.bipush 120, 2) := by decide +kernel
theorem dX3_meetingTime_14 : decode cX3_meetingTime 14 = .ok (.if_icmp .gt 92, 3) := by decide +kernel
theorem dX3_meetingTime_17 : decode cX3_meetingTime 17 = .ok (.iload_n 2, 1) := by decide +kernel
theorem dX3_meetingTime_18 : decode cX3_meetingTime 18 = .ok (.aload_n 0, 1) := by decide +kernel
theorem dX3_meetingTime_19 : decode cX3_meetingTime 19 = .ok (.getfield 16, 3) := by decide +kernel
theorem dX3_meetingTime_22 : decode cX3_meetingTime 22 = .ok (.if_icmp .ge 84, 3) := by decide +kernel
theorem dX3_meetingTime_25 : decode cX3_meetingTime 25 = .ok (.iload_n 3, 1) := by decide +kernel
theorem dX3_meetingTime_26 : decode cX3_meetingTime 26 = .ok (.aload_n 1, 1) := by decide +kernel
theorem dX3_meetingTime_27 : decode cX3_meetingTime 27 = .ok (.getfield 16, 3) := by decide +kernel
theorem dX3_meetingTime_30 : decode cX3_meetingTime 30 = .ok (.if_icmp .ge 76, 3) := by decide +kernel
theorem dX3_meetingTime_33 : decode cX3_meetingTime 33 = .ok (.aload_n 0, 1) := by decide +kernel
theorem dX3_meetingTime_34 : decode cX3_meetingTime 34 = .ok (.iload_n 2, 1) := by decide +kernel
theorem dX3_meetingTime_35 : decode cX3_meetingTime 35 = .ok (.iconst 0, 1) := by decide +kernel
theorem dX3_meetingTime_36 : decode cX3_meetingTime 36 = .ok (.invokevirtual 84, 3) := by decide +kernel
theorem dX3_meetingTime_39 : decode cX3_meetingTime 39 = .ok (.aload_n 1, 1) := by decide +kernel
theorem dX3_meetingTime_40 : decode cX3_meetingTime 40 = .ok (.iload_n 3, 1) := by decide +kernel
theorem dX3_meetingTime_41 : decode cX3_meetingTime 41 = .ok (.iconst 0, 1) := by decide +kernel
theorem dX3_meetingTime_42 : decode cX3_meetingTime 42 = .ok (.invokevirtual 84, 3) := by decide +kernel
theorem dX3_meetingTime_45 : decode cX3_meetingTime 45 = .ok (.if_icmp .ne 6, 3) := by decide +kernel
theorem dX3_meetingTime_48 : decode cX3_meetingTime 48 = .ok (.iload 4, 2) := by decide +kernel
theorem dX3_meetingTime_50 : decode cX3_meetingTime 50 = .ok (.ireturn, 1) := by decide +kernel
theorem dX3_meetingTime_51 : decode cX3_meetingTime 51 = .ok (.aload_n 0, 1) := by decide +kernel
theorem dX3_meetingTime_52 : decode cX3_meetingTime 52 = .ok (.iload_n 2, 1) := by decide +kernel
theorem dX3_meetingTime_53 : decode cX3_meetingTime 53 = .ok (.iconst 1, 1) := by decide +kernel
theorem dX3_meetingTime_54 : decode cX3_meetingTime 54 = .ok (.iadd, 1) := by decide +kernel
theorem dX3_meetingTime_55 : decode cX3_meetingTime 55 = .ok (.iconst 4, 1) := by decide +kernel
theorem dX3_meetingTime_56 : decode cX3_meetingTime 56 = .ok (.invokevirtual 88, 3) := by decide +kernel
theorem dX3_meetingTime_59 : decode cX3_meetingTime 59 = .ok (.istore 6, 2) := by decide +kernel
theorem dX3_meetingTime_61 : decode cX3_meetingTime 61 = .ok (.aload_n 1, 1) := by decide +kernel
theorem dX3_meetingTime_62 : decode cX3_meetingTime 62 = .ok (.iload_n 3, 1) := by decide +kernel
theorem dX3_meetingTime_63 : decode cX3_meetingTime 63 = .ok (.iconst 1, 1) := by decide +kernel
theorem dX3_meetingTime_64 : decode cX3_meetingTime 64 = .ok (.iadd, 1) := by decide +kernel
theorem dX3_meetingTime_65 : decode cX3_meetingTime 65 = .ok (.iconst 4, 1) := by decide +kernel
theorem dX3_meetingTime_66 : decode cX3_meetingTime 66 = .ok (.invokevirtual 88, 3) := by decide +kernel
theorem dX3_meetingTime_69 : decode cX3_meetingTime 69 = .ok (.istore 7, 2) := by decide +kernel
theorem dX3_meetingTime_71 : decode cX3_meetingTime 71 = .ok (.iload 6, 2) := by decide +kernel
theorem dX3_meetingTime_73 : decode cX3_meetingTime 73 = .ok (.iload 7, 2) := by decide +kernel
theorem dX3_meetingTime_75 : decode cX3_meetingTime 75 = .ok (.invokestatic 91, 3) := by decide +kernel
theorem dX3_meetingTime_78 : decode cX3_meetingTime 78 = .ok (.istore 4, 2) := by decide +kernel
theorem dX3_meetingTime_80 : decode cX3_meetingTime 80 = .ok (.iload 6, 2) := by decide +kernel
theorem dX3_meetingTime_82 : decode cX3_meetingTime 82 = .ok (.iload 4, 2) := by decide +kernel
theorem dX3_meetingTime_84 : decode cX3_meetingTime 84 = .ok (.if_icmp .ne 6, 3) := by decide +kernel
theorem dX3_meetingTime_87 : decode cX3_meetingTime 87 = .ok (.iinc 2 1, 3) := by decide +kernel
theorem dX3_meetingTime_90 : decode cX3_meetingTime 90 = .ok (.iload 7, 2) := by decide +kernel
theorem dX3_meetingTime_92 : decode cX3_meetingTime 92 = .ok (.iload 4, 2) := by decide +kernel
theorem dX3_meetingTime_94 : decode cX3_meetingTime 94 = .ok (.if_icmp .ne 6, 3) := by decide +kernel
theorem dX3_meetingTime_97 : decode cX3_meetingTime 97 = .ok (.iinc 3 1, 3) := by decide +kernel
theorem dX3_meetingTime_100 : decode cX3_meetingTime 100 = .ok (.iinc 5 1, 3) := by decide +kernel
theorem dX3_meetingTime_103 : decode cX3_meetingTime 103 = .ok (.goto (-93), 3) := by decide +kernel
theorem dX3_meetingTime_106 : decode cX3_meetingTime 106 = .ok (.iconst (-1), 1) := by decide +kernel
theorem dX3_meetingTime_107 : decode cX3_meetingTime 107 = .ok (.ireturn, 1) := by decide +kernel
theorem dX4_init_0 : decode cX4_init 0 = .ok (.aload_n 0, 1) := by decide +kernel
theorem dX4_init_1 : decode cX4_init 1 = .ok (.invokespecial 3, 3) := by decide +kernel
theorem dX4_init_4 : decode cX4_init 4 = .ok (.aload_n 0, 1) := by decide +kernel
theorem dX4_init_5 : decode cX4_init 5 = .ok (.bipush 12, 2) := by decide +kernel
theorem dX4_init_7 : decode cX4_init 7 = .ok (.newarray .int, 2) := by decide +kernel
theorem dX4_init_9 : decode cX4_init 9 = .ok (.putfield 9, 3) := by decide +kernel
theorem dX4_init_12 : decode cX4_init 12 = .ok (.aload_n 0, 1) := by decide +kernel
theorem dX4_init_13 : decode cX4_init 13 = .ok (.bipush 10, 2) := by decide +kernel
theorem dX4_init_15 : decode cX4_init 15 = .ok (.newarray .int, 2) := by decide +kernel
theorem dX4_init_17 : decode cX4_init 17 = .ok (.putfield 15, 3) := by decide +kernel
theorem dX4_init_20 : decode cX4_init 20 = .ok (.aload_n 0, 1) := by decide +kernel
theorem dX4_init_21 : decode cX4_init 21 = .ok (.bipush 10, 2) := by decide +kernel
theorem dX4_init_23 : decode cX4_init 23 = .ok (.newarray .int, 2) := by decide +kernel
theorem dX4_init_25 : decode cX4_init 25 = .ok (.putfield 18, 3) := by decide +kernel
theorem dX4_init_28 : decode cX4_init 28 = .ok (.aload_n 0, 1) := by decide +kernel
theorem dX4_init_29 : decode cX4_init 29 = .ok (.bipush 10, 2) := by decide +kernel
theorem dX4_init_31 : decode cX4_init 31 = .ok (.newarray .int, 2) := by decide +kernel
theorem dX4_init_33 : decode cX4_init 33 = .ok (.putfield 21, 3) := by decide +kernel
theorem dX4_init_36 : decode cX4_init 36 = .ok (.aload_n 0, 1) := by decide +kernel
theorem dX4_init_37 : decode cX4_init 37 = .ok (.aload_n 1, 1) := by decide +kernel
theorem dX4_init_38 : decode cX4_init 38 = .ok (.putfield 24, 3) := by decide +kernel
theorem dX4_init_41 : decode cX4_init 41 = .ok (.return_, 1) := by decide +kernel
set_option maxRecDepth 20000 in
theorem ggX4_enter_X5_indexAt : GoodIn wsX4_enter wsX5_indexAt := goodIn_r _ [9, 10, 11, 12, 13, 14, 15, 16, 17, 18, 19, 20, 42, 43, 44, 45, 46, 47, 48] (by decide +kernel) (by decide +kernel)
set_option maxRecDepth 20000 in
theorem gX4_enter_X5_indexAt : GoodIn wsX4_enter (wsV RX4 40 RX5 yX5_indexAt wsX5_indexAt) := goodIn_app (goodIn_of _ (by decide +kernel)) ggX4_enter_X5_indexAt
set_option maxRecDepth 20000 in
theorem ggX4_enter_X8_put : GoodIn wsX4_enter wsX8_put := goodIn_r _ [23] (by decide +kernel) (by decide +kernel)
set_option maxRecDepth 20000 in
theorem gX4_enter_X8_put_n44 : GoodIn wsX4_enter (wsX8_put) := ggX4_enter_X8_put
theorem dX4_enter_0 : decode cX4_enter 0 = .ok (.aload_n 0, 1) := by decide +kernel
theorem dX4_enter_1 : decode cX4_enter 1 = .ok (.aload_n 1, 1) := by decide +kernel
theorem dX4_enter_2 : decode cX4_enter 2 = .ok (.putfield 24, 3) := by decide +kernel
theorem dX4_enter_5 : decode cX4_enter 5 = .ok (.iconst (-1), 1) := by decide +kernel
theorem dX4_enter_6 : decode cX4_enter 6 = .ok (.istore_n 2, 1) := by decide +kernel
theorem dX4_enter_7 : decode cX4_enter 7 = .ok (.iload_n 2, 1) := by decide +kernel
theorem dX4_enter_8 : decode cX4_enter 8 = .ok (.aload_n 0, 1) := by decide +kernel
theorem dX4_enter_9 : decode cX4_enter 9 = .ok (.getfield 24, 3) := by decide +kernel
theorem dX4_enter_12 : decode cX4_enter 12 = .ok (.getfield 28, 3) := by decide +kernel
theorem dX4_enter_15 : decode cX4_enter 15 = .ok (.getfield 34, 3) := by decide +kernel
theorem dX4_enter_18 : decode cX4_enter 18 = .ok (.if_icmp .gt 27, 3) := by decide +kernel
theorem dX4_enter_21 : decode cX4_enter 21 = .ok (.aload_n 0, 1) := by decide +kernel
theorem dX4_enter_22 : decode cX4_enter 22 = .ok (.getfield 9, 3) := by decide +kernel
theorem dX4_enter_25 : decode cX4_enter 25 = .ok (.iload_n 2, 1) := by decide +kernel
theorem dX4_enter_26 : decode cX4_enter 26 = .ok (.iconst 1, 1) := by decide +kernel
theorem dX4_enter_27 : decode cX4_enter 27 = .ok (.iadd, 1) := by decide +kernel
theorem dX4_enter_28 : decode cX4_enter 28 = .ok (.aload_n 0, 1) := by decide +kernel
theorem dX4_enter_29 : decode cX4_enter 29 = .ok (.getfield 24, 3) := by decide +kernel
theorem dX4_enter_32 : decode cX4_enter 32 = .ok (.iload_n 2, 1) := by decide +kernel
theorem dX4_enter_33 : decode cX4_enter 33 = .ok (.invokevirtual 40, 3) := by decide +kernel
theorem dX4_enter_36 : decode cX4_enter 36 = .ok (.invokestatic 44, 3) := by decide +kernel
theorem dX4_enter_39 : decode cX4_enter 39 = .ok (.iinc 2 1, 3) := by decide +kernel
theorem dX4_enter_42 : decode cX4_enter 42 = .ok (.goto (-35), 3) := by decide +kernel
theorem dX4_enter_45 : decode cX4_enter 45 = .ok (.return_, 1) := by decide +kernel
set_option maxRecDepth 20000 in
theorem ggX4_run_X4_begin : GoodIn wsX4_run wsX4_begin := goodIn_r _ [5, 6, 7, 8, 9, 10, 11, 12, 13, 14, 15, 16, 17, 18, 19, 20, 21, 22, 23, 24, 25, 26, 27, 28, 29, 30, 31, 32, 33, 34, 35, 36, 37, 38, 39, 40, 41, 42, 116, 117, 118, 119, 120, 121, 122, 123, 124, 125, 126, 127, 128, 129, 130, 131, 132, 133, 134, 135, 136, 137, 138, 139, 140] (by decide +kernel) (by decide +kernel)
set_option maxRecDepth 20000 in
theorem gX4_run_X4_begin : GoodIn wsX4_run (wsV RX4 48 RX4 yX4_begin wsX4_begin) := goodIn_app (goodIn_of _ (by decide +kernel)) ggX4_run_X4_begin
set_option maxRecDepth 20000 in
theorem ggX4_run_X4_isUnderWay : GoodIn wsX4_run wsX4_isUnderWay := goodIn_r _ [46, 18, 116, 117, 118, 119, 120, 121, 122, 123, 124, 125, 126, 127, 128, 129, 130, 131, 132, 133] (by decide +kernel) (by decide +kernel)
set_option maxRecDepth 20000 in
theorem gX4_run_X4_isUnderWay : GoodIn wsX4_run (wsV RX4 52 RX4 yX4_isUnderWay wsX4_isUnderWay) := goodIn_app (goodIn_of _ (by decide +kernel)) ggX4_run_X4_isUnderWay
set_option maxRecDepth 20000 in
theorem ggX4_run_X4_cross : GoodIn wsX4_run wsX4_cross := goodIn_r _ [50, 6, 9, 10, 11, 12, 16, 51, 52, 53, 54, 20, 17, 55, 56, 57, 58, 59, 60, 61, 62, 4, 63, 21, 64, 65, 66, 67, 68, 69, 70, 8, 71, 72, 73, 35, 36, 31, 37, 38, 74, 75, 76, 77, 78, 79, 80, 81, 82, 83, 84, 85, 86, 116, 117, 118, 119, 120, 121, 122, 123, 124, 125, 126, 127, 128, 129, 130, 131, 132, 133, 134, 135, 136, 137, 138, 139, 140] (by decide +kernel) (by decide +kernel)
set_option maxRecDepth 20000 in
theorem gX4_run_X4_cross : GoodIn wsX4_run (wsV RX4 56 RX4 yX4_cross wsX4_cross) := goodIn_app (goodIn_of _ (by decide +kernel)) ggX4_run_X4_cross
set_option maxRecDepth 20000 in
theorem ggX4_run_X4_goOn : GoodIn wsX4_run wsX4_goOn := goodIn_r _ [90, 20, 7, 6, 91, 8, 17, 55, 9, 92, 93, 94, 4, 95, 18, 64, 65, 66, 96, 29, 30, 31, 32, 33, 97, 98, 99, 100, 15, 101, 102, 103, 25, 104, 105, 27, 106, 107, 108, 109, 110, 14, 111, 112, 113, 114, 115, 13, 116, 117, 118, 119, 120, 121, 122, 123, 124, 125, 126, 127, 128, 129, 130, 131, 132, 133, 134, 135, 136, 137, 138, 139, 140] (by decide +kernel) (by decide +kernel)
set_option maxRecDepth 20000 in
theorem gX4_run_X4_goOn : GoodIn wsX4_run (wsV RX4 59 RX4 yX4_goOn wsX4_goOn) := goodIn_app (goodIn_of _ (by decide +kernel)) ggX4_run_X4_goOn
theorem dX4_run_0 : decode cX4_run 0 = .ok (.aload_n 0, 1) := by decide +kernel
theorem dX4_run_1 : decode cX4_run 1 = .ok (.iload_n 1, 1) := by decide +kernel
theorem dX4_run_2 : decode cX4_run 2 = .ok (.iload_n 2, 1) := by decide +kernel
theorem dX4_run_3 : decode cX4_run 3 = .ok (.iload_n 3, 1) := by decide +kernel
theorem dX4_run_4 : decode cX4_run 4 = .ok (.invokevirtual 48, 3) := by decide +kernel
theorem dX4_run_7 : decode cX4_run 7 = .ok (.iconst 0, 1) := by decide +kernel
theorem dX4_run_8 : decode cX4_run 8 = .ok (.istore 4, 2) := by decide +kernel
theorem dX4_run_10 : decode cX4_run 10 = .ok (.iload 4, 2) := by decide +kernel
theorem dX4_run_12 : decode cX4_run 12 = .ok (.bipush 60, 2) := by decide +kernel
theorem dX4_run_14 : decode cX4_run 14 = .ok (.if_icmp .ge 25, 3) := by decide +kernel
theorem dX4_run_17 : decode cX4_run 17 = .ok (.aload_n 0, 1) := by decide +kernel
theorem dX4_run_18 : decode cX4_run 18 = .ok (.invokevirtual 52, 3) := by decide +kernel
theorem dX4_run_21 : decode cX4_run 21 = .ok (.ifCond .eq 18, 3) := by decide +kernel
theorem dX4_run_24 : decode cX4_run 24 = .ok (.aload_n 0, 1) := by decide +kernel
theorem dX4_run_25 : decode cX4_run 25 = .ok (.invokevirtual 56, 3) := by decide +kernel
theorem dX4_run_28 : decode cX4_run 28 = .ok (.aload_n 0, 1) := by decide +kernel
theorem dX4_run_29 : decode cX4_run 29 = .ok (.invokevirtual 59, 3) := by decide +kernel
theorem dX4_run_32 : decode cX4_run 32 = .ok (.pop, 1) := by decide +kernel
theorem dX4_run_33 : decode cX4_run 33 = .ok (.iinc 4 1, 3) := by decide +kernel
theorem dX4_run_36 : decode cX4_run 36 = .ok (.goto (-26), 3) := by decide +kernel
theorem dX4_run_39 : decode cX4_run 39 = .ok (.return_, 1) := by decide +kernel
set_option maxRecDepth 20000 in
theorem ggX4_begin_X5_canBegin : GoodIn wsX4_begin wsX5_canBegin := goodIn_r _ [21, 22, 23, 24, 25, 26, 27, 28, 29, 30, 31, 32, 33, 56, 57, 58, 59, 60, 61, 62] (by decide +kernel) (by decide +kernel)
set_option maxRecDepth 20000 in
theorem gX4_begin_X5_canBegin : GoodIn wsX4_begin (wsV RX4 97 RX5 yX5_canBegin wsX5_canBegin) := goodIn_app (goodIn_of _ (by decide +kernel)) ggX4_begin_X5_canBegin
set_option maxRecDepth 20000 in
theorem ggX4_begin_J7_fill_53178 : GoodIn wsX4_begin wsJ7_fill_53178 := goodIn_r _ [37] (by decide +kernel) (by decide +kernel)
set_option maxRecDepth 20000 in
theorem gX4_begin_J7_fill_53178 : GoodIn wsX4_begin (va_wsS RX4 108 yJ7_fill_53178 wsJ7_fill_53178) := goodIn_app (goodIn_of _ (by decide +kernel)) ggX4_begin_J7_fill_53178
theorem dX4_begin_0 : decode cX4_begin 0 = .ok (.aload_n 0, 1) := by decide +kernel
theorem dX4_begin_1 : decode cX4_begin 1 = .ok (.iload_n 1, 1) := by decide +kernel
theorem dX4_begin_2 : decode cX4_begin 2 = .ok (.putfield 63, 3) := by decide +kernel
theorem dX4_begin_5 : decode cX4_begin 5 = .ok (.aload_n 0, 1) := by decide +kernel
theorem dX4_begin_6 : decode cX4_begin 6 = .ok (.iload_n 2, 1) := by decide +kernel
theorem dX4_begin_7 : decode cX4_begin 7 = .ok (.putfield 66, 3) := by decide +kernel
theorem dX4_begin_10 : decode cX4_begin 10 = .ok (.aload_n 0, 1) := by decide +kernel
theorem dX4_begin_11 : decode cX4_begin 11 = .ok (.iload_n 3, 1) := by decide +kernel
theorem dX4_begin_12 : decode cX4_begin 12 = .ok (.putfield 70, 3) := by decide +kernel
theorem dX4_begin_15 : decode cX4_begin 15 = .ok (.aload_n 0, 1) := by decide +kernel
theorem dX4_begin_16 : decode cX4_begin 16 = .ok (.iconst 0, 1) := by decide +kernel
theorem dX4_begin_17 : decode cX4_begin 17 = .ok (.putfield 73, 3) := by decide +kernel
theorem dX4_begin_20 : decode cX4_begin 20 = .ok (.aload_n 0, 1) := by decide +kernel
theorem dX4_begin_21 : decode cX4_begin 21 = .ok (.iconst 0, 1) := by decide +kernel
theorem dX4_begin_22 : decode cX4_begin 22 = .ok (.putfield 76, 3) := by decide +kernel
theorem dX4_begin_25 : decode cX4_begin 25 = .ok (.aload_n 0, 1) := by decide +kernel
theorem dX4_begin_26 : decode cX4_begin 26 = .ok (.iconst 0, 1) := by decide +kernel
theorem dX4_begin_27 : decode cX4_begin 27 = .ok (.putfield 79, 3) := by decide +kernel
theorem dX4_begin_30 : decode cX4_begin 30 = .ok (.aload_n 0, 1) := by decide +kernel
theorem dX4_begin_31 : decode cX4_begin 31 = .ok (.iconst 0, 1) := by decide +kernel
theorem dX4_begin_32 : decode cX4_begin 32 = .ok (.putfield 82, 3) := by decide +kernel
theorem dX4_begin_35 : decode cX4_begin 35 = .ok (.aload_n 0, 1) := by decide +kernel
theorem dX4_begin_36 : decode cX4_begin 36 = .ok (.iconst 0, 1) := by decide +kernel
theorem dX4_begin_37 : decode cX4_begin 37 = .ok (.putfield 85, 3) := by decide +kernel
theorem dX4_begin_40 : decode cX4_begin 40 = .ok (.aload_n 0, 1) := by decide +kernel
theorem dX4_begin_41 : decode cX4_begin 41 = .ok (.iconst 0, 1) := by decide +kernel
theorem dX4_begin_42 : decode cX4_begin 42 = .ok (.putfield 88, 3) := by decide +kernel
theorem dX4_begin_45 : decode cX4_begin 45 = .ok (.aload_n 0, 1) := by decide +kernel
theorem dX4_begin_46 : decode cX4_begin 46 = .ok (.iconst 0, 1) := by decide +kernel
theorem dX4_begin_47 : decode cX4_begin 47 = .ok (.putfield 91, 3) := by decide +kernel
theorem dX4_begin_50 : decode cX4_begin 50 = .ok (.aload_n 0, 1) := by decide +kernel
theorem dX4_begin_51 : decode cX4_begin 51 = .ok (.iconst (-1), 1) := by decide +kernel
theorem dX4_begin_52 : decode cX4_begin 52 = .ok (.putfield 94, 3) := by decide +kernel
theorem dX4_begin_55 : decode cX4_begin 55 = .ok (.aload_n 0, 1) := by decide +kernel
theorem dX4_begin_56 : decode cX4_begin 56 = .ok (.getfield 24, 3) := by decide +kernel
theorem dX4_begin_59 : decode cX4_begin 59 = .ok (.aload_n 0, 1) := by decide +kernel
theorem dX4_begin_60 : decode cX4_begin 60 = .ok (.getfield 63, 3) := by decide +kernel
theorem dX4_begin_63 : decode cX4_begin 63 = .ok (.aload_n 0, 1) := by decide +kernel
theorem dX4_begin_64 : decode cX4_begin 64 = .ok (.getfield 70, 3) := by decide +kernel
theorem dX4_begin_67 : decode cX4_begin 67 = .ok (.invokevirtual 97, 3) := by decide +kernel
theorem dX4_begin_70 : decode cX4_begin 70 = .ok (.istore 4, 2) := by decide +kernel
theorem dX4_begin_72 : decode cX4_begin 72 = .ok (.aload_n 0, 1) := by decide +kernel
theorem dX4_begin_73 : decode cX4_begin 73 = .ok (.iload 4, 2) := by decide +kernel
theorem dX4_begin_75 : decode cX4_begin 75 = .ok (.ifCond .eq 7, 3) := by decide +kernel
theorem dX4_begin_78 : decode cX4_begin 78 = .ok (.iconst (-1), 1) := by decide +kernel
theorem dX4_begin_79 : decode cX4_begin 79 = .ok (.goto 4, 3) := by decide +kernel
theorem dX4_begin_82 : decode cX4_begin 82 = .ok (.iconst 4, 1) := by decide +kernel
theorem dX4_begin_83 : decode cX4_begin 83 = .ok (.putfield 101, 3) := by decide +kernel
theorem dX4_begin_86 : decode cX4_begin 86 = .ok (.aload_n 0, 1) := by decide +kernel
theorem dX4_begin_87 : decode cX4_begin 87 = .ok (.iload 4, 2) := by decide +kernel
theorem dX4_begin_89 : decode cX4_begin 89 = .ok (.ifCond .eq 8, 3) := by decide +kernel
theorem dX4_begin_92 : decode cX4_begin 92 = .ok (.ldc 104, 2) := by decide +kernel
theorem dX4_begin_94 : decode cX4_begin 94 = .ok (.goto 4, 3) := by decide +kernel
theorem dX4_begin_97 : decode cX4_begin 97 = .ok (.iconst 0, 1) := by decide +kernel
theorem dX4_begin_98 : decode cX4_begin 98 = .ok (.putfield 105, 3) := by decide +kernel
theorem dX4_begin_101 : decode cX4_begin 101 = .ok (.aload_n 0, 1) := by decide +kernel
theorem dX4_begin_102 : decode cX4_begin 102 = .ok (.getfield 21, 3) := by decide +kernel
theorem dX4_begin_105 : decode cX4_begin 105 = .ok (.iconst 0, 1) := by decide +kernel
theorem dX4_begin_106 : decode cX4_begin 106 = .ok (.invokestatic 108, 3) := by decide +kernel
theorem dX4_begin_109 : decode cX4_begin 109 = .ok (.return_, 1) := by decide +kernel
theorem dX4_isUnderWay_0 : decode cX4_isUnderWay 0 = .ok (.aload_n 0, 1) := by decide +kernel
theorem dX4_isUnderWay_1 : decode cX4_isUnderWay 1 = .ok (.getfield 101, 3) := by decide +kernel
theorem dX4_isUnderWay_4 : decode cX4_isUnderWay 4 = .ok (.iconst (-1), 1) := by decide +kernel
theorem dX4_isUnderWay_5 : decode cX4_isUnderWay 5 = .ok (.if_icmp .ne 7, 3) := by decide +kernel
theorem dX4_isUnderWay_8 : decode cX4_isUnderWay 8 = .ok (.iconst 1, 1) := by decide +kernel
theorem dX4_isUnderWay_9 : decode cX4_isUnderWay 9 = .ok (.goto 4, 3) := by decide +kernel
theorem dX4_isUnderWay_12 : decode cX4_isUnderWay 12 = .ok (.iconst 0, 1) := by decide +kernel
theorem dX4_isUnderWay_13 : decode cX4_isUnderWay 13 = .ok (.ireturn, 1) := by decide +kernel
theorem dX4_isOut_0 : decode cX4_isOut 0 = .ok (.aload_n 0, 1) := by decide +kernel
theorem dX4_isOut_1 : decode cX4_isOut 1 = .ok (.getfield 101, 3) := by decide +kernel
theorem dX4_isOut_4 : decode cX4_isOut 4 = .ok (.ifCond .eq 11, 3) := by decide +kernel
theorem dX4_isOut_7 : decode cX4_isOut 7 = .ok (.aload_n 0, 1) := by decide +kernel
theorem dX4_isOut_8 : decode cX4_isOut 8 = .ok (.getfield 101, 3) := by decide +kernel
theorem dX4_isOut_11 : decode cX4_isOut 11 = .ok (.iconst 1, 1) := by decide +kernel
theorem dX4_isOut_12 : decode cX4_isOut 12 = .ok (.if_icmp .ne 7, 3) := by decide +kernel
theorem dX4_isOut_15 : decode cX4_isOut 15 = .ok (.iconst 1, 1) := by decide +kernel
theorem dX4_isOut_16 : decode cX4_isOut 16 = .ok (.goto 4, 3) := by decide +kernel
theorem dX4_isOut_19 : decode cX4_isOut 19 = .ok (.iconst 0, 1) := by decide +kernel
theorem dX4_isOut_20 : decode cX4_isOut 20 = .ok (.ireturn, 1) := by decide +kernel
set_option maxRecDepth 20000 in
theorem ggX4_shiftIn_X8_at : GoodIn wsX4_shiftIn wsX8_at := goodIn_r _ [4] (by decide +kernel) (by decide +kernel)
set_option maxRecDepth 20000 in
theorem gX4_shiftIn_X8_at_n114 : GoodIn wsX4_shiftIn (wsX8_at) := ggX4_shiftIn_X8_at
theorem dX4_shiftIn_0 : decode cX4_shiftIn 0 = .ok (.aload_n 0, 1) := by decide +kernel
theorem dX4_shiftIn_1 : decode cX4_shiftIn 1 = .ok (.getfield 15, 3) := by decide +kernel
theorem dX4_shiftIn_4 : decode cX4_shiftIn 4 = .ok (.iload_n 1, 1) := by decide +kernel
theorem dX4_shiftIn_5 : decode cX4_shiftIn 5 = .ok (.invokestatic 114, 3) := by decide +kernel
theorem dX4_shiftIn_8 : decode cX4_shiftIn 8 = .ok (.ireturn, 1) := by decide +kernel
set_option maxRecDepth 20000 in
theorem ggX4_lengthIn_X8_at : GoodIn wsX4_lengthIn wsX8_at := goodIn_r _ [4] (by decide +kernel) (by decide +kernel)
set_option maxRecDepth 20000 in
theorem gX4_lengthIn_X8_at_n114 : GoodIn wsX4_lengthIn (wsX8_at) := ggX4_lengthIn_X8_at
theorem dX4_lengthIn_0 : decode cX4_lengthIn 0 = .ok (.aload_n 0, 1) := by decide +kernel
theorem dX4_lengthIn_1 : decode cX4_lengthIn 1 = .ok (.getfield 18, 3) := by decide +kernel
theorem dX4_lengthIn_4 : decode cX4_lengthIn 4 = .ok (.iload_n 1, 1) := by decide +kernel
theorem dX4_lengthIn_5 : decode cX4_lengthIn 5 = .ok (.invokestatic 114, 3) := by decide +kernel
theorem dX4_lengthIn_8 : decode cX4_lengthIn 8 = .ok (.ireturn, 1) := by decide +kernel
set_option maxRecDepth 20000 in
theorem ggX4_timeIn_X8_at : GoodIn wsX4_timeIn wsX8_at := goodIn_r _ [4] (by decide +kernel) (by decide +kernel)
set_option maxRecDepth 20000 in
theorem gX4_timeIn_X8_at_n114 : GoodIn wsX4_timeIn (wsX8_at) := ggX4_timeIn_X8_at
theorem dX4_timeIn_0 : decode cX4_timeIn 0 = .ok (.aload_n 0, 1) := by decide +kernel
theorem dX4_timeIn_1 : decode cX4_timeIn 1 = .ok (.getfield 21, 3) := by decide +kernel
theorem dX4_timeIn_4 : decode cX4_timeIn 4 = .ok (.iload_n 1, 1) := by decide +kernel
theorem dX4_timeIn_5 : decode cX4_timeIn 5 = .ok (.invokestatic 114, 3) := by decide +kernel
theorem dX4_timeIn_8 : decode cX4_timeIn 8 = .ok (.ireturn, 1) := by decide +kernel
set_option maxRecDepth 20000 in
theorem ggX4_cross_X4_timeIn : GoodIn wsX4_cross wsX4_timeIn := goodIn_r _ [22, 23, 24, 25, 26, 53, 54, 55, 56, 57, 58, 59, 60, 61, 62, 63, 64, 65, 66, 67, 68, 69, 70] (by decide +kernel) (by decide +kernel)
set_option maxRecDepth 20000 in
theorem gX4_cross_X4_timeIn : GoodIn wsX4_cross (wsV RX4 118 RX4 yX4_timeIn wsX4_timeIn) := goodIn_app (goodIn_of _ (by decide +kernel)) ggX4_cross_X4_timeIn
set_option maxRecDepth 20000 in
theorem ggX4_cross_X4_measure : GoodIn wsX4_cross wsX4_measure := goodIn_r _ [30, 12, 13, 1, 31, 32, 33, 23, 34, 35, 36, 37, 38, 39, 40, 41, 21, 42, 43, 25, 44, 53, 54, 55, 56, 57, 58, 59, 60, 61, 62, 63, 64, 65, 66, 67, 68, 69, 70, 71, 72, 73, 74, 75, 76, 77] (by decide +kernel) (by decide +kernel)
set_option maxRecDepth 20000 in
theorem gX4_cross_X4_measure : GoodIn wsX4_cross (wsV RX4 121 RX4 yX4_measure wsX4_measure) := goodIn_app (goodIn_of _ (by decide +kernel)) ggX4_cross_X4_measure
set_option maxRecDepth 20000 in
theorem ggX4_cross_X4_lengthIn : GoodIn wsX4_cross wsX4_lengthIn := goodIn_r _ [48, 33, 24, 25, 26, 53, 54, 55, 56, 57, 58, 59, 60, 61, 62, 63, 64, 65, 66, 67, 68, 69, 70] (by decide +kernel) (by decide +kernel)
set_option maxRecDepth 20000 in
theorem gX4_cross_X4_lengthIn : GoodIn wsX4_cross (wsV RX4 124 RX4 yX4_lengthIn wsX4_lengthIn) := goodIn_app (goodIn_of _ (by decide +kernel)) ggX4_cross_X4_lengthIn
set_option maxRecDepth 20000 in
theorem ggX4_cross_X4_shiftIn : GoodIn wsX4_cross wsX4_shiftIn := goodIn_r _ [52, 32, 24, 25, 26, 53, 54, 55, 56, 57, 58, 59, 60, 61, 62, 63, 64, 65, 66, 67, 68, 69, 70] (by decide +kernel) (by decide +kernel)
set_option maxRecDepth 20000 in
theorem gX4_cross_X4_shiftIn : GoodIn wsX4_cross (wsV RX4 127 RX4 yX4_shiftIn wsX4_shiftIn) := goodIn_app (goodIn_of _ (by decide +kernel)) ggX4_cross_X4_shiftIn
set_option maxRecDepth 20000 in
theorem ggX4_cross_X7_get : GoodIn wsX4_cross wsX7_get := goodIn_r _ [38, 39, 76, 77] (by decide +kernel) (by decide +kernel)
set_option maxRecDepth 20000 in
theorem gX4_cross_X7_get : GoodIn wsX4_cross (wsV RX4 136 RX7 yX7_get wsX7_get) := goodIn_app (goodIn_of _ (by decide +kernel)) ggX4_cross_X7_get
theorem dX4_cross_0 : decode cX4_cross 0 = .ok (.aload_n 0, 1) := by decide +kernel
theorem dX4_cross_1 : decode cX4_cross 1 = .ok (.aload_n 0, 1) := by decide +kernel
theorem dX4_cross_2 : decode cX4_cross 2 = .ok (.getfield 63, 3) := by decide +kernel
theorem dX4_cross_5 : decode cX4_cross 5 = .ok (.invokevirtual 118, 3) := by decide +kernel
theorem dX4_cross_8 : decode cX4_cross 8 = .ok (.ifCond .ne 7, 3) := by decide +kernel
theorem dX4_cross_11 : decode cX4_cross 11 = .ok (.aload_n 0, 1) := by decide +kernel
theorem dX4_cross_12 : decode cX4_cross 12 = .ok (.invokevirtual 121, 3) := by decide +kernel
theorem dX4_cross_15 : decode cX4_cross 15 = .ok (.aload_n 0, 1) := by decide +kernel
theorem dX4_cross_16 : decode cX4_cross 16 = .ok (.aload_n 0, 1) := by decide +kernel
theorem dX4_cross_17 : decode cX4_cross 17 = .ok (.getfield 63, 3) := by decide +kernel
theorem dX4_cross_20 : decode cX4_cross 20 = .ok (.invokevirtual 124, 3) := by decide +kernel
theorem dX4_cross_23 : decode cX4_cross 23 = .ok (.istore_n 1, 1) := by decide +kernel
theorem dX4_cross_24 : decode cX4_cross 24 = .ok (.aload_n 0, 1) := by decide +kernel
theorem dX4_cross_25 : decode cX4_cross 25 = .ok (.dup, 1) := by decide +kernel
theorem dX4_cross_26 : decode cX4_cross 26 = .ok (.getfield 73, 3) := by decide +kernel
theorem dX4_cross_29 : decode cX4_cross 29 = .ok (.iconst 1, 1) := by decide +kernel
theorem dX4_cross_30 : decode cX4_cross 30 = .ok (.iadd, 1) := by decide +kernel
theorem dX4_cross_31 : decode cX4_cross 31 = .ok (.putfield 73, 3) := by decide +kernel
theorem dX4_cross_34 : decode cX4_cross 34 = .ok (.aload_n 0, 1) := by decide +kernel
theorem dX4_cross_35 : decode cX4_cross 35 = .ok (.dup, 1) := by decide +kernel
theorem dX4_cross_36 : decode cX4_cross 36 = .ok (.getfield 76, 3) := by decide +kernel
theorem dX4_cross_39 : decode cX4_cross 39 = .ok (.aload_n 0, 1) := by decide +kernel
theorem dX4_cross_40 : decode cX4_cross 40 = .ok (.aload_n 0, 1) := by decide +kernel
theorem dX4_cross_41 : decode cX4_cross 41 = .ok (.getfield 63, 3) := by decide +kernel
theorem dX4_cross_44 : decode cX4_cross 44 = .ok (.invokevirtual 127, 3) := by decide +kernel
theorem dX4_cross_47 : decode cX4_cross 47 = .ok (.iadd, 1) := by decide +kernel
theorem dX4_cross_48 : decode cX4_cross 48 = .ok (.putfield 76, 3) := by decide +kernel
theorem dX4_cross_51 : decode cX4_cross 51 = .ok (.aload_n 0, 1) := by decide +kernel
theorem dX4_cross_52 : decode cX4_cross 52 = .ok (.dup, 1) := by decide +kernel
theorem dX4_cross_53 : decode cX4_cross 53 = .ok (.getfield 79, 3) := by decide +kernel
theorem dX4_cross_56 : decode cX4_cross 56 = .ok (.iload_n 1, 1) := by decide +kernel
theorem dX4_cross_57 : decode cX4_cross 57 = .ok (.iadd, 1) := by decide +kernel
theorem dX4_cross_58 : decode cX4_cross 58 = .ok (.putfield 79, 3) := by decide +kernel
theorem dX4_cross_61 : decode cX4_cross 61 = .ok (.aload_n 0, 1) := by decide +kernel
theorem dX4_cross_62 : decode cX4_cross 62 = .ok (.dup, 1) := by decide +kernel
theorem dX4_cross_63 : decode cX4_cross 63 = .ok (.getfield 82, 3) := by decide +kernel
theorem dX4_cross_66 : decode cX4_cross 66 = .ok (.aload_n 0, 1) := by decide +kernel
theorem dX4_cross_67 : decode cX4_cross 67 = .ok (.aload_n 0, 1) := by decide +kernel
theorem dX4_cross_68 : decode cX4_cross 68 = .ok (.getfield 63, 3) := by decide +kernel
theorem dX4_cross_71 : decode cX4_cross 71 = .ok (.invokevirtual 118, 3) := by decide +kernel
theorem dX4_cross_74 : decode cX4_cross 74 = .ok (.iadd, 1) := by decide +kernel
theorem dX4_cross_75 : decode cX4_cross 75 = .ok (.putfield 82, 3) := by decide +kernel
theorem dX4_cross_78 : decode cX4_cross 78 = .ok (.aload_n 0, 1) := by decide +kernel
theorem dX4_cross_79 : decode cX4_cross 79 = .ok (.aload_n 0, 1) := by decide +kernel
theorem dX4_cross_80 : decode cX4_cross 80 = .ok (.getfield 94, 3) := by decide +kernel
theorem dX4_cross_83 : decode cX4_cross 83 = .ok (.aload_n 0, 1) := by decide +kernel
theorem dX4_cross_84 : decode cX4_cross 84 = .ok (.getfield 63, 3) := by decide +kernel
theorem dX4_cross_87 : decode cX4_cross 87 = .ok (.invokestatic 130, 3) := by decide +kernel
theorem dX4_cross_90 : decode cX4_cross 90 = .ok (.putfield 94, 3) := by decide +kernel
theorem dX4_cross_93 : decode cX4_cross 93 = .ok (.aload_n 0, 1) := by decide +kernel
theorem dX4_cross_94 : decode cX4_cross 94 = .ok (.getfield 105, 3) := by decide +kernel
theorem dX4_cross_97 : decode cX4_cross 97 = .ok (.i2l, 1) := by decide +kernel
theorem dX4_cross_98 : decode cX4_cross 98 = .ok (.aload_n 0, 1) := by decide +kernel
theorem dX4_cross_99 : decode cX4_cross 99 = .ok (.getfield 24, 3) := by decide +kernel
theorem dX4_cross_102 : decode cX4_cross 102 = .ok (.getfield 28, 3) := by decide +kernel
theorem dX4_cross_105 : decode cX4_cross 105 = .ok (.aload_n 0, 1) := by decide +kernel
theorem dX4_cross_106 : decode cX4_cross 106 = .ok (.getfield 63, 3) := by decide +kernel
theorem dX4_cross_109 : decode cX4_cross 109 = .ok (.iconst 2, 1) := by decide +kernel
theorem dX4_cross_110 : decode cX4_cross 110 = .ok (.invokevirtual 136, 3) := by decide +kernel
theorem dX4_cross_113 : decode cX4_cross 113 = .ok (.i2l, 1) := by decide +kernel
theorem dX4_cross_114 : decode cX4_cross 114 = .ok (.lmul, 1) := by decide +kernel
theorem dX4_cross_115 : decode cX4_cross 115 = .ok (.iload_n 1, 1) := by decide +kernel
theorem dX4_cross_116 : decode cX4_cross 116 = .ok (.i2l, 1) := by decide +kernel
theorem dX4_cross_117 : decode cX4_cross 117 = .ok (.lmul, 1) := by decide +kernel
theorem dX4_cross_118 : decode cX4_cross 118 = .ok (.ldc2_w 139, 3) := by decide +kernel
theorem dX4_cross_121 : decode cX4_cross 121 = .ok (.ldiv, 1) := by decide +kernel
theorem dX4_cross_122 : decode cX4_cross 122 = .ok (.lstore_n 2, 1) := by decide +kernel
theorem dX4_cross_123 : decode cX4_cross 123 = .ok (.aload_n 0, 1) := by decide +kernel
theorem dX4_cross_124 : decode cX4_cross 124 = .ok (.lconst 0, 1) := by decide +kernel
theorem dX4_cross_125 : decode cX4_cross 125 = .ok (.aload_n 0, 1) := by decide +kernel
theorem dX4_cross_126 : decode cX4_cross 126 = .ok (.getfield 105, 3) := by decide +kernel
theorem dX4_cross_129 : decode cX4_cross 129 = .ok (.i2l, 1) := by decide +kernel
theorem dX4_cross_130 : decode cX4_cross 130 = .ok (.lload_n 2, 1) := by decide +kernel
theorem dX4_cross_131 : decode cX4_cross 131 = .ok (.lsub, 1) := by decide +kernel
theorem dX4_cross_132 : decode cX4_cross 132 = .ok (.invokestatic 141, 3) := by decide +kernel
theorem dX4_cross_135 : decode cX4_cross 135 = .ok (.l2i, 1) := by decide +kernel
theorem dX4_cross_136 : decode cX4_cross 136 = .ok (.putfield 105, 3) := by decide +kernel
theorem dX4_cross_139 : decode cX4_cross 139 = .ok (.return_, 1) := by decide +kernel
set_option maxRecDepth 20000 in
theorem ggX4_measure_X7_get : GoodIn wsX4_measure wsX7_get := goodIn_r _ [12, 13, 44, 45] (by decide +kernel) (by decide +kernel)
set_option maxRecDepth 20000 in
theorem gX4_measure_X7_get : GoodIn wsX4_measure (wsV RX4 136 RX7 yX7_get wsX7_get) := goodIn_app (goodIn_of _ (by decide +kernel)) ggX4_measure_X7_get
set_option maxRecDepth 20000 in
theorem ggX4_measure_X4_rootOf : GoodIn wsX4_measure wsX4_rootOf := goodIn_r _ [17] (by decide +kernel) (by decide +kernel)
set_option maxRecDepth 20000 in
theorem gX4_measure_X4_rootOf : GoodIn wsX4_measure (va_wsS RX4 144 yX4_rootOf wsX4_rootOf) := goodIn_app (goodIn_of _ (by decide +kernel)) ggX4_measure_X4_rootOf
set_option maxRecDepth 20000 in
theorem ggX4_measure_X8_put : GoodIn wsX4_measure wsX8_put := goodIn_r _ [20] (by decide +kernel) (by decide +kernel)
set_option maxRecDepth 20000 in
theorem gX4_measure_X8_put_n44 : GoodIn wsX4_measure (wsX8_put) := ggX4_measure_X8_put
theorem dX4_measure_0 : decode cX4_measure 0 = .ok (.aload_n 0, 1) := by decide +kernel
theorem dX4_measure_1 : decode cX4_measure 1 = .ok (.getfield 24, 3) := by decide +kernel
theorem dX4_measure_4 : decode cX4_measure 4 = .ok (.getfield 28, 3) := by decide +kernel
theorem dX4_measure_7 : decode cX4_measure 7 = .ok (.aload_n 0, 1) := by decide +kernel
theorem dX4_measure_8 : decode cX4_measure 8 = .ok (.getfield 63, 3) := by decide +kernel
theorem dX4_measure_11 : decode cX4_measure 11 = .ok (.iconst 0, 1) := by decide +kernel
theorem dX4_measure_12 : decode cX4_measure 12 = .ok (.invokevirtual 136, 3) := by decide +kernel
theorem dX4_measure_15 : decode cX4_measure 15 = .ok (.istore_n 1, 1) := by decide +kernel
theorem dX4_measure_16 : decode cX4_measure 16 = .ok (.aload_n 0, 1) := by decide +kernel
theorem dX4_measure_17 : decode cX4_measure 17 = .ok (.getfield 24, 3) := by decide +kernel
theorem dX4_measure_20 : decode cX4_measure 20 = .ok (.getfield 28, 3) := by decide +kernel
theorem dX4_measure_23 : decode cX4_measure 23 = .ok (.aload_n 0, 1) := by decide +kernel
theorem dX4_measure_24 : decode cX4_measure 24 = .ok (.getfield 63, 3) := by decide +kernel
theorem dX4_measure_27 : decode cX4_measure 27 = .ok (.iconst 1, 1) := by decide +kernel
theorem dX4_measure_28 : decode cX4_measure 28 = .ok (.invokevirtual 136, 3) := by decide +kernel
theorem dX4_measure_31 : decode cX4_measure 31 = .ok (.istore_n 2, 1) := by decide +kernel
theorem dX4_measure_32 : decode cX4_measure 32 = .ok (.iload_n 1, 1) := by decide +kernel
theorem dX4_measure_33 : decode cX4_measure 33 = .ok (.iload_n 1, 1) := by decide +kernel
theorem dX4_measure_34 : decode cX4_measure 34 = .ok (.imul, 1) := by decide +kernel
theorem dX4_measure_35 : decode cX4_measure 35 = .ok (.aload_n 0, 1) := by decide +kernel
theorem dX4_measure_36 : decode cX4_measure 36 = .ok (.getfield 70, 3) := by decide +kernel
theorem dX4_measure_39 : decode cX4_measure 39 = .ok (.aload_n 0, 1) := by decide +kernel
theorem dX4_measure_40 : decode cX4_measure 40 = .ok (.getfield 70, 3) := by decide +kernel
theorem dX4_measure_43 : decode cX4_measure 43 = .ok (.imul, 1) := by decide +kernel
theorem dX4_measure_44 : decode cX4_measure 44 = .ok (.isub, 1) := by decide +kernel
theorem dX4_measure_45 : decode cX4_measure 45 = .ok (.invokestatic 144, 3) := by decide +kernel
theorem dX4_measure_48 : decode cX4_measure 48 = .ok (.istore_n 3, 1) := by decide +kernel
theorem dX4_measure_49 : decode cX4_measure 49 = .ok (.iload_n 3, 1) := by decide +kernel
theorem dX4_measure_50 : decode cX4_measure 50 = .ok (.ifCond .le 61, 3) := by decide +kernel
theorem dX4_measure_53 : decode cX4_measure 53 = .ok (.iload_n 2, 1) := by decide +kernel
theorem dX4_measure_54 : decode cX4_measure 54 = .ok (.iload_n 1, 1) := by decide +kernel
theorem dX4_measure_55 : decode cX4_measure 55 = .ok (.imul, 1) := by decide +kernel
theorem dX4_measure_56 : decode cX4_measure 56 = .ok (.iload_n 3, 1) := by decide +kernel
theorem dX4_measure_57 : decode cX4_measure 57 = .ok (.idiv, 1) := by decide +kernel
theorem dX4_measure_58 : decode cX4_measure 58 = .ok (.istore 4, 2) := by decide +kernel
theorem dX4_measure_60 : decode cX4_measure 60 = .ok (.aload_n 0, 1) := by decide +kernel
theorem dX4_measure_61 : decode cX4_measure 61 = .ok (.getfield 15, 3) := by decide +kernel
theorem dX4_measure_64 : decode cX4_measure 64 = .ok (.aload_n 0, 1) := by decide +kernel
theorem dX4_measure_65 : decode cX4_measure 65 = .ok (.getfield 63, 3) := by decide +kernel
theorem dX4_measure_68 : decode cX4_measure 68 = .ok (.iload_n 2, 1) := by decide +kernel
theorem dX4_measure_69 : decode cX4_measure 69 = .ok (.aload_n 0, 1) := by decide +kernel
theorem dX4_measure_70 : decode cX4_measure 70 = .ok (.getfield 70, 3) := by decide +kernel
theorem dX4_measure_73 : decode cX4_measure 73 = .ok (.imul, 1) := by decide +kernel
theorem dX4_measure_74 : decode cX4_measure 74 = .ok (.iload_n 3, 1) := by decide +kernel
theorem dX4_measure_75 : decode cX4_measure 75 = .ok (.idiv, 1) := by decide +kernel
theorem dX4_measure_76 : decode cX4_measure 76 = .ok (.invokestatic 44, 3) := by decide +kernel
theorem dX4_measure_79 : decode cX4_measure 79 = .ok (.aload_n 0, 1) := by decide +kernel
theorem dX4_measure_80 : decode cX4_measure 80 = .ok (.getfield 18, 3) := by decide +kernel
theorem dX4_measure_83 : decode cX4_measure 83 = .ok (.aload_n 0, 1) := by decide +kernel
theorem dX4_measure_84 : decode cX4_measure 84 = .ok (.getfield 63, 3) := by decide +kernel
theorem dX4_measure_87 : decode cX4_measure 87 = .ok (.iload 4, 2) := by decide +kernel
theorem dX4_measure_89 : decode cX4_measure 89 = .ok (.invokestatic 44, 3) := by decide +kernel
theorem dX4_measure_92 : decode cX4_measure 92 = .ok (.aload_n 0, 1) := by decide +kernel
theorem dX4_measure_93 : decode cX4_measure 93 = .ok (.getfield 21, 3) := by decide +kernel
theorem dX4_measure_96 : decode cX4_measure 96 = .ok (.aload_n 0, 1) := by decide +kernel
theorem dX4_measure_97 : decode cX4_measure 97 = .ok (.getfield 63, 3) := by decide +kernel
theorem dX4_measure_100 : decode cX4_measure 100 = .ok (.iload 4, 2) := by decide +kernel
theorem dX4_measure_102 : decode cX4_measure 102 = .ok (.iload_n 1, 1) := by decide +kernel
theorem dX4_measure_103 : decode cX4_measure 103 = .ok (.imul, 1) := by decide +kernel
theorem dX4_measure_104 : decode cX4_measure 104 = .ok (.sipush 1000, 3) := by decide +kernel
theorem dX4_measure_107 : decode cX4_measure 107 = .ok (.idiv, 1) := by decide +kernel
theorem dX4_measure_108 : decode cX4_measure 108 = .ok (.invokestatic 44, 3) := by decide +kernel
theorem dX4_measure_111 : decode cX4_measure 111 = .ok (.return_, 1) := by decide +kernel
theorem dX4_rootOf_0 : decode cX4_rootOf 0 = .ok (.iconst 0, 1) := by decide +kernel
theorem dX4_rootOf_1 : decode cX4_rootOf 1 = .ok (.istore_n 1, 1) := by decide +kernel
theorem dX4_rootOf_2 : decode cX4_rootOf 2 = .ok (.sipush 2048, 3) := by decide +kernel
theorem dX4_rootOf_5 : decode cX4_rootOf 5 = .ok (.istore_n 2, 1) := by decide +kernel
theorem dX4_rootOf_6 : decode cX4_rootOf 6 = .ok (.iload_n 2, 1) := by decide +kernel
theorem dX4_rootOf_7 : decode cX4_rootOf 7 = .ok (.ifCond .le 23, 3) := by decide +kernel
theorem dX4_rootOf_10 : decode cX4_rootOf 10 = .ok (.iload_n 1, 1) := by decide +kernel
theorem dX4_rootOf_11 : decode cX4_rootOf 11 = .ok (.iload_n 2, 1) := by decide +kernel
theorem dX4_rootOf_12 : decode cX4_rootOf 12 = .ok (.iadd, 1) := by decide +kernel
theorem dX4_rootOf_13 : decode cX4_rootOf 13 = .ok (.istore_n 3, 1) := by decide +kernel
theorem dX4_rootOf_14 : decode cX4_rootOf 14 = .ok (.iload_n 3, 1) := by decide +kernel
theorem dX4_rootOf_15 : decode cX4_rootOf 15 = .ok (.iload_n 3, 1) := by decide +kernel
theorem dX4_rootOf_16 : decode cX4_rootOf 16 = .ok (.imul, 1) := by decide +kernel
theorem dX4_rootOf_17 : decode cX4_rootOf 17 = .ok (.iload_n 0, 1) := by decide +kernel
theorem dX4_rootOf_18 : decode cX4_rootOf 18 = .ok (.if_icmp .gt 5, 3) := by decide +kernel
theorem dX4_rootOf_21 : decode cX4_rootOf 21 = .ok (.iload_n 3, 1) := by decide +kernel
theorem dX4_rootOf_22 : decode cX4_rootOf 22 = .ok (.istore_n 1, 1) := by decide +kernel
theorem dX4_rootOf_23 : decode cX4_rootOf 23 = .ok (.iload_n 2, 1) := by decide +kernel
theorem dX4_rootOf_24 : decode cX4_rootOf 24 = .ok (.iconst 2, 1) := by decide +kernel
theorem dX4_rootOf_25 : decode cX4_rootOf 25 = .ok (.idiv, 1) := by decide +kernel
theorem dX4_rootOf_26 : decode cX4_rootOf 26 = .ok (.istore_n 2, 1) := by decide +kernel
theorem dX4_rootOf_27 : decode cX4_rootOf 27 = .ok (.goto (-21), 3) := by decide +kernel
theorem dX4_rootOf_30 : decode cX4_rootOf 30 = .ok (.iload_n 1, 1) := by decide +kernel
theorem dX4_rootOf_31 : decode cX4_rootOf 31 = .ok (.ireturn, 1) := by decide +kernel
set_option maxRecDepth 20000 in
theorem ggX4_goOn_X4_endWith : GoodIn wsX4_goOn wsX4_endWith := goodIn_r _ [13, 14, 48, 49, 50, 51, 52, 53, 54, 55, 56, 57, 58, 59, 60, 61, 62, 63, 64, 65] (by decide +kernel) (by decide +kernel)
set_option maxRecDepth 20000 in
theorem gX4_goOn_X4_endWith : GoodIn wsX4_goOn (wsV RX4 147 RX4 yX4_endWith wsX4_endWith) := goodIn_app (goodIn_of _ (by decide +kernel)) ggX4_goOn_X4_endWith
set_option maxRecDepth 20000 in
theorem ggX4_goOn_X8_at : GoodIn wsX4_goOn wsX8_at := goodIn_r _ [17] (by decide +kernel) (by decide +kernel)
set_option maxRecDepth 20000 in
theorem gX4_goOn_X8_at_n114 : GoodIn wsX4_goOn (wsX8_at) := ggX4_goOn_X8_at
set_option maxRecDepth 20000 in
theorem ggX4_goOn_X7_has : GoodIn wsX4_goOn wsX7_has := goodIn_r _ [22, 23, 71, 72] (by decide +kernel) (by decide +kernel)
set_option maxRecDepth 20000 in
theorem gX4_goOn_X7_has : GoodIn wsX4_goOn (wsV RX4 150 RX7 yX7_has wsX7_has) := goodIn_app (goodIn_of _ (by decide +kernel)) ggX4_goOn_X7_has
set_option maxRecDepth 20000 in
theorem ggX4_goOn_X4_passInto : GoodIn wsX4_goOn wsX4_passInto := goodIn_r _ [27, 4, 3, 1, 28, 15, 16, 17, 48, 49, 50, 51, 52, 53, 54, 55, 56, 57, 58, 59, 60, 61, 62, 63, 64, 65] (by decide +kernel) (by decide +kernel)
set_option maxRecDepth 20000 in
theorem gX4_goOn_X4_passInto : GoodIn wsX4_goOn (wsV RX4 154 RX4 yX4_passInto wsX4_passInto) := goodIn_app (goodIn_of _ (by decide +kernel)) ggX4_goOn_X4_passInto
set_option maxRecDepth 20000 in
theorem ggX4_goOn_X5_isMirrorAt : GoodIn wsX4_goOn wsX5_isMirrorAt := goodIn_r _ [33, 34, 35, 36, 66, 67, 68, 69, 70, 71, 72] (by decide +kernel) (by decide +kernel)
set_option maxRecDepth 20000 in
theorem gX4_goOn_X5_isMirrorAt : GoodIn wsX4_goOn (wsV RX4 157 RX5 yX5_isMirrorAt wsX5_isMirrorAt) := goodIn_app (goodIn_of _ (by decide +kernel)) ggX4_goOn_X5_isMirrorAt
set_option maxRecDepth 20000 in
theorem ggX4_goOn_X4_mirrorBack : GoodIn wsX4_goOn wsX4_mirrorBack := goodIn_r _ [40, 41, 1, 6, 42, 2, 9, 10, 11, 12, 13, 14, 48, 49, 50, 51, 52, 53, 54, 55, 56, 57, 58, 59, 60, 61, 62, 63, 64, 65, 66, 67, 68, 69, 70] (by decide +kernel) (by decide +kernel)
set_option maxRecDepth 20000 in
theorem gX4_goOn_X4_mirrorBack : GoodIn wsX4_goOn (wsV RX4 160 RX4 yX4_mirrorBack wsX4_mirrorBack) := goodIn_app (goodIn_of _ (by decide +kernel)) ggX4_goOn_X4_mirrorBack
set_option maxRecDepth 20000 in
theorem ggX4_goOn_X4_turnBack : GoodIn wsX4_goOn wsX4_turnBack := goodIn_r _ [46, 2, 47, 48, 49, 50, 51, 52, 53, 54, 55, 56, 57, 58, 59, 60, 61, 62, 63, 64, 65] (by decide +kernel) (by decide +kernel)
set_option maxRecDepth 20000 in
theorem gX4_goOn_X4_turnBack : GoodIn wsX4_goOn (wsV RX4 163 RX4 yX4_turnBack wsX4_turnBack) := goodIn_app (goodIn_of _ (by decide +kernel)) ggX4_goOn_X4_turnBack
theorem dX4_goOn_0 : decode cX4_goOn 0 = .ok (.aload_n 0, 1) := by decide +kernel
theorem dX4_goOn_1 : decode cX4_goOn 1 = .ok (.getfield 105, 3) := by decide +kernel
theorem dX4_goOn_4 : decode cX4_goOn 4 = .ok (.ifCond .ne 10, 3) := by decide +kernel
theorem dX4_goOn_7 : decode cX4_goOn 7 = .ok (.aload_n 0, 1) := by decide +kernel
theorem dX4_goOn_8 : decode cX4_goOn 8 = .ok (.iconst 2, 1) := by decide +kernel
theorem dX4_goOn_9 : decode cX4_goOn 9 = .ok (.iconst 5, 1) := by decide +kernel
theorem dX4_goOn_10 : decode cX4_goOn 10 = .ok (.invokevirtual 147, 3) := by decide +kernel
theorem dX4_goOn_13 : decode cX4_goOn 13 = .ok (.ireturn, 1) := by decide +kernel
theorem dX4_goOn_14 : decode cX4_goOn 14 = .ok (.aload_n 0, 1) := by decide +kernel
theorem dX4_goOn_15 : decode cX4_goOn 15 = .ok (.getfield 66, 3) := by decide +kernel
theorem dX4_goOn_18 : decode cX4_goOn 18 = .ok (.ifCond .eq 12, 3) := by decide +kernel
theorem dX4_goOn_21 : decode cX4_goOn 21 = .ok (.aload_n 0, 1) := by decide +kernel
theorem dX4_goOn_22 : decode cX4_goOn 22 = .ok (.getfield 63, 3) := by decide +kernel
theorem dX4_goOn_25 : decode cX4_goOn 25 = .ok (.iconst 1, 1) := by decide +kernel
theorem dX4_goOn_26 : decode cX4_goOn 26 = .ok (.iadd, 1) := by decide +kernel
theorem dX4_goOn_27 : decode cX4_goOn 27 = .ok (.goto 9, 3) := by decide +kernel
theorem dX4_goOn_30 : decode cX4_goOn 30 = .ok (.aload_n 0, 1) := by decide +kernel
theorem dX4_goOn_31 : decode cX4_goOn 31 = .ok (.getfield 63, 3) := by decide +kernel
theorem dX4_goOn_34 : decode cX4_goOn 34 = .ok (.iconst 1, 1) := by decide +kernel
theorem dX4_goOn_35 : decode cX4_goOn 35 = .ok (.isub, 1) := by decide +kernel
theorem dX4_goOn_36 : decode cX4_goOn 36 = .ok (.istore_n 1, 1) := by decide +kernel
theorem dX4_goOn_37 : decode cX4_goOn 37 = .ok (.aload_n 0, 1) := by decide +kernel
theorem dX4_goOn_38 : decode cX4_goOn 38 = .ok (.getfield 9, 3) := by decide +kernel
theorem dX4_goOn_41 : decode cX4_goOn 41 = .ok (.iload_n 1, 1) := by decide +kernel
theorem dX4_goOn_42 : decode cX4_goOn 42 = .ok (.iconst 1, 1) := by decide +kernel
theorem dX4_goOn_43 : decode cX4_goOn 43 = .ok (.iadd, 1) := by decide +kernel
theorem dX4_goOn_44 : decode cX4_goOn 44 = .ok (.invokestatic 114, 3) := by decide +kernel
theorem dX4_goOn_47 : decode cX4_goOn 47 = .ok (.aload_n 0, 1) := by decide +kernel
theorem dX4_goOn_48 : decode cX4_goOn 48 = .ok (.getfield 70, 3) := by decide +kernel
theorem dX4_goOn_51 : decode cX4_goOn 51 = .ok (.if_icmp .le 7, 3) := by decide +kernel
theorem dX4_goOn_54 : decode cX4_goOn 54 = .ok (.iconst 1, 1) := by decide +kernel
theorem dX4_goOn_55 : decode cX4_goOn 55 = .ok (.goto 4, 3) := by decide +kernel
theorem dX4_goOn_58 : decode cX4_goOn 58 = .ok (.iconst 0, 1) := by decide +kernel
theorem dX4_goOn_59 : decode cX4_goOn 59 = .ok (.istore_n 2, 1) := by decide +kernel
theorem dX4_goOn_60 : decode cX4_goOn 60 = .ok (.iload_n 2, 1) := by decide +kernel
theorem dX4_goOn_61 : decode cX4_goOn 61 = .ok (.ifCond .eq 40, 3) := by decide +kernel
theorem dX4_goOn_64 : decode cX4_goOn 64 = .ok (.aload_n 0, 1) := by decide +kernel
theorem dX4_goOn_65 : decode cX4_goOn 65 = .ok (.getfield 24, 3) := by decide +kernel
theorem dX4_goOn_68 : decode cX4_goOn 68 = .ok (.getfield 28, 3) := by decide +kernel
theorem dX4_goOn_71 : decode cX4_goOn 71 = .ok (.iload_n 1, 1) := by decide +kernel
theorem dX4_goOn_72 : decode cX4_goOn 72 = .ok (.invokevirtual 150, 3) := by decide +kernel
theorem dX4_goOn_75 : decode cX4_goOn 75 = .ok (.ifCond .ne 26, 3) := by decide +kernel
theorem dX4_goOn_78 : decode cX4_goOn 78 = .ok (.aload_n 0, 1) := by decide +kernel
theorem dX4_goOn_79 : decode cX4_goOn 79 = .ok (.getfield 66, 3) := by decide +kernel
theorem dX4_goOn_82 : decode cX4_goOn 82 = .ok (.ifCond .eq 12, 3) := by decide +kernel
theorem dX4_goOn_85 : decode cX4_goOn 85 = .ok (.aload_n 0, 1) := by decide +kernel
theorem dX4_goOn_86 : decode cX4_goOn 86 = .ok (.iconst 1, 1) := by decide +kernel
theorem dX4_goOn_87 : decode cX4_goOn 87 = .ok (.iconst 4, 1) := by decide +kernel
theorem dX4_goOn_88 : decode cX4_goOn 88 = .ok (.invokevirtual 147, 3) := by decide +kernel
theorem dX4_goOn_91 : decode cX4_goOn 91 = .ok (.goto 9, 3) := by decide +kernel
theorem dX4_goOn_94 : decode cX4_goOn 94 = .ok (.aload_n 0, 1) := by decide +kernel
theorem dX4_goOn_95 : decode cX4_goOn 95 = .ok (.iconst 0, 1) := by decide +kernel
theorem dX4_goOn_96 : decode cX4_goOn 96 = .ok (.iconst 3, 1) := by decide +kernel
theorem dX4_goOn_97 : decode cX4_goOn 97 = .ok (.invokevirtual 147, 3) := by decide +kernel
theorem dX4_goOn_100 : decode cX4_goOn 100 = .ok (.ireturn, 1) := by decide +kernel
theorem dX4_goOn_101 : decode cX4_goOn 101 = .ok (.aload_n 0, 1) := by decide +kernel
theorem dX4_goOn_102 : decode cX4_goOn 102 = .ok (.getfield 73, 3) := by decide +kernel
theorem dX4_goOn_105 : decode cX4_goOn 105 = .ok (.bipush 60, 2) := by decide +kernel
theorem dX4_goOn_107 : decode cX4_goOn 107 = .ok (.if_icmp .lt 11, 3) := by decide +kernel
theorem dX4_goOn_110 : decode cX4_goOn 110 = .ok (.aload_n 0, 1) := by decide +kernel
theorem dX4_goOn_111 : decode cX4_goOn 111 = .ok (.iconst 3, 1) := by decide +kernel
theorem dX4_goOn_112 : decode cX4_goOn 112 = .ok (.bipush 6, 2) := by decide +kernel
theorem dX4_goOn_114 : decode cX4_goOn 114 = .ok (.invokevirtual 147, 3) := by decide +kernel
theorem dX4_goOn_117 : decode cX4_goOn 117 = .ok (.ireturn, 1) := by decide +kernel
theorem dX4_goOn_118 : decode cX4_goOn 118 = .ok (.iload_n 2, 1) := by decide +kernel
theorem dX4_goOn_119 : decode cX4_goOn 119 = .ok (.ifCond .eq 9, 3) := by decide +kernel
theorem dX4_goOn_122 : decode cX4_goOn 122 = .ok (.aload_n 0, 1) := by decide +kernel
theorem dX4_goOn_123 : decode cX4_goOn 123 = .ok (.iload_n 1, 1) := by decide +kernel
theorem dX4_goOn_124 : decode cX4_goOn 124 = .ok (.invokevirtual 154, 3) := by decide +kernel
theorem dX4_goOn_127 : decode cX4_goOn 127 = .ok (.ireturn, 1) := by decide +kernel
theorem dX4_goOn_128 : decode cX4_goOn 128 = .ok (.aload_n 0, 1) := by decide +kernel
theorem dX4_goOn_129 : decode cX4_goOn 129 = .ok (.getfield 24, 3) := by decide +kernel
theorem dX4_goOn_132 : decode cX4_goOn 132 = .ok (.iload_n 1, 1) := by decide +kernel
theorem dX4_goOn_133 : decode cX4_goOn 133 = .ok (.invokevirtual 157, 3) := by decide +kernel
theorem dX4_goOn_136 : decode cX4_goOn 136 = .ok (.ifCond .eq 10, 3) := by decide +kernel
theorem dX4_goOn_139 : decode cX4_goOn 139 = .ok (.aload_n 0, 1) := by decide +kernel
theorem dX4_goOn_140 : decode cX4_goOn 140 = .ok (.invokevirtual 160, 3) := by decide +kernel
theorem dX4_goOn_143 : decode cX4_goOn 143 = .ok (.goto 7, 3) := by decide +kernel
theorem dX4_goOn_146 : decode cX4_goOn 146 = .ok (.aload_n 0, 1) := by decide +kernel
theorem dX4_goOn_147 : decode cX4_goOn 147 = .ok (.invokevirtual 163, 3) := by decide +kernel
theorem dX4_goOn_150 : decode cX4_goOn 150 = .ok (.ireturn, 1) := by decide +kernel
theorem dX4_endWith_0 : decode cX4_endWith 0 = .ok (.aload_n 0, 1) := by decide +kernel
theorem dX4_endWith_1 : decode cX4_endWith 1 = .ok (.iload_n 1, 1) := by decide +kernel
theorem dX4_endWith_2 : decode cX4_endWith 2 = .ok (.putfield 101, 3) := by decide +kernel
theorem dX4_endWith_5 : decode cX4_endWith 5 = .ok (.iload_n 2, 1) := by decide +kernel
theorem dX4_endWith_6 : decode cX4_endWith 6 = .ok (.ireturn, 1) := by decide +kernel
set_option maxRecDepth 20000 in
theorem ggX4_passInto_X8_at : GoodIn wsX4_passInto wsX8_at := goodIn_r _ [7] (by decide +kernel) (by decide +kernel)
set_option maxRecDepth 20000 in
theorem gX4_passInto_X8_at_n114 : GoodIn wsX4_passInto (wsX8_at) := ggX4_passInto_X8_at
theorem dX4_passInto_0 : decode cX4_passInto 0 = .ok (.aload_n 0, 1) := by decide +kernel
theorem dX4_passInto_1 : decode cX4_passInto 1 = .ok (.getfield 9, 3) := by decide +kernel
theorem dX4_passInto_4 : decode cX4_passInto 4 = .ok (.iload_n 1, 1) := by decide +kernel
theorem dX4_passInto_5 : decode cX4_passInto 5 = .ok (.iconst 1, 1) := by decide +kernel
theorem dX4_passInto_6 : decode cX4_passInto 6 = .ok (.iadd, 1) := by decide +kernel
theorem dX4_passInto_7 : decode cX4_passInto 7 = .ok (.invokestatic 114, 3) := by decide +kernel
theorem dX4_passInto_10 : decode cX4_passInto 10 = .ok (.aload_n 0, 1) := by decide +kernel
theorem dX4_passInto_11 : decode cX4_passInto 11 = .ok (.getfield 9, 3) := by decide +kernel
theorem dX4_passInto_14 : decode cX4_passInto 14 = .ok (.aload_n 0, 1) := by decide +kernel
theorem dX4_passInto_15 : decode cX4_passInto 15 = .ok (.getfield 63, 3) := by decide +kernel
theorem dX4_passInto_18 : decode cX4_passInto 18 = .ok (.iconst 1, 1) := by decide +kernel
theorem dX4_passInto_19 : decode cX4_passInto 19 = .ok (.iadd, 1) := by decide +kernel
theorem dX4_passInto_20 : decode cX4_passInto 20 = .ok (.invokestatic 114, 3) := by decide +kernel
theorem dX4_passInto_23 : decode cX4_passInto 23 = .ok (.isub, 1) := by decide +kernel
theorem dX4_passInto_24 : decode cX4_passInto 24 = .ok (.i2l, 1) := by decide +kernel
theorem dX4_passInto_25 : decode cX4_passInto 25 = .ok (.lstore_n 2, 1) := by decide +kernel
theorem dX4_passInto_26 : decode cX4_passInto 26 = .ok (.aload_n 0, 1) := by decide +kernel
theorem dX4_passInto_27 : decode cX4_passInto 27 = .ok (.getfield 9, 3) := by decide +kernel
theorem dX4_passInto_30 : decode cX4_passInto 30 = .ok (.iload_n 1, 1) := by decide +kernel
theorem dX4_passInto_31 : decode cX4_passInto 31 = .ok (.iconst 1, 1) := by decide +kernel
theorem dX4_passInto_32 : decode cX4_passInto 32 = .ok (.iadd, 1) := by decide +kernel
theorem dX4_passInto_33 : decode cX4_passInto 33 = .ok (.invokestatic 114, 3) := by decide +kernel
theorem dX4_passInto_36 : decode cX4_passInto 36 = .ok (.aload_n 0, 1) := by decide +kernel
theorem dX4_passInto_37 : decode cX4_passInto 37 = .ok (.getfield 9, 3) := by decide +kernel
theorem dX4_passInto_40 : decode cX4_passInto 40 = .ok (.aload_n 0, 1) := by decide +kernel
theorem dX4_passInto_41 : decode cX4_passInto 41 = .ok (.getfield 63, 3) := by decide +kernel
theorem dX4_passInto_44 : decode cX4_passInto 44 = .ok (.iconst 1, 1) := by decide +kernel
theorem dX4_passInto_45 : decode cX4_passInto 45 = .ok (.iadd, 1) := by decide +kernel
theorem dX4_passInto_46 : decode cX4_passInto 46 = .ok (.invokestatic 114, 3) := by decide +kernel
theorem dX4_passInto_49 : decode cX4_passInto 49 = .ok (.iadd, 1) := by decide +kernel
theorem dX4_passInto_50 : decode cX4_passInto 50 = .ok (.i2l, 1) := by decide +kernel
theorem dX4_passInto_51 : decode cX4_passInto 51 = .ok (.lstore 4, 2) := by decide +kernel
theorem dX4_passInto_53 : decode cX4_passInto 53 = .ok (.lload 4, 2) := by decide +kernel
theorem dX4_passInto_55 : decode cX4_passInto 55 = .ok (.lconst 0, 1) := by decide +kernel
theorem dX4_passInto_56 : decode cX4_passInto 56 = .ok (.lcmp, 1) := by decide +kernel
theorem dX4_passInto_57 : decode cX4_passInto 57 = .ok (.ifCond .le 28, 3) := by decide +kernel
theorem dX4_passInto_60 : decode cX4_passInto 60 = .ok (.aload_n 0, 1) := by decide +kernel
theorem dX4_passInto_61 : decode cX4_passInto 61 = .ok (.dup, 1) := by decide +kernel
theorem dX4_passInto_62 : decode cX4_passInto 62 = .ok (.getfield 105, 3) := by decide +kernel
theorem dX4_passInto_65 : decode cX4_passInto 65 = .ok (.aload_n 0, 1) := by decide +kernel
theorem dX4_passInto_66 : decode cX4_passInto 66 = .ok (.getfield 105, 3) := by decide +kernel
theorem dX4_passInto_69 : decode cX4_passInto 69 = .ok (.i2l, 1) := by decide +kernel
theorem dX4_passInto_70 : decode cX4_passInto 70 = .ok (.lload_n 2, 1) := by decide +kernel
theorem dX4_passInto_71 : decode cX4_passInto 71 = .ok (.lload_n 2, 1) := by decide +kernel
theorem dX4_passInto_72 : decode cX4_passInto 72 = .ok (.lmul, 1) := by decide +kernel
theorem dX4_passInto_73 : decode cX4_passInto 73 = .ok (.lmul, 1) := by decide +kernel
theorem dX4_passInto_74 : decode cX4_passInto 74 = .ok (.lload 4, 2) := by decide +kernel
theorem dX4_passInto_76 : decode cX4_passInto 76 = .ok (.lload 4, 2) := by decide +kernel
theorem dX4_passInto_78 : decode cX4_passInto 78 = .ok (.lmul, 1) := by decide +kernel
theorem dX4_passInto_79 : decode cX4_passInto 79 = .ok (.ldiv, 1) := by decide +kernel
theorem dX4_passInto_80 : decode cX4_passInto 80 = .ok (.l2i, 1) := by decide +kernel
theorem dX4_passInto_81 : decode cX4_passInto 81 = .ok (.isub, 1) := by decide +kernel
theorem dX4_passInto_82 : decode cX4_passInto 82 = .ok (.putfield 105, 3) := by decide +kernel
theorem dX4_passInto_85 : decode cX4_passInto 85 = .ok (.aload_n 0, 1) := by decide +kernel
theorem dX4_passInto_86 : decode cX4_passInto 86 = .ok (.iload_n 1, 1) := by decide +kernel
theorem dX4_passInto_87 : decode cX4_passInto 87 = .ok (.putfield 63, 3) := by decide +kernel
theorem dX4_passInto_90 : decode cX4_passInto 90 = .ok (.aload_n 0, 1) := by decide +kernel
theorem dX4_passInto_91 : decode cX4_passInto 91 = .ok (.dup, 1) := by decide +kernel
theorem dX4_passInto_92 : decode cX4_passInto 92 = .ok (.getfield 91, 3) := by decide +kernel
theorem dX4_passInto_95 : decode cX4_passInto 95 = .ok (.iconst 1, 1) := by decide +kernel
theorem dX4_passInto_96 : decode cX4_passInto 96 = .ok (.iadd, 1) := by decide +kernel
theorem dX4_passInto_97 : decode cX4_passInto 97 = .ok (.putfield 91, 3) := by decide +kernel
theorem dX4_passInto_100 : decode cX4_passInto 100 = .ok (.iconst 0, 1) := by decide +kernel
theorem dX4_passInto_101 : decode cX4_passInto 101 = .ok (.ireturn, 1) := by decide +kernel
theorem dX4_turnBack_0 : decode cX4_turnBack 0 = .ok (.aload_n 0, 1) := by decide +kernel
theorem dX4_turnBack_1 : decode cX4_turnBack 1 = .ok (.aload_n 0, 1) := by decide +kernel
theorem dX4_turnBack_2 : decode cX4_turnBack 2 = .ok (.getfield 66, 3) := by decide +kernel
theorem dX4_turnBack_5 : decode cX4_turnBack 5 = .ok (.ifCond .ne 7, 3) := by decide +kernel
theorem dX4_turnBack_8 : decode cX4_turnBack 8 = .ok (.iconst 1, 1) := by decide +kernel
theorem dX4_turnBack_9 : decode cX4_turnBack 9 = .ok (.goto 4, 3) := by decide +kernel
theorem dX4_turnBack_12 : decode cX4_turnBack 12 = .ok (.iconst 0, 1) := by decide +kernel
theorem dX4_turnBack_13 : decode cX4_turnBack 13 = .ok (.putfield 66, 3) := by decide +kernel
theorem dX4_turnBack_16 : decode cX4_turnBack 16 = .ok (.aload_n 0, 1) := by decide +kernel
theorem dX4_turnBack_17 : decode cX4_turnBack 17 = .ok (.dup, 1) := by decide +kernel
theorem dX4_turnBack_18 : decode cX4_turnBack 18 = .ok (.getfield 85, 3) := by decide +kernel
theorem dX4_turnBack_21 : decode cX4_turnBack 21 = .ok (.iconst 1, 1) := by decide +kernel
theorem dX4_turnBack_22 : decode cX4_turnBack 22 = .ok (.iadd, 1) := by decide +kernel
theorem dX4_turnBack_23 : decode cX4_turnBack 23 = .ok (.putfield 85, 3) := by decide +kernel
theorem dX4_turnBack_26 : decode cX4_turnBack 26 = .ok (.iconst 1, 1) := by decide +kernel
theorem dX4_turnBack_27 : decode cX4_turnBack 27 = .ok (.ireturn, 1) := by decide +kernel
set_option maxRecDepth 20000 in
theorem ggX4_mirrorBack_X4_endWith : GoodIn wsX4_mirrorBack wsX4_endWith := goodIn_r _ [10, 11, 12, 13, 14, 15, 16, 17, 18, 19, 20, 21, 22, 23, 24, 25, 26, 27, 28, 29] (by decide +kernel) (by decide +kernel)
set_option maxRecDepth 20000 in
theorem gX4_mirrorBack_X4_endWith : GoodIn wsX4_mirrorBack (wsV RX4 147 RX4 yX4_endWith wsX4_endWith) := goodIn_app (goodIn_of _ (by decide +kernel)) ggX4_mirrorBack_X4_endWith
theorem dX4_mirrorBack_0 : decode cX4_mirrorBack 0 = .ok (.aload_n 0, 1) := by decide +kernel
theorem dX4_mirrorBack_1 : decode cX4_mirrorBack 1 = .ok (.dup, 1) := by decide +kernel
theorem dX4_mirrorBack_2 : decode cX4_mirrorBack 2 = .ok (.getfield 88, 3) := by decide +kernel
theorem dX4_mirrorBack_5 : decode cX4_mirrorBack 5 = .ok (.iconst 1, 1) := by decide +kernel
theorem dX4_mirrorBack_6 : decode cX4_mirrorBack 6 = .ok (.iadd, 1) := by decide +kernel
theorem dX4_mirrorBack_7 : decode cX4_mirrorBack 7 = .ok (.putfield 88, 3) := by decide +kernel
theorem dX4_mirrorBack_10 : decode cX4_mirrorBack 10 = .ok (.aload_n 0, 1) := by decide +kernel
theorem dX4_mirrorBack_11 : decode cX4_mirrorBack 11 = .ok (.aload_n 0, 1) := by decide +kernel
theorem dX4_mirrorBack_12 : decode cX4_mirrorBack 12 = .ok (.getfield 105, 3) := by decide +kernel
theorem dX4_mirrorBack_15 : decode cX4_mirrorBack 15 = .ok (.aload_n 0, 1) := by decide +kernel
theorem dX4_mirrorBack_16 : decode cX4_mirrorBack 16 = .ok (.getfield 24, 3) := by decide +kernel
theorem dX4_mirrorBack_19 : decode cX4_mirrorBack 19 = .ok (.getfield 166, 3) := by decide +kernel
theorem dX4_mirrorBack_22 : decode cX4_mirrorBack 22 = .ok (.imul, 1) := by decide +kernel
theorem dX4_mirrorBack_23 : decode cX4_mirrorBack 23 = .ok (.bipush 100, 2) := by decide +kernel
theorem dX4_mirrorBack_25 : decode cX4_mirrorBack 25 = .ok (.idiv, 1) := by decide +kernel
theorem dX4_mirrorBack_26 : decode cX4_mirrorBack 26 = .ok (.putfield 105, 3) := by decide +kernel
theorem dX4_mirrorBack_29 : decode cX4_mirrorBack 29 = .ok (.aload_n 0, 1) := by decide +kernel
theorem dX4_mirrorBack_30 : decode cX4_mirrorBack 30 = .ok (.getfield 105, 3) := by decide +kernel
theorem dX4_mirrorBack_33 : decode cX4_mirrorBack 33 = .ok (.ifCond .ne 10, 3) := by decide +kernel
theorem dX4_mirrorBack_36 : decode cX4_mirrorBack 36 = .ok (.aload_n 0, 1) := by decide +kernel
theorem dX4_mirrorBack_37 : decode cX4_mirrorBack 37 = .ok (.iconst 2, 1) := by decide +kernel
theorem dX4_mirrorBack_38 : decode cX4_mirrorBack 38 = .ok (.iconst 5, 1) := by decide +kernel
theorem dX4_mirrorBack_39 : decode cX4_mirrorBack 39 = .ok (.invokevirtual 147, 3) := by decide +kernel
theorem dX4_mirrorBack_42 : decode cX4_mirrorBack 42 = .ok (.ireturn, 1) := by decide +kernel
theorem dX4_mirrorBack_43 : decode cX4_mirrorBack 43 = .ok (.aload_n 0, 1) := by decide +kernel
theorem dX4_mirrorBack_44 : decode cX4_mirrorBack 44 = .ok (.iconst 0, 1) := by decide +kernel
theorem dX4_mirrorBack_45 : decode cX4_mirrorBack 45 = .ok (.putfield 66, 3) := by decide +kernel
theorem dX4_mirrorBack_48 : decode cX4_mirrorBack 48 = .ok (.iconst 2, 1) := by decide +kernel
theorem dX4_mirrorBack_49 : decode cX4_mirrorBack 49 = .ok (.ireturn, 1) := by decide +kernel
set_option maxRecDepth 20000 in
theorem ggX5_init_X7_init : GoodIn wsX5_init wsX7_init := goodIn_r _ [13, 14, 2, 3, 15, 16, 17, 18, 19] (by decide +kernel) (by decide +kernel)
set_option maxRecDepth 20000 in
theorem gX5_init_X7_init_n11 : GoodIn wsX5_init (wsX7_init) := ggX5_init_X7_init
theorem dX5_init_0 : decode cX5_init 0 = .ok (.aload_n 0, 1) := by decide +kernel
theorem dX5_init_1 : decode cX5_init 1 = .ok (.invokespecial 3, 3) := by decide +kernel
theorem dX5_init_4 : decode cX5_init 4 = .ok (.aload_n 0, 1) := by decide +kernel
theorem dX5_init_5 : decode cX5_init 5 = .ok (.new 9, 3) := by decide +kernel
theorem dX5_init_8 : decode cX5_init 8 = .ok (.dup, 1) := by decide +kernel
theorem dX5_init_9 : decode cX5_init 9 = .ok (.invokespecial 11, 3) := by decide +kernel
theorem dX5_init_12 : decode cX5_init 12 = .ok (.putfield 12, 3) := by decide +kernel
theorem dX5_init_15 : decode cX5_init 15 = .ok (.aload_n 0, 1) := by decide +kernel
theorem dX5_init_16 : decode cX5_init 16 = .ok (.new 9, 3) := by decide +kernel
theorem dX5_init_19 : decode cX5_init 19 = .ok (.dup, 1) := by decide +kernel
theorem dX5_init_20 : decode cX5_init 20 = .ok (.invokespecial 11, 3) := by decide +kernel
theorem dX5_init_23 : decode cX5_init 23 = .ok (.putfield 18, 3) := by decide +kernel
theorem dX5_init_26 : decode cX5_init 26 = .ok (.aload_n 0, 1) := by decide +kernel
theorem dX5_init_27 : decode cX5_init 27 = .ok (.sipush 1000, 3) := by decide +kernel
theorem dX5_init_30 : decode cX5_init 30 = .ok (.putfield 21, 3) := by decide +kernel
theorem dX5_init_33 : decode cX5_init 33 = .ok (.aload_n 0, 1) := by decide +kernel
theorem dX5_init_34 : decode cX5_init 34 = .ok (.iconst 0, 1) := by decide +kernel
theorem dX5_init_35 : decode cX5_init 35 = .ok (.putfield 25, 3) := by decide +kernel
theorem dX5_init_38 : decode cX5_init 38 = .ok (.aload_n 0, 1) := by decide +kernel
theorem dX5_init_39 : decode cX5_init 39 = .ok (.sipush 1000, 3) := by decide +kernel
theorem dX5_init_42 : decode cX5_init 42 = .ok (.putfield 29, 3) := by decide +kernel
theorem dX5_init_45 : decode cX5_init 45 = .ok (.return_, 1) := by decide +kernel
set_option maxRecDepth 20000 in
theorem ggX5_empty_X5_setBottom : GoodIn wsX5_empty wsX5_setBottom := goodIn_r _ [9, 10, 11, 12, 13, 14, 15, 16] (by decide +kernel) (by decide +kernel)
set_option maxRecDepth 20000 in
theorem gX5_empty_X5_setBottom : GoodIn wsX5_empty (wsV RX5 35 RX5 yX5_setBottom wsX5_setBottom) := goodIn_app (goodIn_of _ (by decide +kernel)) ggX5_empty_X5_setBottom
theorem dX5_empty_0 : decode cX5_empty 0 = .ok (.aload_n 0, 1) := by decide +kernel
theorem dX5_empty_1 : decode cX5_empty 1 = .ok (.getfield 12, 3) := by decide +kernel
theorem dX5_empty_4 : decode cX5_empty 4 = .ok (.iconst 0, 1) := by decide +kernel
theorem dX5_empty_5 : decode cX5_empty 5 = .ok (.putfield 32, 3) := by decide +kernel
theorem dX5_empty_8 : decode cX5_empty 8 = .ok (.aload_n 0, 1) := by decide +kernel
theorem dX5_empty_9 : decode cX5_empty 9 = .ok (.getfield 18, 3) := by decide +kernel
theorem dX5_empty_12 : decode cX5_empty 12 = .ok (.iconst 0, 1) := by decide +kernel
theorem dX5_empty_13 : decode cX5_empty 13 = .ok (.putfield 32, 3) := by decide +kernel
theorem dX5_empty_16 : decode cX5_empty 16 = .ok (.aload_n 0, 1) := by decide +kernel
theorem dX5_empty_17 : decode cX5_empty 17 = .ok (.sipush 1000, 3) := by decide +kernel
theorem dX5_empty_20 : decode cX5_empty 20 = .ok (.putfield 21, 3) := by decide +kernel
theorem dX5_empty_23 : decode cX5_empty 23 = .ok (.aload_n 0, 1) := by decide +kernel
theorem dX5_empty_24 : decode cX5_empty 24 = .ok (.iconst 0, 1) := by decide +kernel
theorem dX5_empty_25 : decode cX5_empty 25 = .ok (.sipush 1000, 3) := by decide +kernel
theorem dX5_empty_28 : decode cX5_empty 28 = .ok (.invokevirtual 35, 3) := by decide +kernel
theorem dX5_empty_31 : decode cX5_empty 31 = .ok (.return_, 1) := by decide +kernel
set_option maxRecDepth 20000 in
theorem ggX5_become_X7_become : GoodIn wsX5_become wsX7_become := goodIn_r _ [10, 11, 12, 13, 14, 15, 16, 17, 18, 19, 20, 31, 32] (by decide +kernel) (by decide +kernel)
set_option maxRecDepth 20000 in
theorem gX5_become_X7_become : GoodIn wsX5_become (wsV RX5 39 RX7 yX7_become wsX7_become) := goodIn_app (goodIn_of _ (by decide +kernel)) ggX5_become_X7_become
set_option maxRecDepth 20000 in
theorem ggX5_become_X5_setBottom : GoodIn wsX5_become wsX5_setBottom := goodIn_r _ [25, 4, 5, 26, 27, 28, 29, 30] (by decide +kernel) (by decide +kernel)
set_option maxRecDepth 20000 in
theorem gX5_become_X5_setBottom : GoodIn wsX5_become (wsV RX5 35 RX5 yX5_setBottom wsX5_setBottom) := goodIn_app (goodIn_of _ (by decide +kernel)) ggX5_become_X5_setBottom
theorem dX5_become_0 : decode cX5_become 0 = .ok (.aload_n 0, 1) := by decide +kernel
theorem dX5_become_1 : decode cX5_become 1 = .ok (.getfield 12, 3) := by decide +kernel
theorem dX5_become_4 : decode cX5_become 4 = .ok (.aload_n 1, 1) := by decide +kernel
theorem dX5_become_5 : decode cX5_become 5 = .ok (.getfield 12, 3) := by decide +kernel
theorem dX5_become_8 : decode cX5_become 8 = .ok (.invokevirtual 39, 3) := by decide +kernel
theorem dX5_become_11 : decode cX5_become 11 = .ok (.aload_n 0, 1) := by decide +kernel
theorem dX5_become_12 : decode cX5_become 12 = .ok (.getfield 18, 3) := by decide +kernel
theorem dX5_become_15 : decode cX5_become 15 = .ok (.aload_n 1, 1) := by decide +kernel
theorem dX5_become_16 : decode cX5_become 16 = .ok (.getfield 18, 3) := by decide +kernel
theorem dX5_become_19 : decode cX5_become 19 = .ok (.invokevirtual 39, 3) := by decide +kernel
theorem dX5_become_22 : decode cX5_become 22 = .ok (.aload_n 0, 1) := by decide +kernel
theorem dX5_become_23 : decode cX5_become 23 = .ok (.aload_n 1, 1) := by decide +kernel
theorem dX5_become_24 : decode cX5_become 24 = .ok (.getfield 21, 3) := by decide +kernel
theorem dX5_become_27 : decode cX5_become 27 = .ok (.putfield 21, 3) := by decide +kernel
theorem dX5_become_30 : decode cX5_become 30 = .ok (.aload_n 0, 1) := by decide +kernel
theorem dX5_become_31 : decode cX5_become 31 = .ok (.aload_n 1, 1) := by decide +kernel
theorem dX5_become_32 : decode cX5_become 32 = .ok (.getfield 25, 3) := by decide +kernel
theorem dX5_become_35 : decode cX5_become 35 = .ok (.aload_n 1, 1) := by decide +kernel
theorem dX5_become_36 : decode cX5_become 36 = .ok (.getfield 29, 3) := by decide +kernel
theorem dX5_become_39 : decode cX5_become 39 = .ok (.invokevirtual 35, 3) := by decide +kernel
theorem dX5_become_42 : decode cX5_become 42 = .ok (.return_, 1) := by decide +kernel
theorem dX5_setBottom_0 : decode cX5_setBottom 0 = .ok (.aload_n 0, 1) := by decide +kernel
theorem dX5_setBottom_1 : decode cX5_setBottom 1 = .ok (.iload_n 1, 1) := by decide +kernel
theorem dX5_setBottom_2 : decode cX5_setBottom 2 = .ok (.putfield 25, 3) := by decide +kernel
theorem dX5_setBottom_5 : decode cX5_setBottom 5 = .ok (.aload_n 0, 1) := by decide +kernel
theorem dX5_setBottom_6 : decode cX5_setBottom 6 = .ok (.iload_n 2, 1) := by decide +kernel
theorem dX5_setBottom_7 : decode cX5_setBottom 7 = .ok (.putfield 29, 3) := by decide +kernel
theorem dX5_setBottom_10 : decode cX5_setBottom 10 = .ok (.return_, 1) := by decide +kernel
set_option maxRecDepth 20000 in
theorem ggX5_depthOf_X7_get : GoodIn wsX5_depthOf wsX7_get := goodIn_r _ [7, 8, 14, 15] (by decide +kernel) (by decide +kernel)
set_option maxRecDepth 20000 in
theorem gX5_depthOf_X7_get : GoodIn wsX5_depthOf (wsV RX5 43 RX7 yX7_get wsX7_get) := goodIn_app (goodIn_of _ (by decide +kernel)) ggX5_depthOf_X7_get
theorem dX5_depthOf_0 : decode cX5_depthOf 0 = .ok (.iconst 0, 1) := by decide +kernel
theorem dX5_depthOf_1 : decode cX5_depthOf 1 = .ok (.istore_n 2, 1) := by decide +kernel
theorem dX5_depthOf_2 : decode cX5_depthOf 2 = .ok (.iconst 0, 1) := by decide +kernel
theorem dX5_depthOf_3 : decode cX5_depthOf 3 = .ok (.istore_n 3, 1) := by decide +kernel
theorem dX5_depthOf_4 : decode cX5_depthOf 4 = .ok (.iload_n 3, 1) := by decide +kernel
theorem dX5_depthOf_5 : decode cX5_depthOf 5 = .ok (.iload_n 1, 1) := by decide +kernel
theorem dX5_depthOf_6 : decode cX5_depthOf 6 = .ok (.if_icmp .ge 32, 3) := by decide +kernel
theorem dX5_depthOf_9 : decode cX5_depthOf 9 = .ok (.iload_n 3, 1) := by decide +kernel
theorem dX5_depthOf_10 : decode cX5_depthOf 10 = .ok (.aload_n 0, 1) := by decide +kernel
theorem dX5_depthOf_11 : decode cX5_depthOf 11 = .ok (.getfield 12, 3) := by decide +kernel
theorem dX5_depthOf_14 : decode cX5_depthOf 14 = .ok (.getfield 32, 3) := by decide +kernel
theorem dX5_depthOf_17 : decode cX5_depthOf 17 = .ok (.if_icmp .ge 21, 3) := by decide +kernel
theorem dX5_depthOf_20 : decode cX5_depthOf 20 = .ok (.iload_n 2, 1) := by decide +kernel
theorem dX5_depthOf_21 : decode cX5_depthOf 21 = .ok (.aload_n 0, 1) := by decide +kernel
theorem dX5_depthOf_22 : decode cX5_depthOf 22 = .ok (.getfield 12, 3) := by decide +kernel
theorem dX5_depthOf_25 : decode cX5_depthOf 25 = .ok (.iload_n 3, 1) := by decide +kernel
theorem dX5_depthOf_26 : decode cX5_depthOf 26 = .ok (.iconst 1, 1) := by decide +kernel
theorem dX5_depthOf_27 : decode cX5_depthOf 27 = .ok (.invokevirtual 43, 3) := by decide +kernel
theorem dX5_depthOf_30 : decode cX5_depthOf 30 = .ok (.iadd, 1) := by decide +kernel
theorem dX5_depthOf_31 : decode cX5_depthOf 31 = .ok (.istore_n 2, 1) := by decide +kernel
theorem dX5_depthOf_32 : decode cX5_depthOf 32 = .ok (.iinc 3 1, 3) := by decide +kernel
theorem dX5_depthOf_35 : decode cX5_depthOf 35 = .ok (.goto (-31), 3) := by decide +kernel
theorem dX5_depthOf_38 : decode cX5_depthOf 38 = .ok (.iload_n 2, 1) := by decide +kernel
theorem dX5_depthOf_39 : decode cX5_depthOf 39 = .ok (.ireturn, 1) := by decide +kernel
theorem dX5_isMirrorAt_0 : decode cX5_isMirrorAt 0 = .ok (.aload_n 0, 1) := by decide +kernel
theorem dX5_isMirrorAt_1 : decode cX5_isMirrorAt 1 = .ok (.getfield 25, 3) := by decide +kernel
theorem dX5_isMirrorAt_4 : decode cX5_isMirrorAt 4 = .ok (.ifCond .eq 18, 3) := by decide +kernel
theorem dX5_isMirrorAt_7 : decode cX5_isMirrorAt 7 = .ok (.iload_n 1, 1) := by decide +kernel
theorem dX5_isMirrorAt_8 : decode cX5_isMirrorAt 8 = .ok (.aload_n 0, 1) := by decide +kernel
theorem dX5_isMirrorAt_9 : decode cX5_isMirrorAt 9 = .ok (.getfield 12, 3) := by decide +kernel
theorem dX5_isMirrorAt_12 : decode cX5_isMirrorAt 12 = .ok (.getfield 32, 3) := by decide +kernel
theorem dX5_isMirrorAt_15 : decode cX5_isMirrorAt 15 = .ok (.if_icmp .lt 7, 3) := by decide +kernel
theorem dX5_isMirrorAt_18 : decode cX5_isMirrorAt 18 = .ok (.iconst 1, 1) := by decide +kernel
theorem dX5_isMirrorAt_19 : decode cX5_isMirrorAt 19 = .ok (.goto 4, 3) := by decide +kernel
theorem dX5_isMirrorAt_22 : decode cX5_isMirrorAt 22 = .ok (.iconst 0, 1) := by decide +kernel
theorem dX5_isMirrorAt_23 : decode cX5_isMirrorAt 23 = .ok (.ireturn, 1) := by decide +kernel
set_option maxRecDepth 20000 in
theorem ggX5_indexAt_X7_get : GoodIn wsX5_indexAt wsX7_get := goodIn_r _ [10, 11, 17, 18] (by decide +kernel) (by decide +kernel)
set_option maxRecDepth 20000 in
theorem gX5_indexAt_X7_get : GoodIn wsX5_indexAt (wsV RX5 43 RX7 yX7_get wsX7_get) := goodIn_app (goodIn_of _ (by decide +kernel)) ggX5_indexAt_X7_get
theorem dX5_indexAt_0 : decode cX5_indexAt 0 = .ok (.iload_n 1, 1) := by decide +kernel
theorem dX5_indexAt_1 : decode cX5_indexAt 1 = .ok (.ifCond .ge 8, 3) := by decide +kernel
theorem dX5_indexAt_4 : decode cX5_indexAt 4 = .ok (.aload_n 0, 1) := by decide +kernel
theorem dX5_indexAt_5 : decode cX5_indexAt 5 = .ok (.getfield 21, 3) := by decide +kernel
theorem dX5_indexAt_8 : decode cX5_indexAt 8 = .ok (.ireturn, 1) := by decide +kernel
theorem dX5_indexAt_9 : decode cX5_indexAt 9 = .ok (.iload_n 1, 1) := by decide +kernel
theorem dX5_indexAt_10 : decode cX5_indexAt 10 = .ok (.aload_n 0, 1) := by decide +kernel
theorem dX5_indexAt_11 : decode cX5_indexAt 11 = .ok (.getfield 12, 3) := by decide +kernel
theorem dX5_indexAt_14 : decode cX5_indexAt 14 = .ok (.getfield 32, 3) := by decide +kernel
theorem dX5_indexAt_17 : decode cX5_indexAt 17 = .ok (.if_icmp .lt 19, 3) := by decide +kernel
theorem dX5_indexAt_20 : decode cX5_indexAt 20 = .ok (.aload_n 0, 1) := by decide +kernel
theorem dX5_indexAt_21 : decode cX5_indexAt 21 = .ok (.getfield 25, 3) := by decide +kernel
theorem dX5_indexAt_24 : decode cX5_indexAt 24 = .ok (.ifCond .eq 7, 3) := by decide +kernel
theorem dX5_indexAt_27 : decode cX5_indexAt 27 = .ok (.iconst 0, 1) := by decide +kernel
theorem dX5_indexAt_28 : decode cX5_indexAt 28 = .ok (.goto 7, 3) := by decide +kernel
theorem dX5_indexAt_31 : decode cX5_indexAt 31 = .ok (.aload_n 0, 1) := by decide +kernel
theorem dX5_indexAt_32 : decode cX5_indexAt 32 = .ok (.getfield 29, 3) := by decide +kernel
theorem dX5_indexAt_35 : decode cX5_indexAt 35 = .ok (.ireturn, 1) := by decide +kernel
theorem dX5_indexAt_36 : decode cX5_indexAt 36 = .ok (.aload_n 0, 1) := by decide +kernel
theorem dX5_indexAt_37 : decode cX5_indexAt 37 = .ok (.getfield 12, 3) := by decide +kernel
theorem dX5_indexAt_40 : decode cX5_indexAt 40 = .ok (.iload_n 1, 1) := by decide +kernel
theorem dX5_indexAt_41 : decode cX5_indexAt 41 = .ok (.iconst 0, 1) := by decide +kernel
theorem dX5_indexAt_42 : decode cX5_indexAt 42 = .ok (.invokevirtual 43, 3) := by decide +kernel
theorem dX5_indexAt_45 : decode cX5_indexAt 45 = .ok (.ireturn, 1) := by decide +kernel
set_option maxRecDepth 20000 in
theorem ggX5_canBegin_X7_has : GoodIn wsX5_canBegin wsX7_has := goodIn_r _ [6, 7, 18, 19] (by decide +kernel) (by decide +kernel)
set_option maxRecDepth 20000 in
theorem gX5_canBegin_X7_has : GoodIn wsX5_canBegin (wsV RX5 47 RX7 yX7_has wsX7_has) := goodIn_app (goodIn_of _ (by decide +kernel)) ggX5_canBegin_X7_has
set_option maxRecDepth 20000 in
theorem ggX5_canBegin_X7_get : GoodIn wsX5_canBegin wsX7_get := goodIn_r _ [11, 12, 18, 19] (by decide +kernel) (by decide +kernel)
set_option maxRecDepth 20000 in
theorem gX5_canBegin_X7_get : GoodIn wsX5_canBegin (wsV RX5 43 RX7 yX7_get wsX7_get) := goodIn_app (goodIn_of _ (by decide +kernel)) ggX5_canBegin_X7_get
theorem dX5_canBegin_0 : decode cX5_canBegin 0 = .ok (.aload_n 0, 1) := by decide +kernel
theorem dX5_canBegin_1 : decode cX5_canBegin 1 = .ok (.getfield 12, 3) := by decide +kernel
theorem dX5_canBegin_4 : decode cX5_canBegin 4 = .ok (.iload_n 1, 1) := by decide +kernel
theorem dX5_canBegin_5 : decode cX5_canBegin 5 = .ok (.invokevirtual 47, 3) := by decide +kernel
theorem dX5_canBegin_8 : decode cX5_canBegin 8 = .ok (.ifCond .eq 20, 3) := by decide +kernel
theorem dX5_canBegin_11 : decode cX5_canBegin 11 = .ok (.iload_n 2, 1) := by decide +kernel
theorem dX5_canBegin_12 : decode cX5_canBegin 12 = .ok (.aload_n 0, 1) := by decide +kernel
theorem dX5_canBegin_13 : decode cX5_canBegin 13 = .ok (.getfield 12, 3) := by decide +kernel
theorem dX5_canBegin_16 : decode cX5_canBegin 16 = .ok (.iload_n 1, 1) := by decide +kernel
theorem dX5_canBegin_17 : decode cX5_canBegin 17 = .ok (.iconst 0, 1) := by decide +kernel
theorem dX5_canBegin_18 : decode cX5_canBegin 18 = .ok (.invokevirtual 43, 3) := by decide +kernel
theorem dX5_canBegin_21 : decode cX5_canBegin 21 = .ok (.if_icmp .ge 7, 3) := by decide +kernel
theorem dX5_canBegin_24 : decode cX5_canBegin 24 = .ok (.iconst 1, 1) := by decide +kernel
theorem dX5_canBegin_25 : decode cX5_canBegin 25 = .ok (.goto 4, 3) := by decide +kernel
theorem dX5_canBegin_28 : decode cX5_canBegin 28 = .ok (.iconst 0, 1) := by decide +kernel
theorem dX5_canBegin_29 : decode cX5_canBegin 29 = .ok (.ireturn, 1) := by decide +kernel
set_option maxRecDepth 20000 in
theorem ggX6_init_X4_init : GoodIn wsX6_init wsX4_init := goodIn_r _ [13, 14, 2, 3, 15, 16, 17, 18, 19, 20, 32, 33, 34, 35, 36, 37, 38, 39, 40, 41, 42, 43, 44, 45, 46, 47, 48, 49] (by decide +kernel) (by decide +kernel)
set_option maxRecDepth 20000 in
theorem gX6_init_X4_init : GoodIn wsX6_init (wsX4_init) := ggX6_init_X4_init
theorem dX6_init_0 : decode cX6_init 0 = .ok (.aload_n 0, 1) := by decide +kernel
theorem dX6_init_1 : decode cX6_init 1 = .ok (.invokespecial 3, 3) := by decide +kernel
theorem dX6_init_4 : decode cX6_init 4 = .ok (.aload_n 0, 1) := by decide +kernel
theorem dX6_init_5 : decode cX6_init 5 = .ok (.iconst (-1), 1) := by decide +kernel
theorem dX6_init_6 : decode cX6_init 6 = .ok (.putfield 9, 3) := by decide +kernel
theorem dX6_init_9 : decode cX6_init 9 = .ok (.aload_n 0, 1) := by decide +kernel
theorem dX6_init_10 : decode cX6_init 10 = .ok (.lconst 0, 1) := by decide +kernel
theorem dX6_init_11 : decode cX6_init 11 = .ok (.putfield 15, 3) := by decide +kernel
theorem dX6_init_14 : decode cX6_init 14 = .ok (.aload_n 0, 1) := by decide +kernel
theorem dX6_init_15 : decode cX6_init 15 = .ok (.aload_n 1, 1) := by decide +kernel
theorem dX6_init_16 : decode cX6_init 16 = .ok (.putfield 19, 3) := by decide +kernel
theorem dX6_init_19 : decode cX6_init 19 = .ok (.aload_n 0, 1) := by decide +kernel
theorem dX6_init_20 : decode cX6_init 20 = .ok (.new 23, 3) := by decide +kernel
theorem dX6_init_23 : decode cX6_init 23 = .ok (.dup, 1) := by decide +kernel
theorem dX6_init_24 : decode cX6_init 24 = .ok (.aload_n 1, 1) := by decide +kernel
theorem dX6_init_25 : decode cX6_init 25 = .ok (.invokespecial 25, 3) := by decide +kernel
theorem dX6_init_28 : decode cX6_init 28 = .ok (.putfield 28, 3) := by decide +kernel
theorem dX6_init_31 : decode cX6_init 31 = .ok (.return_, 1) := by decide +kernel
set_option maxRecDepth 20000 in
theorem ggX6_start_X4_enter : GoodIn wsX6_start wsX4_enter := goodIn_r _ [12, 13, 14, 15, 16, 17, 18, 19, 20, 21, 22, 23, 24, 25, 26, 27, 28, 29, 30, 31, 32, 33, 34, 35, 48, 49, 50, 51, 52, 53, 54, 55, 56, 57, 58, 59, 60, 61, 62, 63, 64, 65, 66, 67, 68, 69, 70, 71, 72] (by decide +kernel) (by decide +kernel)
set_option maxRecDepth 20000 in
theorem gX6_start_X4_enter : GoodIn wsX6_start (wsV RX6 32 RX4 yX4_enter wsX4_enter) := goodIn_app (goodIn_of _ (by decide +kernel)) ggX6_start_X4_enter
set_option maxRecDepth 20000 in
theorem ggX6_start_X5_indexAt : GoodIn wsX6_start wsX5_indexAt := goodIn_r _ [21, 22, 23, 24, 25, 26, 27, 28, 29, 30, 31, 32, 66, 67, 68, 69, 70, 71, 72] (by decide +kernel) (by decide +kernel)
set_option maxRecDepth 20000 in
theorem gX6_start_X5_indexAt : GoodIn wsX6_start (wsV RX6 42 RX5 yX5_indexAt wsX5_indexAt) := goodIn_app (goodIn_of _ (by decide +kernel)) ggX6_start_X5_indexAt
theorem dX6_start_0 : decode cX6_start 0 = .ok (.aload_n 0, 1) := by decide +kernel
theorem dX6_start_1 : decode cX6_start 1 = .ok (.getfield 28, 3) := by decide +kernel
theorem dX6_start_4 : decode cX6_start 4 = .ok (.aload_n 0, 1) := by decide +kernel
theorem dX6_start_5 : decode cX6_start 5 = .ok (.getfield 19, 3) := by decide +kernel
theorem dX6_start_8 : decode cX6_start 8 = .ok (.invokevirtual 32, 3) := by decide +kernel
theorem dX6_start_11 : decode cX6_start 11 = .ok (.aload_n 0, 1) := by decide +kernel
theorem dX6_start_12 : decode cX6_start 12 = .ok (.iload_n 1, 1) := by decide +kernel
theorem dX6_start_13 : decode cX6_start 13 = .ok (.putfield 35, 3) := by decide +kernel
theorem dX6_start_16 : decode cX6_start 16 = .ok (.aload_n 0, 1) := by decide +kernel
theorem dX6_start_17 : decode cX6_start 17 = .ok (.iload_n 2, 1) := by decide +kernel
theorem dX6_start_18 : decode cX6_start 18 = .ok (.putfield 38, 3) := by decide +kernel
theorem dX6_start_21 : decode cX6_start 21 = .ok (.aload_n 0, 1) := by decide +kernel
theorem dX6_start_22 : decode cX6_start 22 = .ok (.aload_n 0, 1) := by decide +kernel
theorem dX6_start_23 : decode cX6_start 23 = .ok (.getfield 19, 3) := by decide +kernel
theorem dX6_start_26 : decode cX6_start 26 = .ok (.iload_n 1, 1) := by decide +kernel
theorem dX6_start_27 : decode cX6_start 27 = .ok (.invokevirtual 42, 3) := by decide +kernel
theorem dX6_start_30 : decode cX6_start 30 = .ok (.putfield 48, 3) := by decide +kernel
theorem dX6_start_33 : decode cX6_start 33 = .ok (.aload_n 0, 1) := by decide +kernel
theorem dX6_start_34 : decode cX6_start 34 = .ok (.iconst 0, 1) := by decide +kernel
theorem dX6_start_35 : decode cX6_start 35 = .ok (.putfield 51, 3) := by decide +kernel
theorem dX6_start_38 : decode cX6_start 38 = .ok (.aload_n 0, 1) := by decide +kernel
theorem dX6_start_39 : decode cX6_start 39 = .ok (.iconst (-1), 1) := by decide +kernel
theorem dX6_start_40 : decode cX6_start 40 = .ok (.putfield 9, 3) := by decide +kernel
theorem dX6_start_43 : decode cX6_start 43 = .ok (.return_, 1) := by decide +kernel
set_option maxRecDepth 20000 in
theorem ggX6_nextPart_X4_run : GoodIn wsX6_nextPart wsX4_run := goodIn_r _ [15, 16, 17, 18, 14, 19, 20, 21, 22, 23, 24, 25, 26, 27, 28, 29, 30, 31, 32, 33, 34, 35, 36, 37, 38, 39, 40, 41, 42, 43, 44, 45, 46, 47, 48, 49, 50, 51, 52, 53, 54, 55, 56, 57, 58, 59, 60, 61, 62, 63, 64, 65, 66, 67, 68, 69, 70, 71, 72, 73, 74, 75, 76, 77, 78, 79, 80, 81, 82, 83, 84, 85, 86, 87, 88, 89, 90, 91, 92, 93, 94, 95, 96, 97, 98, 99, 100, 101, 102, 103, 104, 105, 106, 107, 108, 109, 110, 111, 112, 113, 114, 115, 116, 117, 118, 119, 120, 121, 122, 123, 124, 125, 126, 127, 128, 129, 155, 156, 157, 158, 159, 160, 161, 162, 163, 164, 165, 166, 167, 168, 169, 170, 171, 172, 173, 174, 175, 176, 177, 178, 179] (by decide +kernel) (by decide +kernel)
set_option maxRecDepth 20000 in
theorem gX6_nextPart_X4_run : GoodIn wsX6_nextPart (wsV RX6 57 RX4 yX4_run wsX4_run) := goodIn_app (goodIn_of _ (by decide +kernel)) ggX6_nextPart_X4_run
set_option maxRecDepth 20000 in
theorem ggX6_nextPart_X6_sameTurnsUntil : GoodIn wsX6_nextPart wsX6_sameTurnsUntil := goodIn_r _ [134, 3, 135, 136, 137, 2, 138, 139, 140, 39, 141, 142, 41, 120, 119, 143, 48, 49, 50, 45, 51, 52, 144, 145, 146, 147, 148, 149, 150, 151, 152, 153, 154, 173, 174, 175, 176, 177, 178, 179] (by decide +kernel) (by decide +kernel)
set_option maxRecDepth 20000 in
theorem gX6_nextPart_X6_sameTurnsUntil : GoodIn wsX6_nextPart (wsV RX6 73 RX6 yX6_sameTurnsUntil wsX6_sameTurnsUntil) := goodIn_app (goodIn_of _ (by decide +kernel)) ggX6_nextPart_X6_sameTurnsUntil
theorem dX6_nextPart_0 : decode cX6_nextPart 0 = .ok (.aload_n 0, 1) := by decide +kernel
theorem dX6_nextPart_1 : decode cX6_nextPart 1 = .ok (.aload_n 0, 1) := by decide +kernel
theorem dX6_nextPart_2 : decode cX6_nextPart 2 = .ok (.getfield 51, 3) := by decide +kernel
theorem dX6_nextPart_5 : decode cX6_nextPart 5 = .ok (.putfield 54, 3) := by decide +kernel
theorem dX6_nextPart_8 : decode cX6_nextPart 8 = .ok (.aload_n 0, 1) := by decide +kernel
theorem dX6_nextPart_9 : decode cX6_nextPart 9 = .ok (.getfield 54, 3) := by decide +kernel
theorem dX6_nextPart_12 : decode cX6_nextPart 12 = .ok (.aload_n 0, 1) := by decide +kernel
theorem dX6_nextPart_13 : decode cX6_nextPart 13 = .ok (.getfield 48, 3) := by decide +kernel
theorem dX6_nextPart_16 : decode cX6_nextPart 16 = .ok (.if_icmp .lt 5, 3) := by decide +kernel
theorem dX6_nextPart_19 : decode cX6_nextPart 19 = .ok (.iconst 0, 1) := by decide +kernel
theorem dX6_nextPart_20 : decode cX6_nextPart 20 = .ok (.ireturn, 1) := by decide +kernel
theorem dX6_nextPart_21 : decode cX6_nextPart 21 = .ok (.aload_n 0, 1) := by decide +kernel
theorem dX6_nextPart_22 : decode cX6_nextPart 22 = .ok (.getfield 28, 3) := by decide +kernel
theorem dX6_nextPart_25 : decode cX6_nextPart 25 = .ok (.aload_n 0, 1) := by decide +kernel
theorem dX6_nextPart_26 : decode cX6_nextPart 26 = .ok (.getfield 35, 3) := by decide +kernel
theorem dX6_nextPart_29 : decode cX6_nextPart 29 = .ok (.aload_n 0, 1) := by decide +kernel
theorem dX6_nextPart_30 : decode cX6_nextPart 30 = .ok (.getfield 38, 3) := by decide +kernel
theorem dX6_nextPart_33 : decode cX6_nextPart 33 = .ok (.aload_n 0, 1) := by decide +kernel
theorem dX6_nextPart_34 : decode cX6_nextPart 34 = .ok (.getfield 54, 3) := by decide +kernel
theorem dX6_nextPart_37 : decode cX6_nextPart 37 = .ok (.invokevirtual 57, 3) := by decide +kernel
theorem dX6_nextPart_40 : decode cX6_nextPart 40 = .ok (.aload_n 0, 1) := by decide +kernel
theorem dX6_nextPart_41 : decode cX6_nextPart 41 = .ok (.aload_n 0, 1) := by decide +kernel
theorem dX6_nextPart_42 : decode cX6_nextPart 42 = .ok (.getfield 28, 3) := by decide +kernel
theorem dX6_nextPart_45 : decode cX6_nextPart 45 = .ok (.getfield 61, 3) := by decide +kernel
theorem dX6_nextPart_48 : decode cX6_nextPart 48 = .ok (.putfield 64, 3) := by decide +kernel
theorem dX6_nextPart_51 : decode cX6_nextPart 51 = .ok (.aload_n 0, 1) := by decide +kernel
theorem dX6_nextPart_52 : decode cX6_nextPart 52 = .ok (.aload_n 0, 1) := by decide +kernel
theorem dX6_nextPart_53 : decode cX6_nextPart 53 = .ok (.getfield 28, 3) := by decide +kernel
theorem dX6_nextPart_56 : decode cX6_nextPart 56 = .ok (.getfield 67, 3) := by decide +kernel
theorem dX6_nextPart_59 : decode cX6_nextPart 59 = .ok (.putfield 70, 3) := by decide +kernel
theorem dX6_nextPart_62 : decode cX6_nextPart 62 = .ok (.aload_n 0, 1) := by decide +kernel
theorem dX6_nextPart_63 : decode cX6_nextPart 63 = .ok (.aload_n 0, 1) := by decide +kernel
theorem dX6_nextPart_64 : decode cX6_nextPart 64 = .ok (.getfield 54, 3) := by decide +kernel
theorem dX6_nextPart_67 : decode cX6_nextPart 67 = .ok (.iconst 1, 1) := by decide +kernel
theorem dX6_nextPart_68 : decode cX6_nextPart 68 = .ok (.iadd, 1) := by decide +kernel
theorem dX6_nextPart_69 : decode cX6_nextPart 69 = .ok (.putfield 51, 3) := by decide +kernel
theorem dX6_nextPart_72 : decode cX6_nextPart 72 = .ok (.aload_n 0, 1) := by decide +kernel
theorem dX6_nextPart_73 : decode cX6_nextPart 73 = .ok (.invokevirtual 73, 3) := by decide +kernel
theorem dX6_nextPart_76 : decode cX6_nextPart 76 = .ok (.istore_n 1, 1) := by decide +kernel
theorem dX6_nextPart_77 : decode cX6_nextPart 77 = .ok (.iconst 0, 1) := by decide +kernel
theorem dX6_nextPart_78 : decode cX6_nextPart 78 = .ok (.istore_n 2, 1) := by decide +kernel
theorem dX6_nextPart_79 : decode cX6_nextPart 79 = .ok (.iload_n 2, 1) := by decide +kernel
theorem dX6_nextPart_80 : decode cX6_nextPart 80 = .ok (.bipush 32, 2) := by decide +kernel
theorem dX6_nextPart_82 : decode cX6_nextPart 82 = .ok (.if_icmp .ge 92, 3) := by decide +kernel
theorem dX6_nextPart_85 : decode cX6_nextPart 85 = .ok (.aload_n 0, 1) := by decide +kernel
theorem dX6_nextPart_86 : decode cX6_nextPart 86 = .ok (.getfield 51, 3) := by decide +kernel
theorem dX6_nextPart_89 : decode cX6_nextPart 89 = .ok (.iload_n 1, 1) := by decide +kernel
theorem dX6_nextPart_90 : decode cX6_nextPart 90 = .ok (.if_icmp .ge 84, 3) := by decide +kernel
theorem dX6_nextPart_93 : decode cX6_nextPart 93 = .ok (.iload_n 2, 1) := by decide +kernel
theorem dX6_nextPart_94 : decode cX6_nextPart 94 = .ok (.ifCond .ne 9, 3) := by decide +kernel
theorem dX6_nextPart_97 : decode cX6_nextPart 97 = .ok (.iload_n 1, 1) := by decide +kernel
theorem dX6_nextPart_98 : decode cX6_nextPart 98 = .ok (.iconst 1, 1) := by decide +kernel
theorem dX6_nextPart_99 : decode cX6_nextPart 99 = .ok (.isub, 1) := by decide +kernel
theorem dX6_nextPart_100 : decode cX6_nextPart 100 = .ok (.goto 11, 3) := by decide +kernel
theorem dX6_nextPart_103 : decode cX6_nextPart 103 = .ok (.aload_n 0, 1) := by decide +kernel
theorem dX6_nextPart_104 : decode cX6_nextPart 104 = .ok (.getfield 51, 3) := by decide +kernel
theorem dX6_nextPart_107 : decode cX6_nextPart 107 = .ok (.iload_n 1, 1) := by decide +kernel
theorem dX6_nextPart_108 : decode cX6_nextPart 108 = .ok (.iadd, 1) := by decide +kernel
theorem dX6_nextPart_109 : decode cX6_nextPart 109 = .ok (.iconst 2, 1) := by decide +kernel
theorem dX6_nextPart_110 : decode cX6_nextPart 110 = .ok (.idiv, 1) := by decide +kernel
theorem dX6_nextPart_111 : decode cX6_nextPart 111 = .ok (.istore_n 3, 1) := by decide +kernel
theorem dX6_nextPart_112 : decode cX6_nextPart 112 = .ok (.aload_n 0, 1) := by decide +kernel
theorem dX6_nextPart_113 : decode cX6_nextPart 113 = .ok (.getfield 28, 3) := by decide +kernel
theorem dX6_nextPart_116 : decode cX6_nextPart 116 = .ok (.aload_n 0, 1) := by decide +kernel
theorem dX6_nextPart_117 : decode cX6_nextPart 117 = .ok (.getfield 35, 3) := by decide +kernel
theorem dX6_nextPart_120 : decode cX6_nextPart 120 = .ok (.aload_n 0, 1) := by decide +kernel
theorem dX6_nextPart_121 : decode cX6_nextPart 121 = .ok (.getfield 38, 3) := by decide +kernel
theorem dX6_nextPart_124 : decode cX6_nextPart 124 = .ok (.iload_n 3, 1) := by decide +kernel
theorem dX6_nextPart_125 : decode cX6_nextPart 125 = .ok (.invokevirtual 57, 3) := by decide +kernel
theorem dX6_nextPart_128 : decode cX6_nextPart 128 = .ok (.aload_n 0, 1) := by decide +kernel
theorem dX6_nextPart_129 : decode cX6_nextPart 129 = .ok (.getfield 28, 3) := by decide +kernel
theorem dX6_nextPart_132 : decode cX6_nextPart 132 = .ok (.getfield 61, 3) := by decide +kernel
theorem dX6_nextPart_135 : decode cX6_nextPart 135 = .ok (.aload_n 0, 1) := by decide +kernel
theorem dX6_nextPart_136 : decode cX6_nextPart 136 = .ok (.getfield 64, 3) := by decide +kernel
theorem dX6_nextPart_139 : decode cX6_nextPart 139 = .ok (.if_icmp .ne 27, 3) := by decide +kernel
theorem dX6_nextPart_142 : decode cX6_nextPart 142 = .ok (.aload_n 0, 1) := by decide +kernel
theorem dX6_nextPart_143 : decode cX6_nextPart 143 = .ok (.getfield 28, 3) := by decide +kernel
theorem dX6_nextPart_146 : decode cX6_nextPart 146 = .ok (.getfield 67, 3) := by decide +kernel
theorem dX6_nextPart_149 : decode cX6_nextPart 149 = .ok (.aload_n 0, 1) := by decide +kernel
theorem dX6_nextPart_150 : decode cX6_nextPart 150 = .ok (.getfield 70, 3) := by decide +kernel
theorem dX6_nextPart_153 : decode cX6_nextPart 153 = .ok (.if_icmp .ne 13, 3) := by decide +kernel
theorem dX6_nextPart_156 : decode cX6_nextPart 156 = .ok (.aload_n 0, 1) := by decide +kernel
theorem dX6_nextPart_157 : decode cX6_nextPart 157 = .ok (.iload_n 3, 1) := by decide +kernel
theorem dX6_nextPart_158 : decode cX6_nextPart 158 = .ok (.iconst 1, 1) := by decide +kernel
theorem dX6_nextPart_159 : decode cX6_nextPart 159 = .ok (.iadd, 1) := by decide +kernel
theorem dX6_nextPart_160 : decode cX6_nextPart 160 = .ok (.putfield 51, 3) := by decide +kernel
theorem dX6_nextPart_163 : decode cX6_nextPart 163 = .ok (.goto 5, 3) := by decide +kernel
theorem dX6_nextPart_166 : decode cX6_nextPart 166 = .ok (.iload_n 3, 1) := by decide +kernel
theorem dX6_nextPart_167 : decode cX6_nextPart 167 = .ok (.istore_n 1, 1) := by decide +kernel
theorem dX6_nextPart_168 : decode cX6_nextPart 168 = .ok (.iinc 2 1, 3) := by decide +kernel
theorem dX6_nextPart_171 : decode cX6_nextPart 171 = .ok (.goto (-92), 3) := by decide +kernel
theorem dX6_nextPart_174 : decode cX6_nextPart 174 = .ok (.iconst 1, 1) := by decide +kernel
theorem dX6_nextPart_175 : decode cX6_nextPart 175 = .ok (.ireturn, 1) := by decide +kernel
set_option maxRecDepth 20000 in
theorem ggX6_sameTurnsUntil_X5_indexAt : GoodIn wsX6_sameTurnsUntil wsX5_indexAt := goodIn_r _ [10, 11, 12, 13, 14, 15, 16, 17, 18, 19, 20, 21, 33, 34, 35, 36, 37, 38, 39] (by decide +kernel) (by decide +kernel)
set_option maxRecDepth 20000 in
theorem gX6_sameTurnsUntil_X5_indexAt : GoodIn wsX6_sameTurnsUntil (wsV RX6 42 RX5 yX5_indexAt wsX5_indexAt) := goodIn_app (goodIn_of _ (by decide +kernel)) ggX6_sameTurnsUntil_X5_indexAt
theorem dX6_sameTurnsUntil_0 : decode cX6_sameTurnsUntil 0 = .ok (.aload_n 0, 1) := by decide +kernel
theorem dX6_sameTurnsUntil_1 : decode cX6_sameTurnsUntil 1 = .ok (.getfield 48, 3) := by decide +kernel
theorem dX6_sameTurnsUntil_4 : decode cX6_sameTurnsUntil 4 = .ok (.istore_n 1, 1) := by decide +kernel
theorem dX6_sameTurnsUntil_5 : decode cX6_sameTurnsUntil 5 = .ok (.iconst (-1), 1) := by decide +kernel
theorem dX6_sameTurnsUntil_6 : decode cX6_sameTurnsUntil 6 = .ok (.istore_n 2, 1) := by decide +kernel
theorem dX6_sameTurnsUntil_7 : decode cX6_sameTurnsUntil 7 = .ok (.iload_n 2, 1) := by decide +kernel
theorem dX6_sameTurnsUntil_8 : decode cX6_sameTurnsUntil 8 = .ok (.aload_n 0, 1) := by decide +kernel
theorem dX6_sameTurnsUntil_9 : decode cX6_sameTurnsUntil 9 = .ok (.getfield 19, 3) := by decide +kernel
theorem dX6_sameTurnsUntil_12 : decode cX6_sameTurnsUntil 12 = .ok (.getfield 77, 3) := by decide +kernel
theorem dX6_sameTurnsUntil_15 : decode cX6_sameTurnsUntil 15 = .ok (.getfield 81, 3) := by decide +kernel
theorem dX6_sameTurnsUntil_18 : decode cX6_sameTurnsUntil 18 = .ok (.if_icmp .gt 33, 3) := by decide +kernel
theorem dX6_sameTurnsUntil_21 : decode cX6_sameTurnsUntil 21 = .ok (.aload_n 0, 1) := by decide +kernel
theorem dX6_sameTurnsUntil_22 : decode cX6_sameTurnsUntil 22 = .ok (.getfield 19, 3) := by decide +kernel
theorem dX6_sameTurnsUntil_25 : decode cX6_sameTurnsUntil 25 = .ok (.iload_n 2, 1) := by decide +kernel
theorem dX6_sameTurnsUntil_26 : decode cX6_sameTurnsUntil 26 = .ok (.invokevirtual 42, 3) := by decide +kernel
theorem dX6_sameTurnsUntil_29 : decode cX6_sameTurnsUntil 29 = .ok (.istore_n 3, 1) := by decide +kernel
theorem dX6_sameTurnsUntil_30 : decode cX6_sameTurnsUntil 30 = .ok (.iload_n 3, 1) := by decide +kernel
theorem dX6_sameTurnsUntil_31 : decode cX6_sameTurnsUntil 31 = .ok (.aload_n 0, 1) := by decide +kernel
theorem dX6_sameTurnsUntil_32 : decode cX6_sameTurnsUntil 32 = .ok (.getfield 54, 3) := by decide +kernel
theorem dX6_sameTurnsUntil_35 : decode cX6_sameTurnsUntil 35 = .ok (.if_icmp .le 10, 3) := by decide +kernel
theorem dX6_sameTurnsUntil_38 : decode cX6_sameTurnsUntil 38 = .ok (.iload_n 3, 1) := by decide +kernel
theorem dX6_sameTurnsUntil_39 : decode cX6_sameTurnsUntil 39 = .ok (.iload_n 1, 1) := by decide +kernel
theorem dX6_sameTurnsUntil_40 : decode cX6_sameTurnsUntil 40 = .ok (.if_icmp .ge 5, 3) := by decide +kernel
theorem dX6_sameTurnsUntil_43 : decode cX6_sameTurnsUntil 43 = .ok (.iload_n 3, 1) := by decide +kernel
theorem dX6_sameTurnsUntil_44 : decode cX6_sameTurnsUntil 44 = .ok (.istore_n 1, 1) := by decide +kernel
theorem dX6_sameTurnsUntil_45 : decode cX6_sameTurnsUntil 45 = .ok (.iinc 2 1, 3) := by decide +kernel
theorem dX6_sameTurnsUntil_48 : decode cX6_sameTurnsUntil 48 = .ok (.goto (-41), 3) := by decide +kernel
theorem dX6_sameTurnsUntil_51 : decode cX6_sameTurnsUntil 51 = .ok (.iload_n 1, 1) := by decide +kernel
theorem dX6_sameTurnsUntil_52 : decode cX6_sameTurnsUntil 52 = .ok (.ireturn, 1) := by decide +kernel
set_option maxRecDepth 20000 in
theorem ggX6_countSlants_X6_start : GoodIn wsX6_countSlants wsX6_start := goodIn_r _ [8, 9, 10, 11, 12, 13, 2, 14, 15, 16, 17, 18, 19, 20, 21, 22, 23, 24, 25, 26, 27, 28, 29, 30, 31, 32, 33, 34, 35, 36, 37, 38, 39, 40, 41, 42, 43, 159, 160, 161, 162, 163, 164, 165, 166, 167, 168, 169, 170, 171, 172, 173, 174, 175, 176, 177, 178, 179, 180, 181, 182, 183, 184, 185, 186, 187, 188, 189, 190, 191, 192, 193, 194] (by decide +kernel) (by decide +kernel)
set_option maxRecDepth 20000 in
theorem gX6_countSlants_X6_start : GoodIn wsX6_countSlants (wsV RX6 86 RX6 yX6_start wsX6_start) := goodIn_app (goodIn_of _ (by decide +kernel)) ggX6_countSlants_X6_start
set_option maxRecDepth 20000 in
theorem ggX6_countSlants_X6_nextPart : GoodIn wsX6_countSlants wsX6_nextPart := goodIn_r _ [47, 2, 3, 13, 9, 11, 12, 48, 1, 49, 50, 51, 52, 53, 18, 54, 55, 56, 57, 58, 59, 60, 61, 62, 63, 64, 65, 66, 67, 68, 69, 20, 70, 71, 72, 73, 74, 75, 76, 27, 77, 30, 78, 79, 80, 37, 81, 82, 34, 35, 36, 38, 39, 83, 84, 85, 86, 87, 88, 89, 90, 91, 92, 93, 94, 95, 96, 97, 98, 21, 99, 100, 101, 102, 103, 104, 105, 106, 107, 41, 108, 109, 110, 111, 112, 113, 114, 115, 116, 117, 118, 40, 42, 119, 120, 121, 122, 123, 124, 125, 126, 127, 128, 129, 130, 23, 131, 132, 133, 134, 135, 136, 137, 138, 139, 140, 141, 142, 143, 32, 31, 144, 145, 146, 147, 148, 149, 150, 151, 152, 153, 154, 155, 7, 156, 10, 157, 158, 43, 25, 26, 28, 29, 33, 159, 160, 161, 162, 163, 164, 165, 166, 167, 168, 169, 170, 171, 172, 173, 174, 175, 176, 177, 178, 179, 180, 181, 182, 183, 184, 185, 186, 187, 188, 189, 190, 191, 192, 193, 194] (by decide +kernel) (by decide +kernel)
set_option maxRecDepth 20000 in
theorem gX6_countSlants_X6_nextPart : GoodIn wsX6_countSlants (wsV RX6 90 RX6 yX6_nextPart wsX6_nextPart) := goodIn_app (goodIn_of _ (by decide +kernel)) ggX6_countSlants_X6_nextPart
theorem dX6_countSlants_0 : decode cX6_countSlants 0 = .ok (.aload_n 0, 1) := by decide +kernel
theorem dX6_countSlants_1 : decode cX6_countSlants 1 = .ok (.iload_n 1, 1) := by decide +kernel
theorem dX6_countSlants_2 : decode cX6_countSlants 2 = .ok (.iload_n 2, 1) := by decide +kernel
theorem dX6_countSlants_3 : decode cX6_countSlants 3 = .ok (.invokevirtual 86, 3) := by decide +kernel
theorem dX6_countSlants_6 : decode cX6_countSlants 6 = .ok (.iconst 0, 1) := by decide +kernel
theorem dX6_countSlants_7 : decode cX6_countSlants 7 = .ok (.istore 4, 2) := by decide +kernel
theorem dX6_countSlants_9 : decode cX6_countSlants 9 = .ok (.iconst 0, 1) := by decide +kernel
theorem dX6_countSlants_10 : decode cX6_countSlants 10 = .ok (.istore 5, 2) := by decide +kernel
theorem dX6_countSlants_12 : decode cX6_countSlants 12 = .ok (.iload 5, 2) := by decide +kernel
theorem dX6_countSlants_14 : decode cX6_countSlants 14 = .ok (.sipush 793, 3) := by decide +kernel
theorem dX6_countSlants_17 : decode cX6_countSlants 17 = .ok (.if_icmp .ge 38, 3) := by decide +kernel
theorem dX6_countSlants_20 : decode cX6_countSlants 20 = .ok (.aload_n 0, 1) := by decide +kernel
theorem dX6_countSlants_21 : decode cX6_countSlants 21 = .ok (.invokevirtual 90, 3) := by decide +kernel
theorem dX6_countSlants_24 : decode cX6_countSlants 24 = .ok (.ifCond .eq 31, 3) := by decide +kernel
theorem dX6_countSlants_27 : decode cX6_countSlants 27 = .ok (.aload_n 0, 1) := by decide +kernel
theorem dX6_countSlants_28 : decode cX6_countSlants 28 = .ok (.getfield 64, 3) := by decide +kernel
theorem dX6_countSlants_31 : decode cX6_countSlants 31 = .ok (.iload_n 3, 1) := by decide +kernel
theorem dX6_countSlants_32 : decode cX6_countSlants 32 = .ok (.if_icmp .ne 17, 3) := by decide +kernel
theorem dX6_countSlants_35 : decode cX6_countSlants 35 = .ok (.iload 4, 2) := by decide +kernel
theorem dX6_countSlants_37 : decode cX6_countSlants 37 = .ok (.aload_n 0, 1) := by decide +kernel
theorem dX6_countSlants_38 : decode cX6_countSlants 38 = .ok (.getfield 51, 3) := by decide +kernel
theorem dX6_countSlants_41 : decode cX6_countSlants 41 = .ok (.aload_n 0, 1) := by decide +kernel
theorem dX6_countSlants_42 : decode cX6_countSlants 42 = .ok (.getfield 54, 3) := by decide +kernel
theorem dX6_countSlants_45 : decode cX6_countSlants 45 = .ok (.isub, 1) := by decide +kernel
theorem dX6_countSlants_46 : decode cX6_countSlants 46 = .ok (.iadd, 1) := by decide +kernel
theorem dX6_countSlants_47 : decode cX6_countSlants 47 = .ok (.istore 4, 2) := by decide +kernel
theorem dX6_countSlants_49 : decode cX6_countSlants 49 = .ok (.iinc 5 1, 3) := by decide +kernel
theorem dX6_countSlants_52 : decode cX6_countSlants 52 = .ok (.goto (-40), 3) := by decide +kernel
theorem dX6_countSlants_55 : decode cX6_countSlants 55 = .ok (.iload 4, 2) := by decide +kernel
theorem dX6_countSlants_57 : decode cX6_countSlants 57 = .ok (.ireturn, 1) := by decide +kernel
set_option maxRecDepth 20000 in
theorem ggX6_lowestSlant_X6_start : GoodIn wsX6_lowestSlant wsX6_start := goodIn_r _ [7, 8, 9, 10, 11, 12, 13, 14, 15, 16, 17, 18, 19, 20, 21, 22, 23, 24, 25, 26, 27, 28, 29, 30, 31, 32, 33, 34, 35, 36, 37, 38, 39, 40, 41, 42, 43, 159, 160, 161, 162, 163, 164, 165, 166, 167, 168, 169, 170, 171, 172, 173, 174, 175, 176, 177, 178, 179, 180, 181, 182, 183, 184, 185, 186, 187, 188, 189, 190, 191, 192, 193, 194] (by decide +kernel) (by decide +kernel)
set_option maxRecDepth 20000 in
theorem gX6_lowestSlant_X6_start : GoodIn wsX6_lowestSlant (wsV RX6 86 RX6 yX6_start wsX6_start) := goodIn_app (goodIn_of _ (by decide +kernel)) ggX6_lowestSlant_X6_start
set_option maxRecDepth 20000 in
theorem ggX6_lowestSlant_X6_nextPart : GoodIn wsX6_lowestSlant wsX6_nextPart := goodIn_r _ [47, 13, 2, 12, 8, 10, 11, 48, 1, 49, 50, 51, 52, 53, 18, 54, 55, 56, 57, 58, 59, 60, 61, 62, 63, 64, 65, 66, 67, 68, 69, 20, 70, 71, 72, 73, 74, 75, 76, 27, 77, 30, 78, 79, 80, 37, 81, 82, 34, 35, 36, 38, 39, 83, 84, 85, 86, 87, 88, 89, 90, 91, 92, 93, 94, 95, 96, 97, 98, 21, 99, 100, 101, 102, 103, 104, 105, 106, 107, 41, 108, 109, 110, 111, 112, 113, 114, 115, 116, 117, 118, 40, 42, 119, 120, 121, 122, 123, 124, 125, 126, 127, 128, 129, 130, 23, 131, 132, 133, 134, 135, 136, 137, 138, 139, 140, 141, 142, 143, 32, 31, 144, 145, 146, 147, 148, 149, 150, 151, 152, 153, 154, 155, 6, 156, 9, 157, 158, 43, 25, 26, 28, 29, 33, 159, 160, 161, 162, 163, 164, 165, 166, 167, 168, 169, 170, 171, 172, 173, 174, 175, 176, 177, 178, 179, 180, 181, 182, 183, 184, 185, 186, 187, 188, 189, 190, 191, 192, 193, 194] (by decide +kernel) (by decide +kernel)
set_option maxRecDepth 20000 in
theorem gX6_lowestSlant_X6_nextPart : GoodIn wsX6_lowestSlant (wsV RX6 90 RX6 yX6_nextPart wsX6_nextPart) := goodIn_app (goodIn_of _ (by decide +kernel)) ggX6_lowestSlant_X6_nextPart
theorem dX6_lowestSlant_0 : decode cX6_lowestSlant 0 = .ok (.aload_n 0, 1) := by decide +kernel
theorem dX6_lowestSlant_1 : decode cX6_lowestSlant 1 = .ok (.iload_n 1, 1) := by decide +kernel
theorem dX6_lowestSlant_2 : decode cX6_lowestSlant 2 = .ok (.iload_n 2, 1) := by decide +kernel
theorem dX6_lowestSlant_3 : decode cX6_lowestSlant 3 = .ok (.invokevirtual 86, 3) := by decide +kernel
theorem dX6_lowestSlant_6 : decode cX6_lowestSlant 6 = .ok (.iconst 0, 1) := by decide +kernel
theorem dX6_lowestSlant_7 : decode cX6_lowestSlant 7 = .ok (.istore 4, 2) := by decide +kernel
theorem dX6_lowestSlant_9 : decode cX6_lowestSlant 9 = .ok (.iload 4, 2) := by decide +kernel
theorem dX6_lowestSlant_11 : decode cX6_lowestSlant 11 = .ok (.sipush 793, 3) := by decide +kernel
theorem dX6_lowestSlant_14 : decode cX6_lowestSlant 14 = .ok (.if_icmp .ge 29, 3) := by decide +kernel
theorem dX6_lowestSlant_17 : decode cX6_lowestSlant 17 = .ok (.aload_n 0, 1) := by decide +kernel
theorem dX6_lowestSlant_18 : decode cX6_lowestSlant 18 = .ok (.invokevirtual 90, 3) := by decide +kernel
theorem dX6_lowestSlant_21 : decode cX6_lowestSlant 21 = .ok (.ifCond .eq 22, 3) := by decide +kernel
theorem dX6_lowestSlant_24 : decode cX6_lowestSlant 24 = .ok (.aload_n 0, 1) := by decide +kernel
theorem dX6_lowestSlant_25 : decode cX6_lowestSlant 25 = .ok (.getfield 64, 3) := by decide +kernel
theorem dX6_lowestSlant_28 : decode cX6_lowestSlant 28 = .ok (.iload_n 3, 1) := by decide +kernel
theorem dX6_lowestSlant_29 : decode cX6_lowestSlant 29 = .ok (.if_icmp .ne 8, 3) := by decide +kernel
theorem dX6_lowestSlant_32 : decode cX6_lowestSlant 32 = .ok (.aload_n 0, 1) := by decide +kernel
theorem dX6_lowestSlant_33 : decode cX6_lowestSlant 33 = .ok (.getfield 54, 3) := by decide +kernel
theorem dX6_lowestSlant_36 : decode cX6_lowestSlant 36 = .ok (.ireturn, 1) := by decide +kernel
theorem dX6_lowestSlant_37 : decode cX6_lowestSlant 37 = .ok (.iinc 4 1, 3) := by decide +kernel
theorem dX6_lowestSlant_40 : decode cX6_lowestSlant 40 = .ok (.goto (-31), 3) := by decide +kernel
theorem dX6_lowestSlant_43 : decode cX6_lowestSlant 43 = .ok (.iconst (-1), 1) := by decide +kernel
theorem dX6_lowestSlant_44 : decode cX6_lowestSlant 44 = .ok (.ireturn, 1) := by decide +kernel
set_option maxRecDepth 20000 in
theorem ggX6_findBest_X6_start : GoodIn wsX6_findBest wsX6_start := goodIn_r _ [11, 4, 12, 5, 6, 13, 2, 14, 15, 16, 17, 18, 19, 20, 21, 22, 23, 24, 25, 26, 27, 28, 29, 30, 31, 32, 33, 34, 35, 36, 37, 38, 39, 40, 41, 42, 43, 171, 172, 173, 174, 175, 176, 177, 178, 179, 180, 181, 182, 183, 184, 185, 186, 187, 188, 189, 190, 191, 192, 193, 194, 195, 196, 197, 198, 199, 200, 201, 202, 203, 204, 205, 206] (by decide +kernel) (by decide +kernel)
set_option maxRecDepth 20000 in
theorem gX6_findBest_X6_start : GoodIn wsX6_findBest (wsV RX6 86 RX6 yX6_start wsX6_start) := goodIn_app (goodIn_of _ (by decide +kernel)) ggX6_findBest_X6_start
set_option maxRecDepth 20000 in
theorem ggX6_findBest_X6_nextPart : GoodIn wsX6_findBest wsX6_nextPart := goodIn_r _ [47, 2, 3, 13, 4, 5, 6, 48, 1, 49, 50, 51, 52, 53, 18, 54, 55, 56, 57, 58, 59, 60, 61, 62, 63, 64, 65, 66, 67, 68, 69, 20, 70, 71, 72, 73, 74, 75, 76, 27, 77, 30, 78, 79, 80, 37, 81, 82, 34, 35, 36, 38, 39, 83, 84, 85, 86, 87, 88, 89, 90, 91, 92, 93, 94, 95, 96, 97, 98, 21, 99, 100, 101, 102, 103, 104, 105, 106, 107, 41, 108, 109, 110, 111, 112, 113, 114, 115, 116, 117, 118, 40, 42, 119, 120, 121, 122, 123, 124, 125, 126, 127, 128, 129, 130, 23, 131, 132, 133, 134, 135, 136, 137, 138, 139, 140, 141, 142, 143, 32, 31, 144, 145, 146, 147, 148, 149, 150, 151, 152, 153, 154, 155, 10, 156, 12, 157, 158, 43, 25, 26, 28, 29, 33, 171, 172, 173, 174, 175, 176, 177, 178, 179, 180, 181, 182, 183, 184, 185, 186, 187, 188, 189, 190, 191, 192, 193, 194, 195, 196, 197, 198, 199, 200, 201, 202, 203, 204, 205, 206] (by decide +kernel) (by decide +kernel)
set_option maxRecDepth 20000 in
theorem gX6_findBest_X6_nextPart : GoodIn wsX6_findBest (wsV RX6 90 RX6 yX6_nextPart wsX6_nextPart) := goodIn_app (goodIn_of _ (by decide +kernel)) ggX6_findBest_X6_nextPart
set_option maxRecDepth 20000 in
theorem ggX6_findBest_X4_run : GoodIn wsX6_findBest wsX4_run := goodIn_r _ [54, 55, 56, 57, 18, 58, 59, 60, 61, 62, 63, 64, 65, 66, 67, 68, 69, 20, 70, 71, 72, 73, 74, 75, 76, 27, 77, 30, 78, 79, 80, 37, 81, 82, 34, 35, 36, 38, 39, 83, 84, 85, 86, 87, 88, 89, 90, 91, 92, 93, 94, 95, 96, 97, 98, 21, 99, 100, 101, 102, 103, 104, 105, 106, 107, 41, 108, 109, 110, 111, 112, 113, 114, 115, 116, 117, 118, 40, 42, 119, 120, 121, 122, 123, 124, 125, 126, 127, 128, 129, 130, 23, 131, 132, 133, 134, 135, 136, 137, 138, 139, 140, 141, 142, 143, 32, 31, 144, 145, 146, 147, 148, 149, 150, 151, 152, 182, 183, 184, 185, 186, 187, 188, 189, 190, 191, 192, 193, 194, 195, 196, 197, 198, 199, 200, 201, 202, 203, 204, 205, 206] (by decide +kernel) (by decide +kernel)
set_option maxRecDepth 20000 in
theorem gX6_findBest_X4_run : GoodIn wsX6_findBest (wsV RX6 57 RX4 yX4_run wsX4_run) := goodIn_app (goodIn_of _ (by decide +kernel)) ggX6_findBest_X4_run
set_option maxRecDepth 20000 in
theorem ggX6_findBest_X6_scoreFor : GoodIn wsX6_findBest wsX6_scoreFor := goodIn_r _ [162, 4, 163, 164, 165, 171, 172, 173, 174, 175, 176, 177, 178, 179, 180, 181, 182, 183, 184, 185, 186, 187, 188, 189, 190, 191, 192, 193, 194, 195, 196, 197, 198, 199] (by decide +kernel) (by decide +kernel)
set_option maxRecDepth 20000 in
theorem gX6_findBest_X6_scoreFor : GoodIn wsX6_findBest (wsV RX6 94 RX6 yX6_scoreFor wsX6_scoreFor) := goodIn_app (goodIn_of _ (by decide +kernel)) ggX6_findBest_X6_scoreFor
set_option maxRecDepth 20000 in
theorem ggX6_findBest_X6_consider : GoodIn wsX6_findBest wsX6_consider := goodIn_r _ [169, 14, 170, 171, 172, 173, 174, 175, 176, 177, 178, 179, 180, 181] (by decide +kernel) (by decide +kernel)
set_option maxRecDepth 20000 in
theorem gX6_findBest_X6_consider : GoodIn wsX6_findBest (wsV RX6 97 RX6 yX6_consider wsX6_consider) := goodIn_app (goodIn_of _ (by decide +kernel)) ggX6_findBest_X6_consider
theorem dX6_findBest_0 : decode cX6_findBest 0 = .ok (.aload_n 0, 1) := by decide +kernel
theorem dX6_findBest_1 : decode cX6_findBest 1 = .ok (.iload_n 1, 1) := by decide +kernel
theorem dX6_findBest_2 : decode cX6_findBest 2 = .ok (.iload_n 2, 1) := by decide +kernel
theorem dX6_findBest_3 : decode cX6_findBest 3 = .ok (.invokevirtual 86, 3) := by decide +kernel
theorem dX6_findBest_6 : decode cX6_findBest 6 = .ok (.iconst 0, 1) := by decide +kernel
theorem dX6_findBest_7 : decode cX6_findBest 7 = .ok (.istore 5, 2) := by decide +kernel
theorem dX6_findBest_9 : decode cX6_findBest 9 = .ok (.iload 5, 2) := by decide +kernel
theorem dX6_findBest_11 : decode cX6_findBest 11 = .ok (.sipush 793, 3) := by decide +kernel
theorem dX6_findBest_14 : decode cX6_findBest 14 = .ok (.if_icmp .ge 75, 3) := by decide +kernel
theorem dX6_findBest_17 : decode cX6_findBest 17 = .ok (.aload_n 0, 1) := by decide +kernel
theorem dX6_findBest_18 : decode cX6_findBest 18 = .ok (.invokevirtual 90, 3) := by decide +kernel
theorem dX6_findBest_21 : decode cX6_findBest 21 = .ok (.ifCond .eq 68, 3) := by decide +kernel
theorem dX6_findBest_24 : decode cX6_findBest 24 = .ok (.aload_n 0, 1) := by decide +kernel
theorem dX6_findBest_25 : decode cX6_findBest 25 = .ok (.getfield 64, 3) := by decide +kernel
theorem dX6_findBest_28 : decode cX6_findBest 28 = .ok (.iload_n 3, 1) := by decide +kernel
theorem dX6_findBest_29 : decode cX6_findBest 29 = .ok (.if_icmp .ne 54, 3) := by decide +kernel
theorem dX6_findBest_32 : decode cX6_findBest 32 = .ok (.iload 4, 2) := by decide +kernel
theorem dX6_findBest_34 : decode cX6_findBest 34 = .ok (.iconst 2, 1) := by decide +kernel
theorem dX6_findBest_35 : decode cX6_findBest 35 = .ok (.if_icmp .ne 12, 3) := by decide +kernel
theorem dX6_findBest_38 : decode cX6_findBest 38 = .ok (.aload_n 0, 1) := by decide +kernel
theorem dX6_findBest_39 : decode cX6_findBest 39 = .ok (.getfield 51, 3) := by decide +kernel
theorem dX6_findBest_42 : decode cX6_findBest 42 = .ok (.iconst 1, 1) := by decide +kernel
theorem dX6_findBest_43 : decode cX6_findBest 43 = .ok (.isub, 1) := by decide +kernel
theorem dX6_findBest_44 : decode cX6_findBest 44 = .ok (.goto 7, 3) := by decide +kernel
theorem dX6_findBest_47 : decode cX6_findBest 47 = .ok (.aload_n 0, 1) := by decide +kernel
theorem dX6_findBest_48 : decode cX6_findBest 48 = .ok (.getfield 54, 3) := by decide +kernel
theorem dX6_findBest_51 : decode cX6_findBest 51 = .ok (.istore 6, 2) := by decide +kernel
theorem dX6_findBest_53 : decode cX6_findBest 53 = .ok (.aload_n 0, 1) := by decide +kernel
theorem dX6_findBest_54 : decode cX6_findBest 54 = .ok (.getfield 28, 3) := by decide +kernel
theorem dX6_findBest_57 : decode cX6_findBest 57 = .ok (.aload_n 0, 1) := by decide +kernel
theorem dX6_findBest_58 : decode cX6_findBest 58 = .ok (.getfield 35, 3) := by decide +kernel
theorem dX6_findBest_61 : decode cX6_findBest 61 = .ok (.aload_n 0, 1) := by decide +kernel
theorem dX6_findBest_62 : decode cX6_findBest 62 = .ok (.getfield 38, 3) := by decide +kernel
theorem dX6_findBest_65 : decode cX6_findBest 65 = .ok (.iload 6, 2) := by decide +kernel
theorem dX6_findBest_67 : decode cX6_findBest 67 = .ok (.invokevirtual 57, 3) := by decide +kernel
theorem dX6_findBest_70 : decode cX6_findBest 70 = .ok (.aload_n 0, 1) := by decide +kernel
theorem dX6_findBest_71 : decode cX6_findBest 71 = .ok (.iload 6, 2) := by decide +kernel
theorem dX6_findBest_73 : decode cX6_findBest 73 = .ok (.aload_n 0, 1) := by decide +kernel
theorem dX6_findBest_74 : decode cX6_findBest 74 = .ok (.iload 4, 2) := by decide +kernel
theorem dX6_findBest_76 : decode cX6_findBest 76 = .ok (.invokevirtual 94, 3) := by decide +kernel
theorem dX6_findBest_79 : decode cX6_findBest 79 = .ok (.i2l, 1) := by decide +kernel
theorem dX6_findBest_80 : decode cX6_findBest 80 = .ok (.invokevirtual 97, 3) := by decide +kernel
theorem dX6_findBest_83 : decode cX6_findBest 83 = .ok (.iinc 5 1, 3) := by decide +kernel
theorem dX6_findBest_86 : decode cX6_findBest 86 = .ok (.goto (-77), 3) := by decide +kernel
theorem dX6_findBest_89 : decode cX6_findBest 89 = .ok (.return_, 1) := by decide +kernel
set_option maxRecDepth 20000 in
theorem ggX6_nearestSlant_X6_start : GoodIn wsX6_nearestSlant wsX6_start := goodIn_r _ [7, 8, 9, 10, 11, 12, 13, 2, 14, 15, 16, 17, 18, 19, 20, 21, 22, 23, 24, 25, 26, 27, 28, 29, 30, 31, 32, 33, 34, 35, 36, 37, 38, 39, 40, 41, 42, 177, 178, 179, 180, 181, 182, 183, 184, 185, 186, 187, 188, 189, 190, 191, 192, 193, 194, 195, 196, 197, 198, 199, 200, 201, 202, 203, 204, 205, 206, 207, 208, 209, 210, 211, 212] (by decide +kernel) (by decide +kernel)
set_option maxRecDepth 20000 in
theorem gX6_nearestSlant_X6_start : GoodIn wsX6_nearestSlant (wsV RX6 86 RX6 yX6_start wsX6_start) := goodIn_app (goodIn_of _ (by decide +kernel)) ggX6_nearestSlant_X6_start
set_option maxRecDepth 20000 in
theorem ggX6_nearestSlant_X6_nextPart : GoodIn wsX6_nearestSlant wsX6_nextPart := goodIn_r _ [46, 13, 47, 12, 8, 10, 11, 48, 1, 49, 50, 51, 52, 53, 17, 54, 55, 56, 57, 58, 59, 60, 61, 62, 63, 64, 65, 66, 67, 68, 69, 19, 70, 71, 72, 73, 74, 75, 76, 26, 77, 29, 78, 79, 80, 36, 81, 82, 33, 34, 35, 37, 38, 83, 84, 85, 86, 87, 88, 89, 90, 91, 92, 93, 94, 95, 96, 97, 98, 20, 99, 100, 101, 102, 103, 104, 105, 106, 107, 40, 108, 109, 110, 111, 112, 113, 114, 115, 116, 117, 118, 39, 41, 119, 120, 121, 122, 123, 124, 125, 126, 127, 128, 129, 130, 22, 131, 132, 133, 134, 135, 136, 137, 138, 139, 140, 141, 142, 143, 31, 30, 144, 145, 146, 147, 148, 149, 150, 151, 152, 153, 154, 155, 6, 156, 9, 157, 158, 42, 24, 25, 27, 28, 32, 177, 178, 179, 180, 181, 182, 183, 184, 185, 186, 187, 188, 189, 190, 191, 192, 193, 194, 195, 196, 197, 198, 199, 200, 201, 202, 203, 204, 205, 206, 207, 208, 209, 210, 211, 212] (by decide +kernel) (by decide +kernel)
set_option maxRecDepth 20000 in
theorem gX6_nearestSlant_X6_nextPart : GoodIn wsX6_nearestSlant (wsV RX6 90 RX6 yX6_nextPart wsX6_nextPart) := goodIn_app (goodIn_of _ (by decide +kernel)) ggX6_nearestSlant_X6_nextPart
set_option maxRecDepth 20000 in
theorem ggX6_nearestSlant_X6_considerNearest : GoodIn wsX6_nearestSlant wsX6_considerNearest := goodIn_r _ [162, 47, 13, 163, 164, 165, 6, 166, 8, 10, 11, 167, 51, 52, 53, 17, 54, 55, 56, 57, 58, 59, 60, 61, 62, 63, 64, 65, 66, 67, 68, 69, 19, 70, 71, 72, 73, 74, 75, 76, 26, 77, 29, 78, 79, 80, 36, 81, 82, 33, 34, 35, 37, 38, 83, 84, 85, 86, 87, 88, 89, 90, 91, 92, 93, 94, 95, 96, 97, 98, 20, 99, 100, 101, 102, 103, 104, 105, 106, 107, 40, 108, 109, 110, 111, 112, 113, 114, 115, 116, 117, 118, 39, 41, 119, 120, 121, 122, 123, 124, 125, 126, 127, 128, 129, 130, 22, 131, 132, 133, 134, 135, 136, 137, 138, 139, 140, 141, 142, 143, 31, 30, 144, 145, 146, 147, 148, 149, 150, 151, 152, 168, 169, 170, 171, 172, 173, 174, 175, 2, 176, 177, 178, 179, 180, 181, 182, 183, 184, 185, 186, 187, 188, 189, 190, 191, 192, 193, 194, 195, 196, 197, 198, 199, 200, 201, 202, 203, 204, 205, 206, 207, 208, 209, 210, 211, 212] (by decide +kernel) (by decide +kernel)
set_option maxRecDepth 20000 in
theorem gX6_nearestSlant_X6_considerNearest : GoodIn wsX6_nearestSlant (wsV RX6 101 RX6 yX6_considerNearest wsX6_considerNearest) := goodIn_app (goodIn_of _ (by decide +kernel)) ggX6_nearestSlant_X6_considerNearest
theorem dX6_nearestSlant_0 : decode cX6_nearestSlant 0 = .ok (.aload_n 0, 1) := by decide +kernel
theorem dX6_nearestSlant_1 : decode cX6_nearestSlant 1 = .ok (.iload_n 1, 1) := by decide +kernel
theorem dX6_nearestSlant_2 : decode cX6_nearestSlant 2 = .ok (.iload_n 2, 1) := by decide +kernel
theorem dX6_nearestSlant_3 : decode cX6_nearestSlant 3 = .ok (.invokevirtual 86, 3) := by decide +kernel
theorem dX6_nearestSlant_6 : decode cX6_nearestSlant 6 = .ok (.iconst 0, 1) := by decide +kernel
theorem dX6_nearestSlant_7 : decode cX6_nearestSlant 7 = .ok (.istore 4, 2) := by decide +kernel
theorem dX6_nearestSlant_9 : decode cX6_nearestSlant 9 = .ok (.iload 4, 2) := by decide +kernel
theorem dX6_nearestSlant_11 : decode cX6_nearestSlant 11 = .ok (.sipush 793, 3) := by decide +kernel
theorem dX6_nearestSlant_14 : decode cX6_nearestSlant 14 = .ok (.if_icmp .ge 28, 3) := by decide +kernel
theorem dX6_nearestSlant_17 : decode cX6_nearestSlant 17 = .ok (.aload_n 0, 1) := by decide +kernel
theorem dX6_nearestSlant_18 : decode cX6_nearestSlant 18 = .ok (.invokevirtual 90, 3) := by decide +kernel
theorem dX6_nearestSlant_21 : decode cX6_nearestSlant 21 = .ok (.ifCond .eq 21, 3) := by decide +kernel
theorem dX6_nearestSlant_24 : decode cX6_nearestSlant 24 = .ok (.aload_n 0, 1) := by decide +kernel
theorem dX6_nearestSlant_25 : decode cX6_nearestSlant 25 = .ok (.getfield 64, 3) := by decide +kernel
theorem dX6_nearestSlant_28 : decode cX6_nearestSlant 28 = .ok (.ifCond .ne 8, 3) := by decide +kernel
theorem dX6_nearestSlant_31 : decode cX6_nearestSlant 31 = .ok (.aload_n 0, 1) := by decide +kernel
theorem dX6_nearestSlant_32 : decode cX6_nearestSlant 32 = .ok (.iload_n 3, 1) := by decide +kernel
theorem dX6_nearestSlant_33 : decode cX6_nearestSlant 33 = .ok (.invokevirtual 101, 3) := by decide +kernel
theorem dX6_nearestSlant_36 : decode cX6_nearestSlant 36 = .ok (.iinc 4 1, 3) := by decide +kernel
theorem dX6_nearestSlant_39 : decode cX6_nearestSlant 39 = .ok (.goto (-30), 3) := by decide +kernel
theorem dX6_nearestSlant_42 : decode cX6_nearestSlant 42 = .ok (.aload_n 0, 1) := by decide +kernel
theorem dX6_nearestSlant_43 : decode cX6_nearestSlant 43 = .ok (.getfield 9, 3) := by decide +kernel
theorem dX6_nearestSlant_46 : decode cX6_nearestSlant 46 = .ok (.ireturn, 1) := by decide +kernel
set_option maxRecDepth 20000 in
theorem ggX6_considerNearest_X6_firstReaching : GoodIn wsX6_considerNearest wsX6_firstReaching := goodIn_r _ [7, 1, 2, 8, 9, 10, 11, 12, 13, 14, 15, 16, 17, 18, 19, 20, 21, 22, 23, 24, 25, 26, 27, 28, 29, 30, 31, 32, 33, 34, 35, 36, 37, 38, 39, 40, 41, 42, 43, 44, 45, 46, 47, 48, 49, 50, 51, 52, 53, 54, 55, 56, 57, 58, 59, 60, 61, 62, 63, 64, 65, 66, 67, 68, 69, 70, 71, 72, 73, 74, 75, 76, 77, 78, 79, 80, 81, 82, 83, 84, 85, 86, 87, 88, 89, 90, 91, 92, 93, 94, 95, 96, 97, 98, 99, 100, 101, 102, 103, 104, 105, 106, 107, 108, 109, 110, 111, 112, 113, 114, 115, 116, 117, 118, 119, 120, 121, 122, 123, 124, 125, 126, 127, 128, 129, 130, 141, 142, 143, 144, 145, 146, 147, 148, 149, 150, 151, 152, 153, 154, 155, 156, 157, 158, 159, 160, 161, 162, 163, 164, 165, 166, 167, 168, 169, 170, 171, 172, 173, 174, 175, 176] (by decide +kernel) (by decide +kernel)
set_option maxRecDepth 20000 in
theorem gX6_considerNearest_X6_firstReaching : GoodIn wsX6_considerNearest (wsV RX6 105 RX6 yX6_firstReaching wsX6_firstReaching) := goodIn_app (goodIn_of _ (by decide +kernel)) ggX6_considerNearest_X6_firstReaching
set_option maxRecDepth 20000 in
theorem ggX6_considerNearest_X6_shiftsWith : GoodIn wsX6_considerNearest wsX6_shiftsWith := goodIn_r _ [134, 8, 9, 10, 11, 12, 13, 14, 15, 16, 17, 18, 19, 20, 21, 22, 23, 24, 25, 26, 27, 28, 29, 30, 31, 32, 33, 34, 35, 36, 37, 38, 39, 40, 41, 42, 43, 44, 45, 46, 47, 48, 49, 50, 51, 52, 53, 54, 55, 56, 57, 58, 59, 60, 61, 62, 63, 64, 65, 66, 67, 68, 69, 70, 71, 72, 73, 74, 75, 76, 77, 78, 79, 80, 81, 82, 83, 84, 85, 86, 87, 88, 89, 90, 91, 92, 93, 94, 95, 96, 97, 98, 99, 100, 101, 102, 103, 104, 105, 106, 107, 108, 109, 110, 111, 112, 113, 114, 115, 116, 117, 118, 119, 120, 121, 122, 123, 124, 125, 126, 127, 128, 129, 130, 141, 142, 143, 144, 145, 146, 147, 148, 149, 150, 151, 152, 153, 154, 155, 156, 157, 158, 159, 160, 161, 162, 163, 164, 165, 166, 167, 168, 169, 170, 171, 172, 173, 174, 175, 176] (by decide +kernel) (by decide +kernel)
set_option maxRecDepth 20000 in
theorem gX6_considerNearest_X6_shiftsWith : GoodIn wsX6_considerNearest (wsV RX6 108 RX6 yX6_shiftsWith wsX6_shiftsWith) := goodIn_app (goodIn_of _ (by decide +kernel)) ggX6_considerNearest_X6_shiftsWith
set_option maxRecDepth 20000 in
theorem ggX6_considerNearest_X6_consider : GoodIn wsX6_considerNearest wsX6_consider := goodIn_r _ [138, 139, 140, 141, 142, 143, 144, 145, 146, 147, 148, 149, 150, 151] (by decide +kernel) (by decide +kernel)
set_option maxRecDepth 20000 in
theorem gX6_considerNearest_X6_consider : GoodIn wsX6_considerNearest (wsV RX6 97 RX6 yX6_consider wsX6_consider) := goodIn_app (goodIn_of _ (by decide +kernel)) ggX6_considerNearest_X6_consider
theorem dX6_considerNearest_0 : decode cX6_considerNearest 0 = .ok (.aload_n 0, 1) := by decide +kernel
theorem dX6_considerNearest_1 : decode cX6_considerNearest 1 = .ok (.iload_n 1, 1) := by decide +kernel
theorem dX6_considerNearest_2 : decode cX6_considerNearest 2 = .ok (.invokevirtual 105, 3) := by decide +kernel
theorem dX6_considerNearest_5 : decode cX6_considerNearest 5 = .ok (.istore_n 2, 1) := by decide +kernel
theorem dX6_considerNearest_6 : decode cX6_considerNearest 6 = .ok (.iload_n 2, 1) := by decide +kernel
theorem dX6_considerNearest_7 : decode cX6_considerNearest 7 = .ok (.aload_n 0, 1) := by decide +kernel
theorem dX6_considerNearest_8 : decode cX6_considerNearest 8 = .ok (.getfield 54, 3) := by decide +kernel
theorem dX6_considerNearest_11 : decode cX6_considerNearest 11 = .ok (.if_icmp .le 25, 3) := by decide +kernel
theorem dX6_considerNearest_14 : decode cX6_considerNearest 14 = .ok (.aload_n 0, 1) := by decide +kernel
theorem dX6_considerNearest_15 : decode cX6_considerNearest 15 = .ok (.iload_n 2, 1) := by decide +kernel
theorem dX6_considerNearest_16 : decode cX6_considerNearest 16 = .ok (.iconst 1, 1) := by decide +kernel
theorem dX6_considerNearest_17 : decode cX6_considerNearest 17 = .ok (.isub, 1) := by decide +kernel
theorem dX6_considerNearest_18 : decode cX6_considerNearest 18 = .ok (.invokevirtual 108, 3) := by decide +kernel
theorem dX6_considerNearest_21 : decode cX6_considerNearest 21 = .ok (.istore_n 3, 1) := by decide +kernel
theorem dX6_considerNearest_22 : decode cX6_considerNearest 22 = .ok (.aload_n 0, 1) := by decide +kernel
theorem dX6_considerNearest_23 : decode cX6_considerNearest 23 = .ok (.aload_n 0, 1) := by decide +kernel
theorem dX6_considerNearest_24 : decode cX6_considerNearest 24 = .ok (.iload_n 3, 1) := by decide +kernel
theorem dX6_considerNearest_25 : decode cX6_considerNearest 25 = .ok (.invokevirtual 105, 3) := by decide +kernel
theorem dX6_considerNearest_28 : decode cX6_considerNearest 28 = .ok (.iload_n 3, 1) := by decide +kernel
theorem dX6_considerNearest_29 : decode cX6_considerNearest 29 = .ok (.i2l, 1) := by decide +kernel
theorem dX6_considerNearest_30 : decode cX6_considerNearest 30 = .ok (.iload_n 1, 1) := by decide +kernel
theorem dX6_considerNearest_31 : decode cX6_considerNearest 31 = .ok (.i2l, 1) := by decide +kernel
theorem dX6_considerNearest_32 : decode cX6_considerNearest 32 = .ok (.lsub, 1) := by decide +kernel
theorem dX6_considerNearest_33 : decode cX6_considerNearest 33 = .ok (.invokevirtual 97, 3) := by decide +kernel
theorem dX6_considerNearest_36 : decode cX6_considerNearest 36 = .ok (.iload_n 2, 1) := by decide +kernel
theorem dX6_considerNearest_37 : decode cX6_considerNearest 37 = .ok (.aload_n 0, 1) := by decide +kernel
theorem dX6_considerNearest_38 : decode cX6_considerNearest 38 = .ok (.getfield 51, 3) := by decide +kernel
theorem dX6_considerNearest_41 : decode cX6_considerNearest 41 = .ok (.if_icmp .ge 17, 3) := by decide +kernel
theorem dX6_considerNearest_44 : decode cX6_considerNearest 44 = .ok (.aload_n 0, 1) := by decide +kernel
theorem dX6_considerNearest_45 : decode cX6_considerNearest 45 = .ok (.iload_n 2, 1) := by decide +kernel
theorem dX6_considerNearest_46 : decode cX6_considerNearest 46 = .ok (.iload_n 1, 1) := by decide +kernel
theorem dX6_considerNearest_47 : decode cX6_considerNearest 47 = .ok (.i2l, 1) := by decide +kernel
theorem dX6_considerNearest_48 : decode cX6_considerNearest 48 = .ok (.aload_n 0, 1) := by decide +kernel
theorem dX6_considerNearest_49 : decode cX6_considerNearest 49 = .ok (.iload_n 2, 1) := by decide +kernel
theorem dX6_considerNearest_50 : decode cX6_considerNearest 50 = .ok (.invokevirtual 108, 3) := by decide +kernel
theorem dX6_considerNearest_53 : decode cX6_considerNearest 53 = .ok (.i2l, 1) := by decide +kernel
theorem dX6_considerNearest_54 : decode cX6_considerNearest 54 = .ok (.lsub, 1) := by decide +kernel
theorem dX6_considerNearest_55 : decode cX6_considerNearest 55 = .ok (.invokevirtual 97, 3) := by decide +kernel
theorem dX6_considerNearest_58 : decode cX6_considerNearest 58 = .ok (.return_, 1) := by decide +kernel
set_option maxRecDepth 20000 in
theorem ggX6_firstReaching_X4_run : GoodIn wsX6_firstReaching wsX4_run := goodIn_r _ [11, 12, 13, 14, 10, 15, 16, 17, 18, 19, 20, 21, 22, 23, 24, 25, 26, 27, 28, 29, 30, 31, 32, 33, 34, 35, 36, 37, 38, 39, 40, 41, 42, 43, 44, 45, 46, 47, 48, 49, 50, 51, 52, 53, 54, 55, 56, 57, 58, 59, 60, 61, 62, 63, 64, 65, 66, 67, 68, 69, 70, 71, 72, 73, 74, 75, 76, 77, 78, 79, 80, 81, 82, 83, 84, 85, 86, 87, 88, 89, 90, 91, 92, 93, 94, 95, 96, 97, 98, 99, 100, 101, 102, 103, 104, 105, 106, 107, 108, 109, 110, 111, 112, 113, 114, 115, 116, 117, 118, 119, 120, 121, 122, 123, 124, 125, 137, 138, 139, 140, 141, 142, 143, 144, 145, 146, 147, 148, 149, 150, 151, 152, 153, 154, 155, 156, 157, 158, 159, 160, 161] (by decide +kernel) (by decide +kernel)
set_option maxRecDepth 20000 in
theorem gX6_firstReaching_X4_run : GoodIn wsX6_firstReaching (wsV RX6 57 RX4 yX4_run wsX4_run) := goodIn_app (goodIn_of _ (by decide +kernel)) ggX6_firstReaching_X4_run
theorem dX6_firstReaching_0 : decode cX6_firstReaching 0 = .ok (.aload_n 0, 1) := by decide +kernel
theorem dX6_firstReaching_1 : decode cX6_firstReaching 1 = .ok (.getfield 54, 3) := by decide +kernel
theorem dX6_firstReaching_4 : decode cX6_firstReaching 4 = .ok (.istore_n 2, 1) := by decide +kernel
theorem dX6_firstReaching_5 : decode cX6_firstReaching 5 = .ok (.aload_n 0, 1) := by decide +kernel
theorem dX6_firstReaching_6 : decode cX6_firstReaching 6 = .ok (.getfield 51, 3) := by decide +kernel
theorem dX6_firstReaching_9 : decode cX6_firstReaching 9 = .ok (.istore_n 3, 1) := by decide +kernel
theorem dX6_firstReaching_10 : decode cX6_firstReaching 10 = .ok (.iconst 0, 1) := by decide +kernel
theorem dX6_firstReaching_11 : decode cX6_firstReaching 11 = .ok (.istore 4, 2) := by decide +kernel
theorem dX6_firstReaching_13 : decode cX6_firstReaching 13 = .ok (.iload 4, 2) := by decide +kernel
theorem dX6_firstReaching_15 : decode cX6_firstReaching 15 = .ok (.bipush 32, 2) := by decide +kernel
theorem dX6_firstReaching_17 : decode cX6_firstReaching 17 = .ok (.if_icmp .ge 60, 3) := by decide +kernel
theorem dX6_firstReaching_20 : decode cX6_firstReaching 20 = .ok (.iload_n 2, 1) := by decide +kernel
theorem dX6_firstReaching_21 : decode cX6_firstReaching 21 = .ok (.iload_n 3, 1) := by decide +kernel
theorem dX6_firstReaching_22 : decode cX6_firstReaching 22 = .ok (.if_icmp .ge 55, 3) := by decide +kernel
theorem dX6_firstReaching_25 : decode cX6_firstReaching 25 = .ok (.iload_n 2, 1) := by decide +kernel
theorem dX6_firstReaching_26 : decode cX6_firstReaching 26 = .ok (.iload_n 3, 1) := by decide +kernel
theorem dX6_firstReaching_27 : decode cX6_firstReaching 27 = .ok (.iadd, 1) := by decide +kernel
theorem dX6_firstReaching_28 : decode cX6_firstReaching 28 = .ok (.iconst 2, 1) := by decide +kernel
theorem dX6_firstReaching_29 : decode cX6_firstReaching 29 = .ok (.idiv, 1) := by decide +kernel
theorem dX6_firstReaching_30 : decode cX6_firstReaching 30 = .ok (.istore 5, 2) := by decide +kernel
theorem dX6_firstReaching_32 : decode cX6_firstReaching 32 = .ok (.aload_n 0, 1) := by decide +kernel
theorem dX6_firstReaching_33 : decode cX6_firstReaching 33 = .ok (.getfield 28, 3) := by decide +kernel
theorem dX6_firstReaching_36 : decode cX6_firstReaching 36 = .ok (.aload_n 0, 1) := by decide +kernel
theorem dX6_firstReaching_37 : decode cX6_firstReaching 37 = .ok (.getfield 35, 3) := by decide +kernel
theorem dX6_firstReaching_40 : decode cX6_firstReaching 40 = .ok (.aload_n 0, 1) := by decide +kernel
theorem dX6_firstReaching_41 : decode cX6_firstReaching 41 = .ok (.getfield 38, 3) := by decide +kernel
theorem dX6_firstReaching_44 : decode cX6_firstReaching 44 = .ok (.iload 5, 2) := by decide +kernel
theorem dX6_firstReaching_46 : decode cX6_firstReaching 46 = .ok (.invokevirtual 57, 3) := by decide +kernel
theorem dX6_firstReaching_49 : decode cX6_firstReaching 49 = .ok (.aload_n 0, 1) := by decide +kernel
theorem dX6_firstReaching_50 : decode cX6_firstReaching 50 = .ok (.getfield 28, 3) := by decide +kernel
theorem dX6_firstReaching_53 : decode cX6_firstReaching 53 = .ok (.getfield 111, 3) := by decide +kernel
theorem dX6_firstReaching_56 : decode cX6_firstReaching 56 = .ok (.iload_n 1, 1) := by decide +kernel
theorem dX6_firstReaching_57 : decode cX6_firstReaching 57 = .ok (.if_icmp .lt 9, 3) := by decide +kernel
theorem dX6_firstReaching_60 : decode cX6_firstReaching 60 = .ok (.iload 5, 2) := by decide +kernel
theorem dX6_firstReaching_62 : decode cX6_firstReaching 62 = .ok (.istore_n 3, 1) := by decide +kernel
theorem dX6_firstReaching_63 : decode cX6_firstReaching 63 = .ok (.goto 8, 3) := by decide +kernel
theorem dX6_firstReaching_66 : decode cX6_firstReaching 66 = .ok (.iload 5, 2) := by decide +kernel
theorem dX6_firstReaching_68 : decode cX6_firstReaching 68 = .ok (.iconst 1, 1) := by decide +kernel
theorem dX6_firstReaching_69 : decode cX6_firstReaching 69 = .ok (.iadd, 1) := by decide +kernel
theorem dX6_firstReaching_70 : decode cX6_firstReaching 70 = .ok (.istore_n 2, 1) := by decide +kernel
theorem dX6_firstReaching_71 : decode cX6_firstReaching 71 = .ok (.iinc 4 1, 3) := by decide +kernel
theorem dX6_firstReaching_74 : decode cX6_firstReaching 74 = .ok (.goto (-61), 3) := by decide +kernel
theorem dX6_firstReaching_77 : decode cX6_firstReaching 77 = .ok (.iload_n 2, 1) := by decide +kernel
theorem dX6_firstReaching_78 : decode cX6_firstReaching 78 = .ok (.ireturn, 1) := by decide +kernel
set_option maxRecDepth 20000 in
theorem ggX6_shiftsWith_X4_run : GoodIn wsX6_shiftsWith wsX4_run := goodIn_r _ [9, 10, 11, 12, 8, 13, 14, 15, 16, 17, 18, 19, 20, 21, 22, 23, 24, 25, 26, 27, 28, 29, 30, 31, 32, 33, 34, 35, 36, 37, 38, 39, 40, 41, 42, 43, 44, 45, 46, 47, 48, 49, 50, 51, 52, 53, 54, 55, 56, 57, 58, 59, 60, 61, 62, 63, 64, 65, 66, 67, 68, 69, 70, 71, 72, 73, 74, 75, 76, 77, 78, 79, 80, 81, 82, 83, 84, 85, 86, 87, 88, 89, 90, 91, 92, 93, 94, 95, 96, 97, 98, 99, 100, 101, 102, 103, 104, 105, 106, 107, 108, 109, 110, 111, 112, 113, 114, 115, 116, 117, 118, 119, 120, 121, 122, 123, 135, 136, 137, 138, 139, 140, 141, 142, 143, 144, 145, 146, 147, 148, 149, 150, 151, 152, 153, 154, 155, 156, 157, 158, 159] (by decide +kernel) (by decide +kernel)
set_option maxRecDepth 20000 in
theorem gX6_shiftsWith_X4_run : GoodIn wsX6_shiftsWith (wsV RX6 57 RX4 yX4_run wsX4_run) := goodIn_app (goodIn_of _ (by decide +kernel)) ggX6_shiftsWith_X4_run
theorem dX6_shiftsWith_0 : decode cX6_shiftsWith 0 = .ok (.aload_n 0, 1) := by decide +kernel
theorem dX6_shiftsWith_1 : decode cX6_shiftsWith 1 = .ok (.getfield 28, 3) := by decide +kernel
theorem dX6_shiftsWith_4 : decode cX6_shiftsWith 4 = .ok (.aload_n 0, 1) := by decide +kernel
theorem dX6_shiftsWith_5 : decode cX6_shiftsWith 5 = .ok (.getfield 35, 3) := by decide +kernel
theorem dX6_shiftsWith_8 : decode cX6_shiftsWith 8 = .ok (.aload_n 0, 1) := by decide +kernel
theorem dX6_shiftsWith_9 : decode cX6_shiftsWith 9 = .ok (.getfield 38, 3) := by decide +kernel
theorem dX6_shiftsWith_12 : decode cX6_shiftsWith 12 = .ok (.iload_n 1, 1) := by decide +kernel
theorem dX6_shiftsWith_13 : decode cX6_shiftsWith 13 = .ok (.invokevirtual 57, 3) := by decide +kernel
theorem dX6_shiftsWith_16 : decode cX6_shiftsWith 16 = .ok (.aload_n 0, 1) := by decide +kernel
theorem dX6_shiftsWith_17 : decode cX6_shiftsWith 17 = .ok (.getfield 28, 3) := by decide +kernel
theorem dX6_shiftsWith_20 : decode cX6_shiftsWith 20 = .ok (.getfield 111, 3) := by decide +kernel
theorem dX6_shiftsWith_23 : decode cX6_shiftsWith 23 = .ok (.ireturn, 1) := by decide +kernel
theorem dX6_scoreFor_0 : decode cX6_scoreFor 0 = .ok (.iload_n 1, 1) := by decide +kernel
theorem dX6_scoreFor_1 : decode cX6_scoreFor 1 = .ok (.lookupswitch 44 #[(0, 27), (1, 36)], 27) := by decide +kernel
theorem dX6_scoreFor_28 : decode cX6_scoreFor 28 = .ok (.aload_n 0, 1) := by decide +kernel
theorem dX6_scoreFor_29 : decode cX6_scoreFor 29 = .ok (.getfield 28, 3) := by decide +kernel
theorem dX6_scoreFor_32 : decode cX6_scoreFor 32 = .ok (.getfield 114, 3) := by decide +kernel
theorem dX6_scoreFor_35 : decode cX6_scoreFor 35 = .ok (.ineg, 1) := by decide +kernel
theorem dX6_scoreFor_36 : decode cX6_scoreFor 36 = .ok (.ireturn, 1) := by decide +kernel
theorem dX6_scoreFor_37 : decode cX6_scoreFor 37 = .ok (.aload_n 0, 1) := by decide +kernel
theorem dX6_scoreFor_38 : decode cX6_scoreFor 38 = .ok (.getfield 28, 3) := by decide +kernel
theorem dX6_scoreFor_41 : decode cX6_scoreFor 41 = .ok (.getfield 117, 3) := by decide +kernel
theorem dX6_scoreFor_44 : decode cX6_scoreFor 44 = .ok (.ireturn, 1) := by decide +kernel
theorem dX6_scoreFor_45 : decode cX6_scoreFor 45 = .ok (.aload_n 0, 1) := by decide +kernel
theorem dX6_scoreFor_46 : decode cX6_scoreFor 46 = .ok (.getfield 28, 3) := by decide +kernel
theorem dX6_scoreFor_49 : decode cX6_scoreFor 49 = .ok (.getfield 111, 3) := by decide +kernel
theorem dX6_scoreFor_52 : decode cX6_scoreFor 52 = .ok (.ireturn, 1) := by decide +kernel
theorem dX6_consider_0 : decode cX6_consider 0 = .ok (.aload_n 0, 1) := by decide +kernel
theorem dX6_consider_1 : decode cX6_consider 1 = .ok (.getfield 9, 3) := by decide +kernel
theorem dX6_consider_4 : decode cX6_consider 4 = .ok (.iconst (-1), 1) := by decide +kernel
theorem dX6_consider_5 : decode cX6_consider 5 = .ok (.if_icmp .eq 12, 3) := by decide +kernel
theorem dX6_consider_8 : decode cX6_consider 8 = .ok (.lload_n 2, 1) := by decide +kernel
theorem dX6_consider_9 : decode cX6_consider 9 = .ok (.aload_n 0, 1) := by decide +kernel
theorem dX6_consider_10 : decode cX6_consider 10 = .ok (.getfield 15, 3) := by decide +kernel
theorem dX6_consider_13 : decode cX6_consider 13 = .ok (.lcmp, 1) := by decide +kernel
theorem dX6_consider_14 : decode cX6_consider 14 = .ok (.ifCond .le 13, 3) := by decide +kernel
theorem dX6_consider_17 : decode cX6_consider 17 = .ok (.aload_n 0, 1) := by decide +kernel
theorem dX6_consider_18 : decode cX6_consider 18 = .ok (.iload_n 1, 1) := by decide +kernel
theorem dX6_consider_19 : decode cX6_consider 19 = .ok (.putfield 9, 3) := by decide +kernel
theorem dX6_consider_22 : decode cX6_consider 22 = .ok (.aload_n 0, 1) := by decide +kernel
theorem dX6_consider_23 : decode cX6_consider 23 = .ok (.lload_n 2, 1) := by decide +kernel
theorem dX6_consider_24 : decode cX6_consider 24 = .ok (.putfield 15, 3) := by decide +kernel
theorem dX6_consider_27 : decode cX6_consider 27 = .ok (.return_, 1) := by decide +kernel
theorem dX7_init_0 : decode cX7_init 0 = .ok (.aload_n 0, 1) := by decide +kernel
theorem dX7_init_1 : decode cX7_init 1 = .ok (.invokespecial 3, 3) := by decide +kernel
theorem dX7_init_4 : decode cX7_init 4 = .ok (.aload_n 0, 1) := by decide +kernel
theorem dX7_init_5 : decode cX7_init 5 = .ok (.bipush 60, 2) := by decide +kernel
theorem dX7_init_7 : decode cX7_init 7 = .ok (.newarray .int, 2) := by decide +kernel
theorem dX7_init_9 : decode cX7_init 9 = .ok (.putfield 9, 3) := by decide +kernel
theorem dX7_init_12 : decode cX7_init 12 = .ok (.aload_n 0, 1) := by decide +kernel
theorem dX7_init_13 : decode cX7_init 13 = .ok (.iconst 0, 1) := by decide +kernel
theorem dX7_init_14 : decode cX7_init 14 = .ok (.putfield 15, 3) := by decide +kernel
theorem dX7_init_17 : decode cX7_init 17 = .ok (.return_, 1) := by decide +kernel
theorem dX7_has_0 : decode cX7_has 0 = .ok (.iload_n 1, 1) := by decide +kernel
theorem dX7_has_1 : decode cX7_has 1 = .ok (.ifCond .lt 15, 3) := by decide +kernel
theorem dX7_has_4 : decode cX7_has 4 = .ok (.iload_n 1, 1) := by decide +kernel
theorem dX7_has_5 : decode cX7_has 5 = .ok (.aload_n 0, 1) := by decide +kernel
theorem dX7_has_6 : decode cX7_has 6 = .ok (.getfield 15, 3) := by decide +kernel
theorem dX7_has_9 : decode cX7_has 9 = .ok (.if_icmp .ge 7, 3) := by decide +kernel
theorem dX7_has_12 : decode cX7_has 12 = .ok (.iconst 1, 1) := by decide +kernel
theorem dX7_has_13 : decode cX7_has 13 = .ok (.goto 4, 3) := by decide +kernel
theorem dX7_has_16 : decode cX7_has 16 = .ok (.iconst 0, 1) := by decide +kernel
theorem dX7_has_17 : decode cX7_has 17 = .ok (.ireturn, 1) := by decide +kernel
theorem dX7_get_0 : decode cX7_get 0 = .ok (.iload_n 1, 1) := by decide +kernel
theorem dX7_get_1 : decode cX7_get 1 = .ok (.iconst 3, 1) := by decide +kernel
theorem dX7_get_2 : decode cX7_get 2 = .ok (.imul, 1) := by decide +kernel
theorem dX7_get_3 : decode cX7_get 3 = .ok (.iload_n 2, 1) := by decide +kernel
theorem dX7_get_4 : decode cX7_get 4 = .ok (.iadd, 1) := by decide +kernel
theorem dX7_get_5 : decode cX7_get 5 = .ok (.istore_n 3, 1) := by decide +kernel
theorem dX7_get_6 : decode cX7_get 6 = .ok (.iload_n 3, 1) := by decide +kernel
theorem dX7_get_7 : decode cX7_get 7 = .ok (.ifCond .lt 21, 3) := by decide +kernel
theorem dX7_get_10 : decode cX7_get 10 = .ok (.iload_n 3, 1) := by decide +kernel
theorem dX7_get_11 : decode cX7_get 11 = .ok (.aload_n 0, 1) := by decide +kernel
theorem dX7_get_12 : decode cX7_get 12 = .ok (.getfield 9, 3) := by decide +kernel
theorem dX7_get_15 : decode cX7_get 15 = .ok (.arraylength, 1) := by decide +kernel
theorem dX7_get_16 : decode cX7_get 16 = .ok (.if_icmp .ge 12, 3) := by decide +kernel
theorem dX7_get_19 : decode cX7_get 19 = .ok (.aload_n 0, 1) := by decide +kernel
theorem dX7_get_20 : decode cX7_get 20 = .ok (.getfield 9, 3) := by decide +kernel
theorem dX7_get_23 : decode cX7_get 23 = .ok (.iload_n 3, 1) := by decide +kernel
theorem dX7_get_24 : decode cX7_get 24 = .ok (.iaload, 1) := by decide +kernel
theorem dX7_get_25 : decode cX7_get 25 = .ok (.goto 4, 3) := by decide +kernel
theorem dX7_get_28 : decode cX7_get 28 = .ok (.iconst 0, 1) := by decide +kernel
theorem dX7_get_29 : decode cX7_get 29 = .ok (.ireturn, 1) := by decide +kernel
set_option maxRecDepth 20000 in
theorem ggX7_set_X8_put : GoodIn wsX7_set wsX8_put := goodIn_r _ [4] (by decide +kernel) (by decide +kernel)
set_option maxRecDepth 20000 in
theorem gX7_set_X8_put_n19 : GoodIn wsX7_set (wsX8_put) := ggX7_set_X8_put
theorem dX7_set_0 : decode cX7_set 0 = .ok (.aload_n 0, 1) := by decide +kernel
theorem dX7_set_1 : decode cX7_set 1 = .ok (.getfield 9, 3) := by decide +kernel
theorem dX7_set_4 : decode cX7_set 4 = .ok (.iload_n 1, 1) := by decide +kernel
theorem dX7_set_5 : decode cX7_set 5 = .ok (.iconst 3, 1) := by decide +kernel
theorem dX7_set_6 : decode cX7_set 6 = .ok (.imul, 1) := by decide +kernel
theorem dX7_set_7 : decode cX7_set 7 = .ok (.iload_n 2, 1) := by decide +kernel
theorem dX7_set_8 : decode cX7_set 8 = .ok (.iadd, 1) := by decide +kernel
theorem dX7_set_9 : decode cX7_set 9 = .ok (.iload_n 3, 1) := by decide +kernel
theorem dX7_set_10 : decode cX7_set 10 = .ok (.invokestatic 19, 3) := by decide +kernel
theorem dX7_set_13 : decode cX7_set 13 = .ok (.return_, 1) := by decide +kernel
set_option maxRecDepth 20000 in
theorem ggX7_insert_X7_copyRow : GoodIn wsX7_insert wsX7_copyRow := goodIn_r _ [6, 7, 8, 9, 5, 10, 11, 12, 13, 14, 15, 16, 17, 18, 19, 20] (by decide +kernel) (by decide +kernel)
set_option maxRecDepth 20000 in
theorem gX7_insert_X7_copyRow : GoodIn wsX7_insert (wsV RX7 23 RX7 yX7_copyRow wsX7_copyRow) := goodIn_app (goodIn_of _ (by decide +kernel)) ggX7_insert_X7_copyRow
set_option maxRecDepth 20000 in
theorem ggX7_insert_X7_set : GoodIn wsX7_insert wsX7_set := goodIn_r _ [15, 11, 16, 17, 18, 19, 20] (by decide +kernel) (by decide +kernel)
set_option maxRecDepth 20000 in
theorem gX7_insert_X7_set : GoodIn wsX7_insert (wsV RX7 27 RX7 yX7_set wsX7_set) := goodIn_app (goodIn_of _ (by decide +kernel)) ggX7_insert_X7_set
theorem dX7_insert_0 : decode cX7_insert 0 = .ok (.aload_n 0, 1) := by decide +kernel
theorem dX7_insert_1 : decode cX7_insert 1 = .ok (.getfield 15, 3) := by decide +kernel
theorem dX7_insert_4 : decode cX7_insert 4 = .ok (.istore 5, 2) := by decide +kernel
theorem dX7_insert_6 : decode cX7_insert 6 = .ok (.iload 5, 2) := by decide +kernel
theorem dX7_insert_8 : decode cX7_insert 8 = .ok (.iload_n 1, 1) := by decide +kernel
theorem dX7_insert_9 : decode cX7_insert 9 = .ok (.if_icmp .le 19, 3) := by decide +kernel
theorem dX7_insert_12 : decode cX7_insert 12 = .ok (.aload_n 0, 1) := by decide +kernel
theorem dX7_insert_13 : decode cX7_insert 13 = .ok (.iload 5, 2) := by decide +kernel
theorem dX7_insert_15 : decode cX7_insert 15 = .ok (.iconst 1, 1) := by decide +kernel
theorem dX7_insert_16 : decode cX7_insert 16 = .ok (.isub, 1) := by decide +kernel
theorem dX7_insert_17 : decode cX7_insert 17 = .ok (.iload 5, 2) := by decide +kernel
theorem dX7_insert_19 : decode cX7_insert 19 = .ok (.invokevirtual 23, 3) := by decide +kernel
theorem dX7_insert_22 : decode cX7_insert 22 = .ok (.iinc 5 (-1), 3) := by decide +kernel
theorem dX7_insert_25 : decode cX7_insert 25 = .ok (.goto (-19), 3) := by decide +kernel
theorem dX7_insert_28 : decode cX7_insert 28 = .ok (.aload_n 0, 1) := by decide +kernel
theorem dX7_insert_29 : decode cX7_insert 29 = .ok (.iload_n 1, 1) := by decide +kernel
theorem dX7_insert_30 : decode cX7_insert 30 = .ok (.iconst 0, 1) := by decide +kernel
theorem dX7_insert_31 : decode cX7_insert 31 = .ok (.iload_n 2, 1) := by decide +kernel
theorem dX7_insert_32 : decode cX7_insert 32 = .ok (.invokevirtual 27, 3) := by decide +kernel
theorem dX7_insert_35 : decode cX7_insert 35 = .ok (.aload_n 0, 1) := by decide +kernel
theorem dX7_insert_36 : decode cX7_insert 36 = .ok (.iload_n 1, 1) := by decide +kernel
theorem dX7_insert_37 : decode cX7_insert 37 = .ok (.iconst 1, 1) := by decide +kernel
theorem dX7_insert_38 : decode cX7_insert 38 = .ok (.iload_n 3, 1) := by decide +kernel
theorem dX7_insert_39 : decode cX7_insert 39 = .ok (.invokevirtual 27, 3) := by decide +kernel
theorem dX7_insert_42 : decode cX7_insert 42 = .ok (.aload_n 0, 1) := by decide +kernel
theorem dX7_insert_43 : decode cX7_insert 43 = .ok (.iload_n 1, 1) := by decide +kernel
theorem dX7_insert_44 : decode cX7_insert 44 = .ok (.iconst 2, 1) := by decide +kernel
theorem dX7_insert_45 : decode cX7_insert 45 = .ok (.iload 4, 2) := by decide +kernel
theorem dX7_insert_47 : decode cX7_insert 47 = .ok (.invokevirtual 27, 3) := by decide +kernel
theorem dX7_insert_50 : decode cX7_insert 50 = .ok (.aload_n 0, 1) := by decide +kernel
theorem dX7_insert_51 : decode cX7_insert 51 = .ok (.dup, 1) := by decide +kernel
theorem dX7_insert_52 : decode cX7_insert 52 = .ok (.getfield 15, 3) := by decide +kernel
theorem dX7_insert_55 : decode cX7_insert 55 = .ok (.iconst 1, 1) := by decide +kernel
theorem dX7_insert_56 : decode cX7_insert 56 = .ok (.iadd, 1) := by decide +kernel
theorem dX7_insert_57 : decode cX7_insert 57 = .ok (.putfield 15, 3) := by decide +kernel
theorem dX7_insert_60 : decode cX7_insert 60 = .ok (.return_, 1) := by decide +kernel
set_option maxRecDepth 20000 in
theorem ggX7_remove_X7_copyRow : GoodIn wsX7_remove wsX7_copyRow := goodIn_r _ [6, 7, 8, 9, 5, 10, 11, 12, 13, 14, 15, 16, 17, 18, 19, 20] (by decide +kernel) (by decide +kernel)
set_option maxRecDepth 20000 in
theorem gX7_remove_X7_copyRow : GoodIn wsX7_remove (wsV RX7 23 RX7 yX7_copyRow wsX7_copyRow) := goodIn_app (goodIn_of _ (by decide +kernel)) ggX7_remove_X7_copyRow
theorem dX7_remove_0 : decode cX7_remove 0 = .ok (.iload_n 1, 1) := by decide +kernel
theorem dX7_remove_1 : decode cX7_remove 1 = .ok (.istore_n 2, 1) := by decide +kernel
theorem dX7_remove_2 : decode cX7_remove 2 = .ok (.iload_n 2, 1) := by decide +kernel
theorem dX7_remove_3 : decode cX7_remove 3 = .ok (.iconst 1, 1) := by decide +kernel
theorem dX7_remove_4 : decode cX7_remove 4 = .ok (.iadd, 1) := by decide +kernel
theorem dX7_remove_5 : decode cX7_remove 5 = .ok (.aload_n 0, 1) := by decide +kernel
theorem dX7_remove_6 : decode cX7_remove 6 = .ok (.getfield 15, 3) := by decide +kernel
theorem dX7_remove_9 : decode cX7_remove 9 = .ok (.if_icmp .ge 17, 3) := by decide +kernel
theorem dX7_remove_12 : decode cX7_remove 12 = .ok (.aload_n 0, 1) := by decide +kernel
theorem dX7_remove_13 : decode cX7_remove 13 = .ok (.iload_n 2, 1) := by decide +kernel
theorem dX7_remove_14 : decode cX7_remove 14 = .ok (.iconst 1, 1) := by decide +kernel
theorem dX7_remove_15 : decode cX7_remove 15 = .ok (.iadd, 1) := by decide +kernel
theorem dX7_remove_16 : decode cX7_remove 16 = .ok (.iload_n 2, 1) := by decide +kernel
theorem dX7_remove_17 : decode cX7_remove 17 = .ok (.invokevirtual 23, 3) := by decide +kernel
theorem dX7_remove_20 : decode cX7_remove 20 = .ok (.iinc 2 1, 3) := by decide +kernel
theorem dX7_remove_23 : decode cX7_remove 23 = .ok (.goto (-21), 3) := by decide +kernel
theorem dX7_remove_26 : decode cX7_remove 26 = .ok (.aload_n 0, 1) := by decide +kernel
theorem dX7_remove_27 : decode cX7_remove 27 = .ok (.dup, 1) := by decide +kernel
theorem dX7_remove_28 : decode cX7_remove 28 = .ok (.getfield 15, 3) := by decide +kernel
theorem dX7_remove_31 : decode cX7_remove 31 = .ok (.iconst 1, 1) := by decide +kernel
theorem dX7_remove_32 : decode cX7_remove 32 = .ok (.isub, 1) := by decide +kernel
theorem dX7_remove_33 : decode cX7_remove 33 = .ok (.putfield 15, 3) := by decide +kernel
theorem dX7_remove_36 : decode cX7_remove 36 = .ok (.return_, 1) := by decide +kernel
set_option maxRecDepth 20000 in
theorem ggX7_swap_X7_get : GoodIn wsX7_swap wsX7_get := goodIn_r _ [5, 6, 14, 15] (by decide +kernel) (by decide +kernel)
set_option maxRecDepth 20000 in
theorem gX7_swap_X7_get : GoodIn wsX7_swap (wsV RX7 31 RX7 yX7_get wsX7_get) := goodIn_app (goodIn_of _ (by decide +kernel)) ggX7_swap_X7_get
set_option maxRecDepth 20000 in
theorem ggX7_swap_X7_set : GoodIn wsX7_swap wsX7_set := goodIn_r _ [10, 6, 11, 12, 13, 14, 15] (by decide +kernel) (by decide +kernel)
set_option maxRecDepth 20000 in
theorem gX7_swap_X7_set : GoodIn wsX7_swap (wsV RX7 27 RX7 yX7_set wsX7_set) := goodIn_app (goodIn_of _ (by decide +kernel)) ggX7_swap_X7_set
theorem dX7_swap_0 : decode cX7_swap 0 = .ok (.iconst 0, 1) := by decide +kernel
theorem dX7_swap_1 : decode cX7_swap 1 = .ok (.istore_n 3, 1) := by decide +kernel
theorem dX7_swap_2 : decode cX7_swap 2 = .ok (.iload_n 3, 1) := by decide +kernel
theorem dX7_swap_3 : decode cX7_swap 3 = .ok (.iconst 3, 1) := by decide +kernel
theorem dX7_swap_4 : decode cX7_swap 4 = .ok (.if_icmp .ge 37, 3) := by decide +kernel
theorem dX7_swap_7 : decode cX7_swap 7 = .ok (.aload_n 0, 1) := by decide +kernel
theorem dX7_swap_8 : decode cX7_swap 8 = .ok (.iload_n 1, 1) := by decide +kernel
theorem dX7_swap_9 : decode cX7_swap 9 = .ok (.iload_n 3, 1) := by decide +kernel
theorem dX7_swap_10 : decode cX7_swap 10 = .ok (.invokevirtual 31, 3) := by decide +kernel
theorem dX7_swap_13 : decode cX7_swap 13 = .ok (.istore 4, 2) := by decide +kernel
theorem dX7_swap_15 : decode cX7_swap 15 = .ok (.aload_n 0, 1) := by decide +kernel
theorem dX7_swap_16 : decode cX7_swap 16 = .ok (.iload_n 1, 1) := by decide +kernel
theorem dX7_swap_17 : decode cX7_swap 17 = .ok (.iload_n 3, 1) := by decide +kernel
theorem dX7_swap_18 : decode cX7_swap 18 = .ok (.aload_n 0, 1) := by decide +kernel
theorem dX7_swap_19 : decode cX7_swap 19 = .ok (.iload_n 2, 1) := by decide +kernel
theorem dX7_swap_20 : decode cX7_swap 20 = .ok (.iload_n 3, 1) := by decide +kernel
theorem dX7_swap_21 : decode cX7_swap 21 = .ok (.invokevirtual 31, 3) := by decide +kernel
theorem dX7_swap_24 : decode cX7_swap 24 = .ok (.invokevirtual 27, 3) := by decide +kernel
theorem dX7_swap_27 : decode cX7_swap 27 = .ok (.aload_n 0, 1) := by decide +kernel
theorem dX7_swap_28 : decode cX7_swap 28 = .ok (.iload_n 2, 1) := by decide +kernel
theorem dX7_swap_29 : decode cX7_swap 29 = .ok (.iload_n 3, 1) := by decide +kernel
theorem dX7_swap_30 : decode cX7_swap 30 = .ok (.iload 4, 2) := by decide +kernel
theorem dX7_swap_32 : decode cX7_swap 32 = .ok (.invokevirtual 27, 3) := by decide +kernel
theorem dX7_swap_35 : decode cX7_swap 35 = .ok (.iinc 3 1, 3) := by decide +kernel
theorem dX7_swap_38 : decode cX7_swap 38 = .ok (.goto (-36), 3) := by decide +kernel
theorem dX7_swap_41 : decode cX7_swap 41 = .ok (.return_, 1) := by decide +kernel
theorem dX7_become_0 : decode cX7_become 0 = .ok (.aload_n 1, 1) := by decide +kernel
theorem dX7_become_1 : decode cX7_become 1 = .ok (.getfield 9, 3) := by decide +kernel
theorem dX7_become_4 : decode cX7_become 4 = .ok (.iconst 0, 1) := by decide +kernel
theorem dX7_become_5 : decode cX7_become 5 = .ok (.aload_n 0, 1) := by decide +kernel
theorem dX7_become_6 : decode cX7_become 6 = .ok (.getfield 9, 3) := by decide +kernel
theorem dX7_become_9 : decode cX7_become 9 = .ok (.iconst 0, 1) := by decide +kernel
theorem dX7_become_10 : decode cX7_become 10 = .ok (.aload_n 1, 1) := by decide +kernel
theorem dX7_become_11 : decode cX7_become 11 = .ok (.getfield 9, 3) := by decide +kernel
theorem dX7_become_14 : decode cX7_become 14 = .ok (.arraylength, 1) := by decide +kernel
theorem dX7_become_15 : decode cX7_become 15 = .ok (.aload_n 0, 1) := by decide +kernel
theorem dX7_become_16 : decode cX7_become 16 = .ok (.getfield 9, 3) := by decide +kernel
theorem dX7_become_19 : decode cX7_become 19 = .ok (.arraylength, 1) := by decide +kernel
theorem dX7_become_20 : decode cX7_become 20 = .ok (.invokestatic 35, 3) := by decide +kernel
theorem dX7_become_23 : decode cX7_become 23 = .ok (.invokestatic 40, 3) := by decide +kernel
theorem dX7_become_26 : decode cX7_become 26 = .ok (.aload_n 0, 1) := by decide +kernel
theorem dX7_become_27 : decode cX7_become 27 = .ok (.aload_n 1, 1) := by decide +kernel
theorem dX7_become_28 : decode cX7_become 28 = .ok (.getfield 15, 3) := by decide +kernel
theorem dX7_become_31 : decode cX7_become 31 = .ok (.putfield 15, 3) := by decide +kernel
theorem dX7_become_34 : decode cX7_become 34 = .ok (.return_, 1) := by decide +kernel
set_option maxRecDepth 20000 in
theorem ggX7_copyRow_X7_get : GoodIn wsX7_copyRow wsX7_get := goodIn_r _ [5, 6, 14, 15] (by decide +kernel) (by decide +kernel)
set_option maxRecDepth 20000 in
theorem gX7_copyRow_X7_get : GoodIn wsX7_copyRow (wsV RX7 31 RX7 yX7_get wsX7_get) := goodIn_app (goodIn_of _ (by decide +kernel)) ggX7_copyRow_X7_get
set_option maxRecDepth 20000 in
theorem ggX7_copyRow_X7_set : GoodIn wsX7_copyRow wsX7_set := goodIn_r _ [10, 6, 11, 12, 13, 14, 15] (by decide +kernel) (by decide +kernel)
set_option maxRecDepth 20000 in
theorem gX7_copyRow_X7_set : GoodIn wsX7_copyRow (wsV RX7 27 RX7 yX7_set wsX7_set) := goodIn_app (goodIn_of _ (by decide +kernel)) ggX7_copyRow_X7_set
theorem dX7_copyRow_0 : decode cX7_copyRow 0 = .ok (.iconst 0, 1) := by decide +kernel
theorem dX7_copyRow_1 : decode cX7_copyRow 1 = .ok (.istore_n 3, 1) := by decide +kernel
theorem dX7_copyRow_2 : decode cX7_copyRow 2 = .ok (.iload_n 3, 1) := by decide +kernel
theorem dX7_copyRow_3 : decode cX7_copyRow 3 = .ok (.iconst 3, 1) := by decide +kernel
theorem dX7_copyRow_4 : decode cX7_copyRow 4 = .ok (.if_icmp .ge 21, 3) := by decide +kernel
theorem dX7_copyRow_7 : decode cX7_copyRow 7 = .ok (.aload_n 0, 1) := by decide +kernel
theorem dX7_copyRow_8 : decode cX7_copyRow 8 = .ok (.iload_n 2, 1) := by decide +kernel
theorem dX7_copyRow_9 : decode cX7_copyRow 9 = .ok (.iload_n 3, 1) := by decide +kernel
theorem dX7_copyRow_10 : decode cX7_copyRow 10 = .ok (.aload_n 0, 1) := by decide +kernel
theorem dX7_copyRow_11 : decode cX7_copyRow 11 = .ok (.iload_n 1, 1) := by decide +kernel
theorem dX7_copyRow_12 : decode cX7_copyRow 12 = .ok (.iload_n 3, 1) := by decide +kernel
theorem dX7_copyRow_13 : decode cX7_copyRow 13 = .ok (.invokevirtual 31, 3) := by decide +kernel
theorem dX7_copyRow_16 : decode cX7_copyRow 16 = .ok (.invokevirtual 27, 3) := by decide +kernel
theorem dX7_copyRow_19 : decode cX7_copyRow 19 = .ok (.iinc 3 1, 3) := by decide +kernel
theorem dX7_copyRow_22 : decode cX7_copyRow 22 = .ok (.goto (-20), 3) := by decide +kernel
theorem dX7_copyRow_25 : decode cX7_copyRow 25 = .ok (.return_, 1) := by decide +kernel
set_option maxRecDepth 20000 in
theorem ggX8_init_X0_init : GoodIn wsX8_init wsX0_init := goodIn_r _ [38, 39, 2, 3, 40, 41, 42, 124, 125] (by decide +kernel) (by decide +kernel)
set_option maxRecDepth 20000 in
theorem gX8_init_X0_init_n9 : GoodIn wsX8_init (wsX0_init) := ggX8_init_X0_init
set_option maxRecDepth 20000 in
theorem ggX8_init_X5_init : GoodIn wsX8_init wsX5_init := goodIn_r _ [44, 45, 2, 3, 46, 47, 48, 49, 50, 51, 52, 53, 54, 55, 56, 57, 58, 59, 188, 189, 137, 138, 139, 140, 141] (by decide +kernel) (by decide +kernel)
set_option maxRecDepth 20000 in
theorem gX8_init_X5_init_n21 : GoodIn wsX8_init (wsX5_init) := ggX8_init_X5_init
set_option maxRecDepth 20000 in
theorem ggX8_init_X1_init : GoodIn wsX8_init wsX1_init := goodIn_r _ [61, 62, 2, 3, 63, 64, 65, 66, 142, 143, 144] (by decide +kernel) (by decide +kernel)
set_option maxRecDepth 20000 in
theorem gX8_init_X1_init_n31 : GoodIn wsX8_init (wsX1_init) := ggX8_init_X1_init
set_option maxRecDepth 20000 in
theorem ggX8_init_X4_init : GoodIn wsX8_init wsX4_init := goodIn_r _ [69, 70, 2, 3, 57, 71, 72, 73, 74, 75, 145, 146, 147, 148, 149, 150, 151, 152, 153, 154, 155, 156, 157, 158, 159, 160, 161, 162] (by decide +kernel) (by decide +kernel)
set_option maxRecDepth 20000 in
theorem gX8_init_X4_init : GoodIn wsX8_init (wsX4_init) := ggX8_init_X4_init
set_option maxRecDepth 20000 in
theorem ggX8_init_X3_init : GoodIn wsX8_init wsX3_init := goodIn_r _ [78, 79, 2, 3, 80, 57, 81, 82, 83, 84, 20, 21, 85, 86, 68, 69, 70, 71, 72, 73, 74, 75, 163, 164, 165, 166, 145, 146, 147, 148, 149, 150, 151, 152, 153, 154, 155, 156, 157, 158, 159, 160, 161, 162] (by decide +kernel) (by decide +kernel)
set_option maxRecDepth 20000 in
theorem gX8_init_X3_init : GoodIn wsX8_init (wsX3_init) := ggX8_init_X3_init
set_option maxRecDepth 20000 in
theorem ggX8_init_X6_init : GoodIn wsX8_init wsX6_init := goodIn_r _ [89, 90, 2, 3, 91, 92, 93, 94, 20, 21, 95, 96, 68, 69, 70, 57, 71, 72, 73, 74, 75, 167, 168, 169, 170, 171, 172, 173, 174, 175, 176, 177, 145, 146, 147, 148, 149, 150, 151, 152, 153, 154, 155, 156, 157, 158, 159, 160, 161, 162] (by decide +kernel) (by decide +kernel)
set_option maxRecDepth 20000 in
theorem gX8_init_X6_init : GoodIn wsX8_init (wsX6_init) := ggX8_init_X6_init
set_option maxRecDepth 20000 in
theorem ggX8_init_X2_init : GoodIn wsX8_init wsX2_init := goodIn_r _ [99, 100, 2, 3, 101, 102, 103, 104, 178, 179, 180, 181, 182, 183, 184, 185, 186, 187] (by decide +kernel) (by decide +kernel)
set_option maxRecDepth 20000 in
theorem gX8_init_X2_init : GoodIn wsX8_init (wsX2_init) := ggX8_init_X2_init
set_option maxRecDepth 20000 in
theorem ggX8_init_X7_insert : GoodIn wsX8_init wsX7_insert := goodIn_r _ [108, 59, 109, 110, 111, 48, 112, 113, 114, 115, 116, 58, 117, 118, 119, 120, 121, 122, 123, 188, 189] (by decide +kernel) (by decide +kernel)
set_option maxRecDepth 20000 in
theorem gX8_init_X7_insert : GoodIn wsX8_init (wsV RX8 79 RX7 yX7_insert wsX7_insert) := goodIn_app (goodIn_of _ (by decide +kernel)) ggX8_init_X7_insert
theorem dX8_init_0 : decode cX8_init 0 = .ok (.aload_n 0, 1) := by decide +kernel
theorem dX8_init_1 : decode cX8_init 1 = .ok (.invokespecial 1, 3) := by decide +kernel
theorem dX8_init_4 : decode cX8_init 4 = .ok (.aload_n 0, 1) := by decide +kernel
theorem dX8_init_5 : decode cX8_init 5 = .ok (.new 7, 3) := by decide +kernel
theorem dX8_init_8 : decode cX8_init 8 = .ok (.dup, 1) := by decide +kernel
theorem dX8_init_9 : decode cX8_init 9 = .ok (.invokespecial 9, 3) := by decide +kernel
theorem dX8_init_12 : decode cX8_init 12 = .ok (.putfield 10, 3) := by decide +kernel
theorem dX8_init_15 : decode cX8_init 15 = .ok (.aload_n 0, 1) := by decide +kernel
theorem dX8_init_16 : decode cX8_init 16 = .ok (.new 7, 3) := by decide +kernel
theorem dX8_init_19 : decode cX8_init 19 = .ok (.dup, 1) := by decide +kernel
theorem dX8_init_20 : decode cX8_init 20 = .ok (.invokespecial 9, 3) := by decide +kernel
theorem dX8_init_23 : decode cX8_init 23 = .ok (.putfield 16, 3) := by decide +kernel
theorem dX8_init_26 : decode cX8_init 26 = .ok (.aload_n 0, 1) := by decide +kernel
theorem dX8_init_27 : decode cX8_init 27 = .ok (.new 19, 3) := by decide +kernel
theorem dX8_init_30 : decode cX8_init 30 = .ok (.dup, 1) := by decide +kernel
theorem dX8_init_31 : decode cX8_init 31 = .ok (.invokespecial 21, 3) := by decide +kernel
theorem dX8_init_34 : decode cX8_init 34 = .ok (.putfield 22, 3) := by decide +kernel
theorem dX8_init_37 : decode cX8_init 37 = .ok (.aload_n 0, 1) := by decide +kernel
theorem dX8_init_38 : decode cX8_init 38 = .ok (.new 19, 3) := by decide +kernel
theorem dX8_init_41 : decode cX8_init 41 = .ok (.dup, 1) := by decide +kernel
theorem dX8_init_42 : decode cX8_init 42 = .ok (.invokespecial 21, 3) := by decide +kernel
theorem dX8_init_45 : decode cX8_init 45 = .ok (.putfield 26, 3) := by decide +kernel
theorem dX8_init_48 : decode cX8_init 48 = .ok (.aload_n 0, 1) := by decide +kernel
theorem dX8_init_49 : decode cX8_init 49 = .ok (.new 29, 3) := by decide +kernel
theorem dX8_init_52 : decode cX8_init 52 = .ok (.dup, 1) := by decide +kernel
theorem dX8_init_53 : decode cX8_init 53 = .ok (.invokespecial 31, 3) := by decide +kernel
theorem dX8_init_56 : decode cX8_init 56 = .ok (.putfield 32, 3) := by decide +kernel
theorem dX8_init_59 : decode cX8_init 59 = .ok (.aload_n 0, 1) := by decide +kernel
theorem dX8_init_60 : decode cX8_init 60 = .ok (.iconst 2, 1) := by decide +kernel
theorem dX8_init_61 : decode cX8_init 61 = .ok (.anewarray 19, 3) := by decide +kernel
theorem dX8_init_64 : decode cX8_init 64 = .ok (.putfield 36, 3) := by decide +kernel
theorem dX8_init_67 : decode cX8_init 67 = .ok (.aload_n 0, 1) := by decide +kernel
theorem dX8_init_68 : decode cX8_init 68 = .ok (.new 40, 3) := by decide +kernel
theorem dX8_init_71 : decode cX8_init 71 = .ok (.dup, 1) := by decide +kernel
theorem dX8_init_72 : decode cX8_init 72 = .ok (.aload_n 0, 1) := by decide +kernel
theorem dX8_init_73 : decode cX8_init 73 = .ok (.getfield 22, 3) := by decide +kernel
theorem dX8_init_76 : decode cX8_init 76 = .ok (.invokespecial 42, 3) := by decide +kernel
theorem dX8_init_79 : decode cX8_init 79 = .ok (.putfield 45, 3) := by decide +kernel
theorem dX8_init_82 : decode cX8_init 82 = .ok (.aload_n 0, 1) := by decide +kernel
theorem dX8_init_83 : decode cX8_init 83 = .ok (.new 49, 3) := by decide +kernel
theorem dX8_init_86 : decode cX8_init 86 = .ok (.dup, 1) := by decide +kernel
theorem dX8_init_87 : decode cX8_init 87 = .ok (.aload_n 0, 1) := by decide +kernel
theorem dX8_init_88 : decode cX8_init 88 = .ok (.getfield 22, 3) := by decide +kernel
theorem dX8_init_91 : decode cX8_init 91 = .ok (.invokespecial 51, 3) := by decide +kernel
theorem dX8_init_94 : decode cX8_init 94 = .ok (.putfield 52, 3) := by decide +kernel
theorem dX8_init_97 : decode cX8_init 97 = .ok (.aload_n 0, 1) := by decide +kernel
theorem dX8_init_98 : decode cX8_init 98 = .ok (.new 49, 3) := by decide +kernel
theorem dX8_init_101 : decode cX8_init 101 = .ok (.dup, 1) := by decide +kernel
theorem dX8_init_102 : decode cX8_init 102 = .ok (.aload_n 0, 1) := by decide +kernel
theorem dX8_init_103 : decode cX8_init 103 = .ok (.getfield 22, 3) := by decide +kernel
theorem dX8_init_106 : decode cX8_init 106 = .ok (.invokespecial 51, 3) := by decide +kernel
theorem dX8_init_109 : decode cX8_init 109 = .ok (.putfield 56, 3) := by decide +kernel
theorem dX8_init_112 : decode cX8_init 112 = .ok (.aload_n 0, 1) := by decide +kernel
theorem dX8_init_113 : decode cX8_init 113 = .ok (.new 59, 3) := by decide +kernel
theorem dX8_init_116 : decode cX8_init 116 = .ok (.dup, 1) := by decide +kernel
theorem dX8_init_117 : decode cX8_init 117 = .ok (.aload_n 0, 1) := by decide +kernel
theorem dX8_init_118 : decode cX8_init 118 = .ok (.getfield 22, 3) := by decide +kernel
theorem dX8_init_121 : decode cX8_init 121 = .ok (.invokespecial 61, 3) := by decide +kernel
theorem dX8_init_124 : decode cX8_init 124 = .ok (.putfield 62, 3) := by decide +kernel
theorem dX8_init_127 : decode cX8_init 127 = .ok (.aload_n 0, 1) := by decide +kernel
theorem dX8_init_128 : decode cX8_init 128 = .ok (.new 66, 3) := by decide +kernel
theorem dX8_init_131 : decode cX8_init 131 = .ok (.dup, 1) := by decide +kernel
theorem dX8_init_132 : decode cX8_init 132 = .ok (.aload_n 0, 1) := by decide +kernel
theorem dX8_init_133 : decode cX8_init 133 = .ok (.getfield 10, 3) := by decide +kernel
theorem dX8_init_136 : decode cX8_init 136 = .ok (.aload_n 0, 1) := by decide +kernel
theorem dX8_init_137 : decode cX8_init 137 = .ok (.getfield 26, 3) := by decide +kernel
theorem dX8_init_140 : decode cX8_init 140 = .ok (.invokespecial 68, 3) := by decide +kernel
theorem dX8_init_143 : decode cX8_init 143 = .ok (.putfield 71, 3) := by decide +kernel
theorem dX8_init_146 : decode cX8_init 146 = .ok (.aload_n 0, 1) := by decide +kernel
theorem dX8_init_147 : decode cX8_init 147 = .ok (.getfield 22, 3) := by decide +kernel
theorem dX8_init_150 : decode cX8_init 150 = .ok (.getfield 75, 3) := by decide +kernel
theorem dX8_init_153 : decode cX8_init 153 = .ok (.iconst 0, 1) := by decide +kernel
theorem dX8_init_154 : decode cX8_init 154 = .ok (.sipush 1500, 3) := by decide +kernel
theorem dX8_init_157 : decode cX8_init 157 = .ok (.bipush 10, 2) := by decide +kernel
theorem dX8_init_159 : decode cX8_init 159 = .ok (.iconst 0, 1) := by decide +kernel
theorem dX8_init_160 : decode cX8_init 160 = .ok (.invokevirtual 79, 3) := by decide +kernel
theorem dX8_init_163 : decode cX8_init 163 = .ok (.return_, 1) := by decide +kernel
set_option maxRecDepth 20000 in
theorem ggX8_append_X0_addFour : GoodIn wsX8_append wsX0_addFour := goodIn_r _ [9, 10, 11, 12, 8, 13, 14, 15, 27, 28] (by decide +kernel) (by decide +kernel)
set_option maxRecDepth 20000 in
theorem gX8_append_X0_addFour : GoodIn wsX8_append (wsV RX8 96 RX0 yX0_addFour wsX0_addFour) := goodIn_app (goodIn_of _ (by decide +kernel)) ggX8_append_X0_addFour
theorem dX8_append_0 : decode cX8_append 0 = .ok (.aload_n 0, 1) := by decide +kernel
theorem dX8_append_1 : decode cX8_append 1 = .ok (.getfield 10, 3) := by decide +kernel
theorem dX8_append_4 : decode cX8_append 4 = .ok (.getfield 85, 3) := by decide +kernel
theorem dX8_append_7 : decode cX8_append 7 = .ok (.bipush 20, 2) := by decide +kernel
theorem dX8_append_9 : decode cX8_append 9 = .ok (.iadd, 1) := by decide +kernel
theorem dX8_append_10 : decode cX8_append 10 = .ok (.sipush 400, 3) := by decide +kernel
theorem dX8_append_13 : decode cX8_append 13 = .ok (.if_icmp .le 13, 3) := by decide +kernel
theorem dX8_append_16 : decode cX8_append 16 = .ok (.new 89, 3) := by decide +kernel
theorem dX8_append_19 : decode cX8_append 19 = .ok (.dup, 1) := by decide +kernel
theorem dX8_append_20 : decode cX8_append 20 = .ok (.ldc 91, 2) := by decide +kernel
theorem dX8_append_22 : decode cX8_append 22 = .ok (.invokespecial 93, 3) := by decide +kernel
theorem dX8_append_25 : decode cX8_append 25 = .ok (.athrow, 1) := by decide +kernel
theorem dX8_append_26 : decode cX8_append 26 = .ok (.aload_n 0, 1) := by decide +kernel
theorem dX8_append_27 : decode cX8_append 27 = .ok (.getfield 10, 3) := by decide +kernel
theorem dX8_append_30 : decode cX8_append 30 = .ok (.iload_n 1, 1) := by decide +kernel
theorem dX8_append_31 : decode cX8_append 31 = .ok (.invokevirtual 96, 3) := by decide +kernel
theorem dX8_append_34 : decode cX8_append 34 = .ok (.aload_n 0, 1) := by decide +kernel
theorem dX8_append_35 : decode cX8_append 35 = .ok (.getfield 10, 3) := by decide +kernel
theorem dX8_append_38 : decode cX8_append 38 = .ok (.iload_n 2, 1) := by decide +kernel
theorem dX8_append_39 : decode cX8_append 39 = .ok (.invokevirtual 96, 3) := by decide +kernel
theorem dX8_append_42 : decode cX8_append 42 = .ok (.aload_n 0, 1) := by decide +kernel
theorem dX8_append_43 : decode cX8_append 43 = .ok (.getfield 10, 3) := by decide +kernel
theorem dX8_append_46 : decode cX8_append 46 = .ok (.iload_n 3, 1) := by decide +kernel
theorem dX8_append_47 : decode cX8_append 47 = .ok (.invokevirtual 96, 3) := by decide +kernel
theorem dX8_append_50 : decode cX8_append 50 = .ok (.aload_n 0, 1) := by decide +kernel
theorem dX8_append_51 : decode cX8_append 51 = .ok (.getfield 10, 3) := by decide +kernel
theorem dX8_append_54 : decode cX8_append 54 = .ok (.iload 4, 2) := by decide +kernel
theorem dX8_append_56 : decode cX8_append 56 = .ok (.invokevirtual 96, 3) := by decide +kernel
theorem dX8_append_59 : decode cX8_append 59 = .ok (.aload_n 0, 1) := by decide +kernel
theorem dX8_append_60 : decode cX8_append 60 = .ok (.getfield 10, 3) := by decide +kernel
theorem dX8_append_63 : decode cX8_append 63 = .ok (.iload 5, 2) := by decide +kernel
theorem dX8_append_65 : decode cX8_append 65 = .ok (.invokevirtual 96, 3) := by decide +kernel
theorem dX8_append_68 : decode cX8_append 68 = .ok (.aload_n 0, 1) := by decide +kernel
theorem dX8_append_69 : decode cX8_append 69 = .ok (.getfield 10, 3) := by decide +kernel
theorem dX8_append_72 : decode cX8_append 72 = .ok (.getfield 85, 3) := by decide +kernel
theorem dX8_append_75 : decode cX8_append 75 = .ok (.ireturn, 1) := by decide +kernel
set_option maxRecDepth 20000 in
theorem ggX8_truncate_X8_checkRange : GoodIn wsX8_truncate wsX8_checkRange := goodIn_ca (goodIn_r _ [6, 7, 8] (by decide +kernel) (by decide +kernel)) (goodIn_sub (fun _ h => List.mem_cons_of_mem _ (List.mem_append_right _ h)) (by decide +kernel))
set_option maxRecDepth 20000 in
theorem gX8_truncate_X8_checkRange : GoodIn wsX8_truncate (va_wsS RX8 100 yX8_checkRange wsX8_checkRange) := goodIn_app (goodIn_of _ (by decide +kernel)) ggX8_truncate_X8_checkRange
theorem dX8_truncate_0 : decode cX8_truncate 0 = .ok (.iload_n 1, 1) := by decide +kernel
theorem dX8_truncate_1 : decode cX8_truncate 1 = .ok (.iconst 0, 1) := by decide +kernel
theorem dX8_truncate_2 : decode cX8_truncate 2 = .ok (.aload_n 0, 1) := by decide +kernel
theorem dX8_truncate_3 : decode cX8_truncate 3 = .ok (.getfield 10, 3) := by decide +kernel
theorem dX8_truncate_6 : decode cX8_truncate 6 = .ok (.getfield 85, 3) := by decide +kernel
theorem dX8_truncate_9 : decode cX8_truncate 9 = .ok (.invokestatic 100, 3) := by decide +kernel
theorem dX8_truncate_12 : decode cX8_truncate 12 = .ok (.aload_n 0, 1) := by decide +kernel
theorem dX8_truncate_13 : decode cX8_truncate 13 = .ok (.getfield 10, 3) := by decide +kernel
theorem dX8_truncate_16 : decode cX8_truncate 16 = .ok (.iload_n 1, 1) := by decide +kernel
theorem dX8_truncate_17 : decode cX8_truncate 17 = .ok (.putfield 85, 3) := by decide +kernel
theorem dX8_truncate_20 : decode cX8_truncate 20 = .ok (.return_, 1) := by decide +kernel
set_option maxRecDepth 20000 in
theorem ggX8_load_X2_parse : GoodIn wsX8_load wsX2_parse := goodIn_r _ [13, 14, 15, 16, 17, 18, 19, 20, 21, 22, 23, 24, 25, 26, 27, 28, 29, 30, 31, 32, 33, 34, 35, 36, 37, 38, 12, 39, 40, 41, 42, 43, 44, 45, 46, 47, 48, 49, 50, 51, 52, 53, 54, 55, 56, 57, 58, 59, 60, 61, 62, 63, 64, 65, 66, 67, 68, 69, 70, 71, 72, 73, 74, 75, 76, 77, 78, 79, 80, 81, 82, 83, 84, 85, 86, 87, 88, 89, 90, 91, 92, 93, 94, 95, 96, 97, 98, 99, 100, 101, 102, 103, 104, 105, 106, 107, 108, 109, 110, 111, 112, 113, 114, 115, 116, 117, 118, 119, 120, 121, 122, 123, 124, 125, 126, 127, 128, 129, 130, 131, 132, 133, 134, 135, 136, 137, 138, 139, 140, 141, 142, 143, 144, 145, 146, 147, 148, 149, 150, 151, 152, 153, 154, 155, 156, 157, 158, 159, 160, 161, 162, 163, 164, 165, 166, 167, 168, 169, 170, 171, 172, 173, 174, 175, 176, 177, 178, 179, 180, 181, 182, 183, 184, 185, 186, 187, 188, 189, 190, 191, 192, 193, 194, 253, 254, 255, 256, 257, 258, 259, 260, 261, 262, 246, 247, 248, 249, 250, 251, 252, 244, 245] (by decide +kernel) (by decide +kernel)
set_option maxRecDepth 20000 in
theorem gX8_load_X2_parse : GoodIn wsX8_load (wsV RX8 104 RX2 yX2_parse wsX2_parse) := goodIn_app (goodIn_of _ (by decide +kernel)) ggX8_load_X2_parse
set_option maxRecDepth 20000 in
theorem ggX8_load_X1_remember : GoodIn wsX8_load wsX1_remember := goodIn_r _ [199, 200, 201, 202, 203, 24, 204, 205, 46, 47, 48, 206, 164, 207, 208, 209, 210, 211, 212, 213, 214, 147, 26, 28, 29, 34, 35, 215, 216, 217, 218, 158, 149, 219, 220, 221, 222, 223, 224, 225, 226, 227, 228, 229, 230, 231, 30, 31, 32, 33, 263, 264, 265, 246, 247, 248, 249, 250, 251, 252] (by decide +kernel) (by decide +kernel)
set_option maxRecDepth 20000 in
theorem gX8_load_X1_remember : GoodIn wsX8_load (wsV RX8 108 RX1 yX1_remember wsX1_remember) := goodIn_app (goodIn_of _ (by decide +kernel)) ggX8_load_X1_remember
set_option maxRecDepth 20000 in
theorem ggX8_load_X5_become : GoodIn wsX8_load wsX5_become := goodIn_r _ [222, 26, 28, 29, 34, 35, 223, 224, 225, 147, 226, 158, 227, 46, 47, 48, 228, 229, 230, 231, 149, 30, 31, 32, 24, 33, 246, 247, 248, 249, 250, 251, 252] (by decide +kernel) (by decide +kernel)
set_option maxRecDepth 20000 in
theorem gX8_load_X5_become : GoodIn wsX8_load (wsV RX8 111 RX5 yX5_become wsX5_become) := goodIn_app (goodIn_of _ (by decide +kernel)) ggX8_load_X5_become
theorem dX8_load_0 : decode cX8_load 0 = .ok (.aload_n 0, 1) := by decide +kernel
theorem dX8_load_1 : decode cX8_load 1 = .ok (.getfield 71, 3) := by decide +kernel
theorem dX8_load_4 : decode cX8_load 4 = .ok (.invokevirtual 104, 3) := by decide +kernel
theorem dX8_load_7 : decode cX8_load 7 = .ok (.istore_n 1, 1) := by decide +kernel
theorem dX8_load_8 : decode cX8_load 8 = .ok (.aload_n 0, 1) := by decide +kernel
theorem dX8_load_9 : decode cX8_load 9 = .ok (.getfield 10, 3) := by decide +kernel
theorem dX8_load_12 : decode cX8_load 12 = .ok (.iconst 0, 1) := by decide +kernel
theorem dX8_load_13 : decode cX8_load 13 = .ok (.putfield 85, 3) := by decide +kernel
theorem dX8_load_16 : decode cX8_load 16 = .ok (.iload_n 1, 1) := by decide +kernel
theorem dX8_load_17 : decode cX8_load 17 = .ok (.ifCond .ne 6, 3) := by decide +kernel
theorem dX8_load_20 : decode cX8_load 20 = .ok (.bipush (-4), 2) := by decide +kernel
theorem dX8_load_22 : decode cX8_load 22 = .ok (.ireturn, 1) := by decide +kernel
theorem dX8_load_23 : decode cX8_load 23 = .ok (.aload_n 0, 1) := by decide +kernel
theorem dX8_load_24 : decode cX8_load 24 = .ok (.getfield 32, 3) := by decide +kernel
theorem dX8_load_27 : decode cX8_load 27 = .ok (.aload_n 0, 1) := by decide +kernel
theorem dX8_load_28 : decode cX8_load 28 = .ok (.getfield 22, 3) := by decide +kernel
theorem dX8_load_31 : decode cX8_load 31 = .ok (.invokevirtual 108, 3) := by decide +kernel
theorem dX8_load_34 : decode cX8_load 34 = .ok (.aload_n 0, 1) := by decide +kernel
theorem dX8_load_35 : decode cX8_load 35 = .ok (.getfield 22, 3) := by decide +kernel
theorem dX8_load_38 : decode cX8_load 38 = .ok (.aload_n 0, 1) := by decide +kernel
theorem dX8_load_39 : decode cX8_load 39 = .ok (.getfield 26, 3) := by decide +kernel
theorem dX8_load_42 : decode cX8_load 42 = .ok (.invokevirtual 111, 3) := by decide +kernel
theorem dX8_load_45 : decode cX8_load 45 = .ok (.aload_n 0, 1) := by decide +kernel
theorem dX8_load_46 : decode cX8_load 46 = .ok (.getfield 22, 3) := by decide +kernel
theorem dX8_load_49 : decode cX8_load 49 = .ok (.getfield 75, 3) := by decide +kernel
theorem dX8_load_52 : decode cX8_load 52 = .ok (.getfield 114, 3) := by decide +kernel
theorem dX8_load_55 : decode cX8_load 55 = .ok (.ireturn, 1) := by decide +kernel
theorem dX8_errorCode_0 : decode cX8_errorCode 0 = .ok (.aload_n 0, 1) := by decide +kernel
theorem dX8_errorCode_1 : decode cX8_errorCode 1 = .ok (.getfield 71, 3) := by decide +kernel
theorem dX8_errorCode_4 : decode cX8_errorCode 4 = .ok (.getfield 117, 3) := by decide +kernel
theorem dX8_errorCode_7 : decode cX8_errorCode 7 = .ok (.ireturn, 1) := by decide +kernel
theorem dX8_errorPosition_0 : decode cX8_errorPosition 0 = .ok (.aload_n 0, 1) := by decide +kernel
theorem dX8_errorPosition_1 : decode cX8_errorPosition 1 = .ok (.getfield 71, 3) := by decide +kernel
theorem dX8_errorPosition_4 : decode cX8_errorPosition 4 = .ok (.getfield 120, 3) := by decide +kernel
theorem dX8_errorPosition_7 : decode cX8_errorPosition 7 = .ok (.ireturn, 1) := by decide +kernel
set_option maxRecDepth 20000 in
theorem ggX8_property_X5_depthOf : GoodIn wsX8_property wsX5_depthOf := goodIn_r _ [14, 15, 16, 17, 18, 19, 20, 21, 22, 34, 35, 36, 37, 38, 39, 40] (by decide +kernel) (by decide +kernel)
set_option maxRecDepth 20000 in
theorem gX8_property_X5_depthOf : GoodIn wsX8_property (wsV RX8 136 RX5 yX5_depthOf wsX5_depthOf) := goodIn_app (goodIn_of _ (by decide +kernel)) ggX8_property_X5_depthOf
theorem dX8_property_0 : decode cX8_property 0 = .ok (.iload_n 1, 1) := by decide +kernel
theorem dX8_property_1 : decode cX8_property 1 = .ok (.tableswitch 111 0 5 #[39, 50, 58, 74, 82, 93], 39) := by decide +kernel
theorem dX8_property_40 : decode cX8_property 40 = .ok (.aload_n 0, 1) := by decide +kernel
theorem dX8_property_41 : decode cX8_property 41 = .ok (.getfield 22, 3) := by decide +kernel
theorem dX8_property_44 : decode cX8_property 44 = .ok (.getfield 75, 3) := by decide +kernel
theorem dX8_property_47 : decode cX8_property 47 = .ok (.getfield 114, 3) := by decide +kernel
theorem dX8_property_50 : decode cX8_property 50 = .ok (.ireturn, 1) := by decide +kernel
theorem dX8_property_51 : decode cX8_property 51 = .ok (.aload_n 0, 1) := by decide +kernel
theorem dX8_property_52 : decode cX8_property 52 = .ok (.getfield 22, 3) := by decide +kernel
theorem dX8_property_55 : decode cX8_property 55 = .ok (.getfield 123, 3) := by decide +kernel
theorem dX8_property_58 : decode cX8_property 58 = .ok (.ireturn, 1) := by decide +kernel
theorem dX8_property_59 : decode cX8_property 59 = .ok (.aload_n 0, 1) := by decide +kernel
theorem dX8_property_60 : decode cX8_property 60 = .ok (.getfield 22, 3) := by decide +kernel
theorem dX8_property_63 : decode cX8_property 63 = .ok (.getfield 126, 3) := by decide +kernel
theorem dX8_property_66 : decode cX8_property 66 = .ok (.ifCond .eq 7, 3) := by decide +kernel
theorem dX8_property_69 : decode cX8_property 69 = .ok (.iconst 1, 1) := by decide +kernel
theorem dX8_property_70 : decode cX8_property 70 = .ok (.goto 4, 3) := by decide +kernel
theorem dX8_property_73 : decode cX8_property 73 = .ok (.iconst 0, 1) := by decide +kernel
theorem dX8_property_74 : decode cX8_property 74 = .ok (.ireturn, 1) := by decide +kernel
theorem dX8_property_75 : decode cX8_property 75 = .ok (.aload_n 0, 1) := by decide +kernel
theorem dX8_property_76 : decode cX8_property 76 = .ok (.getfield 22, 3) := by decide +kernel
theorem dX8_property_79 : decode cX8_property 79 = .ok (.getfield 130, 3) := by decide +kernel
theorem dX8_property_82 : decode cX8_property 82 = .ok (.ireturn, 1) := by decide +kernel
theorem dX8_property_83 : decode cX8_property 83 = .ok (.aload_n 0, 1) := by decide +kernel
theorem dX8_property_84 : decode cX8_property 84 = .ok (.getfield 22, 3) := by decide +kernel
theorem dX8_property_87 : decode cX8_property 87 = .ok (.getfield 133, 3) := by decide +kernel
theorem dX8_property_90 : decode cX8_property 90 = .ok (.getfield 114, 3) := by decide +kernel
theorem dX8_property_93 : decode cX8_property 93 = .ok (.ireturn, 1) := by decide +kernel
theorem dX8_property_94 : decode cX8_property 94 = .ok (.aload_n 0, 1) := by decide +kernel
theorem dX8_property_95 : decode cX8_property 95 = .ok (.getfield 22, 3) := by decide +kernel
theorem dX8_property_98 : decode cX8_property 98 = .ok (.aload_n 0, 1) := by decide +kernel
theorem dX8_property_99 : decode cX8_property 99 = .ok (.getfield 22, 3) := by decide +kernel
theorem dX8_property_102 : decode cX8_property 102 = .ok (.getfield 75, 3) := by decide +kernel
theorem dX8_property_105 : decode cX8_property 105 = .ok (.getfield 114, 3) := by decide +kernel
theorem dX8_property_108 : decode cX8_property 108 = .ok (.invokevirtual 136, 3) := by decide +kernel
theorem dX8_property_111 : decode cX8_property 111 = .ok (.ireturn, 1) := by decide +kernel
theorem dX8_property_112 : decode cX8_property 112 = .ok (.new 140, 3) := by decide +kernel
theorem dX8_property_115 : decode cX8_property 115 = .ok (.dup, 1) := by decide +kernel
theorem dX8_property_116 : decode cX8_property 116 = .ok (.ldc 142, 2) := by decide +kernel
theorem dX8_property_118 : decode cX8_property 118 = .ok (.invokespecial 144, 3) := by decide +kernel
theorem dX8_property_121 : decode cX8_property 121 = .ok (.athrow, 1) := by decide +kernel
set_option maxRecDepth 20000 in
theorem ggX8_layer_X8_checkLayer : GoodIn wsX8_layer wsX8_checkLayer := goodIn_ca (goodIn_r _ [7, 8, 9, 1, 2, 10, 11, 12, 13, 14, 15, 34, 35, 36, 37, 38, 39, 40, 41, 42, 43, 44, 45, 46, 47, 48, 49, 50, 51] (by decide +kernel) (by decide +kernel)) (goodIn_sub (fun _ h => List.mem_cons_of_mem _ (List.mem_append_left _ (List.mem_append_right _ h))) (by decide +kernel))
set_option maxRecDepth 20000 in
theorem gX8_layer_X8_checkLayer : GoodIn wsX8_layer (wsV RX8 145 RX8 yX8_checkLayer wsX8_checkLayer) := goodIn_app (goodIn_of _ (by decide +kernel)) ggX8_layer_X8_checkLayer
set_option maxRecDepth 20000 in
theorem ggX8_layer_X8_checkRange : GoodIn wsX8_layer wsX8_checkRange := goodIn_ca (goodIn_r _ [18, 19, 20] (by decide +kernel) (by decide +kernel)) (goodIn_sub (fun _ h => List.mem_cons_of_mem _ (List.mem_append_right _ h)) (by decide +kernel))
set_option maxRecDepth 20000 in
theorem gX8_layer_X8_checkRange : GoodIn wsX8_layer (va_wsS RX8 100 yX8_checkRange wsX8_checkRange) := goodIn_app (goodIn_of _ (by decide +kernel)) ggX8_layer_X8_checkRange
set_option maxRecDepth 20000 in
theorem ggX8_layer_X5_depthOf : GoodIn wsX8_layer wsX5_depthOf := goodIn_r _ [25, 26, 27, 28, 29, 30, 13, 31, 32, 45, 46, 47, 48, 49, 50, 51] (by decide +kernel) (by decide +kernel)
set_option maxRecDepth 20000 in
theorem gX8_layer_X5_depthOf : GoodIn wsX8_layer (wsV RX8 136 RX5 yX5_depthOf wsX5_depthOf) := goodIn_app (goodIn_of _ (by decide +kernel)) ggX8_layer_X5_depthOf
set_option maxRecDepth 20000 in
theorem ggX8_layer_X7_get : GoodIn wsX8_layer wsX7_get := goodIn_r _ [31, 32, 50, 51] (by decide +kernel) (by decide +kernel)
set_option maxRecDepth 20000 in
theorem gX8_layer_X7_get : GoodIn wsX8_layer (wsV RX8 148 RX7 yX7_get wsX7_get) := goodIn_app (goodIn_of _ (by decide +kernel)) ggX8_layer_X7_get
theorem dX8_layer_0 : decode cX8_layer 0 = .ok (.aload_n 0, 1) := by decide +kernel
theorem dX8_layer_1 : decode cX8_layer 1 = .ok (.iload_n 1, 1) := by decide +kernel
theorem dX8_layer_2 : decode cX8_layer 2 = .ok (.invokevirtual 145, 3) := by decide +kernel
theorem dX8_layer_5 : decode cX8_layer 5 = .ok (.iload_n 2, 1) := by decide +kernel
theorem dX8_layer_6 : decode cX8_layer 6 = .ok (.iconst 0, 1) := by decide +kernel
theorem dX8_layer_7 : decode cX8_layer 7 = .ok (.iconst 3, 1) := by decide +kernel
theorem dX8_layer_8 : decode cX8_layer 8 = .ok (.invokestatic 100, 3) := by decide +kernel
theorem dX8_layer_11 : decode cX8_layer 11 = .ok (.iload_n 2, 1) := by decide +kernel
theorem dX8_layer_12 : decode cX8_layer 12 = .ok (.iconst 3, 1) := by decide +kernel
theorem dX8_layer_13 : decode cX8_layer 13 = .ok (.if_icmp .ne 14, 3) := by decide +kernel
theorem dX8_layer_16 : decode cX8_layer 16 = .ok (.aload_n 0, 1) := by decide +kernel
theorem dX8_layer_17 : decode cX8_layer 17 = .ok (.getfield 22, 3) := by decide +kernel
theorem dX8_layer_20 : decode cX8_layer 20 = .ok (.iload_n 1, 1) := by decide +kernel
theorem dX8_layer_21 : decode cX8_layer 21 = .ok (.invokevirtual 136, 3) := by decide +kernel
theorem dX8_layer_24 : decode cX8_layer 24 = .ok (.goto 15, 3) := by decide +kernel
theorem dX8_layer_27 : decode cX8_layer 27 = .ok (.aload_n 0, 1) := by decide +kernel
theorem dX8_layer_28 : decode cX8_layer 28 = .ok (.getfield 22, 3) := by decide +kernel
theorem dX8_layer_31 : decode cX8_layer 31 = .ok (.getfield 75, 3) := by decide +kernel
theorem dX8_layer_34 : decode cX8_layer 34 = .ok (.iload_n 1, 1) := by decide +kernel
theorem dX8_layer_35 : decode cX8_layer 35 = .ok (.iload_n 2, 1) := by decide +kernel
theorem dX8_layer_36 : decode cX8_layer 36 = .ok (.invokevirtual 148, 3) := by decide +kernel
theorem dX8_layer_39 : decode cX8_layer 39 = .ok (.ireturn, 1) := by decide +kernel
set_option maxRecDepth 20000 in
theorem ggX8_shot_X8_checkShot : GoodIn wsX8_shot wsX8_checkShot := goodIn_ca (goodIn_r _ [7, 8, 9, 1, 2, 10, 11, 12, 13, 14, 15, 26, 27, 28, 29, 30, 31, 32, 33, 34, 35, 36, 37, 38, 39, 40, 41, 42, 43] (by decide +kernel) (by decide +kernel)) (goodIn_sub (fun _ h => List.mem_cons_of_mem _ (List.mem_append_left _ (List.mem_append_right _ h))) (by decide +kernel))
set_option maxRecDepth 20000 in
theorem gX8_shot_X8_checkShot : GoodIn wsX8_shot (wsV RX8 152 RX8 yX8_checkShot wsX8_checkShot) := goodIn_app (goodIn_of _ (by decide +kernel)) ggX8_shot_X8_checkShot
set_option maxRecDepth 20000 in
theorem ggX8_shot_X8_checkRange : GoodIn wsX8_shot wsX8_checkRange := goodIn_ca (goodIn_r _ [18, 19, 20] (by decide +kernel) (by decide +kernel)) (goodIn_sub (fun _ h => List.mem_cons_of_mem _ (List.mem_append_right _ h)) (by decide +kernel))
set_option maxRecDepth 20000 in
theorem gX8_shot_X8_checkRange : GoodIn wsX8_shot (va_wsS RX8 100 yX8_checkRange wsX8_checkRange) := goodIn_app (goodIn_of _ (by decide +kernel)) ggX8_shot_X8_checkRange
set_option maxRecDepth 20000 in
theorem ggX8_shot_X7_get : GoodIn wsX8_shot wsX7_get := goodIn_r _ [24, 25, 42, 43] (by decide +kernel) (by decide +kernel)
set_option maxRecDepth 20000 in
theorem gX8_shot_X7_get : GoodIn wsX8_shot (wsV RX8 148 RX7 yX7_get wsX7_get) := goodIn_app (goodIn_of _ (by decide +kernel)) ggX8_shot_X7_get
theorem dX8_shot_0 : decode cX8_shot 0 = .ok (.aload_n 0, 1) := by decide +kernel
theorem dX8_shot_1 : decode cX8_shot 1 = .ok (.iload_n 1, 1) := by decide +kernel
theorem dX8_shot_2 : decode cX8_shot 2 = .ok (.invokevirtual 152, 3) := by decide +kernel
theorem dX8_shot_5 : decode cX8_shot 5 = .ok (.iload_n 2, 1) := by decide +kernel
theorem dX8_shot_6 : decode cX8_shot 6 = .ok (.iconst 0, 1) := by decide +kernel
theorem dX8_shot_7 : decode cX8_shot 7 = .ok (.iconst 2, 1) := by decide +kernel
theorem dX8_shot_8 : decode cX8_shot 8 = .ok (.invokestatic 100, 3) := by decide +kernel
theorem dX8_shot_11 : decode cX8_shot 11 = .ok (.aload_n 0, 1) := by decide +kernel
theorem dX8_shot_12 : decode cX8_shot 12 = .ok (.getfield 22, 3) := by decide +kernel
theorem dX8_shot_15 : decode cX8_shot 15 = .ok (.getfield 133, 3) := by decide +kernel
theorem dX8_shot_18 : decode cX8_shot 18 = .ok (.iload_n 1, 1) := by decide +kernel
theorem dX8_shot_19 : decode cX8_shot 19 = .ok (.iload_n 2, 1) := by decide +kernel
theorem dX8_shot_20 : decode cX8_shot 20 = .ok (.invokevirtual 148, 3) := by decide +kernel
theorem dX8_shot_23 : decode cX8_shot 23 = .ok (.ireturn, 1) := by decide +kernel
set_option maxRecDepth 20000 in
theorem ggX8_path_X8_checkShot : GoodIn wsX8_path wsX8_checkShot := goodIn_ca (goodIn_r _ [18, 19, 20, 3, 21, 22, 23, 24, 25, 26, 27, 158, 159, 160, 161, 162, 163, 164, 165, 166, 167, 168, 187, 188, 189, 190, 191, 192, 193] (by decide +kernel) (by decide +kernel)) (goodIn_sub (fun _ h => List.mem_cons_of_mem _ (List.mem_append_right _ h)) (by decide +kernel))
set_option maxRecDepth 20000 in
theorem gX8_path_X8_checkShot : GoodIn wsX8_path (wsV RX8 152 RX8 yX8_checkShot wsX8_checkShot) := goodIn_app (goodIn_of _ (by decide +kernel)) ggX8_path_X8_checkShot
set_option maxRecDepth 20000 in
theorem ggX8_path_X8_runOf : GoodIn wsX8_path wsX8_runOf := goodIn_r _ [31, 21, 32, 33, 34, 35, 36, 37, 38, 39, 40, 41, 42, 43, 44, 45, 46, 47, 48, 49, 50, 51, 52, 53, 54, 25, 55, 56, 57, 17, 58, 59, 60, 61, 62, 63, 64, 65, 66, 67, 68, 69, 70, 71, 72, 73, 74, 75, 76, 77, 78, 79, 80, 81, 82, 83, 84, 85, 86, 87, 23, 24, 26, 27, 88, 89, 90, 91, 92, 93, 94, 95, 96, 97, 98, 99, 100, 101, 102, 103, 104, 105, 106, 107, 108, 109, 110, 111, 112, 113, 114, 115, 116, 117, 118, 119, 120, 121, 122, 123, 124, 125, 126, 127, 128, 129, 130, 131, 132, 133, 134, 135, 136, 137, 138, 139, 140, 141, 142, 143, 144, 145, 146, 147, 148, 149, 150, 151, 152, 153, 154, 155, 156, 157, 187, 188, 189, 190, 191, 158, 159, 160, 161, 162, 163, 164, 165, 166, 167, 168, 169, 170, 171, 172, 173, 174, 175, 176, 177, 178, 179, 180, 181, 182, 183, 184, 185, 186, 192, 193] (by decide +kernel) (by decide +kernel)
set_option maxRecDepth 20000 in
theorem gX8_path_X8_runOf : GoodIn wsX8_path (wsV RX8 155 RX8 yX8_runOf wsX8_runOf) := goodIn_app (goodIn_of _ (by decide +kernel)) ggX8_path_X8_runOf
theorem dX8_path_0 : decode cX8_path 0 = .ok (.aload_n 0, 1) := by decide +kernel
theorem dX8_path_1 : decode cX8_path 1 = .ok (.iload_n 1, 1) := by decide +kernel
theorem dX8_path_2 : decode cX8_path 2 = .ok (.invokevirtual 152, 3) := by decide +kernel
theorem dX8_path_5 : decode cX8_path 5 = .ok (.aload_n 0, 1) := by decide +kernel
theorem dX8_path_6 : decode cX8_path 6 = .ok (.aload_n 0, 1) := by decide +kernel
theorem dX8_path_7 : decode cX8_path 7 = .ok (.getfield 22, 3) := by decide +kernel
theorem dX8_path_10 : decode cX8_path 10 = .ok (.iload_n 1, 1) := by decide +kernel
theorem dX8_path_11 : decode cX8_path 11 = .ok (.invokevirtual 155, 3) := by decide +kernel
theorem dX8_path_14 : decode cX8_path 14 = .ok (.astore_n 3, 1) := by decide +kernel
theorem dX8_path_15 : decode cX8_path 15 = .ok (.iload_n 2, 1) := by decide +kernel
theorem dX8_path_16 : decode cX8_path 16 = .ok (.tableswitch 106 0 9 #[56, 61, 66, 71, 76, 81, 86, 91, 96, 101], 56) := by decide +kernel
theorem dX8_path_72 : decode cX8_path 72 = .ok (.aload_n 3, 1) := by decide +kernel
theorem dX8_path_73 : decode cX8_path 73 = .ok (.getfield 159, 3) := by decide +kernel
theorem dX8_path_76 : decode cX8_path 76 = .ok (.ireturn, 1) := by decide +kernel
theorem dX8_path_77 : decode cX8_path 77 = .ok (.aload_n 3, 1) := by decide +kernel
theorem dX8_path_78 : decode cX8_path 78 = .ok (.getfield 162, 3) := by decide +kernel
theorem dX8_path_81 : decode cX8_path 81 = .ok (.ireturn, 1) := by decide +kernel
theorem dX8_path_82 : decode cX8_path 82 = .ok (.aload_n 3, 1) := by decide +kernel
theorem dX8_path_83 : decode cX8_path 83 = .ok (.getfield 165, 3) := by decide +kernel
theorem dX8_path_86 : decode cX8_path 86 = .ok (.ireturn, 1) := by decide +kernel
theorem dX8_path_87 : decode cX8_path 87 = .ok (.aload_n 3, 1) := by decide +kernel
theorem dX8_path_88 : decode cX8_path 88 = .ok (.getfield 168, 3) := by decide +kernel
theorem dX8_path_91 : decode cX8_path 91 = .ok (.ireturn, 1) := by decide +kernel
theorem dX8_path_92 : decode cX8_path 92 = .ok (.aload_n 3, 1) := by decide +kernel
theorem dX8_path_93 : decode cX8_path 93 = .ok (.getfield 171, 3) := by decide +kernel
theorem dX8_path_96 : decode cX8_path 96 = .ok (.ireturn, 1) := by decide +kernel
theorem dX8_path_97 : decode cX8_path 97 = .ok (.aload_n 3, 1) := by decide +kernel
theorem dX8_path_98 : decode cX8_path 98 = .ok (.getfield 174, 3) := by decide +kernel
theorem dX8_path_101 : decode cX8_path 101 = .ok (.ireturn, 1) := by decide +kernel
theorem dX8_path_102 : decode cX8_path 102 = .ok (.aload_n 3, 1) := by decide +kernel
theorem dX8_path_103 : decode cX8_path 103 = .ok (.getfield 177, 3) := by decide +kernel
theorem dX8_path_106 : decode cX8_path 106 = .ok (.ireturn, 1) := by decide +kernel
theorem dX8_path_107 : decode cX8_path 107 = .ok (.aload_n 3, 1) := by decide +kernel
theorem dX8_path_108 : decode cX8_path 108 = .ok (.getfield 180, 3) := by decide +kernel
theorem dX8_path_111 : decode cX8_path 111 = .ok (.ireturn, 1) := by decide +kernel
theorem dX8_path_112 : decode cX8_path 112 = .ok (.aload_n 3, 1) := by decide +kernel
theorem dX8_path_113 : decode cX8_path 113 = .ok (.getfield 183, 3) := by decide +kernel
theorem dX8_path_116 : decode cX8_path 116 = .ok (.ireturn, 1) := by decide +kernel
theorem dX8_path_117 : decode cX8_path 117 = .ok (.aload_n 3, 1) := by decide +kernel
theorem dX8_path_118 : decode cX8_path 118 = .ok (.getfield 186, 3) := by decide +kernel
theorem dX8_path_121 : decode cX8_path 121 = .ok (.ireturn, 1) := by decide +kernel
theorem dX8_path_122 : decode cX8_path 122 = .ok (.new 140, 3) := by decide +kernel
theorem dX8_path_125 : decode cX8_path 125 = .ok (.dup, 1) := by decide +kernel
theorem dX8_path_126 : decode cX8_path 126 = .ok (.ldc 189, 2) := by decide +kernel
theorem dX8_path_128 : decode cX8_path 128 = .ok (.invokespecial 144, 3) := by decide +kernel
theorem dX8_path_131 : decode cX8_path 131 = .ok (.athrow, 1) := by decide +kernel
set_option maxRecDepth 20000 in
theorem ggX8_leg_X8_checkShot : GoodIn wsX8_leg wsX8_checkShot := goodIn_ca (goodIn_r _ [9, 1, 2, 10, 11, 12, 13, 14, 15, 16, 17, 173, 174, 175, 176, 177, 178, 179, 180, 181, 182, 183, 188, 189, 190, 191, 192, 193, 194] (by decide +kernel) (by decide +kernel)) (goodIn_sub (fun _ h => List.mem_cons_of_mem _ (List.mem_append_left _ (List.mem_append_right _ h))) (by decide +kernel))
set_option maxRecDepth 20000 in
theorem gX8_leg_X8_checkShot : GoodIn wsX8_leg (wsV RX8 152 RX8 yX8_checkShot wsX8_checkShot) := goodIn_app (goodIn_of _ (by decide +kernel)) ggX8_leg_X8_checkShot
set_option maxRecDepth 20000 in
theorem ggX8_leg_X8_pathOf : GoodIn wsX8_leg wsX8_pathOf := goodIn_r _ [21, 10, 11, 22, 23, 24, 15, 25, 26, 27, 28, 29, 30, 31, 32, 33, 34, 35, 36, 37, 38, 39, 40, 41, 42, 43, 44, 45, 46, 47, 48, 49, 50, 51, 52, 53, 54, 55, 56, 57, 58, 59, 60, 8, 61, 62, 63, 64, 65, 66, 67, 68, 69, 70, 71, 72, 73, 74, 75, 76, 77, 78, 79, 80, 81, 82, 83, 84, 85, 13, 14, 16, 17, 86, 87, 88, 89, 90, 91, 92, 93, 94, 95, 96, 97, 98, 99, 100, 101, 102, 103, 104, 105, 106, 107, 108, 109, 110, 111, 112, 113, 114, 115, 116, 117, 118, 119, 120, 121, 122, 123, 124, 125, 126, 127, 128, 129, 130, 131, 132, 133, 134, 135, 136, 137, 138, 139, 140, 141, 142, 143, 144, 145, 146, 147, 148, 149, 150, 151, 152, 153, 154, 155, 156, 157, 158, 159, 160, 161, 162, 163, 173, 174, 175, 176, 177, 178, 179, 180, 181, 182, 183, 188, 189, 190, 191, 192, 193, 194, 184, 185, 186, 187, 195, 196, 197, 198, 199, 200, 201, 202, 203, 204, 205, 206, 207, 208, 209, 210, 211, 212] (by decide +kernel) (by decide +kernel)
set_option maxRecDepth 20000 in
theorem gX8_leg_X8_pathOf : GoodIn wsX8_leg (wsV RX8 191 RX8 yX8_pathOf wsX8_pathOf) := goodIn_app (goodIn_of _ (by decide +kernel)) ggX8_leg_X8_pathOf
set_option maxRecDepth 20000 in
theorem ggX8_leg_X8_checkRange : GoodIn wsX8_leg wsX8_checkRange := goodIn_ca (goodIn_r _ [166, 167, 168] (by decide +kernel) (by decide +kernel)) (goodIn_sub (fun _ h => List.mem_cons_of_mem _ (List.mem_append_right _ h)) (by decide +kernel))
set_option maxRecDepth 20000 in
theorem gX8_leg_X8_checkRange : GoodIn wsX8_leg (va_wsS RX8 100 yX8_checkRange wsX8_checkRange) := goodIn_app (goodIn_of _ (by decide +kernel)) ggX8_leg_X8_checkRange
set_option maxRecDepth 20000 in
theorem ggX8_leg_X3_get : GoodIn wsX8_leg wsX3_get := goodIn_r _ [172, 37, 98, 115, 8, 116, 184, 185, 186, 187] (by decide +kernel) (by decide +kernel)
set_option maxRecDepth 20000 in
theorem gX8_leg_X3_get : GoodIn wsX8_leg (wsV RX8 201 RX3 yX3_get wsX3_get) := goodIn_app (goodIn_of _ (by decide +kernel)) ggX8_leg_X3_get
theorem dX8_leg_0 : decode cX8_leg 0 = .ok (.aload_n 0, 1) := by decide +kernel
theorem dX8_leg_1 : decode cX8_leg 1 = .ok (.iload_n 1, 1) := by decide +kernel
theorem dX8_leg_2 : decode cX8_leg 2 = .ok (.invokevirtual 152, 3) := by decide +kernel
theorem dX8_leg_5 : decode cX8_leg 5 = .ok (.aload_n 0, 1) := by decide +kernel
theorem dX8_leg_6 : decode cX8_leg 6 = .ok (.aload_n 0, 1) := by decide +kernel
theorem dX8_leg_7 : decode cX8_leg 7 = .ok (.getfield 52, 3) := by decide +kernel
theorem dX8_leg_10 : decode cX8_leg 10 = .ok (.iload_n 1, 1) := by decide +kernel
theorem dX8_leg_11 : decode cX8_leg 11 = .ok (.invokevirtual 191, 3) := by decide +kernel
theorem dX8_leg_14 : decode cX8_leg 14 = .ok (.astore 4, 2) := by decide +kernel
theorem dX8_leg_16 : decode cX8_leg 16 = .ok (.iload_n 2, 1) := by decide +kernel
theorem dX8_leg_17 : decode cX8_leg 17 = .ok (.ifCond .lt 12, 3) := by decide +kernel
theorem dX8_leg_20 : decode cX8_leg 20 = .ok (.iload_n 2, 1) := by decide +kernel
theorem dX8_leg_21 : decode cX8_leg 21 = .ok (.aload 4, 2) := by decide +kernel
theorem dX8_leg_23 : decode cX8_leg 23 = .ok (.getfield 195, 3) := by decide +kernel
theorem dX8_leg_26 : decode cX8_leg 26 = .ok (.if_icmp .lt 13, 3) := by decide +kernel
theorem dX8_leg_29 : decode cX8_leg 29 = .ok (.new 196, 3) := by decide +kernel
theorem dX8_leg_32 : decode cX8_leg 32 = .ok (.dup, 1) := by decide +kernel
theorem dX8_leg_33 : decode cX8_leg 33 = .ok (.ldc 198, 2) := by decide +kernel
theorem dX8_leg_35 : decode cX8_leg 35 = .ok (.invokespecial 200, 3) := by decide +kernel
theorem dX8_leg_38 : decode cX8_leg 38 = .ok (.athrow, 1) := by decide +kernel
theorem dX8_leg_39 : decode cX8_leg 39 = .ok (.iload_n 3, 1) := by decide +kernel
theorem dX8_leg_40 : decode cX8_leg 40 = .ok (.iconst 0, 1) := by decide +kernel
theorem dX8_leg_41 : decode cX8_leg 41 = .ok (.bipush 6, 2) := by decide +kernel
theorem dX8_leg_43 : decode cX8_leg 43 = .ok (.invokestatic 100, 3) := by decide +kernel
theorem dX8_leg_46 : decode cX8_leg 46 = .ok (.aload 4, 2) := by decide +kernel
theorem dX8_leg_48 : decode cX8_leg 48 = .ok (.iload_n 2, 1) := by decide +kernel
theorem dX8_leg_49 : decode cX8_leg 49 = .ok (.iload_n 3, 1) := by decide +kernel
theorem dX8_leg_50 : decode cX8_leg 50 = .ok (.invokevirtual 201, 3) := by decide +kernel
theorem dX8_leg_53 : decode cX8_leg 53 = .ok (.ireturn, 1) := by decide +kernel
set_option maxRecDepth 20000 in
theorem ggX8_legAt_X8_checkShotAndTime : GoodIn wsX8_legAt wsX8_checkShotAndTime := goodIn_ca (goodIn_ca (goodIn_r _ [7, 8, 9, 10, 6, 11, 12, 13, 14, 15, 16, 17, 18, 19, 20, 21, 22, 23, 24, 25, 26, 181, 182, 183, 184, 185, 186, 187, 188, 189, 190, 191, 196, 197, 198, 199, 200, 201, 202] (by decide +kernel) (by decide +kernel)) (goodIn_sub (fun _ h => List.mem_cons_of_mem _ (List.mem_append_left _ (List.mem_append_right _ h))) (by decide +kernel))) (goodIn_sub (fun _ h => List.mem_cons_of_mem _ (List.mem_append_right _ h)) (by decide +kernel))
set_option maxRecDepth 20000 in
theorem gX8_legAt_X8_checkShotAndTime : GoodIn wsX8_legAt (wsV RX8 202 RX8 yX8_checkShotAndTime wsX8_checkShotAndTime) := goodIn_app (goodIn_of _ (by decide +kernel)) ggX8_legAt_X8_checkShotAndTime
set_option maxRecDepth 20000 in
theorem ggX8_legAt_X8_pathOf : GoodIn wsX8_legAt wsX8_pathOf := goodIn_r _ [30, 14, 15, 31, 32, 33, 19, 34, 35, 36, 37, 38, 39, 40, 41, 42, 43, 44, 45, 46, 47, 48, 49, 50, 51, 52, 53, 54, 55, 56, 57, 58, 59, 60, 61, 62, 63, 64, 65, 66, 67, 68, 69, 6, 70, 71, 72, 73, 74, 75, 76, 77, 78, 79, 80, 81, 82, 83, 84, 85, 86, 87, 88, 89, 90, 91, 92, 93, 94, 17, 18, 20, 21, 95, 96, 97, 98, 99, 100, 101, 102, 103, 104, 105, 106, 107, 108, 109, 110, 111, 112, 113, 114, 115, 116, 117, 118, 119, 120, 121, 122, 123, 124, 125, 126, 127, 128, 129, 130, 131, 132, 133, 134, 135, 136, 137, 138, 139, 140, 141, 142, 143, 144, 145, 146, 147, 148, 149, 150, 151, 152, 153, 154, 155, 156, 157, 158, 159, 160, 161, 162, 163, 164, 165, 166, 167, 168, 169, 170, 171, 172, 181, 182, 183, 184, 185, 186, 187, 188, 189, 190, 191, 196, 197, 198, 199, 200, 201, 202, 192, 193, 194, 195, 203, 204, 205, 206, 207, 208, 209, 210, 211, 212, 213, 214, 215, 216, 217, 218, 219, 220] (by decide +kernel) (by decide +kernel)
set_option maxRecDepth 20000 in
theorem gX8_legAt_X8_pathOf : GoodIn wsX8_legAt (wsV RX8 191 RX8 yX8_pathOf wsX8_pathOf) := goodIn_app (goodIn_of _ (by decide +kernel)) ggX8_legAt_X8_pathOf
set_option maxRecDepth 20000 in
theorem ggX8_legAt_X3_legDuring : GoodIn wsX8_legAt wsX3_legDuring := goodIn_r _ [176, 46, 177, 178, 179, 39, 180, 107, 124, 6, 125, 192, 193, 194, 195] (by decide +kernel) (by decide +kernel)
set_option maxRecDepth 20000 in
theorem gX8_legAt_X3_legDuring : GoodIn wsX8_legAt (wsV RX8 206 RX3 yX3_legDuring wsX3_legDuring) := goodIn_app (goodIn_of _ (by decide +kernel)) ggX8_legAt_X3_legDuring
theorem dX8_legAt_0 : decode cX8_legAt 0 = .ok (.aload_n 0, 1) := by decide +kernel
theorem dX8_legAt_1 : decode cX8_legAt 1 = .ok (.iload_n 1, 1) := by decide +kernel
theorem dX8_legAt_2 : decode cX8_legAt 2 = .ok (.iload_n 2, 1) := by decide +kernel
theorem dX8_legAt_3 : decode cX8_legAt 3 = .ok (.invokevirtual 202, 3) := by decide +kernel
theorem dX8_legAt_6 : decode cX8_legAt 6 = .ok (.aload_n 0, 1) := by decide +kernel
theorem dX8_legAt_7 : decode cX8_legAt 7 = .ok (.aload_n 0, 1) := by decide +kernel
theorem dX8_legAt_8 : decode cX8_legAt 8 = .ok (.getfield 52, 3) := by decide +kernel
theorem dX8_legAt_11 : decode cX8_legAt 11 = .ok (.iload_n 1, 1) := by decide +kernel
theorem dX8_legAt_12 : decode cX8_legAt 12 = .ok (.invokevirtual 191, 3) := by decide +kernel
theorem dX8_legAt_15 : decode cX8_legAt 15 = .ok (.astore_n 3, 1) := by decide +kernel
theorem dX8_legAt_16 : decode cX8_legAt 16 = .ok (.aload_n 3, 1) := by decide +kernel
theorem dX8_legAt_17 : decode cX8_legAt 17 = .ok (.iload_n 2, 1) := by decide +kernel
theorem dX8_legAt_18 : decode cX8_legAt 18 = .ok (.invokevirtual 206, 3) := by decide +kernel
theorem dX8_legAt_21 : decode cX8_legAt 21 = .ok (.istore 4, 2) := by decide +kernel
theorem dX8_legAt_23 : decode cX8_legAt 23 = .ok (.iload 4, 2) := by decide +kernel
theorem dX8_legAt_25 : decode cX8_legAt 25 = .ok (.aload_n 3, 1) := by decide +kernel
theorem dX8_legAt_26 : decode cX8_legAt 26 = .ok (.getfield 195, 3) := by decide +kernel
theorem dX8_legAt_29 : decode cX8_legAt 29 = .ok (.if_icmp .ge 8, 3) := by decide +kernel
theorem dX8_legAt_32 : decode cX8_legAt 32 = .ok (.iload 4, 2) := by decide +kernel
theorem dX8_legAt_34 : decode cX8_legAt 34 = .ok (.goto 4, 3) := by decide +kernel
theorem dX8_legAt_37 : decode cX8_legAt 37 = .ok (.iconst (-1), 1) := by decide +kernel
theorem dX8_legAt_38 : decode cX8_legAt 38 = .ok (.ireturn, 1) := by decide +kernel
set_option maxRecDepth 20000 in
theorem ggX8_shiftAt_X8_checkShotAndTime : GoodIn wsX8_shiftAt wsX8_checkShotAndTime := goodIn_ca (goodIn_ca (goodIn_r _ [6, 7, 8, 9, 5, 10, 11, 12, 13, 14, 15, 16, 17, 18, 19, 20, 21, 22, 23, 24, 25, 190, 191, 192, 193, 194, 195, 196, 197, 198, 199, 200, 201, 202, 203, 204, 205, 206, 207] (by decide +kernel) (by decide +kernel)) (goodIn_sub (fun _ h => List.mem_cons_of_mem _ (List.mem_append_left _ (List.mem_append_right _ h))) (by decide +kernel))) (goodIn_sub (fun _ h => List.mem_cons_of_mem _ (List.mem_append_right _ h)) (by decide +kernel))
set_option maxRecDepth 20000 in
theorem gX8_shiftAt_X8_checkShotAndTime : GoodIn wsX8_shiftAt (wsV RX8 202 RX8 yX8_checkShotAndTime wsX8_checkShotAndTime) := goodIn_app (goodIn_of _ (by decide +kernel)) ggX8_shiftAt_X8_checkShotAndTime
set_option maxRecDepth 20000 in
theorem ggX8_shiftAt_X8_pathOf : GoodIn wsX8_shiftAt wsX8_pathOf := goodIn_r _ [29, 13, 14, 30, 31, 32, 18, 33, 34, 35, 36, 37, 38, 39, 40, 41, 42, 43, 44, 45, 46, 47, 48, 49, 50, 51, 52, 53, 54, 55, 56, 57, 58, 59, 60, 61, 62, 63, 64, 65, 66, 67, 68, 5, 69, 70, 71, 72, 73, 74, 75, 76, 77, 78, 79, 80, 81, 82, 83, 84, 85, 86, 87, 88, 89, 90, 91, 92, 93, 16, 17, 19, 20, 94, 95, 96, 97, 98, 99, 100, 101, 102, 103, 104, 105, 106, 107, 108, 109, 110, 111, 112, 113, 114, 115, 116, 117, 118, 119, 120, 121, 122, 123, 124, 125, 126, 127, 128, 129, 130, 131, 132, 133, 134, 135, 136, 137, 138, 139, 140, 141, 142, 143, 144, 145, 146, 147, 148, 149, 150, 151, 152, 153, 154, 155, 156, 157, 158, 159, 160, 161, 162, 163, 164, 165, 166, 167, 168, 169, 170, 171, 190, 191, 192, 193, 194, 195, 196, 197, 198, 199, 200, 201, 202, 203, 204, 205, 206, 207, 208, 209, 210, 211, 212, 213, 214, 215, 216, 217, 218, 219, 220, 221, 222, 223, 224, 225, 226, 227, 228, 229] (by decide +kernel) (by decide +kernel)
set_option maxRecDepth 20000 in
theorem gX8_shiftAt_X8_pathOf : GoodIn wsX8_shiftAt (wsV RX8 191 RX8 yX8_pathOf wsX8_pathOf) := goodIn_app (goodIn_of _ (by decide +kernel)) ggX8_shiftAt_X8_pathOf
set_option maxRecDepth 20000 in
theorem ggX8_shiftAt_X3_legDuring : GoodIn wsX8_shiftAt wsX3_legDuring := goodIn_r _ [175, 45, 176, 177, 178, 38, 179, 106, 123, 5, 124, 208, 209, 210, 211] (by decide +kernel) (by decide +kernel)
set_option maxRecDepth 20000 in
theorem gX8_shiftAt_X3_legDuring : GoodIn wsX8_shiftAt (wsV RX8 206 RX3 yX3_legDuring wsX3_legDuring) := goodIn_app (goodIn_of _ (by decide +kernel)) ggX8_shiftAt_X3_legDuring
set_option maxRecDepth 20000 in
theorem ggX8_shiftAt_X3_sumAhead : GoodIn wsX8_shiftAt wsX3_sumAhead := goodIn_r _ [183, 45, 176, 177, 178, 38, 179, 106, 123, 5, 124, 208, 209, 210, 211] (by decide +kernel) (by decide +kernel)
set_option maxRecDepth 20000 in
theorem gX8_shiftAt_X3_sumAhead : GoodIn wsX8_shiftAt (wsV RX8 209 RX3 yX3_sumAhead wsX3_sumAhead) := goodIn_app (goodIn_of _ (by decide +kernel)) ggX8_shiftAt_X3_sumAhead
set_option maxRecDepth 20000 in
theorem ggX8_shiftAt_X3_get : GoodIn wsX8_shiftAt wsX3_get := goodIn_r _ [179, 45, 106, 123, 5, 124, 208, 209, 210, 211] (by decide +kernel) (by decide +kernel)
set_option maxRecDepth 20000 in
theorem gX8_shiftAt_X3_get : GoodIn wsX8_shiftAt (wsV RX8 201 RX3 yX3_get wsX3_get) := goodIn_app (goodIn_of _ (by decide +kernel)) ggX8_shiftAt_X3_get
set_option maxRecDepth 20000 in
theorem ggX8_shiftAt_X3_partOfLeg : GoodIn wsX8_shiftAt wsX3_partOfLeg := goodIn_r _ [188, 176, 177, 178, 38, 179, 45, 106, 123, 5, 124, 189, 181, 182, 183, 208, 209, 210, 211] (by decide +kernel) (by decide +kernel)
set_option maxRecDepth 20000 in
theorem gX8_shiftAt_X3_partOfLeg : GoodIn wsX8_shiftAt (wsV RX8 212 RX3 yX3_partOfLeg wsX3_partOfLeg) := goodIn_app (goodIn_of _ (by decide +kernel)) ggX8_shiftAt_X3_partOfLeg
theorem dX8_shiftAt_0 : decode cX8_shiftAt 0 = .ok (.aload_n 0, 1) := by decide +kernel
theorem dX8_shiftAt_1 : decode cX8_shiftAt 1 = .ok (.iload_n 1, 1) := by decide +kernel
theorem dX8_shiftAt_2 : decode cX8_shiftAt 2 = .ok (.iload_n 2, 1) := by decide +kernel
theorem dX8_shiftAt_3 : decode cX8_shiftAt 3 = .ok (.invokevirtual 202, 3) := by decide +kernel
theorem dX8_shiftAt_6 : decode cX8_shiftAt 6 = .ok (.aload_n 0, 1) := by decide +kernel
theorem dX8_shiftAt_7 : decode cX8_shiftAt 7 = .ok (.aload_n 0, 1) := by decide +kernel
theorem dX8_shiftAt_8 : decode cX8_shiftAt 8 = .ok (.getfield 52, 3) := by decide +kernel
theorem dX8_shiftAt_11 : decode cX8_shiftAt 11 = .ok (.iload_n 1, 1) := by decide +kernel
theorem dX8_shiftAt_12 : decode cX8_shiftAt 12 = .ok (.invokevirtual 191, 3) := by decide +kernel
theorem dX8_shiftAt_15 : decode cX8_shiftAt 15 = .ok (.astore_n 3, 1) := by decide +kernel
theorem dX8_shiftAt_16 : decode cX8_shiftAt 16 = .ok (.aload_n 3, 1) := by decide +kernel
theorem dX8_shiftAt_17 : decode cX8_shiftAt 17 = .ok (.iload_n 2, 1) := by decide +kernel
theorem dX8_shiftAt_18 : decode cX8_shiftAt 18 = .ok (.invokevirtual 206, 3) := by decide +kernel
theorem dX8_shiftAt_21 : decode cX8_shiftAt 21 = .ok (.istore 4, 2) := by decide +kernel
theorem dX8_shiftAt_23 : decode cX8_shiftAt 23 = .ok (.aload_n 3, 1) := by decide +kernel
theorem dX8_shiftAt_24 : decode cX8_shiftAt 24 = .ok (.iload 4, 2) := by decide +kernel
theorem dX8_shiftAt_26 : decode cX8_shiftAt 26 = .ok (.iconst 2, 1) := by decide +kernel
theorem dX8_shiftAt_27 : decode cX8_shiftAt 27 = .ok (.invokevirtual 209, 3) := by decide +kernel
theorem dX8_shiftAt_30 : decode cX8_shiftAt 30 = .ok (.aload_n 3, 1) := by decide +kernel
theorem dX8_shiftAt_31 : decode cX8_shiftAt 31 = .ok (.iload 4, 2) := by decide +kernel
theorem dX8_shiftAt_33 : decode cX8_shiftAt 33 = .ok (.iload_n 2, 1) := by decide +kernel
theorem dX8_shiftAt_34 : decode cX8_shiftAt 34 = .ok (.aload_n 3, 1) := by decide +kernel
theorem dX8_shiftAt_35 : decode cX8_shiftAt 35 = .ok (.iload 4, 2) := by decide +kernel
theorem dX8_shiftAt_37 : decode cX8_shiftAt 37 = .ok (.iconst 2, 1) := by decide +kernel
theorem dX8_shiftAt_38 : decode cX8_shiftAt 38 = .ok (.invokevirtual 201, 3) := by decide +kernel
theorem dX8_shiftAt_41 : decode cX8_shiftAt 41 = .ok (.invokevirtual 212, 3) := by decide +kernel
theorem dX8_shiftAt_44 : decode cX8_shiftAt 44 = .ok (.iadd, 1) := by decide +kernel
theorem dX8_shiftAt_45 : decode cX8_shiftAt 45 = .ok (.ireturn, 1) := by decide +kernel
set_option maxRecDepth 20000 in
theorem ggX8_depthAt_X8_checkShotAndTime : GoodIn wsX8_depthAt wsX8_checkShotAndTime := goodIn_ca (goodIn_ca (goodIn_r _ [9, 10, 11, 12, 8, 13, 14, 15, 3, 16, 17, 18, 19, 20, 21, 22, 23, 24, 25, 26, 27, 195, 196, 197, 198, 199, 200, 201, 202, 203, 204, 205, 210, 211, 212, 213, 214, 215, 216] (by decide +kernel) (by decide +kernel)) (goodIn_sub (fun _ h => List.mem_cons_of_mem _ (List.mem_append_left _ (List.mem_append_right _ h))) (by decide +kernel))) (goodIn_sub (fun _ h => List.mem_cons_of_mem _ (List.mem_append_right _ h)) (by decide +kernel))
set_option maxRecDepth 20000 in
theorem gX8_depthAt_X8_checkShotAndTime : GoodIn wsX8_depthAt (wsV RX8 202 RX8 yX8_checkShotAndTime wsX8_checkShotAndTime) := goodIn_app (goodIn_of _ (by decide +kernel)) ggX8_depthAt_X8_checkShotAndTime
set_option maxRecDepth 20000 in
theorem ggX8_depthAt_X8_pathOf : GoodIn wsX8_depthAt wsX8_pathOf := goodIn_r _ [31, 3, 16, 32, 33, 34, 20, 35, 36, 37, 38, 39, 40, 41, 42, 43, 44, 45, 46, 47, 48, 49, 50, 51, 52, 53, 54, 55, 56, 57, 58, 59, 60, 61, 62, 63, 64, 65, 66, 67, 68, 69, 70, 8, 71, 72, 73, 74, 75, 76, 77, 78, 79, 80, 81, 82, 83, 84, 85, 86, 87, 88, 89, 90, 91, 92, 93, 94, 95, 18, 19, 21, 22, 96, 97, 98, 99, 100, 101, 102, 103, 104, 105, 106, 107, 108, 109, 110, 111, 112, 113, 114, 115, 116, 117, 118, 119, 120, 121, 122, 123, 124, 125, 126, 127, 128, 129, 130, 131, 132, 133, 134, 135, 136, 137, 138, 139, 140, 141, 142, 143, 144, 145, 146, 147, 148, 149, 150, 151, 152, 153, 154, 155, 156, 157, 158, 159, 160, 161, 162, 163, 164, 165, 166, 167, 168, 169, 170, 171, 172, 173, 195, 196, 197, 198, 199, 200, 201, 202, 203, 204, 205, 210, 211, 212, 213, 214, 215, 216, 206, 207, 208, 209, 217, 218, 219, 220, 221, 222, 223, 224, 225, 226, 227, 228, 229, 230, 231, 232, 233, 234] (by decide +kernel) (by decide +kernel)
set_option maxRecDepth 20000 in
theorem gX8_depthAt_X8_pathOf : GoodIn wsX8_depthAt (wsV RX8 191 RX8 yX8_pathOf wsX8_pathOf) := goodIn_app (goodIn_of _ (by decide +kernel)) ggX8_depthAt_X8_pathOf
set_option maxRecDepth 20000 in
theorem ggX8_depthAt_X3_legDuring : GoodIn wsX8_depthAt wsX3_legDuring := goodIn_r _ [177, 47, 178, 179, 180, 40, 181, 108, 125, 8, 126, 206, 207, 208, 209] (by decide +kernel) (by decide +kernel)
set_option maxRecDepth 20000 in
theorem gX8_depthAt_X3_legDuring : GoodIn wsX8_depthAt (wsV RX8 206 RX3 yX3_legDuring wsX3_legDuring) := goodIn_app (goodIn_of _ (by decide +kernel)) ggX8_depthAt_X3_legDuring
set_option maxRecDepth 20000 in
theorem ggX8_depthAt_X3_get : GoodIn wsX8_depthAt wsX3_get := goodIn_r _ [181, 47, 108, 125, 8, 126, 206, 207, 208, 209] (by decide +kernel) (by decide +kernel)
set_option maxRecDepth 20000 in
theorem gX8_depthAt_X3_get : GoodIn wsX8_depthAt (wsV RX8 201 RX3 yX3_get wsX3_get) := goodIn_app (goodIn_of _ (by decide +kernel)) ggX8_depthAt_X3_get
set_option maxRecDepth 20000 in
theorem ggX8_depthAt_X7_get : GoodIn wsX8_depthAt wsX7_get := goodIn_r _ [35, 36, 215, 216] (by decide +kernel) (by decide +kernel)
set_option maxRecDepth 20000 in
theorem gX8_depthAt_X7_get : GoodIn wsX8_depthAt (wsV RX8 148 RX7 yX7_get wsX7_get) := goodIn_app (goodIn_of _ (by decide +kernel)) ggX8_depthAt_X7_get
set_option maxRecDepth 20000 in
theorem ggX8_depthAt_X3_partOfLeg : GoodIn wsX8_depthAt wsX3_partOfLeg := goodIn_r _ [186, 178, 179, 180, 40, 181, 47, 108, 125, 8, 126, 187, 188, 189, 190, 206, 207, 208, 209] (by decide +kernel) (by decide +kernel)
set_option maxRecDepth 20000 in
theorem gX8_depthAt_X3_partOfLeg : GoodIn wsX8_depthAt (wsV RX8 212 RX3 yX3_partOfLeg wsX3_partOfLeg) := goodIn_app (goodIn_of _ (by decide +kernel)) ggX8_depthAt_X3_partOfLeg
set_option maxRecDepth 20000 in
theorem ggX8_depthAt_X5_depthOf : GoodIn wsX8_depthAt wsX5_depthOf := goodIn_r _ [194, 65, 66, 69, 33, 34, 20, 35, 36, 210, 211, 212, 213, 214, 215, 216] (by decide +kernel) (by decide +kernel)
set_option maxRecDepth 20000 in
theorem gX8_depthAt_X5_depthOf : GoodIn wsX8_depthAt (wsV RX8 136 RX5 yX5_depthOf wsX5_depthOf) := goodIn_app (goodIn_of _ (by decide +kernel)) ggX8_depthAt_X5_depthOf
theorem dX8_depthAt_0 : decode cX8_depthAt 0 = .ok (.aload_n 0, 1) := by decide +kernel
theorem dX8_depthAt_1 : decode cX8_depthAt 1 = .ok (.iload_n 1, 1) := by decide +kernel
theorem dX8_depthAt_2 : decode cX8_depthAt 2 = .ok (.iload_n 2, 1) := by decide +kernel
theorem dX8_depthAt_3 : decode cX8_depthAt 3 = .ok (.invokevirtual 202, 3) := by decide +kernel
theorem dX8_depthAt_6 : decode cX8_depthAt 6 = .ok (.aload_n 0, 1) := by decide +kernel
theorem dX8_depthAt_7 : decode cX8_depthAt 7 = .ok (.aload_n 0, 1) := by decide +kernel
theorem dX8_depthAt_8 : decode cX8_depthAt 8 = .ok (.getfield 52, 3) := by decide +kernel
theorem dX8_depthAt_11 : decode cX8_depthAt 11 = .ok (.iload_n 1, 1) := by decide +kernel
theorem dX8_depthAt_12 : decode cX8_depthAt 12 = .ok (.invokevirtual 191, 3) := by decide +kernel
theorem dX8_depthAt_15 : decode cX8_depthAt 15 = .ok (.astore_n 3, 1) := by decide +kernel
theorem dX8_depthAt_16 : decode cX8_depthAt 16 = .ok (.aload_n 3, 1) := by decide +kernel
theorem dX8_depthAt_17 : decode cX8_depthAt 17 = .ok (.iload_n 2, 1) := by decide +kernel
theorem dX8_depthAt_18 : decode cX8_depthAt 18 = .ok (.invokevirtual 206, 3) := by decide +kernel
theorem dX8_depthAt_21 : decode cX8_depthAt 21 = .ok (.istore 4, 2) := by decide +kernel
theorem dX8_depthAt_23 : decode cX8_depthAt 23 = .ok (.iload 4, 2) := by decide +kernel
theorem dX8_depthAt_25 : decode cX8_depthAt 25 = .ok (.aload_n 3, 1) := by decide +kernel
theorem dX8_depthAt_26 : decode cX8_depthAt 26 = .ok (.getfield 195, 3) := by decide +kernel
theorem dX8_depthAt_29 : decode cX8_depthAt 29 = .ok (.if_icmp .lt 5, 3) := by decide +kernel
theorem dX8_depthAt_32 : decode cX8_depthAt 32 = .ok (.iconst (-1), 1) := by decide +kernel
theorem dX8_depthAt_33 : decode cX8_depthAt 33 = .ok (.ireturn, 1) := by decide +kernel
theorem dX8_depthAt_34 : decode cX8_depthAt 34 = .ok (.aload_n 3, 1) := by decide +kernel
theorem dX8_depthAt_35 : decode cX8_depthAt 35 = .ok (.iload 4, 2) := by decide +kernel
theorem dX8_depthAt_37 : decode cX8_depthAt 37 = .ok (.iconst 0, 1) := by decide +kernel
theorem dX8_depthAt_38 : decode cX8_depthAt 38 = .ok (.invokevirtual 201, 3) := by decide +kernel
theorem dX8_depthAt_41 : decode cX8_depthAt 41 = .ok (.istore 5, 2) := by decide +kernel
theorem dX8_depthAt_43 : decode cX8_depthAt 43 = .ok (.aload_n 3, 1) := by decide +kernel
theorem dX8_depthAt_44 : decode cX8_depthAt 44 = .ok (.iload 4, 2) := by decide +kernel
theorem dX8_depthAt_46 : decode cX8_depthAt 46 = .ok (.iload_n 2, 1) := by decide +kernel
theorem dX8_depthAt_47 : decode cX8_depthAt 47 = .ok (.aload_n 0, 1) := by decide +kernel
theorem dX8_depthAt_48 : decode cX8_depthAt 48 = .ok (.getfield 22, 3) := by decide +kernel
theorem dX8_depthAt_51 : decode cX8_depthAt 51 = .ok (.getfield 75, 3) := by decide +kernel
theorem dX8_depthAt_54 : decode cX8_depthAt 54 = .ok (.iload 5, 2) := by decide +kernel
theorem dX8_depthAt_56 : decode cX8_depthAt 56 = .ok (.iconst 1, 1) := by decide +kernel
theorem dX8_depthAt_57 : decode cX8_depthAt 57 = .ok (.invokevirtual 148, 3) := by decide +kernel
theorem dX8_depthAt_60 : decode cX8_depthAt 60 = .ok (.invokevirtual 212, 3) := by decide +kernel
theorem dX8_depthAt_63 : decode cX8_depthAt 63 = .ok (.istore 6, 2) := by decide +kernel
theorem dX8_depthAt_65 : decode cX8_depthAt 65 = .ok (.aload_n 3, 1) := by decide +kernel
theorem dX8_depthAt_66 : decode cX8_depthAt 66 = .ok (.iload 4, 2) := by decide +kernel
theorem dX8_depthAt_68 : decode cX8_depthAt 68 = .ok (.iconst 1, 1) := by decide +kernel
theorem dX8_depthAt_69 : decode cX8_depthAt 69 = .ok (.invokevirtual 201, 3) := by decide +kernel
theorem dX8_depthAt_72 : decode cX8_depthAt 72 = .ok (.iconst 1, 1) := by decide +kernel
theorem dX8_depthAt_73 : decode cX8_depthAt 73 = .ok (.if_icmp .ne 18, 3) := by decide +kernel
theorem dX8_depthAt_76 : decode cX8_depthAt 76 = .ok (.aload_n 0, 1) := by decide +kernel
theorem dX8_depthAt_77 : decode cX8_depthAt 77 = .ok (.getfield 22, 3) := by decide +kernel
theorem dX8_depthAt_80 : decode cX8_depthAt 80 = .ok (.iload 5, 2) := by decide +kernel
theorem dX8_depthAt_82 : decode cX8_depthAt 82 = .ok (.invokevirtual 136, 3) := by decide +kernel
theorem dX8_depthAt_85 : decode cX8_depthAt 85 = .ok (.iload 6, 2) := by decide +kernel
theorem dX8_depthAt_87 : decode cX8_depthAt 87 = .ok (.iadd, 1) := by decide +kernel
theorem dX8_depthAt_88 : decode cX8_depthAt 88 = .ok (.goto 17, 3) := by decide +kernel
theorem dX8_depthAt_91 : decode cX8_depthAt 91 = .ok (.aload_n 0, 1) := by decide +kernel
theorem dX8_depthAt_92 : decode cX8_depthAt 92 = .ok (.getfield 22, 3) := by decide +kernel
theorem dX8_depthAt_95 : decode cX8_depthAt 95 = .ok (.iload 5, 2) := by decide +kernel
theorem dX8_depthAt_97 : decode cX8_depthAt 97 = .ok (.iconst 1, 1) := by decide +kernel
theorem dX8_depthAt_98 : decode cX8_depthAt 98 = .ok (.iadd, 1) := by decide +kernel
theorem dX8_depthAt_99 : decode cX8_depthAt 99 = .ok (.invokevirtual 136, 3) := by decide +kernel
theorem dX8_depthAt_102 : decode cX8_depthAt 102 = .ok (.iload 6, 2) := by decide +kernel
theorem dX8_depthAt_104 : decode cX8_depthAt 104 = .ok (.isub, 1) := by decide +kernel
theorem dX8_depthAt_105 : decode cX8_depthAt 105 = .ok (.ireturn, 1) := by decide +kernel
set_option maxRecDepth 20000 in
theorem ggX8_critical_X8_checkLayer : GoodIn wsX8_critical wsX8_checkLayer := goodIn_ca (goodIn_r _ [6, 7, 8, 1, 9, 10, 11, 12, 13, 14, 15, 35, 36, 37, 38, 39, 40, 41, 42, 43, 44, 45, 46, 47, 48, 49, 50, 51, 52] (by decide +kernel) (by decide +kernel)) (goodIn_sub (fun _ h => List.mem_cons_of_mem _ (List.mem_append_right _ h)) (by decide +kernel))
set_option maxRecDepth 20000 in
theorem gX8_critical_X8_checkLayer : GoodIn wsX8_critical (wsV RX8 145 RX8 yX8_checkLayer wsX8_checkLayer) := goodIn_app (goodIn_of _ (by decide +kernel)) ggX8_critical_X8_checkLayer
set_option maxRecDepth 20000 in
theorem ggX8_critical_X5_isMirrorAt : GoodIn wsX8_critical wsX5_isMirrorAt := goodIn_r _ [20, 21, 22, 23, 46, 47, 48, 49, 50, 51, 52] (by decide +kernel) (by decide +kernel)
set_option maxRecDepth 20000 in
theorem gX8_critical_X5_isMirrorAt : GoodIn wsX8_critical (wsV RX8 216 RX5 yX5_isMirrorAt wsX5_isMirrorAt) := goodIn_app (goodIn_of _ (by decide +kernel)) ggX8_critical_X5_isMirrorAt
set_option maxRecDepth 20000 in
theorem ggX8_critical_X5_indexAt : GoodIn wsX8_critical wsX5_indexAt := goodIn_r _ [27, 28, 22, 23, 21, 29, 30, 31, 32, 13, 33, 34, 46, 47, 48, 49, 50, 51, 52] (by decide +kernel) (by decide +kernel)
set_option maxRecDepth 20000 in
theorem gX8_critical_X5_indexAt : GoodIn wsX8_critical (wsV RX8 220 RX5 yX5_indexAt wsX5_indexAt) := goodIn_app (goodIn_of _ (by decide +kernel)) ggX8_critical_X5_indexAt
theorem dX8_critical_0 : decode cX8_critical 0 = .ok (.aload_n 0, 1) := by decide +kernel
theorem dX8_critical_1 : decode cX8_critical 1 = .ok (.iload_n 1, 1) := by decide +kernel
theorem dX8_critical_2 : decode cX8_critical 2 = .ok (.invokevirtual 145, 3) := by decide +kernel
theorem dX8_critical_5 : decode cX8_critical 5 = .ok (.iload_n 2, 1) := by decide +kernel
theorem dX8_critical_6 : decode cX8_critical 6 = .ok (.ifCond .eq 9, 3) := by decide +kernel
theorem dX8_critical_9 : decode cX8_critical 9 = .ok (.iload_n 1, 1) := by decide +kernel
theorem dX8_critical_10 : decode cX8_critical 10 = .ok (.iconst 1, 1) := by decide +kernel
theorem dX8_critical_11 : decode cX8_critical 11 = .ok (.iadd, 1) := by decide +kernel
theorem dX8_critical_12 : decode cX8_critical 12 = .ok (.goto 6, 3) := by decide +kernel
theorem dX8_critical_15 : decode cX8_critical 15 = .ok (.iload_n 1, 1) := by decide +kernel
theorem dX8_critical_16 : decode cX8_critical 16 = .ok (.iconst 1, 1) := by decide +kernel
theorem dX8_critical_17 : decode cX8_critical 17 = .ok (.isub, 1) := by decide +kernel
theorem dX8_critical_18 : decode cX8_critical 18 = .ok (.istore_n 3, 1) := by decide +kernel
theorem dX8_critical_19 : decode cX8_critical 19 = .ok (.aload_n 0, 1) := by decide +kernel
theorem dX8_critical_20 : decode cX8_critical 20 = .ok (.getfield 22, 3) := by decide +kernel
theorem dX8_critical_23 : decode cX8_critical 23 = .ok (.iload_n 3, 1) := by decide +kernel
theorem dX8_critical_24 : decode cX8_critical 24 = .ok (.invokevirtual 216, 3) := by decide +kernel
theorem dX8_critical_27 : decode cX8_critical 27 = .ok (.ifCond .eq 5, 3) := by decide +kernel
theorem dX8_critical_30 : decode cX8_critical 30 = .ok (.iconst (-1), 1) := by decide +kernel
theorem dX8_critical_31 : decode cX8_critical 31 = .ok (.ireturn, 1) := by decide +kernel
theorem dX8_critical_32 : decode cX8_critical 32 = .ok (.aload_n 0, 1) := by decide +kernel
theorem dX8_critical_33 : decode cX8_critical 33 = .ok (.getfield 22, 3) := by decide +kernel
theorem dX8_critical_36 : decode cX8_critical 36 = .ok (.iload_n 3, 1) := by decide +kernel
theorem dX8_critical_37 : decode cX8_critical 37 = .ok (.invokevirtual 220, 3) := by decide +kernel
theorem dX8_critical_40 : decode cX8_critical 40 = .ok (.istore 4, 2) := by decide +kernel
theorem dX8_critical_42 : decode cX8_critical 42 = .ok (.iload 4, 2) := by decide +kernel
theorem dX8_critical_44 : decode cX8_critical 44 = .ok (.aload_n 0, 1) := by decide +kernel
theorem dX8_critical_45 : decode cX8_critical 45 = .ok (.getfield 22, 3) := by decide +kernel
theorem dX8_critical_48 : decode cX8_critical 48 = .ok (.iload_n 1, 1) := by decide +kernel
theorem dX8_critical_49 : decode cX8_critical 49 = .ok (.invokevirtual 220, 3) := by decide +kernel
theorem dX8_critical_52 : decode cX8_critical 52 = .ok (.if_icmp .ge 8, 3) := by decide +kernel
theorem dX8_critical_55 : decode cX8_critical 55 = .ok (.iload 4, 2) := by decide +kernel
theorem dX8_critical_57 : decode cX8_critical 57 = .ok (.goto 4, 3) := by decide +kernel
theorem dX8_critical_60 : decode cX8_critical 60 = .ok (.iconst (-1), 1) := by decide +kernel
theorem dX8_critical_61 : decode cX8_critical 61 = .ok (.ireturn, 1) := by decide +kernel
set_option maxRecDepth 20000 in
theorem ggX8_endOf_X8_checkLayer : GoodIn wsX8_endOf wsX8_checkLayer := goodIn_ca (goodIn_r _ [8, 9, 10, 2, 11, 12, 13, 14, 15, 16, 17, 147, 148, 149, 150, 151, 152, 153, 154, 155, 156, 157, 176, 177, 178, 179, 180, 181, 182] (by decide +kernel) (by decide +kernel)) (goodIn_sub (fun _ h => List.mem_cons_of_mem _ (List.mem_append_left _ (List.mem_append_right _ h))) (by decide +kernel))
set_option maxRecDepth 20000 in
theorem gX8_endOf_X8_checkLayer : GoodIn wsX8_endOf (wsV RX8 145 RX8 yX8_checkLayer wsX8_checkLayer) := goodIn_app (goodIn_of _ (by decide +kernel)) ggX8_endOf_X8_checkLayer
set_option maxRecDepth 20000 in
theorem ggX8_endOf_X8_checkRange : GoodIn wsX8_endOf wsX8_checkRange := goodIn_ca (goodIn_r _ [20, 21, 22] (by decide +kernel) (by decide +kernel)) (goodIn_sub (fun _ h => List.mem_cons_of_mem _ (List.mem_append_right _ h)) (by decide +kernel))
set_option maxRecDepth 20000 in
theorem gX8_endOf_X8_checkRange : GoodIn wsX8_endOf (va_wsS RX8 100 yX8_checkRange wsX8_checkRange) := goodIn_app (goodIn_of _ (by decide +kernel)) ggX8_endOf_X8_checkRange
set_option maxRecDepth 20000 in
theorem ggX8_endOf_X4_enter : GoodIn wsX8_endOf wsX4_enter := goodIn_r _ [27, 28, 29, 30, 31, 32, 33, 34, 35, 36, 37, 38, 39, 40, 41, 42, 43, 44, 15, 45, 46, 47, 7, 48, 158, 159, 160, 161, 162, 163, 164, 165, 166, 167, 168, 169, 170, 171, 172, 173, 174, 175, 176, 177, 178, 179, 180, 181, 182] (by decide +kernel) (by decide +kernel)
set_option maxRecDepth 20000 in
theorem gX8_endOf_X4_enter : GoodIn wsX8_endOf (wsV RX8 223 RX4 yX4_enter wsX4_enter) := goodIn_app (goodIn_of _ (by decide +kernel)) ggX8_endOf_X4_enter
set_option maxRecDepth 20000 in
theorem ggX8_endOf_X4_run : GoodIn wsX8_endOf wsX4_run := goodIn_r _ [52, 53, 54, 55, 26, 56, 57, 58, 59, 60, 61, 62, 63, 64, 65, 66, 67, 28, 68, 69, 70, 71, 72, 73, 74, 35, 75, 38, 76, 13, 14, 15, 16, 17, 42, 43, 44, 45, 46, 77, 78, 79, 80, 81, 82, 83, 84, 85, 86, 87, 88, 89, 90, 91, 92, 29, 93, 94, 95, 96, 97, 98, 99, 100, 101, 7, 102, 103, 104, 105, 106, 107, 108, 109, 110, 111, 112, 47, 48, 113, 114, 115, 116, 117, 118, 119, 120, 121, 122, 123, 124, 31, 125, 126, 127, 128, 129, 130, 131, 132, 133, 134, 135, 136, 137, 40, 39, 138, 139, 140, 141, 142, 143, 144, 145, 146, 158, 159, 160, 161, 162, 163, 164, 165, 166, 167, 168, 169, 170, 171, 172, 173, 174, 175, 176, 177, 178, 179, 180, 181, 182] (by decide +kernel) (by decide +kernel)
set_option maxRecDepth 20000 in
theorem gX8_endOf_X4_run : GoodIn wsX8_endOf (wsV RX8 226 RX4 yX4_run wsX4_run) := goodIn_app (goodIn_of _ (by decide +kernel)) ggX8_endOf_X4_run
theorem dX8_endOf_0 : decode cX8_endOf 0 = .ok (.aload_n 0, 1) := by decide +kernel
theorem dX8_endOf_1 : decode cX8_endOf 1 = .ok (.iload_n 1, 1) := by decide +kernel
theorem dX8_endOf_2 : decode cX8_endOf 2 = .ok (.invokevirtual 145, 3) := by decide +kernel
theorem dX8_endOf_5 : decode cX8_endOf 5 = .ok (.iload_n 3, 1) := by decide +kernel
theorem dX8_endOf_6 : decode cX8_endOf 6 = .ok (.iconst 0, 1) := by decide +kernel
theorem dX8_endOf_7 : decode cX8_endOf 7 = .ok (.sipush 3999, 3) := by decide +kernel
theorem dX8_endOf_10 : decode cX8_endOf 10 = .ok (.invokestatic 100, 3) := by decide +kernel
theorem dX8_endOf_13 : decode cX8_endOf 13 = .ok (.aload_n 0, 1) := by decide +kernel
theorem dX8_endOf_14 : decode cX8_endOf 14 = .ok (.getfield 45, 3) := by decide +kernel
theorem dX8_endOf_17 : decode cX8_endOf 17 = .ok (.aload_n 0, 1) := by decide +kernel
theorem dX8_endOf_18 : decode cX8_endOf 18 = .ok (.getfield 22, 3) := by decide +kernel
theorem dX8_endOf_21 : decode cX8_endOf 21 = .ok (.invokevirtual 223, 3) := by decide +kernel
theorem dX8_endOf_24 : decode cX8_endOf 24 = .ok (.aload_n 0, 1) := by decide +kernel
theorem dX8_endOf_25 : decode cX8_endOf 25 = .ok (.getfield 45, 3) := by decide +kernel
theorem dX8_endOf_28 : decode cX8_endOf 28 = .ok (.iload_n 1, 1) := by decide +kernel
theorem dX8_endOf_29 : decode cX8_endOf 29 = .ok (.iload_n 2, 1) := by decide +kernel
theorem dX8_endOf_30 : decode cX8_endOf 30 = .ok (.iload_n 3, 1) := by decide +kernel
theorem dX8_endOf_31 : decode cX8_endOf 31 = .ok (.invokevirtual 226, 3) := by decide +kernel
theorem dX8_endOf_34 : decode cX8_endOf 34 = .ok (.aload_n 0, 1) := by decide +kernel
theorem dX8_endOf_35 : decode cX8_endOf 35 = .ok (.getfield 45, 3) := by decide +kernel
theorem dX8_endOf_38 : decode cX8_endOf 38 = .ok (.getfield 162, 3) := by decide +kernel
theorem dX8_endOf_41 : decode cX8_endOf 41 = .ok (.ireturn, 1) := by decide +kernel
set_option maxRecDepth 20000 in
theorem ggX8_shiftOf_X8_checkLayer : GoodIn wsX8_shiftOf wsX8_checkLayer := goodIn_ca (goodIn_r _ [9, 10, 11, 2, 12, 13, 14, 15, 16, 17, 18, 148, 149, 150, 151, 152, 153, 154, 155, 156, 157, 158, 177, 178, 179, 180, 181, 182, 183] (by decide +kernel) (by decide +kernel)) (goodIn_sub (fun _ h => List.mem_cons_of_mem _ (List.mem_append_left _ (List.mem_append_right _ h))) (by decide +kernel))
set_option maxRecDepth 20000 in
theorem gX8_shiftOf_X8_checkLayer : GoodIn wsX8_shiftOf (wsV RX8 145 RX8 yX8_checkLayer wsX8_checkLayer) := goodIn_app (goodIn_of _ (by decide +kernel)) ggX8_shiftOf_X8_checkLayer
set_option maxRecDepth 20000 in
theorem ggX8_shiftOf_X8_checkRange : GoodIn wsX8_shiftOf wsX8_checkRange := goodIn_ca (goodIn_r _ [21, 22, 23] (by decide +kernel) (by decide +kernel)) (goodIn_sub (fun _ h => List.mem_cons_of_mem _ (List.mem_append_right _ h)) (by decide +kernel))
set_option maxRecDepth 20000 in
theorem gX8_shiftOf_X8_checkRange : GoodIn wsX8_shiftOf (va_wsS RX8 100 yX8_checkRange wsX8_checkRange) := goodIn_app (goodIn_of _ (by decide +kernel)) ggX8_shiftOf_X8_checkRange
set_option maxRecDepth 20000 in
theorem ggX8_shiftOf_X4_enter : GoodIn wsX8_shiftOf wsX4_enter := goodIn_r _ [28, 29, 30, 31, 32, 33, 34, 35, 36, 37, 38, 39, 40, 41, 42, 43, 44, 45, 16, 46, 47, 48, 8, 49, 159, 160, 161, 162, 163, 164, 165, 166, 167, 168, 169, 170, 171, 172, 173, 174, 175, 176, 177, 178, 179, 180, 181, 182, 183] (by decide +kernel) (by decide +kernel)
set_option maxRecDepth 20000 in
theorem gX8_shiftOf_X4_enter : GoodIn wsX8_shiftOf (wsV RX8 223 RX4 yX4_enter wsX4_enter) := goodIn_app (goodIn_of _ (by decide +kernel)) ggX8_shiftOf_X4_enter
set_option maxRecDepth 20000 in
theorem ggX8_shiftOf_X4_run : GoodIn wsX8_shiftOf wsX4_run := goodIn_r _ [53, 54, 55, 56, 27, 57, 58, 59, 60, 61, 62, 63, 64, 65, 66, 67, 68, 29, 69, 70, 71, 72, 73, 74, 75, 36, 76, 39, 77, 14, 15, 16, 17, 18, 43, 44, 45, 46, 47, 78, 79, 80, 81, 82, 83, 84, 85, 86, 87, 88, 89, 90, 91, 92, 93, 30, 94, 95, 96, 97, 98, 99, 100, 101, 102, 8, 103, 104, 105, 106, 107, 108, 109, 110, 111, 112, 113, 48, 49, 114, 115, 116, 117, 118, 119, 120, 121, 122, 123, 124, 125, 32, 126, 127, 128, 129, 130, 131, 132, 133, 134, 135, 136, 137, 138, 41, 40, 139, 140, 141, 142, 143, 144, 145, 146, 147, 159, 160, 161, 162, 163, 164, 165, 166, 167, 168, 169, 170, 171, 172, 173, 174, 175, 176, 177, 178, 179, 180, 181, 182, 183] (by decide +kernel) (by decide +kernel)
set_option maxRecDepth 20000 in
theorem gX8_shiftOf_X4_run : GoodIn wsX8_shiftOf (wsV RX8 226 RX4 yX4_run wsX4_run) := goodIn_app (goodIn_of _ (by decide +kernel)) ggX8_shiftOf_X4_run
theorem dX8_shiftOf_0 : decode cX8_shiftOf 0 = .ok (.aload_n 0, 1) := by decide +kernel
theorem dX8_shiftOf_1 : decode cX8_shiftOf 1 = .ok (.iload_n 1, 1) := by decide +kernel
theorem dX8_shiftOf_2 : decode cX8_shiftOf 2 = .ok (.invokevirtual 145, 3) := by decide +kernel
theorem dX8_shiftOf_5 : decode cX8_shiftOf 5 = .ok (.iload_n 3, 1) := by decide +kernel
theorem dX8_shiftOf_6 : decode cX8_shiftOf 6 = .ok (.iconst 0, 1) := by decide +kernel
theorem dX8_shiftOf_7 : decode cX8_shiftOf 7 = .ok (.sipush 3999, 3) := by decide +kernel
theorem dX8_shiftOf_10 : decode cX8_shiftOf 10 = .ok (.invokestatic 100, 3) := by decide +kernel
theorem dX8_shiftOf_13 : decode cX8_shiftOf 13 = .ok (.aload_n 0, 1) := by decide +kernel
theorem dX8_shiftOf_14 : decode cX8_shiftOf 14 = .ok (.getfield 45, 3) := by decide +kernel
theorem dX8_shiftOf_17 : decode cX8_shiftOf 17 = .ok (.aload_n 0, 1) := by decide +kernel
theorem dX8_shiftOf_18 : decode cX8_shiftOf 18 = .ok (.getfield 22, 3) := by decide +kernel
theorem dX8_shiftOf_21 : decode cX8_shiftOf 21 = .ok (.invokevirtual 223, 3) := by decide +kernel
theorem dX8_shiftOf_24 : decode cX8_shiftOf 24 = .ok (.aload_n 0, 1) := by decide +kernel
theorem dX8_shiftOf_25 : decode cX8_shiftOf 25 = .ok (.getfield 45, 3) := by decide +kernel
theorem dX8_shiftOf_28 : decode cX8_shiftOf 28 = .ok (.iload_n 1, 1) := by decide +kernel
theorem dX8_shiftOf_29 : decode cX8_shiftOf 29 = .ok (.iload_n 2, 1) := by decide +kernel
theorem dX8_shiftOf_30 : decode cX8_shiftOf 30 = .ok (.iload_n 3, 1) := by decide +kernel
theorem dX8_shiftOf_31 : decode cX8_shiftOf 31 = .ok (.invokevirtual 226, 3) := by decide +kernel
theorem dX8_shiftOf_34 : decode cX8_shiftOf 34 = .ok (.aload_n 0, 1) := by decide +kernel
theorem dX8_shiftOf_35 : decode cX8_shiftOf 35 = .ok (.getfield 45, 3) := by decide +kernel
theorem dX8_shiftOf_38 : decode cX8_shiftOf 38 = .ok (.getfield 162, 3) := by decide +kernel
theorem dX8_shiftOf_41 : decode cX8_shiftOf 41 = .ok (.iconst 4, 1) := by decide +kernel
theorem dX8_shiftOf_42 : decode cX8_shiftOf 42 = .ok (.if_icmp .ne 7, 3) := by decide +kernel
theorem dX8_shiftOf_45 : decode cX8_shiftOf 45 = .ok (.iconst (-1), 1) := by decide +kernel
theorem dX8_shiftOf_46 : decode cX8_shiftOf 46 = .ok (.goto 10, 3) := by decide +kernel
theorem dX8_shiftOf_49 : decode cX8_shiftOf 49 = .ok (.aload_n 0, 1) := by decide +kernel
theorem dX8_shiftOf_50 : decode cX8_shiftOf 50 = .ok (.getfield 45, 3) := by decide +kernel
theorem dX8_shiftOf_53 : decode cX8_shiftOf 53 = .ok (.getfield 165, 3) := by decide +kernel
theorem dX8_shiftOf_56 : decode cX8_shiftOf 56 = .ok (.ireturn, 1) := by decide +kernel
set_option maxRecDepth 20000 in
theorem ggX8_slants_X8_checkLayerAndEnd : GoodIn wsX8_slants wsX8_checkLayerAndEnd := goodIn_ca (goodIn_ca (goodIn_r _ [6, 7, 8, 9, 5, 10, 11, 12, 13, 14, 15, 16, 17, 18, 19, 20, 21, 22, 23, 24, 25, 182, 183, 184, 185, 186, 187, 188, 189, 190, 191, 192, 193, 194, 195, 196, 197, 198, 199] (by decide +kernel) (by decide +kernel)) (goodIn_sub (fun _ h => List.mem_cons_of_mem _ (List.mem_append_left _ (List.mem_append_right _ h))) (by decide +kernel))) (goodIn_sub (fun _ h => List.mem_cons_of_mem _ (List.mem_append_right _ h)) (by decide +kernel))
set_option maxRecDepth 20000 in
theorem gX8_slants_X8_checkLayerAndEnd : GoodIn wsX8_slants (wsV RX8 230 RX8 yX8_checkLayerAndEnd wsX8_checkLayerAndEnd) := goodIn_app (goodIn_of _ (by decide +kernel)) ggX8_slants_X8_checkLayerAndEnd
set_option maxRecDepth 20000 in
theorem ggX8_slants_X6_countSlants : GoodIn wsX8_slants wsX6_countSlants := goodIn_r _ [30, 31, 32, 33, 34, 35, 36, 29, 37, 38, 39, 40, 41, 42, 43, 44, 45, 46, 47, 48, 49, 50, 51, 52, 53, 54, 55, 56, 57, 58, 59, 60, 61, 62, 63, 64, 65, 18, 66, 67, 68, 5, 69, 70, 71, 72, 73, 74, 75, 76, 77, 78, 79, 80, 81, 82, 83, 84, 85, 86, 87, 88, 89, 90, 91, 92, 93, 94, 95, 96, 97, 98, 99, 100, 101, 102, 103, 104, 105, 16, 17, 19, 20, 106, 107, 108, 109, 110, 111, 112, 113, 114, 115, 116, 117, 118, 119, 120, 121, 122, 123, 124, 125, 126, 127, 128, 129, 130, 131, 132, 133, 134, 135, 136, 137, 138, 139, 140, 141, 142, 143, 144, 145, 146, 147, 148, 149, 150, 151, 152, 153, 154, 155, 156, 157, 158, 159, 160, 161, 162, 163, 164, 165, 166, 167, 168, 169, 170, 171, 172, 173, 174, 175, 176, 177, 178, 179, 180, 181, 200, 201, 202, 203, 204, 205, 206, 207, 208, 209, 210, 211, 212, 213, 214, 215, 216, 217, 218, 219, 220, 221, 222, 223, 224, 225, 226, 227, 228, 193, 194, 195, 196, 197, 198, 199] (by decide +kernel) (by decide +kernel)
set_option maxRecDepth 20000 in
theorem gX8_slants_X6_countSlants : GoodIn wsX8_slants (wsV RX8 233 RX6 yX6_countSlants wsX6_countSlants) := goodIn_app (goodIn_of _ (by decide +kernel)) ggX8_slants_X6_countSlants
theorem dX8_slants_0 : decode cX8_slants 0 = .ok (.aload_n 0, 1) := by decide +kernel
theorem dX8_slants_1 : decode cX8_slants 1 = .ok (.iload_n 1, 1) := by decide +kernel
theorem dX8_slants_2 : decode cX8_slants 2 = .ok (.iload_n 3, 1) := by decide +kernel
theorem dX8_slants_3 : decode cX8_slants 3 = .ok (.invokevirtual 230, 3) := by decide +kernel
theorem dX8_slants_6 : decode cX8_slants 6 = .ok (.aload_n 0, 1) := by decide +kernel
theorem dX8_slants_7 : decode cX8_slants 7 = .ok (.getfield 62, 3) := by decide +kernel
theorem dX8_slants_10 : decode cX8_slants 10 = .ok (.iload_n 1, 1) := by decide +kernel
theorem dX8_slants_11 : decode cX8_slants 11 = .ok (.iload_n 2, 1) := by decide +kernel
theorem dX8_slants_12 : decode cX8_slants 12 = .ok (.iload_n 3, 1) := by decide +kernel
theorem dX8_slants_13 : decode cX8_slants 13 = .ok (.invokevirtual 233, 3) := by decide +kernel
theorem dX8_slants_16 : decode cX8_slants 16 = .ok (.ireturn, 1) := by decide +kernel
set_option maxRecDepth 20000 in
theorem ggX8_leastSlant_X8_checkLayerAndEnd : GoodIn wsX8_leastSlant wsX8_checkLayerAndEnd := goodIn_ca (goodIn_ca (goodIn_r _ [6, 7, 8, 9, 5, 10, 11, 12, 13, 14, 15, 16, 17, 18, 19, 20, 21, 22, 23, 24, 25, 182, 183, 184, 185, 186, 187, 188, 189, 190, 191, 192, 193, 194, 195, 196, 197, 198, 199] (by decide +kernel) (by decide +kernel)) (goodIn_sub (fun _ h => List.mem_cons_of_mem _ (List.mem_append_left _ (List.mem_append_right _ h))) (by decide +kernel))) (goodIn_sub (fun _ h => List.mem_cons_of_mem _ (List.mem_append_right _ h)) (by decide +kernel))
set_option maxRecDepth 20000 in
theorem gX8_leastSlant_X8_checkLayerAndEnd : GoodIn wsX8_leastSlant (wsV RX8 230 RX8 yX8_checkLayerAndEnd wsX8_checkLayerAndEnd) := goodIn_app (goodIn_of _ (by decide +kernel)) ggX8_leastSlant_X8_checkLayerAndEnd
set_option maxRecDepth 20000 in
theorem ggX8_leastSlant_X6_lowestSlant : GoodIn wsX8_leastSlant wsX6_lowestSlant := goodIn_r _ [30, 31, 32, 33, 34, 35, 29, 36, 37, 38, 39, 40, 41, 42, 43, 44, 45, 46, 47, 48, 49, 50, 51, 52, 53, 54, 55, 56, 57, 58, 59, 60, 61, 62, 63, 64, 65, 18, 66, 67, 68, 5, 69, 70, 71, 72, 73, 74, 75, 76, 77, 78, 79, 80, 81, 82, 83, 84, 85, 86, 87, 88, 89, 90, 91, 92, 93, 94, 95, 96, 97, 98, 99, 100, 101, 102, 103, 104, 105, 16, 17, 19, 20, 106, 107, 108, 109, 110, 111, 112, 113, 114, 115, 116, 117, 118, 119, 120, 121, 122, 123, 124, 125, 126, 127, 128, 129, 130, 131, 132, 133, 134, 135, 136, 137, 138, 139, 140, 141, 142, 143, 144, 145, 146, 147, 148, 149, 150, 151, 152, 153, 154, 155, 156, 157, 158, 159, 160, 161, 162, 163, 164, 165, 166, 167, 168, 169, 170, 171, 172, 173, 174, 175, 176, 177, 178, 179, 180, 181, 200, 201, 202, 203, 204, 205, 206, 207, 208, 209, 210, 211, 212, 213, 214, 215, 216, 217, 218, 219, 220, 221, 222, 223, 224, 225, 226, 227, 228, 193, 194, 195, 196, 197, 198, 199] (by decide +kernel) (by decide +kernel)
set_option maxRecDepth 20000 in
theorem gX8_leastSlant_X6_lowestSlant : GoodIn wsX8_leastSlant (wsV RX8 237 RX6 yX6_lowestSlant wsX6_lowestSlant) := goodIn_app (goodIn_of _ (by decide +kernel)) ggX8_leastSlant_X6_lowestSlant
theorem dX8_leastSlant_0 : decode cX8_leastSlant 0 = .ok (.aload_n 0, 1) := by decide +kernel
theorem dX8_leastSlant_1 : decode cX8_leastSlant 1 = .ok (.iload_n 1, 1) := by decide +kernel
theorem dX8_leastSlant_2 : decode cX8_leastSlant 2 = .ok (.iload_n 3, 1) := by decide +kernel
theorem dX8_leastSlant_3 : decode cX8_leastSlant 3 = .ok (.invokevirtual 230, 3) := by decide +kernel
theorem dX8_leastSlant_6 : decode cX8_leastSlant 6 = .ok (.aload_n 0, 1) := by decide +kernel
theorem dX8_leastSlant_7 : decode cX8_leastSlant 7 = .ok (.getfield 62, 3) := by decide +kernel
theorem dX8_leastSlant_10 : decode cX8_leastSlant 10 = .ok (.iload_n 1, 1) := by decide +kernel
theorem dX8_leastSlant_11 : decode cX8_leastSlant 11 = .ok (.iload_n 2, 1) := by decide +kernel
theorem dX8_leastSlant_12 : decode cX8_leastSlant 12 = .ok (.iload_n 3, 1) := by decide +kernel
theorem dX8_leastSlant_13 : decode cX8_leastSlant 13 = .ok (.invokevirtual 237, 3) := by decide +kernel
theorem dX8_leastSlant_16 : decode cX8_leastSlant 16 = .ok (.ireturn, 1) := by decide +kernel
set_option maxRecDepth 20000 in
theorem ggX8_slantFor_X8_checkLayer : GoodIn wsX8_slantFor wsX8_checkLayer := goodIn_ca (goodIn_r _ [6, 7, 8, 9, 10, 11, 12, 13, 14, 15, 16, 196, 197, 198, 199, 200, 201, 202, 203, 204, 205, 206, 207, 208, 209, 210, 211, 212, 213] (by decide +kernel) (by decide +kernel)) (goodIn_sub (fun _ h => List.mem_cons_of_mem _ (List.mem_append_left _ (List.mem_append_right _ h))) (by decide +kernel))
set_option maxRecDepth 20000 in
theorem gX8_slantFor_X8_checkLayer : GoodIn wsX8_slantFor (wsV RX8 145 RX8 yX8_checkLayer wsX8_checkLayer) := goodIn_app (goodIn_of _ (by decide +kernel)) ggX8_slantFor_X8_checkLayer
set_option maxRecDepth 20000 in
theorem ggX8_slantFor_X8_checkNotNegative : GoodIn wsX8_slantFor wsX8_checkNotNegative := goodIn_ca (goodIn_r _ [19, 20, 21] (by decide +kernel) (by decide +kernel)) (goodIn_sub (fun _ h => List.mem_cons_of_mem _ (List.mem_append_right _ h)) (by decide +kernel))
set_option maxRecDepth 20000 in
theorem gX8_slantFor_X8_checkNotNegative : GoodIn wsX8_slantFor (va_wsS RX8 240 yX8_checkNotNegative wsX8_checkNotNegative) := goodIn_app (goodIn_of _ (by decide +kernel)) ggX8_slantFor_X8_checkNotNegative
set_option maxRecDepth 20000 in
theorem ggX8_slantFor_X6_nearestSlant : GoodIn wsX8_slantFor wsX6_nearestSlant := goodIn_r _ [26, 27, 28, 29, 30, 31, 25, 32, 33, 34, 35, 36, 37, 38, 39, 40, 41, 42, 43, 44, 45, 46, 47, 48, 49, 50, 51, 52, 53, 54, 55, 56, 57, 58, 59, 60, 14, 61, 62, 63, 5, 64, 65, 66, 67, 68, 69, 70, 71, 72, 73, 74, 75, 76, 77, 78, 79, 80, 81, 82, 83, 84, 85, 86, 87, 88, 89, 90, 91, 92, 93, 94, 95, 96, 97, 98, 99, 100, 101, 12, 13, 15, 16, 102, 103, 104, 105, 106, 107, 108, 109, 110, 111, 112, 113, 114, 115, 116, 117, 118, 119, 120, 121, 122, 123, 124, 125, 126, 127, 128, 129, 130, 131, 132, 133, 134, 135, 136, 137, 138, 139, 140, 141, 142, 143, 144, 145, 146, 147, 148, 149, 150, 151, 152, 153, 154, 155, 156, 157, 158, 159, 160, 161, 162, 163, 164, 165, 166, 167, 168, 169, 170, 171, 172, 173, 174, 175, 176, 177, 178, 179, 180, 181, 182, 183, 184, 185, 186, 187, 188, 189, 190, 191, 192, 193, 194, 195, 214, 215, 216, 217, 218, 219, 220, 221, 222, 223, 224, 225, 226, 227, 228, 229, 230, 231, 232, 233, 234, 235, 236, 237, 238, 239, 240, 241, 242, 207, 208, 209, 210, 211, 212, 213] (by decide +kernel) (by decide +kernel)
set_option maxRecDepth 20000 in
theorem gX8_slantFor_X6_nearestSlant : GoodIn wsX8_slantFor (wsV RX8 243 RX6 yX6_nearestSlant wsX6_nearestSlant) := goodIn_app (goodIn_of _ (by decide +kernel)) ggX8_slantFor_X6_nearestSlant
theorem dX8_slantFor_0 : decode cX8_slantFor 0 = .ok (.aload_n 0, 1) := by decide +kernel
theorem dX8_slantFor_1 : decode cX8_slantFor 1 = .ok (.iload_n 1, 1) := by decide +kernel
theorem dX8_slantFor_2 : decode cX8_slantFor 2 = .ok (.invokevirtual 145, 3) := by decide +kernel
theorem dX8_slantFor_5 : decode cX8_slantFor 5 = .ok (.iload_n 3, 1) := by decide +kernel
theorem dX8_slantFor_6 : decode cX8_slantFor 6 = .ok (.invokestatic 240, 3) := by decide +kernel
theorem dX8_slantFor_9 : decode cX8_slantFor 9 = .ok (.aload_n 0, 1) := by decide +kernel
theorem dX8_slantFor_10 : decode cX8_slantFor 10 = .ok (.getfield 62, 3) := by decide +kernel
theorem dX8_slantFor_13 : decode cX8_slantFor 13 = .ok (.iload_n 1, 1) := by decide +kernel
theorem dX8_slantFor_14 : decode cX8_slantFor 14 = .ok (.iload_n 2, 1) := by decide +kernel
theorem dX8_slantFor_15 : decode cX8_slantFor 15 = .ok (.iload_n 3, 1) := by decide +kernel
theorem dX8_slantFor_16 : decode cX8_slantFor 16 = .ok (.invokevirtual 243, 3) := by decide +kernel
theorem dX8_slantFor_19 : decode cX8_slantFor 19 = .ok (.ireturn, 1) := by decide +kernel
set_option maxRecDepth 20000 in
theorem ggX8_fastest_X8_checkLayerAndEnd : GoodIn wsX8_fastest wsX8_checkLayerAndEnd := goodIn_ca (goodIn_ca (goodIn_r _ [7, 8, 9, 10, 6, 11, 12, 13, 14, 15, 16, 17, 18, 19, 20, 21, 22, 23, 24, 25, 26, 195, 196, 197, 198, 199, 200, 201, 202, 203, 204, 205, 217, 218, 219, 220, 221, 222, 223] (by decide +kernel) (by decide +kernel)) (goodIn_sub (fun _ h => List.mem_cons_of_mem _ (List.mem_append_left _ (List.mem_append_right _ h))) (by decide +kernel))) (goodIn_sub (fun _ h => List.mem_cons_of_mem _ (List.mem_append_right _ h)) (by decide +kernel))
set_option maxRecDepth 20000 in
theorem gX8_fastest_X8_checkLayerAndEnd : GoodIn wsX8_fastest (wsV RX8 230 RX8 yX8_checkLayerAndEnd wsX8_checkLayerAndEnd) := goodIn_app (goodIn_of _ (by decide +kernel)) ggX8_fastest_X8_checkLayerAndEnd
set_option maxRecDepth 20000 in
theorem ggX8_fastest_X6_findBest : GoodIn wsX8_fastest wsX6_findBest := goodIn_r _ [31, 32, 33, 34, 35, 36, 37, 38, 39, 40, 30, 41, 42, 43, 44, 45, 46, 47, 48, 49, 50, 51, 52, 53, 54, 55, 56, 57, 58, 59, 60, 61, 62, 63, 64, 65, 66, 19, 67, 68, 69, 6, 70, 71, 72, 73, 74, 75, 76, 77, 78, 79, 80, 81, 82, 83, 84, 85, 86, 87, 88, 89, 90, 91, 92, 93, 94, 95, 96, 97, 98, 99, 100, 101, 102, 103, 104, 105, 106, 17, 18, 20, 21, 107, 108, 109, 110, 111, 112, 113, 114, 115, 116, 117, 118, 119, 120, 121, 122, 123, 124, 125, 126, 127, 128, 129, 130, 131, 132, 133, 134, 135, 136, 137, 138, 139, 140, 141, 142, 143, 144, 145, 146, 147, 148, 149, 150, 151, 152, 153, 154, 155, 156, 157, 158, 159, 160, 161, 162, 163, 164, 165, 166, 167, 168, 169, 170, 171, 172, 173, 174, 175, 176, 177, 178, 179, 180, 181, 182, 183, 184, 185, 186, 187, 188, 189, 190, 191, 192, 193, 194, 206, 207, 208, 209, 210, 211, 212, 213, 214, 215, 216, 224, 225, 226, 227, 228, 229, 230, 231, 232, 233, 234, 235, 236, 237, 238, 239, 240, 241, 217, 218, 219, 220, 221, 222, 223] (by decide +kernel) (by decide +kernel)
set_option maxRecDepth 20000 in
theorem gX8_fastest_X6_findBest : GoodIn wsX8_fastest (wsV RX8 246 RX6 yX6_findBest wsX6_findBest) := goodIn_app (goodIn_of _ (by decide +kernel)) ggX8_fastest_X6_findBest
theorem dX8_fastest_0 : decode cX8_fastest 0 = .ok (.aload_n 0, 1) := by decide +kernel
theorem dX8_fastest_1 : decode cX8_fastest 1 = .ok (.iload_n 1, 1) := by decide +kernel
theorem dX8_fastest_2 : decode cX8_fastest 2 = .ok (.iload_n 3, 1) := by decide +kernel
theorem dX8_fastest_3 : decode cX8_fastest 3 = .ok (.invokevirtual 230, 3) := by decide +kernel
theorem dX8_fastest_6 : decode cX8_fastest 6 = .ok (.aload_n 0, 1) := by decide +kernel
theorem dX8_fastest_7 : decode cX8_fastest 7 = .ok (.getfield 62, 3) := by decide +kernel
theorem dX8_fastest_10 : decode cX8_fastest 10 = .ok (.iload_n 1, 1) := by decide +kernel
theorem dX8_fastest_11 : decode cX8_fastest 11 = .ok (.iload_n 2, 1) := by decide +kernel
theorem dX8_fastest_12 : decode cX8_fastest 12 = .ok (.iload_n 3, 1) := by decide +kernel
theorem dX8_fastest_13 : decode cX8_fastest 13 = .ok (.iconst 0, 1) := by decide +kernel
theorem dX8_fastest_14 : decode cX8_fastest 14 = .ok (.invokevirtual 246, 3) := by decide +kernel
theorem dX8_fastest_17 : decode cX8_fastest 17 = .ok (.aload_n 0, 1) := by decide +kernel
theorem dX8_fastest_18 : decode cX8_fastest 18 = .ok (.getfield 62, 3) := by decide +kernel
theorem dX8_fastest_21 : decode cX8_fastest 21 = .ok (.getfield 250, 3) := by decide +kernel
theorem dX8_fastest_24 : decode cX8_fastest 24 = .ok (.ireturn, 1) := by decide +kernel
set_option maxRecDepth 20000 in
theorem ggX8_brightest_X8_checkLayerAndEnd : GoodIn wsX8_brightest wsX8_checkLayerAndEnd := goodIn_ca (goodIn_ca (goodIn_r _ [7, 8, 9, 10, 6, 11, 12, 13, 14, 15, 16, 17, 18, 19, 20, 21, 22, 23, 24, 25, 26, 195, 196, 197, 198, 199, 200, 201, 202, 203, 204, 205, 217, 218, 219, 220, 221, 222, 223] (by decide +kernel) (by decide +kernel)) (goodIn_sub (fun _ h => List.mem_cons_of_mem _ (List.mem_append_left _ (List.mem_append_right _ h))) (by decide +kernel))) (goodIn_sub (fun _ h => List.mem_cons_of_mem _ (List.mem_append_right _ h)) (by decide +kernel))
set_option maxRecDepth 20000 in
theorem gX8_brightest_X8_checkLayerAndEnd : GoodIn wsX8_brightest (wsV RX8 230 RX8 yX8_checkLayerAndEnd wsX8_checkLayerAndEnd) := goodIn_app (goodIn_of _ (by decide +kernel)) ggX8_brightest_X8_checkLayerAndEnd
set_option maxRecDepth 20000 in
theorem ggX8_brightest_X6_findBest : GoodIn wsX8_brightest wsX6_findBest := goodIn_r _ [31, 32, 33, 34, 35, 36, 37, 38, 39, 40, 30, 41, 42, 43, 44, 45, 46, 47, 48, 49, 50, 51, 52, 53, 54, 55, 56, 57, 58, 59, 60, 61, 62, 63, 64, 65, 66, 19, 67, 68, 69, 6, 70, 71, 72, 73, 74, 75, 76, 77, 78, 79, 80, 81, 82, 83, 84, 85, 86, 87, 88, 89, 90, 91, 92, 93, 94, 95, 96, 97, 98, 99, 100, 101, 102, 103, 104, 105, 106, 17, 18, 20, 21, 107, 108, 109, 110, 111, 112, 113, 114, 115, 116, 117, 118, 119, 120, 121, 122, 123, 124, 125, 126, 127, 128, 129, 130, 131, 132, 133, 134, 135, 136, 137, 138, 139, 140, 141, 142, 143, 144, 145, 146, 147, 148, 149, 150, 151, 152, 153, 154, 155, 156, 157, 158, 159, 160, 161, 162, 163, 164, 165, 166, 167, 168, 169, 170, 171, 172, 173, 174, 175, 176, 177, 178, 179, 180, 181, 182, 183, 184, 185, 186, 187, 188, 189, 190, 191, 192, 193, 194, 206, 207, 208, 209, 210, 211, 212, 213, 214, 215, 216, 224, 225, 226, 227, 228, 229, 230, 231, 232, 233, 234, 235, 236, 237, 238, 239, 240, 241, 217, 218, 219, 220, 221, 222, 223] (by decide +kernel) (by decide +kernel)
set_option maxRecDepth 20000 in
theorem gX8_brightest_X6_findBest : GoodIn wsX8_brightest (wsV RX8 246 RX6 yX6_findBest wsX6_findBest) := goodIn_app (goodIn_of _ (by decide +kernel)) ggX8_brightest_X6_findBest
theorem dX8_brightest_0 : decode cX8_brightest 0 = .ok (.aload_n 0, 1) := by decide +kernel
theorem dX8_brightest_1 : decode cX8_brightest 1 = .ok (.iload_n 1, 1) := by decide +kernel
theorem dX8_brightest_2 : decode cX8_brightest 2 = .ok (.iload_n 3, 1) := by decide +kernel
theorem dX8_brightest_3 : decode cX8_brightest 3 = .ok (.invokevirtual 230, 3) := by decide +kernel
theorem dX8_brightest_6 : decode cX8_brightest 6 = .ok (.aload_n 0, 1) := by decide +kernel
theorem dX8_brightest_7 : decode cX8_brightest 7 = .ok (.getfield 62, 3) := by decide +kernel
theorem dX8_brightest_10 : decode cX8_brightest 10 = .ok (.iload_n 1, 1) := by decide +kernel
theorem dX8_brightest_11 : decode cX8_brightest 11 = .ok (.iload_n 2, 1) := by decide +kernel
theorem dX8_brightest_12 : decode cX8_brightest 12 = .ok (.iload_n 3, 1) := by decide +kernel
theorem dX8_brightest_13 : decode cX8_brightest 13 = .ok (.iconst 1, 1) := by decide +kernel
theorem dX8_brightest_14 : decode cX8_brightest 14 = .ok (.invokevirtual 246, 3) := by decide +kernel
theorem dX8_brightest_17 : decode cX8_brightest 17 = .ok (.aload_n 0, 1) := by decide +kernel
theorem dX8_brightest_18 : decode cX8_brightest 18 = .ok (.getfield 62, 3) := by decide +kernel
theorem dX8_brightest_21 : decode cX8_brightest 21 = .ok (.getfield 250, 3) := by decide +kernel
theorem dX8_brightest_24 : decode cX8_brightest 24 = .ok (.ireturn, 1) := by decide +kernel
set_option maxRecDepth 20000 in
theorem ggX8_farthest_X8_checkLayerAndEnd : GoodIn wsX8_farthest wsX8_checkLayerAndEnd := goodIn_ca (goodIn_ca (goodIn_r _ [8, 9, 10, 11, 7, 12, 13, 14, 15, 16, 17, 18, 19, 20, 21, 22, 23, 24, 25, 26, 27, 196, 197, 198, 199, 200, 201, 202, 203, 204, 205, 206, 218, 219, 220, 221, 222, 223, 224] (by decide +kernel) (by decide +kernel)) (goodIn_sub (fun _ h => List.mem_cons_of_mem _ (List.mem_append_left _ (List.mem_append_right _ h))) (by decide +kernel))) (goodIn_sub (fun _ h => List.mem_cons_of_mem _ (List.mem_append_right _ h)) (by decide +kernel))
set_option maxRecDepth 20000 in
theorem gX8_farthest_X8_checkLayerAndEnd : GoodIn wsX8_farthest (wsV RX8 230 RX8 yX8_checkLayerAndEnd wsX8_checkLayerAndEnd) := goodIn_app (goodIn_of _ (by decide +kernel)) ggX8_farthest_X8_checkLayerAndEnd
set_option maxRecDepth 20000 in
theorem ggX8_farthest_X6_findBest : GoodIn wsX8_farthest wsX6_findBest := goodIn_r _ [32, 33, 34, 35, 36, 37, 38, 39, 40, 41, 31, 42, 43, 44, 45, 46, 47, 48, 49, 50, 51, 52, 53, 54, 55, 56, 57, 58, 59, 60, 61, 62, 63, 64, 65, 66, 67, 20, 68, 69, 70, 7, 71, 72, 73, 74, 75, 76, 77, 78, 79, 80, 81, 82, 83, 84, 85, 86, 87, 88, 89, 90, 91, 92, 93, 94, 95, 96, 97, 98, 99, 100, 101, 102, 103, 104, 105, 106, 107, 18, 19, 21, 22, 108, 109, 110, 111, 112, 113, 114, 115, 116, 117, 118, 119, 120, 121, 122, 123, 124, 125, 126, 127, 128, 129, 130, 131, 132, 133, 134, 135, 136, 137, 138, 139, 140, 141, 142, 143, 144, 145, 146, 147, 148, 149, 150, 151, 152, 153, 154, 155, 156, 157, 158, 159, 160, 161, 162, 163, 164, 165, 166, 167, 168, 169, 170, 171, 172, 173, 174, 175, 176, 177, 178, 179, 180, 181, 182, 183, 184, 185, 186, 187, 188, 189, 190, 191, 192, 193, 194, 195, 207, 208, 209, 210, 211, 212, 213, 214, 215, 216, 217, 225, 226, 227, 228, 229, 230, 231, 232, 233, 234, 235, 236, 237, 238, 239, 240, 241, 242, 218, 219, 220, 221, 222, 223, 224] (by decide +kernel) (by decide +kernel)
set_option maxRecDepth 20000 in
theorem gX8_farthest_X6_findBest : GoodIn wsX8_farthest (wsV RX8 246 RX6 yX6_findBest wsX6_findBest) := goodIn_app (goodIn_of _ (by decide +kernel)) ggX8_farthest_X6_findBest
theorem dX8_farthest_0 : decode cX8_farthest 0 = .ok (.aload_n 0, 1) := by decide +kernel
theorem dX8_farthest_1 : decode cX8_farthest 1 = .ok (.iload_n 1, 1) := by decide +kernel
theorem dX8_farthest_2 : decode cX8_farthest 2 = .ok (.iload_n 3, 1) := by decide +kernel
theorem dX8_farthest_3 : decode cX8_farthest 3 = .ok (.invokevirtual 230, 3) := by decide +kernel
theorem dX8_farthest_6 : decode cX8_farthest 6 = .ok (.aload_n 0, 1) := by decide +kernel
theorem dX8_farthest_7 : decode cX8_farthest 7 = .ok (.getfield 62, 3) := by decide +kernel
theorem dX8_farthest_10 : decode cX8_farthest 10 = .ok (.iload_n 1, 1) := by decide +kernel
theorem dX8_farthest_11 : decode cX8_farthest 11 = .ok (.iload_n 2, 1) := by decide +kernel
theorem dX8_farthest_12 : decode cX8_farthest 12 = .ok (.iload_n 3, 1) := by decide +kernel
theorem dX8_farthest_13 : decode cX8_farthest 13 = .ok (.iconst 2, 1) := by decide +kernel
theorem dX8_farthest_14 : decode cX8_farthest 14 = .ok (.invokevirtual 246, 3) := by decide +kernel
theorem dX8_farthest_17 : decode cX8_farthest 17 = .ok (.aload_n 0, 1) := by decide +kernel
theorem dX8_farthest_18 : decode cX8_farthest 18 = .ok (.getfield 62, 3) := by decide +kernel
theorem dX8_farthest_21 : decode cX8_farthest 21 = .ok (.getfield 250, 3) := by decide +kernel
theorem dX8_farthest_24 : decode cX8_farthest 24 = .ok (.iconst (-1), 1) := by decide +kernel
theorem dX8_farthest_25 : decode cX8_farthest 25 = .ok (.if_icmp .ne 7, 3) := by decide +kernel
theorem dX8_farthest_28 : decode cX8_farthest 28 = .ok (.iconst (-1), 1) := by decide +kernel
theorem dX8_farthest_29 : decode cX8_farthest 29 = .ok (.goto 11, 3) := by decide +kernel
theorem dX8_farthest_32 : decode cX8_farthest 32 = .ok (.aload_n 0, 1) := by decide +kernel
theorem dX8_farthest_33 : decode cX8_farthest 33 = .ok (.getfield 62, 3) := by decide +kernel
theorem dX8_farthest_36 : decode cX8_farthest 36 = .ok (.getfield 253, 3) := by decide +kernel
theorem dX8_farthest_39 : decode cX8_farthest 39 = .ok (.l2i, 1) := by decide +kernel
theorem dX8_farthest_40 : decode cX8_farthest 40 = .ok (.ireturn, 1) := by decide +kernel
set_option maxRecDepth 20000 in
theorem ggX8_guide_X6_countSlants : GoodIn wsX8_guide wsX6_countSlants := goodIn_r _ [9, 10, 11, 12, 13, 14, 15, 8, 16, 17, 18, 19, 20, 21, 22, 23, 24, 25, 26, 27, 28, 29, 30, 31, 32, 33, 34, 35, 36, 37, 38, 39, 40, 41, 42, 43, 44, 45, 46, 47, 48, 49, 50, 51, 52, 53, 54, 55, 56, 57, 58, 59, 60, 61, 62, 63, 64, 65, 66, 67, 68, 69, 70, 71, 72, 73, 74, 75, 76, 77, 78, 79, 80, 81, 82, 83, 84, 85, 86, 87, 88, 89, 90, 91, 92, 93, 94, 95, 96, 97, 98, 99, 100, 101, 102, 103, 104, 105, 106, 107, 108, 109, 110, 111, 112, 113, 114, 115, 116, 117, 118, 119, 120, 121, 122, 123, 124, 125, 126, 127, 128, 129, 130, 131, 132, 133, 134, 135, 136, 137, 138, 139, 140, 141, 142, 143, 144, 145, 146, 147, 148, 149, 150, 151, 152, 153, 154, 155, 156, 157, 158, 159, 160, 161, 162, 163, 164, 165, 166, 185, 186, 187, 188, 189, 190, 191, 192, 193, 194, 195, 196, 197, 198, 199, 200, 201, 202, 203, 204, 205, 206, 207, 208, 209, 210, 211, 212, 213, 178, 179, 180, 181, 182, 183, 184] (by decide +kernel) (by decide +kernel)
set_option maxRecDepth 20000 in
theorem gX8_guide_X6_countSlants : GoodIn wsX8_guide (wsV RX8 233 RX6 yX6_countSlants wsX6_countSlants) := goodIn_app (goodIn_of _ (by decide +kernel)) ggX8_guide_X6_countSlants
theorem dX8_guide_0 : decode cX8_guide 0 = .ok (.iconst (-1), 1) := by decide +kernel
theorem dX8_guide_1 : decode cX8_guide 1 = .ok (.istore_n 1, 1) := by decide +kernel
theorem dX8_guide_2 : decode cX8_guide 2 = .ok (.iconst 0, 1) := by decide +kernel
theorem dX8_guide_3 : decode cX8_guide 3 = .ok (.istore_n 2, 1) := by decide +kernel
theorem dX8_guide_4 : decode cX8_guide 4 = .ok (.iconst 0, 1) := by decide +kernel
theorem dX8_guide_5 : decode cX8_guide 5 = .ok (.istore_n 3, 1) := by decide +kernel
theorem dX8_guide_6 : decode cX8_guide 6 = .ok (.iload_n 3, 1) := by decide +kernel
theorem dX8_guide_7 : decode cX8_guide 7 = .ok (.aload_n 0, 1) := by decide +kernel
theorem dX8_guide_8 : decode cX8_guide 8 = .ok (.getfield 22, 3) := by decide +kernel
theorem dX8_guide_11 : decode cX8_guide 11 = .ok (.getfield 75, 3) := by decide +kernel
theorem dX8_guide_14 : decode cX8_guide 14 = .ok (.getfield 114, 3) := by decide +kernel
theorem dX8_guide_17 : decode cX8_guide 17 = .ok (.if_icmp .ge 32, 3) := by decide +kernel
theorem dX8_guide_20 : decode cX8_guide 20 = .ok (.aload_n 0, 1) := by decide +kernel
theorem dX8_guide_21 : decode cX8_guide 21 = .ok (.getfield 62, 3) := by decide +kernel
theorem dX8_guide_24 : decode cX8_guide 24 = .ok (.iload_n 3, 1) := by decide +kernel
theorem dX8_guide_25 : decode cX8_guide 25 = .ok (.iconst 1, 1) := by decide +kernel
theorem dX8_guide_26 : decode cX8_guide 26 = .ok (.iconst 3, 1) := by decide +kernel
theorem dX8_guide_27 : decode cX8_guide 27 = .ok (.invokevirtual 233, 3) := by decide +kernel
theorem dX8_guide_30 : decode cX8_guide 30 = .ok (.istore 4, 2) := by decide +kernel
theorem dX8_guide_32 : decode cX8_guide 32 = .ok (.iload 4, 2) := by decide +kernel
theorem dX8_guide_34 : decode cX8_guide 34 = .ok (.iload_n 2, 1) := by decide +kernel
theorem dX8_guide_35 : decode cX8_guide 35 = .ok (.if_icmp .le 8, 3) := by decide +kernel
theorem dX8_guide_38 : decode cX8_guide 38 = .ok (.iload_n 3, 1) := by decide +kernel
theorem dX8_guide_39 : decode cX8_guide 39 = .ok (.istore_n 1, 1) := by decide +kernel
theorem dX8_guide_40 : decode cX8_guide 40 = .ok (.iload 4, 2) := by decide +kernel
theorem dX8_guide_42 : decode cX8_guide 42 = .ok (.istore_n 2, 1) := by decide +kernel
theorem dX8_guide_43 : decode cX8_guide 43 = .ok (.iinc 3 1, 3) := by decide +kernel
theorem dX8_guide_46 : decode cX8_guide 46 = .ok (.goto (-40), 3) := by decide +kernel
theorem dX8_guide_49 : decode cX8_guide 49 = .ok (.iload_n 1, 1) := by decide +kernel
theorem dX8_guide_50 : decode cX8_guide 50 = .ok (.ireturn, 1) := by decide +kernel
set_option maxRecDepth 20000 in
theorem ggX8_count_X8_checkRange : GoodIn wsX8_count wsX8_checkRange := goodIn_ca (goodIn_r _ [8, 9, 10] (by decide +kernel) (by decide +kernel)) (goodIn_sub (fun _ h => List.mem_cons_of_mem _ (List.mem_append_right _ h)) (by decide +kernel))
set_option maxRecDepth 20000 in
theorem gX8_count_X8_checkRange : GoodIn wsX8_count (va_wsS RX8 100 yX8_checkRange wsX8_checkRange) := goodIn_app (goodIn_of _ (by decide +kernel)) ggX8_count_X8_checkRange
set_option maxRecDepth 20000 in
theorem ggX8_count_X8_runOf : GoodIn wsX8_count wsX8_runOf := goodIn_r _ [14, 2, 15, 16, 17, 18, 19, 20, 21, 22, 23, 24, 25, 26, 27, 28, 29, 30, 31, 32, 33, 34, 35, 36, 37, 38, 39, 40, 41, 7, 42, 43, 44, 45, 46, 47, 48, 49, 50, 51, 52, 53, 54, 55, 56, 57, 58, 59, 60, 61, 62, 63, 64, 65, 66, 67, 68, 69, 70, 71, 72, 73, 74, 75, 76, 77, 78, 79, 80, 81, 82, 83, 84, 85, 86, 87, 88, 89, 90, 91, 92, 93, 94, 95, 96, 97, 98, 99, 100, 101, 102, 103, 104, 105, 106, 107, 108, 109, 110, 111, 112, 113, 114, 115, 116, 117, 118, 119, 120, 121, 122, 123, 124, 125, 126, 127, 128, 129, 130, 131, 132, 133, 134, 135, 136, 137, 138, 139, 140, 141, 142, 143, 144, 145, 157, 158, 159, 160, 161, 146, 147, 148, 149, 150, 151, 152, 153, 154, 155, 156, 164, 165, 166, 167, 168, 169, 170, 171, 172, 173, 174, 175, 176, 177, 178, 179, 180, 181, 162, 163] (by decide +kernel) (by decide +kernel)
set_option maxRecDepth 20000 in
theorem gX8_count_X8_runOf : GoodIn wsX8_count (wsV RX8 155 RX8 yX8_runOf wsX8_runOf) := goodIn_app (goodIn_of _ (by decide +kernel)) ggX8_count_X8_runOf
theorem dX8_count_0 : decode cX8_count 0 = .ok (.iload_n 1, 1) := by decide +kernel
theorem dX8_count_1 : decode cX8_count 1 = .ok (.iconst 0, 1) := by decide +kernel
theorem dX8_count_2 : decode cX8_count 2 = .ok (.iconst 4, 1) := by decide +kernel
theorem dX8_count_3 : decode cX8_count 3 = .ok (.invokestatic 100, 3) := by decide +kernel
theorem dX8_count_6 : decode cX8_count 6 = .ok (.iconst 0, 1) := by decide +kernel
theorem dX8_count_7 : decode cX8_count 7 = .ok (.istore_n 2, 1) := by decide +kernel
theorem dX8_count_8 : decode cX8_count 8 = .ok (.iconst 0, 1) := by decide +kernel
theorem dX8_count_9 : decode cX8_count 9 = .ok (.istore_n 3, 1) := by decide +kernel
theorem dX8_count_10 : decode cX8_count 10 = .ok (.iload_n 3, 1) := by decide +kernel
theorem dX8_count_11 : decode cX8_count 11 = .ok (.aload_n 0, 1) := by decide +kernel
theorem dX8_count_12 : decode cX8_count 12 = .ok (.getfield 22, 3) := by decide +kernel
theorem dX8_count_15 : decode cX8_count 15 = .ok (.getfield 133, 3) := by decide +kernel
theorem dX8_count_18 : decode cX8_count 18 = .ok (.getfield 114, 3) := by decide +kernel
theorem dX8_count_21 : decode cX8_count 21 = .ok (.if_icmp .ge 28, 3) := by decide +kernel
theorem dX8_count_24 : decode cX8_count 24 = .ok (.aload_n 0, 1) := by decide +kernel
theorem dX8_count_25 : decode cX8_count 25 = .ok (.aload_n 0, 1) := by decide +kernel
theorem dX8_count_26 : decode cX8_count 26 = .ok (.getfield 22, 3) := by decide +kernel
theorem dX8_count_29 : decode cX8_count 29 = .ok (.iload_n 3, 1) := by decide +kernel
theorem dX8_count_30 : decode cX8_count 30 = .ok (.invokevirtual 155, 3) := by decide +kernel
theorem dX8_count_33 : decode cX8_count 33 = .ok (.getfield 162, 3) := by decide +kernel
theorem dX8_count_36 : decode cX8_count 36 = .ok (.iload_n 1, 1) := by decide +kernel
theorem dX8_count_37 : decode cX8_count 37 = .ok (.if_icmp .ne 6, 3) := by decide +kernel
theorem dX8_count_40 : decode cX8_count 40 = .ok (.iinc 2 1, 3) := by decide +kernel
theorem dX8_count_43 : decode cX8_count 43 = .ok (.iinc 3 1, 3) := by decide +kernel
theorem dX8_count_46 : decode cX8_count 46 = .ok (.goto (-36), 3) := by decide +kernel
theorem dX8_count_49 : decode cX8_count 49 = .ok (.iload_n 2, 1) := by decide +kernel
theorem dX8_count_50 : decode cX8_count 50 = .ok (.ireturn, 1) := by decide +kernel
set_option maxRecDepth 20000 in
theorem ggX8_first_X8_runOf : GoodIn wsX8_first wsX8_runOf := goodIn_r _ [9, 2, 10, 11, 12, 13, 14, 15, 16, 17, 18, 19, 20, 21, 22, 23, 24, 25, 26, 27, 28, 29, 30, 31, 32, 33, 34, 35, 36, 8, 37, 38, 39, 40, 41, 42, 43, 44, 45, 46, 47, 48, 49, 50, 51, 52, 53, 54, 55, 56, 57, 58, 59, 60, 61, 62, 63, 64, 65, 66, 67, 68, 69, 70, 71, 72, 73, 74, 75, 76, 77, 78, 79, 80, 81, 82, 83, 84, 85, 86, 87, 88, 89, 90, 91, 92, 93, 94, 95, 96, 97, 98, 99, 100, 101, 102, 103, 104, 105, 106, 107, 108, 109, 110, 111, 112, 113, 114, 115, 116, 117, 118, 119, 120, 121, 122, 123, 124, 125, 126, 127, 128, 129, 130, 131, 132, 133, 134, 135, 136, 137, 138, 139, 140, 156, 157, 158, 159, 160, 145, 146, 147, 148, 149, 150, 151, 152, 153, 154, 155, 163, 164, 165, 166, 167, 168, 169, 170, 171, 172, 173, 174, 175, 176, 177, 178, 179, 180, 161, 162] (by decide +kernel) (by decide +kernel)
set_option maxRecDepth 20000 in
theorem gX8_first_X8_runOf : GoodIn wsX8_first (wsV RX8 155 RX8 yX8_runOf wsX8_runOf) := goodIn_app (goodIn_of _ (by decide +kernel)) ggX8_first_X8_runOf
set_option maxRecDepth 20000 in
theorem ggX8_first_X4_isOut : GoodIn wsX8_first wsX4_isOut := goodIn_r _ [144, 58, 163, 164, 165, 166, 167, 168, 169, 170, 171, 172, 173, 174, 175, 176, 177, 178, 179, 180] (by decide +kernel) (by decide +kernel)
set_option maxRecDepth 20000 in
theorem gX8_first_X4_isOut : GoodIn wsX8_first (wsV RX8 257 RX4 yX4_isOut wsX4_isOut) := goodIn_app (goodIn_of _ (by decide +kernel)) ggX8_first_X4_isOut
theorem dX8_first_0 : decode cX8_first 0 = .ok (.iconst (-1), 1) := by decide +kernel
theorem dX8_first_1 : decode cX8_first 1 = .ok (.istore_n 1, 1) := by decide +kernel
theorem dX8_first_2 : decode cX8_first 2 = .ok (.iconst 0, 1) := by decide +kernel
theorem dX8_first_3 : decode cX8_first 3 = .ok (.istore_n 2, 1) := by decide +kernel
theorem dX8_first_4 : decode cX8_first 4 = .ok (.iconst 0, 1) := by decide +kernel
theorem dX8_first_5 : decode cX8_first 5 = .ok (.istore_n 3, 1) := by decide +kernel
theorem dX8_first_6 : decode cX8_first 6 = .ok (.iload_n 3, 1) := by decide +kernel
theorem dX8_first_7 : decode cX8_first 7 = .ok (.aload_n 0, 1) := by decide +kernel
theorem dX8_first_8 : decode cX8_first 8 = .ok (.getfield 22, 3) := by decide +kernel
theorem dX8_first_11 : decode cX8_first 11 = .ok (.getfield 133, 3) := by decide +kernel
theorem dX8_first_14 : decode cX8_first 14 = .ok (.getfield 114, 3) := by decide +kernel
theorem dX8_first_17 : decode cX8_first 17 = .ok (.if_icmp .ge 50, 3) := by decide +kernel
theorem dX8_first_20 : decode cX8_first 20 = .ok (.aload_n 0, 1) := by decide +kernel
theorem dX8_first_21 : decode cX8_first 21 = .ok (.aload_n 0, 1) := by decide +kernel
theorem dX8_first_22 : decode cX8_first 22 = .ok (.getfield 22, 3) := by decide +kernel
theorem dX8_first_25 : decode cX8_first 25 = .ok (.iload_n 3, 1) := by decide +kernel
theorem dX8_first_26 : decode cX8_first 26 = .ok (.invokevirtual 155, 3) := by decide +kernel
theorem dX8_first_29 : decode cX8_first 29 = .ok (.astore 4, 2) := by decide +kernel
theorem dX8_first_31 : decode cX8_first 31 = .ok (.aload 4, 2) := by decide +kernel
theorem dX8_first_33 : decode cX8_first 33 = .ok (.invokevirtual 257, 3) := by decide +kernel
theorem dX8_first_36 : decode cX8_first 36 = .ok (.ifCond .eq 25, 3) := by decide +kernel
theorem dX8_first_39 : decode cX8_first 39 = .ok (.iload_n 1, 1) := by decide +kernel
theorem dX8_first_40 : decode cX8_first 40 = .ok (.iconst (-1), 1) := by decide +kernel
theorem dX8_first_41 : decode cX8_first 41 = .ok (.if_icmp .eq 12, 3) := by decide +kernel
theorem dX8_first_44 : decode cX8_first 44 = .ok (.aload 4, 2) := by decide +kernel
theorem dX8_first_46 : decode cX8_first 46 = .ok (.getfield 171, 3) := by decide +kernel
theorem dX8_first_49 : decode cX8_first 49 = .ok (.iload_n 2, 1) := by decide +kernel
theorem dX8_first_50 : decode cX8_first 50 = .ok (.if_icmp .ge 11, 3) := by decide +kernel
theorem dX8_first_53 : decode cX8_first 53 = .ok (.iload_n 3, 1) := by decide +kernel
theorem dX8_first_54 : decode cX8_first 54 = .ok (.istore_n 1, 1) := by decide +kernel
theorem dX8_first_55 : decode cX8_first 55 = .ok (.aload 4, 2) := by decide +kernel
theorem dX8_first_57 : decode cX8_first 57 = .ok (.getfield 171, 3) := by decide +kernel
theorem dX8_first_60 : decode cX8_first 60 = .ok (.istore_n 2, 1) := by decide +kernel
theorem dX8_first_61 : decode cX8_first 61 = .ok (.iinc 3 1, 3) := by decide +kernel
theorem dX8_first_64 : decode cX8_first 64 = .ok (.goto (-58), 3) := by decide +kernel
theorem dX8_first_67 : decode cX8_first 67 = .ok (.iload_n 1, 1) := by decide +kernel
theorem dX8_first_68 : decode cX8_first 68 = .ok (.ireturn, 1) := by decide +kernel
set_option maxRecDepth 20000 in
theorem ggX8_strongest_X8_runOf : GoodIn wsX8_strongest wsX8_runOf := goodIn_r _ [9, 2, 10, 11, 12, 13, 14, 15, 16, 17, 18, 19, 20, 21, 22, 23, 24, 25, 26, 27, 28, 29, 30, 31, 32, 33, 34, 35, 36, 8, 37, 38, 39, 40, 41, 42, 43, 44, 45, 46, 47, 48, 49, 50, 51, 52, 53, 54, 55, 56, 57, 58, 59, 60, 61, 62, 63, 64, 65, 66, 67, 68, 69, 70, 71, 72, 73, 74, 75, 76, 77, 78, 79, 80, 81, 82, 83, 84, 85, 86, 87, 88, 89, 90, 91, 92, 93, 94, 95, 96, 97, 98, 99, 100, 101, 102, 103, 104, 105, 106, 107, 108, 109, 110, 111, 112, 113, 114, 115, 116, 117, 118, 119, 120, 121, 122, 123, 124, 125, 126, 127, 128, 129, 130, 131, 132, 133, 134, 135, 136, 137, 138, 139, 140, 156, 157, 158, 159, 160, 145, 146, 147, 148, 149, 150, 151, 152, 153, 154, 155, 163, 164, 165, 166, 167, 168, 169, 170, 171, 172, 173, 174, 175, 176, 177, 178, 179, 180, 161, 162] (by decide +kernel) (by decide +kernel)
set_option maxRecDepth 20000 in
theorem gX8_strongest_X8_runOf : GoodIn wsX8_strongest (wsV RX8 155 RX8 yX8_runOf wsX8_runOf) := goodIn_app (goodIn_of _ (by decide +kernel)) ggX8_strongest_X8_runOf
set_option maxRecDepth 20000 in
theorem ggX8_strongest_X4_isOut : GoodIn wsX8_strongest wsX4_isOut := goodIn_r _ [144, 58, 163, 164, 165, 166, 167, 168, 169, 170, 171, 172, 173, 174, 175, 176, 177, 178, 179, 180] (by decide +kernel) (by decide +kernel)
set_option maxRecDepth 20000 in
theorem gX8_strongest_X4_isOut : GoodIn wsX8_strongest (wsV RX8 257 RX4 yX4_isOut wsX4_isOut) := goodIn_app (goodIn_of _ (by decide +kernel)) ggX8_strongest_X4_isOut
theorem dX8_strongest_0 : decode cX8_strongest 0 = .ok (.iconst (-1), 1) := by decide +kernel
theorem dX8_strongest_1 : decode cX8_strongest 1 = .ok (.istore_n 1, 1) := by decide +kernel
theorem dX8_strongest_2 : decode cX8_strongest 2 = .ok (.iconst 0, 1) := by decide +kernel
theorem dX8_strongest_3 : decode cX8_strongest 3 = .ok (.istore_n 2, 1) := by decide +kernel
theorem dX8_strongest_4 : decode cX8_strongest 4 = .ok (.iconst 0, 1) := by decide +kernel
theorem dX8_strongest_5 : decode cX8_strongest 5 = .ok (.istore_n 3, 1) := by decide +kernel
theorem dX8_strongest_6 : decode cX8_strongest 6 = .ok (.iload_n 3, 1) := by decide +kernel
theorem dX8_strongest_7 : decode cX8_strongest 7 = .ok (.aload_n 0, 1) := by decide +kernel
theorem dX8_strongest_8 : decode cX8_strongest 8 = .ok (.getfield 22, 3) := by decide +kernel
theorem dX8_strongest_11 : decode cX8_strongest 11 = .ok (.getfield 133, 3) := by decide +kernel
theorem dX8_strongest_14 : decode cX8_strongest 14 = .ok (.getfield 114, 3) := by decide +kernel
theorem dX8_strongest_17 : decode cX8_strongest 17 = .ok (.if_icmp .ge 50, 3) := by decide +kernel
theorem dX8_strongest_20 : decode cX8_strongest 20 = .ok (.aload_n 0, 1) := by decide +kernel
theorem dX8_strongest_21 : decode cX8_strongest 21 = .ok (.aload_n 0, 1) := by decide +kernel
theorem dX8_strongest_22 : decode cX8_strongest 22 = .ok (.getfield 22, 3) := by decide +kernel
theorem dX8_strongest_25 : decode cX8_strongest 25 = .ok (.iload_n 3, 1) := by decide +kernel
theorem dX8_strongest_26 : decode cX8_strongest 26 = .ok (.invokevirtual 155, 3) := by decide +kernel
theorem dX8_strongest_29 : decode cX8_strongest 29 = .ok (.astore 4, 2) := by decide +kernel
theorem dX8_strongest_31 : decode cX8_strongest 31 = .ok (.aload 4, 2) := by decide +kernel
theorem dX8_strongest_33 : decode cX8_strongest 33 = .ok (.invokevirtual 257, 3) := by decide +kernel
theorem dX8_strongest_36 : decode cX8_strongest 36 = .ok (.ifCond .eq 25, 3) := by decide +kernel
theorem dX8_strongest_39 : decode cX8_strongest 39 = .ok (.iload_n 1, 1) := by decide +kernel
theorem dX8_strongest_40 : decode cX8_strongest 40 = .ok (.iconst (-1), 1) := by decide +kernel
theorem dX8_strongest_41 : decode cX8_strongest 41 = .ok (.if_icmp .eq 12, 3) := by decide +kernel
theorem dX8_strongest_44 : decode cX8_strongest 44 = .ok (.aload 4, 2) := by decide +kernel
theorem dX8_strongest_46 : decode cX8_strongest 46 = .ok (.getfield 174, 3) := by decide +kernel
theorem dX8_strongest_49 : decode cX8_strongest 49 = .ok (.iload_n 2, 1) := by decide +kernel
theorem dX8_strongest_50 : decode cX8_strongest 50 = .ok (.if_icmp .le 11, 3) := by decide +kernel
theorem dX8_strongest_53 : decode cX8_strongest 53 = .ok (.iload_n 3, 1) := by decide +kernel
theorem dX8_strongest_54 : decode cX8_strongest 54 = .ok (.istore_n 1, 1) := by decide +kernel
theorem dX8_strongest_55 : decode cX8_strongest 55 = .ok (.aload 4, 2) := by decide +kernel
theorem dX8_strongest_57 : decode cX8_strongest 57 = .ok (.getfield 174, 3) := by decide +kernel
theorem dX8_strongest_60 : decode cX8_strongest 60 = .ok (.istore_n 2, 1) := by decide +kernel
theorem dX8_strongest_61 : decode cX8_strongest 61 = .ok (.iinc 3 1, 3) := by decide +kernel
theorem dX8_strongest_64 : decode cX8_strongest 64 = .ok (.goto (-58), 3) := by decide +kernel
theorem dX8_strongest_67 : decode cX8_strongest 67 = .ok (.iload_n 1, 1) := by decide +kernel
theorem dX8_strongest_68 : decode cX8_strongest 68 = .ok (.ireturn, 1) := by decide +kernel
set_option maxRecDepth 20000 in
theorem ggX8_alike_X8_checkTwoShots : GoodIn wsX8_alike wsX8_checkTwoShots := goodIn_ca (goodIn_ca (goodIn_r _ [7, 8, 9, 10, 11, 12, 6, 13, 14, 15, 16, 17, 18, 19, 20, 21, 22, 23, 178, 179, 180, 181, 182, 183, 184, 185, 186, 187, 188, 189, 190, 191, 192, 193, 194, 195] (by decide +kernel) (by decide +kernel)) (goodIn_sub (fun _ h => List.mem_cons_of_mem _ (List.mem_append_left _ (List.mem_append_right _ h))) (by decide +kernel))) (goodIn_sub (fun _ h => List.mem_cons_of_mem _ (List.mem_append_right _ h)) (by decide +kernel))
set_option maxRecDepth 20000 in
theorem gX8_alike_X8_checkTwoShots : GoodIn wsX8_alike (wsV RX8 260 RX8 yX8_checkTwoShots wsX8_checkTwoShots) := goodIn_app (goodIn_of _ (by decide +kernel)) ggX8_alike_X8_checkTwoShots
set_option maxRecDepth 20000 in
theorem ggX8_alike_X8_pathOf : GoodIn wsX8_alike wsX8_pathOf := goodIn_r _ [27, 16, 17, 28, 29, 30, 21, 31, 32, 33, 34, 35, 36, 37, 38, 39, 40, 41, 42, 43, 44, 45, 46, 47, 48, 49, 50, 51, 52, 53, 54, 55, 56, 57, 58, 59, 60, 61, 62, 63, 64, 65, 66, 6, 67, 68, 69, 70, 71, 72, 73, 74, 75, 76, 77, 78, 79, 80, 81, 82, 83, 84, 85, 86, 87, 88, 89, 90, 91, 19, 20, 22, 23, 92, 93, 94, 95, 96, 97, 98, 99, 100, 101, 102, 103, 104, 105, 106, 107, 108, 109, 110, 111, 112, 113, 114, 115, 116, 117, 118, 119, 120, 121, 122, 123, 124, 125, 126, 127, 128, 129, 130, 131, 132, 133, 134, 135, 136, 137, 138, 139, 140, 141, 142, 143, 144, 145, 146, 147, 148, 149, 150, 151, 152, 153, 154, 155, 156, 157, 158, 159, 160, 161, 162, 163, 164, 165, 166, 167, 168, 169, 178, 179, 180, 181, 182, 183, 184, 185, 186, 187, 188, 189, 190, 191, 192, 193, 194, 195, 196, 197, 198, 199, 200, 201, 202, 203, 204, 205, 206, 207, 208, 209, 210, 211, 212, 213, 214, 215, 216, 217] (by decide +kernel) (by decide +kernel)
set_option maxRecDepth 20000 in
theorem gX8_alike_X8_pathOf : GoodIn wsX8_alike (wsV RX8 191 RX8 yX8_pathOf wsX8_pathOf) := goodIn_app (goodIn_of _ (by decide +kernel)) ggX8_alike_X8_pathOf
set_option maxRecDepth 20000 in
theorem ggX8_alike_X3_legsAlike : GoodIn wsX8_alike wsX3_legsAlike := goodIn_r _ [173, 43, 174, 175, 176, 36, 177, 104, 121, 6, 122, 196, 197, 198, 199] (by decide +kernel) (by decide +kernel)
set_option maxRecDepth 20000 in
theorem gX8_alike_X3_legsAlike : GoodIn wsX8_alike (wsV RX8 263 RX3 yX3_legsAlike wsX3_legsAlike) := goodIn_app (goodIn_of _ (by decide +kernel)) ggX8_alike_X3_legsAlike
theorem dX8_alike_0 : decode cX8_alike 0 = .ok (.aload_n 0, 1) := by decide +kernel
theorem dX8_alike_1 : decode cX8_alike 1 = .ok (.iload_n 1, 1) := by decide +kernel
theorem dX8_alike_2 : decode cX8_alike 2 = .ok (.iload_n 2, 1) := by decide +kernel
theorem dX8_alike_3 : decode cX8_alike 3 = .ok (.invokevirtual 260, 3) := by decide +kernel
theorem dX8_alike_6 : decode cX8_alike 6 = .ok (.aload_n 0, 1) := by decide +kernel
theorem dX8_alike_7 : decode cX8_alike 7 = .ok (.aload_n 0, 1) := by decide +kernel
theorem dX8_alike_8 : decode cX8_alike 8 = .ok (.getfield 52, 3) := by decide +kernel
theorem dX8_alike_11 : decode cX8_alike 11 = .ok (.iload_n 1, 1) := by decide +kernel
theorem dX8_alike_12 : decode cX8_alike 12 = .ok (.invokevirtual 191, 3) := by decide +kernel
theorem dX8_alike_15 : decode cX8_alike 15 = .ok (.aload_n 0, 1) := by decide +kernel
theorem dX8_alike_16 : decode cX8_alike 16 = .ok (.aload_n 0, 1) := by decide +kernel
theorem dX8_alike_17 : decode cX8_alike 17 = .ok (.getfield 56, 3) := by decide +kernel
theorem dX8_alike_20 : decode cX8_alike 20 = .ok (.iload_n 2, 1) := by decide +kernel
theorem dX8_alike_21 : decode cX8_alike 21 = .ok (.invokevirtual 191, 3) := by decide +kernel
theorem dX8_alike_24 : decode cX8_alike 24 = .ok (.invokevirtual 263, 3) := by decide +kernel
theorem dX8_alike_27 : decode cX8_alike 27 = .ok (.ireturn, 1) := by decide +kernel
set_option maxRecDepth 20000 in
theorem ggX8_together_X8_checkTwoShots : GoodIn wsX8_together wsX8_checkTwoShots := goodIn_ca (goodIn_ca (goodIn_r _ [7, 8, 9, 10, 11, 12, 6, 13, 14, 15, 16, 17, 18, 19, 20, 21, 22, 23, 185, 186, 187, 188, 189, 190, 191, 192, 193, 194, 195, 196, 197, 198, 199, 200, 201, 202] (by decide +kernel) (by decide +kernel)) (goodIn_sub (fun _ h => List.mem_cons_of_mem _ (List.mem_append_left _ (List.mem_append_right _ h))) (by decide +kernel))) (goodIn_sub (fun _ h => List.mem_cons_of_mem _ (List.mem_append_right _ h)) (by decide +kernel))
set_option maxRecDepth 20000 in
theorem gX8_together_X8_checkTwoShots : GoodIn wsX8_together (wsV RX8 260 RX8 yX8_checkTwoShots wsX8_checkTwoShots) := goodIn_app (goodIn_of _ (by decide +kernel)) ggX8_together_X8_checkTwoShots
set_option maxRecDepth 20000 in
theorem ggX8_together_X8_pathOf : GoodIn wsX8_together wsX8_pathOf := goodIn_r _ [27, 16, 17, 28, 29, 30, 21, 31, 32, 33, 34, 35, 36, 37, 38, 39, 40, 41, 42, 43, 44, 45, 46, 47, 48, 49, 50, 51, 52, 53, 54, 55, 56, 57, 58, 59, 60, 61, 62, 63, 64, 65, 66, 6, 67, 68, 69, 70, 71, 72, 73, 74, 75, 76, 77, 78, 79, 80, 81, 82, 83, 84, 85, 86, 87, 88, 89, 90, 91, 19, 20, 22, 23, 92, 93, 94, 95, 96, 97, 98, 99, 100, 101, 102, 103, 104, 105, 106, 107, 108, 109, 110, 111, 112, 113, 114, 115, 116, 117, 118, 119, 120, 121, 122, 123, 124, 125, 126, 127, 128, 129, 130, 131, 132, 133, 134, 135, 136, 137, 138, 139, 140, 141, 142, 143, 144, 145, 146, 147, 148, 149, 150, 151, 152, 153, 154, 155, 156, 157, 158, 159, 160, 161, 162, 163, 164, 165, 166, 167, 168, 169, 185, 186, 187, 188, 189, 190, 191, 192, 193, 194, 195, 196, 197, 198, 199, 200, 201, 202, 203, 204, 205, 206, 207, 208, 209, 210, 211, 212, 213, 214, 215, 216, 217, 218, 219, 220, 221, 222, 223, 224] (by decide +kernel) (by decide +kernel)
set_option maxRecDepth 20000 in
theorem gX8_together_X8_pathOf : GoodIn wsX8_together (wsV RX8 191 RX8 yX8_pathOf wsX8_pathOf) := goodIn_app (goodIn_of _ (by decide +kernel)) ggX8_together_X8_pathOf
set_option maxRecDepth 20000 in
theorem ggX8_together_X3_meetingTime : GoodIn wsX8_together wsX3_meetingTime := goodIn_r _ [173, 43, 174, 175, 111, 176, 177, 178, 179, 36, 180, 104, 121, 6, 122, 181, 182, 183, 184, 203, 204, 205, 206] (by decide +kernel) (by decide +kernel)
set_option maxRecDepth 20000 in
theorem gX8_together_X3_meetingTime : GoodIn wsX8_together (wsV RX8 267 RX3 yX3_meetingTime wsX3_meetingTime) := goodIn_app (goodIn_of _ (by decide +kernel)) ggX8_together_X3_meetingTime
theorem dX8_together_0 : decode cX8_together 0 = .ok (.aload_n 0, 1) := by decide +kernel
theorem dX8_together_1 : decode cX8_together 1 = .ok (.iload_n 1, 1) := by decide +kernel
theorem dX8_together_2 : decode cX8_together 2 = .ok (.iload_n 2, 1) := by decide +kernel
theorem dX8_together_3 : decode cX8_together 3 = .ok (.invokevirtual 260, 3) := by decide +kernel
theorem dX8_together_6 : decode cX8_together 6 = .ok (.aload_n 0, 1) := by decide +kernel
theorem dX8_together_7 : decode cX8_together 7 = .ok (.aload_n 0, 1) := by decide +kernel
theorem dX8_together_8 : decode cX8_together 8 = .ok (.getfield 52, 3) := by decide +kernel
theorem dX8_together_11 : decode cX8_together 11 = .ok (.iload_n 1, 1) := by decide +kernel
theorem dX8_together_12 : decode cX8_together 12 = .ok (.invokevirtual 191, 3) := by decide +kernel
theorem dX8_together_15 : decode cX8_together 15 = .ok (.aload_n 0, 1) := by decide +kernel
theorem dX8_together_16 : decode cX8_together 16 = .ok (.aload_n 0, 1) := by decide +kernel
theorem dX8_together_17 : decode cX8_together 17 = .ok (.getfield 56, 3) := by decide +kernel
theorem dX8_together_20 : decode cX8_together 20 = .ok (.iload_n 2, 1) := by decide +kernel
theorem dX8_together_21 : decode cX8_together 21 = .ok (.invokevirtual 191, 3) := by decide +kernel
theorem dX8_together_24 : decode cX8_together 24 = .ok (.invokevirtual 267, 3) := by decide +kernel
theorem dX8_together_27 : decode cX8_together 27 = .ok (.ireturn, 1) := by decide +kernel
set_option maxRecDepth 20000 in
theorem ggX8_legsIn_X8_checkLayer : GoodIn wsX8_legsIn wsX8_checkLayer := goodIn_ca (goodIn_r _ [5, 6, 7, 8, 9, 10, 11, 12, 13, 14, 15, 177, 178, 179, 180, 181, 182, 183, 184, 185, 186, 187, 188, 189, 190, 191, 192, 193, 194] (by decide +kernel) (by decide +kernel)) (goodIn_sub (fun _ h => List.mem_cons_of_mem _ (List.mem_append_right _ h)) (by decide +kernel))
set_option maxRecDepth 20000 in
theorem gX8_legsIn_X8_checkLayer : GoodIn wsX8_legsIn (wsV RX8 145 RX8 yX8_checkLayer wsX8_checkLayer) := goodIn_app (goodIn_of _ (by decide +kernel)) ggX8_legsIn_X8_checkLayer
set_option maxRecDepth 20000 in
theorem ggX8_legsIn_X8_legsAcross : GoodIn wsX8_legsIn wsX8_legsAcross := goodIn_r _ [19, 8, 20, 21, 22, 23, 24, 25, 4, 26, 27, 28, 29, 13, 30, 31, 32, 33, 34, 35, 36, 37, 38, 39, 40, 41, 42, 43, 44, 45, 46, 47, 48, 49, 50, 51, 52, 53, 54, 55, 56, 57, 58, 59, 60, 61, 62, 63, 64, 65, 66, 67, 68, 69, 70, 71, 72, 73, 74, 75, 76, 77, 78, 79, 80, 81, 82, 83, 84, 85, 86, 87, 88, 89, 90, 11, 12, 14, 15, 91, 92, 93, 94, 95, 96, 97, 98, 99, 100, 101, 102, 103, 104, 105, 106, 107, 108, 109, 110, 111, 112, 113, 114, 115, 116, 117, 118, 119, 120, 121, 122, 123, 124, 125, 126, 127, 128, 129, 130, 131, 132, 133, 134, 135, 136, 137, 138, 139, 140, 141, 142, 143, 144, 145, 146, 147, 148, 149, 150, 151, 152, 153, 154, 155, 156, 157, 158, 159, 160, 161, 162, 163, 164, 165, 166, 167, 168, 169, 170, 171, 172, 173, 174, 175, 176, 177, 178, 179, 180, 181, 182, 183, 184, 185, 186, 187, 188, 189, 190, 191, 192, 193, 194, 195, 196, 197, 198, 199, 200, 201, 202, 203, 204, 205, 206, 207, 208, 209, 210, 211, 212, 213, 214, 215, 216] (by decide +kernel) (by decide +kernel)
set_option maxRecDepth 20000 in
theorem gX8_legsIn_X8_legsAcross : GoodIn wsX8_legsIn (wsV RX8 270 RX8 yX8_legsAcross wsX8_legsAcross) := goodIn_app (goodIn_of _ (by decide +kernel)) ggX8_legsIn_X8_legsAcross
theorem dX8_legsIn_0 : decode cX8_legsIn 0 = .ok (.aload_n 0, 1) := by decide +kernel
theorem dX8_legsIn_1 : decode cX8_legsIn 1 = .ok (.iload_n 1, 1) := by decide +kernel
theorem dX8_legsIn_2 : decode cX8_legsIn 2 = .ok (.invokevirtual 145, 3) := by decide +kernel
theorem dX8_legsIn_5 : decode cX8_legsIn 5 = .ok (.aload_n 0, 1) := by decide +kernel
theorem dX8_legsIn_6 : decode cX8_legsIn 6 = .ok (.iload_n 1, 1) := by decide +kernel
theorem dX8_legsIn_7 : decode cX8_legsIn 7 = .ok (.invokevirtual 270, 3) := by decide +kernel
theorem dX8_legsIn_10 : decode cX8_legsIn 10 = .ok (.ireturn, 1) := by decide +kernel
set_option maxRecDepth 20000 in
theorem ggX8_busiest_X8_legsAcross : GoodIn wsX8_busiest wsX8_legsAcross := goodIn_r _ [8, 1, 9, 3, 10, 11, 12, 13, 7, 14, 15, 16, 17, 18, 19, 20, 21, 22, 23, 24, 25, 26, 27, 28, 29, 30, 31, 32, 33, 34, 35, 36, 37, 38, 39, 40, 41, 42, 43, 44, 45, 46, 47, 48, 49, 50, 51, 52, 53, 54, 55, 56, 57, 58, 59, 60, 61, 62, 63, 64, 65, 66, 67, 68, 69, 70, 71, 72, 73, 74, 75, 76, 77, 78, 79, 80, 81, 82, 83, 84, 85, 86, 87, 88, 89, 90, 91, 92, 93, 94, 95, 96, 97, 98, 99, 100, 101, 102, 103, 104, 105, 106, 107, 108, 109, 110, 111, 112, 113, 114, 115, 116, 117, 118, 119, 120, 121, 122, 123, 124, 125, 126, 127, 128, 129, 130, 131, 132, 133, 134, 135, 136, 137, 138, 139, 140, 141, 142, 143, 144, 145, 146, 147, 148, 149, 150, 151, 152, 153, 154, 155, 156, 157, 158, 159, 160, 161, 162, 163, 164, 165, 166, 167, 168, 169, 170, 171, 172, 173, 174, 175, 176, 177, 178, 179, 180, 181, 182, 183, 184, 185, 186, 187, 188, 189, 190, 191, 192, 193, 194, 195, 196, 197, 198, 199, 200, 201, 202, 203, 204, 205, 206, 207, 208, 209] (by decide +kernel) (by decide +kernel)
set_option maxRecDepth 20000 in
theorem gX8_busiest_X8_legsAcross : GoodIn wsX8_busiest (wsV RX8 270 RX8 yX8_legsAcross wsX8_legsAcross) := goodIn_app (goodIn_of _ (by decide +kernel)) ggX8_busiest_X8_legsAcross
theorem dX8_busiest_0 : decode cX8_busiest 0 = .ok (.iconst (-1), 1) := by decide +kernel
theorem dX8_busiest_1 : decode cX8_busiest 1 = .ok (.istore_n 1, 1) := by decide +kernel
theorem dX8_busiest_2 : decode cX8_busiest 2 = .ok (.iconst 0, 1) := by decide +kernel
theorem dX8_busiest_3 : decode cX8_busiest 3 = .ok (.istore_n 2, 1) := by decide +kernel
theorem dX8_busiest_4 : decode cX8_busiest 4 = .ok (.iconst 0, 1) := by decide +kernel
theorem dX8_busiest_5 : decode cX8_busiest 5 = .ok (.istore_n 3, 1) := by decide +kernel
theorem dX8_busiest_6 : decode cX8_busiest 6 = .ok (.iload_n 3, 1) := by decide +kernel
theorem dX8_busiest_7 : decode cX8_busiest 7 = .ok (.aload_n 0, 1) := by decide +kernel
theorem dX8_busiest_8 : decode cX8_busiest 8 = .ok (.getfield 22, 3) := by decide +kernel
theorem dX8_busiest_11 : decode cX8_busiest 11 = .ok (.getfield 75, 3) := by decide +kernel
theorem dX8_busiest_14 : decode cX8_busiest 14 = .ok (.getfield 114, 3) := by decide +kernel
theorem dX8_busiest_17 : decode cX8_busiest 17 = .ok (.if_icmp .ge 27, 3) := by decide +kernel
theorem dX8_busiest_20 : decode cX8_busiest 20 = .ok (.aload_n 0, 1) := by decide +kernel
theorem dX8_busiest_21 : decode cX8_busiest 21 = .ok (.iload_n 3, 1) := by decide +kernel
theorem dX8_busiest_22 : decode cX8_busiest 22 = .ok (.invokevirtual 270, 3) := by decide +kernel
theorem dX8_busiest_25 : decode cX8_busiest 25 = .ok (.istore 4, 2) := by decide +kernel
theorem dX8_busiest_27 : decode cX8_busiest 27 = .ok (.iload 4, 2) := by decide +kernel
theorem dX8_busiest_29 : decode cX8_busiest 29 = .ok (.iload_n 2, 1) := by decide +kernel
theorem dX8_busiest_30 : decode cX8_busiest 30 = .ok (.if_icmp .le 8, 3) := by decide +kernel
theorem dX8_busiest_33 : decode cX8_busiest 33 = .ok (.iload_n 3, 1) := by decide +kernel
theorem dX8_busiest_34 : decode cX8_busiest 34 = .ok (.istore_n 1, 1) := by decide +kernel
theorem dX8_busiest_35 : decode cX8_busiest 35 = .ok (.iload 4, 2) := by decide +kernel
theorem dX8_busiest_37 : decode cX8_busiest 37 = .ok (.istore_n 2, 1) := by decide +kernel
theorem dX8_busiest_38 : decode cX8_busiest 38 = .ok (.iinc 3 1, 3) := by decide +kernel
theorem dX8_busiest_41 : decode cX8_busiest 41 = .ok (.goto (-35), 3) := by decide +kernel
theorem dX8_busiest_44 : decode cX8_busiest 44 = .ok (.iload_n 1, 1) := by decide +kernel
theorem dX8_busiest_45 : decode cX8_busiest 45 = .ok (.ireturn, 1) := by decide +kernel
set_option maxRecDepth 20000 in
theorem ggX8_meanIndex_X7_get : GoodIn wsX8_meanIndex wsX7_get := goodIn_r _ [8, 9, 34, 35] (by decide +kernel) (by decide +kernel)
set_option maxRecDepth 20000 in
theorem gX8_meanIndex_X7_get : GoodIn wsX8_meanIndex (wsV RX8 148 RX7 yX7_get wsX7_get) := goodIn_app (goodIn_of _ (by decide +kernel)) ggX8_meanIndex_X7_get
set_option maxRecDepth 20000 in
theorem ggX8_meanIndex_X5_depthOf : GoodIn wsX8_meanIndex wsX5_depthOf := goodIn_r _ [14, 15, 16, 17, 5, 6, 7, 8, 9, 29, 30, 31, 32, 33, 34, 35] (by decide +kernel) (by decide +kernel)
set_option maxRecDepth 20000 in
theorem gX8_meanIndex_X5_depthOf : GoodIn wsX8_meanIndex (wsV RX8 136 RX5 yX5_depthOf wsX5_depthOf) := goodIn_app (goodIn_of _ (by decide +kernel)) ggX8_meanIndex_X5_depthOf
theorem dX8_meanIndex_0 : decode cX8_meanIndex 0 = .ok (.iconst 0, 1) := by decide +kernel
theorem dX8_meanIndex_1 : decode cX8_meanIndex 1 = .ok (.istore_n 1, 1) := by decide +kernel
theorem dX8_meanIndex_2 : decode cX8_meanIndex 2 = .ok (.iconst 0, 1) := by decide +kernel
theorem dX8_meanIndex_3 : decode cX8_meanIndex 3 = .ok (.istore_n 2, 1) := by decide +kernel
theorem dX8_meanIndex_4 : decode cX8_meanIndex 4 = .ok (.iload_n 2, 1) := by decide +kernel
theorem dX8_meanIndex_5 : decode cX8_meanIndex 5 = .ok (.aload_n 0, 1) := by decide +kernel
theorem dX8_meanIndex_6 : decode cX8_meanIndex 6 = .ok (.getfield 22, 3) := by decide +kernel
theorem dX8_meanIndex_9 : decode cX8_meanIndex 9 = .ok (.getfield 75, 3) := by decide +kernel
theorem dX8_meanIndex_12 : decode cX8_meanIndex 12 = .ok (.getfield 114, 3) := by decide +kernel
theorem dX8_meanIndex_15 : decode cX8_meanIndex 15 = .ok (.if_icmp .ge 37, 3) := by decide +kernel
theorem dX8_meanIndex_18 : decode cX8_meanIndex 18 = .ok (.iload_n 1, 1) := by decide +kernel
theorem dX8_meanIndex_19 : decode cX8_meanIndex 19 = .ok (.aload_n 0, 1) := by decide +kernel
theorem dX8_meanIndex_20 : decode cX8_meanIndex 20 = .ok (.getfield 22, 3) := by decide +kernel
theorem dX8_meanIndex_23 : decode cX8_meanIndex 23 = .ok (.getfield 75, 3) := by decide +kernel
theorem dX8_meanIndex_26 : decode cX8_meanIndex 26 = .ok (.iload_n 2, 1) := by decide +kernel
theorem dX8_meanIndex_27 : decode cX8_meanIndex 27 = .ok (.iconst 0, 1) := by decide +kernel
theorem dX8_meanIndex_28 : decode cX8_meanIndex 28 = .ok (.invokevirtual 148, 3) := by decide +kernel
theorem dX8_meanIndex_31 : decode cX8_meanIndex 31 = .ok (.aload_n 0, 1) := by decide +kernel
theorem dX8_meanIndex_32 : decode cX8_meanIndex 32 = .ok (.getfield 22, 3) := by decide +kernel
theorem dX8_meanIndex_35 : decode cX8_meanIndex 35 = .ok (.getfield 75, 3) := by decide +kernel
theorem dX8_meanIndex_38 : decode cX8_meanIndex 38 = .ok (.iload_n 2, 1) := by decide +kernel
theorem dX8_meanIndex_39 : decode cX8_meanIndex 39 = .ok (.iconst 1, 1) := by decide +kernel
theorem dX8_meanIndex_40 : decode cX8_meanIndex 40 = .ok (.invokevirtual 148, 3) := by decide +kernel
theorem dX8_meanIndex_43 : decode cX8_meanIndex 43 = .ok (.imul, 1) := by decide +kernel
theorem dX8_meanIndex_44 : decode cX8_meanIndex 44 = .ok (.iadd, 1) := by decide +kernel
theorem dX8_meanIndex_45 : decode cX8_meanIndex 45 = .ok (.istore_n 1, 1) := by decide +kernel
theorem dX8_meanIndex_46 : decode cX8_meanIndex 46 = .ok (.iinc 2 1, 3) := by decide +kernel
theorem dX8_meanIndex_49 : decode cX8_meanIndex 49 = .ok (.goto (-45), 3) := by decide +kernel
theorem dX8_meanIndex_52 : decode cX8_meanIndex 52 = .ok (.aload_n 0, 1) := by decide +kernel
theorem dX8_meanIndex_53 : decode cX8_meanIndex 53 = .ok (.getfield 22, 3) := by decide +kernel
theorem dX8_meanIndex_56 : decode cX8_meanIndex 56 = .ok (.aload_n 0, 1) := by decide +kernel
theorem dX8_meanIndex_57 : decode cX8_meanIndex 57 = .ok (.getfield 22, 3) := by decide +kernel
theorem dX8_meanIndex_60 : decode cX8_meanIndex 60 = .ok (.getfield 75, 3) := by decide +kernel
theorem dX8_meanIndex_63 : decode cX8_meanIndex 63 = .ok (.getfield 114, 3) := by decide +kernel
theorem dX8_meanIndex_66 : decode cX8_meanIndex 66 = .ok (.invokevirtual 136, 3) := by decide +kernel
theorem dX8_meanIndex_69 : decode cX8_meanIndex 69 = .ok (.istore_n 2, 1) := by decide +kernel
theorem dX8_meanIndex_70 : decode cX8_meanIndex 70 = .ok (.iload_n 2, 1) := by decide +kernel
theorem dX8_meanIndex_71 : decode cX8_meanIndex 71 = .ok (.ifCond .le 11, 3) := by decide +kernel
theorem dX8_meanIndex_74 : decode cX8_meanIndex 74 = .ok (.iload_n 1, 1) := by decide +kernel
theorem dX8_meanIndex_75 : decode cX8_meanIndex 75 = .ok (.i2d, 1) := by decide +kernel
theorem dX8_meanIndex_76 : decode cX8_meanIndex 76 = .ok (.iload_n 2, 1) := by decide +kernel
theorem dX8_meanIndex_77 : decode cX8_meanIndex 77 = .ok (.i2d, 1) := by decide +kernel
theorem dX8_meanIndex_78 : decode cX8_meanIndex 78 = .ok (.ddiv, 1) := by decide +kernel
theorem dX8_meanIndex_79 : decode cX8_meanIndex 79 = .ok (.goto 4, 3) := by decide +kernel
theorem dX8_meanIndex_82 : decode cX8_meanIndex 82 = .ok (.dconst 0, 1) := by decide +kernel
theorem dX8_meanIndex_83 : decode cX8_meanIndex 83 = .ok (.dreturn, 1) := by decide +kernel
set_option maxRecDepth 20000 in
theorem ggX8_share_X8_checkShot : GoodIn wsX8_share wsX8_checkShot := goodIn_ca (goodIn_r _ [8, 9, 10, 1, 11, 12, 13, 14, 15, 16, 17, 148, 149, 150, 151, 152, 153, 154, 155, 156, 157, 158, 177, 178, 179, 180, 181, 182, 183] (by decide +kernel) (by decide +kernel)) (goodIn_sub (fun _ h => List.mem_cons_of_mem _ (List.mem_append_right _ h)) (by decide +kernel))
set_option maxRecDepth 20000 in
theorem gX8_share_X8_checkShot : GoodIn wsX8_share (wsV RX8 152 RX8 yX8_checkShot wsX8_checkShot) := goodIn_app (goodIn_of _ (by decide +kernel)) ggX8_share_X8_checkShot
set_option maxRecDepth 20000 in
theorem ggX8_share_X8_runOf : GoodIn wsX8_share wsX8_runOf := goodIn_r _ [21, 11, 22, 23, 24, 25, 26, 27, 28, 29, 30, 31, 32, 33, 34, 35, 36, 37, 38, 39, 40, 41, 42, 43, 44, 15, 45, 46, 47, 7, 48, 49, 50, 51, 52, 53, 54, 55, 56, 57, 58, 59, 60, 61, 62, 63, 64, 65, 66, 67, 68, 69, 70, 71, 72, 73, 74, 75, 76, 77, 13, 14, 16, 17, 78, 79, 80, 81, 82, 83, 84, 85, 86, 87, 88, 89, 90, 91, 92, 93, 94, 95, 96, 97, 98, 99, 100, 101, 102, 103, 104, 105, 106, 107, 108, 109, 110, 111, 112, 113, 114, 115, 116, 117, 118, 119, 120, 121, 122, 123, 124, 125, 126, 127, 128, 129, 130, 131, 132, 133, 134, 135, 136, 137, 138, 139, 140, 141, 142, 143, 144, 145, 146, 147, 177, 178, 179, 180, 181, 148, 149, 150, 151, 152, 153, 154, 155, 156, 157, 158, 159, 160, 161, 162, 163, 164, 165, 166, 167, 168, 169, 170, 171, 172, 173, 174, 175, 176, 182, 183] (by decide +kernel) (by decide +kernel)
set_option maxRecDepth 20000 in
theorem gX8_share_X8_runOf : GoodIn wsX8_share (wsV RX8 155 RX8 yX8_runOf wsX8_runOf) := goodIn_app (goodIn_of _ (by decide +kernel)) ggX8_share_X8_runOf
theorem dX8_share_0 : decode cX8_share 0 = .ok (.aload_n 0, 1) := by decide +kernel
theorem dX8_share_1 : decode cX8_share 1 = .ok (.iload_n 1, 1) := by decide +kernel
theorem dX8_share_2 : decode cX8_share 2 = .ok (.invokevirtual 152, 3) := by decide +kernel
theorem dX8_share_5 : decode cX8_share 5 = .ok (.aload_n 0, 1) := by decide +kernel
theorem dX8_share_6 : decode cX8_share 6 = .ok (.aload_n 0, 1) := by decide +kernel
theorem dX8_share_7 : decode cX8_share 7 = .ok (.getfield 22, 3) := by decide +kernel
theorem dX8_share_10 : decode cX8_share 10 = .ok (.iload_n 1, 1) := by decide +kernel
theorem dX8_share_11 : decode cX8_share 11 = .ok (.invokevirtual 155, 3) := by decide +kernel
theorem dX8_share_14 : decode cX8_share 14 = .ok (.getfield 174, 3) := by decide +kernel
theorem dX8_share_17 : decode cX8_share 17 = .ok (.i2f, 1) := by decide +kernel
theorem dX8_share_18 : decode cX8_share 18 = .ok (.ldc_w 273, 3) := by decide +kernel
theorem dX8_share_21 : decode cX8_share 21 = .ok (.fdiv, 1) := by decide +kernel
theorem dX8_share_22 : decode cX8_share 22 = .ok (.freturn, 1) := by decide +kernel
set_option maxRecDepth 20000 in
theorem ggX8_endIf_X8_checkShot : GoodIn wsX8_endIf wsX8_checkShot := goodIn_ca (goodIn_r _ [9, 10, 11, 2, 12, 13, 14, 15, 16, 17, 18, 182, 183, 184, 185, 186, 187, 188, 189, 190, 191, 192, 193, 194, 195, 196, 197, 216, 217] (by decide +kernel) (by decide +kernel)) (goodIn_sub (fun _ h => List.mem_cons_of_mem _ (List.mem_append_left _ (List.mem_append_right _ h))) (by decide +kernel))
set_option maxRecDepth 20000 in
theorem gX8_endIf_X8_checkShot : GoodIn wsX8_endIf (wsV RX8 152 RX8 yX8_checkShot wsX8_checkShot) := goodIn_app (goodIn_of _ (by decide +kernel)) ggX8_endIf_X8_checkShot
set_option maxRecDepth 20000 in
theorem ggX8_endIf_X8_checkLayer : GoodIn wsX8_endIf wsX8_checkLayer := goodIn_ca (goodIn_r _ [22, 10, 11, 2, 3, 13, 14, 15, 16, 17, 18, 182, 183, 184, 185, 186, 187, 188, 189, 190, 191, 192, 193, 194, 195, 196, 197, 216, 217] (by decide +kernel) (by decide +kernel)) (goodIn_sub (fun _ h => List.mem_cons_of_mem _ (List.mem_append_left _ (List.mem_append_right _ h))) (by decide +kernel))
set_option maxRecDepth 20000 in
theorem gX8_endIf_X8_checkLayer : GoodIn wsX8_endIf (wsV RX8 145 RX8 yX8_checkLayer wsX8_checkLayer) := goodIn_app (goodIn_of _ (by decide +kernel)) ggX8_endIf_X8_checkLayer
set_option maxRecDepth 20000 in
theorem ggX8_endIf_X8_checkRange : GoodIn wsX8_endIf wsX8_checkRange := goodIn_ca (goodIn_r _ [25, 26, 27] (by decide +kernel) (by decide +kernel)) (goodIn_sub (fun _ h => List.mem_cons_of_mem _ (List.mem_append_right _ h)) (by decide +kernel))
set_option maxRecDepth 20000 in
theorem gX8_endIf_X8_checkRange : GoodIn wsX8_endIf (va_wsS RX8 100 yX8_checkRange wsX8_checkRange) := goodIn_app (goodIn_of _ (by decide +kernel)) ggX8_endIf_X8_checkRange
set_option maxRecDepth 20000 in
theorem ggX8_endIf_X5_become : GoodIn wsX8_endIf wsX5_become := goodIn_r _ [32, 33, 34, 35, 36, 37, 38, 39, 40, 16, 41, 42, 43, 44, 45, 46, 47, 48, 49, 50, 18, 51, 52, 53, 31, 54, 193, 194, 195, 196, 197, 216, 217] (by decide +kernel) (by decide +kernel)
set_option maxRecDepth 20000 in
theorem gX8_endIf_X5_become : GoodIn wsX8_endIf (wsV RX8 111 RX5 yX5_become wsX5_become) := goodIn_app (goodIn_of _ (by decide +kernel)) ggX8_endIf_X5_become
set_option maxRecDepth 20000 in
theorem ggX8_endIf_X7_set : GoodIn wsX8_endIf wsX7_set := goodIn_r _ [58, 42, 59, 8, 60, 216, 217] (by decide +kernel) (by decide +kernel)
set_option maxRecDepth 20000 in
theorem gX8_endIf_X7_set : GoodIn wsX8_endIf (wsV RX8 274 RX7 yX7_set wsX7_set) := goodIn_app (goodIn_of _ (by decide +kernel)) ggX8_endIf_X7_set
set_option maxRecDepth 20000 in
theorem ggX8_endIf_X8_runOf : GoodIn wsX8_endIf wsX8_runOf := goodIn_r _ [64, 12, 65, 66, 67, 68, 69, 70, 71, 72, 73, 74, 75, 76, 77, 31, 78, 35, 33, 79, 36, 37, 80, 81, 82, 16, 83, 42, 59, 8, 60, 84, 85, 86, 87, 88, 89, 90, 91, 92, 93, 94, 95, 96, 97, 98, 99, 100, 101, 102, 103, 104, 105, 106, 107, 108, 109, 110, 111, 112, 14, 15, 17, 18, 113, 114, 115, 116, 117, 118, 119, 120, 121, 122, 123, 124, 125, 126, 45, 127, 128, 129, 130, 131, 132, 133, 134, 135, 136, 137, 138, 139, 140, 141, 142, 143, 144, 145, 146, 147, 148, 149, 150, 151, 152, 153, 154, 155, 156, 157, 158, 159, 160, 161, 162, 163, 164, 165, 166, 167, 168, 169, 170, 171, 172, 173, 174, 175, 176, 177, 178, 179, 180, 181, 193, 194, 195, 196, 197, 182, 183, 184, 185, 186, 187, 188, 189, 190, 191, 192, 198, 199, 200, 201, 202, 203, 204, 205, 206, 207, 208, 209, 210, 211, 212, 213, 214, 215, 216, 217] (by decide +kernel) (by decide +kernel)
set_option maxRecDepth 20000 in
theorem gX8_endIf_X8_runOf : GoodIn wsX8_endIf (wsV RX8 155 RX8 yX8_runOf wsX8_runOf) := goodIn_app (goodIn_of _ (by decide +kernel)) ggX8_endIf_X8_runOf
theorem dX8_endIf_0 : decode cX8_endIf 0 = .ok (.aload_n 0, 1) := by decide +kernel
theorem dX8_endIf_1 : decode cX8_endIf 1 = .ok (.iload_n 1, 1) := by decide +kernel
theorem dX8_endIf_2 : decode cX8_endIf 2 = .ok (.invokevirtual 152, 3) := by decide +kernel
theorem dX8_endIf_5 : decode cX8_endIf 5 = .ok (.aload_n 0, 1) := by decide +kernel
theorem dX8_endIf_6 : decode cX8_endIf 6 = .ok (.iload_n 2, 1) := by decide +kernel
theorem dX8_endIf_7 : decode cX8_endIf 7 = .ok (.invokevirtual 145, 3) := by decide +kernel
theorem dX8_endIf_10 : decode cX8_endIf 10 = .ok (.iload_n 3, 1) := by decide +kernel
theorem dX8_endIf_11 : decode cX8_endIf 11 = .ok (.sipush 1000, 3) := by decide +kernel
theorem dX8_endIf_14 : decode cX8_endIf 14 = .ok (.sipush 4000, 3) := by decide +kernel
theorem dX8_endIf_17 : decode cX8_endIf 17 = .ok (.invokestatic 100, 3) := by decide +kernel
theorem dX8_endIf_20 : decode cX8_endIf 20 = .ok (.aload_n 0, 1) := by decide +kernel
theorem dX8_endIf_21 : decode cX8_endIf 21 = .ok (.getfield 26, 3) := by decide +kernel
theorem dX8_endIf_24 : decode cX8_endIf 24 = .ok (.aload_n 0, 1) := by decide +kernel
theorem dX8_endIf_25 : decode cX8_endIf 25 = .ok (.getfield 22, 3) := by decide +kernel
theorem dX8_endIf_28 : decode cX8_endIf 28 = .ok (.invokevirtual 111, 3) := by decide +kernel
theorem dX8_endIf_31 : decode cX8_endIf 31 = .ok (.aload_n 0, 1) := by decide +kernel
theorem dX8_endIf_32 : decode cX8_endIf 32 = .ok (.getfield 26, 3) := by decide +kernel
theorem dX8_endIf_35 : decode cX8_endIf 35 = .ok (.getfield 75, 3) := by decide +kernel
theorem dX8_endIf_38 : decode cX8_endIf 38 = .ok (.iload_n 2, 1) := by decide +kernel
theorem dX8_endIf_39 : decode cX8_endIf 39 = .ok (.iconst 0, 1) := by decide +kernel
theorem dX8_endIf_40 : decode cX8_endIf 40 = .ok (.iload_n 3, 1) := by decide +kernel
theorem dX8_endIf_41 : decode cX8_endIf 41 = .ok (.invokevirtual 274, 3) := by decide +kernel
theorem dX8_endIf_44 : decode cX8_endIf 44 = .ok (.aload_n 0, 1) := by decide +kernel
theorem dX8_endIf_45 : decode cX8_endIf 45 = .ok (.aload_n 0, 1) := by decide +kernel
theorem dX8_endIf_46 : decode cX8_endIf 46 = .ok (.getfield 26, 3) := by decide +kernel
theorem dX8_endIf_49 : decode cX8_endIf 49 = .ok (.iload_n 1, 1) := by decide +kernel
theorem dX8_endIf_50 : decode cX8_endIf 50 = .ok (.invokevirtual 155, 3) := by decide +kernel
theorem dX8_endIf_53 : decode cX8_endIf 53 = .ok (.getfield 162, 3) := by decide +kernel
theorem dX8_endIf_56 : decode cX8_endIf 56 = .ok (.ireturn, 1) := by decide +kernel
set_option maxRecDepth 20000 in
theorem ggX8_bestWithout_X8_checkShot : GoodIn wsX8_bestWithout wsX8_checkShot := goodIn_ca (goodIn_r _ [10, 11, 12, 1, 13, 14, 15, 16, 17, 18, 19, 183, 184, 185, 186, 187, 188, 189, 190, 191, 192, 193, 194, 195, 196, 197, 198, 199, 200] (by decide +kernel) (by decide +kernel)) (goodIn_sub (fun _ h => List.mem_cons_of_mem _ (List.mem_append_right _ h)) (by decide +kernel))
set_option maxRecDepth 20000 in
theorem gX8_bestWithout_X8_checkShot : GoodIn wsX8_bestWithout (wsV RX8 152 RX8 yX8_checkShot wsX8_checkShot) := goodIn_app (goodIn_of _ (by decide +kernel)) ggX8_bestWithout_X8_checkShot
set_option maxRecDepth 20000 in
theorem ggX8_bestWithout_X5_become : GoodIn wsX8_bestWithout wsX5_become := goodIn_r _ [24, 25, 26, 27, 28, 29, 30, 31, 32, 17, 33, 34, 35, 36, 37, 38, 39, 40, 41, 42, 19, 43, 44, 45, 23, 46, 194, 195, 196, 197, 198, 199, 200] (by decide +kernel) (by decide +kernel)
set_option maxRecDepth 20000 in
theorem gX8_bestWithout_X5_become : GoodIn wsX8_bestWithout (wsV RX8 111 RX5 yX5_become wsX5_become) := goodIn_app (goodIn_of _ (by decide +kernel)) ggX8_bestWithout_X5_become
set_option maxRecDepth 20000 in
theorem ggX8_bestWithout_X7_remove : GoodIn wsX8_bestWithout wsX7_remove := goodIn_r _ [50, 19, 51, 52, 53, 17, 54, 55, 56, 57, 58, 34, 59, 60, 61, 62, 63, 9, 64, 199, 200] (by decide +kernel) (by decide +kernel)
set_option maxRecDepth 20000 in
theorem gX8_bestWithout_X7_remove : GoodIn wsX8_bestWithout (wsV RX8 277 RX7 yX7_remove wsX7_remove) := goodIn_app (goodIn_of _ (by decide +kernel)) ggX8_bestWithout_X7_remove
set_option maxRecDepth 20000 in
theorem ggX8_bestWithout_X8_runOf : GoodIn wsX8_bestWithout wsX8_runOf := goodIn_r _ [68, 13, 69, 70, 71, 72, 73, 74, 75, 76, 77, 78, 79, 80, 81, 23, 82, 27, 25, 83, 28, 29, 84, 56, 57, 17, 58, 34, 63, 9, 64, 85, 86, 87, 88, 89, 90, 91, 92, 93, 94, 95, 96, 97, 98, 99, 100, 101, 102, 103, 104, 105, 106, 107, 108, 109, 110, 111, 112, 113, 15, 16, 18, 19, 114, 115, 116, 117, 118, 119, 120, 121, 122, 123, 124, 125, 126, 127, 37, 128, 129, 130, 131, 132, 133, 134, 135, 136, 137, 138, 139, 140, 141, 142, 143, 144, 145, 146, 147, 148, 149, 150, 151, 152, 153, 154, 155, 156, 157, 158, 159, 160, 161, 162, 163, 164, 165, 166, 167, 168, 169, 170, 171, 172, 173, 174, 175, 176, 177, 178, 179, 180, 181, 182, 194, 195, 196, 197, 198, 183, 184, 185, 186, 187, 188, 189, 190, 191, 192, 193, 201, 202, 203, 204, 205, 206, 207, 208, 209, 210, 211, 212, 213, 214, 215, 216, 217, 218, 199, 200] (by decide +kernel) (by decide +kernel)
set_option maxRecDepth 20000 in
theorem gX8_bestWithout_X8_runOf : GoodIn wsX8_bestWithout (wsV RX8 155 RX8 yX8_runOf wsX8_runOf) := goodIn_app (goodIn_of _ (by decide +kernel)) ggX8_bestWithout_X8_runOf
theorem dX8_bestWithout_0 : decode cX8_bestWithout 0 = .ok (.aload_n 0, 1) := by decide +kernel
theorem dX8_bestWithout_1 : decode cX8_bestWithout 1 = .ok (.iload_n 1, 1) := by decide +kernel
theorem dX8_bestWithout_2 : decode cX8_bestWithout 2 = .ok (.invokevirtual 152, 3) := by decide +kernel
theorem dX8_bestWithout_5 : decode cX8_bestWithout 5 = .ok (.aload_n 0, 1) := by decide +kernel
theorem dX8_bestWithout_6 : decode cX8_bestWithout 6 = .ok (.getfield 22, 3) := by decide +kernel
theorem dX8_bestWithout_9 : decode cX8_bestWithout 9 = .ok (.getfield 75, 3) := by decide +kernel
theorem dX8_bestWithout_12 : decode cX8_bestWithout 12 = .ok (.getfield 114, 3) := by decide +kernel
theorem dX8_bestWithout_15 : decode cX8_bestWithout 15 = .ok (.iconst 2, 1) := by decide +kernel
theorem dX8_bestWithout_16 : decode cX8_bestWithout 16 = .ok (.if_icmp .ge 5, 3) := by decide +kernel
theorem dX8_bestWithout_19 : decode cX8_bestWithout 19 = .ok (.iconst (-1), 1) := by decide +kernel
theorem dX8_bestWithout_20 : decode cX8_bestWithout 20 = .ok (.ireturn, 1) := by decide +kernel
theorem dX8_bestWithout_21 : decode cX8_bestWithout 21 = .ok (.iconst (-1), 1) := by decide +kernel
theorem dX8_bestWithout_22 : decode cX8_bestWithout 22 = .ok (.istore_n 2, 1) := by decide +kernel
theorem dX8_bestWithout_23 : decode cX8_bestWithout 23 = .ok (.iconst 0, 1) := by decide +kernel
theorem dX8_bestWithout_24 : decode cX8_bestWithout 24 = .ok (.istore_n 3, 1) := by decide +kernel
theorem dX8_bestWithout_25 : decode cX8_bestWithout 25 = .ok (.iconst 0, 1) := by decide +kernel
theorem dX8_bestWithout_26 : decode cX8_bestWithout 26 = .ok (.istore 4, 2) := by decide +kernel
theorem dX8_bestWithout_28 : decode cX8_bestWithout 28 = .ok (.iload 4, 2) := by decide +kernel
theorem dX8_bestWithout_30 : decode cX8_bestWithout 30 = .ok (.aload_n 0, 1) := by decide +kernel
theorem dX8_bestWithout_31 : decode cX8_bestWithout 31 = .ok (.getfield 22, 3) := by decide +kernel
theorem dX8_bestWithout_34 : decode cX8_bestWithout 34 = .ok (.getfield 75, 3) := by decide +kernel
theorem dX8_bestWithout_37 : decode cX8_bestWithout 37 = .ok (.getfield 114, 3) := by decide +kernel
theorem dX8_bestWithout_40 : decode cX8_bestWithout 40 = .ok (.if_icmp .ge 63, 3) := by decide +kernel
theorem dX8_bestWithout_43 : decode cX8_bestWithout 43 = .ok (.aload_n 0, 1) := by decide +kernel
theorem dX8_bestWithout_44 : decode cX8_bestWithout 44 = .ok (.getfield 26, 3) := by decide +kernel
theorem dX8_bestWithout_47 : decode cX8_bestWithout 47 = .ok (.aload_n 0, 1) := by decide +kernel
theorem dX8_bestWithout_48 : decode cX8_bestWithout 48 = .ok (.getfield 22, 3) := by decide +kernel
theorem dX8_bestWithout_51 : decode cX8_bestWithout 51 = .ok (.invokevirtual 111, 3) := by decide +kernel
theorem dX8_bestWithout_54 : decode cX8_bestWithout 54 = .ok (.aload_n 0, 1) := by decide +kernel
theorem dX8_bestWithout_55 : decode cX8_bestWithout 55 = .ok (.getfield 26, 3) := by decide +kernel
theorem dX8_bestWithout_58 : decode cX8_bestWithout 58 = .ok (.getfield 75, 3) := by decide +kernel
theorem dX8_bestWithout_61 : decode cX8_bestWithout 61 = .ok (.iload 4, 2) := by decide +kernel
theorem dX8_bestWithout_63 : decode cX8_bestWithout 63 = .ok (.invokevirtual 277, 3) := by decide +kernel
theorem dX8_bestWithout_66 : decode cX8_bestWithout 66 = .ok (.aload_n 0, 1) := by decide +kernel
theorem dX8_bestWithout_67 : decode cX8_bestWithout 67 = .ok (.aload_n 0, 1) := by decide +kernel
theorem dX8_bestWithout_68 : decode cX8_bestWithout 68 = .ok (.getfield 26, 3) := by decide +kernel
theorem dX8_bestWithout_71 : decode cX8_bestWithout 71 = .ok (.iload_n 1, 1) := by decide +kernel
theorem dX8_bestWithout_72 : decode cX8_bestWithout 72 = .ok (.invokevirtual 155, 3) := by decide +kernel
theorem dX8_bestWithout_75 : decode cX8_bestWithout 75 = .ok (.getfield 174, 3) := by decide +kernel
theorem dX8_bestWithout_78 : decode cX8_bestWithout 78 = .ok (.istore 5, 2) := by decide +kernel
theorem dX8_bestWithout_80 : decode cX8_bestWithout 80 = .ok (.iload_n 2, 1) := by decide +kernel
theorem dX8_bestWithout_81 : decode cX8_bestWithout 81 = .ok (.iconst (-1), 1) := by decide +kernel
theorem dX8_bestWithout_82 : decode cX8_bestWithout 82 = .ok (.if_icmp .eq 9, 3) := by decide +kernel
theorem dX8_bestWithout_85 : decode cX8_bestWithout 85 = .ok (.iload 5, 2) := by decide +kernel
theorem dX8_bestWithout_87 : decode cX8_bestWithout 87 = .ok (.iload_n 3, 1) := by decide +kernel
theorem dX8_bestWithout_88 : decode cX8_bestWithout 88 = .ok (.if_icmp .le 9, 3) := by decide +kernel
theorem dX8_bestWithout_91 : decode cX8_bestWithout 91 = .ok (.iload 4, 2) := by decide +kernel
theorem dX8_bestWithout_93 : decode cX8_bestWithout 93 = .ok (.istore_n 2, 1) := by decide +kernel
theorem dX8_bestWithout_94 : decode cX8_bestWithout 94 = .ok (.iload 5, 2) := by decide +kernel
theorem dX8_bestWithout_96 : decode cX8_bestWithout 96 = .ok (.istore_n 3, 1) := by decide +kernel
theorem dX8_bestWithout_97 : decode cX8_bestWithout 97 = .ok (.iinc 4 1, 3) := by decide +kernel
theorem dX8_bestWithout_100 : decode cX8_bestWithout 100 = .ok (.goto (-72), 3) := by decide +kernel
theorem dX8_bestWithout_103 : decode cX8_bestWithout 103 = .ok (.iload_n 2, 1) := by decide +kernel
theorem dX8_bestWithout_104 : decode cX8_bestWithout 104 = .ok (.ireturn, 1) := by decide +kernel
set_option maxRecDepth 20000 in
theorem ggX8_addLayer_X8_checkRange : GoodIn wsX8_addLayer wsX8_checkRange := goodIn_ca (goodIn_r _ [12, 13, 14] (by decide +kernel) (by decide +kernel)) (goodIn_sub (fun _ h => List.mem_cons_of_mem _ (List.mem_append_right _ h)) (by decide +kernel))
set_option maxRecDepth 20000 in
theorem gX8_addLayer_X8_checkRange : GoodIn wsX8_addLayer (va_wsS RX8 100 yX8_checkRange wsX8_checkRange) := goodIn_app (goodIn_of _ (by decide +kernel)) ggX8_addLayer_X8_checkRange
set_option maxRecDepth 20000 in
theorem ggX8_addLayer_X1_remember : GoodIn wsX8_addLayer wsX1_remember := goodIn_r _ [19, 20, 21, 22, 23, 24, 25, 26, 27, 28, 29, 30, 11, 31, 32, 33, 34, 35, 36, 37, 38, 39, 40, 41, 42, 43, 44, 45, 46, 47, 48, 49, 50, 51, 52, 53, 54, 55, 56, 57, 58, 59, 60, 61, 62, 63, 64, 65, 66, 67, 104, 105, 106, 97, 98, 99, 100, 101, 102, 103] (by decide +kernel) (by decide +kernel)
set_option maxRecDepth 20000 in
theorem gX8_addLayer_X1_remember : GoodIn wsX8_addLayer (wsV RX8 108 RX1 yX1_remember wsX1_remember) := goodIn_app (goodIn_of _ (by decide +kernel)) ggX8_addLayer_X1_remember
set_option maxRecDepth 20000 in
theorem ggX8_addLayer_X7_insert : GoodIn wsX8_addLayer wsX7_insert := goodIn_r _ [71, 50, 72, 73, 74, 39, 75, 76, 77, 78, 79, 49, 80, 81, 82, 83, 84, 11, 85, 102, 103] (by decide +kernel) (by decide +kernel)
set_option maxRecDepth 20000 in
theorem gX8_addLayer_X7_insert : GoodIn wsX8_addLayer (wsV RX8 79 RX7 yX7_insert wsX7_insert) := goodIn_app (goodIn_of _ (by decide +kernel)) ggX8_addLayer_X7_insert
theorem dX8_addLayer_0 : decode cX8_addLayer 0 = .ok (.iload_n 1, 1) := by decide +kernel
theorem dX8_addLayer_1 : decode cX8_addLayer 1 = .ok (.ifCond .lt 17, 3) := by decide +kernel
theorem dX8_addLayer_4 : decode cX8_addLayer 4 = .ok (.iload_n 1, 1) := by decide +kernel
theorem dX8_addLayer_5 : decode cX8_addLayer 5 = .ok (.aload_n 0, 1) := by decide +kernel
theorem dX8_addLayer_6 : decode cX8_addLayer 6 = .ok (.getfield 22, 3) := by decide +kernel
theorem dX8_addLayer_9 : decode cX8_addLayer 9 = .ok (.getfield 75, 3) := by decide +kernel
theorem dX8_addLayer_12 : decode cX8_addLayer 12 = .ok (.getfield 114, 3) := by decide +kernel
theorem dX8_addLayer_15 : decode cX8_addLayer 15 = .ok (.if_icmp .le 14, 3) := by decide +kernel
theorem dX8_addLayer_18 : decode cX8_addLayer 18 = .ok (.new 196, 3) := by decide +kernel
theorem dX8_addLayer_21 : decode cX8_addLayer 21 = .ok (.dup, 1) := by decide +kernel
theorem dX8_addLayer_22 : decode cX8_addLayer 22 = .ok (.ldc_w 280, 3) := by decide +kernel
theorem dX8_addLayer_25 : decode cX8_addLayer 25 = .ok (.invokespecial 200, 3) := by decide +kernel
theorem dX8_addLayer_28 : decode cX8_addLayer 28 = .ok (.athrow, 1) := by decide +kernel
theorem dX8_addLayer_29 : decode cX8_addLayer 29 = .ok (.iload_n 2, 1) := by decide +kernel
theorem dX8_addLayer_30 : decode cX8_addLayer 30 = .ok (.sipush 1000, 3) := by decide +kernel
theorem dX8_addLayer_33 : decode cX8_addLayer 33 = .ok (.sipush 4000, 3) := by decide +kernel
theorem dX8_addLayer_36 : decode cX8_addLayer 36 = .ok (.invokestatic 100, 3) := by decide +kernel
theorem dX8_addLayer_39 : decode cX8_addLayer 39 = .ok (.iload_n 3, 1) := by decide +kernel
theorem dX8_addLayer_40 : decode cX8_addLayer 40 = .ok (.iconst 1, 1) := by decide +kernel
theorem dX8_addLayer_41 : decode cX8_addLayer 41 = .ok (.sipush 999, 3) := by decide +kernel
theorem dX8_addLayer_44 : decode cX8_addLayer 44 = .ok (.invokestatic 100, 3) := by decide +kernel
theorem dX8_addLayer_47 : decode cX8_addLayer 47 = .ok (.iload 4, 2) := by decide +kernel
theorem dX8_addLayer_49 : decode cX8_addLayer 49 = .ok (.iconst 0, 1) := by decide +kernel
theorem dX8_addLayer_50 : decode cX8_addLayer 50 = .ok (.bipush 99, 2) := by decide +kernel
theorem dX8_addLayer_52 : decode cX8_addLayer 52 = .ok (.invokestatic 100, 3) := by decide +kernel
theorem dX8_addLayer_55 : decode cX8_addLayer 55 = .ok (.aload_n 0, 1) := by decide +kernel
theorem dX8_addLayer_56 : decode cX8_addLayer 56 = .ok (.getfield 22, 3) := by decide +kernel
theorem dX8_addLayer_59 : decode cX8_addLayer 59 = .ok (.getfield 75, 3) := by decide +kernel
theorem dX8_addLayer_62 : decode cX8_addLayer 62 = .ok (.getfield 114, 3) := by decide +kernel
theorem dX8_addLayer_65 : decode cX8_addLayer 65 = .ok (.bipush 10, 2) := by decide +kernel
theorem dX8_addLayer_67 : decode cX8_addLayer 67 = .ok (.if_icmp .lt 14, 3) := by decide +kernel
theorem dX8_addLayer_70 : decode cX8_addLayer 70 = .ok (.new 89, 3) := by decide +kernel
theorem dX8_addLayer_73 : decode cX8_addLayer 73 = .ok (.dup, 1) := by decide +kernel
theorem dX8_addLayer_74 : decode cX8_addLayer 74 = .ok (.ldc_w 282, 3) := by decide +kernel
theorem dX8_addLayer_77 : decode cX8_addLayer 77 = .ok (.invokespecial 93, 3) := by decide +kernel
theorem dX8_addLayer_80 : decode cX8_addLayer 80 = .ok (.athrow, 1) := by decide +kernel
theorem dX8_addLayer_81 : decode cX8_addLayer 81 = .ok (.aload_n 0, 1) := by decide +kernel
theorem dX8_addLayer_82 : decode cX8_addLayer 82 = .ok (.getfield 32, 3) := by decide +kernel
theorem dX8_addLayer_85 : decode cX8_addLayer 85 = .ok (.aload_n 0, 1) := by decide +kernel
theorem dX8_addLayer_86 : decode cX8_addLayer 86 = .ok (.getfield 22, 3) := by decide +kernel
theorem dX8_addLayer_89 : decode cX8_addLayer 89 = .ok (.invokevirtual 108, 3) := by decide +kernel
theorem dX8_addLayer_92 : decode cX8_addLayer 92 = .ok (.aload_n 0, 1) := by decide +kernel
theorem dX8_addLayer_93 : decode cX8_addLayer 93 = .ok (.getfield 22, 3) := by decide +kernel
theorem dX8_addLayer_96 : decode cX8_addLayer 96 = .ok (.getfield 75, 3) := by decide +kernel
theorem dX8_addLayer_99 : decode cX8_addLayer 99 = .ok (.iload_n 1, 1) := by decide +kernel
theorem dX8_addLayer_100 : decode cX8_addLayer 100 = .ok (.iload_n 2, 1) := by decide +kernel
theorem dX8_addLayer_101 : decode cX8_addLayer 101 = .ok (.iload_n 3, 1) := by decide +kernel
theorem dX8_addLayer_102 : decode cX8_addLayer 102 = .ok (.iload 4, 2) := by decide +kernel
theorem dX8_addLayer_104 : decode cX8_addLayer 104 = .ok (.invokevirtual 79, 3) := by decide +kernel
theorem dX8_addLayer_107 : decode cX8_addLayer 107 = .ok (.aload_n 0, 1) := by decide +kernel
theorem dX8_addLayer_108 : decode cX8_addLayer 108 = .ok (.getfield 22, 3) := by decide +kernel
theorem dX8_addLayer_111 : decode cX8_addLayer 111 = .ok (.getfield 75, 3) := by decide +kernel
theorem dX8_addLayer_114 : decode cX8_addLayer 114 = .ok (.getfield 114, 3) := by decide +kernel
theorem dX8_addLayer_117 : decode cX8_addLayer 117 = .ok (.ireturn, 1) := by decide +kernel
set_option maxRecDepth 20000 in
theorem ggX8_removeLayer_X8_checkLayer : GoodIn wsX8_removeLayer wsX8_checkLayer := goodIn_ca (goodIn_r _ [11, 12, 13, 3, 4, 14, 15, 16, 17, 18, 19, 89, 90, 91, 92, 93, 94, 95, 96, 97, 98, 99, 100, 101, 102, 103, 104, 105, 106] (by decide +kernel) (by decide +kernel)) (goodIn_sub (fun _ h => List.mem_cons_of_mem _ (List.mem_append_right _ h)) (by decide +kernel))
set_option maxRecDepth 20000 in
theorem gX8_removeLayer_X8_checkLayer : GoodIn wsX8_removeLayer (wsV RX8 145 RX8 yX8_checkLayer wsX8_checkLayer) := goodIn_app (goodIn_of _ (by decide +kernel)) ggX8_removeLayer_X8_checkLayer
set_option maxRecDepth 20000 in
theorem ggX8_removeLayer_X1_remember : GoodIn wsX8_removeLayer wsX1_remember := goodIn_r _ [24, 25, 26, 27, 28, 29, 30, 31, 32, 33, 34, 35, 10, 36, 37, 38, 39, 40, 41, 42, 43, 17, 44, 45, 46, 47, 48, 49, 50, 51, 52, 53, 19, 54, 55, 56, 57, 58, 59, 60, 61, 62, 63, 64, 65, 66, 67, 68, 69, 70, 107, 108, 109, 100, 101, 102, 103, 104, 105, 106] (by decide +kernel) (by decide +kernel)
set_option maxRecDepth 20000 in
theorem gX8_removeLayer_X1_remember : GoodIn wsX8_removeLayer (wsV RX8 108 RX1 yX1_remember wsX1_remember) := goodIn_app (goodIn_of _ (by decide +kernel)) ggX8_removeLayer_X1_remember
set_option maxRecDepth 20000 in
theorem ggX8_removeLayer_X7_remove : GoodIn wsX8_removeLayer wsX7_remove := goodIn_r _ [74, 19, 75, 76, 77, 17, 78, 79, 80, 81, 82, 53, 83, 84, 85, 86, 87, 10, 88, 105, 106] (by decide +kernel) (by decide +kernel)
set_option maxRecDepth 20000 in
theorem gX8_removeLayer_X7_remove : GoodIn wsX8_removeLayer (wsV RX8 277 RX7 yX7_remove wsX7_remove) := goodIn_app (goodIn_of _ (by decide +kernel)) ggX8_removeLayer_X7_remove
theorem dX8_removeLayer_0 : decode cX8_removeLayer 0 = .ok (.aload_n 0, 1) := by decide +kernel
theorem dX8_removeLayer_1 : decode cX8_removeLayer 1 = .ok (.iload_n 1, 1) := by decide +kernel
theorem dX8_removeLayer_2 : decode cX8_removeLayer 2 = .ok (.invokevirtual 145, 3) := by decide +kernel
theorem dX8_removeLayer_5 : decode cX8_removeLayer 5 = .ok (.aload_n 0, 1) := by decide +kernel
theorem dX8_removeLayer_6 : decode cX8_removeLayer 6 = .ok (.getfield 22, 3) := by decide +kernel
theorem dX8_removeLayer_9 : decode cX8_removeLayer 9 = .ok (.getfield 75, 3) := by decide +kernel
theorem dX8_removeLayer_12 : decode cX8_removeLayer 12 = .ok (.getfield 114, 3) := by decide +kernel
theorem dX8_removeLayer_15 : decode cX8_removeLayer 15 = .ok (.iconst 2, 1) := by decide +kernel
theorem dX8_removeLayer_16 : decode cX8_removeLayer 16 = .ok (.if_icmp .ge 14, 3) := by decide +kernel
theorem dX8_removeLayer_19 : decode cX8_removeLayer 19 = .ok (.new 89, 3) := by decide +kernel
theorem dX8_removeLayer_22 : decode cX8_removeLayer 22 = .ok (.dup, 1) := by decide +kernel
theorem dX8_removeLayer_23 : decode cX8_removeLayer 23 = .ok (.ldc_w 284, 3) := by decide +kernel
theorem dX8_removeLayer_26 : decode cX8_removeLayer 26 = .ok (.invokespecial 93, 3) := by decide +kernel
theorem dX8_removeLayer_29 : decode cX8_removeLayer 29 = .ok (.athrow, 1) := by decide +kernel
theorem dX8_removeLayer_30 : decode cX8_removeLayer 30 = .ok (.aload_n 0, 1) := by decide +kernel
theorem dX8_removeLayer_31 : decode cX8_removeLayer 31 = .ok (.getfield 32, 3) := by decide +kernel
theorem dX8_removeLayer_34 : decode cX8_removeLayer 34 = .ok (.aload_n 0, 1) := by decide +kernel
theorem dX8_removeLayer_35 : decode cX8_removeLayer 35 = .ok (.getfield 22, 3) := by decide +kernel
theorem dX8_removeLayer_38 : decode cX8_removeLayer 38 = .ok (.invokevirtual 108, 3) := by decide +kernel
theorem dX8_removeLayer_41 : decode cX8_removeLayer 41 = .ok (.aload_n 0, 1) := by decide +kernel
theorem dX8_removeLayer_42 : decode cX8_removeLayer 42 = .ok (.getfield 22, 3) := by decide +kernel
theorem dX8_removeLayer_45 : decode cX8_removeLayer 45 = .ok (.getfield 75, 3) := by decide +kernel
theorem dX8_removeLayer_48 : decode cX8_removeLayer 48 = .ok (.iload_n 1, 1) := by decide +kernel
theorem dX8_removeLayer_49 : decode cX8_removeLayer 49 = .ok (.invokevirtual 277, 3) := by decide +kernel
theorem dX8_removeLayer_52 : decode cX8_removeLayer 52 = .ok (.aload_n 0, 1) := by decide +kernel
theorem dX8_removeLayer_53 : decode cX8_removeLayer 53 = .ok (.getfield 22, 3) := by decide +kernel
theorem dX8_removeLayer_56 : decode cX8_removeLayer 56 = .ok (.getfield 75, 3) := by decide +kernel
theorem dX8_removeLayer_59 : decode cX8_removeLayer 59 = .ok (.getfield 114, 3) := by decide +kernel
theorem dX8_removeLayer_62 : decode cX8_removeLayer 62 = .ok (.ireturn, 1) := by decide +kernel
set_option maxRecDepth 20000 in
theorem ggX8_setLayer_X8_checkLayer : GoodIn wsX8_setLayer wsX8_checkLayer := goodIn_ca (goodIn_r _ [8, 9, 10, 2, 3, 11, 12, 13, 14, 15, 16, 86, 87, 88, 89, 90, 91, 92, 93, 94, 95, 96, 97, 98, 99, 100, 101, 102, 103] (by decide +kernel) (by decide +kernel)) (goodIn_sub (fun _ h => List.mem_cons_of_mem _ (List.mem_append_left _ (List.mem_append_right _ h))) (by decide +kernel))
set_option maxRecDepth 20000 in
theorem gX8_setLayer_X8_checkLayer : GoodIn wsX8_setLayer (wsV RX8 145 RX8 yX8_checkLayer wsX8_checkLayer) := goodIn_app (goodIn_of _ (by decide +kernel)) ggX8_setLayer_X8_checkLayer
set_option maxRecDepth 20000 in
theorem ggX8_setLayer_X8_checkLayerValue : GoodIn wsX8_setLayer wsX8_checkLayerValue := goodIn_ca (goodIn_r _ [19, 20, 21, 22, 23, 7, 24] (by decide +kernel) (by decide +kernel)) (goodIn_sub (fun _ h => List.mem_cons_of_mem _ (List.mem_append_right _ h)) (by decide +kernel))
set_option maxRecDepth 20000 in
theorem gX8_setLayer_X8_checkLayerValue : GoodIn wsX8_setLayer (va_wsS RX8 286 yX8_checkLayerValue wsX8_checkLayerValue) := goodIn_app (goodIn_of _ (by decide +kernel)) ggX8_setLayer_X8_checkLayerValue
set_option maxRecDepth 20000 in
theorem ggX8_setLayer_X1_remember : GoodIn wsX8_setLayer wsX1_remember := goodIn_r _ [29, 30, 31, 32, 33, 34, 35, 36, 37, 38, 39, 40, 7, 41, 42, 43, 44, 45, 46, 47, 48, 14, 49, 50, 51, 52, 53, 54, 55, 56, 57, 58, 16, 59, 60, 61, 62, 63, 64, 65, 66, 67, 68, 69, 70, 71, 72, 73, 74, 75, 104, 105, 106, 97, 98, 99, 100, 101, 102, 103] (by decide +kernel) (by decide +kernel)
set_option maxRecDepth 20000 in
theorem gX8_setLayer_X1_remember : GoodIn wsX8_setLayer (wsV RX8 108 RX1 yX1_remember wsX1_remember) := goodIn_app (goodIn_of _ (by decide +kernel)) ggX8_setLayer_X1_remember
set_option maxRecDepth 20000 in
theorem ggX8_setLayer_X7_get : GoodIn wsX8_setLayer wsX7_get := goodIn_r _ [79, 58, 102, 103] (by decide +kernel) (by decide +kernel)
set_option maxRecDepth 20000 in
theorem gX8_setLayer_X7_get : GoodIn wsX8_setLayer (wsV RX8 148 RX7 yX7_get wsX7_get) := goodIn_app (goodIn_of _ (by decide +kernel)) ggX8_setLayer_X7_get
set_option maxRecDepth 20000 in
theorem ggX8_setLayer_X7_set : GoodIn wsX8_setLayer wsX7_set := goodIn_r _ [83, 58, 84, 7, 85, 102, 103] (by decide +kernel) (by decide +kernel)
set_option maxRecDepth 20000 in
theorem gX8_setLayer_X7_set : GoodIn wsX8_setLayer (wsV RX8 274 RX7 yX7_set wsX7_set) := goodIn_app (goodIn_of _ (by decide +kernel)) ggX8_setLayer_X7_set
theorem dX8_setLayer_0 : decode cX8_setLayer 0 = .ok (.aload_n 0, 1) := by decide +kernel
theorem dX8_setLayer_1 : decode cX8_setLayer 1 = .ok (.iload_n 1, 1) := by decide +kernel
theorem dX8_setLayer_2 : decode cX8_setLayer 2 = .ok (.invokevirtual 145, 3) := by decide +kernel
theorem dX8_setLayer_5 : decode cX8_setLayer 5 = .ok (.iload_n 2, 1) := by decide +kernel
theorem dX8_setLayer_6 : decode cX8_setLayer 6 = .ok (.iload_n 3, 1) := by decide +kernel
theorem dX8_setLayer_7 : decode cX8_setLayer 7 = .ok (.invokestatic 286, 3) := by decide +kernel
theorem dX8_setLayer_10 : decode cX8_setLayer 10 = .ok (.aload_n 0, 1) := by decide +kernel
theorem dX8_setLayer_11 : decode cX8_setLayer 11 = .ok (.getfield 32, 3) := by decide +kernel
theorem dX8_setLayer_14 : decode cX8_setLayer 14 = .ok (.aload_n 0, 1) := by decide +kernel
theorem dX8_setLayer_15 : decode cX8_setLayer 15 = .ok (.getfield 22, 3) := by decide +kernel
theorem dX8_setLayer_18 : decode cX8_setLayer 18 = .ok (.invokevirtual 108, 3) := by decide +kernel
theorem dX8_setLayer_21 : decode cX8_setLayer 21 = .ok (.aload_n 0, 1) := by decide +kernel
theorem dX8_setLayer_22 : decode cX8_setLayer 22 = .ok (.getfield 22, 3) := by decide +kernel
theorem dX8_setLayer_25 : decode cX8_setLayer 25 = .ok (.getfield 75, 3) := by decide +kernel
theorem dX8_setLayer_28 : decode cX8_setLayer 28 = .ok (.iload_n 1, 1) := by decide +kernel
theorem dX8_setLayer_29 : decode cX8_setLayer 29 = .ok (.iload_n 2, 1) := by decide +kernel
theorem dX8_setLayer_30 : decode cX8_setLayer 30 = .ok (.invokevirtual 148, 3) := by decide +kernel
theorem dX8_setLayer_33 : decode cX8_setLayer 33 = .ok (.istore 4, 2) := by decide +kernel
theorem dX8_setLayer_35 : decode cX8_setLayer 35 = .ok (.aload_n 0, 1) := by decide +kernel
theorem dX8_setLayer_36 : decode cX8_setLayer 36 = .ok (.getfield 22, 3) := by decide +kernel
theorem dX8_setLayer_39 : decode cX8_setLayer 39 = .ok (.getfield 75, 3) := by decide +kernel
theorem dX8_setLayer_42 : decode cX8_setLayer 42 = .ok (.iload_n 1, 1) := by decide +kernel
theorem dX8_setLayer_43 : decode cX8_setLayer 43 = .ok (.iload_n 2, 1) := by decide +kernel
theorem dX8_setLayer_44 : decode cX8_setLayer 44 = .ok (.iload_n 3, 1) := by decide +kernel
theorem dX8_setLayer_45 : decode cX8_setLayer 45 = .ok (.invokevirtual 274, 3) := by decide +kernel
theorem dX8_setLayer_48 : decode cX8_setLayer 48 = .ok (.iload 4, 2) := by decide +kernel
theorem dX8_setLayer_50 : decode cX8_setLayer 50 = .ok (.ireturn, 1) := by decide +kernel
set_option maxRecDepth 20000 in
theorem ggX8_swapLayers_X8_checkLayer : GoodIn wsX8_swapLayers wsX8_checkLayer := goodIn_ca (goodIn_r _ [14, 15, 16, 4, 6, 17, 18, 19, 20, 21, 22, 207, 208, 209, 210, 211, 212, 213, 214, 215, 216, 217, 218, 219, 220, 221, 222, 223, 224] (by decide +kernel) (by decide +kernel)) (goodIn_sub (fun _ h => List.mem_cons_of_mem _ (List.mem_append_right _ h)) (by decide +kernel))
set_option maxRecDepth 20000 in
theorem gX8_swapLayers_X8_checkLayer : GoodIn wsX8_swapLayers (wsV RX8 145 RX8 yX8_checkLayer wsX8_checkLayer) := goodIn_app (goodIn_of _ (by decide +kernel)) ggX8_swapLayers_X8_checkLayer
set_option maxRecDepth 20000 in
theorem ggX8_swapLayers_X1_remember : GoodIn wsX8_swapLayers wsX1_remember := goodIn_r _ [27, 28, 29, 30, 31, 32, 33, 34, 35, 36, 37, 38, 13, 39, 40, 41, 42, 43, 44, 45, 46, 20, 47, 48, 49, 50, 51, 52, 53, 54, 55, 56, 22, 57, 58, 59, 60, 61, 62, 63, 64, 65, 66, 67, 68, 69, 70, 71, 72, 73, 243, 244, 245, 218, 219, 220, 221, 222, 223, 224] (by decide +kernel) (by decide +kernel)
set_option maxRecDepth 20000 in
theorem gX8_swapLayers_X1_remember : GoodIn wsX8_swapLayers (wsV RX8 108 RX1 yX1_remember wsX1_remember) := goodIn_app (goodIn_of _ (by decide +kernel)) ggX8_swapLayers_X1_remember
set_option maxRecDepth 20000 in
theorem ggX8_swapLayers_X5_become : GoodIn wsX8_swapLayers wsX5_become := goodIn_r _ [60, 47, 48, 49, 50, 51, 61, 62, 63, 20, 64, 56, 65, 35, 36, 37, 66, 67, 68, 69, 22, 70, 71, 72, 32, 73, 218, 219, 220, 221, 222, 223, 224] (by decide +kernel) (by decide +kernel)
set_option maxRecDepth 20000 in
theorem gX8_swapLayers_X5_become : GoodIn wsX8_swapLayers (wsV RX8 111 RX5 yX5_become wsX5_become) := goodIn_app (goodIn_of _ (by decide +kernel)) ggX8_swapLayers_X5_become
set_option maxRecDepth 20000 in
theorem ggX8_swapLayers_X7_swap : GoodIn wsX8_swapLayers wsX7_swap := goodIn_r _ [78, 79, 80, 81, 20, 82, 56, 83, 84, 85, 86, 87, 13, 88, 223, 224] (by decide +kernel) (by decide +kernel)
set_option maxRecDepth 20000 in
theorem gX8_swapLayers_X7_swap : GoodIn wsX8_swapLayers (wsV RX8 291 RX7 yX7_swap wsX7_swap) := goodIn_app (goodIn_of _ (by decide +kernel)) ggX8_swapLayers_X7_swap
set_option maxRecDepth 20000 in
theorem ggX8_swapLayers_X8_runOf : GoodIn wsX8_swapLayers wsX8_runOf := goodIn_r _ [92, 7, 93, 94, 95, 96, 97, 98, 99, 100, 101, 102, 103, 104, 105, 32, 106, 49, 47, 107, 50, 51, 108, 80, 81, 20, 82, 56, 87, 13, 88, 109, 110, 111, 112, 113, 114, 115, 116, 117, 118, 119, 120, 121, 122, 123, 124, 125, 126, 127, 128, 129, 130, 131, 132, 133, 134, 135, 136, 137, 18, 19, 21, 22, 138, 139, 140, 141, 142, 143, 144, 145, 146, 147, 148, 149, 150, 151, 36, 152, 153, 154, 155, 156, 157, 158, 159, 160, 161, 162, 163, 164, 165, 166, 167, 168, 169, 170, 171, 172, 173, 174, 175, 176, 177, 178, 179, 180, 181, 182, 183, 184, 185, 186, 187, 188, 189, 190, 191, 192, 193, 194, 195, 196, 197, 198, 199, 200, 201, 202, 203, 204, 205, 206, 218, 219, 220, 221, 222, 207, 208, 209, 210, 211, 212, 213, 214, 215, 216, 217, 225, 226, 227, 228, 229, 230, 231, 232, 233, 234, 235, 236, 237, 238, 239, 240, 241, 242, 223, 224] (by decide +kernel) (by decide +kernel)
set_option maxRecDepth 20000 in
theorem gX8_swapLayers_X8_runOf : GoodIn wsX8_swapLayers (wsV RX8 155 RX8 yX8_runOf wsX8_runOf) := goodIn_app (goodIn_of _ (by decide +kernel)) ggX8_swapLayers_X8_runOf
theorem dX8_swapLayers_0 : decode cX8_swapLayers 0 = .ok (.aload_n 0, 1) := by decide +kernel
theorem dX8_swapLayers_1 : decode cX8_swapLayers 1 = .ok (.iload_n 1, 1) := by decide +kernel
theorem dX8_swapLayers_2 : decode cX8_swapLayers 2 = .ok (.invokevirtual 145, 3) := by decide +kernel
theorem dX8_swapLayers_5 : decode cX8_swapLayers 5 = .ok (.aload_n 0, 1) := by decide +kernel
theorem dX8_swapLayers_6 : decode cX8_swapLayers 6 = .ok (.iload_n 2, 1) := by decide +kernel
theorem dX8_swapLayers_7 : decode cX8_swapLayers 7 = .ok (.invokevirtual 145, 3) := by decide +kernel
theorem dX8_swapLayers_10 : decode cX8_swapLayers 10 = .ok (.iload_n 1, 1) := by decide +kernel
theorem dX8_swapLayers_11 : decode cX8_swapLayers 11 = .ok (.iload_n 2, 1) := by decide +kernel
theorem dX8_swapLayers_12 : decode cX8_swapLayers 12 = .ok (.if_icmp .ne 14, 3) := by decide +kernel
theorem dX8_swapLayers_15 : decode cX8_swapLayers 15 = .ok (.new 140, 3) := by decide +kernel
theorem dX8_swapLayers_18 : decode cX8_swapLayers 18 = .ok (.dup, 1) := by decide +kernel
theorem dX8_swapLayers_19 : decode cX8_swapLayers 19 = .ok (.ldc_w 289, 3) := by decide +kernel
theorem dX8_swapLayers_22 : decode cX8_swapLayers 22 = .ok (.invokespecial 144, 3) := by decide +kernel
theorem dX8_swapLayers_25 : decode cX8_swapLayers 25 = .ok (.athrow, 1) := by decide +kernel
theorem dX8_swapLayers_26 : decode cX8_swapLayers 26 = .ok (.aload_n 0, 1) := by decide +kernel
theorem dX8_swapLayers_27 : decode cX8_swapLayers 27 = .ok (.getfield 32, 3) := by decide +kernel
theorem dX8_swapLayers_30 : decode cX8_swapLayers 30 = .ok (.aload_n 0, 1) := by decide +kernel
theorem dX8_swapLayers_31 : decode cX8_swapLayers 31 = .ok (.getfield 22, 3) := by decide +kernel
theorem dX8_swapLayers_34 : decode cX8_swapLayers 34 = .ok (.invokevirtual 108, 3) := by decide +kernel
theorem dX8_swapLayers_37 : decode cX8_swapLayers 37 = .ok (.aload_n 0, 1) := by decide +kernel
theorem dX8_swapLayers_38 : decode cX8_swapLayers 38 = .ok (.getfield 26, 3) := by decide +kernel
theorem dX8_swapLayers_41 : decode cX8_swapLayers 41 = .ok (.aload_n 0, 1) := by decide +kernel
theorem dX8_swapLayers_42 : decode cX8_swapLayers 42 = .ok (.getfield 22, 3) := by decide +kernel
theorem dX8_swapLayers_45 : decode cX8_swapLayers 45 = .ok (.invokevirtual 111, 3) := by decide +kernel
theorem dX8_swapLayers_48 : decode cX8_swapLayers 48 = .ok (.aload_n 0, 1) := by decide +kernel
theorem dX8_swapLayers_49 : decode cX8_swapLayers 49 = .ok (.getfield 22, 3) := by decide +kernel
theorem dX8_swapLayers_52 : decode cX8_swapLayers 52 = .ok (.getfield 75, 3) := by decide +kernel
theorem dX8_swapLayers_55 : decode cX8_swapLayers 55 = .ok (.iload_n 1, 1) := by decide +kernel
theorem dX8_swapLayers_56 : decode cX8_swapLayers 56 = .ok (.iload_n 2, 1) := by decide +kernel
theorem dX8_swapLayers_57 : decode cX8_swapLayers 57 = .ok (.invokevirtual 291, 3) := by decide +kernel
theorem dX8_swapLayers_60 : decode cX8_swapLayers 60 = .ok (.iconst 0, 1) := by decide +kernel
theorem dX8_swapLayers_61 : decode cX8_swapLayers 61 = .ok (.istore_n 3, 1) := by decide +kernel
theorem dX8_swapLayers_62 : decode cX8_swapLayers 62 = .ok (.iconst 0, 1) := by decide +kernel
theorem dX8_swapLayers_63 : decode cX8_swapLayers 63 = .ok (.istore 4, 2) := by decide +kernel
theorem dX8_swapLayers_65 : decode cX8_swapLayers 65 = .ok (.iload 4, 2) := by decide +kernel
theorem dX8_swapLayers_67 : decode cX8_swapLayers 67 = .ok (.aload_n 0, 1) := by decide +kernel
theorem dX8_swapLayers_68 : decode cX8_swapLayers 68 = .ok (.getfield 22, 3) := by decide +kernel
theorem dX8_swapLayers_71 : decode cX8_swapLayers 71 = .ok (.getfield 133, 3) := by decide +kernel
theorem dX8_swapLayers_74 : decode cX8_swapLayers 74 = .ok (.getfield 114, 3) := by decide +kernel
theorem dX8_swapLayers_77 : decode cX8_swapLayers 77 = .ok (.if_icmp .ge 45, 3) := by decide +kernel
theorem dX8_swapLayers_80 : decode cX8_swapLayers 80 = .ok (.aload_n 0, 1) := by decide +kernel
theorem dX8_swapLayers_81 : decode cX8_swapLayers 81 = .ok (.aload_n 0, 1) := by decide +kernel
theorem dX8_swapLayers_82 : decode cX8_swapLayers 82 = .ok (.getfield 26, 3) := by decide +kernel
theorem dX8_swapLayers_85 : decode cX8_swapLayers 85 = .ok (.iload 4, 2) := by decide +kernel
theorem dX8_swapLayers_87 : decode cX8_swapLayers 87 = .ok (.invokevirtual 155, 3) := by decide +kernel
theorem dX8_swapLayers_90 : decode cX8_swapLayers 90 = .ok (.getfield 162, 3) := by decide +kernel
theorem dX8_swapLayers_93 : decode cX8_swapLayers 93 = .ok (.istore 5, 2) := by decide +kernel
theorem dX8_swapLayers_95 : decode cX8_swapLayers 95 = .ok (.aload_n 0, 1) := by decide +kernel
theorem dX8_swapLayers_96 : decode cX8_swapLayers 96 = .ok (.aload_n 0, 1) := by decide +kernel
theorem dX8_swapLayers_97 : decode cX8_swapLayers 97 = .ok (.getfield 22, 3) := by decide +kernel
theorem dX8_swapLayers_100 : decode cX8_swapLayers 100 = .ok (.iload 4, 2) := by decide +kernel
theorem dX8_swapLayers_102 : decode cX8_swapLayers 102 = .ok (.invokevirtual 155, 3) := by decide +kernel
theorem dX8_swapLayers_105 : decode cX8_swapLayers 105 = .ok (.getfield 162, 3) := by decide +kernel
theorem dX8_swapLayers_108 : decode cX8_swapLayers 108 = .ok (.iload 5, 2) := by decide +kernel
theorem dX8_swapLayers_110 : decode cX8_swapLayers 110 = .ok (.if_icmp .eq 6, 3) := by decide +kernel
theorem dX8_swapLayers_113 : decode cX8_swapLayers 113 = .ok (.iinc 3 1, 3) := by decide +kernel
theorem dX8_swapLayers_116 : decode cX8_swapLayers 116 = .ok (.iinc 4 1, 3) := by decide +kernel
theorem dX8_swapLayers_119 : decode cX8_swapLayers 119 = .ok (.goto (-54), 3) := by decide +kernel
theorem dX8_swapLayers_122 : decode cX8_swapLayers 122 = .ok (.iload_n 3, 1) := by decide +kernel
theorem dX8_swapLayers_123 : decode cX8_swapLayers 123 = .ok (.ireturn, 1) := by decide +kernel
set_option maxRecDepth 20000 in
theorem ggX8_setOutside_X8_checkRange : GoodIn wsX8_setOutside wsX8_checkRange := goodIn_ca (goodIn_r _ [7, 8, 9] (by decide +kernel) (by decide +kernel)) (goodIn_sub (fun _ h => List.mem_cons_of_mem _ (List.mem_append_right _ h)) (by decide +kernel))
set_option maxRecDepth 20000 in
theorem gX8_setOutside_X8_checkRange : GoodIn wsX8_setOutside (va_wsS RX8 100 yX8_checkRange wsX8_checkRange) := goodIn_app (goodIn_of _ (by decide +kernel)) ggX8_setOutside_X8_checkRange
set_option maxRecDepth 20000 in
theorem ggX8_setOutside_X1_remember : GoodIn wsX8_setOutside wsX1_remember := goodIn_r _ [14, 15, 16, 17, 18, 19, 20, 21, 22, 23, 24, 25, 6, 26, 27, 28, 29, 30, 31, 32, 33, 34, 35, 36, 37, 38, 39, 40, 41, 42, 43, 44, 45, 46, 47, 48, 49, 50, 51, 52, 53, 54, 55, 56, 57, 58, 59, 60, 61, 62, 79, 80, 81, 74, 75, 76, 77, 78, 82, 83] (by decide +kernel) (by decide +kernel)
set_option maxRecDepth 20000 in
theorem gX8_setOutside_X1_remember : GoodIn wsX8_setOutside (wsV RX8 108 RX1 yX1_remember wsX1_remember) := goodIn_app (goodIn_of _ (by decide +kernel)) ggX8_setOutside_X1_remember
theorem dX8_setOutside_0 : decode cX8_setOutside 0 = .ok (.iload_n 1, 1) := by decide +kernel
theorem dX8_setOutside_1 : decode cX8_setOutside 1 = .ok (.sipush 1000, 3) := by decide +kernel
theorem dX8_setOutside_4 : decode cX8_setOutside 4 = .ok (.sipush 4000, 3) := by decide +kernel
theorem dX8_setOutside_7 : decode cX8_setOutside 7 = .ok (.invokestatic 100, 3) := by decide +kernel
theorem dX8_setOutside_10 : decode cX8_setOutside 10 = .ok (.aload_n 0, 1) := by decide +kernel
theorem dX8_setOutside_11 : decode cX8_setOutside 11 = .ok (.getfield 32, 3) := by decide +kernel
theorem dX8_setOutside_14 : decode cX8_setOutside 14 = .ok (.aload_n 0, 1) := by decide +kernel
theorem dX8_setOutside_15 : decode cX8_setOutside 15 = .ok (.getfield 22, 3) := by decide +kernel
theorem dX8_setOutside_18 : decode cX8_setOutside 18 = .ok (.invokevirtual 108, 3) := by decide +kernel
theorem dX8_setOutside_21 : decode cX8_setOutside 21 = .ok (.aload_n 0, 1) := by decide +kernel
theorem dX8_setOutside_22 : decode cX8_setOutside 22 = .ok (.getfield 22, 3) := by decide +kernel
theorem dX8_setOutside_25 : decode cX8_setOutside 25 = .ok (.getfield 123, 3) := by decide +kernel
theorem dX8_setOutside_28 : decode cX8_setOutside 28 = .ok (.istore_n 2, 1) := by decide +kernel
theorem dX8_setOutside_29 : decode cX8_setOutside 29 = .ok (.aload_n 0, 1) := by decide +kernel
theorem dX8_setOutside_30 : decode cX8_setOutside 30 = .ok (.getfield 22, 3) := by decide +kernel
theorem dX8_setOutside_33 : decode cX8_setOutside 33 = .ok (.iload_n 1, 1) := by decide +kernel
theorem dX8_setOutside_34 : decode cX8_setOutside 34 = .ok (.putfield 123, 3) := by decide +kernel
theorem dX8_setOutside_37 : decode cX8_setOutside 37 = .ok (.iload_n 2, 1) := by decide +kernel
theorem dX8_setOutside_38 : decode cX8_setOutside 38 = .ok (.ireturn, 1) := by decide +kernel
set_option maxRecDepth 20000 in
theorem ggX8_setOpen_X8_checkRange : GoodIn wsX8_setOpen wsX8_checkRange := goodIn_ca (goodIn_r _ [8, 9, 10] (by decide +kernel) (by decide +kernel)) (goodIn_sub (fun _ h => List.mem_cons_of_mem _ (List.mem_append_right _ h)) (by decide +kernel))
set_option maxRecDepth 20000 in
theorem gX8_setOpen_X8_checkRange : GoodIn wsX8_setOpen (va_wsS RX8 100 yX8_checkRange wsX8_checkRange) := goodIn_app (goodIn_of _ (by decide +kernel)) ggX8_setOpen_X8_checkRange
set_option maxRecDepth 20000 in
theorem ggX8_setOpen_X1_remember : GoodIn wsX8_setOpen wsX1_remember := goodIn_r _ [15, 16, 17, 18, 19, 20, 21, 22, 23, 24, 25, 26, 7, 27, 28, 29, 30, 31, 32, 33, 34, 35, 36, 37, 38, 39, 40, 41, 42, 43, 44, 45, 46, 47, 48, 49, 50, 51, 52, 53, 54, 55, 56, 57, 58, 59, 60, 61, 62, 63, 81, 82, 83, 76, 77, 78, 79, 80, 84, 85] (by decide +kernel) (by decide +kernel)
set_option maxRecDepth 20000 in
theorem gX8_setOpen_X1_remember : GoodIn wsX8_setOpen (wsV RX8 108 RX1 yX1_remember wsX1_remember) := goodIn_app (goodIn_of _ (by decide +kernel)) ggX8_setOpen_X1_remember
set_option maxRecDepth 20000 in
theorem ggX8_setOpen_X5_setBottom : GoodIn wsX8_setOpen wsX5_setBottom := goodIn_r _ [63, 39, 40, 76, 77, 78, 79, 80] (by decide +kernel) (by decide +kernel)
set_option maxRecDepth 20000 in
theorem gX8_setOpen_X5_setBottom : GoodIn wsX8_setOpen (wsV RX8 294 RX5 yX5_setBottom wsX5_setBottom) := goodIn_app (goodIn_of _ (by decide +kernel)) ggX8_setOpen_X5_setBottom
theorem dX8_setOpen_0 : decode cX8_setOpen 0 = .ok (.iload_n 1, 1) := by decide +kernel
theorem dX8_setOpen_1 : decode cX8_setOpen 1 = .ok (.sipush 1000, 3) := by decide +kernel
theorem dX8_setOpen_4 : decode cX8_setOpen 4 = .ok (.sipush 4000, 3) := by decide +kernel
theorem dX8_setOpen_7 : decode cX8_setOpen 7 = .ok (.invokestatic 100, 3) := by decide +kernel
theorem dX8_setOpen_10 : decode cX8_setOpen 10 = .ok (.aload_n 0, 1) := by decide +kernel
theorem dX8_setOpen_11 : decode cX8_setOpen 11 = .ok (.getfield 32, 3) := by decide +kernel
theorem dX8_setOpen_14 : decode cX8_setOpen 14 = .ok (.aload_n 0, 1) := by decide +kernel
theorem dX8_setOpen_15 : decode cX8_setOpen 15 = .ok (.getfield 22, 3) := by decide +kernel
theorem dX8_setOpen_18 : decode cX8_setOpen 18 = .ok (.invokevirtual 108, 3) := by decide +kernel
theorem dX8_setOpen_21 : decode cX8_setOpen 21 = .ok (.aload_n 0, 1) := by decide +kernel
theorem dX8_setOpen_22 : decode cX8_setOpen 22 = .ok (.getfield 22, 3) := by decide +kernel
theorem dX8_setOpen_25 : decode cX8_setOpen 25 = .ok (.getfield 126, 3) := by decide +kernel
theorem dX8_setOpen_28 : decode cX8_setOpen 28 = .ok (.ifCond .eq 9, 3) := by decide +kernel
theorem dX8_setOpen_31 : decode cX8_setOpen 31 = .ok (.sipush 5000, 3) := by decide +kernel
theorem dX8_setOpen_34 : decode cX8_setOpen 34 = .ok (.goto 10, 3) := by decide +kernel
theorem dX8_setOpen_37 : decode cX8_setOpen 37 = .ok (.aload_n 0, 1) := by decide +kernel
theorem dX8_setOpen_38 : decode cX8_setOpen 38 = .ok (.getfield 22, 3) := by decide +kernel
theorem dX8_setOpen_41 : decode cX8_setOpen 41 = .ok (.getfield 130, 3) := by decide +kernel
theorem dX8_setOpen_44 : decode cX8_setOpen 44 = .ok (.istore_n 2, 1) := by decide +kernel
theorem dX8_setOpen_45 : decode cX8_setOpen 45 = .ok (.aload_n 0, 1) := by decide +kernel
theorem dX8_setOpen_46 : decode cX8_setOpen 46 = .ok (.getfield 22, 3) := by decide +kernel
theorem dX8_setOpen_49 : decode cX8_setOpen 49 = .ok (.iconst 0, 1) := by decide +kernel
theorem dX8_setOpen_50 : decode cX8_setOpen 50 = .ok (.iload_n 1, 1) := by decide +kernel
theorem dX8_setOpen_51 : decode cX8_setOpen 51 = .ok (.invokevirtual 294, 3) := by decide +kernel
theorem dX8_setOpen_54 : decode cX8_setOpen 54 = .ok (.iload_n 2, 1) := by decide +kernel
theorem dX8_setOpen_55 : decode cX8_setOpen 55 = .ok (.ireturn, 1) := by decide +kernel
set_option maxRecDepth 20000 in
theorem ggX8_setMirror_X8_checkRange : GoodIn wsX8_setMirror wsX8_checkRange := goodIn_ca (goodIn_r _ [8, 9, 10] (by decide +kernel) (by decide +kernel)) (goodIn_sub (fun _ h => List.mem_cons_of_mem _ (List.mem_append_right _ h)) (by decide +kernel))
set_option maxRecDepth 20000 in
theorem gX8_setMirror_X8_checkRange : GoodIn wsX8_setMirror (va_wsS RX8 100 yX8_checkRange wsX8_checkRange) := goodIn_app (goodIn_of _ (by decide +kernel)) ggX8_setMirror_X8_checkRange
set_option maxRecDepth 20000 in
theorem ggX8_setMirror_X1_remember : GoodIn wsX8_setMirror wsX1_remember := goodIn_r _ [15, 16, 17, 18, 19, 20, 21, 22, 23, 24, 25, 26, 7, 27, 28, 29, 30, 31, 32, 33, 34, 35, 36, 37, 38, 39, 40, 41, 42, 43, 44, 45, 46, 47, 48, 49, 50, 51, 52, 53, 54, 55, 56, 57, 58, 59, 60, 61, 62, 63, 81, 82, 83, 76, 77, 78, 79, 80, 84, 85] (by decide +kernel) (by decide +kernel)
set_option maxRecDepth 20000 in
theorem gX8_setMirror_X1_remember : GoodIn wsX8_setMirror (wsV RX8 108 RX1 yX1_remember wsX1_remember) := goodIn_app (goodIn_of _ (by decide +kernel)) ggX8_setMirror_X1_remember
set_option maxRecDepth 20000 in
theorem ggX8_setMirror_X5_setBottom : GoodIn wsX8_setMirror wsX5_setBottom := goodIn_r _ [63, 39, 40, 76, 77, 78, 79, 80] (by decide +kernel) (by decide +kernel)
set_option maxRecDepth 20000 in
theorem gX8_setMirror_X5_setBottom : GoodIn wsX8_setMirror (wsV RX8 294 RX5 yX5_setBottom wsX5_setBottom) := goodIn_app (goodIn_of _ (by decide +kernel)) ggX8_setMirror_X5_setBottom
theorem dX8_setMirror_0 : decode cX8_setMirror 0 = .ok (.iload_n 1, 1) := by decide +kernel
theorem dX8_setMirror_1 : decode cX8_setMirror 1 = .ok (.iconst 0, 1) := by decide +kernel
theorem dX8_setMirror_2 : decode cX8_setMirror 2 = .ok (.bipush 100, 2) := by decide +kernel
theorem dX8_setMirror_4 : decode cX8_setMirror 4 = .ok (.invokestatic 100, 3) := by decide +kernel
theorem dX8_setMirror_7 : decode cX8_setMirror 7 = .ok (.aload_n 0, 1) := by decide +kernel
theorem dX8_setMirror_8 : decode cX8_setMirror 8 = .ok (.getfield 32, 3) := by decide +kernel
theorem dX8_setMirror_11 : decode cX8_setMirror 11 = .ok (.aload_n 0, 1) := by decide +kernel
theorem dX8_setMirror_12 : decode cX8_setMirror 12 = .ok (.getfield 22, 3) := by decide +kernel
theorem dX8_setMirror_15 : decode cX8_setMirror 15 = .ok (.invokevirtual 108, 3) := by decide +kernel
theorem dX8_setMirror_18 : decode cX8_setMirror 18 = .ok (.aload_n 0, 1) := by decide +kernel
theorem dX8_setMirror_19 : decode cX8_setMirror 19 = .ok (.getfield 22, 3) := by decide +kernel
theorem dX8_setMirror_22 : decode cX8_setMirror 22 = .ok (.getfield 126, 3) := by decide +kernel
theorem dX8_setMirror_25 : decode cX8_setMirror 25 = .ok (.ifCond .eq 13, 3) := by decide +kernel
theorem dX8_setMirror_28 : decode cX8_setMirror 28 = .ok (.aload_n 0, 1) := by decide +kernel
theorem dX8_setMirror_29 : decode cX8_setMirror 29 = .ok (.getfield 22, 3) := by decide +kernel
theorem dX8_setMirror_32 : decode cX8_setMirror 32 = .ok (.getfield 130, 3) := by decide +kernel
theorem dX8_setMirror_35 : decode cX8_setMirror 35 = .ok (.goto 4, 3) := by decide +kernel
theorem dX8_setMirror_38 : decode cX8_setMirror 38 = .ok (.iconst (-1), 1) := by decide +kernel
theorem dX8_setMirror_39 : decode cX8_setMirror 39 = .ok (.istore_n 2, 1) := by decide +kernel
theorem dX8_setMirror_40 : decode cX8_setMirror 40 = .ok (.aload_n 0, 1) := by decide +kernel
theorem dX8_setMirror_41 : decode cX8_setMirror 41 = .ok (.getfield 22, 3) := by decide +kernel
theorem dX8_setMirror_44 : decode cX8_setMirror 44 = .ok (.iconst 1, 1) := by decide +kernel
theorem dX8_setMirror_45 : decode cX8_setMirror 45 = .ok (.iload_n 1, 1) := by decide +kernel
theorem dX8_setMirror_46 : decode cX8_setMirror 46 = .ok (.invokevirtual 294, 3) := by decide +kernel
theorem dX8_setMirror_49 : decode cX8_setMirror 49 = .ok (.iload_n 2, 1) := by decide +kernel
theorem dX8_setMirror_50 : decode cX8_setMirror 50 = .ok (.ireturn, 1) := by decide +kernel
set_option maxRecDepth 20000 in
theorem ggX8_shoot_X8_checkLayer : GoodIn wsX8_shoot wsX8_checkLayer := goodIn_ca (goodIn_r _ [15, 16, 17, 3, 18, 19, 20, 21, 22, 23, 24, 102, 103, 104, 105, 106, 107, 108, 109, 110, 111, 112, 113, 114, 115, 116, 117, 118, 119] (by decide +kernel) (by decide +kernel)) (goodIn_sub (fun _ h => List.mem_cons_of_mem _ (List.mem_append_left _ (List.mem_append_right _ h))) (by decide +kernel))
set_option maxRecDepth 20000 in
theorem gX8_shoot_X8_checkLayer : GoodIn wsX8_shoot (wsV RX8 145 RX8 yX8_checkLayer wsX8_checkLayer) := goodIn_app (goodIn_of _ (by decide +kernel)) ggX8_shoot_X8_checkLayer
set_option maxRecDepth 20000 in
theorem ggX8_shoot_X5_indexAt : GoodIn wsX8_shoot wsX5_indexAt := goodIn_r _ [29, 30, 31, 32, 33, 34, 35, 36, 37, 22, 38, 39, 113, 114, 115, 116, 117, 118, 119] (by decide +kernel) (by decide +kernel)
set_option maxRecDepth 20000 in
theorem gX8_shoot_X5_indexAt : GoodIn wsX8_shoot (wsV RX8 220 RX5 yX5_indexAt wsX5_indexAt) := goodIn_app (goodIn_of _ (by decide +kernel)) ggX8_shoot_X5_indexAt
set_option maxRecDepth 20000 in
theorem ggX8_shoot_X8_checkRange : GoodIn wsX8_shoot wsX8_checkRange := goodIn_ca (goodIn_r _ [42, 43, 44] (by decide +kernel) (by decide +kernel)) (goodIn_sub (fun _ h => List.mem_cons_of_mem _ (List.mem_append_right _ h)) (by decide +kernel))
set_option maxRecDepth 20000 in
theorem gX8_shoot_X8_checkRange : GoodIn wsX8_shoot (va_wsS RX8 100 yX8_checkRange wsX8_checkRange) := goodIn_app (goodIn_of _ (by decide +kernel)) ggX8_shoot_X8_checkRange
set_option maxRecDepth 20000 in
theorem ggX8_shoot_X1_remember : GoodIn wsX8_shoot wsX1_remember := goodIn_r _ [49, 50, 51, 52, 53, 28, 54, 55, 5, 6, 7, 56, 14, 57, 58, 59, 60, 61, 62, 63, 64, 22, 31, 65, 30, 33, 34, 66, 67, 68, 69, 39, 24, 70, 71, 72, 73, 74, 75, 76, 77, 78, 79, 80, 81, 82, 83, 84, 85, 86, 120, 121, 122, 113, 114, 115, 116, 117, 118, 119] (by decide +kernel) (by decide +kernel)
set_option maxRecDepth 20000 in
theorem gX8_shoot_X1_remember : GoodIn wsX8_shoot (wsV RX8 108 RX1 yX1_remember wsX1_remember) := goodIn_app (goodIn_of _ (by decide +kernel)) ggX8_shoot_X1_remember
set_option maxRecDepth 20000 in
theorem ggX8_shoot_X7_insert : GoodIn wsX8_shoot wsX7_insert := goodIn_r _ [90, 24, 91, 92, 93, 22, 94, 95, 36, 37, 38, 39, 96, 97, 98, 99, 100, 14, 101, 118, 119] (by decide +kernel) (by decide +kernel)
set_option maxRecDepth 20000 in
theorem gX8_shoot_X7_insert : GoodIn wsX8_shoot (wsV RX8 79 RX7 yX7_insert wsX7_insert) := goodIn_app (goodIn_of _ (by decide +kernel)) ggX8_shoot_X7_insert
theorem dX8_shoot_0 : decode cX8_shoot 0 = .ok (.aload_n 0, 1) := by decide +kernel
theorem dX8_shoot_1 : decode cX8_shoot 1 = .ok (.iload_n 1, 1) := by decide +kernel
theorem dX8_shoot_2 : decode cX8_shoot 2 = .ok (.invokevirtual 145, 3) := by decide +kernel
theorem dX8_shoot_5 : decode cX8_shoot 5 = .ok (.iload_n 3, 1) := by decide +kernel
theorem dX8_shoot_6 : decode cX8_shoot 6 = .ok (.iconst 0, 1) := by decide +kernel
theorem dX8_shoot_7 : decode cX8_shoot 7 = .ok (.sipush 3999, 3) := by decide +kernel
theorem dX8_shoot_10 : decode cX8_shoot 10 = .ok (.aload_n 0, 1) := by decide +kernel
theorem dX8_shoot_11 : decode cX8_shoot 11 = .ok (.getfield 22, 3) := by decide +kernel
theorem dX8_shoot_14 : decode cX8_shoot 14 = .ok (.iload_n 1, 1) := by decide +kernel
theorem dX8_shoot_15 : decode cX8_shoot 15 = .ok (.invokevirtual 220, 3) := by decide +kernel
theorem dX8_shoot_18 : decode cX8_shoot 18 = .ok (.iconst 1, 1) := by decide +kernel
theorem dX8_shoot_19 : decode cX8_shoot 19 = .ok (.isub, 1) := by decide +kernel
theorem dX8_shoot_20 : decode cX8_shoot 20 = .ok (.invokestatic 298, 3) := by decide +kernel
theorem dX8_shoot_23 : decode cX8_shoot 23 = .ok (.invokestatic 100, 3) := by decide +kernel
theorem dX8_shoot_26 : decode cX8_shoot 26 = .ok (.aload_n 0, 1) := by decide +kernel
theorem dX8_shoot_27 : decode cX8_shoot 27 = .ok (.getfield 22, 3) := by decide +kernel
theorem dX8_shoot_30 : decode cX8_shoot 30 = .ok (.getfield 133, 3) := by decide +kernel
theorem dX8_shoot_33 : decode cX8_shoot 33 = .ok (.getfield 114, 3) := by decide +kernel
theorem dX8_shoot_36 : decode cX8_shoot 36 = .ok (.istore 4, 2) := by decide +kernel
theorem dX8_shoot_38 : decode cX8_shoot 38 = .ok (.iload 4, 2) := by decide +kernel
theorem dX8_shoot_40 : decode cX8_shoot 40 = .ok (.bipush 20, 2) := by decide +kernel
theorem dX8_shoot_42 : decode cX8_shoot 42 = .ok (.if_icmp .lt 14, 3) := by decide +kernel
theorem dX8_shoot_45 : decode cX8_shoot 45 = .ok (.new 89, 3) := by decide +kernel
theorem dX8_shoot_48 : decode cX8_shoot 48 = .ok (.dup, 1) := by decide +kernel
theorem dX8_shoot_49 : decode cX8_shoot 49 = .ok (.ldc_w 303, 3) := by decide +kernel
theorem dX8_shoot_52 : decode cX8_shoot 52 = .ok (.invokespecial 93, 3) := by decide +kernel
theorem dX8_shoot_55 : decode cX8_shoot 55 = .ok (.athrow, 1) := by decide +kernel
theorem dX8_shoot_56 : decode cX8_shoot 56 = .ok (.aload_n 0, 1) := by decide +kernel
theorem dX8_shoot_57 : decode cX8_shoot 57 = .ok (.getfield 32, 3) := by decide +kernel
theorem dX8_shoot_60 : decode cX8_shoot 60 = .ok (.aload_n 0, 1) := by decide +kernel
theorem dX8_shoot_61 : decode cX8_shoot 61 = .ok (.getfield 22, 3) := by decide +kernel
theorem dX8_shoot_64 : decode cX8_shoot 64 = .ok (.invokevirtual 108, 3) := by decide +kernel
theorem dX8_shoot_67 : decode cX8_shoot 67 = .ok (.aload_n 0, 1) := by decide +kernel
theorem dX8_shoot_68 : decode cX8_shoot 68 = .ok (.getfield 22, 3) := by decide +kernel
theorem dX8_shoot_71 : decode cX8_shoot 71 = .ok (.getfield 133, 3) := by decide +kernel
theorem dX8_shoot_74 : decode cX8_shoot 74 = .ok (.iload 4, 2) := by decide +kernel
theorem dX8_shoot_76 : decode cX8_shoot 76 = .ok (.iload_n 1, 1) := by decide +kernel
theorem dX8_shoot_77 : decode cX8_shoot 77 = .ok (.iload_n 2, 1) := by decide +kernel
theorem dX8_shoot_78 : decode cX8_shoot 78 = .ok (.ifCond .eq 7, 3) := by decide +kernel
theorem dX8_shoot_81 : decode cX8_shoot 81 = .ok (.iconst 1, 1) := by decide +kernel
theorem dX8_shoot_82 : decode cX8_shoot 82 = .ok (.goto 4, 3) := by decide +kernel
theorem dX8_shoot_85 : decode cX8_shoot 85 = .ok (.iconst 0, 1) := by decide +kernel
theorem dX8_shoot_86 : decode cX8_shoot 86 = .ok (.iload_n 3, 1) := by decide +kernel
theorem dX8_shoot_87 : decode cX8_shoot 87 = .ok (.invokevirtual 79, 3) := by decide +kernel
theorem dX8_shoot_90 : decode cX8_shoot 90 = .ok (.iload 4, 2) := by decide +kernel
theorem dX8_shoot_92 : decode cX8_shoot 92 = .ok (.ireturn, 1) := by decide +kernel
set_option maxRecDepth 20000 in
theorem ggX8_turn_X8_checkShot : GoodIn wsX8_turn wsX8_checkShot := goodIn_ca (goodIn_r _ [9, 10, 11, 2, 3, 12, 13, 14, 15, 16, 17, 201, 202, 203, 204, 205, 206, 207, 208, 209, 210, 211, 212, 213, 214, 215, 216, 235, 236] (by decide +kernel) (by decide +kernel)) (goodIn_sub (fun _ h => List.mem_cons_of_mem _ (List.mem_append_left _ (List.mem_append_right _ h))) (by decide +kernel))
set_option maxRecDepth 20000 in
theorem gX8_turn_X8_checkShot : GoodIn wsX8_turn (wsV RX8 152 RX8 yX8_checkShot wsX8_checkShot) := goodIn_app (goodIn_of _ (by decide +kernel)) ggX8_turn_X8_checkShot
set_option maxRecDepth 20000 in
theorem ggX8_turn_X8_checkRange : GoodIn wsX8_turn wsX8_checkRange := goodIn_ca (goodIn_r _ [20, 21, 22] (by decide +kernel) (by decide +kernel)) (goodIn_sub (fun _ h => List.mem_cons_of_mem _ (List.mem_append_right _ h)) (by decide +kernel))
set_option maxRecDepth 20000 in
theorem gX8_turn_X8_checkRange : GoodIn wsX8_turn (va_wsS RX8 100 yX8_checkRange wsX8_checkRange) := goodIn_app (goodIn_of _ (by decide +kernel)) ggX8_turn_X8_checkRange
set_option maxRecDepth 20000 in
theorem ggX8_turn_X1_remember : GoodIn wsX8_turn wsX1_remember := goodIn_r _ [27, 28, 29, 30, 31, 32, 33, 34, 35, 36, 37, 38, 8, 39, 40, 41, 42, 43, 44, 45, 46, 15, 47, 48, 49, 50, 51, 52, 53, 54, 55, 56, 17, 57, 58, 59, 60, 61, 62, 63, 64, 65, 66, 67, 68, 69, 70, 71, 72, 73, 237, 238, 239, 212, 213, 214, 215, 216, 235, 236] (by decide +kernel) (by decide +kernel)
set_option maxRecDepth 20000 in
theorem gX8_turn_X1_remember : GoodIn wsX8_turn (wsV RX8 108 RX1 yX1_remember wsX1_remember) := goodIn_app (goodIn_of _ (by decide +kernel)) ggX8_turn_X1_remember
set_option maxRecDepth 20000 in
theorem ggX8_turn_X7_set : GoodIn wsX8_turn wsX7_set := goodIn_r _ [77, 56, 78, 8, 79, 235, 236] (by decide +kernel) (by decide +kernel)
set_option maxRecDepth 20000 in
theorem gX8_turn_X7_set : GoodIn wsX8_turn (wsV RX8 274 RX7 yX7_set wsX7_set) := goodIn_app (goodIn_of _ (by decide +kernel)) ggX8_turn_X7_set
set_option maxRecDepth 20000 in
theorem ggX8_turn_X8_runOf : GoodIn wsX8_turn wsX8_runOf := goodIn_r _ [83, 3, 84, 85, 86, 87, 88, 89, 90, 91, 92, 93, 94, 95, 96, 32, 97, 49, 47, 98, 50, 51, 99, 100, 101, 15, 102, 56, 78, 8, 79, 103, 104, 105, 106, 107, 108, 109, 110, 111, 112, 113, 114, 115, 116, 117, 118, 119, 120, 121, 122, 123, 124, 125, 126, 127, 128, 129, 130, 131, 13, 14, 16, 17, 132, 133, 134, 135, 136, 137, 138, 139, 140, 141, 142, 143, 144, 145, 36, 146, 147, 148, 149, 150, 151, 152, 153, 154, 155, 156, 157, 158, 159, 160, 161, 162, 163, 164, 165, 166, 167, 168, 169, 170, 171, 172, 173, 174, 175, 176, 177, 178, 179, 180, 181, 182, 183, 184, 185, 186, 187, 188, 189, 190, 191, 192, 193, 194, 195, 196, 197, 198, 199, 200, 212, 213, 214, 215, 216, 201, 202, 203, 204, 205, 206, 207, 208, 209, 210, 211, 217, 218, 219, 220, 221, 222, 223, 224, 225, 226, 227, 228, 229, 230, 231, 232, 233, 234, 235, 236] (by decide +kernel) (by decide +kernel)
set_option maxRecDepth 20000 in
theorem gX8_turn_X8_runOf : GoodIn wsX8_turn (wsV RX8 155 RX8 yX8_runOf wsX8_runOf) := goodIn_app (goodIn_of _ (by decide +kernel)) ggX8_turn_X8_runOf
theorem dX8_turn_0 : decode cX8_turn 0 = .ok (.aload_n 0, 1) := by decide +kernel
theorem dX8_turn_1 : decode cX8_turn 1 = .ok (.iload_n 1, 1) := by decide +kernel
theorem dX8_turn_2 : decode cX8_turn 2 = .ok (.invokevirtual 152, 3) := by decide +kernel
theorem dX8_turn_5 : decode cX8_turn 5 = .ok (.iload_n 2, 1) := by decide +kernel
theorem dX8_turn_6 : decode cX8_turn 6 = .ok (.iconst 0, 1) := by decide +kernel
theorem dX8_turn_7 : decode cX8_turn 7 = .ok (.sipush 3999, 3) := by decide +kernel
theorem dX8_turn_10 : decode cX8_turn 10 = .ok (.invokestatic 100, 3) := by decide +kernel
theorem dX8_turn_13 : decode cX8_turn 13 = .ok (.aload_n 0, 1) := by decide +kernel
theorem dX8_turn_14 : decode cX8_turn 14 = .ok (.getfield 32, 3) := by decide +kernel
theorem dX8_turn_17 : decode cX8_turn 17 = .ok (.aload_n 0, 1) := by decide +kernel
theorem dX8_turn_18 : decode cX8_turn 18 = .ok (.getfield 22, 3) := by decide +kernel
theorem dX8_turn_21 : decode cX8_turn 21 = .ok (.invokevirtual 108, 3) := by decide +kernel
theorem dX8_turn_24 : decode cX8_turn 24 = .ok (.aload_n 0, 1) := by decide +kernel
theorem dX8_turn_25 : decode cX8_turn 25 = .ok (.getfield 22, 3) := by decide +kernel
theorem dX8_turn_28 : decode cX8_turn 28 = .ok (.getfield 133, 3) := by decide +kernel
theorem dX8_turn_31 : decode cX8_turn 31 = .ok (.iload_n 1, 1) := by decide +kernel
theorem dX8_turn_32 : decode cX8_turn 32 = .ok (.iconst 2, 1) := by decide +kernel
theorem dX8_turn_33 : decode cX8_turn 33 = .ok (.iload_n 2, 1) := by decide +kernel
theorem dX8_turn_34 : decode cX8_turn 34 = .ok (.invokevirtual 274, 3) := by decide +kernel
theorem dX8_turn_37 : decode cX8_turn 37 = .ok (.aload_n 0, 1) := by decide +kernel
theorem dX8_turn_38 : decode cX8_turn 38 = .ok (.aload_n 0, 1) := by decide +kernel
theorem dX8_turn_39 : decode cX8_turn 39 = .ok (.getfield 22, 3) := by decide +kernel
theorem dX8_turn_42 : decode cX8_turn 42 = .ok (.iload_n 1, 1) := by decide +kernel
theorem dX8_turn_43 : decode cX8_turn 43 = .ok (.invokevirtual 155, 3) := by decide +kernel
theorem dX8_turn_46 : decode cX8_turn 46 = .ok (.getfield 162, 3) := by decide +kernel
theorem dX8_turn_49 : decode cX8_turn 49 = .ok (.ireturn, 1) := by decide +kernel
set_option maxRecDepth 20000 in
theorem ggX8_dropShot_X8_checkShot : GoodIn wsX8_dropShot wsX8_checkShot := goodIn_ca (goodIn_r _ [9, 10, 11, 2, 3, 12, 13, 14, 15, 16, 17, 87, 88, 89, 90, 91, 92, 93, 94, 95, 96, 97, 98, 99, 100, 101, 102, 103, 104] (by decide +kernel) (by decide +kernel)) (goodIn_sub (fun _ h => List.mem_cons_of_mem _ (List.mem_append_right _ h)) (by decide +kernel))
set_option maxRecDepth 20000 in
theorem gX8_dropShot_X8_checkShot : GoodIn wsX8_dropShot (wsV RX8 152 RX8 yX8_checkShot wsX8_checkShot) := goodIn_app (goodIn_of _ (by decide +kernel)) ggX8_dropShot_X8_checkShot
set_option maxRecDepth 20000 in
theorem ggX8_dropShot_X1_remember : GoodIn wsX8_dropShot wsX1_remember := goodIn_r _ [22, 23, 24, 25, 26, 27, 28, 29, 30, 31, 32, 33, 8, 34, 35, 36, 37, 38, 39, 40, 41, 15, 42, 43, 44, 45, 46, 47, 48, 49, 50, 51, 17, 52, 53, 54, 55, 56, 57, 58, 59, 60, 61, 62, 63, 64, 65, 66, 67, 68, 105, 106, 107, 98, 99, 100, 101, 102, 103, 104] (by decide +kernel) (by decide +kernel)
set_option maxRecDepth 20000 in
theorem gX8_dropShot_X1_remember : GoodIn wsX8_dropShot (wsV RX8 108 RX1 yX1_remember wsX1_remember) := goodIn_app (goodIn_of _ (by decide +kernel)) ggX8_dropShot_X1_remember
set_option maxRecDepth 20000 in
theorem ggX8_dropShot_X7_remove : GoodIn wsX8_dropShot wsX7_remove := goodIn_r _ [72, 17, 73, 74, 75, 15, 76, 77, 78, 79, 80, 51, 81, 82, 83, 84, 85, 8, 86, 103, 104] (by decide +kernel) (by decide +kernel)
set_option maxRecDepth 20000 in
theorem gX8_dropShot_X7_remove : GoodIn wsX8_dropShot (wsV RX8 277 RX7 yX7_remove wsX7_remove) := goodIn_app (goodIn_of _ (by decide +kernel)) ggX8_dropShot_X7_remove
theorem dX8_dropShot_0 : decode cX8_dropShot 0 = .ok (.aload_n 0, 1) := by decide +kernel
theorem dX8_dropShot_1 : decode cX8_dropShot 1 = .ok (.iload_n 1, 1) := by decide +kernel
theorem dX8_dropShot_2 : decode cX8_dropShot 2 = .ok (.invokevirtual 152, 3) := by decide +kernel
theorem dX8_dropShot_5 : decode cX8_dropShot 5 = .ok (.aload_n 0, 1) := by decide +kernel
theorem dX8_dropShot_6 : decode cX8_dropShot 6 = .ok (.getfield 32, 3) := by decide +kernel
theorem dX8_dropShot_9 : decode cX8_dropShot 9 = .ok (.aload_n 0, 1) := by decide +kernel
theorem dX8_dropShot_10 : decode cX8_dropShot 10 = .ok (.getfield 22, 3) := by decide +kernel
theorem dX8_dropShot_13 : decode cX8_dropShot 13 = .ok (.invokevirtual 108, 3) := by decide +kernel
theorem dX8_dropShot_16 : decode cX8_dropShot 16 = .ok (.aload_n 0, 1) := by decide +kernel
theorem dX8_dropShot_17 : decode cX8_dropShot 17 = .ok (.getfield 22, 3) := by decide +kernel
theorem dX8_dropShot_20 : decode cX8_dropShot 20 = .ok (.getfield 133, 3) := by decide +kernel
theorem dX8_dropShot_23 : decode cX8_dropShot 23 = .ok (.iload_n 1, 1) := by decide +kernel
theorem dX8_dropShot_24 : decode cX8_dropShot 24 = .ok (.invokevirtual 277, 3) := by decide +kernel
theorem dX8_dropShot_27 : decode cX8_dropShot 27 = .ok (.aload_n 0, 1) := by decide +kernel
theorem dX8_dropShot_28 : decode cX8_dropShot 28 = .ok (.getfield 22, 3) := by decide +kernel
theorem dX8_dropShot_31 : decode cX8_dropShot 31 = .ok (.getfield 133, 3) := by decide +kernel
theorem dX8_dropShot_34 : decode cX8_dropShot 34 = .ok (.getfield 114, 3) := by decide +kernel
theorem dX8_dropShot_37 : decode cX8_dropShot 37 = .ok (.ireturn, 1) := by decide +kernel
set_option maxRecDepth 20000 in
theorem ggX8_keep_X8_checkSlot : GoodIn wsX8_keep wsX8_checkSlot := goodIn_ca (goodIn_r _ [12, 13, 14] (by decide +kernel) (by decide +kernel)) (goodIn_sub (fun _ h => List.mem_cons_of_mem _ (List.mem_append_right _ h)) (by decide +kernel))
set_option maxRecDepth 20000 in
theorem gX8_keep_X8_checkSlot : GoodIn wsX8_keep (wsV RX8 305 RX8 yX8_checkSlot wsX8_checkSlot) := goodIn_app (goodIn_of _ (by decide +kernel)) ggX8_keep_X8_checkSlot
set_option maxRecDepth 20000 in
theorem ggX8_keep_X8_sceneAt : GoodIn wsX8_keep wsX8_sceneAt := goodIn_r _ [17] (by decide +kernel) (by decide +kernel)
set_option maxRecDepth 20000 in
theorem gX8_keep_X8_sceneAt : GoodIn wsX8_keep (va_wsS RX8 308 yX8_sceneAt wsX8_sceneAt) := goodIn_app (goodIn_of _ (by decide +kernel)) ggX8_keep_X8_sceneAt
set_option maxRecDepth 20000 in
theorem ggX8_keep_X5_init : GoodIn wsX8_keep wsX5_init := goodIn_r _ [19, 20, 21, 22, 23, 24, 25, 26, 27, 28, 29, 30, 31, 32, 33, 34, 35, 36, 73, 74, 68, 69, 70, 71, 72] (by decide +kernel) (by decide +kernel)
set_option maxRecDepth 20000 in
theorem gX8_keep_X5_init_n21 : GoodIn wsX8_keep (wsX5_init) := ggX8_keep_X5_init
set_option maxRecDepth 20000 in
theorem ggX8_keep_X5_become : GoodIn wsX8_keep wsX5_become := goodIn_r _ [40, 26, 27, 28, 29, 30, 41, 42, 43, 25, 44, 35, 45, 46, 47, 48, 49, 50, 51, 52, 36, 53, 54, 55, 4, 56, 68, 69, 70, 71, 72, 73, 74] (by decide +kernel) (by decide +kernel)
set_option maxRecDepth 20000 in
theorem gX8_keep_X5_become : GoodIn wsX8_keep (wsV RX8 111 RX5 yX5_become wsX5_become) := goodIn_app (goodIn_of _ (by decide +kernel)) ggX8_keep_X5_become
theorem dX8_keep_0 : decode cX8_keep 0 = .ok (.aload_n 0, 1) := by decide +kernel
theorem dX8_keep_1 : decode cX8_keep 1 = .ok (.iload_n 1, 1) := by decide +kernel
theorem dX8_keep_2 : decode cX8_keep 2 = .ok (.invokevirtual 305, 3) := by decide +kernel
theorem dX8_keep_5 : decode cX8_keep 5 = .ok (.aload_n 0, 1) := by decide +kernel
theorem dX8_keep_6 : decode cX8_keep 6 = .ok (.getfield 36, 3) := by decide +kernel
theorem dX8_keep_9 : decode cX8_keep 9 = .ok (.iload_n 1, 1) := by decide +kernel
theorem dX8_keep_10 : decode cX8_keep 10 = .ok (.invokestatic 308, 3) := by decide +kernel
theorem dX8_keep_13 : decode cX8_keep 13 = .ok (.astore_n 2, 1) := by decide +kernel
theorem dX8_keep_14 : decode cX8_keep 14 = .ok (.aload_n 2, 1) := by decide +kernel
theorem dX8_keep_15 : decode cX8_keep 15 = .ok (.ifnonnull 18, 3) := by decide +kernel
theorem dX8_keep_18 : decode cX8_keep 18 = .ok (.new 19, 3) := by decide +kernel
theorem dX8_keep_21 : decode cX8_keep 21 = .ok (.dup, 1) := by decide +kernel
theorem dX8_keep_22 : decode cX8_keep 22 = .ok (.invokespecial 21, 3) := by decide +kernel
theorem dX8_keep_25 : decode cX8_keep 25 = .ok (.astore_n 2, 1) := by decide +kernel
theorem dX8_keep_26 : decode cX8_keep 26 = .ok (.aload_n 0, 1) := by decide +kernel
theorem dX8_keep_27 : decode cX8_keep 27 = .ok (.getfield 36, 3) := by decide +kernel
theorem dX8_keep_30 : decode cX8_keep 30 = .ok (.iload_n 1, 1) := by decide +kernel
theorem dX8_keep_31 : decode cX8_keep 31 = .ok (.aload_n 2, 1) := by decide +kernel
theorem dX8_keep_32 : decode cX8_keep 32 = .ok (.aastore, 1) := by decide +kernel
theorem dX8_keep_33 : decode cX8_keep 33 = .ok (.aload_n 2, 1) := by decide +kernel
theorem dX8_keep_34 : decode cX8_keep 34 = .ok (.aload_n 0, 1) := by decide +kernel
theorem dX8_keep_35 : decode cX8_keep 35 = .ok (.getfield 22, 3) := by decide +kernel
theorem dX8_keep_38 : decode cX8_keep 38 = .ok (.invokevirtual 111, 3) := by decide +kernel
theorem dX8_keep_41 : decode cX8_keep 41 = .ok (.aload_n 0, 1) := by decide +kernel
theorem dX8_keep_42 : decode cX8_keep 42 = .ok (.getfield 22, 3) := by decide +kernel
theorem dX8_keep_45 : decode cX8_keep 45 = .ok (.getfield 133, 3) := by decide +kernel
theorem dX8_keep_48 : decode cX8_keep 48 = .ok (.getfield 114, 3) := by decide +kernel
theorem dX8_keep_51 : decode cX8_keep 51 = .ok (.ireturn, 1) := by decide +kernel
set_option maxRecDepth 20000 in
theorem ggX8_restore_X8_checkSlot : GoodIn wsX8_restore wsX8_checkSlot := goodIn_ca (goodIn_r _ [12, 13, 14] (by decide +kernel) (by decide +kernel)) (goodIn_sub (fun _ h => List.mem_cons_of_mem _ (List.mem_append_right _ h)) (by decide +kernel))
set_option maxRecDepth 20000 in
theorem gX8_restore_X8_checkSlot : GoodIn wsX8_restore (wsV RX8 305 RX8 yX8_checkSlot wsX8_checkSlot) := goodIn_app (goodIn_of _ (by decide +kernel)) ggX8_restore_X8_checkSlot
set_option maxRecDepth 20000 in
theorem ggX8_restore_X8_sceneAt : GoodIn wsX8_restore wsX8_sceneAt := goodIn_r _ [17] (by decide +kernel) (by decide +kernel)
set_option maxRecDepth 20000 in
theorem gX8_restore_X8_sceneAt : GoodIn wsX8_restore (va_wsS RX8 308 yX8_sceneAt wsX8_sceneAt) := goodIn_app (goodIn_of _ (by decide +kernel)) ggX8_restore_X8_sceneAt
set_option maxRecDepth 20000 in
theorem ggX8_restore_X1_remember : GoodIn wsX8_restore wsX1_remember := goodIn_r _ [22, 23, 24, 25, 26, 27, 28, 29, 30, 31, 32, 16, 11, 17, 33, 34, 35, 36, 37, 38, 39, 40, 41, 42, 43, 44, 45, 46, 47, 48, 49, 50, 51, 52, 53, 54, 55, 56, 57, 58, 59, 60, 61, 62, 63, 64, 65, 66, 67, 68, 88, 89, 90, 81, 82, 83, 84, 85, 86, 87] (by decide +kernel) (by decide +kernel)
set_option maxRecDepth 20000 in
theorem gX8_restore_X1_remember : GoodIn wsX8_restore (wsV RX8 108 RX1 yX1_remember wsX1_remember) := goodIn_app (goodIn_of _ (by decide +kernel)) ggX8_restore_X1_remember
set_option maxRecDepth 20000 in
theorem ggX8_restore_X5_become : GoodIn wsX8_restore wsX5_become := goodIn_r _ [55, 41, 42, 43, 44, 45, 56, 57, 58, 40, 59, 50, 60, 30, 31, 32, 61, 62, 63, 64, 51, 65, 66, 67, 27, 68, 81, 82, 83, 84, 85, 86, 87] (by decide +kernel) (by decide +kernel)
set_option maxRecDepth 20000 in
theorem gX8_restore_X5_become : GoodIn wsX8_restore (wsV RX8 111 RX5 yX5_become wsX5_become) := goodIn_app (goodIn_of _ (by decide +kernel)) ggX8_restore_X5_become
theorem dX8_restore_0 : decode cX8_restore 0 = .ok (.aload_n 0, 1) := by decide +kernel
theorem dX8_restore_1 : decode cX8_restore 1 = .ok (.iload_n 1, 1) := by decide +kernel
theorem dX8_restore_2 : decode cX8_restore 2 = .ok (.invokevirtual 305, 3) := by decide +kernel
theorem dX8_restore_5 : decode cX8_restore 5 = .ok (.aload_n 0, 1) := by decide +kernel
theorem dX8_restore_6 : decode cX8_restore 6 = .ok (.getfield 36, 3) := by decide +kernel
theorem dX8_restore_9 : decode cX8_restore 9 = .ok (.iload_n 1, 1) := by decide +kernel
theorem dX8_restore_10 : decode cX8_restore 10 = .ok (.invokestatic 308, 3) := by decide +kernel
theorem dX8_restore_13 : decode cX8_restore 13 = .ok (.astore_n 2, 1) := by decide +kernel
theorem dX8_restore_14 : decode cX8_restore 14 = .ok (.aload_n 2, 1) := by decide +kernel
theorem dX8_restore_15 : decode cX8_restore 15 = .ok (.ifnonnull 14, 3) := by decide +kernel
theorem dX8_restore_18 : decode cX8_restore 18 = .ok (.new 89, 3) := by decide +kernel
theorem dX8_restore_21 : decode cX8_restore 21 = .ok (.dup, 1) := by decide +kernel
theorem dX8_restore_22 : decode cX8_restore 22 = .ok (.ldc_w 312, 3) := by decide +kernel
theorem dX8_restore_25 : decode cX8_restore 25 = .ok (.invokespecial 93, 3) := by decide +kernel
theorem dX8_restore_28 : decode cX8_restore 28 = .ok (.athrow, 1) := by decide +kernel
theorem dX8_restore_29 : decode cX8_restore 29 = .ok (.aload_n 0, 1) := by decide +kernel
theorem dX8_restore_30 : decode cX8_restore 30 = .ok (.getfield 32, 3) := by decide +kernel
theorem dX8_restore_33 : decode cX8_restore 33 = .ok (.aload_n 0, 1) := by decide +kernel
theorem dX8_restore_34 : decode cX8_restore 34 = .ok (.getfield 22, 3) := by decide +kernel
theorem dX8_restore_37 : decode cX8_restore 37 = .ok (.invokevirtual 108, 3) := by decide +kernel
theorem dX8_restore_40 : decode cX8_restore 40 = .ok (.aload_n 0, 1) := by decide +kernel
theorem dX8_restore_41 : decode cX8_restore 41 = .ok (.getfield 22, 3) := by decide +kernel
theorem dX8_restore_44 : decode cX8_restore 44 = .ok (.aload_n 2, 1) := by decide +kernel
theorem dX8_restore_45 : decode cX8_restore 45 = .ok (.invokevirtual 111, 3) := by decide +kernel
theorem dX8_restore_48 : decode cX8_restore 48 = .ok (.aload_n 0, 1) := by decide +kernel
theorem dX8_restore_49 : decode cX8_restore 49 = .ok (.getfield 22, 3) := by decide +kernel
theorem dX8_restore_52 : decode cX8_restore 52 = .ok (.getfield 133, 3) := by decide +kernel
theorem dX8_restore_55 : decode cX8_restore 55 = .ok (.getfield 114, 3) := by decide +kernel
theorem dX8_restore_58 : decode cX8_restore 58 = .ok (.ireturn, 1) := by decide +kernel
set_option maxRecDepth 20000 in
theorem ggX8_undo_X1_recall : GoodIn wsX8_undo wsX1_recall := goodIn_r _ [10, 11, 12, 13, 14, 15, 16, 17, 18, 19, 20, 21, 22, 23, 24, 25, 26, 27, 28, 29, 30, 31, 32, 33, 34, 35, 36, 37, 38, 39, 40, 41, 42, 43, 44, 45, 57, 58, 59, 60, 61, 62, 63, 64, 65, 66] (by decide +kernel) (by decide +kernel)
set_option maxRecDepth 20000 in
theorem gX8_undo_X1_recall : GoodIn wsX8_undo (wsV RX8 319 RX1 yX1_recall wsX1_recall) := goodIn_app (goodIn_of _ (by decide +kernel)) ggX8_undo_X1_recall
theorem dX8_undo_0 : decode cX8_undo 0 = .ok (.aload_n 0, 1) := by decide +kernel
theorem dX8_undo_1 : decode cX8_undo 1 = .ok (.getfield 32, 3) := by decide +kernel
theorem dX8_undo_4 : decode cX8_undo 4 = .ok (.getfield 314, 3) := by decide +kernel
theorem dX8_undo_7 : decode cX8_undo 7 = .ok (.ifCond .ne 14, 3) := by decide +kernel
theorem dX8_undo_10 : decode cX8_undo 10 = .ok (.new 89, 3) := by decide +kernel
theorem dX8_undo_13 : decode cX8_undo 13 = .ok (.dup, 1) := by decide +kernel
theorem dX8_undo_14 : decode cX8_undo 14 = .ok (.ldc_w 317, 3) := by decide +kernel
theorem dX8_undo_17 : decode cX8_undo 17 = .ok (.invokespecial 93, 3) := by decide +kernel
theorem dX8_undo_20 : decode cX8_undo 20 = .ok (.athrow, 1) := by decide +kernel
theorem dX8_undo_21 : decode cX8_undo 21 = .ok (.aload_n 0, 1) := by decide +kernel
theorem dX8_undo_22 : decode cX8_undo 22 = .ok (.getfield 32, 3) := by decide +kernel
theorem dX8_undo_25 : decode cX8_undo 25 = .ok (.aload_n 0, 1) := by decide +kernel
theorem dX8_undo_26 : decode cX8_undo 26 = .ok (.getfield 22, 3) := by decide +kernel
theorem dX8_undo_29 : decode cX8_undo 29 = .ok (.invokevirtual 319, 3) := by decide +kernel
theorem dX8_undo_32 : decode cX8_undo 32 = .ok (.aload_n 0, 1) := by decide +kernel
theorem dX8_undo_33 : decode cX8_undo 33 = .ok (.getfield 32, 3) := by decide +kernel
theorem dX8_undo_36 : decode cX8_undo 36 = .ok (.getfield 314, 3) := by decide +kernel
theorem dX8_undo_39 : decode cX8_undo 39 = .ok (.ireturn, 1) := by decide +kernel
theorem dX8_undoCount_0 : decode cX8_undoCount 0 = .ok (.aload_n 0, 1) := by decide +kernel
theorem dX8_undoCount_1 : decode cX8_undoCount 1 = .ok (.getfield 32, 3) := by decide +kernel
theorem dX8_undoCount_4 : decode cX8_undoCount 4 = .ok (.getfield 314, 3) := by decide +kernel
theorem dX8_undoCount_7 : decode cX8_undoCount 7 = .ok (.ireturn, 1) := by decide +kernel
set_option maxRecDepth 20000 in
theorem ggX8_writeLayers_X0_add : GoodIn wsX8_writeLayers wsX0_add := goodIn_r _ [12, 13, 14, 37, 38] (by decide +kernel) (by decide +kernel)
set_option maxRecDepth 20000 in
theorem gX8_writeLayers_X0_add : GoodIn wsX8_writeLayers (wsV RX8 322 RX0 yX0_add wsX0_add) := goodIn_app (goodIn_of _ (by decide +kernel)) ggX8_writeLayers_X0_add
set_option maxRecDepth 20000 in
theorem ggX8_writeLayers_X7_get : GoodIn wsX8_writeLayers wsX7_get := goodIn_r _ [19, 20, 44, 45] (by decide +kernel) (by decide +kernel)
set_option maxRecDepth 20000 in
theorem gX8_writeLayers_X7_get : GoodIn wsX8_writeLayers (wsV RX8 148 RX7 yX7_get wsX7_get) := goodIn_app (goodIn_of _ (by decide +kernel)) ggX8_writeLayers_X7_get
set_option maxRecDepth 20000 in
theorem ggX8_writeLayers_X0_addNumber : GoodIn wsX8_writeLayers wsX0_addNumber := goodIn_r _ [24, 25, 9, 10, 11, 12, 13, 14, 37, 38] (by decide +kernel) (by decide +kernel)
set_option maxRecDepth 20000 in
theorem gX8_writeLayers_X0_addNumber : GoodIn wsX8_writeLayers (wsV RX8 325 RX0 yX0_addNumber wsX0_addNumber) := goodIn_app (goodIn_of _ (by decide +kernel)) ggX8_writeLayers_X0_addNumber
theorem dX8_writeLayers_0 : decode cX8_writeLayers 0 = .ok (.aload_n 0, 1) := by decide +kernel
theorem dX8_writeLayers_1 : decode cX8_writeLayers 1 = .ok (.getfield 16, 3) := by decide +kernel
theorem dX8_writeLayers_4 : decode cX8_writeLayers 4 = .ok (.iconst 0, 1) := by decide +kernel
theorem dX8_writeLayers_5 : decode cX8_writeLayers 5 = .ok (.putfield 85, 3) := by decide +kernel
theorem dX8_writeLayers_8 : decode cX8_writeLayers 8 = .ok (.iconst 0, 1) := by decide +kernel
theorem dX8_writeLayers_9 : decode cX8_writeLayers 9 = .ok (.istore_n 1, 1) := by decide +kernel
theorem dX8_writeLayers_10 : decode cX8_writeLayers 10 = .ok (.iload_n 1, 1) := by decide +kernel
theorem dX8_writeLayers_11 : decode cX8_writeLayers 11 = .ok (.aload_n 0, 1) := by decide +kernel
theorem dX8_writeLayers_12 : decode cX8_writeLayers 12 = .ok (.getfield 22, 3) := by decide +kernel
theorem dX8_writeLayers_15 : decode cX8_writeLayers 15 = .ok (.getfield 75, 3) := by decide +kernel
theorem dX8_writeLayers_18 : decode cX8_writeLayers 18 = .ok (.getfield 114, 3) := by decide +kernel
theorem dX8_writeLayers_21 : decode cX8_writeLayers 21 = .ok (.if_icmp .ge 69, 3) := by decide +kernel
theorem dX8_writeLayers_24 : decode cX8_writeLayers 24 = .ok (.iload_n 1, 1) := by decide +kernel
theorem dX8_writeLayers_25 : decode cX8_writeLayers 25 = .ok (.ifCond .le 12, 3) := by decide +kernel
theorem dX8_writeLayers_28 : decode cX8_writeLayers 28 = .ok (.aload_n 0, 1) := by decide +kernel
theorem dX8_writeLayers_29 : decode cX8_writeLayers 29 = .ok (.getfield 16, 3) := by decide +kernel
theorem dX8_writeLayers_32 : decode cX8_writeLayers 32 = .ok (.bipush 47, 2) := by decide +kernel
theorem dX8_writeLayers_34 : decode cX8_writeLayers 34 = .ok (.invokevirtual 322, 3) := by decide +kernel
theorem dX8_writeLayers_37 : decode cX8_writeLayers 37 = .ok (.aload_n 0, 1) := by decide +kernel
theorem dX8_writeLayers_38 : decode cX8_writeLayers 38 = .ok (.getfield 16, 3) := by decide +kernel
theorem dX8_writeLayers_41 : decode cX8_writeLayers 41 = .ok (.aload_n 0, 1) := by decide +kernel
theorem dX8_writeLayers_42 : decode cX8_writeLayers 42 = .ok (.getfield 22, 3) := by decide +kernel
theorem dX8_writeLayers_45 : decode cX8_writeLayers 45 = .ok (.getfield 75, 3) := by decide +kernel
theorem dX8_writeLayers_48 : decode cX8_writeLayers 48 = .ok (.iload_n 1, 1) := by decide +kernel
theorem dX8_writeLayers_49 : decode cX8_writeLayers 49 = .ok (.iconst 0, 1) := by decide +kernel
theorem dX8_writeLayers_50 : decode cX8_writeLayers 50 = .ok (.invokevirtual 148, 3) := by decide +kernel
theorem dX8_writeLayers_53 : decode cX8_writeLayers 53 = .ok (.invokevirtual 325, 3) := by decide +kernel
theorem dX8_writeLayers_56 : decode cX8_writeLayers 56 = .ok (.aload_n 0, 1) := by decide +kernel
theorem dX8_writeLayers_57 : decode cX8_writeLayers 57 = .ok (.getfield 16, 3) := by decide +kernel
theorem dX8_writeLayers_60 : decode cX8_writeLayers 60 = .ok (.bipush 120, 2) := by decide +kernel
theorem dX8_writeLayers_62 : decode cX8_writeLayers 62 = .ok (.invokevirtual 322, 3) := by decide +kernel
theorem dX8_writeLayers_65 : decode cX8_writeLayers 65 = .ok (.aload_n 0, 1) := by decide +kernel
theorem dX8_writeLayers_66 : decode cX8_writeLayers 66 = .ok (.getfield 16, 3) := by decide +kernel
theorem dX8_writeLayers_69 : decode cX8_writeLayers 69 = .ok (.aload_n 0, 1) := by decide +kernel
theorem dX8_writeLayers_70 : decode cX8_writeLayers 70 = .ok (.getfield 22, 3) := by decide +kernel
theorem dX8_writeLayers_73 : decode cX8_writeLayers 73 = .ok (.getfield 75, 3) := by decide +kernel
theorem dX8_writeLayers_76 : decode cX8_writeLayers 76 = .ok (.iload_n 1, 1) := by decide +kernel
theorem dX8_writeLayers_77 : decode cX8_writeLayers 77 = .ok (.iconst 1, 1) := by decide +kernel
theorem dX8_writeLayers_78 : decode cX8_writeLayers 78 = .ok (.invokevirtual 148, 3) := by decide +kernel
theorem dX8_writeLayers_81 : decode cX8_writeLayers 81 = .ok (.invokevirtual 325, 3) := by decide +kernel
theorem dX8_writeLayers_84 : decode cX8_writeLayers 84 = .ok (.iinc 1 1, 3) := by decide +kernel
theorem dX8_writeLayers_87 : decode cX8_writeLayers 87 = .ok (.goto (-77), 3) := by decide +kernel
theorem dX8_writeLayers_90 : decode cX8_writeLayers 90 = .ok (.aload_n 0, 1) := by decide +kernel
theorem dX8_writeLayers_91 : decode cX8_writeLayers 91 = .ok (.getfield 16, 3) := by decide +kernel
theorem dX8_writeLayers_94 : decode cX8_writeLayers 94 = .ok (.aload_n 0, 1) := by decide +kernel
theorem dX8_writeLayers_95 : decode cX8_writeLayers 95 = .ok (.getfield 22, 3) := by decide +kernel
theorem dX8_writeLayers_98 : decode cX8_writeLayers 98 = .ok (.getfield 126, 3) := by decide +kernel
theorem dX8_writeLayers_101 : decode cX8_writeLayers 101 = .ok (.ifCond .eq 8, 3) := by decide +kernel
theorem dX8_writeLayers_104 : decode cX8_writeLayers 104 = .ok (.bipush 35, 2) := by decide +kernel
theorem dX8_writeLayers_106 : decode cX8_writeLayers 106 = .ok (.goto 5, 3) := by decide +kernel
theorem dX8_writeLayers_109 : decode cX8_writeLayers 109 = .ok (.bipush 124, 2) := by decide +kernel
theorem dX8_writeLayers_111 : decode cX8_writeLayers 111 = .ok (.invokevirtual 322, 3) := by decide +kernel
theorem dX8_writeLayers_114 : decode cX8_writeLayers 114 = .ok (.aload_n 0, 1) := by decide +kernel
theorem dX8_writeLayers_115 : decode cX8_writeLayers 115 = .ok (.getfield 16, 3) := by decide +kernel
theorem dX8_writeLayers_118 : decode cX8_writeLayers 118 = .ok (.aload_n 0, 1) := by decide +kernel
theorem dX8_writeLayers_119 : decode cX8_writeLayers 119 = .ok (.getfield 22, 3) := by decide +kernel
theorem dX8_writeLayers_122 : decode cX8_writeLayers 122 = .ok (.getfield 130, 3) := by decide +kernel
theorem dX8_writeLayers_125 : decode cX8_writeLayers 125 = .ok (.invokevirtual 325, 3) := by decide +kernel
theorem dX8_writeLayers_128 : decode cX8_writeLayers 128 = .ok (.aload_n 0, 1) := by decide +kernel
theorem dX8_writeLayers_129 : decode cX8_writeLayers 129 = .ok (.getfield 16, 3) := by decide +kernel
theorem dX8_writeLayers_132 : decode cX8_writeLayers 132 = .ok (.getfield 85, 3) := by decide +kernel
theorem dX8_writeLayers_135 : decode cX8_writeLayers 135 = .ok (.ireturn, 1) := by decide +kernel
set_option maxRecDepth 20000 in
theorem ggX8_writePath_X8_checkShot : GoodIn wsX8_writePath wsX8_checkShot := goodIn_ca (goodIn_r _ [10, 11, 12, 13, 14, 15, 16, 17, 18, 19, 20, 232, 233, 234, 235, 236, 237, 238, 239, 240, 241, 242, 249, 250, 251, 252, 253, 254, 255] (by decide +kernel) (by decide +kernel)) (goodIn_sub (fun _ h => List.mem_cons_of_mem _ (List.mem_append_right _ h)) (by decide +kernel))
set_option maxRecDepth 20000 in
theorem gX8_writePath_X8_checkShot : GoodIn wsX8_writePath (wsV RX8 152 RX8 yX8_checkShot wsX8_checkShot) := goodIn_app (goodIn_of _ (by decide +kernel)) ggX8_writePath_X8_checkShot
set_option maxRecDepth 20000 in
theorem ggX8_writePath_X8_pathOf : GoodIn wsX8_writePath wsX8_pathOf := goodIn_r _ [24, 13, 14, 25, 26, 27, 18, 28, 29, 30, 31, 32, 33, 34, 35, 36, 37, 38, 39, 40, 41, 42, 43, 44, 45, 46, 47, 48, 49, 50, 51, 52, 53, 54, 55, 56, 57, 58, 59, 60, 61, 62, 63, 9, 64, 65, 66, 67, 68, 69, 70, 71, 72, 73, 74, 75, 76, 77, 78, 79, 80, 81, 82, 83, 84, 85, 86, 87, 88, 16, 17, 19, 20, 89, 90, 91, 92, 93, 94, 95, 96, 97, 98, 99, 100, 101, 102, 103, 104, 105, 106, 107, 108, 109, 110, 111, 112, 113, 114, 115, 116, 117, 118, 119, 120, 121, 122, 123, 124, 125, 126, 127, 128, 129, 130, 131, 132, 133, 134, 135, 136, 137, 138, 139, 140, 141, 142, 143, 144, 145, 146, 147, 148, 149, 150, 151, 152, 153, 154, 155, 156, 157, 158, 159, 160, 161, 162, 163, 164, 165, 166, 232, 233, 234, 235, 236, 237, 238, 239, 240, 241, 242, 249, 250, 251, 252, 253, 254, 255, 245, 246, 247, 248, 256, 257, 258, 259, 260, 261, 262, 263, 264, 265, 266, 267, 268, 269, 270, 271, 272, 273] (by decide +kernel) (by decide +kernel)
set_option maxRecDepth 20000 in
theorem gX8_writePath_X8_pathOf : GoodIn wsX8_writePath (wsV RX8 191 RX8 yX8_pathOf wsX8_pathOf) := goodIn_app (goodIn_of _ (by decide +kernel)) ggX8_writePath_X8_pathOf
set_option maxRecDepth 20000 in
theorem ggX8_writePath_X3_get : GoodIn wsX8_writePath wsX3_get := goodIn_r _ [170, 40, 101, 118, 9, 119, 245, 246, 247, 248] (by decide +kernel) (by decide +kernel)
set_option maxRecDepth 20000 in
theorem gX8_writePath_X3_get : GoodIn wsX8_writePath (wsV RX8 201 RX3 yX3_get wsX3_get) := goodIn_app (goodIn_of _ (by decide +kernel)) ggX8_writePath_X3_get
set_option maxRecDepth 20000 in
theorem ggX8_writePath_X0_add : GoodIn wsX8_writePath wsX0_add := goodIn_r _ [175, 176, 177, 243, 244] (by decide +kernel) (by decide +kernel)
set_option maxRecDepth 20000 in
theorem gX8_writePath_X0_add : GoodIn wsX8_writePath (wsV RX8 322 RX0 yX0_add wsX0_add) := goodIn_app (goodIn_of _ (by decide +kernel)) ggX8_writePath_X0_add
set_option maxRecDepth 20000 in
theorem ggX8_writePath_X0_addNumber : GoodIn wsX8_writePath wsX0_addNumber := goodIn_r _ [181, 182, 172, 173, 174, 175, 176, 177, 243, 244] (by decide +kernel) (by decide +kernel)
set_option maxRecDepth 20000 in
theorem gX8_writePath_X0_addNumber : GoodIn wsX8_writePath (wsV RX8 325 RX0 yX0_addNumber wsX0_addNumber) := goodIn_app (goodIn_of _ (by decide +kernel)) ggX8_writePath_X0_addNumber
set_option maxRecDepth 20000 in
theorem ggX8_writePath_J0_length_8abf5 : GoodIn wsX8_writePath wsJ0_length_8abf5 := goodIn_r _ [187, 188, 189, 190, 191, 186, 192, 193, 194] (by decide +kernel) (by decide +kernel)
set_option maxRecDepth 20000 in
theorem gX8_writePath_J0_length_8abf5 : GoodIn wsX8_writePath (wsV RX8 331 RJ0 yJ0_length_8abf5 wsJ0_length_8abf5) := goodIn_app (goodIn_of _ (by decide +kernel)) ggX8_writePath_J0_length_8abf5
set_option maxRecDepth 20000 in
theorem ggX8_writePath_J0_charAt_5068e : GoodIn wsX8_writePath wsJ0_charAt_5068e := goodIn_r _ [198, 188, 199, 200, 201, 186, 202, 193, 194, 203, 204, 205, 206, 207, 208, 209, 210, 211, 212, 213, 214, 215, 216, 217, 218, 219, 220, 221, 222, 223, 224, 225, 226, 227, 228, 229, 230, 231] (by decide +kernel) (by decide +kernel)
set_option maxRecDepth 20000 in
theorem gX8_writePath_J0_charAt_5068e : GoodIn wsX8_writePath (wsV RX8 336 RJ0 yJ0_charAt_5068e wsJ0_charAt_5068e) := goodIn_app (goodIn_of _ (by decide +kernel)) ggX8_writePath_J0_charAt_5068e
theorem dX8_writePath_0 : decode cX8_writePath 0 = .ok (.aload_n 0, 1) := by decide +kernel
theorem dX8_writePath_1 : decode cX8_writePath 1 = .ok (.iload_n 1, 1) := by decide +kernel
theorem dX8_writePath_2 : decode cX8_writePath 2 = .ok (.invokevirtual 152, 3) := by decide +kernel
theorem dX8_writePath_5 : decode cX8_writePath 5 = .ok (.aload_n 0, 1) := by decide +kernel
theorem dX8_writePath_6 : decode cX8_writePath 6 = .ok (.aload_n 0, 1) := by decide +kernel
theorem dX8_writePath_7 : decode cX8_writePath 7 = .ok (.getfield 52, 3) := by decide +kernel
theorem dX8_writePath_10 : decode cX8_writePath 10 = .ok (.iload_n 1, 1) := by decide +kernel
theorem dX8_writePath_11 : decode cX8_writePath 11 = .ok (.invokevirtual 191, 3) := by decide +kernel
theorem dX8_writePath_14 : decode cX8_writePath 14 = .ok (.astore_n 2, 1) := by decide +kernel
theorem dX8_writePath_15 : decode cX8_writePath 15 = .ok (.aload_n 0, 1) := by decide +kernel
theorem dX8_writePath_16 : decode cX8_writePath 16 = .ok (.getfield 16, 3) := by decide +kernel
theorem dX8_writePath_19 : decode cX8_writePath 19 = .ok (.iconst 0, 1) := by decide +kernel
theorem dX8_writePath_20 : decode cX8_writePath 20 = .ok (.putfield 85, 3) := by decide +kernel
theorem dX8_writePath_23 : decode cX8_writePath 23 = .ok (.iconst 0, 1) := by decide +kernel
theorem dX8_writePath_24 : decode cX8_writePath 24 = .ok (.istore_n 3, 1) := by decide +kernel
theorem dX8_writePath_25 : decode cX8_writePath 25 = .ok (.iload_n 3, 1) := by decide +kernel
theorem dX8_writePath_26 : decode cX8_writePath 26 = .ok (.aload_n 2, 1) := by decide +kernel
theorem dX8_writePath_27 : decode cX8_writePath 27 = .ok (.getfield 195, 3) := by decide +kernel
theorem dX8_writePath_30 : decode cX8_writePath 30 = .ok (.if_icmp .ge 46, 3) := by decide +kernel
theorem dX8_writePath_33 : decode cX8_writePath 33 = .ok (.aload_n 0, 1) := by decide +kernel
theorem dX8_writePath_34 : decode cX8_writePath 34 = .ok (.getfield 16, 3) := by decide +kernel
theorem dX8_writePath_37 : decode cX8_writePath 37 = .ok (.aload_n 2, 1) := by decide +kernel
theorem dX8_writePath_38 : decode cX8_writePath 38 = .ok (.iload_n 3, 1) := by decide +kernel
theorem dX8_writePath_39 : decode cX8_writePath 39 = .ok (.iconst 1, 1) := by decide +kernel
theorem dX8_writePath_40 : decode cX8_writePath 40 = .ok (.invokevirtual 201, 3) := by decide +kernel
theorem dX8_writePath_43 : decode cX8_writePath 43 = .ok (.iconst 1, 1) := by decide +kernel
theorem dX8_writePath_44 : decode cX8_writePath 44 = .ok (.if_icmp .ne 8, 3) := by decide +kernel
theorem dX8_writePath_47 : decode cX8_writePath 47 = .ok (.bipush 118, 2) := by decide +kernel
theorem dX8_writePath_49 : decode cX8_writePath 49 = .ok (.goto 5, 3) := by decide +kernel
theorem dX8_writePath_52 : decode cX8_writePath 52 = .ok (.bipush 94, 2) := by decide +kernel
theorem dX8_writePath_54 : decode cX8_writePath 54 = .ok (.invokevirtual 322, 3) := by decide +kernel
theorem dX8_writePath_57 : decode cX8_writePath 57 = .ok (.aload_n 0, 1) := by decide +kernel
theorem dX8_writePath_58 : decode cX8_writePath 58 = .ok (.getfield 16, 3) := by decide +kernel
theorem dX8_writePath_61 : decode cX8_writePath 61 = .ok (.aload_n 2, 1) := by decide +kernel
theorem dX8_writePath_62 : decode cX8_writePath 62 = .ok (.iload_n 3, 1) := by decide +kernel
theorem dX8_writePath_63 : decode cX8_writePath 63 = .ok (.iconst 0, 1) := by decide +kernel
theorem dX8_writePath_64 : decode cX8_writePath 64 = .ok (.invokevirtual 201, 3) := by decide +kernel
theorem dX8_writePath_67 : decode cX8_writePath 67 = .ok (.invokevirtual 325, 3) := by decide +kernel
theorem dX8_writePath_70 : decode cX8_writePath 70 = .ok (.iinc 3 1, 3) := by decide +kernel
theorem dX8_writePath_73 : decode cX8_writePath 73 = .ok (.goto (-48), 3) := by decide +kernel
theorem dX8_writePath_76 : decode cX8_writePath 76 = .ok (.aload_n 2, 1) := by decide +kernel
theorem dX8_writePath_77 : decode cX8_writePath 77 = .ok (.getfield 328, 3) := by decide +kernel
theorem dX8_writePath_80 : decode cX8_writePath 80 = .ok (.istore_n 3, 1) := by decide +kernel
theorem dX8_writePath_81 : decode cX8_writePath 81 = .ok (.iload_n 3, 1) := by decide +kernel
theorem dX8_writePath_82 : decode cX8_writePath 82 = .ok (.ifCond .lt 27, 3) := by decide +kernel
theorem dX8_writePath_85 : decode cX8_writePath 85 = .ok (.iload_n 3, 1) := by decide +kernel
theorem dX8_writePath_86 : decode cX8_writePath 86 = .ok (.ldc_w 329, 3) := by decide +kernel
theorem dX8_writePath_89 : decode cX8_writePath 89 = .ok (.invokevirtual 331, 3) := by decide +kernel
theorem dX8_writePath_92 : decode cX8_writePath 92 = .ok (.if_icmp .ge 17, 3) := by decide +kernel
theorem dX8_writePath_95 : decode cX8_writePath 95 = .ok (.aload_n 0, 1) := by decide +kernel
theorem dX8_writePath_96 : decode cX8_writePath 96 = .ok (.getfield 16, 3) := by decide +kernel
theorem dX8_writePath_99 : decode cX8_writePath 99 = .ok (.ldc_w 329, 3) := by decide +kernel
theorem dX8_writePath_102 : decode cX8_writePath 102 = .ok (.iload_n 3, 1) := by decide +kernel
theorem dX8_writePath_103 : decode cX8_writePath 103 = .ok (.invokevirtual 336, 3) := by decide +kernel
theorem dX8_writePath_106 : decode cX8_writePath 106 = .ok (.invokevirtual 322, 3) := by decide +kernel
theorem dX8_writePath_109 : decode cX8_writePath 109 = .ok (.aload_n 0, 1) := by decide +kernel
theorem dX8_writePath_110 : decode cX8_writePath 110 = .ok (.getfield 16, 3) := by decide +kernel
theorem dX8_writePath_113 : decode cX8_writePath 113 = .ok (.getfield 85, 3) := by decide +kernel
theorem dX8_writePath_116 : decode cX8_writePath 116 = .ok (.ireturn, 1) := by decide +kernel
set_option maxRecDepth 20000 in
theorem ggX8_outputByte_X0_get : GoodIn wsX8_outputByte wsX0_get := goodIn_r _ [8, 9, 10, 22, 23] (by decide +kernel) (by decide +kernel)
set_option maxRecDepth 20000 in
theorem gX8_outputByte_X0_get : GoodIn wsX8_outputByte (wsV RX8 340 RX0 yX0_get wsX0_get) := goodIn_app (goodIn_of _ (by decide +kernel)) ggX8_outputByte_X0_get
theorem dX8_outputByte_0 : decode cX8_outputByte 0 = .ok (.aload_n 0, 1) := by decide +kernel
theorem dX8_outputByte_1 : decode cX8_outputByte 1 = .ok (.getfield 16, 3) := by decide +kernel
theorem dX8_outputByte_4 : decode cX8_outputByte 4 = .ok (.iload_n 1, 1) := by decide +kernel
theorem dX8_outputByte_5 : decode cX8_outputByte 5 = .ok (.invokevirtual 340, 3) := by decide +kernel
theorem dX8_outputByte_8 : decode cX8_outputByte 8 = .ok (.istore_n 2, 1) := by decide +kernel
theorem dX8_outputByte_9 : decode cX8_outputByte 9 = .ok (.iload_n 2, 1) := by decide +kernel
theorem dX8_outputByte_10 : decode cX8_outputByte 10 = .ok (.iconst (-1), 1) := by decide +kernel
theorem dX8_outputByte_11 : decode cX8_outputByte 11 = .ok (.if_icmp .ne 14, 3) := by decide +kernel
theorem dX8_outputByte_14 : decode cX8_outputByte 14 = .ok (.new 342, 3) := by decide +kernel
theorem dX8_outputByte_17 : decode cX8_outputByte 17 = .ok (.dup, 1) := by decide +kernel
theorem dX8_outputByte_18 : decode cX8_outputByte 18 = .ok (.ldc_w 344, 3) := by decide +kernel
theorem dX8_outputByte_21 : decode cX8_outputByte 21 = .ok (.invokespecial 346, 3) := by decide +kernel
theorem dX8_outputByte_24 : decode cX8_outputByte 24 = .ok (.athrow, 1) := by decide +kernel
theorem dX8_outputByte_25 : decode cX8_outputByte 25 = .ok (.iload_n 2, 1) := by decide +kernel
theorem dX8_outputByte_26 : decode cX8_outputByte 26 = .ok (.ireturn, 1) := by decide +kernel
theorem dX8_checkRange_0 : decode cX8_checkRange 0 = .ok (.iload_n 0, 1) := by decide +kernel
theorem dX8_checkRange_1 : decode cX8_checkRange 1 = .ok (.iload_n 1, 1) := by decide +kernel
theorem dX8_checkRange_2 : decode cX8_checkRange 2 = .ok (.if_icmp .lt 8, 3) := by decide +kernel
theorem dX8_checkRange_5 : decode cX8_checkRange 5 = .ok (.iload_n 0, 1) := by decide +kernel
theorem dX8_checkRange_6 : decode cX8_checkRange 6 = .ok (.iload_n 2, 1) := by decide +kernel
theorem dX8_checkRange_7 : decode cX8_checkRange 7 = .ok (.if_icmp .le 14, 3) := by decide +kernel
theorem dX8_checkRange_10 : decode cX8_checkRange 10 = .ok (.new 140, 3) := by decide +kernel
theorem dX8_checkRange_13 : decode cX8_checkRange 13 = .ok (.dup, 1) := by decide +kernel
theorem dX8_checkRange_14 : decode cX8_checkRange 14 = .ok (.ldc_w 347, 3) := by decide +kernel
theorem dX8_checkRange_17 : decode cX8_checkRange 17 = .ok (.invokespecial 144, 3) := by decide +kernel
theorem dX8_checkRange_20 : decode cX8_checkRange 20 = .ok (.athrow, 1) := by decide +kernel
theorem dX8_checkRange_21 : decode cX8_checkRange 21 = .ok (.return_, 1) := by decide +kernel
theorem dX8_checkNotNegative_0 : decode cX8_checkNotNegative 0 = .ok (.iload_n 0, 1) := by decide +kernel
theorem dX8_checkNotNegative_1 : decode cX8_checkNotNegative 1 = .ok (.ifCond .ge 14, 3) := by decide +kernel
theorem dX8_checkNotNegative_4 : decode cX8_checkNotNegative 4 = .ok (.new 140, 3) := by decide +kernel
theorem dX8_checkNotNegative_7 : decode cX8_checkNotNegative 7 = .ok (.dup, 1) := by decide +kernel
theorem dX8_checkNotNegative_8 : decode cX8_checkNotNegative 8 = .ok (.ldc_w 349, 3) := by decide +kernel
theorem dX8_checkNotNegative_11 : decode cX8_checkNotNegative 11 = .ok (.invokespecial 144, 3) := by decide +kernel
theorem dX8_checkNotNegative_14 : decode cX8_checkNotNegative 14 = .ok (.athrow, 1) := by decide +kernel
theorem dX8_checkNotNegative_15 : decode cX8_checkNotNegative 15 = .ok (.return_, 1) := by decide +kernel
set_option maxRecDepth 20000 in
theorem ggX8_checkLayer_X7_has : GoodIn wsX8_checkLayer wsX7_has := goodIn_r _ [9, 10, 27, 28] (by decide +kernel) (by decide +kernel)
set_option maxRecDepth 20000 in
theorem gX8_checkLayer_X7_has : GoodIn wsX8_checkLayer (wsV RX8 351 RX7 yX7_has wsX7_has) := goodIn_app (goodIn_of _ (by decide +kernel)) ggX8_checkLayer_X7_has
theorem dX8_checkLayer_0 : decode cX8_checkLayer 0 = .ok (.aload_n 0, 1) := by decide +kernel
theorem dX8_checkLayer_1 : decode cX8_checkLayer 1 = .ok (.getfield 22, 3) := by decide +kernel
theorem dX8_checkLayer_4 : decode cX8_checkLayer 4 = .ok (.getfield 75, 3) := by decide +kernel
theorem dX8_checkLayer_7 : decode cX8_checkLayer 7 = .ok (.iload_n 1, 1) := by decide +kernel
theorem dX8_checkLayer_8 : decode cX8_checkLayer 8 = .ok (.invokevirtual 351, 3) := by decide +kernel
theorem dX8_checkLayer_11 : decode cX8_checkLayer 11 = .ok (.ifCond .ne 14, 3) := by decide +kernel
theorem dX8_checkLayer_14 : decode cX8_checkLayer 14 = .ok (.new 196, 3) := by decide +kernel
theorem dX8_checkLayer_17 : decode cX8_checkLayer 17 = .ok (.dup, 1) := by decide +kernel
theorem dX8_checkLayer_18 : decode cX8_checkLayer 18 = .ok (.ldc_w 354, 3) := by decide +kernel
theorem dX8_checkLayer_21 : decode cX8_checkLayer 21 = .ok (.invokespecial 200, 3) := by decide +kernel
theorem dX8_checkLayer_24 : decode cX8_checkLayer 24 = .ok (.athrow, 1) := by decide +kernel
theorem dX8_checkLayer_25 : decode cX8_checkLayer 25 = .ok (.return_, 1) := by decide +kernel
set_option maxRecDepth 20000 in
theorem ggX8_checkShot_X7_has : GoodIn wsX8_checkShot wsX7_has := goodIn_r _ [9, 10, 27, 28] (by decide +kernel) (by decide +kernel)
set_option maxRecDepth 20000 in
theorem gX8_checkShot_X7_has : GoodIn wsX8_checkShot (wsV RX8 351 RX7 yX7_has wsX7_has) := goodIn_app (goodIn_of _ (by decide +kernel)) ggX8_checkShot_X7_has
theorem dX8_checkShot_0 : decode cX8_checkShot 0 = .ok (.aload_n 0, 1) := by decide +kernel
theorem dX8_checkShot_1 : decode cX8_checkShot 1 = .ok (.getfield 22, 3) := by decide +kernel
theorem dX8_checkShot_4 : decode cX8_checkShot 4 = .ok (.getfield 133, 3) := by decide +kernel
theorem dX8_checkShot_7 : decode cX8_checkShot 7 = .ok (.iload_n 1, 1) := by decide +kernel
theorem dX8_checkShot_8 : decode cX8_checkShot 8 = .ok (.invokevirtual 351, 3) := by decide +kernel
theorem dX8_checkShot_11 : decode cX8_checkShot 11 = .ok (.ifCond .ne 14, 3) := by decide +kernel
theorem dX8_checkShot_14 : decode cX8_checkShot 14 = .ok (.new 196, 3) := by decide +kernel
theorem dX8_checkShot_17 : decode cX8_checkShot 17 = .ok (.dup, 1) := by decide +kernel
theorem dX8_checkShot_18 : decode cX8_checkShot 18 = .ok (.ldc_w 356, 3) := by decide +kernel
theorem dX8_checkShot_21 : decode cX8_checkShot 21 = .ok (.invokespecial 200, 3) := by decide +kernel
theorem dX8_checkShot_24 : decode cX8_checkShot 24 = .ok (.athrow, 1) := by decide +kernel
theorem dX8_checkShot_25 : decode cX8_checkShot 25 = .ok (.return_, 1) := by decide +kernel
theorem dX8_checkSlot_0 : decode cX8_checkSlot 0 = .ok (.iload_n 1, 1) := by decide +kernel
theorem dX8_checkSlot_1 : decode cX8_checkSlot 1 = .ok (.ifCond .lt 8, 3) := by decide +kernel
theorem dX8_checkSlot_4 : decode cX8_checkSlot 4 = .ok (.iload_n 1, 1) := by decide +kernel
theorem dX8_checkSlot_5 : decode cX8_checkSlot 5 = .ok (.iconst 2, 1) := by decide +kernel
theorem dX8_checkSlot_6 : decode cX8_checkSlot 6 = .ok (.if_icmp .lt 14, 3) := by decide +kernel
theorem dX8_checkSlot_9 : decode cX8_checkSlot 9 = .ok (.new 196, 3) := by decide +kernel
theorem dX8_checkSlot_12 : decode cX8_checkSlot 12 = .ok (.dup, 1) := by decide +kernel
theorem dX8_checkSlot_13 : decode cX8_checkSlot 13 = .ok (.ldc_w 358, 3) := by decide +kernel
theorem dX8_checkSlot_16 : decode cX8_checkSlot 16 = .ok (.invokespecial 200, 3) := by decide +kernel
theorem dX8_checkSlot_19 : decode cX8_checkSlot 19 = .ok (.athrow, 1) := by decide +kernel
theorem dX8_checkSlot_20 : decode cX8_checkSlot 20 = .ok (.return_, 1) := by decide +kernel
set_option maxRecDepth 20000 in
theorem ggX8_checkLayerAndEnd_X8_checkLayer : GoodIn wsX8_checkLayerAndEnd wsX8_checkLayer := goodIn_ca (goodIn_r _ [5, 6, 7, 8, 9, 10, 11, 12, 13, 14, 15, 21, 22, 23, 24, 25, 26, 27, 28, 29, 30, 31, 32, 33, 34, 35, 36, 37, 38] (by decide +kernel) (by decide +kernel)) (goodIn_sub (fun _ h => List.mem_cons_of_mem _ (List.mem_append_left _ (List.mem_append_right _ h))) (by decide +kernel))
set_option maxRecDepth 20000 in
theorem gX8_checkLayerAndEnd_X8_checkLayer : GoodIn wsX8_checkLayerAndEnd (wsV RX8 145 RX8 yX8_checkLayer wsX8_checkLayer) := goodIn_app (goodIn_of _ (by decide +kernel)) ggX8_checkLayerAndEnd_X8_checkLayer
set_option maxRecDepth 20000 in
theorem ggX8_checkLayerAndEnd_X8_checkRange : GoodIn wsX8_checkLayerAndEnd wsX8_checkRange := goodIn_ca (goodIn_r _ [18, 19, 20] (by decide +kernel) (by decide +kernel)) (goodIn_sub (fun _ h => List.mem_cons_of_mem _ (List.mem_append_right _ h)) (by decide +kernel))
set_option maxRecDepth 20000 in
theorem gX8_checkLayerAndEnd_X8_checkRange : GoodIn wsX8_checkLayerAndEnd (va_wsS RX8 100 yX8_checkRange wsX8_checkRange) := goodIn_app (goodIn_of _ (by decide +kernel)) ggX8_checkLayerAndEnd_X8_checkRange
theorem dX8_checkLayerAndEnd_0 : decode cX8_checkLayerAndEnd 0 = .ok (.aload_n 0, 1) := by decide +kernel
theorem dX8_checkLayerAndEnd_1 : decode cX8_checkLayerAndEnd 1 = .ok (.iload_n 1, 1) := by decide +kernel
theorem dX8_checkLayerAndEnd_2 : decode cX8_checkLayerAndEnd 2 = .ok (.invokevirtual 145, 3) := by decide +kernel
theorem dX8_checkLayerAndEnd_5 : decode cX8_checkLayerAndEnd 5 = .ok (.iload_n 2, 1) := by decide +kernel
theorem dX8_checkLayerAndEnd_6 : decode cX8_checkLayerAndEnd 6 = .ok (.iconst 0, 1) := by decide +kernel
theorem dX8_checkLayerAndEnd_7 : decode cX8_checkLayerAndEnd 7 = .ok (.iconst 3, 1) := by decide +kernel
theorem dX8_checkLayerAndEnd_8 : decode cX8_checkLayerAndEnd 8 = .ok (.invokestatic 100, 3) := by decide +kernel
theorem dX8_checkLayerAndEnd_11 : decode cX8_checkLayerAndEnd 11 = .ok (.return_, 1) := by decide +kernel
set_option maxRecDepth 20000 in
theorem ggX8_checkShotAndTime_X8_checkShot : GoodIn wsX8_checkShotAndTime wsX8_checkShot := goodIn_ca (goodIn_r _ [5, 6, 7, 8, 9, 10, 11, 12, 13, 14, 15, 21, 22, 23, 24, 25, 26, 27, 28, 29, 30, 31, 32, 33, 34, 35, 36, 37, 38] (by decide +kernel) (by decide +kernel)) (goodIn_sub (fun _ h => List.mem_cons_of_mem _ (List.mem_append_left _ (List.mem_append_right _ h))) (by decide +kernel))
set_option maxRecDepth 20000 in
theorem gX8_checkShotAndTime_X8_checkShot : GoodIn wsX8_checkShotAndTime (wsV RX8 152 RX8 yX8_checkShot wsX8_checkShot) := goodIn_app (goodIn_of _ (by decide +kernel)) ggX8_checkShotAndTime_X8_checkShot
set_option maxRecDepth 20000 in
theorem ggX8_checkShotAndTime_X8_checkNotNegative : GoodIn wsX8_checkShotAndTime wsX8_checkNotNegative := goodIn_ca (goodIn_r _ [18, 19, 20] (by decide +kernel) (by decide +kernel)) (goodIn_sub (fun _ h => List.mem_cons_of_mem _ (List.mem_append_right _ h)) (by decide +kernel))
set_option maxRecDepth 20000 in
theorem gX8_checkShotAndTime_X8_checkNotNegative : GoodIn wsX8_checkShotAndTime (va_wsS RX8 240 yX8_checkNotNegative wsX8_checkNotNegative) := goodIn_app (goodIn_of _ (by decide +kernel)) ggX8_checkShotAndTime_X8_checkNotNegative
theorem dX8_checkShotAndTime_0 : decode cX8_checkShotAndTime 0 = .ok (.aload_n 0, 1) := by decide +kernel
theorem dX8_checkShotAndTime_1 : decode cX8_checkShotAndTime 1 = .ok (.iload_n 1, 1) := by decide +kernel
theorem dX8_checkShotAndTime_2 : decode cX8_checkShotAndTime 2 = .ok (.invokevirtual 152, 3) := by decide +kernel
theorem dX8_checkShotAndTime_5 : decode cX8_checkShotAndTime 5 = .ok (.iload_n 2, 1) := by decide +kernel
theorem dX8_checkShotAndTime_6 : decode cX8_checkShotAndTime 6 = .ok (.invokestatic 240, 3) := by decide +kernel
theorem dX8_checkShotAndTime_9 : decode cX8_checkShotAndTime 9 = .ok (.return_, 1) := by decide +kernel
set_option maxRecDepth 20000 in
theorem ggX8_checkTwoShots_X8_checkShot : GoodIn wsX8_checkTwoShots wsX8_checkShot := goodIn_ca (goodIn_r _ [7, 8, 9, 10, 11, 12, 13, 14, 15, 16, 17, 18, 19, 20, 21, 22, 23, 24, 25, 26, 27, 28, 29, 30, 31, 32, 33, 34, 35] (by decide +kernel) (by decide +kernel)) (goodIn_sub (fun _ h => List.mem_cons_of_mem _ (List.mem_append_right _ h)) (by decide +kernel))
set_option maxRecDepth 20000 in
theorem gX8_checkTwoShots_X8_checkShot : GoodIn wsX8_checkTwoShots (wsV RX8 152 RX8 yX8_checkShot wsX8_checkShot) := goodIn_app (goodIn_of _ (by decide +kernel)) ggX8_checkTwoShots_X8_checkShot
theorem dX8_checkTwoShots_0 : decode cX8_checkTwoShots 0 = .ok (.aload_n 0, 1) := by decide +kernel
theorem dX8_checkTwoShots_1 : decode cX8_checkTwoShots 1 = .ok (.iload_n 1, 1) := by decide +kernel
theorem dX8_checkTwoShots_2 : decode cX8_checkTwoShots 2 = .ok (.invokevirtual 152, 3) := by decide +kernel
theorem dX8_checkTwoShots_5 : decode cX8_checkTwoShots 5 = .ok (.aload_n 0, 1) := by decide +kernel
theorem dX8_checkTwoShots_6 : decode cX8_checkTwoShots 6 = .ok (.iload_n 2, 1) := by decide +kernel
theorem dX8_checkTwoShots_7 : decode cX8_checkTwoShots 7 = .ok (.invokevirtual 152, 3) := by decide +kernel
theorem dX8_checkTwoShots_10 : decode cX8_checkTwoShots 10 = .ok (.iload_n 1, 1) := by decide +kernel
theorem dX8_checkTwoShots_11 : decode cX8_checkTwoShots 11 = .ok (.iload_n 2, 1) := by decide +kernel
theorem dX8_checkTwoShots_12 : decode cX8_checkTwoShots 12 = .ok (.if_icmp .ne 14, 3) := by decide +kernel
theorem dX8_checkTwoShots_15 : decode cX8_checkTwoShots 15 = .ok (.new 140, 3) := by decide +kernel
theorem dX8_checkTwoShots_18 : decode cX8_checkTwoShots 18 = .ok (.dup, 1) := by decide +kernel
theorem dX8_checkTwoShots_19 : decode cX8_checkTwoShots 19 = .ok (.ldc_w 360, 3) := by decide +kernel
theorem dX8_checkTwoShots_22 : decode cX8_checkTwoShots 22 = .ok (.invokespecial 144, 3) := by decide +kernel
theorem dX8_checkTwoShots_25 : decode cX8_checkTwoShots 25 = .ok (.athrow, 1) := by decide +kernel
theorem dX8_checkTwoShots_26 : decode cX8_checkTwoShots 26 = .ok (.return_, 1) := by decide +kernel
set_option maxRecDepth 20000 in
theorem ggX8_checkLayerValue_X8_checkRange : GoodIn wsX8_checkLayerValue wsX8_checkRange := goodIn_ca (goodIn_r _ [6, 1, 2] (by decide +kernel) (by decide +kernel)) (goodIn_sub (fun _ h => List.mem_cons_of_mem _ (List.mem_append_right _ h)) (by decide +kernel))
set_option maxRecDepth 20000 in
theorem gX8_checkLayerValue_X8_checkRange : GoodIn wsX8_checkLayerValue (va_wsS RX8 100 yX8_checkRange wsX8_checkRange) := goodIn_app (goodIn_of _ (by decide +kernel)) ggX8_checkLayerValue_X8_checkRange
theorem dX8_checkLayerValue_0 : decode cX8_checkLayerValue 0 = .ok (.iload_n 0, 1) := by decide +kernel
theorem dX8_checkLayerValue_1 : decode cX8_checkLayerValue 1 = .ok (.tableswitch 61 0 2 #[27, 40, 51], 27) := by decide +kernel
theorem dX8_checkLayerValue_28 : decode cX8_checkLayerValue 28 = .ok (.iload_n 1, 1) := by decide +kernel
theorem dX8_checkLayerValue_29 : decode cX8_checkLayerValue 29 = .ok (.sipush 1000, 3) := by decide +kernel
theorem dX8_checkLayerValue_32 : decode cX8_checkLayerValue 32 = .ok (.sipush 4000, 3) := by decide +kernel
theorem dX8_checkLayerValue_35 : decode cX8_checkLayerValue 35 = .ok (.invokestatic 100, 3) := by decide +kernel
theorem dX8_checkLayerValue_38 : decode cX8_checkLayerValue 38 = .ok (.goto 35, 3) := by decide +kernel
theorem dX8_checkLayerValue_41 : decode cX8_checkLayerValue 41 = .ok (.iload_n 1, 1) := by decide +kernel
theorem dX8_checkLayerValue_42 : decode cX8_checkLayerValue 42 = .ok (.iconst 1, 1) := by decide +kernel
theorem dX8_checkLayerValue_43 : decode cX8_checkLayerValue 43 = .ok (.sipush 999, 3) := by decide +kernel
theorem dX8_checkLayerValue_46 : decode cX8_checkLayerValue 46 = .ok (.invokestatic 100, 3) := by decide +kernel
theorem dX8_checkLayerValue_49 : decode cX8_checkLayerValue 49 = .ok (.goto 24, 3) := by decide +kernel
theorem dX8_checkLayerValue_52 : decode cX8_checkLayerValue 52 = .ok (.iload_n 1, 1) := by decide +kernel
theorem dX8_checkLayerValue_53 : decode cX8_checkLayerValue 53 = .ok (.iconst 0, 1) := by decide +kernel
theorem dX8_checkLayerValue_54 : decode cX8_checkLayerValue 54 = .ok (.bipush 99, 2) := by decide +kernel
theorem dX8_checkLayerValue_56 : decode cX8_checkLayerValue 56 = .ok (.invokestatic 100, 3) := by decide +kernel
theorem dX8_checkLayerValue_59 : decode cX8_checkLayerValue 59 = .ok (.goto 14, 3) := by decide +kernel
theorem dX8_checkLayerValue_62 : decode cX8_checkLayerValue 62 = .ok (.new 140, 3) := by decide +kernel
theorem dX8_checkLayerValue_65 : decode cX8_checkLayerValue 65 = .ok (.dup, 1) := by decide +kernel
theorem dX8_checkLayerValue_66 : decode cX8_checkLayerValue 66 = .ok (.ldc_w 362, 3) := by decide +kernel
theorem dX8_checkLayerValue_69 : decode cX8_checkLayerValue 69 = .ok (.invokespecial 144, 3) := by decide +kernel
theorem dX8_checkLayerValue_72 : decode cX8_checkLayerValue 72 = .ok (.athrow, 1) := by decide +kernel
theorem dX8_checkLayerValue_73 : decode cX8_checkLayerValue 73 = .ok (.return_, 1) := by decide +kernel
set_option maxRecDepth 20000 in
theorem ggX8_runOf_X4_enter : GoodIn wsX8_runOf wsX4_enter := goodIn_r _ [7, 8, 9, 10, 11, 12, 13, 14, 15, 16, 17, 18, 19, 20, 21, 22, 23, 24, 25, 26, 27, 28, 29, 30, 150, 151, 152, 153, 154, 155, 156, 157, 158, 159, 160, 161, 162, 163, 164, 165, 166, 167, 134, 135, 136, 137, 138, 168, 169] (by decide +kernel) (by decide +kernel)
set_option maxRecDepth 20000 in
theorem gX8_runOf_X4_enter : GoodIn wsX8_runOf (wsV RX8 223 RX4 yX4_enter wsX4_enter) := goodIn_app (goodIn_of _ (by decide +kernel)) ggX8_runOf_X4_enter
set_option maxRecDepth 20000 in
theorem ggX8_runOf_X7_get : GoodIn wsX8_runOf wsX7_get := goodIn_r _ [26, 27, 168, 169] (by decide +kernel) (by decide +kernel)
set_option maxRecDepth 20000 in
theorem gX8_runOf_X7_get : GoodIn wsX8_runOf (wsV RX8 148 RX7 yX7_get wsX7_get) := goodIn_app (goodIn_of _ (by decide +kernel)) ggX8_runOf_X7_get
set_option maxRecDepth 20000 in
theorem ggX8_runOf_X4_run : GoodIn wsX8_runOf wsX4_run := goodIn_r _ [35, 36, 37, 38, 6, 39, 40, 41, 42, 43, 44, 45, 46, 47, 48, 49, 50, 8, 51, 52, 53, 54, 55, 56, 57, 15, 58, 18, 59, 60, 61, 25, 62, 63, 22, 23, 24, 26, 27, 64, 65, 66, 67, 68, 69, 70, 71, 72, 73, 74, 75, 76, 77, 78, 79, 9, 80, 81, 82, 83, 84, 85, 86, 87, 88, 29, 89, 90, 91, 92, 93, 94, 95, 96, 97, 98, 99, 28, 30, 100, 101, 102, 103, 104, 105, 106, 107, 108, 109, 110, 111, 11, 112, 113, 114, 115, 116, 117, 118, 119, 120, 121, 122, 123, 124, 20, 19, 125, 126, 127, 128, 129, 130, 131, 132, 133, 150, 151, 152, 153, 154, 155, 156, 157, 158, 159, 160, 161, 162, 163, 164, 165, 166, 167, 134, 135, 136, 137, 138, 168, 169] (by decide +kernel) (by decide +kernel)
set_option maxRecDepth 20000 in
theorem gX8_runOf_X4_run : GoodIn wsX8_runOf (wsV RX8 226 RX4 yX4_run wsX4_run) := goodIn_app (goodIn_of _ (by decide +kernel)) ggX8_runOf_X4_run
theorem dX8_runOf_0 : decode cX8_runOf 0 = .ok (.aload_n 1, 1) := by decide +kernel
theorem dX8_runOf_1 : decode cX8_runOf 1 = .ok (.getfield 133, 3) := by decide +kernel
theorem dX8_runOf_4 : decode cX8_runOf 4 = .ok (.astore_n 3, 1) := by decide +kernel
theorem dX8_runOf_5 : decode cX8_runOf 5 = .ok (.aload_n 0, 1) := by decide +kernel
theorem dX8_runOf_6 : decode cX8_runOf 6 = .ok (.getfield 45, 3) := by decide +kernel
theorem dX8_runOf_9 : decode cX8_runOf 9 = .ok (.aload_n 1, 1) := by decide +kernel
theorem dX8_runOf_10 : decode cX8_runOf 10 = .ok (.invokevirtual 223, 3) := by decide +kernel
theorem dX8_runOf_13 : decode cX8_runOf 13 = .ok (.aload_n 0, 1) := by decide +kernel
theorem dX8_runOf_14 : decode cX8_runOf 14 = .ok (.getfield 45, 3) := by decide +kernel
theorem dX8_runOf_17 : decode cX8_runOf 17 = .ok (.aload_n 3, 1) := by decide +kernel
theorem dX8_runOf_18 : decode cX8_runOf 18 = .ok (.iload_n 2, 1) := by decide +kernel
theorem dX8_runOf_19 : decode cX8_runOf 19 = .ok (.iconst 0, 1) := by decide +kernel
theorem dX8_runOf_20 : decode cX8_runOf 20 = .ok (.invokevirtual 148, 3) := by decide +kernel
theorem dX8_runOf_23 : decode cX8_runOf 23 = .ok (.aload_n 3, 1) := by decide +kernel
theorem dX8_runOf_24 : decode cX8_runOf 24 = .ok (.iload_n 2, 1) := by decide +kernel
theorem dX8_runOf_25 : decode cX8_runOf 25 = .ok (.iconst 1, 1) := by decide +kernel
theorem dX8_runOf_26 : decode cX8_runOf 26 = .ok (.invokevirtual 148, 3) := by decide +kernel
theorem dX8_runOf_29 : decode cX8_runOf 29 = .ok (.iconst 1, 1) := by decide +kernel
theorem dX8_runOf_30 : decode cX8_runOf 30 = .ok (.if_icmp .ne 7, 3) := by decide +kernel
theorem dX8_runOf_33 : decode cX8_runOf 33 = .ok (.iconst 1, 1) := by decide +kernel
theorem dX8_runOf_34 : decode cX8_runOf 34 = .ok (.goto 4, 3) := by decide +kernel
theorem dX8_runOf_37 : decode cX8_runOf 37 = .ok (.iconst 0, 1) := by decide +kernel
theorem dX8_runOf_38 : decode cX8_runOf 38 = .ok (.aload_n 3, 1) := by decide +kernel
theorem dX8_runOf_39 : decode cX8_runOf 39 = .ok (.iload_n 2, 1) := by decide +kernel
theorem dX8_runOf_40 : decode cX8_runOf 40 = .ok (.iconst 2, 1) := by decide +kernel
theorem dX8_runOf_41 : decode cX8_runOf 41 = .ok (.invokevirtual 148, 3) := by decide +kernel
theorem dX8_runOf_44 : decode cX8_runOf 44 = .ok (.invokevirtual 226, 3) := by decide +kernel
theorem dX8_runOf_47 : decode cX8_runOf 47 = .ok (.aload_n 0, 1) := by decide +kernel
theorem dX8_runOf_48 : decode cX8_runOf 48 = .ok (.getfield 45, 3) := by decide +kernel
theorem dX8_runOf_51 : decode cX8_runOf 51 = .ok (.areturn, 1) := by decide +kernel
set_option maxRecDepth 20000 in
theorem ggX8_pathOf_X7_get : GoodIn wsX8_pathOf wsX7_get := goodIn_r _ [7, 8, 167, 168] (by decide +kernel) (by decide +kernel)
set_option maxRecDepth 20000 in
theorem gX8_pathOf_X7_get : GoodIn wsX8_pathOf (wsV RX8 148 RX7 yX7_get wsX7_get) := goodIn_app (goodIn_of _ (by decide +kernel)) ggX8_pathOf_X7_get
set_option maxRecDepth 20000 in
theorem ggX8_pathOf_X3_trace : GoodIn wsX8_pathOf wsX3_trace := goodIn_r _ [13, 14, 15, 16, 17, 18, 19, 20, 21, 22, 23, 24, 25, 26, 27, 28, 29, 30, 31, 32, 33, 34, 35, 36, 37, 38, 39, 40, 41, 4, 5, 6, 7, 8, 42, 43, 44, 45, 46, 47, 48, 49, 50, 51, 52, 53, 54, 55, 56, 57, 58, 59, 60, 61, 62, 63, 64, 65, 66, 67, 68, 69, 70, 71, 72, 73, 74, 75, 76, 77, 78, 79, 80, 81, 82, 83, 12, 84, 85, 86, 87, 88, 89, 90, 91, 92, 93, 94, 95, 96, 97, 98, 99, 100, 101, 102, 103, 104, 105, 106, 107, 108, 109, 110, 111, 112, 113, 114, 115, 116, 117, 118, 119, 120, 121, 122, 123, 124, 125, 126, 127, 128, 129, 130, 131, 132, 133, 134, 135, 136, 137, 138, 139, 140, 141, 142, 143, 144, 145, 146, 147, 148, 149, 150, 169, 170, 171, 172, 173, 174, 175, 176, 177, 178, 179, 180, 181, 182, 183, 184, 185, 186, 187, 188, 189, 190, 162, 163, 164, 165, 166, 167, 168] (by decide +kernel) (by decide +kernel)
set_option maxRecDepth 20000 in
theorem gX8_pathOf_X3_trace : GoodIn wsX8_pathOf (wsV RX8 364 RX3 yX3_trace wsX3_trace) := goodIn_app (goodIn_of _ (by decide +kernel)) ggX8_pathOf_X3_trace
theorem dX8_pathOf_0 : decode cX8_pathOf 0 = .ok (.aload_n 0, 1) := by decide +kernel
theorem dX8_pathOf_1 : decode cX8_pathOf 1 = .ok (.getfield 22, 3) := by decide +kernel
theorem dX8_pathOf_4 : decode cX8_pathOf 4 = .ok (.getfield 133, 3) := by decide +kernel
theorem dX8_pathOf_7 : decode cX8_pathOf 7 = .ok (.astore_n 3, 1) := by decide +kernel
theorem dX8_pathOf_8 : decode cX8_pathOf 8 = .ok (.aload_n 1, 1) := by decide +kernel
theorem dX8_pathOf_9 : decode cX8_pathOf 9 = .ok (.aload_n 0, 1) := by decide +kernel
theorem dX8_pathOf_10 : decode cX8_pathOf 10 = .ok (.getfield 22, 3) := by decide +kernel
theorem dX8_pathOf_13 : decode cX8_pathOf 13 = .ok (.aload_n 3, 1) := by decide +kernel
theorem dX8_pathOf_14 : decode cX8_pathOf 14 = .ok (.iload_n 2, 1) := by decide +kernel
theorem dX8_pathOf_15 : decode cX8_pathOf 15 = .ok (.iconst 0, 1) := by decide +kernel
theorem dX8_pathOf_16 : decode cX8_pathOf 16 = .ok (.invokevirtual 148, 3) := by decide +kernel
theorem dX8_pathOf_19 : decode cX8_pathOf 19 = .ok (.aload_n 3, 1) := by decide +kernel
theorem dX8_pathOf_20 : decode cX8_pathOf 20 = .ok (.iload_n 2, 1) := by decide +kernel
theorem dX8_pathOf_21 : decode cX8_pathOf 21 = .ok (.iconst 1, 1) := by decide +kernel
theorem dX8_pathOf_22 : decode cX8_pathOf 22 = .ok (.invokevirtual 148, 3) := by decide +kernel
theorem dX8_pathOf_25 : decode cX8_pathOf 25 = .ok (.iconst 1, 1) := by decide +kernel
theorem dX8_pathOf_26 : decode cX8_pathOf 26 = .ok (.if_icmp .ne 7, 3) := by decide +kernel
theorem dX8_pathOf_29 : decode cX8_pathOf 29 = .ok (.iconst 1, 1) := by decide +kernel
theorem dX8_pathOf_30 : decode cX8_pathOf 30 = .ok (.goto 4, 3) := by decide +kernel
theorem dX8_pathOf_33 : decode cX8_pathOf 33 = .ok (.iconst 0, 1) := by decide +kernel
theorem dX8_pathOf_34 : decode cX8_pathOf 34 = .ok (.aload_n 3, 1) := by decide +kernel
theorem dX8_pathOf_35 : decode cX8_pathOf 35 = .ok (.iload_n 2, 1) := by decide +kernel
theorem dX8_pathOf_36 : decode cX8_pathOf 36 = .ok (.iconst 2, 1) := by decide +kernel
theorem dX8_pathOf_37 : decode cX8_pathOf 37 = .ok (.invokevirtual 148, 3) := by decide +kernel
theorem dX8_pathOf_40 : decode cX8_pathOf 40 = .ok (.invokevirtual 364, 3) := by decide +kernel
theorem dX8_pathOf_43 : decode cX8_pathOf 43 = .ok (.aload_n 1, 1) := by decide +kernel
theorem dX8_pathOf_44 : decode cX8_pathOf 44 = .ok (.areturn, 1) := by decide +kernel
set_option maxRecDepth 20000 in
theorem ggX8_legsAcross_X8_pathOf : GoodIn wsX8_legsAcross wsX8_pathOf := goodIn_r _ [9, 1, 2, 10, 11, 12, 13, 14, 15, 16, 17, 18, 19, 20, 21, 22, 23, 24, 25, 26, 27, 28, 29, 30, 31, 32, 33, 34, 35, 36, 37, 38, 39, 40, 41, 42, 43, 44, 45, 46, 47, 48, 49, 8, 50, 51, 52, 53, 54, 55, 56, 57, 58, 59, 60, 61, 62, 63, 64, 65, 66, 67, 68, 69, 70, 71, 72, 73, 74, 75, 76, 77, 78, 79, 80, 81, 82, 83, 84, 85, 86, 87, 88, 89, 90, 91, 92, 93, 94, 95, 96, 97, 98, 99, 100, 101, 102, 103, 104, 105, 106, 107, 108, 109, 110, 111, 112, 113, 114, 115, 116, 117, 118, 119, 120, 121, 122, 123, 124, 125, 126, 127, 128, 129, 130, 131, 132, 133, 134, 135, 136, 137, 138, 139, 140, 141, 142, 143, 144, 145, 146, 147, 148, 149, 150, 151, 152, 153, 154, 155, 156, 165, 166, 167, 168, 169, 170, 171, 172, 173, 174, 175, 176, 177, 178, 179, 180, 181, 182, 183, 184, 185, 186, 187, 188, 189, 190, 191, 192, 193, 194, 195, 196, 197, 198, 199, 200, 201, 202, 203, 204] (by decide +kernel) (by decide +kernel)
set_option maxRecDepth 20000 in
theorem gX8_legsAcross_X8_pathOf : GoodIn wsX8_legsAcross (wsV RX8 191 RX8 yX8_pathOf wsX8_pathOf) := goodIn_app (goodIn_of _ (by decide +kernel)) ggX8_legsAcross_X8_pathOf
set_option maxRecDepth 20000 in
theorem ggX8_legsAcross_X3_legsAcross : GoodIn wsX8_legsAcross wsX3_legsAcross := goodIn_r _ [160, 26, 161, 162, 163, 19, 164, 91, 108, 8, 109, 183, 184, 185, 186] (by decide +kernel) (by decide +kernel)
set_option maxRecDepth 20000 in
theorem gX8_legsAcross_X3_legsAcross : GoodIn wsX8_legsAcross (wsV RX8 368 RX3 yX3_legsAcross wsX3_legsAcross) := goodIn_app (goodIn_of _ (by decide +kernel)) ggX8_legsAcross_X3_legsAcross
theorem dX8_legsAcross_0 : decode cX8_legsAcross 0 = .ok (.iconst 0, 1) := by decide +kernel
theorem dX8_legsAcross_1 : decode cX8_legsAcross 1 = .ok (.istore_n 2, 1) := by decide +kernel
theorem dX8_legsAcross_2 : decode cX8_legsAcross 2 = .ok (.iconst 0, 1) := by decide +kernel
theorem dX8_legsAcross_3 : decode cX8_legsAcross 3 = .ok (.istore_n 3, 1) := by decide +kernel
theorem dX8_legsAcross_4 : decode cX8_legsAcross 4 = .ok (.iload_n 3, 1) := by decide +kernel
theorem dX8_legsAcross_5 : decode cX8_legsAcross 5 = .ok (.aload_n 0, 1) := by decide +kernel
theorem dX8_legsAcross_6 : decode cX8_legsAcross 6 = .ok (.getfield 22, 3) := by decide +kernel
theorem dX8_legsAcross_9 : decode cX8_legsAcross 9 = .ok (.getfield 133, 3) := by decide +kernel
theorem dX8_legsAcross_12 : decode cX8_legsAcross 12 = .ok (.getfield 114, 3) := by decide +kernel
theorem dX8_legsAcross_15 : decode cX8_legsAcross 15 = .ok (.if_icmp .ge 25, 3) := by decide +kernel
theorem dX8_legsAcross_18 : decode cX8_legsAcross 18 = .ok (.iload_n 2, 1) := by decide +kernel
theorem dX8_legsAcross_19 : decode cX8_legsAcross 19 = .ok (.aload_n 0, 1) := by decide +kernel
theorem dX8_legsAcross_20 : decode cX8_legsAcross 20 = .ok (.aload_n 0, 1) := by decide +kernel
theorem dX8_legsAcross_21 : decode cX8_legsAcross 21 = .ok (.getfield 52, 3) := by decide +kernel
theorem dX8_legsAcross_24 : decode cX8_legsAcross 24 = .ok (.iload_n 3, 1) := by decide +kernel
theorem dX8_legsAcross_25 : decode cX8_legsAcross 25 = .ok (.invokevirtual 191, 3) := by decide +kernel
theorem dX8_legsAcross_28 : decode cX8_legsAcross 28 = .ok (.iload_n 1, 1) := by decide +kernel
theorem dX8_legsAcross_29 : decode cX8_legsAcross 29 = .ok (.invokevirtual 368, 3) := by decide +kernel
theorem dX8_legsAcross_32 : decode cX8_legsAcross 32 = .ok (.iadd, 1) := by decide +kernel
theorem dX8_legsAcross_33 : decode cX8_legsAcross 33 = .ok (.istore_n 2, 1) := by decide +kernel
theorem dX8_legsAcross_34 : decode cX8_legsAcross 34 = .ok (.iinc 3 1, 3) := by decide +kernel
theorem dX8_legsAcross_37 : decode cX8_legsAcross 37 = .ok (.goto (-33), 3) := by decide +kernel
theorem dX8_legsAcross_40 : decode cX8_legsAcross 40 = .ok (.iload_n 2, 1) := by decide +kernel
theorem dX8_legsAcross_41 : decode cX8_legsAcross 41 = .ok (.ireturn, 1) := by decide +kernel
theorem dX8_at_0 : decode cX8_at 0 = .ok (.aload_n 0, 1) := by decide +kernel
theorem dX8_at_1 : decode cX8_at 1 = .ok (.ifnull 19, 3) := by decide +kernel
theorem dX8_at_4 : decode cX8_at 4 = .ok (.iload_n 1, 1) := by decide +kernel
theorem dX8_at_5 : decode cX8_at 5 = .ok (.ifCond .lt 15, 3) := by decide +kernel
theorem dX8_at_8 : decode cX8_at 8 = .ok (.iload_n 1, 1) := by decide +kernel
theorem dX8_at_9 : decode cX8_at 9 = .ok (.aload_n 0, 1) := by decide +kernel
theorem dX8_at_10 : decode cX8_at 10 = .ok (.arraylength, 1) := by decide +kernel
theorem dX8_at_11 : decode cX8_at 11 = .ok (.if_icmp .ge 9, 3) := by decide +kernel
theorem dX8_at_14 : decode cX8_at 14 = .ok (.aload_n 0, 1) := by decide +kernel
theorem dX8_at_15 : decode cX8_at 15 = .ok (.iload_n 1, 1) := by decide +kernel
theorem dX8_at_16 : decode cX8_at 16 = .ok (.iaload, 1) := by decide +kernel
theorem dX8_at_17 : decode cX8_at 17 = .ok (.goto 4, 3) := by decide +kernel
theorem dX8_at_20 : decode cX8_at 20 = .ok (.iconst 0, 1) := by decide +kernel
theorem dX8_at_21 : decode cX8_at 21 = .ok (.ireturn, 1) := by decide +kernel
theorem dX8_put_0 : decode cX8_put 0 = .ok (.aload_n 0, 1) := by decide +kernel
theorem dX8_put_1 : decode cX8_put 1 = .ok (.ifnull 17, 3) := by decide +kernel
theorem dX8_put_4 : decode cX8_put 4 = .ok (.iload_n 1, 1) := by decide +kernel
theorem dX8_put_5 : decode cX8_put 5 = .ok (.ifCond .lt 13, 3) := by decide +kernel
theorem dX8_put_8 : decode cX8_put 8 = .ok (.iload_n 1, 1) := by decide +kernel
theorem dX8_put_9 : decode cX8_put 9 = .ok (.aload_n 0, 1) := by decide +kernel
theorem dX8_put_10 : decode cX8_put 10 = .ok (.arraylength, 1) := by decide +kernel
theorem dX8_put_11 : decode cX8_put 11 = .ok (.if_icmp .ge 7, 3) := by decide +kernel
theorem dX8_put_14 : decode cX8_put 14 = .ok (.aload_n 0, 1) := by decide +kernel
theorem dX8_put_15 : decode cX8_put 15 = .ok (.iload_n 1, 1) := by decide +kernel
theorem dX8_put_16 : decode cX8_put 16 = .ok (.iload_n 2, 1) := by decide +kernel
theorem dX8_put_17 : decode cX8_put 17 = .ok (.iastore, 1) := by decide +kernel
theorem dX8_put_18 : decode cX8_put 18 = .ok (.return_, 1) := by decide +kernel
theorem dX8_sceneAt_0 : decode cX8_sceneAt 0 = .ok (.aload_n 0, 1) := by decide +kernel
theorem dX8_sceneAt_1 : decode cX8_sceneAt 1 = .ok (.ifnull 19, 3) := by decide +kernel
theorem dX8_sceneAt_4 : decode cX8_sceneAt 4 = .ok (.iload_n 1, 1) := by decide +kernel
theorem dX8_sceneAt_5 : decode cX8_sceneAt 5 = .ok (.ifCond .lt 15, 3) := by decide +kernel
theorem dX8_sceneAt_8 : decode cX8_sceneAt 8 = .ok (.iload_n 1, 1) := by decide +kernel
theorem dX8_sceneAt_9 : decode cX8_sceneAt 9 = .ok (.aload_n 0, 1) := by decide +kernel
theorem dX8_sceneAt_10 : decode cX8_sceneAt 10 = .ok (.arraylength, 1) := by decide +kernel
theorem dX8_sceneAt_11 : decode cX8_sceneAt 11 = .ok (.if_icmp .ge 9, 3) := by decide +kernel
theorem dX8_sceneAt_14 : decode cX8_sceneAt 14 = .ok (.aload_n 0, 1) := by decide +kernel
theorem dX8_sceneAt_15 : decode cX8_sceneAt 15 = .ok (.iload_n 1, 1) := by decide +kernel
theorem dX8_sceneAt_16 : decode cX8_sceneAt 16 = .ok (.aaload, 1) := by decide +kernel
theorem dX8_sceneAt_17 : decode cX8_sceneAt 17 = .ok (.goto 4, 3) := by decide +kernel
theorem dX8_sceneAt_20 : decode cX8_sceneAt 20 = .ok (.aconst_null, 1) := by decide +kernel
theorem dX8_sceneAt_21 : decode cX8_sceneAt 21 = .ok (.areturn, 1) := by decide +kernel
theorem dX9_thrown_0 : decode cX9_thrown 0 = .ok (.aload_n 0, 1) := by decide +kernel
theorem dX9_thrown_1 : decode cX9_thrown 1 = .ok (.getfield 3, 3) := by decide +kernel
theorem dX9_thrown_4 : decode cX9_thrown 4 = .ok (.ireturn, 1) := by decide +kernel
theorem dX9_in_0 : decode cX9_in 0 = .ok (.lload_n 0, 1) := by decide +kernel
theorem dX9_in_1 : decode cX9_in 1 = .ok (.lload_n 2, 1) := by decide +kernel
theorem dX9_in_2 : decode cX9_in 2 = .ok (.lcmp, 1) := by decide +kernel
theorem dX9_in_3 : decode cX9_in 3 = .ok (.ifCond .lt 14, 3) := by decide +kernel
theorem dX9_in_6 : decode cX9_in 6 = .ok (.lload_n 0, 1) := by decide +kernel
theorem dX9_in_7 : decode cX9_in 7 = .ok (.lload 4, 2) := by decide +kernel
theorem dX9_in_9 : decode cX9_in 9 = .ok (.lcmp, 1) := by decide +kernel
theorem dX9_in_10 : decode cX9_in 10 = .ok (.ifCond .gt 7, 3) := by decide +kernel
theorem dX9_in_13 : decode cX9_in 13 = .ok (.iconst 1, 1) := by decide +kernel
theorem dX9_in_14 : decode cX9_in 14 = .ok (.goto 4, 3) := by decide +kernel
theorem dX9_in_17 : decode cX9_in 17 = .ok (.iconst 0, 1) := by decide +kernel
theorem dX9_in_18 : decode cX9_in 18 = .ok (.ireturn, 1) := by decide +kernel
theorem dX9_passes3_0 : decode cX9_passes3 0 = .ok (.aload_n 0, 1) := by decide +kernel
theorem dX9_passes3_1 : decode cX9_passes3 1 = .ok (.iload_n 1, 1) := by decide +kernel
theorem dX9_passes3_2 : decode cX9_passes3 2 = .ok (.ifCond .ne 7, 3) := by decide +kernel
theorem dX9_passes3_5 : decode cX9_passes3 5 = .ok (.iconst 1, 1) := by decide +kernel
theorem dX9_passes3_6 : decode cX9_passes3 6 = .ok (.goto 20, 3) := by decide +kernel
theorem dX9_passes3_9 : decode cX9_passes3 9 = .ok (.iload_n 2, 1) := by decide +kernel
theorem dX9_passes3_10 : decode cX9_passes3 10 = .ok (.ifCond .ne 7, 3) := by decide +kernel
theorem dX9_passes3_13 : decode cX9_passes3 13 = .ok (.iconst 2, 1) := by decide +kernel
theorem dX9_passes3_14 : decode cX9_passes3 14 = .ok (.goto 12, 3) := by decide +kernel
theorem dX9_passes3_17 : decode cX9_passes3 17 = .ok (.iload_n 3, 1) := by decide +kernel
theorem dX9_passes3_18 : decode cX9_passes3 18 = .ok (.ifCond .ne 7, 3) := by decide +kernel
theorem dX9_passes3_21 : decode cX9_passes3 21 = .ok (.iconst 3, 1) := by decide +kernel
theorem dX9_passes3_22 : decode cX9_passes3 22 = .ok (.goto 4, 3) := by decide +kernel
theorem dX9_passes3_25 : decode cX9_passes3 25 = .ok (.iconst 0, 1) := by decide +kernel
theorem dX9_passes3_26 : decode cX9_passes3 26 = .ok (.putfield 3, 3) := by decide +kernel
theorem dX9_passes3_29 : decode cX9_passes3 29 = .ok (.aload_n 0, 1) := by decide +kernel
theorem dX9_passes3_30 : decode cX9_passes3 30 = .ok (.getfield 3, 3) := by decide +kernel
theorem dX9_passes3_33 : decode cX9_passes3 33 = .ok (.ifCond .ne 7, 3) := by decide +kernel
theorem dX9_passes3_36 : decode cX9_passes3 36 = .ok (.iconst 1, 1) := by decide +kernel
theorem dX9_passes3_37 : decode cX9_passes3 37 = .ok (.goto 4, 3) := by decide +kernel
theorem dX9_passes3_40 : decode cX9_passes3 40 = .ok (.iconst 0, 1) := by decide +kernel
theorem dX9_passes3_41 : decode cX9_passes3 41 = .ok (.ireturn, 1) := by decide +kernel
set_option maxRecDepth 20000 in
theorem ggX9_passes2_X9_passes3 : GoodIn wsX9_passes2 wsX9_passes3 := goodIn_r _ [5, 6, 7, 8, 9, 10, 11, 12, 13, 14, 15, 16, 17, 18, 19, 20, 21, 22, 23, 24, 25, 26, 27, 28, 29, 30, 31, 32, 33, 34, 35, 36, 37, 38, 39, 40, 41, 42, 43, 44, 45, 46, 47] (by decide +kernel) (by decide +kernel)
set_option maxRecDepth 20000 in
theorem gX9_passes2_X9_passes3 : GoodIn wsX9_passes2 (wsV RX9 7 RX9 yX9_passes3 wsX9_passes3) := goodIn_app (goodIn_of _ (by decide +kernel)) ggX9_passes2_X9_passes3
theorem dX9_passes2_0 : decode cX9_passes2 0 = .ok (.aload_n 0, 1) := by decide +kernel
theorem dX9_passes2_1 : decode cX9_passes2 1 = .ok (.iload_n 1, 1) := by decide +kernel
theorem dX9_passes2_2 : decode cX9_passes2 2 = .ok (.iload_n 2, 1) := by decide +kernel
theorem dX9_passes2_3 : decode cX9_passes2 3 = .ok (.iconst 1, 1) := by decide +kernel
theorem dX9_passes2_4 : decode cX9_passes2 4 = .ok (.invokevirtual 7, 3) := by decide +kernel
theorem dX9_passes2_7 : decode cX9_passes2 7 = .ok (.ireturn, 1) := by decide +kernel
set_option maxRecDepth 20000 in
theorem ggX9_passes_X9_passes3 : GoodIn wsX9_passes wsX9_passes3 := goodIn_r _ [5, 6, 7, 8, 9, 10, 11, 12, 13, 14, 15, 16, 17, 18, 19, 20, 21, 22, 23, 24, 25, 26, 27, 28, 29, 30, 31, 32, 33, 34, 35, 36, 37, 38, 39, 40, 41, 42, 43, 44, 45, 46, 47] (by decide +kernel) (by decide +kernel)
set_option maxRecDepth 20000 in
theorem gX9_passes_X9_passes3 : GoodIn wsX9_passes (wsV RX9 7 RX9 yX9_passes3 wsX9_passes3) := goodIn_app (goodIn_of _ (by decide +kernel)) ggX9_passes_X9_passes3
theorem dX9_passes_0 : decode cX9_passes 0 = .ok (.aload_n 0, 1) := by decide +kernel
theorem dX9_passes_1 : decode cX9_passes 1 = .ok (.iload_n 1, 1) := by decide +kernel
theorem dX9_passes_2 : decode cX9_passes 2 = .ok (.iconst 1, 1) := by decide +kernel
theorem dX9_passes_3 : decode cX9_passes 3 = .ok (.iconst 1, 1) := by decide +kernel
theorem dX9_passes_4 : decode cX9_passes 4 = .ok (.invokevirtual 7, 3) := by decide +kernel
theorem dX9_passes_7 : decode cX9_passes 7 = .ok (.ireturn, 1) := by decide +kernel
set_option maxRecDepth 20000 in
theorem ggX9_init_X9_layPlain : GoodIn wsX9_init wsX9_layPlain := goodIn_r _ [32, 7, 45, 46, 47, 48, 49, 50, 51, 52, 53, 54, 55, 56, 57, 58, 59, 60, 61, 62, 63, 64, 65, 66, 67, 68, 69, 70, 71, 72, 73, 74, 75, 76, 77, 78, 79, 80, 81, 82, 83, 84, 85] (by decide +kernel) (by decide +kernel)
set_option maxRecDepth 20000 in
theorem gX9_init_X9_layPlain : GoodIn wsX9_init (wsV RX9 83 RX9 yX9_layPlain wsX9_layPlain) := goodIn_app (goodIn_of _ (by decide +kernel)) ggX9_init_X9_layPlain
set_option maxRecDepth 20000 in
theorem ggX9_init_X9_addOne : GoodIn wsX9_init wsX9_addOne := goodIn_r _ [36, 7, 37, 38, 39, 31, 40, 41, 42, 43, 44, 45, 46, 47, 48, 49, 50, 51, 52, 53, 54, 55, 56, 57, 58, 59, 60, 61, 62, 63, 64, 65, 66, 67, 68, 69, 70, 71, 72, 73, 74, 75, 76, 77, 78, 79, 80, 81, 82, 83, 84, 85] (by decide +kernel) (by decide +kernel)
set_option maxRecDepth 20000 in
theorem gX9_init_X9_addOne : GoodIn wsX9_init (wsV RX9 86 RX9 yX9_addOne wsX9_addOne) := goodIn_app (goodIn_of _ (by decide +kernel)) ggX9_init_X9_addOne
theorem dX9_init_0 : decode cX9_init 0 = .ok (.aload_n 0, 1) := by decide +kernel
theorem dX9_init_1 : decode cX9_init 1 = .ok (.invokespecial 11, 3) := by decide +kernel
theorem dX9_init_4 : decode cX9_init 4 = .ok (.aload_n 0, 1) := by decide +kernel
theorem dX9_init_5 : decode cX9_init 5 = .ok (.bipush 95, 2) := by decide +kernel
theorem dX9_init_7 : decode cX9_init 7 = .ok (.newarray .int, 2) := by decide +kernel
theorem dX9_init_9 : decode cX9_init 9 = .ok (.putfield 17, 3) := by decide +kernel
theorem dX9_init_12 : decode cX9_init 12 = .ok (.aload_n 0, 1) := by decide +kernel
theorem dX9_init_13 : decode cX9_init 13 = .ok (.bipush 95, 2) := by decide +kernel
theorem dX9_init_15 : decode cX9_init 15 = .ok (.newarray .int, 2) := by decide +kernel
theorem dX9_init_17 : decode cX9_init 17 = .ok (.putfield 21, 3) := by decide +kernel
theorem dX9_init_20 : decode cX9_init 20 = .ok (.aload_n 0, 1) := by decide +kernel
theorem dX9_init_21 : decode cX9_init 21 = .ok (.aload_n 0, 1) := by decide +kernel
theorem dX9_init_22 : decode cX9_init 22 = .ok (.getfield 17, 3) := by decide +kernel
theorem dX9_init_25 : decode cX9_init 25 = .ok (.putfield 24, 3) := by decide +kernel
theorem dX9_init_28 : decode cX9_init 28 = .ok (.aload_n 0, 1) := by decide +kernel
theorem dX9_init_29 : decode cX9_init 29 = .ok (.bipush 60, 2) := by decide +kernel
theorem dX9_init_31 : decode cX9_init 31 = .ok (.newarray .int, 2) := by decide +kernel
theorem dX9_init_33 : decode cX9_init 33 = .ok (.putfield 27, 3) := by decide +kernel
theorem dX9_init_36 : decode cX9_init 36 = .ok (.aload_n 0, 1) := by decide +kernel
theorem dX9_init_37 : decode cX9_init 37 = .ok (.bipush 60, 2) := by decide +kernel
theorem dX9_init_39 : decode cX9_init 39 = .ok (.newarray .boolean, 2) := by decide +kernel
theorem dX9_init_41 : decode cX9_init 41 = .ok (.putfield 30, 3) := by decide +kernel
theorem dX9_init_44 : decode cX9_init 44 = .ok (.aload_n 0, 1) := by decide +kernel
theorem dX9_init_45 : decode cX9_init 45 = .ok (.bipush 60, 2) := by decide +kernel
theorem dX9_init_47 : decode cX9_init 47 = .ok (.newarray .int, 2) := by decide +kernel
theorem dX9_init_49 : decode cX9_init 49 = .ok (.putfield 34, 3) := by decide +kernel
theorem dX9_init_52 : decode cX9_init 52 = .ok (.aload_n 0, 1) := by decide +kernel
theorem dX9_init_53 : decode cX9_init 53 = .ok (.bipush 60, 2) := by decide +kernel
theorem dX9_init_55 : decode cX9_init 55 = .ok (.newarray .int, 2) := by decide +kernel
theorem dX9_init_57 : decode cX9_init 57 = .ok (.putfield 37, 3) := by decide +kernel
theorem dX9_init_60 : decode cX9_init 60 = .ok (.aload_n 0, 1) := by decide +kernel
theorem dX9_init_61 : decode cX9_init 61 = .ok (.bipush 60, 2) := by decide +kernel
theorem dX9_init_63 : decode cX9_init 63 = .ok (.newarray .int, 2) := by decide +kernel
theorem dX9_init_65 : decode cX9_init 65 = .ok (.putfield 40, 3) := by decide +kernel
theorem dX9_init_68 : decode cX9_init 68 = .ok (.aload_n 0, 1) := by decide +kernel
theorem dX9_init_69 : decode cX9_init 69 = .ok (.bipush 60, 2) := by decide +kernel
theorem dX9_init_71 : decode cX9_init 71 = .ok (.newarray .int, 2) := by decide +kernel
theorem dX9_init_73 : decode cX9_init 73 = .ok (.putfield 43, 3) := by decide +kernel
theorem dX9_init_76 : decode cX9_init 76 = .ok (.aload_n 0, 1) := by decide +kernel
theorem dX9_init_77 : decode cX9_init 77 = .ok (.bipush 60, 2) := by decide +kernel
theorem dX9_init_79 : decode cX9_init 79 = .ok (.newarray .int, 2) := by decide +kernel
theorem dX9_init_81 : decode cX9_init 81 = .ok (.putfield 46, 3) := by decide +kernel
theorem dX9_init_84 : decode cX9_init 84 = .ok (.aload_n 0, 1) := by decide +kernel
theorem dX9_init_85 : decode cX9_init 85 = .ok (.sipush 400, 3) := by decide +kernel
theorem dX9_init_88 : decode cX9_init 88 = .ok (.newarray .byte, 2) := by decide +kernel
theorem dX9_init_90 : decode cX9_init 90 = .ok (.putfield 49, 3) := by decide +kernel
theorem dX9_init_93 : decode cX9_init 93 = .ok (.aload_n 0, 1) := by decide +kernel
theorem dX9_init_94 : decode cX9_init 94 = .ok (.iconst (-1), 1) := by decide +kernel
theorem dX9_init_95 : decode cX9_init 95 = .ok (.putfield 53, 3) := by decide +kernel
theorem dX9_init_98 : decode cX9_init 98 = .ok (.aload_n 0, 1) := by decide +kernel
theorem dX9_init_99 : decode cX9_init 99 = .ok (.bipush 60, 2) := by decide +kernel
theorem dX9_init_101 : decode cX9_init 101 = .ok (.newarray .int, 2) := by decide +kernel
theorem dX9_init_103 : decode cX9_init 103 = .ok (.putfield 56, 3) := by decide +kernel
theorem dX9_init_106 : decode cX9_init 106 = .ok (.aload_n 0, 1) := by decide +kernel
theorem dX9_init_107 : decode cX9_init 107 = .ok (.bipush 60, 2) := by decide +kernel
theorem dX9_init_109 : decode cX9_init 109 = .ok (.newarray .boolean, 2) := by decide +kernel
theorem dX9_init_111 : decode cX9_init 111 = .ok (.putfield 59, 3) := by decide +kernel
theorem dX9_init_114 : decode cX9_init 114 = .ok (.aload_n 0, 1) := by decide +kernel
theorem dX9_init_115 : decode cX9_init 115 = .ok (.bipush 60, 2) := by decide +kernel
theorem dX9_init_117 : decode cX9_init 117 = .ok (.newarray .int, 2) := by decide +kernel
theorem dX9_init_119 : decode cX9_init 119 = .ok (.putfield 62, 3) := by decide +kernel
theorem dX9_init_122 : decode cX9_init 122 = .ok (.aload_n 0, 1) := by decide +kernel
theorem dX9_init_123 : decode cX9_init 123 = .ok (.bipush 95, 2) := by decide +kernel
theorem dX9_init_125 : decode cX9_init 125 = .ok (.newarray .int, 2) := by decide +kernel
theorem dX9_init_127 : decode cX9_init 127 = .ok (.putfield 65, 3) := by decide +kernel
theorem dX9_init_130 : decode cX9_init 130 = .ok (.aload_n 0, 1) := by decide +kernel
theorem dX9_init_131 : decode cX9_init 131 = .ok (.bipush 20, 2) := by decide +kernel
theorem dX9_init_133 : decode cX9_init 133 = .ok (.newarray .int, 2) := by decide +kernel
theorem dX9_init_135 : decode cX9_init 135 = .ok (.putfield 68, 3) := by decide +kernel
theorem dX9_init_138 : decode cX9_init 138 = .ok (.aload_n 0, 1) := by decide +kernel
theorem dX9_init_139 : decode cX9_init 139 = .ok (.sipush 190, 3) := by decide +kernel
theorem dX9_init_142 : decode cX9_init 142 = .ok (.newarray .int, 2) := by decide +kernel
theorem dX9_init_144 : decode cX9_init 144 = .ok (.putfield 71, 3) := by decide +kernel
theorem dX9_init_147 : decode cX9_init 147 = .ok (.aload_n 0, 1) := by decide +kernel
theorem dX9_init_148 : decode cX9_init 148 = .ok (.iconst 2, 1) := by decide +kernel
theorem dX9_init_149 : decode cX9_init 149 = .ok (.newarray .boolean, 2) := by decide +kernel
theorem dX9_init_151 : decode cX9_init 151 = .ok (.putfield 74, 3) := by decide +kernel
theorem dX9_init_154 : decode cX9_init 154 = .ok (.aload_n 0, 1) := by decide +kernel
theorem dX9_init_155 : decode cX9_init 155 = .ok (.sipush 570, 3) := by decide +kernel
theorem dX9_init_158 : decode cX9_init 158 = .ok (.newarray .int, 2) := by decide +kernel
theorem dX9_init_160 : decode cX9_init 160 = .ok (.putfield 77, 3) := by decide +kernel
theorem dX9_init_163 : decode cX9_init 163 = .ok (.aload_n 0, 1) := by decide +kernel
theorem dX9_init_164 : decode cX9_init 164 = .ok (.sipush 200, 3) := by decide +kernel
theorem dX9_init_167 : decode cX9_init 167 = .ok (.newarray .byte, 2) := by decide +kernel
theorem dX9_init_169 : decode cX9_init 169 = .ok (.putfield 80, 3) := by decide +kernel
theorem dX9_init_172 : decode cX9_init 172 = .ok (.aload_n 0, 1) := by decide +kernel
theorem dX9_init_173 : decode cX9_init 173 = .ok (.invokevirtual 83, 3) := by decide +kernel
theorem dX9_init_176 : decode cX9_init 176 = .ok (.aload_n 0, 1) := by decide +kernel
theorem dX9_init_177 : decode cX9_init 177 = .ok (.iconst 0, 1) := by decide +kernel
theorem dX9_init_178 : decode cX9_init 178 = .ok (.sipush 1500, 3) := by decide +kernel
theorem dX9_init_181 : decode cX9_init 181 = .ok (.bipush 10, 2) := by decide +kernel
theorem dX9_init_183 : decode cX9_init 183 = .ok (.iconst 0, 1) := by decide +kernel
theorem dX9_init_184 : decode cX9_init 184 = .ok (.invokevirtual 86, 3) := by decide +kernel
theorem dX9_init_187 : decode cX9_init 187 = .ok (.return_, 1) := by decide +kernel
theorem dX9_layPlain_0 : decode cX9_layPlain 0 = .ok (.iconst 0, 1) := by decide +kernel
theorem dX9_layPlain_1 : decode cX9_layPlain 1 = .ok (.istore_n 1, 1) := by decide +kernel
