theorem dX1_init_0 : decode cX1_init 0 = .ok (.aload_n 0, 1) := by decide +kernel
theorem dX1_init_1 : decode cX1_init 1 = .ok (.invokespecial 3, 3) := by decide +kernel
theorem dX1_init_4 : decode cX1_init 4 = .ok (.aload_n 0, 1) := by decide +kernel
theorem dX1_init_5 : decode cX1_init 5 = .ok (.bipush 6, 2) := by decide +kernel
theorem dX1_init_7 : decode cX1_init 7 = .ok (.anewarray 9, 3) := by decide +kernel
theorem dX1_init_10 : decode cX1_init 10 = .ok (.putfield 11, 3) := by decide +kernel
theorem dX1_init_13 : decode cX1_init 13 = .ok (.aload_n 0, 1) := by decide +kernel
theorem dX1_init_14 : decode cX1_init 14 = .ok (.iconst 0, 1) := by decide +kernel
theorem dX1_init_15 : decode cX1_init 15 = .ok (.putfield 17, 3) := by decide +kernel
theorem dX1_init_18 : decode cX1_init 18 = .ok (.aload_n 0, 1) := by decide +kernel
theorem dX1_init_19 : decode cX1_init 19 = .ok (.iconst 0, 1) := by decide +kernel
theorem dX1_init_20 : decode cX1_init 20 = .ok (.putfield 21, 3) := by decide +kernel
theorem dX1_init_23 : decode cX1_init 23 = .ok (.return_, 1) := by decide +kernel
set_option maxRecDepth 20000 in
set_option maxRecDepth 100000 in
theorem ggX1_remember_X8_sceneAt : GoodIn wsX1_remember wsX8_sceneAt := goodIn_r _ [13] rfl (by decide +kernel)
set_option maxRecDepth 20000 in
theorem gX1_remember_X8_sceneAt_n24 : GoodIn wsX1_remember (wsX8_sceneAt) := ggX1_remember_X8_sceneAt
set_option maxRecDepth 20000 in
set_option maxRecDepth 100000 in
theorem ggX1_remember_X5_init : GoodIn wsX1_remember wsX5_init := goodIn_r _ [15, 16, 17, 18, 19, 20, 21, 22, 23, 24, 25, 26, 27, 28, 29, 30, 31, 32, 58, 59, 53, 54, 55, 56, 57] rfl (by decide +kernel)
set_option maxRecDepth 20000 in
theorem gX1_remember_X5_init_n28 : GoodIn wsX1_remember (wsX5_init) := ggX1_remember_X5_init
set_option maxRecDepth 20000 in
set_option maxRecDepth 100000 in
theorem ggX1_remember_X5_become : GoodIn wsX1_remember wsX5_become := goodIn_r _ [36, 22, 23, 24, 25, 26, 37, 38, 39, 21, 40, 31, 41, 8, 9, 10, 42, 43, 44, 45, 32, 46, 47, 48, 5, 49, 53, 54, 55, 56, 57, 58, 59] rfl (by decide +kernel)
set_option maxRecDepth 20000 in
theorem gX1_remember_X5_become : GoodIn wsX1_remember (wsV RX1 29 RX5 yX5_become wsX5_become) := goodIn_app (goodIn_of _ (by decide +kernel)) ggX1_remember_X5_become
theorem dX1_remember_0 : decode cX1_remember 0 = .ok (.aload_n 0, 1) := by decide +kernel
theorem dX1_remember_1 : decode cX1_remember 1 = .ok (.getfield 11, 3) := by decide +kernel
theorem dX1_remember_4 : decode cX1_remember 4 = .ok (.aload_n 0, 1) := by decide +kernel
theorem dX1_remember_5 : decode cX1_remember 5 = .ok (.getfield 17, 3) := by decide +kernel
theorem dX1_remember_8 : decode cX1_remember 8 = .ok (.invokestatic 24, 3) := by decide +kernel
theorem dX1_remember_11 : decode cX1_remember 11 = .ok (.astore_n 2, 1) := by decide +kernel
theorem dX1_remember_12 : decode cX1_remember 12 = .ok (.aload_n 2, 1) := by decide +kernel
theorem dX1_remember_13 : decode cX1_remember 13 = .ok (.ifnonnull 40, 3) := by decide +kernel
theorem dX1_remember_16 : decode cX1_remember 16 = .ok (.new 9, 3) := by decide +kernel
theorem dX1_remember_19 : decode cX1_remember 19 = .ok (.dup, 1) := by decide +kernel
theorem dX1_remember_20 : decode cX1_remember 20 = .ok (.invokespecial 28, 3) := by decide +kernel
theorem dX1_remember_23 : decode cX1_remember 23 = .ok (.astore_n 2, 1) := by decide +kernel
theorem dX1_remember_24 : decode cX1_remember 24 = .ok (.aload_n 0, 1) := by decide +kernel
theorem dX1_remember_25 : decode cX1_remember 25 = .ok (.getfield 17, 3) := by decide +kernel
theorem dX1_remember_28 : decode cX1_remember 28 = .ok (.ifCond .lt 25, 3) := by decide +kernel
theorem dX1_remember_31 : decode cX1_remember 31 = .ok (.aload_n 0, 1) := by decide +kernel
theorem dX1_remember_32 : decode cX1_remember 32 = .ok (.getfield 17, 3) := by decide +kernel
theorem dX1_remember_35 : decode cX1_remember 35 = .ok (.aload_n 0, 1) := by decide +kernel
theorem dX1_remember_36 : decode cX1_remember 36 = .ok (.getfield 11, 3) := by decide +kernel
theorem dX1_remember_39 : decode cX1_remember 39 = .ok (.arraylength, 1) := by decide +kernel
theorem dX1_remember_40 : decode cX1_remember 40 = .ok (.if_icmp .ge 13, 3) := by decide +kernel
theorem dX1_remember_43 : decode cX1_remember 43 = .ok (.aload_n 0, 1) := by decide +kernel
theorem dX1_remember_44 : decode cX1_remember 44 = .ok (.getfield 11, 3) := by decide +kernel
theorem dX1_remember_47 : decode cX1_remember 47 = .ok (.aload_n 0, 1) := by decide +kernel
theorem dX1_remember_48 : decode cX1_remember 48 = .ok (.getfield 17, 3) := by decide +kernel
theorem dX1_remember_51 : decode cX1_remember 51 = .ok (.aload_n 2, 1) := by decide +kernel
theorem dX1_remember_52 : decode cX1_remember 52 = .ok (.aastore, 1) := by decide +kernel
theorem dX1_remember_53 : decode cX1_remember 53 = .ok (.aload_n 2, 1) := by decide +kernel
theorem dX1_remember_54 : decode cX1_remember 54 = .ok (.aload_n 1, 1) := by decide +kernel
theorem dX1_remember_55 : decode cX1_remember 55 = .ok (.invokevirtual 29, 3) := by decide +kernel
theorem dX1_remember_58 : decode cX1_remember 58 = .ok (.aload_n 0, 1) := by decide +kernel
theorem dX1_remember_59 : decode cX1_remember 59 = .ok (.aload_n 0, 1) := by decide +kernel
theorem dX1_remember_60 : decode cX1_remember 60 = .ok (.getfield 17, 3) := by decide +kernel
theorem dX1_remember_63 : decode cX1_remember 63 = .ok (.iconst 1, 1) := by decide +kernel
theorem dX1_remember_64 : decode cX1_remember 64 = .ok (.iadd, 1) := by decide +kernel
theorem dX1_remember_65 : decode cX1_remember 65 = .ok (.bipush 6, 2) := by decide +kernel
theorem dX1_remember_67 : decode cX1_remember 67 = .ok (.irem, 1) := by decide +kernel
theorem dX1_remember_68 : decode cX1_remember 68 = .ok (.putfield 17, 3) := by decide +kernel
theorem dX1_remember_71 : decode cX1_remember 71 = .ok (.aload_n 0, 1) := by decide +kernel
theorem dX1_remember_72 : decode cX1_remember 72 = .ok (.aload_n 0, 1) := by decide +kernel
theorem dX1_remember_73 : decode cX1_remember 73 = .ok (.getfield 21, 3) := by decide +kernel
theorem dX1_remember_76 : decode cX1_remember 76 = .ok (.iconst 1, 1) := by decide +kernel
theorem dX1_remember_77 : decode cX1_remember 77 = .ok (.iadd, 1) := by decide +kernel
theorem dX1_remember_78 : decode cX1_remember 78 = .ok (.bipush 6, 2) := by decide +kernel
theorem dX1_remember_80 : decode cX1_remember 80 = .ok (.invokestatic 33, 3) := by decide +kernel
theorem dX1_remember_83 : decode cX1_remember 83 = .ok (.putfield 21, 3) := by decide +kernel
theorem dX1_remember_86 : decode cX1_remember 86 = .ok (.return_, 1) := by decide +kernel
set_option maxRecDepth 20000 in
set_option maxRecDepth 100000 in
theorem ggX1_recall_X8_sceneAt : GoodIn wsX1_recall wsX8_sceneAt := goodIn_r _ [6] rfl (by decide +kernel)
set_option maxRecDepth 20000 in
theorem gX1_recall_X8_sceneAt_n24 : GoodIn wsX1_recall (wsX8_sceneAt) := ggX1_recall_X8_sceneAt
set_option maxRecDepth 20000 in
set_option maxRecDepth 100000 in
theorem ggX1_recall_X5_become : GoodIn wsX1_recall wsX5_become := goodIn_r _ [11, 12, 13, 14, 15, 16, 17, 18, 19, 20, 21, 22, 23, 24, 25, 26, 27, 28, 29, 30, 31, 32, 33, 34, 10, 35, 39, 40, 41, 42, 43, 44, 45] rfl (by decide +kernel)
set_option maxRecDepth 20000 in
theorem gX1_recall_X5_become : GoodIn wsX1_recall (wsV RX1 29 RX5 yX5_become wsX5_become) := goodIn_app (goodIn_of _ (by decide +kernel)) ggX1_recall_X5_become
theorem dX1_recall_0 : decode cX1_recall 0 = .ok (.aload_n 0, 1) := by decide +kernel
theorem dX1_recall_1 : decode cX1_recall 1 = .ok (.aload_n 0, 1) := by decide +kernel
theorem dX1_recall_2 : decode cX1_recall 2 = .ok (.getfield 17, 3) := by decide +kernel
theorem dX1_recall_5 : decode cX1_recall 5 = .ok (.bipush 6, 2) := by decide +kernel
theorem dX1_recall_7 : decode cX1_recall 7 = .ok (.iadd, 1) := by decide +kernel
theorem dX1_recall_8 : decode cX1_recall 8 = .ok (.iconst 1, 1) := by decide +kernel
theorem dX1_recall_9 : decode cX1_recall 9 = .ok (.isub, 1) := by decide +kernel
theorem dX1_recall_10 : decode cX1_recall 10 = .ok (.bipush 6, 2) := by decide +kernel
theorem dX1_recall_12 : decode cX1_recall 12 = .ok (.irem, 1) := by decide +kernel
theorem dX1_recall_13 : decode cX1_recall 13 = .ok (.putfield 17, 3) := by decide +kernel
theorem dX1_recall_16 : decode cX1_recall 16 = .ok (.aload_n 0, 1) := by decide +kernel
theorem dX1_recall_17 : decode cX1_recall 17 = .ok (.dup, 1) := by decide +kernel
theorem dX1_recall_18 : decode cX1_recall 18 = .ok (.getfield 21, 3) := by decide +kernel
theorem dX1_recall_21 : decode cX1_recall 21 = .ok (.iconst 1, 1) := by decide +kernel
theorem dX1_recall_22 : decode cX1_recall 22 = .ok (.isub, 1) := by decide +kernel
theorem dX1_recall_23 : decode cX1_recall 23 = .ok (.putfield 21, 3) := by decide +kernel
theorem dX1_recall_26 : decode cX1_recall 26 = .ok (.aload_n 0, 1) := by decide +kernel
theorem dX1_recall_27 : decode cX1_recall 27 = .ok (.getfield 11, 3) := by decide +kernel
theorem dX1_recall_30 : decode cX1_recall 30 = .ok (.aload_n 0, 1) := by decide +kernel
theorem dX1_recall_31 : decode cX1_recall 31 = .ok (.getfield 17, 3) := by decide +kernel
theorem dX1_recall_34 : decode cX1_recall 34 = .ok (.invokestatic 24, 3) := by decide +kernel
theorem dX1_recall_37 : decode cX1_recall 37 = .ok (.astore_n 2, 1) := by decide +kernel
theorem dX1_recall_38 : decode cX1_recall 38 = .ok (.aload_n 2, 1) := by decide +kernel
theorem dX1_recall_39 : decode cX1_recall 39 = .ok (.ifnull 8, 3) := by decide +kernel
theorem dX1_recall_42 : decode cX1_recall 42 = .ok (.aload_n 1, 1) := by decide +kernel
theorem dX1_recall_43 : decode cX1_recall 43 = .ok (.aload_n 2, 1) := by decide +kernel
theorem dX1_recall_44 : decode cX1_recall 44 = .ok (.invokevirtual 29, 3) := by decide +kernel
theorem dX1_recall_47 : decode cX1_recall 47 = .ok (.return_, 1) := by decide +kernel
