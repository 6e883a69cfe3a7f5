theorem dX2_init_0 : decode cX2_init 0 = .ok (.aload_n 0, 1) := by decide +kernel
theorem dX2_init_1 : decode cX2_init 1 = .ok (.invokespecial 3, 3) := by decide +kernel
theorem dX2_init_4 : decode cX2_init 4 = .ok (.aload_n 0, 1) := by decide +kernel
theorem dX2_init_5 : decode cX2_init 5 = .ok (.iconst 0, 1) := by decide +kernel
theorem dX2_init_6 : decode cX2_init 6 = .ok (.putfield 9, 3) := by decide +kernel
theorem dX2_init_9 : decode cX2_init 9 = .ok (.aload_n 0, 1) := by decide +kernel
theorem dX2_init_10 : decode cX2_init 10 = .ok (.iconst (-1), 1) := by decide +kernel
theorem dX2_init_11 : decode cX2_init 11 = .ok (.putfield 15, 3) := by decide +kernel
theorem dX2_init_14 : decode cX2_init 14 = .ok (.aload_n 0, 1) := by decide +kernel
theorem dX2_init_15 : decode cX2_init 15 = .ok (.aload_n 1, 1) := by decide +kernel
theorem dX2_init_16 : decode cX2_init 16 = .ok (.putfield 18, 3) := by decide +kernel
theorem dX2_init_19 : decode cX2_init 19 = .ok (.aload_n 0, 1) := by decide +kernel
theorem dX2_init_20 : decode cX2_init 20 = .ok (.aload_n 2, 1) := by decide +kernel
theorem dX2_init_21 : decode cX2_init 21 = .ok (.putfield 22, 3) := by decide +kernel
theorem dX2_init_24 : decode cX2_init 24 = .ok (.return_, 1) := by decide +kernel
set_option maxRecDepth 20000 in
set_option maxRecDepth 100000 in
theorem ggX2_parse_X5_empty : GoodIn wsX2_parse wsX5_empty := goodIn_r _ [12, 13, 14, 15, 16, 17, 18, 19, 11, 20, 21, 22, 193, 194, 195, 196, 197, 198, 199] rfl (by decide +kernel)
set_option maxRecDepth 20000 in
theorem gX2_parse_X5_empty : GoodIn wsX2_parse (wsV RX2 26 RX5 yX5_empty wsX5_empty) := goodIn_app (goodIn_of _ (by decide +kernel)) ggX2_parse_X5_empty
set_option maxRecDepth 20000 in
set_option maxRecDepth 100000 in
theorem ggX2_parse_X2_readToken : GoodIn wsX2_parse wsX2_readToken := goodIn_r _ [27, 2, 28, 29, 30, 7, 31, 32, 33, 34, 35, 36, 37, 38, 39, 40, 41, 42, 43, 44, 45, 26, 46, 47, 48, 49, 50, 51, 52, 183, 184, 185, 186, 187, 188, 189, 190, 191, 192, 200, 201] rfl (by decide +kernel)
set_option maxRecDepth 20000 in
theorem gX2_parse_X2_readToken : GoodIn wsX2_parse (wsV RX2 41 RX2 yX2_readToken wsX2_readToken) := goodIn_app (goodIn_of _ (by decide +kernel)) ggX2_parse_X2_readToken
set_option maxRecDepth 20000 in
set_option maxRecDepth 100000 in
theorem ggX2_parse_X2_parseStatement : GoodIn wsX2_parse wsX2_parseStatement := goodIn_r _ [56, 1, 57, 58, 59, 60, 61, 26, 62, 7, 2, 30, 28, 63, 64, 65, 66, 67, 68, 69, 70, 71, 72, 73, 74, 37, 38, 39, 40, 41, 42, 43, 75, 76, 77, 78, 79, 80, 81, 82, 83, 84, 85, 86, 87, 88, 89, 90, 91, 92, 93, 94, 95, 96, 97, 98, 99, 100, 101, 102, 103, 104, 105, 106, 107, 108, 109, 110, 111, 112, 113, 114, 115, 116, 117, 118, 119, 5, 6, 23, 24, 25, 27, 29, 31, 32, 33, 34, 35, 36, 44, 45, 46, 47, 48, 49, 50, 51, 52, 120, 121, 122, 123, 124, 125, 126, 127, 128, 129, 130, 131, 132, 133, 134, 135, 136, 137, 138, 139, 140, 141, 142, 143, 144, 145, 146, 147, 148, 149, 150, 151, 152, 153, 154, 155, 156, 157, 158, 159, 160, 161, 3, 162, 163, 164, 165, 166, 4, 167, 18, 19, 11, 20, 21, 22, 168, 169, 170, 171, 172, 173, 174, 175, 176, 177, 178, 179, 180, 13, 181, 182, 183, 184, 185, 186, 187, 188, 189, 190, 191, 192, 193, 194, 195, 196, 197, 198, 199, 202, 203, 204, 205, 200, 201] rfl (by decide +kernel)
set_option maxRecDepth 20000 in
theorem gX2_parse_X2_parseStatement : GoodIn wsX2_parse (wsV RX2 44 RX2 yX2_parseStatement wsX2_parseStatement) := goodIn_app (goodIn_of _ (by decide +kernel)) ggX2_parse_X2_parseStatement
theorem dX2_parse_0 : decode cX2_parse 0 = .ok (.aload_n 0, 1) := by decide +kernel
theorem dX2_parse_1 : decode cX2_parse 1 = .ok (.getfield 22, 3) := by decide +kernel
theorem dX2_parse_4 : decode cX2_parse 4 = .ok (.invokevirtual 26, 3) := by decide +kernel
theorem dX2_parse_7 : decode cX2_parse 7 = .ok (.aload_n 0, 1) := by decide +kernel
theorem dX2_parse_8 : decode cX2_parse 8 = .ok (.iconst 0, 1) := by decide +kernel
theorem dX2_parse_9 : decode cX2_parse 9 = .ok (.putfield 31, 3) := by decide +kernel
theorem dX2_parse_12 : decode cX2_parse 12 = .ok (.aload_n 0, 1) := by decide +kernel
theorem dX2_parse_13 : decode cX2_parse 13 = .ok (.iconst 0, 1) := by decide +kernel
theorem dX2_parse_14 : decode cX2_parse 14 = .ok (.putfield 34, 3) := by decide +kernel
theorem dX2_parse_17 : decode cX2_parse 17 = .ok (.aload_n 0, 1) := by decide +kernel
theorem dX2_parse_18 : decode cX2_parse 18 = .ok (.iconst 0, 1) := by decide +kernel
theorem dX2_parse_19 : decode cX2_parse 19 = .ok (.putfield 38, 3) := by decide +kernel
theorem dX2_parse_22 : decode cX2_parse 22 = .ok (.aload_n 0, 1) := by decide +kernel
theorem dX2_parse_23 : decode cX2_parse 23 = .ok (.iconst 0, 1) := by decide +kernel
theorem dX2_parse_24 : decode cX2_parse 24 = .ok (.putfield 9, 3) := by decide +kernel
theorem dX2_parse_27 : decode cX2_parse 27 = .ok (.aload_n 0, 1) := by decide +kernel
theorem dX2_parse_28 : decode cX2_parse 28 = .ok (.iconst (-1), 1) := by decide +kernel
theorem dX2_parse_29 : decode cX2_parse 29 = .ok (.putfield 15, 3) := by decide +kernel
theorem dX2_parse_32 : decode cX2_parse 32 = .ok (.aload_n 0, 1) := by decide +kernel
theorem dX2_parse_33 : decode cX2_parse 33 = .ok (.invokevirtual 41, 3) := by decide +kernel
theorem dX2_parse_36 : decode cX2_parse 36 = .ok (.aload_n 0, 1) := by decide +kernel
theorem dX2_parse_37 : decode cX2_parse 37 = .ok (.invokevirtual 44, 3) := by decide +kernel
theorem dX2_parse_40 : decode cX2_parse 40 = .ok (.istore_n 1, 1) := by decide +kernel
theorem dX2_parse_41 : decode cX2_parse 41 = .ok (.iconst 1, 1) := by decide +kernel
theorem dX2_parse_42 : decode cX2_parse 42 = .ok (.istore_n 2, 1) := by decide +kernel
theorem dX2_parse_43 : decode cX2_parse 43 = .ok (.iload_n 2, 1) := by decide +kernel
theorem dX2_parse_44 : decode cX2_parse 44 = .ok (.sipush 400, 3) := by decide +kernel
theorem dX2_parse_47 : decode cX2_parse 47 = .ok (.if_icmp .gt 25, 3) := by decide +kernel
theorem dX2_parse_50 : decode cX2_parse 50 = .ok (.iload_n 1, 1) := by decide +kernel
theorem dX2_parse_51 : decode cX2_parse 51 = .ok (.ifCond .eq 21, 3) := by decide +kernel
theorem dX2_parse_54 : decode cX2_parse 54 = .ok (.aload_n 0, 1) := by decide +kernel
theorem dX2_parse_55 : decode cX2_parse 55 = .ok (.getfield 48, 3) := by decide +kernel
theorem dX2_parse_58 : decode cX2_parse 58 = .ok (.ifCond .eq 14, 3) := by decide +kernel
theorem dX2_parse_61 : decode cX2_parse 61 = .ok (.aload_n 0, 1) := by decide +kernel
theorem dX2_parse_62 : decode cX2_parse 62 = .ok (.invokevirtual 44, 3) := by decide +kernel
theorem dX2_parse_65 : decode cX2_parse 65 = .ok (.istore_n 1, 1) := by decide +kernel
theorem dX2_parse_66 : decode cX2_parse 66 = .ok (.iinc 2 1, 3) := by decide +kernel
theorem dX2_parse_69 : decode cX2_parse 69 = .ok (.goto (-26), 3) := by decide +kernel
theorem dX2_parse_72 : decode cX2_parse 72 = .ok (.iload_n 1, 1) := by decide +kernel
theorem dX2_parse_73 : decode cX2_parse 73 = .ok (.ireturn, 1) := by decide +kernel
set_option maxRecDepth 20000 in
set_option maxRecDepth 100000 in
theorem ggX2_parseStatement_X2_isWord : GoodIn wsX2_parseStatement wsX2_isWord := goodIn_r _ [8, 9, 10, 11, 12, 13, 14, 15, 16, 17, 18, 19, 20, 21, 22, 23, 24, 25, 26, 27, 28, 29, 30, 31, 32, 33, 34, 35, 36, 37, 38, 39, 40, 41, 42, 43, 44, 45, 46, 47, 48, 49, 50, 51, 52, 53, 54, 55, 56, 57, 58, 59, 60, 61, 62, 63, 64, 65, 66, 67, 68, 171, 172, 173, 174, 175, 176, 177, 178, 179, 180, 188, 189, 190, 191, 192, 193] rfl (by decide +kernel)
set_option maxRecDepth 20000 in
theorem gX2_parseStatement_X2_isWord : GoodIn wsX2_parseStatement (wsV RX2 53 RX2 yX2_isWord wsX2_isWord) := goodIn_app (goodIn_of _ (by decide +kernel)) ggX2_parseStatement_X2_isWord
set_option maxRecDepth 20000 in
set_option maxRecDepth 100000 in
theorem ggX2_parseStatement_X2_parseLayer : GoodIn wsX2_parseStatement wsX2_parseLayer := goodIn_r _ [72, 1, 2, 3, 73, 74, 75, 7, 76, 77, 11, 78, 79, 80, 81, 82, 10, 12, 83, 9, 84, 85, 86, 87, 88, 89, 25, 26, 27, 28, 29, 30, 31, 90, 91, 92, 93, 94, 95, 96, 97, 98, 99, 100, 101, 102, 103, 104, 105, 106, 107, 108, 109, 110, 4, 5, 6, 8, 13, 14, 15, 16, 17, 18, 19, 20, 21, 22, 23, 24, 32, 33, 34, 35, 36, 37, 38, 39, 40, 41, 42, 43, 44, 45, 46, 47, 48, 49, 50, 51, 52, 53, 54, 55, 56, 57, 58, 59, 60, 61, 62, 63, 64, 65, 66, 67, 68, 111, 112, 113, 114, 115, 116, 117, 118, 119, 120, 121, 122, 123, 124, 125, 126, 127, 128, 129, 130, 131, 132, 133, 134, 135, 136, 171, 172, 173, 174, 175, 176, 177, 178, 179, 180, 181, 182, 183, 184, 185, 186, 187, 192, 193, 188, 189, 190, 191] rfl (by decide +kernel)
set_option maxRecDepth 20000 in
theorem gX2_parseStatement_X2_parseLayer : GoodIn wsX2_parseStatement (wsV RX2 57 RX2 yX2_parseLayer wsX2_parseLayer) := goodIn_app (goodIn_of _ (by decide +kernel)) ggX2_parseStatement_X2_parseLayer
set_option maxRecDepth 20000 in
set_option maxRecDepth 100000 in
theorem ggX2_parseStatement_X2_fail : GoodIn wsX2_parseStatement wsX2_fail := goodIn_r _ [76, 77, 11, 78, 171, 172, 173, 174, 175, 176, 177, 178, 179, 180] rfl (by decide +kernel)
set_option maxRecDepth 20000 in
theorem gX2_parseStatement_X2_fail : GoodIn wsX2_parseStatement (wsV RX2 69 RX2 yX2_fail wsX2_fail) := goodIn_app (goodIn_of _ (by decide +kernel)) ggX2_parseStatement_X2_fail
set_option maxRecDepth 20000 in
set_option maxRecDepth 100000 in
theorem ggX2_parseStatement_X2_parseOutside : GoodIn wsX2_parseStatement wsX2_parseOutside := goodIn_r _ [140, 141, 1, 142, 73, 74, 75, 7, 76, 77, 11, 78, 79, 80, 81, 82, 10, 12, 83, 9, 84, 85, 86, 87, 88, 89, 25, 26, 27, 28, 29, 30, 31, 90, 91, 92, 93, 94, 95, 96, 97, 98, 99, 100, 101, 102, 103, 104, 105, 106, 133, 134, 135, 136, 171, 172, 173, 174, 175, 176, 177, 178, 179, 180, 181, 182, 183, 184, 185, 192, 193] rfl (by decide +kernel)
set_option maxRecDepth 20000 in
theorem gX2_parseStatement_X2_parseOutside : GoodIn wsX2_parseStatement (wsV RX2 75 RX2 yX2_parseOutside wsX2_parseOutside) := goodIn_app (goodIn_of _ (by decide +kernel)) ggX2_parseStatement_X2_parseOutside
set_option maxRecDepth 20000 in
set_option maxRecDepth 100000 in
theorem ggX2_parseStatement_X2_parseBottom : GoodIn wsX2_parseStatement wsX2_parseBottom := goodIn_r _ [146, 147, 1, 73, 74, 75, 7, 76, 77, 11, 78, 79, 80, 81, 82, 10, 12, 83, 9, 84, 85, 86, 87, 88, 89, 25, 26, 27, 28, 29, 30, 31, 90, 91, 92, 93, 94, 95, 96, 97, 98, 4, 5, 6, 8, 13, 14, 15, 16, 17, 18, 19, 20, 21, 22, 23, 24, 32, 33, 34, 35, 36, 37, 38, 39, 40, 41, 42, 43, 44, 45, 46, 47, 48, 49, 50, 51, 52, 53, 54, 55, 56, 57, 58, 59, 60, 61, 62, 63, 64, 65, 66, 67, 68, 99, 100, 101, 102, 103, 104, 105, 106, 148, 149, 150, 151, 152, 153, 154, 133, 134, 135, 136, 171, 172, 173, 174, 175, 176, 177, 178, 179, 180, 192, 193, 188, 189, 190, 191, 181, 182, 183, 184, 185] rfl (by decide +kernel)
set_option maxRecDepth 20000 in
theorem gX2_parseStatement_X2_parseBottom : GoodIn wsX2_parseStatement (wsV RX2 80 RX2 yX2_parseBottom wsX2_parseBottom) := goodIn_app (goodIn_of _ (by decide +kernel)) ggX2_parseStatement_X2_parseBottom
set_option maxRecDepth 20000 in
set_option maxRecDepth 100000 in
theorem ggX2_parseStatement_X2_parseShot : GoodIn wsX2_parseStatement wsX2_parseShot := goodIn_r _ [158, 1, 159, 3, 2, 84, 73, 74, 75, 7, 76, 77, 11, 78, 79, 80, 81, 82, 10, 12, 83, 9, 85, 86, 87, 88, 89, 25, 26, 27, 28, 29, 30, 31, 90, 91, 92, 93, 94, 95, 96, 97, 98, 99, 100, 101, 102, 160, 161, 162, 114, 163, 116, 103, 104, 105, 106, 4, 5, 6, 8, 13, 14, 15, 16, 17, 18, 19, 20, 21, 22, 23, 24, 32, 33, 34, 35, 36, 37, 38, 39, 40, 41, 42, 43, 44, 45, 46, 47, 48, 49, 50, 51, 52, 53, 54, 55, 56, 57, 58, 59, 60, 61, 62, 63, 64, 65, 66, 67, 68, 164, 165, 166, 151, 167, 168, 169, 170, 122, 123, 124, 125, 111, 112, 113, 115, 117, 118, 119, 120, 121, 126, 127, 128, 129, 130, 131, 132, 133, 134, 135, 136, 171, 172, 173, 174, 175, 176, 177, 178, 179, 180, 181, 182, 183, 184, 185, 186, 187, 192, 193, 188, 189, 190, 191] rfl (by decide +kernel)
set_option maxRecDepth 20000 in
theorem gX2_parseStatement_X2_parseShot : GoodIn wsX2_parseStatement (wsV RX2 85 RX2 yX2_parseShot wsX2_parseShot) := goodIn_app (goodIn_of _ (by decide +kernel)) ggX2_parseStatement_X2_parseShot
theorem dX2_parseStatement_0 : decode cX2_parseStatement 0 = .ok (.aload_n 0, 1) := by decide +kernel
theorem dX2_parseStatement_1 : decode cX2_parseStatement 1 = .ok (.ldc 51, 2) := by decide +kernel
theorem dX2_parseStatement_3 : decode cX2_parseStatement 3 = .ok (.invokevirtual 53, 3) := by decide +kernel
theorem dX2_parseStatement_6 : decode cX2_parseStatement 6 = .ok (.ifCond .eq 8, 3) := by decide +kernel
theorem dX2_parseStatement_9 : decode cX2_parseStatement 9 = .ok (.aload_n 0, 1) := by decide +kernel
theorem dX2_parseStatement_10 : decode cX2_parseStatement 10 = .ok (.invokevirtual 57, 3) := by decide +kernel
theorem dX2_parseStatement_13 : decode cX2_parseStatement 13 = .ok (.ireturn, 1) := by decide +kernel
theorem dX2_parseStatement_14 : decode cX2_parseStatement 14 = .ok (.aload_n 0, 1) := by decide +kernel
theorem dX2_parseStatement_15 : decode cX2_parseStatement 15 = .ok (.getfield 22, 3) := by decide +kernel
theorem dX2_parseStatement_18 : decode cX2_parseStatement 18 = .ok (.getfield 60, 3) := by decide +kernel
theorem dX2_parseStatement_21 : decode cX2_parseStatement 21 = .ok (.getfield 64, 3) := by decide +kernel
theorem dX2_parseStatement_24 : decode cX2_parseStatement 24 = .ok (.ifCond .ne 9, 3) := by decide +kernel
theorem dX2_parseStatement_27 : decode cX2_parseStatement 27 = .ok (.aload_n 0, 1) := by decide +kernel
theorem dX2_parseStatement_28 : decode cX2_parseStatement 28 = .ok (.iconst 1, 1) := by decide +kernel
theorem dX2_parseStatement_29 : decode cX2_parseStatement 29 = .ok (.invokevirtual 69, 3) := by decide +kernel
theorem dX2_parseStatement_32 : decode cX2_parseStatement 32 = .ok (.ireturn, 1) := by decide +kernel
theorem dX2_parseStatement_33 : decode cX2_parseStatement 33 = .ok (.aload_n 0, 1) := by decide +kernel
theorem dX2_parseStatement_34 : decode cX2_parseStatement 34 = .ok (.ldc 73, 2) := by decide +kernel
theorem dX2_parseStatement_36 : decode cX2_parseStatement 36 = .ok (.invokevirtual 53, 3) := by decide +kernel
theorem dX2_parseStatement_39 : decode cX2_parseStatement 39 = .ok (.ifCond .eq 8, 3) := by decide +kernel
theorem dX2_parseStatement_42 : decode cX2_parseStatement 42 = .ok (.aload_n 0, 1) := by decide +kernel
theorem dX2_parseStatement_43 : decode cX2_parseStatement 43 = .ok (.invokevirtual 75, 3) := by decide +kernel
theorem dX2_parseStatement_46 : decode cX2_parseStatement 46 = .ok (.ireturn, 1) := by decide +kernel
theorem dX2_parseStatement_47 : decode cX2_parseStatement 47 = .ok (.aload_n 0, 1) := by decide +kernel
theorem dX2_parseStatement_48 : decode cX2_parseStatement 48 = .ok (.ldc 78, 2) := by decide +kernel
theorem dX2_parseStatement_50 : decode cX2_parseStatement 50 = .ok (.invokevirtual 53, 3) := by decide +kernel
theorem dX2_parseStatement_53 : decode cX2_parseStatement 53 = .ok (.ifCond .eq 8, 3) := by decide +kernel
theorem dX2_parseStatement_56 : decode cX2_parseStatement 56 = .ok (.aload_n 0, 1) := by decide +kernel
theorem dX2_parseStatement_57 : decode cX2_parseStatement 57 = .ok (.invokevirtual 80, 3) := by decide +kernel
theorem dX2_parseStatement_60 : decode cX2_parseStatement 60 = .ok (.ireturn, 1) := by decide +kernel
theorem dX2_parseStatement_61 : decode cX2_parseStatement 61 = .ok (.aload_n 0, 1) := by decide +kernel
theorem dX2_parseStatement_62 : decode cX2_parseStatement 62 = .ok (.ldc 83, 2) := by decide +kernel
theorem dX2_parseStatement_64 : decode cX2_parseStatement 64 = .ok (.invokevirtual 53, 3) := by decide +kernel
theorem dX2_parseStatement_67 : decode cX2_parseStatement 67 = .ok (.ifCond .eq 10, 3) := by decide +kernel
theorem dX2_parseStatement_70 : decode cX2_parseStatement 70 = .ok (.aload_n 0, 1) := by decide +kernel
theorem dX2_parseStatement_71 : decode cX2_parseStatement 71 = .ok (.invokevirtual 85, 3) := by decide +kernel
theorem dX2_parseStatement_74 : decode cX2_parseStatement 74 = .ok (.goto 8, 3) := by decide +kernel
theorem dX2_parseStatement_77 : decode cX2_parseStatement 77 = .ok (.aload_n 0, 1) := by decide +kernel
theorem dX2_parseStatement_78 : decode cX2_parseStatement 78 = .ok (.iconst 1, 1) := by decide +kernel
theorem dX2_parseStatement_79 : decode cX2_parseStatement 79 = .ok (.invokevirtual 69, 3) := by decide +kernel
theorem dX2_parseStatement_82 : decode cX2_parseStatement 82 = .ok (.ireturn, 1) := by decide +kernel
set_option maxRecDepth 20000 in
set_option maxRecDepth 100000 in
theorem ggX2_parseLayer_X2_fail : GoodIn wsX2_parseLayer wsX2_fail := goodIn_r _ [8, 9, 10, 11, 133, 134, 135, 136, 137, 138, 139, 140, 141, 142] rfl (by decide +kernel)
set_option maxRecDepth 20000 in
theorem gX2_parseLayer_X2_fail : GoodIn wsX2_parseLayer (wsV RX2 69 RX2 yX2_fail wsX2_fail) := goodIn_app (goodIn_of _ (by decide +kernel)) ggX2_parseLayer_X2_fail
set_option maxRecDepth 20000 in
set_option maxRecDepth 100000 in
theorem ggX2_parseLayer_X2_readToken : GoodIn wsX2_parseLayer wsX2_readToken := goodIn_r _ [15, 16, 17, 18, 10, 19, 20, 21, 22, 23, 24, 25, 26, 27, 28, 29, 30, 31, 32, 33, 34, 7, 35, 36, 37, 38, 39, 40, 41, 133, 134, 135, 136, 137, 138, 139, 140, 141, 142, 150, 151] rfl (by decide +kernel)
set_option maxRecDepth 20000 in
theorem gX2_parseLayer_X2_readToken : GoodIn wsX2_parseLayer (wsV RX2 41 RX2 yX2_readToken wsX2_readToken) := goodIn_app (goodIn_of _ (by decide +kernel)) ggX2_parseLayer_X2_readToken
set_option maxRecDepth 20000 in
set_option maxRecDepth 100000 in
theorem ggX2_parseLayer_X2_isNumber : GoodIn wsX2_parseLayer wsX2_isNumber := goodIn_r _ [45, 19, 20, 4, 5, 6, 7, 8, 9, 10, 11, 133, 134, 135, 136, 137, 138, 139, 140, 141, 142] rfl (by decide +kernel)
set_option maxRecDepth 20000 in
theorem gX2_parseLayer_X2_isNumber : GoodIn wsX2_parseLayer (wsV RX2 88 RX2 yX2_isNumber wsX2_isNumber) := goodIn_app (goodIn_of _ (by decide +kernel)) ggX2_parseLayer_X2_isNumber
set_option maxRecDepth 20000 in
set_option maxRecDepth 100000 in
theorem ggX2_parseLayer_X2_takeNumber : GoodIn wsX2_parseLayer wsX2_takeNumber := goodIn_r _ [49, 20, 12, 13, 14, 7, 15, 16, 17, 18, 10, 19, 21, 22, 23, 24, 25, 26, 27, 28, 29, 30, 31, 32, 33, 34, 35, 36, 37, 38, 39, 40, 41, 133, 134, 135, 136, 137, 138, 139, 140, 141, 142, 150, 151] rfl (by decide +kernel)
set_option maxRecDepth 20000 in
theorem gX2_parseLayer_X2_takeNumber : GoodIn wsX2_parseLayer (wsV RX2 92 RX2 yX2_takeNumber wsX2_takeNumber) := goodIn_app (goodIn_of _ (by decide +kernel)) ggX2_parseLayer_X2_takeNumber
set_option maxRecDepth 20000 in
set_option maxRecDepth 100000 in
theorem ggX2_parseLayer_X2_takeWord : GoodIn wsX2_parseLayer wsX2_takeWord := goodIn_r _ [53, 54, 55, 56, 7, 57, 19, 16, 10, 17, 58, 59, 60, 61, 62, 63, 64, 65, 66, 67, 68, 69, 26, 27, 28, 29, 30, 31, 32, 70, 71, 72, 73, 74, 75, 76, 77, 78, 79, 80, 81, 82, 83, 84, 85, 86, 87, 88, 89, 90, 91, 92, 93, 94, 95, 96, 97, 98, 99, 100, 101, 102, 103, 104, 105, 106, 4, 5, 6, 8, 9, 11, 12, 13, 14, 15, 18, 20, 21, 22, 23, 24, 25, 33, 34, 35, 36, 37, 38, 39, 40, 41, 133, 134, 135, 136, 137, 138, 139, 140, 141, 142, 152, 153, 154, 155, 150, 151] rfl (by decide +kernel)
set_option maxRecDepth 20000 in
theorem gX2_parseLayer_X2_takeWord : GoodIn wsX2_parseLayer (wsV RX2 98 RX2 yX2_takeWord wsX2_takeWord) := goodIn_app (goodIn_of _ (by decide +kernel)) ggX2_parseLayer_X2_takeWord
set_option maxRecDepth 20000 in
set_option maxRecDepth 100000 in
theorem ggX2_parseLayer_X2_isWord : GoodIn wsX2_parseLayer wsX2_isWord := goodIn_r _ [57, 19, 16, 10, 17, 58, 59, 60, 61, 62, 63, 64, 65, 66, 67, 68, 69, 26, 27, 28, 29, 30, 31, 32, 70, 71, 72, 73, 74, 75, 76, 77, 78, 79, 80, 81, 82, 83, 84, 85, 86, 87, 88, 89, 90, 91, 92, 93, 94, 95, 96, 97, 98, 99, 100, 101, 102, 103, 104, 105, 106, 133, 134, 135, 136, 137, 138, 139, 140, 141, 142, 152, 153, 154, 155, 150, 151] rfl (by decide +kernel)
set_option maxRecDepth 20000 in
theorem gX2_parseLayer_X2_isWord : GoodIn wsX2_parseLayer (wsV RX2 53 RX2 yX2_isWord wsX2_isWord) := goodIn_app (goodIn_of _ (by decide +kernel)) ggX2_parseLayer_X2_isWord
set_option maxRecDepth 20000 in
set_option maxRecDepth 100000 in
theorem ggX2_parseLayer_X7_insert : GoodIn wsX2_parseLayer wsX7_insert := goodIn_r _ [111, 112, 113, 114, 115, 110, 116, 117, 118, 119, 120, 121, 122, 123, 124, 125, 126, 127, 128, 148, 149] rfl (by decide +kernel)
set_option maxRecDepth 20000 in
theorem gX2_parseLayer_X7_insert : GoodIn wsX2_parseLayer (wsV RX2 103 RX7 yX7_insert wsX7_insert) := goodIn_app (goodIn_of _ (by decide +kernel)) ggX2_parseLayer_X7_insert
set_option maxRecDepth 20000 in
set_option maxRecDepth 100000 in
theorem ggX2_parseLayer_X2_takeSemicolon : GoodIn wsX2_parseLayer wsX2_takeSemicolon := goodIn_r _ [132, 19, 17, 10, 26, 27, 28, 29, 30, 31, 32, 4, 5, 6, 7, 8, 9, 11, 12, 13, 14, 15, 16, 18, 20, 21, 22, 23, 24, 25, 33, 34, 35, 36, 37, 38, 39, 40, 41, 133, 134, 135, 136, 137, 138, 139, 140, 141, 142, 150, 151] rfl (by decide +kernel)
set_option maxRecDepth 20000 in
theorem gX2_parseLayer_X2_takeSemicolon : GoodIn wsX2_parseLayer (wsV RX2 107 RX2 yX2_takeSemicolon wsX2_takeSemicolon) := goodIn_app (goodIn_of _ (by decide +kernel)) ggX2_parseLayer_X2_takeSemicolon
theorem dX2_parseLayer_0 : decode cX2_parseLayer 0 = .ok (.aload_n 0, 1) := by decide +kernel
theorem dX2_parseLayer_1 : decode cX2_parseLayer 1 = .ok (.getfield 22, 3) := by decide +kernel
theorem dX2_parseLayer_4 : decode cX2_parseLayer 4 = .ok (.getfield 60, 3) := by decide +kernel
theorem dX2_parseLayer_7 : decode cX2_parseLayer 7 = .ok (.getfield 64, 3) := by decide +kernel
theorem dX2_parseLayer_10 : decode cX2_parseLayer 10 = .ok (.bipush 10, 2) := by decide +kernel
theorem dX2_parseLayer_12 : decode cX2_parseLayer 12 = .ok (.if_icmp .lt 10, 3) := by decide +kernel
theorem dX2_parseLayer_15 : decode cX2_parseLayer 15 = .ok (.aload_n 0, 1) := by decide +kernel
theorem dX2_parseLayer_16 : decode cX2_parseLayer 16 = .ok (.bipush 6, 2) := by decide +kernel
theorem dX2_parseLayer_18 : decode cX2_parseLayer 18 = .ok (.invokevirtual 69, 3) := by decide +kernel
theorem dX2_parseLayer_21 : decode cX2_parseLayer 21 = .ok (.ireturn, 1) := by decide +kernel
theorem dX2_parseLayer_22 : decode cX2_parseLayer 22 = .ok (.aload_n 0, 1) := by decide +kernel
theorem dX2_parseLayer_23 : decode cX2_parseLayer 23 = .ok (.invokevirtual 41, 3) := by decide +kernel
theorem dX2_parseLayer_26 : decode cX2_parseLayer 26 = .ok (.aload_n 0, 1) := by decide +kernel
theorem dX2_parseLayer_27 : decode cX2_parseLayer 27 = .ok (.sipush 1000, 3) := by decide +kernel
theorem dX2_parseLayer_30 : decode cX2_parseLayer 30 = .ok (.sipush 4000, 3) := by decide +kernel
theorem dX2_parseLayer_33 : decode cX2_parseLayer 33 = .ok (.invokevirtual 88, 3) := by decide +kernel
theorem dX2_parseLayer_36 : decode cX2_parseLayer 36 = .ok (.ifCond .ne 5, 3) := by decide +kernel
theorem dX2_parseLayer_39 : decode cX2_parseLayer 39 = .ok (.iconst 0, 1) := by decide +kernel
theorem dX2_parseLayer_40 : decode cX2_parseLayer 40 = .ok (.ireturn, 1) := by decide +kernel
theorem dX2_parseLayer_41 : decode cX2_parseLayer 41 = .ok (.aload_n 0, 1) := by decide +kernel
theorem dX2_parseLayer_42 : decode cX2_parseLayer 42 = .ok (.invokevirtual 92, 3) := by decide +kernel
theorem dX2_parseLayer_45 : decode cX2_parseLayer 45 = .ok (.istore_n 1, 1) := by decide +kernel
theorem dX2_parseLayer_46 : decode cX2_parseLayer 46 = .ok (.aload_n 0, 1) := by decide +kernel
theorem dX2_parseLayer_47 : decode cX2_parseLayer 47 = .ok (.ldc 96, 2) := by decide +kernel
theorem dX2_parseLayer_49 : decode cX2_parseLayer 49 = .ok (.invokevirtual 98, 3) := by decide +kernel
theorem dX2_parseLayer_52 : decode cX2_parseLayer 52 = .ok (.ifCond .eq 14, 3) := by decide +kernel
theorem dX2_parseLayer_55 : decode cX2_parseLayer 55 = .ok (.aload_n 0, 1) := by decide +kernel
theorem dX2_parseLayer_56 : decode cX2_parseLayer 56 = .ok (.iconst 1, 1) := by decide +kernel
theorem dX2_parseLayer_57 : decode cX2_parseLayer 57 = .ok (.sipush 999, 3) := by decide +kernel
theorem dX2_parseLayer_60 : decode cX2_parseLayer 60 = .ok (.invokevirtual 88, 3) := by decide +kernel
theorem dX2_parseLayer_63 : decode cX2_parseLayer 63 = .ok (.ifCond .ne 5, 3) := by decide +kernel
theorem dX2_parseLayer_66 : decode cX2_parseLayer 66 = .ok (.iconst 0, 1) := by decide +kernel
theorem dX2_parseLayer_67 : decode cX2_parseLayer 67 = .ok (.ireturn, 1) := by decide +kernel
theorem dX2_parseLayer_68 : decode cX2_parseLayer 68 = .ok (.aload_n 0, 1) := by decide +kernel
theorem dX2_parseLayer_69 : decode cX2_parseLayer 69 = .ok (.invokevirtual 92, 3) := by decide +kernel
theorem dX2_parseLayer_72 : decode cX2_parseLayer 72 = .ok (.istore_n 2, 1) := by decide +kernel
theorem dX2_parseLayer_73 : decode cX2_parseLayer 73 = .ok (.iconst 0, 1) := by decide +kernel
theorem dX2_parseLayer_74 : decode cX2_parseLayer 74 = .ok (.istore_n 3, 1) := by decide +kernel
theorem dX2_parseLayer_75 : decode cX2_parseLayer 75 = .ok (.aload_n 0, 1) := by decide +kernel
theorem dX2_parseLayer_76 : decode cX2_parseLayer 76 = .ok (.ldc 101, 2) := by decide +kernel
theorem dX2_parseLayer_78 : decode cX2_parseLayer 78 = .ok (.invokevirtual 53, 3) := by decide +kernel
theorem dX2_parseLayer_81 : decode cX2_parseLayer 81 = .ok (.ifCond .eq 24, 3) := by decide +kernel
theorem dX2_parseLayer_84 : decode cX2_parseLayer 84 = .ok (.aload_n 0, 1) := by decide +kernel
theorem dX2_parseLayer_85 : decode cX2_parseLayer 85 = .ok (.invokevirtual 41, 3) := by decide +kernel
theorem dX2_parseLayer_88 : decode cX2_parseLayer 88 = .ok (.aload_n 0, 1) := by decide +kernel
theorem dX2_parseLayer_89 : decode cX2_parseLayer 89 = .ok (.iconst 0, 1) := by decide +kernel
theorem dX2_parseLayer_90 : decode cX2_parseLayer 90 = .ok (.bipush 99, 2) := by decide +kernel
theorem dX2_parseLayer_92 : decode cX2_parseLayer 92 = .ok (.invokevirtual 88, 3) := by decide +kernel
theorem dX2_parseLayer_95 : decode cX2_parseLayer 95 = .ok (.ifCond .ne 5, 3) := by decide +kernel
theorem dX2_parseLayer_98 : decode cX2_parseLayer 98 = .ok (.iconst 0, 1) := by decide +kernel
theorem dX2_parseLayer_99 : decode cX2_parseLayer 99 = .ok (.ireturn, 1) := by decide +kernel
theorem dX2_parseLayer_100 : decode cX2_parseLayer 100 = .ok (.aload_n 0, 1) := by decide +kernel
theorem dX2_parseLayer_101 : decode cX2_parseLayer 101 = .ok (.invokevirtual 92, 3) := by decide +kernel
theorem dX2_parseLayer_104 : decode cX2_parseLayer 104 = .ok (.istore_n 3, 1) := by decide +kernel
theorem dX2_parseLayer_105 : decode cX2_parseLayer 105 = .ok (.aload_n 0, 1) := by decide +kernel
theorem dX2_parseLayer_106 : decode cX2_parseLayer 106 = .ok (.getfield 22, 3) := by decide +kernel
theorem dX2_parseLayer_109 : decode cX2_parseLayer 109 = .ok (.getfield 60, 3) := by decide +kernel
theorem dX2_parseLayer_112 : decode cX2_parseLayer 112 = .ok (.aload_n 0, 1) := by decide +kernel
theorem dX2_parseLayer_113 : decode cX2_parseLayer 113 = .ok (.getfield 22, 3) := by decide +kernel
theorem dX2_parseLayer_116 : decode cX2_parseLayer 116 = .ok (.getfield 60, 3) := by decide +kernel
theorem dX2_parseLayer_119 : decode cX2_parseLayer 119 = .ok (.getfield 64, 3) := by decide +kernel
theorem dX2_parseLayer_122 : decode cX2_parseLayer 122 = .ok (.iload_n 1, 1) := by decide +kernel
theorem dX2_parseLayer_123 : decode cX2_parseLayer 123 = .ok (.iload_n 2, 1) := by decide +kernel
theorem dX2_parseLayer_124 : decode cX2_parseLayer 124 = .ok (.iload_n 3, 1) := by decide +kernel
theorem dX2_parseLayer_125 : decode cX2_parseLayer 125 = .ok (.invokevirtual 103, 3) := by decide +kernel
theorem dX2_parseLayer_128 : decode cX2_parseLayer 128 = .ok (.aload_n 0, 1) := by decide +kernel
theorem dX2_parseLayer_129 : decode cX2_parseLayer 129 = .ok (.invokevirtual 107, 3) := by decide +kernel
theorem dX2_parseLayer_132 : decode cX2_parseLayer 132 = .ok (.ireturn, 1) := by decide +kernel
set_option maxRecDepth 20000 in
set_option maxRecDepth 100000 in
theorem ggX2_parseOutside_X2_fail : GoodIn wsX2_parseOutside wsX2_fail := goodIn_r _ [8, 9, 10, 11, 54, 55, 56, 57, 58, 59, 60, 61, 62, 63] rfl (by decide +kernel)
set_option maxRecDepth 20000 in
theorem gX2_parseOutside_X2_fail : GoodIn wsX2_parseOutside (wsV RX2 69 RX2 yX2_fail wsX2_fail) := goodIn_app (goodIn_of _ (by decide +kernel)) ggX2_parseOutside_X2_fail
set_option maxRecDepth 20000 in
set_option maxRecDepth 100000 in
theorem ggX2_parseOutside_X2_readToken : GoodIn wsX2_parseOutside wsX2_readToken := goodIn_r _ [15, 16, 17, 18, 10, 19, 20, 21, 22, 23, 24, 25, 26, 27, 28, 29, 30, 31, 32, 33, 34, 7, 35, 36, 37, 38, 39, 40, 41, 54, 55, 56, 57, 58, 59, 60, 61, 62, 63, 69, 70] rfl (by decide +kernel)
set_option maxRecDepth 20000 in
theorem gX2_parseOutside_X2_readToken : GoodIn wsX2_parseOutside (wsV RX2 41 RX2 yX2_readToken wsX2_readToken) := goodIn_app (goodIn_of _ (by decide +kernel)) ggX2_parseOutside_X2_readToken
set_option maxRecDepth 20000 in
set_option maxRecDepth 100000 in
theorem ggX2_parseOutside_X2_isNumber : GoodIn wsX2_parseOutside wsX2_isNumber := goodIn_r _ [45, 19, 20, 4, 5, 6, 7, 8, 9, 10, 11, 54, 55, 56, 57, 58, 59, 60, 61, 62, 63] rfl (by decide +kernel)
set_option maxRecDepth 20000 in
theorem gX2_parseOutside_X2_isNumber : GoodIn wsX2_parseOutside (wsV RX2 88 RX2 yX2_isNumber wsX2_isNumber) := goodIn_app (goodIn_of _ (by decide +kernel)) ggX2_parseOutside_X2_isNumber
set_option maxRecDepth 20000 in
set_option maxRecDepth 100000 in
theorem ggX2_parseOutside_X2_takeNumber : GoodIn wsX2_parseOutside wsX2_takeNumber := goodIn_r _ [49, 20, 12, 13, 14, 7, 15, 16, 17, 18, 10, 19, 21, 22, 23, 24, 25, 26, 27, 28, 29, 30, 31, 32, 33, 34, 35, 36, 37, 38, 39, 40, 41, 54, 55, 56, 57, 58, 59, 60, 61, 62, 63, 69, 70] rfl (by decide +kernel)
set_option maxRecDepth 20000 in
theorem gX2_parseOutside_X2_takeNumber : GoodIn wsX2_parseOutside (wsV RX2 92 RX2 yX2_takeNumber wsX2_takeNumber) := goodIn_app (goodIn_of _ (by decide +kernel)) ggX2_parseOutside_X2_takeNumber
set_option maxRecDepth 20000 in
set_option maxRecDepth 100000 in
theorem ggX2_parseOutside_X2_takeSemicolon : GoodIn wsX2_parseOutside wsX2_takeSemicolon := goodIn_r _ [53, 19, 17, 10, 26, 27, 28, 29, 30, 31, 32, 4, 5, 6, 7, 8, 9, 11, 12, 13, 14, 15, 16, 18, 20, 21, 22, 23, 24, 25, 33, 34, 35, 36, 37, 38, 39, 40, 41, 54, 55, 56, 57, 58, 59, 60, 61, 62, 63, 69, 70] rfl (by decide +kernel)
set_option maxRecDepth 20000 in
theorem gX2_parseOutside_X2_takeSemicolon : GoodIn wsX2_parseOutside (wsV RX2 107 RX2 yX2_takeSemicolon wsX2_takeSemicolon) := goodIn_app (goodIn_of _ (by decide +kernel)) ggX2_parseOutside_X2_takeSemicolon
theorem dX2_parseOutside_0 : decode cX2_parseOutside 0 = .ok (.aload_n 0, 1) := by decide +kernel
theorem dX2_parseOutside_1 : decode cX2_parseOutside 1 = .ok (.getfield 34, 3) := by decide +kernel
theorem dX2_parseOutside_4 : decode cX2_parseOutside 4 = .ok (.ifCond .eq 9, 3) := by decide +kernel
theorem dX2_parseOutside_7 : decode cX2_parseOutside 7 = .ok (.aload_n 0, 1) := by decide +kernel
theorem dX2_parseOutside_8 : decode cX2_parseOutside 8 = .ok (.iconst 3, 1) := by decide +kernel
theorem dX2_parseOutside_9 : decode cX2_parseOutside 9 = .ok (.invokevirtual 69, 3) := by decide +kernel
theorem dX2_parseOutside_12 : decode cX2_parseOutside 12 = .ok (.ireturn, 1) := by decide +kernel
theorem dX2_parseOutside_13 : decode cX2_parseOutside 13 = .ok (.aload_n 0, 1) := by decide +kernel
theorem dX2_parseOutside_14 : decode cX2_parseOutside 14 = .ok (.iconst 1, 1) := by decide +kernel
theorem dX2_parseOutside_15 : decode cX2_parseOutside 15 = .ok (.putfield 34, 3) := by decide +kernel
theorem dX2_parseOutside_18 : decode cX2_parseOutside 18 = .ok (.aload_n 0, 1) := by decide +kernel
theorem dX2_parseOutside_19 : decode cX2_parseOutside 19 = .ok (.invokevirtual 41, 3) := by decide +kernel
theorem dX2_parseOutside_22 : decode cX2_parseOutside 22 = .ok (.aload_n 0, 1) := by decide +kernel
theorem dX2_parseOutside_23 : decode cX2_parseOutside 23 = .ok (.sipush 1000, 3) := by decide +kernel
theorem dX2_parseOutside_26 : decode cX2_parseOutside 26 = .ok (.sipush 4000, 3) := by decide +kernel
theorem dX2_parseOutside_29 : decode cX2_parseOutside 29 = .ok (.invokevirtual 88, 3) := by decide +kernel
theorem dX2_parseOutside_32 : decode cX2_parseOutside 32 = .ok (.ifCond .ne 5, 3) := by decide +kernel
theorem dX2_parseOutside_35 : decode cX2_parseOutside 35 = .ok (.iconst 0, 1) := by decide +kernel
theorem dX2_parseOutside_36 : decode cX2_parseOutside 36 = .ok (.ireturn, 1) := by decide +kernel
theorem dX2_parseOutside_37 : decode cX2_parseOutside 37 = .ok (.aload_n 0, 1) := by decide +kernel
theorem dX2_parseOutside_38 : decode cX2_parseOutside 38 = .ok (.getfield 22, 3) := by decide +kernel
theorem dX2_parseOutside_41 : decode cX2_parseOutside 41 = .ok (.aload_n 0, 1) := by decide +kernel
theorem dX2_parseOutside_42 : decode cX2_parseOutside 42 = .ok (.invokevirtual 92, 3) := by decide +kernel
theorem dX2_parseOutside_45 : decode cX2_parseOutside 45 = .ok (.putfield 110, 3) := by decide +kernel
theorem dX2_parseOutside_48 : decode cX2_parseOutside 48 = .ok (.aload_n 0, 1) := by decide +kernel
theorem dX2_parseOutside_49 : decode cX2_parseOutside 49 = .ok (.invokevirtual 107, 3) := by decide +kernel
theorem dX2_parseOutside_52 : decode cX2_parseOutside 52 = .ok (.ireturn, 1) := by decide +kernel
set_option maxRecDepth 20000 in
set_option maxRecDepth 100000 in
theorem ggX2_parseBottom_X2_fail : GoodIn wsX2_parseBottom wsX2_fail := goodIn_r _ [7, 8, 9, 10, 113, 114, 115, 116, 117, 118, 119, 120, 121, 122] rfl (by decide +kernel)
set_option maxRecDepth 20000 in
theorem gX2_parseBottom_X2_fail : GoodIn wsX2_parseBottom (wsV RX2 69 RX2 yX2_fail wsX2_fail) := goodIn_app (goodIn_of _ (by decide +kernel)) ggX2_parseBottom_X2_fail
set_option maxRecDepth 20000 in
set_option maxRecDepth 100000 in
theorem ggX2_parseBottom_X2_readToken : GoodIn wsX2_parseBottom wsX2_readToken := goodIn_r _ [14, 15, 16, 17, 9, 18, 19, 20, 21, 22, 23, 24, 25, 26, 27, 28, 29, 30, 31, 32, 33, 6, 34, 35, 36, 37, 38, 39, 40, 113, 114, 115, 116, 117, 118, 119, 120, 121, 122, 123, 124] rfl (by decide +kernel)
set_option maxRecDepth 20000 in
theorem gX2_parseBottom_X2_readToken : GoodIn wsX2_parseBottom (wsV RX2 41 RX2 yX2_readToken wsX2_readToken) := goodIn_app (goodIn_of _ (by decide +kernel)) ggX2_parseBottom_X2_readToken
set_option maxRecDepth 20000 in
set_option maxRecDepth 100000 in
theorem ggX2_parseBottom_X2_isWord : GoodIn wsX2_parseBottom wsX2_isWord := goodIn_r _ [44, 18, 15, 9, 16, 45, 46, 47, 48, 49, 50, 51, 52, 53, 54, 55, 56, 25, 26, 27, 28, 29, 30, 31, 57, 58, 59, 60, 61, 62, 63, 64, 65, 66, 67, 68, 69, 70, 71, 72, 73, 74, 75, 76, 77, 78, 79, 80, 81, 82, 83, 84, 85, 86, 87, 88, 89, 90, 91, 92, 93, 113, 114, 115, 116, 117, 118, 119, 120, 121, 122, 125, 126, 127, 128, 123, 124] rfl (by decide +kernel)
set_option maxRecDepth 20000 in
theorem gX2_parseBottom_X2_isWord : GoodIn wsX2_parseBottom (wsV RX2 53 RX2 yX2_isWord wsX2_isWord) := goodIn_app (goodIn_of _ (by decide +kernel)) ggX2_parseBottom_X2_isWord
set_option maxRecDepth 20000 in
set_option maxRecDepth 100000 in
theorem ggX2_parseBottom_X2_isNumber : GoodIn wsX2_parseBottom wsX2_isNumber := goodIn_r _ [97, 18, 19, 3, 4, 5, 6, 7, 8, 9, 10, 113, 114, 115, 116, 117, 118, 119, 120, 121, 122] rfl (by decide +kernel)
set_option maxRecDepth 20000 in
theorem gX2_parseBottom_X2_isNumber : GoodIn wsX2_parseBottom (wsV RX2 88 RX2 yX2_isNumber wsX2_isNumber) := goodIn_app (goodIn_of _ (by decide +kernel)) ggX2_parseBottom_X2_isNumber
set_option maxRecDepth 20000 in
set_option maxRecDepth 100000 in
theorem ggX2_parseBottom_X2_takeNumber : GoodIn wsX2_parseBottom wsX2_takeNumber := goodIn_r _ [101, 19, 11, 12, 13, 6, 14, 15, 16, 17, 9, 18, 20, 21, 22, 23, 24, 25, 26, 27, 28, 29, 30, 31, 32, 33, 34, 35, 36, 37, 38, 39, 40, 113, 114, 115, 116, 117, 118, 119, 120, 121, 122, 123, 124] rfl (by decide +kernel)
set_option maxRecDepth 20000 in
theorem gX2_parseBottom_X2_takeNumber : GoodIn wsX2_parseBottom (wsV RX2 92 RX2 yX2_takeNumber wsX2_takeNumber) := goodIn_app (goodIn_of _ (by decide +kernel)) ggX2_parseBottom_X2_takeNumber
set_option maxRecDepth 20000 in
set_option maxRecDepth 100000 in
theorem ggX2_parseBottom_X5_setBottom : GoodIn wsX2_parseBottom wsX5_setBottom := goodIn_r _ [106, 107, 108, 129, 130, 131, 132, 133] rfl (by decide +kernel)
set_option maxRecDepth 20000 in
theorem gX2_parseBottom_X5_setBottom : GoodIn wsX2_parseBottom (wsV RX2 116 RX5 yX5_setBottom wsX5_setBottom) := goodIn_app (goodIn_of _ (by decide +kernel)) ggX2_parseBottom_X5_setBottom
set_option maxRecDepth 20000 in
set_option maxRecDepth 100000 in
theorem ggX2_parseBottom_X2_takeSemicolon : GoodIn wsX2_parseBottom wsX2_takeSemicolon := goodIn_r _ [112, 18, 16, 9, 25, 26, 27, 28, 29, 30, 31, 3, 4, 5, 6, 7, 8, 10, 11, 12, 13, 14, 15, 17, 19, 20, 21, 22, 23, 24, 32, 33, 34, 35, 36, 37, 38, 39, 40, 113, 114, 115, 116, 117, 118, 119, 120, 121, 122, 123, 124] rfl (by decide +kernel)
set_option maxRecDepth 20000 in
theorem gX2_parseBottom_X2_takeSemicolon : GoodIn wsX2_parseBottom (wsV RX2 107 RX2 yX2_takeSemicolon wsX2_takeSemicolon) := goodIn_app (goodIn_of _ (by decide +kernel)) ggX2_parseBottom_X2_takeSemicolon
theorem dX2_parseBottom_0 : decode cX2_parseBottom 0 = .ok (.aload_n 0, 1) := by decide +kernel
theorem dX2_parseBottom_1 : decode cX2_parseBottom 1 = .ok (.getfield 38, 3) := by decide +kernel
theorem dX2_parseBottom_4 : decode cX2_parseBottom 4 = .ok (.ifCond .eq 9, 3) := by decide +kernel
theorem dX2_parseBottom_7 : decode cX2_parseBottom 7 = .ok (.aload_n 0, 1) := by decide +kernel
theorem dX2_parseBottom_8 : decode cX2_parseBottom 8 = .ok (.iconst 3, 1) := by decide +kernel
theorem dX2_parseBottom_9 : decode cX2_parseBottom 9 = .ok (.invokevirtual 69, 3) := by decide +kernel
theorem dX2_parseBottom_12 : decode cX2_parseBottom 12 = .ok (.ireturn, 1) := by decide +kernel
theorem dX2_parseBottom_13 : decode cX2_parseBottom 13 = .ok (.aload_n 0, 1) := by decide +kernel
theorem dX2_parseBottom_14 : decode cX2_parseBottom 14 = .ok (.iconst 1, 1) := by decide +kernel
theorem dX2_parseBottom_15 : decode cX2_parseBottom 15 = .ok (.putfield 38, 3) := by decide +kernel
theorem dX2_parseBottom_18 : decode cX2_parseBottom 18 = .ok (.aload_n 0, 1) := by decide +kernel
theorem dX2_parseBottom_19 : decode cX2_parseBottom 19 = .ok (.invokevirtual 41, 3) := by decide +kernel
theorem dX2_parseBottom_22 : decode cX2_parseBottom 22 = .ok (.aload_n 0, 1) := by decide +kernel
theorem dX2_parseBottom_23 : decode cX2_parseBottom 23 = .ok (.ldc 112, 2) := by decide +kernel
theorem dX2_parseBottom_25 : decode cX2_parseBottom 25 = .ok (.invokevirtual 53, 3) := by decide +kernel
theorem dX2_parseBottom_28 : decode cX2_parseBottom 28 = .ok (.istore_n 1, 1) := by decide +kernel
theorem dX2_parseBottom_29 : decode cX2_parseBottom 29 = .ok (.iload_n 1, 1) := by decide +kernel
theorem dX2_parseBottom_30 : decode cX2_parseBottom 30 = .ok (.ifCond .ne 18, 3) := by decide +kernel
theorem dX2_parseBottom_33 : decode cX2_parseBottom 33 = .ok (.aload_n 0, 1) := by decide +kernel
theorem dX2_parseBottom_34 : decode cX2_parseBottom 34 = .ok (.ldc 114, 2) := by decide +kernel
theorem dX2_parseBottom_36 : decode cX2_parseBottom 36 = .ok (.invokevirtual 53, 3) := by decide +kernel
theorem dX2_parseBottom_39 : decode cX2_parseBottom 39 = .ok (.ifCond .ne 9, 3) := by decide +kernel
theorem dX2_parseBottom_42 : decode cX2_parseBottom 42 = .ok (.aload_n 0, 1) := by decide +kernel
theorem dX2_parseBottom_43 : decode cX2_parseBottom 43 = .ok (.iconst 1, 1) := by decide +kernel
theorem dX2_parseBottom_44 : decode cX2_parseBottom 44 = .ok (.invokevirtual 69, 3) := by decide +kernel
theorem dX2_parseBottom_47 : decode cX2_parseBottom 47 = .ok (.ireturn, 1) := by decide +kernel
theorem dX2_parseBottom_48 : decode cX2_parseBottom 48 = .ok (.aload_n 0, 1) := by decide +kernel
theorem dX2_parseBottom_49 : decode cX2_parseBottom 49 = .ok (.invokevirtual 41, 3) := by decide +kernel
theorem dX2_parseBottom_52 : decode cX2_parseBottom 52 = .ok (.aload_n 0, 1) := by decide +kernel
theorem dX2_parseBottom_53 : decode cX2_parseBottom 53 = .ok (.iload_n 1, 1) := by decide +kernel
theorem dX2_parseBottom_54 : decode cX2_parseBottom 54 = .ok (.ifCond .eq 7, 3) := by decide +kernel
theorem dX2_parseBottom_57 : decode cX2_parseBottom 57 = .ok (.iconst 0, 1) := by decide +kernel
theorem dX2_parseBottom_58 : decode cX2_parseBottom 58 = .ok (.goto 6, 3) := by decide +kernel
theorem dX2_parseBottom_61 : decode cX2_parseBottom 61 = .ok (.sipush 1000, 3) := by decide +kernel
theorem dX2_parseBottom_64 : decode cX2_parseBottom 64 = .ok (.iload_n 1, 1) := by decide +kernel
theorem dX2_parseBottom_65 : decode cX2_parseBottom 65 = .ok (.ifCond .eq 8, 3) := by decide +kernel
theorem dX2_parseBottom_68 : decode cX2_parseBottom 68 = .ok (.bipush 100, 2) := by decide +kernel
theorem dX2_parseBottom_70 : decode cX2_parseBottom 70 = .ok (.goto 6, 3) := by decide +kernel
theorem dX2_parseBottom_73 : decode cX2_parseBottom 73 = .ok (.sipush 4000, 3) := by decide +kernel
theorem dX2_parseBottom_76 : decode cX2_parseBottom 76 = .ok (.invokevirtual 88, 3) := by decide +kernel
theorem dX2_parseBottom_79 : decode cX2_parseBottom 79 = .ok (.ifCond .ne 5, 3) := by decide +kernel
theorem dX2_parseBottom_82 : decode cX2_parseBottom 82 = .ok (.iconst 0, 1) := by decide +kernel
theorem dX2_parseBottom_83 : decode cX2_parseBottom 83 = .ok (.ireturn, 1) := by decide +kernel
theorem dX2_parseBottom_84 : decode cX2_parseBottom 84 = .ok (.aload_n 0, 1) := by decide +kernel
theorem dX2_parseBottom_85 : decode cX2_parseBottom 85 = .ok (.getfield 22, 3) := by decide +kernel
theorem dX2_parseBottom_88 : decode cX2_parseBottom 88 = .ok (.iload_n 1, 1) := by decide +kernel
theorem dX2_parseBottom_89 : decode cX2_parseBottom 89 = .ok (.aload_n 0, 1) := by decide +kernel
theorem dX2_parseBottom_90 : decode cX2_parseBottom 90 = .ok (.invokevirtual 92, 3) := by decide +kernel
theorem dX2_parseBottom_93 : decode cX2_parseBottom 93 = .ok (.invokevirtual 116, 3) := by decide +kernel
theorem dX2_parseBottom_96 : decode cX2_parseBottom 96 = .ok (.aload_n 0, 1) := by decide +kernel
theorem dX2_parseBottom_97 : decode cX2_parseBottom 97 = .ok (.invokevirtual 107, 3) := by decide +kernel
theorem dX2_parseBottom_100 : decode cX2_parseBottom 100 = .ok (.ireturn, 1) := by decide +kernel
set_option maxRecDepth 20000 in
set_option maxRecDepth 100000 in
theorem ggX2_parseShot_X2_fail : GoodIn wsX2_parseShot wsX2_fail := goodIn_r _ [10, 11, 12, 13, 142, 143, 144, 145, 146, 147, 148, 149, 150, 151] rfl (by decide +kernel)
set_option maxRecDepth 20000 in
theorem gX2_parseShot_X2_fail : GoodIn wsX2_parseShot (wsV RX2 69 RX2 yX2_fail wsX2_fail) := goodIn_app (goodIn_of _ (by decide +kernel)) ggX2_parseShot_X2_fail
set_option maxRecDepth 20000 in
set_option maxRecDepth 100000 in
theorem ggX2_parseShot_X2_readToken : GoodIn wsX2_parseShot wsX2_readToken := goodIn_r _ [17, 18, 19, 20, 12, 21, 5, 22, 23, 24, 25, 26, 27, 28, 29, 30, 31, 32, 33, 34, 35, 9, 36, 37, 38, 39, 40, 41, 42, 142, 143, 144, 145, 146, 147, 148, 149, 150, 151, 159, 160] rfl (by decide +kernel)
set_option maxRecDepth 20000 in
theorem gX2_parseShot_X2_readToken : GoodIn wsX2_parseShot (wsV RX2 41 RX2 yX2_readToken wsX2_readToken) := goodIn_app (goodIn_of _ (by decide +kernel)) ggX2_parseShot_X2_readToken
set_option maxRecDepth 20000 in
set_option maxRecDepth 100000 in
theorem ggX2_parseShot_X2_isNumber : GoodIn wsX2_parseShot wsX2_isNumber := goodIn_r _ [46, 21, 5, 6, 7, 8, 9, 10, 11, 12, 13, 142, 143, 144, 145, 146, 147, 148, 149, 150, 151] rfl (by decide +kernel)
set_option maxRecDepth 20000 in
theorem gX2_parseShot_X2_isNumber : GoodIn wsX2_parseShot (wsV RX2 88 RX2 yX2_isNumber wsX2_isNumber) := goodIn_app (goodIn_of _ (by decide +kernel)) ggX2_parseShot_X2_isNumber
set_option maxRecDepth 20000 in
set_option maxRecDepth 100000 in
theorem ggX2_parseShot_X7_has : GoodIn wsX2_parseShot wsX7_has := goodIn_r _ [51, 52, 157, 158] rfl (by decide +kernel)
set_option maxRecDepth 20000 in
theorem gX2_parseShot_X7_has : GoodIn wsX2_parseShot (wsV RX2 126 RX7 yX7_has wsX7_has) := goodIn_app (goodIn_of _ (by decide +kernel)) ggX2_parseShot_X7_has
set_option maxRecDepth 20000 in
set_option maxRecDepth 100000 in
theorem ggX2_parseShot_X2_takeNumber : GoodIn wsX2_parseShot wsX2_takeNumber := goodIn_r _ [56, 5, 14, 15, 16, 9, 17, 18, 19, 20, 12, 21, 22, 23, 24, 25, 26, 27, 28, 29, 30, 31, 32, 33, 34, 35, 36, 37, 38, 39, 40, 41, 42, 142, 143, 144, 145, 146, 147, 148, 149, 150, 151, 159, 160] rfl (by decide +kernel)
set_option maxRecDepth 20000 in
theorem gX2_parseShot_X2_takeNumber : GoodIn wsX2_parseShot (wsV RX2 92 RX2 yX2_takeNumber wsX2_takeNumber) := goodIn_app (goodIn_of _ (by decide +kernel)) ggX2_parseShot_X2_takeNumber
set_option maxRecDepth 20000 in
set_option maxRecDepth 100000 in
theorem ggX2_parseShot_X2_isWord : GoodIn wsX2_parseShot wsX2_isWord := goodIn_r _ [60, 21, 18, 12, 19, 61, 62, 63, 64, 65, 66, 67, 68, 69, 70, 71, 72, 27, 28, 29, 30, 31, 32, 33, 73, 74, 75, 76, 77, 78, 79, 80, 81, 82, 83, 84, 85, 86, 87, 88, 89, 90, 91, 92, 93, 94, 95, 96, 97, 98, 99, 100, 101, 102, 103, 104, 105, 106, 107, 108, 109, 142, 143, 144, 145, 146, 147, 148, 149, 150, 151, 161, 162, 163, 164, 159, 160] rfl (by decide +kernel)
set_option maxRecDepth 20000 in
theorem gX2_parseShot_X2_isWord : GoodIn wsX2_parseShot (wsV RX2 53 RX2 yX2_isWord wsX2_isWord) := goodIn_app (goodIn_of _ (by decide +kernel)) ggX2_parseShot_X2_isWord
set_option maxRecDepth 20000 in
set_option maxRecDepth 100000 in
theorem ggX2_parseShot_X5_canBegin : GoodIn wsX2_parseShot wsX5_canBegin := goodIn_r _ [114, 115, 116, 48, 49, 50, 51, 52, 117, 118, 119, 120, 121, 152, 153, 154, 155, 156, 157, 158] rfl (by decide +kernel)
set_option maxRecDepth 20000 in
theorem gX2_parseShot_X5_canBegin : GoodIn wsX2_parseShot (wsV RX2 133 RX5 yX5_canBegin wsX5_canBegin) := goodIn_app (goodIn_of _ (by decide +kernel)) ggX2_parseShot_X5_canBegin
set_option maxRecDepth 20000 in
set_option maxRecDepth 100000 in
theorem ggX2_parseShot_X7_insert : GoodIn wsX2_parseShot wsX7_insert := goodIn_r _ [125, 52, 126, 127, 128, 50, 129, 130, 118, 119, 120, 121, 131, 132, 133, 134, 135, 136, 137, 157, 158] rfl (by decide +kernel)
set_option maxRecDepth 20000 in
theorem gX2_parseShot_X7_insert : GoodIn wsX2_parseShot (wsV RX2 103 RX7 yX7_insert wsX7_insert) := goodIn_app (goodIn_of _ (by decide +kernel)) ggX2_parseShot_X7_insert
set_option maxRecDepth 20000 in
set_option maxRecDepth 100000 in
theorem ggX2_parseShot_X2_takeSemicolon : GoodIn wsX2_parseShot wsX2_takeSemicolon := goodIn_r _ [141, 21, 19, 12, 27, 28, 29, 30, 31, 32, 33, 6, 7, 8, 9, 10, 11, 13, 14, 15, 16, 17, 18, 20, 5, 22, 23, 24, 25, 26, 34, 35, 36, 37, 38, 39, 40, 41, 42, 142, 143, 144, 145, 146, 147, 148, 149, 150, 151, 159, 160] rfl (by decide +kernel)
set_option maxRecDepth 20000 in
theorem gX2_parseShot_X2_takeSemicolon : GoodIn wsX2_parseShot (wsV RX2 107 RX2 yX2_takeSemicolon wsX2_takeSemicolon) := goodIn_app (goodIn_of _ (by decide +kernel)) ggX2_parseShot_X2_takeSemicolon
theorem dX2_parseShot_0 : decode cX2_parseShot 0 = .ok (.aload_n 0, 1) := by decide +kernel
theorem dX2_parseShot_1 : decode cX2_parseShot 1 = .ok (.getfield 22, 3) := by decide +kernel
theorem dX2_parseShot_4 : decode cX2_parseShot 4 = .ok (.getfield 120, 3) := by decide +kernel
theorem dX2_parseShot_7 : decode cX2_parseShot 7 = .ok (.getfield 64, 3) := by decide +kernel
theorem dX2_parseShot_10 : decode cX2_parseShot 10 = .ok (.bipush 20, 2) := by decide +kernel
theorem dX2_parseShot_12 : decode cX2_parseShot 12 = .ok (.if_icmp .lt 10, 3) := by decide +kernel
theorem dX2_parseShot_15 : decode cX2_parseShot 15 = .ok (.aload_n 0, 1) := by decide +kernel
theorem dX2_parseShot_16 : decode cX2_parseShot 16 = .ok (.bipush 6, 2) := by decide +kernel
theorem dX2_parseShot_18 : decode cX2_parseShot 18 = .ok (.invokevirtual 69, 3) := by decide +kernel
theorem dX2_parseShot_21 : decode cX2_parseShot 21 = .ok (.ireturn, 1) := by decide +kernel
theorem dX2_parseShot_22 : decode cX2_parseShot 22 = .ok (.aload_n 0, 1) := by decide +kernel
theorem dX2_parseShot_23 : decode cX2_parseShot 23 = .ok (.invokevirtual 41, 3) := by decide +kernel
theorem dX2_parseShot_26 : decode cX2_parseShot 26 = .ok (.aload_n 0, 1) := by decide +kernel
theorem dX2_parseShot_27 : decode cX2_parseShot 27 = .ok (.iconst 0, 1) := by decide +kernel
theorem dX2_parseShot_28 : decode cX2_parseShot 28 = .ok (.bipush 9, 2) := by decide +kernel
theorem dX2_parseShot_30 : decode cX2_parseShot 30 = .ok (.invokevirtual 88, 3) := by decide +kernel
theorem dX2_parseShot_33 : decode cX2_parseShot 33 = .ok (.ifCond .ne 5, 3) := by decide +kernel
theorem dX2_parseShot_36 : decode cX2_parseShot 36 = .ok (.iconst 0, 1) := by decide +kernel
theorem dX2_parseShot_37 : decode cX2_parseShot 37 = .ok (.ireturn, 1) := by decide +kernel
theorem dX2_parseShot_38 : decode cX2_parseShot 38 = .ok (.aload_n 0, 1) := by decide +kernel
theorem dX2_parseShot_39 : decode cX2_parseShot 39 = .ok (.getfield 22, 3) := by decide +kernel
theorem dX2_parseShot_42 : decode cX2_parseShot 42 = .ok (.getfield 60, 3) := by decide +kernel
theorem dX2_parseShot_45 : decode cX2_parseShot 45 = .ok (.aload_n 0, 1) := by decide +kernel
theorem dX2_parseShot_46 : decode cX2_parseShot 46 = .ok (.getfield 123, 3) := by decide +kernel
theorem dX2_parseShot_49 : decode cX2_parseShot 49 = .ok (.invokevirtual 126, 3) := by decide +kernel
theorem dX2_parseShot_52 : decode cX2_parseShot 52 = .ok (.ifCond .ne 9, 3) := by decide +kernel
theorem dX2_parseShot_55 : decode cX2_parseShot 55 = .ok (.aload_n 0, 1) := by decide +kernel
theorem dX2_parseShot_56 : decode cX2_parseShot 56 = .ok (.iconst 4, 1) := by decide +kernel
theorem dX2_parseShot_57 : decode cX2_parseShot 57 = .ok (.invokevirtual 69, 3) := by decide +kernel
theorem dX2_parseShot_60 : decode cX2_parseShot 60 = .ok (.ireturn, 1) := by decide +kernel
theorem dX2_parseShot_61 : decode cX2_parseShot 61 = .ok (.aload_n 0, 1) := by decide +kernel
theorem dX2_parseShot_62 : decode cX2_parseShot 62 = .ok (.invokevirtual 92, 3) := by decide +kernel
theorem dX2_parseShot_65 : decode cX2_parseShot 65 = .ok (.istore_n 1, 1) := by decide +kernel
theorem dX2_parseShot_66 : decode cX2_parseShot 66 = .ok (.aload_n 0, 1) := by decide +kernel
theorem dX2_parseShot_67 : decode cX2_parseShot 67 = .ok (.ldc 129, 2) := by decide +kernel
theorem dX2_parseShot_69 : decode cX2_parseShot 69 = .ok (.invokevirtual 53, 3) := by decide +kernel
theorem dX2_parseShot_72 : decode cX2_parseShot 72 = .ok (.istore_n 2, 1) := by decide +kernel
theorem dX2_parseShot_73 : decode cX2_parseShot 73 = .ok (.iload_n 2, 1) := by decide +kernel
theorem dX2_parseShot_74 : decode cX2_parseShot 74 = .ok (.ifCond .ne 18, 3) := by decide +kernel
theorem dX2_parseShot_77 : decode cX2_parseShot 77 = .ok (.aload_n 0, 1) := by decide +kernel
theorem dX2_parseShot_78 : decode cX2_parseShot 78 = .ok (.ldc 131, 2) := by decide +kernel
theorem dX2_parseShot_80 : decode cX2_parseShot 80 = .ok (.invokevirtual 53, 3) := by decide +kernel
theorem dX2_parseShot_83 : decode cX2_parseShot 83 = .ok (.ifCond .ne 9, 3) := by decide +kernel
theorem dX2_parseShot_86 : decode cX2_parseShot 86 = .ok (.aload_n 0, 1) := by decide +kernel
theorem dX2_parseShot_87 : decode cX2_parseShot 87 = .ok (.iconst 1, 1) := by decide +kernel
theorem dX2_parseShot_88 : decode cX2_parseShot 88 = .ok (.invokevirtual 69, 3) := by decide +kernel
theorem dX2_parseShot_91 : decode cX2_parseShot 91 = .ok (.ireturn, 1) := by decide +kernel
theorem dX2_parseShot_92 : decode cX2_parseShot 92 = .ok (.aload_n 0, 1) := by decide +kernel
theorem dX2_parseShot_93 : decode cX2_parseShot 93 = .ok (.invokevirtual 41, 3) := by decide +kernel
theorem dX2_parseShot_96 : decode cX2_parseShot 96 = .ok (.aload_n 0, 1) := by decide +kernel
theorem dX2_parseShot_97 : decode cX2_parseShot 97 = .ok (.iconst 0, 1) := by decide +kernel
theorem dX2_parseShot_98 : decode cX2_parseShot 98 = .ok (.sipush 3999, 3) := by decide +kernel
theorem dX2_parseShot_101 : decode cX2_parseShot 101 = .ok (.invokevirtual 88, 3) := by decide +kernel
theorem dX2_parseShot_104 : decode cX2_parseShot 104 = .ok (.ifCond .ne 5, 3) := by decide +kernel
theorem dX2_parseShot_107 : decode cX2_parseShot 107 = .ok (.iconst 0, 1) := by decide +kernel
theorem dX2_parseShot_108 : decode cX2_parseShot 108 = .ok (.ireturn, 1) := by decide +kernel
theorem dX2_parseShot_109 : decode cX2_parseShot 109 = .ok (.aload_n 0, 1) := by decide +kernel
theorem dX2_parseShot_110 : decode cX2_parseShot 110 = .ok (.getfield 22, 3) := by decide +kernel
theorem dX2_parseShot_113 : decode cX2_parseShot 113 = .ok (.iload_n 1, 1) := by decide +kernel
theorem dX2_parseShot_114 : decode cX2_parseShot 114 = .ok (.aload_n 0, 1) := by decide +kernel
theorem dX2_parseShot_115 : decode cX2_parseShot 115 = .ok (.getfield 123, 3) := by decide +kernel
theorem dX2_parseShot_118 : decode cX2_parseShot 118 = .ok (.invokevirtual 133, 3) := by decide +kernel
theorem dX2_parseShot_121 : decode cX2_parseShot 121 = .ok (.ifCond .ne 9, 3) := by decide +kernel
theorem dX2_parseShot_124 : decode cX2_parseShot 124 = .ok (.aload_n 0, 1) := by decide +kernel
theorem dX2_parseShot_125 : decode cX2_parseShot 125 = .ok (.iconst 5, 1) := by decide +kernel
theorem dX2_parseShot_126 : decode cX2_parseShot 126 = .ok (.invokevirtual 69, 3) := by decide +kernel
theorem dX2_parseShot_129 : decode cX2_parseShot 129 = .ok (.ireturn, 1) := by decide +kernel
theorem dX2_parseShot_130 : decode cX2_parseShot 130 = .ok (.aload_n 0, 1) := by decide +kernel
theorem dX2_parseShot_131 : decode cX2_parseShot 131 = .ok (.getfield 22, 3) := by decide +kernel
theorem dX2_parseShot_134 : decode cX2_parseShot 134 = .ok (.getfield 120, 3) := by decide +kernel
theorem dX2_parseShot_137 : decode cX2_parseShot 137 = .ok (.aload_n 0, 1) := by decide +kernel
theorem dX2_parseShot_138 : decode cX2_parseShot 138 = .ok (.getfield 22, 3) := by decide +kernel
theorem dX2_parseShot_141 : decode cX2_parseShot 141 = .ok (.getfield 120, 3) := by decide +kernel
theorem dX2_parseShot_144 : decode cX2_parseShot 144 = .ok (.getfield 64, 3) := by decide +kernel
theorem dX2_parseShot_147 : decode cX2_parseShot 147 = .ok (.iload_n 1, 1) := by decide +kernel
theorem dX2_parseShot_148 : decode cX2_parseShot 148 = .ok (.iload_n 2, 1) := by decide +kernel
theorem dX2_parseShot_149 : decode cX2_parseShot 149 = .ok (.ifCond .eq 7, 3) := by decide +kernel
theorem dX2_parseShot_152 : decode cX2_parseShot 152 = .ok (.iconst 1, 1) := by decide +kernel
theorem dX2_parseShot_153 : decode cX2_parseShot 153 = .ok (.goto 4, 3) := by decide +kernel
theorem dX2_parseShot_156 : decode cX2_parseShot 156 = .ok (.iconst 0, 1) := by decide +kernel
theorem dX2_parseShot_157 : decode cX2_parseShot 157 = .ok (.aload_n 0, 1) := by decide +kernel
theorem dX2_parseShot_158 : decode cX2_parseShot 158 = .ok (.invokevirtual 92, 3) := by decide +kernel
theorem dX2_parseShot_161 : decode cX2_parseShot 161 = .ok (.invokevirtual 103, 3) := by decide +kernel
theorem dX2_parseShot_164 : decode cX2_parseShot 164 = .ok (.aload_n 0, 1) := by decide +kernel
theorem dX2_parseShot_165 : decode cX2_parseShot 165 = .ok (.invokevirtual 107, 3) := by decide +kernel
theorem dX2_parseShot_168 : decode cX2_parseShot 168 = .ok (.ireturn, 1) := by decide +kernel
theorem dX2_fail_0 : decode cX2_fail 0 = .ok (.aload_n 0, 1) := by decide +kernel
theorem dX2_fail_1 : decode cX2_fail 1 = .ok (.iload_n 1, 1) := by decide +kernel
theorem dX2_fail_2 : decode cX2_fail 2 = .ok (.putfield 9, 3) := by decide +kernel
theorem dX2_fail_5 : decode cX2_fail 5 = .ok (.aload_n 0, 1) := by decide +kernel
theorem dX2_fail_6 : decode cX2_fail 6 = .ok (.aload_n 0, 1) := by decide +kernel
theorem dX2_fail_7 : decode cX2_fail 7 = .ok (.getfield 136, 3) := by decide +kernel
theorem dX2_fail_10 : decode cX2_fail 10 = .ok (.putfield 15, 3) := by decide +kernel
theorem dX2_fail_13 : decode cX2_fail 13 = .ok (.iconst 0, 1) := by decide +kernel
theorem dX2_fail_14 : decode cX2_fail 14 = .ok (.ireturn, 1) := by decide +kernel
set_option maxRecDepth 20000 in
set_option maxRecDepth 100000 in
theorem ggX2_isWord_J0_length_8abf5 : GoodIn wsX2_isWord wsJ0_length_8abf5 := goodIn_r _ [9, 10, 11, 12, 13, 8, 14, 15, 16, 71, 72, 73, 74] rfl (by decide +kernel)
set_option maxRecDepth 20000 in
theorem gX2_isWord_J0_length_8abf5 : GoodIn wsX2_isWord (wsV RX2 139 RJ0 yJ0_length_8abf5 wsJ0_length_8abf5) := goodIn_app (goodIn_of _ (by decide +kernel)) ggX2_isWord_J0_length_8abf5
set_option maxRecDepth 20000 in
set_option maxRecDepth 100000 in
theorem ggX2_isWord_X0_get : GoodIn wsX2_isWord wsX0_get := goodIn_r _ [21, 22, 23, 75, 76] rfl (by decide +kernel)
set_option maxRecDepth 20000 in
theorem gX2_isWord_X0_get : GoodIn wsX2_isWord (wsV RX2 144 RX0 yX0_get wsX0_get) := goodIn_app (goodIn_of _ (by decide +kernel)) ggX2_isWord_X0_get
set_option maxRecDepth 20000 in
set_option maxRecDepth 100000 in
theorem ggX2_isWord_J0_charAt_5068e : GoodIn wsX2_isWord wsJ0_charAt_5068e := goodIn_r _ [27, 10, 28, 29, 30, 8, 31, 15, 16, 32, 33, 34, 35, 36, 37, 38, 39, 40, 41, 42, 43, 44, 45, 46, 47, 48, 49, 50, 51, 52, 53, 54, 55, 56, 57, 58, 59, 60, 71, 72, 73, 74] rfl (by decide +kernel)
set_option maxRecDepth 20000 in
theorem gX2_isWord_J0_charAt_5068e : GoodIn wsX2_isWord (wsV RX2 150 RJ0 yJ0_charAt_5068e wsJ0_charAt_5068e) := goodIn_app (goodIn_of _ (by decide +kernel)) ggX2_isWord_J0_charAt_5068e
theorem dX2_isWord_0 : decode cX2_isWord 0 = .ok (.aload_n 0, 1) := by decide +kernel
theorem dX2_isWord_1 : decode cX2_isWord 1 = .ok (.getfield 48, 3) := by decide +kernel
theorem dX2_isWord_4 : decode cX2_isWord 4 = .ok (.iconst 1, 1) := by decide +kernel
theorem dX2_isWord_5 : decode cX2_isWord 5 = .ok (.if_icmp .ne 19, 3) := by decide +kernel
theorem dX2_isWord_8 : decode cX2_isWord 8 = .ok (.aload_n 0, 1) := by decide +kernel
theorem dX2_isWord_9 : decode cX2_isWord 9 = .ok (.getfield 31, 3) := by decide +kernel
theorem dX2_isWord_12 : decode cX2_isWord 12 = .ok (.aload_n 0, 1) := by decide +kernel
theorem dX2_isWord_13 : decode cX2_isWord 13 = .ok (.getfield 136, 3) := by decide +kernel
theorem dX2_isWord_16 : decode cX2_isWord 16 = .ok (.isub, 1) := by decide +kernel
theorem dX2_isWord_17 : decode cX2_isWord 17 = .ok (.aload_n 1, 1) := by decide +kernel
theorem dX2_isWord_18 : decode cX2_isWord 18 = .ok (.invokevirtual 139, 3) := by decide +kernel
theorem dX2_isWord_21 : decode cX2_isWord 21 = .ok (.if_icmp .eq 5, 3) := by decide +kernel
theorem dX2_isWord_24 : decode cX2_isWord 24 = .ok (.iconst 0, 1) := by decide +kernel
theorem dX2_isWord_25 : decode cX2_isWord 25 = .ok (.ireturn, 1) := by decide +kernel
theorem dX2_isWord_26 : decode cX2_isWord 26 = .ok (.iconst 0, 1) := by decide +kernel
theorem dX2_isWord_27 : decode cX2_isWord 27 = .ok (.istore_n 2, 1) := by decide +kernel
theorem dX2_isWord_28 : decode cX2_isWord 28 = .ok (.iload_n 2, 1) := by decide +kernel
theorem dX2_isWord_29 : decode cX2_isWord 29 = .ok (.aload_n 1, 1) := by decide +kernel
theorem dX2_isWord_30 : decode cX2_isWord 30 = .ok (.invokevirtual 139, 3) := by decide +kernel
theorem dX2_isWord_33 : decode cX2_isWord 33 = .ok (.if_icmp .ge 32, 3) := by decide +kernel
theorem dX2_isWord_36 : decode cX2_isWord 36 = .ok (.aload_n 0, 1) := by decide +kernel
theorem dX2_isWord_37 : decode cX2_isWord 37 = .ok (.getfield 18, 3) := by decide +kernel
theorem dX2_isWord_40 : decode cX2_isWord 40 = .ok (.aload_n 0, 1) := by decide +kernel
theorem dX2_isWord_41 : decode cX2_isWord 41 = .ok (.getfield 136, 3) := by decide +kernel
theorem dX2_isWord_44 : decode cX2_isWord 44 = .ok (.iload_n 2, 1) := by decide +kernel
theorem dX2_isWord_45 : decode cX2_isWord 45 = .ok (.iadd, 1) := by decide +kernel
theorem dX2_isWord_46 : decode cX2_isWord 46 = .ok (.invokevirtual 144, 3) := by decide +kernel
theorem dX2_isWord_49 : decode cX2_isWord 49 = .ok (.aload_n 1, 1) := by decide +kernel
theorem dX2_isWord_50 : decode cX2_isWord 50 = .ok (.iload_n 2, 1) := by decide +kernel
theorem dX2_isWord_51 : decode cX2_isWord 51 = .ok (.invokevirtual 150, 3) := by decide +kernel
theorem dX2_isWord_54 : decode cX2_isWord 54 = .ok (.if_icmp .eq 5, 3) := by decide +kernel
theorem dX2_isWord_57 : decode cX2_isWord 57 = .ok (.iconst 0, 1) := by decide +kernel
theorem dX2_isWord_58 : decode cX2_isWord 58 = .ok (.ireturn, 1) := by decide +kernel
theorem dX2_isWord_59 : decode cX2_isWord 59 = .ok (.iinc 2 1, 3) := by decide +kernel
theorem dX2_isWord_62 : decode cX2_isWord 62 = .ok (.goto (-34), 3) := by decide +kernel
theorem dX2_isWord_65 : decode cX2_isWord 65 = .ok (.iconst 1, 1) := by decide +kernel
theorem dX2_isWord_66 : decode cX2_isWord 66 = .ok (.ireturn, 1) := by decide +kernel
set_option maxRecDepth 20000 in
set_option maxRecDepth 100000 in
theorem ggX2_isNumber_X2_fail : GoodIn wsX2_isNumber wsX2_fail := goodIn_r _ [7, 8, 9, 10, 11, 12, 13, 14, 15, 16, 17, 18, 19, 20] rfl (by decide +kernel)
set_option maxRecDepth 20000 in
theorem gX2_isNumber_X2_fail : GoodIn wsX2_isNumber (wsV RX2 69 RX2 yX2_fail wsX2_fail) := goodIn_app (goodIn_of _ (by decide +kernel)) ggX2_isNumber_X2_fail
theorem dX2_isNumber_0 : decode cX2_isNumber 0 = .ok (.aload_n 0, 1) := by decide +kernel
theorem dX2_isNumber_1 : decode cX2_isNumber 1 = .ok (.getfield 48, 3) := by decide +kernel
theorem dX2_isNumber_4 : decode cX2_isNumber 4 = .ok (.iconst 2, 1) := by decide +kernel
theorem dX2_isNumber_5 : decode cX2_isNumber 5 = .ok (.if_icmp .eq 9, 3) := by decide +kernel
theorem dX2_isNumber_8 : decode cX2_isNumber 8 = .ok (.aload_n 0, 1) := by decide +kernel
theorem dX2_isNumber_9 : decode cX2_isNumber 9 = .ok (.iconst 1, 1) := by decide +kernel
theorem dX2_isNumber_10 : decode cX2_isNumber 10 = .ok (.invokevirtual 69, 3) := by decide +kernel
theorem dX2_isNumber_13 : decode cX2_isNumber 13 = .ok (.ireturn, 1) := by decide +kernel
theorem dX2_isNumber_14 : decode cX2_isNumber 14 = .ok (.aload_n 0, 1) := by decide +kernel
theorem dX2_isNumber_15 : decode cX2_isNumber 15 = .ok (.getfield 123, 3) := by decide +kernel
theorem dX2_isNumber_18 : decode cX2_isNumber 18 = .ok (.iload_n 1, 1) := by decide +kernel
theorem dX2_isNumber_19 : decode cX2_isNumber 19 = .ok (.if_icmp .lt 11, 3) := by decide +kernel
theorem dX2_isNumber_22 : decode cX2_isNumber 22 = .ok (.aload_n 0, 1) := by decide +kernel
theorem dX2_isNumber_23 : decode cX2_isNumber 23 = .ok (.getfield 123, 3) := by decide +kernel
theorem dX2_isNumber_26 : decode cX2_isNumber 26 = .ok (.iload_n 2, 1) := by decide +kernel
theorem dX2_isNumber_27 : decode cX2_isNumber 27 = .ok (.if_icmp .le 11, 3) := by decide +kernel
theorem dX2_isNumber_30 : decode cX2_isNumber 30 = .ok (.aload_n 0, 1) := by decide +kernel
theorem dX2_isNumber_31 : decode cX2_isNumber 31 = .ok (.iconst 2, 1) := by decide +kernel
theorem dX2_isNumber_32 : decode cX2_isNumber 32 = .ok (.invokevirtual 69, 3) := by decide +kernel
theorem dX2_isNumber_35 : decode cX2_isNumber 35 = .ok (.ifCond .eq 7, 3) := by decide +kernel
theorem dX2_isNumber_38 : decode cX2_isNumber 38 = .ok (.iconst 1, 1) := by decide +kernel
theorem dX2_isNumber_39 : decode cX2_isNumber 39 = .ok (.goto 4, 3) := by decide +kernel
theorem dX2_isNumber_42 : decode cX2_isNumber 42 = .ok (.iconst 0, 1) := by decide +kernel
theorem dX2_isNumber_43 : decode cX2_isNumber 43 = .ok (.ireturn, 1) := by decide +kernel
set_option maxRecDepth 20000 in
set_option maxRecDepth 100000 in
theorem ggX2_takeNumber_X2_readToken : GoodIn wsX2_takeNumber wsX2_readToken := goodIn_r _ [6, 7, 8, 9, 10, 11, 1, 12, 13, 14, 15, 16, 17, 18, 19, 20, 21, 22, 23, 24, 25, 5, 26, 27, 28, 29, 30, 31, 32, 33, 34, 35, 36, 37, 38, 39, 40, 41, 42, 43, 44] rfl (by decide +kernel)
set_option maxRecDepth 20000 in
theorem gX2_takeNumber_X2_readToken : GoodIn wsX2_takeNumber (wsV RX2 41 RX2 yX2_readToken wsX2_readToken) := goodIn_app (goodIn_of _ (by decide +kernel)) ggX2_takeNumber_X2_readToken
theorem dX2_takeNumber_0 : decode cX2_takeNumber 0 = .ok (.aload_n 0, 1) := by decide +kernel
theorem dX2_takeNumber_1 : decode cX2_takeNumber 1 = .ok (.getfield 123, 3) := by decide +kernel
theorem dX2_takeNumber_4 : decode cX2_takeNumber 4 = .ok (.istore_n 1, 1) := by decide +kernel
theorem dX2_takeNumber_5 : decode cX2_takeNumber 5 = .ok (.aload_n 0, 1) := by decide +kernel
theorem dX2_takeNumber_6 : decode cX2_takeNumber 6 = .ok (.invokevirtual 41, 3) := by decide +kernel
theorem dX2_takeNumber_9 : decode cX2_takeNumber 9 = .ok (.iload_n 1, 1) := by decide +kernel
theorem dX2_takeNumber_10 : decode cX2_takeNumber 10 = .ok (.ireturn, 1) := by decide +kernel
set_option maxRecDepth 20000 in
set_option maxRecDepth 100000 in
theorem ggX2_takeWord_X2_isWord : GoodIn wsX2_takeWord wsX2_isWord := goodIn_r _ [5, 6, 7, 8, 9, 10, 11, 12, 13, 14, 15, 16, 17, 18, 19, 20, 21, 22, 23, 24, 25, 26, 27, 28, 29, 30, 31, 32, 33, 34, 35, 36, 37, 38, 39, 40, 41, 42, 43, 44, 45, 46, 47, 48, 49, 50, 51, 52, 53, 54, 55, 56, 57, 58, 59, 60, 61, 62, 63, 64, 65, 92, 93, 94, 95, 96, 97, 98, 99, 100, 101, 102, 103, 104, 105, 106, 107] rfl (by decide +kernel)
set_option maxRecDepth 20000 in
theorem gX2_takeWord_X2_isWord : GoodIn wsX2_takeWord (wsV RX2 53 RX2 yX2_isWord wsX2_isWord) := goodIn_app (goodIn_of _ (by decide +kernel)) ggX2_takeWord_X2_isWord
set_option maxRecDepth 20000 in
set_option maxRecDepth 100000 in
theorem ggX2_takeWord_X2_fail : GoodIn wsX2_takeWord wsX2_fail := goodIn_r _ [69, 70, 8, 71, 92, 93, 94, 95, 96, 97, 98, 99, 100, 101] rfl (by decide +kernel)
set_option maxRecDepth 20000 in
theorem gX2_takeWord_X2_fail : GoodIn wsX2_takeWord (wsV RX2 69 RX2 yX2_fail wsX2_fail) := goodIn_app (goodIn_of _ (by decide +kernel)) ggX2_takeWord_X2_fail
set_option maxRecDepth 20000 in
set_option maxRecDepth 100000 in
theorem ggX2_takeWord_X2_readToken : GoodIn wsX2_takeWord wsX2_readToken := goodIn_r _ [75, 7, 9, 76, 8, 6, 77, 78, 79, 80, 81, 82, 22, 23, 24, 25, 26, 27, 28, 83, 84, 4, 85, 86, 87, 88, 89, 90, 91, 92, 93, 94, 95, 96, 97, 98, 99, 100, 101, 106, 107] rfl (by decide +kernel)
set_option maxRecDepth 20000 in
theorem gX2_takeWord_X2_readToken : GoodIn wsX2_takeWord (wsV RX2 41 RX2 yX2_readToken wsX2_readToken) := goodIn_app (goodIn_of _ (by decide +kernel)) ggX2_takeWord_X2_readToken
theorem dX2_takeWord_0 : decode cX2_takeWord 0 = .ok (.aload_n 0, 1) := by decide +kernel
theorem dX2_takeWord_1 : decode cX2_takeWord 1 = .ok (.aload_n 1, 1) := by decide +kernel
theorem dX2_takeWord_2 : decode cX2_takeWord 2 = .ok (.invokevirtual 53, 3) := by decide +kernel
theorem dX2_takeWord_5 : decode cX2_takeWord 5 = .ok (.ifCond .ne 9, 3) := by decide +kernel
theorem dX2_takeWord_8 : decode cX2_takeWord 8 = .ok (.aload_n 0, 1) := by decide +kernel
theorem dX2_takeWord_9 : decode cX2_takeWord 9 = .ok (.iconst 1, 1) := by decide +kernel
theorem dX2_takeWord_10 : decode cX2_takeWord 10 = .ok (.invokevirtual 69, 3) := by decide +kernel
theorem dX2_takeWord_13 : decode cX2_takeWord 13 = .ok (.ireturn, 1) := by decide +kernel
theorem dX2_takeWord_14 : decode cX2_takeWord 14 = .ok (.aload_n 0, 1) := by decide +kernel
theorem dX2_takeWord_15 : decode cX2_takeWord 15 = .ok (.invokevirtual 41, 3) := by decide +kernel
theorem dX2_takeWord_18 : decode cX2_takeWord 18 = .ok (.iconst 1, 1) := by decide +kernel
theorem dX2_takeWord_19 : decode cX2_takeWord 19 = .ok (.ireturn, 1) := by decide +kernel
set_option maxRecDepth 20000 in
set_option maxRecDepth 100000 in
theorem ggX2_takeSemicolon_X0_get : GoodIn wsX2_takeSemicolon wsX0_get := goodIn_r _ [8, 9, 10, 49, 50] rfl (by decide +kernel)
set_option maxRecDepth 20000 in
theorem gX2_takeSemicolon_X0_get : GoodIn wsX2_takeSemicolon (wsV RX2 144 RX0 yX0_get wsX0_get) := goodIn_app (goodIn_of _ (by decide +kernel)) ggX2_takeSemicolon_X0_get
set_option maxRecDepth 20000 in
set_option maxRecDepth 100000 in
theorem ggX2_takeSemicolon_X2_fail : GoodIn wsX2_takeSemicolon wsX2_fail := goodIn_r _ [15, 16, 3, 17, 39, 40, 41, 42, 43, 44, 45, 46, 47, 48] rfl (by decide +kernel)
set_option maxRecDepth 20000 in
theorem gX2_takeSemicolon_X2_fail : GoodIn wsX2_takeSemicolon (wsV RX2 69 RX2 yX2_fail wsX2_fail) := goodIn_app (goodIn_of _ (by decide +kernel)) ggX2_takeSemicolon_X2_fail
set_option maxRecDepth 20000 in
set_option maxRecDepth 100000 in
theorem ggX2_takeSemicolon_X2_readToken : GoodIn wsX2_takeSemicolon wsX2_readToken := goodIn_r _ [21, 22, 2, 23, 3, 1, 24, 25, 26, 27, 28, 29, 4, 5, 6, 7, 8, 9, 10, 30, 31, 14, 32, 33, 34, 35, 36, 37, 38, 39, 40, 41, 42, 43, 44, 45, 46, 47, 48, 49, 50] rfl (by decide +kernel)
set_option maxRecDepth 20000 in
theorem gX2_takeSemicolon_X2_readToken : GoodIn wsX2_takeSemicolon (wsV RX2 41 RX2 yX2_readToken wsX2_readToken) := goodIn_app (goodIn_of _ (by decide +kernel)) ggX2_takeSemicolon_X2_readToken
theorem dX2_takeSemicolon_0 : decode cX2_takeSemicolon 0 = .ok (.aload_n 0, 1) := by decide +kernel
theorem dX2_takeSemicolon_1 : decode cX2_takeSemicolon 1 = .ok (.getfield 48, 3) := by decide +kernel
theorem dX2_takeSemicolon_4 : decode cX2_takeSemicolon 4 = .ok (.iconst 3, 1) := by decide +kernel
theorem dX2_takeSemicolon_5 : decode cX2_takeSemicolon 5 = .ok (.if_icmp .ne 19, 3) := by decide +kernel
theorem dX2_takeSemicolon_8 : decode cX2_takeSemicolon 8 = .ok (.aload_n 0, 1) := by decide +kernel
theorem dX2_takeSemicolon_9 : decode cX2_takeSemicolon 9 = .ok (.getfield 18, 3) := by decide +kernel
theorem dX2_takeSemicolon_12 : decode cX2_takeSemicolon 12 = .ok (.aload_n 0, 1) := by decide +kernel
theorem dX2_takeSemicolon_13 : decode cX2_takeSemicolon 13 = .ok (.getfield 136, 3) := by decide +kernel
theorem dX2_takeSemicolon_16 : decode cX2_takeSemicolon 16 = .ok (.invokevirtual 144, 3) := by decide +kernel
theorem dX2_takeSemicolon_19 : decode cX2_takeSemicolon 19 = .ok (.bipush 59, 2) := by decide +kernel
theorem dX2_takeSemicolon_21 : decode cX2_takeSemicolon 21 = .ok (.if_icmp .eq 9, 3) := by decide +kernel
theorem dX2_takeSemicolon_24 : decode cX2_takeSemicolon 24 = .ok (.aload_n 0, 1) := by decide +kernel
theorem dX2_takeSemicolon_25 : decode cX2_takeSemicolon 25 = .ok (.iconst 1, 1) := by decide +kernel
theorem dX2_takeSemicolon_26 : decode cX2_takeSemicolon 26 = .ok (.invokevirtual 69, 3) := by decide +kernel
theorem dX2_takeSemicolon_29 : decode cX2_takeSemicolon 29 = .ok (.ireturn, 1) := by decide +kernel
theorem dX2_takeSemicolon_30 : decode cX2_takeSemicolon 30 = .ok (.aload_n 0, 1) := by decide +kernel
theorem dX2_takeSemicolon_31 : decode cX2_takeSemicolon 31 = .ok (.invokevirtual 41, 3) := by decide +kernel
theorem dX2_takeSemicolon_34 : decode cX2_takeSemicolon 34 = .ok (.iconst 1, 1) := by decide +kernel
theorem dX2_takeSemicolon_35 : decode cX2_takeSemicolon 35 = .ok (.ireturn, 1) := by decide +kernel
set_option maxRecDepth 20000 in
set_option maxRecDepth 100000 in
theorem ggX2_readToken_X0_get : GoodIn wsX2_readToken wsX0_get := goodIn_r _ [16, 17, 18, 39, 40] rfl (by decide +kernel)
set_option maxRecDepth 20000 in
theorem gX2_readToken_X0_get : GoodIn wsX2_readToken (wsV RX2 144 RX0 yX0_get wsX0_get) := goodIn_app (goodIn_of _ (by decide +kernel)) ggX2_readToken_X0_get
set_option maxRecDepth 20000 in
set_option maxRecDepth 100000 in
theorem ggX2_readToken_X2_isBlank : GoodIn wsX2_readToken wsX2_isBlank := goodIn_r _ [22] rfl (by decide +kernel)
set_option maxRecDepth 20000 in
theorem gX2_readToken_X2_isBlank : GoodIn wsX2_readToken (va_wsS RX2 156 yX2_isBlank wsX2_isBlank) := goodIn_app (goodIn_of _ (by decide +kernel)) ggX2_readToken_X2_isBlank
set_option maxRecDepth 20000 in
set_option maxRecDepth 100000 in
theorem ggX2_readToken_X2_isLetter : GoodIn wsX2_readToken wsX2_isLetter := goodIn_r _ [25] rfl (by decide +kernel)
set_option maxRecDepth 20000 in
theorem gX2_readToken_X2_isLetter : GoodIn wsX2_readToken (va_wsS RX2 159 yX2_isLetter wsX2_isLetter) := goodIn_app (goodIn_of _ (by decide +kernel)) ggX2_readToken_X2_isLetter
set_option maxRecDepth 20000 in
set_option maxRecDepth 100000 in
theorem ggX2_readToken_X2_isDigit : GoodIn wsX2_readToken wsX2_isDigit := goodIn_r _ [28] rfl (by decide +kernel)
set_option maxRecDepth 20000 in
theorem gX2_readToken_X2_isDigit : GoodIn wsX2_readToken (va_wsS RX2 162 yX2_isDigit wsX2_isDigit) := goodIn_app (goodIn_of _ (by decide +kernel)) ggX2_readToken_X2_isDigit
theorem dX2_readToken_0 : decode cX2_readToken 0 = .ok (.aload_n 0, 1) := by decide +kernel
theorem dX2_readToken_1 : decode cX2_readToken 1 = .ok (.getfield 31, 3) := by decide +kernel
theorem dX2_readToken_4 : decode cX2_readToken 4 = .ok (.aload_n 0, 1) := by decide +kernel
theorem dX2_readToken_5 : decode cX2_readToken 5 = .ok (.getfield 18, 3) := by decide +kernel
theorem dX2_readToken_8 : decode cX2_readToken 8 = .ok (.getfield 154, 3) := by decide +kernel
theorem dX2_readToken_11 : decode cX2_readToken 11 = .ok (.if_icmp .ge 33, 3) := by decide +kernel
theorem dX2_readToken_14 : decode cX2_readToken 14 = .ok (.aload_n 0, 1) := by decide +kernel
theorem dX2_readToken_15 : decode cX2_readToken 15 = .ok (.getfield 18, 3) := by decide +kernel
theorem dX2_readToken_18 : decode cX2_readToken 18 = .ok (.aload_n 0, 1) := by decide +kernel
theorem dX2_readToken_19 : decode cX2_readToken 19 = .ok (.getfield 31, 3) := by decide +kernel
theorem dX2_readToken_22 : decode cX2_readToken 22 = .ok (.invokevirtual 144, 3) := by decide +kernel
theorem dX2_readToken_25 : decode cX2_readToken 25 = .ok (.invokestatic 156, 3) := by decide +kernel
theorem dX2_readToken_28 : decode cX2_readToken 28 = .ok (.ifCond .eq 16, 3) := by decide +kernel
theorem dX2_readToken_31 : decode cX2_readToken 31 = .ok (.aload_n 0, 1) := by decide +kernel
theorem dX2_readToken_32 : decode cX2_readToken 32 = .ok (.dup, 1) := by decide +kernel
theorem dX2_readToken_33 : decode cX2_readToken 33 = .ok (.getfield 31, 3) := by decide +kernel
theorem dX2_readToken_36 : decode cX2_readToken 36 = .ok (.iconst 1, 1) := by decide +kernel
theorem dX2_readToken_37 : decode cX2_readToken 37 = .ok (.iadd, 1) := by decide +kernel
theorem dX2_readToken_38 : decode cX2_readToken 38 = .ok (.putfield 31, 3) := by decide +kernel
theorem dX2_readToken_41 : decode cX2_readToken 41 = .ok (.goto (-41), 3) := by decide +kernel
theorem dX2_readToken_44 : decode cX2_readToken 44 = .ok (.aload_n 0, 1) := by decide +kernel
theorem dX2_readToken_45 : decode cX2_readToken 45 = .ok (.aload_n 0, 1) := by decide +kernel
theorem dX2_readToken_46 : decode cX2_readToken 46 = .ok (.getfield 31, 3) := by decide +kernel
theorem dX2_readToken_49 : decode cX2_readToken 49 = .ok (.putfield 136, 3) := by decide +kernel
theorem dX2_readToken_52 : decode cX2_readToken 52 = .ok (.aload_n 0, 1) := by decide +kernel
theorem dX2_readToken_53 : decode cX2_readToken 53 = .ok (.getfield 18, 3) := by decide +kernel
theorem dX2_readToken_56 : decode cX2_readToken 56 = .ok (.aload_n 0, 1) := by decide +kernel
theorem dX2_readToken_57 : decode cX2_readToken 57 = .ok (.getfield 31, 3) := by decide +kernel
theorem dX2_readToken_60 : decode cX2_readToken 60 = .ok (.invokevirtual 144, 3) := by decide +kernel
theorem dX2_readToken_63 : decode cX2_readToken 63 = .ok (.istore_n 1, 1) := by decide +kernel
theorem dX2_readToken_64 : decode cX2_readToken 64 = .ok (.iload_n 1, 1) := by decide +kernel
theorem dX2_readToken_65 : decode cX2_readToken 65 = .ok (.iconst (-1), 1) := by decide +kernel
theorem dX2_readToken_66 : decode cX2_readToken 66 = .ok (.if_icmp .ne 11, 3) := by decide +kernel
theorem dX2_readToken_69 : decode cX2_readToken 69 = .ok (.aload_n 0, 1) := by decide +kernel
theorem dX2_readToken_70 : decode cX2_readToken 70 = .ok (.iconst 0, 1) := by decide +kernel
theorem dX2_readToken_71 : decode cX2_readToken 71 = .ok (.putfield 48, 3) := by decide +kernel
theorem dX2_readToken_74 : decode cX2_readToken 74 = .ok (.goto 166, 3) := by decide +kernel
theorem dX2_readToken_77 : decode cX2_readToken 77 = .ok (.iload_n 1, 1) := by decide +kernel
theorem dX2_readToken_78 : decode cX2_readToken 78 = .ok (.invokestatic 159, 3) := by decide +kernel
theorem dX2_readToken_81 : decode cX2_readToken 81 = .ok (.ifCond .eq 52, 3) := by decide +kernel
theorem dX2_readToken_84 : decode cX2_readToken 84 = .ok (.aload_n 0, 1) := by decide +kernel
theorem dX2_readToken_85 : decode cX2_readToken 85 = .ok (.iconst 1, 1) := by decide +kernel
theorem dX2_readToken_86 : decode cX2_readToken 86 = .ok (.putfield 48, 3) := by decide +kernel
theorem dX2_readToken_89 : decode cX2_readToken 89 = .ok (.aload_n 0, 1) := by decide +kernel
theorem dX2_readToken_90 : decode cX2_readToken 90 = .ok (.getfield 31, 3) := by decide +kernel
theorem dX2_readToken_93 : decode cX2_readToken 93 = .ok (.aload_n 0, 1) := by decide +kernel
theorem dX2_readToken_94 : decode cX2_readToken 94 = .ok (.getfield 18, 3) := by decide +kernel
theorem dX2_readToken_97 : decode cX2_readToken 97 = .ok (.getfield 154, 3) := by decide +kernel
theorem dX2_readToken_100 : decode cX2_readToken 100 = .ok (.if_icmp .ge 140, 3) := by decide +kernel
theorem dX2_readToken_103 : decode cX2_readToken 103 = .ok (.aload_n 0, 1) := by decide +kernel
theorem dX2_readToken_104 : decode cX2_readToken 104 = .ok (.getfield 18, 3) := by decide +kernel
theorem dX2_readToken_107 : decode cX2_readToken 107 = .ok (.aload_n 0, 1) := by decide +kernel
theorem dX2_readToken_108 : decode cX2_readToken 108 = .ok (.getfield 31, 3) := by decide +kernel
theorem dX2_readToken_111 : decode cX2_readToken 111 = .ok (.invokevirtual 144, 3) := by decide +kernel
theorem dX2_readToken_114 : decode cX2_readToken 114 = .ok (.invokestatic 159, 3) := by decide +kernel
theorem dX2_readToken_117 : decode cX2_readToken 117 = .ok (.ifCond .eq 123, 3) := by decide +kernel
theorem dX2_readToken_120 : decode cX2_readToken 120 = .ok (.aload_n 0, 1) := by decide +kernel
theorem dX2_readToken_121 : decode cX2_readToken 121 = .ok (.dup, 1) := by decide +kernel
theorem dX2_readToken_122 : decode cX2_readToken 122 = .ok (.getfield 31, 3) := by decide +kernel
theorem dX2_readToken_125 : decode cX2_readToken 125 = .ok (.iconst 1, 1) := by decide +kernel
theorem dX2_readToken_126 : decode cX2_readToken 126 = .ok (.iadd, 1) := by decide +kernel
theorem dX2_readToken_127 : decode cX2_readToken 127 = .ok (.putfield 31, 3) := by decide +kernel
theorem dX2_readToken_130 : decode cX2_readToken 130 = .ok (.goto (-41), 3) := by decide +kernel
theorem dX2_readToken_133 : decode cX2_readToken 133 = .ok (.iload_n 1, 1) := by decide +kernel
theorem dX2_readToken_134 : decode cX2_readToken 134 = .ok (.invokestatic 162, 3) := by decide +kernel
theorem dX2_readToken_137 : decode cX2_readToken 137 = .ok (.ifCond .eq 88, 3) := by decide +kernel
theorem dX2_readToken_140 : decode cX2_readToken 140 = .ok (.aload_n 0, 1) := by decide +kernel
theorem dX2_readToken_141 : decode cX2_readToken 141 = .ok (.iconst 2, 1) := by decide +kernel
theorem dX2_readToken_142 : decode cX2_readToken 142 = .ok (.putfield 48, 3) := by decide +kernel
theorem dX2_readToken_145 : decode cX2_readToken 145 = .ok (.aload_n 0, 1) := by decide +kernel
theorem dX2_readToken_146 : decode cX2_readToken 146 = .ok (.iconst 0, 1) := by decide +kernel
theorem dX2_readToken_147 : decode cX2_readToken 147 = .ok (.putfield 123, 3) := by decide +kernel
theorem dX2_readToken_150 : decode cX2_readToken 150 = .ok (.aload_n 0, 1) := by decide +kernel
theorem dX2_readToken_151 : decode cX2_readToken 151 = .ok (.getfield 31, 3) := by decide +kernel
theorem dX2_readToken_154 : decode cX2_readToken 154 = .ok (.aload_n 0, 1) := by decide +kernel
theorem dX2_readToken_155 : decode cX2_readToken 155 = .ok (.getfield 18, 3) := by decide +kernel
theorem dX2_readToken_158 : decode cX2_readToken 158 = .ok (.getfield 154, 3) := by decide +kernel
theorem dX2_readToken_161 : decode cX2_readToken 161 = .ok (.if_icmp .ge 79, 3) := by decide +kernel
theorem dX2_readToken_164 : decode cX2_readToken 164 = .ok (.aload_n 0, 1) := by decide +kernel
theorem dX2_readToken_165 : decode cX2_readToken 165 = .ok (.getfield 18, 3) := by decide +kernel
theorem dX2_readToken_168 : decode cX2_readToken 168 = .ok (.aload_n 0, 1) := by decide +kernel
theorem dX2_readToken_169 : decode cX2_readToken 169 = .ok (.getfield 31, 3) := by decide +kernel
theorem dX2_readToken_172 : decode cX2_readToken 172 = .ok (.invokevirtual 144, 3) := by decide +kernel
theorem dX2_readToken_175 : decode cX2_readToken 175 = .ok (.invokestatic 162, 3) := by decide +kernel
theorem dX2_readToken_178 : decode cX2_readToken 178 = .ok (.ifCond .eq 62, 3) := by decide +kernel
theorem dX2_readToken_181 : decode cX2_readToken 181 = .ok (.aload_n 0, 1) := by decide +kernel
theorem dX2_readToken_182 : decode cX2_readToken 182 = .ok (.ldc 165, 2) := by decide +kernel
theorem dX2_readToken_184 : decode cX2_readToken 184 = .ok (.aload_n 0, 1) := by decide +kernel
theorem dX2_readToken_185 : decode cX2_readToken 185 = .ok (.getfield 123, 3) := by decide +kernel
theorem dX2_readToken_188 : decode cX2_readToken 188 = .ok (.bipush 10, 2) := by decide +kernel
theorem dX2_readToken_190 : decode cX2_readToken 190 = .ok (.imul, 1) := by decide +kernel
theorem dX2_readToken_191 : decode cX2_readToken 191 = .ok (.aload_n 0, 1) := by decide +kernel
theorem dX2_readToken_192 : decode cX2_readToken 192 = .ok (.getfield 18, 3) := by decide +kernel
theorem dX2_readToken_195 : decode cX2_readToken 195 = .ok (.aload_n 0, 1) := by decide +kernel
theorem dX2_readToken_196 : decode cX2_readToken 196 = .ok (.getfield 31, 3) := by decide +kernel
theorem dX2_readToken_199 : decode cX2_readToken 199 = .ok (.invokevirtual 144, 3) := by decide +kernel
theorem dX2_readToken_202 : decode cX2_readToken 202 = .ok (.iadd, 1) := by decide +kernel
theorem dX2_readToken_203 : decode cX2_readToken 203 = .ok (.bipush 48, 2) := by decide +kernel
theorem dX2_readToken_205 : decode cX2_readToken 205 = .ok (.isub, 1) := by decide +kernel
theorem dX2_readToken_206 : decode cX2_readToken 206 = .ok (.invokestatic 166, 3) := by decide +kernel
theorem dX2_readToken_209 : decode cX2_readToken 209 = .ok (.putfield 123, 3) := by decide +kernel
theorem dX2_readToken_212 : decode cX2_readToken 212 = .ok (.aload_n 0, 1) := by decide +kernel
theorem dX2_readToken_213 : decode cX2_readToken 213 = .ok (.dup, 1) := by decide +kernel
theorem dX2_readToken_214 : decode cX2_readToken 214 = .ok (.getfield 31, 3) := by decide +kernel
theorem dX2_readToken_217 : decode cX2_readToken 217 = .ok (.iconst 1, 1) := by decide +kernel
theorem dX2_readToken_218 : decode cX2_readToken 218 = .ok (.iadd, 1) := by decide +kernel
theorem dX2_readToken_219 : decode cX2_readToken 219 = .ok (.putfield 31, 3) := by decide +kernel
theorem dX2_readToken_222 : decode cX2_readToken 222 = .ok (.goto (-72), 3) := by decide +kernel
theorem dX2_readToken_225 : decode cX2_readToken 225 = .ok (.aload_n 0, 1) := by decide +kernel
theorem dX2_readToken_226 : decode cX2_readToken 226 = .ok (.iconst 3, 1) := by decide +kernel
theorem dX2_readToken_227 : decode cX2_readToken 227 = .ok (.putfield 48, 3) := by decide +kernel
theorem dX2_readToken_230 : decode cX2_readToken 230 = .ok (.aload_n 0, 1) := by decide +kernel
theorem dX2_readToken_231 : decode cX2_readToken 231 = .ok (.dup, 1) := by decide +kernel
theorem dX2_readToken_232 : decode cX2_readToken 232 = .ok (.getfield 31, 3) := by decide +kernel
theorem dX2_readToken_235 : decode cX2_readToken 235 = .ok (.iconst 1, 1) := by decide +kernel
theorem dX2_readToken_236 : decode cX2_readToken 236 = .ok (.iadd, 1) := by decide +kernel
theorem dX2_readToken_237 : decode cX2_readToken 237 = .ok (.putfield 31, 3) := by decide +kernel
theorem dX2_readToken_240 : decode cX2_readToken 240 = .ok (.return_, 1) := by decide +kernel
theorem dX2_isBlank_0 : decode cX2_isBlank 0 = .ok (.iload_n 0, 1) := by decide +kernel
theorem dX2_isBlank_1 : decode cX2_isBlank 1 = .ok (.bipush 32, 2) := by decide +kernel
theorem dX2_isBlank_3 : decode cX2_isBlank 3 = .ok (.if_icmp .eq 9, 3) := by decide +kernel
theorem dX2_isBlank_6 : decode cX2_isBlank 6 = .ok (.iload_n 0, 1) := by decide +kernel
theorem dX2_isBlank_7 : decode cX2_isBlank 7 = .ok (.bipush 10, 2) := by decide +kernel
theorem dX2_isBlank_9 : decode cX2_isBlank 9 = .ok (.if_icmp .ne 7, 3) := by decide +kernel
theorem dX2_isBlank_12 : decode cX2_isBlank 12 = .ok (.iconst 1, 1) := by decide +kernel
theorem dX2_isBlank_13 : decode cX2_isBlank 13 = .ok (.goto 4, 3) := by decide +kernel
theorem dX2_isBlank_16 : decode cX2_isBlank 16 = .ok (.iconst 0, 1) := by decide +kernel
theorem dX2_isBlank_17 : decode cX2_isBlank 17 = .ok (.ireturn, 1) := by decide +kernel
theorem dX2_isLetter_0 : decode cX2_isLetter 0 = .ok (.iload_n 0, 1) := by decide +kernel
theorem dX2_isLetter_1 : decode cX2_isLetter 1 = .ok (.bipush 97, 2) := by decide +kernel
theorem dX2_isLetter_3 : decode cX2_isLetter 3 = .ok (.if_icmp .lt 13, 3) := by decide +kernel
theorem dX2_isLetter_6 : decode cX2_isLetter 6 = .ok (.iload_n 0, 1) := by decide +kernel
theorem dX2_isLetter_7 : decode cX2_isLetter 7 = .ok (.bipush 122, 2) := by decide +kernel
theorem dX2_isLetter_9 : decode cX2_isLetter 9 = .ok (.if_icmp .gt 7, 3) := by decide +kernel
theorem dX2_isLetter_12 : decode cX2_isLetter 12 = .ok (.iconst 1, 1) := by decide +kernel
theorem dX2_isLetter_13 : decode cX2_isLetter 13 = .ok (.goto 4, 3) := by decide +kernel
theorem dX2_isLetter_16 : decode cX2_isLetter 16 = .ok (.iconst 0, 1) := by decide +kernel
theorem dX2_isLetter_17 : decode cX2_isLetter 17 = .ok (.ireturn, 1) := by decide +kernel
theorem dX2_isDigit_0 : decode cX2_isDigit 0 = .ok (.iload_n 0, 1) := by decide +kernel
theorem dX2_isDigit_1 : decode cX2_isDigit 1 = .ok (.bipush 48, 2) := by decide +kernel
theorem dX2_isDigit_3 : decode cX2_isDigit 3 = .ok (.if_icmp .lt 13, 3) := by decide +kernel
theorem dX2_isDigit_6 : decode cX2_isDigit 6 = .ok (.iload_n 0, 1) := by decide +kernel
theorem dX2_isDigit_7 : decode cX2_isDigit 7 = .ok (.bipush 57, 2) := by decide +kernel
theorem dX2_isDigit_9 : decode cX2_isDigit 9 = .ok (.if_icmp .gt 7, 3) := by decide +kernel
theorem dX2_isDigit_12 : decode cX2_isDigit 12 = .ok (.iconst 1, 1) := by decide +kernel
theorem dX2_isDigit_13 : decode cX2_isDigit 13 = .ok (.goto 4, 3) := by decide +kernel
theorem dX2_isDigit_16 : decode cX2_isDigit 16 = .ok (.iconst 0, 1) := by decide +kernel
theorem dX2_isDigit_17 : decode cX2_isDigit 17 = .ok (.ireturn, 1) := by decide +kernel
