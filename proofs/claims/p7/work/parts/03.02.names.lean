theorem dX2_goesOn_224 : decode cX2_goesOn 224 = .ok (.ireturn, 1) := by decide +kernel
theorem dX2_goesOn_225 : decode cX2_goesOn 225 = .ok (.aload_n 0, 1) := by decide +kernel
theorem dX2_goesOn_226 : decode cX2_goesOn 226 = .ok (.getfield 15, 3) := by decide +kernel
theorem dX2_goesOn_229 : decode cX2_goesOn 229 = .ok (.getfield 172, 3) := by decide +kernel
theorem dX2_goesOn_232 : decode cX2_goesOn 232 = .ok (.iload_n 1, 1) := by decide +kernel
theorem dX2_goesOn_233 : decode cX2_goesOn 233 = .ok (.iconst 1, 1) := by decide +kernel
theorem dX2_goesOn_234 : decode cX2_goesOn 234 = .ok (.iadd, 1) := by decide +kernel
theorem dX2_goesOn_235 : decode cX2_goesOn 235 = .ok (.baload, 1) := by decide +kernel
theorem dX2_goesOn_236 : decode cX2_goesOn 236 = .ok (.ifCond .ne 5, 3) := by decide +kernel
theorem dX2_goesOn_239 : decode cX2_goesOn 239 = .ok (.iconst 1, 1) := by decide +kernel
theorem dX2_goesOn_240 : decode cX2_goesOn 240 = .ok (.ireturn, 1) := by decide +kernel
theorem dX2_goesOn_241 : decode cX2_goesOn 241 = .ok (.aload_n 0, 1) := by decide +kernel
theorem dX2_goesOn_242 : decode cX2_goesOn 242 = .ok (.iload_n 1, 1) := by decide +kernel
theorem dX2_goesOn_243 : decode cX2_goesOn 243 = .ok (.iconst 1, 1) := by decide +kernel
theorem dX2_goesOn_244 : decode cX2_goesOn 244 = .ok (.iadd, 1) := by decide +kernel
theorem dX2_goesOn_245 : decode cX2_goesOn 245 = .ok (.iload_n 2, 1) := by decide +kernel
theorem dX2_goesOn_246 : decode cX2_goesOn 246 = .ok (.invokevirtual 51, 3) := by decide +kernel
theorem dX2_goesOn_249 : decode cX2_goesOn 249 = .ok (.iconst 0, 1) := by decide +kernel
theorem dX2_goesOn_250 : decode cX2_goesOn 250 = .ok (.ireturn, 1) := by decide +kernel
set_option maxRecDepth 20000 in
theorem ggX2_wayDown_X1_before : GoodIn wsX2_wayDown wsX1_before := goodIn_r _ [7, 8, 9, 10, 64, 65, 66, 67, 68, 69] rfl (by decide +kernel)
set_option maxRecDepth 20000 in
theorem gX2_wayDown_X1_before : GoodIn wsX2_wayDown (wsV RX2 179 RX1 yX1_before wsX1_before) := goodIn_app (goodIn_of _ (by decide +kernel)) ggX2_wayDown_X1_before
set_option maxRecDepth 20000 in
theorem ggX2_wayDown_X1_with : GoodIn wsX2_wayDown wsX1_with := goodIn_r _ [14, 15, 16, 9, 17, 10, 8, 18, 19, 20, 6, 21, 22, 23, 24, 25, 26, 27, 28, 29, 30, 31, 32, 33, 34, 35, 36, 37, 38, 39, 40, 64, 65, 66, 67, 68, 69] rfl (by decide +kernel)
set_option maxRecDepth 20000 in
theorem gX2_wayDown_X1_with : GoodIn wsX2_wayDown (wsV RX2 182 RX1 yX1_with wsX1_with) := goodIn_app (goodIn_of _ (by decide +kernel)) ggX2_wayDown_X1_with
theorem dX2_wayDown_0 : decode cX2_wayDown 0 = .ok (.iload_n 1, 1) := by decide +kernel
theorem dX2_wayDown_1 : decode cX2_wayDown 1 = .ok (.aload_n 0, 1) := by decide +kernel
theorem dX2_wayDown_2 : decode cX2_wayDown 2 = .ok (.getfield 15, 3) := by decide +kernel
theorem dX2_wayDown_5 : decode cX2_wayDown 5 = .ok (.getfield 72, 3) := by decide +kernel
theorem dX2_wayDown_8 : decode cX2_wayDown 8 = .ok (.if_icmp .ge 34, 3) := by decide +kernel
theorem dX2_wayDown_11 : decode cX2_wayDown 11 = .ok (.aload_n 0, 1) := by decide +kernel
theorem dX2_wayDown_12 : decode cX2_wayDown 12 = .ok (.getfield 19, 3) := by decide +kernel
theorem dX2_wayDown_15 : decode cX2_wayDown 15 = .ok (.getfield 176, 3) := by decide +kernel
theorem dX2_wayDown_18 : decode cX2_wayDown 18 = .ok (.iload_n 2, 1) := by decide +kernel
theorem dX2_wayDown_19 : decode cX2_wayDown 19 = .ok (.iaload, 1) := by decide +kernel
theorem dX2_wayDown_20 : decode cX2_wayDown 20 = .ok (.bipush 16, 2) := by decide +kernel
theorem dX2_wayDown_22 : decode cX2_wayDown 22 = .ok (.if_icmp .ge 20, 3) := by decide +kernel
theorem dX2_wayDown_25 : decode cX2_wayDown 25 = .ok (.aload_n 0, 1) := by decide +kernel
theorem dX2_wayDown_26 : decode cX2_wayDown 26 = .ok (.getfield 19, 3) := by decide +kernel
theorem dX2_wayDown_29 : decode cX2_wayDown 29 = .ok (.iload_n 2, 1) := by decide +kernel
theorem dX2_wayDown_30 : decode cX2_wayDown 30 = .ok (.iload_n 1, 1) := by decide +kernel
theorem dX2_wayDown_31 : decode cX2_wayDown 31 = .ok (.invokevirtual 179, 3) := by decide +kernel
theorem dX2_wayDown_34 : decode cX2_wayDown 34 = .ok (.iconst (-1), 1) := by decide +kernel
theorem dX2_wayDown_35 : decode cX2_wayDown 35 = .ok (.if_icmp .ne 7, 3) := by decide +kernel
theorem dX2_wayDown_38 : decode cX2_wayDown 38 = .ok (.iconst 1, 1) := by decide +kernel
theorem dX2_wayDown_39 : decode cX2_wayDown 39 = .ok (.goto 4, 3) := by decide +kernel
theorem dX2_wayDown_42 : decode cX2_wayDown 42 = .ok (.iconst 0, 1) := by decide +kernel
theorem dX2_wayDown_43 : decode cX2_wayDown 43 = .ok (.istore_n 3, 1) := by decide +kernel
theorem dX2_wayDown_44 : decode cX2_wayDown 44 = .ok (.iload_n 3, 1) := by decide +kernel
theorem dX2_wayDown_45 : decode cX2_wayDown 45 = .ok (.ifCond .eq 15, 3) := by decide +kernel
theorem dX2_wayDown_48 : decode cX2_wayDown 48 = .ok (.aload_n 0, 1) := by decide +kernel
theorem dX2_wayDown_49 : decode cX2_wayDown 49 = .ok (.getfield 19, 3) := by decide +kernel
theorem dX2_wayDown_52 : decode cX2_wayDown 52 = .ok (.iload_n 2, 1) := by decide +kernel
theorem dX2_wayDown_53 : decode cX2_wayDown 53 = .ok (.iload_n 1, 1) := by decide +kernel
theorem dX2_wayDown_54 : decode cX2_wayDown 54 = .ok (.invokevirtual 182, 3) := by decide +kernel
theorem dX2_wayDown_57 : decode cX2_wayDown 57 = .ok (.goto 4, 3) := by decide +kernel
theorem dX2_wayDown_60 : decode cX2_wayDown 60 = .ok (.iconst (-1), 1) := by decide +kernel
theorem dX2_wayDown_61 : decode cX2_wayDown 61 = .ok (.ireturn, 1) := by decide +kernel
set_option maxRecDepth 20000 in
theorem ggX2_wayBack_X5_localAt : GoodIn wsX2_wayBack wsX5_localAt := goodIn_r _ [7, 8, 9, 24, 25, 26, 27, 28, 29, 30, 31, 32, 33] rfl (by decide +kernel)
set_option maxRecDepth 20000 in
theorem gX2_wayBack_X5_localAt : GoodIn wsX2_wayBack (wsV RX2 153 RX5 yX5_localAt wsX5_localAt) := goodIn_app (goodIn_of _ (by decide +kernel)) ggX2_wayBack_X5_localAt
set_option maxRecDepth 20000 in
theorem ggX2_wayBack_X1_before : GoodIn wsX2_wayBack wsX1_before := goodIn_r _ [14, 15, 16, 17, 34, 35, 36, 37, 38, 39] rfl (by decide +kernel)
set_option maxRecDepth 20000 in
theorem gX2_wayBack_X1_before : GoodIn wsX2_wayBack (wsV RX2 179 RX1 yX1_before wsX1_before) := goodIn_app (goodIn_of _ (by decide +kernel)) ggX2_wayBack_X1_before
theorem dX2_wayBack_0 : decode cX2_wayBack 0 = .ok (.aload_n 0, 1) := by decide +kernel
theorem dX2_wayBack_1 : decode cX2_wayBack 1 = .ok (.getfield 32, 3) := by decide +kernel
theorem dX2_wayBack_4 : decode cX2_wayBack 4 = .ok (.iload_n 1, 1) := by decide +kernel
theorem dX2_wayBack_5 : decode cX2_wayBack 5 = .ok (.invokevirtual 153, 3) := by decide +kernel
theorem dX2_wayBack_8 : decode cX2_wayBack 8 = .ok (.istore_n 3, 1) := by decide +kernel
theorem dX2_wayBack_9 : decode cX2_wayBack 9 = .ok (.iload_n 3, 1) := by decide +kernel
theorem dX2_wayBack_10 : decode cX2_wayBack 10 = .ok (.bipush 15, 2) := by decide +kernel
theorem dX2_wayBack_12 : decode cX2_wayBack 12 = .ok (.iand, 1) := by decide +kernel
theorem dX2_wayBack_13 : decode cX2_wayBack 13 = .ok (.bipush 10, 2) := by decide +kernel
theorem dX2_wayBack_15 : decode cX2_wayBack 15 = .ok (.if_icmp .ne 17, 3) := by decide +kernel
theorem dX2_wayBack_18 : decode cX2_wayBack 18 = .ok (.aload_n 0, 1) := by decide +kernel
theorem dX2_wayBack_19 : decode cX2_wayBack 19 = .ok (.getfield 19, 3) := by decide +kernel
theorem dX2_wayBack_22 : decode cX2_wayBack 22 = .ok (.iload_n 2, 1) := by decide +kernel
theorem dX2_wayBack_23 : decode cX2_wayBack 23 = .ok (.iload_n 3, 1) := by decide +kernel
theorem dX2_wayBack_24 : decode cX2_wayBack 24 = .ok (.iconst 4, 1) := by decide +kernel
theorem dX2_wayBack_25 : decode cX2_wayBack 25 = .ok (.ishr, 1) := by decide +kernel
theorem dX2_wayBack_26 : decode cX2_wayBack 26 = .ok (.invokevirtual 179, 3) := by decide +kernel
theorem dX2_wayBack_29 : decode cX2_wayBack 29 = .ok (.goto 4, 3) := by decide +kernel
theorem dX2_wayBack_32 : decode cX2_wayBack 32 = .ok (.iconst (-1), 1) := by decide +kernel
theorem dX2_wayBack_33 : decode cX2_wayBack 33 = .ok (.ireturn, 1) := by decide +kernel
set_option maxRecDepth 20000 in
theorem ggX3_init_J7_fill_53178 : GoodIn wsX3_init wsJ7_fill_53178 := goodIn_r _ [22] rfl (by decide +kernel)
set_option maxRecDepth 20000 in
theorem gX3_init_J7_fill_53178 : GoodIn wsX3_init (va_wsS RX3 57 yJ7_fill_53178 wsJ7_fill_53178) := goodIn_app (goodIn_of _ (by decide +kernel)) ggX3_init_J7_fill_53178
theorem dX3_init_0 : decode cX3_init 0 = .ok (.aload_n 0, 1) := by decide +kernel
theorem dX3_init_1 : decode cX3_init 1 = .ok (.invokespecial 3, 3) := by decide +kernel
theorem dX3_init_4 : decode cX3_init 4 = .ok (.aload_n 0, 1) := by decide +kernel
theorem dX3_init_5 : decode cX3_init 5 = .ok (.sipush 1024, 3) := by decide +kernel
theorem dX3_init_8 : decode cX3_init 8 = .ok (.newarray .int, 2) := by decide +kernel
theorem dX3_init_10 : decode cX3_init 10 = .ok (.putfield 9, 3) := by decide +kernel
theorem dX3_init_13 : decode cX3_init 13 = .ok (.aload_n 0, 1) := by decide +kernel
theorem dX3_init_14 : decode cX3_init 14 = .ok (.bipush 32, 2) := by decide +kernel
theorem dX3_init_16 : decode cX3_init 16 = .ok (.newarray .int, 2) := by decide +kernel
theorem dX3_init_18 : decode cX3_init 18 = .ok (.putfield 15, 3) := by decide +kernel
theorem dX3_init_21 : decode cX3_init 21 = .ok (.aload_n 0, 1) := by decide +kernel
theorem dX3_init_22 : decode cX3_init 22 = .ok (.bipush 32, 2) := by decide +kernel
theorem dX3_init_24 : decode cX3_init 24 = .ok (.newarray .int, 2) := by decide +kernel
theorem dX3_init_26 : decode cX3_init 26 = .ok (.putfield 18, 3) := by decide +kernel
theorem dX3_init_29 : decode cX3_init 29 = .ok (.aload_n 0, 1) := by decide +kernel
theorem dX3_init_30 : decode cX3_init 30 = .ok (.bipush 32, 2) := by decide +kernel
theorem dX3_init_32 : decode cX3_init 32 = .ok (.newarray .int, 2) := by decide +kernel
theorem dX3_init_34 : decode cX3_init 34 = .ok (.putfield 21, 3) := by decide +kernel
theorem dX3_init_37 : decode cX3_init 37 = .ok (.aload_n 0, 1) := by decide +kernel
theorem dX3_init_38 : decode cX3_init 38 = .ok (.bipush 32, 2) := by decide +kernel
theorem dX3_init_40 : decode cX3_init 40 = .ok (.newarray .int, 2) := by decide +kernel
theorem dX3_init_42 : decode cX3_init 42 = .ok (.putfield 24, 3) := by decide +kernel
theorem dX3_init_45 : decode cX3_init 45 = .ok (.aload_n 0, 1) := by decide +kernel
theorem dX3_init_46 : decode cX3_init 46 = .ok (.sipush 256, 3) := by decide +kernel
theorem dX3_init_49 : decode cX3_init 49 = .ok (.newarray .int, 2) := by decide +kernel
theorem dX3_init_51 : decode cX3_init 51 = .ok (.putfield 27, 3) := by decide +kernel
theorem dX3_init_54 : decode cX3_init 54 = .ok (.aload_n 0, 1) := by decide +kernel
theorem dX3_init_55 : decode cX3_init 55 = .ok (.bipush 32, 2) := by decide +kernel
theorem dX3_init_57 : decode cX3_init 57 = .ok (.newarray .int, 2) := by decide +kernel
theorem dX3_init_59 : decode cX3_init 59 = .ok (.putfield 30, 3) := by decide +kernel
theorem dX3_init_62 : decode cX3_init 62 = .ok (.aload_n 0, 1) := by decide +kernel
theorem dX3_init_63 : decode cX3_init 63 = .ok (.bipush 32, 2) := by decide +kernel
theorem dX3_init_65 : decode cX3_init 65 = .ok (.newarray .int, 2) := by decide +kernel
theorem dX3_init_67 : decode cX3_init 67 = .ok (.putfield 33, 3) := by decide +kernel
theorem dX3_init_70 : decode cX3_init 70 = .ok (.aload_n 0, 1) := by decide +kernel
theorem dX3_init_71 : decode cX3_init 71 = .ok (.iconst (-1), 1) := by decide +kernel
theorem dX3_init_72 : decode cX3_init 72 = .ok (.putfield 36, 3) := by decide +kernel
theorem dX3_init_75 : decode cX3_init 75 = .ok (.aload_n 0, 1) := by decide +kernel
theorem dX3_init_76 : decode cX3_init 76 = .ok (.iconst (-1), 1) := by decide +kernel
theorem dX3_init_77 : decode cX3_init 77 = .ok (.putfield 40, 3) := by decide +kernel
theorem dX3_init_80 : decode cX3_init 80 = .ok (.aload_n 0, 1) := by decide +kernel
theorem dX3_init_81 : decode cX3_init 81 = .ok (.bipush 32, 2) := by decide +kernel
theorem dX3_init_83 : decode cX3_init 83 = .ok (.newarray .int, 2) := by decide +kernel
theorem dX3_init_85 : decode cX3_init 85 = .ok (.putfield 43, 3) := by decide +kernel
theorem dX3_init_88 : decode cX3_init 88 = .ok (.aload_n 0, 1) := by decide +kernel
theorem dX3_init_89 : decode cX3_init 89 = .ok (.bipush 32, 2) := by decide +kernel
theorem dX3_init_91 : decode cX3_init 91 = .ok (.newarray .int, 2) := by decide +kernel
theorem dX3_init_93 : decode cX3_init 93 = .ok (.putfield 46, 3) := by decide +kernel
theorem dX3_init_96 : decode cX3_init 96 = .ok (.aload_n 0, 1) := by decide +kernel
theorem dX3_init_97 : decode cX3_init 97 = .ok (.aload_n 1, 1) := by decide +kernel
theorem dX3_init_98 : decode cX3_init 98 = .ok (.putfield 49, 3) := by decide +kernel
theorem dX3_init_101 : decode cX3_init 101 = .ok (.aload_n 0, 1) := by decide +kernel
theorem dX3_init_102 : decode cX3_init 102 = .ok (.aload_n 2, 1) := by decide +kernel
theorem dX3_init_103 : decode cX3_init 103 = .ok (.putfield 53, 3) := by decide +kernel
theorem dX3_init_106 : decode cX3_init 106 = .ok (.aload_n 0, 1) := by decide +kernel
theorem dX3_init_107 : decode cX3_init 107 = .ok (.getfield 27, 3) := by decide +kernel
theorem dX3_init_110 : decode cX3_init 110 = .ok (.iconst (-1), 1) := by decide +kernel
theorem dX3_init_111 : decode cX3_init 111 = .ok (.invokestatic 57, 3) := by decide +kernel
theorem dX3_init_114 : decode cX3_init 114 = .ok (.return_, 1) := by decide +kernel
set_option maxRecDepth 20000 in
theorem ggX3_clear_J7_fill_53178 : GoodIn wsX3_clear wsJ7_fill_53178 := goodIn_r _ [10] rfl (by decide +kernel)
set_option maxRecDepth 20000 in
theorem gX3_clear_J7_fill_53178 : GoodIn wsX3_clear (va_wsS RX3 57 yJ7_fill_53178 wsJ7_fill_53178) := goodIn_app (goodIn_of _ (by decide +kernel)) ggX3_clear_J7_fill_53178
theorem dX3_clear_0 : decode cX3_clear 0 = .ok (.aload_n 0, 1) := by decide +kernel
theorem dX3_clear_1 : decode cX3_clear 1 = .ok (.iload_n 1, 1) := by decide +kernel
theorem dX3_clear_2 : decode cX3_clear 2 = .ok (.putfield 63, 3) := by decide +kernel
theorem dX3_clear_5 : decode cX3_clear 5 = .ok (.aload_n 0, 1) := by decide +kernel
theorem dX3_clear_6 : decode cX3_clear 6 = .ok (.iload_n 1, 1) := by decide +kernel
theorem dX3_clear_7 : decode cX3_clear 7 = .ok (.iload_n 2, 1) := by decide +kernel
theorem dX3_clear_8 : decode cX3_clear 8 = .ok (.iadd, 1) := by decide +kernel
theorem dX3_clear_9 : decode cX3_clear 9 = .ok (.putfield 66, 3) := by decide +kernel
theorem dX3_clear_12 : decode cX3_clear 12 = .ok (.aload_n 0, 1) := by decide +kernel
theorem dX3_clear_13 : decode cX3_clear 13 = .ok (.iconst 0, 1) := by decide +kernel
theorem dX3_clear_14 : decode cX3_clear 14 = .ok (.putfield 69, 3) := by decide +kernel
theorem dX3_clear_17 : decode cX3_clear 17 = .ok (.aload_n 0, 1) := by decide +kernel
theorem dX3_clear_18 : decode cX3_clear 18 = .ok (.iconst (-1), 1) := by decide +kernel
theorem dX3_clear_19 : decode cX3_clear 19 = .ok (.putfield 36, 3) := by decide +kernel
theorem dX3_clear_22 : decode cX3_clear 22 = .ok (.aload_n 0, 1) := by decide +kernel
theorem dX3_clear_23 : decode cX3_clear 23 = .ok (.iconst (-1), 1) := by decide +kernel
theorem dX3_clear_24 : decode cX3_clear 24 = .ok (.putfield 40, 3) := by decide +kernel
theorem dX3_clear_27 : decode cX3_clear 27 = .ok (.aload_n 0, 1) := by decide +kernel
theorem dX3_clear_28 : decode cX3_clear 28 = .ok (.getfield 27, 3) := by decide +kernel
theorem dX3_clear_31 : decode cX3_clear 31 = .ok (.iconst (-1), 1) := by decide +kernel
theorem dX3_clear_32 : decode cX3_clear 32 = .ok (.invokestatic 57, 3) := by decide +kernel
theorem dX3_clear_35 : decode cX3_clear 35 = .ok (.return_, 1) := by decide +kernel
theorem dX3_headOf_0 : decode cX3_headOf 0 = .ok (.bipush 31, 2) := by decide +kernel
theorem dX3_headOf_2 : decode cX3_headOf 2 = .ok (.iload_n 1, 1) := by decide +kernel
theorem dX3_headOf_3 : decode cX3_headOf 3 = .ok (.imul, 1) := by decide +kernel
theorem dX3_headOf_4 : decode cX3_headOf 4 = .ok (.iload_n 0, 1) := by decide +kernel
theorem dX3_headOf_5 : decode cX3_headOf 5 = .ok (.iadd, 1) := by decide +kernel
theorem dX3_headOf_6 : decode cX3_headOf 6 = .ok (.sipush 255, 3) := by decide +kernel
theorem dX3_headOf_9 : decode cX3_headOf 9 = .ok (.iand, 1) := by decide +kernel
theorem dX3_headOf_10 : decode cX3_headOf 10 = .ok (.ireturn, 1) := by decide +kernel
set_option maxRecDepth 20000 in
theorem ggX3_find_X3_headOf : GoodIn wsX3_find wsX3_headOf := goodIn_r _ [9] rfl (by decide +kernel)
set_option maxRecDepth 20000 in
theorem gX3_find_X3_headOf : GoodIn wsX3_find (va_wsS RX3 72 yX3_headOf wsX3_headOf) := goodIn_app (goodIn_of _ (by decide +kernel)) ggX3_find_X3_headOf
theorem dX3_find_0 : decode cX3_find 0 = .ok (.aload_n 0, 1) := by decide +kernel
theorem dX3_find_1 : decode cX3_find 1 = .ok (.getfield 27, 3) := by decide +kernel
theorem dX3_find_4 : decode cX3_find 4 = .ok (.iload_n 1, 1) := by decide +kernel
theorem dX3_find_5 : decode cX3_find 5 = .ok (.iload_n 2, 1) := by decide +kernel
theorem dX3_find_6 : decode cX3_find 6 = .ok (.invokestatic 72, 3) := by decide +kernel
theorem dX3_find_9 : decode cX3_find 9 = .ok (.iaload, 1) := by decide +kernel
theorem dX3_find_10 : decode cX3_find 10 = .ok (.istore_n 3, 1) := by decide +kernel
theorem dX3_find_11 : decode cX3_find 11 = .ok (.iconst 0, 1) := by decide +kernel
theorem dX3_find_12 : decode cX3_find 12 = .ok (.istore 4, 2) := by decide +kernel
theorem dX3_find_14 : decode cX3_find 14 = .ok (.iload 4, 2) := by decide +kernel
theorem dX3_find_16 : decode cX3_find 16 = .ok (.aload_n 0, 1) := by decide +kernel
theorem dX3_find_17 : decode cX3_find 17 = .ok (.getfield 69, 3) := by decide +kernel
theorem dX3_find_20 : decode cX3_find 20 = .ok (.if_icmp .ge 43, 3) := by decide +kernel
theorem dX3_find_23 : decode cX3_find 23 = .ok (.iload_n 3, 1) := by decide +kernel
theorem dX3_find_24 : decode cX3_find 24 = .ok (.iconst (-1), 1) := by decide +kernel
theorem dX3_find_25 : decode cX3_find 25 = .ok (.if_icmp .eq 38, 3) := by decide +kernel
theorem dX3_find_28 : decode cX3_find 28 = .ok (.aload_n 0, 1) := by decide +kernel
theorem dX3_find_29 : decode cX3_find 29 = .ok (.getfield 15, 3) := by decide +kernel
theorem dX3_find_32 : decode cX3_find 32 = .ok (.iload_n 3, 1) := by decide +kernel
theorem dX3_find_33 : decode cX3_find 33 = .ok (.iaload, 1) := by decide +kernel
theorem dX3_find_34 : decode cX3_find 34 = .ok (.iload_n 1, 1) := by decide +kernel
theorem dX3_find_35 : decode cX3_find 35 = .ok (.if_icmp .ne 15, 3) := by decide +kernel
theorem dX3_find_38 : decode cX3_find 38 = .ok (.aload_n 0, 1) := by decide +kernel
theorem dX3_find_39 : decode cX3_find 39 = .ok (.getfield 18, 3) := by decide +kernel
theorem dX3_find_42 : decode cX3_find 42 = .ok (.iload_n 3, 1) := by decide +kernel
theorem dX3_find_43 : decode cX3_find 43 = .ok (.iaload, 1) := by decide +kernel
theorem dX3_find_44 : decode cX3_find 44 = .ok (.iload_n 2, 1) := by decide +kernel
theorem dX3_find_45 : decode cX3_find 45 = .ok (.if_icmp .ne 5, 3) := by decide +kernel
theorem dX3_find_48 : decode cX3_find 48 = .ok (.iload_n 3, 1) := by decide +kernel
theorem dX3_find_49 : decode cX3_find 49 = .ok (.ireturn, 1) := by decide +kernel
theorem dX3_find_50 : decode cX3_find 50 = .ok (.aload_n 0, 1) := by decide +kernel
theorem dX3_find_51 : decode cX3_find 51 = .ok (.getfield 30, 3) := by decide +kernel
theorem dX3_find_54 : decode cX3_find 54 = .ok (.iload_n 3, 1) := by decide +kernel
theorem dX3_find_55 : decode cX3_find 55 = .ok (.iaload, 1) := by decide +kernel
theorem dX3_find_56 : decode cX3_find 56 = .ok (.istore_n 3, 1) := by decide +kernel
theorem dX3_find_57 : decode cX3_find 57 = .ok (.iinc 4 1, 3) := by decide +kernel
theorem dX3_find_60 : decode cX3_find 60 = .ok (.goto (-46), 3) := by decide +kernel
theorem dX3_find_63 : decode cX3_find 63 = .ok (.iconst (-1), 1) := by decide +kernel
theorem dX3_find_64 : decode cX3_find 64 = .ok (.ireturn, 1) := by decide +kernel
theorem dX3_isFull_0 : decode cX3_isFull 0 = .ok (.aload_n 0, 1) := by decide +kernel
theorem dX3_isFull_1 : decode cX3_isFull 1 = .ok (.getfield 69, 3) := by decide +kernel
theorem dX3_isFull_4 : decode cX3_isFull 4 = .ok (.iconst 1, 1) := by decide +kernel
theorem dX3_isFull_5 : decode cX3_isFull 5 = .ok (.iadd, 1) := by decide +kernel
theorem dX3_isFull_6 : decode cX3_isFull 6 = .ok (.aload_n 0, 1) := by decide +kernel
theorem dX3_isFull_7 : decode cX3_isFull 7 = .ok (.getfield 66, 3) := by decide +kernel
theorem dX3_isFull_10 : decode cX3_isFull 10 = .ok (.iconst 1, 1) := by decide +kernel
theorem dX3_isFull_11 : decode cX3_isFull 11 = .ok (.iadd, 1) := by decide +kernel
theorem dX3_isFull_12 : decode cX3_isFull 12 = .ok (.imul, 1) := by decide +kernel
theorem dX3_isFull_13 : decode cX3_isFull 13 = .ok (.sipush 20000, 3) := by decide +kernel
theorem dX3_isFull_16 : decode cX3_isFull 16 = .ok (.if_icmp .le 7, 3) := by decide +kernel
theorem dX3_isFull_19 : decode cX3_isFull 19 = .ok (.iconst 1, 1) := by decide +kernel
theorem dX3_isFull_20 : decode cX3_isFull 20 = .ok (.goto 4, 3) := by decide +kernel
theorem dX3_isFull_23 : decode cX3_isFull 23 = .ok (.iconst 0, 1) := by decide +kernel
theorem dX3_isFull_24 : decode cX3_isFull 24 = .ok (.ireturn, 1) := by decide +kernel
set_option maxRecDepth 20000 in
theorem ggX3_open_X3_makeRoom : GoodIn wsX3_open wsX3_makeRoom := goodIn_r _ [20, 1, 2, 3, 4, 6, 7, 15, 10, 9, 21, 22, 23, 24, 25, 26, 27, 28, 29, 30, 31, 32, 33, 34, 35, 36, 12, 13, 14, 46, 47, 48, 49, 50, 51, 52, 53, 54, 55, 56, 57, 58, 59, 60, 61, 62] rfl (by decide +kernel)
set_option maxRecDepth 20000 in
theorem gX3_open_X3_makeRoom : GoodIn wsX3_open (wsV RX3 76 RX3 yX3_makeRoom wsX3_makeRoom) := goodIn_app (goodIn_of _ (by decide +kernel)) ggX3_open_X3_makeRoom
set_option maxRecDepth 20000 in
theorem ggX3_open_X3_headOf : GoodIn wsX3_open wsX3_headOf := goodIn_r _ [39] rfl (by decide +kernel)
set_option maxRecDepth 20000 in
theorem gX3_open_X3_headOf : GoodIn wsX3_open (va_wsS RX3 72 yX3_headOf wsX3_headOf) := goodIn_app (goodIn_of _ (by decide +kernel)) ggX3_open_X3_headOf
set_option maxRecDepth 20000 in
theorem ggX3_open_X3_await : GoodIn wsX3_open wsX3_await := goodIn_r _ [43, 15, 44, 45, 46, 47, 48, 49, 50, 51, 52, 53, 54, 55, 56, 57, 58, 59, 60, 61, 62] rfl (by decide +kernel)
set_option maxRecDepth 20000 in
theorem gX3_open_X3_await : GoodIn wsX3_open (wsV RX3 95 RX3 yX3_await wsX3_await) := goodIn_app (goodIn_of _ (by decide +kernel)) ggX3_open_X3_await
theorem dX3_open_0 : decode cX3_open 0 = .ok (.aload_n 0, 1) := by decide +kernel
theorem dX3_open_1 : decode cX3_open 1 = .ok (.getfield 69, 3) := by decide +kernel
theorem dX3_open_4 : decode cX3_open 4 = .ok (.istore 4, 2) := by decide +kernel
theorem dX3_open_6 : decode cX3_open 6 = .ok (.aload_n 0, 1) := by decide +kernel
theorem dX3_open_7 : decode cX3_open 7 = .ok (.invokevirtual 76, 3) := by decide +kernel
theorem dX3_open_10 : decode cX3_open 10 = .ok (.aload_n 0, 1) := by decide +kernel
theorem dX3_open_11 : decode cX3_open 11 = .ok (.dup, 1) := by decide +kernel
theorem dX3_open_12 : decode cX3_open 12 = .ok (.getfield 69, 3) := by decide +kernel
theorem dX3_open_15 : decode cX3_open 15 = .ok (.iconst 1, 1) := by decide +kernel
theorem dX3_open_16 : decode cX3_open 16 = .ok (.iadd, 1) := by decide +kernel
theorem dX3_open_17 : decode cX3_open 17 = .ok (.putfield 69, 3) := by decide +kernel
theorem dX3_open_20 : decode cX3_open 20 = .ok (.iload_n 1, 1) := by decide +kernel
theorem dX3_open_21 : decode cX3_open 21 = .ok (.iload_n 2, 1) := by decide +kernel
theorem dX3_open_22 : decode cX3_open 22 = .ok (.invokestatic 72, 3) := by decide +kernel
theorem dX3_open_25 : decode cX3_open 25 = .ok (.istore 5, 2) := by decide +kernel
theorem dX3_open_27 : decode cX3_open 27 = .ok (.aload_n 0, 1) := by decide +kernel
theorem dX3_open_28 : decode cX3_open 28 = .ok (.getfield 15, 3) := by decide +kernel
theorem dX3_open_31 : decode cX3_open 31 = .ok (.iload 4, 2) := by decide +kernel
theorem dX3_open_33 : decode cX3_open 33 = .ok (.iload_n 1, 1) := by decide +kernel
theorem dX3_open_34 : decode cX3_open 34 = .ok (.iastore, 1) := by decide +kernel
theorem dX3_open_35 : decode cX3_open 35 = .ok (.aload_n 0, 1) := by decide +kernel
theorem dX3_open_36 : decode cX3_open 36 = .ok (.getfield 18, 3) := by decide +kernel
theorem dX3_open_39 : decode cX3_open 39 = .ok (.iload 4, 2) := by decide +kernel
theorem dX3_open_41 : decode cX3_open 41 = .ok (.iload_n 2, 1) := by decide +kernel
theorem dX3_open_42 : decode cX3_open 42 = .ok (.iastore, 1) := by decide +kernel
theorem dX3_open_43 : decode cX3_open 43 = .ok (.aload_n 0, 1) := by decide +kernel
theorem dX3_open_44 : decode cX3_open 44 = .ok (.getfield 21, 3) := by decide +kernel
theorem dX3_open_47 : decode cX3_open 47 = .ok (.iload 4, 2) := by decide +kernel
theorem dX3_open_49 : decode cX3_open 49 = .ok (.aload_n 3, 1) := by decide +kernel
theorem dX3_open_50 : decode cX3_open 50 = .ok (.getfield 79, 3) := by decide +kernel
theorem dX3_open_53 : decode cX3_open 53 = .ok (.aload_n 0, 1) := by decide +kernel
theorem dX3_open_54 : decode cX3_open 54 = .ok (.getfield 63, 3) := by decide +kernel
theorem dX3_open_57 : decode cX3_open 57 = .ok (.isub, 1) := by decide +kernel
theorem dX3_open_58 : decode cX3_open 58 = .ok (.iastore, 1) := by decide +kernel
theorem dX3_open_59 : decode cX3_open 59 = .ok (.aload_n 0, 1) := by decide +kernel
theorem dX3_open_60 : decode cX3_open 60 = .ok (.getfield 24, 3) := by decide +kernel
theorem dX3_open_63 : decode cX3_open 63 = .ok (.iload 4, 2) := by decide +kernel
theorem dX3_open_65 : decode cX3_open 65 = .ok (.aload_n 3, 1) := by decide +kernel
theorem dX3_open_66 : decode cX3_open 66 = .ok (.getfield 84, 3) := by decide +kernel
theorem dX3_open_69 : decode cX3_open 69 = .ok (.iastore, 1) := by decide +kernel
theorem dX3_open_70 : decode cX3_open 70 = .ok (.aload_n 0, 1) := by decide +kernel
theorem dX3_open_71 : decode cX3_open 71 = .ok (.getfield 30, 3) := by decide +kernel
theorem dX3_open_74 : decode cX3_open 74 = .ok (.iload 4, 2) := by decide +kernel
theorem dX3_open_76 : decode cX3_open 76 = .ok (.aload_n 0, 1) := by decide +kernel
theorem dX3_open_77 : decode cX3_open 77 = .ok (.getfield 27, 3) := by decide +kernel
theorem dX3_open_80 : decode cX3_open 80 = .ok (.iload 5, 2) := by decide +kernel
theorem dX3_open_82 : decode cX3_open 82 = .ok (.iaload, 1) := by decide +kernel
theorem dX3_open_83 : decode cX3_open 83 = .ok (.iastore, 1) := by decide +kernel
theorem dX3_open_84 : decode cX3_open 84 = .ok (.aload_n 0, 1) := by decide +kernel
theorem dX3_open_85 : decode cX3_open 85 = .ok (.getfield 27, 3) := by decide +kernel
theorem dX3_open_88 : decode cX3_open 88 = .ok (.iload 5, 2) := by decide +kernel
theorem dX3_open_90 : decode cX3_open 90 = .ok (.iload 4, 2) := by decide +kernel
theorem dX3_open_92 : decode cX3_open 92 = .ok (.iastore, 1) := by decide +kernel
theorem dX3_open_93 : decode cX3_open 93 = .ok (.aload_n 3, 1) := by decide +kernel
theorem dX3_open_94 : decode cX3_open 94 = .ok (.getfield 86, 3) := by decide +kernel
theorem dX3_open_97 : decode cX3_open 97 = .ok (.iconst 0, 1) := by decide +kernel
theorem dX3_open_98 : decode cX3_open 98 = .ok (.aload_n 0, 1) := by decide +kernel
theorem dX3_open_99 : decode cX3_open 99 = .ok (.getfield 9, 3) := by decide +kernel
theorem dX3_open_102 : decode cX3_open 102 = .ok (.iload 4, 2) := by decide +kernel
theorem dX3_open_104 : decode cX3_open 104 = .ok (.aload_n 0, 1) := by decide +kernel
theorem dX3_open_105 : decode cX3_open 105 = .ok (.getfield 66, 3) := by decide +kernel
theorem dX3_open_108 : decode cX3_open 108 = .ok (.imul, 1) := by decide +kernel
theorem dX3_open_109 : decode cX3_open 109 = .ok (.aload_n 3, 1) := by decide +kernel
theorem dX3_open_110 : decode cX3_open 110 = .ok (.getfield 79, 3) := by decide +kernel
theorem dX3_open_113 : decode cX3_open 113 = .ok (.invokestatic 89, 3) := by decide +kernel
theorem dX3_open_116 : decode cX3_open 116 = .ok (.aload_n 0, 1) := by decide +kernel
theorem dX3_open_117 : decode cX3_open 117 = .ok (.getfield 33, 3) := by decide +kernel
theorem dX3_open_120 : decode cX3_open 120 = .ok (.iload 4, 2) := by decide +kernel
theorem dX3_open_122 : decode cX3_open 122 = .ok (.bipush (-2), 2) := by decide +kernel
theorem dX3_open_124 : decode cX3_open 124 = .ok (.iastore, 1) := by decide +kernel
theorem dX3_open_125 : decode cX3_open 125 = .ok (.aload_n 0, 1) := by decide +kernel
theorem dX3_open_126 : decode cX3_open 126 = .ok (.iload 4, 2) := by decide +kernel
theorem dX3_open_128 : decode cX3_open 128 = .ok (.invokevirtual 95, 3) := by decide +kernel
theorem dX3_open_131 : decode cX3_open 131 = .ok (.return_, 1) := by decide +kernel
set_option maxRecDepth 20000 in
theorem ggX3_makeRoom_J7_copyOf_59c91 : GoodIn wsX3_makeRoom wsJ7_copyOf_59c91 := goodIn_r _ [13, 14, 15, 16, 17, 18, 19, 20, 21, 22, 23, 24, 25, 26, 27, 28] rfl (by decide +kernel)
set_option maxRecDepth 20000 in
theorem gX3_makeRoom_J7_copyOf_59c91 : GoodIn wsX3_makeRoom (va_wsS RX3 99 yJ7_copyOf_59c91 wsJ7_copyOf_59c91) := goodIn_app (goodIn_of _ (by decide +kernel)) ggX3_makeRoom_J7_copyOf_59c91
theorem dX3_makeRoom_0 : decode cX3_makeRoom 0 = .ok (.aload_n 0, 1) := by decide +kernel
theorem dX3_makeRoom_1 : decode cX3_makeRoom 1 = .ok (.getfield 69, 3) := by decide +kernel
theorem dX3_makeRoom_4 : decode cX3_makeRoom 4 = .ok (.aload_n 0, 1) := by decide +kernel
theorem dX3_makeRoom_5 : decode cX3_makeRoom 5 = .ok (.getfield 15, 3) := by decide +kernel
theorem dX3_makeRoom_8 : decode cX3_makeRoom 8 = .ok (.arraylength, 1) := by decide +kernel
theorem dX3_makeRoom_9 : decode cX3_makeRoom 9 = .ok (.if_icmp .lt 82, 3) := by decide +kernel
theorem dX3_makeRoom_12 : decode cX3_makeRoom 12 = .ok (.iconst 2, 1) := by decide +kernel
theorem dX3_makeRoom_13 : decode cX3_makeRoom 13 = .ok (.aload_n 0, 1) := by decide +kernel
theorem dX3_makeRoom_14 : decode cX3_makeRoom 14 = .ok (.getfield 69, 3) := by decide +kernel
theorem dX3_makeRoom_17 : decode cX3_makeRoom 17 = .ok (.imul, 1) := by decide +kernel
theorem dX3_makeRoom_18 : decode cX3_makeRoom 18 = .ok (.istore_n 1, 1) := by decide +kernel
theorem dX3_makeRoom_19 : decode cX3_makeRoom 19 = .ok (.aload_n 0, 1) := by decide +kernel
theorem dX3_makeRoom_20 : decode cX3_makeRoom 20 = .ok (.aload_n 0, 1) := by decide +kernel
theorem dX3_makeRoom_21 : decode cX3_makeRoom 21 = .ok (.getfield 15, 3) := by decide +kernel
theorem dX3_makeRoom_24 : decode cX3_makeRoom 24 = .ok (.iload_n 1, 1) := by decide +kernel
theorem dX3_makeRoom_25 : decode cX3_makeRoom 25 = .ok (.invokestatic 99, 3) := by decide +kernel
theorem dX3_makeRoom_28 : decode cX3_makeRoom 28 = .ok (.putfield 15, 3) := by decide +kernel
theorem dX3_makeRoom_31 : decode cX3_makeRoom 31 = .ok (.aload_n 0, 1) := by decide +kernel
theorem dX3_makeRoom_32 : decode cX3_makeRoom 32 = .ok (.aload_n 0, 1) := by decide +kernel
theorem dX3_makeRoom_33 : decode cX3_makeRoom 33 = .ok (.getfield 18, 3) := by decide +kernel
theorem dX3_makeRoom_36 : decode cX3_makeRoom 36 = .ok (.iload_n 1, 1) := by decide +kernel
theorem dX3_makeRoom_37 : decode cX3_makeRoom 37 = .ok (.invokestatic 99, 3) := by decide +kernel
theorem dX3_makeRoom_40 : decode cX3_makeRoom 40 = .ok (.putfield 18, 3) := by decide +kernel
theorem dX3_makeRoom_43 : decode cX3_makeRoom 43 = .ok (.aload_n 0, 1) := by decide +kernel
theorem dX3_makeRoom_44 : decode cX3_makeRoom 44 = .ok (.aload_n 0, 1) := by decide +kernel
theorem dX3_makeRoom_45 : decode cX3_makeRoom 45 = .ok (.getfield 21, 3) := by decide +kernel
theorem dX3_makeRoom_48 : decode cX3_makeRoom 48 = .ok (.iload_n 1, 1) := by decide +kernel
theorem dX3_makeRoom_49 : decode cX3_makeRoom 49 = .ok (.invokestatic 99, 3) := by decide +kernel
theorem dX3_makeRoom_52 : decode cX3_makeRoom 52 = .ok (.putfield 21, 3) := by decide +kernel
theorem dX3_makeRoom_55 : decode cX3_makeRoom 55 = .ok (.aload_n 0, 1) := by decide +kernel
theorem dX3_makeRoom_56 : decode cX3_makeRoom 56 = .ok (.aload_n 0, 1) := by decide +kernel
theorem dX3_makeRoom_57 : decode cX3_makeRoom 57 = .ok (.getfield 24, 3) := by decide +kernel
theorem dX3_makeRoom_60 : decode cX3_makeRoom 60 = .ok (.iload_n 1, 1) := by decide +kernel
theorem dX3_makeRoom_61 : decode cX3_makeRoom 61 = .ok (.invokestatic 99, 3) := by decide +kernel
theorem dX3_makeRoom_64 : decode cX3_makeRoom 64 = .ok (.putfield 24, 3) := by decide +kernel
theorem dX3_makeRoom_67 : decode cX3_makeRoom 67 = .ok (.aload_n 0, 1) := by decide +kernel
theorem dX3_makeRoom_68 : decode cX3_makeRoom 68 = .ok (.aload_n 0, 1) := by decide +kernel
theorem dX3_makeRoom_69 : decode cX3_makeRoom 69 = .ok (.getfield 30, 3) := by decide +kernel
theorem dX3_makeRoom_72 : decode cX3_makeRoom 72 = .ok (.iload_n 1, 1) := by decide +kernel
theorem dX3_makeRoom_73 : decode cX3_makeRoom 73 = .ok (.invokestatic 99, 3) := by decide +kernel
theorem dX3_makeRoom_76 : decode cX3_makeRoom 76 = .ok (.putfield 30, 3) := by decide +kernel
theorem dX3_makeRoom_79 : decode cX3_makeRoom 79 = .ok (.aload_n 0, 1) := by decide +kernel
theorem dX3_makeRoom_80 : decode cX3_makeRoom 80 = .ok (.aload_n 0, 1) := by decide +kernel
theorem dX3_makeRoom_81 : decode cX3_makeRoom 81 = .ok (.getfield 33, 3) := by decide +kernel
theorem dX3_makeRoom_84 : decode cX3_makeRoom 84 = .ok (.iload_n 1, 1) := by decide +kernel
theorem dX3_makeRoom_85 : decode cX3_makeRoom 85 = .ok (.invokestatic 99, 3) := by decide +kernel
theorem dX3_makeRoom_88 : decode cX3_makeRoom 88 = .ok (.putfield 33, 3) := by decide +kernel
theorem dX3_makeRoom_91 : decode cX3_makeRoom 91 = .ok (.aload_n 0, 1) := by decide +kernel
theorem dX3_makeRoom_92 : decode cX3_makeRoom 92 = .ok (.getfield 69, 3) := by decide +kernel
theorem dX3_makeRoom_95 : decode cX3_makeRoom 95 = .ok (.iconst 1, 1) := by decide +kernel
theorem dX3_makeRoom_96 : decode cX3_makeRoom 96 = .ok (.iadd, 1) := by decide +kernel
theorem dX3_makeRoom_97 : decode cX3_makeRoom 97 = .ok (.aload_n 0, 1) := by decide +kernel
theorem dX3_makeRoom_98 : decode cX3_makeRoom 98 = .ok (.getfield 66, 3) := by decide +kernel
theorem dX3_makeRoom_101 : decode cX3_makeRoom 101 = .ok (.imul, 1) := by decide +kernel
theorem dX3_makeRoom_102 : decode cX3_makeRoom 102 = .ok (.istore_n 1, 1) := by decide +kernel
theorem dX3_makeRoom_103 : decode cX3_makeRoom 103 = .ok (.iload_n 1, 1) := by decide +kernel
theorem dX3_makeRoom_104 : decode cX3_makeRoom 104 = .ok (.aload_n 0, 1) := by decide +kernel
theorem dX3_makeRoom_105 : decode cX3_makeRoom 105 = .ok (.getfield 9, 3) := by decide +kernel
theorem dX3_makeRoom_108 : decode cX3_makeRoom 108 = .ok (.arraylength, 1) := by decide +kernel
theorem dX3_makeRoom_109 : decode cX3_makeRoom 109 = .ok (.if_icmp .le 17, 3) := by decide +kernel
theorem dX3_makeRoom_112 : decode cX3_makeRoom 112 = .ok (.aload_n 0, 1) := by decide +kernel
theorem dX3_makeRoom_113 : decode cX3_makeRoom 113 = .ok (.aload_n 0, 1) := by decide +kernel
theorem dX3_makeRoom_114 : decode cX3_makeRoom 114 = .ok (.getfield 9, 3) := by decide +kernel
theorem dX3_makeRoom_117 : decode cX3_makeRoom 117 = .ok (.iconst 2, 1) := by decide +kernel
theorem dX3_makeRoom_118 : decode cX3_makeRoom 118 = .ok (.iload_n 1, 1) := by decide +kernel
theorem dX3_makeRoom_119 : decode cX3_makeRoom 119 = .ok (.imul, 1) := by decide +kernel
theorem dX3_makeRoom_120 : decode cX3_makeRoom 120 = .ok (.invokestatic 99, 3) := by decide +kernel
theorem dX3_makeRoom_123 : decode cX3_makeRoom 123 = .ok (.putfield 9, 3) := by decide +kernel
theorem dX3_makeRoom_126 : decode cX3_makeRoom 126 = .ok (.return_, 1) := by decide +kernel
set_option maxRecDepth 20000 in
theorem ggX3_join_X7_meet : GoodIn wsX3_join wsX7_meet := goodIn_r _ [11, 12, 13, 14, 10, 15, 16, 17, 18, 19, 20, 21, 22, 62, 63, 64] rfl (by decide +kernel)
set_option maxRecDepth 20000 in
theorem gX3_join_X7_meet : GoodIn wsX3_join (wsV RX3 103 RX7 yX7_meet wsX7_meet) := goodIn_app (goodIn_of _ (by decide +kernel)) ggX3_join_X7_meet
set_option maxRecDepth 20000 in
theorem ggX3_join_X3_isWideAt : GoodIn wsX3_join wsX3_isWideAt := goodIn_r _ [27, 5, 45, 46, 47, 48, 49, 50, 51, 52, 53, 54, 55, 56, 57, 58, 59, 60, 61] rfl (by decide +kernel)
set_option maxRecDepth 20000 in
theorem gX3_join_X3_isWideAt : GoodIn wsX3_join (wsV RX3 108 RX3 yX3_isWideAt wsX3_isWideAt) := goodIn_app (goodIn_of _ (by decide +kernel)) ggX3_join_X3_isWideAt
set_option maxRecDepth 20000 in
theorem ggX3_join_X3_await : GoodIn wsX3_join wsX3_await := goodIn_r _ [31, 32, 33, 34, 45, 46, 47, 48, 49, 50, 51, 52, 53, 54, 55, 56, 57, 58, 59, 60, 61] rfl (by decide +kernel)
set_option maxRecDepth 20000 in
theorem gX3_join_X3_await : GoodIn wsX3_join (wsV RX3 95 RX3 yX3_await wsX3_await) := goodIn_app (goodIn_of _ (by decide +kernel)) ggX3_join_X3_await
theorem dX3_join_0 : decode cX3_join 0 = .ok (.aload_n 2, 1) := by decide +kernel
theorem dX3_join_1 : decode cX3_join 1 = .ok (.getfield 79, 3) := by decide +kernel
theorem dX3_join_4 : decode cX3_join 4 = .ok (.aload_n 0, 1) := by decide +kernel
theorem dX3_join_5 : decode cX3_join 5 = .ok (.getfield 63, 3) := by decide +kernel
theorem dX3_join_8 : decode cX3_join 8 = .ok (.isub, 1) := by decide +kernel
theorem dX3_join_9 : decode cX3_join 9 = .ok (.aload_n 0, 1) := by decide +kernel
theorem dX3_join_10 : decode cX3_join 10 = .ok (.getfield 21, 3) := by decide +kernel
theorem dX3_join_13 : decode cX3_join 13 = .ok (.iload_n 1, 1) := by decide +kernel
theorem dX3_join_14 : decode cX3_join 14 = .ok (.iaload, 1) := by decide +kernel
theorem dX3_join_15 : decode cX3_join 15 = .ok (.if_icmp .eq 5, 3) := by decide +kernel
theorem dX3_join_18 : decode cX3_join 18 = .ok (.iconst 0, 1) := by decide +kernel
theorem dX3_join_19 : decode cX3_join 19 = .ok (.ireturn, 1) := by decide +kernel
theorem dX3_join_20 : decode cX3_join 20 = .ok (.aload_n 2, 1) := by decide +kernel
theorem dX3_join_21 : decode cX3_join 21 = .ok (.getfield 84, 3) := by decide +kernel
theorem dX3_join_24 : decode cX3_join 24 = .ok (.aload_n 0, 1) := by decide +kernel
theorem dX3_join_25 : decode cX3_join 25 = .ok (.getfield 24, 3) := by decide +kernel
theorem dX3_join_28 : decode cX3_join 28 = .ok (.iload_n 1, 1) := by decide +kernel
theorem dX3_join_29 : decode cX3_join 29 = .ok (.iaload, 1) := by decide +kernel
theorem dX3_join_30 : decode cX3_join 30 = .ok (.if_icmp .ge 7, 3) := by decide +kernel
theorem dX3_join_33 : decode cX3_join 33 = .ok (.iconst 1, 1) := by decide +kernel
theorem dX3_join_34 : decode cX3_join 34 = .ok (.goto 4, 3) := by decide +kernel
theorem dX3_join_37 : decode cX3_join 37 = .ok (.iconst 0, 1) := by decide +kernel
theorem dX3_join_38 : decode cX3_join 38 = .ok (.istore_n 3, 1) := by decide +kernel
theorem dX3_join_39 : decode cX3_join 39 = .ok (.iload_n 1, 1) := by decide +kernel
theorem dX3_join_40 : decode cX3_join 40 = .ok (.aload_n 0, 1) := by decide +kernel
theorem dX3_join_41 : decode cX3_join 41 = .ok (.getfield 66, 3) := by decide +kernel
theorem dX3_join_44 : decode cX3_join 44 = .ok (.imul, 1) := by decide +kernel
theorem dX3_join_45 : decode cX3_join 45 = .ok (.istore 4, 2) := by decide +kernel
theorem dX3_join_47 : decode cX3_join 47 = .ok (.iconst 0, 1) := by decide +kernel
theorem dX3_join_48 : decode cX3_join 48 = .ok (.istore 5, 2) := by decide +kernel
theorem dX3_join_50 : decode cX3_join 50 = .ok (.iload 5, 2) := by decide +kernel
theorem dX3_join_52 : decode cX3_join 52 = .ok (.aload_n 2, 1) := by decide +kernel
theorem dX3_join_53 : decode cX3_join 53 = .ok (.getfield 79, 3) := by decide +kernel
theorem dX3_join_56 : decode cX3_join 56 = .ok (.if_icmp .ge 130, 3) := by decide +kernel
theorem dX3_join_59 : decode cX3_join 59 = .ok (.aload_n 0, 1) := by decide +kernel
theorem dX3_join_60 : decode cX3_join 60 = .ok (.getfield 9, 3) := by decide +kernel
theorem dX3_join_63 : decode cX3_join 63 = .ok (.iload 4, 2) := by decide +kernel
theorem dX3_join_65 : decode cX3_join 65 = .ok (.iload 5, 2) := by decide +kernel
theorem dX3_join_67 : decode cX3_join 67 = .ok (.iadd, 1) := by decide +kernel
theorem dX3_join_68 : decode cX3_join 68 = .ok (.iaload, 1) := by decide +kernel
theorem dX3_join_69 : decode cX3_join 69 = .ok (.istore 6, 2) := by decide +kernel
theorem dX3_join_71 : decode cX3_join 71 = .ok (.iload 6, 2) := by decide +kernel
theorem dX3_join_73 : decode cX3_join 73 = .ok (.aload_n 2, 1) := by decide +kernel
theorem dX3_join_74 : decode cX3_join 74 = .ok (.getfield 86, 3) := by decide +kernel
theorem dX3_join_77 : decode cX3_join 77 = .ok (.iload 5, 2) := by decide +kernel
theorem dX3_join_79 : decode cX3_join 79 = .ok (.iaload, 1) := by decide +kernel
theorem dX3_join_80 : decode cX3_join 80 = .ok (.if_icmp .ne 13, 3) := by decide +kernel
theorem dX3_join_83 : decode cX3_join 83 = .ok (.iload 6, 2) := by decide +kernel
theorem dX3_join_85 : decode cX3_join 85 = .ok (.bipush 7, 2) := by decide +kernel
theorem dX3_join_87 : decode cX3_join 87 = .ok (.if_icmp .eq 6, 3) := by decide +kernel
theorem dX3_join_90 : decode cX3_join 90 = .ok (.goto 90, 3) := by decide +kernel
theorem dX3_join_93 : decode cX3_join 93 = .ok (.aload_n 0, 1) := by decide +kernel
theorem dX3_join_94 : decode cX3_join 94 = .ok (.getfield 49, 3) := by decide +kernel
theorem dX3_join_97 : decode cX3_join 97 = .ok (.iload 6, 2) := by decide +kernel
theorem dX3_join_99 : decode cX3_join 99 = .ok (.aload_n 2, 1) := by decide +kernel
theorem dX3_join_100 : decode cX3_join 100 = .ok (.getfield 86, 3) := by decide +kernel
theorem dX3_join_103 : decode cX3_join 103 = .ok (.iload 5, 2) := by decide +kernel
theorem dX3_join_105 : decode cX3_join 105 = .ok (.iaload, 1) := by decide +kernel
theorem dX3_join_106 : decode cX3_join 106 = .ok (.invokevirtual 103, 3) := by decide +kernel
theorem dX3_join_109 : decode cX3_join 109 = .ok (.istore 7, 2) := by decide +kernel
theorem dX3_join_111 : decode cX3_join 111 = .ok (.iload 7, 2) := by decide +kernel
theorem dX3_join_113 : decode cX3_join 113 = .ok (.bipush 7, 2) := by decide +kernel
theorem dX3_join_115 : decode cX3_join 115 = .ok (.if_icmp .ne 20, 3) := by decide +kernel
theorem dX3_join_118 : decode cX3_join 118 = .ok (.aload_n 0, 1) := by decide +kernel
theorem dX3_join_119 : decode cX3_join 119 = .ok (.iload 4, 2) := by decide +kernel
theorem dX3_join_121 : decode cX3_join 121 = .ok (.iload 5, 2) := by decide +kernel
theorem dX3_join_123 : decode cX3_join 123 = .ok (.iadd, 1) := by decide +kernel
theorem dX3_join_124 : decode cX3_join 124 = .ok (.iconst 1, 1) := by decide +kernel
theorem dX3_join_125 : decode cX3_join 125 = .ok (.isub, 1) := by decide +kernel
theorem dX3_join_126 : decode cX3_join 126 = .ok (.invokevirtual 108, 3) := by decide +kernel
theorem dX3_join_129 : decode cX3_join 129 = .ok (.ifCond .ne 6, 3) := by decide +kernel
theorem dX3_join_132 : decode cX3_join 132 = .ok (.iconst 0, 1) := by decide +kernel
theorem dX3_join_133 : decode cX3_join 133 = .ok (.istore 7, 2) := by decide +kernel
theorem dX3_join_135 : decode cX3_join 135 = .ok (.iload 7, 2) := by decide +kernel
theorem dX3_join_137 : decode cX3_join 137 = .ok (.ifCond .ne 14, 3) := by decide +kernel
theorem dX3_join_140 : decode cX3_join 140 = .ok (.iload 5, 2) := by decide +kernel
theorem dX3_join_142 : decode cX3_join 142 = .ok (.aload_n 0, 1) := by decide +kernel
theorem dX3_join_143 : decode cX3_join 143 = .ok (.getfield 63, 3) := by decide +kernel
theorem dX3_join_146 : decode cX3_join 146 = .ok (.if_icmp .lt 5, 3) := by decide +kernel
theorem dX3_join_149 : decode cX3_join 149 = .ok (.iconst 0, 1) := by decide +kernel
theorem dX3_join_150 : decode cX3_join 150 = .ok (.ireturn, 1) := by decide +kernel
theorem dX3_join_151 : decode cX3_join 151 = .ok (.iload_n 3, 1) := by decide +kernel
theorem dX3_join_152 : decode cX3_join 152 = .ok (.ifCond .ne 10, 3) := by decide +kernel
theorem dX3_join_155 : decode cX3_join 155 = .ok (.iload 7, 2) := by decide +kernel
theorem dX3_join_157 : decode cX3_join 157 = .ok (.iload 6, 2) := by decide +kernel
theorem dX3_join_159 : decode cX3_join 159 = .ok (.if_icmp .eq 7, 3) := by decide +kernel
theorem dX3_join_162 : decode cX3_join 162 = .ok (.iconst 1, 1) := by decide +kernel
theorem dX3_join_163 : decode cX3_join 163 = .ok (.goto 4, 3) := by decide +kernel
theorem dX3_join_166 : decode cX3_join 166 = .ok (.iconst 0, 1) := by decide +kernel
theorem dX3_join_167 : decode cX3_join 167 = .ok (.istore_n 3, 1) := by decide +kernel
theorem dX3_join_168 : decode cX3_join 168 = .ok (.aload_n 0, 1) := by decide +kernel
theorem dX3_join_169 : decode cX3_join 169 = .ok (.getfield 9, 3) := by decide +kernel
theorem dX3_join_172 : decode cX3_join 172 = .ok (.iload 4, 2) := by decide +kernel
theorem dX3_join_174 : decode cX3_join 174 = .ok (.iload 5, 2) := by decide +kernel
theorem dX3_join_176 : decode cX3_join 176 = .ok (.iadd, 1) := by decide +kernel
theorem dX3_join_177 : decode cX3_join 177 = .ok (.iload 7, 2) := by decide +kernel
theorem dX3_join_179 : decode cX3_join 179 = .ok (.iastore, 1) := by decide +kernel
theorem dX3_join_180 : decode cX3_join 180 = .ok (.iinc 5 1, 3) := by decide +kernel
theorem dX3_join_183 : decode cX3_join 183 = .ok (.goto (-133), 3) := by decide +kernel
theorem dX3_join_186 : decode cX3_join 186 = .ok (.iload_n 3, 1) := by decide +kernel
theorem dX3_join_187 : decode cX3_join 187 = .ok (.ifCond .eq 40, 3) := by decide +kernel
theorem dX3_join_190 : decode cX3_join 190 = .ok (.aload_n 0, 1) := by decide +kernel
theorem dX3_join_191 : decode cX3_join 191 = .ok (.getfield 24, 3) := by decide +kernel
theorem dX3_join_194 : decode cX3_join 194 = .ok (.iload_n 1, 1) := by decide +kernel
theorem dX3_join_195 : decode cX3_join 195 = .ok (.aload_n 2, 1) := by decide +kernel
theorem dX3_join_196 : decode cX3_join 196 = .ok (.getfield 84, 3) := by decide +kernel
theorem dX3_join_199 : decode cX3_join 199 = .ok (.aload_n 0, 1) := by decide +kernel
theorem dX3_join_200 : decode cX3_join 200 = .ok (.getfield 24, 3) := by decide +kernel
theorem dX3_join_203 : decode cX3_join 203 = .ok (.iload_n 1, 1) := by decide +kernel
theorem dX3_join_204 : decode cX3_join 204 = .ok (.iaload, 1) := by decide +kernel
theorem dX3_join_205 : decode cX3_join 205 = .ok (.if_icmp .ge 10, 3) := by decide +kernel
theorem dX3_join_208 : decode cX3_join 208 = .ok (.aload_n 2, 1) := by decide +kernel
theorem dX3_join_209 : decode cX3_join 209 = .ok (.getfield 84, 3) := by decide +kernel
theorem dX3_join_212 : decode cX3_join 212 = .ok (.goto 9, 3) := by decide +kernel
theorem dX3_join_215 : decode cX3_join 215 = .ok (.aload_n 0, 1) := by decide +kernel
theorem dX3_join_216 : decode cX3_join 216 = .ok (.getfield 24, 3) := by decide +kernel
theorem dX3_join_219 : decode cX3_join 219 = .ok (.iload_n 1, 1) := by decide +kernel
theorem dX3_join_220 : decode cX3_join 220 = .ok (.iaload, 1) := by decide +kernel
theorem dX3_join_221 : decode cX3_join 221 = .ok (.iastore, 1) := by decide +kernel
theorem dX3_join_222 : decode cX3_join 222 = .ok (.aload_n 0, 1) := by decide +kernel
theorem dX3_join_223 : decode cX3_join 223 = .ok (.iload_n 1, 1) := by decide +kernel
theorem dX3_join_224 : decode cX3_join 224 = .ok (.invokevirtual 95, 3) := by decide +kernel
theorem dX3_join_227 : decode cX3_join 227 = .ok (.iconst 1, 1) := by decide +kernel
theorem dX3_join_228 : decode cX3_join 228 = .ok (.ireturn, 1) := by decide +kernel
theorem dX3_isWideAt_0 : decode cX3_isWideAt 0 = .ok (.iload_n 1, 1) := by decide +kernel
theorem dX3_isWideAt_1 : decode cX3_isWideAt 1 = .ok (.ifCond .lt 27, 3) := by decide +kernel
theorem dX3_isWideAt_4 : decode cX3_isWideAt 4 = .ok (.aload_n 0, 1) := by decide +kernel
theorem dX3_isWideAt_5 : decode cX3_isWideAt 5 = .ok (.getfield 9, 3) := by decide +kernel
theorem dX3_isWideAt_8 : decode cX3_isWideAt 8 = .ok (.iload_n 1, 1) := by decide +kernel
theorem dX3_isWideAt_9 : decode cX3_isWideAt 9 = .ok (.iaload, 1) := by decide +kernel
theorem dX3_isWideAt_10 : decode cX3_isWideAt 10 = .ok (.iconst 3, 1) := by decide +kernel
theorem dX3_isWideAt_11 : decode cX3_isWideAt 11 = .ok (.if_icmp .eq 13, 3) := by decide +kernel
theorem dX3_isWideAt_14 : decode cX3_isWideAt 14 = .ok (.aload_n 0, 1) := by decide +kernel
theorem dX3_isWideAt_15 : decode cX3_isWideAt 15 = .ok (.getfield 9, 3) := by decide +kernel
theorem dX3_isWideAt_18 : decode cX3_isWideAt 18 = .ok (.iload_n 1, 1) := by decide +kernel
theorem dX3_isWideAt_19 : decode cX3_isWideAt 19 = .ok (.iaload, 1) := by decide +kernel
theorem dX3_isWideAt_20 : decode cX3_isWideAt 20 = .ok (.iconst 4, 1) := by decide +kernel
theorem dX3_isWideAt_21 : decode cX3_isWideAt 21 = .ok (.if_icmp .ne 7, 3) := by decide +kernel
theorem dX3_isWideAt_24 : decode cX3_isWideAt 24 = .ok (.iconst 1, 1) := by decide +kernel
theorem dX3_isWideAt_25 : decode cX3_isWideAt 25 = .ok (.goto 4, 3) := by decide +kernel
theorem dX3_isWideAt_28 : decode cX3_isWideAt 28 = .ok (.iconst 0, 1) := by decide +kernel
theorem dX3_isWideAt_29 : decode cX3_isWideAt 29 = .ok (.ireturn, 1) := by decide +kernel
theorem dX3_await_0 : decode cX3_await 0 = .ok (.aload_n 0, 1) := by decide +kernel
theorem dX3_await_1 : decode cX3_await 1 = .ok (.getfield 33, 3) := by decide +kernel
theorem dX3_await_4 : decode cX3_await 4 = .ok (.iload_n 1, 1) := by decide +kernel
theorem dX3_await_5 : decode cX3_await 5 = .ok (.iaload, 1) := by decide +kernel
theorem dX3_await_6 : decode cX3_await 6 = .ok (.bipush (-2), 2) := by decide +kernel
theorem dX3_await_8 : decode cX3_await 8 = .ok (.if_icmp .eq 4, 3) := by decide +kernel
theorem dX3_await_11 : decode cX3_await 11 = .ok (.return_, 1) := by decide +kernel
theorem dX3_await_12 : decode cX3_await 12 = .ok (.aload_n 0, 1) := by decide +kernel
theorem dX3_await_13 : decode cX3_await 13 = .ok (.getfield 33, 3) := by decide +kernel
theorem dX3_await_16 : decode cX3_await 16 = .ok (.iload_n 1, 1) := by decide +kernel
theorem dX3_await_17 : decode cX3_await 17 = .ok (.iconst (-1), 1) := by decide +kernel
theorem dX3_await_18 : decode cX3_await 18 = .ok (.iastore, 1) := by decide +kernel
theorem dX3_await_19 : decode cX3_await 19 = .ok (.aload_n 0, 1) := by decide +kernel
theorem dX3_await_20 : decode cX3_await 20 = .ok (.getfield 40, 3) := by decide +kernel
theorem dX3_await_23 : decode cX3_await 23 = .ok (.iconst (-1), 1) := by decide +kernel
theorem dX3_await_24 : decode cX3_await 24 = .ok (.if_icmp .ne 11, 3) := by decide +kernel
theorem dX3_await_27 : decode cX3_await 27 = .ok (.aload_n 0, 1) := by decide +kernel
theorem dX3_await_28 : decode cX3_await 28 = .ok (.iload_n 1, 1) := by decide +kernel
theorem dX3_await_29 : decode cX3_await 29 = .ok (.putfield 36, 3) := by decide +kernel
theorem dX3_await_32 : decode cX3_await 32 = .ok (.goto 13, 3) := by decide +kernel
theorem dX3_await_35 : decode cX3_await 35 = .ok (.aload_n 0, 1) := by decide +kernel
theorem dX3_await_36 : decode cX3_await 36 = .ok (.getfield 33, 3) := by decide +kernel
theorem dX3_await_39 : decode cX3_await 39 = .ok (.aload_n 0, 1) := by decide +kernel
theorem dX3_await_40 : decode cX3_await 40 = .ok (.getfield 40, 3) := by decide +kernel
theorem dX3_await_43 : decode cX3_await 43 = .ok (.iload_n 1, 1) := by decide +kernel
theorem dX3_await_44 : decode cX3_await 44 = .ok (.iastore, 1) := by decide +kernel
theorem dX3_await_45 : decode cX3_await 45 = .ok (.aload_n 0, 1) := by decide +kernel
theorem dX3_await_46 : decode cX3_await 46 = .ok (.iload_n 1, 1) := by decide +kernel
theorem dX3_await_47 : decode cX3_await 47 = .ok (.putfield 40, 3) := by decide +kernel
theorem dX3_await_50 : decode cX3_await 50 = .ok (.return_, 1) := by decide +kernel
theorem dX3_isAnyAwaited_0 : decode cX3_isAnyAwaited 0 = .ok (.aload_n 0, 1) := by decide +kernel
theorem dX3_isAnyAwaited_1 : decode cX3_isAnyAwaited 1 = .ok (.getfield 36, 3) := by decide +kernel
theorem dX3_isAnyAwaited_4 : decode cX3_isAnyAwaited 4 = .ok (.iconst (-1), 1) := by decide +kernel
theorem dX3_isAnyAwaited_5 : decode cX3_isAnyAwaited 5 = .ok (.if_icmp .eq 7, 3) := by decide +kernel
theorem dX3_isAnyAwaited_8 : decode cX3_isAnyAwaited 8 = .ok (.iconst 1, 1) := by decide +kernel
theorem dX3_isAnyAwaited_9 : decode cX3_isAnyAwaited 9 = .ok (.goto 4, 3) := by decide +kernel
theorem dX3_isAnyAwaited_12 : decode cX3_isAnyAwaited 12 = .ok (.iconst 0, 1) := by decide +kernel
theorem dX3_isAnyAwaited_13 : decode cX3_isAnyAwaited 13 = .ok (.ireturn, 1) := by decide +kernel
theorem dX3_takeAwaited_0 : decode cX3_takeAwaited 0 = .ok (.aload_n 0, 1) := by decide +kernel
theorem dX3_takeAwaited_1 : decode cX3_takeAwaited 1 = .ok (.getfield 36, 3) := by decide +kernel
theorem dX3_takeAwaited_4 : decode cX3_takeAwaited 4 = .ok (.istore_n 1, 1) := by decide +kernel
theorem dX3_takeAwaited_5 : decode cX3_takeAwaited 5 = .ok (.aload_n 0, 1) := by decide +kernel
theorem dX3_takeAwaited_6 : decode cX3_takeAwaited 6 = .ok (.aload_n 0, 1) := by decide +kernel
theorem dX3_takeAwaited_7 : decode cX3_takeAwaited 7 = .ok (.getfield 33, 3) := by decide +kernel
theorem dX3_takeAwaited_10 : decode cX3_takeAwaited 10 = .ok (.iload_n 1, 1) := by decide +kernel
theorem dX3_takeAwaited_11 : decode cX3_takeAwaited 11 = .ok (.iaload, 1) := by decide +kernel
theorem dX3_takeAwaited_12 : decode cX3_takeAwaited 12 = .ok (.putfield 36, 3) := by decide +kernel
theorem dX3_takeAwaited_15 : decode cX3_takeAwaited 15 = .ok (.aload_n 0, 1) := by decide +kernel
theorem dX3_takeAwaited_16 : decode cX3_takeAwaited 16 = .ok (.getfield 36, 3) := by decide +kernel
theorem dX3_takeAwaited_19 : decode cX3_takeAwaited 19 = .ok (.iconst (-1), 1) := by decide +kernel
theorem dX3_takeAwaited_20 : decode cX3_takeAwaited 20 = .ok (.if_icmp .ne 8, 3) := by decide +kernel
theorem dX3_takeAwaited_23 : decode cX3_takeAwaited 23 = .ok (.aload_n 0, 1) := by decide +kernel
theorem dX3_takeAwaited_24 : decode cX3_takeAwaited 24 = .ok (.iconst (-1), 1) := by decide +kernel
theorem dX3_takeAwaited_25 : decode cX3_takeAwaited 25 = .ok (.putfield 40, 3) := by decide +kernel
theorem dX3_takeAwaited_28 : decode cX3_takeAwaited 28 = .ok (.aload_n 0, 1) := by decide +kernel
theorem dX3_takeAwaited_29 : decode cX3_takeAwaited 29 = .ok (.getfield 33, 3) := by decide +kernel
theorem dX3_takeAwaited_32 : decode cX3_takeAwaited 32 = .ok (.iload_n 1, 1) := by decide +kernel
theorem dX3_takeAwaited_33 : decode cX3_takeAwaited 33 = .ok (.bipush (-2), 2) := by decide +kernel
theorem dX3_takeAwaited_35 : decode cX3_takeAwaited 35 = .ok (.iastore, 1) := by decide +kernel
theorem dX3_takeAwaited_36 : decode cX3_takeAwaited 36 = .ok (.iload_n 1, 1) := by decide +kernel
theorem dX3_takeAwaited_37 : decode cX3_takeAwaited 37 = .ok (.ireturn, 1) := by decide +kernel
set_option maxRecDepth 20000 in
theorem ggX3_arrange_X3_mergeRuns : GoodIn wsX3_arrange wsX3_mergeRuns := goodIn_r _ [10, 2, 1, 5, 11, 12, 13, 9, 14, 3, 15, 16, 17, 18, 19, 20, 21, 22, 23, 24, 25, 26, 27, 28, 29, 30, 31, 32, 33, 34, 35, 36, 37, 38, 39, 40, 41, 42, 43, 44, 45, 46, 47] rfl (by decide +kernel)
set_option maxRecDepth 20000 in
theorem gX3_arrange_X3_mergeRuns : GoodIn wsX3_arrange (wsV RX3 112 RX3 yX3_mergeRuns wsX3_mergeRuns) := goodIn_app (goodIn_of _ (by decide +kernel)) ggX3_arrange_X3_mergeRuns
theorem dX3_arrange_0 : decode cX3_arrange 0 = .ok (.aload_n 0, 1) := by decide +kernel
theorem dX3_arrange_1 : decode cX3_arrange 1 = .ok (.getfield 43, 3) := by decide +kernel
theorem dX3_arrange_4 : decode cX3_arrange 4 = .ok (.arraylength, 1) := by decide +kernel
theorem dX3_arrange_5 : decode cX3_arrange 5 = .ok (.aload_n 0, 1) := by decide +kernel
theorem dX3_arrange_6 : decode cX3_arrange 6 = .ok (.getfield 69, 3) := by decide +kernel
theorem dX3_arrange_9 : decode cX3_arrange 9 = .ok (.if_icmp .ge 25, 3) := by decide +kernel
theorem dX3_arrange_12 : decode cX3_arrange 12 = .ok (.aload_n 0, 1) := by decide +kernel
theorem dX3_arrange_13 : decode cX3_arrange 13 = .ok (.aload_n 0, 1) := by decide +kernel
theorem dX3_arrange_14 : decode cX3_arrange 14 = .ok (.getfield 15, 3) := by decide +kernel
theorem dX3_arrange_17 : decode cX3_arrange 17 = .ok (.arraylength, 1) := by decide +kernel
theorem dX3_arrange_18 : decode cX3_arrange 18 = .ok (.newarray .int, 2) := by decide +kernel
theorem dX3_arrange_20 : decode cX3_arrange 20 = .ok (.putfield 43, 3) := by decide +kernel
theorem dX3_arrange_23 : decode cX3_arrange 23 = .ok (.aload_n 0, 1) := by decide +kernel
theorem dX3_arrange_24 : decode cX3_arrange 24 = .ok (.aload_n 0, 1) := by decide +kernel
theorem dX3_arrange_25 : decode cX3_arrange 25 = .ok (.getfield 15, 3) := by decide +kernel
theorem dX3_arrange_28 : decode cX3_arrange 28 = .ok (.arraylength, 1) := by decide +kernel
theorem dX3_arrange_29 : decode cX3_arrange 29 = .ok (.newarray .int, 2) := by decide +kernel
theorem dX3_arrange_31 : decode cX3_arrange 31 = .ok (.putfield 46, 3) := by decide +kernel
theorem dX3_arrange_34 : decode cX3_arrange 34 = .ok (.iconst 0, 1) := by decide +kernel
theorem dX3_arrange_35 : decode cX3_arrange 35 = .ok (.istore_n 1, 1) := by decide +kernel
theorem dX3_arrange_36 : decode cX3_arrange 36 = .ok (.iload_n 1, 1) := by decide +kernel
theorem dX3_arrange_37 : decode cX3_arrange 37 = .ok (.aload_n 0, 1) := by decide +kernel
theorem dX3_arrange_38 : decode cX3_arrange 38 = .ok (.getfield 69, 3) := by decide +kernel
theorem dX3_arrange_41 : decode cX3_arrange 41 = .ok (.if_icmp .ge 16, 3) := by decide +kernel
theorem dX3_arrange_44 : decode cX3_arrange 44 = .ok (.aload_n 0, 1) := by decide +kernel
theorem dX3_arrange_45 : decode cX3_arrange 45 = .ok (.getfield 43, 3) := by decide +kernel
theorem dX3_arrange_48 : decode cX3_arrange 48 = .ok (.iload_n 1, 1) := by decide +kernel
theorem dX3_arrange_49 : decode cX3_arrange 49 = .ok (.iload_n 1, 1) := by decide +kernel
theorem dX3_arrange_50 : decode cX3_arrange 50 = .ok (.iastore, 1) := by decide +kernel
theorem dX3_arrange_51 : decode cX3_arrange 51 = .ok (.iinc 1 1, 3) := by decide +kernel
theorem dX3_arrange_54 : decode cX3_arrange 54 = .ok (.goto (-18), 3) := by decide +kernel
theorem dX3_arrange_57 : decode cX3_arrange 57 = .ok (.iconst 1, 1) := by decide +kernel
theorem dX3_arrange_58 : decode cX3_arrange 58 = .ok (.istore_n 1, 1) := by decide +kernel
theorem dX3_arrange_59 : decode cX3_arrange 59 = .ok (.iload_n 1, 1) := by decide +kernel
theorem dX3_arrange_60 : decode cX3_arrange 60 = .ok (.aload_n 0, 1) := by decide +kernel
theorem dX3_arrange_61 : decode cX3_arrange 61 = .ok (.getfield 69, 3) := by decide +kernel
theorem dX3_arrange_64 : decode cX3_arrange 64 = .ok (.if_icmp .ge 53, 3) := by decide +kernel
theorem dX3_arrange_67 : decode cX3_arrange 67 = .ok (.iconst 0, 1) := by decide +kernel
theorem dX3_arrange_68 : decode cX3_arrange 68 = .ok (.istore_n 2, 1) := by decide +kernel
theorem dX3_arrange_69 : decode cX3_arrange 69 = .ok (.iload_n 2, 1) := by decide +kernel
theorem dX3_arrange_70 : decode cX3_arrange 70 = .ok (.aload_n 0, 1) := by decide +kernel
theorem dX3_arrange_71 : decode cX3_arrange 71 = .ok (.getfield 69, 3) := by decide +kernel
theorem dX3_arrange_74 : decode cX3_arrange 74 = .ok (.if_icmp .ge 18, 3) := by decide +kernel
theorem dX3_arrange_77 : decode cX3_arrange 77 = .ok (.aload_n 0, 1) := by decide +kernel
theorem dX3_arrange_78 : decode cX3_arrange 78 = .ok (.iload_n 2, 1) := by decide +kernel
theorem dX3_arrange_79 : decode cX3_arrange 79 = .ok (.iload_n 1, 1) := by decide +kernel
theorem dX3_arrange_80 : decode cX3_arrange 80 = .ok (.invokevirtual 112, 3) := by decide +kernel
theorem dX3_arrange_83 : decode cX3_arrange 83 = .ok (.iload_n 2, 1) := by decide +kernel
theorem dX3_arrange_84 : decode cX3_arrange 84 = .ok (.iconst 2, 1) := by decide +kernel
theorem dX3_arrange_85 : decode cX3_arrange 85 = .ok (.iload_n 1, 1) := by decide +kernel
theorem dX3_arrange_86 : decode cX3_arrange 86 = .ok (.imul, 1) := by decide +kernel
theorem dX3_arrange_87 : decode cX3_arrange 87 = .ok (.iadd, 1) := by decide +kernel
theorem dX3_arrange_88 : decode cX3_arrange 88 = .ok (.istore_n 2, 1) := by decide +kernel
theorem dX3_arrange_89 : decode cX3_arrange 89 = .ok (.goto (-20), 3) := by decide +kernel
theorem dX3_arrange_92 : decode cX3_arrange 92 = .ok (.aload_n 0, 1) := by decide +kernel
theorem dX3_arrange_93 : decode cX3_arrange 93 = .ok (.getfield 46, 3) := by decide +kernel
theorem dX3_arrange_96 : decode cX3_arrange 96 = .ok (.astore_n 2, 1) := by decide +kernel
theorem dX3_arrange_97 : decode cX3_arrange 97 = .ok (.aload_n 0, 1) := by decide +kernel
theorem dX3_arrange_98 : decode cX3_arrange 98 = .ok (.aload_n 0, 1) := by decide +kernel
theorem dX3_arrange_99 : decode cX3_arrange 99 = .ok (.getfield 43, 3) := by decide +kernel
theorem dX3_arrange_102 : decode cX3_arrange 102 = .ok (.putfield 46, 3) := by decide +kernel
theorem dX3_arrange_105 : decode cX3_arrange 105 = .ok (.aload_n 0, 1) := by decide +kernel
theorem dX3_arrange_106 : decode cX3_arrange 106 = .ok (.aload_n 2, 1) := by decide +kernel
theorem dX3_arrange_107 : decode cX3_arrange 107 = .ok (.putfield 43, 3) := by decide +kernel
theorem dX3_arrange_110 : decode cX3_arrange 110 = .ok (.iload_n 1, 1) := by decide +kernel
theorem dX3_arrange_111 : decode cX3_arrange 111 = .ok (.iconst 2, 1) := by decide +kernel
theorem dX3_arrange_112 : decode cX3_arrange 112 = .ok (.imul, 1) := by decide +kernel
theorem dX3_arrange_113 : decode cX3_arrange 113 = .ok (.istore_n 1, 1) := by decide +kernel
theorem dX3_arrange_114 : decode cX3_arrange 114 = .ok (.goto (-55), 3) := by decide +kernel
theorem dX3_arrange_117 : decode cX3_arrange 117 = .ok (.return_, 1) := by decide +kernel
set_option maxRecDepth 20000 in
theorem ggX3_mergeRuns_X3_isBefore : GoodIn wsX3_mergeRuns wsX3_isBefore := goodIn_r _ [8, 9, 10, 11, 12, 13, 14, 15, 16, 17, 18, 19, 20, 21, 22, 23, 24, 25, 26, 27, 28, 29, 30, 31, 32, 33, 34, 35, 36, 37, 38, 39, 40, 41, 42] rfl (by decide +kernel)
set_option maxRecDepth 20000 in
theorem gX3_mergeRuns_X3_isBefore : GoodIn wsX3_mergeRuns (wsV RX3 116 RX3 yX3_isBefore wsX3_isBefore) := goodIn_app (goodIn_of _ (by decide +kernel)) ggX3_mergeRuns_X3_isBefore
theorem dX3_mergeRuns_0 : decode cX3_mergeRuns 0 = .ok (.iload_n 1, 1) := by decide +kernel
theorem dX3_mergeRuns_1 : decode cX3_mergeRuns 1 = .ok (.iload_n 2, 1) := by decide +kernel
theorem dX3_mergeRuns_2 : decode cX3_mergeRuns 2 = .ok (.iadd, 1) := by decide +kernel
theorem dX3_mergeRuns_3 : decode cX3_mergeRuns 3 = .ok (.aload_n 0, 1) := by decide +kernel
theorem dX3_mergeRuns_4 : decode cX3_mergeRuns 4 = .ok (.getfield 69, 3) := by decide +kernel
theorem dX3_mergeRuns_7 : decode cX3_mergeRuns 7 = .ok (.if_icmp .ge 9, 3) := by decide +kernel
theorem dX3_mergeRuns_10 : decode cX3_mergeRuns 10 = .ok (.iload_n 1, 1) := by decide +kernel
theorem dX3_mergeRuns_11 : decode cX3_mergeRuns 11 = .ok (.iload_n 2, 1) := by decide +kernel
theorem dX3_mergeRuns_12 : decode cX3_mergeRuns 12 = .ok (.iadd, 1) := by decide +kernel
theorem dX3_mergeRuns_13 : decode cX3_mergeRuns 13 = .ok (.goto 7, 3) := by decide +kernel
theorem dX3_mergeRuns_16 : decode cX3_mergeRuns 16 = .ok (.aload_n 0, 1) := by decide +kernel
theorem dX3_mergeRuns_17 : decode cX3_mergeRuns 17 = .ok (.getfield 69, 3) := by decide +kernel
theorem dX3_mergeRuns_20 : decode cX3_mergeRuns 20 = .ok (.istore_n 3, 1) := by decide +kernel
theorem dX3_mergeRuns_21 : decode cX3_mergeRuns 21 = .ok (.iload_n 3, 1) := by decide +kernel
theorem dX3_mergeRuns_22 : decode cX3_mergeRuns 22 = .ok (.iload_n 2, 1) := by decide +kernel
theorem dX3_mergeRuns_23 : decode cX3_mergeRuns 23 = .ok (.iadd, 1) := by decide +kernel
theorem dX3_mergeRuns_24 : decode cX3_mergeRuns 24 = .ok (.aload_n 0, 1) := by decide +kernel
theorem dX3_mergeRuns_25 : decode cX3_mergeRuns 25 = .ok (.getfield 69, 3) := by decide +kernel
theorem dX3_mergeRuns_28 : decode cX3_mergeRuns 28 = .ok (.if_icmp .ge 9, 3) := by decide +kernel
theorem dX3_mergeRuns_31 : decode cX3_mergeRuns 31 = .ok (.iload_n 3, 1) := by decide +kernel
theorem dX3_mergeRuns_32 : decode cX3_mergeRuns 32 = .ok (.iload_n 2, 1) := by decide +kernel
theorem dX3_mergeRuns_33 : decode cX3_mergeRuns 33 = .ok (.iadd, 1) := by decide +kernel
theorem dX3_mergeRuns_34 : decode cX3_mergeRuns 34 = .ok (.goto 7, 3) := by decide +kernel
theorem dX3_mergeRuns_37 : decode cX3_mergeRuns 37 = .ok (.aload_n 0, 1) := by decide +kernel
theorem dX3_mergeRuns_38 : decode cX3_mergeRuns 38 = .ok (.getfield 69, 3) := by decide +kernel
theorem dX3_mergeRuns_41 : decode cX3_mergeRuns 41 = .ok (.istore 4, 2) := by decide +kernel
theorem dX3_mergeRuns_43 : decode cX3_mergeRuns 43 = .ok (.iload_n 1, 1) := by decide +kernel
theorem dX3_mergeRuns_44 : decode cX3_mergeRuns 44 = .ok (.istore 5, 2) := by decide +kernel
theorem dX3_mergeRuns_46 : decode cX3_mergeRuns 46 = .ok (.iload_n 3, 1) := by decide +kernel
theorem dX3_mergeRuns_47 : decode cX3_mergeRuns 47 = .ok (.istore 6, 2) := by decide +kernel
theorem dX3_mergeRuns_49 : decode cX3_mergeRuns 49 = .ok (.iload_n 1, 1) := by decide +kernel
theorem dX3_mergeRuns_50 : decode cX3_mergeRuns 50 = .ok (.istore 7, 2) := by decide +kernel
theorem dX3_mergeRuns_52 : decode cX3_mergeRuns 52 = .ok (.iload 7, 2) := by decide +kernel
theorem dX3_mergeRuns_54 : decode cX3_mergeRuns 54 = .ok (.iload 4, 2) := by decide +kernel
theorem dX3_mergeRuns_56 : decode cX3_mergeRuns 56 = .ok (.if_icmp .ge 93, 3) := by decide +kernel
theorem dX3_mergeRuns_59 : decode cX3_mergeRuns 59 = .ok (.iload 6, 2) := by decide +kernel
theorem dX3_mergeRuns_61 : decode cX3_mergeRuns 61 = .ok (.iload 4, 2) := by decide +kernel
theorem dX3_mergeRuns_63 : decode cX3_mergeRuns 63 = .ok (.if_icmp .ge 30, 3) := by decide +kernel
theorem dX3_mergeRuns_66 : decode cX3_mergeRuns 66 = .ok (.iload 5, 2) := by decide +kernel
theorem dX3_mergeRuns_68 : decode cX3_mergeRuns 68 = .ok (.iload_n 3, 1) := by decide +kernel
theorem dX3_mergeRuns_69 : decode cX3_mergeRuns 69 = .ok (.if_icmp .ge 28, 3) := by decide +kernel
theorem dX3_mergeRuns_72 : decode cX3_mergeRuns 72 = .ok (.aload_n 0, 1) := by decide +kernel
theorem dX3_mergeRuns_73 : decode cX3_mergeRuns 73 = .ok (.aload_n 0, 1) := by decide +kernel
theorem dX3_mergeRuns_74 : decode cX3_mergeRuns 74 = .ok (.getfield 43, 3) := by decide +kernel
theorem dX3_mergeRuns_77 : decode cX3_mergeRuns 77 = .ok (.iload 6, 2) := by decide +kernel
theorem dX3_mergeRuns_79 : decode cX3_mergeRuns 79 = .ok (.iaload, 1) := by decide +kernel
theorem dX3_mergeRuns_80 : decode cX3_mergeRuns 80 = .ok (.aload_n 0, 1) := by decide +kernel
theorem dX3_mergeRuns_81 : decode cX3_mergeRuns 81 = .ok (.getfield 43, 3) := by decide +kernel
theorem dX3_mergeRuns_84 : decode cX3_mergeRuns 84 = .ok (.iload 5, 2) := by decide +kernel
theorem dX3_mergeRuns_86 : decode cX3_mergeRuns 86 = .ok (.iaload, 1) := by decide +kernel
theorem dX3_mergeRuns_87 : decode cX3_mergeRuns 87 = .ok (.invokevirtual 116, 3) := by decide +kernel
theorem dX3_mergeRuns_90 : decode cX3_mergeRuns 90 = .ok (.ifCond .ne 7, 3) := by decide +kernel
theorem dX3_mergeRuns_93 : decode cX3_mergeRuns 93 = .ok (.iconst 1, 1) := by decide +kernel
theorem dX3_mergeRuns_94 : decode cX3_mergeRuns 94 = .ok (.goto 4, 3) := by decide +kernel
theorem dX3_mergeRuns_97 : decode cX3_mergeRuns 97 = .ok (.iconst 0, 1) := by decide +kernel
theorem dX3_mergeRuns_98 : decode cX3_mergeRuns 98 = .ok (.istore 8, 2) := by decide +kernel
theorem dX3_mergeRuns_100 : decode cX3_mergeRuns 100 = .ok (.aload_n 0, 1) := by decide +kernel
theorem dX3_mergeRuns_101 : decode cX3_mergeRuns 101 = .ok (.getfield 46, 3) := by decide +kernel
theorem dX3_mergeRuns_104 : decode cX3_mergeRuns 104 = .ok (.iload 7, 2) := by decide +kernel
theorem dX3_mergeRuns_106 : decode cX3_mergeRuns 106 = .ok (.iload 8, 2) := by decide +kernel
theorem dX3_mergeRuns_108 : decode cX3_mergeRuns 108 = .ok (.ifCond .eq 13, 3) := by decide +kernel
theorem dX3_mergeRuns_111 : decode cX3_mergeRuns 111 = .ok (.aload_n 0, 1) := by decide +kernel
theorem dX3_mergeRuns_112 : decode cX3_mergeRuns 112 = .ok (.getfield 43, 3) := by decide +kernel
theorem dX3_mergeRuns_115 : decode cX3_mergeRuns 115 = .ok (.iload 5, 2) := by decide +kernel
theorem dX3_mergeRuns_117 : decode cX3_mergeRuns 117 = .ok (.iaload, 1) := by decide +kernel
theorem dX3_mergeRuns_118 : decode cX3_mergeRuns 118 = .ok (.goto 10, 3) := by decide +kernel
theorem dX3_mergeRuns_121 : decode cX3_mergeRuns 121 = .ok (.aload_n 0, 1) := by decide +kernel
theorem dX3_mergeRuns_122 : decode cX3_mergeRuns 122 = .ok (.getfield 43, 3) := by decide +kernel
theorem dX3_mergeRuns_125 : decode cX3_mergeRuns 125 = .ok (.iload 6, 2) := by decide +kernel
theorem dX3_mergeRuns_127 : decode cX3_mergeRuns 127 = .ok (.iaload, 1) := by decide +kernel
theorem dX3_mergeRuns_128 : decode cX3_mergeRuns 128 = .ok (.iastore, 1) := by decide +kernel
theorem dX3_mergeRuns_129 : decode cX3_mergeRuns 129 = .ok (.iload 8, 2) := by decide +kernel
theorem dX3_mergeRuns_131 : decode cX3_mergeRuns 131 = .ok (.ifCond .eq 9, 3) := by decide +kernel
theorem dX3_mergeRuns_134 : decode cX3_mergeRuns 134 = .ok (.iinc 5 1, 3) := by decide +kernel
theorem dX3_mergeRuns_137 : decode cX3_mergeRuns 137 = .ok (.goto 6, 3) := by decide +kernel
theorem dX3_mergeRuns_140 : decode cX3_mergeRuns 140 = .ok (.iinc 6 1, 3) := by decide +kernel
theorem dX3_mergeRuns_143 : decode cX3_mergeRuns 143 = .ok (.iinc 7 1, 3) := by decide +kernel
theorem dX3_mergeRuns_146 : decode cX3_mergeRuns 146 = .ok (.goto (-94), 3) := by decide +kernel
theorem dX3_mergeRuns_149 : decode cX3_mergeRuns 149 = .ok (.return_, 1) := by decide +kernel
set_option maxRecDepth 20000 in
theorem ggX3_isBefore_X1_isBefore : GoodIn wsX3_isBefore wsX1_isBefore := goodIn_r _ [8, 9, 10, 11, 29, 30, 31, 32, 33, 34] rfl (by decide +kernel)
set_option maxRecDepth 20000 in
theorem gX3_isBefore_X1_isBefore : GoodIn wsX3_isBefore (wsV RX3 120 RX1 yX1_isBefore wsX1_isBefore) := goodIn_app (goodIn_of _ (by decide +kernel)) ggX3_isBefore_X1_isBefore
theorem dX3_isBefore_0 : decode cX3_isBefore 0 = .ok (.aload_n 0, 1) := by decide +kernel
theorem dX3_isBefore_1 : decode cX3_isBefore 1 = .ok (.getfield 15, 3) := by decide +kernel
theorem dX3_isBefore_4 : decode cX3_isBefore 4 = .ok (.iload_n 1, 1) := by decide +kernel
theorem dX3_isBefore_5 : decode cX3_isBefore 5 = .ok (.iaload, 1) := by decide +kernel
theorem dX3_isBefore_6 : decode cX3_isBefore 6 = .ok (.aload_n 0, 1) := by decide +kernel
theorem dX3_isBefore_7 : decode cX3_isBefore 7 = .ok (.getfield 15, 3) := by decide +kernel
theorem dX3_isBefore_10 : decode cX3_isBefore 10 = .ok (.iload_n 2, 1) := by decide +kernel
theorem dX3_isBefore_11 : decode cX3_isBefore 11 = .ok (.iaload, 1) := by decide +kernel
theorem dX3_isBefore_12 : decode cX3_isBefore 12 = .ok (.if_icmp .eq 24, 3) := by decide +kernel
theorem dX3_isBefore_15 : decode cX3_isBefore 15 = .ok (.aload_n 0, 1) := by decide +kernel
theorem dX3_isBefore_16 : decode cX3_isBefore 16 = .ok (.getfield 15, 3) := by decide +kernel
theorem dX3_isBefore_19 : decode cX3_isBefore 19 = .ok (.iload_n 1, 1) := by decide +kernel
theorem dX3_isBefore_20 : decode cX3_isBefore 20 = .ok (.iaload, 1) := by decide +kernel
theorem dX3_isBefore_21 : decode cX3_isBefore 21 = .ok (.aload_n 0, 1) := by decide +kernel
theorem dX3_isBefore_22 : decode cX3_isBefore 22 = .ok (.getfield 15, 3) := by decide +kernel
theorem dX3_isBefore_25 : decode cX3_isBefore 25 = .ok (.iload_n 2, 1) := by decide +kernel
theorem dX3_isBefore_26 : decode cX3_isBefore 26 = .ok (.iaload, 1) := by decide +kernel
theorem dX3_isBefore_27 : decode cX3_isBefore 27 = .ok (.if_icmp .ge 7, 3) := by decide +kernel
theorem dX3_isBefore_30 : decode cX3_isBefore 30 = .ok (.iconst 1, 1) := by decide +kernel
theorem dX3_isBefore_31 : decode cX3_isBefore 31 = .ok (.goto 4, 3) := by decide +kernel
theorem dX3_isBefore_34 : decode cX3_isBefore 34 = .ok (.iconst 0, 1) := by decide +kernel
theorem dX3_isBefore_35 : decode cX3_isBefore 35 = .ok (.ireturn, 1) := by decide +kernel
theorem dX3_isBefore_36 : decode cX3_isBefore 36 = .ok (.aload_n 0, 1) := by decide +kernel
theorem dX3_isBefore_37 : decode cX3_isBefore 37 = .ok (.getfield 53, 3) := by decide +kernel
theorem dX3_isBefore_40 : decode cX3_isBefore 40 = .ok (.aload_n 0, 1) := by decide +kernel
theorem dX3_isBefore_41 : decode cX3_isBefore 41 = .ok (.getfield 18, 3) := by decide +kernel
theorem dX3_isBefore_44 : decode cX3_isBefore 44 = .ok (.iload_n 1, 1) := by decide +kernel
theorem dX3_isBefore_45 : decode cX3_isBefore 45 = .ok (.iaload, 1) := by decide +kernel
theorem dX3_isBefore_46 : decode cX3_isBefore 46 = .ok (.aload_n 0, 1) := by decide +kernel
theorem dX3_isBefore_47 : decode cX3_isBefore 47 = .ok (.getfield 18, 3) := by decide +kernel
theorem dX3_isBefore_50 : decode cX3_isBefore 50 = .ok (.iload_n 2, 1) := by decide +kernel
theorem dX3_isBefore_51 : decode cX3_isBefore 51 = .ok (.iaload, 1) := by decide +kernel
theorem dX3_isBefore_52 : decode cX3_isBefore 52 = .ok (.invokevirtual 120, 3) := by decide +kernel
theorem dX3_isBefore_55 : decode cX3_isBefore 55 = .ok (.ireturn, 1) := by decide +kernel
theorem dX3_factOf_0 : decode cX3_factOf 0 = .ok (.iload_n 1, 1) := by decide +kernel
theorem dX3_factOf_1 : decode cX3_factOf 1 = .ok (.ifCond .lt 11, 3) := by decide +kernel
theorem dX3_factOf_4 : decode cX3_factOf 4 = .ok (.iload_n 1, 1) := by decide +kernel
theorem dX3_factOf_5 : decode cX3_factOf 5 = .ok (.aload_n 0, 1) := by decide +kernel
theorem dX3_factOf_6 : decode cX3_factOf 6 = .ok (.getfield 69, 3) := by decide +kernel
theorem dX3_factOf_9 : decode cX3_factOf 9 = .ok (.if_icmp .lt 5, 3) := by decide +kernel
theorem dX3_factOf_12 : decode cX3_factOf 12 = .ok (.iconst (-1), 1) := by decide +kernel
theorem dX3_factOf_13 : decode cX3_factOf 13 = .ok (.ireturn, 1) := by decide +kernel
theorem dX3_factOf_14 : decode cX3_factOf 14 = .ok (.aload_n 0, 1) := by decide +kernel
theorem dX3_factOf_15 : decode cX3_factOf 15 = .ok (.getfield 43, 3) := by decide +kernel
theorem dX3_factOf_18 : decode cX3_factOf 18 = .ok (.iload_n 1, 1) := by decide +kernel
theorem dX3_factOf_19 : decode cX3_factOf 19 = .ok (.iaload, 1) := by decide +kernel
theorem dX3_factOf_20 : decode cX3_factOf 20 = .ok (.istore_n 3, 1) := by decide +kernel
theorem dX3_factOf_21 : decode cX3_factOf 21 = .ok (.iload_n 2, 1) := by decide +kernel
theorem dX3_factOf_22 : decode cX3_factOf 22 = .ok (.tableswitch 55 0 2 #[26, 33, 48], 26) := by decide +kernel
theorem dX3_factOf_48 : decode cX3_factOf 48 = .ok (.aload_n 0, 1) := by decide +kernel
theorem dX3_factOf_49 : decode cX3_factOf 49 = .ok (.getfield 15, 3) := by decide +kernel
theorem dX3_factOf_52 : decode cX3_factOf 52 = .ok (.iload_n 3, 1) := by decide +kernel
theorem dX3_factOf_53 : decode cX3_factOf 53 = .ok (.iaload, 1) := by decide +kernel
theorem dX3_factOf_54 : decode cX3_factOf 54 = .ok (.ireturn, 1) := by decide +kernel
theorem dX3_factOf_55 : decode cX3_factOf 55 = .ok (.aload_n 0, 1) := by decide +kernel
theorem dX3_factOf_56 : decode cX3_factOf 56 = .ok (.getfield 53, 3) := by decide +kernel
theorem dX3_factOf_59 : decode cX3_factOf 59 = .ok (.getfield 123, 3) := by decide +kernel
theorem dX3_factOf_62 : decode cX3_factOf 62 = .ok (.aload_n 0, 1) := by decide +kernel
theorem dX3_factOf_63 : decode cX3_factOf 63 = .ok (.getfield 18, 3) := by decide +kernel
theorem dX3_factOf_66 : decode cX3_factOf 66 = .ok (.iload_n 3, 1) := by decide +kernel
theorem dX3_factOf_67 : decode cX3_factOf 67 = .ok (.iaload, 1) := by decide +kernel
theorem dX3_factOf_68 : decode cX3_factOf 68 = .ok (.iaload, 1) := by decide +kernel
theorem dX3_factOf_69 : decode cX3_factOf 69 = .ok (.ireturn, 1) := by decide +kernel
theorem dX3_factOf_70 : decode cX3_factOf 70 = .ok (.aload_n 0, 1) := by decide +kernel
theorem dX3_factOf_71 : decode cX3_factOf 71 = .ok (.getfield 21, 3) := by decide +kernel
theorem dX3_factOf_74 : decode cX3_factOf 74 = .ok (.iload_n 3, 1) := by decide +kernel
theorem dX3_factOf_75 : decode cX3_factOf 75 = .ok (.iaload, 1) := by decide +kernel
theorem dX3_factOf_76 : decode cX3_factOf 76 = .ok (.ireturn, 1) := by decide +kernel
theorem dX3_factOf_77 : decode cX3_factOf 77 = .ok (.aload_n 0, 1) := by decide +kernel
theorem dX3_factOf_78 : decode cX3_factOf 78 = .ok (.getfield 24, 3) := by decide +kernel
theorem dX3_factOf_81 : decode cX3_factOf 81 = .ok (.iload_n 3, 1) := by decide +kernel
theorem dX3_factOf_82 : decode cX3_factOf 82 = .ok (.iaload, 1) := by decide +kernel
theorem dX3_factOf_83 : decode cX3_factOf 83 = .ok (.ireturn, 1) := by decide +kernel
set_option maxRecDepth 20000 in
theorem ggX3_addressOf_X1_addressAt : GoodIn wsX3_addressOf wsX1_addressAt := goodIn_r _ [9, 10, 11, 12, 30, 31, 32, 33, 34, 35] rfl (by decide +kernel)
set_option maxRecDepth 20000 in
theorem gX3_addressOf_X1_addressAt : GoodIn wsX3_addressOf (wsV RX3 126 RX1 yX1_addressAt wsX1_addressAt) := goodIn_app (goodIn_of _ (by decide +kernel)) ggX3_addressOf_X1_addressAt
theorem dX3_addressOf_0 : decode cX3_addressOf 0 = .ok (.iload_n 1, 1) := by decide +kernel
theorem dX3_addressOf_1 : decode cX3_addressOf 1 = .ok (.ifCond .lt 15, 3) := by decide +kernel
theorem dX3_addressOf_4 : decode cX3_addressOf 4 = .ok (.iload_n 1, 1) := by decide +kernel
theorem dX3_addressOf_5 : decode cX3_addressOf 5 = .ok (.aload_n 0, 1) := by decide +kernel
theorem dX3_addressOf_6 : decode cX3_addressOf 6 = .ok (.getfield 69, 3) := by decide +kernel
theorem dX3_addressOf_9 : decode cX3_addressOf 9 = .ok (.if_icmp .ge 7, 3) := by decide +kernel
theorem dX3_addressOf_12 : decode cX3_addressOf 12 = .ok (.iload_n 2, 1) := by decide +kernel
theorem dX3_addressOf_13 : decode cX3_addressOf 13 = .ok (.ifCond .ge 5, 3) := by decide +kernel
theorem dX3_addressOf_16 : decode cX3_addressOf 16 = .ok (.iconst (-1), 1) := by decide +kernel
theorem dX3_addressOf_17 : decode cX3_addressOf 17 = .ok (.ireturn, 1) := by decide +kernel
theorem dX3_addressOf_18 : decode cX3_addressOf 18 = .ok (.aload_n 0, 1) := by decide +kernel
theorem dX3_addressOf_19 : decode cX3_addressOf 19 = .ok (.getfield 18, 3) := by decide +kernel
theorem dX3_addressOf_22 : decode cX3_addressOf 22 = .ok (.aload_n 0, 1) := by decide +kernel
theorem dX3_addressOf_23 : decode cX3_addressOf 23 = .ok (.getfield 43, 3) := by decide +kernel
theorem dX3_addressOf_26 : decode cX3_addressOf 26 = .ok (.iload_n 1, 1) := by decide +kernel
theorem dX3_addressOf_27 : decode cX3_addressOf 27 = .ok (.iaload, 1) := by decide +kernel
theorem dX3_addressOf_28 : decode cX3_addressOf 28 = .ok (.iaload, 1) := by decide +kernel
theorem dX3_addressOf_29 : decode cX3_addressOf 29 = .ok (.istore_n 3, 1) := by decide +kernel
theorem dX3_addressOf_30 : decode cX3_addressOf 30 = .ok (.iload_n 2, 1) := by decide +kernel
theorem dX3_addressOf_31 : decode cX3_addressOf 31 = .ok (.aload_n 0, 1) := by decide +kernel
theorem dX3_addressOf_32 : decode cX3_addressOf 32 = .ok (.getfield 53, 3) := by decide +kernel
theorem dX3_addressOf_35 : decode cX3_addressOf 35 = .ok (.getfield 123, 3) := by decide +kernel
theorem dX3_addressOf_38 : decode cX3_addressOf 38 = .ok (.iload_n 3, 1) := by decide +kernel
theorem dX3_addressOf_39 : decode cX3_addressOf 39 = .ok (.iaload, 1) := by decide +kernel
theorem dX3_addressOf_40 : decode cX3_addressOf 40 = .ok (.if_icmp .ge 15, 3) := by decide +kernel
theorem dX3_addressOf_43 : decode cX3_addressOf 43 = .ok (.aload_n 0, 1) := by decide +kernel
theorem dX3_addressOf_44 : decode cX3_addressOf 44 = .ok (.getfield 53, 3) := by decide +kernel
theorem dX3_addressOf_47 : decode cX3_addressOf 47 = .ok (.iload_n 3, 1) := by decide +kernel
theorem dX3_addressOf_48 : decode cX3_addressOf 48 = .ok (.iload_n 2, 1) := by decide +kernel
theorem dX3_addressOf_49 : decode cX3_addressOf 49 = .ok (.invokevirtual 126, 3) := by decide +kernel
theorem dX3_addressOf_52 : decode cX3_addressOf 52 = .ok (.goto 4, 3) := by decide +kernel
theorem dX3_addressOf_55 : decode cX3_addressOf 55 = .ok (.iconst (-1), 1) := by decide +kernel
theorem dX3_addressOf_56 : decode cX3_addressOf 56 = .ok (.ireturn, 1) := by decide +kernel
theorem dX3_placeOf_0 : decode cX3_placeOf 0 = .ok (.iload_n 1, 1) := by decide +kernel
theorem dX3_placeOf_1 : decode cX3_placeOf 1 = .ok (.ifCond .lt 15, 3) := by decide +kernel
theorem dX3_placeOf_4 : decode cX3_placeOf 4 = .ok (.iload_n 1, 1) := by decide +kernel
theorem dX3_placeOf_5 : decode cX3_placeOf 5 = .ok (.aload_n 0, 1) := by decide +kernel
theorem dX3_placeOf_6 : decode cX3_placeOf 6 = .ok (.getfield 69, 3) := by decide +kernel
theorem dX3_placeOf_9 : decode cX3_placeOf 9 = .ok (.if_icmp .ge 7, 3) := by decide +kernel
theorem dX3_placeOf_12 : decode cX3_placeOf 12 = .ok (.iload_n 2, 1) := by decide +kernel
theorem dX3_placeOf_13 : decode cX3_placeOf 13 = .ok (.ifCond .ge 5, 3) := by decide +kernel
theorem dX3_placeOf_16 : decode cX3_placeOf 16 = .ok (.iconst (-1), 1) := by decide +kernel
theorem dX3_placeOf_17 : decode cX3_placeOf 17 = .ok (.ireturn, 1) := by decide +kernel
theorem dX3_placeOf_18 : decode cX3_placeOf 18 = .ok (.aload_n 0, 1) := by decide +kernel
theorem dX3_placeOf_19 : decode cX3_placeOf 19 = .ok (.getfield 43, 3) := by decide +kernel
theorem dX3_placeOf_22 : decode cX3_placeOf 22 = .ok (.iload_n 1, 1) := by decide +kernel
theorem dX3_placeOf_23 : decode cX3_placeOf 23 = .ok (.iaload, 1) := by decide +kernel
theorem dX3_placeOf_24 : decode cX3_placeOf 24 = .ok (.istore_n 3, 1) := by decide +kernel
theorem dX3_placeOf_25 : decode cX3_placeOf 25 = .ok (.iload_n 2, 1) := by decide +kernel
theorem dX3_placeOf_26 : decode cX3_placeOf 26 = .ok (.aload_n 0, 1) := by decide +kernel
theorem dX3_placeOf_27 : decode cX3_placeOf 27 = .ok (.getfield 63, 3) := by decide +kernel
theorem dX3_placeOf_30 : decode cX3_placeOf 30 = .ok (.aload_n 0, 1) := by decide +kernel
theorem dX3_placeOf_31 : decode cX3_placeOf 31 = .ok (.getfield 21, 3) := by decide +kernel
theorem dX3_placeOf_34 : decode cX3_placeOf 34 = .ok (.iload_n 3, 1) := by decide +kernel
theorem dX3_placeOf_35 : decode cX3_placeOf 35 = .ok (.iaload, 1) := by decide +kernel
theorem dX3_placeOf_36 : decode cX3_placeOf 36 = .ok (.iadd, 1) := by decide +kernel
theorem dX3_placeOf_37 : decode cX3_placeOf 37 = .ok (.if_icmp .ge 19, 3) := by decide +kernel
theorem dX3_placeOf_40 : decode cX3_placeOf 40 = .ok (.aload_n 0, 1) := by decide +kernel
theorem dX3_placeOf_41 : decode cX3_placeOf 41 = .ok (.getfield 9, 3) := by decide +kernel
theorem dX3_placeOf_44 : decode cX3_placeOf 44 = .ok (.iload_n 3, 1) := by decide +kernel
theorem dX3_placeOf_45 : decode cX3_placeOf 45 = .ok (.aload_n 0, 1) := by decide +kernel
theorem dX3_placeOf_46 : decode cX3_placeOf 46 = .ok (.getfield 66, 3) := by decide +kernel
theorem dX3_placeOf_49 : decode cX3_placeOf 49 = .ok (.imul, 1) := by decide +kernel
theorem dX3_placeOf_50 : decode cX3_placeOf 50 = .ok (.iload_n 2, 1) := by decide +kernel
theorem dX3_placeOf_51 : decode cX3_placeOf 51 = .ok (.iadd, 1) := by decide +kernel
theorem dX3_placeOf_52 : decode cX3_placeOf 52 = .ok (.iaload, 1) := by decide +kernel
theorem dX3_placeOf_53 : decode cX3_placeOf 53 = .ok (.goto 4, 3) := by decide +kernel
theorem dX3_placeOf_56 : decode cX3_placeOf 56 = .ok (.iconst (-1), 1) := by decide +kernel
theorem dX3_placeOf_57 : decode cX3_placeOf 57 = .ok (.ireturn, 1) := by decide +kernel
theorem dX4_init_0 : decode cX4_init 0 = .ok (.aload_n 0, 1) := by decide +kernel
theorem dX4_init_1 : decode cX4_init 1 = .ok (.invokespecial 3, 3) := by decide +kernel
theorem dX4_init_4 : decode cX4_init 4 = .ok (.aload_n 0, 1) := by decide +kernel
theorem dX4_init_5 : decode cX4_init 5 = .ok (.bipush 100, 2) := by decide +kernel
theorem dX4_init_7 : decode cX4_init 7 = .ok (.newarray .int, 2) := by decide +kernel
theorem dX4_init_9 : decode cX4_init 9 = .ok (.putfield 9, 3) := by decide +kernel
theorem dX4_init_12 : decode cX4_init 12 = .ok (.aload_n 0, 1) := by decide +kernel
theorem dX4_init_13 : decode cX4_init 13 = .ok (.bipush 100, 2) := by decide +kernel
theorem dX4_init_15 : decode cX4_init 15 = .ok (.newarray .int, 2) := by decide +kernel
theorem dX4_init_17 : decode cX4_init 17 = .ok (.putfield 15, 3) := by decide +kernel
theorem dX4_init_20 : decode cX4_init 20 = .ok (.aload_n 0, 1) := by decide +kernel
theorem dX4_init_21 : decode cX4_init 21 = .ok (.bipush 100, 2) := by decide +kernel
theorem dX4_init_23 : decode cX4_init 23 = .ok (.newarray .int, 2) := by decide +kernel
theorem dX4_init_25 : decode cX4_init 25 = .ok (.putfield 18, 3) := by decide +kernel
theorem dX4_init_28 : decode cX4_init 28 = .ok (.aload_n 0, 1) := by decide +kernel
theorem dX4_init_29 : decode cX4_init 29 = .ok (.bipush 100, 2) := by decide +kernel
theorem dX4_init_31 : decode cX4_init 31 = .ok (.newarray .int, 2) := by decide +kernel
theorem dX4_init_33 : decode cX4_init 33 = .ok (.putfield 21, 3) := by decide +kernel
theorem dX4_init_36 : decode cX4_init 36 = .ok (.aload_n 0, 1) := by decide +kernel
theorem dX4_init_37 : decode cX4_init 37 = .ok (.bipush 100, 2) := by decide +kernel
theorem dX4_init_39 : decode cX4_init 39 = .ok (.newarray .boolean, 2) := by decide +kernel
theorem dX4_init_41 : decode cX4_init 41 = .ok (.putfield 24, 3) := by decide +kernel
theorem dX4_init_44 : decode cX4_init 44 = .ok (.aload_n 0, 1) := by decide +kernel
theorem dX4_init_45 : decode cX4_init 45 = .ok (.sipush 2000, 3) := by decide +kernel
theorem dX4_init_48 : decode cX4_init 48 = .ok (.newarray .int, 2) := by decide +kernel
theorem dX4_init_50 : decode cX4_init 50 = .ok (.putfield 28, 3) := by decide +kernel
theorem dX4_init_53 : decode cX4_init 53 = .ok (.aload_n 0, 1) := by decide +kernel
theorem dX4_init_54 : decode cX4_init 54 = .ok (.bipush 100, 2) := by decide +kernel
theorem dX4_init_56 : decode cX4_init 56 = .ok (.newarray .int, 2) := by decide +kernel
theorem dX4_init_58 : decode cX4_init 58 = .ok (.putfield 31, 3) := by decide +kernel
theorem dX4_init_61 : decode cX4_init 61 = .ok (.return_, 1) := by decide +kernel
theorem dX4_enterField_0 : decode cX4_enterField 0 = .ok (.aload_n 0, 1) := by decide +kernel
theorem dX4_enterField_1 : decode cX4_enterField 1 = .ok (.getfield 9, 3) := by decide +kernel
theorem dX4_enterField_4 : decode cX4_enterField 4 = .ok (.aload_n 0, 1) := by decide +kernel
theorem dX4_enterField_5 : decode cX4_enterField 5 = .ok (.getfield 34, 3) := by decide +kernel
theorem dX4_enterField_8 : decode cX4_enterField 8 = .ok (.iload_n 1, 1) := by decide +kernel
theorem dX4_enterField_9 : decode cX4_enterField 9 = .ok (.iastore, 1) := by decide +kernel
theorem dX4_enterField_10 : decode cX4_enterField 10 = .ok (.aload_n 0, 1) := by decide +kernel
theorem dX4_enterField_11 : decode cX4_enterField 11 = .ok (.getfield 15, 3) := by decide +kernel
theorem dX4_enterField_14 : decode cX4_enterField 14 = .ok (.aload_n 0, 1) := by decide +kernel
theorem dX4_enterField_15 : decode cX4_enterField 15 = .ok (.getfield 34, 3) := by decide +kernel
theorem dX4_enterField_18 : decode cX4_enterField 18 = .ok (.iload_n 2, 1) := by decide +kernel
theorem dX4_enterField_19 : decode cX4_enterField 19 = .ok (.iastore, 1) := by decide +kernel
theorem dX4_enterField_20 : decode cX4_enterField 20 = .ok (.aload_n 0, 1) := by decide +kernel
theorem dX4_enterField_21 : decode cX4_enterField 21 = .ok (.dup, 1) := by decide +kernel
theorem dX4_enterField_22 : decode cX4_enterField 22 = .ok (.getfield 34, 3) := by decide +kernel
theorem dX4_enterField_25 : decode cX4_enterField 25 = .ok (.dup_x1, 1) := by decide +kernel
theorem dX4_enterField_26 : decode cX4_enterField 26 = .ok (.iconst 1, 1) := by decide +kernel
theorem dX4_enterField_27 : decode cX4_enterField 27 = .ok (.iadd, 1) := by decide +kernel
theorem dX4_enterField_28 : decode cX4_enterField 28 = .ok (.putfield 34, 3) := by decide +kernel
theorem dX4_enterField_31 : decode cX4_enterField 31 = .ok (.ireturn, 1) := by decide +kernel
theorem dX4_enterShape_0 : decode cX4_enterShape 0 = .ok (.aload_n 0, 1) := by decide +kernel
theorem dX4_enterShape_1 : decode cX4_enterShape 1 = .ok (.getfield 18, 3) := by decide +kernel
theorem dX4_enterShape_4 : decode cX4_enterShape 4 = .ok (.aload_n 0, 1) := by decide +kernel
theorem dX4_enterShape_5 : decode cX4_enterShape 5 = .ok (.getfield 38, 3) := by decide +kernel
theorem dX4_enterShape_8 : decode cX4_enterShape 8 = .ok (.iload_n 1, 1) := by decide +kernel
theorem dX4_enterShape_9 : decode cX4_enterShape 9 = .ok (.iastore, 1) := by decide +kernel
theorem dX4_enterShape_10 : decode cX4_enterShape 10 = .ok (.aload_n 0, 1) := by decide +kernel
theorem dX4_enterShape_11 : decode cX4_enterShape 11 = .ok (.getfield 21, 3) := by decide +kernel
theorem dX4_enterShape_14 : decode cX4_enterShape 14 = .ok (.aload_n 0, 1) := by decide +kernel
theorem dX4_enterShape_15 : decode cX4_enterShape 15 = .ok (.getfield 38, 3) := by decide +kernel
theorem dX4_enterShape_18 : decode cX4_enterShape 18 = .ok (.iload_n 2, 1) := by decide +kernel
theorem dX4_enterShape_19 : decode cX4_enterShape 19 = .ok (.iastore, 1) := by decide +kernel
theorem dX4_enterShape_20 : decode cX4_enterShape 20 = .ok (.aload_n 0, 1) := by decide +kernel
theorem dX4_enterShape_21 : decode cX4_enterShape 21 = .ok (.getfield 24, 3) := by decide +kernel
theorem dX4_enterShape_24 : decode cX4_enterShape 24 = .ok (.aload_n 0, 1) := by decide +kernel
theorem dX4_enterShape_25 : decode cX4_enterShape 25 = .ok (.getfield 38, 3) := by decide +kernel
theorem dX4_enterShape_28 : decode cX4_enterShape 28 = .ok (.iload_n 3, 1) := by decide +kernel
theorem dX4_enterShape_29 : decode cX4_enterShape 29 = .ok (.bastore, 1) := by decide +kernel
theorem dX4_enterShape_30 : decode cX4_enterShape 30 = .ok (.aload_n 0, 1) := by decide +kernel
theorem dX4_enterShape_31 : decode cX4_enterShape 31 = .ok (.dup, 1) := by decide +kernel
theorem dX4_enterShape_32 : decode cX4_enterShape 32 = .ok (.getfield 38, 3) := by decide +kernel
theorem dX4_enterShape_35 : decode cX4_enterShape 35 = .ok (.dup_x1, 1) := by decide +kernel
theorem dX4_enterShape_36 : decode cX4_enterShape 36 = .ok (.iconst 1, 1) := by decide +kernel
theorem dX4_enterShape_37 : decode cX4_enterShape 37 = .ok (.iadd, 1) := by decide +kernel
theorem dX4_enterShape_38 : decode cX4_enterShape 38 = .ok (.putfield 38, 3) := by decide +kernel
theorem dX4_enterShape_41 : decode cX4_enterShape 41 = .ok (.ireturn, 1) := by decide +kernel
theorem dX4_canTakeMore_0 : decode cX4_canTakeMore 0 = .ok (.aload_n 0, 1) := by decide +kernel
theorem dX4_canTakeMore_1 : decode cX4_canTakeMore 1 = .ok (.getfield 38, 3) := by decide +kernel
theorem dX4_canTakeMore_4 : decode cX4_canTakeMore 4 = .ok (.ifCond .le 23, 3) := by decide +kernel
theorem dX4_canTakeMore_7 : decode cX4_canTakeMore 7 = .ok (.aload_n 0, 1) := by decide +kernel
theorem dX4_canTakeMore_8 : decode cX4_canTakeMore 8 = .ok (.getfield 31, 3) := by decide +kernel
theorem dX4_canTakeMore_11 : decode cX4_canTakeMore 11 = .ok (.aload_n 0, 1) := by decide +kernel
theorem dX4_canTakeMore_12 : decode cX4_canTakeMore 12 = .ok (.getfield 38, 3) := by decide +kernel
theorem dX4_canTakeMore_15 : decode cX4_canTakeMore 15 = .ok (.iconst 1, 1) := by decide +kernel
theorem dX4_canTakeMore_16 : decode cX4_canTakeMore 16 = .ok (.isub, 1) := by decide +kernel
theorem dX4_canTakeMore_17 : decode cX4_canTakeMore 17 = .ok (.iaload, 1) := by decide +kernel
theorem dX4_canTakeMore_18 : decode cX4_canTakeMore 18 = .ok (.bipush 20, 2) := by decide +kernel
theorem dX4_canTakeMore_20 : decode cX4_canTakeMore 20 = .ok (.if_icmp .ge 7, 3) := by decide +kernel
theorem dX4_canTakeMore_23 : decode cX4_canTakeMore 23 = .ok (.iconst 1, 1) := by decide +kernel
theorem dX4_canTakeMore_24 : decode cX4_canTakeMore 24 = .ok (.goto 4, 3) := by decide +kernel
theorem dX4_canTakeMore_27 : decode cX4_canTakeMore 27 = .ok (.iconst 0, 1) := by decide +kernel
theorem dX4_canTakeMore_28 : decode cX4_canTakeMore 28 = .ok (.ireturn, 1) := by decide +kernel
theorem dX4_takeMore_0 : decode cX4_takeMore 0 = .ok (.aload_n 0, 1) := by decide +kernel
theorem dX4_takeMore_1 : decode cX4_takeMore 1 = .ok (.getfield 38, 3) := by decide +kernel
theorem dX4_takeMore_4 : decode cX4_takeMore 4 = .ok (.iconst 1, 1) := by decide +kernel
theorem dX4_takeMore_5 : decode cX4_takeMore 5 = .ok (.isub, 1) := by decide +kernel
theorem dX4_takeMore_6 : decode cX4_takeMore 6 = .ok (.istore_n 2, 1) := by decide +kernel
theorem dX4_takeMore_7 : decode cX4_takeMore 7 = .ok (.aload_n 0, 1) := by decide +kernel
theorem dX4_takeMore_8 : decode cX4_takeMore 8 = .ok (.getfield 28, 3) := by decide +kernel
theorem dX4_takeMore_11 : decode cX4_takeMore 11 = .ok (.iload_n 2, 1) := by decide +kernel
theorem dX4_takeMore_12 : decode cX4_takeMore 12 = .ok (.bipush 20, 2) := by decide +kernel
theorem dX4_takeMore_14 : decode cX4_takeMore 14 = .ok (.imul, 1) := by decide +kernel
theorem dX4_takeMore_15 : decode cX4_takeMore 15 = .ok (.aload_n 0, 1) := by decide +kernel
theorem dX4_takeMore_16 : decode cX4_takeMore 16 = .ok (.getfield 31, 3) := by decide +kernel
theorem dX4_takeMore_19 : decode cX4_takeMore 19 = .ok (.iload_n 2, 1) := by decide +kernel
theorem dX4_takeMore_20 : decode cX4_takeMore 20 = .ok (.iaload, 1) := by decide +kernel
theorem dX4_takeMore_21 : decode cX4_takeMore 21 = .ok (.iadd, 1) := by decide +kernel
theorem dX4_takeMore_22 : decode cX4_takeMore 22 = .ok (.iload_n 1, 1) := by decide +kernel
theorem dX4_takeMore_23 : decode cX4_takeMore 23 = .ok (.iastore, 1) := by decide +kernel
theorem dX4_takeMore_24 : decode cX4_takeMore 24 = .ok (.aload_n 0, 1) := by decide +kernel
theorem dX4_takeMore_25 : decode cX4_takeMore 25 = .ok (.getfield 31, 3) := by decide +kernel
theorem dX4_takeMore_28 : decode cX4_takeMore 28 = .ok (.iload_n 2, 1) := by decide +kernel
theorem dX4_takeMore_29 : decode cX4_takeMore 29 = .ok (.dup2, 1) := by decide +kernel
theorem dX4_takeMore_30 : decode cX4_takeMore 30 = .ok (.iaload, 1) := by decide +kernel
theorem dX4_takeMore_31 : decode cX4_takeMore 31 = .ok (.iconst 1, 1) := by decide +kernel
theorem dX4_takeMore_32 : decode cX4_takeMore 32 = .ok (.iadd, 1) := by decide +kernel
theorem dX4_takeMore_33 : decode cX4_takeMore 33 = .ok (.iastore, 1) := by decide +kernel
theorem dX4_takeMore_34 : decode cX4_takeMore 34 = .ok (.aload_n 0, 1) := by decide +kernel
theorem dX4_takeMore_35 : decode cX4_takeMore 35 = .ok (.getfield 31, 3) := by decide +kernel
theorem dX4_takeMore_38 : decode cX4_takeMore 38 = .ok (.iload_n 2, 1) := by decide +kernel
theorem dX4_takeMore_39 : decode cX4_takeMore 39 = .ok (.iaload, 1) := by decide +kernel
theorem dX4_takeMore_40 : decode cX4_takeMore 40 = .ok (.ireturn, 1) := by decide +kernel
theorem dX4_takenOf_0 : decode cX4_takenOf 0 = .ok (.aload_n 0, 1) := by decide +kernel
theorem dX4_takenOf_1 : decode cX4_takenOf 1 = .ok (.getfield 28, 3) := by decide +kernel
theorem dX4_takenOf_4 : decode cX4_takenOf 4 = .ok (.iload_n 1, 1) := by decide +kernel
theorem dX4_takenOf_5 : decode cX4_takenOf 5 = .ok (.bipush 20, 2) := by decide +kernel
theorem dX4_takenOf_7 : decode cX4_takenOf 7 = .ok (.imul, 1) := by decide +kernel
theorem dX4_takenOf_8 : decode cX4_takenOf 8 = .ok (.iload_n 2, 1) := by decide +kernel
theorem dX4_takenOf_9 : decode cX4_takenOf 9 = .ok (.iadd, 1) := by decide +kernel
theorem dX4_takenOf_10 : decode cX4_takenOf 10 = .ok (.iaload, 1) := by decide +kernel
theorem dX4_takenOf_11 : decode cX4_takenOf 11 = .ok (.ireturn, 1) := by decide +kernel
theorem dX5_init_0 : decode cX5_init 0 = .ok (.aload_n 0, 1) := by decide +kernel
theorem dX5_init_1 : decode cX5_init 1 = .ok (.invokespecial 3, 3) := by decide +kernel
theorem dX5_init_4 : decode cX5_init 4 = .ok (.aload_n 0, 1) := by decide +kernel
theorem dX5_init_5 : decode cX5_init 5 = .ok (.sipush 400, 3) := by decide +kernel
theorem dX5_init_8 : decode cX5_init 8 = .ok (.newarray .int, 2) := by decide +kernel
theorem dX5_init_10 : decode cX5_init 10 = .ok (.putfield 9, 3) := by decide +kernel
theorem dX5_init_13 : decode cX5_init 13 = .ok (.aload_n 0, 1) := by decide +kernel
theorem dX5_init_14 : decode cX5_init 14 = .ok (.aload_n 1, 1) := by decide +kernel
theorem dX5_init_15 : decode cX5_init 15 = .ok (.putfield 15, 3) := by decide +kernel
theorem dX5_init_18 : decode cX5_init 18 = .ok (.return_, 1) := by decide +kernel
set_option maxRecDepth 20000 in
theorem ggX5_begin_X7_placeOf : GoodIn wsX5_begin wsX7_placeOf := goodIn_r _ [12, 13, 14, 11, 15, 16, 17] rfl (by decide +kernel)
set_option maxRecDepth 20000 in
theorem gX5_begin_X7_placeOf : GoodIn wsX5_begin (va_wsS RX5 54 yX7_placeOf wsX7_placeOf) := goodIn_app (goodIn_of _ (by decide +kernel)) ggX5_begin_X7_placeOf
set_option maxRecDepth 20000 in
theorem ggX5_begin_X5_setLocal : GoodIn wsX5_begin wsX5_setLocal := goodIn_r _ [22, 1, 5, 8, 23, 24, 25, 21, 26, 49, 50, 51, 52, 53, 54, 55, 56, 57, 58] rfl (by decide +kernel)
set_option maxRecDepth 20000 in
theorem gX5_begin_X5_setLocal : GoodIn wsX5_begin (wsV RX5 60 RX5 yX5_setLocal wsX5_setLocal) := goodIn_app (goodIn_of _ (by decide +kernel)) ggX5_begin_X5_setLocal
set_option maxRecDepth 20000 in
theorem ggX5_begin_X7_widthOf : GoodIn wsX5_begin wsX7_widthOf := goodIn_r _ [29, 30, 31] rfl (by decide +kernel)
set_option maxRecDepth 20000 in
theorem gX5_begin_X7_widthOf : GoodIn wsX5_begin (va_wsS RX5 70 yX7_widthOf wsX7_widthOf) := goodIn_app (goodIn_of _ (by decide +kernel)) ggX5_begin_X7_widthOf
theorem dX5_begin_0 : decode cX5_begin 0 = .ok (.aload_n 0, 1) := by decide +kernel
theorem dX5_begin_1 : decode cX5_begin 1 = .ok (.aload_n 1, 1) := by decide +kernel
theorem dX5_begin_2 : decode cX5_begin 2 = .ok (.getfield 19, 3) := by decide +kernel
theorem dX5_begin_5 : decode cX5_begin 5 = .ok (.putfield 25, 3) := by decide +kernel
theorem dX5_begin_8 : decode cX5_begin 8 = .ok (.aload_n 0, 1) := by decide +kernel
theorem dX5_begin_9 : decode cX5_begin 9 = .ok (.aload_n 1, 1) := by decide +kernel
theorem dX5_begin_10 : decode cX5_begin 10 = .ok (.getfield 19, 3) := by decide +kernel
theorem dX5_begin_13 : decode cX5_begin 13 = .ok (.aload_n 1, 1) := by decide +kernel
theorem dX5_begin_14 : decode cX5_begin 14 = .ok (.getfield 26, 3) := by decide +kernel
theorem dX5_begin_17 : decode cX5_begin 17 = .ok (.iadd, 1) := by decide +kernel
theorem dX5_begin_18 : decode cX5_begin 18 = .ok (.putfield 29, 3) := by decide +kernel
theorem dX5_begin_21 : decode cX5_begin 21 = .ok (.aload_n 0, 1) := by decide +kernel
theorem dX5_begin_22 : decode cX5_begin 22 = .ok (.aload_n 0, 1) := by decide +kernel
theorem dX5_begin_23 : decode cX5_begin 23 = .ok (.getfield 25, 3) := by decide +kernel
theorem dX5_begin_26 : decode cX5_begin 26 = .ok (.putfield 32, 3) := by decide +kernel
theorem dX5_begin_29 : decode cX5_begin 29 = .ok (.aload_n 0, 1) := by decide +kernel
theorem dX5_begin_30 : decode cX5_begin 30 = .ok (.iconst 0, 1) := by decide +kernel
theorem dX5_begin_31 : decode cX5_begin 31 = .ok (.putfield 35, 3) := by decide +kernel
theorem dX5_begin_34 : decode cX5_begin 34 = .ok (.aload_n 0, 1) := by decide +kernel
theorem dX5_begin_35 : decode cX5_begin 35 = .ok (.iconst 0, 1) := by decide +kernel
theorem dX5_begin_36 : decode cX5_begin 36 = .ok (.putfield 38, 3) := by decide +kernel
theorem dX5_begin_39 : decode cX5_begin 39 = .ok (.aload_n 0, 1) := by decide +kernel
theorem dX5_begin_40 : decode cX5_begin 40 = .ok (.iconst 0, 1) := by decide +kernel
theorem dX5_begin_41 : decode cX5_begin 41 = .ok (.putfield 42, 3) := by decide +kernel
theorem dX5_begin_44 : decode cX5_begin 44 = .ok (.aload_n 0, 1) := by decide +kernel
theorem dX5_begin_45 : decode cX5_begin 45 = .ok (.iconst 0, 1) := by decide +kernel
theorem dX5_begin_46 : decode cX5_begin 46 = .ok (.putfield 45, 3) := by decide +kernel
theorem dX5_begin_49 : decode cX5_begin 49 = .ok (.iconst 0, 1) := by decide +kernel
theorem dX5_begin_50 : decode cX5_begin 50 = .ok (.istore_n 2, 1) := by decide +kernel
theorem dX5_begin_51 : decode cX5_begin 51 = .ok (.iload_n 2, 1) := by decide +kernel
theorem dX5_begin_52 : decode cX5_begin 52 = .ok (.aload_n 0, 1) := by decide +kernel
theorem dX5_begin_53 : decode cX5_begin 53 = .ok (.getfield 25, 3) := by decide +kernel
theorem dX5_begin_56 : decode cX5_begin 56 = .ok (.if_icmp .ge 16, 3) := by decide +kernel
theorem dX5_begin_59 : decode cX5_begin 59 = .ok (.aload_n 0, 1) := by decide +kernel
theorem dX5_begin_60 : decode cX5_begin 60 = .ok (.getfield 9, 3) := by decide +kernel
theorem dX5_begin_63 : decode cX5_begin 63 = .ok (.iload_n 2, 1) := by decide +kernel
theorem dX5_begin_64 : decode cX5_begin 64 = .ok (.iconst 0, 1) := by decide +kernel
theorem dX5_begin_65 : decode cX5_begin 65 = .ok (.iastore, 1) := by decide +kernel
theorem dX5_begin_66 : decode cX5_begin 66 = .ok (.iinc 2 1, 3) := by decide +kernel
theorem dX5_begin_69 : decode cX5_begin 69 = .ok (.goto (-18), 3) := by decide +kernel
theorem dX5_begin_72 : decode cX5_begin 72 = .ok (.iconst 0, 1) := by decide +kernel
theorem dX5_begin_73 : decode cX5_begin 73 = .ok (.istore_n 2, 1) := by decide +kernel
theorem dX5_begin_74 : decode cX5_begin 74 = .ok (.aload_n 1, 1) := by decide +kernel
theorem dX5_begin_75 : decode cX5_begin 75 = .ok (.getfield 48, 3) := by decide +kernel
theorem dX5_begin_78 : decode cX5_begin 78 = .ok (.ifCond .eq 69, 3) := by decide +kernel
theorem dX5_begin_81 : decode cX5_begin 81 = .ok (.aload_n 1, 1) := by decide +kernel
theorem dX5_begin_82 : decode cX5_begin 82 = .ok (.getfield 48, 3) := by decide +kernel
theorem dX5_begin_85 : decode cX5_begin 85 = .ok (.iconst 2, 1) := by decide +kernel
theorem dX5_begin_86 : decode cX5_begin 86 = .ok (.if_icmp .ne 14, 3) := by decide +kernel
theorem dX5_begin_89 : decode cX5_begin 89 = .ok (.aload_n 1, 1) := by decide +kernel
theorem dX5_begin_90 : decode cX5_begin 90 = .ok (.getfield 51, 3) := by decide +kernel
theorem dX5_begin_93 : decode cX5_begin 93 = .ok (.ifCond .eq 7, 3) := by decide +kernel
theorem dX5_begin_96 : decode cX5_begin 96 = .ok (.iconst 1, 1) := by decide +kernel
theorem dX5_begin_97 : decode cX5_begin 97 = .ok (.goto 4, 3) := by decide +kernel
theorem dX5_begin_100 : decode cX5_begin 100 = .ok (.iconst 0, 1) := by decide +kernel
theorem dX5_begin_101 : decode cX5_begin 101 = .ok (.istore_n 3, 1) := by decide +kernel
theorem dX5_begin_102 : decode cX5_begin 102 = .ok (.aload_n 0, 1) := by decide +kernel
theorem dX5_begin_103 : decode cX5_begin 103 = .ok (.aload_n 1, 1) := by decide +kernel
theorem dX5_begin_104 : decode cX5_begin 104 = .ok (.getfield 48, 3) := by decide +kernel
theorem dX5_begin_107 : decode cX5_begin 107 = .ok (.iconst 2, 1) := by decide +kernel
theorem dX5_begin_108 : decode cX5_begin 108 = .ok (.if_icmp .ne 11, 3) := by decide +kernel
theorem dX5_begin_111 : decode cX5_begin 111 = .ok (.iload_n 3, 1) := by decide +kernel
theorem dX5_begin_112 : decode cX5_begin 112 = .ok (.ifCond .ne 7, 3) := by decide +kernel
theorem dX5_begin_115 : decode cX5_begin 115 = .ok (.iconst 1, 1) := by decide +kernel
theorem dX5_begin_116 : decode cX5_begin 116 = .ok (.goto 4, 3) := by decide +kernel
theorem dX5_begin_119 : decode cX5_begin 119 = .ok (.iconst 0, 1) := by decide +kernel
theorem dX5_begin_120 : decode cX5_begin 120 = .ok (.putfield 35, 3) := by decide +kernel
theorem dX5_begin_123 : decode cX5_begin 123 = .ok (.aload_n 0, 1) := by decide +kernel
theorem dX5_begin_124 : decode cX5_begin 124 = .ok (.iload_n 2, 1) := by decide +kernel
theorem dX5_begin_125 : decode cX5_begin 125 = .ok (.iload_n 3, 1) := by decide +kernel
theorem dX5_begin_126 : decode cX5_begin 126 = .ok (.ifCond .eq 8, 3) := by decide +kernel
theorem dX5_begin_129 : decode cX5_begin 129 = .ok (.bipush 6, 2) := by decide +kernel
theorem dX5_begin_131 : decode cX5_begin 131 = .ok (.goto 10, 3) := by decide +kernel
theorem dX5_begin_134 : decode cX5_begin 134 = .ok (.aload_n 1, 1) := by decide +kernel
theorem dX5_begin_135 : decode cX5_begin 135 = .ok (.getfield 51, 3) := by decide +kernel
theorem dX5_begin_138 : decode cX5_begin 138 = .ok (.invokestatic 54, 3) := by decide +kernel
theorem dX5_begin_141 : decode cX5_begin 141 = .ok (.invokevirtual 60, 3) := by decide +kernel
theorem dX5_begin_144 : decode cX5_begin 144 = .ok (.iinc 2 1, 3) := by decide +kernel
theorem dX5_begin_147 : decode cX5_begin 147 = .ok (.iconst 0, 1) := by decide +kernel
theorem dX5_begin_148 : decode cX5_begin 148 = .ok (.istore_n 3, 1) := by decide +kernel
theorem dX5_begin_149 : decode cX5_begin 149 = .ok (.iload_n 3, 1) := by decide +kernel
theorem dX5_begin_150 : decode cX5_begin 150 = .ok (.aload_n 1, 1) := by decide +kernel
theorem dX5_begin_151 : decode cX5_begin 151 = .ok (.getfield 64, 3) := by decide +kernel
theorem dX5_begin_154 : decode cX5_begin 154 = .ok (.if_icmp .ge 35, 3) := by decide +kernel
theorem dX5_begin_157 : decode cX5_begin 157 = .ok (.aload_n 0, 1) := by decide +kernel
theorem dX5_begin_158 : decode cX5_begin 158 = .ok (.iload_n 2, 1) := by decide +kernel
theorem dX5_begin_159 : decode cX5_begin 159 = .ok (.aload_n 1, 1) := by decide +kernel
theorem dX5_begin_160 : decode cX5_begin 160 = .ok (.getfield 67, 3) := by decide +kernel
theorem dX5_begin_163 : decode cX5_begin 163 = .ok (.iload_n 3, 1) := by decide +kernel
theorem dX5_begin_164 : decode cX5_begin 164 = .ok (.iaload, 1) := by decide +kernel
theorem dX5_begin_165 : decode cX5_begin 165 = .ok (.invokestatic 54, 3) := by decide +kernel
theorem dX5_begin_168 : decode cX5_begin 168 = .ok (.invokevirtual 60, 3) := by decide +kernel
theorem dX5_begin_171 : decode cX5_begin 171 = .ok (.iload_n 2, 1) := by decide +kernel
theorem dX5_begin_172 : decode cX5_begin 172 = .ok (.aload_n 1, 1) := by decide +kernel
theorem dX5_begin_173 : decode cX5_begin 173 = .ok (.getfield 67, 3) := by decide +kernel
theorem dX5_begin_176 : decode cX5_begin 176 = .ok (.iload_n 3, 1) := by decide +kernel
theorem dX5_begin_177 : decode cX5_begin 177 = .ok (.iaload, 1) := by decide +kernel
theorem dX5_begin_178 : decode cX5_begin 178 = .ok (.invokestatic 70, 3) := by decide +kernel
theorem dX5_begin_181 : decode cX5_begin 181 = .ok (.iadd, 1) := by decide +kernel
theorem dX5_begin_182 : decode cX5_begin 182 = .ok (.istore_n 2, 1) := by decide +kernel
theorem dX5_begin_183 : decode cX5_begin 183 = .ok (.iinc 3 1, 3) := by decide +kernel
theorem dX5_begin_186 : decode cX5_begin 186 = .ok (.goto (-37), 3) := by decide +kernel
theorem dX5_begin_189 : decode cX5_begin 189 = .ok (.return_, 1) := by decide +kernel
theorem dX5_bring_0 : decode cX5_bring 0 = .ok (.aload_n 0, 1) := by decide +kernel
theorem dX5_bring_1 : decode cX5_bring 1 = .ok (.aload_n 0, 1) := by decide +kernel
theorem dX5_bring_2 : decode cX5_bring 2 = .ok (.getfield 25, 3) := by decide +kernel
theorem dX5_bring_5 : decode cX5_bring 5 = .ok (.aload_n 1, 1) := by decide +kernel
theorem dX5_bring_6 : decode cX5_bring 6 = .ok (.getfield 73, 3) := by decide +kernel
theorem dX5_bring_9 : decode cX5_bring 9 = .ok (.iload_n 2, 1) := by decide +kernel
theorem dX5_bring_10 : decode cX5_bring 10 = .ok (.iaload, 1) := by decide +kernel
theorem dX5_bring_11 : decode cX5_bring 11 = .ok (.iadd, 1) := by decide +kernel
theorem dX5_bring_12 : decode cX5_bring 12 = .ok (.putfield 32, 3) := by decide +kernel
theorem dX5_bring_15 : decode cX5_bring 15 = .ok (.aload_n 0, 1) := by decide +kernel
theorem dX5_bring_16 : decode cX5_bring 16 = .ok (.aload_n 1, 1) := by decide +kernel
theorem dX5_bring_17 : decode cX5_bring 17 = .ok (.getfield 78, 3) := by decide +kernel
theorem dX5_bring_20 : decode cX5_bring 20 = .ok (.iload_n 2, 1) := by decide +kernel
theorem dX5_bring_21 : decode cX5_bring 21 = .ok (.iaload, 1) := by decide +kernel
theorem dX5_bring_22 : decode cX5_bring 22 = .ok (.putfield 35, 3) := by decide +kernel
theorem dX5_bring_25 : decode cX5_bring 25 = .ok (.aload_n 0, 1) := by decide +kernel
theorem dX5_bring_26 : decode cX5_bring 26 = .ok (.iconst 1, 1) := by decide +kernel
theorem dX5_bring_27 : decode cX5_bring 27 = .ok (.putfield 80, 3) := by decide +kernel
theorem dX5_bring_30 : decode cX5_bring 30 = .ok (.aload_n 1, 1) := by decide +kernel
theorem dX5_bring_31 : decode cX5_bring 31 = .ok (.getfield 83, 3) := by decide +kernel
theorem dX5_bring_34 : decode cX5_bring 34 = .ok (.iload_n 2, 1) := by decide +kernel
theorem dX5_bring_35 : decode cX5_bring 35 = .ok (.aload_n 1, 1) := by decide +kernel
theorem dX5_bring_36 : decode cX5_bring 36 = .ok (.getfield 86, 3) := by decide +kernel
theorem dX5_bring_39 : decode cX5_bring 39 = .ok (.imul, 1) := by decide +kernel
theorem dX5_bring_40 : decode cX5_bring 40 = .ok (.aload_n 0, 1) := by decide +kernel
theorem dX5_bring_41 : decode cX5_bring 41 = .ok (.getfield 9, 3) := by decide +kernel
theorem dX5_bring_44 : decode cX5_bring 44 = .ok (.iconst 0, 1) := by decide +kernel
theorem dX5_bring_45 : decode cX5_bring 45 = .ok (.aload_n 0, 1) := by decide +kernel
theorem dX5_bring_46 : decode cX5_bring 46 = .ok (.getfield 32, 3) := by decide +kernel
theorem dX5_bring_49 : decode cX5_bring 49 = .ok (.invokestatic 89, 3) := by decide +kernel
theorem dX5_bring_52 : decode cX5_bring 52 = .ok (.return_, 1) := by decide +kernel
theorem dX5_isWide_0 : decode cX5_isWide 0 = .ok (.iload_n 0, 1) := by decide +kernel
theorem dX5_isWide_1 : decode cX5_isWide 1 = .ok (.iconst 3, 1) := by decide +kernel
theorem dX5_isWide_2 : decode cX5_isWide 2 = .ok (.if_icmp .eq 8, 3) := by decide +kernel
theorem dX5_isWide_5 : decode cX5_isWide 5 = .ok (.iload_n 0, 1) := by decide +kernel
theorem dX5_isWide_6 : decode cX5_isWide 6 = .ok (.iconst 4, 1) := by decide +kernel
theorem dX5_isWide_7 : decode cX5_isWide 7 = .ok (.if_icmp .ne 7, 3) := by decide +kernel
theorem dX5_isWide_10 : decode cX5_isWide 10 = .ok (.iconst 1, 1) := by decide +kernel
theorem dX5_isWide_11 : decode cX5_isWide 11 = .ok (.goto 4, 3) := by decide +kernel
theorem dX5_isWide_14 : decode cX5_isWide 14 = .ok (.iconst 0, 1) := by decide +kernel
theorem dX5_isWide_15 : decode cX5_isWide 15 = .ok (.ireturn, 1) := by decide +kernel
theorem dX5_isAnyReference_0 : decode cX5_isAnyReference 0 = .ok (.iload_n 0, 1) := by decide +kernel
theorem dX5_isAnyReference_1 : decode cX5_isAnyReference 1 = .ok (.bipush 15, 2) := by decide +kernel
theorem dX5_isAnyReference_3 : decode cX5_isAnyReference 3 = .ok (.iand, 1) := by decide +kernel
theorem dX5_isAnyReference_4 : decode cX5_isAnyReference 4 = .ok (.istore_n 1, 1) := by decide +kernel
theorem dX5_isAnyReference_5 : decode cX5_isAnyReference 5 = .ok (.iload_n 1, 1) := by decide +kernel
theorem dX5_isAnyReference_6 : decode cX5_isAnyReference 6 = .ok (.iconst 5, 1) := by decide +kernel
theorem dX5_isAnyReference_7 : decode cX5_isAnyReference 7 = .ok (.if_icmp .eq 21, 3) := by decide +kernel
theorem dX5_isAnyReference_10 : decode cX5_isAnyReference 10 = .ok (.iload_n 1, 1) := by decide +kernel
theorem dX5_isAnyReference_11 : decode cX5_isAnyReference 11 = .ok (.bipush 6, 2) := by decide +kernel
theorem dX5_isAnyReference_13 : decode cX5_isAnyReference 13 = .ok (.if_icmp .eq 15, 3) := by decide +kernel
theorem dX5_isAnyReference_16 : decode cX5_isAnyReference 16 = .ok (.iload_n 1, 1) := by decide +kernel
theorem dX5_isAnyReference_17 : decode cX5_isAnyReference 17 = .ok (.bipush 8, 2) := by decide +kernel
theorem dX5_isAnyReference_19 : decode cX5_isAnyReference 19 = .ok (.if_icmp .eq 9, 3) := by decide +kernel
theorem dX5_isAnyReference_22 : decode cX5_isAnyReference 22 = .ok (.iload_n 1, 1) := by decide +kernel
theorem dX5_isAnyReference_23 : decode cX5_isAnyReference 23 = .ok (.bipush 9, 2) := by decide +kernel
theorem dX5_isAnyReference_25 : decode cX5_isAnyReference 25 = .ok (.if_icmp .ne 7, 3) := by decide +kernel
theorem dX5_isAnyReference_28 : decode cX5_isAnyReference 28 = .ok (.iconst 1, 1) := by decide +kernel
theorem dX5_isAnyReference_29 : decode cX5_isAnyReference 29 = .ok (.goto 4, 3) := by decide +kernel
theorem dX5_isAnyReference_32 : decode cX5_isAnyReference 32 = .ok (.iconst 0, 1) := by decide +kernel
theorem dX5_isAnyReference_33 : decode cX5_isAnyReference 33 = .ok (.ireturn, 1) := by decide +kernel
theorem dX5_localAt_0 : decode cX5_localAt 0 = .ok (.iload_n 1, 1) := by decide +kernel
theorem dX5_localAt_1 : decode cX5_localAt 1 = .ok (.ifCond .lt 20, 3) := by decide +kernel
theorem dX5_localAt_4 : decode cX5_localAt 4 = .ok (.iload_n 1, 1) := by decide +kernel
theorem dX5_localAt_5 : decode cX5_localAt 5 = .ok (.aload_n 0, 1) := by decide +kernel
theorem dX5_localAt_6 : decode cX5_localAt 6 = .ok (.getfield 25, 3) := by decide +kernel
theorem dX5_localAt_9 : decode cX5_localAt 9 = .ok (.if_icmp .ge 12, 3) := by decide +kernel
theorem dX5_localAt_12 : decode cX5_localAt 12 = .ok (.aload_n 0, 1) := by decide +kernel
theorem dX5_localAt_13 : decode cX5_localAt 13 = .ok (.getfield 9, 3) := by decide +kernel
theorem dX5_localAt_16 : decode cX5_localAt 16 = .ok (.iload_n 1, 1) := by decide +kernel
theorem dX5_localAt_17 : decode cX5_localAt 17 = .ok (.iaload, 1) := by decide +kernel
theorem dX5_localAt_18 : decode cX5_localAt 18 = .ok (.goto 4, 3) := by decide +kernel
theorem dX5_localAt_21 : decode cX5_localAt 21 = .ok (.iconst 0, 1) := by decide +kernel
theorem dX5_localAt_22 : decode cX5_localAt 22 = .ok (.ireturn, 1) := by decide +kernel
set_option maxRecDepth 20000 in
theorem ggX5_setLocal_X5_isWide : GoodIn wsX5_setLocal wsX5_isWide := goodIn_r _ [8] rfl (by decide +kernel)
set_option maxRecDepth 20000 in
theorem gX5_setLocal_X5_isWide : GoodIn wsX5_setLocal (va_wsS RX5 95 yX5_isWide wsX5_isWide) := goodIn_app (goodIn_of _ (by decide +kernel)) ggX5_setLocal_X5_isWide
theorem dX5_setLocal_0 : decode cX5_setLocal 0 = .ok (.iload_n 2, 1) := by decide +kernel
theorem dX5_setLocal_1 : decode cX5_setLocal 1 = .ok (.invokestatic 95, 3) := by decide +kernel
theorem dX5_setLocal_4 : decode cX5_setLocal 4 = .ok (.ifCond .eq 9, 3) := by decide +kernel
theorem dX5_setLocal_7 : decode cX5_setLocal 7 = .ok (.iload_n 1, 1) := by decide +kernel
theorem dX5_setLocal_8 : decode cX5_setLocal 8 = .ok (.iconst 1, 1) := by decide +kernel
theorem dX5_setLocal_9 : decode cX5_setLocal 9 = .ok (.iadd, 1) := by decide +kernel
theorem dX5_setLocal_10 : decode cX5_setLocal 10 = .ok (.goto 4, 3) := by decide +kernel
theorem dX5_setLocal_13 : decode cX5_setLocal 13 = .ok (.iload_n 1, 1) := by decide +kernel
theorem dX5_setLocal_14 : decode cX5_setLocal 14 = .ok (.istore_n 3, 1) := by decide +kernel
theorem dX5_setLocal_15 : decode cX5_setLocal 15 = .ok (.iload_n 1, 1) := by decide +kernel
theorem dX5_setLocal_16 : decode cX5_setLocal 16 = .ok (.ifCond .lt 11, 3) := by decide +kernel
theorem dX5_setLocal_19 : decode cX5_setLocal 19 = .ok (.iload_n 3, 1) := by decide +kernel
theorem dX5_setLocal_20 : decode cX5_setLocal 20 = .ok (.aload_n 0, 1) := by decide +kernel
theorem dX5_setLocal_21 : decode cX5_setLocal 21 = .ok (.getfield 25, 3) := by decide +kernel
theorem dX5_setLocal_24 : decode cX5_setLocal 24 = .ok (.if_icmp .lt 9, 3) := by decide +kernel
theorem dX5_setLocal_27 : decode cX5_setLocal 27 = .ok (.aload_n 0, 1) := by decide +kernel
theorem dX5_setLocal_28 : decode cX5_setLocal 28 = .ok (.iconst 1, 1) := by decide +kernel
theorem dX5_setLocal_29 : decode cX5_setLocal 29 = .ok (.putfield 38, 3) := by decide +kernel
theorem dX5_setLocal_32 : decode cX5_setLocal 32 = .ok (.return_, 1) := by decide +kernel
theorem dX5_setLocal_33 : decode cX5_setLocal 33 = .ok (.iload_n 1, 1) := by decide +kernel
theorem dX5_setLocal_34 : decode cX5_setLocal 34 = .ok (.ifCond .le 23, 3) := by decide +kernel
theorem dX5_setLocal_37 : decode cX5_setLocal 37 = .ok (.aload_n 0, 1) := by decide +kernel
theorem dX5_setLocal_38 : decode cX5_setLocal 38 = .ok (.getfield 9, 3) := by decide +kernel
theorem dX5_setLocal_41 : decode cX5_setLocal 41 = .ok (.iload_n 1, 1) := by decide +kernel
theorem dX5_setLocal_42 : decode cX5_setLocal 42 = .ok (.iaload, 1) := by decide +kernel
theorem dX5_setLocal_43 : decode cX5_setLocal 43 = .ok (.bipush 7, 2) := by decide +kernel
theorem dX5_setLocal_45 : decode cX5_setLocal 45 = .ok (.if_icmp .ne 12, 3) := by decide +kernel
theorem dX5_setLocal_48 : decode cX5_setLocal 48 = .ok (.aload_n 0, 1) := by decide +kernel
theorem dX5_setLocal_49 : decode cX5_setLocal 49 = .ok (.getfield 9, 3) := by decide +kernel
theorem dX5_setLocal_52 : decode cX5_setLocal 52 = .ok (.iload_n 1, 1) := by decide +kernel
theorem dX5_setLocal_53 : decode cX5_setLocal 53 = .ok (.iconst 1, 1) := by decide +kernel
theorem dX5_setLocal_54 : decode cX5_setLocal 54 = .ok (.isub, 1) := by decide +kernel
theorem dX5_setLocal_55 : decode cX5_setLocal 55 = .ok (.iconst 0, 1) := by decide +kernel
theorem dX5_setLocal_56 : decode cX5_setLocal 56 = .ok (.iastore, 1) := by decide +kernel
theorem dX5_setLocal_57 : decode cX5_setLocal 57 = .ok (.iload_n 3, 1) := by decide +kernel
theorem dX5_setLocal_58 : decode cX5_setLocal 58 = .ok (.iconst 1, 1) := by decide +kernel
theorem dX5_setLocal_59 : decode cX5_setLocal 59 = .ok (.iadd, 1) := by decide +kernel
theorem dX5_setLocal_60 : decode cX5_setLocal 60 = .ok (.aload_n 0, 1) := by decide +kernel
theorem dX5_setLocal_61 : decode cX5_setLocal 61 = .ok (.getfield 25, 3) := by decide +kernel
theorem dX5_setLocal_64 : decode cX5_setLocal 64 = .ok (.if_icmp .ge 25, 3) := by decide +kernel
theorem dX5_setLocal_67 : decode cX5_setLocal 67 = .ok (.aload_n 0, 1) := by decide +kernel
theorem dX5_setLocal_68 : decode cX5_setLocal 68 = .ok (.getfield 9, 3) := by decide +kernel
theorem dX5_setLocal_71 : decode cX5_setLocal 71 = .ok (.iload_n 3, 1) := by decide +kernel
theorem dX5_setLocal_72 : decode cX5_setLocal 72 = .ok (.iconst 1, 1) := by decide +kernel
theorem dX5_setLocal_73 : decode cX5_setLocal 73 = .ok (.iadd, 1) := by decide +kernel
theorem dX5_setLocal_74 : decode cX5_setLocal 74 = .ok (.iaload, 1) := by decide +kernel
theorem dX5_setLocal_75 : decode cX5_setLocal 75 = .ok (.bipush 7, 2) := by decide +kernel
theorem dX5_setLocal_77 : decode cX5_setLocal 77 = .ok (.if_icmp .ne 12, 3) := by decide +kernel
theorem dX5_setLocal_80 : decode cX5_setLocal 80 = .ok (.aload_n 0, 1) := by decide +kernel
theorem dX5_setLocal_81 : decode cX5_setLocal 81 = .ok (.getfield 9, 3) := by decide +kernel
theorem dX5_setLocal_84 : decode cX5_setLocal 84 = .ok (.iload_n 3, 1) := by decide +kernel
theorem dX5_setLocal_85 : decode cX5_setLocal 85 = .ok (.iconst 1, 1) := by decide +kernel
theorem dX5_setLocal_86 : decode cX5_setLocal 86 = .ok (.iadd, 1) := by decide +kernel
theorem dX5_setLocal_87 : decode cX5_setLocal 87 = .ok (.iconst 0, 1) := by decide +kernel
theorem dX5_setLocal_88 : decode cX5_setLocal 88 = .ok (.iastore, 1) := by decide +kernel
theorem dX5_setLocal_89 : decode cX5_setLocal 89 = .ok (.aload_n 0, 1) := by decide +kernel
theorem dX5_setLocal_90 : decode cX5_setLocal 90 = .ok (.getfield 9, 3) := by decide +kernel
theorem dX5_setLocal_93 : decode cX5_setLocal 93 = .ok (.iload_n 1, 1) := by decide +kernel
theorem dX5_setLocal_94 : decode cX5_setLocal 94 = .ok (.iload_n 2, 1) := by decide +kernel
theorem dX5_setLocal_95 : decode cX5_setLocal 95 = .ok (.iastore, 1) := by decide +kernel
theorem dX5_setLocal_96 : decode cX5_setLocal 96 = .ok (.iload_n 3, 1) := by decide +kernel
theorem dX5_setLocal_97 : decode cX5_setLocal 97 = .ok (.iload_n 1, 1) := by decide +kernel
theorem dX5_setLocal_98 : decode cX5_setLocal 98 = .ok (.if_icmp .le 11, 3) := by decide +kernel
theorem dX5_setLocal_101 : decode cX5_setLocal 101 = .ok (.aload_n 0, 1) := by decide +kernel
theorem dX5_setLocal_102 : decode cX5_setLocal 102 = .ok (.getfield 9, 3) := by decide +kernel
theorem dX5_setLocal_105 : decode cX5_setLocal 105 = .ok (.iload_n 3, 1) := by decide +kernel
theorem dX5_setLocal_106 : decode cX5_setLocal 106 = .ok (.bipush 7, 2) := by decide +kernel
theorem dX5_setLocal_108 : decode cX5_setLocal 108 = .ok (.iastore, 1) := by decide +kernel
theorem dX5_setLocal_109 : decode cX5_setLocal 109 = .ok (.aload_n 0, 1) := by decide +kernel
theorem dX5_setLocal_110 : decode cX5_setLocal 110 = .ok (.iconst 1, 1) := by decide +kernel
theorem dX5_setLocal_111 : decode cX5_setLocal 111 = .ok (.putfield 80, 3) := by decide +kernel
theorem dX5_setLocal_114 : decode cX5_setLocal 114 = .ok (.return_, 1) := by decide +kernel
set_option maxRecDepth 20000 in
theorem ggX5_push_X5_isWide : GoodIn wsX5_push wsX5_isWide := goodIn_r _ [8] rfl (by decide +kernel)
set_option maxRecDepth 20000 in
theorem gX5_push_X5_isWide : GoodIn wsX5_push (va_wsS RX5 95 yX5_isWide wsX5_isWide) := goodIn_app (goodIn_of _ (by decide +kernel)) ggX5_push_X5_isWide
theorem dX5_push_0 : decode cX5_push 0 = .ok (.iload_n 1, 1) := by decide +kernel
theorem dX5_push_1 : decode cX5_push 1 = .ok (.invokestatic 95, 3) := by decide +kernel
theorem dX5_push_4 : decode cX5_push 4 = .ok (.ifCond .eq 7, 3) := by decide +kernel
theorem dX5_push_7 : decode cX5_push 7 = .ok (.iconst 2, 1) := by decide +kernel
theorem dX5_push_8 : decode cX5_push 8 = .ok (.goto 4, 3) := by decide +kernel
theorem dX5_push_11 : decode cX5_push 11 = .ok (.iconst 1, 1) := by decide +kernel
theorem dX5_push_12 : decode cX5_push 12 = .ok (.istore_n 2, 1) := by decide +kernel
theorem dX5_push_13 : decode cX5_push 13 = .ok (.aload_n 0, 1) := by decide +kernel
theorem dX5_push_14 : decode cX5_push 14 = .ok (.getfield 32, 3) := by decide +kernel
theorem dX5_push_17 : decode cX5_push 17 = .ok (.iload_n 2, 1) := by decide +kernel
theorem dX5_push_18 : decode cX5_push 18 = .ok (.iadd, 1) := by decide +kernel
theorem dX5_push_19 : decode cX5_push 19 = .ok (.aload_n 0, 1) := by decide +kernel
theorem dX5_push_20 : decode cX5_push 20 = .ok (.getfield 29, 3) := by decide +kernel
theorem dX5_push_23 : decode cX5_push 23 = .ok (.if_icmp .le 9, 3) := by decide +kernel
theorem dX5_push_26 : decode cX5_push 26 = .ok (.aload_n 0, 1) := by decide +kernel
theorem dX5_push_27 : decode cX5_push 27 = .ok (.iconst 1, 1) := by decide +kernel
theorem dX5_push_28 : decode cX5_push 28 = .ok (.putfield 38, 3) := by decide +kernel
theorem dX5_push_31 : decode cX5_push 31 = .ok (.return_, 1) := by decide +kernel
theorem dX5_push_32 : decode cX5_push 32 = .ok (.aload_n 0, 1) := by decide +kernel
theorem dX5_push_33 : decode cX5_push 33 = .ok (.getfield 9, 3) := by decide +kernel
theorem dX5_push_36 : decode cX5_push 36 = .ok (.aload_n 0, 1) := by decide +kernel
theorem dX5_push_37 : decode cX5_push 37 = .ok (.getfield 32, 3) := by decide +kernel
theorem dX5_push_40 : decode cX5_push 40 = .ok (.iload_n 1, 1) := by decide +kernel
theorem dX5_push_41 : decode cX5_push 41 = .ok (.iastore, 1) := by decide +kernel
theorem dX5_push_42 : decode cX5_push 42 = .ok (.iload_n 2, 1) := by decide +kernel
theorem dX5_push_43 : decode cX5_push 43 = .ok (.iconst 2, 1) := by decide +kernel
theorem dX5_push_44 : decode cX5_push 44 = .ok (.if_icmp .ne 16, 3) := by decide +kernel
theorem dX5_push_47 : decode cX5_push 47 = .ok (.aload_n 0, 1) := by decide +kernel
theorem dX5_push_48 : decode cX5_push 48 = .ok (.getfield 9, 3) := by decide +kernel
theorem dX5_push_51 : decode cX5_push 51 = .ok (.aload_n 0, 1) := by decide +kernel
theorem dX5_push_52 : decode cX5_push 52 = .ok (.getfield 32, 3) := by decide +kernel
theorem dX5_push_55 : decode cX5_push 55 = .ok (.iconst 1, 1) := by decide +kernel
theorem dX5_push_56 : decode cX5_push 56 = .ok (.iadd, 1) := by decide +kernel
theorem dX5_push_57 : decode cX5_push 57 = .ok (.bipush 7, 2) := by decide +kernel
theorem dX5_push_59 : decode cX5_push 59 = .ok (.iastore, 1) := by decide +kernel
theorem dX5_push_60 : decode cX5_push 60 = .ok (.aload_n 0, 1) := by decide +kernel
theorem dX5_push_61 : decode cX5_push 61 = .ok (.dup, 1) := by decide +kernel
theorem dX5_push_62 : decode cX5_push 62 = .ok (.getfield 32, 3) := by decide +kernel
theorem dX5_push_65 : decode cX5_push 65 = .ok (.iload_n 2, 1) := by decide +kernel
theorem dX5_push_66 : decode cX5_push 66 = .ok (.iadd, 1) := by decide +kernel
theorem dX5_push_67 : decode cX5_push 67 = .ok (.putfield 32, 3) := by decide +kernel
theorem dX5_push_70 : decode cX5_push 70 = .ok (.return_, 1) := by decide +kernel
set_option maxRecDepth 20000 in
theorem ggX5_pushType_X7_placeOf : GoodIn wsX5_pushType wsX7_placeOf := goodIn_r _ [4, 5, 6, 3, 7, 8, 9] rfl (by decide +kernel)
set_option maxRecDepth 20000 in
theorem gX5_pushType_X7_placeOf : GoodIn wsX5_pushType (va_wsS RX5 54 yX7_placeOf wsX7_placeOf) := goodIn_app (goodIn_of _ (by decide +kernel)) ggX5_pushType_X7_placeOf
set_option maxRecDepth 20000 in
theorem ggX5_pushType_X5_push : GoodIn wsX5_pushType wsX5_push := goodIn_r _ [14, 15, 16, 17, 18, 19, 20, 13, 21, 22, 23, 24, 25, 26, 27, 28, 29, 30, 31] rfl (by decide +kernel)
set_option maxRecDepth 20000 in
theorem gX5_pushType_X5_push : GoodIn wsX5_pushType (wsV RX5 99 RX5 yX5_push wsX5_push) := goodIn_app (goodIn_of _ (by decide +kernel)) ggX5_pushType_X5_push
theorem dX5_pushType_0 : decode cX5_pushType 0 = .ok (.aload_n 0, 1) := by decide +kernel
theorem dX5_pushType_1 : decode cX5_pushType 1 = .ok (.iload_n 1, 1) := by decide +kernel
theorem dX5_pushType_2 : decode cX5_pushType 2 = .ok (.invokestatic 54, 3) := by decide +kernel
theorem dX5_pushType_5 : decode cX5_pushType 5 = .ok (.invokevirtual 99, 3) := by decide +kernel
theorem dX5_pushType_8 : decode cX5_pushType 8 = .ok (.return_, 1) := by decide +kernel
theorem dX5_pull_0 : decode cX5_pull 0 = .ok (.aload_n 0, 1) := by decide +kernel
theorem dX5_pull_1 : decode cX5_pull 1 = .ok (.getfield 32, 3) := by decide +kernel
theorem dX5_pull_4 : decode cX5_pull 4 = .ok (.aload_n 0, 1) := by decide +kernel
theorem dX5_pull_5 : decode cX5_pull 5 = .ok (.getfield 25, 3) := by decide +kernel
theorem dX5_pull_8 : decode cX5_pull 8 = .ok (.if_icmp .le 19, 3) := by decide +kernel
theorem dX5_pull_11 : decode cX5_pull 11 = .ok (.aload_n 0, 1) := by decide +kernel
theorem dX5_pull_12 : decode cX5_pull 12 = .ok (.getfield 9, 3) := by decide +kernel
theorem dX5_pull_15 : decode cX5_pull 15 = .ok (.aload_n 0, 1) := by decide +kernel
theorem dX5_pull_16 : decode cX5_pull 16 = .ok (.getfield 32, 3) := by decide +kernel
theorem dX5_pull_19 : decode cX5_pull 19 = .ok (.iconst 1, 1) := by decide +kernel
theorem dX5_pull_20 : decode cX5_pull 20 = .ok (.isub, 1) := by decide +kernel
