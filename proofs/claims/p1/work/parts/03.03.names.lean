theorem dX9_fits_409 : decode cX9_fits 409 = .ok (.bipush 16, 2) := by decide +kernel
theorem dX9_fits_411 : decode cX9_fits 411 = .ok (.ishr, 1) := by decide +kernel
theorem dX9_fits_412 : decode cX9_fits 412 = .ok (.sipush 255, 3) := by decide +kernel
theorem dX9_fits_415 : decode cX9_fits 415 = .ok (.if_icmp .ge 7, 3) := by decide +kernel
theorem dX9_fits_418 : decode cX9_fits 418 = .ok (.iconst 1, 1) := by decide +kernel
theorem dX9_fits_419 : decode cX9_fits 419 = .ok (.goto 4, 3) := by decide +kernel
theorem dX9_fits_422 : decode cX9_fits 422 = .ok (.iconst 0, 1) := by decide +kernel
theorem dX9_fits_423 : decode cX9_fits 423 = .ok (.ireturn, 1) := by decide +kernel
theorem dX9_fits_424 : decode cX9_fits 424 = .ok (.iload_n 1, 1) := by decide +kernel
theorem dX9_fits_425 : decode cX9_fits 425 = .ok (.sipush 192, 3) := by decide +kernel
theorem dX9_fits_428 : decode cX9_fits 428 = .ok (.if_icmp .eq 10, 3) := by decide +kernel
theorem dX9_fits_431 : decode cX9_fits 431 = .ok (.iload_n 1, 1) := by decide +kernel
theorem dX9_fits_432 : decode cX9_fits 432 = .ok (.sipush 193, 3) := by decide +kernel
theorem dX9_fits_435 : decode cX9_fits 435 = .ok (.if_icmp .ne 23, 3) := by decide +kernel
theorem dX9_fits_438 : decode cX9_fits 438 = .ok (.aload_n 0, 1) := by decide +kernel
theorem dX9_fits_439 : decode cX9_fits 439 = .ok (.iload_n 2, 1) := by decide +kernel
theorem dX9_fits_440 : decode cX9_fits 440 = .ok (.invokevirtual 155, 3) := by decide +kernel
theorem dX9_fits_443 : decode cX9_fits 443 = .ok (.ifCond .eq 15, 3) := by decide +kernel
theorem dX9_fits_446 : decode cX9_fits 446 = .ok (.aload_n 0, 1) := by decide +kernel
theorem dX9_fits_447 : decode cX9_fits 447 = .ok (.iload_n 2, 1) := by decide +kernel
theorem dX9_fits_448 : decode cX9_fits 448 = .ok (.invokevirtual 195, 3) := by decide +kernel
theorem dX9_fits_451 : decode cX9_fits 451 = .ok (.ifCond .ne 7, 3) := by decide +kernel
theorem dX9_fits_454 : decode cX9_fits 454 = .ok (.iconst 1, 1) := by decide +kernel
theorem dX9_fits_455 : decode cX9_fits 455 = .ok (.goto 4, 3) := by decide +kernel
theorem dX9_fits_458 : decode cX9_fits 458 = .ok (.iconst 0, 1) := by decide +kernel
theorem dX9_fits_459 : decode cX9_fits 459 = .ok (.ireturn, 1) := by decide +kernel
set_option maxRecDepth 20000 in
theorem ggX9_to_X9_bad : GoodIn wsX9_to wsX9_bad := goodIn_r _ [11, 1, 16, 17, 18, 19, 20, 21, 22, 23, 24, 25, 26, 27, 28, 29, 30, 31, 32, 33, 34, 35, 36, 37, 38, 39, 40, 41, 42, 43, 44, 45, 46, 47, 48, 49, 50, 51, 52, 53, 54, 55, 56, 57, 58, 59, 60, 61, 62, 63, 64, 65, 66, 67, 68, 69, 70, 71, 72, 73, 74, 75, 76, 77] (by decide +kernel) (by decide +kernel)
set_option maxRecDepth 20000 in
theorem gX9_to_X9_bad : GoodIn wsX9_to (wsV RX9 148 RX9 yX9_bad wsX9_bad) := goodIn_app (goodIn_of _ (by decide +kernel)) ggX9_to_X9_bad
set_option maxRecDepth 20000 in
theorem ggX9_to_X9_full : GoodIn wsX9_to wsX9_full := goodIn_r _ [15, 1, 16, 17, 18, 19, 20, 21, 22, 23, 24, 25, 26, 27, 28, 29, 30, 31, 32, 33, 34, 35, 36, 37, 38, 39, 40, 41, 42, 43, 44, 45, 46, 47, 48, 49, 50, 51, 52, 53, 54, 55, 56, 57, 58, 59, 60, 61, 62, 63, 64, 65, 66, 67, 68, 69, 70, 71, 72, 73, 74, 75, 76, 77] (by decide +kernel) (by decide +kernel)
set_option maxRecDepth 20000 in
theorem gX9_to_X9_full : GoodIn wsX9_to (wsV RX9 152 RX9 yX9_full wsX9_full) := goodIn_app (goodIn_of _ (by decide +kernel)) ggX9_to_X9_full
theorem dX9_to_0 : decode cX9_to 0 = .ok (.aload_n 0, 1) := by decide +kernel
theorem dX9_to_1 : decode cX9_to 1 = .ok (.iconst 0, 1) := by decide +kernel
theorem dX9_to_2 : decode cX9_to 2 = .ok (.putfield 1, 3) := by decide +kernel
theorem dX9_to_5 : decode cX9_to 5 = .ok (.iload_n 1, 1) := by decide +kernel
theorem dX9_to_6 : decode cX9_to 6 = .ok (.ifCond .ge 8, 3) := by decide +kernel
theorem dX9_to_9 : decode cX9_to 9 = .ok (.aload_n 0, 1) := by decide +kernel
theorem dX9_to_10 : decode cX9_to 10 = .ok (.invokevirtual 148, 3) := by decide +kernel
theorem dX9_to_13 : decode cX9_to 13 = .ok (.ireturn, 1) := by decide +kernel
theorem dX9_to_14 : decode cX9_to 14 = .ok (.aload_n 0, 1) := by decide +kernel
theorem dX9_to_15 : decode cX9_to 15 = .ok (.getfield 179, 3) := by decide +kernel
theorem dX9_to_18 : decode cX9_to 18 = .ok (.ifCond .eq 53, 3) := by decide +kernel
theorem dX9_to_21 : decode cX9_to 21 = .ok (.aload_n 0, 1) := by decide +kernel
theorem dX9_to_22 : decode cX9_to 22 = .ok (.getfield 51, 3) := by decide +kernel
theorem dX9_to_25 : decode cX9_to 25 = .ok (.aload_n 0, 1) := by decide +kernel
theorem dX9_to_26 : decode cX9_to 26 = .ok (.getfield 179, 3) := by decide +kernel
theorem dX9_to_29 : decode cX9_to 29 = .ok (.iconst 1, 1) := by decide +kernel
theorem dX9_to_30 : decode cX9_to 30 = .ok (.isub, 1) := by decide +kernel
theorem dX9_to_31 : decode cX9_to 31 = .ok (.iaload, 1) := by decide +kernel
theorem dX9_to_32 : decode cX9_to 32 = .ok (.sipush 170, 3) := by decide +kernel
theorem dX9_to_35 : decode cX9_to 35 = .ok (.if_icmp .eq 20, 3) := by decide +kernel
theorem dX9_to_38 : decode cX9_to 38 = .ok (.aload_n 0, 1) := by decide +kernel
theorem dX9_to_39 : decode cX9_to 39 = .ok (.getfield 51, 3) := by decide +kernel
theorem dX9_to_42 : decode cX9_to 42 = .ok (.aload_n 0, 1) := by decide +kernel
theorem dX9_to_43 : decode cX9_to 43 = .ok (.getfield 179, 3) := by decide +kernel
theorem dX9_to_46 : decode cX9_to 46 = .ok (.iconst 1, 1) := by decide +kernel
theorem dX9_to_47 : decode cX9_to 47 = .ok (.isub, 1) := by decide +kernel
theorem dX9_to_48 : decode cX9_to 48 = .ok (.iaload, 1) := by decide +kernel
theorem dX9_to_49 : decode cX9_to 49 = .ok (.sipush 171, 3) := by decide +kernel
theorem dX9_to_52 : decode cX9_to 52 = .ok (.if_icmp .ne 19, 3) := by decide +kernel
theorem dX9_to_55 : decode cX9_to 55 = .ok (.aload_n 0, 1) := by decide +kernel
theorem dX9_to_56 : decode cX9_to 56 = .ok (.getfield 63, 3) := by decide +kernel
theorem dX9_to_59 : decode cX9_to 59 = .ok (.aload_n 0, 1) := by decide +kernel
theorem dX9_to_60 : decode cX9_to 60 = .ok (.getfield 179, 3) := by decide +kernel
theorem dX9_to_63 : decode cX9_to 63 = .ok (.iconst 1, 1) := by decide +kernel
theorem dX9_to_64 : decode cX9_to 64 = .ok (.isub, 1) := by decide +kernel
theorem dX9_to_65 : decode cX9_to 65 = .ok (.iaload, 1) := by decide +kernel
theorem dX9_to_66 : decode cX9_to 66 = .ok (.bipush 50, 2) := by decide +kernel
theorem dX9_to_68 : decode cX9_to 68 = .ok (.if_icmp .ne 8, 3) := by decide +kernel
theorem dX9_to_71 : decode cX9_to 71 = .ok (.aload_n 0, 1) := by decide +kernel
theorem dX9_to_72 : decode cX9_to 72 = .ok (.invokevirtual 152, 3) := by decide +kernel
theorem dX9_to_75 : decode cX9_to 75 = .ok (.ireturn, 1) := by decide +kernel
theorem dX9_to_76 : decode cX9_to 76 = .ok (.aload_n 0, 1) := by decide +kernel
theorem dX9_to_77 : decode cX9_to 77 = .ok (.getfield 67, 3) := by decide +kernel
theorem dX9_to_80 : decode cX9_to 80 = .ok (.aload_n 0, 1) := by decide +kernel
theorem dX9_to_81 : decode cX9_to 81 = .ok (.dup, 1) := by decide +kernel
theorem dX9_to_82 : decode cX9_to 82 = .ok (.getfield 185, 3) := by decide +kernel
theorem dX9_to_85 : decode cX9_to 85 = .ok (.dup_x1, 1) := by decide +kernel
theorem dX9_to_86 : decode cX9_to 86 = .ok (.iconst 1, 1) := by decide +kernel
theorem dX9_to_87 : decode cX9_to 87 = .ok (.iadd, 1) := by decide +kernel
theorem dX9_to_88 : decode cX9_to 88 = .ok (.putfield 185, 3) := by decide +kernel
theorem dX9_to_91 : decode cX9_to 91 = .ok (.iload_n 1, 1) := by decide +kernel
theorem dX9_to_92 : decode cX9_to 92 = .ok (.iastore, 1) := by decide +kernel
theorem dX9_to_93 : decode cX9_to 93 = .ok (.aload_n 0, 1) := by decide +kernel
theorem dX9_to_94 : decode cX9_to 94 = .ok (.getfield 63, 3) := by decide +kernel
theorem dX9_to_97 : decode cX9_to 97 = .ok (.aload_n 0, 1) := by decide +kernel
theorem dX9_to_98 : decode cX9_to 98 = .ok (.getfield 179, 3) := by decide +kernel
theorem dX9_to_101 : decode cX9_to 101 = .ok (.iconst 1, 1) := by decide +kernel
theorem dX9_to_102 : decode cX9_to 102 = .ok (.isub, 1) := by decide +kernel
theorem dX9_to_103 : decode cX9_to 103 = .ok (.dup2, 1) := by decide +kernel
theorem dX9_to_104 : decode cX9_to 104 = .ok (.iaload, 1) := by decide +kernel
theorem dX9_to_105 : decode cX9_to 105 = .ok (.iconst 1, 1) := by decide +kernel
theorem dX9_to_106 : decode cX9_to 106 = .ok (.iadd, 1) := by decide +kernel
theorem dX9_to_107 : decode cX9_to 107 = .ok (.dup_x2, 1) := by decide +kernel
theorem dX9_to_108 : decode cX9_to 108 = .ok (.iastore, 1) := by decide +kernel
theorem dX9_to_109 : decode cX9_to 109 = .ok (.ireturn, 1) := by decide +kernel
set_option maxRecDepth 20000 in
theorem ggX9_row_X9_isClass : GoodIn wsX9_row wsX9_isClass := goodIn_r _ [11, 12, 21, 22, 23, 24, 25, 26, 27, 28, 29, 30, 31, 32, 33, 34, 35, 36, 37, 38, 39, 40, 41, 42, 43, 44, 45, 46, 47, 48, 49, 50, 51, 52, 53, 54, 55, 56, 57, 58, 59, 60, 61, 62, 63, 64, 65, 66, 67, 68, 69, 70, 71, 72, 73, 74, 75, 76, 77, 78, 79, 80, 81, 82] (by decide +kernel) (by decide +kernel)
set_option maxRecDepth 20000 in
theorem gX9_row_X9_isClass : GoodIn wsX9_row (wsV RX9 143 RX9 yX9_isClass wsX9_isClass) := goodIn_app (goodIn_of _ (by decide +kernel)) ggX9_row_X9_isClass
set_option maxRecDepth 20000 in
theorem ggX9_row_X9_bad : GoodIn wsX9_row wsX9_bad := goodIn_r _ [16, 1, 21, 22, 23, 24, 25, 26, 27, 28, 29, 30, 31, 32, 33, 34, 35, 36, 37, 38, 39, 40, 41, 42, 43, 44, 45, 46, 47, 48, 49, 50, 51, 52, 53, 54, 55, 56, 57, 58, 59, 60, 61, 62, 63, 64, 65, 66, 67, 68, 69, 70, 71, 72, 73, 74, 75, 76, 77, 78, 79, 80, 81, 82] (by decide +kernel) (by decide +kernel)
set_option maxRecDepth 20000 in
theorem gX9_row_X9_bad : GoodIn wsX9_row (wsV RX9 148 RX9 yX9_bad wsX9_bad) := goodIn_app (goodIn_of _ (by decide +kernel)) ggX9_row_X9_bad
set_option maxRecDepth 20000 in
theorem ggX9_row_X9_full : GoodIn wsX9_row wsX9_full := goodIn_r _ [20, 1, 21, 22, 23, 24, 25, 26, 27, 28, 29, 30, 31, 32, 33, 34, 35, 36, 37, 38, 39, 40, 41, 42, 43, 44, 45, 46, 47, 48, 49, 50, 51, 52, 53, 54, 55, 56, 57, 58, 59, 60, 61, 62, 63, 64, 65, 66, 67, 68, 69, 70, 71, 72, 73, 74, 75, 76, 77, 78, 79, 80, 81, 82] (by decide +kernel) (by decide +kernel)
set_option maxRecDepth 20000 in
theorem gX9_row_X9_full : GoodIn wsX9_row (wsV RX9 152 RX9 yX9_full wsX9_full) := goodIn_app (goodIn_of _ (by decide +kernel)) ggX9_row_X9_full
theorem dX9_row_0 : decode cX9_row 0 = .ok (.aload_n 0, 1) := by decide +kernel
theorem dX9_row_1 : decode cX9_row 1 = .ok (.iconst 0, 1) := by decide +kernel
theorem dX9_row_2 : decode cX9_row 2 = .ok (.putfield 1, 3) := by decide +kernel
theorem dX9_row_5 : decode cX9_row 5 = .ok (.iload_n 1, 1) := by decide +kernel
theorem dX9_row_6 : decode cX9_row 6 = .ok (.ifCond .lt 26, 3) := by decide +kernel
theorem dX9_row_9 : decode cX9_row 9 = .ok (.iload_n 2, 1) := by decide +kernel
theorem dX9_row_10 : decode cX9_row 10 = .ok (.ifCond .lt 22, 3) := by decide +kernel
theorem dX9_row_13 : decode cX9_row 13 = .ok (.iload_n 3, 1) := by decide +kernel
theorem dX9_row_14 : decode cX9_row 14 = .ok (.ifCond .lt 18, 3) := by decide +kernel
theorem dX9_row_17 : decode cX9_row 17 = .ok (.iload 4, 2) := by decide +kernel
theorem dX9_row_19 : decode cX9_row 19 = .ok (.iconst (-1), 1) := by decide +kernel
theorem dX9_row_20 : decode cX9_row 20 = .ok (.if_icmp .eq 17, 3) := by decide +kernel
theorem dX9_row_23 : decode cX9_row 23 = .ok (.aload_n 0, 1) := by decide +kernel
theorem dX9_row_24 : decode cX9_row 24 = .ok (.iload 4, 2) := by decide +kernel
theorem dX9_row_26 : decode cX9_row 26 = .ok (.invokevirtual 143, 3) := by decide +kernel
theorem dX9_row_29 : decode cX9_row 29 = .ok (.ifCond .ne 8, 3) := by decide +kernel
theorem dX9_row_32 : decode cX9_row 32 = .ok (.aload_n 0, 1) := by decide +kernel
theorem dX9_row_33 : decode cX9_row 33 = .ok (.invokevirtual 148, 3) := by decide +kernel
theorem dX9_row_36 : decode cX9_row 36 = .ok (.ireturn, 1) := by decide +kernel
theorem dX9_row_37 : decode cX9_row 37 = .ok (.aload_n 0, 1) := by decide +kernel
theorem dX9_row_38 : decode cX9_row 38 = .ok (.getfield 182, 3) := by decide +kernel
theorem dX9_row_41 : decode cX9_row 41 = .ok (.bipush 50, 2) := by decide +kernel
theorem dX9_row_43 : decode cX9_row 43 = .ok (.if_icmp .ne 8, 3) := by decide +kernel
theorem dX9_row_46 : decode cX9_row 46 = .ok (.aload_n 0, 1) := by decide +kernel
theorem dX9_row_47 : decode cX9_row 47 = .ok (.invokevirtual 152, 3) := by decide +kernel
theorem dX9_row_50 : decode cX9_row 50 = .ok (.ireturn, 1) := by decide +kernel
theorem dX9_row_51 : decode cX9_row 51 = .ok (.aload_n 0, 1) := by decide +kernel
theorem dX9_row_52 : decode cX9_row 52 = .ok (.getfield 70, 3) := by decide +kernel
theorem dX9_row_55 : decode cX9_row 55 = .ok (.aload_n 0, 1) := by decide +kernel
theorem dX9_row_56 : decode cX9_row 56 = .ok (.getfield 182, 3) := by decide +kernel
theorem dX9_row_59 : decode cX9_row 59 = .ok (.iload_n 1, 1) := by decide +kernel
theorem dX9_row_60 : decode cX9_row 60 = .ok (.iastore, 1) := by decide +kernel
theorem dX9_row_61 : decode cX9_row 61 = .ok (.aload_n 0, 1) := by decide +kernel
theorem dX9_row_62 : decode cX9_row 62 = .ok (.getfield 73, 3) := by decide +kernel
theorem dX9_row_65 : decode cX9_row 65 = .ok (.aload_n 0, 1) := by decide +kernel
theorem dX9_row_66 : decode cX9_row 66 = .ok (.getfield 182, 3) := by decide +kernel
theorem dX9_row_69 : decode cX9_row 69 = .ok (.iload_n 2, 1) := by decide +kernel
theorem dX9_row_70 : decode cX9_row 70 = .ok (.iastore, 1) := by decide +kernel
theorem dX9_row_71 : decode cX9_row 71 = .ok (.aload_n 0, 1) := by decide +kernel
theorem dX9_row_72 : decode cX9_row 72 = .ok (.getfield 76, 3) := by decide +kernel
theorem dX9_row_75 : decode cX9_row 75 = .ok (.aload_n 0, 1) := by decide +kernel
theorem dX9_row_76 : decode cX9_row 76 = .ok (.getfield 182, 3) := by decide +kernel
theorem dX9_row_79 : decode cX9_row 79 = .ok (.iload_n 3, 1) := by decide +kernel
theorem dX9_row_80 : decode cX9_row 80 = .ok (.iastore, 1) := by decide +kernel
theorem dX9_row_81 : decode cX9_row 81 = .ok (.aload_n 0, 1) := by decide +kernel
theorem dX9_row_82 : decode cX9_row 82 = .ok (.getfield 79, 3) := by decide +kernel
theorem dX9_row_85 : decode cX9_row 85 = .ok (.aload_n 0, 1) := by decide +kernel
theorem dX9_row_86 : decode cX9_row 86 = .ok (.getfield 182, 3) := by decide +kernel
theorem dX9_row_89 : decode cX9_row 89 = .ok (.iload 4, 2) := by decide +kernel
theorem dX9_row_91 : decode cX9_row 91 = .ok (.iastore, 1) := by decide +kernel
theorem dX9_row_92 : decode cX9_row 92 = .ok (.aload_n 0, 1) := by decide +kernel
theorem dX9_row_93 : decode cX9_row 93 = .ok (.dup, 1) := by decide +kernel
theorem dX9_row_94 : decode cX9_row 94 = .ok (.getfield 182, 3) := by decide +kernel
theorem dX9_row_97 : decode cX9_row 97 = .ok (.iconst 1, 1) := by decide +kernel
theorem dX9_row_98 : decode cX9_row 98 = .ok (.iadd, 1) := by decide +kernel
theorem dX9_row_99 : decode cX9_row 99 = .ok (.dup_x1, 1) := by decide +kernel
theorem dX9_row_100 : decode cX9_row 100 = .ok (.putfield 182, 3) := by decide +kernel
theorem dX9_row_103 : decode cX9_row 103 = .ok (.ireturn, 1) := by decide +kernel
theorem dX9_below_0 : decode cX9_below 0 = .ok (.iload_n 1, 1) := by decide +kernel
theorem dX9_below_1 : decode cX9_below 1 = .ok (.istore_n 3, 1) := by decide +kernel
theorem dX9_below_2 : decode cX9_below 2 = .ok (.iload_n 3, 1) := by decide +kernel
theorem dX9_below_3 : decode cX9_below 3 = .ok (.ifCond .lt 20, 3) := by decide +kernel
theorem dX9_below_6 : decode cX9_below 6 = .ok (.iload_n 3, 1) := by decide +kernel
theorem dX9_below_7 : decode cX9_below 7 = .ok (.iload_n 2, 1) := by decide +kernel
theorem dX9_below_8 : decode cX9_below 8 = .ok (.if_icmp .ne 5, 3) := by decide +kernel
theorem dX9_below_11 : decode cX9_below 11 = .ok (.iconst 1, 1) := by decide +kernel
theorem dX9_below_12 : decode cX9_below 12 = .ok (.ireturn, 1) := by decide +kernel
theorem dX9_below_13 : decode cX9_below 13 = .ok (.aload_n 0, 1) := by decide +kernel
theorem dX9_below_14 : decode cX9_below 14 = .ok (.getfield 16, 3) := by decide +kernel
theorem dX9_below_17 : decode cX9_below 17 = .ok (.iload_n 3, 1) := by decide +kernel
theorem dX9_below_18 : decode cX9_below 18 = .ok (.iaload, 1) := by decide +kernel
theorem dX9_below_19 : decode cX9_below 19 = .ok (.istore_n 3, 1) := by decide +kernel
theorem dX9_below_20 : decode cX9_below 20 = .ok (.goto (-18), 3) := by decide +kernel
theorem dX9_below_23 : decode cX9_below 23 = .ok (.iconst 0, 1) := by decide +kernel
theorem dX9_below_24 : decode cX9_below 24 = .ok (.ireturn, 1) := by decide +kernel
set_option maxRecDepth 20000 in
theorem ggX9_may_X9_isPrimitive : GoodIn wsX9_may wsX9_isPrimitive := goodIn_r _ [8, 3, 9] (by decide +kernel) (by decide +kernel)
set_option maxRecDepth 20000 in
theorem gX9_may_X9_isPrimitive : GoodIn wsX9_may (wsV RX9 195 RX9 yX9_isPrimitive wsX9_isPrimitive) := goodIn_app (goodIn_of _ (by decide +kernel)) ggX9_may_X9_isPrimitive
set_option maxRecDepth 20000 in
theorem ggX9_may_X9_below : GoodIn wsX9_may wsX9_below := goodIn_r _ [13, 14, 18, 19, 20, 21, 22, 23, 24, 25, 26, 27, 28, 29, 30, 31, 32, 33, 34, 35, 36, 37, 38, 39, 40, 41, 42, 43, 44, 45, 46, 47, 48, 49, 50, 51, 52, 53, 54, 55, 56, 57, 58, 59, 60, 61, 62, 63, 64, 65, 66, 67, 68, 69, 70, 71, 72, 73, 74, 75, 76, 77, 78, 79] (by decide +kernel) (by decide +kernel)
set_option maxRecDepth 20000 in
theorem gX9_may_X9_below : GoodIn wsX9_may (wsV RX9 198 RX9 yX9_below wsX9_below) := goodIn_app (goodIn_of _ (by decide +kernel)) ggX9_may_X9_below
set_option maxRecDepth 20000 in
theorem ggX9_may_X9_may : GoodIn wsX9_may wsX9_may := goodIn_r _ [0, 1, 2, 3, 4, 5, 6, 7, 8, 9, 10, 11, 12, 13, 14, 15, 16, 17, 18, 19, 20, 21, 22, 23, 24, 25, 26, 27, 28, 29, 30, 31, 32, 33, 34, 35, 36, 37, 38, 39, 40, 41, 42, 43, 44, 45, 46, 47, 48, 49, 50, 51, 52, 53, 54, 55, 56, 57, 58, 59, 60, 61, 62, 63, 64, 65, 66, 67, 68, 69, 70, 71, 72, 73, 74, 75, 76, 77, 78, 79] (by decide +kernel) (by decide +kernel)
set_option maxRecDepth 20000 in
theorem gX9_may_X9_may : GoodIn wsX9_may (wsV RX9 202 RX9 yX9_may wsX9_may) := goodIn_app (goodIn_of _ (by decide +kernel)) ggX9_may_X9_may
theorem dX9_may_0 : decode cX9_may 0 = .ok (.iload_n 1, 1) := by decide +kernel
theorem dX9_may_1 : decode cX9_may 1 = .ok (.iload_n 2, 1) := by decide +kernel
theorem dX9_may_2 : decode cX9_may 2 = .ok (.if_icmp .ne 5, 3) := by decide +kernel
theorem dX9_may_5 : decode cX9_may 5 = .ok (.iconst 1, 1) := by decide +kernel
theorem dX9_may_6 : decode cX9_may 6 = .ok (.ireturn, 1) := by decide +kernel
theorem dX9_may_7 : decode cX9_may 7 = .ok (.aload_n 0, 1) := by decide +kernel
theorem dX9_may_8 : decode cX9_may 8 = .ok (.iload_n 1, 1) := by decide +kernel
theorem dX9_may_9 : decode cX9_may 9 = .ok (.invokevirtual 195, 3) := by decide +kernel
theorem dX9_may_12 : decode cX9_may 12 = .ok (.ifCond .ne 11, 3) := by decide +kernel
theorem dX9_may_15 : decode cX9_may 15 = .ok (.aload_n 0, 1) := by decide +kernel
theorem dX9_may_16 : decode cX9_may 16 = .ok (.iload_n 2, 1) := by decide +kernel
theorem dX9_may_17 : decode cX9_may 17 = .ok (.invokevirtual 195, 3) := by decide +kernel
theorem dX9_may_20 : decode cX9_may 20 = .ok (.ifCond .eq 5, 3) := by decide +kernel
theorem dX9_may_23 : decode cX9_may 23 = .ok (.iconst 0, 1) := by decide +kernel
theorem dX9_may_24 : decode cX9_may 24 = .ok (.ireturn, 1) := by decide +kernel
theorem dX9_may_25 : decode cX9_may 25 = .ok (.iload_n 1, 1) := by decide +kernel
theorem dX9_may_26 : decode cX9_may 26 = .ok (.bipush 16, 2) := by decide +kernel
theorem dX9_may_28 : decode cX9_may 28 = .ok (.ishr, 1) := by decide +kernel
theorem dX9_may_29 : decode cX9_may 29 = .ok (.istore_n 3, 1) := by decide +kernel
theorem dX9_may_30 : decode cX9_may 30 = .ok (.iload_n 2, 1) := by decide +kernel
theorem dX9_may_31 : decode cX9_may 31 = .ok (.bipush 16, 2) := by decide +kernel
theorem dX9_may_33 : decode cX9_may 33 = .ok (.ishr, 1) := by decide +kernel
theorem dX9_may_34 : decode cX9_may 34 = .ok (.istore 4, 2) := by decide +kernel
theorem dX9_may_36 : decode cX9_may 36 = .ok (.iload 4, 2) := by decide +kernel
theorem dX9_may_38 : decode cX9_may 38 = .ok (.ifCond .ne 57, 3) := by decide +kernel
theorem dX9_may_41 : decode cX9_may 41 = .ok (.iload_n 3, 1) := by decide +kernel
theorem dX9_may_42 : decode cX9_may 42 = .ok (.ifCond .le 25, 3) := by decide +kernel
theorem dX9_may_45 : decode cX9_may 45 = .ok (.iload_n 2, 1) := by decide +kernel
theorem dX9_may_46 : decode cX9_may 46 = .ok (.ifCond .eq 13, 3) := by decide +kernel
theorem dX9_may_49 : decode cX9_may 49 = .ok (.iload_n 2, 1) := by decide +kernel
theorem dX9_may_50 : decode cX9_may 50 = .ok (.iconst 2, 1) := by decide +kernel
theorem dX9_may_51 : decode cX9_may 51 = .ok (.if_icmp .eq 8, 3) := by decide +kernel
theorem dX9_may_54 : decode cX9_may 54 = .ok (.iload_n 2, 1) := by decide +kernel
theorem dX9_may_55 : decode cX9_may 55 = .ok (.iconst 3, 1) := by decide +kernel
theorem dX9_may_56 : decode cX9_may 56 = .ok (.if_icmp .ne 7, 3) := by decide +kernel
theorem dX9_may_59 : decode cX9_may 59 = .ok (.iconst 1, 1) := by decide +kernel
theorem dX9_may_60 : decode cX9_may 60 = .ok (.goto 34, 3) := by decide +kernel
theorem dX9_may_63 : decode cX9_may 63 = .ok (.iconst 0, 1) := by decide +kernel
theorem dX9_may_64 : decode cX9_may 64 = .ok (.goto 30, 3) := by decide +kernel
theorem dX9_may_67 : decode cX9_may 67 = .ok (.iload_n 2, 1) := by decide +kernel
theorem dX9_may_68 : decode cX9_may 68 = .ok (.ifCond .eq 21, 3) := by decide +kernel
theorem dX9_may_71 : decode cX9_may 71 = .ok (.aload_n 0, 1) := by decide +kernel
theorem dX9_may_72 : decode cX9_may 72 = .ok (.getfield 20, 3) := by decide +kernel
theorem dX9_may_75 : decode cX9_may 75 = .ok (.iload_n 2, 1) := by decide +kernel
theorem dX9_may_76 : decode cX9_may 76 = .ok (.baload, 1) := by decide +kernel
theorem dX9_may_77 : decode cX9_may 77 = .ok (.ifCond .ne 12, 3) := by decide +kernel
theorem dX9_may_80 : decode cX9_may 80 = .ok (.aload_n 0, 1) := by decide +kernel
theorem dX9_may_81 : decode cX9_may 81 = .ok (.iload_n 1, 1) := by decide +kernel
theorem dX9_may_82 : decode cX9_may 82 = .ok (.iload_n 2, 1) := by decide +kernel
theorem dX9_may_83 : decode cX9_may 83 = .ok (.invokevirtual 198, 3) := by decide +kernel
theorem dX9_may_86 : decode cX9_may 86 = .ok (.ifCond .eq 7, 3) := by decide +kernel
theorem dX9_may_89 : decode cX9_may 89 = .ok (.iconst 1, 1) := by decide +kernel
theorem dX9_may_90 : decode cX9_may 90 = .ok (.goto 4, 3) := by decide +kernel
theorem dX9_may_93 : decode cX9_may 93 = .ok (.iconst 0, 1) := by decide +kernel
theorem dX9_may_94 : decode cX9_may 94 = .ok (.ireturn, 1) := by decide +kernel
theorem dX9_may_95 : decode cX9_may 95 = .ok (.iload_n 1, 1) := by decide +kernel
theorem dX9_may_96 : decode cX9_may 96 = .ok (.ldc 142, 2) := by decide +kernel
theorem dX9_may_98 : decode cX9_may 98 = .ok (.iand, 1) := by decide +kernel
theorem dX9_may_99 : decode cX9_may 99 = .ok (.istore 5, 2) := by decide +kernel
theorem dX9_may_101 : decode cX9_may 101 = .ok (.iload_n 2, 1) := by decide +kernel
theorem dX9_may_102 : decode cX9_may 102 = .ok (.ldc 142, 2) := by decide +kernel
theorem dX9_may_104 : decode cX9_may 104 = .ok (.iand, 1) := by decide +kernel
theorem dX9_may_105 : decode cX9_may 105 = .ok (.istore 6, 2) := by decide +kernel
theorem dX9_may_107 : decode cX9_may 107 = .ok (.iload_n 3, 1) := by decide +kernel
theorem dX9_may_108 : decode cX9_may 108 = .ok (.iload 4, 2) := by decide +kernel
theorem dX9_may_110 : decode cX9_may 110 = .ok (.if_icmp .ne 34, 3) := by decide +kernel
theorem dX9_may_113 : decode cX9_may 113 = .ok (.iload 5, 2) := by decide +kernel
theorem dX9_may_115 : decode cX9_may 115 = .ok (.ldc 140, 2) := by decide +kernel
theorem dX9_may_117 : decode cX9_may 117 = .ok (.if_icmp .ge 25, 3) := by decide +kernel
theorem dX9_may_120 : decode cX9_may 120 = .ok (.iload 6, 2) := by decide +kernel
theorem dX9_may_122 : decode cX9_may 122 = .ok (.ldc 140, 2) := by decide +kernel
theorem dX9_may_124 : decode cX9_may 124 = .ok (.if_icmp .ge 18, 3) := by decide +kernel
theorem dX9_may_127 : decode cX9_may 127 = .ok (.aload_n 0, 1) := by decide +kernel
theorem dX9_may_128 : decode cX9_may 128 = .ok (.iload 5, 2) := by decide +kernel
theorem dX9_may_130 : decode cX9_may 130 = .ok (.iload 6, 2) := by decide +kernel
theorem dX9_may_132 : decode cX9_may 132 = .ok (.invokevirtual 202, 3) := by decide +kernel
theorem dX9_may_135 : decode cX9_may 135 = .ok (.ifCond .eq 7, 3) := by decide +kernel
theorem dX9_may_138 : decode cX9_may 138 = .ok (.iconst 1, 1) := by decide +kernel
theorem dX9_may_139 : decode cX9_may 139 = .ok (.goto 4, 3) := by decide +kernel
theorem dX9_may_142 : decode cX9_may 142 = .ok (.iconst 0, 1) := by decide +kernel
theorem dX9_may_143 : decode cX9_may 143 = .ok (.ireturn, 1) := by decide +kernel
theorem dX9_may_144 : decode cX9_may 144 = .ok (.iload_n 3, 1) := by decide +kernel
theorem dX9_may_145 : decode cX9_may 145 = .ok (.iload 4, 2) := by decide +kernel
theorem dX9_may_147 : decode cX9_may 147 = .ok (.if_icmp .le 24, 3) := by decide +kernel
theorem dX9_may_150 : decode cX9_may 150 = .ok (.iload 6, 2) := by decide +kernel
theorem dX9_may_152 : decode cX9_may 152 = .ok (.ifCond .eq 15, 3) := by decide +kernel
theorem dX9_may_155 : decode cX9_may 155 = .ok (.iload 6, 2) := by decide +kernel
theorem dX9_may_157 : decode cX9_may 157 = .ok (.iconst 2, 1) := by decide +kernel
theorem dX9_may_158 : decode cX9_may 158 = .ok (.if_icmp .eq 9, 3) := by decide +kernel
theorem dX9_may_161 : decode cX9_may 161 = .ok (.iload 6, 2) := by decide +kernel
theorem dX9_may_163 : decode cX9_may 163 = .ok (.iconst 3, 1) := by decide +kernel
theorem dX9_may_164 : decode cX9_may 164 = .ok (.if_icmp .ne 7, 3) := by decide +kernel
theorem dX9_may_167 : decode cX9_may 167 = .ok (.iconst 1, 1) := by decide +kernel
theorem dX9_may_168 : decode cX9_may 168 = .ok (.goto 4, 3) := by decide +kernel
theorem dX9_may_171 : decode cX9_may 171 = .ok (.iconst 0, 1) := by decide +kernel
theorem dX9_may_172 : decode cX9_may 172 = .ok (.ireturn, 1) := by decide +kernel
set_option maxRecDepth 20000 in
theorem ggX9_shared_X9_below : GoodIn wsX9_shared wsX9_below := goodIn_r _ [14, 3, 18, 19, 20, 21, 22, 23, 24, 25, 26, 27, 28, 29, 30, 31, 32, 33, 34, 35, 36, 37, 38, 39, 40, 41, 42, 43, 44, 45, 46, 47, 48, 49, 50, 51, 52, 53, 54, 55, 56, 57, 58, 59, 60, 61, 62, 63, 64, 65, 66, 67, 68, 69, 70, 71, 72, 73, 74, 75, 76, 77, 78, 79] (by decide +kernel) (by decide +kernel)
set_option maxRecDepth 20000 in
theorem gX9_shared_X9_below : GoodIn wsX9_shared (wsV RX9 198 RX9 yX9_below wsX9_below) := goodIn_app (goodIn_of _ (by decide +kernel)) ggX9_shared_X9_below
set_option maxRecDepth 20000 in
theorem ggX9_shared_X9_shared : GoodIn wsX9_shared wsX9_shared := goodIn_r _ [0, 1, 2, 3, 4, 5, 6, 7, 8, 9, 10, 11, 12, 13, 14, 15, 16, 17, 18, 19, 20, 21, 22, 23, 24, 25, 26, 27, 28, 29, 30, 31, 32, 33, 34, 35, 36, 37, 38, 39, 40, 41, 42, 43, 44, 45, 46, 47, 48, 49, 50, 51, 52, 53, 54, 55, 56, 57, 58, 59, 60, 61, 62, 63, 64, 65, 66, 67, 68, 69, 70, 71, 72, 73, 74, 75, 76, 77, 78, 79] (by decide +kernel) (by decide +kernel)
set_option maxRecDepth 20000 in
theorem gX9_shared_X9_shared : GoodIn wsX9_shared (wsV RX9 205 RX9 yX9_shared wsX9_shared) := goodIn_app (goodIn_of _ (by decide +kernel)) ggX9_shared_X9_shared
theorem dX9_shared_0 : decode cX9_shared 0 = .ok (.iload_n 1, 1) := by decide +kernel
theorem dX9_shared_1 : decode cX9_shared 1 = .ok (.iload_n 2, 1) := by decide +kernel
theorem dX9_shared_2 : decode cX9_shared 2 = .ok (.if_icmp .ne 5, 3) := by decide +kernel
theorem dX9_shared_5 : decode cX9_shared 5 = .ok (.iload_n 1, 1) := by decide +kernel
theorem dX9_shared_6 : decode cX9_shared 6 = .ok (.ireturn, 1) := by decide +kernel
theorem dX9_shared_7 : decode cX9_shared 7 = .ok (.iload_n 1, 1) := by decide +kernel
theorem dX9_shared_8 : decode cX9_shared 8 = .ok (.bipush 16, 2) := by decide +kernel
theorem dX9_shared_10 : decode cX9_shared 10 = .ok (.ishr, 1) := by decide +kernel
theorem dX9_shared_11 : decode cX9_shared 11 = .ok (.istore_n 3, 1) := by decide +kernel
theorem dX9_shared_12 : decode cX9_shared 12 = .ok (.iload_n 2, 1) := by decide +kernel
theorem dX9_shared_13 : decode cX9_shared 13 = .ok (.bipush 16, 2) := by decide +kernel
theorem dX9_shared_15 : decode cX9_shared 15 = .ok (.ishr, 1) := by decide +kernel
theorem dX9_shared_16 : decode cX9_shared 16 = .ok (.istore 4, 2) := by decide +kernel
theorem dX9_shared_18 : decode cX9_shared 18 = .ok (.iload_n 1, 1) := by decide +kernel
theorem dX9_shared_19 : decode cX9_shared 19 = .ok (.ldc 142, 2) := by decide +kernel
theorem dX9_shared_21 : decode cX9_shared 21 = .ok (.iand, 1) := by decide +kernel
theorem dX9_shared_22 : decode cX9_shared 22 = .ok (.istore 5, 2) := by decide +kernel
theorem dX9_shared_24 : decode cX9_shared 24 = .ok (.iload_n 2, 1) := by decide +kernel
theorem dX9_shared_25 : decode cX9_shared 25 = .ok (.ldc 142, 2) := by decide +kernel
theorem dX9_shared_27 : decode cX9_shared 27 = .ok (.iand, 1) := by decide +kernel
theorem dX9_shared_28 : decode cX9_shared 28 = .ok (.istore 6, 2) := by decide +kernel
theorem dX9_shared_30 : decode cX9_shared 30 = .ok (.iload_n 3, 1) := by decide +kernel
theorem dX9_shared_31 : decode cX9_shared 31 = .ok (.ifCond .ne 60, 3) := by decide +kernel
theorem dX9_shared_34 : decode cX9_shared 34 = .ok (.iload 4, 2) := by decide +kernel
theorem dX9_shared_36 : decode cX9_shared 36 = .ok (.ifCond .ne 55, 3) := by decide +kernel
theorem dX9_shared_39 : decode cX9_shared 39 = .ok (.aload_n 0, 1) := by decide +kernel
theorem dX9_shared_40 : decode cX9_shared 40 = .ok (.getfield 20, 3) := by decide +kernel
theorem dX9_shared_43 : decode cX9_shared 43 = .ok (.iload 5, 2) := by decide +kernel
theorem dX9_shared_45 : decode cX9_shared 45 = .ok (.baload, 1) := by decide +kernel
theorem dX9_shared_46 : decode cX9_shared 46 = .ok (.ifCond .ne 13, 3) := by decide +kernel
theorem dX9_shared_49 : decode cX9_shared 49 = .ok (.aload_n 0, 1) := by decide +kernel
theorem dX9_shared_50 : decode cX9_shared 50 = .ok (.getfield 20, 3) := by decide +kernel
theorem dX9_shared_53 : decode cX9_shared 53 = .ok (.iload 6, 2) := by decide +kernel
theorem dX9_shared_55 : decode cX9_shared 55 = .ok (.baload, 1) := by decide +kernel
theorem dX9_shared_56 : decode cX9_shared 56 = .ok (.ifCond .eq 5, 3) := by decide +kernel
theorem dX9_shared_59 : decode cX9_shared 59 = .ok (.iconst 0, 1) := by decide +kernel
theorem dX9_shared_60 : decode cX9_shared 60 = .ok (.ireturn, 1) := by decide +kernel
theorem dX9_shared_61 : decode cX9_shared 61 = .ok (.iload 5, 2) := by decide +kernel
theorem dX9_shared_63 : decode cX9_shared 63 = .ok (.istore 7, 2) := by decide +kernel
theorem dX9_shared_65 : decode cX9_shared 65 = .ok (.aload_n 0, 1) := by decide +kernel
theorem dX9_shared_66 : decode cX9_shared 66 = .ok (.iload 6, 2) := by decide +kernel
theorem dX9_shared_68 : decode cX9_shared 68 = .ok (.iload 7, 2) := by decide +kernel
theorem dX9_shared_70 : decode cX9_shared 70 = .ok (.invokevirtual 198, 3) := by decide +kernel
theorem dX9_shared_73 : decode cX9_shared 73 = .ok (.ifCond .ne 15, 3) := by decide +kernel
theorem dX9_shared_76 : decode cX9_shared 76 = .ok (.aload_n 0, 1) := by decide +kernel
theorem dX9_shared_77 : decode cX9_shared 77 = .ok (.getfield 16, 3) := by decide +kernel
theorem dX9_shared_80 : decode cX9_shared 80 = .ok (.iload 7, 2) := by decide +kernel
theorem dX9_shared_82 : decode cX9_shared 82 = .ok (.iaload, 1) := by decide +kernel
theorem dX9_shared_83 : decode cX9_shared 83 = .ok (.istore 7, 2) := by decide +kernel
theorem dX9_shared_85 : decode cX9_shared 85 = .ok (.goto (-20), 3) := by decide +kernel
theorem dX9_shared_88 : decode cX9_shared 88 = .ok (.iload 7, 2) := by decide +kernel
theorem dX9_shared_90 : decode cX9_shared 90 = .ok (.ireturn, 1) := by decide +kernel
theorem dX9_shared_91 : decode cX9_shared 91 = .ok (.iload_n 3, 1) := by decide +kernel
theorem dX9_shared_92 : decode cX9_shared 92 = .ok (.ifCond .eq 8, 3) := by decide +kernel
theorem dX9_shared_95 : decode cX9_shared 95 = .ok (.iload 4, 2) := by decide +kernel
theorem dX9_shared_97 : decode cX9_shared 97 = .ok (.ifCond .ne 5, 3) := by decide +kernel
theorem dX9_shared_100 : decode cX9_shared 100 = .ok (.iconst 0, 1) := by decide +kernel
theorem dX9_shared_101 : decode cX9_shared 101 = .ok (.ireturn, 1) := by decide +kernel
theorem dX9_shared_102 : decode cX9_shared 102 = .ok (.iload_n 3, 1) := by decide +kernel
theorem dX9_shared_103 : decode cX9_shared 103 = .ok (.iload 4, 2) := by decide +kernel
theorem dX9_shared_105 : decode cX9_shared 105 = .ok (.if_icmp .ne 31, 3) := by decide +kernel
theorem dX9_shared_108 : decode cX9_shared 108 = .ok (.iload 5, 2) := by decide +kernel
theorem dX9_shared_110 : decode cX9_shared 110 = .ok (.ldc 140, 2) := by decide +kernel
theorem dX9_shared_112 : decode cX9_shared 112 = .ok (.if_icmp .ge 24, 3) := by decide +kernel
theorem dX9_shared_115 : decode cX9_shared 115 = .ok (.iload 6, 2) := by decide +kernel
theorem dX9_shared_117 : decode cX9_shared 117 = .ok (.ldc 140, 2) := by decide +kernel
theorem dX9_shared_119 : decode cX9_shared 119 = .ok (.if_icmp .ge 17, 3) := by decide +kernel
theorem dX9_shared_122 : decode cX9_shared 122 = .ok (.aload_n 0, 1) := by decide +kernel
theorem dX9_shared_123 : decode cX9_shared 123 = .ok (.iload 5, 2) := by decide +kernel
theorem dX9_shared_125 : decode cX9_shared 125 = .ok (.iload 6, 2) := by decide +kernel
theorem dX9_shared_127 : decode cX9_shared 127 = .ok (.invokevirtual 205, 3) := by decide +kernel
theorem dX9_shared_130 : decode cX9_shared 130 = .ok (.ldc 141, 2) := by decide +kernel
theorem dX9_shared_132 : decode cX9_shared 132 = .ok (.iload_n 3, 1) := by decide +kernel
theorem dX9_shared_133 : decode cX9_shared 133 = .ok (.imul, 1) := by decide +kernel
theorem dX9_shared_134 : decode cX9_shared 134 = .ok (.iadd, 1) := by decide +kernel
theorem dX9_shared_135 : decode cX9_shared 135 = .ok (.ireturn, 1) := by decide +kernel
theorem dX9_shared_136 : decode cX9_shared 136 = .ok (.ldc 141, 2) := by decide +kernel
theorem dX9_shared_138 : decode cX9_shared 138 = .ok (.iload 5, 2) := by decide +kernel
theorem dX9_shared_140 : decode cX9_shared 140 = .ok (.ldc 140, 2) := by decide +kernel
theorem dX9_shared_142 : decode cX9_shared 142 = .ok (.if_icmp .lt 9, 3) := by decide +kernel
theorem dX9_shared_145 : decode cX9_shared 145 = .ok (.iload_n 3, 1) := by decide +kernel
theorem dX9_shared_146 : decode cX9_shared 146 = .ok (.iconst 1, 1) := by decide +kernel
theorem dX9_shared_147 : decode cX9_shared 147 = .ok (.isub, 1) := by decide +kernel
theorem dX9_shared_148 : decode cX9_shared 148 = .ok (.goto 4, 3) := by decide +kernel
theorem dX9_shared_151 : decode cX9_shared 151 = .ok (.iload_n 3, 1) := by decide +kernel
theorem dX9_shared_152 : decode cX9_shared 152 = .ok (.iload 6, 2) := by decide +kernel
theorem dX9_shared_154 : decode cX9_shared 154 = .ok (.ldc 140, 2) := by decide +kernel
theorem dX9_shared_156 : decode cX9_shared 156 = .ok (.if_icmp .lt 10, 3) := by decide +kernel
theorem dX9_shared_159 : decode cX9_shared 159 = .ok (.iload 4, 2) := by decide +kernel
theorem dX9_shared_161 : decode cX9_shared 161 = .ok (.iconst 1, 1) := by decide +kernel
theorem dX9_shared_162 : decode cX9_shared 162 = .ok (.isub, 1) := by decide +kernel
theorem dX9_shared_163 : decode cX9_shared 163 = .ok (.goto 5, 3) := by decide +kernel
theorem dX9_shared_166 : decode cX9_shared 166 = .ok (.iload 4, 2) := by decide +kernel
theorem dX9_shared_168 : decode cX9_shared 168 = .ok (.invokestatic 209, 3) := by decide +kernel
theorem dX9_shared_171 : decode cX9_shared 171 = .ok (.imul, 1) := by decide +kernel
theorem dX9_shared_172 : decode cX9_shared 172 = .ok (.ireturn, 1) := by decide +kernel
set_option maxRecDepth 20000 in
theorem ggX9_stands_X9_isType : GoodIn wsX9_stands wsX9_isType := goodIn_r _ [6, 7, 8, 9, 10, 11, 5, 12, 13, 29, 30, 31, 32, 33, 34, 35, 36, 37, 38, 39, 40, 41, 42, 43, 44, 45, 46, 47, 48, 49, 50, 51, 52, 53, 54, 55, 56, 57, 58, 59, 60, 61, 62, 63, 64, 65, 66, 67, 68, 69, 70, 71, 72, 73, 74, 75, 76, 77, 78, 79, 80, 81, 82, 83, 84, 85, 86, 87, 88, 89, 90] (by decide +kernel) (by decide +kernel)
set_option maxRecDepth 20000 in
theorem gX9_stands_X9_isType : GoodIn wsX9_stands (wsV RX9 155 RX9 yX9_isType wsX9_isType) := goodIn_app (goodIn_of _ (by decide +kernel)) ggX9_stands_X9_isType
set_option maxRecDepth 20000 in
theorem ggX9_stands_X9_may : GoodIn wsX9_stands wsX9_may := goodIn_r _ [17, 18, 7, 8, 19, 20, 21, 5, 22, 23, 24, 25, 26, 27, 28, 14, 15, 16, 29, 30, 31, 32, 33, 34, 35, 36, 37, 38, 39, 40, 41, 42, 43, 44, 45, 46, 47, 48, 49, 50, 51, 52, 53, 54, 55, 56, 57, 58, 59, 60, 61, 62, 63, 64, 65, 66, 67, 68, 69, 70, 71, 72, 73, 74, 75, 76, 77, 78, 79, 80, 81, 82, 83, 84, 85, 86, 87, 88, 89, 90] (by decide +kernel) (by decide +kernel)
set_option maxRecDepth 20000 in
theorem gX9_stands_X9_may : GoodIn wsX9_stands (wsV RX9 202 RX9 yX9_may wsX9_may) := goodIn_app (goodIn_of _ (by decide +kernel)) ggX9_stands_X9_may
theorem dX9_stands_0 : decode cX9_stands 0 = .ok (.aload_n 0, 1) := by decide +kernel
theorem dX9_stands_1 : decode cX9_stands 1 = .ok (.iconst 0, 1) := by decide +kernel
theorem dX9_stands_2 : decode cX9_stands 2 = .ok (.putfield 1, 3) := by decide +kernel
theorem dX9_stands_5 : decode cX9_stands 5 = .ok (.aload_n 0, 1) := by decide +kernel
theorem dX9_stands_6 : decode cX9_stands 6 = .ok (.iload_n 1, 1) := by decide +kernel
theorem dX9_stands_7 : decode cX9_stands 7 = .ok (.invokevirtual 155, 3) := by decide +kernel
theorem dX9_stands_10 : decode cX9_stands 10 = .ok (.ifCond .eq 11, 3) := by decide +kernel
theorem dX9_stands_13 : decode cX9_stands 13 = .ok (.aload_n 0, 1) := by decide +kernel
theorem dX9_stands_14 : decode cX9_stands 14 = .ok (.iload_n 2, 1) := by decide +kernel
theorem dX9_stands_15 : decode cX9_stands 15 = .ok (.invokevirtual 155, 3) := by decide +kernel
theorem dX9_stands_18 : decode cX9_stands 18 = .ok (.ifCond .ne 10, 3) := by decide +kernel
theorem dX9_stands_21 : decode cX9_stands 21 = .ok (.aload_n 0, 1) := by decide +kernel
theorem dX9_stands_22 : decode cX9_stands 22 = .ok (.iconst 1, 1) := by decide +kernel
theorem dX9_stands_23 : decode cX9_stands 23 = .ok (.putfield 1, 3) := by decide +kernel
theorem dX9_stands_26 : decode cX9_stands 26 = .ok (.iconst 0, 1) := by decide +kernel
theorem dX9_stands_27 : decode cX9_stands 27 = .ok (.ireturn, 1) := by decide +kernel
theorem dX9_stands_28 : decode cX9_stands 28 = .ok (.aload_n 0, 1) := by decide +kernel
theorem dX9_stands_29 : decode cX9_stands 29 = .ok (.iload_n 1, 1) := by decide +kernel
theorem dX9_stands_30 : decode cX9_stands 30 = .ok (.iload_n 2, 1) := by decide +kernel
theorem dX9_stands_31 : decode cX9_stands 31 = .ok (.invokevirtual 202, 3) := by decide +kernel
theorem dX9_stands_34 : decode cX9_stands 34 = .ok (.ireturn, 1) := by decide +kernel
set_option maxRecDepth 20000 in
theorem ggX9_common_X9_isType : GoodIn wsX9_common wsX9_isType := goodIn_r _ [6, 7, 8, 9, 10, 11, 5, 12, 13, 37, 38, 39, 40, 41, 42, 43, 44, 45, 46, 47, 48, 49, 50, 51, 52, 53, 54, 55, 56, 57, 58, 59, 60, 61, 62, 63, 64, 65, 66, 67, 68, 69, 70, 71, 72, 73, 74, 75, 76, 77, 78, 79, 80, 81, 82, 83, 84, 85, 86, 87, 88, 89, 90, 91, 92, 93, 94, 95, 96, 97, 98] (by decide +kernel) (by decide +kernel)
set_option maxRecDepth 20000 in
theorem gX9_common_X9_isType : GoodIn wsX9_common (wsV RX9 155 RX9 yX9_isType wsX9_isType) := goodIn_app (goodIn_of _ (by decide +kernel)) ggX9_common_X9_isType
set_option maxRecDepth 20000 in
theorem ggX9_common_X9_isPrimitive : GoodIn wsX9_common wsX9_isPrimitive := goodIn_r _ [17, 8, 18] (by decide +kernel) (by decide +kernel)
set_option maxRecDepth 20000 in
theorem gX9_common_X9_isPrimitive : GoodIn wsX9_common (wsV RX9 195 RX9 yX9_isPrimitive wsX9_isPrimitive) := goodIn_app (goodIn_of _ (by decide +kernel)) ggX9_common_X9_isPrimitive
set_option maxRecDepth 20000 in
theorem ggX9_common_X9_bad : GoodIn wsX9_common wsX9_bad := goodIn_r _ [22, 1, 37, 38, 39, 40, 41, 42, 43, 44, 45, 46, 47, 48, 49, 50, 51, 52, 53, 54, 55, 56, 57, 58, 59, 60, 61, 62, 63, 64, 65, 66, 67, 68, 69, 70, 71, 72, 73, 74, 75, 76, 77, 78, 79, 80, 81, 82, 83, 84, 85, 86, 87, 88, 89, 90, 91, 92, 93, 94, 95, 96, 97, 98] (by decide +kernel) (by decide +kernel)
set_option maxRecDepth 20000 in
theorem gX9_common_X9_bad : GoodIn wsX9_common (wsV RX9 148 RX9 yX9_bad wsX9_bad) := goodIn_app (goodIn_of _ (by decide +kernel)) ggX9_common_X9_bad
set_option maxRecDepth 20000 in
theorem ggX9_common_X9_shared : GoodIn wsX9_common wsX9_shared := goodIn_r _ [26, 7, 27, 28, 8, 18, 29, 30, 31, 32, 33, 34, 35, 5, 36, 23, 24, 25, 37, 38, 39, 40, 41, 42, 43, 44, 45, 46, 47, 48, 49, 50, 51, 52, 53, 54, 55, 56, 57, 58, 59, 60, 61, 62, 63, 64, 65, 66, 67, 68, 69, 70, 71, 72, 73, 74, 75, 76, 77, 78, 79, 80, 81, 82, 83, 84, 85, 86, 87, 88, 89, 90, 91, 92, 93, 94, 95, 96, 97, 98] (by decide +kernel) (by decide +kernel)
set_option maxRecDepth 20000 in
theorem gX9_common_X9_shared : GoodIn wsX9_common (wsV RX9 205 RX9 yX9_shared wsX9_shared) := goodIn_app (goodIn_of _ (by decide +kernel)) ggX9_common_X9_shared
theorem dX9_common_0 : decode cX9_common 0 = .ok (.aload_n 0, 1) := by decide +kernel
theorem dX9_common_1 : decode cX9_common 1 = .ok (.iconst 0, 1) := by decide +kernel
theorem dX9_common_2 : decode cX9_common 2 = .ok (.putfield 1, 3) := by decide +kernel
theorem dX9_common_5 : decode cX9_common 5 = .ok (.aload_n 0, 1) := by decide +kernel
theorem dX9_common_6 : decode cX9_common 6 = .ok (.iload_n 1, 1) := by decide +kernel
theorem dX9_common_7 : decode cX9_common 7 = .ok (.invokevirtual 155, 3) := by decide +kernel
theorem dX9_common_10 : decode cX9_common 10 = .ok (.ifCond .eq 27, 3) := by decide +kernel
theorem dX9_common_13 : decode cX9_common 13 = .ok (.aload_n 0, 1) := by decide +kernel
theorem dX9_common_14 : decode cX9_common 14 = .ok (.iload_n 2, 1) := by decide +kernel
theorem dX9_common_15 : decode cX9_common 15 = .ok (.invokevirtual 155, 3) := by decide +kernel
theorem dX9_common_18 : decode cX9_common 18 = .ok (.ifCond .eq 19, 3) := by decide +kernel
theorem dX9_common_21 : decode cX9_common 21 = .ok (.aload_n 0, 1) := by decide +kernel
theorem dX9_common_22 : decode cX9_common 22 = .ok (.iload_n 1, 1) := by decide +kernel
theorem dX9_common_23 : decode cX9_common 23 = .ok (.invokevirtual 195, 3) := by decide +kernel
theorem dX9_common_26 : decode cX9_common 26 = .ok (.ifCond .ne 11, 3) := by decide +kernel
theorem dX9_common_29 : decode cX9_common 29 = .ok (.aload_n 0, 1) := by decide +kernel
theorem dX9_common_30 : decode cX9_common 30 = .ok (.iload_n 2, 1) := by decide +kernel
theorem dX9_common_31 : decode cX9_common 31 = .ok (.invokevirtual 195, 3) := by decide +kernel
theorem dX9_common_34 : decode cX9_common 34 = .ok (.ifCond .eq 8, 3) := by decide +kernel
theorem dX9_common_37 : decode cX9_common 37 = .ok (.aload_n 0, 1) := by decide +kernel
theorem dX9_common_38 : decode cX9_common 38 = .ok (.invokevirtual 148, 3) := by decide +kernel
theorem dX9_common_41 : decode cX9_common 41 = .ok (.ireturn, 1) := by decide +kernel
theorem dX9_common_42 : decode cX9_common 42 = .ok (.aload_n 0, 1) := by decide +kernel
theorem dX9_common_43 : decode cX9_common 43 = .ok (.iload_n 1, 1) := by decide +kernel
theorem dX9_common_44 : decode cX9_common 44 = .ok (.iload_n 2, 1) := by decide +kernel
theorem dX9_common_45 : decode cX9_common 45 = .ok (.invokevirtual 205, 3) := by decide +kernel
theorem dX9_common_48 : decode cX9_common 48 = .ok (.ireturn, 1) := by decide +kernel
theorem dX9_formed_0 : decode cX9_formed 0 = .ok (.aload_n 0, 1) := by decide +kernel
theorem dX9_formed_1 : decode cX9_formed 1 = .ok (.getfield 179, 3) := by decide +kernel
theorem dX9_formed_4 : decode cX9_formed 4 = .ok (.ifCond .ne 5, 3) := by decide +kernel
theorem dX9_formed_7 : decode cX9_formed 7 = .ok (.iconst 0, 1) := by decide +kernel
theorem dX9_formed_8 : decode cX9_formed 8 = .ok (.ireturn, 1) := by decide +kernel
theorem dX9_formed_9 : decode cX9_formed 9 = .ok (.aload_n 0, 1) := by decide +kernel
theorem dX9_formed_10 : decode cX9_formed 10 = .ok (.getfield 167, 3) := by decide +kernel
theorem dX9_formed_13 : decode cX9_formed 13 = .ok (.ifCond .ne 7, 3) := by decide +kernel
theorem dX9_formed_16 : decode cX9_formed 16 = .ok (.iconst 0, 1) := by decide +kernel
theorem dX9_formed_17 : decode cX9_formed 17 = .ok (.goto 4, 3) := by decide +kernel
theorem dX9_formed_20 : decode cX9_formed 20 = .ok (.iconst 1, 1) := by decide +kernel
theorem dX9_formed_21 : decode cX9_formed 21 = .ok (.istore_n 1, 1) := by decide +kernel
theorem dX9_formed_22 : decode cX9_formed 22 = .ok (.iconst 0, 1) := by decide +kernel
theorem dX9_formed_23 : decode cX9_formed 23 = .ok (.istore_n 2, 1) := by decide +kernel
theorem dX9_formed_24 : decode cX9_formed 24 = .ok (.iload_n 2, 1) := by decide +kernel
theorem dX9_formed_25 : decode cX9_formed 25 = .ok (.aload_n 0, 1) := by decide +kernel
theorem dX9_formed_26 : decode cX9_formed 26 = .ok (.getfield 176, 3) := by decide +kernel
theorem dX9_formed_29 : decode cX9_formed 29 = .ok (.if_icmp .ge 24, 3) := by decide +kernel
theorem dX9_formed_32 : decode cX9_formed 32 = .ok (.iload_n 1, 1) := by decide +kernel
theorem dX9_formed_33 : decode cX9_formed 33 = .ok (.aload_n 0, 1) := by decide +kernel
theorem dX9_formed_34 : decode cX9_formed 34 = .ok (.getfield 48, 3) := by decide +kernel
theorem dX9_formed_37 : decode cX9_formed 37 = .ok (.iload_n 2, 1) := by decide +kernel
theorem dX9_formed_38 : decode cX9_formed 38 = .ok (.iaload, 1) := by decide +kernel
theorem dX9_formed_39 : decode cX9_formed 39 = .ok (.invokestatic 221, 3) := by decide +kernel
theorem dX9_formed_42 : decode cX9_formed 42 = .ok (.invokestatic 228, 3) := by decide +kernel
theorem dX9_formed_45 : decode cX9_formed 45 = .ok (.iadd, 1) := by decide +kernel
theorem dX9_formed_46 : decode cX9_formed 46 = .ok (.istore_n 1, 1) := by decide +kernel
theorem dX9_formed_47 : decode cX9_formed 47 = .ok (.iinc 2 1, 3) := by decide +kernel
theorem dX9_formed_50 : decode cX9_formed 50 = .ok (.goto (-26), 3) := by decide +kernel
theorem dX9_formed_53 : decode cX9_formed 53 = .ok (.iload_n 1, 1) := by decide +kernel
theorem dX9_formed_54 : decode cX9_formed 54 = .ok (.aload_n 0, 1) := by decide +kernel
theorem dX9_formed_55 : decode cX9_formed 55 = .ok (.getfield 170, 3) := by decide +kernel
theorem dX9_formed_58 : decode cX9_formed 58 = .ok (.if_icmp .le 5, 3) := by decide +kernel
theorem dX9_formed_61 : decode cX9_formed 61 = .ok (.iconst 0, 1) := by decide +kernel
theorem dX9_formed_62 : decode cX9_formed 62 = .ok (.ireturn, 1) := by decide +kernel
theorem dX9_formed_63 : decode cX9_formed 63 = .ok (.iconst 0, 1) := by decide +kernel
theorem dX9_formed_64 : decode cX9_formed 64 = .ok (.istore_n 2, 1) := by decide +kernel
theorem dX9_formed_65 : decode cX9_formed 65 = .ok (.iload_n 2, 1) := by decide +kernel
theorem dX9_formed_66 : decode cX9_formed 66 = .ok (.aload_n 0, 1) := by decide +kernel
theorem dX9_formed_67 : decode cX9_formed 67 = .ok (.getfield 179, 3) := by decide +kernel
theorem dX9_formed_70 : decode cX9_formed 70 = .ok (.if_icmp .ge 231, 3) := by decide +kernel
theorem dX9_formed_73 : decode cX9_formed 73 = .ok (.aload_n 0, 1) := by decide +kernel
theorem dX9_formed_74 : decode cX9_formed 74 = .ok (.getfield 51, 3) := by decide +kernel
theorem dX9_formed_77 : decode cX9_formed 77 = .ok (.iload_n 2, 1) := by decide +kernel
theorem dX9_formed_78 : decode cX9_formed 78 = .ok (.iaload, 1) := by decide +kernel
theorem dX9_formed_79 : decode cX9_formed 79 = .ok (.istore_n 3, 1) := by decide +kernel
theorem dX9_formed_80 : decode cX9_formed 80 = .ok (.iload_n 3, 1) := by decide +kernel
theorem dX9_formed_81 : decode cX9_formed 81 = .ok (.bipush 21, 2) := by decide +kernel
theorem dX9_formed_83 : decode cX9_formed 83 = .ok (.if_icmp .lt 9, 3) := by decide +kernel
theorem dX9_formed_86 : decode cX9_formed 86 = .ok (.iload_n 3, 1) := by decide +kernel
theorem dX9_formed_87 : decode cX9_formed 87 = .ok (.bipush 25, 2) := by decide +kernel
theorem dX9_formed_89 : decode cX9_formed 89 = .ok (.if_icmp .le 29, 3) := by decide +kernel
theorem dX9_formed_92 : decode cX9_formed 92 = .ok (.iload_n 3, 1) := by decide +kernel
theorem dX9_formed_93 : decode cX9_formed 93 = .ok (.bipush 54, 2) := by decide +kernel
theorem dX9_formed_95 : decode cX9_formed 95 = .ok (.if_icmp .lt 9, 3) := by decide +kernel
theorem dX9_formed_98 : decode cX9_formed 98 = .ok (.iload_n 3, 1) := by decide +kernel
theorem dX9_formed_99 : decode cX9_formed 99 = .ok (.bipush 58, 2) := by decide +kernel
theorem dX9_formed_101 : decode cX9_formed 101 = .ok (.if_icmp .le 17, 3) := by decide +kernel
theorem dX9_formed_104 : decode cX9_formed 104 = .ok (.iload_n 3, 1) := by decide +kernel
theorem dX9_formed_105 : decode cX9_formed 105 = .ok (.sipush 132, 3) := by decide +kernel
theorem dX9_formed_108 : decode cX9_formed 108 = .ok (.if_icmp .eq 10, 3) := by decide +kernel
theorem dX9_formed_111 : decode cX9_formed 111 = .ok (.iload_n 3, 1) := by decide +kernel
theorem dX9_formed_112 : decode cX9_formed 112 = .ok (.sipush 169, 3) := by decide +kernel
theorem dX9_formed_115 : decode cX9_formed 115 = .ok (.if_icmp .ne 69, 3) := by decide +kernel
theorem dX9_formed_118 : decode cX9_formed 118 = .ok (.iload_n 3, 1) := by decide +kernel
theorem dX9_formed_119 : decode cX9_formed 119 = .ok (.bipush 22, 2) := by decide +kernel
theorem dX9_formed_121 : decode cX9_formed 121 = .ok (.if_icmp .eq 21, 3) := by decide +kernel
theorem dX9_formed_124 : decode cX9_formed 124 = .ok (.iload_n 3, 1) := by decide +kernel
theorem dX9_formed_125 : decode cX9_formed 125 = .ok (.bipush 24, 2) := by decide +kernel
theorem dX9_formed_127 : decode cX9_formed 127 = .ok (.if_icmp .eq 15, 3) := by decide +kernel
theorem dX9_formed_130 : decode cX9_formed 130 = .ok (.iload_n 3, 1) := by decide +kernel
theorem dX9_formed_131 : decode cX9_formed 131 = .ok (.bipush 55, 2) := by decide +kernel
theorem dX9_formed_133 : decode cX9_formed 133 = .ok (.if_icmp .eq 9, 3) := by decide +kernel
theorem dX9_formed_136 : decode cX9_formed 136 = .ok (.iload_n 3, 1) := by decide +kernel
theorem dX9_formed_137 : decode cX9_formed 137 = .ok (.bipush 57, 2) := by decide +kernel
theorem dX9_formed_139 : decode cX9_formed 139 = .ok (.if_icmp .ne 7, 3) := by decide +kernel
theorem dX9_formed_142 : decode cX9_formed 142 = .ok (.iconst 1, 1) := by decide +kernel
theorem dX9_formed_143 : decode cX9_formed 143 = .ok (.goto 4, 3) := by decide +kernel
theorem dX9_formed_146 : decode cX9_formed 146 = .ok (.iconst 0, 1) := by decide +kernel
theorem dX9_formed_147 : decode cX9_formed 147 = .ok (.istore 4, 2) := by decide +kernel
theorem dX9_formed_149 : decode cX9_formed 149 = .ok (.aload_n 0, 1) := by decide +kernel
theorem dX9_formed_150 : decode cX9_formed 150 = .ok (.getfield 54, 3) := by decide +kernel
theorem dX9_formed_153 : decode cX9_formed 153 = .ok (.iload_n 2, 1) := by decide +kernel
theorem dX9_formed_154 : decode cX9_formed 154 = .ok (.iaload, 1) := by decide +kernel
theorem dX9_formed_155 : decode cX9_formed 155 = .ok (.aload_n 0, 1) := by decide +kernel
theorem dX9_formed_156 : decode cX9_formed 156 = .ok (.getfield 170, 3) := by decide +kernel
theorem dX9_formed_159 : decode cX9_formed 159 = .ok (.if_icmp .ge 23, 3) := by decide +kernel
theorem dX9_formed_162 : decode cX9_formed 162 = .ok (.iload 4, 2) := by decide +kernel
theorem dX9_formed_164 : decode cX9_formed 164 = .ok (.ifCond .eq 20, 3) := by decide +kernel
theorem dX9_formed_167 : decode cX9_formed 167 = .ok (.aload_n 0, 1) := by decide +kernel
theorem dX9_formed_168 : decode cX9_formed 168 = .ok (.getfield 54, 3) := by decide +kernel
theorem dX9_formed_171 : decode cX9_formed 171 = .ok (.iload_n 2, 1) := by decide +kernel
theorem dX9_formed_172 : decode cX9_formed 172 = .ok (.iaload, 1) := by decide +kernel
theorem dX9_formed_173 : decode cX9_formed 173 = .ok (.iconst 1, 1) := by decide +kernel
theorem dX9_formed_174 : decode cX9_formed 174 = .ok (.iadd, 1) := by decide +kernel
theorem dX9_formed_175 : decode cX9_formed 175 = .ok (.aload_n 0, 1) := by decide +kernel
theorem dX9_formed_176 : decode cX9_formed 176 = .ok (.getfield 170, 3) := by decide +kernel
theorem dX9_formed_179 : decode cX9_formed 179 = .ok (.if_icmp .lt 5, 3) := by decide +kernel
theorem dX9_formed_182 : decode cX9_formed 182 = .ok (.iconst 0, 1) := by decide +kernel
theorem dX9_formed_183 : decode cX9_formed 183 = .ok (.ireturn, 1) := by decide +kernel
theorem dX9_formed_184 : decode cX9_formed 184 = .ok (.iload_n 3, 1) := by decide +kernel
theorem dX9_formed_185 : decode cX9_formed 185 = .ok (.sipush 153, 3) := by decide +kernel
theorem dX9_formed_188 : decode cX9_formed 188 = .ok (.if_icmp .lt 10, 3) := by decide +kernel
theorem dX9_formed_191 : decode cX9_formed 191 = .ok (.iload_n 3, 1) := by decide +kernel
theorem dX9_formed_192 : decode cX9_formed 192 = .ok (.sipush 168, 3) := by decide +kernel
theorem dX9_formed_195 : decode cX9_formed 195 = .ok (.if_icmp .le 17, 3) := by decide +kernel
theorem dX9_formed_198 : decode cX9_formed 198 = .ok (.iload_n 3, 1) := by decide +kernel
theorem dX9_formed_199 : decode cX9_formed 199 = .ok (.sipush 198, 3) := by decide +kernel
theorem dX9_formed_202 : decode cX9_formed 202 = .ok (.if_icmp .eq 10, 3) := by decide +kernel
theorem dX9_formed_205 : decode cX9_formed 205 = .ok (.iload_n 3, 1) := by decide +kernel
theorem dX9_formed_206 : decode cX9_formed 206 = .ok (.sipush 199, 3) := by decide +kernel
theorem dX9_formed_209 : decode cX9_formed 209 = .ok (.if_icmp .ne 18, 3) := by decide +kernel
theorem dX9_formed_212 : decode cX9_formed 212 = .ok (.aload_n 0, 1) := by decide +kernel
theorem dX9_formed_213 : decode cX9_formed 213 = .ok (.getfield 54, 3) := by decide +kernel
theorem dX9_formed_216 : decode cX9_formed 216 = .ok (.iload_n 2, 1) := by decide +kernel
theorem dX9_formed_217 : decode cX9_formed 217 = .ok (.iaload, 1) := by decide +kernel
theorem dX9_formed_218 : decode cX9_formed 218 = .ok (.aload_n 0, 1) := by decide +kernel
theorem dX9_formed_219 : decode cX9_formed 219 = .ok (.getfield 179, 3) := by decide +kernel
theorem dX9_formed_222 : decode cX9_formed 222 = .ok (.if_icmp .lt 5, 3) := by decide +kernel
theorem dX9_formed_225 : decode cX9_formed 225 = .ok (.iconst 0, 1) := by decide +kernel
theorem dX9_formed_226 : decode cX9_formed 226 = .ok (.ireturn, 1) := by decide +kernel
theorem dX9_formed_227 : decode cX9_formed 227 = .ok (.iload_n 3, 1) := by decide +kernel
theorem dX9_formed_228 : decode cX9_formed 228 = .ok (.sipush 170, 3) := by decide +kernel
theorem dX9_formed_231 : decode cX9_formed 231 = .ok (.if_icmp .eq 10, 3) := by decide +kernel
theorem dX9_formed_234 : decode cX9_formed 234 = .ok (.iload_n 3, 1) := by decide +kernel
theorem dX9_formed_235 : decode cX9_formed 235 = .ok (.sipush 171, 3) := by decide +kernel
theorem dX9_formed_238 : decode cX9_formed 238 = .ok (.if_icmp .ne 57, 3) := by decide +kernel
theorem dX9_formed_241 : decode cX9_formed 241 = .ok (.aload_n 0, 1) := by decide +kernel
theorem dX9_formed_242 : decode cX9_formed 242 = .ok (.getfield 63, 3) := by decide +kernel
theorem dX9_formed_245 : decode cX9_formed 245 = .ok (.iload_n 2, 1) := by decide +kernel
theorem dX9_formed_246 : decode cX9_formed 246 = .ok (.iaload, 1) := by decide +kernel
theorem dX9_formed_247 : decode cX9_formed 247 = .ok (.ifCond .ne 5, 3) := by decide +kernel
theorem dX9_formed_250 : decode cX9_formed 250 = .ok (.iconst 0, 1) := by decide +kernel
theorem dX9_formed_251 : decode cX9_formed 251 = .ok (.ireturn, 1) := by decide +kernel
theorem dX9_formed_252 : decode cX9_formed 252 = .ok (.iconst 0, 1) := by decide +kernel
theorem dX9_formed_253 : decode cX9_formed 253 = .ok (.istore 4, 2) := by decide +kernel
theorem dX9_formed_255 : decode cX9_formed 255 = .ok (.iload 4, 2) := by decide +kernel
theorem dX9_formed_257 : decode cX9_formed 257 = .ok (.aload_n 0, 1) := by decide +kernel
theorem dX9_formed_258 : decode cX9_formed 258 = .ok (.getfield 63, 3) := by decide +kernel
theorem dX9_formed_261 : decode cX9_formed 261 = .ok (.iload_n 2, 1) := by decide +kernel
theorem dX9_formed_262 : decode cX9_formed 262 = .ok (.iaload, 1) := by decide +kernel
theorem dX9_formed_263 : decode cX9_formed 263 = .ok (.if_icmp .ge 32, 3) := by decide +kernel
theorem dX9_formed_266 : decode cX9_formed 266 = .ok (.aload_n 0, 1) := by decide +kernel
theorem dX9_formed_267 : decode cX9_formed 267 = .ok (.getfield 67, 3) := by decide +kernel
theorem dX9_formed_270 : decode cX9_formed 270 = .ok (.aload_n 0, 1) := by decide +kernel
theorem dX9_formed_271 : decode cX9_formed 271 = .ok (.getfield 60, 3) := by decide +kernel
theorem dX9_formed_274 : decode cX9_formed 274 = .ok (.iload_n 2, 1) := by decide +kernel
theorem dX9_formed_275 : decode cX9_formed 275 = .ok (.iaload, 1) := by decide +kernel
theorem dX9_formed_276 : decode cX9_formed 276 = .ok (.iload 4, 2) := by decide +kernel
theorem dX9_formed_278 : decode cX9_formed 278 = .ok (.iadd, 1) := by decide +kernel
theorem dX9_formed_279 : decode cX9_formed 279 = .ok (.iaload, 1) := by decide +kernel
theorem dX9_formed_280 : decode cX9_formed 280 = .ok (.aload_n 0, 1) := by decide +kernel
theorem dX9_formed_281 : decode cX9_formed 281 = .ok (.getfield 179, 3) := by decide +kernel
theorem dX9_formed_284 : decode cX9_formed 284 = .ok (.if_icmp .lt 5, 3) := by decide +kernel
theorem dX9_formed_287 : decode cX9_formed 287 = .ok (.iconst 0, 1) := by decide +kernel
theorem dX9_formed_288 : decode cX9_formed 288 = .ok (.ireturn, 1) := by decide +kernel
theorem dX9_formed_289 : decode cX9_formed 289 = .ok (.iinc 4 1, 3) := by decide +kernel
theorem dX9_formed_292 : decode cX9_formed 292 = .ok (.goto (-37), 3) := by decide +kernel
theorem dX9_formed_295 : decode cX9_formed 295 = .ok (.iinc 2 1, 3) := by decide +kernel
theorem dX9_formed_298 : decode cX9_formed 298 = .ok (.goto (-233), 3) := by decide +kernel
theorem dX9_formed_301 : decode cX9_formed 301 = .ok (.iconst 0, 1) := by decide +kernel
theorem dX9_formed_302 : decode cX9_formed 302 = .ok (.istore_n 2, 1) := by decide +kernel
theorem dX9_formed_303 : decode cX9_formed 303 = .ok (.iload_n 2, 1) := by decide +kernel
theorem dX9_formed_304 : decode cX9_formed 304 = .ok (.aload_n 0, 1) := by decide +kernel
theorem dX9_formed_305 : decode cX9_formed 305 = .ok (.getfield 182, 3) := by decide +kernel
theorem dX9_formed_308 : decode cX9_formed 308 = .ok (.if_icmp .ge 65, 3) := by decide +kernel
theorem dX9_formed_311 : decode cX9_formed 311 = .ok (.aload_n 0, 1) := by decide +kernel
theorem dX9_formed_312 : decode cX9_formed 312 = .ok (.getfield 70, 3) := by decide +kernel
theorem dX9_formed_315 : decode cX9_formed 315 = .ok (.iload_n 2, 1) := by decide +kernel
theorem dX9_formed_316 : decode cX9_formed 316 = .ok (.iaload, 1) := by decide +kernel
theorem dX9_formed_317 : decode cX9_formed 317 = .ok (.aload_n 0, 1) := by decide +kernel
theorem dX9_formed_318 : decode cX9_formed 318 = .ok (.getfield 179, 3) := by decide +kernel
theorem dX9_formed_321 : decode cX9_formed 321 = .ok (.if_icmp .ge 44, 3) := by decide +kernel
theorem dX9_formed_324 : decode cX9_formed 324 = .ok (.aload_n 0, 1) := by decide +kernel
theorem dX9_formed_325 : decode cX9_formed 325 = .ok (.getfield 73, 3) := by decide +kernel
theorem dX9_formed_328 : decode cX9_formed 328 = .ok (.iload_n 2, 1) := by decide +kernel
theorem dX9_formed_329 : decode cX9_formed 329 = .ok (.iaload, 1) := by decide +kernel
theorem dX9_formed_330 : decode cX9_formed 330 = .ok (.aload_n 0, 1) := by decide +kernel
theorem dX9_formed_331 : decode cX9_formed 331 = .ok (.getfield 179, 3) := by decide +kernel
theorem dX9_formed_334 : decode cX9_formed 334 = .ok (.if_icmp .gt 31, 3) := by decide +kernel
theorem dX9_formed_337 : decode cX9_formed 337 = .ok (.aload_n 0, 1) := by decide +kernel
theorem dX9_formed_338 : decode cX9_formed 338 = .ok (.getfield 70, 3) := by decide +kernel
theorem dX9_formed_341 : decode cX9_formed 341 = .ok (.iload_n 2, 1) := by decide +kernel
theorem dX9_formed_342 : decode cX9_formed 342 = .ok (.iaload, 1) := by decide +kernel
theorem dX9_formed_343 : decode cX9_formed 343 = .ok (.aload_n 0, 1) := by decide +kernel
theorem dX9_formed_344 : decode cX9_formed 344 = .ok (.getfield 73, 3) := by decide +kernel
theorem dX9_formed_347 : decode cX9_formed 347 = .ok (.iload_n 2, 1) := by decide +kernel
theorem dX9_formed_348 : decode cX9_formed 348 = .ok (.iaload, 1) := by decide +kernel
theorem dX9_formed_349 : decode cX9_formed 349 = .ok (.if_icmp .ge 16, 3) := by decide +kernel
theorem dX9_formed_352 : decode cX9_formed 352 = .ok (.aload_n 0, 1) := by decide +kernel
theorem dX9_formed_353 : decode cX9_formed 353 = .ok (.getfield 76, 3) := by decide +kernel
theorem dX9_formed_356 : decode cX9_formed 356 = .ok (.iload_n 2, 1) := by decide +kernel
theorem dX9_formed_357 : decode cX9_formed 357 = .ok (.iaload, 1) := by decide +kernel
theorem dX9_formed_358 : decode cX9_formed 358 = .ok (.aload_n 0, 1) := by decide +kernel
theorem dX9_formed_359 : decode cX9_formed 359 = .ok (.getfield 179, 3) := by decide +kernel
theorem dX9_formed_362 : decode cX9_formed 362 = .ok (.if_icmp .lt 5, 3) := by decide +kernel
theorem dX9_formed_365 : decode cX9_formed 365 = .ok (.iconst 0, 1) := by decide +kernel
theorem dX9_formed_366 : decode cX9_formed 366 = .ok (.ireturn, 1) := by decide +kernel
theorem dX9_formed_367 : decode cX9_formed 367 = .ok (.iinc 2 1, 3) := by decide +kernel
theorem dX9_formed_370 : decode cX9_formed 370 = .ok (.goto (-67), 3) := by decide +kernel
theorem dX9_formed_373 : decode cX9_formed 373 = .ok (.iconst 1, 1) := by decide +kernel
theorem dX9_formed_374 : decode cX9_formed 374 = .ok (.ireturn, 1) := by decide +kernel
set_option maxRecDepth 20000 in
theorem ggX9_judge_X9_formed : GoodIn wsX9_judge wsX9_formed := goodIn_r _ [15, 16, 9, 17, 18, 3, 19, 20, 21, 22, 23, 24, 25, 26, 27, 28, 29, 14, 30, 31, 32, 33, 34, 35, 36, 37, 225, 226, 227, 228, 229, 230, 231, 232, 233, 234, 235, 236, 237, 238, 239, 240, 241, 242, 243, 244, 245, 246, 247, 248, 249, 250, 251, 252, 253, 254, 255, 256, 257, 258, 259, 260, 261, 262, 263, 264, 265, 266, 267, 268, 269, 270, 271, 272, 273, 274, 275, 276, 277, 278, 279, 280, 281, 282, 283, 284, 285, 286] (by decide +kernel) (by decide +kernel)
set_option maxRecDepth 20000 in
theorem gX9_judge_X9_formed : GoodIn wsX9_judge (wsV RX9 269 RX9 yX9_formed wsX9_formed) := goodIn_app (goodIn_of _ (by decide +kernel)) ggX9_judge_X9_formed
theorem dX9_judge_0 : decode cX9_judge 0 = .ok (.aload_n 0, 1) := by decide +kernel
theorem dX9_judge_1 : decode cX9_judge 1 = .ok (.iconst 0, 1) := by decide +kernel
theorem dX9_judge_2 : decode cX9_judge 2 = .ok (.putfield 1, 3) := by decide +kernel
theorem dX9_judge_5 : decode cX9_judge 5 = .ok (.aload_n 0, 1) := by decide +kernel
theorem dX9_judge_6 : decode cX9_judge 6 = .ok (.iconst 0, 1) := by decide +kernel
theorem dX9_judge_7 : decode cX9_judge 7 = .ok (.putfield 260, 3) := by decide +kernel
theorem dX9_judge_10 : decode cX9_judge 10 = .ok (.aload_n 0, 1) := by decide +kernel
theorem dX9_judge_11 : decode cX9_judge 11 = .ok (.aload_n 0, 1) := by decide +kernel
theorem dX9_judge_12 : decode cX9_judge 12 = .ok (.getfield 170, 3) := by decide +kernel
theorem dX9_judge_15 : decode cX9_judge 15 = .ok (.putfield 263, 3) := by decide +kernel
theorem dX9_judge_18 : decode cX9_judge 18 = .ok (.aload_n 0, 1) := by decide +kernel
theorem dX9_judge_19 : decode cX9_judge 19 = .ok (.aload_n 0, 1) := by decide +kernel
theorem dX9_judge_20 : decode cX9_judge 20 = .ok (.getfield 173, 3) := by decide +kernel
theorem dX9_judge_23 : decode cX9_judge 23 = .ok (.putfield 266, 3) := by decide +kernel
theorem dX9_judge_26 : decode cX9_judge 26 = .ok (.aload_n 0, 1) := by decide +kernel
theorem dX9_judge_27 : decode cX9_judge 27 = .ok (.invokevirtual 269, 3) := by decide +kernel
theorem dX9_judge_30 : decode cX9_judge 30 = .ok (.ifCond .eq 10, 3) := by decide +kernel
theorem dX9_judge_33 : decode cX9_judge 33 = .ok (.aload_n 0, 1) := by decide +kernel
theorem dX9_judge_34 : decode cX9_judge 34 = .ok (.invokevirtual 273, 3) := by decide +kernel
theorem dX9_judge_37 : decode cX9_judge 37 = .ok (.ifCond .ne 5, 3) := by decide +kernel
theorem dX9_judge_40 : decode cX9_judge 40 = .ok (.iconst (-1), 1) := by decide +kernel
theorem dX9_judge_41 : decode cX9_judge 41 = .ok (.ireturn, 1) := by decide +kernel
theorem dX9_judge_42 : decode cX9_judge 42 = .ok (.aload_n 0, 1) := by decide +kernel
theorem dX9_judge_43 : decode cX9_judge 43 = .ok (.aload_n 0, 1) := by decide +kernel
theorem dX9_judge_44 : decode cX9_judge 44 = .ok (.getfield 238, 3) := by decide +kernel
theorem dX9_judge_47 : decode cX9_judge 47 = .ok (.putfield 260, 3) := by decide +kernel
theorem dX9_judge_50 : decode cX9_judge 50 = .ok (.iconst 0, 1) := by decide +kernel
theorem dX9_judge_51 : decode cX9_judge 51 = .ok (.istore_n 1, 1) := by decide +kernel
theorem dX9_judge_52 : decode cX9_judge 52 = .ok (.iload_n 1, 1) := by decide +kernel
theorem dX9_judge_53 : decode cX9_judge 53 = .ok (.aload_n 0, 1) := by decide +kernel
theorem dX9_judge_54 : decode cX9_judge 54 = .ok (.getfield 260, 3) := by decide +kernel
theorem dX9_judge_57 : decode cX9_judge 57 = .ok (.if_icmp .ge 16, 3) := by decide +kernel
theorem dX9_judge_60 : decode cX9_judge 60 = .ok (.aload_n 0, 1) := by decide +kernel
theorem dX9_judge_61 : decode cX9_judge 61 = .ok (.getfield 118, 3) := by decide +kernel
theorem dX9_judge_64 : decode cX9_judge 64 = .ok (.iload_n 1, 1) := by decide +kernel
theorem dX9_judge_65 : decode cX9_judge 65 = .ok (.iload_n 1, 1) := by decide +kernel
theorem dX9_judge_66 : decode cX9_judge 66 = .ok (.iastore, 1) := by decide +kernel
theorem dX9_judge_67 : decode cX9_judge 67 = .ok (.iinc 1 1, 3) := by decide +kernel
theorem dX9_judge_70 : decode cX9_judge 70 = .ok (.goto (-18), 3) := by decide +kernel
theorem dX9_judge_73 : decode cX9_judge 73 = .ok (.aload_n 0, 1) := by decide +kernel
theorem dX9_judge_74 : decode cX9_judge 74 = .ok (.getfield 260, 3) := by decide +kernel
theorem dX9_judge_77 : decode cX9_judge 77 = .ok (.iconst 2, 1) := by decide +kernel
theorem dX9_judge_78 : decode cX9_judge 78 = .ok (.idiv, 1) := by decide +kernel
theorem dX9_judge_79 : decode cX9_judge 79 = .ok (.istore_n 1, 1) := by decide +kernel
theorem dX9_judge_80 : decode cX9_judge 80 = .ok (.iload_n 1, 1) := by decide +kernel
theorem dX9_judge_81 : decode cX9_judge 81 = .ok (.ifCond .le 92, 3) := by decide +kernel
theorem dX9_judge_84 : decode cX9_judge 84 = .ok (.iload_n 1, 1) := by decide +kernel
theorem dX9_judge_85 : decode cX9_judge 85 = .ok (.istore_n 2, 1) := by decide +kernel
theorem dX9_judge_86 : decode cX9_judge 86 = .ok (.iload_n 2, 1) := by decide +kernel
theorem dX9_judge_87 : decode cX9_judge 87 = .ok (.aload_n 0, 1) := by decide +kernel
theorem dX9_judge_88 : decode cX9_judge 88 = .ok (.getfield 260, 3) := by decide +kernel
theorem dX9_judge_91 : decode cX9_judge 91 = .ok (.if_icmp .ge 75, 3) := by decide +kernel
theorem dX9_judge_94 : decode cX9_judge 94 = .ok (.aload_n 0, 1) := by decide +kernel
theorem dX9_judge_95 : decode cX9_judge 95 = .ok (.getfield 118, 3) := by decide +kernel
theorem dX9_judge_98 : decode cX9_judge 98 = .ok (.iload_n 2, 1) := by decide +kernel
theorem dX9_judge_99 : decode cX9_judge 99 = .ok (.iaload, 1) := by decide +kernel
theorem dX9_judge_100 : decode cX9_judge 100 = .ok (.istore_n 3, 1) := by decide +kernel
theorem dX9_judge_101 : decode cX9_judge 101 = .ok (.iload_n 2, 1) := by decide +kernel
theorem dX9_judge_102 : decode cX9_judge 102 = .ok (.istore 4, 2) := by decide +kernel
theorem dX9_judge_104 : decode cX9_judge 104 = .ok (.iload 4, 2) := by decide +kernel
theorem dX9_judge_106 : decode cX9_judge 106 = .ok (.iload_n 1, 1) := by decide +kernel
theorem dX9_judge_107 : decode cX9_judge 107 = .ok (.if_icmp .lt 45, 3) := by decide +kernel
theorem dX9_judge_110 : decode cX9_judge 110 = .ok (.aload_n 0, 1) := by decide +kernel
theorem dX9_judge_111 : decode cX9_judge 111 = .ok (.aload_n 0, 1) := by decide +kernel
theorem dX9_judge_112 : decode cX9_judge 112 = .ok (.getfield 118, 3) := by decide +kernel
theorem dX9_judge_115 : decode cX9_judge 115 = .ok (.iload 4, 2) := by decide +kernel
theorem dX9_judge_117 : decode cX9_judge 117 = .ok (.iload_n 1, 1) := by decide +kernel
theorem dX9_judge_118 : decode cX9_judge 118 = .ok (.isub, 1) := by decide +kernel
theorem dX9_judge_119 : decode cX9_judge 119 = .ok (.iaload, 1) := by decide +kernel
theorem dX9_judge_120 : decode cX9_judge 120 = .ok (.iload_n 3, 1) := by decide +kernel
theorem dX9_judge_121 : decode cX9_judge 121 = .ok (.invokevirtual 276, 3) := by decide +kernel
theorem dX9_judge_124 : decode cX9_judge 124 = .ok (.ifCond .eq 28, 3) := by decide +kernel
theorem dX9_judge_127 : decode cX9_judge 127 = .ok (.aload_n 0, 1) := by decide +kernel
theorem dX9_judge_128 : decode cX9_judge 128 = .ok (.getfield 118, 3) := by decide +kernel
theorem dX9_judge_131 : decode cX9_judge 131 = .ok (.iload 4, 2) := by decide +kernel
theorem dX9_judge_133 : decode cX9_judge 133 = .ok (.aload_n 0, 1) := by decide +kernel
theorem dX9_judge_134 : decode cX9_judge 134 = .ok (.getfield 118, 3) := by decide +kernel
theorem dX9_judge_137 : decode cX9_judge 137 = .ok (.iload 4, 2) := by decide +kernel
theorem dX9_judge_139 : decode cX9_judge 139 = .ok (.iload_n 1, 1) := by decide +kernel
theorem dX9_judge_140 : decode cX9_judge 140 = .ok (.isub, 1) := by decide +kernel
theorem dX9_judge_141 : decode cX9_judge 141 = .ok (.iaload, 1) := by decide +kernel
theorem dX9_judge_142 : decode cX9_judge 142 = .ok (.iastore, 1) := by decide +kernel
theorem dX9_judge_143 : decode cX9_judge 143 = .ok (.iload 4, 2) := by decide +kernel
theorem dX9_judge_145 : decode cX9_judge 145 = .ok (.iload_n 1, 1) := by decide +kernel
theorem dX9_judge_146 : decode cX9_judge 146 = .ok (.isub, 1) := by decide +kernel
theorem dX9_judge_147 : decode cX9_judge 147 = .ok (.istore 4, 2) := by decide +kernel
theorem dX9_judge_149 : decode cX9_judge 149 = .ok (.goto (-45), 3) := by decide +kernel
theorem dX9_judge_152 : decode cX9_judge 152 = .ok (.aload_n 0, 1) := by decide +kernel
theorem dX9_judge_153 : decode cX9_judge 153 = .ok (.getfield 118, 3) := by decide +kernel
theorem dX9_judge_156 : decode cX9_judge 156 = .ok (.iload 4, 2) := by decide +kernel
theorem dX9_judge_158 : decode cX9_judge 158 = .ok (.iload_n 3, 1) := by decide +kernel
theorem dX9_judge_159 : decode cX9_judge 159 = .ok (.iastore, 1) := by decide +kernel
theorem dX9_judge_160 : decode cX9_judge 160 = .ok (.iinc 2 1, 3) := by decide +kernel
theorem dX9_judge_163 : decode cX9_judge 163 = .ok (.goto (-77), 3) := by decide +kernel
theorem dX9_judge_166 : decode cX9_judge 166 = .ok (.iload_n 1, 1) := by decide +kernel
theorem dX9_judge_167 : decode cX9_judge 167 = .ok (.iconst 2, 1) := by decide +kernel
theorem dX9_judge_168 : decode cX9_judge 168 = .ok (.idiv, 1) := by decide +kernel
theorem dX9_judge_169 : decode cX9_judge 169 = .ok (.istore_n 1, 1) := by decide +kernel
theorem dX9_judge_170 : decode cX9_judge 170 = .ok (.goto (-90), 3) := by decide +kernel
theorem dX9_judge_173 : decode cX9_judge 173 = .ok (.aload_n 0, 1) := by decide +kernel
theorem dX9_judge_174 : decode cX9_judge 174 = .ok (.aload_n 0, 1) := by decide +kernel
theorem dX9_judge_175 : decode cX9_judge 175 = .ok (.getfield 167, 3) := by decide +kernel
theorem dX9_judge_178 : decode cX9_judge 178 = .ok (.putfield 279, 3) := by decide +kernel
theorem dX9_judge_181 : decode cX9_judge 181 = .ok (.aload_n 0, 1) := by decide +kernel
theorem dX9_judge_182 : decode cX9_judge 182 = .ok (.getfield 260, 3) := by decide +kernel
theorem dX9_judge_185 : decode cX9_judge 185 = .ok (.ireturn, 1) := by decide +kernel
set_option maxRecDepth 20000 in
theorem ggX9_frame_X9_bad : GoodIn wsX9_frame wsX9_bad := goodIn_r _ [8, 1, 20, 21, 22, 23, 24, 25, 26, 27, 28, 29, 30, 31, 32, 33, 34, 35, 36, 37, 38, 39, 40, 41, 42, 43, 44, 45, 46, 47, 48, 49, 50, 51, 52, 53, 54, 55, 56, 57, 58, 59, 60, 61, 62, 63, 64, 65, 66, 67, 68, 69, 70, 71, 72, 73, 74, 75, 76, 77, 78, 79, 80, 81] (by decide +kernel) (by decide +kernel)
set_option maxRecDepth 20000 in
theorem gX9_frame_X9_bad : GoodIn wsX9_frame (wsV RX9 148 RX9 yX9_bad wsX9_bad) := goodIn_app (goodIn_of _ (by decide +kernel)) ggX9_frame_X9_bad
theorem dX9_frame_0 : decode cX9_frame 0 = .ok (.aload_n 0, 1) := by decide +kernel
theorem dX9_frame_1 : decode cX9_frame 1 = .ok (.iconst 0, 1) := by decide +kernel
theorem dX9_frame_2 : decode cX9_frame 2 = .ok (.putfield 1, 3) := by decide +kernel
theorem dX9_frame_5 : decode cX9_frame 5 = .ok (.iload_n 2, 1) := by decide +kernel
theorem dX9_frame_6 : decode cX9_frame 6 = .ok (.ifCond .lt 8, 3) := by decide +kernel
theorem dX9_frame_9 : decode cX9_frame 9 = .ok (.iload_n 2, 1) := by decide +kernel
theorem dX9_frame_10 : decode cX9_frame 10 = .ok (.iconst 3, 1) := by decide +kernel
theorem dX9_frame_11 : decode cX9_frame 11 = .ok (.if_icmp .le 8, 3) := by decide +kernel
theorem dX9_frame_14 : decode cX9_frame 14 = .ok (.aload_n 0, 1) := by decide +kernel
theorem dX9_frame_15 : decode cX9_frame 15 = .ok (.invokevirtual 148, 3) := by decide +kernel
theorem dX9_frame_18 : decode cX9_frame 18 = .ok (.ireturn, 1) := by decide +kernel
theorem dX9_frame_19 : decode cX9_frame 19 = .ok (.iload_n 1, 1) := by decide +kernel
theorem dX9_frame_20 : decode cX9_frame 20 = .ok (.ifCond .lt 11, 3) := by decide +kernel
theorem dX9_frame_23 : decode cX9_frame 23 = .ok (.iload_n 1, 1) := by decide +kernel
theorem dX9_frame_24 : decode cX9_frame 24 = .ok (.aload_n 0, 1) := by decide +kernel
theorem dX9_frame_25 : decode cX9_frame 25 = .ok (.getfield 260, 3) := by decide +kernel
theorem dX9_frame_28 : decode cX9_frame 28 = .ok (.if_icmp .lt 5, 3) := by decide +kernel
theorem dX9_frame_31 : decode cX9_frame 31 = .ok (.iconst (-1), 1) := by decide +kernel
theorem dX9_frame_32 : decode cX9_frame 32 = .ok (.ireturn, 1) := by decide +kernel
theorem dX9_frame_33 : decode cX9_frame 33 = .ok (.aload_n 0, 1) := by decide +kernel
theorem dX9_frame_34 : decode cX9_frame 34 = .ok (.aload_n 0, 1) := by decide +kernel
theorem dX9_frame_35 : decode cX9_frame 35 = .ok (.getfield 118, 3) := by decide +kernel
theorem dX9_frame_38 : decode cX9_frame 38 = .ok (.iload_n 1, 1) := by decide +kernel
theorem dX9_frame_39 : decode cX9_frame 39 = .ok (.iaload, 1) := by decide +kernel
theorem dX9_frame_40 : decode cX9_frame 40 = .ok (.iload_n 2, 1) := by decide +kernel
theorem dX9_frame_41 : decode cX9_frame 41 = .ok (.invokevirtual 361, 3) := by decide +kernel
theorem dX9_frame_44 : decode cX9_frame 44 = .ok (.ireturn, 1) := by decide +kernel
theorem dX9_context_0 : decode cX9_context 0 = .ok (.aload_n 0, 1) := by decide +kernel
theorem dX9_context_1 : decode cX9_context 1 = .ok (.iconst 0, 1) := by decide +kernel
theorem dX9_context_2 : decode cX9_context 2 = .ok (.putfield 1, 3) := by decide +kernel
theorem dX9_context_5 : decode cX9_context 5 = .ok (.iload_n 1, 1) := by decide +kernel
theorem dX9_context_6 : decode cX9_context 6 = .ok (.ifCond .lt 15, 3) := by decide +kernel
theorem dX9_context_9 : decode cX9_context 9 = .ok (.iload_n 1, 1) := by decide +kernel
theorem dX9_context_10 : decode cX9_context 10 = .ok (.aload_n 0, 1) := by decide +kernel
theorem dX9_context_11 : decode cX9_context 11 = .ok (.getfield 260, 3) := by decide +kernel
theorem dX9_context_14 : decode cX9_context 14 = .ok (.if_icmp .ge 7, 3) := by decide +kernel
theorem dX9_context_17 : decode cX9_context 17 = .ok (.iload_n 2, 1) := by decide +kernel
theorem dX9_context_18 : decode cX9_context 18 = .ok (.ifCond .ge 5, 3) := by decide +kernel
theorem dX9_context_21 : decode cX9_context 21 = .ok (.iconst (-1), 1) := by decide +kernel
theorem dX9_context_22 : decode cX9_context 22 = .ok (.ireturn, 1) := by decide +kernel
theorem dX9_context_23 : decode cX9_context 23 = .ok (.aload_n 0, 1) := by decide +kernel
theorem dX9_context_24 : decode cX9_context 24 = .ok (.getfield 106, 3) := by decide +kernel
theorem dX9_context_27 : decode cX9_context 27 = .ok (.aload_n 0, 1) := by decide +kernel
theorem dX9_context_28 : decode cX9_context 28 = .ok (.getfield 118, 3) := by decide +kernel
theorem dX9_context_31 : decode cX9_context 31 = .ok (.iload_n 1, 1) := by decide +kernel
theorem dX9_context_32 : decode cX9_context 32 = .ok (.iaload, 1) := by decide +kernel
theorem dX9_context_33 : decode cX9_context 33 = .ok (.iaload, 1) := by decide +kernel
theorem dX9_context_34 : decode cX9_context 34 = .ok (.istore_n 3, 1) := by decide +kernel
theorem dX9_context_35 : decode cX9_context 35 = .ok (.iload_n 2, 1) := by decide +kernel
theorem dX9_context_36 : decode cX9_context 36 = .ok (.aload_n 0, 1) := by decide +kernel
theorem dX9_context_37 : decode cX9_context 37 = .ok (.getfield 94, 3) := by decide +kernel
theorem dX9_context_40 : decode cX9_context 40 = .ok (.iload_n 3, 1) := by decide +kernel
theorem dX9_context_41 : decode cX9_context 41 = .ok (.iaload, 1) := by decide +kernel
theorem dX9_context_42 : decode cX9_context 42 = .ok (.if_icmp .lt 5, 3) := by decide +kernel
theorem dX9_context_45 : decode cX9_context 45 = .ok (.iconst (-1), 1) := by decide +kernel
theorem dX9_context_46 : decode cX9_context 46 = .ok (.ireturn, 1) := by decide +kernel
theorem dX9_context_47 : decode cX9_context 47 = .ok (.aload_n 0, 1) := by decide +kernel
theorem dX9_context_48 : decode cX9_context 48 = .ok (.getfield 94, 3) := by decide +kernel
theorem dX9_context_51 : decode cX9_context 51 = .ok (.iload_n 3, 1) := by decide +kernel
theorem dX9_context_52 : decode cX9_context 52 = .ok (.iaload, 1) := by decide +kernel
theorem dX9_context_53 : decode cX9_context 53 = .ok (.iload_n 2, 1) := by decide +kernel
theorem dX9_context_54 : decode cX9_context 54 = .ok (.iconst 1, 1) := by decide +kernel
theorem dX9_context_55 : decode cX9_context 55 = .ok (.iadd, 1) := by decide +kernel
theorem dX9_context_56 : decode cX9_context 56 = .ok (.if_icmp .le 13, 3) := by decide +kernel
theorem dX9_context_59 : decode cX9_context 59 = .ok (.aload_n 0, 1) := by decide +kernel
theorem dX9_context_60 : decode cX9_context 60 = .ok (.getfield 91, 3) := by decide +kernel
theorem dX9_context_63 : decode cX9_context 63 = .ok (.iload_n 3, 1) := by decide +kernel
theorem dX9_context_64 : decode cX9_context 64 = .ok (.iaload, 1) := by decide +kernel
theorem dX9_context_65 : decode cX9_context 65 = .ok (.istore_n 3, 1) := by decide +kernel
theorem dX9_context_66 : decode cX9_context 66 = .ok (.goto (-19), 3) := by decide +kernel
theorem dX9_context_69 : decode cX9_context 69 = .ok (.aload_n 0, 1) := by decide +kernel
theorem dX9_context_70 : decode cX9_context 70 = .ok (.getfield 88, 3) := by decide +kernel
theorem dX9_context_73 : decode cX9_context 73 = .ok (.iload_n 3, 1) := by decide +kernel
theorem dX9_context_74 : decode cX9_context 74 = .ok (.iaload, 1) := by decide +kernel
theorem dX9_context_75 : decode cX9_context 75 = .ok (.ireturn, 1) := by decide +kernel
theorem dX9_told_0 : decode cX9_told 0 = .ok (.aload_n 0, 1) := by decide +kernel
theorem dX9_told_1 : decode cX9_told 1 = .ok (.iconst 0, 1) := by decide +kernel
theorem dX9_told_2 : decode cX9_told 2 = .ok (.putfield 1, 3) := by decide +kernel
theorem dX9_told_5 : decode cX9_told 5 = .ok (.iload_n 1, 1) := by decide +kernel
theorem dX9_told_6 : decode cX9_told 6 = .ok (.ifCond .lt 35, 3) := by decide +kernel
theorem dX9_told_9 : decode cX9_told 9 = .ok (.iload_n 1, 1) := by decide +kernel
theorem dX9_told_10 : decode cX9_told 10 = .ok (.aload_n 0, 1) := by decide +kernel
theorem dX9_told_11 : decode cX9_told 11 = .ok (.getfield 260, 3) := by decide +kernel
theorem dX9_told_14 : decode cX9_told 14 = .ok (.if_icmp .ge 27, 3) := by decide +kernel
theorem dX9_told_17 : decode cX9_told 17 = .ok (.iload_n 2, 1) := by decide +kernel
theorem dX9_told_18 : decode cX9_told 18 = .ok (.ifCond .lt 23, 3) := by decide +kernel
theorem dX9_told_21 : decode cX9_told 21 = .ok (.iload_n 2, 1) := by decide +kernel
theorem dX9_told_22 : decode cX9_told 22 = .ok (.aload_n 0, 1) := by decide +kernel
theorem dX9_told_23 : decode cX9_told 23 = .ok (.getfield 263, 3) := by decide +kernel
theorem dX9_told_26 : decode cX9_told 26 = .ok (.aload_n 0, 1) := by decide +kernel
theorem dX9_told_27 : decode cX9_told 27 = .ok (.aload_n 0, 1) := by decide +kernel
theorem dX9_told_28 : decode cX9_told 28 = .ok (.getfield 118, 3) := by decide +kernel
theorem dX9_told_31 : decode cX9_told 31 = .ok (.iload_n 1, 1) := by decide +kernel
theorem dX9_told_32 : decode cX9_told 32 = .ok (.iaload, 1) := by decide +kernel
theorem dX9_told_33 : decode cX9_told 33 = .ok (.iconst 2, 1) := by decide +kernel
theorem dX9_told_34 : decode cX9_told 34 = .ok (.invokevirtual 361, 3) := by decide +kernel
theorem dX9_told_37 : decode cX9_told 37 = .ok (.iadd, 1) := by decide +kernel
theorem dX9_told_38 : decode cX9_told 38 = .ok (.if_icmp .lt 5, 3) := by decide +kernel
theorem dX9_told_41 : decode cX9_told 41 = .ok (.iconst (-1), 1) := by decide +kernel
theorem dX9_told_42 : decode cX9_told 42 = .ok (.ireturn, 1) := by decide +kernel
theorem dX9_told_43 : decode cX9_told 43 = .ok (.aload_n 0, 1) := by decide +kernel
theorem dX9_told_44 : decode cX9_told 44 = .ok (.getfield 128, 3) := by decide +kernel
theorem dX9_told_47 : decode cX9_told 47 = .ok (.aload_n 0, 1) := by decide +kernel
theorem dX9_told_48 : decode cX9_told 48 = .ok (.getfield 118, 3) := by decide +kernel
theorem dX9_told_51 : decode cX9_told 51 = .ok (.iload_n 1, 1) := by decide +kernel
theorem dX9_told_52 : decode cX9_told 52 = .ok (.iaload, 1) := by decide +kernel
theorem dX9_told_53 : decode cX9_told 53 = .ok (.aload_n 0, 1) := by decide +kernel
theorem dX9_told_54 : decode cX9_told 54 = .ok (.getfield 263, 3) := by decide +kernel
theorem dX9_told_57 : decode cX9_told 57 = .ok (.aload_n 0, 1) := by decide +kernel
theorem dX9_told_58 : decode cX9_told 58 = .ok (.getfield 266, 3) := by decide +kernel
theorem dX9_told_61 : decode cX9_told 61 = .ok (.iadd, 1) := by decide +kernel
theorem dX9_told_62 : decode cX9_told 62 = .ok (.iconst 2, 1) := by decide +kernel
theorem dX9_told_63 : decode cX9_told 63 = .ok (.iadd, 1) := by decide +kernel
theorem dX9_told_64 : decode cX9_told 64 = .ok (.imul, 1) := by decide +kernel
theorem dX9_told_65 : decode cX9_told 65 = .ok (.iload_n 2, 1) := by decide +kernel
theorem dX9_told_66 : decode cX9_told 66 = .ok (.iadd, 1) := by decide +kernel
theorem dX9_told_67 : decode cX9_told 67 = .ok (.iaload, 1) := by decide +kernel
theorem dX9_told_68 : decode cX9_told 68 = .ok (.ireturn, 1) := by decide +kernel
theorem dX9_digest_0 : decode cX9_digest 0 = .ok (.aload_n 0, 1) := by decide +kernel
theorem dX9_digest_1 : decode cX9_digest 1 = .ok (.iconst 0, 1) := by decide +kernel
theorem dX9_digest_2 : decode cX9_digest 2 = .ok (.putfield 1, 3) := by decide +kernel
theorem dX9_digest_5 : decode cX9_digest 5 = .ok (.ldc2_w 364, 3) := by decide +kernel
theorem dX9_digest_8 : decode cX9_digest 8 = .ok (.lstore_n 1, 1) := by decide +kernel
theorem dX9_digest_9 : decode cX9_digest 9 = .ok (.iconst 0, 1) := by decide +kernel
theorem dX9_digest_10 : decode cX9_digest 10 = .ok (.istore_n 3, 1) := by decide +kernel
theorem dX9_digest_11 : decode cX9_digest 11 = .ok (.iload_n 3, 1) := by decide +kernel
theorem dX9_digest_12 : decode cX9_digest 12 = .ok (.aload_n 0, 1) := by decide +kernel
theorem dX9_digest_13 : decode cX9_digest 13 = .ok (.getfield 260, 3) := by decide +kernel
theorem dX9_digest_16 : decode cX9_digest 16 = .ok (.if_icmp .ge 108, 3) := by decide +kernel
theorem dX9_digest_19 : decode cX9_digest 19 = .ok (.aload_n 0, 1) := by decide +kernel
theorem dX9_digest_20 : decode cX9_digest 20 = .ok (.getfield 118, 3) := by decide +kernel
theorem dX9_digest_23 : decode cX9_digest 23 = .ok (.iload_n 3, 1) := by decide +kernel
theorem dX9_digest_24 : decode cX9_digest 24 = .ok (.iaload, 1) := by decide +kernel
theorem dX9_digest_25 : decode cX9_digest 25 = .ok (.istore 4, 2) := by decide +kernel
theorem dX9_digest_27 : decode cX9_digest 27 = .ok (.iconst 0, 1) := by decide +kernel
theorem dX9_digest_28 : decode cX9_digest 28 = .ok (.istore 5, 2) := by decide +kernel
theorem dX9_digest_30 : decode cX9_digest 30 = .ok (.iload 5, 2) := by decide +kernel
theorem dX9_digest_32 : decode cX9_digest 32 = .ok (.iconst 4, 1) := by decide +kernel
theorem dX9_digest_33 : decode cX9_digest 33 = .ok (.if_icmp .ge 25, 3) := by decide +kernel
theorem dX9_digest_36 : decode cX9_digest 36 = .ok (.ldc2_w 366, 3) := by decide +kernel
theorem dX9_digest_39 : decode cX9_digest 39 = .ok (.lload_n 1, 1) := by decide +kernel
theorem dX9_digest_40 : decode cX9_digest 40 = .ok (.lmul, 1) := by decide +kernel
theorem dX9_digest_41 : decode cX9_digest 41 = .ok (.aload_n 0, 1) := by decide +kernel
theorem dX9_digest_42 : decode cX9_digest 42 = .ok (.iload 4, 2) := by decide +kernel
theorem dX9_digest_44 : decode cX9_digest 44 = .ok (.iload 5, 2) := by decide +kernel
theorem dX9_digest_46 : decode cX9_digest 46 = .ok (.invokevirtual 361, 3) := by decide +kernel
theorem dX9_digest_49 : decode cX9_digest 49 = .ok (.i2l, 1) := by decide +kernel
theorem dX9_digest_50 : decode cX9_digest 50 = .ok (.ladd, 1) := by decide +kernel
theorem dX9_digest_51 : decode cX9_digest 51 = .ok (.lstore_n 1, 1) := by decide +kernel
theorem dX9_digest_52 : decode cX9_digest 52 = .ok (.iinc 5 1, 3) := by decide +kernel
theorem dX9_digest_55 : decode cX9_digest 55 = .ok (.goto (-25), 3) := by decide +kernel
theorem dX9_digest_58 : decode cX9_digest 58 = .ok (.aload_n 0, 1) := by decide +kernel
theorem dX9_digest_59 : decode cX9_digest 59 = .ok (.getfield 263, 3) := by decide +kernel
theorem dX9_digest_62 : decode cX9_digest 62 = .ok (.aload_n 0, 1) := by decide +kernel
theorem dX9_digest_63 : decode cX9_digest 63 = .ok (.iload 4, 2) := by decide +kernel
theorem dX9_digest_65 : decode cX9_digest 65 = .ok (.iconst 2, 1) := by decide +kernel
theorem dX9_digest_66 : decode cX9_digest 66 = .ok (.invokevirtual 361, 3) := by decide +kernel
theorem dX9_digest_69 : decode cX9_digest 69 = .ok (.iadd, 1) := by decide +kernel
theorem dX9_digest_70 : decode cX9_digest 70 = .ok (.istore 5, 2) := by decide +kernel
theorem dX9_digest_72 : decode cX9_digest 72 = .ok (.iconst 0, 1) := by decide +kernel
theorem dX9_digest_73 : decode cX9_digest 73 = .ok (.istore 6, 2) := by decide +kernel
theorem dX9_digest_75 : decode cX9_digest 75 = .ok (.iload 6, 2) := by decide +kernel
theorem dX9_digest_77 : decode cX9_digest 77 = .ok (.iload 5, 2) := by decide +kernel
theorem dX9_digest_79 : decode cX9_digest 79 = .ok (.if_icmp .ge 39, 3) := by decide +kernel
theorem dX9_digest_82 : decode cX9_digest 82 = .ok (.ldc2_w 366, 3) := by decide +kernel
theorem dX9_digest_85 : decode cX9_digest 85 = .ok (.lload_n 1, 1) := by decide +kernel
theorem dX9_digest_86 : decode cX9_digest 86 = .ok (.lmul, 1) := by decide +kernel
theorem dX9_digest_87 : decode cX9_digest 87 = .ok (.aload_n 0, 1) := by decide +kernel
theorem dX9_digest_88 : decode cX9_digest 88 = .ok (.getfield 128, 3) := by decide +kernel
theorem dX9_digest_91 : decode cX9_digest 91 = .ok (.iload 4, 2) := by decide +kernel
theorem dX9_digest_93 : decode cX9_digest 93 = .ok (.aload_n 0, 1) := by decide +kernel
theorem dX9_digest_94 : decode cX9_digest 94 = .ok (.getfield 263, 3) := by decide +kernel
theorem dX9_digest_97 : decode cX9_digest 97 = .ok (.aload_n 0, 1) := by decide +kernel
theorem dX9_digest_98 : decode cX9_digest 98 = .ok (.getfield 266, 3) := by decide +kernel
theorem dX9_digest_101 : decode cX9_digest 101 = .ok (.iadd, 1) := by decide +kernel
theorem dX9_digest_102 : decode cX9_digest 102 = .ok (.iconst 2, 1) := by decide +kernel
theorem dX9_digest_103 : decode cX9_digest 103 = .ok (.iadd, 1) := by decide +kernel
theorem dX9_digest_104 : decode cX9_digest 104 = .ok (.imul, 1) := by decide +kernel
theorem dX9_digest_105 : decode cX9_digest 105 = .ok (.iload 6, 2) := by decide +kernel
theorem dX9_digest_107 : decode cX9_digest 107 = .ok (.iadd, 1) := by decide +kernel
theorem dX9_digest_108 : decode cX9_digest 108 = .ok (.iaload, 1) := by decide +kernel
theorem dX9_digest_109 : decode cX9_digest 109 = .ok (.i2l, 1) := by decide +kernel
theorem dX9_digest_110 : decode cX9_digest 110 = .ok (.ladd, 1) := by decide +kernel
theorem dX9_digest_111 : decode cX9_digest 111 = .ok (.lstore_n 1, 1) := by decide +kernel
theorem dX9_digest_112 : decode cX9_digest 112 = .ok (.iinc 6 1, 3) := by decide +kernel
theorem dX9_digest_115 : decode cX9_digest 115 = .ok (.goto (-40), 3) := by decide +kernel
theorem dX9_digest_118 : decode cX9_digest 118 = .ok (.iinc 3 1, 3) := by decide +kernel
theorem dX9_digest_121 : decode cX9_digest 121 = .ok (.goto (-110), 3) := by decide +kernel
theorem dX9_digest_124 : decode cX9_digest 124 = .ok (.lload_n 1, 1) := by decide +kernel
theorem dX9_digest_125 : decode cX9_digest 125 = .ok (.lreturn, 1) := by decide +kernel
theorem dJ7_fill_53178_0 : decode cJ7_fill_53178 0 = .ok (.iconst 0, 1) := by decide +kernel
theorem dJ7_fill_53178_1 : decode cJ7_fill_53178 1 = .ok (.istore_n 2, 1) := by decide +kernel
theorem dJ7_fill_53178_2 : decode cJ7_fill_53178 2 = .ok (.aload_n 0, 1) := by decide +kernel
theorem dJ7_fill_53178_3 : decode cJ7_fill_53178 3 = .ok (.arraylength, 1) := by decide +kernel
theorem dJ7_fill_53178_4 : decode cJ7_fill_53178 4 = .ok (.istore_n 3, 1) := by decide +kernel
theorem dJ7_fill_53178_5 : decode cJ7_fill_53178 5 = .ok (.iload_n 2, 1) := by decide +kernel
theorem dJ7_fill_53178_6 : decode cJ7_fill_53178 6 = .ok (.iload_n 3, 1) := by decide +kernel
theorem dJ7_fill_53178_7 : decode cJ7_fill_53178 7 = .ok (.if_icmp .ge 13, 3) := by decide +kernel
theorem dJ7_fill_53178_10 : decode cJ7_fill_53178 10 = .ok (.aload_n 0, 1) := by decide +kernel
theorem dJ7_fill_53178_11 : decode cJ7_fill_53178 11 = .ok (.iload_n 2, 1) := by decide +kernel
theorem dJ7_fill_53178_12 : decode cJ7_fill_53178 12 = .ok (.iload_n 1, 1) := by decide +kernel
theorem dJ7_fill_53178_13 : decode cJ7_fill_53178 13 = .ok (.iastore, 1) := by decide +kernel
theorem dJ7_fill_53178_14 : decode cJ7_fill_53178 14 = .ok (.iinc 2 1, 3) := by decide +kernel
theorem dJ7_fill_53178_17 : decode cJ7_fill_53178 17 = .ok (.goto (-12), 3) := by decide +kernel
theorem dJ7_fill_53178_20 : decode cJ7_fill_53178 20 = .ok (.return_, 1) := by decide +kernel
set_option maxRecDepth 20000 in
theorem ggL_add_X8_add : GoodIn wsL_add wsX8_add := goodIn_ca (goodIn_ca (goodIn_r _ [7, 8, 9, 10, 11, 12, 13, 14, 15, 16, 17, 18, 19, 20, 21, 22, 23, 24, 25, 26, 27, 28, 29, 30, 31, 32, 33] (by decide +kernel) (by decide +kernel)) (goodIn_sub (fun _ h => List.mem_cons_of_mem _ (List.mem_append_left _ (List.mem_append_right _ h))) (by decide +kernel))) (goodIn_sub (fun _ h => List.mem_cons_of_mem _ (List.mem_append_right _ h)) (by decide +kernel))
set_option maxRecDepth 20000 in
theorem gL_add_X8_add : GoodIn wsL_add (wsV RL 7 RX8 yX8_add wsX8_add) := goodIn_app (goodIn_of _ (by decide +kernel)) ggL_add_X8_add
theorem dL_add_0 : decode cL_add 0 = .ok (.aload_n 3, 1) := by decide +kernel
theorem dL_add_1 : decode cL_add 1 = .ok (.iconst 0, 1) := by decide +kernel
theorem dL_add_2 : decode cL_add 2 = .ok (.aload_n 0, 1) := by decide +kernel
theorem dL_add_3 : decode cL_add 3 = .ok (.iload_n 1, 1) := by decide +kernel
theorem dL_add_4 : decode cL_add 4 = .ok (.iload_n 2, 1) := by decide +kernel
theorem dL_add_5 : decode cL_add 5 = .ok (.invokevirtual 7, 3) := by decide +kernel
theorem dL_add_8 : decode cL_add 8 = .ok (.i2l, 1) := by decide +kernel
theorem dL_add_9 : decode cL_add 9 = .ok (.lastore, 1) := by decide +kernel
theorem dL_add_10 : decode cL_add 10 = .ok (.goto 11, 3) := by decide +kernel
theorem dL_add_13 : decode cL_add 13 = .ok (.astore 4, 2) := by decide +kernel
theorem dL_add_15 : decode cL_add 15 = .ok (.iconst 1, 1) := by decide +kernel
theorem dL_add_16 : decode cL_add 16 = .ok (.ireturn, 1) := by decide +kernel
theorem dL_add_17 : decode cL_add 17 = .ok (.astore 4, 2) := by decide +kernel
theorem dL_add_19 : decode cL_add 19 = .ok (.iconst 2, 1) := by decide +kernel
theorem dL_add_20 : decode cL_add 20 = .ok (.ireturn, 1) := by decide +kernel
theorem dL_add_21 : decode cL_add 21 = .ok (.iconst 0, 1) := by decide +kernel
theorem dL_add_22 : decode cL_add 22 = .ok (.ireturn, 1) := by decide +kernel
set_option maxRecDepth 20000 in
theorem ggL_field_X8_field : GoodIn wsL_field wsX8_field := goodIn_ca (goodIn_ca (goodIn_r _ [7, 8, 9, 10, 11, 12, 13, 14, 15, 16, 17, 18, 19, 20, 21, 22, 23, 24, 25, 26, 27, 28, 29, 30, 31, 32, 33, 34, 35, 36, 37, 38, 39, 40, 41, 42, 43, 44, 45, 46, 47, 48, 49, 50, 51, 52, 53, 54] (by decide +kernel) (by decide +kernel)) (goodIn_sub (fun _ h => List.mem_cons_of_mem _ (List.mem_append_left _ (List.mem_append_right _ h))) (by decide +kernel))) (goodIn_sub (fun _ h => List.mem_cons_of_mem _ (List.mem_append_right _ h)) (by decide +kernel))
set_option maxRecDepth 20000 in
theorem gL_field_X8_field : GoodIn wsL_field (wsV RL 17 RX8 yX8_field wsX8_field) := goodIn_app (goodIn_of _ (by decide +kernel)) ggL_field_X8_field
theorem dL_field_0 : decode cL_field 0 = .ok (.aload_n 3, 1) := by decide +kernel
theorem dL_field_1 : decode cL_field 1 = .ok (.iconst 0, 1) := by decide +kernel
theorem dL_field_2 : decode cL_field 2 = .ok (.aload_n 0, 1) := by decide +kernel
theorem dL_field_3 : decode cL_field 3 = .ok (.iload_n 1, 1) := by decide +kernel
theorem dL_field_4 : decode cL_field 4 = .ok (.iload_n 2, 1) := by decide +kernel
theorem dL_field_5 : decode cL_field 5 = .ok (.invokevirtual 17, 3) := by decide +kernel
theorem dL_field_8 : decode cL_field 8 = .ok (.i2l, 1) := by decide +kernel
theorem dL_field_9 : decode cL_field 9 = .ok (.lastore, 1) := by decide +kernel
theorem dL_field_10 : decode cL_field 10 = .ok (.goto 11, 3) := by decide +kernel
theorem dL_field_13 : decode cL_field 13 = .ok (.astore 4, 2) := by decide +kernel
theorem dL_field_15 : decode cL_field 15 = .ok (.iconst 1, 1) := by decide +kernel
theorem dL_field_16 : decode cL_field 16 = .ok (.ireturn, 1) := by decide +kernel
theorem dL_field_17 : decode cL_field 17 = .ok (.astore 4, 2) := by decide +kernel
theorem dL_field_19 : decode cL_field 19 = .ok (.iconst 2, 1) := by decide +kernel
theorem dL_field_20 : decode cL_field 20 = .ok (.ireturn, 1) := by decide +kernel
theorem dL_field_21 : decode cL_field 21 = .ok (.iconst 0, 1) := by decide +kernel
theorem dL_field_22 : decode cL_field 22 = .ok (.ireturn, 1) := by decide +kernel
set_option maxRecDepth 20000 in
theorem ggL_shape_X8_shape : GoodIn wsL_shape wsX8_shape := goodIn_ca (goodIn_ca (goodIn_r _ [7, 8, 9, 10, 11, 12, 13, 14, 15, 16, 17, 18, 19, 20, 21, 22, 23, 24, 25, 26, 27, 28, 29, 30, 31, 32, 33, 34, 35, 36, 37, 38, 39, 40, 41, 42, 43, 44, 45, 46, 47, 48, 49, 50, 51, 52, 53, 54, 55, 56, 57, 58, 59] (by decide +kernel) (by decide +kernel)) (goodIn_sub (fun _ h => List.mem_cons_of_mem _ (List.mem_append_left _ (List.mem_append_right _ h))) (by decide +kernel))) (goodIn_sub (fun _ h => List.mem_cons_of_mem _ (List.mem_append_right _ h)) (by decide +kernel))
set_option maxRecDepth 20000 in
theorem gL_shape_X8_shape : GoodIn wsL_shape (wsV RL 21 RX8 yX8_shape wsX8_shape) := goodIn_app (goodIn_of _ (by decide +kernel)) ggL_shape_X8_shape
theorem dL_shape_0 : decode cL_shape 0 = .ok (.aload 4, 2) := by decide +kernel
theorem dL_shape_2 : decode cL_shape 2 = .ok (.iconst 0, 1) := by decide +kernel
theorem dL_shape_3 : decode cL_shape 3 = .ok (.aload_n 0, 1) := by decide +kernel
theorem dL_shape_4 : decode cL_shape 4 = .ok (.iload_n 1, 1) := by decide +kernel
theorem dL_shape_5 : decode cL_shape 5 = .ok (.iload_n 2, 1) := by decide +kernel
theorem dL_shape_6 : decode cL_shape 6 = .ok (.iload_n 3, 1) := by decide +kernel
theorem dL_shape_7 : decode cL_shape 7 = .ok (.invokevirtual 21, 3) := by decide +kernel
theorem dL_shape_10 : decode cL_shape 10 = .ok (.i2l, 1) := by decide +kernel
theorem dL_shape_11 : decode cL_shape 11 = .ok (.lastore, 1) := by decide +kernel
theorem dL_shape_12 : decode cL_shape 12 = .ok (.goto 11, 3) := by decide +kernel
theorem dL_shape_15 : decode cL_shape 15 = .ok (.astore 5, 2) := by decide +kernel
theorem dL_shape_17 : decode cL_shape 17 = .ok (.iconst 1, 1) := by decide +kernel
theorem dL_shape_18 : decode cL_shape 18 = .ok (.ireturn, 1) := by decide +kernel
theorem dL_shape_19 : decode cL_shape 19 = .ok (.astore 5, 2) := by decide +kernel
theorem dL_shape_21 : decode cL_shape 21 = .ok (.iconst 2, 1) := by decide +kernel
theorem dL_shape_22 : decode cL_shape 22 = .ok (.ireturn, 1) := by decide +kernel
theorem dL_shape_23 : decode cL_shape 23 = .ok (.iconst 0, 1) := by decide +kernel
theorem dL_shape_24 : decode cL_shape 24 = .ok (.ireturn, 1) := by decide +kernel
set_option maxRecDepth 20000 in
theorem ggL_takes_X8_takes : GoodIn wsL_takes wsX8_takes := goodIn_ca (goodIn_ca (goodIn_r _ [7, 8, 9, 10, 11, 12, 13, 14, 15, 16, 17, 18, 19, 20, 21, 22, 23, 24, 25, 26, 27, 28, 29, 30, 31, 32, 33, 34, 35, 36, 37, 38, 39, 40, 41, 42, 43, 44, 45, 46, 47, 48, 49, 50, 51, 52, 53, 54] (by decide +kernel) (by decide +kernel)) (goodIn_sub (fun _ h => List.mem_cons_of_mem _ (List.mem_append_left _ (List.mem_append_right _ h))) (by decide +kernel))) (goodIn_sub (fun _ h => List.mem_cons_of_mem _ (List.mem_append_right _ h)) (by decide +kernel))
set_option maxRecDepth 20000 in
theorem gL_takes_X8_takes : GoodIn wsL_takes (wsV RL 25 RX8 yX8_takes wsX8_takes) := goodIn_app (goodIn_of _ (by decide +kernel)) ggL_takes_X8_takes
theorem dL_takes_0 : decode cL_takes 0 = .ok (.aload_n 2, 1) := by decide +kernel
theorem dL_takes_1 : decode cL_takes 1 = .ok (.iconst 0, 1) := by decide +kernel
theorem dL_takes_2 : decode cL_takes 2 = .ok (.aload_n 0, 1) := by decide +kernel
theorem dL_takes_3 : decode cL_takes 3 = .ok (.iload_n 1, 1) := by decide +kernel
theorem dL_takes_4 : decode cL_takes 4 = .ok (.invokevirtual 25, 3) := by decide +kernel
theorem dL_takes_7 : decode cL_takes 7 = .ok (.i2l, 1) := by decide +kernel
theorem dL_takes_8 : decode cL_takes 8 = .ok (.lastore, 1) := by decide +kernel
theorem dL_takes_9 : decode cL_takes 9 = .ok (.goto 9, 3) := by decide +kernel
theorem dL_takes_12 : decode cL_takes 12 = .ok (.astore_n 3, 1) := by decide +kernel
theorem dL_takes_13 : decode cL_takes 13 = .ok (.iconst 1, 1) := by decide +kernel
theorem dL_takes_14 : decode cL_takes 14 = .ok (.ireturn, 1) := by decide +kernel
theorem dL_takes_15 : decode cL_takes 15 = .ok (.astore_n 3, 1) := by decide +kernel
theorem dL_takes_16 : decode cL_takes 16 = .ok (.iconst 2, 1) := by decide +kernel
theorem dL_takes_17 : decode cL_takes 17 = .ok (.ireturn, 1) := by decide +kernel
theorem dL_takes_18 : decode cL_takes 18 = .ok (.iconst 0, 1) := by decide +kernel
theorem dL_takes_19 : decode cL_takes 19 = .ok (.ireturn, 1) := by decide +kernel
set_option maxRecDepth 20000 in
theorem ggL_method_X8_method : GoodIn wsL_method wsX8_method := goodIn_ca (goodIn_r _ [6, 7, 8, 9, 10, 11, 12, 13, 14, 15, 16, 17, 18, 19, 20, 21, 22, 23, 24, 25, 26, 27, 28, 29, 30, 31, 32, 33, 34, 35, 36, 37, 38, 39, 40, 41, 42, 43, 44, 45, 46, 47, 48, 49, 50, 51, 52, 53, 54, 55, 56, 57, 58, 59, 60, 61, 62, 63, 64, 65, 66, 67, 68] (by decide +kernel) (by decide +kernel)) (goodIn_sub (fun _ h => List.mem_cons_of_mem _ (List.mem_append_right _ h)) (by decide +kernel))
set_option maxRecDepth 20000 in
theorem gL_method_X8_method : GoodIn wsL_method (wsV RL 29 RX8 yX8_method wsX8_method) := goodIn_app (goodIn_of _ (by decide +kernel)) ggL_method_X8_method
theorem dL_method_0 : decode cL_method 0 = .ok (.aload 6, 2) := by decide +kernel
theorem dL_method_2 : decode cL_method 2 = .ok (.iconst 0, 1) := by decide +kernel
theorem dL_method_3 : decode cL_method 3 = .ok (.aload_n 0, 1) := by decide +kernel
theorem dL_method_4 : decode cL_method 4 = .ok (.iload_n 1, 1) := by decide +kernel
theorem dL_method_5 : decode cL_method 5 = .ok (.iload_n 2, 1) := by decide +kernel
theorem dL_method_6 : decode cL_method 6 = .ok (.iload_n 3, 1) := by decide +kernel
theorem dL_method_7 : decode cL_method 7 = .ok (.iload 4, 2) := by decide +kernel
theorem dL_method_9 : decode cL_method 9 = .ok (.iload 5, 2) := by decide +kernel
theorem dL_method_11 : decode cL_method 11 = .ok (.invokevirtual 29, 3) := by decide +kernel
theorem dL_method_14 : decode cL_method 14 = .ok (.i2l, 1) := by decide +kernel
theorem dL_method_15 : decode cL_method 15 = .ok (.lastore, 1) := by decide +kernel
theorem dL_method_16 : decode cL_method 16 = .ok (.goto 7, 3) := by decide +kernel
theorem dL_method_19 : decode cL_method 19 = .ok (.astore 7, 2) := by decide +kernel
theorem dL_method_21 : decode cL_method 21 = .ok (.iconst 1, 1) := by decide +kernel
theorem dL_method_22 : decode cL_method 22 = .ok (.ireturn, 1) := by decide +kernel
theorem dL_method_23 : decode cL_method 23 = .ok (.iconst 0, 1) := by decide +kernel
theorem dL_method_24 : decode cL_method 24 = .ok (.ireturn, 1) := by decide +kernel
set_option maxRecDepth 20000 in
theorem ggL_argument_X8_argument : GoodIn wsL_argument wsX8_argument := goodIn_ca (goodIn_ca (goodIn_r _ [7, 8, 9, 10, 11, 12, 13, 14, 15, 16, 17, 18, 19, 20, 21, 22, 23, 24, 25, 26, 27, 28, 29, 30, 31, 32, 33, 34, 35, 36, 37, 38, 39, 40, 41, 42, 43, 44, 45, 46, 47, 48, 49, 50, 51, 52, 53, 54, 55, 56, 57] (by decide +kernel) (by decide +kernel)) (goodIn_sub (fun _ h => List.mem_cons_of_mem _ (List.mem_append_left _ (List.mem_append_right _ h))) (by decide +kernel))) (goodIn_sub (fun _ h => List.mem_cons_of_mem _ (List.mem_append_right _ h)) (by decide +kernel))
set_option maxRecDepth 20000 in
theorem gL_argument_X8_argument : GoodIn wsL_argument (wsV RL 33 RX8 yX8_argument wsX8_argument) := goodIn_app (goodIn_of _ (by decide +kernel)) ggL_argument_X8_argument
theorem dL_argument_0 : decode cL_argument 0 = .ok (.aload_n 2, 1) := by decide +kernel
theorem dL_argument_1 : decode cL_argument 1 = .ok (.iconst 0, 1) := by decide +kernel
theorem dL_argument_2 : decode cL_argument 2 = .ok (.aload_n 0, 1) := by decide +kernel
theorem dL_argument_3 : decode cL_argument 3 = .ok (.iload_n 1, 1) := by decide +kernel
theorem dL_argument_4 : decode cL_argument 4 = .ok (.invokevirtual 33, 3) := by decide +kernel
theorem dL_argument_7 : decode cL_argument 7 = .ok (.i2l, 1) := by decide +kernel
theorem dL_argument_8 : decode cL_argument 8 = .ok (.lastore, 1) := by decide +kernel
theorem dL_argument_9 : decode cL_argument 9 = .ok (.goto 9, 3) := by decide +kernel
theorem dL_argument_12 : decode cL_argument 12 = .ok (.astore_n 3, 1) := by decide +kernel
theorem dL_argument_13 : decode cL_argument 13 = .ok (.iconst 1, 1) := by decide +kernel
theorem dL_argument_14 : decode cL_argument 14 = .ok (.ireturn, 1) := by decide +kernel
theorem dL_argument_15 : decode cL_argument 15 = .ok (.astore_n 3, 1) := by decide +kernel
theorem dL_argument_16 : decode cL_argument 16 = .ok (.iconst 2, 1) := by decide +kernel
theorem dL_argument_17 : decode cL_argument 17 = .ok (.ireturn, 1) := by decide +kernel
theorem dL_argument_18 : decode cL_argument 18 = .ok (.iconst 0, 1) := by decide +kernel
theorem dL_argument_19 : decode cL_argument 19 = .ok (.ireturn, 1) := by decide +kernel
set_option maxRecDepth 20000 in
theorem ggL_put_X8_put : GoodIn wsL_put wsX8_put := goodIn_ca (goodIn_ca (goodIn_r _ [7, 8, 9, 10, 11, 12, 13, 14, 15, 6, 16, 17, 18, 19, 20, 21, 22, 23, 24, 25, 26, 27, 28, 29, 30, 31, 32, 33, 34, 35, 36, 37, 38, 39, 40, 41, 42, 43, 44, 45, 46, 47, 48, 49, 50, 51, 52, 53, 54, 55, 56, 57, 58, 59, 60, 61, 62, 63, 64, 65, 66, 67, 68, 69, 70, 71, 72, 73, 74, 75, 76, 77, 78, 79, 80, 81, 82, 83, 84, 85, 86, 87, 88, 89, 90, 91, 92, 93, 94, 95, 96, 97, 98, 99, 100, 101, 102, 103, 104, 105, 106] (by decide +kernel) (by decide +kernel)) (goodIn_sub (fun _ h => List.mem_cons_of_mem _ (List.mem_append_left _ (List.mem_append_right _ h))) (by decide +kernel))) (goodIn_sub (fun _ h => List.mem_cons_of_mem _ (List.mem_append_right _ h)) (by decide +kernel))
set_option maxRecDepth 20000 in
theorem gL_put_X8_put : GoodIn wsL_put (wsV RL 36 RX8 yX8_put wsX8_put) := goodIn_app (goodIn_of _ (by decide +kernel)) ggL_put_X8_put
theorem dL_put_0 : decode cL_put 0 = .ok (.aload 4, 2) := by decide +kernel
theorem dL_put_2 : decode cL_put 2 = .ok (.iconst 0, 1) := by decide +kernel
theorem dL_put_3 : decode cL_put 3 = .ok (.aload_n 0, 1) := by decide +kernel
theorem dL_put_4 : decode cL_put 4 = .ok (.iload_n 1, 1) := by decide +kernel
theorem dL_put_5 : decode cL_put 5 = .ok (.iload_n 2, 1) := by decide +kernel
theorem dL_put_6 : decode cL_put 6 = .ok (.iload_n 3, 1) := by decide +kernel
theorem dL_put_7 : decode cL_put 7 = .ok (.invokevirtual 36, 3) := by decide +kernel
theorem dL_put_10 : decode cL_put 10 = .ok (.i2l, 1) := by decide +kernel
theorem dL_put_11 : decode cL_put 11 = .ok (.lastore, 1) := by decide +kernel
theorem dL_put_12 : decode cL_put 12 = .ok (.goto 11, 3) := by decide +kernel
theorem dL_put_15 : decode cL_put 15 = .ok (.astore 5, 2) := by decide +kernel
theorem dL_put_17 : decode cL_put 17 = .ok (.iconst 1, 1) := by decide +kernel
theorem dL_put_18 : decode cL_put 18 = .ok (.ireturn, 1) := by decide +kernel
theorem dL_put_19 : decode cL_put 19 = .ok (.astore 5, 2) := by decide +kernel
theorem dL_put_21 : decode cL_put 21 = .ok (.iconst 2, 1) := by decide +kernel
theorem dL_put_22 : decode cL_put 22 = .ok (.ireturn, 1) := by decide +kernel
theorem dL_put_23 : decode cL_put 23 = .ok (.iconst 0, 1) := by decide +kernel
theorem dL_put_24 : decode cL_put 24 = .ok (.ireturn, 1) := by decide +kernel
set_option maxRecDepth 20000 in
theorem ggL_to_X8_to : GoodIn wsL_to wsX8_to := goodIn_ca (goodIn_ca (goodIn_r _ [7, 8, 9, 10, 11, 12, 13, 14, 15, 16, 17, 18, 19, 20, 21, 22, 23, 24, 25, 26, 27, 28, 29, 30, 31, 32, 33, 34, 35, 36, 37, 38, 39, 40, 41, 42, 43, 44, 45, 46, 47, 48, 49, 50, 51, 52, 53, 54, 55, 56, 57, 58, 59, 60, 61, 62, 63, 64, 65, 66, 67, 68, 69, 70, 71] (by decide +kernel) (by decide +kernel)) (goodIn_sub (fun _ h => List.mem_cons_of_mem _ (List.mem_append_left _ (List.mem_append_right _ h))) (by decide +kernel))) (goodIn_sub (fun _ h => List.mem_cons_of_mem _ (List.mem_append_right _ h)) (by decide +kernel))
set_option maxRecDepth 20000 in
theorem gL_to_X8_to : GoodIn wsL_to (wsV RL 40 RX8 yX8_to wsX8_to) := goodIn_app (goodIn_of _ (by decide +kernel)) ggL_to_X8_to
theorem dL_to_0 : decode cL_to 0 = .ok (.aload_n 2, 1) := by decide +kernel
theorem dL_to_1 : decode cL_to 1 = .ok (.iconst 0, 1) := by decide +kernel
theorem dL_to_2 : decode cL_to 2 = .ok (.aload_n 0, 1) := by decide +kernel
theorem dL_to_3 : decode cL_to 3 = .ok (.iload_n 1, 1) := by decide +kernel
theorem dL_to_4 : decode cL_to 4 = .ok (.invokevirtual 40, 3) := by decide +kernel
theorem dL_to_7 : decode cL_to 7 = .ok (.i2l, 1) := by decide +kernel
theorem dL_to_8 : decode cL_to 8 = .ok (.lastore, 1) := by decide +kernel
theorem dL_to_9 : decode cL_to 9 = .ok (.goto 9, 3) := by decide +kernel
theorem dL_to_12 : decode cL_to 12 = .ok (.astore_n 3, 1) := by decide +kernel
theorem dL_to_13 : decode cL_to 13 = .ok (.iconst 1, 1) := by decide +kernel
theorem dL_to_14 : decode cL_to 14 = .ok (.ireturn, 1) := by decide +kernel
theorem dL_to_15 : decode cL_to 15 = .ok (.astore_n 3, 1) := by decide +kernel
theorem dL_to_16 : decode cL_to 16 = .ok (.iconst 2, 1) := by decide +kernel
theorem dL_to_17 : decode cL_to 17 = .ok (.ireturn, 1) := by decide +kernel
theorem dL_to_18 : decode cL_to 18 = .ok (.iconst 0, 1) := by decide +kernel
theorem dL_to_19 : decode cL_to 19 = .ok (.ireturn, 1) := by decide +kernel
set_option maxRecDepth 20000 in
theorem ggL_row_X8_row : GoodIn wsL_row wsX8_row := goodIn_ca (goodIn_ca (goodIn_r _ [7, 8, 9, 10, 11, 12, 13, 14, 15, 16, 17, 18, 19, 20, 21, 22, 23, 24, 25, 26, 27, 28, 29, 30, 31, 32, 33, 34, 35, 36, 37, 38, 39, 40, 41, 42, 43, 44, 45, 46, 47, 48, 49, 50, 51, 52] (by decide +kernel) (by decide +kernel)) (goodIn_sub (fun _ h => List.mem_cons_of_mem _ (List.mem_append_left _ (List.mem_append_right _ h))) (by decide +kernel))) (goodIn_sub (fun _ h => List.mem_cons_of_mem _ (List.mem_append_right _ h)) (by decide +kernel))
set_option maxRecDepth 20000 in
theorem gL_row_X8_row : GoodIn wsL_row (wsV RL 43 RX8 yX8_row wsX8_row) := goodIn_app (goodIn_of _ (by decide +kernel)) ggL_row_X8_row
theorem dL_row_0 : decode cL_row 0 = .ok (.aload 5, 2) := by decide +kernel
theorem dL_row_2 : decode cL_row 2 = .ok (.iconst 0, 1) := by decide +kernel
theorem dL_row_3 : decode cL_row 3 = .ok (.aload_n 0, 1) := by decide +kernel
theorem dL_row_4 : decode cL_row 4 = .ok (.iload_n 1, 1) := by decide +kernel
theorem dL_row_5 : decode cL_row 5 = .ok (.iload_n 2, 1) := by decide +kernel
theorem dL_row_6 : decode cL_row 6 = .ok (.iload_n 3, 1) := by decide +kernel
theorem dL_row_7 : decode cL_row 7 = .ok (.iload 4, 2) := by decide +kernel
theorem dL_row_9 : decode cL_row 9 = .ok (.invokevirtual 43, 3) := by decide +kernel
theorem dL_row_12 : decode cL_row 12 = .ok (.i2l, 1) := by decide +kernel
theorem dL_row_13 : decode cL_row 13 = .ok (.lastore, 1) := by decide +kernel
theorem dL_row_14 : decode cL_row 14 = .ok (.goto 11, 3) := by decide +kernel
theorem dL_row_17 : decode cL_row 17 = .ok (.astore 6, 2) := by decide +kernel
theorem dL_row_19 : decode cL_row 19 = .ok (.iconst 1, 1) := by decide +kernel
theorem dL_row_20 : decode cL_row 20 = .ok (.ireturn, 1) := by decide +kernel
theorem dL_row_21 : decode cL_row 21 = .ok (.astore 6, 2) := by decide +kernel
theorem dL_row_23 : decode cL_row 23 = .ok (.iconst 2, 1) := by decide +kernel
theorem dL_row_24 : decode cL_row 24 = .ok (.ireturn, 1) := by decide +kernel
theorem dL_row_25 : decode cL_row 25 = .ok (.iconst 0, 1) := by decide +kernel
theorem dL_row_26 : decode cL_row 26 = .ok (.ireturn, 1) := by decide +kernel
set_option maxRecDepth 20000 in
theorem ggL_frame_X8_frame : GoodIn wsL_frame wsX8_frame := goodIn_ca (goodIn_r _ [6, 7, 8, 9, 10, 11, 12, 13, 14, 15, 16, 17, 18, 19, 20, 21, 22, 23, 24, 25, 26, 27, 28, 29, 30, 31, 32, 33, 34, 35, 36, 37, 38, 39, 40, 41, 42, 43, 44, 45, 46, 47, 48, 49, 50] (by decide +kernel) (by decide +kernel)) (goodIn_sub (fun _ h => List.mem_cons_of_mem _ (List.mem_append_right _ h)) (by decide +kernel))
set_option maxRecDepth 20000 in
theorem gL_frame_X8_frame : GoodIn wsL_frame (wsV RL 47 RX8 yX8_frame wsX8_frame) := goodIn_app (goodIn_of _ (by decide +kernel)) ggL_frame_X8_frame
theorem dL_frame_0 : decode cL_frame 0 = .ok (.aload_n 3, 1) := by decide +kernel
theorem dL_frame_1 : decode cL_frame 1 = .ok (.iconst 0, 1) := by decide +kernel
theorem dL_frame_2 : decode cL_frame 2 = .ok (.aload_n 0, 1) := by decide +kernel
theorem dL_frame_3 : decode cL_frame 3 = .ok (.iload_n 1, 1) := by decide +kernel
theorem dL_frame_4 : decode cL_frame 4 = .ok (.iload_n 2, 1) := by decide +kernel
theorem dL_frame_5 : decode cL_frame 5 = .ok (.invokevirtual 47, 3) := by decide +kernel
theorem dL_frame_8 : decode cL_frame 8 = .ok (.i2l, 1) := by decide +kernel
theorem dL_frame_9 : decode cL_frame 9 = .ok (.lastore, 1) := by decide +kernel
theorem dL_frame_10 : decode cL_frame 10 = .ok (.goto 7, 3) := by decide +kernel
theorem dL_frame_13 : decode cL_frame 13 = .ok (.astore 4, 2) := by decide +kernel
theorem dL_frame_15 : decode cL_frame 15 = .ok (.iconst 1, 1) := by decide +kernel
theorem dL_frame_16 : decode cL_frame 16 = .ok (.ireturn, 1) := by decide +kernel
theorem dL_frame_17 : decode cL_frame 17 = .ok (.iconst 0, 1) := by decide +kernel
theorem dL_frame_18 : decode cL_frame 18 = .ok (.ireturn, 1) := by decide +kernel
set_option maxRecDepth 20000 in
theorem ggL_stands_X8_stands : GoodIn wsL_stands wsX8_stands := goodIn_ca (goodIn_r _ [6, 7, 8, 9, 10, 11, 12, 13, 14, 15, 16, 17, 18, 19, 20, 21, 22, 23, 24, 25, 26, 27, 28, 29, 30, 31, 32, 33, 34, 35, 36, 37, 38, 39, 40, 41, 42, 43] (by decide +kernel) (by decide +kernel)) (goodIn_sub (fun _ h => List.mem_cons_of_mem _ (List.mem_append_right _ h)) (by decide +kernel))
set_option maxRecDepth 20000 in
theorem gL_stands_X8_stands : GoodIn wsL_stands (wsV RL 50 RX8 yX8_stands wsX8_stands) := goodIn_app (goodIn_of _ (by decide +kernel)) ggL_stands_X8_stands
theorem dL_stands_0 : decode cL_stands 0 = .ok (.aload_n 3, 1) := by decide +kernel
theorem dL_stands_1 : decode cL_stands 1 = .ok (.iconst 0, 1) := by decide +kernel
theorem dL_stands_2 : decode cL_stands 2 = .ok (.aload_n 0, 1) := by decide +kernel
theorem dL_stands_3 : decode cL_stands 3 = .ok (.iload_n 1, 1) := by decide +kernel
theorem dL_stands_4 : decode cL_stands 4 = .ok (.iload_n 2, 1) := by decide +kernel
theorem dL_stands_5 : decode cL_stands 5 = .ok (.invokevirtual 50, 3) := by decide +kernel
theorem dL_stands_8 : decode cL_stands 8 = .ok (.ifCond .eq 7, 3) := by decide +kernel
theorem dL_stands_11 : decode cL_stands 11 = .ok (.lconst 1, 1) := by decide +kernel
theorem dL_stands_12 : decode cL_stands 12 = .ok (.goto 4, 3) := by decide +kernel
theorem dL_stands_15 : decode cL_stands 15 = .ok (.lconst 0, 1) := by decide +kernel
theorem dL_stands_16 : decode cL_stands 16 = .ok (.lastore, 1) := by decide +kernel
theorem dL_stands_17 : decode cL_stands 17 = .ok (.goto 7, 3) := by decide +kernel
theorem dL_stands_20 : decode cL_stands 20 = .ok (.astore 4, 2) := by decide +kernel
theorem dL_stands_22 : decode cL_stands 22 = .ok (.iconst 1, 1) := by decide +kernel
theorem dL_stands_23 : decode cL_stands 23 = .ok (.ireturn, 1) := by decide +kernel
theorem dL_stands_24 : decode cL_stands 24 = .ok (.iconst 0, 1) := by decide +kernel
theorem dL_stands_25 : decode cL_stands 25 = .ok (.ireturn, 1) := by decide +kernel
set_option maxRecDepth 20000 in
theorem ggL_common_X8_common : GoodIn wsL_common wsX8_common := goodIn_ca (goodIn_r _ [6, 7, 8, 9, 10, 11, 12, 13, 14, 15, 16, 17, 18, 19, 20, 21, 22, 23, 24, 25, 26, 27, 28, 29, 30, 31, 32, 33, 34, 35, 36, 37, 38, 39, 40, 41, 42] (by decide +kernel) (by decide +kernel)) (goodIn_sub (fun _ h => List.mem_cons_of_mem _ (List.mem_append_right _ h)) (by decide +kernel))
set_option maxRecDepth 20000 in
theorem gL_common_X8_common : GoodIn wsL_common (wsV RL 54 RX8 yX8_common wsX8_common) := goodIn_app (goodIn_of _ (by decide +kernel)) ggL_common_X8_common
theorem dL_common_0 : decode cL_common 0 = .ok (.aload_n 3, 1) := by decide +kernel
theorem dL_common_1 : decode cL_common 1 = .ok (.iconst 0, 1) := by decide +kernel
theorem dL_common_2 : decode cL_common 2 = .ok (.aload_n 0, 1) := by decide +kernel
theorem dL_common_3 : decode cL_common 3 = .ok (.iload_n 1, 1) := by decide +kernel
theorem dL_common_4 : decode cL_common 4 = .ok (.iload_n 2, 1) := by decide +kernel
theorem dL_common_5 : decode cL_common 5 = .ok (.invokevirtual 54, 3) := by decide +kernel
theorem dL_common_8 : decode cL_common 8 = .ok (.i2l, 1) := by decide +kernel
theorem dL_common_9 : decode cL_common 9 = .ok (.lastore, 1) := by decide +kernel
theorem dL_common_10 : decode cL_common 10 = .ok (.goto 7, 3) := by decide +kernel
theorem dL_common_13 : decode cL_common 13 = .ok (.astore 4, 2) := by decide +kernel
theorem dL_common_15 : decode cL_common 15 = .ok (.iconst 1, 1) := by decide +kernel
theorem dL_common_16 : decode cL_common 16 = .ok (.ireturn, 1) := by decide +kernel
theorem dL_common_17 : decode cL_common 17 = .ok (.iconst 0, 1) := by decide +kernel
theorem dL_common_18 : decode cL_common 18 = .ok (.ireturn, 1) := by decide +kernel
abbrev vwCl : List vw_C := [(RX0, TX0, 17), (RX1, TX1, 6), (RX2, TX2, 6), (RX3, TX3, 17), (RX4, TX4, 9), (RX5, TX5, 10), (RX6, TX6, 4), (RX7, TX7, 3), (RX8, TX8, 6), (RX9, TX9, 62)]
