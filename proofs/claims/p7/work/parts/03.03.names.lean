theorem dX5_pull_21 : decode cX5_pull 21 = .ok (.iaload, 1) := by decide +kernel
theorem dX5_pull_22 : decode cX5_pull 22 = .ok (.bipush 7, 2) := by decide +kernel
theorem dX5_pull_24 : decode cX5_pull 24 = .ok (.if_icmp .ne 10, 3) := by decide +kernel
theorem dX5_pull_27 : decode cX5_pull 27 = .ok (.aload_n 0, 1) := by decide +kernel
theorem dX5_pull_28 : decode cX5_pull 28 = .ok (.iconst 1, 1) := by decide +kernel
theorem dX5_pull_29 : decode cX5_pull 29 = .ok (.putfield 38, 3) := by decide +kernel
theorem dX5_pull_32 : decode cX5_pull 32 = .ok (.iconst 0, 1) := by decide +kernel
theorem dX5_pull_33 : decode cX5_pull 33 = .ok (.ireturn, 1) := by decide +kernel
theorem dX5_pull_34 : decode cX5_pull 34 = .ok (.aload_n 0, 1) := by decide +kernel
theorem dX5_pull_35 : decode cX5_pull 35 = .ok (.dup, 1) := by decide +kernel
theorem dX5_pull_36 : decode cX5_pull 36 = .ok (.getfield 32, 3) := by decide +kernel
theorem dX5_pull_39 : decode cX5_pull 39 = .ok (.iconst 1, 1) := by decide +kernel
theorem dX5_pull_40 : decode cX5_pull 40 = .ok (.isub, 1) := by decide +kernel
theorem dX5_pull_41 : decode cX5_pull 41 = .ok (.putfield 32, 3) := by decide +kernel
theorem dX5_pull_44 : decode cX5_pull 44 = .ok (.aload_n 0, 1) := by decide +kernel
theorem dX5_pull_45 : decode cX5_pull 45 = .ok (.getfield 9, 3) := by decide +kernel
theorem dX5_pull_48 : decode cX5_pull 48 = .ok (.aload_n 0, 1) := by decide +kernel
theorem dX5_pull_49 : decode cX5_pull 49 = .ok (.getfield 32, 3) := by decide +kernel
theorem dX5_pull_52 : decode cX5_pull 52 = .ok (.iaload, 1) := by decide +kernel
theorem dX5_pull_53 : decode cX5_pull 53 = .ok (.ireturn, 1) := by decide +kernel
set_option maxRecDepth 20000 in
theorem ggX5_pullKind_X5_isWide : GoodIn wsX5_pullKind wsX5_isWide := goodIn_r _ [8] rfl (by decide +kernel)
set_option maxRecDepth 20000 in
theorem gX5_pullKind_X5_isWide : GoodIn wsX5_pullKind (va_wsS RX5 95 yX5_isWide wsX5_isWide) := goodIn_app (goodIn_of _ (by decide +kernel)) ggX5_pullKind_X5_isWide
theorem dX5_pullKind_0 : decode cX5_pullKind 0 = .ok (.iload_n 1, 1) := by decide +kernel
theorem dX5_pullKind_1 : decode cX5_pullKind 1 = .ok (.invokestatic 95, 3) := by decide +kernel
theorem dX5_pullKind_4 : decode cX5_pullKind 4 = .ok (.ifCond .eq 7, 3) := by decide +kernel
theorem dX5_pullKind_7 : decode cX5_pullKind 7 = .ok (.iconst 2, 1) := by decide +kernel
theorem dX5_pullKind_8 : decode cX5_pullKind 8 = .ok (.goto 4, 3) := by decide +kernel
theorem dX5_pullKind_11 : decode cX5_pullKind 11 = .ok (.iconst 1, 1) := by decide +kernel
theorem dX5_pullKind_12 : decode cX5_pullKind 12 = .ok (.istore_n 2, 1) := by decide +kernel
theorem dX5_pullKind_13 : decode cX5_pullKind 13 = .ok (.aload_n 0, 1) := by decide +kernel
theorem dX5_pullKind_14 : decode cX5_pullKind 14 = .ok (.getfield 32, 3) := by decide +kernel
theorem dX5_pullKind_17 : decode cX5_pullKind 17 = .ok (.iload_n 2, 1) := by decide +kernel
theorem dX5_pullKind_18 : decode cX5_pullKind 18 = .ok (.isub, 1) := by decide +kernel
theorem dX5_pullKind_19 : decode cX5_pullKind 19 = .ok (.aload_n 0, 1) := by decide +kernel
theorem dX5_pullKind_20 : decode cX5_pullKind 20 = .ok (.getfield 25, 3) := by decide +kernel
theorem dX5_pullKind_23 : decode cX5_pullKind 23 = .ok (.if_icmp .lt 18, 3) := by decide +kernel
theorem dX5_pullKind_26 : decode cX5_pullKind 26 = .ok (.aload_n 0, 1) := by decide +kernel
theorem dX5_pullKind_27 : decode cX5_pullKind 27 = .ok (.getfield 9, 3) := by decide +kernel
theorem dX5_pullKind_30 : decode cX5_pullKind 30 = .ok (.aload_n 0, 1) := by decide +kernel
theorem dX5_pullKind_31 : decode cX5_pullKind 31 = .ok (.getfield 32, 3) := by decide +kernel
theorem dX5_pullKind_34 : decode cX5_pullKind 34 = .ok (.iload_n 2, 1) := by decide +kernel
theorem dX5_pullKind_35 : decode cX5_pullKind 35 = .ok (.isub, 1) := by decide +kernel
theorem dX5_pullKind_36 : decode cX5_pullKind 36 = .ok (.iaload, 1) := by decide +kernel
theorem dX5_pullKind_37 : decode cX5_pullKind 37 = .ok (.iload_n 1, 1) := by decide +kernel
theorem dX5_pullKind_38 : decode cX5_pullKind 38 = .ok (.if_icmp .eq 9, 3) := by decide +kernel
theorem dX5_pullKind_41 : decode cX5_pullKind 41 = .ok (.aload_n 0, 1) := by decide +kernel
theorem dX5_pullKind_42 : decode cX5_pullKind 42 = .ok (.iconst 1, 1) := by decide +kernel
theorem dX5_pullKind_43 : decode cX5_pullKind 43 = .ok (.putfield 38, 3) := by decide +kernel
theorem dX5_pullKind_46 : decode cX5_pullKind 46 = .ok (.return_, 1) := by decide +kernel
theorem dX5_pullKind_47 : decode cX5_pullKind 47 = .ok (.aload_n 0, 1) := by decide +kernel
theorem dX5_pullKind_48 : decode cX5_pullKind 48 = .ok (.dup, 1) := by decide +kernel
theorem dX5_pullKind_49 : decode cX5_pullKind 49 = .ok (.getfield 32, 3) := by decide +kernel
theorem dX5_pullKind_52 : decode cX5_pullKind 52 = .ok (.iload_n 2, 1) := by decide +kernel
theorem dX5_pullKind_53 : decode cX5_pullKind 53 = .ok (.isub, 1) := by decide +kernel
theorem dX5_pullKind_54 : decode cX5_pullKind 54 = .ok (.putfield 32, 3) := by decide +kernel
theorem dX5_pullKind_57 : decode cX5_pullKind 57 = .ok (.return_, 1) := by decide +kernel
set_option maxRecDepth 20000 in
theorem ggX5_pullType_X7_isPrimitive : GoodIn wsX5_pullType wsX7_isPrimitive := goodIn_r _ [9, 10, 11] rfl (by decide +kernel)
set_option maxRecDepth 20000 in
theorem gX5_pullType_X7_isPrimitive : GoodIn wsX5_pullType (va_wsS RX5 103 yX7_isPrimitive wsX7_isPrimitive) := goodIn_app (goodIn_of _ (by decide +kernel)) ggX5_pullType_X7_isPrimitive
set_option maxRecDepth 20000 in
theorem ggX5_pullType_X7_placeOf : GoodIn wsX5_pullType wsX7_placeOf := goodIn_r _ [14, 15, 7, 8, 9, 10, 11] rfl (by decide +kernel)
set_option maxRecDepth 20000 in
theorem gX5_pullType_X7_placeOf : GoodIn wsX5_pullType (va_wsS RX5 54 yX7_placeOf wsX7_placeOf) := goodIn_app (goodIn_of _ (by decide +kernel)) ggX5_pullType_X7_placeOf
set_option maxRecDepth 20000 in
theorem ggX5_pullType_X5_pullKind : GoodIn wsX5_pullType wsX5_pullKind := goodIn_r _ [20, 21, 22, 23, 1, 24, 25, 19, 26, 50, 51, 52, 53, 54, 55, 56, 57, 58, 59] rfl (by decide +kernel)
set_option maxRecDepth 20000 in
theorem gX5_pullType_X5_pullKind : GoodIn wsX5_pullType (wsV RX5 106 RX5 yX5_pullKind wsX5_pullKind) := goodIn_app (goodIn_of _ (by decide +kernel)) ggX5_pullType_X5_pullKind
set_option maxRecDepth 20000 in
theorem ggX5_pullType_X5_pull : GoodIn wsX5_pullType wsX5_pull := goodIn_r _ [30, 21, 22, 23, 1, 50, 51, 52, 53, 54, 55, 56, 57, 58, 59] rfl (by decide +kernel)
set_option maxRecDepth 20000 in
theorem gX5_pullType_X5_pull : GoodIn wsX5_pullType (wsV RX5 109 RX5 yX5_pull wsX5_pull) := goodIn_app (goodIn_of _ (by decide +kernel)) ggX5_pullType_X5_pull
set_option maxRecDepth 20000 in
theorem ggX5_pullType_X7_mayStand : GoodIn wsX5_pullType wsX7_mayStand := goodIn_r _ [34, 35, 15, 7, 8, 9, 10, 11, 36, 37, 38, 39, 40, 41, 42, 43, 44, 45, 60, 61, 62] rfl (by decide +kernel)
set_option maxRecDepth 20000 in
theorem gX5_pullType_X7_mayStand : GoodIn wsX5_pullType (wsV RX5 113 RX7 yX7_mayStand wsX7_mayStand) := goodIn_app (goodIn_of _ (by decide +kernel)) ggX5_pullType_X7_mayStand
set_option maxRecDepth 20000 in
theorem ggX5_pullType_X7_isOfInterface : GoodIn wsX5_pullType wsX7_isOfInterface := goodIn_r _ [49, 35, 43, 44, 60, 61, 62] rfl (by decide +kernel)
set_option maxRecDepth 20000 in
theorem gX5_pullType_X7_isOfInterface : GoodIn wsX5_pullType (wsV RX5 117 RX7 yX7_isOfInterface wsX7_isOfInterface) := goodIn_app (goodIn_of _ (by decide +kernel)) ggX5_pullType_X7_isOfInterface
theorem dX5_pullType_0 : decode cX5_pullType 0 = .ok (.iload_n 1, 1) := by decide +kernel
theorem dX5_pullType_1 : decode cX5_pullType 1 = .ok (.invokestatic 103, 3) := by decide +kernel
theorem dX5_pullType_4 : decode cX5_pullType 4 = .ok (.ifCond .eq 12, 3) := by decide +kernel
theorem dX5_pullType_7 : decode cX5_pullType 7 = .ok (.aload_n 0, 1) := by decide +kernel
theorem dX5_pullType_8 : decode cX5_pullType 8 = .ok (.iload_n 1, 1) := by decide +kernel
theorem dX5_pullType_9 : decode cX5_pullType 9 = .ok (.invokestatic 54, 3) := by decide +kernel
theorem dX5_pullType_12 : decode cX5_pullType 12 = .ok (.invokevirtual 106, 3) := by decide +kernel
theorem dX5_pullType_15 : decode cX5_pullType 15 = .ok (.return_, 1) := by decide +kernel
theorem dX5_pullType_16 : decode cX5_pullType 16 = .ok (.aload_n 0, 1) := by decide +kernel
theorem dX5_pullType_17 : decode cX5_pullType 17 = .ok (.invokevirtual 109, 3) := by decide +kernel
theorem dX5_pullType_20 : decode cX5_pullType 20 = .ok (.istore_n 2, 1) := by decide +kernel
theorem dX5_pullType_21 : decode cX5_pullType 21 = .ok (.iload_n 2, 1) := by decide +kernel
theorem dX5_pullType_22 : decode cX5_pullType 22 = .ok (.iconst 5, 1) := by decide +kernel
theorem dX5_pullType_23 : decode cX5_pullType 23 = .ok (.if_icmp .ne 4, 3) := by decide +kernel
theorem dX5_pullType_26 : decode cX5_pullType 26 = .ok (.return_, 1) := by decide +kernel
theorem dX5_pullType_27 : decode cX5_pullType 27 = .ok (.iload_n 2, 1) := by decide +kernel
theorem dX5_pullType_28 : decode cX5_pullType 28 = .ok (.iconst 4, 1) := by decide +kernel
theorem dX5_pullType_29 : decode cX5_pullType 29 = .ok (.ishr, 1) := by decide +kernel
theorem dX5_pullType_30 : decode cX5_pullType 30 = .ok (.istore_n 3, 1) := by decide +kernel
theorem dX5_pullType_31 : decode cX5_pullType 31 = .ok (.iload_n 2, 1) := by decide +kernel
theorem dX5_pullType_32 : decode cX5_pullType 32 = .ok (.bipush 15, 2) := by decide +kernel
theorem dX5_pullType_34 : decode cX5_pullType 34 = .ok (.iand, 1) := by decide +kernel
theorem dX5_pullType_35 : decode cX5_pullType 35 = .ok (.bipush 8, 2) := by decide +kernel
theorem dX5_pullType_37 : decode cX5_pullType 37 = .ok (.if_icmp .eq 11, 3) := by decide +kernel
theorem dX5_pullType_40 : decode cX5_pullType 40 = .ok (.aload_n 0, 1) := by decide +kernel
theorem dX5_pullType_41 : decode cX5_pullType 41 = .ok (.iconst 1, 1) := by decide +kernel
theorem dX5_pullType_42 : decode cX5_pullType 42 = .ok (.putfield 38, 3) := by decide +kernel
theorem dX5_pullType_45 : decode cX5_pullType 45 = .ok (.goto 99, 3) := by decide +kernel
theorem dX5_pullType_48 : decode cX5_pullType 48 = .ok (.aload_n 0, 1) := by decide +kernel
theorem dX5_pullType_49 : decode cX5_pullType 49 = .ok (.getfield 15, 3) := by decide +kernel
theorem dX5_pullType_52 : decode cX5_pullType 52 = .ok (.iload_n 3, 1) := by decide +kernel
theorem dX5_pullType_53 : decode cX5_pullType 53 = .ok (.iload_n 1, 1) := by decide +kernel
theorem dX5_pullType_54 : decode cX5_pullType 54 = .ok (.invokevirtual 113, 3) := by decide +kernel
theorem dX5_pullType_57 : decode cX5_pullType 57 = .ok (.ifCond .ne 87, 3) := by decide +kernel
theorem dX5_pullType_60 : decode cX5_pullType 60 = .ok (.aload_n 0, 1) := by decide +kernel
theorem dX5_pullType_61 : decode cX5_pullType 61 = .ok (.getfield 45, 3) := by decide +kernel
theorem dX5_pullType_64 : decode cX5_pullType 64 = .ok (.ifCond .ne 35, 3) := by decide +kernel
theorem dX5_pullType_67 : decode cX5_pullType 67 = .ok (.aload_n 0, 1) := by decide +kernel
theorem dX5_pullType_68 : decode cX5_pullType 68 = .ok (.getfield 15, 3) := by decide +kernel
theorem dX5_pullType_71 : decode cX5_pullType 71 = .ok (.iload_n 1, 1) := by decide +kernel
theorem dX5_pullType_72 : decode cX5_pullType 72 = .ok (.invokevirtual 117, 3) := by decide +kernel
theorem dX5_pullType_75 : decode cX5_pullType 75 = .ok (.ifCond .eq 24, 3) := by decide +kernel
theorem dX5_pullType_78 : decode cX5_pullType 78 = .ok (.aload_n 0, 1) := by decide +kernel
theorem dX5_pullType_79 : decode cX5_pullType 79 = .ok (.getfield 15, 3) := by decide +kernel
theorem dX5_pullType_82 : decode cX5_pullType 82 = .ok (.iload_n 3, 1) := by decide +kernel
theorem dX5_pullType_83 : decode cX5_pullType 83 = .ok (.iload_n 1, 1) := by decide +kernel
theorem dX5_pullType_84 : decode cX5_pullType 84 = .ok (.iload_n 1, 1) := by decide +kernel
theorem dX5_pullType_85 : decode cX5_pullType 85 = .ok (.ldc 120, 2) := by decide +kernel
theorem dX5_pullType_87 : decode cX5_pullType 87 = .ok (.iand, 1) := by decide +kernel
theorem dX5_pullType_88 : decode cX5_pullType 88 = .ok (.isub, 1) := by decide +kernel
theorem dX5_pullType_89 : decode cX5_pullType 89 = .ok (.invokevirtual 113, 3) := by decide +kernel
theorem dX5_pullType_92 : decode cX5_pullType 92 = .ok (.ifCond .eq 7, 3) := by decide +kernel
theorem dX5_pullType_95 : decode cX5_pullType 95 = .ok (.iconst 1, 1) := by decide +kernel
theorem dX5_pullType_96 : decode cX5_pullType 96 = .ok (.goto 4, 3) := by decide +kernel
theorem dX5_pullType_99 : decode cX5_pullType 99 = .ok (.iconst 0, 1) := by decide +kernel
theorem dX5_pullType_100 : decode cX5_pullType 100 = .ok (.istore 4, 2) := by decide +kernel
theorem dX5_pullType_102 : decode cX5_pullType 102 = .ok (.aload_n 0, 1) := by decide +kernel
theorem dX5_pullType_103 : decode cX5_pullType 103 = .ok (.aload_n 0, 1) := by decide +kernel
theorem dX5_pullType_104 : decode cX5_pullType 104 = .ok (.getfield 42, 3) := by decide +kernel
theorem dX5_pullType_107 : decode cX5_pullType 107 = .ok (.ifCond .ne 8, 3) := by decide +kernel
theorem dX5_pullType_110 : decode cX5_pullType 110 = .ok (.iload 4, 2) := by decide +kernel
theorem dX5_pullType_112 : decode cX5_pullType 112 = .ok (.ifCond .eq 7, 3) := by decide +kernel
theorem dX5_pullType_115 : decode cX5_pullType 115 = .ok (.iconst 1, 1) := by decide +kernel
theorem dX5_pullType_116 : decode cX5_pullType 116 = .ok (.goto 4, 3) := by decide +kernel
theorem dX5_pullType_119 : decode cX5_pullType 119 = .ok (.iconst 0, 1) := by decide +kernel
theorem dX5_pullType_120 : decode cX5_pullType 120 = .ok (.putfield 42, 3) := by decide +kernel
theorem dX5_pullType_123 : decode cX5_pullType 123 = .ok (.aload_n 0, 1) := by decide +kernel
theorem dX5_pullType_124 : decode cX5_pullType 124 = .ok (.aload_n 0, 1) := by decide +kernel
theorem dX5_pullType_125 : decode cX5_pullType 125 = .ok (.getfield 38, 3) := by decide +kernel
theorem dX5_pullType_128 : decode cX5_pullType 128 = .ok (.ifCond .ne 8, 3) := by decide +kernel
theorem dX5_pullType_131 : decode cX5_pullType 131 = .ok (.iload 4, 2) := by decide +kernel
theorem dX5_pullType_133 : decode cX5_pullType 133 = .ok (.ifCond .ne 7, 3) := by decide +kernel
theorem dX5_pullType_136 : decode cX5_pullType 136 = .ok (.iconst 1, 1) := by decide +kernel
theorem dX5_pullType_137 : decode cX5_pullType 137 = .ok (.goto 4, 3) := by decide +kernel
theorem dX5_pullType_140 : decode cX5_pullType 140 = .ok (.iconst 0, 1) := by decide +kernel
theorem dX5_pullType_141 : decode cX5_pullType 141 = .ok (.putfield 38, 3) := by decide +kernel
theorem dX5_pullType_144 : decode cX5_pullType 144 = .ok (.return_, 1) := by decide +kernel
set_option maxRecDepth 20000 in
theorem ggX5_pullReference_X5_pull : GoodIn wsX5_pullReference wsX5_pull := goodIn_r _ [6, 7, 8, 9, 1, 13, 14, 15, 16, 17, 18, 19, 20, 21, 22] rfl (by decide +kernel)
set_option maxRecDepth 20000 in
theorem gX5_pullReference_X5_pull : GoodIn wsX5_pullReference (wsV RX5 109 RX5 yX5_pull wsX5_pull) := goodIn_app (goodIn_of _ (by decide +kernel)) ggX5_pullReference_X5_pull
set_option maxRecDepth 20000 in
theorem ggX5_pullReference_X5_isAnyReference : GoodIn wsX5_pullReference wsX5_isAnyReference := goodIn_r _ [12] rfl (by decide +kernel)
set_option maxRecDepth 20000 in
theorem gX5_pullReference_X5_isAnyReference : GoodIn wsX5_pullReference (va_wsS RX5 121 yX5_isAnyReference wsX5_isAnyReference) := goodIn_app (goodIn_of _ (by decide +kernel)) ggX5_pullReference_X5_isAnyReference
theorem dX5_pullReference_0 : decode cX5_pullReference 0 = .ok (.aload_n 0, 1) := by decide +kernel
theorem dX5_pullReference_1 : decode cX5_pullReference 1 = .ok (.invokevirtual 109, 3) := by decide +kernel
theorem dX5_pullReference_4 : decode cX5_pullReference 4 = .ok (.istore_n 1, 1) := by decide +kernel
theorem dX5_pullReference_5 : decode cX5_pullReference 5 = .ok (.iload_n 1, 1) := by decide +kernel
theorem dX5_pullReference_6 : decode cX5_pullReference 6 = .ok (.invokestatic 121, 3) := by decide +kernel
theorem dX5_pullReference_9 : decode cX5_pullReference 9 = .ok (.ifCond .ne 8, 3) := by decide +kernel
theorem dX5_pullReference_12 : decode cX5_pullReference 12 = .ok (.aload_n 0, 1) := by decide +kernel
theorem dX5_pullReference_13 : decode cX5_pullReference 13 = .ok (.iconst 1, 1) := by decide +kernel
theorem dX5_pullReference_14 : decode cX5_pullReference 14 = .ok (.putfield 38, 3) := by decide +kernel
theorem dX5_pullReference_17 : decode cX5_pullReference 17 = .ok (.iload_n 1, 1) := by decide +kernel
theorem dX5_pullReference_18 : decode cX5_pullReference 18 = .ok (.ireturn, 1) := by decide +kernel
set_option maxRecDepth 20000 in
theorem ggX5_pullArray_X5_pull : GoodIn wsX5_pullArray wsX5_pull := goodIn_r _ [7, 8, 9, 10, 2, 11, 12, 13, 14, 15, 16, 17, 18, 19, 20] rfl (by decide +kernel)
set_option maxRecDepth 20000 in
theorem gX5_pullArray_X5_pull : GoodIn wsX5_pullArray (wsV RX5 109 RX5 yX5_pull wsX5_pull) := goodIn_app (goodIn_of _ (by decide +kernel)) ggX5_pullArray_X5_pull
theorem dX5_pullArray_0 : decode cX5_pullArray 0 = .ok (.aload_n 0, 1) := by decide +kernel
theorem dX5_pullArray_1 : decode cX5_pullArray 1 = .ok (.invokevirtual 109, 3) := by decide +kernel
theorem dX5_pullArray_4 : decode cX5_pullArray 4 = .ok (.istore_n 1, 1) := by decide +kernel
theorem dX5_pullArray_5 : decode cX5_pullArray 5 = .ok (.iload_n 1, 1) := by decide +kernel
theorem dX5_pullArray_6 : decode cX5_pullArray 6 = .ok (.bipush 15, 2) := by decide +kernel
theorem dX5_pullArray_8 : decode cX5_pullArray 8 = .ok (.iand, 1) := by decide +kernel
theorem dX5_pullArray_9 : decode cX5_pullArray 9 = .ok (.bipush 8, 2) := by decide +kernel
theorem dX5_pullArray_11 : decode cX5_pullArray 11 = .ok (.if_icmp .ne 15, 3) := by decide +kernel
theorem dX5_pullArray_14 : decode cX5_pullArray 14 = .ok (.iload_n 1, 1) := by decide +kernel
theorem dX5_pullArray_15 : decode cX5_pullArray 15 = .ok (.iconst 4, 1) := by decide +kernel
theorem dX5_pullArray_16 : decode cX5_pullArray 16 = .ok (.ishr, 1) := by decide +kernel
theorem dX5_pullArray_17 : decode cX5_pullArray 17 = .ok (.ldc 124, 2) := by decide +kernel
theorem dX5_pullArray_19 : decode cX5_pullArray 19 = .ok (.if_icmp .lt 7, 3) := by decide +kernel
theorem dX5_pullArray_22 : decode cX5_pullArray 22 = .ok (.iconst 1, 1) := by decide +kernel
theorem dX5_pullArray_23 : decode cX5_pullArray 23 = .ok (.goto 4, 3) := by decide +kernel
theorem dX5_pullArray_26 : decode cX5_pullArray 26 = .ok (.iconst 0, 1) := by decide +kernel
theorem dX5_pullArray_27 : decode cX5_pullArray 27 = .ok (.istore_n 2, 1) := by decide +kernel
theorem dX5_pullArray_28 : decode cX5_pullArray 28 = .ok (.aload_n 0, 1) := by decide +kernel
theorem dX5_pullArray_29 : decode cX5_pullArray 29 = .ok (.aload_n 0, 1) := by decide +kernel
theorem dX5_pullArray_30 : decode cX5_pullArray 30 = .ok (.getfield 38, 3) := by decide +kernel
theorem dX5_pullArray_33 : decode cX5_pullArray 33 = .ok (.ifCond .ne 12, 3) := by decide +kernel
theorem dX5_pullArray_36 : decode cX5_pullArray 36 = .ok (.iload_n 2, 1) := by decide +kernel
theorem dX5_pullArray_37 : decode cX5_pullArray 37 = .ok (.ifCond .ne 12, 3) := by decide +kernel
theorem dX5_pullArray_40 : decode cX5_pullArray 40 = .ok (.iload_n 1, 1) := by decide +kernel
theorem dX5_pullArray_41 : decode cX5_pullArray 41 = .ok (.iconst 5, 1) := by decide +kernel
theorem dX5_pullArray_42 : decode cX5_pullArray 42 = .ok (.if_icmp .eq 7, 3) := by decide +kernel
theorem dX5_pullArray_45 : decode cX5_pullArray 45 = .ok (.iconst 1, 1) := by decide +kernel
theorem dX5_pullArray_46 : decode cX5_pullArray 46 = .ok (.goto 4, 3) := by decide +kernel
theorem dX5_pullArray_49 : decode cX5_pullArray 49 = .ok (.iconst 0, 1) := by decide +kernel
theorem dX5_pullArray_50 : decode cX5_pullArray 50 = .ok (.putfield 38, 3) := by decide +kernel
theorem dX5_pullArray_53 : decode cX5_pullArray 53 = .ok (.iload_n 2, 1) := by decide +kernel
theorem dX5_pullArray_54 : decode cX5_pullArray 54 = .ok (.ifCond .eq 9, 3) := by decide +kernel
theorem dX5_pullArray_57 : decode cX5_pullArray 57 = .ok (.iload_n 1, 1) := by decide +kernel
theorem dX5_pullArray_58 : decode cX5_pullArray 58 = .ok (.iconst 4, 1) := by decide +kernel
theorem dX5_pullArray_59 : decode cX5_pullArray 59 = .ok (.ishr, 1) := by decide +kernel
theorem dX5_pullArray_60 : decode cX5_pullArray 60 = .ok (.goto 4, 3) := by decide +kernel
theorem dX5_pullArray_63 : decode cX5_pullArray 63 = .ok (.iconst (-1), 1) := by decide +kernel
theorem dX5_pullArray_64 : decode cX5_pullArray 64 = .ok (.ireturn, 1) := by decide +kernel
theorem dX5_drop_0 : decode cX5_drop 0 = .ok (.aload_n 0, 1) := by decide +kernel
theorem dX5_drop_1 : decode cX5_drop 1 = .ok (.getfield 32, 3) := by decide +kernel
theorem dX5_drop_4 : decode cX5_drop 4 = .ok (.iload_n 1, 1) := by decide +kernel
theorem dX5_drop_5 : decode cX5_drop 5 = .ok (.isub, 1) := by decide +kernel
theorem dX5_drop_6 : decode cX5_drop 6 = .ok (.aload_n 0, 1) := by decide +kernel
theorem dX5_drop_7 : decode cX5_drop 7 = .ok (.getfield 25, 3) := by decide +kernel
theorem dX5_drop_10 : decode cX5_drop 10 = .ok (.if_icmp .lt 19, 3) := by decide +kernel
theorem dX5_drop_13 : decode cX5_drop 13 = .ok (.aload_n 0, 1) := by decide +kernel
theorem dX5_drop_14 : decode cX5_drop 14 = .ok (.getfield 9, 3) := by decide +kernel
theorem dX5_drop_17 : decode cX5_drop 17 = .ok (.aload_n 0, 1) := by decide +kernel
theorem dX5_drop_18 : decode cX5_drop 18 = .ok (.getfield 32, 3) := by decide +kernel
theorem dX5_drop_21 : decode cX5_drop 21 = .ok (.iload_n 1, 1) := by decide +kernel
theorem dX5_drop_22 : decode cX5_drop 22 = .ok (.isub, 1) := by decide +kernel
theorem dX5_drop_23 : decode cX5_drop 23 = .ok (.iaload, 1) := by decide +kernel
theorem dX5_drop_24 : decode cX5_drop 24 = .ok (.bipush 7, 2) := by decide +kernel
theorem dX5_drop_26 : decode cX5_drop 26 = .ok (.if_icmp .ne 9, 3) := by decide +kernel
theorem dX5_drop_29 : decode cX5_drop 29 = .ok (.aload_n 0, 1) := by decide +kernel
theorem dX5_drop_30 : decode cX5_drop 30 = .ok (.iconst 1, 1) := by decide +kernel
theorem dX5_drop_31 : decode cX5_drop 31 = .ok (.putfield 38, 3) := by decide +kernel
theorem dX5_drop_34 : decode cX5_drop 34 = .ok (.return_, 1) := by decide +kernel
theorem dX5_drop_35 : decode cX5_drop 35 = .ok (.aload_n 0, 1) := by decide +kernel
theorem dX5_drop_36 : decode cX5_drop 36 = .ok (.dup, 1) := by decide +kernel
theorem dX5_drop_37 : decode cX5_drop 37 = .ok (.getfield 32, 3) := by decide +kernel
theorem dX5_drop_40 : decode cX5_drop 40 = .ok (.iload_n 1, 1) := by decide +kernel
theorem dX5_drop_41 : decode cX5_drop 41 = .ok (.isub, 1) := by decide +kernel
theorem dX5_drop_42 : decode cX5_drop 42 = .ok (.putfield 32, 3) := by decide +kernel
theorem dX5_drop_45 : decode cX5_drop 45 = .ok (.return_, 1) := by decide +kernel
theorem dX5_copyUnder_0 : decode cX5_copyUnder 0 = .ok (.aload_n 0, 1) := by decide +kernel
theorem dX5_copyUnder_1 : decode cX5_copyUnder 1 = .ok (.getfield 32, 3) := by decide +kernel
theorem dX5_copyUnder_4 : decode cX5_copyUnder 4 = .ok (.iload_n 1, 1) := by decide +kernel
theorem dX5_copyUnder_5 : decode cX5_copyUnder 5 = .ok (.isub, 1) := by decide +kernel
theorem dX5_copyUnder_6 : decode cX5_copyUnder 6 = .ok (.istore_n 3, 1) := by decide +kernel
theorem dX5_copyUnder_7 : decode cX5_copyUnder 7 = .ok (.iload_n 3, 1) := by decide +kernel
theorem dX5_copyUnder_8 : decode cX5_copyUnder 8 = .ok (.iload_n 2, 1) := by decide +kernel
theorem dX5_copyUnder_9 : decode cX5_copyUnder 9 = .ok (.isub, 1) := by decide +kernel
theorem dX5_copyUnder_10 : decode cX5_copyUnder 10 = .ok (.istore 4, 2) := by decide +kernel
theorem dX5_copyUnder_12 : decode cX5_copyUnder 12 = .ok (.iload 4, 2) := by decide +kernel
theorem dX5_copyUnder_14 : decode cX5_copyUnder 14 = .ok (.aload_n 0, 1) := by decide +kernel
theorem dX5_copyUnder_15 : decode cX5_copyUnder 15 = .ok (.getfield 25, 3) := by decide +kernel
theorem dX5_copyUnder_18 : decode cX5_copyUnder 18 = .ok (.if_icmp .lt 39, 3) := by decide +kernel
theorem dX5_copyUnder_21 : decode cX5_copyUnder 21 = .ok (.aload_n 0, 1) := by decide +kernel
theorem dX5_copyUnder_22 : decode cX5_copyUnder 22 = .ok (.getfield 32, 3) := by decide +kernel
theorem dX5_copyUnder_25 : decode cX5_copyUnder 25 = .ok (.iload_n 1, 1) := by decide +kernel
theorem dX5_copyUnder_26 : decode cX5_copyUnder 26 = .ok (.iadd, 1) := by decide +kernel
theorem dX5_copyUnder_27 : decode cX5_copyUnder 27 = .ok (.aload_n 0, 1) := by decide +kernel
theorem dX5_copyUnder_28 : decode cX5_copyUnder 28 = .ok (.getfield 29, 3) := by decide +kernel
theorem dX5_copyUnder_31 : decode cX5_copyUnder 31 = .ok (.if_icmp .gt 26, 3) := by decide +kernel
theorem dX5_copyUnder_34 : decode cX5_copyUnder 34 = .ok (.aload_n 0, 1) := by decide +kernel
theorem dX5_copyUnder_35 : decode cX5_copyUnder 35 = .ok (.getfield 9, 3) := by decide +kernel
theorem dX5_copyUnder_38 : decode cX5_copyUnder 38 = .ok (.iload_n 3, 1) := by decide +kernel
theorem dX5_copyUnder_39 : decode cX5_copyUnder 39 = .ok (.iaload, 1) := by decide +kernel
theorem dX5_copyUnder_40 : decode cX5_copyUnder 40 = .ok (.bipush 7, 2) := by decide +kernel
theorem dX5_copyUnder_42 : decode cX5_copyUnder 42 = .ok (.if_icmp .eq 15, 3) := by decide +kernel
theorem dX5_copyUnder_45 : decode cX5_copyUnder 45 = .ok (.aload_n 0, 1) := by decide +kernel
theorem dX5_copyUnder_46 : decode cX5_copyUnder 46 = .ok (.getfield 9, 3) := by decide +kernel
theorem dX5_copyUnder_49 : decode cX5_copyUnder 49 = .ok (.iload 4, 2) := by decide +kernel
theorem dX5_copyUnder_51 : decode cX5_copyUnder 51 = .ok (.iaload, 1) := by decide +kernel
theorem dX5_copyUnder_52 : decode cX5_copyUnder 52 = .ok (.bipush 7, 2) := by decide +kernel
theorem dX5_copyUnder_54 : decode cX5_copyUnder 54 = .ok (.if_icmp .ne 9, 3) := by decide +kernel
theorem dX5_copyUnder_57 : decode cX5_copyUnder 57 = .ok (.aload_n 0, 1) := by decide +kernel
theorem dX5_copyUnder_58 : decode cX5_copyUnder 58 = .ok (.iconst 1, 1) := by decide +kernel
theorem dX5_copyUnder_59 : decode cX5_copyUnder 59 = .ok (.putfield 38, 3) := by decide +kernel
theorem dX5_copyUnder_62 : decode cX5_copyUnder 62 = .ok (.return_, 1) := by decide +kernel
theorem dX5_copyUnder_63 : decode cX5_copyUnder 63 = .ok (.aload_n 0, 1) := by decide +kernel
theorem dX5_copyUnder_64 : decode cX5_copyUnder 64 = .ok (.getfield 32, 3) := by decide +kernel
theorem dX5_copyUnder_67 : decode cX5_copyUnder 67 = .ok (.iconst 1, 1) := by decide +kernel
theorem dX5_copyUnder_68 : decode cX5_copyUnder 68 = .ok (.isub, 1) := by decide +kernel
theorem dX5_copyUnder_69 : decode cX5_copyUnder 69 = .ok (.istore 5, 2) := by decide +kernel
theorem dX5_copyUnder_71 : decode cX5_copyUnder 71 = .ok (.iload 5, 2) := by decide +kernel
theorem dX5_copyUnder_73 : decode cX5_copyUnder 73 = .ok (.iload 4, 2) := by decide +kernel
theorem dX5_copyUnder_75 : decode cX5_copyUnder 75 = .ok (.if_icmp .lt 25, 3) := by decide +kernel
theorem dX5_copyUnder_78 : decode cX5_copyUnder 78 = .ok (.aload_n 0, 1) := by decide +kernel
theorem dX5_copyUnder_79 : decode cX5_copyUnder 79 = .ok (.getfield 9, 3) := by decide +kernel
theorem dX5_copyUnder_82 : decode cX5_copyUnder 82 = .ok (.iload 5, 2) := by decide +kernel
theorem dX5_copyUnder_84 : decode cX5_copyUnder 84 = .ok (.iload_n 1, 1) := by decide +kernel
theorem dX5_copyUnder_85 : decode cX5_copyUnder 85 = .ok (.iadd, 1) := by decide +kernel
theorem dX5_copyUnder_86 : decode cX5_copyUnder 86 = .ok (.aload_n 0, 1) := by decide +kernel
theorem dX5_copyUnder_87 : decode cX5_copyUnder 87 = .ok (.getfield 9, 3) := by decide +kernel
theorem dX5_copyUnder_90 : decode cX5_copyUnder 90 = .ok (.iload 5, 2) := by decide +kernel
theorem dX5_copyUnder_92 : decode cX5_copyUnder 92 = .ok (.iaload, 1) := by decide +kernel
theorem dX5_copyUnder_93 : decode cX5_copyUnder 93 = .ok (.iastore, 1) := by decide +kernel
theorem dX5_copyUnder_94 : decode cX5_copyUnder 94 = .ok (.iinc 5 (-1), 3) := by decide +kernel
theorem dX5_copyUnder_97 : decode cX5_copyUnder 97 = .ok (.goto (-26), 3) := by decide +kernel
theorem dX5_copyUnder_100 : decode cX5_copyUnder 100 = .ok (.iconst 0, 1) := by decide +kernel
theorem dX5_copyUnder_101 : decode cX5_copyUnder 101 = .ok (.istore 5, 2) := by decide +kernel
theorem dX5_copyUnder_103 : decode cX5_copyUnder 103 = .ok (.iload 5, 2) := by decide +kernel
theorem dX5_copyUnder_105 : decode cX5_copyUnder 105 = .ok (.iload_n 1, 1) := by decide +kernel
theorem dX5_copyUnder_106 : decode cX5_copyUnder 106 = .ok (.if_icmp .ge 31, 3) := by decide +kernel
theorem dX5_copyUnder_109 : decode cX5_copyUnder 109 = .ok (.aload_n 0, 1) := by decide +kernel
theorem dX5_copyUnder_110 : decode cX5_copyUnder 110 = .ok (.getfield 9, 3) := by decide +kernel
theorem dX5_copyUnder_113 : decode cX5_copyUnder 113 = .ok (.iload 4, 2) := by decide +kernel
theorem dX5_copyUnder_115 : decode cX5_copyUnder 115 = .ok (.iload 5, 2) := by decide +kernel
theorem dX5_copyUnder_117 : decode cX5_copyUnder 117 = .ok (.iadd, 1) := by decide +kernel
theorem dX5_copyUnder_118 : decode cX5_copyUnder 118 = .ok (.aload_n 0, 1) := by decide +kernel
theorem dX5_copyUnder_119 : decode cX5_copyUnder 119 = .ok (.getfield 9, 3) := by decide +kernel
theorem dX5_copyUnder_122 : decode cX5_copyUnder 122 = .ok (.aload_n 0, 1) := by decide +kernel
theorem dX5_copyUnder_123 : decode cX5_copyUnder 123 = .ok (.getfield 32, 3) := by decide +kernel
theorem dX5_copyUnder_126 : decode cX5_copyUnder 126 = .ok (.iload 5, 2) := by decide +kernel
theorem dX5_copyUnder_128 : decode cX5_copyUnder 128 = .ok (.iadd, 1) := by decide +kernel
theorem dX5_copyUnder_129 : decode cX5_copyUnder 129 = .ok (.iaload, 1) := by decide +kernel
theorem dX5_copyUnder_130 : decode cX5_copyUnder 130 = .ok (.iastore, 1) := by decide +kernel
theorem dX5_copyUnder_131 : decode cX5_copyUnder 131 = .ok (.iinc 5 1, 3) := by decide +kernel
theorem dX5_copyUnder_134 : decode cX5_copyUnder 134 = .ok (.goto (-31), 3) := by decide +kernel
theorem dX5_copyUnder_137 : decode cX5_copyUnder 137 = .ok (.aload_n 0, 1) := by decide +kernel
theorem dX5_copyUnder_138 : decode cX5_copyUnder 138 = .ok (.dup, 1) := by decide +kernel
theorem dX5_copyUnder_139 : decode cX5_copyUnder 139 = .ok (.getfield 32, 3) := by decide +kernel
theorem dX5_copyUnder_142 : decode cX5_copyUnder 142 = .ok (.iload_n 1, 1) := by decide +kernel
theorem dX5_copyUnder_143 : decode cX5_copyUnder 143 = .ok (.iadd, 1) := by decide +kernel
theorem dX5_copyUnder_144 : decode cX5_copyUnder 144 = .ok (.putfield 32, 3) := by decide +kernel
theorem dX5_copyUnder_147 : decode cX5_copyUnder 147 = .ok (.return_, 1) := by decide +kernel
set_option maxRecDepth 20000 in
theorem ggX5_exchange_X5_pull : GoodIn wsX5_exchange wsX5_pull := goodIn_r _ [8, 3, 9, 2, 1, 10, 11, 12, 13, 14, 15, 16, 17, 18, 19] rfl (by decide +kernel)
set_option maxRecDepth 20000 in
theorem gX5_exchange_X5_pull : GoodIn wsX5_exchange (wsV RX5 109 RX5 yX5_pull wsX5_pull) := goodIn_app (goodIn_of _ (by decide +kernel)) ggX5_exchange_X5_pull
theorem dX5_exchange_0 : decode cX5_exchange 0 = .ok (.aload_n 0, 1) := by decide +kernel
theorem dX5_exchange_1 : decode cX5_exchange 1 = .ok (.invokevirtual 109, 3) := by decide +kernel
theorem dX5_exchange_4 : decode cX5_exchange 4 = .ok (.istore_n 1, 1) := by decide +kernel
theorem dX5_exchange_5 : decode cX5_exchange 5 = .ok (.aload_n 0, 1) := by decide +kernel
theorem dX5_exchange_6 : decode cX5_exchange 6 = .ok (.invokevirtual 109, 3) := by decide +kernel
theorem dX5_exchange_9 : decode cX5_exchange 9 = .ok (.istore_n 2, 1) := by decide +kernel
theorem dX5_exchange_10 : decode cX5_exchange 10 = .ok (.aload_n 0, 1) := by decide +kernel
theorem dX5_exchange_11 : decode cX5_exchange 11 = .ok (.getfield 38, 3) := by decide +kernel
theorem dX5_exchange_14 : decode cX5_exchange 14 = .ok (.ifCond .ne 35, 3) := by decide +kernel
theorem dX5_exchange_17 : decode cX5_exchange 17 = .ok (.aload_n 0, 1) := by decide +kernel
theorem dX5_exchange_18 : decode cX5_exchange 18 = .ok (.getfield 9, 3) := by decide +kernel
theorem dX5_exchange_21 : decode cX5_exchange 21 = .ok (.aload_n 0, 1) := by decide +kernel
theorem dX5_exchange_22 : decode cX5_exchange 22 = .ok (.getfield 32, 3) := by decide +kernel
theorem dX5_exchange_25 : decode cX5_exchange 25 = .ok (.iload_n 1, 1) := by decide +kernel
theorem dX5_exchange_26 : decode cX5_exchange 26 = .ok (.iastore, 1) := by decide +kernel
theorem dX5_exchange_27 : decode cX5_exchange 27 = .ok (.aload_n 0, 1) := by decide +kernel
theorem dX5_exchange_28 : decode cX5_exchange 28 = .ok (.getfield 9, 3) := by decide +kernel
theorem dX5_exchange_31 : decode cX5_exchange 31 = .ok (.aload_n 0, 1) := by decide +kernel
theorem dX5_exchange_32 : decode cX5_exchange 32 = .ok (.getfield 32, 3) := by decide +kernel
theorem dX5_exchange_35 : decode cX5_exchange 35 = .ok (.iconst 1, 1) := by decide +kernel
theorem dX5_exchange_36 : decode cX5_exchange 36 = .ok (.iadd, 1) := by decide +kernel
theorem dX5_exchange_37 : decode cX5_exchange 37 = .ok (.iload_n 2, 1) := by decide +kernel
theorem dX5_exchange_38 : decode cX5_exchange 38 = .ok (.iastore, 1) := by decide +kernel
theorem dX5_exchange_39 : decode cX5_exchange 39 = .ok (.aload_n 0, 1) := by decide +kernel
theorem dX5_exchange_40 : decode cX5_exchange 40 = .ok (.dup, 1) := by decide +kernel
theorem dX5_exchange_41 : decode cX5_exchange 41 = .ok (.getfield 32, 3) := by decide +kernel
theorem dX5_exchange_44 : decode cX5_exchange 44 = .ok (.iconst 2, 1) := by decide +kernel
theorem dX5_exchange_45 : decode cX5_exchange 45 = .ok (.iadd, 1) := by decide +kernel
theorem dX5_exchange_46 : decode cX5_exchange 46 = .ok (.putfield 32, 3) := by decide +kernel
theorem dX5_exchange_49 : decode cX5_exchange 49 = .ok (.return_, 1) := by decide +kernel
theorem dX5_replaceAll_0 : decode cX5_replaceAll 0 = .ok (.iconst 0, 1) := by decide +kernel
theorem dX5_replaceAll_1 : decode cX5_replaceAll 1 = .ok (.istore_n 3, 1) := by decide +kernel
theorem dX5_replaceAll_2 : decode cX5_replaceAll 2 = .ok (.iload_n 3, 1) := by decide +kernel
theorem dX5_replaceAll_3 : decode cX5_replaceAll 3 = .ok (.aload_n 0, 1) := by decide +kernel
theorem dX5_replaceAll_4 : decode cX5_replaceAll 4 = .ok (.getfield 32, 3) := by decide +kernel
theorem dX5_replaceAll_7 : decode cX5_replaceAll 7 = .ok (.if_icmp .ge 26, 3) := by decide +kernel
theorem dX5_replaceAll_10 : decode cX5_replaceAll 10 = .ok (.aload_n 0, 1) := by decide +kernel
theorem dX5_replaceAll_11 : decode cX5_replaceAll 11 = .ok (.getfield 9, 3) := by decide +kernel
theorem dX5_replaceAll_14 : decode cX5_replaceAll 14 = .ok (.iload_n 3, 1) := by decide +kernel
theorem dX5_replaceAll_15 : decode cX5_replaceAll 15 = .ok (.iaload, 1) := by decide +kernel
theorem dX5_replaceAll_16 : decode cX5_replaceAll 16 = .ok (.iload_n 1, 1) := by decide +kernel
theorem dX5_replaceAll_17 : decode cX5_replaceAll 17 = .ok (.if_icmp .ne 10, 3) := by decide +kernel
theorem dX5_replaceAll_20 : decode cX5_replaceAll 20 = .ok (.aload_n 0, 1) := by decide +kernel
theorem dX5_replaceAll_21 : decode cX5_replaceAll 21 = .ok (.getfield 9, 3) := by decide +kernel
theorem dX5_replaceAll_24 : decode cX5_replaceAll 24 = .ok (.iload_n 3, 1) := by decide +kernel
theorem dX5_replaceAll_25 : decode cX5_replaceAll 25 = .ok (.iload_n 2, 1) := by decide +kernel
theorem dX5_replaceAll_26 : decode cX5_replaceAll 26 = .ok (.iastore, 1) := by decide +kernel
theorem dX5_replaceAll_27 : decode cX5_replaceAll 27 = .ok (.iinc 3 1, 3) := by decide +kernel
theorem dX5_replaceAll_30 : decode cX5_replaceAll 30 = .ok (.goto (-28), 3) := by decide +kernel
theorem dX5_replaceAll_33 : decode cX5_replaceAll 33 = .ok (.aload_n 0, 1) := by decide +kernel
theorem dX5_replaceAll_34 : decode cX5_replaceAll 34 = .ok (.iconst 1, 1) := by decide +kernel
theorem dX5_replaceAll_35 : decode cX5_replaceAll 35 = .ok (.putfield 80, 3) := by decide +kernel
theorem dX5_replaceAll_38 : decode cX5_replaceAll 38 = .ok (.return_, 1) := by decide +kernel
theorem dX5_forget_0 : decode cX5_forget 0 = .ok (.iconst 0, 1) := by decide +kernel
theorem dX5_forget_1 : decode cX5_forget 1 = .ok (.istore_n 2, 1) := by decide +kernel
theorem dX5_forget_2 : decode cX5_forget 2 = .ok (.iload_n 2, 1) := by decide +kernel
theorem dX5_forget_3 : decode cX5_forget 3 = .ok (.aload_n 0, 1) := by decide +kernel
theorem dX5_forget_4 : decode cX5_forget 4 = .ok (.getfield 32, 3) := by decide +kernel
theorem dX5_forget_7 : decode cX5_forget 7 = .ok (.if_icmp .ge 55, 3) := by decide +kernel
theorem dX5_forget_10 : decode cX5_forget 10 = .ok (.aload_n 0, 1) := by decide +kernel
theorem dX5_forget_11 : decode cX5_forget 11 = .ok (.getfield 9, 3) := by decide +kernel
theorem dX5_forget_14 : decode cX5_forget 14 = .ok (.iload_n 2, 1) := by decide +kernel
theorem dX5_forget_15 : decode cX5_forget 15 = .ok (.iaload, 1) := by decide +kernel
theorem dX5_forget_16 : decode cX5_forget 16 = .ok (.iload_n 1, 1) := by decide +kernel
theorem dX5_forget_17 : decode cX5_forget 17 = .ok (.if_icmp .ne 39, 3) := by decide +kernel
theorem dX5_forget_20 : decode cX5_forget 20 = .ok (.aload_n 0, 1) := by decide +kernel
theorem dX5_forget_21 : decode cX5_forget 21 = .ok (.getfield 9, 3) := by decide +kernel
theorem dX5_forget_24 : decode cX5_forget 24 = .ok (.iload_n 2, 1) := by decide +kernel
theorem dX5_forget_25 : decode cX5_forget 25 = .ok (.iconst 0, 1) := by decide +kernel
theorem dX5_forget_26 : decode cX5_forget 26 = .ok (.iastore, 1) := by decide +kernel
theorem dX5_forget_27 : decode cX5_forget 27 = .ok (.aload_n 0, 1) := by decide +kernel
theorem dX5_forget_28 : decode cX5_forget 28 = .ok (.iconst 1, 1) := by decide +kernel
theorem dX5_forget_29 : decode cX5_forget 29 = .ok (.putfield 80, 3) := by decide +kernel
theorem dX5_forget_32 : decode cX5_forget 32 = .ok (.aload_n 0, 1) := by decide +kernel
theorem dX5_forget_33 : decode cX5_forget 33 = .ok (.aload_n 0, 1) := by decide +kernel
theorem dX5_forget_34 : decode cX5_forget 34 = .ok (.getfield 38, 3) := by decide +kernel
theorem dX5_forget_37 : decode cX5_forget 37 = .ok (.ifCond .ne 11, 3) := by decide +kernel
theorem dX5_forget_40 : decode cX5_forget 40 = .ok (.iload_n 2, 1) := by decide +kernel
theorem dX5_forget_41 : decode cX5_forget 41 = .ok (.aload_n 0, 1) := by decide +kernel
theorem dX5_forget_42 : decode cX5_forget 42 = .ok (.getfield 25, 3) := by decide +kernel
theorem dX5_forget_45 : decode cX5_forget 45 = .ok (.if_icmp .lt 7, 3) := by decide +kernel
theorem dX5_forget_48 : decode cX5_forget 48 = .ok (.iconst 1, 1) := by decide +kernel
theorem dX5_forget_49 : decode cX5_forget 49 = .ok (.goto 4, 3) := by decide +kernel
theorem dX5_forget_52 : decode cX5_forget 52 = .ok (.iconst 0, 1) := by decide +kernel
theorem dX5_forget_53 : decode cX5_forget 53 = .ok (.putfield 38, 3) := by decide +kernel
theorem dX5_forget_56 : decode cX5_forget 56 = .ok (.iinc 2 1, 3) := by decide +kernel
theorem dX5_forget_59 : decode cX5_forget 59 = .ok (.goto (-57), 3) := by decide +kernel
theorem dX5_forget_62 : decode cX5_forget 62 = .ok (.return_, 1) := by decide +kernel
theorem dX6_init_0 : decode cX6_init 0 = .ok (.aload_n 0, 1) := by decide +kernel
theorem dX6_init_1 : decode cX6_init 1 = .ok (.invokespecial 3, 3) := by decide +kernel
theorem dX6_init_4 : decode cX6_init 4 = .ok (.aload_n 0, 1) := by decide +kernel
theorem dX6_init_5 : decode cX6_init 5 = .ok (.aload_n 1, 1) := by decide +kernel
theorem dX6_init_6 : decode cX6_init 6 = .ok (.putfield 9, 3) := by decide +kernel
theorem dX6_init_9 : decode cX6_init 9 = .ok (.aload_n 0, 1) := by decide +kernel
theorem dX6_init_10 : decode cX6_init 10 = .ok (.aload_n 2, 1) := by decide +kernel
theorem dX6_init_11 : decode cX6_init 11 = .ok (.putfield 15, 3) := by decide +kernel
theorem dX6_init_14 : decode cX6_init 14 = .ok (.aload_n 0, 1) := by decide +kernel
theorem dX6_init_15 : decode cX6_init 15 = .ok (.aload_n 3, 1) := by decide +kernel
theorem dX6_init_16 : decode cX6_init 16 = .ok (.putfield 19, 3) := by decide +kernel
theorem dX6_init_19 : decode cX6_init 19 = .ok (.aload_n 0, 1) := by decide +kernel
theorem dX6_init_20 : decode cX6_init 20 = .ok (.aload 4, 2) := by decide +kernel
theorem dX6_init_22 : decode cX6_init 22 = .ok (.putfield 23, 3) := by decide +kernel
theorem dX6_init_25 : decode cX6_init 25 = .ok (.return_, 1) := by decide +kernel
def ckX6_step : List (List Cond) := [[.code yX6_step cX6_step 4 none], wsX6_step_r1, wsX6_step_r2, wsX6_step_r3, wsX6_step_r4, wsX6_step_r5, wsX6_step_r6, wsX6_step_r7, wsX6_step_r8, wsX6_step_r9, wsX60, wsX00, wsX50, wsX70, wsX40]
theorem ckX6_stepl : wsX6_step = ckX6_step.flatten := by
  simp only [wsX6_step, ckX6_step, List.flatten_cons, List.flatten_nil, List.append_assoc, List.append_nil, List.cons_append, List.nil_append]
set_option maxRecDepth 20000 in
theorem ggX6_step_X6_pushConstant : GoodIn wsX6_step wsX6_pushConstant := goodIn_t ckX6_step ckX6_stepl _ [(1, 6), (1, 7), (1, 8), (1, 9), (1, 10), (1, 11), (1, 12), (1, 13), (1, 14), (1, 15), (1, 16), (1, 17), (1, 18), (1, 19), (1, 20), (1, 21), (1, 22), (1, 23), (2, 0), (2, 1), (2, 2), (2, 3), (2, 4), (2, 5), (2, 6), (2, 7), (2, 8), (2, 9), (2, 10), (10, 0), (10, 1), (10, 2), (10, 3), (12, 0), (12, 1), (12, 2), (12, 3), (12, 4), (12, 5), (12, 6), (12, 7), (12, 8), (12, 9)] rfl (by decide +kernel)
set_option maxRecDepth 20000 in
theorem gX6_step_X6_pushConstant : GoodIn wsX6_step (wsV RX6 36 RX6 yX6_pushConstant wsX6_pushConstant) := goodIn_app (goodIn_of _ (by decide +kernel)) ggX6_step_X6_pushConstant
set_option maxRecDepth 20000 in
theorem ggX6_step_X6_load : GoodIn wsX6_step wsX6_load := goodIn_t ckX6_step ckX6_stepl _ [(2, 14), (1, 7), (2, 15), (2, 16), (2, 17), (2, 18), (1, 12), (2, 19), (2, 20), (2, 6), (2, 21), (2, 22), (2, 10), (2, 0), (2, 1), (2, 2), (2, 3), (2, 4), (2, 5), (2, 7), (2, 8), (2, 9), (10, 0), (10, 1), (10, 2), (10, 3), (12, 0), (12, 1), (12, 2), (12, 3), (12, 4), (12, 5), (12, 6), (12, 7), (12, 8), (12, 9)] rfl (by decide +kernel)
set_option maxRecDepth 20000 in
theorem gX6_step_X6_load : GoodIn wsX6_step (wsV RX6 40 RX6 yX6_load wsX6_load) := goodIn_app (goodIn_of _ (by decide +kernel)) ggX6_step_X6_load
set_option maxRecDepth 20000 in
theorem ggX6_step_X6_loadElement : GoodIn wsX6_step wsX6_loadElement := goodIn_t ckX6_step ckX6_stepl _ [(3, 2), (1, 7), (3, 3), (3, 4), (3, 5), (3, 6), (3, 7), (1, 12), (3, 8), (2, 3), (2, 20), (2, 6), (2, 5), (2, 7), (2, 8), (2, 9), (3, 9), (3, 10), (3, 11), (3, 12), (3, 13), (3, 14), (3, 15), (3, 16), (3, 17), (3, 18), (3, 19), (3, 20), (1, 5), (3, 21), (3, 22), (3, 23), (1, 9), (1, 10), (1, 11), (1, 13), (1, 14), (1, 15), (1, 16), (1, 17), (1, 18), (1, 19), (1, 20), (1, 21), (1, 22), (1, 23), (2, 0), (2, 1), (2, 2), (2, 4), (2, 10), (4, 0), (10, 0), (10, 1), (10, 2), (10, 3), (12, 0), (12, 1), (12, 2), (12, 3), (12, 4), (12, 5), (12, 6), (12, 7), (12, 8), (12, 9)] rfl (by decide +kernel)
set_option maxRecDepth 20000 in
theorem gX6_step_X6_loadElement : GoodIn wsX6_step (wsV RX6 43 RX6 yX6_loadElement wsX6_loadElement) := goodIn_app (goodIn_of _ (by decide +kernel)) ggX6_step_X6_loadElement
set_option maxRecDepth 20000 in
theorem ggX6_step_X6_store : GoodIn wsX6_step wsX6_store := goodIn_t ckX6_step ckX6_stepl _ [(4, 4), (2, 15), (1, 7), (3, 5), (3, 6), (3, 7), (1, 12), (3, 8), (2, 3), (2, 20), (2, 6), (2, 5), (2, 7), (2, 8), (2, 9), (4, 5), (4, 6), (4, 7), (4, 8), (4, 9), (4, 10), (3, 15), (3, 16), (3, 17), (2, 21), (2, 22), (10, 0), (10, 1), (10, 2), (10, 3), (12, 0), (12, 1), (12, 2), (12, 3), (12, 4), (12, 5), (12, 6), (12, 7), (12, 8), (12, 9)] rfl (by decide +kernel)
set_option maxRecDepth 20000 in
theorem gX6_step_X6_store : GoodIn wsX6_step (wsV RX6 47 RX6 yX6_store wsX6_store) := goodIn_app (goodIn_of _ (by decide +kernel)) ggX6_step_X6_store
set_option maxRecDepth 20000 in
theorem ggX6_step_X6_storeElement : GoodIn wsX6_step wsX6_storeElement := goodIn_t ckX6_step ckX6_stepl _ [(4, 14), (3, 4), (1, 7), (3, 3), (4, 15), (4, 16), (4, 17), (1, 12), (4, 18), (2, 5), (4, 19), (4, 20), (4, 21), (4, 22), (4, 23), (1, 19), (1, 16), (1, 20), (1, 21), (1, 22), (1, 14), (1, 15), (1, 17), (1, 18), (5, 0), (3, 6), (3, 7), (3, 8), (2, 3), (2, 20), (2, 6), (2, 7), (2, 8), (2, 9), (3, 14), (3, 15), (3, 16), (3, 17), (5, 1), (5, 2), (5, 3), (5, 4), (5, 5), (5, 6), (5, 7), (5, 8), (5, 9), (5, 10), (5, 11), (5, 12), (5, 13), (5, 14), (5, 15), (5, 16), (5, 17), (5, 18), (5, 19), (3, 5), (3, 9), (3, 10), (3, 11), (3, 12), (3, 13), (3, 18), (3, 19), (3, 20), (1, 5), (3, 21), (3, 22), (3, 23), (10, 0), (10, 1), (10, 2), (10, 3), (12, 0), (12, 1), (12, 2), (12, 3), (12, 4), (12, 5), (12, 6), (12, 7), (12, 8), (12, 9), (13, 0), (13, 1), (13, 2)] rfl (by decide +kernel)
set_option maxRecDepth 20000 in
theorem gX6_step_X6_storeElement : GoodIn wsX6_step (wsV RX6 50 RX6 yX6_storeElement wsX6_storeElement) := goodIn_app (goodIn_of _ (by decide +kernel)) ggX6_step_X6_storeElement
set_option maxRecDepth 20000 in
theorem ggX6_step_X6_shuffle : GoodIn wsX6_step wsX6_shuffle := goodIn_t ckX6_step ckX6_stepl _ [(5, 23), (1, 7), (6, 0), (6, 1), (6, 2), (6, 3), (6, 4), (1, 12), (6, 5), (2, 3), (2, 20), (2, 6), (2, 5), (6, 6), (6, 7), (6, 8), (6, 9), (2, 4), (6, 10), (6, 11), (6, 12), (6, 13), (3, 14), (3, 15), (3, 16), (3, 17), (10, 0), (10, 1), (10, 2), (10, 3), (12, 0), (12, 1), (12, 2), (12, 3), (12, 4), (12, 5), (12, 6), (12, 7), (12, 8), (12, 9)] rfl (by decide +kernel)
set_option maxRecDepth 20000 in
theorem gX6_step_X6_shuffle : GoodIn wsX6_step (wsV RX6 53 RX6 yX6_shuffle wsX6_shuffle) := goodIn_app (goodIn_of _ (by decide +kernel)) ggX6_step_X6_shuffle
set_option maxRecDepth 20000 in
theorem ggX6_step_X6_increase : GoodIn wsX6_step wsX6_increase := goodIn_t ckX6_step ckX6_stepl _ [(6, 17), (1, 7), (2, 16), (2, 17), (2, 18), (1, 12), (2, 19), (2, 20), (2, 6), (10, 0), (10, 1), (10, 2), (10, 3), (12, 0), (12, 1), (12, 2), (12, 3), (12, 4), (12, 5), (12, 6), (12, 7), (12, 8), (12, 9)] rfl (by decide +kernel)
set_option maxRecDepth 20000 in
theorem gX6_step_X6_increase : GoodIn wsX6_step (wsV RX6 56 RX6 yX6_increase wsX6_increase) := goodIn_app (goodIn_of _ (by decide +kernel)) ggX6_step_X6_increase
set_option maxRecDepth 20000 in
theorem ggX6_step_X6_reckon : GoodIn wsX6_step wsX6_reckon := goodIn_t ckX6_step ckX6_stepl _ [(6, 21), (1, 7), (3, 5), (3, 6), (3, 7), (1, 12), (3, 8), (2, 3), (2, 20), (2, 6), (2, 5), (2, 7), (2, 8), (2, 9), (2, 10), (2, 0), (2, 1), (2, 2), (2, 4), (10, 0), (10, 1), (10, 2), (10, 3), (12, 0), (12, 1), (12, 2), (12, 3), (12, 4), (12, 5), (12, 6), (12, 7), (12, 8), (12, 9)] rfl (by decide +kernel)
set_option maxRecDepth 20000 in
theorem gX6_step_X6_reckon : GoodIn wsX6_step (wsV RX6 62 RX6 yX6_reckon wsX6_reckon) := goodIn_app (goodIn_of _ (by decide +kernel)) ggX6_step_X6_reckon
set_option maxRecDepth 20000 in
theorem ggX6_step_X6_branch : GoodIn wsX6_step wsX6_branch := goodIn_t ckX6_step ckX6_stepl _ [(7, 1), (1, 0), (1, 7), (2, 10), (2, 0), (2, 1), (1, 12), (2, 2), (2, 3), (2, 4), (2, 5), (2, 6), (2, 7), (2, 8), (2, 9), (7, 2), (7, 3), (7, 4), (7, 5), (3, 14), (3, 15), (3, 16), (3, 17), (2, 20), (7, 6), (2, 21), (2, 22), (7, 7), (7, 8), (7, 9), (7, 10), (3, 5), (3, 6), (3, 7), (3, 8), (10, 0), (10, 1), (10, 2), (10, 3), (11, 0), (11, 1), (11, 2), (11, 3), (11, 4), (11, 5), (11, 6), (11, 7), (11, 8), (11, 9), (11, 10), (11, 11), (11, 12), (11, 13), (11, 14), (11, 15), (11, 16), (12, 0), (12, 1), (12, 2), (12, 3), (12, 4), (12, 5), (12, 6), (12, 7), (12, 8), (12, 9)] rfl (by decide +kernel)
set_option maxRecDepth 20000 in
theorem gX6_step_X6_branch : GoodIn wsX6_step (wsV RX6 65 RX6 yX6_branch wsX6_branch) := goodIn_app (goodIn_of _ (by decide +kernel)) ggX6_step_X6_branch
set_option maxRecDepth 20000 in
theorem ggX6_step_X6_leave : GoodIn wsX6_step wsX6_leave := goodIn_t ckX6_step ckX6_stepl _ [(7, 14), (1, 0), (1, 7), (2, 15), (4, 0), (1, 19), (1, 16), (1, 20), (1, 21), (1, 22), (7, 15), (1, 15), (1, 17), (1, 18), (4, 15), (4, 16), (4, 17), (1, 12), (4, 18), (2, 5), (4, 19), (4, 20), (4, 21), (4, 22), (4, 23), (1, 14), (5, 0), (3, 6), (3, 7), (3, 8), (2, 3), (2, 20), (2, 6), (2, 7), (2, 8), (2, 9), (3, 14), (3, 15), (3, 16), (3, 17), (5, 1), (5, 2), (5, 3), (5, 4), (5, 5), (5, 6), (5, 7), (5, 8), (5, 9), (5, 10), (5, 11), (5, 12), (5, 13), (5, 14), (5, 15), (5, 16), (5, 17), (5, 18), (5, 19), (10, 0), (10, 1), (10, 2), (10, 3), (11, 0), (11, 1), (11, 2), (11, 3), (11, 4), (11, 5), (11, 6), (11, 7), (11, 8), (11, 9), (11, 10), (11, 11), (11, 12), (11, 13), (11, 14), (11, 15), (11, 16), (12, 0), (12, 1), (12, 2), (12, 3), (12, 4), (12, 5), (12, 6), (12, 7), (12, 8), (12, 9), (13, 0), (13, 1), (13, 2)] rfl (by decide +kernel)
set_option maxRecDepth 20000 in
theorem gX6_step_X6_leave : GoodIn wsX6_step (wsV RX6 68 RX6 yX6_leave wsX6_leave) := goodIn_app (goodIn_of _ (by decide +kernel)) ggX6_step_X6_leave
set_option maxRecDepth 20000 in
theorem ggX6_step_X6_useField : GoodIn wsX6_step wsX6_useField := goodIn_t ckX6_step ckX6_stepl _ [(7, 19), (7, 20), (1, 7), (1, 0), (4, 15), (4, 16), (4, 17), (1, 12), (4, 18), (2, 5), (4, 19), (4, 20), (4, 21), (4, 22), (4, 23), (1, 19), (1, 16), (1, 20), (1, 21), (1, 22), (1, 14), (1, 15), (1, 17), (1, 18), (5, 0), (3, 6), (3, 7), (3, 8), (2, 3), (2, 20), (2, 6), (2, 7), (2, 8), (2, 9), (3, 14), (3, 15), (3, 16), (3, 17), (5, 1), (5, 2), (5, 3), (5, 4), (5, 5), (5, 6), (5, 7), (5, 8), (5, 9), (5, 10), (5, 11), (5, 12), (5, 13), (5, 14), (5, 15), (5, 16), (5, 17), (5, 18), (5, 19), (7, 21), (7, 22), (7, 23), (1, 5), (8, 0), (4, 10), (1, 9), (1, 10), (1, 11), (1, 13), (1, 23), (2, 0), (2, 1), (2, 2), (2, 4), (10, 0), (10, 1), (10, 2), (10, 3), (14, 0), (14, 1), (14, 2), (14, 3), (14, 4), (14, 5), (14, 6), (14, 7), (14, 8), (11, 0), (11, 1), (11, 2), (11, 3), (11, 4), (11, 5), (11, 6), (11, 7), (11, 8), (11, 9), (11, 10), (11, 11), (11, 12), (11, 13), (11, 14), (11, 15), (11, 16), (12, 0), (12, 1), (12, 2), (12, 3), (12, 4), (12, 5), (12, 6), (12, 7), (12, 8), (12, 9), (13, 0), (13, 1), (13, 2)] rfl (by decide +kernel)
set_option maxRecDepth 20000 in
theorem gX6_step_X6_useField : GoodIn wsX6_step (wsV RX6 71 RX6 yX6_useField wsX6_useField) := goodIn_app (goodIn_of _ (by decide +kernel)) ggX6_step_X6_useField
set_option maxRecDepth 20000 in
theorem ggX6_step_X6_invoke : GoodIn wsX6_step wsX6_invoke := goodIn_t ckX6_step ckX6_stepl _ [(8, 4), (7, 20), (1, 7), (1, 0), (8, 5), (8, 6), (8, 7), (8, 8), (8, 9), (8, 10), (8, 11), (4, 15), (4, 16), (4, 17), (1, 12), (4, 18), (2, 5), (4, 19), (4, 20), (4, 21), (4, 22), (4, 23), (1, 19), (1, 16), (1, 20), (1, 21), (1, 22), (1, 14), (1, 15), (1, 17), (1, 18), (5, 0), (3, 6), (3, 7), (3, 8), (2, 3), (2, 20), (2, 6), (2, 7), (2, 8), (2, 9), (3, 14), (3, 15), (3, 16), (3, 17), (5, 1), (5, 2), (5, 3), (5, 4), (5, 5), (5, 6), (5, 7), (5, 8), (5, 9), (5, 10), (5, 11), (5, 12), (5, 13), (5, 14), (5, 15), (5, 16), (5, 17), (5, 18), (5, 19), (8, 12), (8, 13), (8, 14), (1, 5), (8, 15), (4, 10), (7, 15), (8, 16), (8, 17), (8, 18), (8, 19), (4, 9), (8, 20), (1, 9), (1, 10), (1, 11), (1, 13), (1, 23), (2, 0), (2, 1), (2, 2), (2, 4), (10, 0), (10, 1), (10, 2), (10, 3), (14, 0), (14, 1), (14, 2), (14, 3), (14, 4), (14, 5), (14, 6), (14, 7), (14, 8), (11, 0), (11, 1), (11, 2), (11, 3), (11, 4), (11, 5), (11, 6), (11, 7), (11, 8), (11, 9), (11, 10), (11, 11), (11, 12), (11, 13), (11, 14), (11, 15), (11, 16), (12, 0), (12, 1), (12, 2), (12, 3), (12, 4), (12, 5), (12, 6), (12, 7), (12, 8), (12, 9), (13, 0), (13, 1), (13, 2)] rfl (by decide +kernel)
set_option maxRecDepth 20000 in
theorem gX6_step_X6_invoke : GoodIn wsX6_step (wsV RX6 74 RX6 yX6_invoke wsX6_invoke) := goodIn_app (goodIn_of _ (by decide +kernel)) ggX6_step_X6_invoke
set_option maxRecDepth 20000 in
theorem ggX6_step_X6_make : GoodIn wsX6_step wsX6_make := goodIn_t ckX6_step ckX6_stepl _ [(9, 0), (1, 0), (1, 7), (3, 23), (3, 3), (9, 1), (9, 2), (9, 3), (1, 12), (9, 4), (2, 3), (2, 6), (4, 9), (2, 5), (2, 20), (2, 10), (2, 0), (2, 1), (2, 2), (2, 4), (2, 7), (2, 8), (2, 9), (3, 5), (3, 6), (3, 7), (3, 8), (1, 9), (1, 10), (1, 11), (1, 13), (1, 14), (1, 15), (1, 16), (1, 17), (1, 18), (1, 19), (1, 20), (1, 21), (1, 22), (1, 23), (10, 0), (10, 1), (10, 2), (10, 3), (11, 0), (11, 1), (11, 2), (11, 3), (11, 4), (11, 5), (11, 6), (11, 7), (11, 8), (11, 9), (11, 10), (11, 11), (11, 12), (11, 13), (11, 14), (11, 15), (11, 16), (12, 0), (12, 1), (12, 2), (12, 3), (12, 4), (12, 5), (12, 6), (12, 7), (12, 8), (12, 9)] rfl (by decide +kernel)
set_option maxRecDepth 20000 in
theorem gX6_step_X6_make : GoodIn wsX6_step (wsV RX6 77 RX6 yX6_make wsX6_make) := goodIn_app (goodIn_of _ (by decide +kernel)) ggX6_step_X6_make
set_option maxRecDepth 20000 in
theorem ggX6_step_X6_useReference : GoodIn wsX6_step wsX6_useReference := goodIn_t ckX6_step ckX6_stepl _ [(9, 8), (1, 7), (3, 9), (3, 10), (3, 11), (1, 12), (3, 12), (3, 13), (2, 5), (3, 14), (3, 15), (3, 16), (3, 17), (2, 3), (2, 20), (2, 6), (2, 10), (2, 0), (2, 1), (2, 2), (2, 4), (2, 7), (2, 8), (2, 9), (4, 15), (4, 16), (4, 17), (4, 18), (4, 19), (4, 20), (4, 21), (4, 22), (4, 23), (1, 19), (1, 16), (1, 20), (1, 21), (1, 22), (1, 14), (1, 15), (1, 17), (1, 18), (5, 0), (3, 6), (3, 7), (3, 8), (5, 1), (5, 2), (5, 3), (5, 4), (5, 5), (5, 6), (5, 7), (5, 8), (5, 9), (5, 10), (5, 11), (5, 12), (5, 13), (5, 14), (5, 15), (5, 16), (5, 17), (5, 18), (5, 19), (1, 9), (1, 10), (1, 11), (1, 13), (1, 23), (7, 2), (7, 3), (7, 4), (7, 5), (7, 6), (2, 21), (2, 22), (10, 0), (10, 1), (10, 2), (10, 3), (12, 0), (12, 1), (12, 2), (12, 3), (12, 4), (12, 5), (12, 6), (12, 7), (12, 8), (12, 9), (13, 0), (13, 1), (13, 2)] rfl (by decide +kernel)
set_option maxRecDepth 20000 in
theorem gX6_step_X6_useReference : GoodIn wsX6_step (wsV RX6 80 RX6 yX6_useReference wsX6_useReference) := goodIn_app (goodIn_of _ (by decide +kernel)) ggX6_step_X6_useReference
theorem dX6_step_0 : decode cX6_step 0 = .ok (.aload_n 0, 1) := by decide +kernel
theorem dX6_step_1 : decode cX6_step 1 = .ok (.getfield 19, 3) := by decide +kernel
theorem dX6_step_4 : decode cX6_step 4 = .ok (.getfield 27, 3) := by decide +kernel
theorem dX6_step_7 : decode cX6_step 7 = .ok (.iload_n 1, 1) := by decide +kernel
theorem dX6_step_8 : decode cX6_step 8 = .ok (.iaload, 1) := by decide +kernel
theorem dX6_step_9 : decode cX6_step 9 = .ok (.istore_n 2, 1) := by decide +kernel
theorem dX6_step_10 : decode cX6_step 10 = .ok (.aload_n 0, 1) := by decide +kernel
theorem dX6_step_11 : decode cX6_step 11 = .ok (.getfield 19, 3) := by decide +kernel
theorem dX6_step_14 : decode cX6_step 14 = .ok (.getfield 33, 3) := by decide +kernel
theorem dX6_step_17 : decode cX6_step 17 = .ok (.iload_n 1, 1) := by decide +kernel
theorem dX6_step_18 : decode cX6_step 18 = .ok (.iaload, 1) := by decide +kernel
theorem dX6_step_19 : decode cX6_step 19 = .ok (.istore_n 3, 1) := by decide +kernel
theorem dX6_step_20 : decode cX6_step 20 = .ok (.iload_n 2, 1) := by decide +kernel
theorem dX6_step_21 : decode cX6_step 21 = .ok (.bipush 20, 2) := by decide +kernel
theorem dX6_step_23 : decode cX6_step 23 = .ok (.if_icmp .gt 12, 3) := by decide +kernel
theorem dX6_step_26 : decode cX6_step 26 = .ok (.aload_n 0, 1) := by decide +kernel
theorem dX6_step_27 : decode cX6_step 27 = .ok (.iload_n 2, 1) := by decide +kernel
theorem dX6_step_28 : decode cX6_step 28 = .ok (.iload_n 3, 1) := by decide +kernel
theorem dX6_step_29 : decode cX6_step 29 = .ok (.invokevirtual 36, 3) := by decide +kernel
theorem dX6_step_32 : decode cX6_step 32 = .ok (.goto 218, 3) := by decide +kernel
theorem dX6_step_35 : decode cX6_step 35 = .ok (.iload_n 2, 1) := by decide +kernel
theorem dX6_step_36 : decode cX6_step 36 = .ok (.bipush 25, 2) := by decide +kernel
theorem dX6_step_38 : decode cX6_step 38 = .ok (.if_icmp .gt 15, 3) := by decide +kernel
theorem dX6_step_41 : decode cX6_step 41 = .ok (.aload_n 0, 1) := by decide +kernel
theorem dX6_step_42 : decode cX6_step 42 = .ok (.iload_n 2, 1) := by decide +kernel
theorem dX6_step_43 : decode cX6_step 43 = .ok (.bipush 21, 2) := by decide +kernel
theorem dX6_step_45 : decode cX6_step 45 = .ok (.isub, 1) := by decide +kernel
theorem dX6_step_46 : decode cX6_step 46 = .ok (.iload_n 3, 1) := by decide +kernel
theorem dX6_step_47 : decode cX6_step 47 = .ok (.invokevirtual 40, 3) := by decide +kernel
theorem dX6_step_50 : decode cX6_step 50 = .ok (.goto 200, 3) := by decide +kernel
theorem dX6_step_53 : decode cX6_step 53 = .ok (.iload_n 2, 1) := by decide +kernel
theorem dX6_step_54 : decode cX6_step 54 = .ok (.bipush 53, 2) := by decide +kernel
theorem dX6_step_56 : decode cX6_step 56 = .ok (.if_icmp .gt 14, 3) := by decide +kernel
theorem dX6_step_59 : decode cX6_step 59 = .ok (.aload_n 0, 1) := by decide +kernel
theorem dX6_step_60 : decode cX6_step 60 = .ok (.iload_n 2, 1) := by decide +kernel
theorem dX6_step_61 : decode cX6_step 61 = .ok (.bipush 46, 2) := by decide +kernel
theorem dX6_step_63 : decode cX6_step 63 = .ok (.isub, 1) := by decide +kernel
theorem dX6_step_64 : decode cX6_step 64 = .ok (.invokevirtual 43, 3) := by decide +kernel
theorem dX6_step_67 : decode cX6_step 67 = .ok (.goto 183, 3) := by decide +kernel
theorem dX6_step_70 : decode cX6_step 70 = .ok (.iload_n 2, 1) := by decide +kernel
theorem dX6_step_71 : decode cX6_step 71 = .ok (.bipush 58, 2) := by decide +kernel
theorem dX6_step_73 : decode cX6_step 73 = .ok (.if_icmp .gt 15, 3) := by decide +kernel
theorem dX6_step_76 : decode cX6_step 76 = .ok (.aload_n 0, 1) := by decide +kernel
theorem dX6_step_77 : decode cX6_step 77 = .ok (.iload_n 2, 1) := by decide +kernel
theorem dX6_step_78 : decode cX6_step 78 = .ok (.bipush 54, 2) := by decide +kernel
theorem dX6_step_80 : decode cX6_step 80 = .ok (.isub, 1) := by decide +kernel
theorem dX6_step_81 : decode cX6_step 81 = .ok (.iload_n 3, 1) := by decide +kernel
theorem dX6_step_82 : decode cX6_step 82 = .ok (.invokevirtual 47, 3) := by decide +kernel
theorem dX6_step_85 : decode cX6_step 85 = .ok (.goto 165, 3) := by decide +kernel
theorem dX6_step_88 : decode cX6_step 88 = .ok (.iload_n 2, 1) := by decide +kernel
theorem dX6_step_89 : decode cX6_step 89 = .ok (.bipush 86, 2) := by decide +kernel
theorem dX6_step_91 : decode cX6_step 91 = .ok (.if_icmp .gt 14, 3) := by decide +kernel
theorem dX6_step_94 : decode cX6_step 94 = .ok (.aload_n 0, 1) := by decide +kernel
theorem dX6_step_95 : decode cX6_step 95 = .ok (.iload_n 2, 1) := by decide +kernel
theorem dX6_step_96 : decode cX6_step 96 = .ok (.bipush 79, 2) := by decide +kernel
theorem dX6_step_98 : decode cX6_step 98 = .ok (.isub, 1) := by decide +kernel
theorem dX6_step_99 : decode cX6_step 99 = .ok (.invokevirtual 50, 3) := by decide +kernel
theorem dX6_step_102 : decode cX6_step 102 = .ok (.goto 148, 3) := by decide +kernel
theorem dX6_step_105 : decode cX6_step 105 = .ok (.iload_n 2, 1) := by decide +kernel
theorem dX6_step_106 : decode cX6_step 106 = .ok (.bipush 95, 2) := by decide +kernel
theorem dX6_step_108 : decode cX6_step 108 = .ok (.if_icmp .gt 11, 3) := by decide +kernel
theorem dX6_step_111 : decode cX6_step 111 = .ok (.aload_n 0, 1) := by decide +kernel
theorem dX6_step_112 : decode cX6_step 112 = .ok (.iload_n 2, 1) := by decide +kernel
theorem dX6_step_113 : decode cX6_step 113 = .ok (.invokevirtual 53, 3) := by decide +kernel
theorem dX6_step_116 : decode cX6_step 116 = .ok (.goto 134, 3) := by decide +kernel
theorem dX6_step_119 : decode cX6_step 119 = .ok (.iload_n 2, 1) := by decide +kernel
theorem dX6_step_120 : decode cX6_step 120 = .ok (.sipush 132, 3) := by decide +kernel
theorem dX6_step_123 : decode cX6_step 123 = .ok (.if_icmp .ne 11, 3) := by decide +kernel
theorem dX6_step_126 : decode cX6_step 126 = .ok (.aload_n 0, 1) := by decide +kernel
theorem dX6_step_127 : decode cX6_step 127 = .ok (.iload_n 3, 1) := by decide +kernel
theorem dX6_step_128 : decode cX6_step 128 = .ok (.invokevirtual 56, 3) := by decide +kernel
theorem dX6_step_131 : decode cX6_step 131 = .ok (.goto 119, 3) := by decide +kernel
theorem dX6_step_134 : decode cX6_step 134 = .ok (.iload_n 2, 1) := by decide +kernel
theorem dX6_step_135 : decode cX6_step 135 = .ok (.sipush 152, 3) := by decide +kernel
theorem dX6_step_138 : decode cX6_step 138 = .ok (.if_icmp .gt 18, 3) := by decide +kernel
theorem dX6_step_141 : decode cX6_step 141 = .ok (.aload_n 0, 1) := by decide +kernel
theorem dX6_step_142 : decode cX6_step 142 = .ok (.getstatic 59, 3) := by decide +kernel
theorem dX6_step_145 : decode cX6_step 145 = .ok (.iload_n 2, 1) := by decide +kernel
theorem dX6_step_146 : decode cX6_step 146 = .ok (.bipush 96, 2) := by decide +kernel
theorem dX6_step_148 : decode cX6_step 148 = .ok (.isub, 1) := by decide +kernel
theorem dX6_step_149 : decode cX6_step 149 = .ok (.iaload, 1) := by decide +kernel
theorem dX6_step_150 : decode cX6_step 150 = .ok (.invokevirtual 62, 3) := by decide +kernel
theorem dX6_step_153 : decode cX6_step 153 = .ok (.goto 97, 3) := by decide +kernel
theorem dX6_step_156 : decode cX6_step 156 = .ok (.iload_n 2, 1) := by decide +kernel
theorem dX6_step_157 : decode cX6_step 157 = .ok (.sipush 171, 3) := by decide +kernel
theorem dX6_step_160 : decode cX6_step 160 = .ok (.if_icmp .gt 11, 3) := by decide +kernel
theorem dX6_step_163 : decode cX6_step 163 = .ok (.aload_n 0, 1) := by decide +kernel
theorem dX6_step_164 : decode cX6_step 164 = .ok (.iload_n 1, 1) := by decide +kernel
theorem dX6_step_165 : decode cX6_step 165 = .ok (.invokevirtual 65, 3) := by decide +kernel
theorem dX6_step_168 : decode cX6_step 168 = .ok (.goto 82, 3) := by decide +kernel
theorem dX6_step_171 : decode cX6_step 171 = .ok (.iload_n 2, 1) := by decide +kernel
theorem dX6_step_172 : decode cX6_step 172 = .ok (.sipush 177, 3) := by decide +kernel
theorem dX6_step_175 : decode cX6_step 175 = .ok (.if_icmp .gt 15, 3) := by decide +kernel
theorem dX6_step_178 : decode cX6_step 178 = .ok (.aload_n 0, 1) := by decide +kernel
theorem dX6_step_179 : decode cX6_step 179 = .ok (.iload_n 2, 1) := by decide +kernel
theorem dX6_step_180 : decode cX6_step 180 = .ok (.sipush 172, 3) := by decide +kernel
theorem dX6_step_183 : decode cX6_step 183 = .ok (.isub, 1) := by decide +kernel
theorem dX6_step_184 : decode cX6_step 184 = .ok (.invokevirtual 68, 3) := by decide +kernel
theorem dX6_step_187 : decode cX6_step 187 = .ok (.goto 63, 3) := by decide +kernel
theorem dX6_step_190 : decode cX6_step 190 = .ok (.iload_n 2, 1) := by decide +kernel
theorem dX6_step_191 : decode cX6_step 191 = .ok (.sipush 181, 3) := by decide +kernel
theorem dX6_step_194 : decode cX6_step 194 = .ok (.if_icmp .gt 12, 3) := by decide +kernel
theorem dX6_step_197 : decode cX6_step 197 = .ok (.aload_n 0, 1) := by decide +kernel
theorem dX6_step_198 : decode cX6_step 198 = .ok (.iload_n 2, 1) := by decide +kernel
theorem dX6_step_199 : decode cX6_step 199 = .ok (.iload_n 3, 1) := by decide +kernel
theorem dX6_step_200 : decode cX6_step 200 = .ok (.invokevirtual 71, 3) := by decide +kernel
theorem dX6_step_203 : decode cX6_step 203 = .ok (.goto 47, 3) := by decide +kernel
theorem dX6_step_206 : decode cX6_step 206 = .ok (.iload_n 2, 1) := by decide +kernel
theorem dX6_step_207 : decode cX6_step 207 = .ok (.sipush 186, 3) := by decide +kernel
theorem dX6_step_210 : decode cX6_step 210 = .ok (.if_icmp .gt 12, 3) := by decide +kernel
theorem dX6_step_213 : decode cX6_step 213 = .ok (.aload_n 0, 1) := by decide +kernel
theorem dX6_step_214 : decode cX6_step 214 = .ok (.iload_n 2, 1) := by decide +kernel
theorem dX6_step_215 : decode cX6_step 215 = .ok (.iload_n 3, 1) := by decide +kernel
theorem dX6_step_216 : decode cX6_step 216 = .ok (.invokevirtual 74, 3) := by decide +kernel
theorem dX6_step_219 : decode cX6_step 219 = .ok (.goto 31, 3) := by decide +kernel
theorem dX6_step_222 : decode cX6_step 222 = .ok (.iload_n 2, 1) := by decide +kernel
theorem dX6_step_223 : decode cX6_step 223 = .ok (.sipush 189, 3) := by decide +kernel
theorem dX6_step_226 : decode cX6_step 226 = .ok (.if_icmp .le 10, 3) := by decide +kernel
theorem dX6_step_229 : decode cX6_step 229 = .ok (.iload_n 2, 1) := by decide +kernel
theorem dX6_step_230 : decode cX6_step 230 = .ok (.sipush 197, 3) := by decide +kernel
theorem dX6_step_233 : decode cX6_step 233 = .ok (.if_icmp .ne 11, 3) := by decide +kernel
theorem dX6_step_236 : decode cX6_step 236 = .ok (.aload_n 0, 1) := by decide +kernel
theorem dX6_step_237 : decode cX6_step 237 = .ok (.iload_n 1, 1) := by decide +kernel
theorem dX6_step_238 : decode cX6_step 238 = .ok (.invokevirtual 77, 3) := by decide +kernel
theorem dX6_step_241 : decode cX6_step 241 = .ok (.goto 9, 3) := by decide +kernel
theorem dX6_step_244 : decode cX6_step 244 = .ok (.aload_n 0, 1) := by decide +kernel
theorem dX6_step_245 : decode cX6_step 245 = .ok (.iload_n 2, 1) := by decide +kernel
theorem dX6_step_246 : decode cX6_step 246 = .ok (.iload_n 3, 1) := by decide +kernel
theorem dX6_step_247 : decode cX6_step 247 = .ok (.invokevirtual 80, 3) := by decide +kernel
theorem dX6_step_250 : decode cX6_step 250 = .ok (.return_, 1) := by decide +kernel
set_option maxRecDepth 20000 in
theorem ggX6_pushConstant_X5_pushType : GoodIn wsX6_pushConstant wsX5_pushType := goodIn_r _ [7, 8, 9, 10, 11, 12, 13, 14, 15, 16, 17, 18, 19, 6, 20, 21, 22, 23, 24, 25, 26, 27, 33, 34, 35, 36, 37, 38, 39, 40, 41, 42] rfl (by decide +kernel)
set_option maxRecDepth 20000 in
theorem gX6_pushConstant_X5_pushType : GoodIn wsX6_pushConstant (wsV RX6 83 RX5 yX5_pushType wsX5_pushType) := goodIn_app (goodIn_of _ (by decide +kernel)) ggX6_pushConstant_X5_pushType
set_option maxRecDepth 20000 in
theorem ggX6_pushConstant_X5_push : GoodIn wsX6_pushConstant wsX5_push := goodIn_r _ [20, 21, 22, 23, 24, 25, 26, 6, 27, 33, 34, 35, 36, 37, 38, 39, 40, 41, 42] rfl (by decide +kernel)
set_option maxRecDepth 20000 in
theorem gX6_pushConstant_X5_push : GoodIn wsX6_pushConstant (wsV RX6 88 RX5 yX5_push wsX5_push) := goodIn_app (goodIn_of _ (by decide +kernel)) ggX6_pushConstant_X5_push
theorem dX6_pushConstant_0 : decode cX6_pushConstant 0 = .ok (.iload_n 1, 1) := by decide +kernel
theorem dX6_pushConstant_1 : decode cX6_pushConstant 1 = .ok (.bipush 17, 2) := by decide +kernel
theorem dX6_pushConstant_3 : decode cX6_pushConstant 3 = .ok (.if_icmp .le 14, 3) := by decide +kernel
theorem dX6_pushConstant_6 : decode cX6_pushConstant 6 = .ok (.aload_n 0, 1) := by decide +kernel
theorem dX6_pushConstant_7 : decode cX6_pushConstant 7 = .ok (.getfield 23, 3) := by decide +kernel
theorem dX6_pushConstant_10 : decode cX6_pushConstant 10 = .ok (.iload_n 2, 1) := by decide +kernel
theorem dX6_pushConstant_11 : decode cX6_pushConstant 11 = .ok (.invokevirtual 83, 3) := by decide +kernel
theorem dX6_pushConstant_14 : decode cX6_pushConstant 14 = .ok (.goto 36, 3) := by decide +kernel
theorem dX6_pushConstant_17 : decode cX6_pushConstant 17 = .ok (.iload_n 1, 1) := by decide +kernel
theorem dX6_pushConstant_18 : decode cX6_pushConstant 18 = .ok (.bipush 15, 2) := by decide +kernel
theorem dX6_pushConstant_20 : decode cX6_pushConstant 20 = .ok (.if_icmp .le 14, 3) := by decide +kernel
theorem dX6_pushConstant_23 : decode cX6_pushConstant 23 = .ok (.aload_n 0, 1) := by decide +kernel
theorem dX6_pushConstant_24 : decode cX6_pushConstant 24 = .ok (.getfield 23, 3) := by decide +kernel
theorem dX6_pushConstant_27 : decode cX6_pushConstant 27 = .ok (.iconst 1, 1) := by decide +kernel
theorem dX6_pushConstant_28 : decode cX6_pushConstant 28 = .ok (.invokevirtual 88, 3) := by decide +kernel
theorem dX6_pushConstant_31 : decode cX6_pushConstant 31 = .ok (.goto 19, 3) := by decide +kernel
theorem dX6_pushConstant_34 : decode cX6_pushConstant 34 = .ok (.iload_n 1, 1) := by decide +kernel
theorem dX6_pushConstant_35 : decode cX6_pushConstant 35 = .ok (.ifCond .le 15, 3) := by decide +kernel
theorem dX6_pushConstant_38 : decode cX6_pushConstant 38 = .ok (.aload_n 0, 1) := by decide +kernel
theorem dX6_pushConstant_39 : decode cX6_pushConstant 39 = .ok (.getfield 23, 3) := by decide +kernel
theorem dX6_pushConstant_42 : decode cX6_pushConstant 42 = .ok (.getstatic 91, 3) := by decide +kernel
theorem dX6_pushConstant_45 : decode cX6_pushConstant 45 = .ok (.iload_n 1, 1) := by decide +kernel
theorem dX6_pushConstant_46 : decode cX6_pushConstant 46 = .ok (.iaload, 1) := by decide +kernel
theorem dX6_pushConstant_47 : decode cX6_pushConstant 47 = .ok (.invokevirtual 88, 3) := by decide +kernel
theorem dX6_pushConstant_50 : decode cX6_pushConstant 50 = .ok (.return_, 1) := by decide +kernel
set_option maxRecDepth 20000 in
theorem ggX6_load_X5_localAt : GoodIn wsX6_load wsX5_localAt := goodIn_r _ [7, 8, 9, 26, 27, 28, 29, 30, 31, 32, 33, 34, 35] rfl (by decide +kernel)
set_option maxRecDepth 20000 in
theorem gX6_load_X5_localAt : GoodIn wsX6_load (wsV RX6 94 RX5 yX5_localAt wsX5_localAt) := goodIn_app (goodIn_of _ (by decide +kernel)) ggX6_load_X5_localAt
set_option maxRecDepth 20000 in
theorem ggX6_load_X5_isAnyReference : GoodIn wsX6_load wsX5_isAnyReference := goodIn_r _ [11] rfl (by decide +kernel)
set_option maxRecDepth 20000 in
theorem gX6_load_X5_isAnyReference_n101 : GoodIn wsX6_load (wsX5_isAnyReference) := ggX6_load_X5_isAnyReference
set_option maxRecDepth 20000 in
theorem ggX6_load_X5_push : GoodIn wsX6_load wsX5_push := goodIn_r _ [15, 16, 17, 18, 9, 19, 20, 6, 21, 26, 27, 28, 29, 30, 31, 32, 33, 34, 35] rfl (by decide +kernel)
set_option maxRecDepth 20000 in
theorem gX6_load_X5_push : GoodIn wsX6_load (wsV RX6 88 RX5 yX5_push wsX5_push) := goodIn_app (goodIn_of _ (by decide +kernel)) ggX6_load_X5_push
theorem dX6_load_0 : decode cX6_load 0 = .ok (.aload_n 0, 1) := by decide +kernel
theorem dX6_load_1 : decode cX6_load 1 = .ok (.getfield 23, 3) := by decide +kernel
theorem dX6_load_4 : decode cX6_load 4 = .ok (.iload_n 2, 1) := by decide +kernel
theorem dX6_load_5 : decode cX6_load 5 = .ok (.invokevirtual 94, 3) := by decide +kernel
theorem dX6_load_8 : decode cX6_load 8 = .ok (.istore_n 3, 1) := by decide +kernel
theorem dX6_load_9 : decode cX6_load 9 = .ok (.iload_n 1, 1) := by decide +kernel
theorem dX6_load_10 : decode cX6_load 10 = .ok (.getstatic 98, 3) := by decide +kernel
theorem dX6_load_13 : decode cX6_load 13 = .ok (.arraylength, 1) := by decide +kernel
theorem dX6_load_14 : decode cX6_load 14 = .ok (.if_icmp .ge 20, 3) := by decide +kernel
theorem dX6_load_17 : decode cX6_load 17 = .ok (.iload_n 3, 1) := by decide +kernel
theorem dX6_load_18 : decode cX6_load 18 = .ok (.getstatic 98, 3) := by decide +kernel
theorem dX6_load_21 : decode cX6_load 21 = .ok (.iload_n 1, 1) := by decide +kernel
theorem dX6_load_22 : decode cX6_load 22 = .ok (.iaload, 1) := by decide +kernel
theorem dX6_load_23 : decode cX6_load 23 = .ok (.if_icmp .ne 7, 3) := by decide +kernel
theorem dX6_load_26 : decode cX6_load 26 = .ok (.iconst 1, 1) := by decide +kernel
theorem dX6_load_27 : decode cX6_load 27 = .ok (.goto 11, 3) := by decide +kernel
theorem dX6_load_30 : decode cX6_load 30 = .ok (.iconst 0, 1) := by decide +kernel
theorem dX6_load_31 : decode cX6_load 31 = .ok (.goto 7, 3) := by decide +kernel
theorem dX6_load_34 : decode cX6_load 34 = .ok (.iload_n 3, 1) := by decide +kernel
theorem dX6_load_35 : decode cX6_load 35 = .ok (.invokestatic 101, 3) := by decide +kernel
theorem dX6_load_38 : decode cX6_load 38 = .ok (.istore 4, 2) := by decide +kernel
theorem dX6_load_40 : decode cX6_load 40 = .ok (.iload 4, 2) := by decide +kernel
theorem dX6_load_42 : decode cX6_load 42 = .ok (.ifCond .eq 14, 3) := by decide +kernel
theorem dX6_load_45 : decode cX6_load 45 = .ok (.aload_n 0, 1) := by decide +kernel
theorem dX6_load_46 : decode cX6_load 46 = .ok (.getfield 23, 3) := by decide +kernel
theorem dX6_load_49 : decode cX6_load 49 = .ok (.iload_n 3, 1) := by decide +kernel
theorem dX6_load_50 : decode cX6_load 50 = .ok (.invokevirtual 88, 3) := by decide +kernel
theorem dX6_load_53 : decode cX6_load 53 = .ok (.goto 11, 3) := by decide +kernel
theorem dX6_load_56 : decode cX6_load 56 = .ok (.aload_n 0, 1) := by decide +kernel
theorem dX6_load_57 : decode cX6_load 57 = .ok (.getfield 23, 3) := by decide +kernel
theorem dX6_load_60 : decode cX6_load 60 = .ok (.iconst 1, 1) := by decide +kernel
theorem dX6_load_61 : decode cX6_load 61 = .ok (.putfield 105, 3) := by decide +kernel
theorem dX6_load_64 : decode cX6_load 64 = .ok (.return_, 1) := by decide +kernel
set_option maxRecDepth 20000 in
theorem ggX6_store_X5_pullKind : GoodIn wsX6_store wsX5_pullKind := goodIn_r _ [7, 8, 9, 10, 11, 12, 13, 6, 14, 30, 31, 32, 33, 34, 35, 36, 37, 38, 39] rfl (by decide +kernel)
set_option maxRecDepth 20000 in
theorem gX6_store_X5_pullKind : GoodIn wsX6_store (wsV RX6 109 RX5 yX5_pullKind wsX5_pullKind) := goodIn_app (goodIn_of _ (by decide +kernel)) ggX6_store_X5_pullKind
set_option maxRecDepth 20000 in
theorem ggX6_store_X5_setLocal : GoodIn wsX6_store wsX5_setLocal := goodIn_r _ [18, 9, 11, 10, 19, 12, 13, 6, 14, 30, 31, 32, 33, 34, 35, 36, 37, 38, 39] rfl (by decide +kernel)
set_option maxRecDepth 20000 in
theorem gX6_store_X5_setLocal : GoodIn wsX6_store (wsV RX6 112 RX5 yX5_setLocal wsX5_setLocal) := goodIn_app (goodIn_of _ (by decide +kernel)) ggX6_store_X5_setLocal
set_option maxRecDepth 20000 in
theorem ggX6_store_X5_pull : GoodIn wsX6_store wsX5_pull := goodIn_r _ [23, 8, 9, 10, 11, 30, 31, 32, 33, 34, 35, 36, 37, 38, 39] rfl (by decide +kernel)
set_option maxRecDepth 20000 in
theorem gX6_store_X5_pull : GoodIn wsX6_store (wsV RX6 115 RX5 yX5_pull wsX5_pull) := goodIn_app (goodIn_of _ (by decide +kernel)) ggX6_store_X5_pull
set_option maxRecDepth 20000 in
theorem ggX6_store_X5_isAnyReference : GoodIn wsX6_store wsX5_isAnyReference := goodIn_r _ [25] rfl (by decide +kernel)
set_option maxRecDepth 20000 in
theorem gX6_store_X5_isAnyReference_n101 : GoodIn wsX6_store (wsX5_isAnyReference) := ggX6_store_X5_isAnyReference
theorem dX6_store_0 : decode cX6_store 0 = .ok (.iload_n 1, 1) := by decide +kernel
theorem dX6_store_1 : decode cX6_store 1 = .ok (.getstatic 98, 3) := by decide +kernel
theorem dX6_store_4 : decode cX6_store 4 = .ok (.arraylength, 1) := by decide +kernel
theorem dX6_store_5 : decode cX6_store 5 = .ok (.if_icmp .ge 29, 3) := by decide +kernel
theorem dX6_store_8 : decode cX6_store 8 = .ok (.aload_n 0, 1) := by decide +kernel
theorem dX6_store_9 : decode cX6_store 9 = .ok (.getfield 23, 3) := by decide +kernel
theorem dX6_store_12 : decode cX6_store 12 = .ok (.getstatic 98, 3) := by decide +kernel
theorem dX6_store_15 : decode cX6_store 15 = .ok (.iload_n 1, 1) := by decide +kernel
theorem dX6_store_16 : decode cX6_store 16 = .ok (.iaload, 1) := by decide +kernel
theorem dX6_store_17 : decode cX6_store 17 = .ok (.invokevirtual 109, 3) := by decide +kernel
theorem dX6_store_20 : decode cX6_store 20 = .ok (.aload_n 0, 1) := by decide +kernel
theorem dX6_store_21 : decode cX6_store 21 = .ok (.getfield 23, 3) := by decide +kernel
theorem dX6_store_24 : decode cX6_store 24 = .ok (.iload_n 2, 1) := by decide +kernel
theorem dX6_store_25 : decode cX6_store 25 = .ok (.getstatic 98, 3) := by decide +kernel
theorem dX6_store_28 : decode cX6_store 28 = .ok (.iload_n 1, 1) := by decide +kernel
theorem dX6_store_29 : decode cX6_store 29 = .ok (.iaload, 1) := by decide +kernel
theorem dX6_store_30 : decode cX6_store 30 = .ok (.invokevirtual 112, 3) := by decide +kernel
theorem dX6_store_33 : decode cX6_store 33 = .ok (.return_, 1) := by decide +kernel
theorem dX6_store_34 : decode cX6_store 34 = .ok (.aload_n 0, 1) := by decide +kernel
theorem dX6_store_35 : decode cX6_store 35 = .ok (.getfield 23, 3) := by decide +kernel
theorem dX6_store_38 : decode cX6_store 38 = .ok (.invokevirtual 115, 3) := by decide +kernel
theorem dX6_store_41 : decode cX6_store 41 = .ok (.istore_n 3, 1) := by decide +kernel
theorem dX6_store_42 : decode cX6_store 42 = .ok (.iload_n 3, 1) := by decide +kernel
theorem dX6_store_43 : decode cX6_store 43 = .ok (.bipush 15, 2) := by decide +kernel
theorem dX6_store_45 : decode cX6_store 45 = .ok (.iand, 1) := by decide +kernel
theorem dX6_store_46 : decode cX6_store 46 = .ok (.bipush 10, 2) := by decide +kernel
theorem dX6_store_48 : decode cX6_store 48 = .ok (.if_icmp .eq 18, 3) := by decide +kernel
theorem dX6_store_51 : decode cX6_store 51 = .ok (.iload_n 3, 1) := by decide +kernel
theorem dX6_store_52 : decode cX6_store 52 = .ok (.invokestatic 101, 3) := by decide +kernel
theorem dX6_store_55 : decode cX6_store 55 = .ok (.ifCond .ne 11, 3) := by decide +kernel
theorem dX6_store_58 : decode cX6_store 58 = .ok (.aload_n 0, 1) := by decide +kernel
theorem dX6_store_59 : decode cX6_store 59 = .ok (.getfield 23, 3) := by decide +kernel
theorem dX6_store_62 : decode cX6_store 62 = .ok (.iconst 1, 1) := by decide +kernel
theorem dX6_store_63 : decode cX6_store 63 = .ok (.putfield 105, 3) := by decide +kernel
theorem dX6_store_66 : decode cX6_store 66 = .ok (.aload_n 0, 1) := by decide +kernel
theorem dX6_store_67 : decode cX6_store 67 = .ok (.getfield 23, 3) := by decide +kernel
theorem dX6_store_70 : decode cX6_store 70 = .ok (.iload_n 2, 1) := by decide +kernel
theorem dX6_store_71 : decode cX6_store 71 = .ok (.iload_n 3, 1) := by decide +kernel
theorem dX6_store_72 : decode cX6_store 72 = .ok (.invokevirtual 112, 3) := by decide +kernel
theorem dX6_store_75 : decode cX6_store 75 = .ok (.return_, 1) := by decide +kernel
set_option maxRecDepth 20000 in
theorem ggX6_increase_X5_localAt : GoodIn wsX6_increase wsX5_localAt := goodIn_r _ [6, 7, 8, 13, 14, 15, 16, 17, 18, 19, 20, 21, 22] rfl (by decide +kernel)
set_option maxRecDepth 20000 in
theorem gX6_increase_X5_localAt : GoodIn wsX6_increase (wsV RX6 94 RX5 yX5_localAt wsX5_localAt) := goodIn_app (goodIn_of _ (by decide +kernel)) ggX6_increase_X5_localAt
theorem dX6_increase_0 : decode cX6_increase 0 = .ok (.aload_n 0, 1) := by decide +kernel
theorem dX6_increase_1 : decode cX6_increase 1 = .ok (.getfield 23, 3) := by decide +kernel
theorem dX6_increase_4 : decode cX6_increase 4 = .ok (.iload_n 1, 1) := by decide +kernel
theorem dX6_increase_5 : decode cX6_increase 5 = .ok (.invokevirtual 94, 3) := by decide +kernel
theorem dX6_increase_8 : decode cX6_increase 8 = .ok (.iconst 1, 1) := by decide +kernel
theorem dX6_increase_9 : decode cX6_increase 9 = .ok (.if_icmp .eq 11, 3) := by decide +kernel
theorem dX6_increase_12 : decode cX6_increase 12 = .ok (.aload_n 0, 1) := by decide +kernel
theorem dX6_increase_13 : decode cX6_increase 13 = .ok (.getfield 23, 3) := by decide +kernel
theorem dX6_increase_16 : decode cX6_increase 16 = .ok (.iconst 1, 1) := by decide +kernel
theorem dX6_increase_17 : decode cX6_increase 17 = .ok (.putfield 105, 3) := by decide +kernel
theorem dX6_increase_20 : decode cX6_increase 20 = .ok (.return_, 1) := by decide +kernel
set_option maxRecDepth 20000 in
theorem ggX6_loadElement_X5_pullKind : GoodIn wsX6_loadElement wsX5_pullKind := goodIn_r _ [8, 9, 10, 11, 12, 13, 14, 7, 15, 56, 57, 58, 59, 60, 61, 62, 63, 64, 65] rfl (by decide +kernel)
set_option maxRecDepth 20000 in
theorem gX6_loadElement_X5_pullKind : GoodIn wsX6_loadElement (wsV RX6 109 RX5 yX5_pullKind wsX5_pullKind) := goodIn_app (goodIn_of _ (by decide +kernel)) ggX6_loadElement_X5_pullKind
set_option maxRecDepth 20000 in
theorem ggX6_loadElement_X5_pullArray : GoodIn wsX6_loadElement wsX5_pullArray := goodIn_r _ [19, 20, 12, 21, 22, 23, 7, 24, 9, 10, 11, 56, 57, 58, 59, 60, 61, 62, 63, 64, 65] rfl (by decide +kernel)
set_option maxRecDepth 20000 in
theorem gX6_loadElement_X5_pullArray : GoodIn wsX6_loadElement (wsV RX6 119 RX5 yX5_pullArray wsX5_pullArray) := goodIn_app (goodIn_of _ (by decide +kernel)) ggX6_loadElement_X5_pullArray
set_option maxRecDepth 20000 in
theorem ggX6_loadElement_X6_lookAtArray : GoodIn wsX6_loadElement wsX6_lookAtArray := goodIn_r _ [29, 2, 30, 31, 1, 52, 53, 54, 55, 56, 57, 58, 59, 60, 61, 62, 63, 64, 65] rfl (by decide +kernel)
set_option maxRecDepth 20000 in
theorem gX6_loadElement_X6_lookAtArray : GoodIn wsX6_loadElement (wsV RX6 126 RX6 yX6_lookAtArray wsX6_lookAtArray) := goodIn_app (goodIn_of _ (by decide +kernel)) ggX6_loadElement_X6_lookAtArray
set_option maxRecDepth 20000 in
theorem ggX6_loadElement_X5_pushType : GoodIn wsX6_loadElement wsX5_pushType := goodIn_r _ [35, 36, 37, 38, 39, 40, 41, 42, 43, 44, 45, 46, 47, 7, 48, 9, 49, 12, 11, 13, 14, 15, 56, 57, 58, 59, 60, 61, 62, 63, 64, 65] rfl (by decide +kernel)
set_option maxRecDepth 20000 in
theorem gX6_loadElement_X5_pushType : GoodIn wsX6_loadElement (wsV RX6 83 RX5 yX5_pushType wsX5_pushType) := goodIn_app (goodIn_of _ (by decide +kernel)) ggX6_loadElement_X5_pushType
set_option maxRecDepth 20000 in
theorem ggX6_loadElement_X5_push : GoodIn wsX6_loadElement wsX5_push := goodIn_r _ [48, 9, 49, 12, 11, 13, 14, 7, 15, 56, 57, 58, 59, 60, 61, 62, 63, 64, 65] rfl (by decide +kernel)
set_option maxRecDepth 20000 in
theorem gX6_loadElement_X5_push : GoodIn wsX6_loadElement (wsV RX6 88 RX5 yX5_push wsX5_push) := goodIn_app (goodIn_of _ (by decide +kernel)) ggX6_loadElement_X5_push
set_option maxRecDepth 20000 in
theorem ggX6_loadElement_X7_isPrimitive : GoodIn wsX6_loadElement wsX7_isPrimitive := goodIn_r _ [42, 43, 44] rfl (by decide +kernel)
set_option maxRecDepth 20000 in
theorem gX6_loadElement_X7_isPrimitive : GoodIn wsX6_loadElement (va_wsS RX6 129 yX7_isPrimitive wsX7_isPrimitive) := goodIn_app (goodIn_of _ (by decide +kernel)) ggX6_loadElement_X7_isPrimitive
theorem dX6_loadElement_0 : decode cX6_loadElement 0 = .ok (.aload_n 0, 1) := by decide +kernel
theorem dX6_loadElement_1 : decode cX6_loadElement 1 = .ok (.getfield 23, 3) := by decide +kernel
theorem dX6_loadElement_4 : decode cX6_loadElement 4 = .ok (.iconst 1, 1) := by decide +kernel
theorem dX6_loadElement_5 : decode cX6_loadElement 5 = .ok (.invokevirtual 109, 3) := by decide +kernel
theorem dX6_loadElement_8 : decode cX6_loadElement 8 = .ok (.aload_n 0, 1) := by decide +kernel
theorem dX6_loadElement_9 : decode cX6_loadElement 9 = .ok (.getfield 23, 3) := by decide +kernel
theorem dX6_loadElement_12 : decode cX6_loadElement 12 = .ok (.invokevirtual 119, 3) := by decide +kernel
theorem dX6_loadElement_15 : decode cX6_loadElement 15 = .ok (.istore_n 2, 1) := by decide +kernel
theorem dX6_loadElement_16 : decode cX6_loadElement 16 = .ok (.iload_n 2, 1) := by decide +kernel
theorem dX6_loadElement_17 : decode cX6_loadElement 17 = .ok (.ldc 122, 2) := by decide +kernel
theorem dX6_loadElement_19 : decode cX6_loadElement 19 = .ok (.isub, 1) := by decide +kernel
theorem dX6_loadElement_20 : decode cX6_loadElement 20 = .ok (.istore_n 3, 1) := by decide +kernel
theorem dX6_loadElement_21 : decode cX6_loadElement 21 = .ok (.getstatic 123, 3) := by decide +kernel
theorem dX6_loadElement_24 : decode cX6_loadElement 24 = .ok (.iload_n 1, 1) := by decide +kernel
theorem dX6_loadElement_25 : decode cX6_loadElement 25 = .ok (.iaload, 1) := by decide +kernel
theorem dX6_loadElement_26 : decode cX6_loadElement 26 = .ok (.ifCond .eq 28, 3) := by decide +kernel
theorem dX6_loadElement_29 : decode cX6_loadElement 29 = .ok (.aload_n 0, 1) := by decide +kernel
theorem dX6_loadElement_30 : decode cX6_loadElement 30 = .ok (.iload_n 2, 1) := by decide +kernel
theorem dX6_loadElement_31 : decode cX6_loadElement 31 = .ok (.getstatic 123, 3) := by decide +kernel
theorem dX6_loadElement_34 : decode cX6_loadElement 34 = .ok (.iload_n 1, 1) := by decide +kernel
theorem dX6_loadElement_35 : decode cX6_loadElement 35 = .ok (.iaload, 1) := by decide +kernel
theorem dX6_loadElement_36 : decode cX6_loadElement 36 = .ok (.invokevirtual 126, 3) := by decide +kernel
theorem dX6_loadElement_39 : decode cX6_loadElement 39 = .ok (.aload_n 0, 1) := by decide +kernel
theorem dX6_loadElement_40 : decode cX6_loadElement 40 = .ok (.getfield 23, 3) := by decide +kernel
theorem dX6_loadElement_43 : decode cX6_loadElement 43 = .ok (.getstatic 123, 3) := by decide +kernel
theorem dX6_loadElement_46 : decode cX6_loadElement 46 = .ok (.iload_n 1, 1) := by decide +kernel
theorem dX6_loadElement_47 : decode cX6_loadElement 47 = .ok (.iaload, 1) := by decide +kernel
theorem dX6_loadElement_48 : decode cX6_loadElement 48 = .ok (.invokevirtual 83, 3) := by decide +kernel
theorem dX6_loadElement_51 : decode cX6_loadElement 51 = .ok (.goto 44, 3) := by decide +kernel
theorem dX6_loadElement_54 : decode cX6_loadElement 54 = .ok (.iload_n 2, 1) := by decide +kernel
theorem dX6_loadElement_55 : decode cX6_loadElement 55 = .ok (.ifCond .ge 14, 3) := by decide +kernel
theorem dX6_loadElement_58 : decode cX6_loadElement 58 = .ok (.aload_n 0, 1) := by decide +kernel
theorem dX6_loadElement_59 : decode cX6_loadElement 59 = .ok (.getfield 23, 3) := by decide +kernel
theorem dX6_loadElement_62 : decode cX6_loadElement 62 = .ok (.iconst 5, 1) := by decide +kernel
theorem dX6_loadElement_63 : decode cX6_loadElement 63 = .ok (.invokevirtual 88, 3) := by decide +kernel
theorem dX6_loadElement_66 : decode cX6_loadElement 66 = .ok (.goto 29, 3) := by decide +kernel
theorem dX6_loadElement_69 : decode cX6_loadElement 69 = .ok (.iload_n 3, 1) := by decide +kernel
theorem dX6_loadElement_70 : decode cX6_loadElement 70 = .ok (.invokestatic 129, 3) := by decide +kernel
theorem dX6_loadElement_73 : decode cX6_loadElement 73 = .ok (.ifCond .eq 14, 3) := by decide +kernel
theorem dX6_loadElement_76 : decode cX6_loadElement 76 = .ok (.aload_n 0, 1) := by decide +kernel
theorem dX6_loadElement_77 : decode cX6_loadElement 77 = .ok (.getfield 23, 3) := by decide +kernel
theorem dX6_loadElement_80 : decode cX6_loadElement 80 = .ok (.iconst 1, 1) := by decide +kernel
theorem dX6_loadElement_81 : decode cX6_loadElement 81 = .ok (.putfield 105, 3) := by decide +kernel
theorem dX6_loadElement_84 : decode cX6_loadElement 84 = .ok (.goto 11, 3) := by decide +kernel
theorem dX6_loadElement_87 : decode cX6_loadElement 87 = .ok (.aload_n 0, 1) := by decide +kernel
theorem dX6_loadElement_88 : decode cX6_loadElement 88 = .ok (.getfield 23, 3) := by decide +kernel
theorem dX6_loadElement_91 : decode cX6_loadElement 91 = .ok (.iload_n 3, 1) := by decide +kernel
theorem dX6_loadElement_92 : decode cX6_loadElement 92 = .ok (.invokevirtual 83, 3) := by decide +kernel
theorem dX6_loadElement_95 : decode cX6_loadElement 95 = .ok (.return_, 1) := by decide +kernel
def ckX6_storeElement : List (List Cond) := [[.code yX6_storeElement cX6_storeElement 2 none], wsX6_storeElement_r1, wsX6_storeElement_r2, wsX6_storeElement_r3, wsX60, wsX50, wsX70]
theorem ckX6_storeElementl : wsX6_storeElement = ckX6_storeElement.flatten := by
  simp only [wsX6_storeElement, ckX6_storeElement, List.flatten_cons, List.flatten_nil, List.append_assoc, List.append_nil, List.cons_append, List.nil_append]
set_option maxRecDepth 20000 in
theorem ggX6_storeElement_X5_pullType : GoodIn wsX6_storeElement wsX5_pullType := goodIn_t ckX6_storeElement ckX6_storeElementl _ [(1, 7), (1, 8), (1, 9), (1, 10), (1, 11), (1, 12), (1, 13), (1, 14), (1, 15), (1, 16), (1, 17), (1, 18), (1, 19), (1, 20), (1, 21), (1, 22), (1, 23), (2, 0), (2, 1), (1, 6), (2, 2), (2, 3), (2, 4), (2, 5), (2, 6), (2, 7), (2, 8), (2, 9), (2, 10), (2, 11), (2, 12), (2, 13), (2, 14), (2, 15), (2, 16), (2, 17), (2, 18), (2, 19), (2, 20), (2, 21), (2, 22), (2, 23), (3, 0), (3, 1), (3, 2), (3, 3), (3, 4), (3, 5), (3, 6), (3, 7), (5, 0), (5, 1), (5, 2), (5, 3), (5, 4), (5, 5), (5, 6), (5, 7), (5, 8), (5, 9), (6, 0), (6, 1), (6, 2)] rfl (by decide +kernel)
set_option maxRecDepth 20000 in
theorem gX6_storeElement_X5_pullType : GoodIn wsX6_storeElement (wsV RX6 134 RX5 yX5_pullType wsX5_pullType) := goodIn_app (goodIn_of _ (by decide +kernel)) ggX6_storeElement_X5_pullType
set_option maxRecDepth 20000 in
theorem ggX6_storeElement_X5_pullKind : GoodIn wsX6_storeElement wsX5_pullKind := goodIn_r _ [27, 28, 29, 30, 9, 31, 32, 7, 33, 74, 75, 76, 77, 78, 79, 80, 81, 82, 83] rfl (by decide +kernel)
set_option maxRecDepth 20000 in
theorem gX6_storeElement_X5_pullKind : GoodIn wsX6_storeElement (wsV RX6 109 RX5 yX5_pullKind wsX5_pullKind) := goodIn_app (goodIn_of _ (by decide +kernel)) ggX6_storeElement_X5_pullKind
set_option maxRecDepth 20000 in
theorem ggX6_storeElement_X5_pullArray : GoodIn wsX6_storeElement wsX5_pullArray := goodIn_r _ [61, 62, 9, 34, 35, 36, 7, 37, 28, 29, 30, 74, 75, 76, 77, 78, 79, 80, 81, 82, 83] rfl (by decide +kernel)
set_option maxRecDepth 20000 in
theorem gX6_storeElement_X5_pullArray : GoodIn wsX6_storeElement (wsV RX6 119 RX5 yX5_pullArray wsX5_pullArray) := goodIn_app (goodIn_of _ (by decide +kernel)) ggX6_storeElement_X5_pullArray
set_option maxRecDepth 20000 in
theorem ggX6_storeElement_X6_lookAtArray : GoodIn wsX6_storeElement wsX6_lookAtArray := goodIn_r _ [67, 3, 68, 69, 2, 70, 71, 72, 73, 74, 75, 76, 77, 78, 79, 80, 81, 82, 83] rfl (by decide +kernel)
set_option maxRecDepth 20000 in
theorem gX6_storeElement_X6_lookAtArray : GoodIn wsX6_storeElement (wsV RX6 126 RX6 yX6_lookAtArray wsX6_lookAtArray) := goodIn_app (goodIn_of _ (by decide +kernel)) ggX6_storeElement_X6_lookAtArray
theorem dX6_storeElement_0 : decode cX6_storeElement 0 = .ok (.getstatic 123, 3) := by decide +kernel
theorem dX6_storeElement_3 : decode cX6_storeElement 3 = .ok (.iload_n 1, 1) := by decide +kernel
theorem dX6_storeElement_4 : decode cX6_storeElement 4 = .ok (.iaload, 1) := by decide +kernel
theorem dX6_storeElement_5 : decode cX6_storeElement 5 = .ok (.ifCond .ne 29, 3) := by decide +kernel
theorem dX6_storeElement_8 : decode cX6_storeElement 8 = .ok (.aload_n 0, 1) := by decide +kernel
theorem dX6_storeElement_9 : decode cX6_storeElement 9 = .ok (.getfield 23, 3) := by decide +kernel
theorem dX6_storeElement_12 : decode cX6_storeElement 12 = .ok (.iconst 0, 1) := by decide +kernel
theorem dX6_storeElement_13 : decode cX6_storeElement 13 = .ok (.invokevirtual 134, 3) := by decide +kernel
theorem dX6_storeElement_16 : decode cX6_storeElement 16 = .ok (.aload_n 0, 1) := by decide +kernel
theorem dX6_storeElement_17 : decode cX6_storeElement 17 = .ok (.getfield 23, 3) := by decide +kernel
theorem dX6_storeElement_20 : decode cX6_storeElement 20 = .ok (.iconst 1, 1) := by decide +kernel
theorem dX6_storeElement_21 : decode cX6_storeElement 21 = .ok (.invokevirtual 109, 3) := by decide +kernel
theorem dX6_storeElement_24 : decode cX6_storeElement 24 = .ok (.aload_n 0, 1) := by decide +kernel
theorem dX6_storeElement_25 : decode cX6_storeElement 25 = .ok (.getfield 23, 3) := by decide +kernel
theorem dX6_storeElement_28 : decode cX6_storeElement 28 = .ok (.ldc 122, 2) := by decide +kernel
theorem dX6_storeElement_30 : decode cX6_storeElement 30 = .ok (.invokevirtual 134, 3) := by decide +kernel
theorem dX6_storeElement_33 : decode cX6_storeElement 33 = .ok (.return_, 1) := by decide +kernel
theorem dX6_storeElement_34 : decode cX6_storeElement 34 = .ok (.aload_n 0, 1) := by decide +kernel
theorem dX6_storeElement_35 : decode cX6_storeElement 35 = .ok (.getfield 23, 3) := by decide +kernel
theorem dX6_storeElement_38 : decode cX6_storeElement 38 = .ok (.getstatic 123, 3) := by decide +kernel
theorem dX6_storeElement_41 : decode cX6_storeElement 41 = .ok (.iload_n 1, 1) := by decide +kernel
theorem dX6_storeElement_42 : decode cX6_storeElement 42 = .ok (.iaload, 1) := by decide +kernel
theorem dX6_storeElement_43 : decode cX6_storeElement 43 = .ok (.invokevirtual 134, 3) := by decide +kernel
theorem dX6_storeElement_46 : decode cX6_storeElement 46 = .ok (.aload_n 0, 1) := by decide +kernel
theorem dX6_storeElement_47 : decode cX6_storeElement 47 = .ok (.getfield 23, 3) := by decide +kernel
theorem dX6_storeElement_50 : decode cX6_storeElement 50 = .ok (.iconst 1, 1) := by decide +kernel
theorem dX6_storeElement_51 : decode cX6_storeElement 51 = .ok (.invokevirtual 109, 3) := by decide +kernel
theorem dX6_storeElement_54 : decode cX6_storeElement 54 = .ok (.aload_n 0, 1) := by decide +kernel
theorem dX6_storeElement_55 : decode cX6_storeElement 55 = .ok (.aload_n 0, 1) := by decide +kernel
theorem dX6_storeElement_56 : decode cX6_storeElement 56 = .ok (.getfield 23, 3) := by decide +kernel
theorem dX6_storeElement_59 : decode cX6_storeElement 59 = .ok (.invokevirtual 119, 3) := by decide +kernel
theorem dX6_storeElement_62 : decode cX6_storeElement 62 = .ok (.getstatic 123, 3) := by decide +kernel
theorem dX6_storeElement_65 : decode cX6_storeElement 65 = .ok (.iload_n 1, 1) := by decide +kernel
theorem dX6_storeElement_66 : decode cX6_storeElement 66 = .ok (.iaload, 1) := by decide +kernel
theorem dX6_storeElement_67 : decode cX6_storeElement 67 = .ok (.invokevirtual 126, 3) := by decide +kernel
theorem dX6_storeElement_70 : decode cX6_storeElement 70 = .ok (.return_, 1) := by decide +kernel
theorem dX6_lookAtArray_0 : decode cX6_lookAtArray 0 = .ok (.iload_n 1, 1) := by decide +kernel
theorem dX6_lookAtArray_1 : decode cX6_lookAtArray 1 = .ok (.ifCond .lt 23, 3) := by decide +kernel
theorem dX6_lookAtArray_4 : decode cX6_lookAtArray 4 = .ok (.iload_n 1, 1) := by decide +kernel
theorem dX6_lookAtArray_5 : decode cX6_lookAtArray 5 = .ok (.ldc 122, 2) := by decide +kernel
theorem dX6_lookAtArray_7 : decode cX6_lookAtArray 7 = .ok (.iload_n 2, 1) := by decide +kernel
theorem dX6_lookAtArray_8 : decode cX6_lookAtArray 8 = .ok (.iadd, 1) := by decide +kernel
theorem dX6_lookAtArray_9 : decode cX6_lookAtArray 9 = .ok (.if_icmp .eq 15, 3) := by decide +kernel
theorem dX6_lookAtArray_12 : decode cX6_lookAtArray 12 = .ok (.iload_n 2, 1) := by decide +kernel
theorem dX6_lookAtArray_13 : decode cX6_lookAtArray 13 = .ok (.ldc 137, 2) := by decide +kernel
theorem dX6_lookAtArray_15 : decode cX6_lookAtArray 15 = .ok (.if_icmp .ne 13, 3) := by decide +kernel
theorem dX6_lookAtArray_18 : decode cX6_lookAtArray 18 = .ok (.iload_n 1, 1) := by decide +kernel
theorem dX6_lookAtArray_19 : decode cX6_lookAtArray 19 = .ok (.ldc 138, 2) := by decide +kernel
theorem dX6_lookAtArray_21 : decode cX6_lookAtArray 21 = .ok (.if_icmp .ne 7, 3) := by decide +kernel
theorem dX6_lookAtArray_24 : decode cX6_lookAtArray 24 = .ok (.iconst 1, 1) := by decide +kernel
theorem dX6_lookAtArray_25 : decode cX6_lookAtArray 25 = .ok (.goto 4, 3) := by decide +kernel
theorem dX6_lookAtArray_28 : decode cX6_lookAtArray 28 = .ok (.iconst 0, 1) := by decide +kernel
theorem dX6_lookAtArray_29 : decode cX6_lookAtArray 29 = .ok (.istore_n 3, 1) := by decide +kernel
theorem dX6_lookAtArray_30 : decode cX6_lookAtArray 30 = .ok (.aload_n 0, 1) := by decide +kernel
theorem dX6_lookAtArray_31 : decode cX6_lookAtArray 31 = .ok (.getfield 23, 3) := by decide +kernel
theorem dX6_lookAtArray_34 : decode cX6_lookAtArray 34 = .ok (.aload_n 0, 1) := by decide +kernel
theorem dX6_lookAtArray_35 : decode cX6_lookAtArray 35 = .ok (.getfield 23, 3) := by decide +kernel
theorem dX6_lookAtArray_38 : decode cX6_lookAtArray 38 = .ok (.getfield 105, 3) := by decide +kernel
theorem dX6_lookAtArray_41 : decode cX6_lookAtArray 41 = .ok (.ifCond .ne 7, 3) := by decide +kernel
theorem dX6_lookAtArray_44 : decode cX6_lookAtArray 44 = .ok (.iload_n 3, 1) := by decide +kernel
theorem dX6_lookAtArray_45 : decode cX6_lookAtArray 45 = .ok (.ifCond .ne 7, 3) := by decide +kernel
theorem dX6_lookAtArray_48 : decode cX6_lookAtArray 48 = .ok (.iconst 1, 1) := by decide +kernel
theorem dX6_lookAtArray_49 : decode cX6_lookAtArray 49 = .ok (.goto 4, 3) := by decide +kernel
theorem dX6_lookAtArray_52 : decode cX6_lookAtArray 52 = .ok (.iconst 0, 1) := by decide +kernel
theorem dX6_lookAtArray_53 : decode cX6_lookAtArray 53 = .ok (.putfield 105, 3) := by decide +kernel
theorem dX6_lookAtArray_56 : decode cX6_lookAtArray 56 = .ok (.return_, 1) := by decide +kernel
set_option maxRecDepth 20000 in
theorem ggX6_shuffle_X5_drop : GoodIn wsX6_shuffle wsX5_drop := goodIn_r _ [8, 9, 10, 11, 12, 30, 31, 32, 33, 34, 35, 36, 37, 38, 39] rfl (by decide +kernel)
set_option maxRecDepth 20000 in
theorem gX6_shuffle_X5_drop : GoodIn wsX6_shuffle (wsV RX6 139 RX5 yX5_drop wsX5_drop) := goodIn_app (goodIn_of _ (by decide +kernel)) ggX6_shuffle_X5_drop
set_option maxRecDepth 20000 in
theorem ggX6_shuffle_X5_copyUnder : GoodIn wsX6_shuffle wsX5_copyUnder := goodIn_r _ [16, 9, 10, 17, 11, 12, 30, 31, 32, 33, 34, 35, 36, 37, 38, 39] rfl (by decide +kernel)
set_option maxRecDepth 20000 in
theorem gX6_shuffle_X5_copyUnder : GoodIn wsX6_shuffle (wsV RX6 148 RX5 yX5_copyUnder wsX5_copyUnder) := goodIn_app (goodIn_of _ (by decide +kernel)) ggX6_shuffle_X5_copyUnder
set_option maxRecDepth 20000 in
theorem ggX6_shuffle_X5_exchange : GoodIn wsX6_shuffle wsX5_exchange := goodIn_r _ [21, 12, 11, 9, 22, 23, 24, 7, 25, 10, 30, 31, 32, 33, 34, 35, 36, 37, 38, 39] rfl (by decide +kernel)
set_option maxRecDepth 20000 in
theorem gX6_shuffle_X5_exchange : GoodIn wsX6_shuffle (wsV RX6 151 RX5 yX5_exchange wsX5_exchange) := goodIn_app (goodIn_of _ (by decide +kernel)) ggX6_shuffle_X5_exchange
theorem dX6_shuffle_0 : decode cX6_shuffle 0 = .ok (.iload_n 1, 1) := by decide +kernel
theorem dX6_shuffle_1 : decode cX6_shuffle 1 = .ok (.bipush 88, 2) := by decide +kernel
theorem dX6_shuffle_3 : decode cX6_shuffle 3 = .ok (.if_icmp .gt 17, 3) := by decide +kernel
theorem dX6_shuffle_6 : decode cX6_shuffle 6 = .ok (.aload_n 0, 1) := by decide +kernel
theorem dX6_shuffle_7 : decode cX6_shuffle 7 = .ok (.getfield 23, 3) := by decide +kernel
theorem dX6_shuffle_10 : decode cX6_shuffle 10 = .ok (.iload_n 1, 1) := by decide +kernel
theorem dX6_shuffle_11 : decode cX6_shuffle 11 = .ok (.bipush 86, 2) := by decide +kernel
theorem dX6_shuffle_13 : decode cX6_shuffle 13 = .ok (.isub, 1) := by decide +kernel
theorem dX6_shuffle_14 : decode cX6_shuffle 14 = .ok (.invokevirtual 139, 3) := by decide +kernel
theorem dX6_shuffle_17 : decode cX6_shuffle 17 = .ok (.goto 42, 3) := by decide +kernel
theorem dX6_shuffle_20 : decode cX6_shuffle 20 = .ok (.iload_n 1, 1) := by decide +kernel
theorem dX6_shuffle_21 : decode cX6_shuffle 21 = .ok (.bipush 94, 2) := by decide +kernel
theorem dX6_shuffle_23 : decode cX6_shuffle 23 = .ok (.if_icmp .gt 29, 3) := by decide +kernel
theorem dX6_shuffle_26 : decode cX6_shuffle 26 = .ok (.aload_n 0, 1) := by decide +kernel
theorem dX6_shuffle_27 : decode cX6_shuffle 27 = .ok (.getfield 23, 3) := by decide +kernel
theorem dX6_shuffle_30 : decode cX6_shuffle 30 = .ok (.getstatic 142, 3) := by decide +kernel
theorem dX6_shuffle_33 : decode cX6_shuffle 33 = .ok (.iload_n 1, 1) := by decide +kernel
theorem dX6_shuffle_34 : decode cX6_shuffle 34 = .ok (.bipush 89, 2) := by decide +kernel
theorem dX6_shuffle_36 : decode cX6_shuffle 36 = .ok (.isub, 1) := by decide +kernel
theorem dX6_shuffle_37 : decode cX6_shuffle 37 = .ok (.iaload, 1) := by decide +kernel
theorem dX6_shuffle_38 : decode cX6_shuffle 38 = .ok (.getstatic 145, 3) := by decide +kernel
theorem dX6_shuffle_41 : decode cX6_shuffle 41 = .ok (.iload_n 1, 1) := by decide +kernel
theorem dX6_shuffle_42 : decode cX6_shuffle 42 = .ok (.bipush 89, 2) := by decide +kernel
theorem dX6_shuffle_44 : decode cX6_shuffle 44 = .ok (.isub, 1) := by decide +kernel
theorem dX6_shuffle_45 : decode cX6_shuffle 45 = .ok (.iaload, 1) := by decide +kernel
theorem dX6_shuffle_46 : decode cX6_shuffle 46 = .ok (.invokevirtual 148, 3) := by decide +kernel
theorem dX6_shuffle_49 : decode cX6_shuffle 49 = .ok (.goto 10, 3) := by decide +kernel
theorem dX6_shuffle_52 : decode cX6_shuffle 52 = .ok (.aload_n 0, 1) := by decide +kernel
theorem dX6_shuffle_53 : decode cX6_shuffle 53 = .ok (.getfield 23, 3) := by decide +kernel
theorem dX6_shuffle_56 : decode cX6_shuffle 56 = .ok (.invokevirtual 151, 3) := by decide +kernel
theorem dX6_shuffle_59 : decode cX6_shuffle 59 = .ok (.return_, 1) := by decide +kernel
set_option maxRecDepth 20000 in
theorem ggX6_reckon_X5_pullKind : GoodIn wsX6_reckon wsX5_pullKind := goodIn_r _ [6, 7, 8, 9, 10, 11, 12, 5, 13, 23, 24, 25, 26, 27, 28, 29, 30, 31, 32] rfl (by decide +kernel)
set_option maxRecDepth 20000 in
theorem gX6_reckon_X5_pullKind : GoodIn wsX6_reckon (wsV RX6 109 RX5 yX5_pullKind wsX5_pullKind) := goodIn_app (goodIn_of _ (by decide +kernel)) ggX6_reckon_X5_pullKind
set_option maxRecDepth 20000 in
theorem ggX6_reckon_X5_push : GoodIn wsX6_reckon wsX5_push := goodIn_r _ [17, 7, 18, 10, 9, 11, 12, 5, 13, 23, 24, 25, 26, 27, 28, 29, 30, 31, 32] rfl (by decide +kernel)
set_option maxRecDepth 20000 in
theorem gX6_reckon_X5_push : GoodIn wsX6_reckon (wsV RX6 88 RX5 yX5_push wsX5_push) := goodIn_app (goodIn_of _ (by decide +kernel)) ggX6_reckon_X5_push
theorem dX6_reckon_0 : decode cX6_reckon 0 = .ok (.iload_n 1, 1) := by decide +kernel
theorem dX6_reckon_1 : decode cX6_reckon 1 = .ok (.bipush 10, 2) := by decide +kernel
theorem dX6_reckon_3 : decode cX6_reckon 3 = .ok (.idiv, 1) := by decide +kernel
theorem dX6_reckon_4 : decode cX6_reckon 4 = .ok (.istore_n 2, 1) := by decide +kernel
theorem dX6_reckon_5 : decode cX6_reckon 5 = .ok (.iconst 0, 1) := by decide +kernel
theorem dX6_reckon_6 : decode cX6_reckon 6 = .ok (.istore_n 3, 1) := by decide +kernel
theorem dX6_reckon_7 : decode cX6_reckon 7 = .ok (.iload_n 3, 1) := by decide +kernel
theorem dX6_reckon_8 : decode cX6_reckon 8 = .ok (.iconst 2, 1) := by decide +kernel
theorem dX6_reckon_9 : decode cX6_reckon 9 = .ok (.if_icmp .ge 29, 3) := by decide +kernel
theorem dX6_reckon_12 : decode cX6_reckon 12 = .ok (.iload_n 2, 1) := by decide +kernel
theorem dX6_reckon_13 : decode cX6_reckon 13 = .ok (.ifCond .le 25, 3) := by decide +kernel
theorem dX6_reckon_16 : decode cX6_reckon 16 = .ok (.aload_n 0, 1) := by decide +kernel
theorem dX6_reckon_17 : decode cX6_reckon 17 = .ok (.getfield 23, 3) := by decide +kernel
theorem dX6_reckon_20 : decode cX6_reckon 20 = .ok (.iload_n 2, 1) := by decide +kernel
theorem dX6_reckon_21 : decode cX6_reckon 21 = .ok (.bipush 10, 2) := by decide +kernel
theorem dX6_reckon_23 : decode cX6_reckon 23 = .ok (.irem, 1) := by decide +kernel
theorem dX6_reckon_24 : decode cX6_reckon 24 = .ok (.invokevirtual 109, 3) := by decide +kernel
theorem dX6_reckon_27 : decode cX6_reckon 27 = .ok (.iload_n 2, 1) := by decide +kernel
theorem dX6_reckon_28 : decode cX6_reckon 28 = .ok (.bipush 10, 2) := by decide +kernel
theorem dX6_reckon_30 : decode cX6_reckon 30 = .ok (.idiv, 1) := by decide +kernel
theorem dX6_reckon_31 : decode cX6_reckon 31 = .ok (.istore_n 2, 1) := by decide +kernel
theorem dX6_reckon_32 : decode cX6_reckon 32 = .ok (.iinc 3 1, 3) := by decide +kernel
theorem dX6_reckon_35 : decode cX6_reckon 35 = .ok (.goto (-28), 3) := by decide +kernel
theorem dX6_reckon_38 : decode cX6_reckon 38 = .ok (.aload_n 0, 1) := by decide +kernel
theorem dX6_reckon_39 : decode cX6_reckon 39 = .ok (.getfield 23, 3) := by decide +kernel
theorem dX6_reckon_42 : decode cX6_reckon 42 = .ok (.iload_n 1, 1) := by decide +kernel
theorem dX6_reckon_43 : decode cX6_reckon 43 = .ok (.bipush 10, 2) := by decide +kernel
theorem dX6_reckon_45 : decode cX6_reckon 45 = .ok (.irem, 1) := by decide +kernel
theorem dX6_reckon_46 : decode cX6_reckon 46 = .ok (.invokevirtual 88, 3) := by decide +kernel
theorem dX6_reckon_49 : decode cX6_reckon 49 = .ok (.return_, 1) := by decide +kernel
set_option maxRecDepth 20000 in
theorem ggX6_branch_X5_push : GoodIn wsX6_branch wsX5_push := goodIn_r _ [7, 8, 9, 10, 11, 12, 13, 6, 14, 56, 57, 58, 59, 60, 61, 62, 63, 64, 65] rfl (by decide +kernel)
set_option maxRecDepth 20000 in
theorem gX6_branch_X5_push : GoodIn wsX6_branch (wsV RX6 88 RX5 yX5_push wsX5_push) := goodIn_app (goodIn_of _ (by decide +kernel)) ggX6_branch_X5_push
set_option maxRecDepth 20000 in
theorem ggX6_branch_X5_pullReference : GoodIn wsX6_branch wsX5_pullReference := goodIn_r _ [18, 10, 19, 20, 21, 6, 22, 8, 23, 11, 24, 25, 26, 56, 57, 58, 59, 60, 61, 62, 63, 64, 65] rfl (by decide +kernel)
set_option maxRecDepth 20000 in
theorem gX6_branch_X5_pullReference : GoodIn wsX6_branch (wsV RX6 154 RX5 yX5_pullReference wsX5_pullReference) := goodIn_app (goodIn_of _ (by decide +kernel)) ggX6_branch_X5_pullReference
set_option maxRecDepth 20000 in
theorem ggX6_branch_X0_isSwitch : GoodIn wsX6_branch wsX0_isSwitch := goodIn_r _ [30] rfl (by decide +kernel)
set_option maxRecDepth 20000 in
theorem gX6_branch_X0_isSwitch : GoodIn wsX6_branch (va_wsS RX6 157 yX0_isSwitch wsX0_isSwitch) := goodIn_app (goodIn_of _ (by decide +kernel)) ggX6_branch_X0_isSwitch
set_option maxRecDepth 20000 in
theorem ggX6_branch_X5_pullKind : GoodIn wsX6_branch wsX5_pullKind := goodIn_r _ [34, 8, 23, 11, 10, 12, 13, 6, 14, 56, 57, 58, 59, 60, 61, 62, 63, 64, 65] rfl (by decide +kernel)
set_option maxRecDepth 20000 in
theorem gX6_branch_X5_pullKind : GoodIn wsX6_branch (wsV RX6 109 RX5 yX5_pullKind wsX5_pullKind) := goodIn_app (goodIn_of _ (by decide +kernel)) ggX6_branch_X5_pullKind
theorem dX6_branch_0 : decode cX6_branch 0 = .ok (.aload_n 0, 1) := by decide +kernel
theorem dX6_branch_1 : decode cX6_branch 1 = .ok (.getfield 19, 3) := by decide +kernel
theorem dX6_branch_4 : decode cX6_branch 4 = .ok (.getfield 27, 3) := by decide +kernel
theorem dX6_branch_7 : decode cX6_branch 7 = .ok (.iload_n 1, 1) := by decide +kernel
theorem dX6_branch_8 : decode cX6_branch 8 = .ok (.iaload, 1) := by decide +kernel
theorem dX6_branch_9 : decode cX6_branch 9 = .ok (.istore_n 2, 1) := by decide +kernel
theorem dX6_branch_10 : decode cX6_branch 10 = .ok (.iload_n 2, 1) := by decide +kernel
theorem dX6_branch_11 : decode cX6_branch 11 = .ok (.sipush 168, 3) := by decide +kernel
theorem dX6_branch_14 : decode cX6_branch 14 = .ok (.if_icmp .ne 22, 3) := by decide +kernel
theorem dX6_branch_17 : decode cX6_branch 17 = .ok (.aload_n 0, 1) := by decide +kernel
theorem dX6_branch_18 : decode cX6_branch 18 = .ok (.getfield 23, 3) := by decide +kernel
theorem dX6_branch_21 : decode cX6_branch 21 = .ok (.bipush 16, 2) := by decide +kernel
theorem dX6_branch_23 : decode cX6_branch 23 = .ok (.iload_n 1, 1) := by decide +kernel
theorem dX6_branch_24 : decode cX6_branch 24 = .ok (.iconst 1, 1) := by decide +kernel
theorem dX6_branch_25 : decode cX6_branch 25 = .ok (.iadd, 1) := by decide +kernel
theorem dX6_branch_26 : decode cX6_branch 26 = .ok (.imul, 1) := by decide +kernel
theorem dX6_branch_27 : decode cX6_branch 27 = .ok (.bipush 10, 2) := by decide +kernel
theorem dX6_branch_29 : decode cX6_branch 29 = .ok (.iadd, 1) := by decide +kernel
theorem dX6_branch_30 : decode cX6_branch 30 = .ok (.invokevirtual 88, 3) := by decide +kernel
theorem dX6_branch_33 : decode cX6_branch 33 = .ok (.goto 80, 3) := by decide +kernel
theorem dX6_branch_36 : decode cX6_branch 36 = .ok (.iload_n 2, 1) := by decide +kernel
theorem dX6_branch_37 : decode cX6_branch 37 = .ok (.sipush 165, 3) := by decide +kernel
theorem dX6_branch_40 : decode cX6_branch 40 = .ok (.if_icmp .eq 10, 3) := by decide +kernel
theorem dX6_branch_43 : decode cX6_branch 43 = .ok (.iload_n 2, 1) := by decide +kernel
theorem dX6_branch_44 : decode cX6_branch 44 = .ok (.sipush 166, 3) := by decide +kernel
theorem dX6_branch_47 : decode cX6_branch 47 = .ok (.if_icmp .ne 22, 3) := by decide +kernel
theorem dX6_branch_50 : decode cX6_branch 50 = .ok (.aload_n 0, 1) := by decide +kernel
theorem dX6_branch_51 : decode cX6_branch 51 = .ok (.getfield 23, 3) := by decide +kernel
theorem dX6_branch_54 : decode cX6_branch 54 = .ok (.invokevirtual 154, 3) := by decide +kernel
theorem dX6_branch_57 : decode cX6_branch 57 = .ok (.pop, 1) := by decide +kernel
theorem dX6_branch_58 : decode cX6_branch 58 = .ok (.aload_n 0, 1) := by decide +kernel
theorem dX6_branch_59 : decode cX6_branch 59 = .ok (.getfield 23, 3) := by decide +kernel
theorem dX6_branch_62 : decode cX6_branch 62 = .ok (.invokevirtual 154, 3) := by decide +kernel
theorem dX6_branch_65 : decode cX6_branch 65 = .ok (.pop, 1) := by decide +kernel
theorem dX6_branch_66 : decode cX6_branch 66 = .ok (.goto 47, 3) := by decide +kernel
theorem dX6_branch_69 : decode cX6_branch 69 = .ok (.iload_n 2, 1) := by decide +kernel
theorem dX6_branch_70 : decode cX6_branch 70 = .ok (.sipush 164, 3) := by decide +kernel
theorem dX6_branch_73 : decode cX6_branch 73 = .ok (.if_icmp .le 10, 3) := by decide +kernel
theorem dX6_branch_76 : decode cX6_branch 76 = .ok (.iload_n 2, 1) := by decide +kernel
theorem dX6_branch_77 : decode cX6_branch 77 = .ok (.invokestatic 157, 3) := by decide +kernel
theorem dX6_branch_80 : decode cX6_branch 80 = .ok (.ifCond .eq 33, 3) := by decide +kernel
theorem dX6_branch_83 : decode cX6_branch 83 = .ok (.aload_n 0, 1) := by decide +kernel
theorem dX6_branch_84 : decode cX6_branch 84 = .ok (.getfield 23, 3) := by decide +kernel
theorem dX6_branch_87 : decode cX6_branch 87 = .ok (.iconst 1, 1) := by decide +kernel
theorem dX6_branch_88 : decode cX6_branch 88 = .ok (.invokevirtual 109, 3) := by decide +kernel
theorem dX6_branch_91 : decode cX6_branch 91 = .ok (.iload_n 2, 1) := by decide +kernel
theorem dX6_branch_92 : decode cX6_branch 92 = .ok (.sipush 159, 3) := by decide +kernel
theorem dX6_branch_95 : decode cX6_branch 95 = .ok (.if_icmp .lt 18, 3) := by decide +kernel
theorem dX6_branch_98 : decode cX6_branch 98 = .ok (.iload_n 2, 1) := by decide +kernel
theorem dX6_branch_99 : decode cX6_branch 99 = .ok (.sipush 164, 3) := by decide +kernel
theorem dX6_branch_102 : decode cX6_branch 102 = .ok (.if_icmp .gt 11, 3) := by decide +kernel
theorem dX6_branch_105 : decode cX6_branch 105 = .ok (.aload_n 0, 1) := by decide +kernel
theorem dX6_branch_106 : decode cX6_branch 106 = .ok (.getfield 23, 3) := by decide +kernel
theorem dX6_branch_109 : decode cX6_branch 109 = .ok (.iconst 1, 1) := by decide +kernel
theorem dX6_branch_110 : decode cX6_branch 110 = .ok (.invokevirtual 109, 3) := by decide +kernel
theorem dX6_branch_113 : decode cX6_branch 113 = .ok (.return_, 1) := by decide +kernel
set_option maxRecDepth 20000 in
theorem ggX6_leave_X7_isPrimitive : GoodIn wsX6_leave wsX7_isPrimitive := goodIn_r _ [7, 8, 9] rfl (by decide +kernel)
set_option maxRecDepth 20000 in
theorem gX6_leave_X7_isPrimitive : GoodIn wsX6_leave (va_wsS RX6 129 yX7_isPrimitive wsX7_isPrimitive) := goodIn_app (goodIn_of _ (by decide +kernel)) ggX6_leave_X7_isPrimitive
set_option maxRecDepth 20000 in
theorem ggX6_leave_X7_placeOf : GoodIn wsX6_leave wsX7_placeOf := goodIn_r _ [12, 13, 5, 6, 7, 8, 9] rfl (by decide +kernel)
set_option maxRecDepth 20000 in
theorem gX6_leave_X7_placeOf : GoodIn wsX6_leave (va_wsS RX6 170 yX7_placeOf wsX7_placeOf) := goodIn_app (goodIn_of _ (by decide +kernel)) ggX6_leave_X7_placeOf
def ckX6_leave : List (List Cond) := [[.code yX6_leave cX6_leave 4 none], wsX6_leave_r1, wsX6_leave_r2, wsX6_leave_r3, wsX60, wsX00, wsX50, wsX70]
theorem ckX6_leavel : wsX6_leave = ckX6_leave.flatten := by
  simp only [wsX6_leave, ckX6_leave, List.flatten_cons, List.flatten_nil, List.append_assoc, List.append_nil, List.cons_append, List.nil_append]
set_option maxRecDepth 20000 in
theorem ggX6_leave_X5_pullType : GoodIn wsX6_leave wsX5_pullType := goodIn_t ckX6_leave ckX6_leavel _ [(1, 17), (1, 18), (1, 19), (1, 20), (1, 21), (1, 22), (1, 23), (1, 4), (1, 5), (1, 6), (1, 7), (1, 8), (2, 0), (1, 10), (1, 11), (1, 12), (2, 1), (2, 2), (2, 3), (1, 16), (2, 4), (2, 5), (2, 6), (2, 7), (2, 8), (2, 9), (2, 10), (2, 11), (2, 12), (2, 13), (2, 14), (2, 15), (2, 16), (2, 17), (2, 18), (2, 19), (2, 20), (2, 21), (2, 22), (2, 23), (3, 0), (3, 1), (3, 2), (3, 3), (3, 4), (3, 5), (3, 6), (3, 7), (3, 8), (3, 9), (6, 0), (6, 1), (6, 2), (6, 3), (6, 4), (6, 5), (6, 6), (6, 7), (6, 8), (6, 9), (7, 0), (7, 1), (7, 2)] rfl (by decide +kernel)
set_option maxRecDepth 20000 in
theorem gX6_leave_X5_pullType : GoodIn wsX6_leave (wsV RX6 134 RX5 yX5_pullType wsX5_pullType) := goodIn_app (goodIn_of _ (by decide +kernel)) ggX6_leave_X5_pullType
theorem dX6_leave_0 : decode cX6_leave 0 = .ok (.aload_n 0, 1) := by decide +kernel
theorem dX6_leave_1 : decode cX6_leave 1 = .ok (.getfield 19, 3) := by decide +kernel
theorem dX6_leave_4 : decode cX6_leave 4 = .ok (.getfield 160, 3) := by decide +kernel
theorem dX6_leave_7 : decode cX6_leave 7 = .ok (.istore_n 2, 1) := by decide +kernel
theorem dX6_leave_8 : decode cX6_leave 8 = .ok (.iload_n 1, 1) := by decide +kernel
theorem dX6_leave_9 : decode cX6_leave 9 = .ok (.iconst 5, 1) := by decide +kernel
theorem dX6_leave_10 : decode cX6_leave 10 = .ok (.if_icmp .ne 39, 3) := by decide +kernel
theorem dX6_leave_13 : decode cX6_leave 13 = .ok (.iload_n 2, 1) := by decide +kernel
theorem dX6_leave_14 : decode cX6_leave 14 = .ok (.iconst (-1), 1) := by decide +kernel
theorem dX6_leave_15 : decode cX6_leave 15 = .ok (.if_icmp .ne 29, 3) := by decide +kernel
theorem dX6_leave_18 : decode cX6_leave 18 = .ok (.aload_n 0, 1) := by decide +kernel
theorem dX6_leave_19 : decode cX6_leave 19 = .ok (.getfield 19, 3) := by decide +kernel
theorem dX6_leave_22 : decode cX6_leave 22 = .ok (.getfield 164, 3) := by decide +kernel
theorem dX6_leave_25 : decode cX6_leave 25 = .ok (.iconst 2, 1) := by decide +kernel
theorem dX6_leave_26 : decode cX6_leave 26 = .ok (.if_icmp .ne 14, 3) := by decide +kernel
theorem dX6_leave_29 : decode cX6_leave 29 = .ok (.aload_n 0, 1) := by decide +kernel
theorem dX6_leave_30 : decode cX6_leave 30 = .ok (.getfield 23, 3) := by decide +kernel
theorem dX6_leave_33 : decode cX6_leave 33 = .ok (.getfield 167, 3) := by decide +kernel
theorem dX6_leave_36 : decode cX6_leave 36 = .ok (.iconst 1, 1) := by decide +kernel
theorem dX6_leave_37 : decode cX6_leave 37 = .ok (.if_icmp .ne 7, 3) := by decide +kernel
theorem dX6_leave_40 : decode cX6_leave 40 = .ok (.iconst 1, 1) := by decide +kernel
theorem dX6_leave_41 : decode cX6_leave 41 = .ok (.goto 4, 3) := by decide +kernel
theorem dX6_leave_44 : decode cX6_leave 44 = .ok (.iconst 0, 1) := by decide +kernel
theorem dX6_leave_45 : decode cX6_leave 45 = .ok (.istore_n 3, 1) := by decide +kernel
theorem dX6_leave_46 : decode cX6_leave 46 = .ok (.goto 41, 3) := by decide +kernel
theorem dX6_leave_49 : decode cX6_leave 49 = .ok (.iload_n 2, 1) := by decide +kernel
theorem dX6_leave_50 : decode cX6_leave 50 = .ok (.iconst (-1), 1) := by decide +kernel
theorem dX6_leave_51 : decode cX6_leave 51 = .ok (.if_icmp .eq 34, 3) := by decide +kernel
theorem dX6_leave_54 : decode cX6_leave 54 = .ok (.iload_n 1, 1) := by decide +kernel
theorem dX6_leave_55 : decode cX6_leave 55 = .ok (.iconst 4, 1) := by decide +kernel
theorem dX6_leave_56 : decode cX6_leave 56 = .ok (.if_icmp .ne 13, 3) := by decide +kernel
theorem dX6_leave_59 : decode cX6_leave 59 = .ok (.iload_n 2, 1) := by decide +kernel
theorem dX6_leave_60 : decode cX6_leave 60 = .ok (.invokestatic 129, 3) := by decide +kernel
theorem dX6_leave_63 : decode cX6_leave 63 = .ok (.ifCond .ne 22, 3) := by decide +kernel
theorem dX6_leave_66 : decode cX6_leave 66 = .ok (.goto 15, 3) := by decide +kernel
theorem dX6_leave_69 : decode cX6_leave 69 = .ok (.iload_n 2, 1) := by decide +kernel
theorem dX6_leave_70 : decode cX6_leave 70 = .ok (.invokestatic 170, 3) := by decide +kernel
theorem dX6_leave_73 : decode cX6_leave 73 = .ok (.getstatic 98, 3) := by decide +kernel
theorem dX6_leave_76 : decode cX6_leave 76 = .ok (.iload_n 1, 1) := by decide +kernel
theorem dX6_leave_77 : decode cX6_leave 77 = .ok (.iaload, 1) := by decide +kernel
theorem dX6_leave_78 : decode cX6_leave 78 = .ok (.if_icmp .ne 7, 3) := by decide +kernel
theorem dX6_leave_81 : decode cX6_leave 81 = .ok (.iconst 1, 1) := by decide +kernel
theorem dX6_leave_82 : decode cX6_leave 82 = .ok (.goto 4, 3) := by decide +kernel
theorem dX6_leave_85 : decode cX6_leave 85 = .ok (.iconst 0, 1) := by decide +kernel
theorem dX6_leave_86 : decode cX6_leave 86 = .ok (.istore_n 3, 1) := by decide +kernel
theorem dX6_leave_87 : decode cX6_leave 87 = .ok (.iload_n 3, 1) := by decide +kernel
theorem dX6_leave_88 : decode cX6_leave 88 = .ok (.ifCond .ne 14, 3) := by decide +kernel
theorem dX6_leave_91 : decode cX6_leave 91 = .ok (.aload_n 0, 1) := by decide +kernel
theorem dX6_leave_92 : decode cX6_leave 92 = .ok (.getfield 23, 3) := by decide +kernel
theorem dX6_leave_95 : decode cX6_leave 95 = .ok (.iconst 1, 1) := by decide +kernel
theorem dX6_leave_96 : decode cX6_leave 96 = .ok (.putfield 105, 3) := by decide +kernel
theorem dX6_leave_99 : decode cX6_leave 99 = .ok (.goto 16, 3) := by decide +kernel
theorem dX6_leave_102 : decode cX6_leave 102 = .ok (.iload_n 1, 1) := by decide +kernel
theorem dX6_leave_103 : decode cX6_leave 103 = .ok (.iconst 5, 1) := by decide +kernel
theorem dX6_leave_104 : decode cX6_leave 104 = .ok (.if_icmp .ge 11, 3) := by decide +kernel
theorem dX6_leave_107 : decode cX6_leave 107 = .ok (.aload_n 0, 1) := by decide +kernel
theorem dX6_leave_108 : decode cX6_leave 108 = .ok (.getfield 23, 3) := by decide +kernel
theorem dX6_leave_111 : decode cX6_leave 111 = .ok (.iload_n 2, 1) := by decide +kernel
theorem dX6_leave_112 : decode cX6_leave 112 = .ok (.invokevirtual 134, 3) := by decide +kernel
theorem dX6_leave_115 : decode cX6_leave 115 = .ok (.return_, 1) := by decide +kernel
def ckX6_useField : List (List Cond) := [[.code yX6_useField cX6_useField 6 none], wsX6_useField_r1, wsX6_useField_r2, wsX6_useField_r3, wsX60, wsX40, wsX00, wsX50, wsX70]
theorem ckX6_useFieldl : wsX6_useField = ckX6_useField.flatten := by
  simp only [wsX6_useField, ckX6_useField, List.flatten_cons, List.flatten_nil, List.append_assoc, List.append_nil, List.cons_append, List.nil_append]
set_option maxRecDepth 20000 in
theorem ggX6_useField_X5_pullType : GoodIn wsX6_useField wsX5_pullType := goodIn_t ckX6_useField ckX6_useFieldl _ [(1, 7), (1, 8), (1, 9), (1, 10), (1, 11), (1, 12), (1, 13), (1, 14), (1, 15), (1, 16), (1, 17), (1, 18), (1, 19), (1, 20), (1, 21), (1, 22), (1, 23), (2, 0), (2, 1), (1, 6), (2, 2), (2, 3), (2, 4), (2, 5), (2, 6), (2, 7), (2, 8), (2, 9), (2, 10), (2, 11), (2, 12), (2, 13), (2, 14), (2, 15), (2, 16), (2, 17), (2, 18), (2, 19), (2, 20), (2, 21), (2, 22), (2, 23), (3, 0), (3, 1), (3, 2), (3, 3), (3, 4), (3, 5), (3, 6), (3, 7), (7, 0), (7, 1), (7, 2), (7, 3), (7, 4), (7, 5), (7, 6), (7, 7), (7, 8), (7, 9), (8, 0), (8, 1), (8, 2)] rfl (by decide +kernel)
set_option maxRecDepth 20000 in
theorem gX6_useField_X5_pullType : GoodIn wsX6_useField (wsV RX6 134 RX5 yX5_pullType wsX5_pullType) := goodIn_app (goodIn_of _ (by decide +kernel)) ggX6_useField_X5_pullType
set_option maxRecDepth 20000 in
theorem ggX6_useField_X6_pullOwner : GoodIn wsX6_useField wsX6_pullOwner := goodIn_t ckX6_useField ckX6_useFieldl _ [(3, 12), (1, 1), (3, 13), (2, 10), (2, 11), (1, 6), (2, 12), (2, 3), (2, 4), (2, 5), (1, 8), (1, 3), (1, 4), (1, 5), (1, 7), (1, 9), (1, 10), (1, 11), (1, 12), (1, 13), (1, 14), (1, 15), (1, 16), (1, 17), (1, 18), (1, 19), (1, 20), (1, 21), (1, 22), (1, 23), (2, 0), (2, 1), (2, 2), (2, 6), (2, 7), (2, 8), (2, 9), (2, 13), (2, 14), (2, 15), (2, 16), (2, 17), (2, 18), (2, 19), (2, 20), (2, 21), (2, 22), (2, 23), (3, 0), (3, 1), (3, 2), (3, 3), (3, 4), (3, 5), (3, 6), (3, 7), (4, 0), (4, 1), (4, 2), (4, 3), (7, 0), (7, 1), (7, 2), (7, 3), (7, 4), (7, 5), (7, 6), (7, 7), (7, 8), (7, 9), (8, 0), (8, 1), (8, 2)] rfl (by decide +kernel)
set_option maxRecDepth 20000 in
theorem gX6_useField_X6_pullOwner : GoodIn wsX6_useField (wsV RX6 184 RX6 yX6_pullOwner wsX6_pullOwner) := goodIn_app (goodIn_of _ (by decide +kernel)) ggX6_useField_X6_pullOwner
set_option maxRecDepth 20000 in
theorem ggX6_useField_X5_pushType : GoodIn wsX6_useField wsX5_pushType := goodIn_t ckX6_useField ckX6_useFieldl _ [(3, 17), (1, 19), (1, 20), (1, 15), (1, 21), (1, 22), (1, 14), (1, 16), (1, 17), (1, 18), (3, 18), (3, 19), (3, 20), (1, 6), (3, 21), (2, 3), (3, 22), (1, 8), (2, 5), (2, 6), (2, 7), (2, 8), (7, 0), (7, 1), (7, 2), (7, 3), (7, 4), (7, 5), (7, 6), (7, 7), (7, 8), (7, 9)] rfl (by decide +kernel)
set_option maxRecDepth 20000 in
theorem gX6_useField_X5_pushType : GoodIn wsX6_useField (wsV RX6 83 RX5 yX5_pushType wsX5_pushType) := goodIn_app (goodIn_of _ (by decide +kernel)) ggX6_useField_X5_pushType
theorem dX6_useField_0 : decode cX6_useField 0 = .ok (.aload_n 0, 1) := by decide +kernel
theorem dX6_useField_1 : decode cX6_useField 1 = .ok (.getfield 15, 3) := by decide +kernel
theorem dX6_useField_4 : decode cX6_useField 4 = .ok (.getfield 173, 3) := by decide +kernel
theorem dX6_useField_7 : decode cX6_useField 7 = .ok (.iload_n 2, 1) := by decide +kernel
theorem dX6_useField_8 : decode cX6_useField 8 = .ok (.iaload, 1) := by decide +kernel
theorem dX6_useField_9 : decode cX6_useField 9 = .ok (.istore_n 3, 1) := by decide +kernel
theorem dX6_useField_10 : decode cX6_useField 10 = .ok (.aload_n 0, 1) := by decide +kernel
theorem dX6_useField_11 : decode cX6_useField 11 = .ok (.getfield 15, 3) := by decide +kernel
theorem dX6_useField_14 : decode cX6_useField 14 = .ok (.getfield 178, 3) := by decide +kernel
theorem dX6_useField_17 : decode cX6_useField 17 = .ok (.iload_n 2, 1) := by decide +kernel
theorem dX6_useField_18 : decode cX6_useField 18 = .ok (.iaload, 1) := by decide +kernel
theorem dX6_useField_19 : decode cX6_useField 19 = .ok (.istore 4, 2) := by decide +kernel
theorem dX6_useField_21 : decode cX6_useField 21 = .ok (.iload_n 1, 1) := by decide +kernel
theorem dX6_useField_22 : decode cX6_useField 22 = .ok (.sipush 179, 3) := by decide +kernel
theorem dX6_useField_25 : decode cX6_useField 25 = .ok (.if_icmp .eq 10, 3) := by decide +kernel
theorem dX6_useField_28 : decode cX6_useField 28 = .ok (.iload_n 1, 1) := by decide +kernel
theorem dX6_useField_29 : decode cX6_useField 29 = .ok (.sipush 181, 3) := by decide +kernel
theorem dX6_useField_32 : decode cX6_useField 32 = .ok (.if_icmp .ne 7, 3) := by decide +kernel
theorem dX6_useField_35 : decode cX6_useField 35 = .ok (.iconst 1, 1) := by decide +kernel
theorem dX6_useField_36 : decode cX6_useField 36 = .ok (.goto 4, 3) := by decide +kernel
theorem dX6_useField_39 : decode cX6_useField 39 = .ok (.iconst 0, 1) := by decide +kernel
theorem dX6_useField_40 : decode cX6_useField 40 = .ok (.istore 5, 2) := by decide +kernel
theorem dX6_useField_42 : decode cX6_useField 42 = .ok (.iload 5, 2) := by decide +kernel
theorem dX6_useField_44 : decode cX6_useField 44 = .ok (.ifCond .eq 12, 3) := by decide +kernel
theorem dX6_useField_47 : decode cX6_useField 47 = .ok (.aload_n 0, 1) := by decide +kernel
theorem dX6_useField_48 : decode cX6_useField 48 = .ok (.getfield 23, 3) := by decide +kernel
theorem dX6_useField_51 : decode cX6_useField 51 = .ok (.iload 4, 2) := by decide +kernel
theorem dX6_useField_53 : decode cX6_useField 53 = .ok (.invokevirtual 134, 3) := by decide +kernel
theorem dX6_useField_56 : decode cX6_useField 56 = .ok (.iload_n 1, 1) := by decide +kernel
theorem dX6_useField_57 : decode cX6_useField 57 = .ok (.sipush 180, 3) := by decide +kernel
theorem dX6_useField_60 : decode cX6_useField 60 = .ok (.if_icmp .lt 29, 3) := by decide +kernel
theorem dX6_useField_63 : decode cX6_useField 63 = .ok (.aload_n 0, 1) := by decide +kernel
theorem dX6_useField_64 : decode cX6_useField 64 = .ok (.iload_n 3, 1) := by decide +kernel
theorem dX6_useField_65 : decode cX6_useField 65 = .ok (.iload 5, 2) := by decide +kernel
theorem dX6_useField_67 : decode cX6_useField 67 = .ok (.ifCond .eq 18, 3) := by decide +kernel
theorem dX6_useField_70 : decode cX6_useField 70 = .ok (.iload_n 3, 1) := by decide +kernel
theorem dX6_useField_71 : decode cX6_useField 71 = .ok (.aload_n 0, 1) := by decide +kernel
theorem dX6_useField_72 : decode cX6_useField 72 = .ok (.getfield 19, 3) := by decide +kernel
theorem dX6_useField_75 : decode cX6_useField 75 = .ok (.getfield 181, 3) := by decide +kernel
theorem dX6_useField_78 : decode cX6_useField 78 = .ok (.if_icmp .ne 7, 3) := by decide +kernel
theorem dX6_useField_81 : decode cX6_useField 81 = .ok (.iconst 1, 1) := by decide +kernel
theorem dX6_useField_82 : decode cX6_useField 82 = .ok (.goto 4, 3) := by decide +kernel
theorem dX6_useField_85 : decode cX6_useField 85 = .ok (.iconst 0, 1) := by decide +kernel
theorem dX6_useField_86 : decode cX6_useField 86 = .ok (.invokevirtual 184, 3) := by decide +kernel
theorem dX6_useField_89 : decode cX6_useField 89 = .ok (.iload 5, 2) := by decide +kernel
theorem dX6_useField_91 : decode cX6_useField 91 = .ok (.ifCond .ne 12, 3) := by decide +kernel
theorem dX6_useField_94 : decode cX6_useField 94 = .ok (.aload_n 0, 1) := by decide +kernel
theorem dX6_useField_95 : decode cX6_useField 95 = .ok (.getfield 23, 3) := by decide +kernel
theorem dX6_useField_98 : decode cX6_useField 98 = .ok (.iload 4, 2) := by decide +kernel
theorem dX6_useField_100 : decode cX6_useField 100 = .ok (.invokevirtual 83, 3) := by decide +kernel
theorem dX6_useField_103 : decode cX6_useField 103 = .ok (.return_, 1) := by decide +kernel
set_option maxRecDepth 20000 in
theorem ggX6_pullOwner_X5_pull : GoodIn wsX6_pullOwner wsX5_pull := goodIn_r _ [6, 7, 8, 9, 10, 60, 61, 62, 63, 64, 65, 66, 67, 68, 69] rfl (by decide +kernel)
set_option maxRecDepth 20000 in
theorem gX6_pullOwner_X5_pull : GoodIn wsX6_pullOwner (wsV RX6 115 RX5 yX5_pull wsX5_pull) := goodIn_app (goodIn_of _ (by decide +kernel)) ggX6_pullOwner_X5_pull
def ckX6_pullOwner : List (List Cond) := [[.code yX6_pullOwner cX6_pullOwner 4 none], wsX6_pullOwner_r1, wsX6_pullOwner_r2, wsX6_pullOwner_r3, wsX60, wsX50, wsX70]
theorem ckX6_pullOwnerl : wsX6_pullOwner = ckX6_pullOwner.flatten := by
  simp only [wsX6_pullOwner, ckX6_pullOwner, List.flatten_cons, List.flatten_nil, List.append_assoc, List.append_nil, List.cons_append, List.nil_append]
set_option maxRecDepth 20000 in
theorem ggX6_pullOwner_X5_pullType : GoodIn wsX6_pullOwner wsX5_pullType := goodIn_t ckX6_pullOwner ckX6_pullOwnerl _ [(1, 13), (1, 9), (1, 14), (1, 15), (1, 16), (1, 17), (1, 18), (1, 19), (1, 20), (1, 21), (1, 22), (1, 23), (2, 0), (2, 1), (2, 2), (2, 3), (2, 4), (2, 5), (2, 6), (1, 4), (2, 7), (1, 6), (1, 7), (1, 8), (2, 8), (2, 9), (2, 10), (2, 11), (1, 2), (1, 3), (1, 5), (2, 12), (2, 13), (2, 14), (2, 15), (2, 16), (2, 17), (2, 18), (2, 19), (2, 20), (2, 21), (2, 22), (2, 23), (3, 0), (3, 1), (3, 2), (3, 3), (3, 4), (3, 5), (3, 6), (5, 0), (5, 1), (5, 2), (5, 3), (5, 4), (5, 5), (5, 6), (5, 7), (5, 8), (5, 9), (6, 0), (6, 1), (6, 2)] rfl (by decide +kernel)
set_option maxRecDepth 20000 in
theorem gX6_pullOwner_X5_pullType : GoodIn wsX6_pullOwner (wsV RX6 134 RX5 yX5_pullType wsX5_pullType) := goodIn_app (goodIn_of _ (by decide +kernel)) ggX6_pullOwner_X5_pullType
theorem dX6_pullOwner_0 : decode cX6_pullOwner 0 = .ok (.aload_n 0, 1) := by decide +kernel
theorem dX6_pullOwner_1 : decode cX6_pullOwner 1 = .ok (.getfield 23, 3) := by decide +kernel
theorem dX6_pullOwner_4 : decode cX6_pullOwner 4 = .ok (.getfield 188, 3) := by decide +kernel
theorem dX6_pullOwner_7 : decode cX6_pullOwner 7 = .ok (.iconst 1, 1) := by decide +kernel
theorem dX6_pullOwner_8 : decode cX6_pullOwner 8 = .ok (.isub, 1) := by decide +kernel
theorem dX6_pullOwner_9 : decode cX6_pullOwner 9 = .ok (.istore_n 3, 1) := by decide +kernel
theorem dX6_pullOwner_10 : decode cX6_pullOwner 10 = .ok (.iload_n 2, 1) := by decide +kernel
theorem dX6_pullOwner_11 : decode cX6_pullOwner 11 = .ok (.ifCond .eq 39, 3) := by decide +kernel
theorem dX6_pullOwner_14 : decode cX6_pullOwner 14 = .ok (.iload_n 3, 1) := by decide +kernel
theorem dX6_pullOwner_15 : decode cX6_pullOwner 15 = .ok (.aload_n 0, 1) := by decide +kernel
theorem dX6_pullOwner_16 : decode cX6_pullOwner 16 = .ok (.getfield 23, 3) := by decide +kernel
theorem dX6_pullOwner_19 : decode cX6_pullOwner 19 = .ok (.getfield 191, 3) := by decide +kernel
theorem dX6_pullOwner_22 : decode cX6_pullOwner 22 = .ok (.if_icmp .lt 28, 3) := by decide +kernel
theorem dX6_pullOwner_25 : decode cX6_pullOwner 25 = .ok (.aload_n 0, 1) := by decide +kernel
theorem dX6_pullOwner_26 : decode cX6_pullOwner 26 = .ok (.getfield 23, 3) := by decide +kernel
theorem dX6_pullOwner_29 : decode cX6_pullOwner 29 = .ok (.getfield 194, 3) := by decide +kernel
theorem dX6_pullOwner_32 : decode cX6_pullOwner 32 = .ok (.iload_n 3, 1) := by decide +kernel
theorem dX6_pullOwner_33 : decode cX6_pullOwner 33 = .ok (.iaload, 1) := by decide +kernel
theorem dX6_pullOwner_34 : decode cX6_pullOwner 34 = .ok (.bipush 6, 2) := by decide +kernel
theorem dX6_pullOwner_36 : decode cX6_pullOwner 36 = .ok (.if_icmp .ne 14, 3) := by decide +kernel
theorem dX6_pullOwner_39 : decode cX6_pullOwner 39 = .ok (.aload_n 0, 1) := by decide +kernel
theorem dX6_pullOwner_40 : decode cX6_pullOwner 40 = .ok (.getfield 23, 3) := by decide +kernel
theorem dX6_pullOwner_43 : decode cX6_pullOwner 43 = .ok (.invokevirtual 115, 3) := by decide +kernel
theorem dX6_pullOwner_46 : decode cX6_pullOwner 46 = .ok (.pop, 1) := by decide +kernel
theorem dX6_pullOwner_47 : decode cX6_pullOwner 47 = .ok (.goto 11, 3) := by decide +kernel
theorem dX6_pullOwner_50 : decode cX6_pullOwner 50 = .ok (.aload_n 0, 1) := by decide +kernel
theorem dX6_pullOwner_51 : decode cX6_pullOwner 51 = .ok (.getfield 23, 3) := by decide +kernel
theorem dX6_pullOwner_54 : decode cX6_pullOwner 54 = .ok (.iload_n 1, 1) := by decide +kernel
theorem dX6_pullOwner_55 : decode cX6_pullOwner 55 = .ok (.invokevirtual 134, 3) := by decide +kernel
theorem dX6_pullOwner_58 : decode cX6_pullOwner 58 = .ok (.return_, 1) := by decide +kernel
set_option maxRecDepth 20000 in
theorem ggX6_invoke_X4_takenOf : GoodIn wsX6_invoke wsX4_takenOf := goodIn_r _ [9, 10, 90, 91, 92, 93, 94, 95, 96, 97, 98] rfl (by decide +kernel)
set_option maxRecDepth 20000 in
theorem gX6_invoke_X4_takenOf : GoodIn wsX6_invoke (wsV RX6 200 RX4 yX4_takenOf wsX4_takenOf) := goodIn_app (goodIn_of _ (by decide +kernel)) ggX6_invoke_X4_takenOf
def ckX6_invoke : List (List Cond) := [[.code yX6_invoke cX6_invoke 4 none], wsX6_invoke_r1, wsX6_invoke_r2, wsX6_invoke_r3, wsX6_invoke_r4, wsX60, wsX40, wsX00, wsX50, wsX70]
theorem ckX6_invokel : wsX6_invoke = ckX6_invoke.flatten := by
  simp only [wsX6_invoke, ckX6_invoke, List.flatten_cons, List.flatten_nil, List.append_assoc, List.append_nil, List.cons_append, List.nil_append]
set_option maxRecDepth 20000 in
theorem ggX6_invoke_X5_pullType : GoodIn wsX6_invoke wsX5_pullType := goodIn_t ckX6_invoke ckX6_invokel _ [(1, 14), (1, 15), (1, 16), (1, 17), (1, 18), (1, 19), (1, 20), (1, 21), (1, 22), (1, 23), (2, 0), (2, 1), (2, 2), (2, 3), (2, 4), (2, 5), (2, 6), (2, 7), (2, 8), (1, 13), (2, 9), (2, 10), (2, 11), (2, 12), (2, 13), (2, 14), (2, 15), (2, 16), (2, 17), (2, 18), (2, 19), (2, 20), (2, 21), (2, 22), (2, 23), (3, 0), (3, 1), (3, 2), (3, 3), (3, 4), (3, 5), (3, 6), (3, 7), (3, 8), (3, 9), (3, 10), (3, 11), (3, 12), (3, 13), (3, 14), (8, 0), (8, 1), (8, 2), (8, 3), (8, 4), (8, 5), (8, 6), (8, 7), (8, 8), (8, 9), (9, 0), (9, 1), (9, 2)] rfl (by decide +kernel)
set_option maxRecDepth 20000 in
theorem gX6_invoke_X5_pullType : GoodIn wsX6_invoke (wsV RX6 134 RX5 yX5_pullType wsX5_pullType) := goodIn_app (goodIn_of _ (by decide +kernel)) ggX6_invoke_X5_pullType
set_option maxRecDepth 20000 in
theorem ggX6_invoke_X6_construct : GoodIn wsX6_invoke wsX6_construct := goodIn_t ckX6_invoke ckX6_invokel _ [(3, 19), (1, 1), (1, 2), (1, 3), (3, 20), (2, 17), (2, 18), (1, 13), (2, 19), (2, 10), (2, 11), (2, 12), (1, 15), (3, 21), (2, 3), (1, 22), (2, 4), (2, 5), (1, 21), (1, 23), (2, 0), (2, 1), (3, 22), (3, 23), (4, 0), (4, 1), (4, 2), (5, 0), (5, 1), (5, 2), (5, 3), (7, 0), (7, 1), (7, 2), (7, 3), (7, 4), (7, 5), (7, 6), (7, 7), (7, 8), (7, 9), (7, 10), (7, 11), (7, 12), (7, 13), (7, 14), (7, 15), (7, 16), (9, 0), (9, 1), (9, 2), (8, 0), (8, 1), (8, 2), (8, 3), (8, 4), (8, 5), (8, 6), (8, 7), (8, 8), (8, 9)] rfl (by decide +kernel)
set_option maxRecDepth 20000 in
theorem gX6_invoke_X6_construct : GoodIn wsX6_invoke (wsV RX6 211 RX6 yX6_construct wsX6_construct) := goodIn_app (goodIn_of _ (by decide +kernel)) ggX6_invoke_X6_construct
set_option maxRecDepth 20000 in
theorem ggX6_invoke_X7_mayStand : GoodIn wsX6_invoke wsX7_mayStand := goodIn_r _ [48, 49, 30, 22, 23, 24, 25, 26, 50, 51, 52, 53, 54, 55, 56, 57, 58, 59, 126, 127, 128] rfl (by decide +kernel)
set_option maxRecDepth 20000 in
theorem gX6_invoke_X7_mayStand : GoodIn wsX6_invoke (wsV RX6 214 RX7 yX7_mayStand wsX7_mayStand) := goodIn_app (goodIn_of _ (by decide +kernel)) ggX6_invoke_X7_mayStand
set_option maxRecDepth 20000 in
theorem ggX6_invoke_X5_pushType : GoodIn wsX6_invoke wsX5_pushType := goodIn_t ckX6_invoke ckX6_invokel _ [(4, 7), (2, 2), (2, 3), (1, 22), (2, 4), (2, 5), (1, 21), (1, 23), (2, 0), (2, 1), (4, 8), (4, 9), (4, 10), (1, 13), (4, 11), (2, 10), (4, 12), (1, 15), (2, 12), (2, 13), (2, 14), (2, 15), (8, 0), (8, 1), (8, 2), (8, 3), (8, 4), (8, 5), (8, 6), (8, 7), (8, 8), (8, 9)] rfl (by decide +kernel)
set_option maxRecDepth 20000 in
theorem gX6_invoke_X5_pushType : GoodIn wsX6_invoke (wsV RX6 83 RX5 yX5_pushType wsX5_pushType) := goodIn_app (goodIn_of _ (by decide +kernel)) ggX6_invoke_X5_pushType
theorem dX6_invoke_0 : decode cX6_invoke 0 = .ok (.aload_n 0, 1) := by decide +kernel
theorem dX6_invoke_1 : decode cX6_invoke 1 = .ok (.getfield 15, 3) := by decide +kernel
theorem dX6_invoke_4 : decode cX6_invoke 4 = .ok (.getfield 197, 3) := by decide +kernel
theorem dX6_invoke_7 : decode cX6_invoke 7 = .ok (.iload_n 2, 1) := by decide +kernel
theorem dX6_invoke_8 : decode cX6_invoke 8 = .ok (.iaload, 1) := by decide +kernel
theorem dX6_invoke_9 : decode cX6_invoke 9 = .ok (.iconst 1, 1) := by decide +kernel
theorem dX6_invoke_10 : decode cX6_invoke 10 = .ok (.isub, 1) := by decide +kernel
theorem dX6_invoke_11 : decode cX6_invoke 11 = .ok (.istore_n 3, 1) := by decide +kernel
theorem dX6_invoke_12 : decode cX6_invoke 12 = .ok (.iload_n 3, 1) := by decide +kernel
theorem dX6_invoke_13 : decode cX6_invoke 13 = .ok (.ifCond .lt 25, 3) := by decide +kernel
theorem dX6_invoke_16 : decode cX6_invoke 16 = .ok (.aload_n 0, 1) := by decide +kernel
theorem dX6_invoke_17 : decode cX6_invoke 17 = .ok (.getfield 23, 3) := by decide +kernel
theorem dX6_invoke_20 : decode cX6_invoke 20 = .ok (.aload_n 0, 1) := by decide +kernel
theorem dX6_invoke_21 : decode cX6_invoke 21 = .ok (.getfield 15, 3) := by decide +kernel
theorem dX6_invoke_24 : decode cX6_invoke 24 = .ok (.iload_n 2, 1) := by decide +kernel
theorem dX6_invoke_25 : decode cX6_invoke 25 = .ok (.iload_n 3, 1) := by decide +kernel
theorem dX6_invoke_26 : decode cX6_invoke 26 = .ok (.invokevirtual 200, 3) := by decide +kernel
theorem dX6_invoke_29 : decode cX6_invoke 29 = .ok (.invokevirtual 134, 3) := by decide +kernel
theorem dX6_invoke_32 : decode cX6_invoke 32 = .ok (.iinc 3 (-1), 3) := by decide +kernel
theorem dX6_invoke_35 : decode cX6_invoke 35 = .ok (.goto (-23), 3) := by decide +kernel
theorem dX6_invoke_38 : decode cX6_invoke 38 = .ok (.aload_n 0, 1) := by decide +kernel
theorem dX6_invoke_39 : decode cX6_invoke 39 = .ok (.getfield 15, 3) := by decide +kernel
theorem dX6_invoke_42 : decode cX6_invoke 42 = .ok (.getfield 204, 3) := by decide +kernel
theorem dX6_invoke_45 : decode cX6_invoke 45 = .ok (.iload_n 2, 1) := by decide +kernel
theorem dX6_invoke_46 : decode cX6_invoke 46 = .ok (.iaload, 1) := by decide +kernel
theorem dX6_invoke_47 : decode cX6_invoke 47 = .ok (.istore_n 3, 1) := by decide +kernel
theorem dX6_invoke_48 : decode cX6_invoke 48 = .ok (.aload_n 0, 1) := by decide +kernel
theorem dX6_invoke_49 : decode cX6_invoke 49 = .ok (.getfield 15, 3) := by decide +kernel
theorem dX6_invoke_52 : decode cX6_invoke 52 = .ok (.getfield 207, 3) := by decide +kernel
theorem dX6_invoke_55 : decode cX6_invoke 55 = .ok (.iload_n 2, 1) := by decide +kernel
theorem dX6_invoke_56 : decode cX6_invoke 56 = .ok (.baload, 1) := by decide +kernel
theorem dX6_invoke_57 : decode cX6_invoke 57 = .ok (.ifCond .eq 12, 3) := by decide +kernel
theorem dX6_invoke_60 : decode cX6_invoke 60 = .ok (.aload_n 0, 1) := by decide +kernel
theorem dX6_invoke_61 : decode cX6_invoke 61 = .ok (.iload_n 1, 1) := by decide +kernel
theorem dX6_invoke_62 : decode cX6_invoke 62 = .ok (.iload_n 3, 1) := by decide +kernel
theorem dX6_invoke_63 : decode cX6_invoke 63 = .ok (.invokevirtual 211, 3) := by decide +kernel
theorem dX6_invoke_66 : decode cX6_invoke 66 = .ok (.goto 89, 3) := by decide +kernel
theorem dX6_invoke_69 : decode cX6_invoke 69 = .ok (.iload_n 1, 1) := by decide +kernel
theorem dX6_invoke_70 : decode cX6_invoke 70 = .ok (.sipush 183, 3) := by decide +kernel
theorem dX6_invoke_73 : decode cX6_invoke 73 = .ok (.if_icmp .ne 60, 3) := by decide +kernel
theorem dX6_invoke_76 : decode cX6_invoke 76 = .ok (.aload_n 0, 1) := by decide +kernel
theorem dX6_invoke_77 : decode cX6_invoke 77 = .ok (.getfield 23, 3) := by decide +kernel
theorem dX6_invoke_80 : decode cX6_invoke 80 = .ok (.aload_n 0, 1) := by decide +kernel
theorem dX6_invoke_81 : decode cX6_invoke 81 = .ok (.getfield 19, 3) := by decide +kernel
theorem dX6_invoke_84 : decode cX6_invoke 84 = .ok (.getfield 181, 3) := by decide +kernel
theorem dX6_invoke_87 : decode cX6_invoke 87 = .ok (.invokevirtual 134, 3) := by decide +kernel
theorem dX6_invoke_90 : decode cX6_invoke 90 = .ok (.aload_n 0, 1) := by decide +kernel
theorem dX6_invoke_91 : decode cX6_invoke 91 = .ok (.getfield 23, 3) := by decide +kernel
theorem dX6_invoke_94 : decode cX6_invoke 94 = .ok (.aload_n 0, 1) := by decide +kernel
theorem dX6_invoke_95 : decode cX6_invoke 95 = .ok (.getfield 23, 3) := by decide +kernel
theorem dX6_invoke_98 : decode cX6_invoke 98 = .ok (.getfield 105, 3) := by decide +kernel
theorem dX6_invoke_101 : decode cX6_invoke 101 = .ok (.ifCond .ne 21, 3) := by decide +kernel
theorem dX6_invoke_104 : decode cX6_invoke 104 = .ok (.aload_n 0, 1) := by decide +kernel
theorem dX6_invoke_105 : decode cX6_invoke 105 = .ok (.getfield 9, 3) := by decide +kernel
theorem dX6_invoke_108 : decode cX6_invoke 108 = .ok (.aload_n 0, 1) := by decide +kernel
theorem dX6_invoke_109 : decode cX6_invoke 109 = .ok (.getfield 19, 3) := by decide +kernel
theorem dX6_invoke_112 : decode cX6_invoke 112 = .ok (.getfield 181, 3) := by decide +kernel
theorem dX6_invoke_115 : decode cX6_invoke 115 = .ok (.iload_n 3, 1) := by decide +kernel
theorem dX6_invoke_116 : decode cX6_invoke 116 = .ok (.invokevirtual 214, 3) := by decide +kernel
theorem dX6_invoke_119 : decode cX6_invoke 119 = .ok (.ifCond .ne 7, 3) := by decide +kernel
theorem dX6_invoke_122 : decode cX6_invoke 122 = .ok (.iconst 1, 1) := by decide +kernel
theorem dX6_invoke_123 : decode cX6_invoke 123 = .ok (.goto 4, 3) := by decide +kernel
theorem dX6_invoke_126 : decode cX6_invoke 126 = .ok (.iconst 0, 1) := by decide +kernel
theorem dX6_invoke_127 : decode cX6_invoke 127 = .ok (.putfield 105, 3) := by decide +kernel
theorem dX6_invoke_130 : decode cX6_invoke 130 = .ok (.goto 25, 3) := by decide +kernel
theorem dX6_invoke_133 : decode cX6_invoke 133 = .ok (.iload_n 1, 1) := by decide +kernel
theorem dX6_invoke_134 : decode cX6_invoke 134 = .ok (.sipush 182, 3) := by decide +kernel
theorem dX6_invoke_137 : decode cX6_invoke 137 = .ok (.if_icmp .eq 10, 3) := by decide +kernel
theorem dX6_invoke_140 : decode cX6_invoke 140 = .ok (.iload_n 1, 1) := by decide +kernel
theorem dX6_invoke_141 : decode cX6_invoke 141 = .ok (.sipush 185, 3) := by decide +kernel
theorem dX6_invoke_144 : decode cX6_invoke 144 = .ok (.if_icmp .ne 11, 3) := by decide +kernel
theorem dX6_invoke_147 : decode cX6_invoke 147 = .ok (.aload_n 0, 1) := by decide +kernel
theorem dX6_invoke_148 : decode cX6_invoke 148 = .ok (.getfield 23, 3) := by decide +kernel
theorem dX6_invoke_151 : decode cX6_invoke 151 = .ok (.iload_n 3, 1) := by decide +kernel
theorem dX6_invoke_152 : decode cX6_invoke 152 = .ok (.invokevirtual 134, 3) := by decide +kernel
theorem dX6_invoke_155 : decode cX6_invoke 155 = .ok (.aload_n 0, 1) := by decide +kernel
theorem dX6_invoke_156 : decode cX6_invoke 156 = .ok (.getfield 15, 3) := by decide +kernel
theorem dX6_invoke_159 : decode cX6_invoke 159 = .ok (.getfield 218, 3) := by decide +kernel
theorem dX6_invoke_162 : decode cX6_invoke 162 = .ok (.iload_n 2, 1) := by decide +kernel
theorem dX6_invoke_163 : decode cX6_invoke 163 = .ok (.iaload, 1) := by decide +kernel
theorem dX6_invoke_164 : decode cX6_invoke 164 = .ok (.iconst (-1), 1) := by decide +kernel
theorem dX6_invoke_165 : decode cX6_invoke 165 = .ok (.if_icmp .eq 19, 3) := by decide +kernel
theorem dX6_invoke_168 : decode cX6_invoke 168 = .ok (.aload_n 0, 1) := by decide +kernel
theorem dX6_invoke_169 : decode cX6_invoke 169 = .ok (.getfield 23, 3) := by decide +kernel
theorem dX6_invoke_172 : decode cX6_invoke 172 = .ok (.aload_n 0, 1) := by decide +kernel
theorem dX6_invoke_173 : decode cX6_invoke 173 = .ok (.getfield 15, 3) := by decide +kernel
theorem dX6_invoke_176 : decode cX6_invoke 176 = .ok (.getfield 218, 3) := by decide +kernel
theorem dX6_invoke_179 : decode cX6_invoke 179 = .ok (.iload_n 2, 1) := by decide +kernel
theorem dX6_invoke_180 : decode cX6_invoke 180 = .ok (.iaload, 1) := by decide +kernel
theorem dX6_invoke_181 : decode cX6_invoke 181 = .ok (.invokevirtual 83, 3) := by decide +kernel
theorem dX6_invoke_184 : decode cX6_invoke 184 = .ok (.return_, 1) := by decide +kernel
set_option maxRecDepth 20000 in
theorem ggX6_construct_X5_pull : GoodIn wsX6_construct wsX5_pull := goodIn_r _ [8, 9, 10, 11, 12, 51, 52, 53, 54, 55, 56, 57, 58, 59, 60] rfl (by decide +kernel)
set_option maxRecDepth 20000 in
theorem gX6_construct_X5_pull : GoodIn wsX6_construct (wsV RX6 115 RX5 yX5_pull wsX5_pull) := goodIn_app (goodIn_of _ (by decide +kernel)) ggX6_construct_X5_pull
set_option maxRecDepth 20000 in
theorem ggX6_construct_X7_placeOf : GoodIn wsX6_construct wsX7_placeOf := goodIn_r _ [16, 17, 18, 15, 19, 20, 21] rfl (by decide +kernel)
set_option maxRecDepth 20000 in
theorem gX6_construct_X7_placeOf : GoodIn wsX6_construct (va_wsS RX6 170 yX7_placeOf wsX7_placeOf) := goodIn_app (goodIn_of _ (by decide +kernel)) ggX6_construct_X7_placeOf
set_option maxRecDepth 20000 in
theorem ggX6_construct_X5_replaceAll : GoodIn wsX6_construct wsX5_replaceAll := goodIn_r _ [25, 9, 11, 26, 51, 52, 53, 54, 55, 56, 57, 58, 59, 60] rfl (by decide +kernel)
set_option maxRecDepth 20000 in
theorem gX6_construct_X5_replaceAll : GoodIn wsX6_construct (wsV RX6 224 RX5 yX5_replaceAll wsX5_replaceAll) := goodIn_app (goodIn_of _ (by decide +kernel)) ggX6_construct_X5_replaceAll
theorem dX6_construct_0 : decode cX6_construct 0 = .ok (.aload_n 0, 1) := by decide +kernel
theorem dX6_construct_1 : decode cX6_construct 1 = .ok (.getfield 23, 3) := by decide +kernel
theorem dX6_construct_4 : decode cX6_construct 4 = .ok (.invokevirtual 115, 3) := by decide +kernel
theorem dX6_construct_7 : decode cX6_construct 7 = .ok (.istore_n 3, 1) := by decide +kernel
theorem dX6_construct_8 : decode cX6_construct 8 = .ok (.iload_n 3, 1) := by decide +kernel
theorem dX6_construct_9 : decode cX6_construct 9 = .ok (.iconst 4, 1) := by decide +kernel
theorem dX6_construct_10 : decode cX6_construct 10 = .ok (.ishr, 1) := by decide +kernel
theorem dX6_construct_11 : decode cX6_construct 11 = .ok (.istore 4, 2) := by decide +kernel
theorem dX6_construct_13 : decode cX6_construct 13 = .ok (.iload_n 1, 1) := by decide +kernel
theorem dX6_construct_14 : decode cX6_construct 14 = .ok (.sipush 183, 3) := by decide +kernel
theorem dX6_construct_17 : decode cX6_construct 17 = .ok (.if_icmp .ne 53, 3) := by decide +kernel
theorem dX6_construct_20 : decode cX6_construct 20 = .ok (.iload_n 3, 1) := by decide +kernel
theorem dX6_construct_21 : decode cX6_construct 21 = .ok (.bipush 15, 2) := by decide +kernel
theorem dX6_construct_23 : decode cX6_construct 23 = .ok (.iand, 1) := by decide +kernel
theorem dX6_construct_24 : decode cX6_construct 24 = .ok (.bipush 9, 2) := by decide +kernel
theorem dX6_construct_26 : decode cX6_construct 26 = .ok (.if_icmp .ne 44, 3) := by decide +kernel
theorem dX6_construct_29 : decode cX6_construct 29 = .ok (.iload 4, 2) := by decide +kernel
theorem dX6_construct_31 : decode cX6_construct 31 = .ok (.aload_n 0, 1) := by decide +kernel
theorem dX6_construct_32 : decode cX6_construct 32 = .ok (.getfield 19, 3) := by decide +kernel
theorem dX6_construct_35 : decode cX6_construct 35 = .ok (.getfield 221, 3) := by decide +kernel
theorem dX6_construct_38 : decode cX6_construct 38 = .ok (.if_icmp .ge 32, 3) := by decide +kernel
theorem dX6_construct_41 : decode cX6_construct 41 = .ok (.aload_n 0, 1) := by decide +kernel
theorem dX6_construct_42 : decode cX6_construct 42 = .ok (.getfield 19, 3) := by decide +kernel
theorem dX6_construct_45 : decode cX6_construct 45 = .ok (.getfield 33, 3) := by decide +kernel
theorem dX6_construct_48 : decode cX6_construct 48 = .ok (.iload 4, 2) := by decide +kernel
