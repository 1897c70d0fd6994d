theorem dX6_construct_50 : decode cX6_construct 50 = .ok (.iaload, 1) := by decide +kernel
theorem dX6_construct_51 : decode cX6_construct 51 = .ok (.iload_n 2, 1) := by decide +kernel
theorem dX6_construct_52 : decode cX6_construct 52 = .ok (.if_icmp .ne 18, 3) := by decide +kernel
theorem dX6_construct_55 : decode cX6_construct 55 = .ok (.aload_n 0, 1) := by decide +kernel
theorem dX6_construct_56 : decode cX6_construct 56 = .ok (.getfield 23, 3) := by decide +kernel
theorem dX6_construct_59 : decode cX6_construct 59 = .ok (.iload_n 3, 1) := by decide +kernel
theorem dX6_construct_60 : decode cX6_construct 60 = .ok (.iload_n 2, 1) := by decide +kernel
theorem dX6_construct_61 : decode cX6_construct 61 = .ok (.invokestatic 170, 3) := by decide +kernel
theorem dX6_construct_64 : decode cX6_construct 64 = .ok (.invokevirtual 224, 3) := by decide +kernel
theorem dX6_construct_67 : decode cX6_construct 67 = .ok (.goto 83, 3) := by decide +kernel
theorem dX6_construct_70 : decode cX6_construct 70 = .ok (.iload_n 1, 1) := by decide +kernel
theorem dX6_construct_71 : decode cX6_construct 71 = .ok (.sipush 183, 3) := by decide +kernel
theorem dX6_construct_74 : decode cX6_construct 74 = .ok (.if_icmp .ne 68, 3) := by decide +kernel
theorem dX6_construct_77 : decode cX6_construct 77 = .ok (.iload_n 3, 1) := by decide +kernel
theorem dX6_construct_78 : decode cX6_construct 78 = .ok (.bipush 6, 2) := by decide +kernel
theorem dX6_construct_80 : decode cX6_construct 80 = .ok (.if_icmp .ne 62, 3) := by decide +kernel
theorem dX6_construct_83 : decode cX6_construct 83 = .ok (.iload_n 2, 1) := by decide +kernel
theorem dX6_construct_84 : decode cX6_construct 84 = .ok (.aload_n 0, 1) := by decide +kernel
theorem dX6_construct_85 : decode cX6_construct 85 = .ok (.getfield 19, 3) := by decide +kernel
theorem dX6_construct_88 : decode cX6_construct 88 = .ok (.getfield 181, 3) := by decide +kernel
theorem dX6_construct_91 : decode cX6_construct 91 = .ok (.if_icmp .eq 22, 3) := by decide +kernel
theorem dX6_construct_94 : decode cX6_construct 94 = .ok (.iload_n 2, 1) := by decide +kernel
theorem dX6_construct_95 : decode cX6_construct 95 = .ok (.aload_n 0, 1) := by decide +kernel
theorem dX6_construct_96 : decode cX6_construct 96 = .ok (.getfield 9, 3) := by decide +kernel
theorem dX6_construct_99 : decode cX6_construct 99 = .ok (.getfield 227, 3) := by decide +kernel
theorem dX6_construct_102 : decode cX6_construct 102 = .ok (.aload_n 0, 1) := by decide +kernel
theorem dX6_construct_103 : decode cX6_construct 103 = .ok (.getfield 19, 3) := by decide +kernel
theorem dX6_construct_106 : decode cX6_construct 106 = .ok (.getfield 181, 3) := by decide +kernel
theorem dX6_construct_109 : decode cX6_construct 109 = .ok (.iaload, 1) := by decide +kernel
theorem dX6_construct_110 : decode cX6_construct 110 = .ok (.if_icmp .ne 32, 3) := by decide +kernel
theorem dX6_construct_113 : decode cX6_construct 113 = .ok (.aload_n 0, 1) := by decide +kernel
theorem dX6_construct_114 : decode cX6_construct 114 = .ok (.getfield 23, 3) := by decide +kernel
theorem dX6_construct_117 : decode cX6_construct 117 = .ok (.iload_n 3, 1) := by decide +kernel
theorem dX6_construct_118 : decode cX6_construct 118 = .ok (.aload_n 0, 1) := by decide +kernel
theorem dX6_construct_119 : decode cX6_construct 119 = .ok (.getfield 19, 3) := by decide +kernel
theorem dX6_construct_122 : decode cX6_construct 122 = .ok (.getfield 181, 3) := by decide +kernel
theorem dX6_construct_125 : decode cX6_construct 125 = .ok (.invokestatic 170, 3) := by decide +kernel
theorem dX6_construct_128 : decode cX6_construct 128 = .ok (.invokevirtual 224, 3) := by decide +kernel
theorem dX6_construct_131 : decode cX6_construct 131 = .ok (.aload_n 0, 1) := by decide +kernel
theorem dX6_construct_132 : decode cX6_construct 132 = .ok (.getfield 23, 3) := by decide +kernel
theorem dX6_construct_135 : decode cX6_construct 135 = .ok (.iconst 1, 1) := by decide +kernel
theorem dX6_construct_136 : decode cX6_construct 136 = .ok (.putfield 167, 3) := by decide +kernel
theorem dX6_construct_139 : decode cX6_construct 139 = .ok (.goto 11, 3) := by decide +kernel
theorem dX6_construct_142 : decode cX6_construct 142 = .ok (.aload_n 0, 1) := by decide +kernel
theorem dX6_construct_143 : decode cX6_construct 143 = .ok (.getfield 23, 3) := by decide +kernel
theorem dX6_construct_146 : decode cX6_construct 146 = .ok (.iconst 1, 1) := by decide +kernel
theorem dX6_construct_147 : decode cX6_construct 147 = .ok (.putfield 105, 3) := by decide +kernel
theorem dX6_construct_150 : decode cX6_construct 150 = .ok (.return_, 1) := by decide +kernel
set_option maxRecDepth 20000 in
theorem ggX6_make_X5_forget : GoodIn wsX6_make wsX5_forget := goodIn_r _ [9, 10, 11, 12, 13, 14, 62, 63, 64, 65, 66, 67, 68, 69, 70, 71] rfl (by decide +kernel)
set_option maxRecDepth 20000 in
theorem gX6_make_X5_forget : GoodIn wsX6_make (wsV RX6 230 RX5 yX5_forget wsX5_forget) := goodIn_app (goodIn_of _ (by decide +kernel)) ggX6_make_X5_forget
set_option maxRecDepth 20000 in
theorem ggX6_make_X5_push : GoodIn wsX6_make wsX5_push := goodIn_r _ [18, 10, 19, 13, 11, 20, 21, 8, 22, 62, 63, 64, 65, 66, 67, 68, 69, 70, 71] rfl (by decide +kernel)
set_option maxRecDepth 20000 in
theorem gX6_make_X5_push : GoodIn wsX6_make (wsV RX6 88 RX5 yX5_push wsX5_push) := goodIn_app (goodIn_of _ (by decide +kernel)) ggX6_make_X5_push
set_option maxRecDepth 20000 in
theorem ggX6_make_X5_pullKind : GoodIn wsX6_make wsX5_pullKind := goodIn_r _ [26, 10, 14, 11, 13, 20, 21, 8, 22, 62, 63, 64, 65, 66, 67, 68, 69, 70, 71] rfl (by decide +kernel)
set_option maxRecDepth 20000 in
theorem gX6_make_X5_pullKind : GoodIn wsX6_make (wsV RX6 109 RX5 yX5_pullKind wsX5_pullKind) := goodIn_app (goodIn_of _ (by decide +kernel)) ggX6_make_X5_pullKind
set_option maxRecDepth 20000 in
theorem ggX6_make_X5_pushType : GoodIn wsX6_make wsX5_pushType := goodIn_r _ [30, 31, 32, 33, 34, 35, 36, 37, 38, 39, 40, 16, 17, 8, 18, 10, 19, 13, 11, 20, 21, 22, 62, 63, 64, 65, 66, 67, 68, 69, 70, 71] rfl (by decide +kernel)
set_option maxRecDepth 20000 in
theorem gX6_make_X5_pushType : GoodIn wsX6_make (wsV RX6 83 RX5 yX5_pushType wsX5_pushType) := goodIn_app (goodIn_of _ (by decide +kernel)) ggX6_make_X5_pushType
theorem dX6_make_0 : decode cX6_make 0 = .ok (.aload_n 0, 1) := by decide +kernel
theorem dX6_make_1 : decode cX6_make 1 = .ok (.getfield 19, 3) := by decide +kernel
theorem dX6_make_4 : decode cX6_make 4 = .ok (.getfield 27, 3) := by decide +kernel
theorem dX6_make_7 : decode cX6_make 7 = .ok (.iload_n 1, 1) := by decide +kernel
theorem dX6_make_8 : decode cX6_make 8 = .ok (.iaload, 1) := by decide +kernel
theorem dX6_make_9 : decode cX6_make 9 = .ok (.istore_n 2, 1) := by decide +kernel
theorem dX6_make_10 : decode cX6_make 10 = .ok (.aload_n 0, 1) := by decide +kernel
theorem dX6_make_11 : decode cX6_make 11 = .ok (.getfield 19, 3) := by decide +kernel
theorem dX6_make_14 : decode cX6_make 14 = .ok (.getfield 33, 3) := by decide +kernel
theorem dX6_make_17 : decode cX6_make 17 = .ok (.iload_n 1, 1) := by decide +kernel
theorem dX6_make_18 : decode cX6_make 18 = .ok (.iaload, 1) := by decide +kernel
theorem dX6_make_19 : decode cX6_make 19 = .ok (.istore_n 3, 1) := by decide +kernel
theorem dX6_make_20 : decode cX6_make 20 = .ok (.iload_n 2, 1) := by decide +kernel
theorem dX6_make_21 : decode cX6_make 21 = .ok (.sipush 187, 3) := by decide +kernel
theorem dX6_make_24 : decode cX6_make 24 = .ok (.if_icmp .ne 32, 3) := by decide +kernel
theorem dX6_make_27 : decode cX6_make 27 = .ok (.aload_n 0, 1) := by decide +kernel
theorem dX6_make_28 : decode cX6_make 28 = .ok (.getfield 23, 3) := by decide +kernel
theorem dX6_make_31 : decode cX6_make 31 = .ok (.bipush 16, 2) := by decide +kernel
theorem dX6_make_33 : decode cX6_make 33 = .ok (.iload_n 1, 1) := by decide +kernel
theorem dX6_make_34 : decode cX6_make 34 = .ok (.imul, 1) := by decide +kernel
theorem dX6_make_35 : decode cX6_make 35 = .ok (.bipush 9, 2) := by decide +kernel
theorem dX6_make_37 : decode cX6_make 37 = .ok (.iadd, 1) := by decide +kernel
theorem dX6_make_38 : decode cX6_make 38 = .ok (.invokevirtual 230, 3) := by decide +kernel
theorem dX6_make_41 : decode cX6_make 41 = .ok (.aload_n 0, 1) := by decide +kernel
theorem dX6_make_42 : decode cX6_make 42 = .ok (.getfield 23, 3) := by decide +kernel
theorem dX6_make_45 : decode cX6_make 45 = .ok (.bipush 16, 2) := by decide +kernel
theorem dX6_make_47 : decode cX6_make 47 = .ok (.iload_n 1, 1) := by decide +kernel
theorem dX6_make_48 : decode cX6_make 48 = .ok (.imul, 1) := by decide +kernel
theorem dX6_make_49 : decode cX6_make 49 = .ok (.bipush 9, 2) := by decide +kernel
theorem dX6_make_51 : decode cX6_make 51 = .ok (.iadd, 1) := by decide +kernel
theorem dX6_make_52 : decode cX6_make 52 = .ok (.invokevirtual 88, 3) := by decide +kernel
theorem dX6_make_55 : decode cX6_make 55 = .ok (.return_, 1) := by decide +kernel
theorem dX6_make_56 : decode cX6_make 56 = .ok (.iload_n 2, 1) := by decide +kernel
theorem dX6_make_57 : decode cX6_make 57 = .ok (.sipush 197, 3) := by decide +kernel
theorem dX6_make_60 : decode cX6_make 60 = .ok (.if_icmp .ne 15, 3) := by decide +kernel
theorem dX6_make_63 : decode cX6_make 63 = .ok (.aload_n 0, 1) := by decide +kernel
theorem dX6_make_64 : decode cX6_make 64 = .ok (.getfield 19, 3) := by decide +kernel
theorem dX6_make_67 : decode cX6_make 67 = .ok (.getfield 233, 3) := by decide +kernel
theorem dX6_make_70 : decode cX6_make 70 = .ok (.iload_n 1, 1) := by decide +kernel
theorem dX6_make_71 : decode cX6_make 71 = .ok (.iaload, 1) := by decide +kernel
theorem dX6_make_72 : decode cX6_make 72 = .ok (.goto 4, 3) := by decide +kernel
theorem dX6_make_75 : decode cX6_make 75 = .ok (.iconst 1, 1) := by decide +kernel
theorem dX6_make_76 : decode cX6_make 76 = .ok (.istore 4, 2) := by decide +kernel
theorem dX6_make_78 : decode cX6_make 78 = .ok (.iconst 0, 1) := by decide +kernel
theorem dX6_make_79 : decode cX6_make 79 = .ok (.istore 5, 2) := by decide +kernel
theorem dX6_make_81 : decode cX6_make 81 = .ok (.iload 5, 2) := by decide +kernel
theorem dX6_make_83 : decode cX6_make 83 = .ok (.iload 4, 2) := by decide +kernel
theorem dX6_make_85 : decode cX6_make 85 = .ok (.if_icmp .ge 17, 3) := by decide +kernel
theorem dX6_make_88 : decode cX6_make 88 = .ok (.aload_n 0, 1) := by decide +kernel
theorem dX6_make_89 : decode cX6_make 89 = .ok (.getfield 23, 3) := by decide +kernel
theorem dX6_make_92 : decode cX6_make 92 = .ok (.iconst 1, 1) := by decide +kernel
theorem dX6_make_93 : decode cX6_make 93 = .ok (.invokevirtual 109, 3) := by decide +kernel
theorem dX6_make_96 : decode cX6_make 96 = .ok (.iinc 5 1, 3) := by decide +kernel
theorem dX6_make_99 : decode cX6_make 99 = .ok (.goto (-18), 3) := by decide +kernel
theorem dX6_make_102 : decode cX6_make 102 = .ok (.iload_n 2, 1) := by decide +kernel
theorem dX6_make_103 : decode cX6_make 103 = .ok (.sipush 188, 3) := by decide +kernel
theorem dX6_make_106 : decode cX6_make 106 = .ok (.if_icmp .ne 17, 3) := by decide +kernel
theorem dX6_make_109 : decode cX6_make 109 = .ok (.aload_n 0, 1) := by decide +kernel
theorem dX6_make_110 : decode cX6_make 110 = .ok (.getfield 23, 3) := by decide +kernel
theorem dX6_make_113 : decode cX6_make 113 = .ok (.ldc 138, 2) := by decide +kernel
theorem dX6_make_115 : decode cX6_make 115 = .ok (.iload_n 3, 1) := by decide +kernel
theorem dX6_make_116 : decode cX6_make 116 = .ok (.iadd, 1) := by decide +kernel
theorem dX6_make_117 : decode cX6_make 117 = .ok (.invokevirtual 83, 3) := by decide +kernel
theorem dX6_make_120 : decode cX6_make 120 = .ok (.goto 25, 3) := by decide +kernel
theorem dX6_make_123 : decode cX6_make 123 = .ok (.aload_n 0, 1) := by decide +kernel
theorem dX6_make_124 : decode cX6_make 124 = .ok (.getfield 23, 3) := by decide +kernel
theorem dX6_make_127 : decode cX6_make 127 = .ok (.iload_n 2, 1) := by decide +kernel
theorem dX6_make_128 : decode cX6_make 128 = .ok (.sipush 189, 3) := by decide +kernel
theorem dX6_make_131 : decode cX6_make 131 = .ok (.if_icmp .ne 10, 3) := by decide +kernel
theorem dX6_make_134 : decode cX6_make 134 = .ok (.ldc 122, 2) := by decide +kernel
theorem dX6_make_136 : decode cX6_make 136 = .ok (.iload_n 3, 1) := by decide +kernel
theorem dX6_make_137 : decode cX6_make 137 = .ok (.iadd, 1) := by decide +kernel
theorem dX6_make_138 : decode cX6_make 138 = .ok (.goto 4, 3) := by decide +kernel
theorem dX6_make_141 : decode cX6_make 141 = .ok (.iload_n 3, 1) := by decide +kernel
theorem dX6_make_142 : decode cX6_make 142 = .ok (.invokevirtual 83, 3) := by decide +kernel
theorem dX6_make_145 : decode cX6_make 145 = .ok (.return_, 1) := by decide +kernel
set_option maxRecDepth 20000 in
theorem ggX6_useReference_X5_pullArray : GoodIn wsX6_useReference wsX5_pullArray := goodIn_r _ [6, 7, 8, 9, 10, 11, 5, 12, 13, 14, 15, 81, 82, 83, 84, 85, 86, 87, 88, 89, 90] rfl (by decide +kernel)
set_option maxRecDepth 20000 in
theorem gX6_useReference_X5_pullArray : GoodIn wsX6_useReference (wsV RX6 119 RX5 yX5_pullArray wsX5_pullArray) := goodIn_app (goodIn_of _ (by decide +kernel)) ggX6_useReference_X5_pullArray
set_option maxRecDepth 20000 in
theorem ggX6_useReference_X5_push : GoodIn wsX6_useReference wsX5_push := goodIn_r _ [19, 13, 20, 8, 15, 21, 22, 5, 23, 81, 82, 83, 84, 85, 86, 87, 88, 89, 90] rfl (by decide +kernel)
set_option maxRecDepth 20000 in
theorem gX6_useReference_X5_push : GoodIn wsX6_useReference (wsV RX6 88 RX5 yX5_push wsX5_push) := goodIn_app (goodIn_of _ (by decide +kernel)) ggX6_useReference_X5_push
def ckX6_useReference : List (List Cond) := [[.code yX6_useReference cX6_useReference 3 none], wsX6_useReference_r1, wsX6_useReference_r2, wsX6_useReference_r3, wsX6_useReference_r4, wsX60, wsX50, wsX70]
theorem ckX6_useReferencel : wsX6_useReference = ckX6_useReference.flatten := by
  simp only [wsX6_useReference, ckX6_useReference, List.flatten_cons, List.flatten_nil, List.append_assoc, List.append_nil, List.cons_append, List.nil_append]
set_option maxRecDepth 20000 in
theorem ggX6_useReference_X5_pullType : GoodIn wsX6_useReference wsX5_pullType := goodIn_t ckX6_useReference ckX6_useReferencel _ [(2, 2), (1, 7), (2, 3), (2, 4), (2, 5), (2, 6), (2, 7), (2, 8), (2, 9), (2, 10), (2, 11), (2, 12), (2, 13), (2, 14), (2, 15), (2, 16), (2, 17), (2, 18), (2, 19), (1, 4), (2, 20), (1, 12), (1, 13), (1, 14), (1, 20), (1, 21), (1, 22), (1, 8), (1, 9), (1, 10), (1, 11), (2, 21), (2, 22), (2, 23), (3, 0), (3, 1), (3, 2), (3, 3), (3, 4), (3, 5), (3, 6), (3, 7), (3, 8), (3, 9), (3, 10), (3, 11), (3, 12), (3, 13), (3, 14), (3, 15), (6, 0), (6, 1), (6, 2), (6, 3), (6, 4), (6, 5), (6, 6), (6, 7), (6, 8), (6, 9), (7, 0), (7, 1), (7, 2)] rfl (by decide +kernel)
set_option maxRecDepth 20000 in
theorem gX6_useReference_X5_pullType : GoodIn wsX6_useReference (wsV RX6 134 RX5 yX5_pullType wsX5_pullType) := goodIn_app (goodIn_of _ (by decide +kernel)) ggX6_useReference_X5_pullType
set_option maxRecDepth 20000 in
theorem ggX6_useReference_X5_pushType : GoodIn wsX6_useReference wsX5_pushType := goodIn_t ckX6_useReference ckX6_useReferencel _ [(3, 19), (2, 13), (2, 14), (2, 9), (2, 15), (2, 16), (2, 8), (2, 10), (2, 11), (2, 12), (3, 20), (1, 16), (1, 17), (1, 4), (1, 18), (1, 12), (1, 19), (1, 7), (1, 14), (1, 20), (1, 21), (1, 22), (6, 0), (6, 1), (6, 2), (6, 3), (6, 4), (6, 5), (6, 6), (6, 7), (6, 8), (6, 9)] rfl (by decide +kernel)
set_option maxRecDepth 20000 in
theorem gX6_useReference_X5_pushType : GoodIn wsX6_useReference (wsV RX6 83 RX5 yX5_pushType wsX5_pushType) := goodIn_app (goodIn_of _ (by decide +kernel)) ggX6_useReference_X5_pushType
set_option maxRecDepth 20000 in
theorem ggX6_useReference_X5_pullReference : GoodIn wsX6_useReference wsX5_pullReference := goodIn_r _ [73, 8, 9, 10, 11, 5, 12, 13, 14, 15, 74, 75, 76, 81, 82, 83, 84, 85, 86, 87, 88, 89, 90] rfl (by decide +kernel)
set_option maxRecDepth 20000 in
theorem gX6_useReference_X5_pullReference : GoodIn wsX6_useReference (wsV RX6 154 RX5 yX5_pullReference wsX5_pullReference) := goodIn_app (goodIn_of _ (by decide +kernel)) ggX6_useReference_X5_pullReference
theorem dX6_useReference_0 : decode cX6_useReference 0 = .ok (.iload_n 1, 1) := by decide +kernel
theorem dX6_useReference_1 : decode cX6_useReference 1 = .ok (.tableswitch 99 190 193 #[31, 50, 61, 80], 31) := by decide +kernel
theorem dX6_useReference_32 : decode cX6_useReference 32 = .ok (.aload_n 0, 1) := by decide +kernel
theorem dX6_useReference_33 : decode cX6_useReference 33 = .ok (.getfield 23, 3) := by decide +kernel
theorem dX6_useReference_36 : decode cX6_useReference 36 = .ok (.invokevirtual 119, 3) := by decide +kernel
theorem dX6_useReference_39 : decode cX6_useReference 39 = .ok (.pop, 1) := by decide +kernel
theorem dX6_useReference_40 : decode cX6_useReference 40 = .ok (.aload_n 0, 1) := by decide +kernel
theorem dX6_useReference_41 : decode cX6_useReference 41 = .ok (.getfield 23, 3) := by decide +kernel
theorem dX6_useReference_44 : decode cX6_useReference 44 = .ok (.iconst 1, 1) := by decide +kernel
theorem dX6_useReference_45 : decode cX6_useReference 45 = .ok (.invokevirtual 88, 3) := by decide +kernel
theorem dX6_useReference_48 : decode cX6_useReference 48 = .ok (.goto 60, 3) := by decide +kernel
theorem dX6_useReference_51 : decode cX6_useReference 51 = .ok (.aload_n 0, 1) := by decide +kernel
theorem dX6_useReference_52 : decode cX6_useReference 52 = .ok (.getfield 23, 3) := by decide +kernel
theorem dX6_useReference_55 : decode cX6_useReference 55 = .ok (.iconst 1, 1) := by decide +kernel
theorem dX6_useReference_56 : decode cX6_useReference 56 = .ok (.invokevirtual 134, 3) := by decide +kernel
theorem dX6_useReference_59 : decode cX6_useReference 59 = .ok (.goto 49, 3) := by decide +kernel
theorem dX6_useReference_62 : decode cX6_useReference 62 = .ok (.aload_n 0, 1) := by decide +kernel
theorem dX6_useReference_63 : decode cX6_useReference 63 = .ok (.getfield 23, 3) := by decide +kernel
theorem dX6_useReference_66 : decode cX6_useReference 66 = .ok (.iconst 0, 1) := by decide +kernel
theorem dX6_useReference_67 : decode cX6_useReference 67 = .ok (.invokevirtual 134, 3) := by decide +kernel
theorem dX6_useReference_70 : decode cX6_useReference 70 = .ok (.aload_n 0, 1) := by decide +kernel
theorem dX6_useReference_71 : decode cX6_useReference 71 = .ok (.getfield 23, 3) := by decide +kernel
theorem dX6_useReference_74 : decode cX6_useReference 74 = .ok (.iload_n 2, 1) := by decide +kernel
theorem dX6_useReference_75 : decode cX6_useReference 75 = .ok (.invokevirtual 83, 3) := by decide +kernel
theorem dX6_useReference_78 : decode cX6_useReference 78 = .ok (.goto 30, 3) := by decide +kernel
theorem dX6_useReference_81 : decode cX6_useReference 81 = .ok (.aload_n 0, 1) := by decide +kernel
theorem dX6_useReference_82 : decode cX6_useReference 82 = .ok (.getfield 23, 3) := by decide +kernel
theorem dX6_useReference_85 : decode cX6_useReference 85 = .ok (.iconst 0, 1) := by decide +kernel
theorem dX6_useReference_86 : decode cX6_useReference 86 = .ok (.invokevirtual 134, 3) := by decide +kernel
theorem dX6_useReference_89 : decode cX6_useReference 89 = .ok (.aload_n 0, 1) := by decide +kernel
theorem dX6_useReference_90 : decode cX6_useReference 90 = .ok (.getfield 23, 3) := by decide +kernel
theorem dX6_useReference_93 : decode cX6_useReference 93 = .ok (.iconst 1, 1) := by decide +kernel
theorem dX6_useReference_94 : decode cX6_useReference 94 = .ok (.invokevirtual 88, 3) := by decide +kernel
theorem dX6_useReference_97 : decode cX6_useReference 97 = .ok (.goto 11, 3) := by decide +kernel
theorem dX6_useReference_100 : decode cX6_useReference 100 = .ok (.aload_n 0, 1) := by decide +kernel
theorem dX6_useReference_101 : decode cX6_useReference 101 = .ok (.getfield 23, 3) := by decide +kernel
theorem dX6_useReference_104 : decode cX6_useReference 104 = .ok (.invokevirtual 154, 3) := by decide +kernel
theorem dX6_useReference_107 : decode cX6_useReference 107 = .ok (.pop, 1) := by decide +kernel
theorem dX6_useReference_108 : decode cX6_useReference 108 = .ok (.return_, 1) := by decide +kernel
theorem dX7_init_0 : decode cX7_init 0 = .ok (.aload_n 0, 1) := by decide +kernel
theorem dX7_init_1 : decode cX7_init 1 = .ok (.invokespecial 3, 3) := by decide +kernel
theorem dX7_init_4 : decode cX7_init 4 = .ok (.aload_n 0, 1) := by decide +kernel
theorem dX7_init_5 : decode cX7_init 5 = .ok (.sipush 200, 3) := by decide +kernel
theorem dX7_init_8 : decode cX7_init 8 = .ok (.newarray .int, 2) := by decide +kernel
theorem dX7_init_10 : decode cX7_init 10 = .ok (.putfield 9, 3) := by decide +kernel
theorem dX7_init_13 : decode cX7_init 13 = .ok (.aload_n 0, 1) := by decide +kernel
theorem dX7_init_14 : decode cX7_init 14 = .ok (.sipush 200, 3) := by decide +kernel
theorem dX7_init_17 : decode cX7_init 17 = .ok (.newarray .boolean, 2) := by decide +kernel
theorem dX7_init_19 : decode cX7_init 19 = .ok (.putfield 15, 3) := by decide +kernel
theorem dX7_init_22 : decode cX7_init 22 = .ok (.aload_n 0, 1) := by decide +kernel
theorem dX7_init_23 : decode cX7_init 23 = .ok (.getfield 15, 3) := by decide +kernel
theorem dX7_init_26 : decode cX7_init 26 = .ok (.iconst 2, 1) := by decide +kernel
theorem dX7_init_27 : decode cX7_init 27 = .ok (.iconst 1, 1) := by decide +kernel
theorem dX7_init_28 : decode cX7_init 28 = .ok (.bastore, 1) := by decide +kernel
theorem dX7_init_29 : decode cX7_init 29 = .ok (.aload_n 0, 1) := by decide +kernel
theorem dX7_init_30 : decode cX7_init 30 = .ok (.getfield 15, 3) := by decide +kernel
theorem dX7_init_33 : decode cX7_init 33 = .ok (.iconst 3, 1) := by decide +kernel
theorem dX7_init_34 : decode cX7_init 34 = .ok (.iconst 1, 1) := by decide +kernel
theorem dX7_init_35 : decode cX7_init 35 = .ok (.bastore, 1) := by decide +kernel
theorem dX7_init_36 : decode cX7_init 36 = .ok (.aload_n 0, 1) := by decide +kernel
theorem dX7_init_37 : decode cX7_init 37 = .ok (.iconst 4, 1) := by decide +kernel
theorem dX7_init_38 : decode cX7_init 38 = .ok (.putfield 19, 3) := by decide +kernel
theorem dX7_init_41 : decode cX7_init 41 = .ok (.return_, 1) := by decide +kernel
theorem dX7_enter_0 : decode cX7_enter 0 = .ok (.aload_n 0, 1) := by decide +kernel
theorem dX7_enter_1 : decode cX7_enter 1 = .ok (.getfield 9, 3) := by decide +kernel
theorem dX7_enter_4 : decode cX7_enter 4 = .ok (.aload_n 0, 1) := by decide +kernel
theorem dX7_enter_5 : decode cX7_enter 5 = .ok (.getfield 19, 3) := by decide +kernel
theorem dX7_enter_8 : decode cX7_enter 8 = .ok (.iload_n 1, 1) := by decide +kernel
theorem dX7_enter_9 : decode cX7_enter 9 = .ok (.iastore, 1) := by decide +kernel
theorem dX7_enter_10 : decode cX7_enter 10 = .ok (.aload_n 0, 1) := by decide +kernel
theorem dX7_enter_11 : decode cX7_enter 11 = .ok (.getfield 15, 3) := by decide +kernel
theorem dX7_enter_14 : decode cX7_enter 14 = .ok (.aload_n 0, 1) := by decide +kernel
theorem dX7_enter_15 : decode cX7_enter 15 = .ok (.getfield 19, 3) := by decide +kernel
theorem dX7_enter_18 : decode cX7_enter 18 = .ok (.iload_n 2, 1) := by decide +kernel
theorem dX7_enter_19 : decode cX7_enter 19 = .ok (.bastore, 1) := by decide +kernel
theorem dX7_enter_20 : decode cX7_enter 20 = .ok (.aload_n 0, 1) := by decide +kernel
theorem dX7_enter_21 : decode cX7_enter 21 = .ok (.dup, 1) := by decide +kernel
theorem dX7_enter_22 : decode cX7_enter 22 = .ok (.getfield 19, 3) := by decide +kernel
theorem dX7_enter_25 : decode cX7_enter 25 = .ok (.dup_x1, 1) := by decide +kernel
theorem dX7_enter_26 : decode cX7_enter 26 = .ok (.iconst 1, 1) := by decide +kernel
theorem dX7_enter_27 : decode cX7_enter 27 = .ok (.iadd, 1) := by decide +kernel
theorem dX7_enter_28 : decode cX7_enter 28 = .ok (.putfield 19, 3) := by decide +kernel
theorem dX7_enter_31 : decode cX7_enter 31 = .ok (.ireturn, 1) := by decide +kernel
theorem dX7_isClass_0 : decode cX7_isClass 0 = .ok (.iload_n 1, 1) := by decide +kernel
theorem dX7_isClass_1 : decode cX7_isClass 1 = .ok (.ifCond .lt 15, 3) := by decide +kernel
theorem dX7_isClass_4 : decode cX7_isClass 4 = .ok (.iload_n 1, 1) := by decide +kernel
theorem dX7_isClass_5 : decode cX7_isClass 5 = .ok (.aload_n 0, 1) := by decide +kernel
theorem dX7_isClass_6 : decode cX7_isClass 6 = .ok (.getfield 19, 3) := by decide +kernel
theorem dX7_isClass_9 : decode cX7_isClass 9 = .ok (.if_icmp .ge 7, 3) := by decide +kernel
theorem dX7_isClass_12 : decode cX7_isClass 12 = .ok (.iconst 1, 1) := by decide +kernel
theorem dX7_isClass_13 : decode cX7_isClass 13 = .ok (.goto 4, 3) := by decide +kernel
theorem dX7_isClass_16 : decode cX7_isClass 16 = .ok (.iconst 0, 1) := by decide +kernel
theorem dX7_isClass_17 : decode cX7_isClass 17 = .ok (.ireturn, 1) := by decide +kernel
set_option maxRecDepth 20000 in
theorem ggX7_isType_X7_dimensionsOf : GoodIn wsX7_isType wsX7_dimensionsOf := goodIn_r _ [7] rfl (by decide +kernel)
set_option maxRecDepth 20000 in
theorem gX7_isType_X7_dimensionsOf : GoodIn wsX7_isType (va_wsS RX7 24 yX7_dimensionsOf wsX7_dimensionsOf) := goodIn_app (goodIn_of _ (by decide +kernel)) ggX7_isType_X7_dimensionsOf
theorem dX7_isType_0 : decode cX7_isType 0 = .ok (.iload_n 1, 1) := by decide +kernel
theorem dX7_isType_1 : decode cX7_isType 1 = .ok (.ldc 23, 2) := by decide +kernel
theorem dX7_isType_3 : decode cX7_isType 3 = .ok (.iand, 1) := by decide +kernel
theorem dX7_isType_4 : decode cX7_isType 4 = .ok (.istore_n 2, 1) := by decide +kernel
theorem dX7_isType_5 : decode cX7_isType 5 = .ok (.iload_n 1, 1) := by decide +kernel
theorem dX7_isType_6 : decode cX7_isType 6 = .ok (.ifCond .lt 31, 3) := by decide +kernel
theorem dX7_isType_9 : decode cX7_isType 9 = .ok (.iload_n 1, 1) := by decide +kernel
theorem dX7_isType_10 : decode cX7_isType 10 = .ok (.invokestatic 24, 3) := by decide +kernel
theorem dX7_isType_13 : decode cX7_isType 13 = .ok (.sipush 255, 3) := by decide +kernel
theorem dX7_isType_16 : decode cX7_isType 16 = .ok (.if_icmp .gt 21, 3) := by decide +kernel
theorem dX7_isType_19 : decode cX7_isType 19 = .ok (.iload_n 2, 1) := by decide +kernel
theorem dX7_isType_20 : decode cX7_isType 20 = .ok (.aload_n 0, 1) := by decide +kernel
theorem dX7_isType_21 : decode cX7_isType 21 = .ok (.getfield 19, 3) := by decide +kernel
theorem dX7_isType_24 : decode cX7_isType 24 = .ok (.if_icmp .lt 9, 3) := by decide +kernel
theorem dX7_isType_27 : decode cX7_isType 27 = .ok (.iload_n 2, 1) := by decide +kernel
theorem dX7_isType_28 : decode cX7_isType 28 = .ok (.ldc 28, 2) := by decide +kernel
theorem dX7_isType_30 : decode cX7_isType 30 = .ok (.if_icmp .lt 7, 3) := by decide +kernel
theorem dX7_isType_33 : decode cX7_isType 33 = .ok (.iconst 1, 1) := by decide +kernel
theorem dX7_isType_34 : decode cX7_isType 34 = .ok (.goto 4, 3) := by decide +kernel
theorem dX7_isType_37 : decode cX7_isType 37 = .ok (.iconst 0, 1) := by decide +kernel
theorem dX7_isType_38 : decode cX7_isType 38 = .ok (.ireturn, 1) := by decide +kernel
set_option maxRecDepth 20000 in
theorem ggX7_isReference_X7_isType : GoodIn wsX7_isReference wsX7_isType := goodIn_r _ [5, 6, 7, 8, 9, 10, 4, 11, 16, 17, 18] rfl (by decide +kernel)
set_option maxRecDepth 20000 in
theorem gX7_isReference_X7_isType : GoodIn wsX7_isReference (wsV RX7 29 RX7 yX7_isType wsX7_isType) := goodIn_app (goodIn_of _ (by decide +kernel)) ggX7_isReference_X7_isType
set_option maxRecDepth 20000 in
theorem ggX7_isReference_X7_isPrimitive : GoodIn wsX7_isReference wsX7_isPrimitive := goodIn_r _ [14, 8, 15] rfl (by decide +kernel)
set_option maxRecDepth 20000 in
theorem gX7_isReference_X7_isPrimitive : GoodIn wsX7_isReference (va_wsS RX7 33 yX7_isPrimitive wsX7_isPrimitive) := goodIn_app (goodIn_of _ (by decide +kernel)) ggX7_isReference_X7_isPrimitive
theorem dX7_isReference_0 : decode cX7_isReference 0 = .ok (.aload_n 0, 1) := by decide +kernel
theorem dX7_isReference_1 : decode cX7_isReference 1 = .ok (.iload_n 1, 1) := by decide +kernel
theorem dX7_isReference_2 : decode cX7_isReference 2 = .ok (.invokevirtual 29, 3) := by decide +kernel
theorem dX7_isReference_5 : decode cX7_isReference 5 = .ok (.ifCond .eq 14, 3) := by decide +kernel
theorem dX7_isReference_8 : decode cX7_isReference 8 = .ok (.iload_n 1, 1) := by decide +kernel
theorem dX7_isReference_9 : decode cX7_isReference 9 = .ok (.invokestatic 33, 3) := by decide +kernel
theorem dX7_isReference_12 : decode cX7_isReference 12 = .ok (.ifCond .ne 7, 3) := by decide +kernel
theorem dX7_isReference_15 : decode cX7_isReference 15 = .ok (.iconst 1, 1) := by decide +kernel
theorem dX7_isReference_16 : decode cX7_isReference 16 = .ok (.goto 4, 3) := by decide +kernel
theorem dX7_isReference_19 : decode cX7_isReference 19 = .ok (.iconst 0, 1) := by decide +kernel
theorem dX7_isReference_20 : decode cX7_isReference 20 = .ok (.ireturn, 1) := by decide +kernel
set_option maxRecDepth 20000 in
theorem ggX7_isResult_X7_isType : GoodIn wsX7_isResult wsX7_isType := goodIn_r _ [5, 6, 7, 8, 9, 10, 4, 11, 12, 13, 14] rfl (by decide +kernel)
set_option maxRecDepth 20000 in
theorem gX7_isResult_X7_isType : GoodIn wsX7_isResult (wsV RX7 29 RX7 yX7_isType wsX7_isType) := goodIn_app (goodIn_of _ (by decide +kernel)) ggX7_isResult_X7_isType
theorem dX7_isResult_0 : decode cX7_isResult 0 = .ok (.iload_n 1, 1) := by decide +kernel
theorem dX7_isResult_1 : decode cX7_isResult 1 = .ok (.iconst (-1), 1) := by decide +kernel
theorem dX7_isResult_2 : decode cX7_isResult 2 = .ok (.if_icmp .eq 11, 3) := by decide +kernel
theorem dX7_isResult_5 : decode cX7_isResult 5 = .ok (.aload_n 0, 1) := by decide +kernel
theorem dX7_isResult_6 : decode cX7_isResult 6 = .ok (.iload_n 1, 1) := by decide +kernel
theorem dX7_isResult_7 : decode cX7_isResult 7 = .ok (.invokevirtual 29, 3) := by decide +kernel
theorem dX7_isResult_10 : decode cX7_isResult 10 = .ok (.ifCond .eq 7, 3) := by decide +kernel
theorem dX7_isResult_13 : decode cX7_isResult 13 = .ok (.iconst 1, 1) := by decide +kernel
theorem dX7_isResult_14 : decode cX7_isResult 14 = .ok (.goto 4, 3) := by decide +kernel
theorem dX7_isResult_17 : decode cX7_isResult 17 = .ok (.iconst 0, 1) := by decide +kernel
theorem dX7_isResult_18 : decode cX7_isResult 18 = .ok (.ireturn, 1) := by decide +kernel
theorem dX7_isOfInterface_0 : decode cX7_isOfInterface 0 = .ok (.iload_n 1, 1) := by decide +kernel
theorem dX7_isOfInterface_1 : decode cX7_isOfInterface 1 = .ok (.ldc 23, 2) := by decide +kernel
theorem dX7_isOfInterface_3 : decode cX7_isOfInterface 3 = .ok (.iand, 1) := by decide +kernel
theorem dX7_isOfInterface_4 : decode cX7_isOfInterface 4 = .ok (.istore_n 2, 1) := by decide +kernel
theorem dX7_isOfInterface_5 : decode cX7_isOfInterface 5 = .ok (.iload_n 2, 1) := by decide +kernel
theorem dX7_isOfInterface_6 : decode cX7_isOfInterface 6 = .ok (.aload_n 0, 1) := by decide +kernel
theorem dX7_isOfInterface_7 : decode cX7_isOfInterface 7 = .ok (.getfield 19, 3) := by decide +kernel
theorem dX7_isOfInterface_10 : decode cX7_isOfInterface 10 = .ok (.if_icmp .ge 16, 3) := by decide +kernel
theorem dX7_isOfInterface_13 : decode cX7_isOfInterface 13 = .ok (.aload_n 0, 1) := by decide +kernel
theorem dX7_isOfInterface_14 : decode cX7_isOfInterface 14 = .ok (.getfield 15, 3) := by decide +kernel
theorem dX7_isOfInterface_17 : decode cX7_isOfInterface 17 = .ok (.iload_n 2, 1) := by decide +kernel
theorem dX7_isOfInterface_18 : decode cX7_isOfInterface 18 = .ok (.baload, 1) := by decide +kernel
theorem dX7_isOfInterface_19 : decode cX7_isOfInterface 19 = .ok (.ifCond .eq 7, 3) := by decide +kernel
theorem dX7_isOfInterface_22 : decode cX7_isOfInterface 22 = .ok (.iconst 1, 1) := by decide +kernel
theorem dX7_isOfInterface_23 : decode cX7_isOfInterface 23 = .ok (.goto 4, 3) := by decide +kernel
theorem dX7_isOfInterface_26 : decode cX7_isOfInterface 26 = .ok (.iconst 0, 1) := by decide +kernel
theorem dX7_isOfInterface_27 : decode cX7_isOfInterface 27 = .ok (.ireturn, 1) := by decide +kernel
theorem dX7_isPrimitive_0 : decode cX7_isPrimitive 0 = .ok (.iload_n 0, 1) := by decide +kernel
theorem dX7_isPrimitive_1 : decode cX7_isPrimitive 1 = .ok (.ldc 28, 2) := by decide +kernel
theorem dX7_isPrimitive_3 : decode cX7_isPrimitive 3 = .ok (.if_icmp .lt 13, 3) := by decide +kernel
theorem dX7_isPrimitive_6 : decode cX7_isPrimitive 6 = .ok (.iload_n 0, 1) := by decide +kernel
theorem dX7_isPrimitive_7 : decode cX7_isPrimitive 7 = .ok (.ldc 36, 2) := by decide +kernel
theorem dX7_isPrimitive_9 : decode cX7_isPrimitive 9 = .ok (.if_icmp .ge 7, 3) := by decide +kernel
theorem dX7_isPrimitive_12 : decode cX7_isPrimitive 12 = .ok (.iconst 1, 1) := by decide +kernel
theorem dX7_isPrimitive_13 : decode cX7_isPrimitive 13 = .ok (.goto 4, 3) := by decide +kernel
theorem dX7_isPrimitive_16 : decode cX7_isPrimitive 16 = .ok (.iconst 0, 1) := by decide +kernel
theorem dX7_isPrimitive_17 : decode cX7_isPrimitive 17 = .ok (.ireturn, 1) := by decide +kernel
theorem dX7_dimensionsOf_0 : decode cX7_dimensionsOf 0 = .ok (.iload_n 0, 1) := by decide +kernel
theorem dX7_dimensionsOf_1 : decode cX7_dimensionsOf 1 = .ok (.bipush 16, 2) := by decide +kernel
theorem dX7_dimensionsOf_3 : decode cX7_dimensionsOf 3 = .ok (.iushr, 1) := by decide +kernel
theorem dX7_dimensionsOf_4 : decode cX7_dimensionsOf 4 = .ok (.ireturn, 1) := by decide +kernel
theorem dX7_widthOf_0 : decode cX7_widthOf 0 = .ok (.iload_n 0, 1) := by decide +kernel
theorem dX7_widthOf_1 : decode cX7_widthOf 1 = .ok (.ldc 23, 2) := by decide +kernel
theorem dX7_widthOf_3 : decode cX7_widthOf 3 = .ok (.if_icmp .eq 9, 3) := by decide +kernel
theorem dX7_widthOf_6 : decode cX7_widthOf 6 = .ok (.iload_n 0, 1) := by decide +kernel
theorem dX7_widthOf_7 : decode cX7_widthOf 7 = .ok (.ldc 37, 2) := by decide +kernel
theorem dX7_widthOf_9 : decode cX7_widthOf 9 = .ok (.if_icmp .ne 7, 3) := by decide +kernel
theorem dX7_widthOf_12 : decode cX7_widthOf 12 = .ok (.iconst 2, 1) := by decide +kernel
theorem dX7_widthOf_13 : decode cX7_widthOf 13 = .ok (.goto 4, 3) := by decide +kernel
theorem dX7_widthOf_16 : decode cX7_widthOf 16 = .ok (.iconst 1, 1) := by decide +kernel
theorem dX7_widthOf_17 : decode cX7_widthOf 17 = .ok (.ireturn, 1) := by decide +kernel
set_option maxRecDepth 20000 in
theorem ggX7_placeOf_X7_isPrimitive : GoodIn wsX7_placeOf wsX7_isPrimitive := goodIn_r _ [4, 5, 6] rfl (by decide +kernel)
set_option maxRecDepth 20000 in
theorem gX7_placeOf_X7_isPrimitive : GoodIn wsX7_placeOf (va_wsS RX7 33 yX7_isPrimitive wsX7_isPrimitive) := goodIn_app (goodIn_of _ (by decide +kernel)) ggX7_placeOf_X7_isPrimitive
theorem dX7_placeOf_0 : decode cX7_placeOf 0 = .ok (.iload_n 0, 1) := by decide +kernel
theorem dX7_placeOf_1 : decode cX7_placeOf 1 = .ok (.invokestatic 33, 3) := by decide +kernel
theorem dX7_placeOf_4 : decode cX7_placeOf 4 = .ok (.ifCond .ne 11, 3) := by decide +kernel
theorem dX7_placeOf_7 : decode cX7_placeOf 7 = .ok (.bipush 16, 2) := by decide +kernel
theorem dX7_placeOf_9 : decode cX7_placeOf 9 = .ok (.iload_n 0, 1) := by decide +kernel
theorem dX7_placeOf_10 : decode cX7_placeOf 10 = .ok (.imul, 1) := by decide +kernel
theorem dX7_placeOf_11 : decode cX7_placeOf 11 = .ok (.bipush 8, 2) := by decide +kernel
theorem dX7_placeOf_13 : decode cX7_placeOf 13 = .ok (.iadd, 1) := by decide +kernel
theorem dX7_placeOf_14 : decode cX7_placeOf 14 = .ok (.ireturn, 1) := by decide +kernel
theorem dX7_placeOf_15 : decode cX7_placeOf 15 = .ok (.iload_n 0, 1) := by decide +kernel
theorem dX7_placeOf_16 : decode cX7_placeOf 16 = .ok (.lookupswitch 42 #[(65530, 36), (65531, 38), (65535, 40)], 36) := by decide +kernel
theorem dX7_placeOf_52 : decode cX7_placeOf 52 = .ok (.iconst 2, 1) := by decide +kernel
theorem dX7_placeOf_53 : decode cX7_placeOf 53 = .ok (.ireturn, 1) := by decide +kernel
theorem dX7_placeOf_54 : decode cX7_placeOf 54 = .ok (.iconst 4, 1) := by decide +kernel
theorem dX7_placeOf_55 : decode cX7_placeOf 55 = .ok (.ireturn, 1) := by decide +kernel
theorem dX7_placeOf_56 : decode cX7_placeOf 56 = .ok (.iconst 3, 1) := by decide +kernel
theorem dX7_placeOf_57 : decode cX7_placeOf 57 = .ok (.ireturn, 1) := by decide +kernel
theorem dX7_placeOf_58 : decode cX7_placeOf 58 = .ok (.iconst 1, 1) := by decide +kernel
theorem dX7_placeOf_59 : decode cX7_placeOf 59 = .ok (.ireturn, 1) := by decide +kernel
set_option maxRecDepth 20000 in
theorem ggX7_mayStand_X7_isPrimitive : GoodIn wsX7_mayStand wsX7_isPrimitive := goodIn_r _ [5, 6, 7] rfl (by decide +kernel)
set_option maxRecDepth 20000 in
theorem gX7_mayStand_X7_isPrimitive : GoodIn wsX7_mayStand (va_wsS RX7 33 yX7_isPrimitive wsX7_isPrimitive) := goodIn_app (goodIn_of _ (by decide +kernel)) ggX7_mayStand_X7_isPrimitive
set_option maxRecDepth 20000 in
theorem ggX7_mayStand_X7_dimensionsOf : GoodIn wsX7_mayStand wsX7_dimensionsOf := goodIn_r _ [10] rfl (by decide +kernel)
set_option maxRecDepth 20000 in
theorem gX7_mayStand_X7_dimensionsOf : GoodIn wsX7_mayStand (va_wsS RX7 24 yX7_dimensionsOf wsX7_dimensionsOf) := goodIn_app (goodIn_of _ (by decide +kernel)) ggX7_mayStand_X7_dimensionsOf
set_option maxRecDepth 20000 in
theorem ggX7_mayStand_X7_mayClassStand : GoodIn wsX7_mayStand wsX7_mayClassStand := goodIn_r _ [14, 15, 16, 17, 18, 19, 20] rfl (by decide +kernel)
set_option maxRecDepth 20000 in
theorem gX7_mayStand_X7_mayClassStand : GoodIn wsX7_mayStand (wsV RX7 38 RX7 yX7_mayClassStand wsX7_mayClassStand) := goodIn_app (goodIn_of _ (by decide +kernel)) ggX7_mayStand_X7_mayClassStand
theorem dX7_mayStand_0 : decode cX7_mayStand 0 = .ok (.iload_n 1, 1) := by decide +kernel
theorem dX7_mayStand_1 : decode cX7_mayStand 1 = .ok (.iload_n 2, 1) := by decide +kernel
theorem dX7_mayStand_2 : decode cX7_mayStand 2 = .ok (.if_icmp .ne 5, 3) := by decide +kernel
theorem dX7_mayStand_5 : decode cX7_mayStand 5 = .ok (.iconst 1, 1) := by decide +kernel
theorem dX7_mayStand_6 : decode cX7_mayStand 6 = .ok (.ireturn, 1) := by decide +kernel
theorem dX7_mayStand_7 : decode cX7_mayStand 7 = .ok (.iload_n 1, 1) := by decide +kernel
theorem dX7_mayStand_8 : decode cX7_mayStand 8 = .ok (.invokestatic 33, 3) := by decide +kernel
theorem dX7_mayStand_11 : decode cX7_mayStand 11 = .ok (.ifCond .ne 10, 3) := by decide +kernel
theorem dX7_mayStand_14 : decode cX7_mayStand 14 = .ok (.iload_n 2, 1) := by decide +kernel
theorem dX7_mayStand_15 : decode cX7_mayStand 15 = .ok (.invokestatic 33, 3) := by decide +kernel
theorem dX7_mayStand_18 : decode cX7_mayStand 18 = .ok (.ifCond .eq 5, 3) := by decide +kernel
theorem dX7_mayStand_21 : decode cX7_mayStand 21 = .ok (.iconst 0, 1) := by decide +kernel
theorem dX7_mayStand_22 : decode cX7_mayStand 22 = .ok (.ireturn, 1) := by decide +kernel
theorem dX7_mayStand_23 : decode cX7_mayStand 23 = .ok (.iload_n 2, 1) := by decide +kernel
theorem dX7_mayStand_24 : decode cX7_mayStand 24 = .ok (.ldc 23, 2) := by decide +kernel
theorem dX7_mayStand_26 : decode cX7_mayStand 26 = .ok (.iand, 1) := by decide +kernel
theorem dX7_mayStand_27 : decode cX7_mayStand 27 = .ok (.istore_n 3, 1) := by decide +kernel
theorem dX7_mayStand_28 : decode cX7_mayStand 28 = .ok (.iload_n 1, 1) := by decide +kernel
theorem dX7_mayStand_29 : decode cX7_mayStand 29 = .ok (.invokestatic 24, 3) := by decide +kernel
theorem dX7_mayStand_32 : decode cX7_mayStand 32 = .ok (.iload_n 2, 1) := by decide +kernel
theorem dX7_mayStand_33 : decode cX7_mayStand 33 = .ok (.invokestatic 24, 3) := by decide +kernel
theorem dX7_mayStand_36 : decode cX7_mayStand 36 = .ok (.isub, 1) := by decide +kernel
theorem dX7_mayStand_37 : decode cX7_mayStand 37 = .ok (.istore 4, 2) := by decide +kernel
theorem dX7_mayStand_39 : decode cX7_mayStand 39 = .ok (.iload 4, 2) := by decide +kernel
theorem dX7_mayStand_41 : decode cX7_mayStand 41 = .ok (.ifCond .le 23, 3) := by decide +kernel
theorem dX7_mayStand_44 : decode cX7_mayStand 44 = .ok (.iload_n 3, 1) := by decide +kernel
theorem dX7_mayStand_45 : decode cX7_mayStand 45 = .ok (.ifCond .eq 13, 3) := by decide +kernel
theorem dX7_mayStand_48 : decode cX7_mayStand 48 = .ok (.iload_n 3, 1) := by decide +kernel
theorem dX7_mayStand_49 : decode cX7_mayStand 49 = .ok (.iconst 2, 1) := by decide +kernel
theorem dX7_mayStand_50 : decode cX7_mayStand 50 = .ok (.if_icmp .eq 8, 3) := by decide +kernel
theorem dX7_mayStand_53 : decode cX7_mayStand 53 = .ok (.iload_n 3, 1) := by decide +kernel
theorem dX7_mayStand_54 : decode cX7_mayStand 54 = .ok (.iconst 3, 1) := by decide +kernel
theorem dX7_mayStand_55 : decode cX7_mayStand 55 = .ok (.if_icmp .ne 7, 3) := by decide +kernel
theorem dX7_mayStand_58 : decode cX7_mayStand 58 = .ok (.iconst 1, 1) := by decide +kernel
theorem dX7_mayStand_59 : decode cX7_mayStand 59 = .ok (.goto 4, 3) := by decide +kernel
theorem dX7_mayStand_62 : decode cX7_mayStand 62 = .ok (.iconst 0, 1) := by decide +kernel
theorem dX7_mayStand_63 : decode cX7_mayStand 63 = .ok (.ireturn, 1) := by decide +kernel
theorem dX7_mayStand_64 : decode cX7_mayStand 64 = .ok (.iload 4, 2) := by decide +kernel
theorem dX7_mayStand_66 : decode cX7_mayStand 66 = .ok (.ifCond .ne 19, 3) := by decide +kernel
theorem dX7_mayStand_69 : decode cX7_mayStand 69 = .ok (.aload_n 0, 1) := by decide +kernel
theorem dX7_mayStand_70 : decode cX7_mayStand 70 = .ok (.iload_n 1, 1) := by decide +kernel
theorem dX7_mayStand_71 : decode cX7_mayStand 71 = .ok (.ldc 23, 2) := by decide +kernel
theorem dX7_mayStand_73 : decode cX7_mayStand 73 = .ok (.iand, 1) := by decide +kernel
theorem dX7_mayStand_74 : decode cX7_mayStand 74 = .ok (.iload_n 3, 1) := by decide +kernel
theorem dX7_mayStand_75 : decode cX7_mayStand 75 = .ok (.invokevirtual 38, 3) := by decide +kernel
theorem dX7_mayStand_78 : decode cX7_mayStand 78 = .ok (.ifCond .eq 7, 3) := by decide +kernel
theorem dX7_mayStand_81 : decode cX7_mayStand 81 = .ok (.iconst 1, 1) := by decide +kernel
theorem dX7_mayStand_82 : decode cX7_mayStand 82 = .ok (.goto 4, 3) := by decide +kernel
theorem dX7_mayStand_85 : decode cX7_mayStand 85 = .ok (.iconst 0, 1) := by decide +kernel
theorem dX7_mayStand_86 : decode cX7_mayStand 86 = .ok (.ireturn, 1) := by decide +kernel
theorem dX7_mayClassStand_0 : decode cX7_mayClassStand 0 = .ok (.iload_n 1, 1) := by decide +kernel
theorem dX7_mayClassStand_1 : decode cX7_mayClassStand 1 = .ok (.aload_n 0, 1) := by decide +kernel
theorem dX7_mayClassStand_2 : decode cX7_mayClassStand 2 = .ok (.getfield 19, 3) := by decide +kernel
theorem dX7_mayClassStand_5 : decode cX7_mayClassStand 5 = .ok (.if_icmp .ge 11, 3) := by decide +kernel
theorem dX7_mayClassStand_8 : decode cX7_mayClassStand 8 = .ok (.iload_n 2, 1) := by decide +kernel
theorem dX7_mayClassStand_9 : decode cX7_mayClassStand 9 = .ok (.aload_n 0, 1) := by decide +kernel
theorem dX7_mayClassStand_10 : decode cX7_mayClassStand 10 = .ok (.getfield 19, 3) := by decide +kernel
theorem dX7_mayClassStand_13 : decode cX7_mayClassStand 13 = .ok (.if_icmp .lt 5, 3) := by decide +kernel
theorem dX7_mayClassStand_16 : decode cX7_mayClassStand 16 = .ok (.iconst 0, 1) := by decide +kernel
theorem dX7_mayClassStand_17 : decode cX7_mayClassStand 17 = .ok (.ireturn, 1) := by decide +kernel
theorem dX7_mayClassStand_18 : decode cX7_mayClassStand 18 = .ok (.iload_n 2, 1) := by decide +kernel
theorem dX7_mayClassStand_19 : decode cX7_mayClassStand 19 = .ok (.ifCond .eq 12, 3) := by decide +kernel
theorem dX7_mayClassStand_22 : decode cX7_mayClassStand 22 = .ok (.aload_n 0, 1) := by decide +kernel
theorem dX7_mayClassStand_23 : decode cX7_mayClassStand 23 = .ok (.getfield 15, 3) := by decide +kernel
theorem dX7_mayClassStand_26 : decode cX7_mayClassStand 26 = .ok (.iload_n 2, 1) := by decide +kernel
theorem dX7_mayClassStand_27 : decode cX7_mayClassStand 27 = .ok (.baload, 1) := by decide +kernel
theorem dX7_mayClassStand_28 : decode cX7_mayClassStand 28 = .ok (.ifCond .eq 5, 3) := by decide +kernel
theorem dX7_mayClassStand_31 : decode cX7_mayClassStand 31 = .ok (.iconst 1, 1) := by decide +kernel
theorem dX7_mayClassStand_32 : decode cX7_mayClassStand 32 = .ok (.ireturn, 1) := by decide +kernel
theorem dX7_mayClassStand_33 : decode cX7_mayClassStand 33 = .ok (.iload_n 1, 1) := by decide +kernel
theorem dX7_mayClassStand_34 : decode cX7_mayClassStand 34 = .ok (.istore_n 3, 1) := by decide +kernel
theorem dX7_mayClassStand_35 : decode cX7_mayClassStand 35 = .ok (.iconst 0, 1) := by decide +kernel
theorem dX7_mayClassStand_36 : decode cX7_mayClassStand 36 = .ok (.istore 4, 2) := by decide +kernel
theorem dX7_mayClassStand_38 : decode cX7_mayClassStand 38 = .ok (.iload 4, 2) := by decide +kernel
theorem dX7_mayClassStand_40 : decode cX7_mayClassStand 40 = .ok (.sipush 200, 3) := by decide +kernel
theorem dX7_mayClassStand_43 : decode cX7_mayClassStand 43 = .ok (.if_icmp .ge 21, 3) := by decide +kernel
theorem dX7_mayClassStand_46 : decode cX7_mayClassStand 46 = .ok (.iload_n 3, 1) := by decide +kernel
theorem dX7_mayClassStand_47 : decode cX7_mayClassStand 47 = .ok (.iload_n 2, 1) := by decide +kernel
theorem dX7_mayClassStand_48 : decode cX7_mayClassStand 48 = .ok (.if_icmp .le 16, 3) := by decide +kernel
theorem dX7_mayClassStand_51 : decode cX7_mayClassStand 51 = .ok (.aload_n 0, 1) := by decide +kernel
theorem dX7_mayClassStand_52 : decode cX7_mayClassStand 52 = .ok (.getfield 9, 3) := by decide +kernel
theorem dX7_mayClassStand_55 : decode cX7_mayClassStand 55 = .ok (.iload_n 3, 1) := by decide +kernel
theorem dX7_mayClassStand_56 : decode cX7_mayClassStand 56 = .ok (.iaload, 1) := by decide +kernel
theorem dX7_mayClassStand_57 : decode cX7_mayClassStand 57 = .ok (.istore_n 3, 1) := by decide +kernel
theorem dX7_mayClassStand_58 : decode cX7_mayClassStand 58 = .ok (.iinc 4 1, 3) := by decide +kernel
theorem dX7_mayClassStand_61 : decode cX7_mayClassStand 61 = .ok (.goto (-23), 3) := by decide +kernel
theorem dX7_mayClassStand_64 : decode cX7_mayClassStand 64 = .ok (.iload_n 3, 1) := by decide +kernel
theorem dX7_mayClassStand_65 : decode cX7_mayClassStand 65 = .ok (.iload_n 2, 1) := by decide +kernel
theorem dX7_mayClassStand_66 : decode cX7_mayClassStand 66 = .ok (.if_icmp .ne 7, 3) := by decide +kernel
theorem dX7_mayClassStand_69 : decode cX7_mayClassStand 69 = .ok (.iconst 1, 1) := by decide +kernel
theorem dX7_mayClassStand_70 : decode cX7_mayClassStand 70 = .ok (.goto 4, 3) := by decide +kernel
theorem dX7_mayClassStand_73 : decode cX7_mayClassStand 73 = .ok (.iconst 0, 1) := by decide +kernel
theorem dX7_mayClassStand_74 : decode cX7_mayClassStand 74 = .ok (.ireturn, 1) := by decide +kernel
set_option maxRecDepth 20000 in
theorem ggX7_sharedOf_X7_dimensionsOf : GoodIn wsX7_sharedOf wsX7_dimensionsOf := goodIn_r _ [8] rfl (by decide +kernel)
set_option maxRecDepth 20000 in
theorem gX7_sharedOf_X7_dimensionsOf : GoodIn wsX7_sharedOf (va_wsS RX7 24 yX7_dimensionsOf wsX7_dimensionsOf) := goodIn_app (goodIn_of _ (by decide +kernel)) ggX7_sharedOf_X7_dimensionsOf
theorem dX7_sharedOf_0 : decode cX7_sharedOf 0 = .ok (.iload_n 1, 1) := by decide +kernel
theorem dX7_sharedOf_1 : decode cX7_sharedOf 1 = .ok (.iload_n 2, 1) := by decide +kernel
theorem dX7_sharedOf_2 : decode cX7_sharedOf 2 = .ok (.if_icmp .ne 5, 3) := by decide +kernel
theorem dX7_sharedOf_5 : decode cX7_sharedOf 5 = .ok (.iload_n 1, 1) := by decide +kernel
theorem dX7_sharedOf_6 : decode cX7_sharedOf 6 = .ok (.ireturn, 1) := by decide +kernel
theorem dX7_sharedOf_7 : decode cX7_sharedOf 7 = .ok (.iload_n 1, 1) := by decide +kernel
theorem dX7_sharedOf_8 : decode cX7_sharedOf 8 = .ok (.ldc 23, 2) := by decide +kernel
theorem dX7_sharedOf_10 : decode cX7_sharedOf 10 = .ok (.iand, 1) := by decide +kernel
theorem dX7_sharedOf_11 : decode cX7_sharedOf 11 = .ok (.istore_n 3, 1) := by decide +kernel
theorem dX7_sharedOf_12 : decode cX7_sharedOf 12 = .ok (.iload_n 2, 1) := by decide +kernel
theorem dX7_sharedOf_13 : decode cX7_sharedOf 13 = .ok (.ldc 23, 2) := by decide +kernel
theorem dX7_sharedOf_15 : decode cX7_sharedOf 15 = .ok (.iand, 1) := by decide +kernel
theorem dX7_sharedOf_16 : decode cX7_sharedOf 16 = .ok (.istore 4, 2) := by decide +kernel
theorem dX7_sharedOf_18 : decode cX7_sharedOf 18 = .ok (.iload_n 1, 1) := by decide +kernel
theorem dX7_sharedOf_19 : decode cX7_sharedOf 19 = .ok (.invokestatic 24, 3) := by decide +kernel
theorem dX7_sharedOf_22 : decode cX7_sharedOf 22 = .ok (.istore 5, 2) := by decide +kernel
theorem dX7_sharedOf_24 : decode cX7_sharedOf 24 = .ok (.iload_n 2, 1) := by decide +kernel
theorem dX7_sharedOf_25 : decode cX7_sharedOf 25 = .ok (.invokestatic 24, 3) := by decide +kernel
theorem dX7_sharedOf_28 : decode cX7_sharedOf 28 = .ok (.istore 6, 2) := by decide +kernel
theorem dX7_sharedOf_30 : decode cX7_sharedOf 30 = .ok (.iload 5, 2) := by decide +kernel
theorem dX7_sharedOf_32 : decode cX7_sharedOf 32 = .ok (.iload 6, 2) := by decide +kernel
theorem dX7_sharedOf_34 : decode cX7_sharedOf 34 = .ok (.if_icmp .ne 20, 3) := by decide +kernel
theorem dX7_sharedOf_37 : decode cX7_sharedOf 37 = .ok (.iload_n 3, 1) := by decide +kernel
theorem dX7_sharedOf_38 : decode cX7_sharedOf 38 = .ok (.aload_n 0, 1) := by decide +kernel
theorem dX7_sharedOf_39 : decode cX7_sharedOf 39 = .ok (.getfield 19, 3) := by decide +kernel
theorem dX7_sharedOf_42 : decode cX7_sharedOf 42 = .ok (.if_icmp .ge 12, 3) := by decide +kernel
theorem dX7_sharedOf_45 : decode cX7_sharedOf 45 = .ok (.iload 4, 2) := by decide +kernel
theorem dX7_sharedOf_47 : decode cX7_sharedOf 47 = .ok (.aload_n 0, 1) := by decide +kernel
theorem dX7_sharedOf_48 : decode cX7_sharedOf 48 = .ok (.getfield 19, 3) := by decide +kernel
theorem dX7_sharedOf_51 : decode cX7_sharedOf 51 = .ok (.if_icmp .lt 56, 3) := by decide +kernel
theorem dX7_sharedOf_54 : decode cX7_sharedOf 54 = .ok (.iload_n 3, 1) := by decide +kernel
theorem dX7_sharedOf_55 : decode cX7_sharedOf 55 = .ok (.ldc 28, 2) := by decide +kernel
theorem dX7_sharedOf_57 : decode cX7_sharedOf 57 = .ok (.if_icmp .ge 8, 3) := by decide +kernel
theorem dX7_sharedOf_60 : decode cX7_sharedOf 60 = .ok (.iload 5, 2) := by decide +kernel
theorem dX7_sharedOf_62 : decode cX7_sharedOf 62 = .ok (.goto 7, 3) := by decide +kernel
theorem dX7_sharedOf_65 : decode cX7_sharedOf 65 = .ok (.iload 5, 2) := by decide +kernel
theorem dX7_sharedOf_67 : decode cX7_sharedOf 67 = .ok (.iconst 1, 1) := by decide +kernel
theorem dX7_sharedOf_68 : decode cX7_sharedOf 68 = .ok (.isub, 1) := by decide +kernel
theorem dX7_sharedOf_69 : decode cX7_sharedOf 69 = .ok (.istore 7, 2) := by decide +kernel
theorem dX7_sharedOf_71 : decode cX7_sharedOf 71 = .ok (.iload 4, 2) := by decide +kernel
theorem dX7_sharedOf_73 : decode cX7_sharedOf 73 = .ok (.ldc 28, 2) := by decide +kernel
theorem dX7_sharedOf_75 : decode cX7_sharedOf 75 = .ok (.if_icmp .ge 8, 3) := by decide +kernel
theorem dX7_sharedOf_78 : decode cX7_sharedOf 78 = .ok (.iload 6, 2) := by decide +kernel
theorem dX7_sharedOf_80 : decode cX7_sharedOf 80 = .ok (.goto 7, 3) := by decide +kernel
theorem dX7_sharedOf_83 : decode cX7_sharedOf 83 = .ok (.iload 6, 2) := by decide +kernel
theorem dX7_sharedOf_85 : decode cX7_sharedOf 85 = .ok (.iconst 1, 1) := by decide +kernel
theorem dX7_sharedOf_86 : decode cX7_sharedOf 86 = .ok (.isub, 1) := by decide +kernel
theorem dX7_sharedOf_87 : decode cX7_sharedOf 87 = .ok (.istore 8, 2) := by decide +kernel
theorem dX7_sharedOf_89 : decode cX7_sharedOf 89 = .ok (.iload 7, 2) := by decide +kernel
theorem dX7_sharedOf_91 : decode cX7_sharedOf 91 = .ok (.iload 8, 2) := by decide +kernel
theorem dX7_sharedOf_93 : decode cX7_sharedOf 93 = .ok (.if_icmp .ge 8, 3) := by decide +kernel
theorem dX7_sharedOf_96 : decode cX7_sharedOf 96 = .ok (.iload 7, 2) := by decide +kernel
theorem dX7_sharedOf_98 : decode cX7_sharedOf 98 = .ok (.goto 5, 3) := by decide +kernel
theorem dX7_sharedOf_101 : decode cX7_sharedOf 101 = .ok (.iload 8, 2) := by decide +kernel
theorem dX7_sharedOf_103 : decode cX7_sharedOf 103 = .ok (.bipush 16, 2) := by decide +kernel
theorem dX7_sharedOf_105 : decode cX7_sharedOf 105 = .ok (.ishl, 1) := by decide +kernel
theorem dX7_sharedOf_106 : decode cX7_sharedOf 106 = .ok (.ireturn, 1) := by decide +kernel
theorem dX7_sharedOf_107 : decode cX7_sharedOf 107 = .ok (.iconst 0, 1) := by decide +kernel
theorem dX7_sharedOf_108 : decode cX7_sharedOf 108 = .ok (.istore 7, 2) := by decide +kernel
theorem dX7_sharedOf_110 : decode cX7_sharedOf 110 = .ok (.iload 7, 2) := by decide +kernel
theorem dX7_sharedOf_112 : decode cX7_sharedOf 112 = .ok (.sipush 400, 3) := by decide +kernel
theorem dX7_sharedOf_115 : decode cX7_sharedOf 115 = .ok (.if_icmp .ge 40, 3) := by decide +kernel
theorem dX7_sharedOf_118 : decode cX7_sharedOf 118 = .ok (.iload_n 3, 1) := by decide +kernel
theorem dX7_sharedOf_119 : decode cX7_sharedOf 119 = .ok (.iload 4, 2) := by decide +kernel
theorem dX7_sharedOf_121 : decode cX7_sharedOf 121 = .ok (.if_icmp .eq 34, 3) := by decide +kernel
theorem dX7_sharedOf_124 : decode cX7_sharedOf 124 = .ok (.iload_n 3, 1) := by decide +kernel
theorem dX7_sharedOf_125 : decode cX7_sharedOf 125 = .ok (.iload 4, 2) := by decide +kernel
theorem dX7_sharedOf_127 : decode cX7_sharedOf 127 = .ok (.if_icmp .le 13, 3) := by decide +kernel
theorem dX7_sharedOf_130 : decode cX7_sharedOf 130 = .ok (.aload_n 0, 1) := by decide +kernel
theorem dX7_sharedOf_131 : decode cX7_sharedOf 131 = .ok (.getfield 9, 3) := by decide +kernel
theorem dX7_sharedOf_134 : decode cX7_sharedOf 134 = .ok (.iload_n 3, 1) := by decide +kernel
theorem dX7_sharedOf_135 : decode cX7_sharedOf 135 = .ok (.iaload, 1) := by decide +kernel
theorem dX7_sharedOf_136 : decode cX7_sharedOf 136 = .ok (.istore_n 3, 1) := by decide +kernel
theorem dX7_sharedOf_137 : decode cX7_sharedOf 137 = .ok (.goto 12, 3) := by decide +kernel
theorem dX7_sharedOf_140 : decode cX7_sharedOf 140 = .ok (.aload_n 0, 1) := by decide +kernel
theorem dX7_sharedOf_141 : decode cX7_sharedOf 141 = .ok (.getfield 9, 3) := by decide +kernel
theorem dX7_sharedOf_144 : decode cX7_sharedOf 144 = .ok (.iload 4, 2) := by decide +kernel
theorem dX7_sharedOf_146 : decode cX7_sharedOf 146 = .ok (.iaload, 1) := by decide +kernel
theorem dX7_sharedOf_147 : decode cX7_sharedOf 147 = .ok (.istore 4, 2) := by decide +kernel
theorem dX7_sharedOf_149 : decode cX7_sharedOf 149 = .ok (.iinc 7 1, 3) := by decide +kernel
theorem dX7_sharedOf_152 : decode cX7_sharedOf 152 = .ok (.goto (-42), 3) := by decide +kernel
theorem dX7_sharedOf_155 : decode cX7_sharedOf 155 = .ok (.iload 5, 2) := by decide +kernel
theorem dX7_sharedOf_157 : decode cX7_sharedOf 157 = .ok (.bipush 16, 2) := by decide +kernel
theorem dX7_sharedOf_159 : decode cX7_sharedOf 159 = .ok (.ishl, 1) := by decide +kernel
theorem dX7_sharedOf_160 : decode cX7_sharedOf 160 = .ok (.iload_n 3, 1) := by decide +kernel
theorem dX7_sharedOf_161 : decode cX7_sharedOf 161 = .ok (.iadd, 1) := by decide +kernel
theorem dX7_sharedOf_162 : decode cX7_sharedOf 162 = .ok (.ireturn, 1) := by decide +kernel
set_option maxRecDepth 20000 in
theorem ggX7_meet_X7_sharedOf : GoodIn wsX7_meet wsX7_sharedOf := goodIn_r _ [5, 6, 7, 8, 9, 10, 11, 4, 12, 13, 14, 15] rfl (by decide +kernel)
set_option maxRecDepth 20000 in
theorem gX7_meet_X7_sharedOf : GoodIn wsX7_meet (wsV RX7 42 RX7 yX7_sharedOf wsX7_sharedOf) := goodIn_app (goodIn_of _ (by decide +kernel)) ggX7_meet_X7_sharedOf
theorem dX7_meet_0 : decode cX7_meet 0 = .ok (.iload_n 1, 1) := by decide +kernel
theorem dX7_meet_1 : decode cX7_meet 1 = .ok (.iload_n 2, 1) := by decide +kernel
theorem dX7_meet_2 : decode cX7_meet 2 = .ok (.if_icmp .ne 5, 3) := by decide +kernel
theorem dX7_meet_5 : decode cX7_meet 5 = .ok (.iload_n 1, 1) := by decide +kernel
theorem dX7_meet_6 : decode cX7_meet 6 = .ok (.ireturn, 1) := by decide +kernel
theorem dX7_meet_7 : decode cX7_meet 7 = .ok (.iload_n 1, 1) := by decide +kernel
theorem dX7_meet_8 : decode cX7_meet 8 = .ok (.bipush 15, 2) := by decide +kernel
theorem dX7_meet_10 : decode cX7_meet 10 = .ok (.iand, 1) := by decide +kernel
theorem dX7_meet_11 : decode cX7_meet 11 = .ok (.bipush 8, 2) := by decide +kernel
theorem dX7_meet_13 : decode cX7_meet 13 = .ok (.if_icmp .ne 7, 3) := by decide +kernel
theorem dX7_meet_16 : decode cX7_meet 16 = .ok (.iconst 1, 1) := by decide +kernel
theorem dX7_meet_17 : decode cX7_meet 17 = .ok (.goto 4, 3) := by decide +kernel
theorem dX7_meet_20 : decode cX7_meet 20 = .ok (.iconst 0, 1) := by decide +kernel
theorem dX7_meet_21 : decode cX7_meet 21 = .ok (.istore_n 3, 1) := by decide +kernel
theorem dX7_meet_22 : decode cX7_meet 22 = .ok (.iload_n 2, 1) := by decide +kernel
theorem dX7_meet_23 : decode cX7_meet 23 = .ok (.bipush 15, 2) := by decide +kernel
theorem dX7_meet_25 : decode cX7_meet 25 = .ok (.iand, 1) := by decide +kernel
theorem dX7_meet_26 : decode cX7_meet 26 = .ok (.bipush 8, 2) := by decide +kernel
theorem dX7_meet_28 : decode cX7_meet 28 = .ok (.if_icmp .ne 7, 3) := by decide +kernel
theorem dX7_meet_31 : decode cX7_meet 31 = .ok (.iconst 1, 1) := by decide +kernel
theorem dX7_meet_32 : decode cX7_meet 32 = .ok (.goto 4, 3) := by decide +kernel
theorem dX7_meet_35 : decode cX7_meet 35 = .ok (.iconst 0, 1) := by decide +kernel
theorem dX7_meet_36 : decode cX7_meet 36 = .ok (.istore 4, 2) := by decide +kernel
theorem dX7_meet_38 : decode cX7_meet 38 = .ok (.iload_n 3, 1) := by decide +kernel
theorem dX7_meet_39 : decode cX7_meet 39 = .ok (.ifCond .eq 25, 3) := by decide +kernel
theorem dX7_meet_42 : decode cX7_meet 42 = .ok (.iload 4, 2) := by decide +kernel
theorem dX7_meet_44 : decode cX7_meet 44 = .ok (.ifCond .eq 20, 3) := by decide +kernel
theorem dX7_meet_47 : decode cX7_meet 47 = .ok (.bipush 16, 2) := by decide +kernel
theorem dX7_meet_49 : decode cX7_meet 49 = .ok (.aload_n 0, 1) := by decide +kernel
theorem dX7_meet_50 : decode cX7_meet 50 = .ok (.iload_n 1, 1) := by decide +kernel
theorem dX7_meet_51 : decode cX7_meet 51 = .ok (.iconst 4, 1) := by decide +kernel
theorem dX7_meet_52 : decode cX7_meet 52 = .ok (.ishr, 1) := by decide +kernel
theorem dX7_meet_53 : decode cX7_meet 53 = .ok (.iload_n 2, 1) := by decide +kernel
theorem dX7_meet_54 : decode cX7_meet 54 = .ok (.iconst 4, 1) := by decide +kernel
theorem dX7_meet_55 : decode cX7_meet 55 = .ok (.ishr, 1) := by decide +kernel
theorem dX7_meet_56 : decode cX7_meet 56 = .ok (.invokevirtual 42, 3) := by decide +kernel
theorem dX7_meet_59 : decode cX7_meet 59 = .ok (.imul, 1) := by decide +kernel
theorem dX7_meet_60 : decode cX7_meet 60 = .ok (.bipush 8, 2) := by decide +kernel
theorem dX7_meet_62 : decode cX7_meet 62 = .ok (.iadd, 1) := by decide +kernel
theorem dX7_meet_63 : decode cX7_meet 63 = .ok (.ireturn, 1) := by decide +kernel
theorem dX7_meet_64 : decode cX7_meet 64 = .ok (.iload_n 1, 1) := by decide +kernel
theorem dX7_meet_65 : decode cX7_meet 65 = .ok (.iconst 5, 1) := by decide +kernel
theorem dX7_meet_66 : decode cX7_meet 66 = .ok (.if_icmp .ne 10, 3) := by decide +kernel
theorem dX7_meet_69 : decode cX7_meet 69 = .ok (.iload 4, 2) := by decide +kernel
theorem dX7_meet_71 : decode cX7_meet 71 = .ok (.ifCond .eq 5, 3) := by decide +kernel
theorem dX7_meet_74 : decode cX7_meet 74 = .ok (.iload_n 2, 1) := by decide +kernel
theorem dX7_meet_75 : decode cX7_meet 75 = .ok (.ireturn, 1) := by decide +kernel
theorem dX7_meet_76 : decode cX7_meet 76 = .ok (.iload_n 2, 1) := by decide +kernel
theorem dX7_meet_77 : decode cX7_meet 77 = .ok (.iconst 5, 1) := by decide +kernel
theorem dX7_meet_78 : decode cX7_meet 78 = .ok (.if_icmp .ne 11, 3) := by decide +kernel
theorem dX7_meet_81 : decode cX7_meet 81 = .ok (.iload_n 3, 1) := by decide +kernel
theorem dX7_meet_82 : decode cX7_meet 82 = .ok (.ifCond .eq 7, 3) := by decide +kernel
theorem dX7_meet_85 : decode cX7_meet 85 = .ok (.iload_n 1, 1) := by decide +kernel
theorem dX7_meet_86 : decode cX7_meet 86 = .ok (.goto 4, 3) := by decide +kernel
theorem dX7_meet_89 : decode cX7_meet 89 = .ok (.iconst 0, 1) := by decide +kernel
theorem dX7_meet_90 : decode cX7_meet 90 = .ok (.ireturn, 1) := by decide +kernel
set_option maxRecDepth 20000 in
theorem ggX8_init_X7_init : GoodIn wsX8_init wsX7_init := goodIn_r _ [30, 31, 2, 3, 32, 33, 34, 35, 36, 122, 123, 124] rfl (by decide +kernel)
set_option maxRecDepth 20000 in
theorem gX8_init_X7_init : GoodIn wsX8_init (wsX7_init) := ggX8_init_X7_init
def ckX8_init : List (List Cond) := [[.code yX8_init cX8_init 1 none], wsX8_init_r1, wsX8_init_r2, wsX8_init_r3, wsX8_init_r4, wsX8_init_r5, wsX8_init_r6, wsX70, wsX80, wsX40, wsX00, wsX10, wsX30, wsX20, wsX50, wsX60]
theorem ckX8_initl : wsX8_init = ckX8_init.flatten := by
  simp only [wsX8_init, ckX8_init, List.flatten_cons, List.flatten_nil, List.append_assoc, List.append_nil, List.cons_append, List.nil_append]
set_option maxRecDepth 20000 in
theorem ggX8_init_X4_init : GoodIn wsX8_init wsX4_init := goodIn_t ckX8_init ckX8_initl _ [(2, 13), (2, 14), (1, 1), (1, 2), (2, 7), (2, 15), (2, 16), (2, 17), (2, 18), (2, 9), (2, 19), (2, 20), (2, 21), (9, 0), (9, 1), (9, 2), (9, 3), (9, 4), (9, 5), (9, 6), (9, 7), (9, 8)] rfl (by decide +kernel)
set_option maxRecDepth 20000 in
theorem gX8_init_X4_init_n18 : GoodIn wsX8_init (wsX4_init) := ggX8_init_X4_init
set_option maxRecDepth 20000 in
theorem ggX8_init_X0_init : GoodIn wsX8_init wsX0_init := goodIn_t ckX8_init ckX8_initl _ [(2, 23), (3, 0), (1, 1), (1, 2), (3, 1), (2, 7), (3, 2), (3, 3), (3, 4), (3, 5), (3, 6), (3, 7), (3, 8), (3, 9), (2, 9), (3, 10), (10, 0), (10, 1), (10, 2), (10, 3), (10, 4), (10, 5), (10, 6), (10, 7), (10, 8), (10, 9), (10, 10), (10, 11), (10, 12), (10, 13), (10, 14), (10, 15), (10, 16)] rfl (by decide +kernel)
set_option maxRecDepth 20000 in
theorem gX8_init_X0_init_n25 : GoodIn wsX8_init (wsX0_init) := ggX8_init_X0_init
set_option maxRecDepth 20000 in
theorem ggX8_init_X1_init : GoodIn wsX8_init wsX1_init := goodIn_t ckX8_init ckX8_initl _ [(3, 13), (3, 14), (1, 1), (1, 2), (2, 7), (3, 15), (3, 16), (3, 17), (3, 18), (3, 19), (3, 20), (11, 0), (11, 1), (11, 2), (11, 3), (11, 4), (11, 5)] rfl (by decide +kernel)
set_option maxRecDepth 20000 in
theorem gX8_init_X1_init : GoodIn wsX8_init (wsX1_init) := ggX8_init_X1_init
set_option maxRecDepth 20000 in
theorem ggX8_init_X3_init : GoodIn wsX8_init wsX3_init := goodIn_t ckX8_init ckX8_initl _ [(3, 23), (4, 0), (1, 1), (1, 2), (2, 7), (4, 1), (4, 2), (4, 3), (4, 4), (4, 5), (4, 6), (4, 7), (4, 8), (4, 9), (4, 10), (4, 11), (4, 12), (4, 13), (4, 14), (4, 15), (4, 16), (4, 17), (4, 18), (12, 0), (12, 1), (12, 2), (12, 3), (12, 4), (12, 5), (12, 6), (12, 7), (12, 8), (12, 9), (12, 10), (12, 11), (12, 12), (12, 13), (12, 14), (12, 15), (12, 16)] rfl (by decide +kernel)
set_option maxRecDepth 20000 in
theorem gX8_init_X3_init : GoodIn wsX8_init (wsX3_init) := ggX8_init_X3_init
set_option maxRecDepth 20000 in
theorem ggX8_init_X2_init : GoodIn wsX8_init wsX2_init := goodIn_t ckX8_init ckX8_initl _ [(4, 21), (4, 22), (1, 1), (1, 2), (4, 23), (5, 0), (5, 1), (5, 2), (5, 3), (5, 4), (5, 5), (5, 6), (5, 7), (5, 8), (5, 9), (5, 10), (5, 11), (5, 12), (5, 13), (5, 14), (2, 7), (5, 15), (5, 16), (5, 17), (5, 18), (5, 19), (5, 20), (5, 21), (5, 22), (5, 23), (6, 0), (13, 0), (13, 1), (13, 2), (13, 3), (13, 4), (13, 5), (14, 0), (14, 1), (14, 2), (14, 3), (14, 4), (14, 5), (14, 6), (14, 7), (14, 8), (14, 9), (15, 0), (15, 1), (15, 2), (15, 3)] rfl (by decide +kernel)
set_option maxRecDepth 20000 in
theorem gX8_init_X2_init : GoodIn wsX8_init (wsX2_init) := ggX8_init_X2_init
theorem dX8_init_0 : decode cX8_init 0 = .ok (.aload_n 0, 1) := by decide +kernel
theorem dX8_init_1 : decode cX8_init 1 = .ok (.invokespecial 1, 3) := by decide +kernel
theorem dX8_init_4 : decode cX8_init 4 = .ok (.aload_n 0, 1) := by decide +kernel
theorem dX8_init_5 : decode cX8_init 5 = .ok (.new 7, 3) := by decide +kernel
theorem dX8_init_8 : decode cX8_init 8 = .ok (.dup, 1) := by decide +kernel
theorem dX8_init_9 : decode cX8_init 9 = .ok (.invokespecial 9, 3) := by decide +kernel
theorem dX8_init_12 : decode cX8_init 12 = .ok (.putfield 10, 3) := by decide +kernel
theorem dX8_init_15 : decode cX8_init 15 = .ok (.aload_n 0, 1) := by decide +kernel
theorem dX8_init_16 : decode cX8_init 16 = .ok (.new 16, 3) := by decide +kernel
theorem dX8_init_19 : decode cX8_init 19 = .ok (.dup, 1) := by decide +kernel
theorem dX8_init_20 : decode cX8_init 20 = .ok (.invokespecial 18, 3) := by decide +kernel
theorem dX8_init_23 : decode cX8_init 23 = .ok (.putfield 19, 3) := by decide +kernel
theorem dX8_init_26 : decode cX8_init 26 = .ok (.aload_n 0, 1) := by decide +kernel
theorem dX8_init_27 : decode cX8_init 27 = .ok (.new 23, 3) := by decide +kernel
theorem dX8_init_30 : decode cX8_init 30 = .ok (.dup, 1) := by decide +kernel
theorem dX8_init_31 : decode cX8_init 31 = .ok (.invokespecial 25, 3) := by decide +kernel
theorem dX8_init_34 : decode cX8_init 34 = .ok (.putfield 26, 3) := by decide +kernel
theorem dX8_init_37 : decode cX8_init 37 = .ok (.aload_n 0, 1) := by decide +kernel
theorem dX8_init_38 : decode cX8_init 38 = .ok (.new 30, 3) := by decide +kernel
theorem dX8_init_41 : decode cX8_init 41 = .ok (.dup, 1) := by decide +kernel
theorem dX8_init_42 : decode cX8_init 42 = .ok (.invokespecial 32, 3) := by decide +kernel
theorem dX8_init_45 : decode cX8_init 45 = .ok (.putfield 33, 3) := by decide +kernel
theorem dX8_init_48 : decode cX8_init 48 = .ok (.aload_n 0, 1) := by decide +kernel
theorem dX8_init_49 : decode cX8_init 49 = .ok (.new 37, 3) := by decide +kernel
theorem dX8_init_52 : decode cX8_init 52 = .ok (.dup, 1) := by decide +kernel
theorem dX8_init_53 : decode cX8_init 53 = .ok (.aload_n 0, 1) := by decide +kernel
theorem dX8_init_54 : decode cX8_init 54 = .ok (.getfield 10, 3) := by decide +kernel
theorem dX8_init_57 : decode cX8_init 57 = .ok (.aload_n 0, 1) := by decide +kernel
theorem dX8_init_58 : decode cX8_init 58 = .ok (.getfield 33, 3) := by decide +kernel
theorem dX8_init_61 : decode cX8_init 61 = .ok (.invokespecial 39, 3) := by decide +kernel
theorem dX8_init_64 : decode cX8_init 64 = .ok (.putfield 42, 3) := by decide +kernel
theorem dX8_init_67 : decode cX8_init 67 = .ok (.aload_n 0, 1) := by decide +kernel
theorem dX8_init_68 : decode cX8_init 68 = .ok (.new 46, 3) := by decide +kernel
theorem dX8_init_71 : decode cX8_init 71 = .ok (.dup, 1) := by decide +kernel
theorem dX8_init_72 : decode cX8_init 72 = .ok (.aload_n 0, 1) := by decide +kernel
theorem dX8_init_73 : decode cX8_init 73 = .ok (.getfield 10, 3) := by decide +kernel
theorem dX8_init_76 : decode cX8_init 76 = .ok (.aload_n 0, 1) := by decide +kernel
theorem dX8_init_77 : decode cX8_init 77 = .ok (.getfield 19, 3) := by decide +kernel
theorem dX8_init_80 : decode cX8_init 80 = .ok (.aload_n 0, 1) := by decide +kernel
theorem dX8_init_81 : decode cX8_init 81 = .ok (.getfield 26, 3) := by decide +kernel
theorem dX8_init_84 : decode cX8_init 84 = .ok (.aload_n 0, 1) := by decide +kernel
theorem dX8_init_85 : decode cX8_init 85 = .ok (.getfield 33, 3) := by decide +kernel
theorem dX8_init_88 : decode cX8_init 88 = .ok (.aload_n 0, 1) := by decide +kernel
theorem dX8_init_89 : decode cX8_init 89 = .ok (.getfield 42, 3) := by decide +kernel
theorem dX8_init_92 : decode cX8_init 92 = .ok (.invokespecial 48, 3) := by decide +kernel
theorem dX8_init_95 : decode cX8_init 95 = .ok (.putfield 51, 3) := by decide +kernel
theorem dX8_init_98 : decode cX8_init 98 = .ok (.return_, 1) := by decide +kernel
set_option maxRecDepth 20000 in
theorem ggX8_add_X7_isClass : GoodIn wsX8_add wsX7_isClass := goodIn_r _ [10, 11, 24, 25, 26] rfl (by decide +kernel)
set_option maxRecDepth 20000 in
theorem gX8_add_X7_isClass : GoodIn wsX8_add (wsV RX8 55 RX7 yX7_isClass wsX7_isClass) := goodIn_app (goodIn_of _ (by decide +kernel)) ggX8_add_X7_isClass
set_option maxRecDepth 20000 in
theorem ggX8_add_X7_enter : GoodIn wsX8_add wsX7_enter := goodIn_r _ [15, 16, 11, 17, 24, 25, 26] rfl (by decide +kernel)
set_option maxRecDepth 20000 in
theorem gX8_add_X7_enter : GoodIn wsX8_add (wsV RX8 79 RX7 yX7_enter wsX7_enter) := goodIn_app (goodIn_of _ (by decide +kernel)) ggX8_add_X7_enter
theorem dX8_add_0 : decode cX8_add 0 = .ok (.aload_n 0, 1) := by decide +kernel
theorem dX8_add_1 : decode cX8_add 1 = .ok (.getfield 10, 3) := by decide +kernel
theorem dX8_add_4 : decode cX8_add 4 = .ok (.iload_n 1, 1) := by decide +kernel
theorem dX8_add_5 : decode cX8_add 5 = .ok (.invokevirtual 55, 3) := by decide +kernel
theorem dX8_add_8 : decode cX8_add 8 = .ok (.ifCond .eq 23, 3) := by decide +kernel
theorem dX8_add_11 : decode cX8_add 11 = .ok (.aload_n 0, 1) := by decide +kernel
theorem dX8_add_12 : decode cX8_add 12 = .ok (.getfield 10, 3) := by decide +kernel
theorem dX8_add_15 : decode cX8_add 15 = .ok (.getfield 59, 3) := by decide +kernel
theorem dX8_add_18 : decode cX8_add 18 = .ok (.iload_n 1, 1) := by decide +kernel
theorem dX8_add_19 : decode cX8_add 19 = .ok (.baload, 1) := by decide +kernel
theorem dX8_add_20 : decode cX8_add 20 = .ok (.ifCond .ne 11, 3) := by decide +kernel
theorem dX8_add_23 : decode cX8_add 23 = .ok (.iload_n 2, 1) := by decide +kernel
theorem dX8_add_24 : decode cX8_add 24 = .ok (.ifCond .eq 17, 3) := by decide +kernel
theorem dX8_add_27 : decode cX8_add 27 = .ok (.iload_n 1, 1) := by decide +kernel
theorem dX8_add_28 : decode cX8_add 28 = .ok (.ifCond .eq 13, 3) := by decide +kernel
theorem dX8_add_31 : decode cX8_add 31 = .ok (.new 63, 3) := by decide +kernel
theorem dX8_add_34 : decode cX8_add 34 = .ok (.dup, 1) := by decide +kernel
theorem dX8_add_35 : decode cX8_add 35 = .ok (.ldc 65, 2) := by decide +kernel
theorem dX8_add_37 : decode cX8_add 37 = .ok (.invokespecial 67, 3) := by decide +kernel
theorem dX8_add_40 : decode cX8_add 40 = .ok (.athrow, 1) := by decide +kernel
theorem dX8_add_41 : decode cX8_add 41 = .ok (.aload_n 0, 1) := by decide +kernel
theorem dX8_add_42 : decode cX8_add 42 = .ok (.getfield 10, 3) := by decide +kernel
theorem dX8_add_45 : decode cX8_add 45 = .ok (.getfield 70, 3) := by decide +kernel
theorem dX8_add_48 : decode cX8_add 48 = .ok (.sipush 200, 3) := by decide +kernel
theorem dX8_add_51 : decode cX8_add 51 = .ok (.if_icmp .lt 13, 3) := by decide +kernel
theorem dX8_add_54 : decode cX8_add 54 = .ok (.new 74, 3) := by decide +kernel
theorem dX8_add_57 : decode cX8_add 57 = .ok (.dup, 1) := by decide +kernel
theorem dX8_add_58 : decode cX8_add 58 = .ok (.ldc 76, 2) := by decide +kernel
theorem dX8_add_60 : decode cX8_add 60 = .ok (.invokespecial 78, 3) := by decide +kernel
theorem dX8_add_63 : decode cX8_add 63 = .ok (.athrow, 1) := by decide +kernel
theorem dX8_add_64 : decode cX8_add 64 = .ok (.aload_n 0, 1) := by decide +kernel
theorem dX8_add_65 : decode cX8_add 65 = .ok (.getfield 10, 3) := by decide +kernel
theorem dX8_add_68 : decode cX8_add 68 = .ok (.iload_n 1, 1) := by decide +kernel
theorem dX8_add_69 : decode cX8_add 69 = .ok (.iload_n 2, 1) := by decide +kernel
theorem dX8_add_70 : decode cX8_add 70 = .ok (.invokevirtual 79, 3) := by decide +kernel
theorem dX8_add_73 : decode cX8_add 73 = .ok (.ireturn, 1) := by decide +kernel
set_option maxRecDepth 20000 in
theorem ggX8_field_X7_isClass : GoodIn wsX8_field wsX7_isClass := goodIn_r _ [11, 12, 45, 46, 47] rfl (by decide +kernel)
set_option maxRecDepth 20000 in
theorem gX8_field_X7_isClass : GoodIn wsX8_field (wsV RX8 55 RX7 yX7_isClass wsX7_isClass) := goodIn_app (goodIn_of _ (by decide +kernel)) ggX8_field_X7_isClass
set_option maxRecDepth 20000 in
theorem ggX8_field_X7_isType : GoodIn wsX8_field wsX7_isType := goodIn_r _ [16, 17, 12, 18, 19, 20, 10, 21, 45, 46, 47] rfl (by decide +kernel)
set_option maxRecDepth 20000 in
theorem gX8_field_X7_isType : GoodIn wsX8_field (wsV RX8 83 RX7 yX7_isType wsX7_isType) := goodIn_app (goodIn_of _ (by decide +kernel)) ggX8_field_X7_isType
set_option maxRecDepth 20000 in
theorem ggX8_field_X4_enterField : GoodIn wsX8_field wsX4_enterField := goodIn_r _ [26, 27, 28, 29, 36, 37, 38, 39, 40, 41, 42, 43, 44] rfl (by decide +kernel)
set_option maxRecDepth 20000 in
theorem gX8_field_X4_enterField : GoodIn wsX8_field (wsV RX8 93 RX4 yX4_enterField wsX4_enterField) := goodIn_app (goodIn_of _ (by decide +kernel)) ggX8_field_X4_enterField
theorem dX8_field_0 : decode cX8_field 0 = .ok (.aload_n 0, 1) := by decide +kernel
theorem dX8_field_1 : decode cX8_field 1 = .ok (.getfield 10, 3) := by decide +kernel
theorem dX8_field_4 : decode cX8_field 4 = .ok (.iload_n 1, 1) := by decide +kernel
theorem dX8_field_5 : decode cX8_field 5 = .ok (.invokevirtual 55, 3) := by decide +kernel
theorem dX8_field_8 : decode cX8_field 8 = .ok (.ifCond .eq 14, 3) := by decide +kernel
theorem dX8_field_11 : decode cX8_field 11 = .ok (.aload_n 0, 1) := by decide +kernel
theorem dX8_field_12 : decode cX8_field 12 = .ok (.getfield 10, 3) := by decide +kernel
theorem dX8_field_15 : decode cX8_field 15 = .ok (.iload_n 2, 1) := by decide +kernel
theorem dX8_field_16 : decode cX8_field 16 = .ok (.invokevirtual 83, 3) := by decide +kernel
theorem dX8_field_19 : decode cX8_field 19 = .ok (.ifCond .ne 13, 3) := by decide +kernel
theorem dX8_field_22 : decode cX8_field 22 = .ok (.new 63, 3) := by decide +kernel
theorem dX8_field_25 : decode cX8_field 25 = .ok (.dup, 1) := by decide +kernel
theorem dX8_field_26 : decode cX8_field 26 = .ok (.ldc 86, 2) := by decide +kernel
theorem dX8_field_28 : decode cX8_field 28 = .ok (.invokespecial 67, 3) := by decide +kernel
theorem dX8_field_31 : decode cX8_field 31 = .ok (.athrow, 1) := by decide +kernel
theorem dX8_field_32 : decode cX8_field 32 = .ok (.aload_n 0, 1) := by decide +kernel
theorem dX8_field_33 : decode cX8_field 33 = .ok (.getfield 19, 3) := by decide +kernel
theorem dX8_field_36 : decode cX8_field 36 = .ok (.getfield 88, 3) := by decide +kernel
theorem dX8_field_39 : decode cX8_field 39 = .ok (.bipush 100, 2) := by decide +kernel
theorem dX8_field_41 : decode cX8_field 41 = .ok (.if_icmp .lt 13, 3) := by decide +kernel
theorem dX8_field_44 : decode cX8_field 44 = .ok (.new 74, 3) := by decide +kernel
theorem dX8_field_47 : decode cX8_field 47 = .ok (.dup, 1) := by decide +kernel
theorem dX8_field_48 : decode cX8_field 48 = .ok (.ldc 91, 2) := by decide +kernel
theorem dX8_field_50 : decode cX8_field 50 = .ok (.invokespecial 78, 3) := by decide +kernel
theorem dX8_field_53 : decode cX8_field 53 = .ok (.athrow, 1) := by decide +kernel
theorem dX8_field_54 : decode cX8_field 54 = .ok (.aload_n 0, 1) := by decide +kernel
theorem dX8_field_55 : decode cX8_field 55 = .ok (.getfield 19, 3) := by decide +kernel
theorem dX8_field_58 : decode cX8_field 58 = .ok (.iload_n 1, 1) := by decide +kernel
theorem dX8_field_59 : decode cX8_field 59 = .ok (.iload_n 2, 1) := by decide +kernel
theorem dX8_field_60 : decode cX8_field 60 = .ok (.invokevirtual 93, 3) := by decide +kernel
theorem dX8_field_63 : decode cX8_field 63 = .ok (.ireturn, 1) := by decide +kernel
set_option maxRecDepth 20000 in
theorem ggX8_shape_X7_isClass : GoodIn wsX8_shape wsX7_isClass := goodIn_r _ [11, 12, 41, 42, 43] rfl (by decide +kernel)
set_option maxRecDepth 20000 in
theorem gX8_shape_X7_isClass : GoodIn wsX8_shape (wsV RX8 55 RX7 yX7_isClass wsX7_isClass) := goodIn_app (goodIn_of _ (by decide +kernel)) ggX8_shape_X7_isClass
set_option maxRecDepth 20000 in
theorem ggX8_shape_X7_isResult : GoodIn wsX8_shape wsX7_isResult := goodIn_r _ [16, 17, 18, 19, 10, 20, 21, 12, 22, 23, 24, 25, 41, 42, 43] rfl (by decide +kernel)
set_option maxRecDepth 20000 in
theorem gX8_shape_X7_isResult : GoodIn wsX8_shape (wsV RX8 97 RX7 yX7_isResult wsX7_isResult) := goodIn_app (goodIn_of _ (by decide +kernel)) ggX8_shape_X7_isResult
set_option maxRecDepth 20000 in
theorem ggX8_shape_X4_enterShape : GoodIn wsX8_shape wsX4_enterShape := goodIn_r _ [30, 31, 32, 33, 34, 44, 45, 46, 47, 48, 49, 50, 51, 52] rfl (by decide +kernel)
set_option maxRecDepth 20000 in
theorem gX8_shape_X4_enterShape : GoodIn wsX8_shape (wsV RX8 109 RX4 yX4_enterShape wsX4_enterShape) := goodIn_app (goodIn_of _ (by decide +kernel)) ggX8_shape_X4_enterShape
theorem dX8_shape_0 : decode cX8_shape 0 = .ok (.aload_n 0, 1) := by decide +kernel
theorem dX8_shape_1 : decode cX8_shape 1 = .ok (.getfield 10, 3) := by decide +kernel
theorem dX8_shape_4 : decode cX8_shape 4 = .ok (.iload_n 1, 1) := by decide +kernel
theorem dX8_shape_5 : decode cX8_shape 5 = .ok (.invokevirtual 55, 3) := by decide +kernel
theorem dX8_shape_8 : decode cX8_shape 8 = .ok (.ifCond .eq 14, 3) := by decide +kernel
theorem dX8_shape_11 : decode cX8_shape 11 = .ok (.aload_n 0, 1) := by decide +kernel
theorem dX8_shape_12 : decode cX8_shape 12 = .ok (.getfield 10, 3) := by decide +kernel
theorem dX8_shape_15 : decode cX8_shape 15 = .ok (.iload_n 2, 1) := by decide +kernel
theorem dX8_shape_16 : decode cX8_shape 16 = .ok (.invokevirtual 97, 3) := by decide +kernel
theorem dX8_shape_19 : decode cX8_shape 19 = .ok (.ifCond .ne 13, 3) := by decide +kernel
theorem dX8_shape_22 : decode cX8_shape 22 = .ok (.new 63, 3) := by decide +kernel
theorem dX8_shape_25 : decode cX8_shape 25 = .ok (.dup, 1) := by decide +kernel
theorem dX8_shape_26 : decode cX8_shape 26 = .ok (.ldc 100, 2) := by decide +kernel
theorem dX8_shape_28 : decode cX8_shape 28 = .ok (.invokespecial 67, 3) := by decide +kernel
theorem dX8_shape_31 : decode cX8_shape 31 = .ok (.athrow, 1) := by decide +kernel
theorem dX8_shape_32 : decode cX8_shape 32 = .ok (.iload_n 3, 1) := by decide +kernel
theorem dX8_shape_33 : decode cX8_shape 33 = .ok (.ifCond .eq 30, 3) := by decide +kernel
theorem dX8_shape_36 : decode cX8_shape 36 = .ok (.iload_n 2, 1) := by decide +kernel
theorem dX8_shape_37 : decode cX8_shape 37 = .ok (.iconst (-1), 1) := by decide +kernel
theorem dX8_shape_38 : decode cX8_shape 38 = .ok (.if_icmp .ne 15, 3) := by decide +kernel
theorem dX8_shape_41 : decode cX8_shape 41 = .ok (.aload_n 0, 1) := by decide +kernel
theorem dX8_shape_42 : decode cX8_shape 42 = .ok (.getfield 10, 3) := by decide +kernel
theorem dX8_shape_45 : decode cX8_shape 45 = .ok (.getfield 59, 3) := by decide +kernel
theorem dX8_shape_48 : decode cX8_shape 48 = .ok (.iload_n 1, 1) := by decide +kernel
theorem dX8_shape_49 : decode cX8_shape 49 = .ok (.baload, 1) := by decide +kernel
theorem dX8_shape_50 : decode cX8_shape 50 = .ok (.ifCond .eq 13, 3) := by decide +kernel
theorem dX8_shape_53 : decode cX8_shape 53 = .ok (.new 63, 3) := by decide +kernel
theorem dX8_shape_56 : decode cX8_shape 56 = .ok (.dup, 1) := by decide +kernel
theorem dX8_shape_57 : decode cX8_shape 57 = .ok (.ldc 102, 2) := by decide +kernel
theorem dX8_shape_59 : decode cX8_shape 59 = .ok (.invokespecial 67, 3) := by decide +kernel
theorem dX8_shape_62 : decode cX8_shape 62 = .ok (.athrow, 1) := by decide +kernel
theorem dX8_shape_63 : decode cX8_shape 63 = .ok (.aload_n 0, 1) := by decide +kernel
theorem dX8_shape_64 : decode cX8_shape 64 = .ok (.getfield 19, 3) := by decide +kernel
theorem dX8_shape_67 : decode cX8_shape 67 = .ok (.getfield 104, 3) := by decide +kernel
theorem dX8_shape_70 : decode cX8_shape 70 = .ok (.bipush 100, 2) := by decide +kernel
theorem dX8_shape_72 : decode cX8_shape 72 = .ok (.if_icmp .lt 13, 3) := by decide +kernel
theorem dX8_shape_75 : decode cX8_shape 75 = .ok (.new 74, 3) := by decide +kernel
theorem dX8_shape_78 : decode cX8_shape 78 = .ok (.dup, 1) := by decide +kernel
theorem dX8_shape_79 : decode cX8_shape 79 = .ok (.ldc 107, 2) := by decide +kernel
theorem dX8_shape_81 : decode cX8_shape 81 = .ok (.invokespecial 78, 3) := by decide +kernel
theorem dX8_shape_84 : decode cX8_shape 84 = .ok (.athrow, 1) := by decide +kernel
theorem dX8_shape_85 : decode cX8_shape 85 = .ok (.aload_n 0, 1) := by decide +kernel
theorem dX8_shape_86 : decode cX8_shape 86 = .ok (.getfield 19, 3) := by decide +kernel
theorem dX8_shape_89 : decode cX8_shape 89 = .ok (.iload_n 1, 1) := by decide +kernel
theorem dX8_shape_90 : decode cX8_shape 90 = .ok (.iload_n 2, 1) := by decide +kernel
theorem dX8_shape_91 : decode cX8_shape 91 = .ok (.iload_n 3, 1) := by decide +kernel
theorem dX8_shape_92 : decode cX8_shape 92 = .ok (.invokevirtual 109, 3) := by decide +kernel
theorem dX8_shape_95 : decode cX8_shape 95 = .ok (.ireturn, 1) := by decide +kernel
set_option maxRecDepth 20000 in
theorem ggX8_takes_X7_isType : GoodIn wsX8_takes wsX7_isType := goodIn_r _ [11, 12, 13, 14, 15, 16, 10, 17, 36, 37, 38] rfl (by decide +kernel)
set_option maxRecDepth 20000 in
theorem gX8_takes_X7_isType : GoodIn wsX8_takes (wsV RX8 83 RX7 yX7_isType wsX7_isType) := goodIn_app (goodIn_of _ (by decide +kernel)) ggX8_takes_X7_isType
set_option maxRecDepth 20000 in
theorem ggX8_takes_X4_canTakeMore : GoodIn wsX8_takes wsX4_canTakeMore := goodIn_r _ [22, 23, 24, 39, 40, 41, 42, 43, 44, 45, 46, 47] rfl (by decide +kernel)
set_option maxRecDepth 20000 in
theorem gX8_takes_X4_canTakeMore : GoodIn wsX8_takes (wsV RX8 115 RX4 yX4_canTakeMore wsX4_canTakeMore) := goodIn_app (goodIn_of _ (by decide +kernel)) ggX8_takes_X4_canTakeMore
set_option maxRecDepth 20000 in
theorem ggX8_takes_X4_takeMore : GoodIn wsX8_takes wsX4_takeMore := goodIn_r _ [28, 23, 29, 24, 39, 40, 41, 42, 43, 44, 45, 46, 47] rfl (by decide +kernel)
set_option maxRecDepth 20000 in
theorem gX8_takes_X4_takeMore : GoodIn wsX8_takes (wsV RX8 121 RX4 yX4_takeMore wsX4_takeMore) := goodIn_app (goodIn_of _ (by decide +kernel)) ggX8_takes_X4_takeMore
theorem dX8_takes_0 : decode cX8_takes 0 = .ok (.aload_n 0, 1) := by decide +kernel
theorem dX8_takes_1 : decode cX8_takes 1 = .ok (.getfield 10, 3) := by decide +kernel
theorem dX8_takes_4 : decode cX8_takes 4 = .ok (.iload_n 1, 1) := by decide +kernel
theorem dX8_takes_5 : decode cX8_takes 5 = .ok (.invokevirtual 83, 3) := by decide +kernel
theorem dX8_takes_8 : decode cX8_takes 8 = .ok (.ifCond .ne 13, 3) := by decide +kernel
theorem dX8_takes_11 : decode cX8_takes 11 = .ok (.new 63, 3) := by decide +kernel
theorem dX8_takes_14 : decode cX8_takes 14 = .ok (.dup, 1) := by decide +kernel
theorem dX8_takes_15 : decode cX8_takes 15 = .ok (.ldc 113, 2) := by decide +kernel
theorem dX8_takes_17 : decode cX8_takes 17 = .ok (.invokespecial 67, 3) := by decide +kernel
theorem dX8_takes_20 : decode cX8_takes 20 = .ok (.athrow, 1) := by decide +kernel
theorem dX8_takes_21 : decode cX8_takes 21 = .ok (.aload_n 0, 1) := by decide +kernel
theorem dX8_takes_22 : decode cX8_takes 22 = .ok (.getfield 19, 3) := by decide +kernel
theorem dX8_takes_25 : decode cX8_takes 25 = .ok (.invokevirtual 115, 3) := by decide +kernel
theorem dX8_takes_28 : decode cX8_takes 28 = .ok (.ifCond .ne 13, 3) := by decide +kernel
theorem dX8_takes_31 : decode cX8_takes 31 = .ok (.new 74, 3) := by decide +kernel
theorem dX8_takes_34 : decode cX8_takes 34 = .ok (.dup, 1) := by decide +kernel
theorem dX8_takes_35 : decode cX8_takes 35 = .ok (.ldc 119, 2) := by decide +kernel
theorem dX8_takes_37 : decode cX8_takes 37 = .ok (.invokespecial 78, 3) := by decide +kernel
theorem dX8_takes_40 : decode cX8_takes 40 = .ok (.athrow, 1) := by decide +kernel
theorem dX8_takes_41 : decode cX8_takes 41 = .ok (.aload_n 0, 1) := by decide +kernel
theorem dX8_takes_42 : decode cX8_takes 42 = .ok (.getfield 19, 3) := by decide +kernel
theorem dX8_takes_45 : decode cX8_takes 45 = .ok (.iload_n 1, 1) := by decide +kernel
theorem dX8_takes_46 : decode cX8_takes 46 = .ok (.invokevirtual 121, 3) := by decide +kernel
theorem dX8_takes_49 : decode cX8_takes 49 = .ok (.ireturn, 1) := by decide +kernel
set_option maxRecDepth 20000 in
theorem ggX8_method_X7_isClass : GoodIn wsX8_method wsX7_isClass := goodIn_r _ [9, 10, 43, 44, 45] rfl (by decide +kernel)
set_option maxRecDepth 20000 in
theorem gX8_method_X7_isClass : GoodIn wsX8_method (wsV RX8 55 RX7 yX7_isClass wsX7_isClass) := goodIn_app (goodIn_of _ (by decide +kernel)) ggX8_method_X7_isClass
set_option maxRecDepth 20000 in
theorem ggX8_method_X7_isResult : GoodIn wsX8_method wsX7_isResult := goodIn_r _ [14, 15, 16, 17, 8, 18, 19, 10, 20, 21, 22, 23, 43, 44, 45] rfl (by decide +kernel)
set_option maxRecDepth 20000 in
theorem gX8_method_X7_isResult : GoodIn wsX8_method (wsV RX8 97 RX7 yX7_isResult wsX7_isResult) := goodIn_app (goodIn_of _ (by decide +kernel)) ggX8_method_X7_isResult
set_option maxRecDepth 20000 in
theorem ggX8_method_X0_begin : GoodIn wsX8_method wsX0_begin := goodIn_r _ [28, 29, 30, 31, 32, 33, 34, 35, 36, 46, 47, 48, 49, 50, 51, 52, 53, 54, 55, 56, 57, 58, 59, 60, 61, 62] rfl (by decide +kernel)
set_option maxRecDepth 20000 in
theorem gX8_method_X0_begin : GoodIn wsX8_method (wsV RX8 129 RX0 yX0_begin wsX0_begin) := goodIn_app (goodIn_of _ (by decide +kernel)) ggX8_method_X0_begin
theorem dX8_method_0 : decode cX8_method 0 = .ok (.aload_n 0, 1) := by decide +kernel
theorem dX8_method_1 : decode cX8_method 1 = .ok (.getfield 10, 3) := by decide +kernel
theorem dX8_method_4 : decode cX8_method 4 = .ok (.iload_n 1, 1) := by decide +kernel
theorem dX8_method_5 : decode cX8_method 5 = .ok (.invokevirtual 55, 3) := by decide +kernel
theorem dX8_method_8 : decode cX8_method 8 = .ok (.ifCond .eq 23, 3) := by decide +kernel
theorem dX8_method_11 : decode cX8_method 11 = .ok (.iload_n 2, 1) := by decide +kernel
theorem dX8_method_12 : decode cX8_method 12 = .ok (.ifCond .lt 19, 3) := by decide +kernel
theorem dX8_method_15 : decode cX8_method 15 = .ok (.iload_n 2, 1) := by decide +kernel
theorem dX8_method_16 : decode cX8_method 16 = .ok (.iconst 2, 1) := by decide +kernel
theorem dX8_method_17 : decode cX8_method 17 = .ok (.if_icmp .gt 14, 3) := by decide +kernel
theorem dX8_method_20 : decode cX8_method 20 = .ok (.aload_n 0, 1) := by decide +kernel
theorem dX8_method_21 : decode cX8_method 21 = .ok (.getfield 10, 3) := by decide +kernel
theorem dX8_method_24 : decode cX8_method 24 = .ok (.iload_n 3, 1) := by decide +kernel
theorem dX8_method_25 : decode cX8_method 25 = .ok (.invokevirtual 97, 3) := by decide +kernel
theorem dX8_method_28 : decode cX8_method 28 = .ok (.ifCond .ne 13, 3) := by decide +kernel
theorem dX8_method_31 : decode cX8_method 31 = .ok (.new 63, 3) := by decide +kernel
theorem dX8_method_34 : decode cX8_method 34 = .ok (.dup, 1) := by decide +kernel
theorem dX8_method_35 : decode cX8_method 35 = .ok (.ldc 125, 2) := by decide +kernel
theorem dX8_method_37 : decode cX8_method 37 = .ok (.invokespecial 67, 3) := by decide +kernel
theorem dX8_method_40 : decode cX8_method 40 = .ok (.athrow, 1) := by decide +kernel
theorem dX8_method_41 : decode cX8_method 41 = .ok (.iload_n 2, 1) := by decide +kernel
theorem dX8_method_42 : decode cX8_method 42 = .ok (.iconst 2, 1) := by decide +kernel
theorem dX8_method_43 : decode cX8_method 43 = .ok (.if_icmp .ne 30, 3) := by decide +kernel
theorem dX8_method_46 : decode cX8_method 46 = .ok (.iload_n 3, 1) := by decide +kernel
theorem dX8_method_47 : decode cX8_method 47 = .ok (.iconst (-1), 1) := by decide +kernel
theorem dX8_method_48 : decode cX8_method 48 = .ok (.if_icmp .ne 15, 3) := by decide +kernel
theorem dX8_method_51 : decode cX8_method 51 = .ok (.aload_n 0, 1) := by decide +kernel
theorem dX8_method_52 : decode cX8_method 52 = .ok (.getfield 10, 3) := by decide +kernel
theorem dX8_method_55 : decode cX8_method 55 = .ok (.getfield 59, 3) := by decide +kernel
theorem dX8_method_58 : decode cX8_method 58 = .ok (.iload_n 1, 1) := by decide +kernel
theorem dX8_method_59 : decode cX8_method 59 = .ok (.baload, 1) := by decide +kernel
theorem dX8_method_60 : decode cX8_method 60 = .ok (.ifCond .eq 13, 3) := by decide +kernel
theorem dX8_method_63 : decode cX8_method 63 = .ok (.new 63, 3) := by decide +kernel
theorem dX8_method_66 : decode cX8_method 66 = .ok (.dup, 1) := by decide +kernel
theorem dX8_method_67 : decode cX8_method 67 = .ok (.ldc 102, 2) := by decide +kernel
theorem dX8_method_69 : decode cX8_method 69 = .ok (.invokespecial 67, 3) := by decide +kernel
theorem dX8_method_72 : decode cX8_method 72 = .ok (.athrow, 1) := by decide +kernel
theorem dX8_method_73 : decode cX8_method 73 = .ok (.iload 4, 2) := by decide +kernel
theorem dX8_method_75 : decode cX8_method 75 = .ok (.ifCond .lt 24, 3) := by decide +kernel
theorem dX8_method_78 : decode cX8_method 78 = .ok (.iload 4, 2) := by decide +kernel
theorem dX8_method_80 : decode cX8_method 80 = .ok (.sipush 200, 3) := by decide +kernel
theorem dX8_method_83 : decode cX8_method 83 = .ok (.if_icmp .gt 16, 3) := by decide +kernel
theorem dX8_method_86 : decode cX8_method 86 = .ok (.iload 5, 2) := by decide +kernel
theorem dX8_method_88 : decode cX8_method 88 = .ok (.ifCond .lt 11, 3) := by decide +kernel
theorem dX8_method_91 : decode cX8_method 91 = .ok (.iload 5, 2) := by decide +kernel
theorem dX8_method_93 : decode cX8_method 93 = .ok (.sipush 200, 3) := by decide +kernel
theorem dX8_method_96 : decode cX8_method 96 = .ok (.if_icmp .le 13, 3) := by decide +kernel
theorem dX8_method_99 : decode cX8_method 99 = .ok (.new 63, 3) := by decide +kernel
theorem dX8_method_102 : decode cX8_method 102 = .ok (.dup, 1) := by decide +kernel
theorem dX8_method_103 : decode cX8_method 103 = .ok (.ldc 127, 2) := by decide +kernel
theorem dX8_method_105 : decode cX8_method 105 = .ok (.invokespecial 67, 3) := by decide +kernel
theorem dX8_method_108 : decode cX8_method 108 = .ok (.athrow, 1) := by decide +kernel
theorem dX8_method_109 : decode cX8_method 109 = .ok (.aload_n 0, 1) := by decide +kernel
theorem dX8_method_110 : decode cX8_method 110 = .ok (.getfield 26, 3) := by decide +kernel
theorem dX8_method_113 : decode cX8_method 113 = .ok (.iload_n 1, 1) := by decide +kernel
theorem dX8_method_114 : decode cX8_method 114 = .ok (.iload_n 2, 1) := by decide +kernel
theorem dX8_method_115 : decode cX8_method 115 = .ok (.iload_n 3, 1) := by decide +kernel
theorem dX8_method_116 : decode cX8_method 116 = .ok (.iload 4, 2) := by decide +kernel
theorem dX8_method_118 : decode cX8_method 118 = .ok (.iload 5, 2) := by decide +kernel
theorem dX8_method_120 : decode cX8_method 120 = .ok (.invokevirtual 129, 3) := by decide +kernel
theorem dX8_method_123 : decode cX8_method 123 = .ok (.iconst 0, 1) := by decide +kernel
theorem dX8_method_124 : decode cX8_method 124 = .ok (.ireturn, 1) := by decide +kernel
set_option maxRecDepth 20000 in
theorem ggX8_argument_X7_isType : GoodIn wsX8_argument wsX7_isType := goodIn_r _ [11, 12, 13, 14, 15, 16, 10, 17, 48, 49, 50] rfl (by decide +kernel)
set_option maxRecDepth 20000 in
theorem gX8_argument_X7_isType : GoodIn wsX8_argument (wsV RX8 83 RX7 yX7_isType wsX7_isType) := goodIn_app (goodIn_of _ (by decide +kernel)) ggX8_argument_X7_isType
set_option maxRecDepth 20000 in
theorem ggX8_argument_X0_takeMore : GoodIn wsX8_argument wsX0_takeMore := goodIn_r _ [22, 23, 24, 31, 32, 33, 34, 35, 36, 37, 38, 39, 40, 41, 42, 43, 44, 45, 46, 47] rfl (by decide +kernel)
set_option maxRecDepth 20000 in
theorem gX8_argument_X0_takeMore : GoodIn wsX8_argument (wsV RX8 138 RX0 yX0_takeMore wsX0_takeMore) := goodIn_app (goodIn_of _ (by decide +kernel)) ggX8_argument_X0_takeMore
theorem dX8_argument_0 : decode cX8_argument 0 = .ok (.aload_n 0, 1) := by decide +kernel
theorem dX8_argument_1 : decode cX8_argument 1 = .ok (.getfield 10, 3) := by decide +kernel
theorem dX8_argument_4 : decode cX8_argument 4 = .ok (.iload_n 1, 1) := by decide +kernel
theorem dX8_argument_5 : decode cX8_argument 5 = .ok (.invokevirtual 83, 3) := by decide +kernel
theorem dX8_argument_8 : decode cX8_argument 8 = .ok (.ifCond .ne 13, 3) := by decide +kernel
theorem dX8_argument_11 : decode cX8_argument 11 = .ok (.new 63, 3) := by decide +kernel
theorem dX8_argument_14 : decode cX8_argument 14 = .ok (.dup, 1) := by decide +kernel
theorem dX8_argument_15 : decode cX8_argument 15 = .ok (.ldc 113, 2) := by decide +kernel
theorem dX8_argument_17 : decode cX8_argument 17 = .ok (.invokespecial 67, 3) := by decide +kernel
theorem dX8_argument_20 : decode cX8_argument 20 = .ok (.athrow, 1) := by decide +kernel
theorem dX8_argument_21 : decode cX8_argument 21 = .ok (.aload_n 0, 1) := by decide +kernel
theorem dX8_argument_22 : decode cX8_argument 22 = .ok (.getfield 26, 3) := by decide +kernel
theorem dX8_argument_25 : decode cX8_argument 25 = .ok (.getfield 133, 3) := by decide +kernel
theorem dX8_argument_28 : decode cX8_argument 28 = .ok (.bipush 20, 2) := by decide +kernel
theorem dX8_argument_30 : decode cX8_argument 30 = .ok (.if_icmp .lt 13, 3) := by decide +kernel
theorem dX8_argument_33 : decode cX8_argument 33 = .ok (.new 74, 3) := by decide +kernel
theorem dX8_argument_36 : decode cX8_argument 36 = .ok (.dup, 1) := by decide +kernel
theorem dX8_argument_37 : decode cX8_argument 37 = .ok (.ldc 136, 2) := by decide +kernel
theorem dX8_argument_39 : decode cX8_argument 39 = .ok (.invokespecial 78, 3) := by decide +kernel
theorem dX8_argument_42 : decode cX8_argument 42 = .ok (.athrow, 1) := by decide +kernel
theorem dX8_argument_43 : decode cX8_argument 43 = .ok (.aload_n 0, 1) := by decide +kernel
theorem dX8_argument_44 : decode cX8_argument 44 = .ok (.getfield 26, 3) := by decide +kernel
theorem dX8_argument_47 : decode cX8_argument 47 = .ok (.iload_n 1, 1) := by decide +kernel
theorem dX8_argument_48 : decode cX8_argument 48 = .ok (.invokevirtual 138, 3) := by decide +kernel
theorem dX8_argument_51 : decode cX8_argument 51 = .ok (.ireturn, 1) := by decide +kernel
set_option maxRecDepth 20000 in
theorem ggX8_put_X8_isInstruction : GoodIn wsX8_put wsX8_isInstruction := goodIn_r _ [10, 11, 12, 13, 14, 15, 16, 17, 18, 19, 20, 21, 22, 23, 24, 25, 26, 27, 28, 29, 30, 31, 32, 33, 34, 9, 35, 36, 37, 38, 39, 40, 41, 42, 43, 44, 45, 46, 47, 48, 49, 50, 51, 52, 53, 54, 55, 66, 67, 68, 69, 70, 71, 89, 90, 91, 92, 93, 94, 95, 96, 97, 98, 99, 100] rfl (by decide +kernel)
set_option maxRecDepth 20000 in
theorem gX8_put_X8_isInstruction : GoodIn wsX8_put (wsV RX8 139 RX8 yX8_isInstruction wsX8_isInstruction) := goodIn_app (goodIn_of _ (by decide +kernel)) ggX8_put_X8_isInstruction
set_option maxRecDepth 20000 in
theorem ggX8_put_X0_enter : GoodIn wsX8_put wsX0_enter := goodIn_r _ [59, 60, 61, 62, 63, 64, 65, 72, 73, 74, 75, 76, 77, 78, 79, 80, 81, 82, 83, 84, 85, 86, 87, 88] rfl (by decide +kernel)
set_option maxRecDepth 20000 in
theorem gX8_put_X0_enter : GoodIn wsX8_put (wsV RX8 148 RX0 yX0_enter wsX0_enter) := goodIn_app (goodIn_of _ (by decide +kernel)) ggX8_put_X0_enter
theorem dX8_put_0 : decode cX8_put 0 = .ok (.aload_n 0, 1) := by decide +kernel
theorem dX8_put_1 : decode cX8_put 1 = .ok (.iload_n 1, 1) := by decide +kernel
theorem dX8_put_2 : decode cX8_put 2 = .ok (.iload_n 2, 1) := by decide +kernel
theorem dX8_put_3 : decode cX8_put 3 = .ok (.iload_n 3, 1) := by decide +kernel
theorem dX8_put_4 : decode cX8_put 4 = .ok (.invokevirtual 139, 3) := by decide +kernel
theorem dX8_put_7 : decode cX8_put 7 = .ok (.ifCond .ne 13, 3) := by decide +kernel
theorem dX8_put_10 : decode cX8_put 10 = .ok (.new 63, 3) := by decide +kernel
theorem dX8_put_13 : decode cX8_put 13 = .ok (.dup, 1) := by decide +kernel
theorem dX8_put_14 : decode cX8_put 14 = .ok (.ldc 143, 2) := by decide +kernel
theorem dX8_put_16 : decode cX8_put 16 = .ok (.invokespecial 67, 3) := by decide +kernel
theorem dX8_put_19 : decode cX8_put 19 = .ok (.athrow, 1) := by decide +kernel
theorem dX8_put_20 : decode cX8_put 20 = .ok (.aload_n 0, 1) := by decide +kernel
theorem dX8_put_21 : decode cX8_put 21 = .ok (.getfield 26, 3) := by decide +kernel
theorem dX8_put_24 : decode cX8_put 24 = .ok (.getfield 145, 3) := by decide +kernel
theorem dX8_put_27 : decode cX8_put 27 = .ok (.sipush 1000, 3) := by decide +kernel
theorem dX8_put_30 : decode cX8_put 30 = .ok (.if_icmp .lt 13, 3) := by decide +kernel
theorem dX8_put_33 : decode cX8_put 33 = .ok (.new 74, 3) := by decide +kernel
theorem dX8_put_36 : decode cX8_put 36 = .ok (.dup, 1) := by decide +kernel
theorem dX8_put_37 : decode cX8_put 37 = .ok (.ldc 146, 2) := by decide +kernel
theorem dX8_put_39 : decode cX8_put 39 = .ok (.invokespecial 78, 3) := by decide +kernel
theorem dX8_put_42 : decode cX8_put 42 = .ok (.athrow, 1) := by decide +kernel
theorem dX8_put_43 : decode cX8_put 43 = .ok (.aload_n 0, 1) := by decide +kernel
theorem dX8_put_44 : decode cX8_put 44 = .ok (.getfield 26, 3) := by decide +kernel
theorem dX8_put_47 : decode cX8_put 47 = .ok (.iload_n 1, 1) := by decide +kernel
theorem dX8_put_48 : decode cX8_put 48 = .ok (.iload_n 2, 1) := by decide +kernel
theorem dX8_put_49 : decode cX8_put 49 = .ok (.iload_n 3, 1) := by decide +kernel
theorem dX8_put_50 : decode cX8_put 50 = .ok (.invokevirtual 148, 3) := by decide +kernel
theorem dX8_put_53 : decode cX8_put 53 = .ok (.ireturn, 1) := by decide +kernel
set_option maxRecDepth 20000 in
theorem ggX8_to_X0_canSwitchToMore : GoodIn wsX8_to wsX0_canSwitchToMore := goodIn_r _ [10, 11, 12, 13, 14, 15, 16, 9, 17, 48, 49, 50, 51, 52, 53, 54, 55, 56, 57, 58, 59, 60, 61, 62, 63, 64] rfl (by decide +kernel)
set_option maxRecDepth 20000 in
theorem gX8_to_X0_canSwitchToMore : GoodIn wsX8_to (wsV RX8 153 RX0 yX0_canSwitchToMore wsX0_canSwitchToMore) := goodIn_app (goodIn_of _ (by decide +kernel)) ggX8_to_X0_canSwitchToMore
set_option maxRecDepth 20000 in
theorem ggX8_to_X0_switchToMore : GoodIn wsX8_to wsX0_switchToMore := goodIn_r _ [21, 11, 13, 22, 14, 23, 24, 25, 26, 27, 28, 29, 30, 31, 32, 33, 34, 35, 36, 37, 38, 39, 40, 41, 48, 49, 50, 51, 52, 53, 54, 55, 56, 57, 58, 59, 60, 61, 62, 63, 64] rfl (by decide +kernel)
set_option maxRecDepth 20000 in
theorem gX8_to_X0_switchToMore : GoodIn wsX8_to (wsV RX8 158 RX0 yX0_switchToMore wsX0_switchToMore) := goodIn_app (goodIn_of _ (by decide +kernel)) ggX8_to_X0_switchToMore
theorem dX8_to_0 : decode cX8_to 0 = .ok (.iload_n 1, 1) := by decide +kernel
theorem dX8_to_1 : decode cX8_to 1 = .ok (.ifCond .ge 13, 3) := by decide +kernel
theorem dX8_to_4 : decode cX8_to 4 = .ok (.new 63, 3) := by decide +kernel
theorem dX8_to_7 : decode cX8_to 7 = .ok (.dup, 1) := by decide +kernel
theorem dX8_to_8 : decode cX8_to 8 = .ok (.ldc 151, 2) := by decide +kernel
theorem dX8_to_10 : decode cX8_to 10 = .ok (.invokespecial 67, 3) := by decide +kernel
theorem dX8_to_13 : decode cX8_to 13 = .ok (.athrow, 1) := by decide +kernel
theorem dX8_to_14 : decode cX8_to 14 = .ok (.aload_n 0, 1) := by decide +kernel
theorem dX8_to_15 : decode cX8_to 15 = .ok (.getfield 26, 3) := by decide +kernel
theorem dX8_to_18 : decode cX8_to 18 = .ok (.invokevirtual 153, 3) := by decide +kernel
theorem dX8_to_21 : decode cX8_to 21 = .ok (.ifCond .ne 13, 3) := by decide +kernel
theorem dX8_to_24 : decode cX8_to 24 = .ok (.new 74, 3) := by decide +kernel
theorem dX8_to_27 : decode cX8_to 27 = .ok (.dup, 1) := by decide +kernel
theorem dX8_to_28 : decode cX8_to 28 = .ok (.ldc 156, 2) := by decide +kernel
theorem dX8_to_30 : decode cX8_to 30 = .ok (.invokespecial 78, 3) := by decide +kernel
theorem dX8_to_33 : decode cX8_to 33 = .ok (.athrow, 1) := by decide +kernel
theorem dX8_to_34 : decode cX8_to 34 = .ok (.aload_n 0, 1) := by decide +kernel
theorem dX8_to_35 : decode cX8_to 35 = .ok (.getfield 26, 3) := by decide +kernel
theorem dX8_to_38 : decode cX8_to 38 = .ok (.iload_n 1, 1) := by decide +kernel
theorem dX8_to_39 : decode cX8_to 39 = .ok (.invokevirtual 158, 3) := by decide +kernel
theorem dX8_to_42 : decode cX8_to 42 = .ok (.ireturn, 1) := by decide +kernel
set_option maxRecDepth 20000 in
theorem ggX8_row_X7_isClass : GoodIn wsX8_row wsX7_isClass := goodIn_r _ [11, 12, 43, 44, 45] rfl (by decide +kernel)
set_option maxRecDepth 20000 in
theorem gX8_row_X7_isClass : GoodIn wsX8_row (wsV RX8 55 RX7 yX7_isClass wsX7_isClass) := goodIn_app (goodIn_of _ (by decide +kernel)) ggX8_row_X7_isClass
set_option maxRecDepth 20000 in
theorem ggX8_row_X0_enterRow : GoodIn wsX8_row wsX0_enterRow := goodIn_r _ [17, 18, 19, 26, 27, 28, 29, 30, 31, 32, 33, 34, 35, 36, 37, 38, 39, 40, 41, 42] rfl (by decide +kernel)
set_option maxRecDepth 20000 in
theorem gX8_row_X0_enterRow : GoodIn wsX8_row (wsV RX8 168 RX0 yX0_enterRow wsX0_enterRow) := goodIn_app (goodIn_of _ (by decide +kernel)) ggX8_row_X0_enterRow
theorem dX8_row_0 : decode cX8_row 0 = .ok (.iload_n 1, 1) := by decide +kernel
theorem dX8_row_1 : decode cX8_row 1 = .ok (.ifCond .lt 29, 3) := by decide +kernel
theorem dX8_row_4 : decode cX8_row 4 = .ok (.iload_n 2, 1) := by decide +kernel
theorem dX8_row_5 : decode cX8_row 5 = .ok (.ifCond .lt 25, 3) := by decide +kernel
theorem dX8_row_8 : decode cX8_row 8 = .ok (.iload_n 3, 1) := by decide +kernel
theorem dX8_row_9 : decode cX8_row 9 = .ok (.ifCond .lt 21, 3) := by decide +kernel
theorem dX8_row_12 : decode cX8_row 12 = .ok (.iload 4, 2) := by decide +kernel
theorem dX8_row_14 : decode cX8_row 14 = .ok (.iconst (-1), 1) := by decide +kernel
theorem dX8_row_15 : decode cX8_row 15 = .ok (.if_icmp .eq 25, 3) := by decide +kernel
theorem dX8_row_18 : decode cX8_row 18 = .ok (.aload_n 0, 1) := by decide +kernel
theorem dX8_row_19 : decode cX8_row 19 = .ok (.getfield 10, 3) := by decide +kernel
theorem dX8_row_22 : decode cX8_row 22 = .ok (.iload 4, 2) := by decide +kernel
theorem dX8_row_24 : decode cX8_row 24 = .ok (.invokevirtual 55, 3) := by decide +kernel
theorem dX8_row_27 : decode cX8_row 27 = .ok (.ifCond .ne 13, 3) := by decide +kernel
theorem dX8_row_30 : decode cX8_row 30 = .ok (.new 63, 3) := by decide +kernel
theorem dX8_row_33 : decode cX8_row 33 = .ok (.dup, 1) := by decide +kernel
theorem dX8_row_34 : decode cX8_row 34 = .ok (.ldc 161, 2) := by decide +kernel
theorem dX8_row_36 : decode cX8_row 36 = .ok (.invokespecial 67, 3) := by decide +kernel
theorem dX8_row_39 : decode cX8_row 39 = .ok (.athrow, 1) := by decide +kernel
theorem dX8_row_40 : decode cX8_row 40 = .ok (.aload_n 0, 1) := by decide +kernel
theorem dX8_row_41 : decode cX8_row 41 = .ok (.getfield 26, 3) := by decide +kernel
theorem dX8_row_44 : decode cX8_row 44 = .ok (.getfield 163, 3) := by decide +kernel
theorem dX8_row_47 : decode cX8_row 47 = .ok (.bipush 50, 2) := by decide +kernel
theorem dX8_row_49 : decode cX8_row 49 = .ok (.if_icmp .lt 13, 3) := by decide +kernel
theorem dX8_row_52 : decode cX8_row 52 = .ok (.new 74, 3) := by decide +kernel
theorem dX8_row_55 : decode cX8_row 55 = .ok (.dup, 1) := by decide +kernel
theorem dX8_row_56 : decode cX8_row 56 = .ok (.ldc 166, 2) := by decide +kernel
theorem dX8_row_58 : decode cX8_row 58 = .ok (.invokespecial 78, 3) := by decide +kernel
theorem dX8_row_61 : decode cX8_row 61 = .ok (.athrow, 1) := by decide +kernel
theorem dX8_row_62 : decode cX8_row 62 = .ok (.aload_n 0, 1) := by decide +kernel
theorem dX8_row_63 : decode cX8_row 63 = .ok (.getfield 26, 3) := by decide +kernel
theorem dX8_row_66 : decode cX8_row 66 = .ok (.iload_n 1, 1) := by decide +kernel
theorem dX8_row_67 : decode cX8_row 67 = .ok (.iload_n 2, 1) := by decide +kernel
theorem dX8_row_68 : decode cX8_row 68 = .ok (.iload_n 3, 1) := by decide +kernel
theorem dX8_row_69 : decode cX8_row 69 = .ok (.iload 4, 2) := by decide +kernel
theorem dX8_row_71 : decode cX8_row 71 = .ok (.invokevirtual 168, 3) := by decide +kernel
theorem dX8_row_74 : decode cX8_row 74 = .ok (.ireturn, 1) := by decide +kernel
def ckX8_judge : List (List Cond) := [[.code yX8_judge cX8_judge 4 (some .int)], wsX8_judge_r1, wsX8_judge_r2, wsX8_judge_r3, wsX8_judge_r4, wsX8_judge_r5, wsX8_judge_r6, wsX8_judge_r7, wsX8_judge_r8, wsX8_judge_r9, wsX8_judge_r10, wsX8_judge_r11, wsX8_judge_r12, wsX8_judge_r13, wsX8_judge_r14, wsX8_judge_r15, wsX8_judge_r16, wsX8_judge_r17, wsX8_judge_r18, wsX8_judge_r19, wsX80, wsX00, wsX30, wsX10, wsX20, wsX50, wsX70, wsX60, wsX40]
theorem ckX8_judgel : wsX8_judge = ckX8_judge.flatten := by
  simp only [wsX8_judge, ckX8_judge, List.flatten_cons, List.flatten_nil, List.append_assoc, List.append_nil, List.cons_append, List.nil_append]
set_option maxRecDepth 20000 in
theorem ggX8_judge_X0_isSound : GoodIn wsX8_judge wsX0_isSound := goodIn_t ckX8_judge ckX8_judgel _ [(1, 9), (1, 10), (1, 11), (1, 12), (1, 13), (1, 14), (1, 15), (1, 8), (1, 16), (1, 17), (1, 18), (1, 19), (1, 20), (1, 21), (1, 22), (1, 23), (2, 0), (2, 1), (2, 2), (2, 3), (2, 4), (2, 5), (2, 6), (2, 7), (2, 8), (2, 9), (2, 10), (2, 11), (2, 12), (2, 13), (2, 14), (2, 15), (2, 16), (2, 17), (2, 18), (2, 19), (2, 20), (2, 21), (2, 22), (2, 23), (3, 0), (3, 1), (3, 2), (3, 3), (21, 0), (21, 1), (21, 2), (21, 3), (21, 4), (21, 5), (21, 6), (21, 7), (21, 8), (21, 9), (21, 10), (21, 11), (21, 12), (21, 13), (21, 14), (21, 15), (21, 16)] rfl (by decide +kernel)
set_option maxRecDepth 20000 in
theorem gX8_judge_X0_isSound : GoodIn wsX8_judge (wsV RX8 172 RX0 yX0_isSound wsX0_isSound) := goodIn_app (goodIn_of _ (by decide +kernel)) ggX8_judge_X0_isSound
set_option maxRecDepth 20000 in
theorem ggX8_judge_X3_clear : GoodIn wsX8_judge wsX3_clear := goodIn_t ckX8_judge ckX8_judgel _ [(3, 8), (3, 9), (3, 10), (3, 11), (3, 12), (3, 13), (3, 14), (3, 15), (3, 16), (3, 17), (3, 18), (22, 0), (22, 1), (22, 2), (22, 3), (22, 4), (22, 5), (22, 6), (22, 7), (22, 8), (22, 9), (22, 10), (22, 11), (22, 12), (22, 13), (22, 14), (22, 15), (22, 16)] rfl (by decide +kernel)
set_option maxRecDepth 20000 in
theorem gX8_judge_X3_clear : GoodIn wsX8_judge (wsV RX8 181 RX3 yX3_clear wsX3_clear) := goodIn_app (goodIn_of _ (by decide +kernel)) ggX8_judge_X3_clear
set_option maxRecDepth 20000 in
theorem ggX8_judge_X1_clear : GoodIn wsX8_judge wsX1_clear := goodIn_t ckX8_judge ckX8_judgel _ [(3, 23), (4, 0), (4, 1), (23, 0), (23, 1), (23, 2), (23, 3), (23, 4), (23, 5)] rfl (by decide +kernel)
set_option maxRecDepth 20000 in
theorem gX8_judge_X1_clear : GoodIn wsX8_judge (wsV RX8 185 RX1 yX1_clear wsX1_clear) := goodIn_app (goodIn_of _ (by decide +kernel)) ggX8_judge_X1_clear
set_option maxRecDepth 20000 in
theorem ggX8_judge_X0_markTargets : GoodIn wsX8_judge wsX0_markTargets := goodIn_t ckX8_judge ckX8_judgel _ [(4, 5), (1, 10), (4, 6), (2, 6), (2, 7), (2, 9), (2, 10), (1, 12), (3, 3), (2, 17), (2, 18), (1, 8), (2, 19), (21, 0), (21, 1), (21, 2), (21, 3), (21, 4), (21, 5), (21, 6), (21, 7), (21, 8), (21, 9), (21, 10), (21, 11), (21, 12), (21, 13), (21, 14), (21, 15), (21, 16)] rfl (by decide +kernel)
set_option maxRecDepth 20000 in
theorem gX8_judge_X0_markTargets : GoodIn wsX8_judge (wsV RX8 187 RX0 yX0_markTargets wsX0_markTargets) := goodIn_app (goodIn_of _ (by decide +kernel)) ggX8_judge_X0_markTargets
set_option maxRecDepth 20000 in
theorem ggX8_judge_X2_begin : GoodIn wsX8_judge wsX2_begin := goodIn_t ckX8_judge ckX8_judgel _ [(4, 11), (4, 12), (4, 13), (4, 14), (4, 15), (4, 16), (4, 17), (4, 18), (4, 19), (4, 20), (4, 21), (4, 22), (4, 23), (5, 0), (5, 1), (5, 2), (5, 3), (5, 4), (1, 22), (5, 5), (5, 6), (5, 7), (5, 8), (5, 9), (5, 10), (5, 11), (5, 12), (5, 13), (5, 14), (5, 15), (5, 16), (5, 17), (5, 18), (5, 19), (1, 21), (1, 23), (2, 0), (2, 1), (5, 20), (5, 21), (5, 22), (4, 10), (5, 23), (6, 0), (6, 1), (6, 2), (6, 3), (3, 7), (6, 4), (3, 14), (3, 11), (6, 5), (6, 6), (6, 7), (6, 8), (6, 9), (6, 10), (6, 11), (6, 12), (6, 13), (6, 14), (3, 9), (6, 15), (6, 16), (3, 10), (6, 17), (6, 18), (6, 19), (6, 20), (6, 21), (6, 22), (6, 23), (7, 0), (7, 1), (7, 2), (7, 3), (7, 4), (7, 5), (7, 6), (7, 7), (7, 8), (7, 9), (7, 10), (7, 11), (7, 12), (7, 13), (7, 14), (7, 15), (7, 16), (3, 13), (3, 12), (7, 17), (7, 18), (7, 19), (7, 20), (7, 21), (7, 22), (7, 23), (8, 0), (8, 1), (8, 2), (8, 3), (8, 4), (8, 5), (8, 6), (8, 7), (8, 8), (8, 9), (8, 10), (3, 17), (8, 11), (8, 12), (8, 13), (8, 14), (8, 15), (8, 16), (8, 17), (8, 18), (8, 19), (8, 20), (8, 21), (8, 22), (8, 23), (24, 0), (24, 1), (24, 2), (24, 3), (24, 4), (24, 5), (25, 0), (25, 1), (25, 2), (25, 3), (25, 4), (25, 5), (25, 6), (25, 7), (25, 8), (25, 9), (21, 0), (21, 1), (21, 2), (21, 3), (21, 4), (21, 5), (21, 6), (21, 7), (21, 8), (21, 9), (21, 10), (21, 11), (21, 12), (21, 13), (21, 14), (21, 15), (21, 16), (22, 0), (22, 1), (22, 2), (22, 3), (22, 4), (22, 5), (22, 6), (22, 7), (22, 8), (22, 9), (22, 10), (22, 11), (22, 12), (22, 13), (22, 14), (22, 15), (22, 16), (26, 0), (26, 1), (26, 2)] rfl (by decide +kernel)
set_option maxRecDepth 20000 in
theorem gX8_judge_X2_begin : GoodIn wsX8_judge (wsV RX8 190 RX2 yX2_begin wsX2_begin) := goodIn_app (goodIn_of _ (by decide +kernel)) ggX8_judge_X2_begin
set_option maxRecDepth 20000 in
theorem ggX8_judge_X3_isAnyAwaited : GoodIn wsX8_judge wsX3_isAnyAwaited := goodIn_t ckX8_judge ckX8_judgel _ [(9, 3), (3, 12), (22, 0), (22, 1), (22, 2), (22, 3), (22, 4), (22, 5), (22, 6), (22, 7), (22, 8), (22, 9), (22, 10), (22, 11), (22, 12), (22, 13), (22, 14), (22, 15), (22, 16)] rfl (by decide +kernel)
set_option maxRecDepth 20000 in
theorem gX8_judge_X3_isAnyAwaited : GoodIn wsX8_judge (wsV RX8 193 RX3 yX3_isAnyAwaited wsX3_isAnyAwaited) := goodIn_app (goodIn_of _ (by decide +kernel)) ggX8_judge_X3_isAnyAwaited
set_option maxRecDepth 20000 in
theorem ggX8_judge_X3_takeAwaited : GoodIn wsX8_judge wsX3_takeAwaited := goodIn_t ckX8_judge ckX8_judgel _ [(9, 7), (3, 12), (7, 16), (3, 13), (22, 0), (22, 1), (22, 2), (22, 3), (22, 4), (22, 5), (22, 6), (22, 7), (22, 8), (22, 9), (22, 10), (22, 11), (22, 12), (22, 13), (22, 14), (22, 15), (22, 16)] rfl (by decide +kernel)
set_option maxRecDepth 20000 in
theorem gX8_judge_X3_takeAwaited : GoodIn wsX8_judge (wsV RX8 196 RX3 yX3_takeAwaited wsX3_takeAwaited) := goodIn_app (goodIn_of _ (by decide +kernel)) ggX8_judge_X3_takeAwaited
set_option maxRecDepth 20000 in
theorem ggX8_judge_X2_follow : GoodIn wsX8_judge wsX2_follow := goodIn_t ckX8_judge ckX8_judgel _ [(9, 11), (6, 0), (4, 12), (4, 13), (9, 12), (9, 13), (9, 14), (9, 15), (4, 17), (9, 16), (4, 19), (4, 21), (4, 22), (5, 15), (5, 2), (9, 17), (8, 2), (8, 3), (8, 4), (9, 18), (9, 19), (9, 20), (4, 10), (9, 21), (9, 22), (9, 23), (10, 0), (10, 1), (10, 2), (10, 3), (10, 4), (10, 5), (1, 22), (10, 6), (2, 0), (5, 6), (5, 7), (5, 8), (5, 9), (5, 10), (7, 5), (7, 6), (7, 7), (10, 7), (10, 8), (10, 9), (10, 10), (7, 3), (10, 11), (7, 4), (10, 12), (5, 4), (5, 5), (5, 20), (5, 21), (5, 22), (5, 23), (6, 1), (6, 2), (6, 3), (3, 7), (6, 4), (3, 14), (3, 11), (6, 5), (6, 6), (6, 7), (6, 8), (6, 9), (6, 10), (6, 11), (6, 12), (6, 13), (6, 14), (3, 9), (6, 15), (6, 16), (3, 10), (6, 17), (6, 18), (6, 19), (6, 20), (6, 21), (6, 22), (6, 23), (7, 0), (7, 1), (7, 2), (7, 8), (7, 9), (7, 10), (7, 11), (7, 12), (7, 13), (7, 14), (7, 15), (7, 16), (3, 13), (3, 12), (7, 17), (7, 18), (7, 19), (7, 20), (7, 21), (7, 22), (7, 23), (8, 0), (8, 1), (8, 5), (8, 6), (8, 7), (8, 8), (8, 9), (8, 10), (3, 17), (8, 11), (8, 12), (8, 13), (8, 14), (8, 15), (8, 16), (8, 17), (8, 18), (8, 19), (8, 20), (8, 21), (8, 22), (8, 23), (10, 13), (10, 14), (10, 15), (10, 16), (10, 17), (10, 18), (10, 19), (10, 20), (10, 21), (10, 22), (10, 23), (11, 0), (11, 1), (11, 2), (11, 3), (11, 4), (11, 5), (5, 3), (11, 6), (11, 7), (11, 8), (11, 9), (4, 20), (4, 23), (5, 16), (5, 17), (5, 18), (11, 10), (11, 11), (11, 12), (11, 13), (11, 14), (11, 15), (11, 16), (11, 17), (11, 18), (11, 19), (11, 20), (11, 21), (11, 22), (11, 23), (12, 0), (12, 1), (12, 2), (12, 3), (12, 4), (12, 5), (12, 6), (12, 7), (12, 8), (12, 9), (12, 10), (12, 11), (12, 12), (12, 13), (12, 14), (12, 15), (12, 16), (12, 17), (12, 18), (12, 19), (12, 20), (12, 21), (12, 22), (12, 23), (13, 0), (13, 1), (13, 2), (13, 3), (13, 4), (5, 12), (5, 13), (5, 14), (13, 5), (13, 6), (13, 7), (13, 8), (13, 9), (13, 10), (13, 11), (13, 12), (13, 13), (13, 14), (5, 1), (13, 15), (5, 0), (13, 16), (13, 17), (13, 18), (13, 19), (13, 20), (13, 21), (13, 22), (13, 23), (14, 0), (14, 1), (14, 2), (14, 3), (14, 4), (14, 5), (14, 6), (14, 7), (14, 8), (14, 9), (14, 10), (14, 11), (14, 12), (14, 13), (14, 14), (14, 15), (14, 16), (14, 17), (14, 18), (14, 19), (14, 20), (14, 21), (14, 22), (14, 23), (15, 0), (15, 1), (15, 2), (15, 3), (15, 4), (15, 5), (15, 6), (15, 7), (15, 8), (15, 9), (15, 10), (2, 21), (1, 8), (2, 22), (15, 11), (15, 12), (15, 13), (15, 14), (15, 15), (15, 16), (15, 17), (15, 18), (15, 19), (15, 20), (15, 21), (15, 22), (15, 23), (16, 0), (16, 1), (16, 2), (16, 3), (16, 4), (16, 5), (16, 6), (16, 7), (16, 8), (16, 9), (16, 10), (16, 11), (16, 12), (16, 13), (16, 14), (16, 15), (16, 16), (16, 17), (16, 18), (16, 19), (16, 20), (16, 21), (16, 22), (16, 23), (17, 0), (17, 1), (17, 2), (17, 3), (17, 4), (17, 5), (17, 6), (17, 7), (17, 8), (17, 9), (17, 10), (17, 11), (17, 12), (17, 13), (17, 14), (17, 15), (17, 16), (17, 17), (17, 18), (17, 19), (17, 20), (3, 22), (17, 21), (17, 22), (17, 23), (18, 0), (18, 1), (18, 2), (18, 3), (18, 4), (4, 0), (4, 1), (18, 5), (18, 6), (18, 7), (18, 8), (18, 9), (18, 10), (18, 11), (18, 12), (18, 13), (18, 14), (18, 15), (18, 16), (2, 18), (2, 19), (24, 0), (24, 1), (24, 2), (24, 3), (24, 4), (24, 5), (22, 0), (22, 1), (22, 2), (22, 3), (22, 4), (22, 5), (22, 6), (22, 7), (22, 8), (22, 9), (22, 10), (22, 11), (22, 12), (22, 13), (22, 14), (22, 15), (22, 16), (21, 0), (21, 1), (21, 2), (21, 3), (21, 4), (21, 5), (21, 6), (21, 7), (21, 8), (21, 9), (21, 10), (21, 11), (21, 12), (21, 13), (21, 14), (21, 15), (21, 16), (25, 0), (25, 1), (25, 2), (25, 3), (25, 4), (25, 5), (25, 6), (25, 7), (25, 8), (25, 9), (26, 0), (26, 1), (26, 2), (27, 0), (27, 1), (27, 2), (27, 3), (28, 0), (28, 1), (28, 2), (28, 3), (28, 4), (28, 5), (28, 6), (28, 7), (28, 8), (23, 0), (23, 1), (23, 2), (23, 3), (23, 4), (23, 5)] rfl (by decide +kernel)
set_option maxRecDepth 20000 in
theorem gX8_judge_X2_follow : GoodIn wsX8_judge (wsV RX8 200 RX2 yX2_follow wsX2_follow) := goodIn_app (goodIn_of _ (by decide +kernel)) ggX8_judge_X2_follow
set_option maxRecDepth 20000 in
theorem ggX8_judge_X2_isInDoubt : GoodIn wsX8_judge wsX2_isInDoubt := goodIn_t ckX8_judge ckX8_judgel _ [(18, 20), (4, 12), (24, 0), (24, 1), (24, 2), (24, 3), (24, 4), (24, 5), (25, 0), (25, 1), (25, 2), (25, 3), (25, 4), (25, 5), (25, 6), (25, 7), (25, 8), (25, 9)] rfl (by decide +kernel)
set_option maxRecDepth 20000 in
theorem gX8_judge_X2_isInDoubt : GoodIn wsX8_judge (wsV RX8 203 RX2 yX2_isInDoubt wsX2_isInDoubt) := goodIn_app (goodIn_of _ (by decide +kernel)) ggX8_judge_X2_isInDoubt
set_option maxRecDepth 20000 in
theorem ggX8_judge_X3_arrange : GoodIn wsX8_judge wsX3_arrange := goodIn_t ckX8_judge ckX8_judgel _ [(19, 0), (19, 1), (3, 11), (6, 5), (8, 18), (19, 2), (19, 3), (19, 4), (19, 5), (3, 7), (19, 6), (19, 7), (19, 8), (19, 9), (19, 10), (19, 11), (6, 6), (19, 12), (19, 13), (19, 14), (3, 22), (19, 15), (17, 22), (18, 0), (17, 23), (22, 0), (22, 1), (22, 2), (22, 3), (22, 4), (22, 5), (22, 6), (22, 7), (22, 8), (22, 9), (22, 10), (22, 11), (22, 12), (22, 13), (22, 14), (22, 15), (22, 16), (23, 0), (23, 1), (23, 2), (23, 3), (23, 4), (23, 5)] rfl (by decide +kernel)
set_option maxRecDepth 20000 in
theorem gX8_judge_X3_arrange : GoodIn wsX8_judge (wsV RX8 207 RX3 yX3_arrange wsX3_arrange) := goodIn_app (goodIn_of _ (by decide +kernel)) ggX8_judge_X3_arrange
theorem dX8_judge_0 : decode cX8_judge 0 = .ok (.aload_n 0, 1) := by decide +kernel
theorem dX8_judge_1 : decode cX8_judge 1 = .ok (.getfield 26, 3) := by decide +kernel
theorem dX8_judge_4 : decode cX8_judge 4 = .ok (.invokevirtual 172, 3) := by decide +kernel
theorem dX8_judge_7 : decode cX8_judge 7 = .ok (.istore_n 1, 1) := by decide +kernel
theorem dX8_judge_8 : decode cX8_judge 8 = .ok (.aload_n 0, 1) := by decide +kernel
theorem dX8_judge_9 : decode cX8_judge 9 = .ok (.getfield 42, 3) := by decide +kernel
theorem dX8_judge_12 : decode cX8_judge 12 = .ok (.aload_n 0, 1) := by decide +kernel
theorem dX8_judge_13 : decode cX8_judge 13 = .ok (.getfield 26, 3) := by decide +kernel
theorem dX8_judge_16 : decode cX8_judge 16 = .ok (.getfield 175, 3) := by decide +kernel
theorem dX8_judge_19 : decode cX8_judge 19 = .ok (.aload_n 0, 1) := by decide +kernel
theorem dX8_judge_20 : decode cX8_judge 20 = .ok (.getfield 26, 3) := by decide +kernel
theorem dX8_judge_23 : decode cX8_judge 23 = .ok (.getfield 178, 3) := by decide +kernel
theorem dX8_judge_26 : decode cX8_judge 26 = .ok (.invokevirtual 181, 3) := by decide +kernel
theorem dX8_judge_29 : decode cX8_judge 29 = .ok (.aload_n 0, 1) := by decide +kernel
theorem dX8_judge_30 : decode cX8_judge 30 = .ok (.getfield 33, 3) := by decide +kernel
theorem dX8_judge_33 : decode cX8_judge 33 = .ok (.invokevirtual 185, 3) := by decide +kernel
theorem dX8_judge_36 : decode cX8_judge 36 = .ok (.iload_n 1, 1) := by decide +kernel
theorem dX8_judge_37 : decode cX8_judge 37 = .ok (.ifCond .eq 18, 3) := by decide +kernel
theorem dX8_judge_40 : decode cX8_judge 40 = .ok (.aload_n 0, 1) := by decide +kernel
theorem dX8_judge_41 : decode cX8_judge 41 = .ok (.getfield 26, 3) := by decide +kernel
theorem dX8_judge_44 : decode cX8_judge 44 = .ok (.invokevirtual 187, 3) := by decide +kernel
theorem dX8_judge_47 : decode cX8_judge 47 = .ok (.aload_n 0, 1) := by decide +kernel
theorem dX8_judge_48 : decode cX8_judge 48 = .ok (.getfield 51, 3) := by decide +kernel
theorem dX8_judge_51 : decode cX8_judge 51 = .ok (.invokevirtual 190, 3) := by decide +kernel
theorem dX8_judge_54 : decode cX8_judge 54 = .ok (.istore_n 1, 1) := by decide +kernel
theorem dX8_judge_55 : decode cX8_judge 55 = .ok (.iconst 0, 1) := by decide +kernel
theorem dX8_judge_56 : decode cX8_judge 56 = .ok (.istore_n 2, 1) := by decide +kernel
theorem dX8_judge_57 : decode cX8_judge 57 = .ok (.iload_n 2, 1) := by decide +kernel
theorem dX8_judge_58 : decode cX8_judge 58 = .ok (.ldc 192, 2) := by decide +kernel
theorem dX8_judge_60 : decode cX8_judge 60 = .ok (.if_icmp .ge 38, 3) := by decide +kernel
theorem dX8_judge_63 : decode cX8_judge 63 = .ok (.iload_n 1, 1) := by decide +kernel
theorem dX8_judge_64 : decode cX8_judge 64 = .ok (.ifCond .eq 34, 3) := by decide +kernel
theorem dX8_judge_67 : decode cX8_judge 67 = .ok (.aload_n 0, 1) := by decide +kernel
theorem dX8_judge_68 : decode cX8_judge 68 = .ok (.getfield 42, 3) := by decide +kernel
theorem dX8_judge_71 : decode cX8_judge 71 = .ok (.invokevirtual 193, 3) := by decide +kernel
theorem dX8_judge_74 : decode cX8_judge 74 = .ok (.ifCond .eq 24, 3) := by decide +kernel
theorem dX8_judge_77 : decode cX8_judge 77 = .ok (.aload_n 0, 1) := by decide +kernel
theorem dX8_judge_78 : decode cX8_judge 78 = .ok (.getfield 51, 3) := by decide +kernel
theorem dX8_judge_81 : decode cX8_judge 81 = .ok (.aload_n 0, 1) := by decide +kernel
theorem dX8_judge_82 : decode cX8_judge 82 = .ok (.getfield 42, 3) := by decide +kernel
theorem dX8_judge_85 : decode cX8_judge 85 = .ok (.invokevirtual 196, 3) := by decide +kernel
theorem dX8_judge_88 : decode cX8_judge 88 = .ok (.invokevirtual 200, 3) := by decide +kernel
theorem dX8_judge_91 : decode cX8_judge 91 = .ok (.istore_n 1, 1) := by decide +kernel
theorem dX8_judge_92 : decode cX8_judge 92 = .ok (.iinc 2 1, 3) := by decide +kernel
theorem dX8_judge_95 : decode cX8_judge 95 = .ok (.goto (-38), 3) := by decide +kernel
theorem dX8_judge_98 : decode cX8_judge 98 = .ok (.iload_n 1, 1) := by decide +kernel
theorem dX8_judge_99 : decode cX8_judge 99 = .ok (.ifCond .eq 17, 3) := by decide +kernel
theorem dX8_judge_102 : decode cX8_judge 102 = .ok (.aload_n 0, 1) := by decide +kernel
theorem dX8_judge_103 : decode cX8_judge 103 = .ok (.getfield 51, 3) := by decide +kernel
theorem dX8_judge_106 : decode cX8_judge 106 = .ok (.invokevirtual 203, 3) := by decide +kernel
theorem dX8_judge_109 : decode cX8_judge 109 = .ok (.ifCond .eq 7, 3) := by decide +kernel
theorem dX8_judge_112 : decode cX8_judge 112 = .ok (.iconst 1, 1) := by decide +kernel
theorem dX8_judge_113 : decode cX8_judge 113 = .ok (.goto 4, 3) := by decide +kernel
theorem dX8_judge_116 : decode cX8_judge 116 = .ok (.iconst 0, 1) := by decide +kernel
theorem dX8_judge_117 : decode cX8_judge 117 = .ok (.istore_n 2, 1) := by decide +kernel
theorem dX8_judge_118 : decode cX8_judge 118 = .ok (.iconst 0, 1) := by decide +kernel
theorem dX8_judge_119 : decode cX8_judge 119 = .ok (.istore_n 3, 1) := by decide +kernel
theorem dX8_judge_120 : decode cX8_judge 120 = .ok (.iload_n 3, 1) := by decide +kernel
theorem dX8_judge_121 : decode cX8_judge 121 = .ok (.aload_n 0, 1) := by decide +kernel
theorem dX8_judge_122 : decode cX8_judge 122 = .ok (.getfield 42, 3) := by decide +kernel
theorem dX8_judge_125 : decode cX8_judge 125 = .ok (.getfield 206, 3) := by decide +kernel
theorem dX8_judge_128 : decode cX8_judge 128 = .ok (.if_icmp .ge 26, 3) := by decide +kernel
theorem dX8_judge_131 : decode cX8_judge 131 = .ok (.iload_n 1, 1) := by decide +kernel
theorem dX8_judge_132 : decode cX8_judge 132 = .ok (.ifCond .eq 22, 3) := by decide +kernel
theorem dX8_judge_135 : decode cX8_judge 135 = .ok (.iload_n 2, 1) := by decide +kernel
theorem dX8_judge_136 : decode cX8_judge 136 = .ok (.ifCond .eq 18, 3) := by decide +kernel
theorem dX8_judge_139 : decode cX8_judge 139 = .ok (.aload_n 0, 1) := by decide +kernel
theorem dX8_judge_140 : decode cX8_judge 140 = .ok (.getfield 51, 3) := by decide +kernel
theorem dX8_judge_143 : decode cX8_judge 143 = .ok (.iload_n 3, 1) := by decide +kernel
theorem dX8_judge_144 : decode cX8_judge 144 = .ok (.invokevirtual 200, 3) := by decide +kernel
theorem dX8_judge_147 : decode cX8_judge 147 = .ok (.istore_n 1, 1) := by decide +kernel
theorem dX8_judge_148 : decode cX8_judge 148 = .ok (.iinc 3 1, 3) := by decide +kernel
theorem dX8_judge_151 : decode cX8_judge 151 = .ok (.goto (-31), 3) := by decide +kernel
theorem dX8_judge_154 : decode cX8_judge 154 = .ok (.iload_n 1, 1) := by decide +kernel
theorem dX8_judge_155 : decode cX8_judge 155 = .ok (.ifCond .eq 13, 3) := by decide +kernel
theorem dX8_judge_158 : decode cX8_judge 158 = .ok (.aload_n 0, 1) := by decide +kernel
theorem dX8_judge_159 : decode cX8_judge 159 = .ok (.getfield 42, 3) := by decide +kernel
theorem dX8_judge_162 : decode cX8_judge 162 = .ok (.invokevirtual 193, 3) := by decide +kernel
theorem dX8_judge_165 : decode cX8_judge 165 = .ok (.ifCond .eq 26, 3) := by decide +kernel
theorem dX8_judge_168 : decode cX8_judge 168 = .ok (.aload_n 0, 1) := by decide +kernel
theorem dX8_judge_169 : decode cX8_judge 169 = .ok (.getfield 42, 3) := by decide +kernel
theorem dX8_judge_172 : decode cX8_judge 172 = .ok (.aload_n 0, 1) := by decide +kernel
theorem dX8_judge_173 : decode cX8_judge 173 = .ok (.getfield 26, 3) := by decide +kernel
theorem dX8_judge_176 : decode cX8_judge 176 = .ok (.getfield 175, 3) := by decide +kernel
theorem dX8_judge_179 : decode cX8_judge 179 = .ok (.aload_n 0, 1) := by decide +kernel
theorem dX8_judge_180 : decode cX8_judge 180 = .ok (.getfield 26, 3) := by decide +kernel
theorem dX8_judge_183 : decode cX8_judge 183 = .ok (.getfield 178, 3) := by decide +kernel
theorem dX8_judge_186 : decode cX8_judge 186 = .ok (.invokevirtual 181, 3) := by decide +kernel
theorem dX8_judge_189 : decode cX8_judge 189 = .ok (.iconst (-1), 1) := by decide +kernel
theorem dX8_judge_190 : decode cX8_judge 190 = .ok (.ireturn, 1) := by decide +kernel
theorem dX8_judge_191 : decode cX8_judge 191 = .ok (.aload_n 0, 1) := by decide +kernel
theorem dX8_judge_192 : decode cX8_judge 192 = .ok (.getfield 42, 3) := by decide +kernel
theorem dX8_judge_195 : decode cX8_judge 195 = .ok (.invokevirtual 207, 3) := by decide +kernel
theorem dX8_judge_198 : decode cX8_judge 198 = .ok (.aload_n 0, 1) := by decide +kernel
theorem dX8_judge_199 : decode cX8_judge 199 = .ok (.getfield 42, 3) := by decide +kernel
theorem dX8_judge_202 : decode cX8_judge 202 = .ok (.getfield 206, 3) := by decide +kernel
theorem dX8_judge_205 : decode cX8_judge 205 = .ok (.ireturn, 1) := by decide +kernel
set_option maxRecDepth 20000 in
theorem ggX8_frame_X3_factOf : GoodIn wsX8_frame wsX3_factOf := goodIn_r _ [8, 9, 10, 11, 12, 13, 14, 15, 22, 23, 24, 25, 26, 27, 28, 29, 30, 31, 32, 33, 34, 35, 36, 37, 38, 39, 40, 41, 42, 43, 44] rfl (by decide +kernel)
set_option maxRecDepth 20000 in
theorem gX8_frame_X3_factOf : GoodIn wsX8_frame (wsV RX8 212 RX3 yX3_factOf wsX3_factOf) := goodIn_app (goodIn_of _ (by decide +kernel)) ggX8_frame_X3_factOf
theorem dX8_frame_0 : decode cX8_frame 0 = .ok (.iload_n 2, 1) := by decide +kernel
theorem dX8_frame_1 : decode cX8_frame 1 = .ok (.ifCond .lt 8, 3) := by decide +kernel
theorem dX8_frame_4 : decode cX8_frame 4 = .ok (.iload_n 2, 1) := by decide +kernel
theorem dX8_frame_5 : decode cX8_frame 5 = .ok (.iconst 3, 1) := by decide +kernel
theorem dX8_frame_6 : decode cX8_frame 6 = .ok (.if_icmp .le 13, 3) := by decide +kernel
theorem dX8_frame_9 : decode cX8_frame 9 = .ok (.new 63, 3) := by decide +kernel
theorem dX8_frame_12 : decode cX8_frame 12 = .ok (.dup, 1) := by decide +kernel
theorem dX8_frame_13 : decode cX8_frame 13 = .ok (.ldc 210, 2) := by decide +kernel
theorem dX8_frame_15 : decode cX8_frame 15 = .ok (.invokespecial 67, 3) := by decide +kernel
theorem dX8_frame_18 : decode cX8_frame 18 = .ok (.athrow, 1) := by decide +kernel
theorem dX8_frame_19 : decode cX8_frame 19 = .ok (.aload_n 0, 1) := by decide +kernel
theorem dX8_frame_20 : decode cX8_frame 20 = .ok (.getfield 42, 3) := by decide +kernel
theorem dX8_frame_23 : decode cX8_frame 23 = .ok (.iload_n 1, 1) := by decide +kernel
theorem dX8_frame_24 : decode cX8_frame 24 = .ok (.iload_n 2, 1) := by decide +kernel
theorem dX8_frame_25 : decode cX8_frame 25 = .ok (.invokevirtual 212, 3) := by decide +kernel
theorem dX8_frame_28 : decode cX8_frame 28 = .ok (.ireturn, 1) := by decide +kernel
set_option maxRecDepth 20000 in
theorem ggX8_context_X3_addressOf : GoodIn wsX8_context wsX3_addressOf := goodIn_r _ [6, 7, 8, 9, 10, 11, 12, 13, 14, 15, 16, 17, 18, 25, 26, 27, 28, 29, 30, 31, 32, 33, 34, 35, 36, 37, 38, 39, 40, 41, 42, 43, 44, 45, 46, 47] rfl (by decide +kernel)
set_option maxRecDepth 20000 in
theorem gX8_context_X3_addressOf : GoodIn wsX8_context (wsV RX8 215 RX3 yX3_addressOf wsX3_addressOf) := goodIn_app (goodIn_of _ (by decide +kernel)) ggX8_context_X3_addressOf
theorem dX8_context_0 : decode cX8_context 0 = .ok (.aload_n 0, 1) := by decide +kernel
theorem dX8_context_1 : decode cX8_context 1 = .ok (.getfield 42, 3) := by decide +kernel
theorem dX8_context_4 : decode cX8_context 4 = .ok (.iload_n 1, 1) := by decide +kernel
theorem dX8_context_5 : decode cX8_context 5 = .ok (.iload_n 2, 1) := by decide +kernel
theorem dX8_context_6 : decode cX8_context 6 = .ok (.invokevirtual 215, 3) := by decide +kernel
theorem dX8_context_9 : decode cX8_context 9 = .ok (.ireturn, 1) := by decide +kernel
set_option maxRecDepth 20000 in
theorem ggX8_told_X3_placeOf : GoodIn wsX8_told wsX3_placeOf := goodIn_r _ [6, 7, 8, 9, 10, 11, 12, 19, 20, 21, 22, 23, 24, 25, 26, 27, 28, 29, 30, 31, 32, 33, 34, 35] rfl (by decide +kernel)
set_option maxRecDepth 20000 in
theorem gX8_told_X3_placeOf : GoodIn wsX8_told (wsV RX8 218 RX3 yX3_placeOf wsX3_placeOf) := goodIn_app (goodIn_of _ (by decide +kernel)) ggX8_told_X3_placeOf
theorem dX8_told_0 : decode cX8_told 0 = .ok (.aload_n 0, 1) := by decide +kernel
theorem dX8_told_1 : decode cX8_told 1 = .ok (.getfield 42, 3) := by decide +kernel
theorem dX8_told_4 : decode cX8_told 4 = .ok (.iload_n 1, 1) := by decide +kernel
theorem dX8_told_5 : decode cX8_told 5 = .ok (.iload_n 2, 1) := by decide +kernel
theorem dX8_told_6 : decode cX8_told 6 = .ok (.invokevirtual 218, 3) := by decide +kernel
theorem dX8_told_9 : decode cX8_told 9 = .ok (.ireturn, 1) := by decide +kernel
set_option maxRecDepth 20000 in
theorem ggX8_digest_X3_factOf : GoodIn wsX8_digest wsX3_factOf := goodIn_r _ [8, 9, 10, 11, 12, 13, 14, 15, 29, 30, 31, 32, 33, 34, 35, 36, 37, 38, 39, 40, 41, 42, 43, 44, 45, 46, 47, 48, 49, 50, 51] rfl (by decide +kernel)
set_option maxRecDepth 20000 in
theorem gX8_digest_X3_factOf : GoodIn wsX8_digest (wsV RX8 212 RX3 yX3_factOf wsX3_factOf) := goodIn_app (goodIn_of _ (by decide +kernel)) ggX8_digest_X3_factOf
set_option maxRecDepth 20000 in
theorem ggX8_digest_X3_placeOf : GoodIn wsX8_digest wsX3_placeOf := goodIn_r _ [19, 9, 10, 20, 14, 21, 22, 29, 30, 31, 32, 33, 34, 35, 36, 37, 38, 39, 40, 41, 42, 43, 44, 45] rfl (by decide +kernel)
set_option maxRecDepth 20000 in
theorem gX8_digest_X3_placeOf : GoodIn wsX8_digest (wsV RX8 218 RX3 yX3_placeOf wsX3_placeOf) := goodIn_app (goodIn_of _ (by decide +kernel)) ggX8_digest_X3_placeOf
theorem dX8_digest_0 : decode cX8_digest 0 = .ok (.ldc2_w 221, 3) := by decide +kernel
theorem dX8_digest_3 : decode cX8_digest 3 = .ok (.lstore_n 1, 1) := by decide +kernel
theorem dX8_digest_4 : decode cX8_digest 4 = .ok (.iconst 0, 1) := by decide +kernel
theorem dX8_digest_5 : decode cX8_digest 5 = .ok (.istore_n 3, 1) := by decide +kernel
theorem dX8_digest_6 : decode cX8_digest 6 = .ok (.iload_n 3, 1) := by decide +kernel
theorem dX8_digest_7 : decode cX8_digest 7 = .ok (.aload_n 0, 1) := by decide +kernel
theorem dX8_digest_8 : decode cX8_digest 8 = .ok (.getfield 42, 3) := by decide +kernel
theorem dX8_digest_11 : decode cX8_digest 11 = .ok (.getfield 206, 3) := by decide +kernel
theorem dX8_digest_14 : decode cX8_digest 14 = .ok (.if_icmp .ge 95, 3) := by decide +kernel
theorem dX8_digest_17 : decode cX8_digest 17 = .ok (.iconst 0, 1) := by decide +kernel
theorem dX8_digest_18 : decode cX8_digest 18 = .ok (.istore 4, 2) := by decide +kernel
theorem dX8_digest_20 : decode cX8_digest 20 = .ok (.iload 4, 2) := by decide +kernel
theorem dX8_digest_22 : decode cX8_digest 22 = .ok (.iconst 3, 1) := by decide +kernel
theorem dX8_digest_23 : decode cX8_digest 23 = .ok (.if_icmp .gt 27, 3) := by decide +kernel
theorem dX8_digest_26 : decode cX8_digest 26 = .ok (.ldc2_w 223, 3) := by decide +kernel
theorem dX8_digest_29 : decode cX8_digest 29 = .ok (.lload_n 1, 1) := by decide +kernel
theorem dX8_digest_30 : decode cX8_digest 30 = .ok (.lmul, 1) := by decide +kernel
theorem dX8_digest_31 : decode cX8_digest 31 = .ok (.aload_n 0, 1) := by decide +kernel
theorem dX8_digest_32 : decode cX8_digest 32 = .ok (.getfield 42, 3) := by decide +kernel
theorem dX8_digest_35 : decode cX8_digest 35 = .ok (.iload_n 3, 1) := by decide +kernel
theorem dX8_digest_36 : decode cX8_digest 36 = .ok (.iload 4, 2) := by decide +kernel
theorem dX8_digest_38 : decode cX8_digest 38 = .ok (.invokevirtual 212, 3) := by decide +kernel
theorem dX8_digest_41 : decode cX8_digest 41 = .ok (.i2l, 1) := by decide +kernel
theorem dX8_digest_42 : decode cX8_digest 42 = .ok (.ladd, 1) := by decide +kernel
theorem dX8_digest_43 : decode cX8_digest 43 = .ok (.lstore_n 1, 1) := by decide +kernel
theorem dX8_digest_44 : decode cX8_digest 44 = .ok (.iinc 4 1, 3) := by decide +kernel
theorem dX8_digest_47 : decode cX8_digest 47 = .ok (.goto (-27), 3) := by decide +kernel
theorem dX8_digest_50 : decode cX8_digest 50 = .ok (.aload_n 0, 1) := by decide +kernel
theorem dX8_digest_51 : decode cX8_digest 51 = .ok (.getfield 42, 3) := by decide +kernel
theorem dX8_digest_54 : decode cX8_digest 54 = .ok (.getfield 225, 3) := by decide +kernel
theorem dX8_digest_57 : decode cX8_digest 57 = .ok (.aload_n 0, 1) := by decide +kernel
theorem dX8_digest_58 : decode cX8_digest 58 = .ok (.getfield 42, 3) := by decide +kernel
theorem dX8_digest_61 : decode cX8_digest 61 = .ok (.iload_n 3, 1) := by decide +kernel
theorem dX8_digest_62 : decode cX8_digest 62 = .ok (.iconst 2, 1) := by decide +kernel
theorem dX8_digest_63 : decode cX8_digest 63 = .ok (.invokevirtual 212, 3) := by decide +kernel
theorem dX8_digest_66 : decode cX8_digest 66 = .ok (.iadd, 1) := by decide +kernel
theorem dX8_digest_67 : decode cX8_digest 67 = .ok (.istore 4, 2) := by decide +kernel
theorem dX8_digest_69 : decode cX8_digest 69 = .ok (.iconst 0, 1) := by decide +kernel
theorem dX8_digest_70 : decode cX8_digest 70 = .ok (.istore 5, 2) := by decide +kernel
theorem dX8_digest_72 : decode cX8_digest 72 = .ok (.iload 5, 2) := by decide +kernel
theorem dX8_digest_74 : decode cX8_digest 74 = .ok (.iload 4, 2) := by decide +kernel
theorem dX8_digest_76 : decode cX8_digest 76 = .ok (.if_icmp .ge 27, 3) := by decide +kernel
theorem dX8_digest_79 : decode cX8_digest 79 = .ok (.ldc2_w 223, 3) := by decide +kernel
theorem dX8_digest_82 : decode cX8_digest 82 = .ok (.lload_n 1, 1) := by decide +kernel
theorem dX8_digest_83 : decode cX8_digest 83 = .ok (.lmul, 1) := by decide +kernel
theorem dX8_digest_84 : decode cX8_digest 84 = .ok (.aload_n 0, 1) := by decide +kernel
theorem dX8_digest_85 : decode cX8_digest 85 = .ok (.getfield 42, 3) := by decide +kernel
theorem dX8_digest_88 : decode cX8_digest 88 = .ok (.iload_n 3, 1) := by decide +kernel
theorem dX8_digest_89 : decode cX8_digest 89 = .ok (.iload 5, 2) := by decide +kernel
theorem dX8_digest_91 : decode cX8_digest 91 = .ok (.invokevirtual 218, 3) := by decide +kernel
theorem dX8_digest_94 : decode cX8_digest 94 = .ok (.i2l, 1) := by decide +kernel
theorem dX8_digest_95 : decode cX8_digest 95 = .ok (.ladd, 1) := by decide +kernel
theorem dX8_digest_96 : decode cX8_digest 96 = .ok (.lstore_n 1, 1) := by decide +kernel
theorem dX8_digest_97 : decode cX8_digest 97 = .ok (.iinc 5 1, 3) := by decide +kernel
theorem dX8_digest_100 : decode cX8_digest 100 = .ok (.goto (-28), 3) := by decide +kernel
theorem dX8_digest_103 : decode cX8_digest 103 = .ok (.iinc 3 1, 3) := by decide +kernel
theorem dX8_digest_106 : decode cX8_digest 106 = .ok (.goto (-100), 3) := by decide +kernel
theorem dX8_digest_109 : decode cX8_digest 109 = .ok (.lload_n 1, 1) := by decide +kernel
theorem dX8_digest_110 : decode cX8_digest 110 = .ok (.lreturn, 1) := by decide +kernel
set_option maxRecDepth 20000 in
theorem ggX8_stands_X7_isType : GoodIn wsX8_stands wsX7_isType := goodIn_r _ [8, 9, 10, 11, 12, 13, 7, 14, 35, 36, 37] rfl (by decide +kernel)
set_option maxRecDepth 20000 in
theorem gX8_stands_X7_isType : GoodIn wsX8_stands (wsV RX8 83 RX7 yX7_isType wsX7_isType) := goodIn_app (goodIn_of _ (by decide +kernel)) ggX8_stands_X7_isType
set_option maxRecDepth 20000 in
theorem ggX8_stands_X7_mayStand : GoodIn wsX8_stands wsX7_mayStand := goodIn_r _ [18, 9, 19, 20, 7, 21, 11, 22, 12, 13, 14, 23, 24, 25, 26, 10, 27, 28, 35, 36, 37] rfl (by decide +kernel)
set_option maxRecDepth 20000 in
theorem gX8_stands_X7_mayStand : GoodIn wsX8_stands (wsV RX8 226 RX7 yX7_mayStand wsX7_mayStand) := goodIn_app (goodIn_of _ (by decide +kernel)) ggX8_stands_X7_mayStand
theorem dX8_stands_0 : decode cX8_stands 0 = .ok (.aload_n 0, 1) := by decide +kernel
theorem dX8_stands_1 : decode cX8_stands 1 = .ok (.getfield 10, 3) := by decide +kernel
theorem dX8_stands_4 : decode cX8_stands 4 = .ok (.iload_n 1, 1) := by decide +kernel
theorem dX8_stands_5 : decode cX8_stands 5 = .ok (.invokevirtual 83, 3) := by decide +kernel
theorem dX8_stands_8 : decode cX8_stands 8 = .ok (.ifCond .eq 14, 3) := by decide +kernel
theorem dX8_stands_11 : decode cX8_stands 11 = .ok (.aload_n 0, 1) := by decide +kernel
theorem dX8_stands_12 : decode cX8_stands 12 = .ok (.getfield 10, 3) := by decide +kernel
theorem dX8_stands_15 : decode cX8_stands 15 = .ok (.iload_n 2, 1) := by decide +kernel
theorem dX8_stands_16 : decode cX8_stands 16 = .ok (.invokevirtual 83, 3) := by decide +kernel
theorem dX8_stands_19 : decode cX8_stands 19 = .ok (.ifCond .ne 13, 3) := by decide +kernel
theorem dX8_stands_22 : decode cX8_stands 22 = .ok (.new 63, 3) := by decide +kernel
theorem dX8_stands_25 : decode cX8_stands 25 = .ok (.dup, 1) := by decide +kernel
theorem dX8_stands_26 : decode cX8_stands 26 = .ok (.ldc 113, 2) := by decide +kernel
theorem dX8_stands_28 : decode cX8_stands 28 = .ok (.invokespecial 67, 3) := by decide +kernel
theorem dX8_stands_31 : decode cX8_stands 31 = .ok (.athrow, 1) := by decide +kernel
theorem dX8_stands_32 : decode cX8_stands 32 = .ok (.aload_n 0, 1) := by decide +kernel
theorem dX8_stands_33 : decode cX8_stands 33 = .ok (.getfield 10, 3) := by decide +kernel
theorem dX8_stands_36 : decode cX8_stands 36 = .ok (.iload_n 1, 1) := by decide +kernel
theorem dX8_stands_37 : decode cX8_stands 37 = .ok (.iload_n 2, 1) := by decide +kernel
theorem dX8_stands_38 : decode cX8_stands 38 = .ok (.invokevirtual 226, 3) := by decide +kernel
theorem dX8_stands_41 : decode cX8_stands 41 = .ok (.ireturn, 1) := by decide +kernel
set_option maxRecDepth 20000 in
theorem ggX8_common_X7_isReference : GoodIn wsX8_common wsX7_isReference := goodIn_r _ [8, 9, 10, 11, 7, 12, 13, 14, 15, 16, 17, 18, 19, 20, 21, 22, 34, 35, 36] rfl (by decide +kernel)
set_option maxRecDepth 20000 in
theorem gX8_common_X7_isReference : GoodIn wsX8_common (wsV RX8 230 RX7 yX7_isReference wsX7_isReference) := goodIn_app (goodIn_of _ (by decide +kernel)) ggX8_common_X7_isReference
set_option maxRecDepth 20000 in
theorem ggX8_common_X7_sharedOf : GoodIn wsX8_common wsX7_sharedOf := goodIn_r _ [26, 13, 14, 15, 27, 16, 17, 7, 18, 34, 35, 36] rfl (by decide +kernel)
set_option maxRecDepth 20000 in
theorem gX8_common_X7_sharedOf : GoodIn wsX8_common (wsV RX8 235 RX7 yX7_sharedOf wsX7_sharedOf) := goodIn_app (goodIn_of _ (by decide +kernel)) ggX8_common_X7_sharedOf
theorem dX8_common_0 : decode cX8_common 0 = .ok (.aload_n 0, 1) := by decide +kernel
theorem dX8_common_1 : decode cX8_common 1 = .ok (.getfield 10, 3) := by decide +kernel
theorem dX8_common_4 : decode cX8_common 4 = .ok (.iload_n 1, 1) := by decide +kernel
theorem dX8_common_5 : decode cX8_common 5 = .ok (.invokevirtual 230, 3) := by decide +kernel
theorem dX8_common_8 : decode cX8_common 8 = .ok (.ifCond .eq 14, 3) := by decide +kernel
theorem dX8_common_11 : decode cX8_common 11 = .ok (.aload_n 0, 1) := by decide +kernel
theorem dX8_common_12 : decode cX8_common 12 = .ok (.getfield 10, 3) := by decide +kernel
theorem dX8_common_15 : decode cX8_common 15 = .ok (.iload_n 2, 1) := by decide +kernel
theorem dX8_common_16 : decode cX8_common 16 = .ok (.invokevirtual 230, 3) := by decide +kernel
theorem dX8_common_19 : decode cX8_common 19 = .ok (.ifCond .ne 13, 3) := by decide +kernel
theorem dX8_common_22 : decode cX8_common 22 = .ok (.new 63, 3) := by decide +kernel
theorem dX8_common_25 : decode cX8_common 25 = .ok (.dup, 1) := by decide +kernel
theorem dX8_common_26 : decode cX8_common 26 = .ok (.ldc 233, 2) := by decide +kernel
theorem dX8_common_28 : decode cX8_common 28 = .ok (.invokespecial 67, 3) := by decide +kernel
theorem dX8_common_31 : decode cX8_common 31 = .ok (.athrow, 1) := by decide +kernel
theorem dX8_common_32 : decode cX8_common 32 = .ok (.aload_n 0, 1) := by decide +kernel
theorem dX8_common_33 : decode cX8_common 33 = .ok (.getfield 10, 3) := by decide +kernel
