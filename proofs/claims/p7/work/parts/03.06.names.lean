theorem dX9_may_155 : decode cX9_may 155 = .ok (.iload 6, 2) := by decide +kernel
theorem dX9_may_157 : decode cX9_may 157 = .ok (.iconst 2, 1) := by decide +kernel
theorem dX9_may_158 : decode cX9_may 158 = .ok (.if_icmp .eq 9, 3) := by decide +kernel
theorem dX9_may_161 : decode cX9_may 161 = .ok (.iload 6, 2) := by decide +kernel
theorem dX9_may_163 : decode cX9_may 163 = .ok (.iconst 3, 1) := by decide +kernel
theorem dX9_may_164 : decode cX9_may 164 = .ok (.if_icmp .ne 7, 3) := by decide +kernel
theorem dX9_may_167 : decode cX9_may 167 = .ok (.iconst 1, 1) := by decide +kernel
theorem dX9_may_168 : decode cX9_may 168 = .ok (.goto 4, 3) := by decide +kernel
theorem dX9_may_171 : decode cX9_may 171 = .ok (.iconst 0, 1) := by decide +kernel
theorem dX9_may_172 : decode cX9_may 172 = .ok (.ireturn, 1) := by decide +kernel
set_option maxRecDepth 20000 in
theorem ggX9_shared_X9_below : GoodIn wsX9_shared wsX9_below := goodIn_r _ [14, 3, 18, 19, 20, 21, 22, 23, 24, 25, 26, 27, 28, 29, 30, 31, 32, 33, 34, 35, 36, 37, 38, 39, 40, 41, 42, 43, 44, 45, 46, 47, 48, 49, 50, 51, 52, 53, 54, 55, 56, 57, 58, 59, 60, 61, 62, 63, 64, 65, 66, 67, 68, 69, 70, 71, 72, 73, 74, 75, 76, 77, 78, 79] rfl (by decide +kernel)
set_option maxRecDepth 20000 in
theorem gX9_shared_X9_below : GoodIn wsX9_shared (wsV RX9 198 RX9 yX9_below wsX9_below) := goodIn_app (goodIn_of _ (by decide +kernel)) ggX9_shared_X9_below
set_option maxRecDepth 20000 in
theorem ggX9_shared_X9_shared : GoodIn wsX9_shared wsX9_shared := goodIn_r _ [0, 1, 2, 3, 4, 5, 6, 7, 8, 9, 10, 11, 12, 13, 14, 15, 16, 17, 18, 19, 20, 21, 22, 23, 24, 25, 26, 27, 28, 29, 30, 31, 32, 33, 34, 35, 36, 37, 38, 39, 40, 41, 42, 43, 44, 45, 46, 47, 48, 49, 50, 51, 52, 53, 54, 55, 56, 57, 58, 59, 60, 61, 62, 63, 64, 65, 66, 67, 68, 69, 70, 71, 72, 73, 74, 75, 76, 77, 78, 79] rfl (by decide +kernel)
set_option maxRecDepth 20000 in
theorem gX9_shared_X9_shared : GoodIn wsX9_shared (wsV RX9 205 RX9 yX9_shared wsX9_shared) := goodIn_app (goodIn_of _ (by decide +kernel)) ggX9_shared_X9_shared
theorem dX9_shared_0 : decode cX9_shared 0 = .ok (.iload_n 1, 1) := by decide +kernel
theorem dX9_shared_1 : decode cX9_shared 1 = .ok (.iload_n 2, 1) := by decide +kernel
theorem dX9_shared_2 : decode cX9_shared 2 = .ok (.if_icmp .ne 5, 3) := by decide +kernel
theorem dX9_shared_5 : decode cX9_shared 5 = .ok (.iload_n 1, 1) := by decide +kernel
theorem dX9_shared_6 : decode cX9_shared 6 = .ok (.ireturn, 1) := by decide +kernel
theorem dX9_shared_7 : decode cX9_shared 7 = .ok (.iload_n 1, 1) := by decide +kernel
theorem dX9_shared_8 : decode cX9_shared 8 = .ok (.bipush 16, 2) := by decide +kernel
theorem dX9_shared_10 : decode cX9_shared 10 = .ok (.ishr, 1) := by decide +kernel
theorem dX9_shared_11 : decode cX9_shared 11 = .ok (.istore_n 3, 1) := by decide +kernel
theorem dX9_shared_12 : decode cX9_shared 12 = .ok (.iload_n 2, 1) := by decide +kernel
theorem dX9_shared_13 : decode cX9_shared 13 = .ok (.bipush 16, 2) := by decide +kernel
theorem dX9_shared_15 : decode cX9_shared 15 = .ok (.ishr, 1) := by decide +kernel
theorem dX9_shared_16 : decode cX9_shared 16 = .ok (.istore 4, 2) := by decide +kernel
theorem dX9_shared_18 : decode cX9_shared 18 = .ok (.iload_n 1, 1) := by decide +kernel
theorem dX9_shared_19 : decode cX9_shared 19 = .ok (.ldc 142, 2) := by decide +kernel
theorem dX9_shared_21 : decode cX9_shared 21 = .ok (.iand, 1) := by decide +kernel
theorem dX9_shared_22 : decode cX9_shared 22 = .ok (.istore 5, 2) := by decide +kernel
theorem dX9_shared_24 : decode cX9_shared 24 = .ok (.iload_n 2, 1) := by decide +kernel
theorem dX9_shared_25 : decode cX9_shared 25 = .ok (.ldc 142, 2) := by decide +kernel
theorem dX9_shared_27 : decode cX9_shared 27 = .ok (.iand, 1) := by decide +kernel
theorem dX9_shared_28 : decode cX9_shared 28 = .ok (.istore 6, 2) := by decide +kernel
theorem dX9_shared_30 : decode cX9_shared 30 = .ok (.iload_n 3, 1) := by decide +kernel
theorem dX9_shared_31 : decode cX9_shared 31 = .ok (.ifCond .ne 60, 3) := by decide +kernel
theorem dX9_shared_34 : decode cX9_shared 34 = .ok (.iload 4, 2) := by decide +kernel
theorem dX9_shared_36 : decode cX9_shared 36 = .ok (.ifCond .ne 55, 3) := by decide +kernel
theorem dX9_shared_39 : decode cX9_shared 39 = .ok (.aload_n 0, 1) := by decide +kernel
theorem dX9_shared_40 : decode cX9_shared 40 = .ok (.getfield 20, 3) := by decide +kernel
theorem dX9_shared_43 : decode cX9_shared 43 = .ok (.iload 5, 2) := by decide +kernel
theorem dX9_shared_45 : decode cX9_shared 45 = .ok (.baload, 1) := by decide +kernel
theorem dX9_shared_46 : decode cX9_shared 46 = .ok (.ifCond .ne 13, 3) := by decide +kernel
theorem dX9_shared_49 : decode cX9_shared 49 = .ok (.aload_n 0, 1) := by decide +kernel
theorem dX9_shared_50 : decode cX9_shared 50 = .ok (.getfield 20, 3) := by decide +kernel
theorem dX9_shared_53 : decode cX9_shared 53 = .ok (.iload 6, 2) := by decide +kernel
theorem dX9_shared_55 : decode cX9_shared 55 = .ok (.baload, 1) := by decide +kernel
theorem dX9_shared_56 : decode cX9_shared 56 = .ok (.ifCond .eq 5, 3) := by decide +kernel
theorem dX9_shared_59 : decode cX9_shared 59 = .ok (.iconst 0, 1) := by decide +kernel
theorem dX9_shared_60 : decode cX9_shared 60 = .ok (.ireturn, 1) := by decide +kernel
theorem dX9_shared_61 : decode cX9_shared 61 = .ok (.iload 5, 2) := by decide +kernel
theorem dX9_shared_63 : decode cX9_shared 63 = .ok (.istore 7, 2) := by decide +kernel
theorem dX9_shared_65 : decode cX9_shared 65 = .ok (.aload_n 0, 1) := by decide +kernel
theorem dX9_shared_66 : decode cX9_shared 66 = .ok (.iload 6, 2) := by decide +kernel
theorem dX9_shared_68 : decode cX9_shared 68 = .ok (.iload 7, 2) := by decide +kernel
theorem dX9_shared_70 : decode cX9_shared 70 = .ok (.invokevirtual 198, 3) := by decide +kernel
theorem dX9_shared_73 : decode cX9_shared 73 = .ok (.ifCond .ne 15, 3) := by decide +kernel
theorem dX9_shared_76 : decode cX9_shared 76 = .ok (.aload_n 0, 1) := by decide +kernel
theorem dX9_shared_77 : decode cX9_shared 77 = .ok (.getfield 16, 3) := by decide +kernel
theorem dX9_shared_80 : decode cX9_shared 80 = .ok (.iload 7, 2) := by decide +kernel
theorem dX9_shared_82 : decode cX9_shared 82 = .ok (.iaload, 1) := by decide +kernel
theorem dX9_shared_83 : decode cX9_shared 83 = .ok (.istore 7, 2) := by decide +kernel
theorem dX9_shared_85 : decode cX9_shared 85 = .ok (.goto (-20), 3) := by decide +kernel
theorem dX9_shared_88 : decode cX9_shared 88 = .ok (.iload 7, 2) := by decide +kernel
theorem dX9_shared_90 : decode cX9_shared 90 = .ok (.ireturn, 1) := by decide +kernel
theorem dX9_shared_91 : decode cX9_shared 91 = .ok (.iload_n 3, 1) := by decide +kernel
theorem dX9_shared_92 : decode cX9_shared 92 = .ok (.ifCond .eq 8, 3) := by decide +kernel
theorem dX9_shared_95 : decode cX9_shared 95 = .ok (.iload 4, 2) := by decide +kernel
theorem dX9_shared_97 : decode cX9_shared 97 = .ok (.ifCond .ne 5, 3) := by decide +kernel
theorem dX9_shared_100 : decode cX9_shared 100 = .ok (.iconst 0, 1) := by decide +kernel
theorem dX9_shared_101 : decode cX9_shared 101 = .ok (.ireturn, 1) := by decide +kernel
theorem dX9_shared_102 : decode cX9_shared 102 = .ok (.iload_n 3, 1) := by decide +kernel
theorem dX9_shared_103 : decode cX9_shared 103 = .ok (.iload 4, 2) := by decide +kernel
theorem dX9_shared_105 : decode cX9_shared 105 = .ok (.if_icmp .ne 31, 3) := by decide +kernel
theorem dX9_shared_108 : decode cX9_shared 108 = .ok (.iload 5, 2) := by decide +kernel
theorem dX9_shared_110 : decode cX9_shared 110 = .ok (.ldc 140, 2) := by decide +kernel
theorem dX9_shared_112 : decode cX9_shared 112 = .ok (.if_icmp .ge 24, 3) := by decide +kernel
theorem dX9_shared_115 : decode cX9_shared 115 = .ok (.iload 6, 2) := by decide +kernel
theorem dX9_shared_117 : decode cX9_shared 117 = .ok (.ldc 140, 2) := by decide +kernel
theorem dX9_shared_119 : decode cX9_shared 119 = .ok (.if_icmp .ge 17, 3) := by decide +kernel
theorem dX9_shared_122 : decode cX9_shared 122 = .ok (.aload_n 0, 1) := by decide +kernel
theorem dX9_shared_123 : decode cX9_shared 123 = .ok (.iload 5, 2) := by decide +kernel
theorem dX9_shared_125 : decode cX9_shared 125 = .ok (.iload 6, 2) := by decide +kernel
theorem dX9_shared_127 : decode cX9_shared 127 = .ok (.invokevirtual 205, 3) := by decide +kernel
theorem dX9_shared_130 : decode cX9_shared 130 = .ok (.ldc 141, 2) := by decide +kernel
theorem dX9_shared_132 : decode cX9_shared 132 = .ok (.iload_n 3, 1) := by decide +kernel
theorem dX9_shared_133 : decode cX9_shared 133 = .ok (.imul, 1) := by decide +kernel
theorem dX9_shared_134 : decode cX9_shared 134 = .ok (.iadd, 1) := by decide +kernel
theorem dX9_shared_135 : decode cX9_shared 135 = .ok (.ireturn, 1) := by decide +kernel
theorem dX9_shared_136 : decode cX9_shared 136 = .ok (.ldc 141, 2) := by decide +kernel
theorem dX9_shared_138 : decode cX9_shared 138 = .ok (.iload 5, 2) := by decide +kernel
theorem dX9_shared_140 : decode cX9_shared 140 = .ok (.ldc 140, 2) := by decide +kernel
theorem dX9_shared_142 : decode cX9_shared 142 = .ok (.if_icmp .lt 9, 3) := by decide +kernel
theorem dX9_shared_145 : decode cX9_shared 145 = .ok (.iload_n 3, 1) := by decide +kernel
theorem dX9_shared_146 : decode cX9_shared 146 = .ok (.iconst 1, 1) := by decide +kernel
theorem dX9_shared_147 : decode cX9_shared 147 = .ok (.isub, 1) := by decide +kernel
theorem dX9_shared_148 : decode cX9_shared 148 = .ok (.goto 4, 3) := by decide +kernel
theorem dX9_shared_151 : decode cX9_shared 151 = .ok (.iload_n 3, 1) := by decide +kernel
theorem dX9_shared_152 : decode cX9_shared 152 = .ok (.iload 6, 2) := by decide +kernel
theorem dX9_shared_154 : decode cX9_shared 154 = .ok (.ldc 140, 2) := by decide +kernel
theorem dX9_shared_156 : decode cX9_shared 156 = .ok (.if_icmp .lt 10, 3) := by decide +kernel
theorem dX9_shared_159 : decode cX9_shared 159 = .ok (.iload 4, 2) := by decide +kernel
theorem dX9_shared_161 : decode cX9_shared 161 = .ok (.iconst 1, 1) := by decide +kernel
theorem dX9_shared_162 : decode cX9_shared 162 = .ok (.isub, 1) := by decide +kernel
theorem dX9_shared_163 : decode cX9_shared 163 = .ok (.goto 5, 3) := by decide +kernel
theorem dX9_shared_166 : decode cX9_shared 166 = .ok (.iload 4, 2) := by decide +kernel
theorem dX9_shared_168 : decode cX9_shared 168 = .ok (.invokestatic 209, 3) := by decide +kernel
theorem dX9_shared_171 : decode cX9_shared 171 = .ok (.imul, 1) := by decide +kernel
theorem dX9_shared_172 : decode cX9_shared 172 = .ok (.ireturn, 1) := by decide +kernel
def ckX9_stands : List (List Cond) := [[.code yX9_stands cX9_stands 3 (some .boolean)], wsX9_stands_r1, wsX9_stands_r2, wsX90]
theorem ckX9_standsl : wsX9_stands = ckX9_stands.flatten := by
  simp only [wsX9_stands, ckX9_stands, List.flatten_cons, List.flatten_nil, List.append_assoc, List.append_nil, List.cons_append, List.nil_append]
set_option maxRecDepth 20000 in
theorem ggX9_stands_X9_isType : GoodIn wsX9_stands wsX9_isType := goodIn_t ckX9_stands ckX9_standsl _ [(1, 5), (1, 6), (1, 7), (1, 8), (1, 9), (1, 10), (1, 4), (1, 11), (1, 12), (3, 0), (3, 1), (3, 2), (3, 3), (3, 4), (3, 5), (3, 6), (3, 7), (3, 8), (3, 9), (3, 10), (3, 11), (3, 12), (3, 13), (3, 14), (3, 15), (3, 16), (3, 17), (3, 18), (3, 19), (3, 20), (3, 21), (3, 22), (3, 23), (3, 24), (3, 25), (3, 26), (3, 27), (3, 28), (3, 29), (3, 30), (3, 31), (3, 32), (3, 33), (3, 34), (3, 35), (3, 36), (3, 37), (3, 38), (3, 39), (3, 40), (3, 41), (3, 42), (3, 43), (3, 44), (3, 45), (3, 46), (3, 47), (3, 48), (3, 49), (3, 50), (3, 51), (3, 52), (3, 53), (3, 54), (3, 55), (3, 56), (3, 57), (3, 58), (3, 59), (3, 60), (3, 61)] rfl (by decide +kernel)
set_option maxRecDepth 20000 in
theorem gX9_stands_X9_isType : GoodIn wsX9_stands (wsV RX9 155 RX9 yX9_isType wsX9_isType) := goodIn_app (goodIn_of _ (by decide +kernel)) ggX9_stands_X9_isType
set_option maxRecDepth 20000 in
theorem ggX9_stands_X9_may : GoodIn wsX9_stands wsX9_may := goodIn_t ckX9_stands ckX9_standsl _ [(1, 16), (1, 17), (1, 6), (1, 7), (1, 18), (1, 19), (1, 20), (1, 4), (1, 21), (1, 22), (1, 23), (2, 0), (2, 1), (2, 2), (2, 3), (1, 13), (1, 14), (1, 15), (3, 0), (3, 1), (3, 2), (3, 3), (3, 4), (3, 5), (3, 6), (3, 7), (3, 8), (3, 9), (3, 10), (3, 11), (3, 12), (3, 13), (3, 14), (3, 15), (3, 16), (3, 17), (3, 18), (3, 19), (3, 20), (3, 21), (3, 22), (3, 23), (3, 24), (3, 25), (3, 26), (3, 27), (3, 28), (3, 29), (3, 30), (3, 31), (3, 32), (3, 33), (3, 34), (3, 35), (3, 36), (3, 37), (3, 38), (3, 39), (3, 40), (3, 41), (3, 42), (3, 43), (3, 44), (3, 45), (3, 46), (3, 47), (3, 48), (3, 49), (3, 50), (3, 51), (3, 52), (3, 53), (3, 54), (3, 55), (3, 56), (3, 57), (3, 58), (3, 59), (3, 60), (3, 61)] rfl (by decide +kernel)
set_option maxRecDepth 20000 in
theorem gX9_stands_X9_may : GoodIn wsX9_stands (wsV RX9 202 RX9 yX9_may wsX9_may) := goodIn_app (goodIn_of _ (by decide +kernel)) ggX9_stands_X9_may
theorem dX9_stands_0 : decode cX9_stands 0 = .ok (.aload_n 0, 1) := by decide +kernel
theorem dX9_stands_1 : decode cX9_stands 1 = .ok (.iconst 0, 1) := by decide +kernel
theorem dX9_stands_2 : decode cX9_stands 2 = .ok (.putfield 1, 3) := by decide +kernel
theorem dX9_stands_5 : decode cX9_stands 5 = .ok (.aload_n 0, 1) := by decide +kernel
theorem dX9_stands_6 : decode cX9_stands 6 = .ok (.iload_n 1, 1) := by decide +kernel
theorem dX9_stands_7 : decode cX9_stands 7 = .ok (.invokevirtual 155, 3) := by decide +kernel
theorem dX9_stands_10 : decode cX9_stands 10 = .ok (.ifCond .eq 11, 3) := by decide +kernel
theorem dX9_stands_13 : decode cX9_stands 13 = .ok (.aload_n 0, 1) := by decide +kernel
theorem dX9_stands_14 : decode cX9_stands 14 = .ok (.iload_n 2, 1) := by decide +kernel
theorem dX9_stands_15 : decode cX9_stands 15 = .ok (.invokevirtual 155, 3) := by decide +kernel
theorem dX9_stands_18 : decode cX9_stands 18 = .ok (.ifCond .ne 10, 3) := by decide +kernel
theorem dX9_stands_21 : decode cX9_stands 21 = .ok (.aload_n 0, 1) := by decide +kernel
theorem dX9_stands_22 : decode cX9_stands 22 = .ok (.iconst 1, 1) := by decide +kernel
theorem dX9_stands_23 : decode cX9_stands 23 = .ok (.putfield 1, 3) := by decide +kernel
theorem dX9_stands_26 : decode cX9_stands 26 = .ok (.iconst 0, 1) := by decide +kernel
theorem dX9_stands_27 : decode cX9_stands 27 = .ok (.ireturn, 1) := by decide +kernel
theorem dX9_stands_28 : decode cX9_stands 28 = .ok (.aload_n 0, 1) := by decide +kernel
theorem dX9_stands_29 : decode cX9_stands 29 = .ok (.iload_n 1, 1) := by decide +kernel
theorem dX9_stands_30 : decode cX9_stands 30 = .ok (.iload_n 2, 1) := by decide +kernel
theorem dX9_stands_31 : decode cX9_stands 31 = .ok (.invokevirtual 202, 3) := by decide +kernel
theorem dX9_stands_34 : decode cX9_stands 34 = .ok (.ireturn, 1) := by decide +kernel
def ckX9_common : List (List Cond) := [[.code yX9_common cX9_common 3 (some .int)], wsX9_common_r1, wsX9_common_r2, wsX90]
theorem ckX9_commonl : wsX9_common = ckX9_common.flatten := by
  simp only [wsX9_common, ckX9_common, List.flatten_cons, List.flatten_nil, List.append_assoc, List.append_nil, List.cons_append, List.nil_append]
set_option maxRecDepth 20000 in
theorem ggX9_common_X9_isType : GoodIn wsX9_common wsX9_isType := goodIn_t ckX9_common ckX9_commonl _ [(1, 5), (1, 6), (1, 7), (1, 8), (1, 9), (1, 10), (1, 4), (1, 11), (1, 12), (3, 0), (3, 1), (3, 2), (3, 3), (3, 4), (3, 5), (3, 6), (3, 7), (3, 8), (3, 9), (3, 10), (3, 11), (3, 12), (3, 13), (3, 14), (3, 15), (3, 16), (3, 17), (3, 18), (3, 19), (3, 20), (3, 21), (3, 22), (3, 23), (3, 24), (3, 25), (3, 26), (3, 27), (3, 28), (3, 29), (3, 30), (3, 31), (3, 32), (3, 33), (3, 34), (3, 35), (3, 36), (3, 37), (3, 38), (3, 39), (3, 40), (3, 41), (3, 42), (3, 43), (3, 44), (3, 45), (3, 46), (3, 47), (3, 48), (3, 49), (3, 50), (3, 51), (3, 52), (3, 53), (3, 54), (3, 55), (3, 56), (3, 57), (3, 58), (3, 59), (3, 60), (3, 61)] rfl (by decide +kernel)
set_option maxRecDepth 20000 in
theorem gX9_common_X9_isType : GoodIn wsX9_common (wsV RX9 155 RX9 yX9_isType wsX9_isType) := goodIn_app (goodIn_of _ (by decide +kernel)) ggX9_common_X9_isType
set_option maxRecDepth 20000 in
theorem ggX9_common_X9_isPrimitive : GoodIn wsX9_common wsX9_isPrimitive := goodIn_r _ [17, 8, 18] rfl (by decide +kernel)
set_option maxRecDepth 20000 in
theorem gX9_common_X9_isPrimitive : GoodIn wsX9_common (wsV RX9 195 RX9 yX9_isPrimitive wsX9_isPrimitive) := goodIn_app (goodIn_of _ (by decide +kernel)) ggX9_common_X9_isPrimitive
set_option maxRecDepth 20000 in
theorem ggX9_common_X9_bad : GoodIn wsX9_common wsX9_bad := goodIn_t ckX9_common ckX9_commonl _ [(1, 21), (1, 0), (3, 0), (3, 1), (3, 2), (3, 3), (3, 4), (3, 5), (3, 6), (3, 7), (3, 8), (3, 9), (3, 10), (3, 11), (3, 12), (3, 13), (3, 14), (3, 15), (3, 16), (3, 17), (3, 18), (3, 19), (3, 20), (3, 21), (3, 22), (3, 23), (3, 24), (3, 25), (3, 26), (3, 27), (3, 28), (3, 29), (3, 30), (3, 31), (3, 32), (3, 33), (3, 34), (3, 35), (3, 36), (3, 37), (3, 38), (3, 39), (3, 40), (3, 41), (3, 42), (3, 43), (3, 44), (3, 45), (3, 46), (3, 47), (3, 48), (3, 49), (3, 50), (3, 51), (3, 52), (3, 53), (3, 54), (3, 55), (3, 56), (3, 57), (3, 58), (3, 59), (3, 60), (3, 61)] rfl (by decide +kernel)
set_option maxRecDepth 20000 in
theorem gX9_common_X9_bad : GoodIn wsX9_common (wsV RX9 148 RX9 yX9_bad wsX9_bad) := goodIn_app (goodIn_of _ (by decide +kernel)) ggX9_common_X9_bad
set_option maxRecDepth 20000 in
theorem ggX9_common_X9_shared : GoodIn wsX9_common wsX9_shared := goodIn_t ckX9_common ckX9_commonl _ [(2, 1), (1, 6), (2, 2), (2, 3), (1, 7), (1, 17), (2, 4), (2, 5), (2, 6), (2, 7), (2, 8), (2, 9), (2, 10), (1, 4), (2, 11), (1, 22), (1, 23), (2, 0), (3, 0), (3, 1), (3, 2), (3, 3), (3, 4), (3, 5), (3, 6), (3, 7), (3, 8), (3, 9), (3, 10), (3, 11), (3, 12), (3, 13), (3, 14), (3, 15), (3, 16), (3, 17), (3, 18), (3, 19), (3, 20), (3, 21), (3, 22), (3, 23), (3, 24), (3, 25), (3, 26), (3, 27), (3, 28), (3, 29), (3, 30), (3, 31), (3, 32), (3, 33), (3, 34), (3, 35), (3, 36), (3, 37), (3, 38), (3, 39), (3, 40), (3, 41), (3, 42), (3, 43), (3, 44), (3, 45), (3, 46), (3, 47), (3, 48), (3, 49), (3, 50), (3, 51), (3, 52), (3, 53), (3, 54), (3, 55), (3, 56), (3, 57), (3, 58), (3, 59), (3, 60), (3, 61)] rfl (by decide +kernel)
set_option maxRecDepth 20000 in
theorem gX9_common_X9_shared : GoodIn wsX9_common (wsV RX9 205 RX9 yX9_shared wsX9_shared) := goodIn_app (goodIn_of _ (by decide +kernel)) ggX9_common_X9_shared
theorem dX9_common_0 : decode cX9_common 0 = .ok (.aload_n 0, 1) := by decide +kernel
theorem dX9_common_1 : decode cX9_common 1 = .ok (.iconst 0, 1) := by decide +kernel
theorem dX9_common_2 : decode cX9_common 2 = .ok (.putfield 1, 3) := by decide +kernel
theorem dX9_common_5 : decode cX9_common 5 = .ok (.aload_n 0, 1) := by decide +kernel
theorem dX9_common_6 : decode cX9_common 6 = .ok (.iload_n 1, 1) := by decide +kernel
theorem dX9_common_7 : decode cX9_common 7 = .ok (.invokevirtual 155, 3) := by decide +kernel
theorem dX9_common_10 : decode cX9_common 10 = .ok (.ifCond .eq 27, 3) := by decide +kernel
theorem dX9_common_13 : decode cX9_common 13 = .ok (.aload_n 0, 1) := by decide +kernel
theorem dX9_common_14 : decode cX9_common 14 = .ok (.iload_n 2, 1) := by decide +kernel
theorem dX9_common_15 : decode cX9_common 15 = .ok (.invokevirtual 155, 3) := by decide +kernel
theorem dX9_common_18 : decode cX9_common 18 = .ok (.ifCond .eq 19, 3) := by decide +kernel
theorem dX9_common_21 : decode cX9_common 21 = .ok (.aload_n 0, 1) := by decide +kernel
theorem dX9_common_22 : decode cX9_common 22 = .ok (.iload_n 1, 1) := by decide +kernel
theorem dX9_common_23 : decode cX9_common 23 = .ok (.invokevirtual 195, 3) := by decide +kernel
theorem dX9_common_26 : decode cX9_common 26 = .ok (.ifCond .ne 11, 3) := by decide +kernel
theorem dX9_common_29 : decode cX9_common 29 = .ok (.aload_n 0, 1) := by decide +kernel
theorem dX9_common_30 : decode cX9_common 30 = .ok (.iload_n 2, 1) := by decide +kernel
theorem dX9_common_31 : decode cX9_common 31 = .ok (.invokevirtual 195, 3) := by decide +kernel
theorem dX9_common_34 : decode cX9_common 34 = .ok (.ifCond .eq 8, 3) := by decide +kernel
theorem dX9_common_37 : decode cX9_common 37 = .ok (.aload_n 0, 1) := by decide +kernel
theorem dX9_common_38 : decode cX9_common 38 = .ok (.invokevirtual 148, 3) := by decide +kernel
theorem dX9_common_41 : decode cX9_common 41 = .ok (.ireturn, 1) := by decide +kernel
theorem dX9_common_42 : decode cX9_common 42 = .ok (.aload_n 0, 1) := by decide +kernel
theorem dX9_common_43 : decode cX9_common 43 = .ok (.iload_n 1, 1) := by decide +kernel
theorem dX9_common_44 : decode cX9_common 44 = .ok (.iload_n 2, 1) := by decide +kernel
theorem dX9_common_45 : decode cX9_common 45 = .ok (.invokevirtual 205, 3) := by decide +kernel
theorem dX9_common_48 : decode cX9_common 48 = .ok (.ireturn, 1) := by decide +kernel
theorem dX9_kindOf_0 : decode cX9_kindOf 0 = .ok (.iload_n 0, 1) := by decide +kernel
theorem dX9_kindOf_1 : decode cX9_kindOf 1 = .ok (.ldc 140, 2) := by decide +kernel
theorem dX9_kindOf_3 : decode cX9_kindOf 3 = .ok (.if_icmp .lt 9, 3) := by decide +kernel
theorem dX9_kindOf_6 : decode cX9_kindOf 6 = .ok (.iload_n 0, 1) := by decide +kernel
theorem dX9_kindOf_7 : decode cX9_kindOf 7 = .ok (.ldc 142, 2) := by decide +kernel
theorem dX9_kindOf_9 : decode cX9_kindOf 9 = .ok (.if_icmp .le 11, 3) := by decide +kernel
theorem dX9_kindOf_12 : decode cX9_kindOf 12 = .ok (.bipush 16, 2) := by decide +kernel
theorem dX9_kindOf_14 : decode cX9_kindOf 14 = .ok (.iload_n 0, 1) := by decide +kernel
theorem dX9_kindOf_15 : decode cX9_kindOf 15 = .ok (.imul, 1) := by decide +kernel
theorem dX9_kindOf_16 : decode cX9_kindOf 16 = .ok (.bipush 8, 2) := by decide +kernel
theorem dX9_kindOf_18 : decode cX9_kindOf 18 = .ok (.iadd, 1) := by decide +kernel
theorem dX9_kindOf_19 : decode cX9_kindOf 19 = .ok (.ireturn, 1) := by decide +kernel
theorem dX9_kindOf_20 : decode cX9_kindOf 20 = .ok (.iload_n 0, 1) := by decide +kernel
theorem dX9_kindOf_21 : decode cX9_kindOf 21 = .ok (.ldc 214, 2) := by decide +kernel
theorem dX9_kindOf_23 : decode cX9_kindOf 23 = .ok (.if_icmp .ne 7, 3) := by decide +kernel
theorem dX9_kindOf_26 : decode cX9_kindOf 26 = .ok (.iconst 2, 1) := by decide +kernel
theorem dX9_kindOf_27 : decode cX9_kindOf 27 = .ok (.goto 24, 3) := by decide +kernel
theorem dX9_kindOf_30 : decode cX9_kindOf 30 = .ok (.iload_n 0, 1) := by decide +kernel
theorem dX9_kindOf_31 : decode cX9_kindOf 31 = .ok (.ldc 147, 2) := by decide +kernel
theorem dX9_kindOf_33 : decode cX9_kindOf 33 = .ok (.if_icmp .ne 7, 3) := by decide +kernel
theorem dX9_kindOf_36 : decode cX9_kindOf 36 = .ok (.iconst 4, 1) := by decide +kernel
theorem dX9_kindOf_37 : decode cX9_kindOf 37 = .ok (.goto 14, 3) := by decide +kernel
theorem dX9_kindOf_40 : decode cX9_kindOf 40 = .ok (.iload_n 0, 1) := by decide +kernel
theorem dX9_kindOf_41 : decode cX9_kindOf 41 = .ok (.ldc 142, 2) := by decide +kernel
theorem dX9_kindOf_43 : decode cX9_kindOf 43 = .ok (.if_icmp .ne 7, 3) := by decide +kernel
theorem dX9_kindOf_46 : decode cX9_kindOf 46 = .ok (.iconst 3, 1) := by decide +kernel
theorem dX9_kindOf_47 : decode cX9_kindOf 47 = .ok (.goto 4, 3) := by decide +kernel
theorem dX9_kindOf_50 : decode cX9_kindOf 50 = .ok (.iconst 1, 1) := by decide +kernel
theorem dX9_kindOf_51 : decode cX9_kindOf 51 = .ok (.ireturn, 1) := by decide +kernel
theorem dX9_isRef_0 : decode cX9_isRef 0 = .ok (.iload_n 0, 1) := by decide +kernel
theorem dX9_isRef_1 : decode cX9_isRef 1 = .ok (.iconst 5, 1) := by decide +kernel
theorem dX9_isRef_2 : decode cX9_isRef 2 = .ok (.if_icmp .eq 27, 3) := by decide +kernel
theorem dX9_isRef_5 : decode cX9_isRef 5 = .ok (.iload_n 0, 1) := by decide +kernel
theorem dX9_isRef_6 : decode cX9_isRef 6 = .ok (.bipush 6, 2) := by decide +kernel
theorem dX9_isRef_8 : decode cX9_isRef 8 = .ok (.if_icmp .eq 21, 3) := by decide +kernel
theorem dX9_isRef_11 : decode cX9_isRef 11 = .ok (.iload_n 0, 1) := by decide +kernel
theorem dX9_isRef_12 : decode cX9_isRef 12 = .ok (.bipush 15, 2) := by decide +kernel
theorem dX9_isRef_14 : decode cX9_isRef 14 = .ok (.iand, 1) := by decide +kernel
theorem dX9_isRef_15 : decode cX9_isRef 15 = .ok (.bipush 8, 2) := by decide +kernel
theorem dX9_isRef_17 : decode cX9_isRef 17 = .ok (.if_icmp .eq 12, 3) := by decide +kernel
theorem dX9_isRef_20 : decode cX9_isRef 20 = .ok (.iload_n 0, 1) := by decide +kernel
theorem dX9_isRef_21 : decode cX9_isRef 21 = .ok (.bipush 15, 2) := by decide +kernel
theorem dX9_isRef_23 : decode cX9_isRef 23 = .ok (.iand, 1) := by decide +kernel
theorem dX9_isRef_24 : decode cX9_isRef 24 = .ok (.bipush 9, 2) := by decide +kernel
theorem dX9_isRef_26 : decode cX9_isRef 26 = .ok (.if_icmp .ne 7, 3) := by decide +kernel
theorem dX9_isRef_29 : decode cX9_isRef 29 = .ok (.iconst 1, 1) := by decide +kernel
theorem dX9_isRef_30 : decode cX9_isRef 30 = .ok (.goto 4, 3) := by decide +kernel
theorem dX9_isRef_33 : decode cX9_isRef 33 = .ok (.iconst 0, 1) := by decide +kernel
theorem dX9_isRef_34 : decode cX9_isRef 34 = .ok (.ireturn, 1) := by decide +kernel
theorem dX9_push_0 : decode cX9_push 0 = .ok (.iload_n 1, 1) := by decide +kernel
theorem dX9_push_1 : decode cX9_push 1 = .ok (.iconst 3, 1) := by decide +kernel
theorem dX9_push_2 : decode cX9_push 2 = .ok (.if_icmp .eq 8, 3) := by decide +kernel
theorem dX9_push_5 : decode cX9_push 5 = .ok (.iload_n 1, 1) := by decide +kernel
theorem dX9_push_6 : decode cX9_push 6 = .ok (.iconst 4, 1) := by decide +kernel
theorem dX9_push_7 : decode cX9_push 7 = .ok (.if_icmp .ne 7, 3) := by decide +kernel
theorem dX9_push_10 : decode cX9_push 10 = .ok (.iconst 2, 1) := by decide +kernel
theorem dX9_push_11 : decode cX9_push 11 = .ok (.goto 4, 3) := by decide +kernel
theorem dX9_push_14 : decode cX9_push 14 = .ok (.iconst 1, 1) := by decide +kernel
theorem dX9_push_15 : decode cX9_push 15 = .ok (.istore_n 2, 1) := by decide +kernel
theorem dX9_push_16 : decode cX9_push 16 = .ok (.aload_n 0, 1) := by decide +kernel
theorem dX9_push_17 : decode cX9_push 17 = .ok (.getfield 215, 3) := by decide +kernel
theorem dX9_push_20 : decode cX9_push 20 = .ok (.iload_n 2, 1) := by decide +kernel
theorem dX9_push_21 : decode cX9_push 21 = .ok (.iadd, 1) := by decide +kernel
theorem dX9_push_22 : decode cX9_push 22 = .ok (.aload_n 0, 1) := by decide +kernel
theorem dX9_push_23 : decode cX9_push 23 = .ok (.getfield 173, 3) := by decide +kernel
theorem dX9_push_26 : decode cX9_push 26 = .ok (.if_icmp .le 5, 3) := by decide +kernel
theorem dX9_push_29 : decode cX9_push 29 = .ok (.iconst 0, 1) := by decide +kernel
theorem dX9_push_30 : decode cX9_push 30 = .ok (.ireturn, 1) := by decide +kernel
theorem dX9_push_31 : decode cX9_push 31 = .ok (.aload_n 0, 1) := by decide +kernel
theorem dX9_push_32 : decode cX9_push 32 = .ok (.getfield 85, 3) := by decide +kernel
theorem dX9_push_35 : decode cX9_push 35 = .ok (.aload_n 0, 1) := by decide +kernel
theorem dX9_push_36 : decode cX9_push 36 = .ok (.dup, 1) := by decide +kernel
theorem dX9_push_37 : decode cX9_push 37 = .ok (.getfield 215, 3) := by decide +kernel
theorem dX9_push_40 : decode cX9_push 40 = .ok (.dup_x1, 1) := by decide +kernel
theorem dX9_push_41 : decode cX9_push 41 = .ok (.iconst 1, 1) := by decide +kernel
theorem dX9_push_42 : decode cX9_push 42 = .ok (.iadd, 1) := by decide +kernel
theorem dX9_push_43 : decode cX9_push 43 = .ok (.putfield 215, 3) := by decide +kernel
theorem dX9_push_46 : decode cX9_push 46 = .ok (.iload_n 1, 1) := by decide +kernel
theorem dX9_push_47 : decode cX9_push 47 = .ok (.iastore, 1) := by decide +kernel
theorem dX9_push_48 : decode cX9_push 48 = .ok (.iload_n 2, 1) := by decide +kernel
theorem dX9_push_49 : decode cX9_push 49 = .ok (.iconst 2, 1) := by decide +kernel
theorem dX9_push_50 : decode cX9_push 50 = .ok (.if_icmp .ne 21, 3) := by decide +kernel
theorem dX9_push_53 : decode cX9_push 53 = .ok (.aload_n 0, 1) := by decide +kernel
theorem dX9_push_54 : decode cX9_push 54 = .ok (.getfield 85, 3) := by decide +kernel
theorem dX9_push_57 : decode cX9_push 57 = .ok (.aload_n 0, 1) := by decide +kernel
theorem dX9_push_58 : decode cX9_push 58 = .ok (.dup, 1) := by decide +kernel
theorem dX9_push_59 : decode cX9_push 59 = .ok (.getfield 215, 3) := by decide +kernel
theorem dX9_push_62 : decode cX9_push 62 = .ok (.dup_x1, 1) := by decide +kernel
theorem dX9_push_63 : decode cX9_push 63 = .ok (.iconst 1, 1) := by decide +kernel
theorem dX9_push_64 : decode cX9_push 64 = .ok (.iadd, 1) := by decide +kernel
theorem dX9_push_65 : decode cX9_push 65 = .ok (.putfield 215, 3) := by decide +kernel
theorem dX9_push_68 : decode cX9_push 68 = .ok (.bipush 7, 2) := by decide +kernel
theorem dX9_push_70 : decode cX9_push 70 = .ok (.iastore, 1) := by decide +kernel
theorem dX9_push_71 : decode cX9_push 71 = .ok (.iconst 1, 1) := by decide +kernel
theorem dX9_push_72 : decode cX9_push 72 = .ok (.ireturn, 1) := by decide +kernel
theorem dX9_pop_0 : decode cX9_pop 0 = .ok (.iload_n 1, 1) := by decide +kernel
theorem dX9_pop_1 : decode cX9_pop 1 = .ok (.iconst 3, 1) := by decide +kernel
theorem dX9_pop_2 : decode cX9_pop 2 = .ok (.if_icmp .eq 8, 3) := by decide +kernel
theorem dX9_pop_5 : decode cX9_pop 5 = .ok (.iload_n 1, 1) := by decide +kernel
theorem dX9_pop_6 : decode cX9_pop 6 = .ok (.iconst 4, 1) := by decide +kernel
theorem dX9_pop_7 : decode cX9_pop 7 = .ok (.if_icmp .ne 7, 3) := by decide +kernel
theorem dX9_pop_10 : decode cX9_pop 10 = .ok (.iconst 2, 1) := by decide +kernel
theorem dX9_pop_11 : decode cX9_pop 11 = .ok (.goto 4, 3) := by decide +kernel
theorem dX9_pop_14 : decode cX9_pop 14 = .ok (.iconst 1, 1) := by decide +kernel
theorem dX9_pop_15 : decode cX9_pop 15 = .ok (.istore_n 2, 1) := by decide +kernel
theorem dX9_pop_16 : decode cX9_pop 16 = .ok (.aload_n 0, 1) := by decide +kernel
theorem dX9_pop_17 : decode cX9_pop 17 = .ok (.getfield 215, 3) := by decide +kernel
theorem dX9_pop_20 : decode cX9_pop 20 = .ok (.iload_n 2, 1) := by decide +kernel
theorem dX9_pop_21 : decode cX9_pop 21 = .ok (.if_icmp .lt 39, 3) := by decide +kernel
theorem dX9_pop_24 : decode cX9_pop 24 = .ok (.aload_n 0, 1) := by decide +kernel
theorem dX9_pop_25 : decode cX9_pop 25 = .ok (.getfield 85, 3) := by decide +kernel
theorem dX9_pop_28 : decode cX9_pop 28 = .ok (.aload_n 0, 1) := by decide +kernel
theorem dX9_pop_29 : decode cX9_pop 29 = .ok (.getfield 215, 3) := by decide +kernel
theorem dX9_pop_32 : decode cX9_pop 32 = .ok (.iload_n 2, 1) := by decide +kernel
theorem dX9_pop_33 : decode cX9_pop 33 = .ok (.isub, 1) := by decide +kernel
theorem dX9_pop_34 : decode cX9_pop 34 = .ok (.iaload, 1) := by decide +kernel
theorem dX9_pop_35 : decode cX9_pop 35 = .ok (.iload_n 1, 1) := by decide +kernel
theorem dX9_pop_36 : decode cX9_pop 36 = .ok (.if_icmp .ne 24, 3) := by decide +kernel
theorem dX9_pop_39 : decode cX9_pop 39 = .ok (.iload_n 2, 1) := by decide +kernel
theorem dX9_pop_40 : decode cX9_pop 40 = .ok (.iconst 2, 1) := by decide +kernel
theorem dX9_pop_41 : decode cX9_pop 41 = .ok (.if_icmp .ne 21, 3) := by decide +kernel
theorem dX9_pop_44 : decode cX9_pop 44 = .ok (.aload_n 0, 1) := by decide +kernel
theorem dX9_pop_45 : decode cX9_pop 45 = .ok (.getfield 85, 3) := by decide +kernel
theorem dX9_pop_48 : decode cX9_pop 48 = .ok (.aload_n 0, 1) := by decide +kernel
theorem dX9_pop_49 : decode cX9_pop 49 = .ok (.getfield 215, 3) := by decide +kernel
theorem dX9_pop_52 : decode cX9_pop 52 = .ok (.iconst 1, 1) := by decide +kernel
theorem dX9_pop_53 : decode cX9_pop 53 = .ok (.isub, 1) := by decide +kernel
theorem dX9_pop_54 : decode cX9_pop 54 = .ok (.iaload, 1) := by decide +kernel
theorem dX9_pop_55 : decode cX9_pop 55 = .ok (.bipush 7, 2) := by decide +kernel
theorem dX9_pop_57 : decode cX9_pop 57 = .ok (.if_icmp .eq 5, 3) := by decide +kernel
theorem dX9_pop_60 : decode cX9_pop 60 = .ok (.iconst 0, 1) := by decide +kernel
theorem dX9_pop_61 : decode cX9_pop 61 = .ok (.ireturn, 1) := by decide +kernel
theorem dX9_pop_62 : decode cX9_pop 62 = .ok (.aload_n 0, 1) := by decide +kernel
theorem dX9_pop_63 : decode cX9_pop 63 = .ok (.dup, 1) := by decide +kernel
theorem dX9_pop_64 : decode cX9_pop 64 = .ok (.getfield 215, 3) := by decide +kernel
theorem dX9_pop_67 : decode cX9_pop 67 = .ok (.iload_n 2, 1) := by decide +kernel
theorem dX9_pop_68 : decode cX9_pop 68 = .ok (.isub, 1) := by decide +kernel
theorem dX9_pop_69 : decode cX9_pop 69 = .ok (.putfield 215, 3) := by decide +kernel
theorem dX9_pop_72 : decode cX9_pop 72 = .ok (.iconst 1, 1) := by decide +kernel
theorem dX9_pop_73 : decode cX9_pop 73 = .ok (.ireturn, 1) := by decide +kernel
set_option maxRecDepth 20000 in
theorem ggX9_popRef_X9_isRef : GoodIn wsX9_popRef wsX9_isRef := goodIn_r _ [6] rfl (by decide +kernel)
set_option maxRecDepth 20000 in
theorem gX9_popRef_X9_isRef : GoodIn wsX9_popRef (va_wsS RX9 218 yX9_isRef wsX9_isRef) := goodIn_app (goodIn_of _ (by decide +kernel)) ggX9_popRef_X9_isRef
theorem dX9_popRef_0 : decode cX9_popRef 0 = .ok (.aload_n 0, 1) := by decide +kernel
theorem dX9_popRef_1 : decode cX9_popRef 1 = .ok (.getfield 215, 3) := by decide +kernel
theorem dX9_popRef_4 : decode cX9_popRef 4 = .ok (.ifCond .eq 20, 3) := by decide +kernel
theorem dX9_popRef_7 : decode cX9_popRef 7 = .ok (.aload_n 0, 1) := by decide +kernel
theorem dX9_popRef_8 : decode cX9_popRef 8 = .ok (.getfield 85, 3) := by decide +kernel
theorem dX9_popRef_11 : decode cX9_popRef 11 = .ok (.aload_n 0, 1) := by decide +kernel
theorem dX9_popRef_12 : decode cX9_popRef 12 = .ok (.getfield 215, 3) := by decide +kernel
theorem dX9_popRef_15 : decode cX9_popRef 15 = .ok (.iconst 1, 1) := by decide +kernel
theorem dX9_popRef_16 : decode cX9_popRef 16 = .ok (.isub, 1) := by decide +kernel
theorem dX9_popRef_17 : decode cX9_popRef 17 = .ok (.iaload, 1) := by decide +kernel
theorem dX9_popRef_18 : decode cX9_popRef 18 = .ok (.invokestatic 218, 3) := by decide +kernel
theorem dX9_popRef_21 : decode cX9_popRef 21 = .ok (.ifCond .ne 5, 3) := by decide +kernel
theorem dX9_popRef_24 : decode cX9_popRef 24 = .ok (.iconst 0, 1) := by decide +kernel
theorem dX9_popRef_25 : decode cX9_popRef 25 = .ok (.ireturn, 1) := by decide +kernel
theorem dX9_popRef_26 : decode cX9_popRef 26 = .ok (.aload_n 0, 1) := by decide +kernel
theorem dX9_popRef_27 : decode cX9_popRef 27 = .ok (.dup, 1) := by decide +kernel
theorem dX9_popRef_28 : decode cX9_popRef 28 = .ok (.getfield 215, 3) := by decide +kernel
theorem dX9_popRef_31 : decode cX9_popRef 31 = .ok (.iconst 1, 1) := by decide +kernel
theorem dX9_popRef_32 : decode cX9_popRef 32 = .ok (.isub, 1) := by decide +kernel
theorem dX9_popRef_33 : decode cX9_popRef 33 = .ok (.putfield 215, 3) := by decide +kernel
theorem dX9_popRef_36 : decode cX9_popRef 36 = .ok (.iconst 1, 1) := by decide +kernel
theorem dX9_popRef_37 : decode cX9_popRef 37 = .ok (.ireturn, 1) := by decide +kernel
set_option maxRecDepth 20000 in
theorem ggX9_popType_X9_isPrimitive : GoodIn wsX9_popType wsX9_isPrimitive := goodIn_r _ [7, 8, 9] rfl (by decide +kernel)
set_option maxRecDepth 20000 in
theorem gX9_popType_X9_isPrimitive : GoodIn wsX9_popType (wsV RX9 195 RX9 yX9_isPrimitive wsX9_isPrimitive) := goodIn_app (goodIn_of _ (by decide +kernel)) ggX9_popType_X9_isPrimitive
set_option maxRecDepth 20000 in
theorem ggX9_popType_X9_kindOf : GoodIn wsX9_popType wsX9_kindOf := goodIn_r _ [12, 8, 13, 14, 15] rfl (by decide +kernel)
set_option maxRecDepth 20000 in
theorem gX9_popType_X9_kindOf : GoodIn wsX9_popType (va_wsS RX9 221 yX9_kindOf wsX9_kindOf) := goodIn_app (goodIn_of _ (by decide +kernel)) ggX9_popType_X9_kindOf
def ckX9_popType : List (List Cond) := [[.code yX9_popType cX9_popType 4 (some .boolean)], wsX9_popType_r1, wsX9_popType_r2, wsX90]
theorem ckX9_popTypel : wsX9_popType = ckX9_popType.flatten := by
  simp only [wsX9_popType, ckX9_popType, List.flatten_cons, List.flatten_nil, List.append_assoc, List.append_nil, List.cons_append, List.nil_append]
set_option maxRecDepth 20000 in
theorem ggX9_popType_X9_pop : GoodIn wsX9_popType wsX9_pop := goodIn_t ckX9_popType ckX9_popTypel _ [(1, 18), (1, 0), (1, 1), (3, 0), (3, 1), (3, 2), (3, 3), (3, 4), (3, 5), (3, 6), (3, 7), (3, 8), (3, 9), (3, 10), (3, 11), (3, 12), (3, 13), (3, 14), (3, 15), (3, 16), (3, 17), (3, 18), (3, 19), (3, 20), (3, 21), (3, 22), (3, 23), (3, 24), (3, 25), (3, 26), (3, 27), (3, 28), (3, 29), (3, 30), (3, 31), (3, 32), (3, 33), (3, 34), (3, 35), (3, 36), (3, 37), (3, 38), (3, 39), (3, 40), (3, 41), (3, 42), (3, 43), (3, 44), (3, 45), (3, 46), (3, 47), (3, 48), (3, 49), (3, 50), (3, 51), (3, 52), (3, 53), (3, 54), (3, 55), (3, 56), (3, 57), (3, 58), (3, 59), (3, 60), (3, 61)] rfl (by decide +kernel)
set_option maxRecDepth 20000 in
theorem gX9_popType_X9_pop : GoodIn wsX9_popType (wsV RX9 225 RX9 yX9_pop wsX9_pop) := goodIn_app (goodIn_of _ (by decide +kernel)) ggX9_popType_X9_pop
set_option maxRecDepth 20000 in
theorem ggX9_popType_X9_may : GoodIn wsX9_popType wsX9_may := goodIn_t ckX9_popType ckX9_popTypel _ [(1, 22), (1, 23), (1, 12), (1, 7), (1, 2), (1, 3), (1, 4), (1, 5), (1, 6), (1, 8), (2, 0), (2, 1), (2, 2), (2, 3), (2, 4), (1, 19), (1, 20), (1, 21), (3, 0), (3, 1), (3, 2), (3, 3), (3, 4), (3, 5), (3, 6), (3, 7), (3, 8), (3, 9), (3, 10), (3, 11), (3, 12), (3, 13), (3, 14), (3, 15), (3, 16), (3, 17), (3, 18), (3, 19), (3, 20), (3, 21), (3, 22), (3, 23), (3, 24), (3, 25), (3, 26), (3, 27), (3, 28), (3, 29), (3, 30), (3, 31), (3, 32), (3, 33), (3, 34), (3, 35), (3, 36), (3, 37), (3, 38), (3, 39), (3, 40), (3, 41), (3, 42), (3, 43), (3, 44), (3, 45), (3, 46), (3, 47), (3, 48), (3, 49), (3, 50), (3, 51), (3, 52), (3, 53), (3, 54), (3, 55), (3, 56), (3, 57), (3, 58), (3, 59), (3, 60), (3, 61)] rfl (by decide +kernel)
set_option maxRecDepth 20000 in
theorem gX9_popType_X9_may : GoodIn wsX9_popType (wsV RX9 202 RX9 yX9_may wsX9_may) := goodIn_app (goodIn_of _ (by decide +kernel)) ggX9_popType_X9_may
theorem dX9_popType_0 : decode cX9_popType 0 = .ok (.aload_n 0, 1) := by decide +kernel
theorem dX9_popType_1 : decode cX9_popType 1 = .ok (.iload_n 1, 1) := by decide +kernel
theorem dX9_popType_2 : decode cX9_popType 2 = .ok (.invokevirtual 195, 3) := by decide +kernel
theorem dX9_popType_5 : decode cX9_popType 5 = .ok (.ifCond .eq 12, 3) := by decide +kernel
theorem dX9_popType_8 : decode cX9_popType 8 = .ok (.aload_n 0, 1) := by decide +kernel
theorem dX9_popType_9 : decode cX9_popType 9 = .ok (.iload_n 1, 1) := by decide +kernel
theorem dX9_popType_10 : decode cX9_popType 10 = .ok (.invokestatic 221, 3) := by decide +kernel
theorem dX9_popType_13 : decode cX9_popType 13 = .ok (.invokevirtual 225, 3) := by decide +kernel
theorem dX9_popType_16 : decode cX9_popType 16 = .ok (.ireturn, 1) := by decide +kernel
theorem dX9_popType_17 : decode cX9_popType 17 = .ok (.aload_n 0, 1) := by decide +kernel
theorem dX9_popType_18 : decode cX9_popType 18 = .ok (.getfield 215, 3) := by decide +kernel
theorem dX9_popType_21 : decode cX9_popType 21 = .ok (.ifCond .ne 5, 3) := by decide +kernel
theorem dX9_popType_24 : decode cX9_popType 24 = .ok (.iconst 0, 1) := by decide +kernel
theorem dX9_popType_25 : decode cX9_popType 25 = .ok (.ireturn, 1) := by decide +kernel
theorem dX9_popType_26 : decode cX9_popType 26 = .ok (.aload_n 0, 1) := by decide +kernel
theorem dX9_popType_27 : decode cX9_popType 27 = .ok (.getfield 85, 3) := by decide +kernel
theorem dX9_popType_30 : decode cX9_popType 30 = .ok (.aload_n 0, 1) := by decide +kernel
theorem dX9_popType_31 : decode cX9_popType 31 = .ok (.getfield 215, 3) := by decide +kernel
theorem dX9_popType_34 : decode cX9_popType 34 = .ok (.iconst 1, 1) := by decide +kernel
theorem dX9_popType_35 : decode cX9_popType 35 = .ok (.isub, 1) := by decide +kernel
theorem dX9_popType_36 : decode cX9_popType 36 = .ok (.iaload, 1) := by decide +kernel
theorem dX9_popType_37 : decode cX9_popType 37 = .ok (.istore_n 2, 1) := by decide +kernel
theorem dX9_popType_38 : decode cX9_popType 38 = .ok (.iload_n 2, 1) := by decide +kernel
theorem dX9_popType_39 : decode cX9_popType 39 = .ok (.iconst 5, 1) := by decide +kernel
theorem dX9_popType_40 : decode cX9_popType 40 = .ok (.if_icmp .eq 23, 3) := by decide +kernel
theorem dX9_popType_43 : decode cX9_popType 43 = .ok (.iload_n 2, 1) := by decide +kernel
theorem dX9_popType_44 : decode cX9_popType 44 = .ok (.bipush 15, 2) := by decide +kernel
theorem dX9_popType_46 : decode cX9_popType 46 = .ok (.iand, 1) := by decide +kernel
theorem dX9_popType_47 : decode cX9_popType 47 = .ok (.bipush 8, 2) := by decide +kernel
theorem dX9_popType_49 : decode cX9_popType 49 = .ok (.if_icmp .ne 18, 3) := by decide +kernel
theorem dX9_popType_52 : decode cX9_popType 52 = .ok (.aload_n 0, 1) := by decide +kernel
theorem dX9_popType_53 : decode cX9_popType 53 = .ok (.iload_n 2, 1) := by decide +kernel
theorem dX9_popType_54 : decode cX9_popType 54 = .ok (.iconst 4, 1) := by decide +kernel
theorem dX9_popType_55 : decode cX9_popType 55 = .ok (.ishr, 1) := by decide +kernel
theorem dX9_popType_56 : decode cX9_popType 56 = .ok (.iload_n 1, 1) := by decide +kernel
theorem dX9_popType_57 : decode cX9_popType 57 = .ok (.invokevirtual 202, 3) := by decide +kernel
theorem dX9_popType_60 : decode cX9_popType 60 = .ok (.ifCond .eq 7, 3) := by decide +kernel
theorem dX9_popType_63 : decode cX9_popType 63 = .ok (.iconst 1, 1) := by decide +kernel
theorem dX9_popType_64 : decode cX9_popType 64 = .ok (.goto 4, 3) := by decide +kernel
theorem dX9_popType_67 : decode cX9_popType 67 = .ok (.iconst 0, 1) := by decide +kernel
theorem dX9_popType_68 : decode cX9_popType 68 = .ok (.istore_n 3, 1) := by decide +kernel
theorem dX9_popType_69 : decode cX9_popType 69 = .ok (.iload_n 3, 1) := by decide +kernel
theorem dX9_popType_70 : decode cX9_popType 70 = .ok (.ifCond .eq 13, 3) := by decide +kernel
theorem dX9_popType_73 : decode cX9_popType 73 = .ok (.aload_n 0, 1) := by decide +kernel
theorem dX9_popType_74 : decode cX9_popType 74 = .ok (.dup, 1) := by decide +kernel
theorem dX9_popType_75 : decode cX9_popType 75 = .ok (.getfield 215, 3) := by decide +kernel
theorem dX9_popType_78 : decode cX9_popType 78 = .ok (.iconst 1, 1) := by decide +kernel
theorem dX9_popType_79 : decode cX9_popType 79 = .ok (.isub, 1) := by decide +kernel
theorem dX9_popType_80 : decode cX9_popType 80 = .ok (.putfield 215, 3) := by decide +kernel
theorem dX9_popType_83 : decode cX9_popType 83 = .ok (.iload_n 3, 1) := by decide +kernel
theorem dX9_popType_84 : decode cX9_popType 84 = .ok (.ireturn, 1) := by decide +kernel
theorem dX9_set_0 : decode cX9_set 0 = .ok (.aload_n 0, 1) := by decide +kernel
theorem dX9_set_1 : decode cX9_set 1 = .ok (.getfield 82, 3) := by decide +kernel
theorem dX9_set_4 : decode cX9_set 4 = .ok (.iload_n 1, 1) := by decide +kernel
theorem dX9_set_5 : decode cX9_set 5 = .ok (.iaload, 1) := by decide +kernel
theorem dX9_set_6 : decode cX9_set 6 = .ok (.bipush 7, 2) := by decide +kernel
theorem dX9_set_8 : decode cX9_set 8 = .ok (.if_icmp .ne 16, 3) := by decide +kernel
theorem dX9_set_11 : decode cX9_set 11 = .ok (.iload_n 1, 1) := by decide +kernel
theorem dX9_set_12 : decode cX9_set 12 = .ok (.ifCond .le 12, 3) := by decide +kernel
theorem dX9_set_15 : decode cX9_set 15 = .ok (.aload_n 0, 1) := by decide +kernel
theorem dX9_set_16 : decode cX9_set 16 = .ok (.getfield 82, 3) := by decide +kernel
theorem dX9_set_19 : decode cX9_set 19 = .ok (.iload_n 1, 1) := by decide +kernel
theorem dX9_set_20 : decode cX9_set 20 = .ok (.iconst 1, 1) := by decide +kernel
theorem dX9_set_21 : decode cX9_set 21 = .ok (.isub, 1) := by decide +kernel
theorem dX9_set_22 : decode cX9_set 22 = .ok (.iconst 0, 1) := by decide +kernel
theorem dX9_set_23 : decode cX9_set 23 = .ok (.iastore, 1) := by decide +kernel
theorem dX9_set_24 : decode cX9_set 24 = .ok (.aload_n 0, 1) := by decide +kernel
theorem dX9_set_25 : decode cX9_set 25 = .ok (.getfield 82, 3) := by decide +kernel
theorem dX9_set_28 : decode cX9_set 28 = .ok (.iload_n 1, 1) := by decide +kernel
theorem dX9_set_29 : decode cX9_set 29 = .ok (.iaload, 1) := by decide +kernel
theorem dX9_set_30 : decode cX9_set 30 = .ok (.iconst 3, 1) := by decide +kernel
theorem dX9_set_31 : decode cX9_set 31 = .ok (.if_icmp .eq 13, 3) := by decide +kernel
theorem dX9_set_34 : decode cX9_set 34 = .ok (.aload_n 0, 1) := by decide +kernel
theorem dX9_set_35 : decode cX9_set 35 = .ok (.getfield 82, 3) := by decide +kernel
theorem dX9_set_38 : decode cX9_set 38 = .ok (.iload_n 1, 1) := by decide +kernel
theorem dX9_set_39 : decode cX9_set 39 = .ok (.iaload, 1) := by decide +kernel
theorem dX9_set_40 : decode cX9_set 40 = .ok (.iconst 4, 1) := by decide +kernel
theorem dX9_set_41 : decode cX9_set 41 = .ok (.if_icmp .ne 12, 3) := by decide +kernel
theorem dX9_set_44 : decode cX9_set 44 = .ok (.aload_n 0, 1) := by decide +kernel
theorem dX9_set_45 : decode cX9_set 45 = .ok (.getfield 82, 3) := by decide +kernel
theorem dX9_set_48 : decode cX9_set 48 = .ok (.iload_n 1, 1) := by decide +kernel
theorem dX9_set_49 : decode cX9_set 49 = .ok (.iconst 1, 1) := by decide +kernel
theorem dX9_set_50 : decode cX9_set 50 = .ok (.iadd, 1) := by decide +kernel
theorem dX9_set_51 : decode cX9_set 51 = .ok (.iconst 0, 1) := by decide +kernel
theorem dX9_set_52 : decode cX9_set 52 = .ok (.iastore, 1) := by decide +kernel
theorem dX9_set_53 : decode cX9_set 53 = .ok (.aload_n 0, 1) := by decide +kernel
theorem dX9_set_54 : decode cX9_set 54 = .ok (.getfield 82, 3) := by decide +kernel
theorem dX9_set_57 : decode cX9_set 57 = .ok (.iload_n 1, 1) := by decide +kernel
theorem dX9_set_58 : decode cX9_set 58 = .ok (.iload_n 2, 1) := by decide +kernel
theorem dX9_set_59 : decode cX9_set 59 = .ok (.iastore, 1) := by decide +kernel
theorem dX9_set_60 : decode cX9_set 60 = .ok (.iload_n 2, 1) := by decide +kernel
theorem dX9_set_61 : decode cX9_set 61 = .ok (.iconst 3, 1) := by decide +kernel
theorem dX9_set_62 : decode cX9_set 62 = .ok (.if_icmp .eq 8, 3) := by decide +kernel
theorem dX9_set_65 : decode cX9_set 65 = .ok (.iload_n 2, 1) := by decide +kernel
theorem dX9_set_66 : decode cX9_set 66 = .ok (.iconst 4, 1) := by decide +kernel
theorem dX9_set_67 : decode cX9_set 67 = .ok (.if_icmp .ne 46, 3) := by decide +kernel
theorem dX9_set_70 : decode cX9_set 70 = .ok (.aload_n 0, 1) := by decide +kernel
theorem dX9_set_71 : decode cX9_set 71 = .ok (.getfield 82, 3) := by decide +kernel
theorem dX9_set_74 : decode cX9_set 74 = .ok (.iload_n 1, 1) := by decide +kernel
theorem dX9_set_75 : decode cX9_set 75 = .ok (.iconst 1, 1) := by decide +kernel
theorem dX9_set_76 : decode cX9_set 76 = .ok (.iadd, 1) := by decide +kernel
theorem dX9_set_77 : decode cX9_set 77 = .ok (.iaload, 1) := by decide +kernel
theorem dX9_set_78 : decode cX9_set 78 = .ok (.iconst 3, 1) := by decide +kernel
theorem dX9_set_79 : decode cX9_set 79 = .ok (.if_icmp .eq 15, 3) := by decide +kernel
theorem dX9_set_82 : decode cX9_set 82 = .ok (.aload_n 0, 1) := by decide +kernel
theorem dX9_set_83 : decode cX9_set 83 = .ok (.getfield 82, 3) := by decide +kernel
theorem dX9_set_86 : decode cX9_set 86 = .ok (.iload_n 1, 1) := by decide +kernel
theorem dX9_set_87 : decode cX9_set 87 = .ok (.iconst 1, 1) := by decide +kernel
theorem dX9_set_88 : decode cX9_set 88 = .ok (.iadd, 1) := by decide +kernel
theorem dX9_set_89 : decode cX9_set 89 = .ok (.iaload, 1) := by decide +kernel
theorem dX9_set_90 : decode cX9_set 90 = .ok (.iconst 4, 1) := by decide +kernel
theorem dX9_set_91 : decode cX9_set 91 = .ok (.if_icmp .ne 12, 3) := by decide +kernel
theorem dX9_set_94 : decode cX9_set 94 = .ok (.aload_n 0, 1) := by decide +kernel
theorem dX9_set_95 : decode cX9_set 95 = .ok (.getfield 82, 3) := by decide +kernel
theorem dX9_set_98 : decode cX9_set 98 = .ok (.iload_n 1, 1) := by decide +kernel
theorem dX9_set_99 : decode cX9_set 99 = .ok (.iconst 2, 1) := by decide +kernel
theorem dX9_set_100 : decode cX9_set 100 = .ok (.iadd, 1) := by decide +kernel
theorem dX9_set_101 : decode cX9_set 101 = .ok (.iconst 0, 1) := by decide +kernel
theorem dX9_set_102 : decode cX9_set 102 = .ok (.iastore, 1) := by decide +kernel
theorem dX9_set_103 : decode cX9_set 103 = .ok (.aload_n 0, 1) := by decide +kernel
theorem dX9_set_104 : decode cX9_set 104 = .ok (.getfield 82, 3) := by decide +kernel
theorem dX9_set_107 : decode cX9_set 107 = .ok (.iload_n 1, 1) := by decide +kernel
theorem dX9_set_108 : decode cX9_set 108 = .ok (.iconst 1, 1) := by decide +kernel
theorem dX9_set_109 : decode cX9_set 109 = .ok (.iadd, 1) := by decide +kernel
theorem dX9_set_110 : decode cX9_set 110 = .ok (.bipush 7, 2) := by decide +kernel
theorem dX9_set_112 : decode cX9_set 112 = .ok (.iastore, 1) := by decide +kernel
theorem dX9_set_113 : decode cX9_set 113 = .ok (.return_, 1) := by decide +kernel
theorem dX9_places_0 : decode cX9_places 0 = .ok (.iload_n 0, 1) := by decide +kernel
theorem dX9_places_1 : decode cX9_places 1 = .ok (.iconst 3, 1) := by decide +kernel
theorem dX9_places_2 : decode cX9_places 2 = .ok (.if_icmp .eq 8, 3) := by decide +kernel
theorem dX9_places_5 : decode cX9_places 5 = .ok (.iload_n 0, 1) := by decide +kernel
theorem dX9_places_6 : decode cX9_places 6 = .ok (.iconst 4, 1) := by decide +kernel
theorem dX9_places_7 : decode cX9_places 7 = .ok (.if_icmp .ne 7, 3) := by decide +kernel
theorem dX9_places_10 : decode cX9_places 10 = .ok (.iconst 2, 1) := by decide +kernel
theorem dX9_places_11 : decode cX9_places 11 = .ok (.goto 4, 3) := by decide +kernel
theorem dX9_places_14 : decode cX9_places 14 = .ok (.iconst 1, 1) := by decide +kernel
theorem dX9_places_15 : decode cX9_places 15 = .ok (.ireturn, 1) := by decide +kernel
set_option maxRecDepth 20000 in
theorem ggX9_formed_X9_kindOf : GoodIn wsX9_formed wsX9_kindOf := goodIn_r _ [18, 19, 20, 21, 22] rfl (by decide +kernel)
set_option maxRecDepth 20000 in
theorem gX9_formed_X9_kindOf : GoodIn wsX9_formed (va_wsS RX9 221 yX9_kindOf wsX9_kindOf) := goodIn_app (goodIn_of _ (by decide +kernel)) ggX9_formed_X9_kindOf
set_option maxRecDepth 20000 in
theorem ggX9_formed_X9_places : GoodIn wsX9_formed wsX9_places := goodIn_r _ [25] rfl (by decide +kernel)
set_option maxRecDepth 20000 in
theorem gX9_formed_X9_places : GoodIn wsX9_formed (va_wsS RX9 228 yX9_places wsX9_places) := goodIn_app (goodIn_of _ (by decide +kernel)) ggX9_formed_X9_places
theorem dX9_formed_0 : decode cX9_formed 0 = .ok (.aload_n 0, 1) := by decide +kernel
theorem dX9_formed_1 : decode cX9_formed 1 = .ok (.getfield 179, 3) := by decide +kernel
theorem dX9_formed_4 : decode cX9_formed 4 = .ok (.ifCond .ne 5, 3) := by decide +kernel
theorem dX9_formed_7 : decode cX9_formed 7 = .ok (.iconst 0, 1) := by decide +kernel
theorem dX9_formed_8 : decode cX9_formed 8 = .ok (.ireturn, 1) := by decide +kernel
theorem dX9_formed_9 : decode cX9_formed 9 = .ok (.aload_n 0, 1) := by decide +kernel
theorem dX9_formed_10 : decode cX9_formed 10 = .ok (.getfield 167, 3) := by decide +kernel
theorem dX9_formed_13 : decode cX9_formed 13 = .ok (.ifCond .ne 7, 3) := by decide +kernel
theorem dX9_formed_16 : decode cX9_formed 16 = .ok (.iconst 0, 1) := by decide +kernel
theorem dX9_formed_17 : decode cX9_formed 17 = .ok (.goto 4, 3) := by decide +kernel
theorem dX9_formed_20 : decode cX9_formed 20 = .ok (.iconst 1, 1) := by decide +kernel
theorem dX9_formed_21 : decode cX9_formed 21 = .ok (.istore_n 1, 1) := by decide +kernel
theorem dX9_formed_22 : decode cX9_formed 22 = .ok (.iconst 0, 1) := by decide +kernel
theorem dX9_formed_23 : decode cX9_formed 23 = .ok (.istore_n 2, 1) := by decide +kernel
theorem dX9_formed_24 : decode cX9_formed 24 = .ok (.iload_n 2, 1) := by decide +kernel
theorem dX9_formed_25 : decode cX9_formed 25 = .ok (.aload_n 0, 1) := by decide +kernel
theorem dX9_formed_26 : decode cX9_formed 26 = .ok (.getfield 176, 3) := by decide +kernel
theorem dX9_formed_29 : decode cX9_formed 29 = .ok (.if_icmp .ge 24, 3) := by decide +kernel
theorem dX9_formed_32 : decode cX9_formed 32 = .ok (.iload_n 1, 1) := by decide +kernel
theorem dX9_formed_33 : decode cX9_formed 33 = .ok (.aload_n 0, 1) := by decide +kernel
theorem dX9_formed_34 : decode cX9_formed 34 = .ok (.getfield 48, 3) := by decide +kernel
theorem dX9_formed_37 : decode cX9_formed 37 = .ok (.iload_n 2, 1) := by decide +kernel
theorem dX9_formed_38 : decode cX9_formed 38 = .ok (.iaload, 1) := by decide +kernel
theorem dX9_formed_39 : decode cX9_formed 39 = .ok (.invokestatic 221, 3) := by decide +kernel
theorem dX9_formed_42 : decode cX9_formed 42 = .ok (.invokestatic 228, 3) := by decide +kernel
theorem dX9_formed_45 : decode cX9_formed 45 = .ok (.iadd, 1) := by decide +kernel
theorem dX9_formed_46 : decode cX9_formed 46 = .ok (.istore_n 1, 1) := by decide +kernel
theorem dX9_formed_47 : decode cX9_formed 47 = .ok (.iinc 2 1, 3) := by decide +kernel
theorem dX9_formed_50 : decode cX9_formed 50 = .ok (.goto (-26), 3) := by decide +kernel
theorem dX9_formed_53 : decode cX9_formed 53 = .ok (.iload_n 1, 1) := by decide +kernel
theorem dX9_formed_54 : decode cX9_formed 54 = .ok (.aload_n 0, 1) := by decide +kernel
theorem dX9_formed_55 : decode cX9_formed 55 = .ok (.getfield 170, 3) := by decide +kernel
theorem dX9_formed_58 : decode cX9_formed 58 = .ok (.if_icmp .le 5, 3) := by decide +kernel
theorem dX9_formed_61 : decode cX9_formed 61 = .ok (.iconst 0, 1) := by decide +kernel
theorem dX9_formed_62 : decode cX9_formed 62 = .ok (.ireturn, 1) := by decide +kernel
theorem dX9_formed_63 : decode cX9_formed 63 = .ok (.iconst 0, 1) := by decide +kernel
theorem dX9_formed_64 : decode cX9_formed 64 = .ok (.istore_n 2, 1) := by decide +kernel
theorem dX9_formed_65 : decode cX9_formed 65 = .ok (.iload_n 2, 1) := by decide +kernel
theorem dX9_formed_66 : decode cX9_formed 66 = .ok (.aload_n 0, 1) := by decide +kernel
theorem dX9_formed_67 : decode cX9_formed 67 = .ok (.getfield 179, 3) := by decide +kernel
theorem dX9_formed_70 : decode cX9_formed 70 = .ok (.if_icmp .ge 231, 3) := by decide +kernel
theorem dX9_formed_73 : decode cX9_formed 73 = .ok (.aload_n 0, 1) := by decide +kernel
theorem dX9_formed_74 : decode cX9_formed 74 = .ok (.getfield 51, 3) := by decide +kernel
theorem dX9_formed_77 : decode cX9_formed 77 = .ok (.iload_n 2, 1) := by decide +kernel
theorem dX9_formed_78 : decode cX9_formed 78 = .ok (.iaload, 1) := by decide +kernel
theorem dX9_formed_79 : decode cX9_formed 79 = .ok (.istore_n 3, 1) := by decide +kernel
theorem dX9_formed_80 : decode cX9_formed 80 = .ok (.iload_n 3, 1) := by decide +kernel
theorem dX9_formed_81 : decode cX9_formed 81 = .ok (.bipush 21, 2) := by decide +kernel
theorem dX9_formed_83 : decode cX9_formed 83 = .ok (.if_icmp .lt 9, 3) := by decide +kernel
theorem dX9_formed_86 : decode cX9_formed 86 = .ok (.iload_n 3, 1) := by decide +kernel
theorem dX9_formed_87 : decode cX9_formed 87 = .ok (.bipush 25, 2) := by decide +kernel
theorem dX9_formed_89 : decode cX9_formed 89 = .ok (.if_icmp .le 29, 3) := by decide +kernel
theorem dX9_formed_92 : decode cX9_formed 92 = .ok (.iload_n 3, 1) := by decide +kernel
theorem dX9_formed_93 : decode cX9_formed 93 = .ok (.bipush 54, 2) := by decide +kernel
theorem dX9_formed_95 : decode cX9_formed 95 = .ok (.if_icmp .lt 9, 3) := by decide +kernel
theorem dX9_formed_98 : decode cX9_formed 98 = .ok (.iload_n 3, 1) := by decide +kernel
theorem dX9_formed_99 : decode cX9_formed 99 = .ok (.bipush 58, 2) := by decide +kernel
theorem dX9_formed_101 : decode cX9_formed 101 = .ok (.if_icmp .le 17, 3) := by decide +kernel
theorem dX9_formed_104 : decode cX9_formed 104 = .ok (.iload_n 3, 1) := by decide +kernel
theorem dX9_formed_105 : decode cX9_formed 105 = .ok (.sipush 132, 3) := by decide +kernel
theorem dX9_formed_108 : decode cX9_formed 108 = .ok (.if_icmp .eq 10, 3) := by decide +kernel
theorem dX9_formed_111 : decode cX9_formed 111 = .ok (.iload_n 3, 1) := by decide +kernel
theorem dX9_formed_112 : decode cX9_formed 112 = .ok (.sipush 169, 3) := by decide +kernel
theorem dX9_formed_115 : decode cX9_formed 115 = .ok (.if_icmp .ne 69, 3) := by decide +kernel
theorem dX9_formed_118 : decode cX9_formed 118 = .ok (.iload_n 3, 1) := by decide +kernel
theorem dX9_formed_119 : decode cX9_formed 119 = .ok (.bipush 22, 2) := by decide +kernel
theorem dX9_formed_121 : decode cX9_formed 121 = .ok (.if_icmp .eq 21, 3) := by decide +kernel
theorem dX9_formed_124 : decode cX9_formed 124 = .ok (.iload_n 3, 1) := by decide +kernel
theorem dX9_formed_125 : decode cX9_formed 125 = .ok (.bipush 24, 2) := by decide +kernel
theorem dX9_formed_127 : decode cX9_formed 127 = .ok (.if_icmp .eq 15, 3) := by decide +kernel
theorem dX9_formed_130 : decode cX9_formed 130 = .ok (.iload_n 3, 1) := by decide +kernel
theorem dX9_formed_131 : decode cX9_formed 131 = .ok (.bipush 55, 2) := by decide +kernel
theorem dX9_formed_133 : decode cX9_formed 133 = .ok (.if_icmp .eq 9, 3) := by decide +kernel
theorem dX9_formed_136 : decode cX9_formed 136 = .ok (.iload_n 3, 1) := by decide +kernel
theorem dX9_formed_137 : decode cX9_formed 137 = .ok (.bipush 57, 2) := by decide +kernel
theorem dX9_formed_139 : decode cX9_formed 139 = .ok (.if_icmp .ne 7, 3) := by decide +kernel
theorem dX9_formed_142 : decode cX9_formed 142 = .ok (.iconst 1, 1) := by decide +kernel
theorem dX9_formed_143 : decode cX9_formed 143 = .ok (.goto 4, 3) := by decide +kernel
theorem dX9_formed_146 : decode cX9_formed 146 = .ok (.iconst 0, 1) := by decide +kernel
theorem dX9_formed_147 : decode cX9_formed 147 = .ok (.istore 4, 2) := by decide +kernel
theorem dX9_formed_149 : decode cX9_formed 149 = .ok (.aload_n 0, 1) := by decide +kernel
theorem dX9_formed_150 : decode cX9_formed 150 = .ok (.getfield 54, 3) := by decide +kernel
theorem dX9_formed_153 : decode cX9_formed 153 = .ok (.iload_n 2, 1) := by decide +kernel
theorem dX9_formed_154 : decode cX9_formed 154 = .ok (.iaload, 1) := by decide +kernel
theorem dX9_formed_155 : decode cX9_formed 155 = .ok (.aload_n 0, 1) := by decide +kernel
theorem dX9_formed_156 : decode cX9_formed 156 = .ok (.getfield 170, 3) := by decide +kernel
theorem dX9_formed_159 : decode cX9_formed 159 = .ok (.if_icmp .ge 23, 3) := by decide +kernel
theorem dX9_formed_162 : decode cX9_formed 162 = .ok (.iload 4, 2) := by decide +kernel
theorem dX9_formed_164 : decode cX9_formed 164 = .ok (.ifCond .eq 20, 3) := by decide +kernel
theorem dX9_formed_167 : decode cX9_formed 167 = .ok (.aload_n 0, 1) := by decide +kernel
theorem dX9_formed_168 : decode cX9_formed 168 = .ok (.getfield 54, 3) := by decide +kernel
theorem dX9_formed_171 : decode cX9_formed 171 = .ok (.iload_n 2, 1) := by decide +kernel
theorem dX9_formed_172 : decode cX9_formed 172 = .ok (.iaload, 1) := by decide +kernel
theorem dX9_formed_173 : decode cX9_formed 173 = .ok (.iconst 1, 1) := by decide +kernel
theorem dX9_formed_174 : decode cX9_formed 174 = .ok (.iadd, 1) := by decide +kernel
theorem dX9_formed_175 : decode cX9_formed 175 = .ok (.aload_n 0, 1) := by decide +kernel
theorem dX9_formed_176 : decode cX9_formed 176 = .ok (.getfield 170, 3) := by decide +kernel
theorem dX9_formed_179 : decode cX9_formed 179 = .ok (.if_icmp .lt 5, 3) := by decide +kernel
theorem dX9_formed_182 : decode cX9_formed 182 = .ok (.iconst 0, 1) := by decide +kernel
theorem dX9_formed_183 : decode cX9_formed 183 = .ok (.ireturn, 1) := by decide +kernel
theorem dX9_formed_184 : decode cX9_formed 184 = .ok (.iload_n 3, 1) := by decide +kernel
theorem dX9_formed_185 : decode cX9_formed 185 = .ok (.sipush 153, 3) := by decide +kernel
theorem dX9_formed_188 : decode cX9_formed 188 = .ok (.if_icmp .lt 10, 3) := by decide +kernel
theorem dX9_formed_191 : decode cX9_formed 191 = .ok (.iload_n 3, 1) := by decide +kernel
theorem dX9_formed_192 : decode cX9_formed 192 = .ok (.sipush 168, 3) := by decide +kernel
theorem dX9_formed_195 : decode cX9_formed 195 = .ok (.if_icmp .le 17, 3) := by decide +kernel
theorem dX9_formed_198 : decode cX9_formed 198 = .ok (.iload_n 3, 1) := by decide +kernel
theorem dX9_formed_199 : decode cX9_formed 199 = .ok (.sipush 198, 3) := by decide +kernel
theorem dX9_formed_202 : decode cX9_formed 202 = .ok (.if_icmp .eq 10, 3) := by decide +kernel
theorem dX9_formed_205 : decode cX9_formed 205 = .ok (.iload_n 3, 1) := by decide +kernel
theorem dX9_formed_206 : decode cX9_formed 206 = .ok (.sipush 199, 3) := by decide +kernel
theorem dX9_formed_209 : decode cX9_formed 209 = .ok (.if_icmp .ne 18, 3) := by decide +kernel
theorem dX9_formed_212 : decode cX9_formed 212 = .ok (.aload_n 0, 1) := by decide +kernel
theorem dX9_formed_213 : decode cX9_formed 213 = .ok (.getfield 54, 3) := by decide +kernel
theorem dX9_formed_216 : decode cX9_formed 216 = .ok (.iload_n 2, 1) := by decide +kernel
theorem dX9_formed_217 : decode cX9_formed 217 = .ok (.iaload, 1) := by decide +kernel
theorem dX9_formed_218 : decode cX9_formed 218 = .ok (.aload_n 0, 1) := by decide +kernel
theorem dX9_formed_219 : decode cX9_formed 219 = .ok (.getfield 179, 3) := by decide +kernel
theorem dX9_formed_222 : decode cX9_formed 222 = .ok (.if_icmp .lt 5, 3) := by decide +kernel
theorem dX9_formed_225 : decode cX9_formed 225 = .ok (.iconst 0, 1) := by decide +kernel
theorem dX9_formed_226 : decode cX9_formed 226 = .ok (.ireturn, 1) := by decide +kernel
theorem dX9_formed_227 : decode cX9_formed 227 = .ok (.iload_n 3, 1) := by decide +kernel
theorem dX9_formed_228 : decode cX9_formed 228 = .ok (.sipush 170, 3) := by decide +kernel
theorem dX9_formed_231 : decode cX9_formed 231 = .ok (.if_icmp .eq 10, 3) := by decide +kernel
theorem dX9_formed_234 : decode cX9_formed 234 = .ok (.iload_n 3, 1) := by decide +kernel
theorem dX9_formed_235 : decode cX9_formed 235 = .ok (.sipush 171, 3) := by decide +kernel
theorem dX9_formed_238 : decode cX9_formed 238 = .ok (.if_icmp .ne 57, 3) := by decide +kernel
theorem dX9_formed_241 : decode cX9_formed 241 = .ok (.aload_n 0, 1) := by decide +kernel
theorem dX9_formed_242 : decode cX9_formed 242 = .ok (.getfield 63, 3) := by decide +kernel
theorem dX9_formed_245 : decode cX9_formed 245 = .ok (.iload_n 2, 1) := by decide +kernel
theorem dX9_formed_246 : decode cX9_formed 246 = .ok (.iaload, 1) := by decide +kernel
theorem dX9_formed_247 : decode cX9_formed 247 = .ok (.ifCond .ne 5, 3) := by decide +kernel
theorem dX9_formed_250 : decode cX9_formed 250 = .ok (.iconst 0, 1) := by decide +kernel
theorem dX9_formed_251 : decode cX9_formed 251 = .ok (.ireturn, 1) := by decide +kernel
theorem dX9_formed_252 : decode cX9_formed 252 = .ok (.iconst 0, 1) := by decide +kernel
theorem dX9_formed_253 : decode cX9_formed 253 = .ok (.istore 4, 2) := by decide +kernel
theorem dX9_formed_255 : decode cX9_formed 255 = .ok (.iload 4, 2) := by decide +kernel
theorem dX9_formed_257 : decode cX9_formed 257 = .ok (.aload_n 0, 1) := by decide +kernel
theorem dX9_formed_258 : decode cX9_formed 258 = .ok (.getfield 63, 3) := by decide +kernel
theorem dX9_formed_261 : decode cX9_formed 261 = .ok (.iload_n 2, 1) := by decide +kernel
theorem dX9_formed_262 : decode cX9_formed 262 = .ok (.iaload, 1) := by decide +kernel
theorem dX9_formed_263 : decode cX9_formed 263 = .ok (.if_icmp .ge 32, 3) := by decide +kernel
theorem dX9_formed_266 : decode cX9_formed 266 = .ok (.aload_n 0, 1) := by decide +kernel
theorem dX9_formed_267 : decode cX9_formed 267 = .ok (.getfield 67, 3) := by decide +kernel
theorem dX9_formed_270 : decode cX9_formed 270 = .ok (.aload_n 0, 1) := by decide +kernel
theorem dX9_formed_271 : decode cX9_formed 271 = .ok (.getfield 60, 3) := by decide +kernel
theorem dX9_formed_274 : decode cX9_formed 274 = .ok (.iload_n 2, 1) := by decide +kernel
theorem dX9_formed_275 : decode cX9_formed 275 = .ok (.iaload, 1) := by decide +kernel
theorem dX9_formed_276 : decode cX9_formed 276 = .ok (.iload 4, 2) := by decide +kernel
theorem dX9_formed_278 : decode cX9_formed 278 = .ok (.iadd, 1) := by decide +kernel
theorem dX9_formed_279 : decode cX9_formed 279 = .ok (.iaload, 1) := by decide +kernel
theorem dX9_formed_280 : decode cX9_formed 280 = .ok (.aload_n 0, 1) := by decide +kernel
theorem dX9_formed_281 : decode cX9_formed 281 = .ok (.getfield 179, 3) := by decide +kernel
theorem dX9_formed_284 : decode cX9_formed 284 = .ok (.if_icmp .lt 5, 3) := by decide +kernel
theorem dX9_formed_287 : decode cX9_formed 287 = .ok (.iconst 0, 1) := by decide +kernel
theorem dX9_formed_288 : decode cX9_formed 288 = .ok (.ireturn, 1) := by decide +kernel
theorem dX9_formed_289 : decode cX9_formed 289 = .ok (.iinc 4 1, 3) := by decide +kernel
theorem dX9_formed_292 : decode cX9_formed 292 = .ok (.goto (-37), 3) := by decide +kernel
theorem dX9_formed_295 : decode cX9_formed 295 = .ok (.iinc 2 1, 3) := by decide +kernel
theorem dX9_formed_298 : decode cX9_formed 298 = .ok (.goto (-233), 3) := by decide +kernel
theorem dX9_formed_301 : decode cX9_formed 301 = .ok (.iconst 0, 1) := by decide +kernel
theorem dX9_formed_302 : decode cX9_formed 302 = .ok (.istore_n 2, 1) := by decide +kernel
theorem dX9_formed_303 : decode cX9_formed 303 = .ok (.iload_n 2, 1) := by decide +kernel
theorem dX9_formed_304 : decode cX9_formed 304 = .ok (.aload_n 0, 1) := by decide +kernel
theorem dX9_formed_305 : decode cX9_formed 305 = .ok (.getfield 182, 3) := by decide +kernel
theorem dX9_formed_308 : decode cX9_formed 308 = .ok (.if_icmp .ge 65, 3) := by decide +kernel
theorem dX9_formed_311 : decode cX9_formed 311 = .ok (.aload_n 0, 1) := by decide +kernel
theorem dX9_formed_312 : decode cX9_formed 312 = .ok (.getfield 70, 3) := by decide +kernel
theorem dX9_formed_315 : decode cX9_formed 315 = .ok (.iload_n 2, 1) := by decide +kernel
theorem dX9_formed_316 : decode cX9_formed 316 = .ok (.iaload, 1) := by decide +kernel
theorem dX9_formed_317 : decode cX9_formed 317 = .ok (.aload_n 0, 1) := by decide +kernel
theorem dX9_formed_318 : decode cX9_formed 318 = .ok (.getfield 179, 3) := by decide +kernel
theorem dX9_formed_321 : decode cX9_formed 321 = .ok (.if_icmp .ge 44, 3) := by decide +kernel
theorem dX9_formed_324 : decode cX9_formed 324 = .ok (.aload_n 0, 1) := by decide +kernel
theorem dX9_formed_325 : decode cX9_formed 325 = .ok (.getfield 73, 3) := by decide +kernel
theorem dX9_formed_328 : decode cX9_formed 328 = .ok (.iload_n 2, 1) := by decide +kernel
theorem dX9_formed_329 : decode cX9_formed 329 = .ok (.iaload, 1) := by decide +kernel
theorem dX9_formed_330 : decode cX9_formed 330 = .ok (.aload_n 0, 1) := by decide +kernel
theorem dX9_formed_331 : decode cX9_formed 331 = .ok (.getfield 179, 3) := by decide +kernel
theorem dX9_formed_334 : decode cX9_formed 334 = .ok (.if_icmp .gt 31, 3) := by decide +kernel
theorem dX9_formed_337 : decode cX9_formed 337 = .ok (.aload_n 0, 1) := by decide +kernel
theorem dX9_formed_338 : decode cX9_formed 338 = .ok (.getfield 70, 3) := by decide +kernel
theorem dX9_formed_341 : decode cX9_formed 341 = .ok (.iload_n 2, 1) := by decide +kernel
theorem dX9_formed_342 : decode cX9_formed 342 = .ok (.iaload, 1) := by decide +kernel
theorem dX9_formed_343 : decode cX9_formed 343 = .ok (.aload_n 0, 1) := by decide +kernel
theorem dX9_formed_344 : decode cX9_formed 344 = .ok (.getfield 73, 3) := by decide +kernel
theorem dX9_formed_347 : decode cX9_formed 347 = .ok (.iload_n 2, 1) := by decide +kernel
theorem dX9_formed_348 : decode cX9_formed 348 = .ok (.iaload, 1) := by decide +kernel
theorem dX9_formed_349 : decode cX9_formed 349 = .ok (.if_icmp .ge 16, 3) := by decide +kernel
theorem dX9_formed_352 : decode cX9_formed 352 = .ok (.aload_n 0, 1) := by decide +kernel
theorem dX9_formed_353 : decode cX9_formed 353 = .ok (.getfield 76, 3) := by decide +kernel
theorem dX9_formed_356 : decode cX9_formed 356 = .ok (.iload_n 2, 1) := by decide +kernel
theorem dX9_formed_357 : decode cX9_formed 357 = .ok (.iaload, 1) := by decide +kernel
theorem dX9_formed_358 : decode cX9_formed 358 = .ok (.aload_n 0, 1) := by decide +kernel
theorem dX9_formed_359 : decode cX9_formed 359 = .ok (.getfield 179, 3) := by decide +kernel
theorem dX9_formed_362 : decode cX9_formed 362 = .ok (.if_icmp .lt 5, 3) := by decide +kernel
theorem dX9_formed_365 : decode cX9_formed 365 = .ok (.iconst 0, 1) := by decide +kernel
theorem dX9_formed_366 : decode cX9_formed 366 = .ok (.ireturn, 1) := by decide +kernel
theorem dX9_formed_367 : decode cX9_formed 367 = .ok (.iinc 2 1, 3) := by decide +kernel
theorem dX9_formed_370 : decode cX9_formed 370 = .ok (.goto (-67), 3) := by decide +kernel
theorem dX9_formed_373 : decode cX9_formed 373 = .ok (.iconst 1, 1) := by decide +kernel
theorem dX9_formed_374 : decode cX9_formed 374 = .ok (.ireturn, 1) := by decide +kernel
theorem dX9_size_0 : decode cX9_size 0 = .ok (.aload_n 0, 1) := by decide +kernel
theorem dX9_size_1 : decode cX9_size 1 = .ok (.getfield 170, 3) := by decide +kernel
theorem dX9_size_4 : decode cX9_size 4 = .ok (.aload_n 0, 1) := by decide +kernel
theorem dX9_size_5 : decode cX9_size 5 = .ok (.getfield 173, 3) := by decide +kernel
theorem dX9_size_8 : decode cX9_size 8 = .ok (.iadd, 1) := by decide +kernel
theorem dX9_size_9 : decode cX9_size 9 = .ok (.iconst 2, 1) := by decide +kernel
theorem dX9_size_10 : decode cX9_size 10 = .ok (.iadd, 1) := by decide +kernel
theorem dX9_size_11 : decode cX9_size 11 = .ok (.ireturn, 1) := by decide +kernel
theorem dX9_keep_0 : decode cX9_keep 0 = .ok (.iconst 0, 1) := by decide +kernel
theorem dX9_keep_1 : decode cX9_keep 1 = .ok (.istore_n 2, 1) := by decide +kernel
theorem dX9_keep_2 : decode cX9_keep 2 = .ok (.iload_n 2, 1) := by decide +kernel
theorem dX9_keep_3 : decode cX9_keep 3 = .ok (.aload_n 0, 1) := by decide +kernel
theorem dX9_keep_4 : decode cX9_keep 4 = .ok (.getfield 170, 3) := by decide +kernel
theorem dX9_keep_7 : decode cX9_keep 7 = .ok (.if_icmp .ge 23, 3) := by decide +kernel
theorem dX9_keep_10 : decode cX9_keep 10 = .ok (.aload_n 0, 1) := by decide +kernel
theorem dX9_keep_11 : decode cX9_keep 11 = .ok (.getfield 128, 3) := by decide +kernel
theorem dX9_keep_14 : decode cX9_keep 14 = .ok (.iload_n 1, 1) := by decide +kernel
theorem dX9_keep_15 : decode cX9_keep 15 = .ok (.iload_n 2, 1) := by decide +kernel
theorem dX9_keep_16 : decode cX9_keep 16 = .ok (.iadd, 1) := by decide +kernel
theorem dX9_keep_17 : decode cX9_keep 17 = .ok (.aload_n 0, 1) := by decide +kernel
theorem dX9_keep_18 : decode cX9_keep 18 = .ok (.getfield 82, 3) := by decide +kernel
theorem dX9_keep_21 : decode cX9_keep 21 = .ok (.iload_n 2, 1) := by decide +kernel
theorem dX9_keep_22 : decode cX9_keep 22 = .ok (.iaload, 1) := by decide +kernel
theorem dX9_keep_23 : decode cX9_keep 23 = .ok (.iastore, 1) := by decide +kernel
theorem dX9_keep_24 : decode cX9_keep 24 = .ok (.iinc 2 1, 3) := by decide +kernel
theorem dX9_keep_27 : decode cX9_keep 27 = .ok (.goto (-25), 3) := by decide +kernel
theorem dX9_keep_30 : decode cX9_keep 30 = .ok (.iconst 0, 1) := by decide +kernel
theorem dX9_keep_31 : decode cX9_keep 31 = .ok (.istore_n 2, 1) := by decide +kernel
theorem dX9_keep_32 : decode cX9_keep 32 = .ok (.iload_n 2, 1) := by decide +kernel
theorem dX9_keep_33 : decode cX9_keep 33 = .ok (.aload_n 0, 1) := by decide +kernel
theorem dX9_keep_34 : decode cX9_keep 34 = .ok (.getfield 215, 3) := by decide +kernel
theorem dX9_keep_37 : decode cX9_keep 37 = .ok (.if_icmp .ge 28, 3) := by decide +kernel
theorem dX9_keep_40 : decode cX9_keep 40 = .ok (.aload_n 0, 1) := by decide +kernel
theorem dX9_keep_41 : decode cX9_keep 41 = .ok (.getfield 128, 3) := by decide +kernel
theorem dX9_keep_44 : decode cX9_keep 44 = .ok (.iload_n 1, 1) := by decide +kernel
theorem dX9_keep_45 : decode cX9_keep 45 = .ok (.aload_n 0, 1) := by decide +kernel
theorem dX9_keep_46 : decode cX9_keep 46 = .ok (.getfield 170, 3) := by decide +kernel
theorem dX9_keep_49 : decode cX9_keep 49 = .ok (.iadd, 1) := by decide +kernel
theorem dX9_keep_50 : decode cX9_keep 50 = .ok (.iload_n 2, 1) := by decide +kernel
theorem dX9_keep_51 : decode cX9_keep 51 = .ok (.iadd, 1) := by decide +kernel
theorem dX9_keep_52 : decode cX9_keep 52 = .ok (.aload_n 0, 1) := by decide +kernel
theorem dX9_keep_53 : decode cX9_keep 53 = .ok (.getfield 85, 3) := by decide +kernel
theorem dX9_keep_56 : decode cX9_keep 56 = .ok (.iload_n 2, 1) := by decide +kernel
theorem dX9_keep_57 : decode cX9_keep 57 = .ok (.iaload, 1) := by decide +kernel
theorem dX9_keep_58 : decode cX9_keep 58 = .ok (.iastore, 1) := by decide +kernel
theorem dX9_keep_59 : decode cX9_keep 59 = .ok (.iinc 2 1, 3) := by decide +kernel
theorem dX9_keep_62 : decode cX9_keep 62 = .ok (.goto (-30), 3) := by decide +kernel
theorem dX9_keep_65 : decode cX9_keep 65 = .ok (.aload_n 0, 1) := by decide +kernel
theorem dX9_keep_66 : decode cX9_keep 66 = .ok (.getfield 128, 3) := by decide +kernel
theorem dX9_keep_69 : decode cX9_keep 69 = .ok (.iload_n 1, 1) := by decide +kernel
theorem dX9_keep_70 : decode cX9_keep 70 = .ok (.aload_n 0, 1) := by decide +kernel
theorem dX9_keep_71 : decode cX9_keep 71 = .ok (.getfield 170, 3) := by decide +kernel
theorem dX9_keep_74 : decode cX9_keep 74 = .ok (.iadd, 1) := by decide +kernel
theorem dX9_keep_75 : decode cX9_keep 75 = .ok (.aload_n 0, 1) := by decide +kernel
theorem dX9_keep_76 : decode cX9_keep 76 = .ok (.getfield 173, 3) := by decide +kernel
theorem dX9_keep_79 : decode cX9_keep 79 = .ok (.iadd, 1) := by decide +kernel
theorem dX9_keep_80 : decode cX9_keep 80 = .ok (.aload_n 0, 1) := by decide +kernel
theorem dX9_keep_81 : decode cX9_keep 81 = .ok (.getfield 215, 3) := by decide +kernel
theorem dX9_keep_84 : decode cX9_keep 84 = .ok (.iastore, 1) := by decide +kernel
theorem dX9_keep_85 : decode cX9_keep 85 = .ok (.aload_n 0, 1) := by decide +kernel
theorem dX9_keep_86 : decode cX9_keep 86 = .ok (.getfield 128, 3) := by decide +kernel
theorem dX9_keep_89 : decode cX9_keep 89 = .ok (.iload_n 1, 1) := by decide +kernel
theorem dX9_keep_90 : decode cX9_keep 90 = .ok (.aload_n 0, 1) := by decide +kernel
theorem dX9_keep_91 : decode cX9_keep 91 = .ok (.getfield 170, 3) := by decide +kernel
theorem dX9_keep_94 : decode cX9_keep 94 = .ok (.iadd, 1) := by decide +kernel
theorem dX9_keep_95 : decode cX9_keep 95 = .ok (.aload_n 0, 1) := by decide +kernel
theorem dX9_keep_96 : decode cX9_keep 96 = .ok (.getfield 173, 3) := by decide +kernel
theorem dX9_keep_99 : decode cX9_keep 99 = .ok (.iadd, 1) := by decide +kernel
theorem dX9_keep_100 : decode cX9_keep 100 = .ok (.iconst 1, 1) := by decide +kernel
theorem dX9_keep_101 : decode cX9_keep 101 = .ok (.iadd, 1) := by decide +kernel
theorem dX9_keep_102 : decode cX9_keep 102 = .ok (.aload_n 0, 1) := by decide +kernel
theorem dX9_keep_103 : decode cX9_keep 103 = .ok (.getfield 231, 3) := by decide +kernel
theorem dX9_keep_106 : decode cX9_keep 106 = .ok (.ifCond .eq 7, 3) := by decide +kernel
theorem dX9_keep_109 : decode cX9_keep 109 = .ok (.iconst 1, 1) := by decide +kernel
theorem dX9_keep_110 : decode cX9_keep 110 = .ok (.goto 4, 3) := by decide +kernel
theorem dX9_keep_113 : decode cX9_keep 113 = .ok (.iconst 0, 1) := by decide +kernel
theorem dX9_keep_114 : decode cX9_keep 114 = .ok (.iastore, 1) := by decide +kernel
theorem dX9_keep_115 : decode cX9_keep 115 = .ok (.return_, 1) := by decide +kernel
theorem dX9_take_0 : decode cX9_take 0 = .ok (.iconst 0, 1) := by decide +kernel
theorem dX9_take_1 : decode cX9_take 1 = .ok (.istore_n 2, 1) := by decide +kernel
theorem dX9_take_2 : decode cX9_take 2 = .ok (.iload_n 2, 1) := by decide +kernel
theorem dX9_take_3 : decode cX9_take 3 = .ok (.aload_n 0, 1) := by decide +kernel
theorem dX9_take_4 : decode cX9_take 4 = .ok (.getfield 170, 3) := by decide +kernel
theorem dX9_take_7 : decode cX9_take 7 = .ok (.if_icmp .ge 23, 3) := by decide +kernel
theorem dX9_take_10 : decode cX9_take 10 = .ok (.aload_n 0, 1) := by decide +kernel
theorem dX9_take_11 : decode cX9_take 11 = .ok (.getfield 82, 3) := by decide +kernel
theorem dX9_take_14 : decode cX9_take 14 = .ok (.iload_n 2, 1) := by decide +kernel
theorem dX9_take_15 : decode cX9_take 15 = .ok (.aload_n 0, 1) := by decide +kernel
theorem dX9_take_16 : decode cX9_take 16 = .ok (.getfield 128, 3) := by decide +kernel
theorem dX9_take_19 : decode cX9_take 19 = .ok (.iload_n 1, 1) := by decide +kernel
theorem dX9_take_20 : decode cX9_take 20 = .ok (.iload_n 2, 1) := by decide +kernel
theorem dX9_take_21 : decode cX9_take 21 = .ok (.iadd, 1) := by decide +kernel
theorem dX9_take_22 : decode cX9_take 22 = .ok (.iaload, 1) := by decide +kernel
theorem dX9_take_23 : decode cX9_take 23 = .ok (.iastore, 1) := by decide +kernel
theorem dX9_take_24 : decode cX9_take 24 = .ok (.iinc 2 1, 3) := by decide +kernel
theorem dX9_take_27 : decode cX9_take 27 = .ok (.goto (-25), 3) := by decide +kernel
theorem dX9_take_30 : decode cX9_take 30 = .ok (.aload_n 0, 1) := by decide +kernel
theorem dX9_take_31 : decode cX9_take 31 = .ok (.aload_n 0, 1) := by decide +kernel
theorem dX9_take_32 : decode cX9_take 32 = .ok (.getfield 128, 3) := by decide +kernel
theorem dX9_take_35 : decode cX9_take 35 = .ok (.iload_n 1, 1) := by decide +kernel
theorem dX9_take_36 : decode cX9_take 36 = .ok (.aload_n 0, 1) := by decide +kernel
theorem dX9_take_37 : decode cX9_take 37 = .ok (.getfield 170, 3) := by decide +kernel
theorem dX9_take_40 : decode cX9_take 40 = .ok (.iadd, 1) := by decide +kernel
theorem dX9_take_41 : decode cX9_take 41 = .ok (.aload_n 0, 1) := by decide +kernel
theorem dX9_take_42 : decode cX9_take 42 = .ok (.getfield 173, 3) := by decide +kernel
theorem dX9_take_45 : decode cX9_take 45 = .ok (.iadd, 1) := by decide +kernel
theorem dX9_take_46 : decode cX9_take 46 = .ok (.iaload, 1) := by decide +kernel
theorem dX9_take_47 : decode cX9_take 47 = .ok (.putfield 215, 3) := by decide +kernel
theorem dX9_take_50 : decode cX9_take 50 = .ok (.iconst 0, 1) := by decide +kernel
theorem dX9_take_51 : decode cX9_take 51 = .ok (.istore_n 2, 1) := by decide +kernel
theorem dX9_take_52 : decode cX9_take 52 = .ok (.iload_n 2, 1) := by decide +kernel
theorem dX9_take_53 : decode cX9_take 53 = .ok (.aload_n 0, 1) := by decide +kernel
theorem dX9_take_54 : decode cX9_take 54 = .ok (.getfield 215, 3) := by decide +kernel
theorem dX9_take_57 : decode cX9_take 57 = .ok (.if_icmp .ge 28, 3) := by decide +kernel
theorem dX9_take_60 : decode cX9_take 60 = .ok (.aload_n 0, 1) := by decide +kernel
theorem dX9_take_61 : decode cX9_take 61 = .ok (.getfield 85, 3) := by decide +kernel
theorem dX9_take_64 : decode cX9_take 64 = .ok (.iload_n 2, 1) := by decide +kernel
theorem dX9_take_65 : decode cX9_take 65 = .ok (.aload_n 0, 1) := by decide +kernel
theorem dX9_take_66 : decode cX9_take 66 = .ok (.getfield 128, 3) := by decide +kernel
theorem dX9_take_69 : decode cX9_take 69 = .ok (.iload_n 1, 1) := by decide +kernel
theorem dX9_take_70 : decode cX9_take 70 = .ok (.aload_n 0, 1) := by decide +kernel
theorem dX9_take_71 : decode cX9_take 71 = .ok (.getfield 170, 3) := by decide +kernel
theorem dX9_take_74 : decode cX9_take 74 = .ok (.iadd, 1) := by decide +kernel
theorem dX9_take_75 : decode cX9_take 75 = .ok (.iload_n 2, 1) := by decide +kernel
theorem dX9_take_76 : decode cX9_take 76 = .ok (.iadd, 1) := by decide +kernel
theorem dX9_take_77 : decode cX9_take 77 = .ok (.iaload, 1) := by decide +kernel
theorem dX9_take_78 : decode cX9_take 78 = .ok (.iastore, 1) := by decide +kernel
theorem dX9_take_79 : decode cX9_take 79 = .ok (.iinc 2 1, 3) := by decide +kernel
theorem dX9_take_82 : decode cX9_take 82 = .ok (.goto (-30), 3) := by decide +kernel
theorem dX9_take_85 : decode cX9_take 85 = .ok (.aload_n 0, 1) := by decide +kernel
theorem dX9_take_86 : decode cX9_take 86 = .ok (.aload_n 0, 1) := by decide +kernel
theorem dX9_take_87 : decode cX9_take 87 = .ok (.getfield 128, 3) := by decide +kernel
theorem dX9_take_90 : decode cX9_take 90 = .ok (.iload_n 1, 1) := by decide +kernel
theorem dX9_take_91 : decode cX9_take 91 = .ok (.aload_n 0, 1) := by decide +kernel
theorem dX9_take_92 : decode cX9_take 92 = .ok (.getfield 170, 3) := by decide +kernel
theorem dX9_take_95 : decode cX9_take 95 = .ok (.iadd, 1) := by decide +kernel
theorem dX9_take_96 : decode cX9_take 96 = .ok (.aload_n 0, 1) := by decide +kernel
theorem dX9_take_97 : decode cX9_take 97 = .ok (.getfield 173, 3) := by decide +kernel
theorem dX9_take_100 : decode cX9_take 100 = .ok (.iadd, 1) := by decide +kernel
theorem dX9_take_101 : decode cX9_take 101 = .ok (.iconst 1, 1) := by decide +kernel
theorem dX9_take_102 : decode cX9_take 102 = .ok (.iadd, 1) := by decide +kernel
theorem dX9_take_103 : decode cX9_take 103 = .ok (.iaload, 1) := by decide +kernel
theorem dX9_take_104 : decode cX9_take 104 = .ok (.iconst 1, 1) := by decide +kernel
theorem dX9_take_105 : decode cX9_take 105 = .ok (.if_icmp .ne 7, 3) := by decide +kernel
theorem dX9_take_108 : decode cX9_take 108 = .ok (.iconst 1, 1) := by decide +kernel
theorem dX9_take_109 : decode cX9_take 109 = .ok (.goto 4, 3) := by decide +kernel
theorem dX9_take_112 : decode cX9_take 112 = .ok (.iconst 0, 1) := by decide +kernel
theorem dX9_take_113 : decode cX9_take 113 = .ok (.putfield 231, 3) := by decide +kernel
theorem dX9_take_116 : decode cX9_take 116 = .ok (.return_, 1) := by decide +kernel
theorem dX9_deeper_0 : decode cX9_deeper 0 = .ok (.iload_n 1, 1) := by decide +kernel
theorem dX9_deeper_1 : decode cX9_deeper 1 = .ok (.bipush 31, 2) := by decide +kernel
theorem dX9_deeper_3 : decode cX9_deeper 3 = .ok (.imul, 1) := by decide +kernel
theorem dX9_deeper_4 : decode cX9_deeper 4 = .ok (.iload_n 2, 1) := by decide +kernel
theorem dX9_deeper_5 : decode cX9_deeper 5 = .ok (.iadd, 1) := by decide +kernel
theorem dX9_deeper_6 : decode cX9_deeper 6 = .ok (.sipush 1023, 3) := by decide +kernel
theorem dX9_deeper_9 : decode cX9_deeper 9 = .ok (.iand, 1) := by decide +kernel
theorem dX9_deeper_10 : decode cX9_deeper 10 = .ok (.istore_n 3, 1) := by decide +kernel
theorem dX9_deeper_11 : decode cX9_deeper 11 = .ok (.aload_n 0, 1) := by decide +kernel
theorem dX9_deeper_12 : decode cX9_deeper 12 = .ok (.getfield 100, 3) := by decide +kernel
theorem dX9_deeper_15 : decode cX9_deeper 15 = .ok (.iload_n 3, 1) := by decide +kernel
theorem dX9_deeper_16 : decode cX9_deeper 16 = .ok (.iaload, 1) := by decide +kernel
theorem dX9_deeper_17 : decode cX9_deeper 17 = .ok (.istore 4, 2) := by decide +kernel
theorem dX9_deeper_19 : decode cX9_deeper 19 = .ok (.iload 4, 2) := by decide +kernel
theorem dX9_deeper_21 : decode cX9_deeper 21 = .ok (.ifCond .le 40, 3) := by decide +kernel
theorem dX9_deeper_24 : decode cX9_deeper 24 = .ok (.aload_n 0, 1) := by decide +kernel
theorem dX9_deeper_25 : decode cX9_deeper 25 = .ok (.getfield 91, 3) := by decide +kernel
theorem dX9_deeper_28 : decode cX9_deeper 28 = .ok (.iload 4, 2) := by decide +kernel
theorem dX9_deeper_30 : decode cX9_deeper 30 = .ok (.iaload, 1) := by decide +kernel
theorem dX9_deeper_31 : decode cX9_deeper 31 = .ok (.iload_n 1, 1) := by decide +kernel
theorem dX9_deeper_32 : decode cX9_deeper 32 = .ok (.if_icmp .ne 17, 3) := by decide +kernel
theorem dX9_deeper_35 : decode cX9_deeper 35 = .ok (.aload_n 0, 1) := by decide +kernel
theorem dX9_deeper_36 : decode cX9_deeper 36 = .ok (.getfield 88, 3) := by decide +kernel
theorem dX9_deeper_39 : decode cX9_deeper 39 = .ok (.iload 4, 2) := by decide +kernel
theorem dX9_deeper_41 : decode cX9_deeper 41 = .ok (.iaload, 1) := by decide +kernel
theorem dX9_deeper_42 : decode cX9_deeper 42 = .ok (.iload_n 2, 1) := by decide +kernel
theorem dX9_deeper_43 : decode cX9_deeper 43 = .ok (.if_icmp .ne 6, 3) := by decide +kernel
theorem dX9_deeper_46 : decode cX9_deeper 46 = .ok (.iload 4, 2) := by decide +kernel
theorem dX9_deeper_48 : decode cX9_deeper 48 = .ok (.ireturn, 1) := by decide +kernel
theorem dX9_deeper_49 : decode cX9_deeper 49 = .ok (.aload_n 0, 1) := by decide +kernel
theorem dX9_deeper_50 : decode cX9_deeper 50 = .ok (.getfield 97, 3) := by decide +kernel
theorem dX9_deeper_53 : decode cX9_deeper 53 = .ok (.iload 4, 2) := by decide +kernel
theorem dX9_deeper_55 : decode cX9_deeper 55 = .ok (.iaload, 1) := by decide +kernel
theorem dX9_deeper_56 : decode cX9_deeper 56 = .ok (.istore 4, 2) := by decide +kernel
theorem dX9_deeper_58 : decode cX9_deeper 58 = .ok (.goto (-39), 3) := by decide +kernel
theorem dX9_deeper_61 : decode cX9_deeper 61 = .ok (.aload_n 0, 1) := by decide +kernel
theorem dX9_deeper_62 : decode cX9_deeper 62 = .ok (.dup, 1) := by decide +kernel
theorem dX9_deeper_63 : decode cX9_deeper 63 = .ok (.getfield 235, 3) := by decide +kernel
theorem dX9_deeper_66 : decode cX9_deeper 66 = .ok (.dup_x1, 1) := by decide +kernel
theorem dX9_deeper_67 : decode cX9_deeper 67 = .ok (.iconst 1, 1) := by decide +kernel
theorem dX9_deeper_68 : decode cX9_deeper 68 = .ok (.iadd, 1) := by decide +kernel
theorem dX9_deeper_69 : decode cX9_deeper 69 = .ok (.putfield 235, 3) := by decide +kernel
theorem dX9_deeper_72 : decode cX9_deeper 72 = .ok (.istore 4, 2) := by decide +kernel
theorem dX9_deeper_74 : decode cX9_deeper 74 = .ok (.aload_n 0, 1) := by decide +kernel
theorem dX9_deeper_75 : decode cX9_deeper 75 = .ok (.getfield 88, 3) := by decide +kernel
theorem dX9_deeper_78 : decode cX9_deeper 78 = .ok (.iload 4, 2) := by decide +kernel
theorem dX9_deeper_80 : decode cX9_deeper 80 = .ok (.iload_n 2, 1) := by decide +kernel
theorem dX9_deeper_81 : decode cX9_deeper 81 = .ok (.iastore, 1) := by decide +kernel
theorem dX9_deeper_82 : decode cX9_deeper 82 = .ok (.aload_n 0, 1) := by decide +kernel
theorem dX9_deeper_83 : decode cX9_deeper 83 = .ok (.getfield 91, 3) := by decide +kernel
theorem dX9_deeper_86 : decode cX9_deeper 86 = .ok (.iload 4, 2) := by decide +kernel
theorem dX9_deeper_88 : decode cX9_deeper 88 = .ok (.iload_n 1, 1) := by decide +kernel
theorem dX9_deeper_89 : decode cX9_deeper 89 = .ok (.iastore, 1) := by decide +kernel
theorem dX9_deeper_90 : decode cX9_deeper 90 = .ok (.aload_n 0, 1) := by decide +kernel
theorem dX9_deeper_91 : decode cX9_deeper 91 = .ok (.getfield 94, 3) := by decide +kernel
theorem dX9_deeper_94 : decode cX9_deeper 94 = .ok (.iload 4, 2) := by decide +kernel
theorem dX9_deeper_96 : decode cX9_deeper 96 = .ok (.aload_n 0, 1) := by decide +kernel
theorem dX9_deeper_97 : decode cX9_deeper 97 = .ok (.getfield 94, 3) := by decide +kernel
theorem dX9_deeper_100 : decode cX9_deeper 100 = .ok (.iload_n 1, 1) := by decide +kernel
theorem dX9_deeper_101 : decode cX9_deeper 101 = .ok (.iaload, 1) := by decide +kernel
theorem dX9_deeper_102 : decode cX9_deeper 102 = .ok (.iconst 1, 1) := by decide +kernel
theorem dX9_deeper_103 : decode cX9_deeper 103 = .ok (.iadd, 1) := by decide +kernel
theorem dX9_deeper_104 : decode cX9_deeper 104 = .ok (.iastore, 1) := by decide +kernel
theorem dX9_deeper_105 : decode cX9_deeper 105 = .ok (.aload_n 0, 1) := by decide +kernel
theorem dX9_deeper_106 : decode cX9_deeper 106 = .ok (.getfield 97, 3) := by decide +kernel
theorem dX9_deeper_109 : decode cX9_deeper 109 = .ok (.iload 4, 2) := by decide +kernel
theorem dX9_deeper_111 : decode cX9_deeper 111 = .ok (.aload_n 0, 1) := by decide +kernel
theorem dX9_deeper_112 : decode cX9_deeper 112 = .ok (.getfield 100, 3) := by decide +kernel
theorem dX9_deeper_115 : decode cX9_deeper 115 = .ok (.iload_n 3, 1) := by decide +kernel
theorem dX9_deeper_116 : decode cX9_deeper 116 = .ok (.iaload, 1) := by decide +kernel
theorem dX9_deeper_117 : decode cX9_deeper 117 = .ok (.iastore, 1) := by decide +kernel
theorem dX9_deeper_118 : decode cX9_deeper 118 = .ok (.aload_n 0, 1) := by decide +kernel
theorem dX9_deeper_119 : decode cX9_deeper 119 = .ok (.getfield 100, 3) := by decide +kernel
theorem dX9_deeper_122 : decode cX9_deeper 122 = .ok (.iload_n 3, 1) := by decide +kernel
theorem dX9_deeper_123 : decode cX9_deeper 123 = .ok (.iload 4, 2) := by decide +kernel
theorem dX9_deeper_125 : decode cX9_deeper 125 = .ok (.iastore, 1) := by decide +kernel
theorem dX9_deeper_126 : decode cX9_deeper 126 = .ok (.iload 4, 2) := by decide +kernel
theorem dX9_deeper_128 : decode cX9_deeper 128 = .ok (.ireturn, 1) := by decide +kernel
set_option maxRecDepth 20000 in
theorem ggX9_joined_X9_shared : GoodIn wsX9_joined wsX9_shared := goodIn_r _ [5, 6, 7, 8, 9, 10, 11, 12, 13, 14, 15, 16, 17, 4, 18, 1, 2, 3, 19, 20, 21, 22, 23, 24, 25, 26, 27, 28, 29, 30, 31, 32, 33, 34, 35, 36, 37, 38, 39, 40, 41, 42, 43, 44, 45, 46, 47, 48, 49, 50, 51, 52, 53, 54, 55, 56, 57, 58, 59, 60, 61, 62, 63, 64, 65, 66, 67, 68, 69, 70, 71, 72, 73, 74, 75, 76, 77, 78, 79, 80] rfl (by decide +kernel)
set_option maxRecDepth 20000 in
theorem gX9_joined_X9_shared : GoodIn wsX9_joined (wsV RX9 205 RX9 yX9_shared wsX9_shared) := goodIn_app (goodIn_of _ (by decide +kernel)) ggX9_joined_X9_shared
theorem dX9_joined_0 : decode cX9_joined 0 = .ok (.iload_n 1, 1) := by decide +kernel
theorem dX9_joined_1 : decode cX9_joined 1 = .ok (.iload_n 2, 1) := by decide +kernel
theorem dX9_joined_2 : decode cX9_joined 2 = .ok (.if_icmp .ne 5, 3) := by decide +kernel
theorem dX9_joined_5 : decode cX9_joined 5 = .ok (.iload_n 1, 1) := by decide +kernel
theorem dX9_joined_6 : decode cX9_joined 6 = .ok (.ireturn, 1) := by decide +kernel
theorem dX9_joined_7 : decode cX9_joined 7 = .ok (.iload_n 1, 1) := by decide +kernel
theorem dX9_joined_8 : decode cX9_joined 8 = .ok (.bipush 15, 2) := by decide +kernel
theorem dX9_joined_10 : decode cX9_joined 10 = .ok (.iand, 1) := by decide +kernel
theorem dX9_joined_11 : decode cX9_joined 11 = .ok (.bipush 8, 2) := by decide +kernel
theorem dX9_joined_13 : decode cX9_joined 13 = .ok (.if_icmp .ne 10, 3) := by decide +kernel
theorem dX9_joined_16 : decode cX9_joined 16 = .ok (.iload_n 2, 1) := by decide +kernel
theorem dX9_joined_17 : decode cX9_joined 17 = .ok (.iconst 5, 1) := by decide +kernel
theorem dX9_joined_18 : decode cX9_joined 18 = .ok (.if_icmp .ne 5, 3) := by decide +kernel
theorem dX9_joined_21 : decode cX9_joined 21 = .ok (.iload_n 1, 1) := by decide +kernel
theorem dX9_joined_22 : decode cX9_joined 22 = .ok (.ireturn, 1) := by decide +kernel
theorem dX9_joined_23 : decode cX9_joined 23 = .ok (.iload_n 1, 1) := by decide +kernel
theorem dX9_joined_24 : decode cX9_joined 24 = .ok (.iconst 5, 1) := by decide +kernel
theorem dX9_joined_25 : decode cX9_joined 25 = .ok (.if_icmp .ne 14, 3) := by decide +kernel
theorem dX9_joined_28 : decode cX9_joined 28 = .ok (.iload_n 2, 1) := by decide +kernel
theorem dX9_joined_29 : decode cX9_joined 29 = .ok (.bipush 15, 2) := by decide +kernel
theorem dX9_joined_31 : decode cX9_joined 31 = .ok (.iand, 1) := by decide +kernel
theorem dX9_joined_32 : decode cX9_joined 32 = .ok (.bipush 8, 2) := by decide +kernel
theorem dX9_joined_34 : decode cX9_joined 34 = .ok (.if_icmp .ne 5, 3) := by decide +kernel
theorem dX9_joined_37 : decode cX9_joined 37 = .ok (.iload_n 2, 1) := by decide +kernel
theorem dX9_joined_38 : decode cX9_joined 38 = .ok (.ireturn, 1) := by decide +kernel
theorem dX9_joined_39 : decode cX9_joined 39 = .ok (.iload_n 1, 1) := by decide +kernel
theorem dX9_joined_40 : decode cX9_joined 40 = .ok (.bipush 15, 2) := by decide +kernel
theorem dX9_joined_42 : decode cX9_joined 42 = .ok (.iand, 1) := by decide +kernel
theorem dX9_joined_43 : decode cX9_joined 43 = .ok (.bipush 8, 2) := by decide +kernel
theorem dX9_joined_45 : decode cX9_joined 45 = .ok (.if_icmp .ne 29, 3) := by decide +kernel
theorem dX9_joined_48 : decode cX9_joined 48 = .ok (.iload_n 2, 1) := by decide +kernel
theorem dX9_joined_49 : decode cX9_joined 49 = .ok (.bipush 15, 2) := by decide +kernel
theorem dX9_joined_51 : decode cX9_joined 51 = .ok (.iand, 1) := by decide +kernel
theorem dX9_joined_52 : decode cX9_joined 52 = .ok (.bipush 8, 2) := by decide +kernel
theorem dX9_joined_54 : decode cX9_joined 54 = .ok (.if_icmp .ne 20, 3) := by decide +kernel
theorem dX9_joined_57 : decode cX9_joined 57 = .ok (.bipush 16, 2) := by decide +kernel
theorem dX9_joined_59 : decode cX9_joined 59 = .ok (.aload_n 0, 1) := by decide +kernel
theorem dX9_joined_60 : decode cX9_joined 60 = .ok (.iload_n 1, 1) := by decide +kernel
theorem dX9_joined_61 : decode cX9_joined 61 = .ok (.iconst 4, 1) := by decide +kernel
theorem dX9_joined_62 : decode cX9_joined 62 = .ok (.ishr, 1) := by decide +kernel
theorem dX9_joined_63 : decode cX9_joined 63 = .ok (.iload_n 2, 1) := by decide +kernel
theorem dX9_joined_64 : decode cX9_joined 64 = .ok (.iconst 4, 1) := by decide +kernel
theorem dX9_joined_65 : decode cX9_joined 65 = .ok (.ishr, 1) := by decide +kernel
theorem dX9_joined_66 : decode cX9_joined 66 = .ok (.invokevirtual 205, 3) := by decide +kernel
theorem dX9_joined_69 : decode cX9_joined 69 = .ok (.imul, 1) := by decide +kernel
theorem dX9_joined_70 : decode cX9_joined 70 = .ok (.bipush 8, 2) := by decide +kernel
theorem dX9_joined_72 : decode cX9_joined 72 = .ok (.iadd, 1) := by decide +kernel
theorem dX9_joined_73 : decode cX9_joined 73 = .ok (.ireturn, 1) := by decide +kernel
theorem dX9_joined_74 : decode cX9_joined 74 = .ok (.iconst (-1), 1) := by decide +kernel
theorem dX9_joined_75 : decode cX9_joined 75 = .ok (.ireturn, 1) := by decide +kernel
def ckX9_comes : List (List Cond) := [[.code yX9_comes cX9_comes 9 (some .boolean)], wsX9_comes_r1, wsX9_comes_r2, wsX9_comes_r3, wsX90]
theorem ckX9_comesl : wsX9_comes = ckX9_comes.flatten := by
  simp only [wsX9_comes, ckX9_comes, List.flatten_cons, List.flatten_nil, List.append_assoc, List.append_nil, List.cons_append, List.nil_append]
set_option maxRecDepth 20000 in
theorem ggX9_comes_X9_size : GoodIn wsX9_comes wsX9_size := goodIn_t ckX9_comes ckX9_comesl _ [(1, 17), (1, 4), (1, 5), (4, 0), (4, 1), (4, 2), (4, 3), (4, 4), (4, 5), (4, 6), (4, 7), (4, 8), (4, 9), (4, 10), (4, 11), (4, 12), (4, 13), (4, 14), (4, 15), (4, 16), (4, 17), (4, 18), (4, 19), (4, 20), (4, 21), (4, 22), (4, 23), (4, 24), (4, 25), (4, 26), (4, 27), (4, 28), (4, 29), (4, 30), (4, 31), (4, 32), (4, 33), (4, 34), (4, 35), (4, 36), (4, 37), (4, 38), (4, 39), (4, 40), (4, 41), (4, 42), (4, 43), (4, 44), (4, 45), (4, 46), (4, 47), (4, 48), (4, 49), (4, 50), (4, 51), (4, 52), (4, 53), (4, 54), (4, 55), (4, 56), (4, 57), (4, 58), (4, 59), (4, 60), (4, 61)] rfl (by decide +kernel)
set_option maxRecDepth 20000 in
theorem gX9_comes_X9_size : GoodIn wsX9_comes (wsV RX9 241 RX9 yX9_size wsX9_size) := goodIn_app (goodIn_of _ (by decide +kernel)) ggX9_comes_X9_size
set_option maxRecDepth 20000 in
theorem ggX9_comes_X9_keep : GoodIn wsX9_comes wsX9_keep := goodIn_t ckX9_comes ckX9_comesl _ [(1, 21), (1, 4), (1, 8), (1, 10), (1, 9), (1, 11), (1, 5), (1, 12), (4, 0), (4, 1), (4, 2), (4, 3), (4, 4), (4, 5), (4, 6), (4, 7), (4, 8), (4, 9), (4, 10), (4, 11), (4, 12), (4, 13), (4, 14), (4, 15), (4, 16), (4, 17), (4, 18), (4, 19), (4, 20), (4, 21), (4, 22), (4, 23), (4, 24), (4, 25), (4, 26), (4, 27), (4, 28), (4, 29), (4, 30), (4, 31), (4, 32), (4, 33), (4, 34), (4, 35), (4, 36), (4, 37), (4, 38), (4, 39), (4, 40), (4, 41), (4, 42), (4, 43), (4, 44), (4, 45), (4, 46), (4, 47), (4, 48), (4, 49), (4, 50), (4, 51), (4, 52), (4, 53), (4, 54), (4, 55), (4, 56), (4, 57), (4, 58), (4, 59), (4, 60), (4, 61)] rfl (by decide +kernel)
set_option maxRecDepth 20000 in
theorem gX9_comes_X9_keep : GoodIn wsX9_comes (wsV RX9 244 RX9 yX9_keep wsX9_keep) := goodIn_app (goodIn_of _ (by decide +kernel)) ggX9_comes_X9_keep
set_option maxRecDepth 20000 in
theorem ggX9_comes_X9_waits : GoodIn wsX9_comes wsX9_waits := goodIn_t ckX9_comes ckX9_comesl _ [(2, 1), (1, 7), (2, 2), (2, 3), (2, 4), (4, 0), (4, 1), (4, 2), (4, 3), (4, 4), (4, 5), (4, 6), (4, 7), (4, 8), (4, 9), (4, 10), (4, 11), (4, 12), (4, 13), (4, 14), (4, 15), (4, 16), (4, 17), (4, 18), (4, 19), (4, 20), (4, 21), (4, 22), (4, 23), (4, 24), (4, 25), (4, 26), (4, 27), (4, 28), (4, 29), (4, 30), (4, 31), (4, 32), (4, 33), (4, 34), (4, 35), (4, 36), (4, 37), (4, 38), (4, 39), (4, 40), (4, 41), (4, 42), (4, 43), (4, 44), (4, 45), (4, 46), (4, 47), (4, 48), (4, 49), (4, 50), (4, 51), (4, 52), (4, 53), (4, 54), (4, 55), (4, 56), (4, 57), (4, 58), (4, 59), (4, 60), (4, 61)] rfl (by decide +kernel)
set_option maxRecDepth 20000 in
theorem gX9_comes_X9_waits : GoodIn wsX9_comes (wsV RX9 248 RX9 yX9_waits wsX9_waits) := goodIn_app (goodIn_of _ (by decide +kernel)) ggX9_comes_X9_waits
set_option maxRecDepth 20000 in
theorem ggX9_comes_X9_joined : GoodIn wsX9_comes wsX9_joined := goodIn_t ckX9_comes ckX9_comesl _ [(2, 8), (2, 9), (2, 10), (2, 11), (1, 16), (2, 12), (2, 13), (2, 14), (2, 15), (2, 16), (2, 17), (2, 18), (2, 19), (2, 20), (2, 21), (2, 22), (2, 23), (3, 0), (3, 1), (4, 0), (4, 1), (4, 2), (4, 3), (4, 4), (4, 5), (4, 6), (4, 7), (4, 8), (4, 9), (4, 10), (4, 11), (4, 12), (4, 13), (4, 14), (4, 15), (4, 16), (4, 17), (4, 18), (4, 19), (4, 20), (4, 21), (4, 22), (4, 23), (4, 24), (4, 25), (4, 26), (4, 27), (4, 28), (4, 29), (4, 30), (4, 31), (4, 32), (4, 33), (4, 34), (4, 35), (4, 36), (4, 37), (4, 38), (4, 39), (4, 40), (4, 41), (4, 42), (4, 43), (4, 44), (4, 45), (4, 46), (4, 47), (4, 48), (4, 49), (4, 50), (4, 51), (4, 52), (4, 53), (4, 54), (4, 55), (4, 56), (4, 57), (4, 58), (4, 59), (4, 60), (4, 61)] rfl (by decide +kernel)
set_option maxRecDepth 20000 in
theorem gX9_comes_X9_joined : GoodIn wsX9_comes (wsV RX9 251 RX9 yX9_joined wsX9_joined) := goodIn_app (goodIn_of _ (by decide +kernel)) ggX9_comes_X9_joined
theorem dX9_comes_0 : decode cX9_comes 0 = .ok (.aload_n 0, 1) := by decide +kernel
theorem dX9_comes_1 : decode cX9_comes 1 = .ok (.getfield 112, 3) := by decide +kernel
theorem dX9_comes_4 : decode cX9_comes 4 = .ok (.iload_n 1, 1) := by decide +kernel
theorem dX9_comes_5 : decode cX9_comes 5 = .ok (.iaload, 1) := by decide +kernel
theorem dX9_comes_6 : decode cX9_comes 6 = .ok (.istore_n 3, 1) := by decide +kernel
theorem dX9_comes_7 : decode cX9_comes 7 = .ok (.iload_n 3, 1) := by decide +kernel
theorem dX9_comes_8 : decode cX9_comes 8 = .ok (.ifCond .lt 23, 3) := by decide +kernel
theorem dX9_comes_11 : decode cX9_comes 11 = .ok (.aload_n 0, 1) := by decide +kernel
theorem dX9_comes_12 : decode cX9_comes 12 = .ok (.getfield 106, 3) := by decide +kernel
theorem dX9_comes_15 : decode cX9_comes 15 = .ok (.iload_n 3, 1) := by decide +kernel
theorem dX9_comes_16 : decode cX9_comes 16 = .ok (.iaload, 1) := by decide +kernel
theorem dX9_comes_17 : decode cX9_comes 17 = .ok (.iload_n 2, 1) := by decide +kernel
theorem dX9_comes_18 : decode cX9_comes 18 = .ok (.if_icmp .eq 13, 3) := by decide +kernel
theorem dX9_comes_21 : decode cX9_comes 21 = .ok (.aload_n 0, 1) := by decide +kernel
theorem dX9_comes_22 : decode cX9_comes 22 = .ok (.getfield 109, 3) := by decide +kernel
theorem dX9_comes_25 : decode cX9_comes 25 = .ok (.iload_n 3, 1) := by decide +kernel
theorem dX9_comes_26 : decode cX9_comes 26 = .ok (.iaload, 1) := by decide +kernel
theorem dX9_comes_27 : decode cX9_comes 27 = .ok (.istore_n 3, 1) := by decide +kernel
theorem dX9_comes_28 : decode cX9_comes 28 = .ok (.goto (-21), 3) := by decide +kernel
theorem dX9_comes_31 : decode cX9_comes 31 = .ok (.iload_n 3, 1) := by decide +kernel
theorem dX9_comes_32 : decode cX9_comes 32 = .ok (.ifCond .ge 98, 3) := by decide +kernel
theorem dX9_comes_35 : decode cX9_comes 35 = .ok (.aload_n 0, 1) := by decide +kernel
theorem dX9_comes_36 : decode cX9_comes 36 = .ok (.getfield 238, 3) := by decide +kernel
theorem dX9_comes_39 : decode cX9_comes 39 = .ok (.iconst 1, 1) := by decide +kernel
theorem dX9_comes_40 : decode cX9_comes 40 = .ok (.iadd, 1) := by decide +kernel
theorem dX9_comes_41 : decode cX9_comes 41 = .ok (.aload_n 0, 1) := by decide +kernel
theorem dX9_comes_42 : decode cX9_comes 42 = .ok (.getfield 170, 3) := by decide +kernel
theorem dX9_comes_45 : decode cX9_comes 45 = .ok (.aload_n 0, 1) := by decide +kernel
theorem dX9_comes_46 : decode cX9_comes 46 = .ok (.getfield 173, 3) := by decide +kernel
theorem dX9_comes_49 : decode cX9_comes 49 = .ok (.iadd, 1) := by decide +kernel
theorem dX9_comes_50 : decode cX9_comes 50 = .ok (.iconst 1, 1) := by decide +kernel
theorem dX9_comes_51 : decode cX9_comes 51 = .ok (.iadd, 1) := by decide +kernel
theorem dX9_comes_52 : decode cX9_comes 52 = .ok (.imul, 1) := by decide +kernel
theorem dX9_comes_53 : decode cX9_comes 53 = .ok (.sipush 20000, 3) := by decide +kernel
theorem dX9_comes_56 : decode cX9_comes 56 = .ok (.if_icmp .le 5, 3) := by decide +kernel
theorem dX9_comes_59 : decode cX9_comes 59 = .ok (.iconst 0, 1) := by decide +kernel
theorem dX9_comes_60 : decode cX9_comes 60 = .ok (.ireturn, 1) := by decide +kernel
theorem dX9_comes_61 : decode cX9_comes 61 = .ok (.aload_n 0, 1) := by decide +kernel
theorem dX9_comes_62 : decode cX9_comes 62 = .ok (.dup, 1) := by decide +kernel
theorem dX9_comes_63 : decode cX9_comes 63 = .ok (.getfield 238, 3) := by decide +kernel
theorem dX9_comes_66 : decode cX9_comes 66 = .ok (.dup_x1, 1) := by decide +kernel
theorem dX9_comes_67 : decode cX9_comes 67 = .ok (.iconst 1, 1) := by decide +kernel
theorem dX9_comes_68 : decode cX9_comes 68 = .ok (.iadd, 1) := by decide +kernel
theorem dX9_comes_69 : decode cX9_comes 69 = .ok (.putfield 238, 3) := by decide +kernel
theorem dX9_comes_72 : decode cX9_comes 72 = .ok (.istore_n 3, 1) := by decide +kernel
theorem dX9_comes_73 : decode cX9_comes 73 = .ok (.aload_n 0, 1) := by decide +kernel
theorem dX9_comes_74 : decode cX9_comes 74 = .ok (.getfield 103, 3) := by decide +kernel
theorem dX9_comes_77 : decode cX9_comes 77 = .ok (.iload_n 3, 1) := by decide +kernel
theorem dX9_comes_78 : decode cX9_comes 78 = .ok (.iload_n 1, 1) := by decide +kernel
theorem dX9_comes_79 : decode cX9_comes 79 = .ok (.iastore, 1) := by decide +kernel
theorem dX9_comes_80 : decode cX9_comes 80 = .ok (.aload_n 0, 1) := by decide +kernel
theorem dX9_comes_81 : decode cX9_comes 81 = .ok (.getfield 106, 3) := by decide +kernel
theorem dX9_comes_84 : decode cX9_comes 84 = .ok (.iload_n 3, 1) := by decide +kernel
theorem dX9_comes_85 : decode cX9_comes 85 = .ok (.iload_n 2, 1) := by decide +kernel
theorem dX9_comes_86 : decode cX9_comes 86 = .ok (.iastore, 1) := by decide +kernel
theorem dX9_comes_87 : decode cX9_comes 87 = .ok (.aload_n 0, 1) := by decide +kernel
theorem dX9_comes_88 : decode cX9_comes 88 = .ok (.getfield 109, 3) := by decide +kernel
theorem dX9_comes_91 : decode cX9_comes 91 = .ok (.iload_n 3, 1) := by decide +kernel
theorem dX9_comes_92 : decode cX9_comes 92 = .ok (.aload_n 0, 1) := by decide +kernel
theorem dX9_comes_93 : decode cX9_comes 93 = .ok (.getfield 112, 3) := by decide +kernel
theorem dX9_comes_96 : decode cX9_comes 96 = .ok (.iload_n 1, 1) := by decide +kernel
theorem dX9_comes_97 : decode cX9_comes 97 = .ok (.iaload, 1) := by decide +kernel
theorem dX9_comes_98 : decode cX9_comes 98 = .ok (.iastore, 1) := by decide +kernel
theorem dX9_comes_99 : decode cX9_comes 99 = .ok (.aload_n 0, 1) := by decide +kernel
theorem dX9_comes_100 : decode cX9_comes 100 = .ok (.getfield 112, 3) := by decide +kernel
theorem dX9_comes_103 : decode cX9_comes 103 = .ok (.iload_n 1, 1) := by decide +kernel
theorem dX9_comes_104 : decode cX9_comes 104 = .ok (.iload_n 3, 1) := by decide +kernel
theorem dX9_comes_105 : decode cX9_comes 105 = .ok (.iastore, 1) := by decide +kernel
theorem dX9_comes_106 : decode cX9_comes 106 = .ok (.aload_n 0, 1) := by decide +kernel
theorem dX9_comes_107 : decode cX9_comes 107 = .ok (.getfield 115, 3) := by decide +kernel
theorem dX9_comes_110 : decode cX9_comes 110 = .ok (.iload_n 3, 1) := by decide +kernel
theorem dX9_comes_111 : decode cX9_comes 111 = .ok (.iconst 0, 1) := by decide +kernel
theorem dX9_comes_112 : decode cX9_comes 112 = .ok (.bastore, 1) := by decide +kernel
theorem dX9_comes_113 : decode cX9_comes 113 = .ok (.aload_n 0, 1) := by decide +kernel
theorem dX9_comes_114 : decode cX9_comes 114 = .ok (.iload_n 3, 1) := by decide +kernel
theorem dX9_comes_115 : decode cX9_comes 115 = .ok (.aload_n 0, 1) := by decide +kernel
theorem dX9_comes_116 : decode cX9_comes 116 = .ok (.invokevirtual 241, 3) := by decide +kernel
theorem dX9_comes_119 : decode cX9_comes 119 = .ok (.imul, 1) := by decide +kernel
theorem dX9_comes_120 : decode cX9_comes 120 = .ok (.invokevirtual 244, 3) := by decide +kernel
theorem dX9_comes_123 : decode cX9_comes 123 = .ok (.aload_n 0, 1) := by decide +kernel
theorem dX9_comes_124 : decode cX9_comes 124 = .ok (.iload_n 3, 1) := by decide +kernel
theorem dX9_comes_125 : decode cX9_comes 125 = .ok (.invokevirtual 248, 3) := by decide +kernel
theorem dX9_comes_128 : decode cX9_comes 128 = .ok (.iconst 1, 1) := by decide +kernel
theorem dX9_comes_129 : decode cX9_comes 129 = .ok (.ireturn, 1) := by decide +kernel
theorem dX9_comes_130 : decode cX9_comes 130 = .ok (.iload_n 3, 1) := by decide +kernel
theorem dX9_comes_131 : decode cX9_comes 131 = .ok (.aload_n 0, 1) := by decide +kernel
theorem dX9_comes_132 : decode cX9_comes 132 = .ok (.invokevirtual 241, 3) := by decide +kernel
theorem dX9_comes_135 : decode cX9_comes 135 = .ok (.imul, 1) := by decide +kernel
theorem dX9_comes_136 : decode cX9_comes 136 = .ok (.istore 4, 2) := by decide +kernel
theorem dX9_comes_138 : decode cX9_comes 138 = .ok (.aload_n 0, 1) := by decide +kernel
theorem dX9_comes_139 : decode cX9_comes 139 = .ok (.getfield 128, 3) := by decide +kernel
theorem dX9_comes_142 : decode cX9_comes 142 = .ok (.iload 4, 2) := by decide +kernel
theorem dX9_comes_144 : decode cX9_comes 144 = .ok (.aload_n 0, 1) := by decide +kernel
theorem dX9_comes_145 : decode cX9_comes 145 = .ok (.getfield 170, 3) := by decide +kernel
theorem dX9_comes_148 : decode cX9_comes 148 = .ok (.iadd, 1) := by decide +kernel
theorem dX9_comes_149 : decode cX9_comes 149 = .ok (.aload_n 0, 1) := by decide +kernel
theorem dX9_comes_150 : decode cX9_comes 150 = .ok (.getfield 173, 3) := by decide +kernel
theorem dX9_comes_153 : decode cX9_comes 153 = .ok (.iadd, 1) := by decide +kernel
theorem dX9_comes_154 : decode cX9_comes 154 = .ok (.iaload, 1) := by decide +kernel
theorem dX9_comes_155 : decode cX9_comes 155 = .ok (.aload_n 0, 1) := by decide +kernel
theorem dX9_comes_156 : decode cX9_comes 156 = .ok (.getfield 215, 3) := by decide +kernel
theorem dX9_comes_159 : decode cX9_comes 159 = .ok (.if_icmp .eq 5, 3) := by decide +kernel
theorem dX9_comes_162 : decode cX9_comes 162 = .ok (.iconst 0, 1) := by decide +kernel
theorem dX9_comes_163 : decode cX9_comes 163 = .ok (.ireturn, 1) := by decide +kernel
theorem dX9_comes_164 : decode cX9_comes 164 = .ok (.iconst 0, 1) := by decide +kernel
theorem dX9_comes_165 : decode cX9_comes 165 = .ok (.istore 5, 2) := by decide +kernel
theorem dX9_comes_167 : decode cX9_comes 167 = .ok (.iconst 0, 1) := by decide +kernel
theorem dX9_comes_168 : decode cX9_comes 168 = .ok (.istore 6, 2) := by decide +kernel
theorem dX9_comes_170 : decode cX9_comes 170 = .ok (.iload 6, 2) := by decide +kernel
theorem dX9_comes_172 : decode cX9_comes 172 = .ok (.aload_n 0, 1) := by decide +kernel
theorem dX9_comes_173 : decode cX9_comes 173 = .ok (.getfield 170, 3) := by decide +kernel
theorem dX9_comes_176 : decode cX9_comes 176 = .ok (.if_icmp .ge 70, 3) := by decide +kernel
theorem dX9_comes_179 : decode cX9_comes 179 = .ok (.aload_n 0, 1) := by decide +kernel
theorem dX9_comes_180 : decode cX9_comes 180 = .ok (.aload_n 0, 1) := by decide +kernel
theorem dX9_comes_181 : decode cX9_comes 181 = .ok (.getfield 128, 3) := by decide +kernel
theorem dX9_comes_184 : decode cX9_comes 184 = .ok (.iload 4, 2) := by decide +kernel
theorem dX9_comes_186 : decode cX9_comes 186 = .ok (.iload 6, 2) := by decide +kernel
theorem dX9_comes_188 : decode cX9_comes 188 = .ok (.iadd, 1) := by decide +kernel
theorem dX9_comes_189 : decode cX9_comes 189 = .ok (.iaload, 1) := by decide +kernel
theorem dX9_comes_190 : decode cX9_comes 190 = .ok (.aload_n 0, 1) := by decide +kernel
theorem dX9_comes_191 : decode cX9_comes 191 = .ok (.getfield 82, 3) := by decide +kernel
theorem dX9_comes_194 : decode cX9_comes 194 = .ok (.iload 6, 2) := by decide +kernel
theorem dX9_comes_196 : decode cX9_comes 196 = .ok (.iaload, 1) := by decide +kernel
theorem dX9_comes_197 : decode cX9_comes 197 = .ok (.invokevirtual 251, 3) := by decide +kernel
theorem dX9_comes_200 : decode cX9_comes 200 = .ok (.istore 7, 2) := by decide +kernel
theorem dX9_comes_202 : decode cX9_comes 202 = .ok (.iload 7, 2) := by decide +kernel
theorem dX9_comes_204 : decode cX9_comes 204 = .ok (.ifCond .ge 6, 3) := by decide +kernel
theorem dX9_comes_207 : decode cX9_comes 207 = .ok (.iconst 0, 1) := by decide +kernel
theorem dX9_comes_208 : decode cX9_comes 208 = .ok (.istore 7, 2) := by decide +kernel
theorem dX9_comes_210 : decode cX9_comes 210 = .ok (.iload 7, 2) := by decide +kernel
theorem dX9_comes_212 : decode cX9_comes 212 = .ok (.aload_n 0, 1) := by decide +kernel
theorem dX9_comes_213 : decode cX9_comes 213 = .ok (.getfield 128, 3) := by decide +kernel
theorem dX9_comes_216 : decode cX9_comes 216 = .ok (.iload 4, 2) := by decide +kernel
theorem dX9_comes_218 : decode cX9_comes 218 = .ok (.iload 6, 2) := by decide +kernel
theorem dX9_comes_220 : decode cX9_comes 220 = .ok (.iadd, 1) := by decide +kernel
theorem dX9_comes_221 : decode cX9_comes 221 = .ok (.iaload, 1) := by decide +kernel
theorem dX9_comes_222 : decode cX9_comes 222 = .ok (.if_icmp .eq 18, 3) := by decide +kernel
theorem dX9_comes_225 : decode cX9_comes 225 = .ok (.aload_n 0, 1) := by decide +kernel
theorem dX9_comes_226 : decode cX9_comes 226 = .ok (.getfield 128, 3) := by decide +kernel
theorem dX9_comes_229 : decode cX9_comes 229 = .ok (.iload 4, 2) := by decide +kernel
theorem dX9_comes_231 : decode cX9_comes 231 = .ok (.iload 6, 2) := by decide +kernel
theorem dX9_comes_233 : decode cX9_comes 233 = .ok (.iadd, 1) := by decide +kernel
theorem dX9_comes_234 : decode cX9_comes 234 = .ok (.iload 7, 2) := by decide +kernel
theorem dX9_comes_236 : decode cX9_comes 236 = .ok (.iastore, 1) := by decide +kernel
theorem dX9_comes_237 : decode cX9_comes 237 = .ok (.iconst 1, 1) := by decide +kernel
theorem dX9_comes_238 : decode cX9_comes 238 = .ok (.istore 5, 2) := by decide +kernel
theorem dX9_comes_240 : decode cX9_comes 240 = .ok (.iinc 6 1, 3) := by decide +kernel
theorem dX9_comes_243 : decode cX9_comes 243 = .ok (.goto (-73), 3) := by decide +kernel
theorem dX9_comes_246 : decode cX9_comes 246 = .ok (.iconst 0, 1) := by decide +kernel
theorem dX9_comes_247 : decode cX9_comes 247 = .ok (.istore 6, 2) := by decide +kernel
theorem dX9_comes_249 : decode cX9_comes 249 = .ok (.iload 6, 2) := by decide +kernel
theorem dX9_comes_251 : decode cX9_comes 251 = .ok (.aload_n 0, 1) := by decide +kernel
theorem dX9_comes_252 : decode cX9_comes 252 = .ok (.getfield 170, 3) := by decide +kernel
theorem dX9_comes_255 : decode cX9_comes 255 = .ok (.if_icmp .ge 117, 3) := by decide +kernel
theorem dX9_comes_258 : decode cX9_comes 258 = .ok (.aload_n 0, 1) := by decide +kernel
theorem dX9_comes_259 : decode cX9_comes 259 = .ok (.getfield 128, 3) := by decide +kernel
theorem dX9_comes_262 : decode cX9_comes 262 = .ok (.iload 4, 2) := by decide +kernel
theorem dX9_comes_264 : decode cX9_comes 264 = .ok (.iload 6, 2) := by decide +kernel
theorem dX9_comes_266 : decode cX9_comes 266 = .ok (.iadd, 1) := by decide +kernel
theorem dX9_comes_267 : decode cX9_comes 267 = .ok (.iaload, 1) := by decide +kernel
theorem dX9_comes_268 : decode cX9_comes 268 = .ok (.istore 7, 2) := by decide +kernel
theorem dX9_comes_270 : decode cX9_comes 270 = .ok (.iload 7, 2) := by decide +kernel
theorem dX9_comes_272 : decode cX9_comes 272 = .ok (.iconst 3, 1) := by decide +kernel
theorem dX9_comes_273 : decode cX9_comes 273 = .ok (.if_icmp .eq 9, 3) := by decide +kernel
theorem dX9_comes_276 : decode cX9_comes 276 = .ok (.iload 7, 2) := by decide +kernel
theorem dX9_comes_278 : decode cX9_comes 278 = .ok (.iconst 4, 1) := by decide +kernel
theorem dX9_comes_279 : decode cX9_comes 279 = .ok (.if_icmp .ne 7, 3) := by decide +kernel
theorem dX9_comes_282 : decode cX9_comes 282 = .ok (.iconst 1, 1) := by decide +kernel
theorem dX9_comes_283 : decode cX9_comes 283 = .ok (.goto 4, 3) := by decide +kernel
theorem dX9_comes_286 : decode cX9_comes 286 = .ok (.iconst 0, 1) := by decide +kernel
theorem dX9_comes_287 : decode cX9_comes 287 = .ok (.istore 8, 2) := by decide +kernel
theorem dX9_comes_289 : decode cX9_comes 289 = .ok (.iload 7, 2) := by decide +kernel
theorem dX9_comes_291 : decode cX9_comes 291 = .ok (.bipush 7, 2) := by decide +kernel
theorem dX9_comes_293 : decode cX9_comes 293 = .ok (.if_icmp .ne 40, 3) := by decide +kernel
theorem dX9_comes_296 : decode cX9_comes 296 = .ok (.iload 6, 2) := by decide +kernel
theorem dX9_comes_298 : decode cX9_comes 298 = .ok (.ifCond .eq 57, 3) := by decide +kernel
theorem dX9_comes_301 : decode cX9_comes 301 = .ok (.aload_n 0, 1) := by decide +kernel
theorem dX9_comes_302 : decode cX9_comes 302 = .ok (.getfield 128, 3) := by decide +kernel
theorem dX9_comes_305 : decode cX9_comes 305 = .ok (.iload 4, 2) := by decide +kernel
theorem dX9_comes_307 : decode cX9_comes 307 = .ok (.iload 6, 2) := by decide +kernel
theorem dX9_comes_309 : decode cX9_comes 309 = .ok (.iadd, 1) := by decide +kernel
theorem dX9_comes_310 : decode cX9_comes 310 = .ok (.iconst 1, 1) := by decide +kernel
theorem dX9_comes_311 : decode cX9_comes 311 = .ok (.isub, 1) := by decide +kernel
theorem dX9_comes_312 : decode cX9_comes 312 = .ok (.iaload, 1) := by decide +kernel
theorem dX9_comes_313 : decode cX9_comes 313 = .ok (.iconst 3, 1) := by decide +kernel
theorem dX9_comes_314 : decode cX9_comes 314 = .ok (.if_icmp .eq 19, 3) := by decide +kernel
theorem dX9_comes_317 : decode cX9_comes 317 = .ok (.aload_n 0, 1) := by decide +kernel
theorem dX9_comes_318 : decode cX9_comes 318 = .ok (.getfield 128, 3) := by decide +kernel
theorem dX9_comes_321 : decode cX9_comes 321 = .ok (.iload 4, 2) := by decide +kernel
theorem dX9_comes_323 : decode cX9_comes 323 = .ok (.iload 6, 2) := by decide +kernel
theorem dX9_comes_325 : decode cX9_comes 325 = .ok (.iadd, 1) := by decide +kernel
theorem dX9_comes_326 : decode cX9_comes 326 = .ok (.iconst 1, 1) := by decide +kernel
theorem dX9_comes_327 : decode cX9_comes 327 = .ok (.isub, 1) := by decide +kernel
theorem dX9_comes_328 : decode cX9_comes 328 = .ok (.iaload, 1) := by decide +kernel
theorem dX9_comes_329 : decode cX9_comes 329 = .ok (.iconst 4, 1) := by decide +kernel
theorem dX9_comes_330 : decode cX9_comes 330 = .ok (.if_icmp .ne 25, 3) := by decide +kernel
theorem dX9_comes_333 : decode cX9_comes 333 = .ok (.iload 8, 2) := by decide +kernel
theorem dX9_comes_335 : decode cX9_comes 335 = .ok (.ifCond .eq 31, 3) := by decide +kernel
theorem dX9_comes_338 : decode cX9_comes 338 = .ok (.aload_n 0, 1) := by decide +kernel
theorem dX9_comes_339 : decode cX9_comes 339 = .ok (.getfield 128, 3) := by decide +kernel
theorem dX9_comes_342 : decode cX9_comes 342 = .ok (.iload 4, 2) := by decide +kernel
theorem dX9_comes_344 : decode cX9_comes 344 = .ok (.iload 6, 2) := by decide +kernel
theorem dX9_comes_346 : decode cX9_comes 346 = .ok (.iadd, 1) := by decide +kernel
theorem dX9_comes_347 : decode cX9_comes 347 = .ok (.iconst 1, 1) := by decide +kernel
theorem dX9_comes_348 : decode cX9_comes 348 = .ok (.iadd, 1) := by decide +kernel
theorem dX9_comes_349 : decode cX9_comes 349 = .ok (.iaload, 1) := by decide +kernel
theorem dX9_comes_350 : decode cX9_comes 350 = .ok (.bipush 7, 2) := by decide +kernel
theorem dX9_comes_352 : decode cX9_comes 352 = .ok (.if_icmp .eq 14, 3) := by decide +kernel
theorem dX9_comes_355 : decode cX9_comes 355 = .ok (.aload_n 0, 1) := by decide +kernel
theorem dX9_comes_356 : decode cX9_comes 356 = .ok (.getfield 128, 3) := by decide +kernel
theorem dX9_comes_359 : decode cX9_comes 359 = .ok (.iload 4, 2) := by decide +kernel
theorem dX9_comes_361 : decode cX9_comes 361 = .ok (.iload 6, 2) := by decide +kernel
theorem dX9_comes_363 : decode cX9_comes 363 = .ok (.iadd, 1) := by decide +kernel
theorem dX9_comes_364 : decode cX9_comes 364 = .ok (.iconst 0, 1) := by decide +kernel
theorem dX9_comes_365 : decode cX9_comes 365 = .ok (.iastore, 1) := by decide +kernel
theorem dX9_comes_366 : decode cX9_comes 366 = .ok (.iinc 6 1, 3) := by decide +kernel
theorem dX9_comes_369 : decode cX9_comes 369 = .ok (.goto (-120), 3) := by decide +kernel
theorem dX9_comes_372 : decode cX9_comes 372 = .ok (.iconst 0, 1) := by decide +kernel
theorem dX9_comes_373 : decode cX9_comes 373 = .ok (.istore 6, 2) := by decide +kernel
theorem dX9_comes_375 : decode cX9_comes 375 = .ok (.iload 6, 2) := by decide +kernel
theorem dX9_comes_377 : decode cX9_comes 377 = .ok (.aload_n 0, 1) := by decide +kernel
theorem dX9_comes_378 : decode cX9_comes 378 = .ok (.getfield 215, 3) := by decide +kernel
theorem dX9_comes_381 : decode cX9_comes 381 = .ok (.if_icmp .ge 84, 3) := by decide +kernel
theorem dX9_comes_384 : decode cX9_comes 384 = .ok (.aload_n 0, 1) := by decide +kernel
theorem dX9_comes_385 : decode cX9_comes 385 = .ok (.aload_n 0, 1) := by decide +kernel
theorem dX9_comes_386 : decode cX9_comes 386 = .ok (.getfield 128, 3) := by decide +kernel
theorem dX9_comes_389 : decode cX9_comes 389 = .ok (.iload 4, 2) := by decide +kernel
theorem dX9_comes_391 : decode cX9_comes 391 = .ok (.aload_n 0, 1) := by decide +kernel
theorem dX9_comes_392 : decode cX9_comes 392 = .ok (.getfield 170, 3) := by decide +kernel
theorem dX9_comes_395 : decode cX9_comes 395 = .ok (.iadd, 1) := by decide +kernel
theorem dX9_comes_396 : decode cX9_comes 396 = .ok (.iload 6, 2) := by decide +kernel
theorem dX9_comes_398 : decode cX9_comes 398 = .ok (.iadd, 1) := by decide +kernel
theorem dX9_comes_399 : decode cX9_comes 399 = .ok (.iaload, 1) := by decide +kernel
theorem dX9_comes_400 : decode cX9_comes 400 = .ok (.aload_n 0, 1) := by decide +kernel
theorem dX9_comes_401 : decode cX9_comes 401 = .ok (.getfield 85, 3) := by decide +kernel
theorem dX9_comes_404 : decode cX9_comes 404 = .ok (.iload 6, 2) := by decide +kernel
theorem dX9_comes_406 : decode cX9_comes 406 = .ok (.iaload, 1) := by decide +kernel
theorem dX9_comes_407 : decode cX9_comes 407 = .ok (.invokevirtual 251, 3) := by decide +kernel
theorem dX9_comes_410 : decode cX9_comes 410 = .ok (.istore 7, 2) := by decide +kernel
theorem dX9_comes_412 : decode cX9_comes 412 = .ok (.iload 7, 2) := by decide +kernel
theorem dX9_comes_414 : decode cX9_comes 414 = .ok (.ifCond .ge 5, 3) := by decide +kernel
theorem dX9_comes_417 : decode cX9_comes 417 = .ok (.iconst 0, 1) := by decide +kernel
theorem dX9_comes_418 : decode cX9_comes 418 = .ok (.ireturn, 1) := by decide +kernel
theorem dX9_comes_419 : decode cX9_comes 419 = .ok (.iload 7, 2) := by decide +kernel
theorem dX9_comes_421 : decode cX9_comes 421 = .ok (.aload_n 0, 1) := by decide +kernel
theorem dX9_comes_422 : decode cX9_comes 422 = .ok (.getfield 128, 3) := by decide +kernel
theorem dX9_comes_425 : decode cX9_comes 425 = .ok (.iload 4, 2) := by decide +kernel
theorem dX9_comes_427 : decode cX9_comes 427 = .ok (.aload_n 0, 1) := by decide +kernel
theorem dX9_comes_428 : decode cX9_comes 428 = .ok (.getfield 170, 3) := by decide +kernel
theorem dX9_comes_431 : decode cX9_comes 431 = .ok (.iadd, 1) := by decide +kernel
theorem dX9_comes_432 : decode cX9_comes 432 = .ok (.iload 6, 2) := by decide +kernel
theorem dX9_comes_434 : decode cX9_comes 434 = .ok (.iadd, 1) := by decide +kernel
theorem dX9_comes_435 : decode cX9_comes 435 = .ok (.iaload, 1) := by decide +kernel
theorem dX9_comes_436 : decode cX9_comes 436 = .ok (.if_icmp .eq 23, 3) := by decide +kernel
theorem dX9_comes_439 : decode cX9_comes 439 = .ok (.aload_n 0, 1) := by decide +kernel
theorem dX9_comes_440 : decode cX9_comes 440 = .ok (.getfield 128, 3) := by decide +kernel
theorem dX9_comes_443 : decode cX9_comes 443 = .ok (.iload 4, 2) := by decide +kernel
theorem dX9_comes_445 : decode cX9_comes 445 = .ok (.aload_n 0, 1) := by decide +kernel
theorem dX9_comes_446 : decode cX9_comes 446 = .ok (.getfield 170, 3) := by decide +kernel
theorem dX9_comes_449 : decode cX9_comes 449 = .ok (.iadd, 1) := by decide +kernel
theorem dX9_comes_450 : decode cX9_comes 450 = .ok (.iload 6, 2) := by decide +kernel
theorem dX9_comes_452 : decode cX9_comes 452 = .ok (.iadd, 1) := by decide +kernel
theorem dX9_comes_453 : decode cX9_comes 453 = .ok (.iload 7, 2) := by decide +kernel
theorem dX9_comes_455 : decode cX9_comes 455 = .ok (.iastore, 1) := by decide +kernel
theorem dX9_comes_456 : decode cX9_comes 456 = .ok (.iconst 1, 1) := by decide +kernel
theorem dX9_comes_457 : decode cX9_comes 457 = .ok (.istore 5, 2) := by decide +kernel
theorem dX9_comes_459 : decode cX9_comes 459 = .ok (.iinc 6 1, 3) := by decide +kernel
theorem dX9_comes_462 : decode cX9_comes 462 = .ok (.goto (-87), 3) := by decide +kernel
theorem dX9_comes_465 : decode cX9_comes 465 = .ok (.aload_n 0, 1) := by decide +kernel
theorem dX9_comes_466 : decode cX9_comes 466 = .ok (.getfield 231, 3) := by decide +kernel
theorem dX9_comes_469 : decode cX9_comes 469 = .ok (.ifCond .ne 49, 3) := by decide +kernel
theorem dX9_comes_472 : decode cX9_comes 472 = .ok (.aload_n 0, 1) := by decide +kernel
theorem dX9_comes_473 : decode cX9_comes 473 = .ok (.getfield 128, 3) := by decide +kernel
theorem dX9_comes_476 : decode cX9_comes 476 = .ok (.iload 4, 2) := by decide +kernel
theorem dX9_comes_478 : decode cX9_comes 478 = .ok (.aload_n 0, 1) := by decide +kernel
theorem dX9_comes_479 : decode cX9_comes 479 = .ok (.getfield 170, 3) := by decide +kernel
theorem dX9_comes_482 : decode cX9_comes 482 = .ok (.iadd, 1) := by decide +kernel
theorem dX9_comes_483 : decode cX9_comes 483 = .ok (.aload_n 0, 1) := by decide +kernel
theorem dX9_comes_484 : decode cX9_comes 484 = .ok (.getfield 173, 3) := by decide +kernel
theorem dX9_comes_487 : decode cX9_comes 487 = .ok (.iadd, 1) := by decide +kernel
theorem dX9_comes_488 : decode cX9_comes 488 = .ok (.iconst 1, 1) := by decide +kernel
theorem dX9_comes_489 : decode cX9_comes 489 = .ok (.iadd, 1) := by decide +kernel
theorem dX9_comes_490 : decode cX9_comes 490 = .ok (.iaload, 1) := by decide +kernel
theorem dX9_comes_491 : decode cX9_comes 491 = .ok (.iconst 1, 1) := by decide +kernel
theorem dX9_comes_492 : decode cX9_comes 492 = .ok (.if_icmp .ne 26, 3) := by decide +kernel
theorem dX9_comes_495 : decode cX9_comes 495 = .ok (.aload_n 0, 1) := by decide +kernel
theorem dX9_comes_496 : decode cX9_comes 496 = .ok (.getfield 128, 3) := by decide +kernel
theorem dX9_comes_499 : decode cX9_comes 499 = .ok (.iload 4, 2) := by decide +kernel
theorem dX9_comes_501 : decode cX9_comes 501 = .ok (.aload_n 0, 1) := by decide +kernel
theorem dX9_comes_502 : decode cX9_comes 502 = .ok (.getfield 170, 3) := by decide +kernel
theorem dX9_comes_505 : decode cX9_comes 505 = .ok (.iadd, 1) := by decide +kernel
theorem dX9_comes_506 : decode cX9_comes 506 = .ok (.aload_n 0, 1) := by decide +kernel
theorem dX9_comes_507 : decode cX9_comes 507 = .ok (.getfield 173, 3) := by decide +kernel
theorem dX9_comes_510 : decode cX9_comes 510 = .ok (.iadd, 1) := by decide +kernel
theorem dX9_comes_511 : decode cX9_comes 511 = .ok (.iconst 1, 1) := by decide +kernel
theorem dX9_comes_512 : decode cX9_comes 512 = .ok (.iadd, 1) := by decide +kernel
theorem dX9_comes_513 : decode cX9_comes 513 = .ok (.iconst 0, 1) := by decide +kernel
theorem dX9_comes_514 : decode cX9_comes 514 = .ok (.iastore, 1) := by decide +kernel
theorem dX9_comes_515 : decode cX9_comes 515 = .ok (.iconst 1, 1) := by decide +kernel
theorem dX9_comes_516 : decode cX9_comes 516 = .ok (.istore 5, 2) := by decide +kernel
theorem dX9_comes_518 : decode cX9_comes 518 = .ok (.iload 5, 2) := by decide +kernel
theorem dX9_comes_520 : decode cX9_comes 520 = .ok (.ifCond .eq 8, 3) := by decide +kernel
theorem dX9_comes_523 : decode cX9_comes 523 = .ok (.aload_n 0, 1) := by decide +kernel
theorem dX9_comes_524 : decode cX9_comes 524 = .ok (.iload_n 3, 1) := by decide +kernel
theorem dX9_comes_525 : decode cX9_comes 525 = .ok (.invokevirtual 248, 3) := by decide +kernel
theorem dX9_comes_528 : decode cX9_comes 528 = .ok (.iconst 1, 1) := by decide +kernel
theorem dX9_comes_529 : decode cX9_comes 529 = .ok (.ireturn, 1) := by decide +kernel
theorem dX9_waits_0 : decode cX9_waits 0 = .ok (.aload_n 0, 1) := by decide +kernel
theorem dX9_waits_1 : decode cX9_waits 1 = .ok (.getfield 115, 3) := by decide +kernel
theorem dX9_waits_4 : decode cX9_waits 4 = .ok (.iload_n 1, 1) := by decide +kernel
theorem dX9_waits_5 : decode cX9_waits 5 = .ok (.baload, 1) := by decide +kernel
theorem dX9_waits_6 : decode cX9_waits 6 = .ok (.ifCond .eq 4, 3) := by decide +kernel
theorem dX9_waits_9 : decode cX9_waits 9 = .ok (.return_, 1) := by decide +kernel
theorem dX9_waits_10 : decode cX9_waits 10 = .ok (.aload_n 0, 1) := by decide +kernel
theorem dX9_waits_11 : decode cX9_waits 11 = .ok (.getfield 115, 3) := by decide +kernel
theorem dX9_waits_14 : decode cX9_waits 14 = .ok (.iload_n 1, 1) := by decide +kernel
theorem dX9_waits_15 : decode cX9_waits 15 = .ok (.iconst 1, 1) := by decide +kernel
theorem dX9_waits_16 : decode cX9_waits 16 = .ok (.bastore, 1) := by decide +kernel
theorem dX9_waits_17 : decode cX9_waits 17 = .ok (.aload_n 0, 1) := by decide +kernel
theorem dX9_waits_18 : decode cX9_waits 18 = .ok (.getfield 121, 3) := by decide +kernel
theorem dX9_waits_21 : decode cX9_waits 21 = .ok (.aload_n 0, 1) := by decide +kernel
theorem dX9_waits_22 : decode cX9_waits 22 = .ok (.getfield 254, 3) := by decide +kernel
theorem dX9_waits_25 : decode cX9_waits 25 = .ok (.aload_n 0, 1) := by decide +kernel
theorem dX9_waits_26 : decode cX9_waits 26 = .ok (.getfield 257, 3) := by decide +kernel
theorem dX9_waits_29 : decode cX9_waits 29 = .ok (.iadd, 1) := by decide +kernel
theorem dX9_waits_30 : decode cX9_waits 30 = .ok (.sipush 20010, 3) := by decide +kernel
theorem dX9_waits_33 : decode cX9_waits 33 = .ok (.irem, 1) := by decide +kernel
theorem dX9_waits_34 : decode cX9_waits 34 = .ok (.iload_n 1, 1) := by decide +kernel
theorem dX9_waits_35 : decode cX9_waits 35 = .ok (.iastore, 1) := by decide +kernel
theorem dX9_waits_36 : decode cX9_waits 36 = .ok (.aload_n 0, 1) := by decide +kernel
theorem dX9_waits_37 : decode cX9_waits 37 = .ok (.dup, 1) := by decide +kernel
theorem dX9_waits_38 : decode cX9_waits 38 = .ok (.getfield 257, 3) := by decide +kernel
theorem dX9_waits_41 : decode cX9_waits 41 = .ok (.iconst 1, 1) := by decide +kernel
theorem dX9_waits_42 : decode cX9_waits 42 = .ok (.iadd, 1) := by decide +kernel
theorem dX9_waits_43 : decode cX9_waits 43 = .ok (.putfield 257, 3) := by decide +kernel
theorem dX9_waits_46 : decode cX9_waits 46 = .ok (.return_, 1) := by decide +kernel
def ckX9_judge : List (List Cond) := [[.code yX9_judge cX9_judge 5 (some .int)], wsX9_judge_r1, wsX9_judge_r2, wsX9_judge_r3, wsX9_judge_r4, wsX9_judge_r5, wsX9_judge_r6, wsX9_judge_r7, wsX9_judge_r8, wsX9_judge_r9, wsX9_judge_r10, wsX90]
theorem ckX9_judgel : wsX9_judge = ckX9_judge.flatten := by
  simp only [wsX9_judge, ckX9_judge, List.flatten_cons, List.flatten_nil, List.append_assoc, List.append_nil, List.cons_append, List.nil_append]
set_option maxRecDepth 20000 in
theorem ggX9_judge_X9_formed : GoodIn wsX9_judge wsX9_formed := goodIn_t ckX9_judge ckX9_judgel _ [(1, 14), (1, 15), (1, 8), (1, 16), (1, 17), (1, 2), (1, 18), (1, 19), (1, 20), (1, 21), (1, 22), (1, 23), (2, 0), (2, 1), (2, 2), (2, 3), (2, 4), (1, 13), (2, 5), (2, 6), (2, 7), (2, 8), (2, 9), (2, 10), (2, 11), (2, 12), (11, 0), (11, 1), (11, 2), (11, 3), (11, 4), (11, 5), (11, 6), (11, 7), (11, 8), (11, 9), (11, 10), (11, 11), (11, 12), (11, 13), (11, 14), (11, 15), (11, 16), (11, 17), (11, 18), (11, 19), (11, 20), (11, 21), (11, 22), (11, 23), (11, 24), (11, 25), (11, 26), (11, 27), (11, 28), (11, 29), (11, 30), (11, 31), (11, 32), (11, 33), (11, 34), (11, 35), (11, 36), (11, 37), (11, 38), (11, 39), (11, 40), (11, 41), (11, 42), (11, 43), (11, 44), (11, 45), (11, 46), (11, 47), (11, 48), (11, 49), (11, 50), (11, 51), (11, 52), (11, 53), (11, 54), (11, 55), (11, 56), (11, 57), (11, 58), (11, 59), (11, 60), (11, 61)] rfl (by decide +kernel)
set_option maxRecDepth 20000 in
theorem gX9_judge_X9_formed : GoodIn wsX9_judge (wsV RX9 269 RX9 yX9_formed wsX9_formed) := goodIn_app (goodIn_of _ (by decide +kernel)) ggX9_judge_X9_formed
set_option maxRecDepth 20000 in
theorem ggX9_judge_X9_flows : GoodIn wsX9_judge wsX9_flows := goodIn_t ckX9_judge ckX9_judgel _ [(2, 16), (1, 15), (2, 17), (2, 18), (1, 18), (1, 19), (1, 20), (1, 21), (1, 22), (1, 23), (2, 2), (2, 19), (2, 20), (1, 6), (2, 21), (2, 22), (1, 2), (2, 23), (3, 0), (1, 8), (3, 1), (3, 2), (1, 16), (1, 17), (3, 3), (3, 4), (3, 5), (3, 6), (2, 3), (2, 4), (1, 13), (2, 5), (2, 6), (2, 7), (2, 8), (2, 9), (2, 10), (2, 11), (2, 12), (3, 7), (3, 8), (3, 9), (3, 10), (3, 11), (1, 4), (3, 12), (3, 13), (3, 14), (3, 15), (3, 16), (3, 17), (3, 18), (3, 19), (3, 20), (3, 21), (3, 22), (3, 23), (4, 0), (4, 1), (4, 2), (4, 3), (4, 4), (4, 5), (4, 6), (4, 7), (4, 8), (4, 9), (4, 10), (4, 11), (4, 12), (4, 13), (4, 14), (4, 15), (4, 16), (4, 17), (4, 18), (4, 19), (4, 20), (4, 21), (4, 22), (4, 23), (5, 0), (5, 1), (5, 2), (5, 3), (5, 4), (2, 0), (2, 1), (5, 5), (5, 6), (5, 7), (5, 8), (5, 9), (5, 10), (5, 11), (5, 12), (5, 13), (5, 14), (5, 15), (5, 16), (5, 17), (5, 18), (5, 19), (5, 20), (5, 21), (5, 22), (5, 23), (6, 0), (6, 1), (6, 2), (6, 3), (6, 4), (6, 5), (6, 6), (6, 7), (6, 8), (6, 9), (6, 10), (6, 11), (6, 12), (6, 13), (6, 14), (6, 15), (6, 16), (6, 17), (6, 18), (6, 19), (6, 20), (6, 21), (6, 22), (6, 23), (7, 0), (7, 1), (7, 2), (7, 3), (7, 4), (7, 5), (7, 6), (7, 7), (7, 8), (7, 9), (7, 10), (7, 11), (7, 12), (7, 13), (7, 14), (7, 15), (7, 16), (7, 17), (7, 18), (7, 19), (7, 20), (7, 21), (7, 22), (7, 23), (8, 0), (8, 1), (8, 2), (8, 3), (8, 4), (8, 5), (8, 6), (8, 7), (8, 8), (8, 9), (8, 10), (8, 11), (8, 12), (8, 13), (8, 14), (8, 15), (8, 16), (8, 17), (8, 18), (8, 19), (8, 20), (8, 21), (8, 22), (8, 23), (9, 0), (9, 1), (9, 2), (9, 3), (9, 4), (9, 5), (9, 6), (9, 7), (9, 8), (9, 9), (9, 10), (9, 11), (9, 12), (9, 13), (9, 14), (9, 15), (9, 16), (9, 17), (9, 18), (9, 19), (9, 20), (9, 21), (11, 0), (11, 1), (11, 2), (11, 3), (11, 4), (11, 5), (11, 6), (11, 7), (11, 8), (11, 9), (11, 10), (11, 11), (11, 12), (11, 13), (11, 14), (11, 15), (11, 16), (11, 17), (11, 18), (11, 19), (11, 20), (11, 21), (11, 22), (11, 23), (11, 24), (11, 25), (11, 26), (11, 27), (11, 28), (11, 29), (11, 30), (11, 31), (11, 32), (11, 33), (11, 34), (11, 35), (11, 36), (11, 37), (11, 38), (11, 39), (11, 40), (11, 41), (11, 42), (11, 43), (11, 44), (11, 45), (11, 46), (11, 47), (11, 48), (11, 49), (11, 50), (11, 51), (11, 52), (11, 53), (11, 54), (11, 55), (11, 56), (11, 57), (11, 58), (11, 59), (11, 60), (11, 61)] rfl (by decide +kernel)
set_option maxRecDepth 20000 in
theorem gX9_judge_X9_flows : GoodIn wsX9_judge (wsV RX9 273 RX9 yX9_flows wsX9_flows) := goodIn_app (goodIn_of _ (by decide +kernel)) ggX9_judge_X9_flows
set_option maxRecDepth 20000 in
theorem ggX9_judge_X9_behind : GoodIn wsX9_judge wsX9_behind := goodIn_t ckX9_judge ckX9_judgel _ [(10, 1), (3, 5), (3, 6), (10, 2), (10, 3), (5, 8), (10, 4), (10, 5), (10, 6), (1, 13), (10, 7), (5, 6), (5, 7), (11, 0), (11, 1), (11, 2), (11, 3), (11, 4), (11, 5), (11, 6), (11, 7), (11, 8), (11, 9), (11, 10), (11, 11), (11, 12), (11, 13), (11, 14), (11, 15), (11, 16), (11, 17), (11, 18), (11, 19), (11, 20), (11, 21), (11, 22), (11, 23), (11, 24), (11, 25), (11, 26), (11, 27), (11, 28), (11, 29), (11, 30), (11, 31), (11, 32), (11, 33), (11, 34), (11, 35), (11, 36), (11, 37), (11, 38), (11, 39), (11, 40), (11, 41), (11, 42), (11, 43), (11, 44), (11, 45), (11, 46), (11, 47), (11, 48), (11, 49), (11, 50), (11, 51), (11, 52), (11, 53), (11, 54), (11, 55), (11, 56), (11, 57), (11, 58), (11, 59), (11, 60), (11, 61)] rfl (by decide +kernel)
set_option maxRecDepth 20000 in
theorem gX9_judge_X9_behind : GoodIn wsX9_judge (wsV RX9 276 RX9 yX9_behind wsX9_behind) := goodIn_app (goodIn_of _ (by decide +kernel)) ggX9_judge_X9_behind
theorem dX9_judge_0 : decode cX9_judge 0 = .ok (.aload_n 0, 1) := by decide +kernel
theorem dX9_judge_1 : decode cX9_judge 1 = .ok (.iconst 0, 1) := by decide +kernel
theorem dX9_judge_2 : decode cX9_judge 2 = .ok (.putfield 1, 3) := by decide +kernel
theorem dX9_judge_5 : decode cX9_judge 5 = .ok (.aload_n 0, 1) := by decide +kernel
theorem dX9_judge_6 : decode cX9_judge 6 = .ok (.iconst 0, 1) := by decide +kernel
theorem dX9_judge_7 : decode cX9_judge 7 = .ok (.putfield 260, 3) := by decide +kernel
theorem dX9_judge_10 : decode cX9_judge 10 = .ok (.aload_n 0, 1) := by decide +kernel
theorem dX9_judge_11 : decode cX9_judge 11 = .ok (.aload_n 0, 1) := by decide +kernel
theorem dX9_judge_12 : decode cX9_judge 12 = .ok (.getfield 170, 3) := by decide +kernel
theorem dX9_judge_15 : decode cX9_judge 15 = .ok (.putfield 263, 3) := by decide +kernel
theorem dX9_judge_18 : decode cX9_judge 18 = .ok (.aload_n 0, 1) := by decide +kernel
theorem dX9_judge_19 : decode cX9_judge 19 = .ok (.aload_n 0, 1) := by decide +kernel
theorem dX9_judge_20 : decode cX9_judge 20 = .ok (.getfield 173, 3) := by decide +kernel
theorem dX9_judge_23 : decode cX9_judge 23 = .ok (.putfield 266, 3) := by decide +kernel
theorem dX9_judge_26 : decode cX9_judge 26 = .ok (.aload_n 0, 1) := by decide +kernel
theorem dX9_judge_27 : decode cX9_judge 27 = .ok (.invokevirtual 269, 3) := by decide +kernel
theorem dX9_judge_30 : decode cX9_judge 30 = .ok (.ifCond .eq 10, 3) := by decide +kernel
theorem dX9_judge_33 : decode cX9_judge 33 = .ok (.aload_n 0, 1) := by decide +kernel
theorem dX9_judge_34 : decode cX9_judge 34 = .ok (.invokevirtual 273, 3) := by decide +kernel
theorem dX9_judge_37 : decode cX9_judge 37 = .ok (.ifCond .ne 5, 3) := by decide +kernel
theorem dX9_judge_40 : decode cX9_judge 40 = .ok (.iconst (-1), 1) := by decide +kernel
theorem dX9_judge_41 : decode cX9_judge 41 = .ok (.ireturn, 1) := by decide +kernel
theorem dX9_judge_42 : decode cX9_judge 42 = .ok (.aload_n 0, 1) := by decide +kernel
theorem dX9_judge_43 : decode cX9_judge 43 = .ok (.aload_n 0, 1) := by decide +kernel
theorem dX9_judge_44 : decode cX9_judge 44 = .ok (.getfield 238, 3) := by decide +kernel
theorem dX9_judge_47 : decode cX9_judge 47 = .ok (.putfield 260, 3) := by decide +kernel
theorem dX9_judge_50 : decode cX9_judge 50 = .ok (.iconst 0, 1) := by decide +kernel
theorem dX9_judge_51 : decode cX9_judge 51 = .ok (.istore_n 1, 1) := by decide +kernel
theorem dX9_judge_52 : decode cX9_judge 52 = .ok (.iload_n 1, 1) := by decide +kernel
theorem dX9_judge_53 : decode cX9_judge 53 = .ok (.aload_n 0, 1) := by decide +kernel
theorem dX9_judge_54 : decode cX9_judge 54 = .ok (.getfield 260, 3) := by decide +kernel
theorem dX9_judge_57 : decode cX9_judge 57 = .ok (.if_icmp .ge 16, 3) := by decide +kernel
theorem dX9_judge_60 : decode cX9_judge 60 = .ok (.aload_n 0, 1) := by decide +kernel
theorem dX9_judge_61 : decode cX9_judge 61 = .ok (.getfield 118, 3) := by decide +kernel
theorem dX9_judge_64 : decode cX9_judge 64 = .ok (.iload_n 1, 1) := by decide +kernel
theorem dX9_judge_65 : decode cX9_judge 65 = .ok (.iload_n 1, 1) := by decide +kernel
theorem dX9_judge_66 : decode cX9_judge 66 = .ok (.iastore, 1) := by decide +kernel
theorem dX9_judge_67 : decode cX9_judge 67 = .ok (.iinc 1 1, 3) := by decide +kernel
theorem dX9_judge_70 : decode cX9_judge 70 = .ok (.goto (-18), 3) := by decide +kernel
theorem dX9_judge_73 : decode cX9_judge 73 = .ok (.aload_n 0, 1) := by decide +kernel
theorem dX9_judge_74 : decode cX9_judge 74 = .ok (.getfield 260, 3) := by decide +kernel
