theorem dX9_array_38 : decode cX9_array 38 = .ok (.bipush 15, 2) := by decide +kernel
theorem dX9_array_40 : decode cX9_array 40 = .ok (.iand, 1) := by decide +kernel
theorem dX9_array_41 : decode cX9_array 41 = .ok (.bipush 8, 2) := by decide +kernel
theorem dX9_array_43 : decode cX9_array 43 = .ok (.if_icmp .ne 10, 3) := by decide +kernel
theorem dX9_array_46 : decode cX9_array 46 = .ok (.iload_n 3, 1) := by decide +kernel
theorem dX9_array_47 : decode cX9_array 47 = .ok (.bipush 16, 2) := by decide +kernel
theorem dX9_array_49 : decode cX9_array 49 = .ok (.ishr, 1) := by decide +kernel
theorem dX9_array_50 : decode cX9_array 50 = .ok (.ifCond .ne 5, 3) := by decide +kernel
theorem dX9_array_53 : decode cX9_array 53 = .ok (.iconst 0, 1) := by decide +kernel
theorem dX9_array_54 : decode cX9_array 54 = .ok (.ireturn, 1) := by decide +kernel
theorem dX9_array_55 : decode cX9_array 55 = .ok (.iload_n 3, 1) := by decide +kernel
theorem dX9_array_56 : decode cX9_array 56 = .ok (.ldc 141, 2) := by decide +kernel
theorem dX9_array_58 : decode cX9_array 58 = .ok (.isub, 1) := by decide +kernel
theorem dX9_array_59 : decode cX9_array 59 = .ok (.istore 4, 2) := by decide +kernel
theorem dX9_array_61 : decode cX9_array 61 = .ok (.iload 4, 2) := by decide +kernel
theorem dX9_array_63 : decode cX9_array 63 = .ok (.ldc 141, 2) := by decide +kernel
theorem dX9_array_65 : decode cX9_array 65 = .ok (.if_icmp .ge 10, 3) := by decide +kernel
theorem dX9_array_68 : decode cX9_array 68 = .ok (.iload 4, 2) := by decide +kernel
theorem dX9_array_70 : decode cX9_array 70 = .ok (.ldc 140, 2) := by decide +kernel
theorem dX9_array_72 : decode cX9_array 72 = .ok (.if_icmp .ge 14, 3) := by decide +kernel
theorem dX9_array_75 : decode cX9_array 75 = .ok (.iload_n 1, 1) := by decide +kernel
theorem dX9_array_76 : decode cX9_array 76 = .ok (.iconst 4, 1) := by decide +kernel
theorem dX9_array_77 : decode cX9_array 77 = .ok (.if_icmp .ne 7, 3) := by decide +kernel
theorem dX9_array_80 : decode cX9_array 80 = .ok (.iconst 1, 1) := by decide +kernel
theorem dX9_array_81 : decode cX9_array 81 = .ok (.goto 4, 3) := by decide +kernel
theorem dX9_array_84 : decode cX9_array 84 = .ok (.iconst 0, 1) := by decide +kernel
theorem dX9_array_85 : decode cX9_array 85 = .ok (.ireturn, 1) := by decide +kernel
theorem dX9_array_86 : decode cX9_array 86 = .ok (.iload 4, 2) := by decide +kernel
theorem dX9_array_88 : decode cX9_array 88 = .ok (.ldc 140, 2) := by decide +kernel
theorem dX9_array_90 : decode cX9_array 90 = .ok (.isub, 1) := by decide +kernel
theorem dX9_array_91 : decode cX9_array 91 = .ok (.istore 5, 2) := by decide +kernel
theorem dX9_array_93 : decode cX9_array 93 = .ok (.iload_n 1, 1) := by decide +kernel
theorem dX9_array_94 : decode cX9_array 94 = .ok (.ifCond .ne 18, 3) := by decide +kernel
theorem dX9_array_97 : decode cX9_array 97 = .ok (.iload 5, 2) := by decide +kernel
theorem dX9_array_99 : decode cX9_array 99 = .ok (.bipush 6, 2) := by decide +kernel
theorem dX9_array_101 : decode cX9_array 101 = .ok (.if_icmp .ne 7, 3) := by decide +kernel
theorem dX9_array_104 : decode cX9_array 104 = .ok (.iconst 1, 1) := by decide +kernel
theorem dX9_array_105 : decode cX9_array 105 = .ok (.goto 126, 3) := by decide +kernel
theorem dX9_array_108 : decode cX9_array 108 = .ok (.iconst 0, 1) := by decide +kernel
theorem dX9_array_109 : decode cX9_array 109 = .ok (.goto 122, 3) := by decide +kernel
theorem dX9_array_112 : decode cX9_array 112 = .ok (.iload_n 1, 1) := by decide +kernel
theorem dX9_array_113 : decode cX9_array 113 = .ok (.iconst 1, 1) := by decide +kernel
theorem dX9_array_114 : decode cX9_array 114 = .ok (.if_icmp .ne 18, 3) := by decide +kernel
theorem dX9_array_117 : decode cX9_array 117 = .ok (.iload 5, 2) := by decide +kernel
theorem dX9_array_119 : decode cX9_array 119 = .ok (.bipush 7, 2) := by decide +kernel
theorem dX9_array_121 : decode cX9_array 121 = .ok (.if_icmp .ne 7, 3) := by decide +kernel
theorem dX9_array_124 : decode cX9_array 124 = .ok (.iconst 1, 1) := by decide +kernel
theorem dX9_array_125 : decode cX9_array 125 = .ok (.goto 106, 3) := by decide +kernel
theorem dX9_array_128 : decode cX9_array 128 = .ok (.iconst 0, 1) := by decide +kernel
theorem dX9_array_129 : decode cX9_array 129 = .ok (.goto 102, 3) := by decide +kernel
theorem dX9_array_132 : decode cX9_array 132 = .ok (.iload_n 1, 1) := by decide +kernel
theorem dX9_array_133 : decode cX9_array 133 = .ok (.iconst 2, 1) := by decide +kernel
theorem dX9_array_134 : decode cX9_array 134 = .ok (.if_icmp .ne 17, 3) := by decide +kernel
theorem dX9_array_137 : decode cX9_array 137 = .ok (.iload 5, 2) := by decide +kernel
theorem dX9_array_139 : decode cX9_array 139 = .ok (.iconst 2, 1) := by decide +kernel
theorem dX9_array_140 : decode cX9_array 140 = .ok (.if_icmp .ne 7, 3) := by decide +kernel
theorem dX9_array_143 : decode cX9_array 143 = .ok (.iconst 1, 1) := by decide +kernel
theorem dX9_array_144 : decode cX9_array 144 = .ok (.goto 87, 3) := by decide +kernel
theorem dX9_array_147 : decode cX9_array 147 = .ok (.iconst 0, 1) := by decide +kernel
theorem dX9_array_148 : decode cX9_array 148 = .ok (.goto 83, 3) := by decide +kernel
theorem dX9_array_151 : decode cX9_array 151 = .ok (.iload_n 1, 1) := by decide +kernel
theorem dX9_array_152 : decode cX9_array 152 = .ok (.iconst 3, 1) := by decide +kernel
theorem dX9_array_153 : decode cX9_array 153 = .ok (.if_icmp .ne 17, 3) := by decide +kernel
theorem dX9_array_156 : decode cX9_array 156 = .ok (.iload 5, 2) := by decide +kernel
theorem dX9_array_158 : decode cX9_array 158 = .ok (.iconst 3, 1) := by decide +kernel
theorem dX9_array_159 : decode cX9_array 159 = .ok (.if_icmp .ne 7, 3) := by decide +kernel
theorem dX9_array_162 : decode cX9_array 162 = .ok (.iconst 1, 1) := by decide +kernel
theorem dX9_array_163 : decode cX9_array 163 = .ok (.goto 68, 3) := by decide +kernel
theorem dX9_array_166 : decode cX9_array 166 = .ok (.iconst 0, 1) := by decide +kernel
theorem dX9_array_167 : decode cX9_array 167 = .ok (.goto 64, 3) := by decide +kernel
theorem dX9_array_170 : decode cX9_array 170 = .ok (.iload_n 1, 1) := by decide +kernel
theorem dX9_array_171 : decode cX9_array 171 = .ok (.iconst 5, 1) := by decide +kernel
theorem dX9_array_172 : decode cX9_array 172 = .ok (.if_icmp .ne 22, 3) := by decide +kernel
theorem dX9_array_175 : decode cX9_array 175 = .ok (.iload 5, 2) := by decide +kernel
theorem dX9_array_177 : decode cX9_array 177 = .ok (.ifCond .eq 9, 3) := by decide +kernel
theorem dX9_array_180 : decode cX9_array 180 = .ok (.iload 5, 2) := by decide +kernel
theorem dX9_array_182 : decode cX9_array 182 = .ok (.iconst 4, 1) := by decide +kernel
theorem dX9_array_183 : decode cX9_array 183 = .ok (.if_icmp .ne 7, 3) := by decide +kernel
theorem dX9_array_186 : decode cX9_array 186 = .ok (.iconst 1, 1) := by decide +kernel
theorem dX9_array_187 : decode cX9_array 187 = .ok (.goto 44, 3) := by decide +kernel
theorem dX9_array_190 : decode cX9_array 190 = .ok (.iconst 0, 1) := by decide +kernel
theorem dX9_array_191 : decode cX9_array 191 = .ok (.goto 40, 3) := by decide +kernel
theorem dX9_array_194 : decode cX9_array 194 = .ok (.iload_n 1, 1) := by decide +kernel
theorem dX9_array_195 : decode cX9_array 195 = .ok (.bipush 6, 2) := by decide +kernel
theorem dX9_array_197 : decode cX9_array 197 = .ok (.if_icmp .ne 17, 3) := by decide +kernel
theorem dX9_array_200 : decode cX9_array 200 = .ok (.iload 5, 2) := by decide +kernel
theorem dX9_array_202 : decode cX9_array 202 = .ok (.iconst 1, 1) := by decide +kernel
theorem dX9_array_203 : decode cX9_array 203 = .ok (.if_icmp .ne 7, 3) := by decide +kernel
theorem dX9_array_206 : decode cX9_array 206 = .ok (.iconst 1, 1) := by decide +kernel
theorem dX9_array_207 : decode cX9_array 207 = .ok (.goto 24, 3) := by decide +kernel
theorem dX9_array_210 : decode cX9_array 210 = .ok (.iconst 0, 1) := by decide +kernel
theorem dX9_array_211 : decode cX9_array 211 = .ok (.goto 20, 3) := by decide +kernel
theorem dX9_array_214 : decode cX9_array 214 = .ok (.iload_n 1, 1) := by decide +kernel
theorem dX9_array_215 : decode cX9_array 215 = .ok (.bipush 7, 2) := by decide +kernel
theorem dX9_array_217 : decode cX9_array 217 = .ok (.if_icmp .ne 13, 3) := by decide +kernel
theorem dX9_array_220 : decode cX9_array 220 = .ok (.iload 5, 2) := by decide +kernel
theorem dX9_array_222 : decode cX9_array 222 = .ok (.iconst 5, 1) := by decide +kernel
theorem dX9_array_223 : decode cX9_array 223 = .ok (.if_icmp .ne 7, 3) := by decide +kernel
theorem dX9_array_226 : decode cX9_array 226 = .ok (.iconst 1, 1) := by decide +kernel
theorem dX9_array_227 : decode cX9_array 227 = .ok (.goto 4, 3) := by decide +kernel
theorem dX9_array_230 : decode cX9_array 230 = .ok (.iconst 0, 1) := by decide +kernel
theorem dX9_array_231 : decode cX9_array 231 = .ok (.ireturn, 1) := by decide +kernel
set_option maxRecDepth 20000 in
theorem ggX9_arrayLoad_X9_pop : GoodIn wsX9_arrayLoad wsX9_pop := goodIn_r _ [8, 1, 2, 20, 21, 22, 23, 24, 25, 26, 27, 28, 29, 30, 31, 32, 33, 34, 35, 36, 37, 38, 39, 40, 41, 42, 43, 44, 45, 46, 47, 48, 49, 50, 51, 52, 53, 54, 55, 56, 57, 58, 59, 60, 61, 62, 63, 64, 65, 66, 67, 68, 69, 70, 71, 72, 73, 74, 75, 76, 77, 78, 79, 80, 81] rfl (by decide +kernel)
set_option maxRecDepth 20000 in
theorem gX9_arrayLoad_X9_pop : GoodIn wsX9_arrayLoad (wsV RX9 225 RX9 yX9_pop wsX9_pop) := goodIn_app (goodIn_of _ (by decide +kernel)) ggX9_arrayLoad_X9_pop
set_option maxRecDepth 20000 in
theorem ggX9_arrayLoad_X9_array : GoodIn wsX9_arrayLoad wsX9_array := goodIn_r _ [12, 1, 2, 13, 14, 20, 21, 22, 23, 24, 25, 26, 27, 28, 29, 30, 31, 32, 33, 34, 35, 36, 37, 38, 39, 40, 41, 42, 43, 44, 45, 46, 47, 48, 49, 50, 51, 52, 53, 54, 55, 56, 57, 58, 59, 60, 61, 62, 63, 64, 65, 66, 67, 68, 69, 70, 71, 72, 73, 74, 75, 76, 77, 78, 79, 80, 81] rfl (by decide +kernel)
set_option maxRecDepth 20000 in
theorem gX9_arrayLoad_X9_array : GoodIn wsX9_arrayLoad (wsV RX9 348 RX9 yX9_array wsX9_array) := goodIn_app (goodIn_of _ (by decide +kernel)) ggX9_arrayLoad_X9_array
set_option maxRecDepth 20000 in
theorem ggX9_arrayLoad_X9_push : GoodIn wsX9_arrayLoad wsX9_push := goodIn_r _ [18, 1, 19, 2, 20, 21, 22, 23, 24, 25, 26, 27, 28, 29, 30, 31, 32, 33, 34, 35, 36, 37, 38, 39, 40, 41, 42, 43, 44, 45, 46, 47, 48, 49, 50, 51, 52, 53, 54, 55, 56, 57, 58, 59, 60, 61, 62, 63, 64, 65, 66, 67, 68, 69, 70, 71, 72, 73, 74, 75, 76, 77, 78, 79, 80, 81] rfl (by decide +kernel)
set_option maxRecDepth 20000 in
theorem gX9_arrayLoad_X9_push : GoodIn wsX9_arrayLoad (wsV RX9 295 RX9 yX9_push wsX9_push) := goodIn_app (goodIn_of _ (by decide +kernel)) ggX9_arrayLoad_X9_push
theorem dX9_arrayLoad_0 : decode cX9_arrayLoad 0 = .ok (.aload_n 0, 1) := by decide +kernel
theorem dX9_arrayLoad_1 : decode cX9_arrayLoad 1 = .ok (.iconst 1, 1) := by decide +kernel
theorem dX9_arrayLoad_2 : decode cX9_arrayLoad 2 = .ok (.invokevirtual 225, 3) := by decide +kernel
theorem dX9_arrayLoad_5 : decode cX9_arrayLoad 5 = .ok (.ifCond .eq 10, 3) := by decide +kernel
theorem dX9_arrayLoad_8 : decode cX9_arrayLoad 8 = .ok (.aload_n 0, 1) := by decide +kernel
theorem dX9_arrayLoad_9 : decode cX9_arrayLoad 9 = .ok (.getfield 215, 3) := by decide +kernel
theorem dX9_arrayLoad_12 : decode cX9_arrayLoad 12 = .ok (.ifCond .ne 5, 3) := by decide +kernel
theorem dX9_arrayLoad_15 : decode cX9_arrayLoad 15 = .ok (.iconst 0, 1) := by decide +kernel
theorem dX9_arrayLoad_16 : decode cX9_arrayLoad 16 = .ok (.ireturn, 1) := by decide +kernel
theorem dX9_arrayLoad_17 : decode cX9_arrayLoad 17 = .ok (.aload_n 0, 1) := by decide +kernel
theorem dX9_arrayLoad_18 : decode cX9_arrayLoad 18 = .ok (.getfield 85, 3) := by decide +kernel
theorem dX9_arrayLoad_21 : decode cX9_arrayLoad 21 = .ok (.aload_n 0, 1) := by decide +kernel
theorem dX9_arrayLoad_22 : decode cX9_arrayLoad 22 = .ok (.getfield 215, 3) := by decide +kernel
theorem dX9_arrayLoad_25 : decode cX9_arrayLoad 25 = .ok (.iconst 1, 1) := by decide +kernel
theorem dX9_arrayLoad_26 : decode cX9_arrayLoad 26 = .ok (.isub, 1) := by decide +kernel
theorem dX9_arrayLoad_27 : decode cX9_arrayLoad 27 = .ok (.iaload, 1) := by decide +kernel
theorem dX9_arrayLoad_28 : decode cX9_arrayLoad 28 = .ok (.istore_n 2, 1) := by decide +kernel
theorem dX9_arrayLoad_29 : decode cX9_arrayLoad 29 = .ok (.aload_n 0, 1) := by decide +kernel
theorem dX9_arrayLoad_30 : decode cX9_arrayLoad 30 = .ok (.iload_n 1, 1) := by decide +kernel
theorem dX9_arrayLoad_31 : decode cX9_arrayLoad 31 = .ok (.bipush 46, 2) := by decide +kernel
theorem dX9_arrayLoad_33 : decode cX9_arrayLoad 33 = .ok (.isub, 1) := by decide +kernel
theorem dX9_arrayLoad_34 : decode cX9_arrayLoad 34 = .ok (.invokevirtual 348, 3) := by decide +kernel
theorem dX9_arrayLoad_37 : decode cX9_arrayLoad 37 = .ok (.ifCond .ne 5, 3) := by decide +kernel
theorem dX9_arrayLoad_40 : decode cX9_arrayLoad 40 = .ok (.iconst 0, 1) := by decide +kernel
theorem dX9_arrayLoad_41 : decode cX9_arrayLoad 41 = .ok (.ireturn, 1) := by decide +kernel
theorem dX9_arrayLoad_42 : decode cX9_arrayLoad 42 = .ok (.iload_n 1, 1) := by decide +kernel
theorem dX9_arrayLoad_43 : decode cX9_arrayLoad 43 = .ok (.bipush 50, 2) := by decide +kernel
theorem dX9_arrayLoad_45 : decode cX9_arrayLoad 45 = .ok (.if_icmp .ne 22, 3) := by decide +kernel
theorem dX9_arrayLoad_48 : decode cX9_arrayLoad 48 = .ok (.aload_n 0, 1) := by decide +kernel
theorem dX9_arrayLoad_49 : decode cX9_arrayLoad 49 = .ok (.iload_n 2, 1) := by decide +kernel
theorem dX9_arrayLoad_50 : decode cX9_arrayLoad 50 = .ok (.iconst 5, 1) := by decide +kernel
theorem dX9_arrayLoad_51 : decode cX9_arrayLoad 51 = .ok (.if_icmp .ne 7, 3) := by decide +kernel
theorem dX9_arrayLoad_54 : decode cX9_arrayLoad 54 = .ok (.iconst 5, 1) := by decide +kernel
theorem dX9_arrayLoad_55 : decode cX9_arrayLoad 55 = .ok (.goto 8, 3) := by decide +kernel
theorem dX9_arrayLoad_58 : decode cX9_arrayLoad 58 = .ok (.iload_n 2, 1) := by decide +kernel
theorem dX9_arrayLoad_59 : decode cX9_arrayLoad 59 = .ok (.ldc_w 351, 3) := by decide +kernel
theorem dX9_arrayLoad_62 : decode cX9_arrayLoad 62 = .ok (.isub, 1) := by decide +kernel
theorem dX9_arrayLoad_63 : decode cX9_arrayLoad 63 = .ok (.invokevirtual 295, 3) := by decide +kernel
theorem dX9_arrayLoad_66 : decode cX9_arrayLoad 66 = .ok (.ireturn, 1) := by decide +kernel
theorem dX9_arrayLoad_67 : decode cX9_arrayLoad 67 = .ok (.aload_n 0, 1) := by decide +kernel
theorem dX9_arrayLoad_68 : decode cX9_arrayLoad 68 = .ok (.iload_n 1, 1) := by decide +kernel
theorem dX9_arrayLoad_69 : decode cX9_arrayLoad 69 = .ok (.bipush 47, 2) := by decide +kernel
theorem dX9_arrayLoad_71 : decode cX9_arrayLoad 71 = .ok (.if_icmp .ne 7, 3) := by decide +kernel
theorem dX9_arrayLoad_74 : decode cX9_arrayLoad 74 = .ok (.iconst 3, 1) := by decide +kernel
theorem dX9_arrayLoad_75 : decode cX9_arrayLoad 75 = .ok (.goto 24, 3) := by decide +kernel
theorem dX9_arrayLoad_78 : decode cX9_arrayLoad 78 = .ok (.iload_n 1, 1) := by decide +kernel
theorem dX9_arrayLoad_79 : decode cX9_arrayLoad 79 = .ok (.bipush 48, 2) := by decide +kernel
theorem dX9_arrayLoad_81 : decode cX9_arrayLoad 81 = .ok (.if_icmp .ne 7, 3) := by decide +kernel
theorem dX9_arrayLoad_84 : decode cX9_arrayLoad 84 = .ok (.iconst 2, 1) := by decide +kernel
theorem dX9_arrayLoad_85 : decode cX9_arrayLoad 85 = .ok (.goto 14, 3) := by decide +kernel
theorem dX9_arrayLoad_88 : decode cX9_arrayLoad 88 = .ok (.iload_n 1, 1) := by decide +kernel
theorem dX9_arrayLoad_89 : decode cX9_arrayLoad 89 = .ok (.bipush 49, 2) := by decide +kernel
theorem dX9_arrayLoad_91 : decode cX9_arrayLoad 91 = .ok (.if_icmp .ne 7, 3) := by decide +kernel
theorem dX9_arrayLoad_94 : decode cX9_arrayLoad 94 = .ok (.iconst 4, 1) := by decide +kernel
theorem dX9_arrayLoad_95 : decode cX9_arrayLoad 95 = .ok (.goto 4, 3) := by decide +kernel
theorem dX9_arrayLoad_98 : decode cX9_arrayLoad 98 = .ok (.iconst 1, 1) := by decide +kernel
theorem dX9_arrayLoad_99 : decode cX9_arrayLoad 99 = .ok (.invokevirtual 295, 3) := by decide +kernel
theorem dX9_arrayLoad_102 : decode cX9_arrayLoad 102 = .ok (.ireturn, 1) := by decide +kernel
def ckX9_arrayStore : List (List Cond) := [[.code yX9_arrayStore cX9_arrayStore 3 (some .boolean)], wsX9_arrayStore_r1, wsX9_arrayStore_r2, wsX90]
theorem ckX9_arrayStorel : wsX9_arrayStore = ckX9_arrayStore.flatten := by
  simp only [wsX9_arrayStore, ckX9_arrayStore, List.flatten_cons, List.flatten_nil, List.append_assoc, List.append_nil, List.cons_append, List.nil_append]
set_option maxRecDepth 20000 in
theorem ggX9_arrayStore_X9_popType : GoodIn wsX9_arrayStore wsX9_popType := goodIn_t ckX9_arrayStore ckX9_arrayStorel _ [(1, 4), (1, 5), (1, 6), (1, 7), (1, 8), (1, 9), (1, 3), (1, 10), (1, 11), (1, 12), (1, 13), (1, 14), (1, 15), (1, 16), (1, 17), (1, 18), (1, 19), (1, 20), (1, 21), (1, 22), (1, 23), (2, 0), (2, 1), (2, 2), (2, 3), (2, 4), (2, 5), (2, 6), (2, 7), (2, 8), (3, 0), (3, 1), (3, 2), (3, 3), (3, 4), (3, 5), (3, 6), (3, 7), (3, 8), (3, 9), (3, 10), (3, 11), (3, 12), (3, 13), (3, 14), (3, 15), (3, 16), (3, 17), (3, 18), (3, 19), (3, 20), (3, 21), (3, 22), (3, 23), (3, 24), (3, 25), (3, 26), (3, 27), (3, 28), (3, 29), (3, 30), (3, 31), (3, 32), (3, 33), (3, 34), (3, 35), (3, 36), (3, 37), (3, 38), (3, 39), (3, 40), (3, 41), (3, 42), (3, 43), (3, 44), (3, 45), (3, 46), (3, 47), (3, 48), (3, 49), (3, 50), (3, 51), (3, 52), (3, 53), (3, 54), (3, 55), (3, 56), (3, 57), (3, 58), (3, 59), (3, 60), (3, 61)] rfl (by decide +kernel)
set_option maxRecDepth 20000 in
theorem gX9_arrayStore_X9_popType : GoodIn wsX9_arrayStore (wsV RX9 338 RX9 yX9_popType wsX9_popType) := goodIn_app (goodIn_of _ (by decide +kernel)) ggX9_arrayStore_X9_popType
set_option maxRecDepth 20000 in
theorem ggX9_arrayStore_X9_pop : GoodIn wsX9_arrayStore wsX9_pop := goodIn_t ckX9_arrayStore ckX9_arrayStorel _ [(1, 22), (1, 5), (1, 6), (3, 0), (3, 1), (3, 2), (3, 3), (3, 4), (3, 5), (3, 6), (3, 7), (3, 8), (3, 9), (3, 10), (3, 11), (3, 12), (3, 13), (3, 14), (3, 15), (3, 16), (3, 17), (3, 18), (3, 19), (3, 20), (3, 21), (3, 22), (3, 23), (3, 24), (3, 25), (3, 26), (3, 27), (3, 28), (3, 29), (3, 30), (3, 31), (3, 32), (3, 33), (3, 34), (3, 35), (3, 36), (3, 37), (3, 38), (3, 39), (3, 40), (3, 41), (3, 42), (3, 43), (3, 44), (3, 45), (3, 46), (3, 47), (3, 48), (3, 49), (3, 50), (3, 51), (3, 52), (3, 53), (3, 54), (3, 55), (3, 56), (3, 57), (3, 58), (3, 59), (3, 60), (3, 61)] rfl (by decide +kernel)
set_option maxRecDepth 20000 in
theorem gX9_arrayStore_X9_pop : GoodIn wsX9_arrayStore (wsV RX9 225 RX9 yX9_pop wsX9_pop) := goodIn_app (goodIn_of _ (by decide +kernel)) ggX9_arrayStore_X9_pop
set_option maxRecDepth 20000 in
theorem ggX9_arrayStore_X9_array : GoodIn wsX9_arrayStore wsX9_array := goodIn_t ckX9_arrayStore ckX9_arrayStorel _ [(2, 12), (1, 5), (1, 6), (1, 12), (1, 11), (3, 0), (3, 1), (3, 2), (3, 3), (3, 4), (3, 5), (3, 6), (3, 7), (3, 8), (3, 9), (3, 10), (3, 11), (3, 12), (3, 13), (3, 14), (3, 15), (3, 16), (3, 17), (3, 18), (3, 19), (3, 20), (3, 21), (3, 22), (3, 23), (3, 24), (3, 25), (3, 26), (3, 27), (3, 28), (3, 29), (3, 30), (3, 31), (3, 32), (3, 33), (3, 34), (3, 35), (3, 36), (3, 37), (3, 38), (3, 39), (3, 40), (3, 41), (3, 42), (3, 43), (3, 44), (3, 45), (3, 46), (3, 47), (3, 48), (3, 49), (3, 50), (3, 51), (3, 52), (3, 53), (3, 54), (3, 55), (3, 56), (3, 57), (3, 58), (3, 59), (3, 60), (3, 61)] rfl (by decide +kernel)
set_option maxRecDepth 20000 in
theorem gX9_arrayStore_X9_array : GoodIn wsX9_arrayStore (wsV RX9 348 RX9 yX9_array wsX9_array) := goodIn_app (goodIn_of _ (by decide +kernel)) ggX9_arrayStore_X9_array
theorem dX9_arrayStore_0 : decode cX9_arrayStore 0 = .ok (.iload_n 1, 1) := by decide +kernel
theorem dX9_arrayStore_1 : decode cX9_arrayStore 1 = .ok (.bipush 83, 2) := by decide +kernel
theorem dX9_arrayStore_3 : decode cX9_arrayStore 3 = .ok (.if_icmp .ne 11, 3) := by decide +kernel
theorem dX9_arrayStore_6 : decode cX9_arrayStore 6 = .ok (.aload_n 0, 1) := by decide +kernel
theorem dX9_arrayStore_7 : decode cX9_arrayStore 7 = .ok (.iconst 0, 1) := by decide +kernel
theorem dX9_arrayStore_8 : decode cX9_arrayStore 8 = .ok (.invokevirtual 338, 3) := by decide +kernel
theorem dX9_arrayStore_11 : decode cX9_arrayStore 11 = .ok (.goto 38, 3) := by decide +kernel
theorem dX9_arrayStore_14 : decode cX9_arrayStore 14 = .ok (.aload_n 0, 1) := by decide +kernel
theorem dX9_arrayStore_15 : decode cX9_arrayStore 15 = .ok (.iload_n 1, 1) := by decide +kernel
theorem dX9_arrayStore_16 : decode cX9_arrayStore 16 = .ok (.bipush 80, 2) := by decide +kernel
theorem dX9_arrayStore_18 : decode cX9_arrayStore 18 = .ok (.if_icmp .ne 7, 3) := by decide +kernel
theorem dX9_arrayStore_21 : decode cX9_arrayStore 21 = .ok (.iconst 3, 1) := by decide +kernel
theorem dX9_arrayStore_22 : decode cX9_arrayStore 22 = .ok (.goto 24, 3) := by decide +kernel
theorem dX9_arrayStore_25 : decode cX9_arrayStore 25 = .ok (.iload_n 1, 1) := by decide +kernel
theorem dX9_arrayStore_26 : decode cX9_arrayStore 26 = .ok (.bipush 81, 2) := by decide +kernel
theorem dX9_arrayStore_28 : decode cX9_arrayStore 28 = .ok (.if_icmp .ne 7, 3) := by decide +kernel
theorem dX9_arrayStore_31 : decode cX9_arrayStore 31 = .ok (.iconst 2, 1) := by decide +kernel
theorem dX9_arrayStore_32 : decode cX9_arrayStore 32 = .ok (.goto 14, 3) := by decide +kernel
theorem dX9_arrayStore_35 : decode cX9_arrayStore 35 = .ok (.iload_n 1, 1) := by decide +kernel
theorem dX9_arrayStore_36 : decode cX9_arrayStore 36 = .ok (.bipush 82, 2) := by decide +kernel
theorem dX9_arrayStore_38 : decode cX9_arrayStore 38 = .ok (.if_icmp .ne 7, 3) := by decide +kernel
theorem dX9_arrayStore_41 : decode cX9_arrayStore 41 = .ok (.iconst 4, 1) := by decide +kernel
theorem dX9_arrayStore_42 : decode cX9_arrayStore 42 = .ok (.goto 4, 3) := by decide +kernel
theorem dX9_arrayStore_45 : decode cX9_arrayStore 45 = .ok (.iconst 1, 1) := by decide +kernel
theorem dX9_arrayStore_46 : decode cX9_arrayStore 46 = .ok (.invokevirtual 225, 3) := by decide +kernel
theorem dX9_arrayStore_49 : decode cX9_arrayStore 49 = .ok (.istore_n 2, 1) := by decide +kernel
theorem dX9_arrayStore_50 : decode cX9_arrayStore 50 = .ok (.iload_n 2, 1) := by decide +kernel
theorem dX9_arrayStore_51 : decode cX9_arrayStore 51 = .ok (.ifCond .eq 26, 3) := by decide +kernel
theorem dX9_arrayStore_54 : decode cX9_arrayStore 54 = .ok (.aload_n 0, 1) := by decide +kernel
theorem dX9_arrayStore_55 : decode cX9_arrayStore 55 = .ok (.iconst 1, 1) := by decide +kernel
theorem dX9_arrayStore_56 : decode cX9_arrayStore 56 = .ok (.invokevirtual 225, 3) := by decide +kernel
theorem dX9_arrayStore_59 : decode cX9_arrayStore 59 = .ok (.ifCond .eq 18, 3) := by decide +kernel
theorem dX9_arrayStore_62 : decode cX9_arrayStore 62 = .ok (.aload_n 0, 1) := by decide +kernel
theorem dX9_arrayStore_63 : decode cX9_arrayStore 63 = .ok (.iload_n 1, 1) := by decide +kernel
theorem dX9_arrayStore_64 : decode cX9_arrayStore 64 = .ok (.bipush 79, 2) := by decide +kernel
theorem dX9_arrayStore_66 : decode cX9_arrayStore 66 = .ok (.isub, 1) := by decide +kernel
theorem dX9_arrayStore_67 : decode cX9_arrayStore 67 = .ok (.invokevirtual 348, 3) := by decide +kernel
theorem dX9_arrayStore_70 : decode cX9_arrayStore 70 = .ok (.ifCond .eq 7, 3) := by decide +kernel
theorem dX9_arrayStore_73 : decode cX9_arrayStore 73 = .ok (.iconst 1, 1) := by decide +kernel
theorem dX9_arrayStore_74 : decode cX9_arrayStore 74 = .ok (.goto 4, 3) := by decide +kernel
theorem dX9_arrayStore_77 : decode cX9_arrayStore 77 = .ok (.iconst 0, 1) := by decide +kernel
theorem dX9_arrayStore_78 : decode cX9_arrayStore 78 = .ok (.ireturn, 1) := by decide +kernel
theorem dX9_single_0 : decode cX9_single 0 = .ok (.aload_n 0, 1) := by decide +kernel
theorem dX9_single_1 : decode cX9_single 1 = .ok (.getfield 215, 3) := by decide +kernel
theorem dX9_single_4 : decode cX9_single 4 = .ok (.iload_n 1, 1) := by decide +kernel
theorem dX9_single_5 : decode cX9_single 5 = .ok (.if_icmp .lt 53, 3) := by decide +kernel
theorem dX9_single_8 : decode cX9_single 8 = .ok (.aload_n 0, 1) := by decide +kernel
theorem dX9_single_9 : decode cX9_single 9 = .ok (.getfield 85, 3) := by decide +kernel
theorem dX9_single_12 : decode cX9_single 12 = .ok (.aload_n 0, 1) := by decide +kernel
theorem dX9_single_13 : decode cX9_single 13 = .ok (.getfield 215, 3) := by decide +kernel
theorem dX9_single_16 : decode cX9_single 16 = .ok (.iload_n 1, 1) := by decide +kernel
theorem dX9_single_17 : decode cX9_single 17 = .ok (.isub, 1) := by decide +kernel
theorem dX9_single_18 : decode cX9_single 18 = .ok (.iaload, 1) := by decide +kernel
theorem dX9_single_19 : decode cX9_single 19 = .ok (.bipush 7, 2) := by decide +kernel
theorem dX9_single_21 : decode cX9_single 21 = .ok (.if_icmp .eq 37, 3) := by decide +kernel
theorem dX9_single_24 : decode cX9_single 24 = .ok (.aload_n 0, 1) := by decide +kernel
theorem dX9_single_25 : decode cX9_single 25 = .ok (.getfield 85, 3) := by decide +kernel
theorem dX9_single_28 : decode cX9_single 28 = .ok (.aload_n 0, 1) := by decide +kernel
theorem dX9_single_29 : decode cX9_single 29 = .ok (.getfield 215, 3) := by decide +kernel
theorem dX9_single_32 : decode cX9_single 32 = .ok (.iload_n 1, 1) := by decide +kernel
theorem dX9_single_33 : decode cX9_single 33 = .ok (.isub, 1) := by decide +kernel
theorem dX9_single_34 : decode cX9_single 34 = .ok (.iaload, 1) := by decide +kernel
theorem dX9_single_35 : decode cX9_single 35 = .ok (.iconst 3, 1) := by decide +kernel
theorem dX9_single_36 : decode cX9_single 36 = .ok (.if_icmp .eq 22, 3) := by decide +kernel
theorem dX9_single_39 : decode cX9_single 39 = .ok (.aload_n 0, 1) := by decide +kernel
theorem dX9_single_40 : decode cX9_single 40 = .ok (.getfield 85, 3) := by decide +kernel
theorem dX9_single_43 : decode cX9_single 43 = .ok (.aload_n 0, 1) := by decide +kernel
theorem dX9_single_44 : decode cX9_single 44 = .ok (.getfield 215, 3) := by decide +kernel
theorem dX9_single_47 : decode cX9_single 47 = .ok (.iload_n 1, 1) := by decide +kernel
theorem dX9_single_48 : decode cX9_single 48 = .ok (.isub, 1) := by decide +kernel
theorem dX9_single_49 : decode cX9_single 49 = .ok (.iaload, 1) := by decide +kernel
theorem dX9_single_50 : decode cX9_single 50 = .ok (.iconst 4, 1) := by decide +kernel
theorem dX9_single_51 : decode cX9_single 51 = .ok (.if_icmp .eq 7, 3) := by decide +kernel
theorem dX9_single_54 : decode cX9_single 54 = .ok (.iconst 1, 1) := by decide +kernel
theorem dX9_single_55 : decode cX9_single 55 = .ok (.goto 4, 3) := by decide +kernel
theorem dX9_single_58 : decode cX9_single 58 = .ok (.iconst 0, 1) := by decide +kernel
theorem dX9_single_59 : decode cX9_single 59 = .ok (.ireturn, 1) := by decide +kernel
set_option maxRecDepth 20000 in
theorem ggX9_pair_X9_single : GoodIn wsX9_pair wsX9_single := goodIn_r _ [7, 1, 2, 8, 9, 10, 11, 12, 13, 14, 15, 16, 17, 18, 19, 20, 21, 22, 23, 24, 25, 26, 27, 28, 29, 30, 31, 32, 33, 34, 35, 36, 37, 38, 39, 40, 41, 42, 43, 44, 45, 46, 47, 48, 49, 50, 51, 52, 53, 54, 55, 56, 57, 58, 59, 60, 61, 62, 63, 64, 65, 66, 67, 68, 69] rfl (by decide +kernel)
set_option maxRecDepth 20000 in
theorem gX9_pair_X9_single : GoodIn wsX9_pair (wsV RX9 352 RX9 yX9_single wsX9_single) := goodIn_app (goodIn_of _ (by decide +kernel)) ggX9_pair_X9_single
theorem dX9_pair_0 : decode cX9_pair 0 = .ok (.aload_n 0, 1) := by decide +kernel
theorem dX9_pair_1 : decode cX9_pair 1 = .ok (.getfield 215, 3) := by decide +kernel
theorem dX9_pair_4 : decode cX9_pair 4 = .ok (.iload_n 1, 1) := by decide +kernel
theorem dX9_pair_5 : decode cX9_pair 5 = .ok (.if_icmp .lt 43, 3) := by decide +kernel
theorem dX9_pair_8 : decode cX9_pair 8 = .ok (.aload_n 0, 1) := by decide +kernel
theorem dX9_pair_9 : decode cX9_pair 9 = .ok (.getfield 85, 3) := by decide +kernel
theorem dX9_pair_12 : decode cX9_pair 12 = .ok (.aload_n 0, 1) := by decide +kernel
theorem dX9_pair_13 : decode cX9_pair 13 = .ok (.getfield 215, 3) := by decide +kernel
theorem dX9_pair_16 : decode cX9_pair 16 = .ok (.iload_n 1, 1) := by decide +kernel
theorem dX9_pair_17 : decode cX9_pair 17 = .ok (.isub, 1) := by decide +kernel
theorem dX9_pair_18 : decode cX9_pair 18 = .ok (.iconst 1, 1) := by decide +kernel
theorem dX9_pair_19 : decode cX9_pair 19 = .ok (.iadd, 1) := by decide +kernel
theorem dX9_pair_20 : decode cX9_pair 20 = .ok (.iaload, 1) := by decide +kernel
theorem dX9_pair_21 : decode cX9_pair 21 = .ok (.bipush 7, 2) := by decide +kernel
theorem dX9_pair_23 : decode cX9_pair 23 = .ok (.if_icmp .eq 21, 3) := by decide +kernel
theorem dX9_pair_26 : decode cX9_pair 26 = .ok (.aload_n 0, 1) := by decide +kernel
theorem dX9_pair_27 : decode cX9_pair 27 = .ok (.iload_n 1, 1) := by decide +kernel
theorem dX9_pair_28 : decode cX9_pair 28 = .ok (.invokevirtual 352, 3) := by decide +kernel
theorem dX9_pair_31 : decode cX9_pair 31 = .ok (.ifCond .eq 17, 3) := by decide +kernel
theorem dX9_pair_34 : decode cX9_pair 34 = .ok (.aload_n 0, 1) := by decide +kernel
theorem dX9_pair_35 : decode cX9_pair 35 = .ok (.iload_n 1, 1) := by decide +kernel
theorem dX9_pair_36 : decode cX9_pair 36 = .ok (.iconst 1, 1) := by decide +kernel
theorem dX9_pair_37 : decode cX9_pair 37 = .ok (.isub, 1) := by decide +kernel
theorem dX9_pair_38 : decode cX9_pair 38 = .ok (.invokevirtual 352, 3) := by decide +kernel
theorem dX9_pair_41 : decode cX9_pair 41 = .ok (.ifCond .eq 7, 3) := by decide +kernel
theorem dX9_pair_44 : decode cX9_pair 44 = .ok (.iconst 1, 1) := by decide +kernel
theorem dX9_pair_45 : decode cX9_pair 45 = .ok (.goto 4, 3) := by decide +kernel
theorem dX9_pair_48 : decode cX9_pair 48 = .ok (.iconst 0, 1) := by decide +kernel
theorem dX9_pair_49 : decode cX9_pair 49 = .ok (.ireturn, 1) := by decide +kernel
set_option maxRecDepth 20000 in
theorem ggX9_moves_X9_single : GoodIn wsX9_moves wsX9_single := goodIn_r _ [9, 1, 2, 14, 15, 16, 17, 18, 19, 20, 21, 22, 23, 24, 25, 26, 27, 28, 29, 30, 31, 32, 33, 34, 35, 36, 37, 38, 39, 40, 41, 42, 43, 44, 45, 46, 47, 48, 49, 50, 51, 52, 53, 54, 55, 56, 57, 58, 59, 60, 61, 62, 63, 64, 65, 66, 67, 68, 69, 70, 71, 72, 73, 74, 75] rfl (by decide +kernel)
set_option maxRecDepth 20000 in
theorem gX9_moves_X9_single : GoodIn wsX9_moves (wsV RX9 352 RX9 yX9_single wsX9_single) := goodIn_app (goodIn_of _ (by decide +kernel)) ggX9_moves_X9_single
set_option maxRecDepth 20000 in
theorem ggX9_moves_X9_pair : GoodIn wsX9_moves wsX9_pair := goodIn_r _ [13, 1, 2, 5, 6, 7, 8, 9, 14, 15, 16, 17, 18, 19, 20, 21, 22, 23, 24, 25, 26, 27, 28, 29, 30, 31, 32, 33, 34, 35, 36, 37, 38, 39, 40, 41, 42, 43, 44, 45, 46, 47, 48, 49, 50, 51, 52, 53, 54, 55, 56, 57, 58, 59, 60, 61, 62, 63, 64, 65, 66, 67, 68, 69, 70, 71, 72, 73, 74, 75] rfl (by decide +kernel)
set_option maxRecDepth 20000 in
theorem gX9_moves_X9_pair : GoodIn wsX9_moves (wsV RX9 355 RX9 yX9_pair wsX9_pair) := goodIn_app (goodIn_of _ (by decide +kernel)) ggX9_moves_X9_pair
theorem dX9_moves_0 : decode cX9_moves 0 = .ok (.aload_n 0, 1) := by decide +kernel
theorem dX9_moves_1 : decode cX9_moves 1 = .ok (.getfield 215, 3) := by decide +kernel
theorem dX9_moves_4 : decode cX9_moves 4 = .ok (.ifCond .le 17, 3) := by decide +kernel
theorem dX9_moves_7 : decode cX9_moves 7 = .ok (.aload_n 0, 1) := by decide +kernel
theorem dX9_moves_8 : decode cX9_moves 8 = .ok (.getfield 85, 3) := by decide +kernel
theorem dX9_moves_11 : decode cX9_moves 11 = .ok (.aload_n 0, 1) := by decide +kernel
theorem dX9_moves_12 : decode cX9_moves 12 = .ok (.getfield 215, 3) := by decide +kernel
theorem dX9_moves_15 : decode cX9_moves 15 = .ok (.iconst 1, 1) := by decide +kernel
theorem dX9_moves_16 : decode cX9_moves 16 = .ok (.isub, 1) := by decide +kernel
theorem dX9_moves_17 : decode cX9_moves 17 = .ok (.iaload, 1) := by decide +kernel
theorem dX9_moves_18 : decode cX9_moves 18 = .ok (.goto 4, 3) := by decide +kernel
theorem dX9_moves_21 : decode cX9_moves 21 = .ok (.iconst 0, 1) := by decide +kernel
theorem dX9_moves_22 : decode cX9_moves 22 = .ok (.istore_n 2, 1) := by decide +kernel
theorem dX9_moves_23 : decode cX9_moves 23 = .ok (.aload_n 0, 1) := by decide +kernel
theorem dX9_moves_24 : decode cX9_moves 24 = .ok (.getfield 215, 3) := by decide +kernel
theorem dX9_moves_27 : decode cX9_moves 27 = .ok (.iconst 1, 1) := by decide +kernel
theorem dX9_moves_28 : decode cX9_moves 28 = .ok (.if_icmp .le 17, 3) := by decide +kernel
theorem dX9_moves_31 : decode cX9_moves 31 = .ok (.aload_n 0, 1) := by decide +kernel
theorem dX9_moves_32 : decode cX9_moves 32 = .ok (.getfield 85, 3) := by decide +kernel
theorem dX9_moves_35 : decode cX9_moves 35 = .ok (.aload_n 0, 1) := by decide +kernel
theorem dX9_moves_36 : decode cX9_moves 36 = .ok (.getfield 215, 3) := by decide +kernel
theorem dX9_moves_39 : decode cX9_moves 39 = .ok (.iconst 2, 1) := by decide +kernel
theorem dX9_moves_40 : decode cX9_moves 40 = .ok (.isub, 1) := by decide +kernel
theorem dX9_moves_41 : decode cX9_moves 41 = .ok (.iaload, 1) := by decide +kernel
theorem dX9_moves_42 : decode cX9_moves 42 = .ok (.goto 4, 3) := by decide +kernel
theorem dX9_moves_45 : decode cX9_moves 45 = .ok (.iconst 0, 1) := by decide +kernel
theorem dX9_moves_46 : decode cX9_moves 46 = .ok (.istore_n 3, 1) := by decide +kernel
theorem dX9_moves_47 : decode cX9_moves 47 = .ok (.iload_n 1, 1) := by decide +kernel
theorem dX9_moves_48 : decode cX9_moves 48 = .ok (.bipush 87, 2) := by decide +kernel
theorem dX9_moves_50 : decode cX9_moves 50 = .ok (.if_icmp .eq 9, 3) := by decide +kernel
theorem dX9_moves_53 : decode cX9_moves 53 = .ok (.iload_n 1, 1) := by decide +kernel
theorem dX9_moves_54 : decode cX9_moves 54 = .ok (.bipush 88, 2) := by decide +kernel
theorem dX9_moves_56 : decode cX9_moves 56 = .ok (.if_icmp .ne 45, 3) := by decide +kernel
theorem dX9_moves_59 : decode cX9_moves 59 = .ok (.iload_n 1, 1) := by decide +kernel
theorem dX9_moves_60 : decode cX9_moves 60 = .ok (.bipush 87, 2) := by decide +kernel
theorem dX9_moves_62 : decode cX9_moves 62 = .ok (.if_icmp .ne 14, 3) := by decide +kernel
theorem dX9_moves_65 : decode cX9_moves 65 = .ok (.aload_n 0, 1) := by decide +kernel
theorem dX9_moves_66 : decode cX9_moves 66 = .ok (.iconst 1, 1) := by decide +kernel
theorem dX9_moves_67 : decode cX9_moves 67 = .ok (.invokevirtual 352, 3) := by decide +kernel
theorem dX9_moves_70 : decode cX9_moves 70 = .ok (.ifCond .eq 14, 3) := by decide +kernel
theorem dX9_moves_73 : decode cX9_moves 73 = .ok (.goto 13, 3) := by decide +kernel
theorem dX9_moves_76 : decode cX9_moves 76 = .ok (.aload_n 0, 1) := by decide +kernel
theorem dX9_moves_77 : decode cX9_moves 77 = .ok (.iconst 2, 1) := by decide +kernel
theorem dX9_moves_78 : decode cX9_moves 78 = .ok (.invokevirtual 355, 3) := by decide +kernel
theorem dX9_moves_81 : decode cX9_moves 81 = .ok (.ifCond .ne 5, 3) := by decide +kernel
theorem dX9_moves_84 : decode cX9_moves 84 = .ok (.iconst 0, 1) := by decide +kernel
theorem dX9_moves_85 : decode cX9_moves 85 = .ok (.ireturn, 1) := by decide +kernel
theorem dX9_moves_86 : decode cX9_moves 86 = .ok (.aload_n 0, 1) := by decide +kernel
theorem dX9_moves_87 : decode cX9_moves 87 = .ok (.dup, 1) := by decide +kernel
theorem dX9_moves_88 : decode cX9_moves 88 = .ok (.getfield 215, 3) := by decide +kernel
theorem dX9_moves_91 : decode cX9_moves 91 = .ok (.iload_n 1, 1) := by decide +kernel
theorem dX9_moves_92 : decode cX9_moves 92 = .ok (.bipush 86, 2) := by decide +kernel
theorem dX9_moves_94 : decode cX9_moves 94 = .ok (.isub, 1) := by decide +kernel
theorem dX9_moves_95 : decode cX9_moves 95 = .ok (.isub, 1) := by decide +kernel
theorem dX9_moves_96 : decode cX9_moves 96 = .ok (.putfield 215, 3) := by decide +kernel
theorem dX9_moves_99 : decode cX9_moves 99 = .ok (.iconst 1, 1) := by decide +kernel
theorem dX9_moves_100 : decode cX9_moves 100 = .ok (.ireturn, 1) := by decide +kernel
theorem dX9_moves_101 : decode cX9_moves 101 = .ok (.iload_n 1, 1) := by decide +kernel
theorem dX9_moves_102 : decode cX9_moves 102 = .ok (.bipush 95, 2) := by decide +kernel
theorem dX9_moves_104 : decode cX9_moves 104 = .ok (.if_icmp .ne 47, 3) := by decide +kernel
theorem dX9_moves_107 : decode cX9_moves 107 = .ok (.aload_n 0, 1) := by decide +kernel
theorem dX9_moves_108 : decode cX9_moves 108 = .ok (.iconst 1, 1) := by decide +kernel
theorem dX9_moves_109 : decode cX9_moves 109 = .ok (.invokevirtual 352, 3) := by decide +kernel
theorem dX9_moves_112 : decode cX9_moves 112 = .ok (.ifCond .eq 11, 3) := by decide +kernel
theorem dX9_moves_115 : decode cX9_moves 115 = .ok (.aload_n 0, 1) := by decide +kernel
theorem dX9_moves_116 : decode cX9_moves 116 = .ok (.iconst 2, 1) := by decide +kernel
theorem dX9_moves_117 : decode cX9_moves 117 = .ok (.invokevirtual 352, 3) := by decide +kernel
theorem dX9_moves_120 : decode cX9_moves 120 = .ok (.ifCond .ne 5, 3) := by decide +kernel
theorem dX9_moves_123 : decode cX9_moves 123 = .ok (.iconst 0, 1) := by decide +kernel
theorem dX9_moves_124 : decode cX9_moves 124 = .ok (.ireturn, 1) := by decide +kernel
theorem dX9_moves_125 : decode cX9_moves 125 = .ok (.aload_n 0, 1) := by decide +kernel
theorem dX9_moves_126 : decode cX9_moves 126 = .ok (.getfield 85, 3) := by decide +kernel
theorem dX9_moves_129 : decode cX9_moves 129 = .ok (.aload_n 0, 1) := by decide +kernel
theorem dX9_moves_130 : decode cX9_moves 130 = .ok (.getfield 215, 3) := by decide +kernel
theorem dX9_moves_133 : decode cX9_moves 133 = .ok (.iconst 2, 1) := by decide +kernel
theorem dX9_moves_134 : decode cX9_moves 134 = .ok (.isub, 1) := by decide +kernel
theorem dX9_moves_135 : decode cX9_moves 135 = .ok (.iload_n 2, 1) := by decide +kernel
theorem dX9_moves_136 : decode cX9_moves 136 = .ok (.iastore, 1) := by decide +kernel
theorem dX9_moves_137 : decode cX9_moves 137 = .ok (.aload_n 0, 1) := by decide +kernel
theorem dX9_moves_138 : decode cX9_moves 138 = .ok (.getfield 85, 3) := by decide +kernel
theorem dX9_moves_141 : decode cX9_moves 141 = .ok (.aload_n 0, 1) := by decide +kernel
theorem dX9_moves_142 : decode cX9_moves 142 = .ok (.getfield 215, 3) := by decide +kernel
theorem dX9_moves_145 : decode cX9_moves 145 = .ok (.iconst 1, 1) := by decide +kernel
theorem dX9_moves_146 : decode cX9_moves 146 = .ok (.isub, 1) := by decide +kernel
theorem dX9_moves_147 : decode cX9_moves 147 = .ok (.iload_n 3, 1) := by decide +kernel
theorem dX9_moves_148 : decode cX9_moves 148 = .ok (.iastore, 1) := by decide +kernel
theorem dX9_moves_149 : decode cX9_moves 149 = .ok (.iconst 1, 1) := by decide +kernel
theorem dX9_moves_150 : decode cX9_moves 150 = .ok (.ireturn, 1) := by decide +kernel
theorem dX9_moves_151 : decode cX9_moves 151 = .ok (.iload_n 1, 1) := by decide +kernel
theorem dX9_moves_152 : decode cX9_moves 152 = .ok (.bipush 91, 2) := by decide +kernel
theorem dX9_moves_154 : decode cX9_moves 154 = .ok (.if_icmp .gt 7, 3) := by decide +kernel
theorem dX9_moves_157 : decode cX9_moves 157 = .ok (.iconst 1, 1) := by decide +kernel
theorem dX9_moves_158 : decode cX9_moves 158 = .ok (.goto 4, 3) := by decide +kernel
theorem dX9_moves_161 : decode cX9_moves 161 = .ok (.iconst 2, 1) := by decide +kernel
theorem dX9_moves_162 : decode cX9_moves 162 = .ok (.istore 4, 2) := by decide +kernel
theorem dX9_moves_164 : decode cX9_moves 164 = .ok (.iload_n 1, 1) := by decide +kernel
theorem dX9_moves_165 : decode cX9_moves 165 = .ok (.bipush 91, 2) := by decide +kernel
theorem dX9_moves_167 : decode cX9_moves 167 = .ok (.if_icmp .gt 10, 3) := by decide +kernel
theorem dX9_moves_170 : decode cX9_moves 170 = .ok (.iload_n 1, 1) := by decide +kernel
theorem dX9_moves_171 : decode cX9_moves 171 = .ok (.bipush 89, 2) := by decide +kernel
theorem dX9_moves_173 : decode cX9_moves 173 = .ok (.isub, 1) := by decide +kernel
theorem dX9_moves_174 : decode cX9_moves 174 = .ok (.goto 7, 3) := by decide +kernel
theorem dX9_moves_177 : decode cX9_moves 177 = .ok (.iload_n 1, 1) := by decide +kernel
theorem dX9_moves_178 : decode cX9_moves 178 = .ok (.bipush 92, 2) := by decide +kernel
theorem dX9_moves_180 : decode cX9_moves 180 = .ok (.isub, 1) := by decide +kernel
theorem dX9_moves_181 : decode cX9_moves 181 = .ok (.istore 5, 2) := by decide +kernel
theorem dX9_moves_183 : decode cX9_moves 183 = .ok (.iload 4, 2) := by decide +kernel
theorem dX9_moves_185 : decode cX9_moves 185 = .ok (.iconst 1, 1) := by decide +kernel
theorem dX9_moves_186 : decode cX9_moves 186 = .ok (.if_icmp .ne 14, 3) := by decide +kernel
theorem dX9_moves_189 : decode cX9_moves 189 = .ok (.aload_n 0, 1) := by decide +kernel
theorem dX9_moves_190 : decode cX9_moves 190 = .ok (.iconst 1, 1) := by decide +kernel
theorem dX9_moves_191 : decode cX9_moves 191 = .ok (.invokevirtual 352, 3) := by decide +kernel
theorem dX9_moves_194 : decode cX9_moves 194 = .ok (.ifCond .eq 14, 3) := by decide +kernel
theorem dX9_moves_197 : decode cX9_moves 197 = .ok (.goto 13, 3) := by decide +kernel
theorem dX9_moves_200 : decode cX9_moves 200 = .ok (.aload_n 0, 1) := by decide +kernel
theorem dX9_moves_201 : decode cX9_moves 201 = .ok (.iconst 2, 1) := by decide +kernel
theorem dX9_moves_202 : decode cX9_moves 202 = .ok (.invokevirtual 355, 3) := by decide +kernel
theorem dX9_moves_205 : decode cX9_moves 205 = .ok (.ifCond .ne 5, 3) := by decide +kernel
theorem dX9_moves_208 : decode cX9_moves 208 = .ok (.iconst 0, 1) := by decide +kernel
theorem dX9_moves_209 : decode cX9_moves 209 = .ok (.ireturn, 1) := by decide +kernel
theorem dX9_moves_210 : decode cX9_moves 210 = .ok (.iload 5, 2) := by decide +kernel
theorem dX9_moves_212 : decode cX9_moves 212 = .ok (.iconst 1, 1) := by decide +kernel
theorem dX9_moves_213 : decode cX9_moves 213 = .ok (.if_icmp .ne 14, 3) := by decide +kernel
theorem dX9_moves_216 : decode cX9_moves 216 = .ok (.aload_n 0, 1) := by decide +kernel
theorem dX9_moves_217 : decode cX9_moves 217 = .ok (.iload 4, 2) := by decide +kernel
theorem dX9_moves_219 : decode cX9_moves 219 = .ok (.iconst 1, 1) := by decide +kernel
theorem dX9_moves_220 : decode cX9_moves 220 = .ok (.iadd, 1) := by decide +kernel
theorem dX9_moves_221 : decode cX9_moves 221 = .ok (.invokevirtual 352, 3) := by decide +kernel
theorem dX9_moves_224 : decode cX9_moves 224 = .ok (.ifCond .eq 20, 3) := by decide +kernel
theorem dX9_moves_227 : decode cX9_moves 227 = .ok (.iload 5, 2) := by decide +kernel
theorem dX9_moves_229 : decode cX9_moves 229 = .ok (.iconst 2, 1) := by decide +kernel
theorem dX9_moves_230 : decode cX9_moves 230 = .ok (.if_icmp .ne 16, 3) := by decide +kernel
theorem dX9_moves_233 : decode cX9_moves 233 = .ok (.aload_n 0, 1) := by decide +kernel
theorem dX9_moves_234 : decode cX9_moves 234 = .ok (.iload 4, 2) := by decide +kernel
theorem dX9_moves_236 : decode cX9_moves 236 = .ok (.iconst 2, 1) := by decide +kernel
theorem dX9_moves_237 : decode cX9_moves 237 = .ok (.iadd, 1) := by decide +kernel
theorem dX9_moves_238 : decode cX9_moves 238 = .ok (.invokevirtual 355, 3) := by decide +kernel
theorem dX9_moves_241 : decode cX9_moves 241 = .ok (.ifCond .ne 5, 3) := by decide +kernel
theorem dX9_moves_244 : decode cX9_moves 244 = .ok (.iconst 0, 1) := by decide +kernel
theorem dX9_moves_245 : decode cX9_moves 245 = .ok (.ireturn, 1) := by decide +kernel
theorem dX9_moves_246 : decode cX9_moves 246 = .ok (.aload_n 0, 1) := by decide +kernel
theorem dX9_moves_247 : decode cX9_moves 247 = .ok (.getfield 215, 3) := by decide +kernel
theorem dX9_moves_250 : decode cX9_moves 250 = .ok (.iload 4, 2) := by decide +kernel
theorem dX9_moves_252 : decode cX9_moves 252 = .ok (.iadd, 1) := by decide +kernel
theorem dX9_moves_253 : decode cX9_moves 253 = .ok (.aload_n 0, 1) := by decide +kernel
theorem dX9_moves_254 : decode cX9_moves 254 = .ok (.getfield 173, 3) := by decide +kernel
theorem dX9_moves_257 : decode cX9_moves 257 = .ok (.if_icmp .le 5, 3) := by decide +kernel
theorem dX9_moves_260 : decode cX9_moves 260 = .ok (.iconst 0, 1) := by decide +kernel
theorem dX9_moves_261 : decode cX9_moves 261 = .ok (.ireturn, 1) := by decide +kernel
theorem dX9_moves_262 : decode cX9_moves 262 = .ok (.aload_n 0, 1) := by decide +kernel
theorem dX9_moves_263 : decode cX9_moves 263 = .ok (.getfield 215, 3) := by decide +kernel
theorem dX9_moves_266 : decode cX9_moves 266 = .ok (.iload 4, 2) := by decide +kernel
theorem dX9_moves_268 : decode cX9_moves 268 = .ok (.isub, 1) := by decide +kernel
theorem dX9_moves_269 : decode cX9_moves 269 = .ok (.iload 5, 2) := by decide +kernel
theorem dX9_moves_271 : decode cX9_moves 271 = .ok (.isub, 1) := by decide +kernel
theorem dX9_moves_272 : decode cX9_moves 272 = .ok (.istore 6, 2) := by decide +kernel
theorem dX9_moves_274 : decode cX9_moves 274 = .ok (.iconst 0, 1) := by decide +kernel
theorem dX9_moves_275 : decode cX9_moves 275 = .ok (.istore 7, 2) := by decide +kernel
theorem dX9_moves_277 : decode cX9_moves 277 = .ok (.iload 7, 2) := by decide +kernel
theorem dX9_moves_279 : decode cX9_moves 279 = .ok (.iload 5, 2) := by decide +kernel
theorem dX9_moves_281 : decode cX9_moves 281 = .ok (.if_icmp .ge 26, 3) := by decide +kernel
theorem dX9_moves_284 : decode cX9_moves 284 = .ok (.aload_n 0, 1) := by decide +kernel
theorem dX9_moves_285 : decode cX9_moves 285 = .ok (.getfield 137, 3) := by decide +kernel
theorem dX9_moves_288 : decode cX9_moves 288 = .ok (.iload 7, 2) := by decide +kernel
theorem dX9_moves_290 : decode cX9_moves 290 = .ok (.aload_n 0, 1) := by decide +kernel
theorem dX9_moves_291 : decode cX9_moves 291 = .ok (.getfield 85, 3) := by decide +kernel
theorem dX9_moves_294 : decode cX9_moves 294 = .ok (.iload 6, 2) := by decide +kernel
theorem dX9_moves_296 : decode cX9_moves 296 = .ok (.iload 7, 2) := by decide +kernel
theorem dX9_moves_298 : decode cX9_moves 298 = .ok (.iadd, 1) := by decide +kernel
theorem dX9_moves_299 : decode cX9_moves 299 = .ok (.iaload, 1) := by decide +kernel
theorem dX9_moves_300 : decode cX9_moves 300 = .ok (.iastore, 1) := by decide +kernel
theorem dX9_moves_301 : decode cX9_moves 301 = .ok (.iinc 7 1, 3) := by decide +kernel
theorem dX9_moves_304 : decode cX9_moves 304 = .ok (.goto (-27), 3) := by decide +kernel
theorem dX9_moves_307 : decode cX9_moves 307 = .ok (.iload 4, 2) := by decide +kernel
theorem dX9_moves_309 : decode cX9_moves 309 = .ok (.iconst 1, 1) := by decide +kernel
theorem dX9_moves_310 : decode cX9_moves 310 = .ok (.if_icmp .ne 14, 3) := by decide +kernel
theorem dX9_moves_313 : decode cX9_moves 313 = .ok (.aload_n 0, 1) := by decide +kernel
theorem dX9_moves_314 : decode cX9_moves 314 = .ok (.getfield 85, 3) := by decide +kernel
theorem dX9_moves_317 : decode cX9_moves 317 = .ok (.iload 6, 2) := by decide +kernel
theorem dX9_moves_319 : decode cX9_moves 319 = .ok (.iload_n 2, 1) := by decide +kernel
theorem dX9_moves_320 : decode cX9_moves 320 = .ok (.iastore, 1) := by decide +kernel
theorem dX9_moves_321 : decode cX9_moves 321 = .ok (.goto 21, 3) := by decide +kernel
theorem dX9_moves_324 : decode cX9_moves 324 = .ok (.aload_n 0, 1) := by decide +kernel
theorem dX9_moves_325 : decode cX9_moves 325 = .ok (.getfield 85, 3) := by decide +kernel
theorem dX9_moves_328 : decode cX9_moves 328 = .ok (.iload 6, 2) := by decide +kernel
theorem dX9_moves_330 : decode cX9_moves 330 = .ok (.iload_n 3, 1) := by decide +kernel
theorem dX9_moves_331 : decode cX9_moves 331 = .ok (.iastore, 1) := by decide +kernel
theorem dX9_moves_332 : decode cX9_moves 332 = .ok (.aload_n 0, 1) := by decide +kernel
theorem dX9_moves_333 : decode cX9_moves 333 = .ok (.getfield 85, 3) := by decide +kernel
theorem dX9_moves_336 : decode cX9_moves 336 = .ok (.iload 6, 2) := by decide +kernel
theorem dX9_moves_338 : decode cX9_moves 338 = .ok (.iconst 1, 1) := by decide +kernel
theorem dX9_moves_339 : decode cX9_moves 339 = .ok (.iadd, 1) := by decide +kernel
theorem dX9_moves_340 : decode cX9_moves 340 = .ok (.iload_n 2, 1) := by decide +kernel
theorem dX9_moves_341 : decode cX9_moves 341 = .ok (.iastore, 1) := by decide +kernel
theorem dX9_moves_342 : decode cX9_moves 342 = .ok (.iconst 0, 1) := by decide +kernel
theorem dX9_moves_343 : decode cX9_moves 343 = .ok (.istore 7, 2) := by decide +kernel
theorem dX9_moves_345 : decode cX9_moves 345 = .ok (.iload 7, 2) := by decide +kernel
theorem dX9_moves_347 : decode cX9_moves 347 = .ok (.iload 5, 2) := by decide +kernel
theorem dX9_moves_349 : decode cX9_moves 349 = .ok (.if_icmp .ge 29, 3) := by decide +kernel
theorem dX9_moves_352 : decode cX9_moves 352 = .ok (.aload_n 0, 1) := by decide +kernel
theorem dX9_moves_353 : decode cX9_moves 353 = .ok (.getfield 85, 3) := by decide +kernel
theorem dX9_moves_356 : decode cX9_moves 356 = .ok (.iload 6, 2) := by decide +kernel
theorem dX9_moves_358 : decode cX9_moves 358 = .ok (.iload 4, 2) := by decide +kernel
theorem dX9_moves_360 : decode cX9_moves 360 = .ok (.iadd, 1) := by decide +kernel
theorem dX9_moves_361 : decode cX9_moves 361 = .ok (.iload 7, 2) := by decide +kernel
theorem dX9_moves_363 : decode cX9_moves 363 = .ok (.iadd, 1) := by decide +kernel
theorem dX9_moves_364 : decode cX9_moves 364 = .ok (.aload_n 0, 1) := by decide +kernel
theorem dX9_moves_365 : decode cX9_moves 365 = .ok (.getfield 137, 3) := by decide +kernel
theorem dX9_moves_368 : decode cX9_moves 368 = .ok (.iload 7, 2) := by decide +kernel
theorem dX9_moves_370 : decode cX9_moves 370 = .ok (.iaload, 1) := by decide +kernel
theorem dX9_moves_371 : decode cX9_moves 371 = .ok (.iastore, 1) := by decide +kernel
theorem dX9_moves_372 : decode cX9_moves 372 = .ok (.iinc 7 1, 3) := by decide +kernel
theorem dX9_moves_375 : decode cX9_moves 375 = .ok (.goto (-30), 3) := by decide +kernel
theorem dX9_moves_378 : decode cX9_moves 378 = .ok (.iload 4, 2) := by decide +kernel
theorem dX9_moves_380 : decode cX9_moves 380 = .ok (.iconst 1, 1) := by decide +kernel
theorem dX9_moves_381 : decode cX9_moves 381 = .ok (.if_icmp .ne 19, 3) := by decide +kernel
theorem dX9_moves_384 : decode cX9_moves 384 = .ok (.aload_n 0, 1) := by decide +kernel
theorem dX9_moves_385 : decode cX9_moves 385 = .ok (.getfield 85, 3) := by decide +kernel
theorem dX9_moves_388 : decode cX9_moves 388 = .ok (.iload 6, 2) := by decide +kernel
theorem dX9_moves_390 : decode cX9_moves 390 = .ok (.iload 5, 2) := by decide +kernel
theorem dX9_moves_392 : decode cX9_moves 392 = .ok (.iadd, 1) := by decide +kernel
theorem dX9_moves_393 : decode cX9_moves 393 = .ok (.iconst 1, 1) := by decide +kernel
theorem dX9_moves_394 : decode cX9_moves 394 = .ok (.iadd, 1) := by decide +kernel
theorem dX9_moves_395 : decode cX9_moves 395 = .ok (.iload_n 2, 1) := by decide +kernel
theorem dX9_moves_396 : decode cX9_moves 396 = .ok (.iastore, 1) := by decide +kernel
theorem dX9_moves_397 : decode cX9_moves 397 = .ok (.goto 29, 3) := by decide +kernel
theorem dX9_moves_400 : decode cX9_moves 400 = .ok (.aload_n 0, 1) := by decide +kernel
theorem dX9_moves_401 : decode cX9_moves 401 = .ok (.getfield 85, 3) := by decide +kernel
theorem dX9_moves_404 : decode cX9_moves 404 = .ok (.iload 6, 2) := by decide +kernel
theorem dX9_moves_406 : decode cX9_moves 406 = .ok (.iload 5, 2) := by decide +kernel
theorem dX9_moves_408 : decode cX9_moves 408 = .ok (.iadd, 1) := by decide +kernel
theorem dX9_moves_409 : decode cX9_moves 409 = .ok (.iconst 2, 1) := by decide +kernel
theorem dX9_moves_410 : decode cX9_moves 410 = .ok (.iadd, 1) := by decide +kernel
theorem dX9_moves_411 : decode cX9_moves 411 = .ok (.iload_n 3, 1) := by decide +kernel
theorem dX9_moves_412 : decode cX9_moves 412 = .ok (.iastore, 1) := by decide +kernel
theorem dX9_moves_413 : decode cX9_moves 413 = .ok (.aload_n 0, 1) := by decide +kernel
theorem dX9_moves_414 : decode cX9_moves 414 = .ok (.getfield 85, 3) := by decide +kernel
theorem dX9_moves_417 : decode cX9_moves 417 = .ok (.iload 6, 2) := by decide +kernel
theorem dX9_moves_419 : decode cX9_moves 419 = .ok (.iload 5, 2) := by decide +kernel
theorem dX9_moves_421 : decode cX9_moves 421 = .ok (.iadd, 1) := by decide +kernel
theorem dX9_moves_422 : decode cX9_moves 422 = .ok (.iconst 3, 1) := by decide +kernel
theorem dX9_moves_423 : decode cX9_moves 423 = .ok (.iadd, 1) := by decide +kernel
theorem dX9_moves_424 : decode cX9_moves 424 = .ok (.iload_n 2, 1) := by decide +kernel
theorem dX9_moves_425 : decode cX9_moves 425 = .ok (.iastore, 1) := by decide +kernel
theorem dX9_moves_426 : decode cX9_moves 426 = .ok (.aload_n 0, 1) := by decide +kernel
theorem dX9_moves_427 : decode cX9_moves 427 = .ok (.dup, 1) := by decide +kernel
theorem dX9_moves_428 : decode cX9_moves 428 = .ok (.getfield 215, 3) := by decide +kernel
theorem dX9_moves_431 : decode cX9_moves 431 = .ok (.iload 4, 2) := by decide +kernel
theorem dX9_moves_433 : decode cX9_moves 433 = .ok (.iadd, 1) := by decide +kernel
theorem dX9_moves_434 : decode cX9_moves 434 = .ok (.putfield 215, 3) := by decide +kernel
theorem dX9_moves_437 : decode cX9_moves 437 = .ok (.iconst 1, 1) := by decide +kernel
theorem dX9_moves_438 : decode cX9_moves 438 = .ok (.ireturn, 1) := by decide +kernel
set_option maxRecDepth 20000 in
theorem ggX9_computes_X9_pop : GoodIn wsX9_computes wsX9_pop := goodIn_r _ [6, 7, 8, 14, 15, 16, 17, 18, 19, 20, 21, 22, 23, 24, 25, 26, 27, 28, 29, 30, 31, 32, 33, 34, 35, 36, 37, 38, 39, 40, 41, 42, 43, 44, 45, 46, 47, 48, 49, 50, 51, 52, 53, 54, 55, 56, 57, 58, 59, 60, 61, 62, 63, 64, 65, 66, 67, 68, 69, 70, 71, 72, 73, 74, 75] rfl (by decide +kernel)
set_option maxRecDepth 20000 in
theorem gX9_computes_X9_pop : GoodIn wsX9_computes (wsV RX9 225 RX9 yX9_pop wsX9_pop) := goodIn_app (goodIn_of _ (by decide +kernel)) ggX9_computes_X9_pop
set_option maxRecDepth 20000 in
theorem ggX9_computes_X9_push : GoodIn wsX9_computes wsX9_push := goodIn_r _ [12, 7, 13, 8, 14, 15, 16, 17, 18, 19, 20, 21, 22, 23, 24, 25, 26, 27, 28, 29, 30, 31, 32, 33, 34, 35, 36, 37, 38, 39, 40, 41, 42, 43, 44, 45, 46, 47, 48, 49, 50, 51, 52, 53, 54, 55, 56, 57, 58, 59, 60, 61, 62, 63, 64, 65, 66, 67, 68, 69, 70, 71, 72, 73, 74, 75] rfl (by decide +kernel)
set_option maxRecDepth 20000 in
theorem gX9_computes_X9_push : GoodIn wsX9_computes (wsV RX9 295 RX9 yX9_push wsX9_push) := goodIn_app (goodIn_of _ (by decide +kernel)) ggX9_computes_X9_push
theorem dX9_computes_0 : decode cX9_computes 0 = .ok (.iload_n 1, 1) := by decide +kernel
theorem dX9_computes_1 : decode cX9_computes 1 = .ok (.bipush 120, 2) := by decide +kernel
theorem dX9_computes_3 : decode cX9_computes 3 = .ok (.if_icmp .lt 55, 3) := by decide +kernel
theorem dX9_computes_6 : decode cX9_computes 6 = .ok (.iload_n 1, 1) := by decide +kernel
theorem dX9_computes_7 : decode cX9_computes 7 = .ok (.iconst 1, 1) := by decide +kernel
theorem dX9_computes_8 : decode cX9_computes 8 = .ok (.iand, 1) := by decide +kernel
theorem dX9_computes_9 : decode cX9_computes 9 = .ok (.ifCond .ne 7, 3) := by decide +kernel
theorem dX9_computes_12 : decode cX9_computes 12 = .ok (.iconst 1, 1) := by decide +kernel
theorem dX9_computes_13 : decode cX9_computes 13 = .ok (.goto 4, 3) := by decide +kernel
theorem dX9_computes_16 : decode cX9_computes 16 = .ok (.iconst 3, 1) := by decide +kernel
theorem dX9_computes_17 : decode cX9_computes 17 = .ok (.istore_n 2, 1) := by decide +kernel
theorem dX9_computes_18 : decode cX9_computes 18 = .ok (.aload_n 0, 1) := by decide +kernel
theorem dX9_computes_19 : decode cX9_computes 19 = .ok (.iload_n 1, 1) := by decide +kernel
theorem dX9_computes_20 : decode cX9_computes 20 = .ok (.bipush 125, 2) := by decide +kernel
theorem dX9_computes_22 : decode cX9_computes 22 = .ok (.if_icmp .gt 7, 3) := by decide +kernel
theorem dX9_computes_25 : decode cX9_computes 25 = .ok (.iconst 1, 1) := by decide +kernel
theorem dX9_computes_26 : decode cX9_computes 26 = .ok (.goto 4, 3) := by decide +kernel
theorem dX9_computes_29 : decode cX9_computes 29 = .ok (.iload_n 2, 1) := by decide +kernel
theorem dX9_computes_30 : decode cX9_computes 30 = .ok (.invokevirtual 225, 3) := by decide +kernel
theorem dX9_computes_33 : decode cX9_computes 33 = .ok (.ifCond .eq 23, 3) := by decide +kernel
theorem dX9_computes_36 : decode cX9_computes 36 = .ok (.aload_n 0, 1) := by decide +kernel
theorem dX9_computes_37 : decode cX9_computes 37 = .ok (.iload_n 2, 1) := by decide +kernel
theorem dX9_computes_38 : decode cX9_computes 38 = .ok (.invokevirtual 225, 3) := by decide +kernel
theorem dX9_computes_41 : decode cX9_computes 41 = .ok (.ifCond .eq 15, 3) := by decide +kernel
theorem dX9_computes_44 : decode cX9_computes 44 = .ok (.aload_n 0, 1) := by decide +kernel
theorem dX9_computes_45 : decode cX9_computes 45 = .ok (.iload_n 2, 1) := by decide +kernel
theorem dX9_computes_46 : decode cX9_computes 46 = .ok (.invokevirtual 295, 3) := by decide +kernel
theorem dX9_computes_49 : decode cX9_computes 49 = .ok (.ifCond .eq 7, 3) := by decide +kernel
theorem dX9_computes_52 : decode cX9_computes 52 = .ok (.iconst 1, 1) := by decide +kernel
theorem dX9_computes_53 : decode cX9_computes 53 = .ok (.goto 4, 3) := by decide +kernel
theorem dX9_computes_56 : decode cX9_computes 56 = .ok (.iconst 0, 1) := by decide +kernel
theorem dX9_computes_57 : decode cX9_computes 57 = .ok (.ireturn, 1) := by decide +kernel
theorem dX9_computes_58 : decode cX9_computes 58 = .ok (.getstatic 341, 3) := by decide +kernel
theorem dX9_computes_61 : decode cX9_computes 61 = .ok (.iload_n 1, 1) := by decide +kernel
theorem dX9_computes_62 : decode cX9_computes 62 = .ok (.bipush 96, 2) := by decide +kernel
theorem dX9_computes_64 : decode cX9_computes 64 = .ok (.isub, 1) := by decide +kernel
theorem dX9_computes_65 : decode cX9_computes 65 = .ok (.iconst 4, 1) := by decide +kernel
theorem dX9_computes_66 : decode cX9_computes 66 = .ok (.irem, 1) := by decide +kernel
theorem dX9_computes_67 : decode cX9_computes 67 = .ok (.iaload, 1) := by decide +kernel
theorem dX9_computes_68 : decode cX9_computes 68 = .ok (.istore_n 2, 1) := by decide +kernel
theorem dX9_computes_69 : decode cX9_computes 69 = .ok (.aload_n 0, 1) := by decide +kernel
theorem dX9_computes_70 : decode cX9_computes 70 = .ok (.iload_n 2, 1) := by decide +kernel
theorem dX9_computes_71 : decode cX9_computes 71 = .ok (.invokevirtual 225, 3) := by decide +kernel
theorem dX9_computes_74 : decode cX9_computes 74 = .ok (.ifCond .eq 29, 3) := by decide +kernel
theorem dX9_computes_77 : decode cX9_computes 77 = .ok (.iload_n 1, 1) := by decide +kernel
theorem dX9_computes_78 : decode cX9_computes 78 = .ok (.bipush 116, 2) := by decide +kernel
theorem dX9_computes_80 : decode cX9_computes 80 = .ok (.if_icmp .ge 11, 3) := by decide +kernel
theorem dX9_computes_83 : decode cX9_computes 83 = .ok (.aload_n 0, 1) := by decide +kernel
theorem dX9_computes_84 : decode cX9_computes 84 = .ok (.iload_n 2, 1) := by decide +kernel
theorem dX9_computes_85 : decode cX9_computes 85 = .ok (.invokevirtual 225, 3) := by decide +kernel
theorem dX9_computes_88 : decode cX9_computes 88 = .ok (.ifCond .eq 15, 3) := by decide +kernel
theorem dX9_computes_91 : decode cX9_computes 91 = .ok (.aload_n 0, 1) := by decide +kernel
theorem dX9_computes_92 : decode cX9_computes 92 = .ok (.iload_n 2, 1) := by decide +kernel
theorem dX9_computes_93 : decode cX9_computes 93 = .ok (.invokevirtual 295, 3) := by decide +kernel
theorem dX9_computes_96 : decode cX9_computes 96 = .ok (.ifCond .eq 7, 3) := by decide +kernel
theorem dX9_computes_99 : decode cX9_computes 99 = .ok (.iconst 1, 1) := by decide +kernel
theorem dX9_computes_100 : decode cX9_computes 100 = .ok (.goto 4, 3) := by decide +kernel
theorem dX9_computes_103 : decode cX9_computes 103 = .ok (.iconst 0, 1) := by decide +kernel
theorem dX9_computes_104 : decode cX9_computes 104 = .ok (.ireturn, 1) := by decide +kernel
set_option maxRecDepth 20000 in
theorem ggX9_converts_X9_pop : GoodIn wsX9_converts wsX9_pop := goodIn_r _ [5, 6, 7, 13, 14, 15, 16, 17, 18, 19, 20, 21, 22, 23, 24, 25, 26, 27, 28, 29, 30, 31, 32, 33, 34, 35, 36, 37, 38, 39, 40, 41, 42, 43, 44, 45, 46, 47, 48, 49, 50, 51, 52, 53, 54, 55, 56, 57, 58, 59, 60, 61, 62, 63, 64, 65, 66, 67, 68, 69, 70, 71, 72, 73, 74] rfl (by decide +kernel)
set_option maxRecDepth 20000 in
theorem gX9_converts_X9_pop : GoodIn wsX9_converts (wsV RX9 225 RX9 yX9_pop wsX9_pop) := goodIn_app (goodIn_of _ (by decide +kernel)) ggX9_converts_X9_pop
set_option maxRecDepth 20000 in
theorem ggX9_converts_X9_push : GoodIn wsX9_converts wsX9_push := goodIn_r _ [11, 6, 12, 7, 13, 14, 15, 16, 17, 18, 19, 20, 21, 22, 23, 24, 25, 26, 27, 28, 29, 30, 31, 32, 33, 34, 35, 36, 37, 38, 39, 40, 41, 42, 43, 44, 45, 46, 47, 48, 49, 50, 51, 52, 53, 54, 55, 56, 57, 58, 59, 60, 61, 62, 63, 64, 65, 66, 67, 68, 69, 70, 71, 72, 73, 74] rfl (by decide +kernel)
set_option maxRecDepth 20000 in
theorem gX9_converts_X9_push : GoodIn wsX9_converts (wsV RX9 295 RX9 yX9_push wsX9_push) := goodIn_app (goodIn_of _ (by decide +kernel)) ggX9_converts_X9_push
theorem dX9_converts_0 : decode cX9_converts 0 = .ok (.iload_n 1, 1) := by decide +kernel
theorem dX9_converts_1 : decode cX9_converts 1 = .ok (.sipush 148, 3) := by decide +kernel
theorem dX9_converts_4 : decode cX9_converts 4 = .ok (.if_icmp .lt 57, 3) := by decide +kernel
theorem dX9_converts_7 : decode cX9_converts 7 = .ok (.iload_n 1, 1) := by decide +kernel
theorem dX9_converts_8 : decode cX9_converts 8 = .ok (.sipush 148, 3) := by decide +kernel
theorem dX9_converts_11 : decode cX9_converts 11 = .ok (.if_icmp .ne 7, 3) := by decide +kernel
theorem dX9_converts_14 : decode cX9_converts 14 = .ok (.iconst 3, 1) := by decide +kernel
theorem dX9_converts_15 : decode cX9_converts 15 = .ok (.goto 15, 3) := by decide +kernel
theorem dX9_converts_18 : decode cX9_converts 18 = .ok (.iload_n 1, 1) := by decide +kernel
theorem dX9_converts_19 : decode cX9_converts 19 = .ok (.sipush 150, 3) := by decide +kernel
theorem dX9_converts_22 : decode cX9_converts 22 = .ok (.if_icmp .gt 7, 3) := by decide +kernel
theorem dX9_converts_25 : decode cX9_converts 25 = .ok (.iconst 2, 1) := by decide +kernel
theorem dX9_converts_26 : decode cX9_converts 26 = .ok (.goto 4, 3) := by decide +kernel
theorem dX9_converts_29 : decode cX9_converts 29 = .ok (.iconst 4, 1) := by decide +kernel
theorem dX9_converts_30 : decode cX9_converts 30 = .ok (.istore_n 2, 1) := by decide +kernel
theorem dX9_converts_31 : decode cX9_converts 31 = .ok (.aload_n 0, 1) := by decide +kernel
theorem dX9_converts_32 : decode cX9_converts 32 = .ok (.iload_n 2, 1) := by decide +kernel
theorem dX9_converts_33 : decode cX9_converts 33 = .ok (.invokevirtual 225, 3) := by decide +kernel
theorem dX9_converts_36 : decode cX9_converts 36 = .ok (.ifCond .eq 23, 3) := by decide +kernel
theorem dX9_converts_39 : decode cX9_converts 39 = .ok (.aload_n 0, 1) := by decide +kernel
theorem dX9_converts_40 : decode cX9_converts 40 = .ok (.iload_n 2, 1) := by decide +kernel
theorem dX9_converts_41 : decode cX9_converts 41 = .ok (.invokevirtual 225, 3) := by decide +kernel
theorem dX9_converts_44 : decode cX9_converts 44 = .ok (.ifCond .eq 15, 3) := by decide +kernel
theorem dX9_converts_47 : decode cX9_converts 47 = .ok (.aload_n 0, 1) := by decide +kernel
theorem dX9_converts_48 : decode cX9_converts 48 = .ok (.iconst 1, 1) := by decide +kernel
theorem dX9_converts_49 : decode cX9_converts 49 = .ok (.invokevirtual 295, 3) := by decide +kernel
theorem dX9_converts_52 : decode cX9_converts 52 = .ok (.ifCond .eq 7, 3) := by decide +kernel
theorem dX9_converts_55 : decode cX9_converts 55 = .ok (.iconst 1, 1) := by decide +kernel
theorem dX9_converts_56 : decode cX9_converts 56 = .ok (.goto 4, 3) := by decide +kernel
theorem dX9_converts_59 : decode cX9_converts 59 = .ok (.iconst 0, 1) := by decide +kernel
theorem dX9_converts_60 : decode cX9_converts 60 = .ok (.ireturn, 1) := by decide +kernel
theorem dX9_converts_61 : decode cX9_converts 61 = .ok (.iload_n 1, 1) := by decide +kernel
theorem dX9_converts_62 : decode cX9_converts 62 = .ok (.sipush 135, 3) := by decide +kernel
theorem dX9_converts_65 : decode cX9_converts 65 = .ok (.if_icmp .gt 7, 3) := by decide +kernel
theorem dX9_converts_68 : decode cX9_converts 68 = .ok (.iconst 1, 1) := by decide +kernel
theorem dX9_converts_69 : decode cX9_converts 69 = .ok (.goto 37, 3) := by decide +kernel
theorem dX9_converts_72 : decode cX9_converts 72 = .ok (.iload_n 1, 1) := by decide +kernel
theorem dX9_converts_73 : decode cX9_converts 73 = .ok (.sipush 138, 3) := by decide +kernel
theorem dX9_converts_76 : decode cX9_converts 76 = .ok (.if_icmp .gt 7, 3) := by decide +kernel
theorem dX9_converts_79 : decode cX9_converts 79 = .ok (.iconst 3, 1) := by decide +kernel
theorem dX9_converts_80 : decode cX9_converts 80 = .ok (.goto 26, 3) := by decide +kernel
theorem dX9_converts_83 : decode cX9_converts 83 = .ok (.iload_n 1, 1) := by decide +kernel
theorem dX9_converts_84 : decode cX9_converts 84 = .ok (.sipush 141, 3) := by decide +kernel
theorem dX9_converts_87 : decode cX9_converts 87 = .ok (.if_icmp .gt 7, 3) := by decide +kernel
theorem dX9_converts_90 : decode cX9_converts 90 = .ok (.iconst 2, 1) := by decide +kernel
theorem dX9_converts_91 : decode cX9_converts 91 = .ok (.goto 15, 3) := by decide +kernel
theorem dX9_converts_94 : decode cX9_converts 94 = .ok (.iload_n 1, 1) := by decide +kernel
theorem dX9_converts_95 : decode cX9_converts 95 = .ok (.sipush 144, 3) := by decide +kernel
theorem dX9_converts_98 : decode cX9_converts 98 = .ok (.if_icmp .gt 7, 3) := by decide +kernel
theorem dX9_converts_101 : decode cX9_converts 101 = .ok (.iconst 4, 1) := by decide +kernel
theorem dX9_converts_102 : decode cX9_converts 102 = .ok (.goto 4, 3) := by decide +kernel
theorem dX9_converts_105 : decode cX9_converts 105 = .ok (.iconst 1, 1) := by decide +kernel
theorem dX9_converts_106 : decode cX9_converts 106 = .ok (.istore_n 2, 1) := by decide +kernel
theorem dX9_converts_107 : decode cX9_converts 107 = .ok (.iload_n 1, 1) := by decide +kernel
theorem dX9_converts_108 : decode cX9_converts 108 = .ok (.sipush 133, 3) := by decide +kernel
theorem dX9_converts_111 : decode cX9_converts 111 = .ok (.if_icmp .eq 17, 3) := by decide +kernel
theorem dX9_converts_114 : decode cX9_converts 114 = .ok (.iload_n 1, 1) := by decide +kernel
theorem dX9_converts_115 : decode cX9_converts 115 = .ok (.sipush 140, 3) := by decide +kernel
theorem dX9_converts_118 : decode cX9_converts 118 = .ok (.if_icmp .eq 10, 3) := by decide +kernel
theorem dX9_converts_121 : decode cX9_converts 121 = .ok (.iload_n 1, 1) := by decide +kernel
theorem dX9_converts_122 : decode cX9_converts 122 = .ok (.sipush 143, 3) := by decide +kernel
theorem dX9_converts_125 : decode cX9_converts 125 = .ok (.if_icmp .ne 7, 3) := by decide +kernel
theorem dX9_converts_128 : decode cX9_converts 128 = .ok (.iconst 3, 1) := by decide +kernel
theorem dX9_converts_129 : decode cX9_converts 129 = .ok (.goto 54, 3) := by decide +kernel
theorem dX9_converts_132 : decode cX9_converts 132 = .ok (.iload_n 1, 1) := by decide +kernel
theorem dX9_converts_133 : decode cX9_converts 133 = .ok (.sipush 134, 3) := by decide +kernel
theorem dX9_converts_136 : decode cX9_converts 136 = .ok (.if_icmp .eq 17, 3) := by decide +kernel
theorem dX9_converts_139 : decode cX9_converts 139 = .ok (.iload_n 1, 1) := by decide +kernel
theorem dX9_converts_140 : decode cX9_converts 140 = .ok (.sipush 137, 3) := by decide +kernel
theorem dX9_converts_143 : decode cX9_converts 143 = .ok (.if_icmp .eq 10, 3) := by decide +kernel
theorem dX9_converts_146 : decode cX9_converts 146 = .ok (.iload_n 1, 1) := by decide +kernel
theorem dX9_converts_147 : decode cX9_converts 147 = .ok (.sipush 144, 3) := by decide +kernel
theorem dX9_converts_150 : decode cX9_converts 150 = .ok (.if_icmp .ne 7, 3) := by decide +kernel
theorem dX9_converts_153 : decode cX9_converts 153 = .ok (.iconst 2, 1) := by decide +kernel
theorem dX9_converts_154 : decode cX9_converts 154 = .ok (.goto 29, 3) := by decide +kernel
theorem dX9_converts_157 : decode cX9_converts 157 = .ok (.iload_n 1, 1) := by decide +kernel
theorem dX9_converts_158 : decode cX9_converts 158 = .ok (.sipush 135, 3) := by decide +kernel
theorem dX9_converts_161 : decode cX9_converts 161 = .ok (.if_icmp .eq 17, 3) := by decide +kernel
theorem dX9_converts_164 : decode cX9_converts 164 = .ok (.iload_n 1, 1) := by decide +kernel
theorem dX9_converts_165 : decode cX9_converts 165 = .ok (.sipush 138, 3) := by decide +kernel
theorem dX9_converts_168 : decode cX9_converts 168 = .ok (.if_icmp .eq 10, 3) := by decide +kernel
theorem dX9_converts_171 : decode cX9_converts 171 = .ok (.iload_n 1, 1) := by decide +kernel
theorem dX9_converts_172 : decode cX9_converts 172 = .ok (.sipush 141, 3) := by decide +kernel
theorem dX9_converts_175 : decode cX9_converts 175 = .ok (.if_icmp .ne 7, 3) := by decide +kernel
theorem dX9_converts_178 : decode cX9_converts 178 = .ok (.iconst 4, 1) := by decide +kernel
theorem dX9_converts_179 : decode cX9_converts 179 = .ok (.goto 4, 3) := by decide +kernel
theorem dX9_converts_182 : decode cX9_converts 182 = .ok (.iconst 1, 1) := by decide +kernel
theorem dX9_converts_183 : decode cX9_converts 183 = .ok (.istore_n 3, 1) := by decide +kernel
theorem dX9_converts_184 : decode cX9_converts 184 = .ok (.aload_n 0, 1) := by decide +kernel
theorem dX9_converts_185 : decode cX9_converts 185 = .ok (.iload_n 2, 1) := by decide +kernel
theorem dX9_converts_186 : decode cX9_converts 186 = .ok (.invokevirtual 225, 3) := by decide +kernel
theorem dX9_converts_189 : decode cX9_converts 189 = .ok (.ifCond .eq 15, 3) := by decide +kernel
theorem dX9_converts_192 : decode cX9_converts 192 = .ok (.aload_n 0, 1) := by decide +kernel
theorem dX9_converts_193 : decode cX9_converts 193 = .ok (.iload_n 3, 1) := by decide +kernel
theorem dX9_converts_194 : decode cX9_converts 194 = .ok (.invokevirtual 295, 3) := by decide +kernel
theorem dX9_converts_197 : decode cX9_converts 197 = .ok (.ifCond .eq 7, 3) := by decide +kernel
theorem dX9_converts_200 : decode cX9_converts 200 = .ok (.iconst 1, 1) := by decide +kernel
theorem dX9_converts_201 : decode cX9_converts 201 = .ok (.goto 4, 3) := by decide +kernel
theorem dX9_converts_204 : decode cX9_converts 204 = .ok (.iconst 0, 1) := by decide +kernel
theorem dX9_converts_205 : decode cX9_converts 205 = .ok (.ireturn, 1) := by decide +kernel
set_option maxRecDepth 20000 in
theorem ggX9_returns_X9_kindOf : GoodIn wsX9_returns wsX9_kindOf := goodIn_r _ [8, 9, 10, 11, 12] rfl (by decide +kernel)
set_option maxRecDepth 20000 in
theorem gX9_returns_X9_kindOf : GoodIn wsX9_returns (va_wsS RX9 221 yX9_kindOf wsX9_kindOf) := goodIn_app (goodIn_of _ (by decide +kernel)) ggX9_returns_X9_kindOf
def ckX9_returns : List (List Cond) := [[.code yX9_returns cX9_returns 3 (some .boolean)], wsX9_returns_r1, wsX9_returns_r2, wsX90]
theorem ckX9_returnsl : wsX9_returns = ckX9_returns.flatten := by
  simp only [wsX9_returns, ckX9_returns, List.flatten_cons, List.flatten_nil, List.append_assoc, List.append_nil, List.cons_append, List.nil_append]
set_option maxRecDepth 20000 in
theorem ggX9_returns_X9_popType : GoodIn wsX9_returns wsX9_popType := goodIn_t ckX9_returns ckX9_returnsl _ [(1, 15), (1, 16), (1, 17), (1, 18), (1, 19), (1, 20), (1, 6), (1, 21), (1, 8), (1, 22), (1, 4), (1, 5), (1, 7), (1, 9), (1, 10), (1, 11), (1, 23), (2, 0), (2, 1), (2, 2), (2, 3), (2, 4), (2, 5), (2, 6), (2, 7), (2, 8), (2, 9), (2, 10), (2, 11), (2, 12), (3, 0), (3, 1), (3, 2), (3, 3), (3, 4), (3, 5), (3, 6), (3, 7), (3, 8), (3, 9), (3, 10), (3, 11), (3, 12), (3, 13), (3, 14), (3, 15), (3, 16), (3, 17), (3, 18), (3, 19), (3, 20), (3, 21), (3, 22), (3, 23), (3, 24), (3, 25), (3, 26), (3, 27), (3, 28), (3, 29), (3, 30), (3, 31), (3, 32), (3, 33), (3, 34), (3, 35), (3, 36), (3, 37), (3, 38), (3, 39), (3, 40), (3, 41), (3, 42), (3, 43), (3, 44), (3, 45), (3, 46), (3, 47), (3, 48), (3, 49), (3, 50), (3, 51), (3, 52), (3, 53), (3, 54), (3, 55), (3, 56), (3, 57), (3, 58), (3, 59), (3, 60), (3, 61)] rfl (by decide +kernel)
set_option maxRecDepth 20000 in
theorem gX9_returns_X9_popType : GoodIn wsX9_returns (wsV RX9 338 RX9 yX9_popType wsX9_popType) := goodIn_app (goodIn_of _ (by decide +kernel)) ggX9_returns_X9_popType
set_option maxRecDepth 20000 in
theorem ggX9_returns_X9_pop : GoodIn wsX9_returns wsX9_pop := goodIn_t ckX9_returns ckX9_returnsl _ [(2, 2), (1, 16), (1, 17), (3, 0), (3, 1), (3, 2), (3, 3), (3, 4), (3, 5), (3, 6), (3, 7), (3, 8), (3, 9), (3, 10), (3, 11), (3, 12), (3, 13), (3, 14), (3, 15), (3, 16), (3, 17), (3, 18), (3, 19), (3, 20), (3, 21), (3, 22), (3, 23), (3, 24), (3, 25), (3, 26), (3, 27), (3, 28), (3, 29), (3, 30), (3, 31), (3, 32), (3, 33), (3, 34), (3, 35), (3, 36), (3, 37), (3, 38), (3, 39), (3, 40), (3, 41), (3, 42), (3, 43), (3, 44), (3, 45), (3, 46), (3, 47), (3, 48), (3, 49), (3, 50), (3, 51), (3, 52), (3, 53), (3, 54), (3, 55), (3, 56), (3, 57), (3, 58), (3, 59), (3, 60), (3, 61)] rfl (by decide +kernel)
set_option maxRecDepth 20000 in
theorem gX9_returns_X9_pop : GoodIn wsX9_returns (wsV RX9 225 RX9 yX9_pop wsX9_pop) := goodIn_app (goodIn_of _ (by decide +kernel)) ggX9_returns_X9_pop
theorem dX9_returns_0 : decode cX9_returns 0 = .ok (.iload_n 1, 1) := by decide +kernel
theorem dX9_returns_1 : decode cX9_returns 1 = .ok (.sipush 177, 3) := by decide +kernel
theorem dX9_returns_4 : decode cX9_returns 4 = .ok (.if_icmp .ne 32, 3) := by decide +kernel
theorem dX9_returns_7 : decode cX9_returns 7 = .ok (.aload_n 0, 1) := by decide +kernel
theorem dX9_returns_8 : decode cX9_returns 8 = .ok (.getfield 45, 3) := by decide +kernel
theorem dX9_returns_11 : decode cX9_returns 11 = .ok (.iconst (-1), 1) := by decide +kernel
theorem dX9_returns_12 : decode cX9_returns 12 = .ok (.if_icmp .ne 22, 3) := by decide +kernel
theorem dX9_returns_15 : decode cX9_returns 15 = .ok (.aload_n 0, 1) := by decide +kernel
theorem dX9_returns_16 : decode cX9_returns 16 = .ok (.getfield 167, 3) := by decide +kernel
theorem dX9_returns_19 : decode cX9_returns 19 = .ok (.iconst 2, 1) := by decide +kernel
theorem dX9_returns_20 : decode cX9_returns 20 = .ok (.if_icmp .ne 10, 3) := by decide +kernel
theorem dX9_returns_23 : decode cX9_returns 23 = .ok (.aload_n 0, 1) := by decide +kernel
theorem dX9_returns_24 : decode cX9_returns 24 = .ok (.getfield 231, 3) := by decide +kernel
theorem dX9_returns_27 : decode cX9_returns 27 = .ok (.ifCond .eq 7, 3) := by decide +kernel
theorem dX9_returns_30 : decode cX9_returns 30 = .ok (.iconst 1, 1) := by decide +kernel
theorem dX9_returns_31 : decode cX9_returns 31 = .ok (.goto 4, 3) := by decide +kernel
theorem dX9_returns_34 : decode cX9_returns 34 = .ok (.iconst 0, 1) := by decide +kernel
theorem dX9_returns_35 : decode cX9_returns 35 = .ok (.ireturn, 1) := by decide +kernel
theorem dX9_returns_36 : decode cX9_returns 36 = .ok (.aload_n 0, 1) := by decide +kernel
theorem dX9_returns_37 : decode cX9_returns 37 = .ok (.getfield 45, 3) := by decide +kernel
theorem dX9_returns_40 : decode cX9_returns 40 = .ok (.iconst (-1), 1) := by decide +kernel
theorem dX9_returns_41 : decode cX9_returns 41 = .ok (.if_icmp .ne 5, 3) := by decide +kernel
theorem dX9_returns_44 : decode cX9_returns 44 = .ok (.iconst 0, 1) := by decide +kernel
theorem dX9_returns_45 : decode cX9_returns 45 = .ok (.ireturn, 1) := by decide +kernel
theorem dX9_returns_46 : decode cX9_returns 46 = .ok (.aload_n 0, 1) := by decide +kernel
theorem dX9_returns_47 : decode cX9_returns 47 = .ok (.getfield 45, 3) := by decide +kernel
theorem dX9_returns_50 : decode cX9_returns 50 = .ok (.invokestatic 221, 3) := by decide +kernel
theorem dX9_returns_53 : decode cX9_returns 53 = .ok (.istore_n 2, 1) := by decide +kernel
theorem dX9_returns_54 : decode cX9_returns 54 = .ok (.iload_n 1, 1) := by decide +kernel
theorem dX9_returns_55 : decode cX9_returns 55 = .ok (.sipush 176, 3) := by decide +kernel
theorem dX9_returns_58 : decode cX9_returns 58 = .ok (.if_icmp .ne 29, 3) := by decide +kernel
theorem dX9_returns_61 : decode cX9_returns 61 = .ok (.iload_n 2, 1) := by decide +kernel
theorem dX9_returns_62 : decode cX9_returns 62 = .ok (.bipush 15, 2) := by decide +kernel
theorem dX9_returns_64 : decode cX9_returns 64 = .ok (.iand, 1) := by decide +kernel
theorem dX9_returns_65 : decode cX9_returns 65 = .ok (.bipush 8, 2) := by decide +kernel
theorem dX9_returns_67 : decode cX9_returns 67 = .ok (.if_icmp .ne 18, 3) := by decide +kernel
theorem dX9_returns_70 : decode cX9_returns 70 = .ok (.aload_n 0, 1) := by decide +kernel
theorem dX9_returns_71 : decode cX9_returns 71 = .ok (.aload_n 0, 1) := by decide +kernel
theorem dX9_returns_72 : decode cX9_returns 72 = .ok (.getfield 45, 3) := by decide +kernel
theorem dX9_returns_75 : decode cX9_returns 75 = .ok (.invokevirtual 338, 3) := by decide +kernel
theorem dX9_returns_78 : decode cX9_returns 78 = .ok (.ifCond .eq 7, 3) := by decide +kernel
theorem dX9_returns_81 : decode cX9_returns 81 = .ok (.iconst 1, 1) := by decide +kernel
theorem dX9_returns_82 : decode cX9_returns 82 = .ok (.goto 4, 3) := by decide +kernel
theorem dX9_returns_85 : decode cX9_returns 85 = .ok (.iconst 0, 1) := by decide +kernel
theorem dX9_returns_86 : decode cX9_returns 86 = .ok (.ireturn, 1) := by decide +kernel
theorem dX9_returns_87 : decode cX9_returns 87 = .ok (.iload_n 2, 1) := by decide +kernel
theorem dX9_returns_88 : decode cX9_returns 88 = .ok (.getstatic 341, 3) := by decide +kernel
theorem dX9_returns_91 : decode cX9_returns 91 = .ok (.iload_n 1, 1) := by decide +kernel
theorem dX9_returns_92 : decode cX9_returns 92 = .ok (.sipush 172, 3) := by decide +kernel
theorem dX9_returns_95 : decode cX9_returns 95 = .ok (.isub, 1) := by decide +kernel
theorem dX9_returns_96 : decode cX9_returns 96 = .ok (.iaload, 1) := by decide +kernel
theorem dX9_returns_97 : decode cX9_returns 97 = .ok (.if_icmp .ne 15, 3) := by decide +kernel
theorem dX9_returns_100 : decode cX9_returns 100 = .ok (.aload_n 0, 1) := by decide +kernel
theorem dX9_returns_101 : decode cX9_returns 101 = .ok (.iload_n 2, 1) := by decide +kernel
theorem dX9_returns_102 : decode cX9_returns 102 = .ok (.invokevirtual 225, 3) := by decide +kernel
theorem dX9_returns_105 : decode cX9_returns 105 = .ok (.ifCond .eq 7, 3) := by decide +kernel
theorem dX9_returns_108 : decode cX9_returns 108 = .ok (.iconst 1, 1) := by decide +kernel
theorem dX9_returns_109 : decode cX9_returns 109 = .ok (.goto 4, 3) := by decide +kernel
theorem dX9_returns_112 : decode cX9_returns 112 = .ok (.iconst 0, 1) := by decide +kernel
theorem dX9_returns_113 : decode cX9_returns 113 = .ok (.ireturn, 1) := by decide +kernel
set_option maxRecDepth 20000 in
theorem ggX9_fieldStep_X9_kindOf : GoodIn wsX9_fieldStep wsX9_kindOf := goodIn_r _ [9, 10, 11, 12, 13] rfl (by decide +kernel)
set_option maxRecDepth 20000 in
theorem gX9_fieldStep_X9_kindOf : GoodIn wsX9_fieldStep (va_wsS RX9 221 yX9_kindOf wsX9_kindOf) := goodIn_app (goodIn_of _ (by decide +kernel)) ggX9_fieldStep_X9_kindOf
def ckX9_fieldStep : List (List Cond) := [[.code yX9_fieldStep cX9_fieldStep 4 (some .boolean)], wsX9_fieldStep_r1, wsX9_fieldStep_r2, wsX90]
theorem ckX9_fieldStepl : wsX9_fieldStep = ckX9_fieldStep.flatten := by
  simp only [wsX9_fieldStep, ckX9_fieldStep, List.flatten_cons, List.flatten_nil, List.append_assoc, List.append_nil, List.cons_append, List.nil_append]
set_option maxRecDepth 20000 in
theorem ggX9_fieldStep_X9_push : GoodIn wsX9_fieldStep wsX9_push := goodIn_t ckX9_fieldStep ckX9_fieldStepl _ [(1, 16), (1, 2), (1, 17), (1, 3), (3, 0), (3, 1), (3, 2), (3, 3), (3, 4), (3, 5), (3, 6), (3, 7), (3, 8), (3, 9), (3, 10), (3, 11), (3, 12), (3, 13), (3, 14), (3, 15), (3, 16), (3, 17), (3, 18), (3, 19), (3, 20), (3, 21), (3, 22), (3, 23), (3, 24), (3, 25), (3, 26), (3, 27), (3, 28), (3, 29), (3, 30), (3, 31), (3, 32), (3, 33), (3, 34), (3, 35), (3, 36), (3, 37), (3, 38), (3, 39), (3, 40), (3, 41), (3, 42), (3, 43), (3, 44), (3, 45), (3, 46), (3, 47), (3, 48), (3, 49), (3, 50), (3, 51), (3, 52), (3, 53), (3, 54), (3, 55), (3, 56), (3, 57), (3, 58), (3, 59), (3, 60), (3, 61)] rfl (by decide +kernel)
set_option maxRecDepth 20000 in
theorem gX9_fieldStep_X9_push : GoodIn wsX9_fieldStep (wsV RX9 295 RX9 yX9_push wsX9_push) := goodIn_app (goodIn_of _ (by decide +kernel)) ggX9_fieldStep_X9_push
set_option maxRecDepth 20000 in
theorem ggX9_fieldStep_X9_popType : GoodIn wsX9_fieldStep wsX9_popType := goodIn_t ckX9_fieldStep ckX9_fieldStepl _ [(1, 21), (1, 2), (1, 3), (1, 22), (1, 23), (2, 0), (1, 7), (2, 1), (1, 9), (2, 2), (1, 5), (1, 6), (1, 8), (1, 10), (1, 11), (1, 12), (2, 3), (2, 4), (2, 5), (2, 6), (2, 7), (2, 8), (2, 9), (2, 10), (2, 11), (2, 12), (2, 13), (2, 14), (2, 15), (2, 16), (3, 0), (3, 1), (3, 2), (3, 3), (3, 4), (3, 5), (3, 6), (3, 7), (3, 8), (3, 9), (3, 10), (3, 11), (3, 12), (3, 13), (3, 14), (3, 15), (3, 16), (3, 17), (3, 18), (3, 19), (3, 20), (3, 21), (3, 22), (3, 23), (3, 24), (3, 25), (3, 26), (3, 27), (3, 28), (3, 29), (3, 30), (3, 31), (3, 32), (3, 33), (3, 34), (3, 35), (3, 36), (3, 37), (3, 38), (3, 39), (3, 40), (3, 41), (3, 42), (3, 43), (3, 44), (3, 45), (3, 46), (3, 47), (3, 48), (3, 49), (3, 50), (3, 51), (3, 52), (3, 53), (3, 54), (3, 55), (3, 56), (3, 57), (3, 58), (3, 59), (3, 60), (3, 61)] rfl (by decide +kernel)
set_option maxRecDepth 20000 in
theorem gX9_fieldStep_X9_popType : GoodIn wsX9_fieldStep (wsV RX9 338 RX9 yX9_popType wsX9_popType) := goodIn_app (goodIn_of _ (by decide +kernel)) ggX9_fieldStep_X9_popType
theorem dX9_fieldStep_0 : decode cX9_fieldStep 0 = .ok (.aload_n 0, 1) := by decide +kernel
theorem dX9_fieldStep_1 : decode cX9_fieldStep 1 = .ok (.getfield 27, 3) := by decide +kernel
theorem dX9_fieldStep_4 : decode cX9_fieldStep 4 = .ok (.iload_n 2, 1) := by decide +kernel
theorem dX9_fieldStep_5 : decode cX9_fieldStep 5 = .ok (.iaload, 1) := by decide +kernel
theorem dX9_fieldStep_6 : decode cX9_fieldStep 6 = .ok (.istore_n 3, 1) := by decide +kernel
theorem dX9_fieldStep_7 : decode cX9_fieldStep 7 = .ok (.iload_n 1, 1) := by decide +kernel
theorem dX9_fieldStep_8 : decode cX9_fieldStep 8 = .ok (.sipush 178, 3) := by decide +kernel
theorem dX9_fieldStep_11 : decode cX9_fieldStep 11 = .ok (.if_icmp .ne 12, 3) := by decide +kernel
theorem dX9_fieldStep_14 : decode cX9_fieldStep 14 = .ok (.aload_n 0, 1) := by decide +kernel
theorem dX9_fieldStep_15 : decode cX9_fieldStep 15 = .ok (.iload_n 3, 1) := by decide +kernel
theorem dX9_fieldStep_16 : decode cX9_fieldStep 16 = .ok (.invokestatic 221, 3) := by decide +kernel
theorem dX9_fieldStep_19 : decode cX9_fieldStep 19 = .ok (.invokevirtual 295, 3) := by decide +kernel
theorem dX9_fieldStep_22 : decode cX9_fieldStep 22 = .ok (.ireturn, 1) := by decide +kernel
theorem dX9_fieldStep_23 : decode cX9_fieldStep 23 = .ok (.iload_n 1, 1) := by decide +kernel
theorem dX9_fieldStep_24 : decode cX9_fieldStep 24 = .ok (.sipush 179, 3) := by decide +kernel
theorem dX9_fieldStep_27 : decode cX9_fieldStep 27 = .ok (.if_icmp .ne 9, 3) := by decide +kernel
theorem dX9_fieldStep_30 : decode cX9_fieldStep 30 = .ok (.aload_n 0, 1) := by decide +kernel
theorem dX9_fieldStep_31 : decode cX9_fieldStep 31 = .ok (.iload_n 3, 1) := by decide +kernel
theorem dX9_fieldStep_32 : decode cX9_fieldStep 32 = .ok (.invokevirtual 338, 3) := by decide +kernel
theorem dX9_fieldStep_35 : decode cX9_fieldStep 35 = .ok (.ireturn, 1) := by decide +kernel
theorem dX9_fieldStep_36 : decode cX9_fieldStep 36 = .ok (.iload_n 1, 1) := by decide +kernel
theorem dX9_fieldStep_37 : decode cX9_fieldStep 37 = .ok (.sipush 180, 3) := by decide +kernel
theorem dX9_fieldStep_40 : decode cX9_fieldStep 40 = .ok (.if_icmp .ne 33, 3) := by decide +kernel
theorem dX9_fieldStep_43 : decode cX9_fieldStep 43 = .ok (.aload_n 0, 1) := by decide +kernel
theorem dX9_fieldStep_44 : decode cX9_fieldStep 44 = .ok (.aload_n 0, 1) := by decide +kernel
theorem dX9_fieldStep_45 : decode cX9_fieldStep 45 = .ok (.getfield 24, 3) := by decide +kernel
theorem dX9_fieldStep_48 : decode cX9_fieldStep 48 = .ok (.iload_n 2, 1) := by decide +kernel
theorem dX9_fieldStep_49 : decode cX9_fieldStep 49 = .ok (.iaload, 1) := by decide +kernel
theorem dX9_fieldStep_50 : decode cX9_fieldStep 50 = .ok (.invokevirtual 338, 3) := by decide +kernel
theorem dX9_fieldStep_53 : decode cX9_fieldStep 53 = .ok (.ifCond .eq 18, 3) := by decide +kernel
theorem dX9_fieldStep_56 : decode cX9_fieldStep 56 = .ok (.aload_n 0, 1) := by decide +kernel
theorem dX9_fieldStep_57 : decode cX9_fieldStep 57 = .ok (.iload_n 3, 1) := by decide +kernel
theorem dX9_fieldStep_58 : decode cX9_fieldStep 58 = .ok (.invokestatic 221, 3) := by decide +kernel
theorem dX9_fieldStep_61 : decode cX9_fieldStep 61 = .ok (.invokevirtual 295, 3) := by decide +kernel
theorem dX9_fieldStep_64 : decode cX9_fieldStep 64 = .ok (.ifCond .eq 7, 3) := by decide +kernel
theorem dX9_fieldStep_67 : decode cX9_fieldStep 67 = .ok (.iconst 1, 1) := by decide +kernel
theorem dX9_fieldStep_68 : decode cX9_fieldStep 68 = .ok (.goto 4, 3) := by decide +kernel
theorem dX9_fieldStep_71 : decode cX9_fieldStep 71 = .ok (.iconst 0, 1) := by decide +kernel
theorem dX9_fieldStep_72 : decode cX9_fieldStep 72 = .ok (.ireturn, 1) := by decide +kernel
theorem dX9_fieldStep_73 : decode cX9_fieldStep 73 = .ok (.aload_n 0, 1) := by decide +kernel
theorem dX9_fieldStep_74 : decode cX9_fieldStep 74 = .ok (.iload_n 3, 1) := by decide +kernel
theorem dX9_fieldStep_75 : decode cX9_fieldStep 75 = .ok (.invokevirtual 338, 3) := by decide +kernel
theorem dX9_fieldStep_78 : decode cX9_fieldStep 78 = .ok (.ifCond .ne 5, 3) := by decide +kernel
theorem dX9_fieldStep_81 : decode cX9_fieldStep 81 = .ok (.iconst 0, 1) := by decide +kernel
theorem dX9_fieldStep_82 : decode cX9_fieldStep 82 = .ok (.ireturn, 1) := by decide +kernel
theorem dX9_fieldStep_83 : decode cX9_fieldStep 83 = .ok (.aload_n 0, 1) := by decide +kernel
theorem dX9_fieldStep_84 : decode cX9_fieldStep 84 = .ok (.getfield 215, 3) := by decide +kernel
theorem dX9_fieldStep_87 : decode cX9_fieldStep 87 = .ok (.ifCond .le 46, 3) := by decide +kernel
theorem dX9_fieldStep_90 : decode cX9_fieldStep 90 = .ok (.aload_n 0, 1) := by decide +kernel
theorem dX9_fieldStep_91 : decode cX9_fieldStep 91 = .ok (.getfield 85, 3) := by decide +kernel
theorem dX9_fieldStep_94 : decode cX9_fieldStep 94 = .ok (.aload_n 0, 1) := by decide +kernel
theorem dX9_fieldStep_95 : decode cX9_fieldStep 95 = .ok (.getfield 215, 3) := by decide +kernel
theorem dX9_fieldStep_98 : decode cX9_fieldStep 98 = .ok (.iconst 1, 1) := by decide +kernel
theorem dX9_fieldStep_99 : decode cX9_fieldStep 99 = .ok (.isub, 1) := by decide +kernel
theorem dX9_fieldStep_100 : decode cX9_fieldStep 100 = .ok (.iaload, 1) := by decide +kernel
theorem dX9_fieldStep_101 : decode cX9_fieldStep 101 = .ok (.bipush 6, 2) := by decide +kernel
theorem dX9_fieldStep_103 : decode cX9_fieldStep 103 = .ok (.if_icmp .ne 30, 3) := by decide +kernel
theorem dX9_fieldStep_106 : decode cX9_fieldStep 106 = .ok (.aload_n 0, 1) := by decide +kernel
theorem dX9_fieldStep_107 : decode cX9_fieldStep 107 = .ok (.getfield 24, 3) := by decide +kernel
theorem dX9_fieldStep_110 : decode cX9_fieldStep 110 = .ok (.iload_n 2, 1) := by decide +kernel
theorem dX9_fieldStep_111 : decode cX9_fieldStep 111 = .ok (.iaload, 1) := by decide +kernel
theorem dX9_fieldStep_112 : decode cX9_fieldStep 112 = .ok (.aload_n 0, 1) := by decide +kernel
theorem dX9_fieldStep_113 : decode cX9_fieldStep 113 = .ok (.getfield 164, 3) := by decide +kernel
theorem dX9_fieldStep_116 : decode cX9_fieldStep 116 = .ok (.if_icmp .eq 5, 3) := by decide +kernel
theorem dX9_fieldStep_119 : decode cX9_fieldStep 119 = .ok (.iconst 0, 1) := by decide +kernel
theorem dX9_fieldStep_120 : decode cX9_fieldStep 120 = .ok (.ireturn, 1) := by decide +kernel
theorem dX9_fieldStep_121 : decode cX9_fieldStep 121 = .ok (.aload_n 0, 1) := by decide +kernel
theorem dX9_fieldStep_122 : decode cX9_fieldStep 122 = .ok (.dup, 1) := by decide +kernel
theorem dX9_fieldStep_123 : decode cX9_fieldStep 123 = .ok (.getfield 215, 3) := by decide +kernel
theorem dX9_fieldStep_126 : decode cX9_fieldStep 126 = .ok (.iconst 1, 1) := by decide +kernel
theorem dX9_fieldStep_127 : decode cX9_fieldStep 127 = .ok (.isub, 1) := by decide +kernel
theorem dX9_fieldStep_128 : decode cX9_fieldStep 128 = .ok (.putfield 215, 3) := by decide +kernel
theorem dX9_fieldStep_131 : decode cX9_fieldStep 131 = .ok (.iconst 1, 1) := by decide +kernel
theorem dX9_fieldStep_132 : decode cX9_fieldStep 132 = .ok (.ireturn, 1) := by decide +kernel
theorem dX9_fieldStep_133 : decode cX9_fieldStep 133 = .ok (.aload_n 0, 1) := by decide +kernel
theorem dX9_fieldStep_134 : decode cX9_fieldStep 134 = .ok (.aload_n 0, 1) := by decide +kernel
theorem dX9_fieldStep_135 : decode cX9_fieldStep 135 = .ok (.getfield 24, 3) := by decide +kernel
theorem dX9_fieldStep_138 : decode cX9_fieldStep 138 = .ok (.iload_n 2, 1) := by decide +kernel
theorem dX9_fieldStep_139 : decode cX9_fieldStep 139 = .ok (.iaload, 1) := by decide +kernel
theorem dX9_fieldStep_140 : decode cX9_fieldStep 140 = .ok (.invokevirtual 338, 3) := by decide +kernel
theorem dX9_fieldStep_143 : decode cX9_fieldStep 143 = .ok (.ireturn, 1) := by decide +kernel
def ckX9_calls : List (List Cond) := [[.code yX9_calls cX9_calls 4 (some .boolean)], wsX9_calls_r1, wsX9_calls_r2, wsX9_calls_r3, wsX90]
theorem ckX9_callsl : wsX9_calls = ckX9_calls.flatten := by
  simp only [wsX9_calls, ckX9_calls, List.flatten_cons, List.flatten_nil, List.append_assoc, List.append_nil, List.cons_append, List.nil_append]
set_option maxRecDepth 20000 in
theorem ggX9_calls_X9_popType : GoodIn wsX9_calls wsX9_popType := goodIn_t ckX9_calls ckX9_callsl _ [(1, 11), (1, 12), (1, 13), (1, 14), (1, 15), (1, 16), (1, 10), (1, 17), (1, 18), (1, 19), (1, 20), (1, 21), (1, 22), (1, 23), (2, 0), (2, 1), (2, 2), (2, 3), (2, 4), (2, 5), (2, 6), (2, 7), (2, 8), (2, 9), (1, 5), (2, 10), (2, 11), (2, 12), (2, 13), (2, 14), (4, 0), (4, 1), (4, 2), (4, 3), (4, 4), (4, 5), (4, 6), (4, 7), (4, 8), (4, 9), (4, 10), (4, 11), (4, 12), (4, 13), (4, 14), (4, 15), (4, 16), (4, 17), (4, 18), (4, 19), (4, 20), (4, 21), (4, 22), (4, 23), (4, 24), (4, 25), (4, 26), (4, 27), (4, 28), (4, 29), (4, 30), (4, 31), (4, 32), (4, 33), (4, 34), (4, 35), (4, 36), (4, 37), (4, 38), (4, 39), (4, 40), (4, 41), (4, 42), (4, 43), (4, 44), (4, 45), (4, 46), (4, 47), (4, 48), (4, 49), (4, 50), (4, 51), (4, 52), (4, 53), (4, 54), (4, 55), (4, 56), (4, 57), (4, 58), (4, 59), (4, 60), (4, 61)] rfl (by decide +kernel)
set_option maxRecDepth 20000 in
theorem gX9_calls_X9_popType : GoodIn wsX9_calls (wsV RX9 338 RX9 yX9_popType wsX9_popType) := goodIn_app (goodIn_of _ (by decide +kernel)) ggX9_calls_X9_popType
set_option maxRecDepth 20000 in
theorem ggX9_calls_X9_makes : GoodIn wsX9_calls wsX9_makes := goodIn_t ckX9_calls ckX9_callsl _ [(2, 18), (1, 12), (1, 13), (1, 4), (2, 14), (2, 19), (2, 20), (2, 21), (2, 22), (4, 0), (4, 1), (4, 2), (4, 3), (4, 4), (4, 5), (4, 6), (4, 7), (4, 8), (4, 9), (4, 10), (4, 11), (4, 12), (4, 13), (4, 14), (4, 15), (4, 16), (4, 17), (4, 18), (4, 19), (4, 20), (4, 21), (4, 22), (4, 23), (4, 24), (4, 25), (4, 26), (4, 27), (4, 28), (4, 29), (4, 30), (4, 31), (4, 32), (4, 33), (4, 34), (4, 35), (4, 36), (4, 37), (4, 38), (4, 39), (4, 40), (4, 41), (4, 42), (4, 43), (4, 44), (4, 45), (4, 46), (4, 47), (4, 48), (4, 49), (4, 50), (4, 51), (4, 52), (4, 53), (4, 54), (4, 55), (4, 56), (4, 57), (4, 58), (4, 59), (4, 60), (4, 61)] rfl (by decide +kernel)
set_option maxRecDepth 20000 in
theorem gX9_calls_X9_makes : GoodIn wsX9_calls (wsV RX9 358 RX9 yX9_makes wsX9_makes) := goodIn_app (goodIn_of _ (by decide +kernel)) ggX9_calls_X9_makes
set_option maxRecDepth 20000 in
theorem ggX9_calls_X9_below : GoodIn wsX9_calls wsX9_below := goodIn_t ckX9_calls ckX9_callsl _ [(2, 13), (2, 14), (4, 0), (4, 1), (4, 2), (4, 3), (4, 4), (4, 5), (4, 6), (4, 7), (4, 8), (4, 9), (4, 10), (4, 11), (4, 12), (4, 13), (4, 14), (4, 15), (4, 16), (4, 17), (4, 18), (4, 19), (4, 20), (4, 21), (4, 22), (4, 23), (4, 24), (4, 25), (4, 26), (4, 27), (4, 28), (4, 29), (4, 30), (4, 31), (4, 32), (4, 33), (4, 34), (4, 35), (4, 36), (4, 37), (4, 38), (4, 39), (4, 40), (4, 41), (4, 42), (4, 43), (4, 44), (4, 45), (4, 46), (4, 47), (4, 48), (4, 49), (4, 50), (4, 51), (4, 52), (4, 53), (4, 54), (4, 55), (4, 56), (4, 57), (4, 58), (4, 59), (4, 60), (4, 61)] rfl (by decide +kernel)
set_option maxRecDepth 20000 in
theorem gX9_calls_X9_below : GoodIn wsX9_calls (wsV RX9 198 RX9 yX9_below wsX9_below) := goodIn_app (goodIn_of _ (by decide +kernel)) ggX9_calls_X9_below
set_option maxRecDepth 20000 in
theorem ggX9_calls_X9_kindOf : GoodIn wsX9_calls wsX9_kindOf := goodIn_r _ [23, 19, 24, 25, 26] rfl (by decide +kernel)
set_option maxRecDepth 20000 in
theorem gX9_calls_X9_kindOf : GoodIn wsX9_calls (va_wsS RX9 221 yX9_kindOf wsX9_kindOf) := goodIn_app (goodIn_of _ (by decide +kernel)) ggX9_calls_X9_kindOf
set_option maxRecDepth 20000 in
theorem ggX9_calls_X9_push : GoodIn wsX9_calls wsX9_push := goodIn_t ckX9_calls ckX9_callsl _ [(3, 2), (1, 12), (3, 3), (1, 13), (4, 0), (4, 1), (4, 2), (4, 3), (4, 4), (4, 5), (4, 6), (4, 7), (4, 8), (4, 9), (4, 10), (4, 11), (4, 12), (4, 13), (4, 14), (4, 15), (4, 16), (4, 17), (4, 18), (4, 19), (4, 20), (4, 21), (4, 22), (4, 23), (4, 24), (4, 25), (4, 26), (4, 27), (4, 28), (4, 29), (4, 30), (4, 31), (4, 32), (4, 33), (4, 34), (4, 35), (4, 36), (4, 37), (4, 38), (4, 39), (4, 40), (4, 41), (4, 42), (4, 43), (4, 44), (4, 45), (4, 46), (4, 47), (4, 48), (4, 49), (4, 50), (4, 51), (4, 52), (4, 53), (4, 54), (4, 55), (4, 56), (4, 57), (4, 58), (4, 59), (4, 60), (4, 61)] rfl (by decide +kernel)
set_option maxRecDepth 20000 in
theorem gX9_calls_X9_push : GoodIn wsX9_calls (wsV RX9 295 RX9 yX9_push wsX9_push) := goodIn_app (goodIn_of _ (by decide +kernel)) ggX9_calls_X9_push
theorem dX9_calls_0 : decode cX9_calls 0 = .ok (.aload_n 0, 1) := by decide +kernel
theorem dX9_calls_1 : decode cX9_calls 1 = .ok (.getfield 42, 3) := by decide +kernel
theorem dX9_calls_4 : decode cX9_calls 4 = .ok (.iload_n 2, 1) := by decide +kernel
theorem dX9_calls_5 : decode cX9_calls 5 = .ok (.baload, 1) := by decide +kernel
theorem dX9_calls_6 : decode cX9_calls 6 = .ok (.ifCond .eq 12, 3) := by decide +kernel
theorem dX9_calls_9 : decode cX9_calls 9 = .ok (.iload_n 1, 1) := by decide +kernel
theorem dX9_calls_10 : decode cX9_calls 10 = .ok (.sipush 183, 3) := by decide +kernel
theorem dX9_calls_13 : decode cX9_calls 13 = .ok (.if_icmp .eq 5, 3) := by decide +kernel
theorem dX9_calls_16 : decode cX9_calls 16 = .ok (.iconst 0, 1) := by decide +kernel
theorem dX9_calls_17 : decode cX9_calls 17 = .ok (.ireturn, 1) := by decide +kernel
theorem dX9_calls_18 : decode cX9_calls 18 = .ok (.aload_n 0, 1) := by decide +kernel
theorem dX9_calls_19 : decode cX9_calls 19 = .ok (.getfield 36, 3) := by decide +kernel
theorem dX9_calls_22 : decode cX9_calls 22 = .ok (.iload_n 2, 1) := by decide +kernel
theorem dX9_calls_23 : decode cX9_calls 23 = .ok (.iaload, 1) := by decide +kernel
theorem dX9_calls_24 : decode cX9_calls 24 = .ok (.iconst 1, 1) := by decide +kernel
theorem dX9_calls_25 : decode cX9_calls 25 = .ok (.isub, 1) := by decide +kernel
theorem dX9_calls_26 : decode cX9_calls 26 = .ok (.istore_n 3, 1) := by decide +kernel
theorem dX9_calls_27 : decode cX9_calls 27 = .ok (.iload_n 3, 1) := by decide +kernel
theorem dX9_calls_28 : decode cX9_calls 28 = .ok (.ifCond .lt 29, 3) := by decide +kernel
theorem dX9_calls_31 : decode cX9_calls 31 = .ok (.aload_n 0, 1) := by decide +kernel
theorem dX9_calls_32 : decode cX9_calls 32 = .ok (.aload_n 0, 1) := by decide +kernel
theorem dX9_calls_33 : decode cX9_calls 33 = .ok (.getfield 39, 3) := by decide +kernel
theorem dX9_calls_36 : decode cX9_calls 36 = .ok (.bipush 20, 2) := by decide +kernel
theorem dX9_calls_38 : decode cX9_calls 38 = .ok (.iload_n 2, 1) := by decide +kernel
theorem dX9_calls_39 : decode cX9_calls 39 = .ok (.imul, 1) := by decide +kernel
theorem dX9_calls_40 : decode cX9_calls 40 = .ok (.iload_n 3, 1) := by decide +kernel
theorem dX9_calls_41 : decode cX9_calls 41 = .ok (.iadd, 1) := by decide +kernel
theorem dX9_calls_42 : decode cX9_calls 42 = .ok (.iaload, 1) := by decide +kernel
theorem dX9_calls_43 : decode cX9_calls 43 = .ok (.invokevirtual 338, 3) := by decide +kernel
theorem dX9_calls_46 : decode cX9_calls 46 = .ok (.ifCond .ne 5, 3) := by decide +kernel
theorem dX9_calls_49 : decode cX9_calls 49 = .ok (.iconst 0, 1) := by decide +kernel
theorem dX9_calls_50 : decode cX9_calls 50 = .ok (.ireturn, 1) := by decide +kernel
theorem dX9_calls_51 : decode cX9_calls 51 = .ok (.iinc 3 (-1), 3) := by decide +kernel
theorem dX9_calls_54 : decode cX9_calls 54 = .ok (.goto (-27), 3) := by decide +kernel
theorem dX9_calls_57 : decode cX9_calls 57 = .ok (.aload_n 0, 1) := by decide +kernel
theorem dX9_calls_58 : decode cX9_calls 58 = .ok (.getfield 30, 3) := by decide +kernel
theorem dX9_calls_61 : decode cX9_calls 61 = .ok (.iload_n 2, 1) := by decide +kernel
theorem dX9_calls_62 : decode cX9_calls 62 = .ok (.iaload, 1) := by decide +kernel
theorem dX9_calls_63 : decode cX9_calls 63 = .ok (.istore_n 3, 1) := by decide +kernel
theorem dX9_calls_64 : decode cX9_calls 64 = .ok (.iload_n 1, 1) := by decide +kernel
theorem dX9_calls_65 : decode cX9_calls 65 = .ok (.sipush 183, 3) := by decide +kernel
theorem dX9_calls_68 : decode cX9_calls 68 = .ok (.if_icmp .ne 52, 3) := by decide +kernel
theorem dX9_calls_71 : decode cX9_calls 71 = .ok (.aload_n 0, 1) := by decide +kernel
theorem dX9_calls_72 : decode cX9_calls 72 = .ok (.getfield 42, 3) := by decide +kernel
theorem dX9_calls_75 : decode cX9_calls 75 = .ok (.iload_n 2, 1) := by decide +kernel
theorem dX9_calls_76 : decode cX9_calls 76 = .ok (.baload, 1) := by decide +kernel
theorem dX9_calls_77 : decode cX9_calls 77 = .ok (.ifCond .eq 9, 3) := by decide +kernel
theorem dX9_calls_80 : decode cX9_calls 80 = .ok (.aload_n 0, 1) := by decide +kernel
theorem dX9_calls_81 : decode cX9_calls 81 = .ok (.iload_n 3, 1) := by decide +kernel
theorem dX9_calls_82 : decode cX9_calls 82 = .ok (.invokevirtual 358, 3) := by decide +kernel
theorem dX9_calls_85 : decode cX9_calls 85 = .ok (.ireturn, 1) := by decide +kernel
theorem dX9_calls_86 : decode cX9_calls 86 = .ok (.aload_n 0, 1) := by decide +kernel
theorem dX9_calls_87 : decode cX9_calls 87 = .ok (.aload_n 0, 1) := by decide +kernel
theorem dX9_calls_88 : decode cX9_calls 88 = .ok (.getfield 164, 3) := by decide +kernel
theorem dX9_calls_91 : decode cX9_calls 91 = .ok (.iload_n 3, 1) := by decide +kernel
theorem dX9_calls_92 : decode cX9_calls 92 = .ok (.invokevirtual 198, 3) := by decide +kernel
theorem dX9_calls_95 : decode cX9_calls 95 = .ok (.ifCond .ne 12, 3) := by decide +kernel
theorem dX9_calls_98 : decode cX9_calls 98 = .ok (.aload_n 0, 1) := by decide +kernel
theorem dX9_calls_99 : decode cX9_calls 99 = .ok (.getfield 20, 3) := by decide +kernel
theorem dX9_calls_102 : decode cX9_calls 102 = .ok (.iload_n 3, 1) := by decide +kernel
theorem dX9_calls_103 : decode cX9_calls 103 = .ok (.baload, 1) := by decide +kernel
theorem dX9_calls_104 : decode cX9_calls 104 = .ok (.ifCond .eq 14, 3) := by decide +kernel
theorem dX9_calls_107 : decode cX9_calls 107 = .ok (.aload_n 0, 1) := by decide +kernel
theorem dX9_calls_108 : decode cX9_calls 108 = .ok (.aload_n 0, 1) := by decide +kernel
theorem dX9_calls_109 : decode cX9_calls 109 = .ok (.getfield 164, 3) := by decide +kernel
theorem dX9_calls_112 : decode cX9_calls 112 = .ok (.invokevirtual 338, 3) := by decide +kernel
theorem dX9_calls_115 : decode cX9_calls 115 = .ok (.ifCond .ne 29, 3) := by decide +kernel
theorem dX9_calls_118 : decode cX9_calls 118 = .ok (.iconst 0, 1) := by decide +kernel
theorem dX9_calls_119 : decode cX9_calls 119 = .ok (.ireturn, 1) := by decide +kernel
theorem dX9_calls_120 : decode cX9_calls 120 = .ok (.iload_n 1, 1) := by decide +kernel
theorem dX9_calls_121 : decode cX9_calls 121 = .ok (.sipush 182, 3) := by decide +kernel
theorem dX9_calls_124 : decode cX9_calls 124 = .ok (.if_icmp .eq 10, 3) := by decide +kernel
theorem dX9_calls_127 : decode cX9_calls 127 = .ok (.iload_n 1, 1) := by decide +kernel
theorem dX9_calls_128 : decode cX9_calls 128 = .ok (.sipush 185, 3) := by decide +kernel
theorem dX9_calls_131 : decode cX9_calls 131 = .ok (.if_icmp .ne 13, 3) := by decide +kernel
theorem dX9_calls_134 : decode cX9_calls 134 = .ok (.aload_n 0, 1) := by decide +kernel
theorem dX9_calls_135 : decode cX9_calls 135 = .ok (.iload_n 3, 1) := by decide +kernel
theorem dX9_calls_136 : decode cX9_calls 136 = .ok (.invokevirtual 338, 3) := by decide +kernel
theorem dX9_calls_139 : decode cX9_calls 139 = .ok (.ifCond .ne 5, 3) := by decide +kernel
theorem dX9_calls_142 : decode cX9_calls 142 = .ok (.iconst 0, 1) := by decide +kernel
theorem dX9_calls_143 : decode cX9_calls 143 = .ok (.ireturn, 1) := by decide +kernel
theorem dX9_calls_144 : decode cX9_calls 144 = .ok (.aload_n 0, 1) := by decide +kernel
theorem dX9_calls_145 : decode cX9_calls 145 = .ok (.getfield 33, 3) := by decide +kernel
theorem dX9_calls_148 : decode cX9_calls 148 = .ok (.iload_n 2, 1) := by decide +kernel
theorem dX9_calls_149 : decode cX9_calls 149 = .ok (.iaload, 1) := by decide +kernel
theorem dX9_calls_150 : decode cX9_calls 150 = .ok (.iconst (-1), 1) := by decide +kernel
theorem dX9_calls_151 : decode cX9_calls 151 = .ok (.if_icmp .eq 19, 3) := by decide +kernel
theorem dX9_calls_154 : decode cX9_calls 154 = .ok (.aload_n 0, 1) := by decide +kernel
theorem dX9_calls_155 : decode cX9_calls 155 = .ok (.aload_n 0, 1) := by decide +kernel
theorem dX9_calls_156 : decode cX9_calls 156 = .ok (.getfield 33, 3) := by decide +kernel
theorem dX9_calls_159 : decode cX9_calls 159 = .ok (.iload_n 2, 1) := by decide +kernel
theorem dX9_calls_160 : decode cX9_calls 160 = .ok (.iaload, 1) := by decide +kernel
theorem dX9_calls_161 : decode cX9_calls 161 = .ok (.invokestatic 221, 3) := by decide +kernel
theorem dX9_calls_164 : decode cX9_calls 164 = .ok (.invokevirtual 295, 3) := by decide +kernel
theorem dX9_calls_167 : decode cX9_calls 167 = .ok (.ifCond .eq 7, 3) := by decide +kernel
theorem dX9_calls_170 : decode cX9_calls 170 = .ok (.iconst 1, 1) := by decide +kernel
theorem dX9_calls_171 : decode cX9_calls 171 = .ok (.goto 4, 3) := by decide +kernel
theorem dX9_calls_174 : decode cX9_calls 174 = .ok (.iconst 0, 1) := by decide +kernel
theorem dX9_calls_175 : decode cX9_calls 175 = .ok (.ireturn, 1) := by decide +kernel
theorem dX9_makes_0 : decode cX9_makes 0 = .ok (.aload_n 0, 1) := by decide +kernel
theorem dX9_makes_1 : decode cX9_makes 1 = .ok (.getfield 215, 3) := by decide +kernel
theorem dX9_makes_4 : decode cX9_makes 4 = .ok (.ifCond .ne 5, 3) := by decide +kernel
theorem dX9_makes_7 : decode cX9_makes 7 = .ok (.iconst 0, 1) := by decide +kernel
theorem dX9_makes_8 : decode cX9_makes 8 = .ok (.ireturn, 1) := by decide +kernel
theorem dX9_makes_9 : decode cX9_makes 9 = .ok (.aload_n 0, 1) := by decide +kernel
theorem dX9_makes_10 : decode cX9_makes 10 = .ok (.getfield 85, 3) := by decide +kernel
theorem dX9_makes_13 : decode cX9_makes 13 = .ok (.aload_n 0, 1) := by decide +kernel
theorem dX9_makes_14 : decode cX9_makes 14 = .ok (.dup, 1) := by decide +kernel
theorem dX9_makes_15 : decode cX9_makes 15 = .ok (.getfield 215, 3) := by decide +kernel
theorem dX9_makes_18 : decode cX9_makes 18 = .ok (.iconst 1, 1) := by decide +kernel
theorem dX9_makes_19 : decode cX9_makes 19 = .ok (.isub, 1) := by decide +kernel
theorem dX9_makes_20 : decode cX9_makes 20 = .ok (.dup_x1, 1) := by decide +kernel
theorem dX9_makes_21 : decode cX9_makes 21 = .ok (.putfield 215, 3) := by decide +kernel
theorem dX9_makes_24 : decode cX9_makes 24 = .ok (.iaload, 1) := by decide +kernel
theorem dX9_makes_25 : decode cX9_makes 25 = .ok (.istore_n 2, 1) := by decide +kernel
theorem dX9_makes_26 : decode cX9_makes 26 = .ok (.iload_n 2, 1) := by decide +kernel
theorem dX9_makes_27 : decode cX9_makes 27 = .ok (.bipush 6, 2) := by decide +kernel
theorem dX9_makes_29 : decode cX9_makes 29 = .ok (.if_icmp .ne 34, 3) := by decide +kernel
theorem dX9_makes_32 : decode cX9_makes 32 = .ok (.iload_n 1, 1) := by decide +kernel
theorem dX9_makes_33 : decode cX9_makes 33 = .ok (.aload_n 0, 1) := by decide +kernel
theorem dX9_makes_34 : decode cX9_makes 34 = .ok (.getfield 164, 3) := by decide +kernel
theorem dX9_makes_37 : decode cX9_makes 37 = .ok (.if_icmp .eq 18, 3) := by decide +kernel
theorem dX9_makes_40 : decode cX9_makes 40 = .ok (.iload_n 1, 1) := by decide +kernel
theorem dX9_makes_41 : decode cX9_makes 41 = .ok (.aload_n 0, 1) := by decide +kernel
theorem dX9_makes_42 : decode cX9_makes 42 = .ok (.getfield 16, 3) := by decide +kernel
theorem dX9_makes_45 : decode cX9_makes 45 = .ok (.aload_n 0, 1) := by decide +kernel
theorem dX9_makes_46 : decode cX9_makes 46 = .ok (.getfield 164, 3) := by decide +kernel
theorem dX9_makes_49 : decode cX9_makes 49 = .ok (.iaload, 1) := by decide +kernel
theorem dX9_makes_50 : decode cX9_makes 50 = .ok (.if_icmp .eq 5, 3) := by decide +kernel
theorem dX9_makes_53 : decode cX9_makes 53 = .ok (.iconst 0, 1) := by decide +kernel
theorem dX9_makes_54 : decode cX9_makes 54 = .ok (.ireturn, 1) := by decide +kernel
theorem dX9_makes_55 : decode cX9_makes 55 = .ok (.aload_n 0, 1) := by decide +kernel
theorem dX9_makes_56 : decode cX9_makes 56 = .ok (.iconst 1, 1) := by decide +kernel
theorem dX9_makes_57 : decode cX9_makes 57 = .ok (.putfield 231, 3) := by decide +kernel
theorem dX9_makes_60 : decode cX9_makes 60 = .ok (.goto 26, 3) := by decide +kernel
theorem dX9_makes_63 : decode cX9_makes 63 = .ok (.iload_n 2, 1) := by decide +kernel
theorem dX9_makes_64 : decode cX9_makes 64 = .ok (.bipush 15, 2) := by decide +kernel
theorem dX9_makes_66 : decode cX9_makes 66 = .ok (.iand, 1) := by decide +kernel
theorem dX9_makes_67 : decode cX9_makes 67 = .ok (.bipush 9, 2) := by decide +kernel
theorem dX9_makes_69 : decode cX9_makes 69 = .ok (.if_icmp .ne 15, 3) := by decide +kernel
theorem dX9_makes_72 : decode cX9_makes 72 = .ok (.aload_n 0, 1) := by decide +kernel
theorem dX9_makes_73 : decode cX9_makes 73 = .ok (.getfield 54, 3) := by decide +kernel
theorem dX9_makes_76 : decode cX9_makes 76 = .ok (.iload_n 2, 1) := by decide +kernel
theorem dX9_makes_77 : decode cX9_makes 77 = .ok (.iconst 4, 1) := by decide +kernel
theorem dX9_makes_78 : decode cX9_makes 78 = .ok (.ishr, 1) := by decide +kernel
theorem dX9_makes_79 : decode cX9_makes 79 = .ok (.iaload, 1) := by decide +kernel
theorem dX9_makes_80 : decode cX9_makes 80 = .ok (.iload_n 1, 1) := by decide +kernel
theorem dX9_makes_81 : decode cX9_makes 81 = .ok (.if_icmp .eq 5, 3) := by decide +kernel
theorem dX9_makes_84 : decode cX9_makes 84 = .ok (.iconst 0, 1) := by decide +kernel
theorem dX9_makes_85 : decode cX9_makes 85 = .ok (.ireturn, 1) := by decide +kernel
theorem dX9_makes_86 : decode cX9_makes 86 = .ok (.bipush 16, 2) := by decide +kernel
theorem dX9_makes_88 : decode cX9_makes 88 = .ok (.iload_n 2, 1) := by decide +kernel
theorem dX9_makes_89 : decode cX9_makes 89 = .ok (.bipush 6, 2) := by decide +kernel
theorem dX9_makes_91 : decode cX9_makes 91 = .ok (.if_icmp .ne 10, 3) := by decide +kernel
theorem dX9_makes_94 : decode cX9_makes 94 = .ok (.aload_n 0, 1) := by decide +kernel
theorem dX9_makes_95 : decode cX9_makes 95 = .ok (.getfield 164, 3) := by decide +kernel
theorem dX9_makes_98 : decode cX9_makes 98 = .ok (.goto 4, 3) := by decide +kernel
theorem dX9_makes_101 : decode cX9_makes 101 = .ok (.iload_n 1, 1) := by decide +kernel
theorem dX9_makes_102 : decode cX9_makes 102 = .ok (.imul, 1) := by decide +kernel
theorem dX9_makes_103 : decode cX9_makes 103 = .ok (.bipush 8, 2) := by decide +kernel
theorem dX9_makes_105 : decode cX9_makes 105 = .ok (.iadd, 1) := by decide +kernel
theorem dX9_makes_106 : decode cX9_makes 106 = .ok (.istore_n 3, 1) := by decide +kernel
theorem dX9_makes_107 : decode cX9_makes 107 = .ok (.iconst 0, 1) := by decide +kernel
theorem dX9_makes_108 : decode cX9_makes 108 = .ok (.istore 4, 2) := by decide +kernel
theorem dX9_makes_110 : decode cX9_makes 110 = .ok (.iload 4, 2) := by decide +kernel
theorem dX9_makes_112 : decode cX9_makes 112 = .ok (.aload_n 0, 1) := by decide +kernel
theorem dX9_makes_113 : decode cX9_makes 113 = .ok (.getfield 215, 3) := by decide +kernel
theorem dX9_makes_116 : decode cX9_makes 116 = .ok (.if_icmp .ge 28, 3) := by decide +kernel
theorem dX9_makes_119 : decode cX9_makes 119 = .ok (.aload_n 0, 1) := by decide +kernel
theorem dX9_makes_120 : decode cX9_makes 120 = .ok (.getfield 85, 3) := by decide +kernel
theorem dX9_makes_123 : decode cX9_makes 123 = .ok (.iload 4, 2) := by decide +kernel
theorem dX9_makes_125 : decode cX9_makes 125 = .ok (.iaload, 1) := by decide +kernel
theorem dX9_makes_126 : decode cX9_makes 126 = .ok (.iload_n 2, 1) := by decide +kernel
theorem dX9_makes_127 : decode cX9_makes 127 = .ok (.if_icmp .ne 11, 3) := by decide +kernel
theorem dX9_makes_130 : decode cX9_makes 130 = .ok (.aload_n 0, 1) := by decide +kernel
theorem dX9_makes_131 : decode cX9_makes 131 = .ok (.getfield 85, 3) := by decide +kernel
theorem dX9_makes_134 : decode cX9_makes 134 = .ok (.iload 4, 2) := by decide +kernel
theorem dX9_makes_136 : decode cX9_makes 136 = .ok (.iload_n 3, 1) := by decide +kernel
theorem dX9_makes_137 : decode cX9_makes 137 = .ok (.iastore, 1) := by decide +kernel
theorem dX9_makes_138 : decode cX9_makes 138 = .ok (.iinc 4 1, 3) := by decide +kernel
theorem dX9_makes_141 : decode cX9_makes 141 = .ok (.goto (-31), 3) := by decide +kernel
theorem dX9_makes_144 : decode cX9_makes 144 = .ok (.iconst 0, 1) := by decide +kernel
theorem dX9_makes_145 : decode cX9_makes 145 = .ok (.istore 4, 2) := by decide +kernel
theorem dX9_makes_147 : decode cX9_makes 147 = .ok (.iload 4, 2) := by decide +kernel
theorem dX9_makes_149 : decode cX9_makes 149 = .ok (.aload_n 0, 1) := by decide +kernel
theorem dX9_makes_150 : decode cX9_makes 150 = .ok (.getfield 170, 3) := by decide +kernel
theorem dX9_makes_153 : decode cX9_makes 153 = .ok (.if_icmp .ge 28, 3) := by decide +kernel
theorem dX9_makes_156 : decode cX9_makes 156 = .ok (.aload_n 0, 1) := by decide +kernel
theorem dX9_makes_157 : decode cX9_makes 157 = .ok (.getfield 82, 3) := by decide +kernel
theorem dX9_makes_160 : decode cX9_makes 160 = .ok (.iload 4, 2) := by decide +kernel
theorem dX9_makes_162 : decode cX9_makes 162 = .ok (.iaload, 1) := by decide +kernel
theorem dX9_makes_163 : decode cX9_makes 163 = .ok (.iload_n 2, 1) := by decide +kernel
theorem dX9_makes_164 : decode cX9_makes 164 = .ok (.if_icmp .ne 11, 3) := by decide +kernel
theorem dX9_makes_167 : decode cX9_makes 167 = .ok (.aload_n 0, 1) := by decide +kernel
theorem dX9_makes_168 : decode cX9_makes 168 = .ok (.getfield 82, 3) := by decide +kernel
theorem dX9_makes_171 : decode cX9_makes 171 = .ok (.iload 4, 2) := by decide +kernel
theorem dX9_makes_173 : decode cX9_makes 173 = .ok (.iload_n 3, 1) := by decide +kernel
theorem dX9_makes_174 : decode cX9_makes 174 = .ok (.iastore, 1) := by decide +kernel
theorem dX9_makes_175 : decode cX9_makes 175 = .ok (.iinc 4 1, 3) := by decide +kernel
theorem dX9_makes_178 : decode cX9_makes 178 = .ok (.goto (-31), 3) := by decide +kernel
theorem dX9_makes_181 : decode cX9_makes 181 = .ok (.iconst 1, 1) := by decide +kernel
theorem dX9_makes_182 : decode cX9_makes 182 = .ok (.ireturn, 1) := by decide +kernel
set_option maxRecDepth 20000 in
theorem ggX9_frame_X9_bad : GoodIn wsX9_frame wsX9_bad := goodIn_r _ [8, 1, 20, 21, 22, 23, 24, 25, 26, 27, 28, 29, 30, 31, 32, 33, 34, 35, 36, 37, 38, 39, 40, 41, 42, 43, 44, 45, 46, 47, 48, 49, 50, 51, 52, 53, 54, 55, 56, 57, 58, 59, 60, 61, 62, 63, 64, 65, 66, 67, 68, 69, 70, 71, 72, 73, 74, 75, 76, 77, 78, 79, 80, 81] rfl (by decide +kernel)
set_option maxRecDepth 20000 in
theorem gX9_frame_X9_bad : GoodIn wsX9_frame (wsV RX9 148 RX9 yX9_bad wsX9_bad) := goodIn_app (goodIn_of _ (by decide +kernel)) ggX9_frame_X9_bad
set_option maxRecDepth 20000 in
theorem ggX9_frame_X9_part : GoodIn wsX9_frame wsX9_part := goodIn_r _ [12, 13, 14, 15, 16, 17, 18, 19, 20, 21, 22, 23, 24, 25, 26, 27, 28, 29, 30, 31, 32, 33, 34, 35, 36, 37, 38, 39, 40, 41, 42, 43, 44, 45, 46, 47, 48, 49, 50, 51, 52, 53, 54, 55, 56, 57, 58, 59, 60, 61, 62, 63, 64, 65, 66, 67, 68, 69, 70, 71, 72, 73, 74, 75, 76, 77, 78, 79, 80, 81] rfl (by decide +kernel)
set_option maxRecDepth 20000 in
theorem gX9_frame_X9_part : GoodIn wsX9_frame (wsV RX9 361 RX9 yX9_part wsX9_part) := goodIn_app (goodIn_of _ (by decide +kernel)) ggX9_frame_X9_part
theorem dX9_frame_0 : decode cX9_frame 0 = .ok (.aload_n 0, 1) := by decide +kernel
theorem dX9_frame_1 : decode cX9_frame 1 = .ok (.iconst 0, 1) := by decide +kernel
theorem dX9_frame_2 : decode cX9_frame 2 = .ok (.putfield 1, 3) := by decide +kernel
theorem dX9_frame_5 : decode cX9_frame 5 = .ok (.iload_n 2, 1) := by decide +kernel
theorem dX9_frame_6 : decode cX9_frame 6 = .ok (.ifCond .lt 8, 3) := by decide +kernel
theorem dX9_frame_9 : decode cX9_frame 9 = .ok (.iload_n 2, 1) := by decide +kernel
theorem dX9_frame_10 : decode cX9_frame 10 = .ok (.iconst 3, 1) := by decide +kernel
theorem dX9_frame_11 : decode cX9_frame 11 = .ok (.if_icmp .le 8, 3) := by decide +kernel
theorem dX9_frame_14 : decode cX9_frame 14 = .ok (.aload_n 0, 1) := by decide +kernel
theorem dX9_frame_15 : decode cX9_frame 15 = .ok (.invokevirtual 148, 3) := by decide +kernel
theorem dX9_frame_18 : decode cX9_frame 18 = .ok (.ireturn, 1) := by decide +kernel
theorem dX9_frame_19 : decode cX9_frame 19 = .ok (.iload_n 1, 1) := by decide +kernel
theorem dX9_frame_20 : decode cX9_frame 20 = .ok (.ifCond .lt 11, 3) := by decide +kernel
theorem dX9_frame_23 : decode cX9_frame 23 = .ok (.iload_n 1, 1) := by decide +kernel
theorem dX9_frame_24 : decode cX9_frame 24 = .ok (.aload_n 0, 1) := by decide +kernel
theorem dX9_frame_25 : decode cX9_frame 25 = .ok (.getfield 260, 3) := by decide +kernel
theorem dX9_frame_28 : decode cX9_frame 28 = .ok (.if_icmp .lt 5, 3) := by decide +kernel
theorem dX9_frame_31 : decode cX9_frame 31 = .ok (.iconst (-1), 1) := by decide +kernel
theorem dX9_frame_32 : decode cX9_frame 32 = .ok (.ireturn, 1) := by decide +kernel
theorem dX9_frame_33 : decode cX9_frame 33 = .ok (.aload_n 0, 1) := by decide +kernel
theorem dX9_frame_34 : decode cX9_frame 34 = .ok (.aload_n 0, 1) := by decide +kernel
theorem dX9_frame_35 : decode cX9_frame 35 = .ok (.getfield 118, 3) := by decide +kernel
theorem dX9_frame_38 : decode cX9_frame 38 = .ok (.iload_n 1, 1) := by decide +kernel
theorem dX9_frame_39 : decode cX9_frame 39 = .ok (.iaload, 1) := by decide +kernel
theorem dX9_frame_40 : decode cX9_frame 40 = .ok (.iload_n 2, 1) := by decide +kernel
theorem dX9_frame_41 : decode cX9_frame 41 = .ok (.invokevirtual 361, 3) := by decide +kernel
theorem dX9_frame_44 : decode cX9_frame 44 = .ok (.ireturn, 1) := by decide +kernel
theorem dX9_part_0 : decode cX9_part 0 = .ok (.iload_n 1, 1) := by decide +kernel
theorem dX9_part_1 : decode cX9_part 1 = .ok (.aload_n 0, 1) := by decide +kernel
theorem dX9_part_2 : decode cX9_part 2 = .ok (.getfield 263, 3) := by decide +kernel
theorem dX9_part_5 : decode cX9_part 5 = .ok (.aload_n 0, 1) := by decide +kernel
theorem dX9_part_6 : decode cX9_part 6 = .ok (.getfield 266, 3) := by decide +kernel
theorem dX9_part_9 : decode cX9_part 9 = .ok (.iadd, 1) := by decide +kernel
theorem dX9_part_10 : decode cX9_part 10 = .ok (.iconst 2, 1) := by decide +kernel
theorem dX9_part_11 : decode cX9_part 11 = .ok (.iadd, 1) := by decide +kernel
theorem dX9_part_12 : decode cX9_part 12 = .ok (.imul, 1) := by decide +kernel
theorem dX9_part_13 : decode cX9_part 13 = .ok (.aload_n 0, 1) := by decide +kernel
theorem dX9_part_14 : decode cX9_part 14 = .ok (.getfield 263, 3) := by decide +kernel
theorem dX9_part_17 : decode cX9_part 17 = .ok (.iadd, 1) := by decide +kernel
theorem dX9_part_18 : decode cX9_part 18 = .ok (.aload_n 0, 1) := by decide +kernel
theorem dX9_part_19 : decode cX9_part 19 = .ok (.getfield 266, 3) := by decide +kernel
theorem dX9_part_22 : decode cX9_part 22 = .ok (.iadd, 1) := by decide +kernel
theorem dX9_part_23 : decode cX9_part 23 = .ok (.istore_n 3, 1) := by decide +kernel
theorem dX9_part_24 : decode cX9_part 24 = .ok (.iload_n 2, 1) := by decide +kernel
theorem dX9_part_25 : decode cX9_part 25 = .ok (.ifCond .ne 12, 3) := by decide +kernel
theorem dX9_part_28 : decode cX9_part 28 = .ok (.aload_n 0, 1) := by decide +kernel
theorem dX9_part_29 : decode cX9_part 29 = .ok (.getfield 103, 3) := by decide +kernel
theorem dX9_part_32 : decode cX9_part 32 = .ok (.iload_n 1, 1) := by decide +kernel
theorem dX9_part_33 : decode cX9_part 33 = .ok (.iaload, 1) := by decide +kernel
theorem dX9_part_34 : decode cX9_part 34 = .ok (.goto 56, 3) := by decide +kernel
theorem dX9_part_37 : decode cX9_part 37 = .ok (.iload_n 2, 1) := by decide +kernel
theorem dX9_part_38 : decode cX9_part 38 = .ok (.iconst 1, 1) := by decide +kernel
theorem dX9_part_39 : decode cX9_part 39 = .ok (.if_icmp .ne 17, 3) := by decide +kernel
theorem dX9_part_42 : decode cX9_part 42 = .ok (.aload_n 0, 1) := by decide +kernel
theorem dX9_part_43 : decode cX9_part 43 = .ok (.getfield 94, 3) := by decide +kernel
theorem dX9_part_46 : decode cX9_part 46 = .ok (.aload_n 0, 1) := by decide +kernel
theorem dX9_part_47 : decode cX9_part 47 = .ok (.getfield 106, 3) := by decide +kernel
theorem dX9_part_50 : decode cX9_part 50 = .ok (.iload_n 1, 1) := by decide +kernel
theorem dX9_part_51 : decode cX9_part 51 = .ok (.iaload, 1) := by decide +kernel
theorem dX9_part_52 : decode cX9_part 52 = .ok (.iaload, 1) := by decide +kernel
theorem dX9_part_53 : decode cX9_part 53 = .ok (.goto 37, 3) := by decide +kernel
theorem dX9_part_56 : decode cX9_part 56 = .ok (.iload_n 2, 1) := by decide +kernel
theorem dX9_part_57 : decode cX9_part 57 = .ok (.iconst 2, 1) := by decide +kernel
theorem dX9_part_58 : decode cX9_part 58 = .ok (.if_icmp .ne 12, 3) := by decide +kernel
theorem dX9_part_61 : decode cX9_part 61 = .ok (.aload_n 0, 1) := by decide +kernel
theorem dX9_part_62 : decode cX9_part 62 = .ok (.getfield 128, 3) := by decide +kernel
theorem dX9_part_65 : decode cX9_part 65 = .ok (.iload_n 3, 1) := by decide +kernel
theorem dX9_part_66 : decode cX9_part 66 = .ok (.iaload, 1) := by decide +kernel
theorem dX9_part_67 : decode cX9_part 67 = .ok (.goto 23, 3) := by decide +kernel
theorem dX9_part_70 : decode cX9_part 70 = .ok (.aload_n 0, 1) := by decide +kernel
theorem dX9_part_71 : decode cX9_part 71 = .ok (.getfield 279, 3) := by decide +kernel
theorem dX9_part_74 : decode cX9_part 74 = .ok (.iconst 2, 1) := by decide +kernel
theorem dX9_part_75 : decode cX9_part 75 = .ok (.if_icmp .ne 14, 3) := by decide +kernel
theorem dX9_part_78 : decode cX9_part 78 = .ok (.aload_n 0, 1) := by decide +kernel
theorem dX9_part_79 : decode cX9_part 79 = .ok (.getfield 128, 3) := by decide +kernel
theorem dX9_part_82 : decode cX9_part 82 = .ok (.iload_n 3, 1) := by decide +kernel
theorem dX9_part_83 : decode cX9_part 83 = .ok (.iconst 1, 1) := by decide +kernel
theorem dX9_part_84 : decode cX9_part 84 = .ok (.iadd, 1) := by decide +kernel
theorem dX9_part_85 : decode cX9_part 85 = .ok (.iaload, 1) := by decide +kernel
theorem dX9_part_86 : decode cX9_part 86 = .ok (.goto 4, 3) := by decide +kernel
theorem dX9_part_89 : decode cX9_part 89 = .ok (.iconst 0, 1) := by decide +kernel
theorem dX9_part_90 : decode cX9_part 90 = .ok (.ireturn, 1) := by decide +kernel
theorem dX9_context_0 : decode cX9_context 0 = .ok (.aload_n 0, 1) := by decide +kernel
theorem dX9_context_1 : decode cX9_context 1 = .ok (.iconst 0, 1) := by decide +kernel
theorem dX9_context_2 : decode cX9_context 2 = .ok (.putfield 1, 3) := by decide +kernel
theorem dX9_context_5 : decode cX9_context 5 = .ok (.iload_n 1, 1) := by decide +kernel
theorem dX9_context_6 : decode cX9_context 6 = .ok (.ifCond .lt 15, 3) := by decide +kernel
theorem dX9_context_9 : decode cX9_context 9 = .ok (.iload_n 1, 1) := by decide +kernel
theorem dX9_context_10 : decode cX9_context 10 = .ok (.aload_n 0, 1) := by decide +kernel
theorem dX9_context_11 : decode cX9_context 11 = .ok (.getfield 260, 3) := by decide +kernel
theorem dX9_context_14 : decode cX9_context 14 = .ok (.if_icmp .ge 7, 3) := by decide +kernel
theorem dX9_context_17 : decode cX9_context 17 = .ok (.iload_n 2, 1) := by decide +kernel
theorem dX9_context_18 : decode cX9_context 18 = .ok (.ifCond .ge 5, 3) := by decide +kernel
theorem dX9_context_21 : decode cX9_context 21 = .ok (.iconst (-1), 1) := by decide +kernel
theorem dX9_context_22 : decode cX9_context 22 = .ok (.ireturn, 1) := by decide +kernel
theorem dX9_context_23 : decode cX9_context 23 = .ok (.aload_n 0, 1) := by decide +kernel
theorem dX9_context_24 : decode cX9_context 24 = .ok (.getfield 106, 3) := by decide +kernel
theorem dX9_context_27 : decode cX9_context 27 = .ok (.aload_n 0, 1) := by decide +kernel
theorem dX9_context_28 : decode cX9_context 28 = .ok (.getfield 118, 3) := by decide +kernel
theorem dX9_context_31 : decode cX9_context 31 = .ok (.iload_n 1, 1) := by decide +kernel
theorem dX9_context_32 : decode cX9_context 32 = .ok (.iaload, 1) := by decide +kernel
theorem dX9_context_33 : decode cX9_context 33 = .ok (.iaload, 1) := by decide +kernel
theorem dX9_context_34 : decode cX9_context 34 = .ok (.istore_n 3, 1) := by decide +kernel
theorem dX9_context_35 : decode cX9_context 35 = .ok (.iload_n 2, 1) := by decide +kernel
theorem dX9_context_36 : decode cX9_context 36 = .ok (.aload_n 0, 1) := by decide +kernel
theorem dX9_context_37 : decode cX9_context 37 = .ok (.getfield 94, 3) := by decide +kernel
theorem dX9_context_40 : decode cX9_context 40 = .ok (.iload_n 3, 1) := by decide +kernel
theorem dX9_context_41 : decode cX9_context 41 = .ok (.iaload, 1) := by decide +kernel
theorem dX9_context_42 : decode cX9_context 42 = .ok (.if_icmp .lt 5, 3) := by decide +kernel
theorem dX9_context_45 : decode cX9_context 45 = .ok (.iconst (-1), 1) := by decide +kernel
theorem dX9_context_46 : decode cX9_context 46 = .ok (.ireturn, 1) := by decide +kernel
theorem dX9_context_47 : decode cX9_context 47 = .ok (.aload_n 0, 1) := by decide +kernel
theorem dX9_context_48 : decode cX9_context 48 = .ok (.getfield 94, 3) := by decide +kernel
theorem dX9_context_51 : decode cX9_context 51 = .ok (.iload_n 3, 1) := by decide +kernel
theorem dX9_context_52 : decode cX9_context 52 = .ok (.iaload, 1) := by decide +kernel
theorem dX9_context_53 : decode cX9_context 53 = .ok (.iload_n 2, 1) := by decide +kernel
theorem dX9_context_54 : decode cX9_context 54 = .ok (.iconst 1, 1) := by decide +kernel
theorem dX9_context_55 : decode cX9_context 55 = .ok (.iadd, 1) := by decide +kernel
theorem dX9_context_56 : decode cX9_context 56 = .ok (.if_icmp .le 13, 3) := by decide +kernel
theorem dX9_context_59 : decode cX9_context 59 = .ok (.aload_n 0, 1) := by decide +kernel
theorem dX9_context_60 : decode cX9_context 60 = .ok (.getfield 91, 3) := by decide +kernel
theorem dX9_context_63 : decode cX9_context 63 = .ok (.iload_n 3, 1) := by decide +kernel
theorem dX9_context_64 : decode cX9_context 64 = .ok (.iaload, 1) := by decide +kernel
theorem dX9_context_65 : decode cX9_context 65 = .ok (.istore_n 3, 1) := by decide +kernel
theorem dX9_context_66 : decode cX9_context 66 = .ok (.goto (-19), 3) := by decide +kernel
theorem dX9_context_69 : decode cX9_context 69 = .ok (.aload_n 0, 1) := by decide +kernel
theorem dX9_context_70 : decode cX9_context 70 = .ok (.getfield 88, 3) := by decide +kernel
theorem dX9_context_73 : decode cX9_context 73 = .ok (.iload_n 3, 1) := by decide +kernel
theorem dX9_context_74 : decode cX9_context 74 = .ok (.iaload, 1) := by decide +kernel
theorem dX9_context_75 : decode cX9_context 75 = .ok (.ireturn, 1) := by decide +kernel
set_option maxRecDepth 20000 in
theorem ggX9_told_X9_part : GoodIn wsX9_told wsX9_part := goodIn_r _ [11, 3, 6, 12, 13, 14, 5, 15, 16, 17, 18, 19, 20, 21, 22, 23, 24, 25, 26, 27, 28, 29, 30, 31, 32, 33, 34, 35, 36, 37, 38, 39, 40, 41, 42, 43, 44, 45, 46, 47, 48, 49, 50, 51, 52, 53, 54, 55, 56, 57, 58, 59, 60, 61, 62, 63, 64, 65, 66, 67, 68, 69, 70, 71, 72, 73, 74, 75, 76, 77] rfl (by decide +kernel)
set_option maxRecDepth 20000 in
theorem gX9_told_X9_part : GoodIn wsX9_told (wsV RX9 361 RX9 yX9_part wsX9_part) := goodIn_app (goodIn_of _ (by decide +kernel)) ggX9_told_X9_part
theorem dX9_told_0 : decode cX9_told 0 = .ok (.aload_n 0, 1) := by decide +kernel
theorem dX9_told_1 : decode cX9_told 1 = .ok (.iconst 0, 1) := by decide +kernel
theorem dX9_told_2 : decode cX9_told 2 = .ok (.putfield 1, 3) := by decide +kernel
theorem dX9_told_5 : decode cX9_told 5 = .ok (.iload_n 1, 1) := by decide +kernel
theorem dX9_told_6 : decode cX9_told 6 = .ok (.ifCond .lt 35, 3) := by decide +kernel
theorem dX9_told_9 : decode cX9_told 9 = .ok (.iload_n 1, 1) := by decide +kernel
theorem dX9_told_10 : decode cX9_told 10 = .ok (.aload_n 0, 1) := by decide +kernel
theorem dX9_told_11 : decode cX9_told 11 = .ok (.getfield 260, 3) := by decide +kernel
theorem dX9_told_14 : decode cX9_told 14 = .ok (.if_icmp .ge 27, 3) := by decide +kernel
theorem dX9_told_17 : decode cX9_told 17 = .ok (.iload_n 2, 1) := by decide +kernel
theorem dX9_told_18 : decode cX9_told 18 = .ok (.ifCond .lt 23, 3) := by decide +kernel
theorem dX9_told_21 : decode cX9_told 21 = .ok (.iload_n 2, 1) := by decide +kernel
theorem dX9_told_22 : decode cX9_told 22 = .ok (.aload_n 0, 1) := by decide +kernel
theorem dX9_told_23 : decode cX9_told 23 = .ok (.getfield 263, 3) := by decide +kernel
theorem dX9_told_26 : decode cX9_told 26 = .ok (.aload_n 0, 1) := by decide +kernel
theorem dX9_told_27 : decode cX9_told 27 = .ok (.aload_n 0, 1) := by decide +kernel
theorem dX9_told_28 : decode cX9_told 28 = .ok (.getfield 118, 3) := by decide +kernel
theorem dX9_told_31 : decode cX9_told 31 = .ok (.iload_n 1, 1) := by decide +kernel
theorem dX9_told_32 : decode cX9_told 32 = .ok (.iaload, 1) := by decide +kernel
theorem dX9_told_33 : decode cX9_told 33 = .ok (.iconst 2, 1) := by decide +kernel
theorem dX9_told_34 : decode cX9_told 34 = .ok (.invokevirtual 361, 3) := by decide +kernel
theorem dX9_told_37 : decode cX9_told 37 = .ok (.iadd, 1) := by decide +kernel
theorem dX9_told_38 : decode cX9_told 38 = .ok (.if_icmp .lt 5, 3) := by decide +kernel
theorem dX9_told_41 : decode cX9_told 41 = .ok (.iconst (-1), 1) := by decide +kernel
theorem dX9_told_42 : decode cX9_told 42 = .ok (.ireturn, 1) := by decide +kernel
theorem dX9_told_43 : decode cX9_told 43 = .ok (.aload_n 0, 1) := by decide +kernel
theorem dX9_told_44 : decode cX9_told 44 = .ok (.getfield 128, 3) := by decide +kernel
theorem dX9_told_47 : decode cX9_told 47 = .ok (.aload_n 0, 1) := by decide +kernel
theorem dX9_told_48 : decode cX9_told 48 = .ok (.getfield 118, 3) := by decide +kernel
theorem dX9_told_51 : decode cX9_told 51 = .ok (.iload_n 1, 1) := by decide +kernel
theorem dX9_told_52 : decode cX9_told 52 = .ok (.iaload, 1) := by decide +kernel
theorem dX9_told_53 : decode cX9_told 53 = .ok (.aload_n 0, 1) := by decide +kernel
theorem dX9_told_54 : decode cX9_told 54 = .ok (.getfield 263, 3) := by decide +kernel
theorem dX9_told_57 : decode cX9_told 57 = .ok (.aload_n 0, 1) := by decide +kernel
theorem dX9_told_58 : decode cX9_told 58 = .ok (.getfield 266, 3) := by decide +kernel
theorem dX9_told_61 : decode cX9_told 61 = .ok (.iadd, 1) := by decide +kernel
theorem dX9_told_62 : decode cX9_told 62 = .ok (.iconst 2, 1) := by decide +kernel
theorem dX9_told_63 : decode cX9_told 63 = .ok (.iadd, 1) := by decide +kernel
theorem dX9_told_64 : decode cX9_told 64 = .ok (.imul, 1) := by decide +kernel
theorem dX9_told_65 : decode cX9_told 65 = .ok (.iload_n 2, 1) := by decide +kernel
theorem dX9_told_66 : decode cX9_told 66 = .ok (.iadd, 1) := by decide +kernel
theorem dX9_told_67 : decode cX9_told 67 = .ok (.iaload, 1) := by decide +kernel
theorem dX9_told_68 : decode cX9_told 68 = .ok (.ireturn, 1) := by decide +kernel
set_option maxRecDepth 20000 in
theorem ggX9_digest_X9_part : GoodIn wsX9_digest wsX9_part := goodIn_r _ [13, 6, 8, 14, 15, 16, 7, 17, 18, 19, 20, 21, 22, 23, 24, 25, 26, 27, 28, 29, 30, 31, 32, 33, 34, 35, 36, 37, 38, 39, 40, 41, 42, 43, 44, 45, 46, 47, 48, 49, 50, 51, 52, 53, 54, 55, 56, 57, 58, 59, 60, 61, 62, 63, 64, 65, 66, 67, 68, 69, 70, 71, 72, 73, 74, 75, 76, 77, 78, 79] rfl (by decide +kernel)
set_option maxRecDepth 20000 in
theorem gX9_digest_X9_part : GoodIn wsX9_digest (wsV RX9 361 RX9 yX9_part wsX9_part) := goodIn_app (goodIn_of _ (by decide +kernel)) ggX9_digest_X9_part
theorem dX9_digest_0 : decode cX9_digest 0 = .ok (.aload_n 0, 1) := by decide +kernel
theorem dX9_digest_1 : decode cX9_digest 1 = .ok (.iconst 0, 1) := by decide +kernel
theorem dX9_digest_2 : decode cX9_digest 2 = .ok (.putfield 1, 3) := by decide +kernel
theorem dX9_digest_5 : decode cX9_digest 5 = .ok (.ldc2_w 364, 3) := by decide +kernel
theorem dX9_digest_8 : decode cX9_digest 8 = .ok (.lstore_n 1, 1) := by decide +kernel
theorem dX9_digest_9 : decode cX9_digest 9 = .ok (.iconst 0, 1) := by decide +kernel
theorem dX9_digest_10 : decode cX9_digest 10 = .ok (.istore_n 3, 1) := by decide +kernel
theorem dX9_digest_11 : decode cX9_digest 11 = .ok (.iload_n 3, 1) := by decide +kernel
theorem dX9_digest_12 : decode cX9_digest 12 = .ok (.aload_n 0, 1) := by decide +kernel
theorem dX9_digest_13 : decode cX9_digest 13 = .ok (.getfield 260, 3) := by decide +kernel
theorem dX9_digest_16 : decode cX9_digest 16 = .ok (.if_icmp .ge 108, 3) := by decide +kernel
theorem dX9_digest_19 : decode cX9_digest 19 = .ok (.aload_n 0, 1) := by decide +kernel
theorem dX9_digest_20 : decode cX9_digest 20 = .ok (.getfield 118, 3) := by decide +kernel
theorem dX9_digest_23 : decode cX9_digest 23 = .ok (.iload_n 3, 1) := by decide +kernel
theorem dX9_digest_24 : decode cX9_digest 24 = .ok (.iaload, 1) := by decide +kernel
theorem dX9_digest_25 : decode cX9_digest 25 = .ok (.istore 4, 2) := by decide +kernel
theorem dX9_digest_27 : decode cX9_digest 27 = .ok (.iconst 0, 1) := by decide +kernel
theorem dX9_digest_28 : decode cX9_digest 28 = .ok (.istore 5, 2) := by decide +kernel
theorem dX9_digest_30 : decode cX9_digest 30 = .ok (.iload 5, 2) := by decide +kernel
theorem dX9_digest_32 : decode cX9_digest 32 = .ok (.iconst 4, 1) := by decide +kernel
theorem dX9_digest_33 : decode cX9_digest 33 = .ok (.if_icmp .ge 25, 3) := by decide +kernel
theorem dX9_digest_36 : decode cX9_digest 36 = .ok (.ldc2_w 366, 3) := by decide +kernel
theorem dX9_digest_39 : decode cX9_digest 39 = .ok (.lload_n 1, 1) := by decide +kernel
theorem dX9_digest_40 : decode cX9_digest 40 = .ok (.lmul, 1) := by decide +kernel
theorem dX9_digest_41 : decode cX9_digest 41 = .ok (.aload_n 0, 1) := by decide +kernel
theorem dX9_digest_42 : decode cX9_digest 42 = .ok (.iload 4, 2) := by decide +kernel
theorem dX9_digest_44 : decode cX9_digest 44 = .ok (.iload 5, 2) := by decide +kernel
theorem dX9_digest_46 : decode cX9_digest 46 = .ok (.invokevirtual 361, 3) := by decide +kernel
theorem dX9_digest_49 : decode cX9_digest 49 = .ok (.i2l, 1) := by decide +kernel
theorem dX9_digest_50 : decode cX9_digest 50 = .ok (.ladd, 1) := by decide +kernel
theorem dX9_digest_51 : decode cX9_digest 51 = .ok (.lstore_n 1, 1) := by decide +kernel
theorem dX9_digest_52 : decode cX9_digest 52 = .ok (.iinc 5 1, 3) := by decide +kernel
theorem dX9_digest_55 : decode cX9_digest 55 = .ok (.goto (-25), 3) := by decide +kernel
theorem dX9_digest_58 : decode cX9_digest 58 = .ok (.aload_n 0, 1) := by decide +kernel
theorem dX9_digest_59 : decode cX9_digest 59 = .ok (.getfield 263, 3) := by decide +kernel
theorem dX9_digest_62 : decode cX9_digest 62 = .ok (.aload_n 0, 1) := by decide +kernel
theorem dX9_digest_63 : decode cX9_digest 63 = .ok (.iload 4, 2) := by decide +kernel
theorem dX9_digest_65 : decode cX9_digest 65 = .ok (.iconst 2, 1) := by decide +kernel
theorem dX9_digest_66 : decode cX9_digest 66 = .ok (.invokevirtual 361, 3) := by decide +kernel
theorem dX9_digest_69 : decode cX9_digest 69 = .ok (.iadd, 1) := by decide +kernel
theorem dX9_digest_70 : decode cX9_digest 70 = .ok (.istore 5, 2) := by decide +kernel
theorem dX9_digest_72 : decode cX9_digest 72 = .ok (.iconst 0, 1) := by decide +kernel
theorem dX9_digest_73 : decode cX9_digest 73 = .ok (.istore 6, 2) := by decide +kernel
theorem dX9_digest_75 : decode cX9_digest 75 = .ok (.iload 6, 2) := by decide +kernel
theorem dX9_digest_77 : decode cX9_digest 77 = .ok (.iload 5, 2) := by decide +kernel
theorem dX9_digest_79 : decode cX9_digest 79 = .ok (.if_icmp .ge 39, 3) := by decide +kernel
theorem dX9_digest_82 : decode cX9_digest 82 = .ok (.ldc2_w 366, 3) := by decide +kernel
theorem dX9_digest_85 : decode cX9_digest 85 = .ok (.lload_n 1, 1) := by decide +kernel
theorem dX9_digest_86 : decode cX9_digest 86 = .ok (.lmul, 1) := by decide +kernel
theorem dX9_digest_87 : decode cX9_digest 87 = .ok (.aload_n 0, 1) := by decide +kernel
theorem dX9_digest_88 : decode cX9_digest 88 = .ok (.getfield 128, 3) := by decide +kernel
theorem dX9_digest_91 : decode cX9_digest 91 = .ok (.iload 4, 2) := by decide +kernel
theorem dX9_digest_93 : decode cX9_digest 93 = .ok (.aload_n 0, 1) := by decide +kernel
theorem dX9_digest_94 : decode cX9_digest 94 = .ok (.getfield 263, 3) := by decide +kernel
theorem dX9_digest_97 : decode cX9_digest 97 = .ok (.aload_n 0, 1) := by decide +kernel
theorem dX9_digest_98 : decode cX9_digest 98 = .ok (.getfield 266, 3) := by decide +kernel
theorem dX9_digest_101 : decode cX9_digest 101 = .ok (.iadd, 1) := by decide +kernel
theorem dX9_digest_102 : decode cX9_digest 102 = .ok (.iconst 2, 1) := by decide +kernel
theorem dX9_digest_103 : decode cX9_digest 103 = .ok (.iadd, 1) := by decide +kernel
theorem dX9_digest_104 : decode cX9_digest 104 = .ok (.imul, 1) := by decide +kernel
theorem dX9_digest_105 : decode cX9_digest 105 = .ok (.iload 6, 2) := by decide +kernel
theorem dX9_digest_107 : decode cX9_digest 107 = .ok (.iadd, 1) := by decide +kernel
theorem dX9_digest_108 : decode cX9_digest 108 = .ok (.iaload, 1) := by decide +kernel
theorem dX9_digest_109 : decode cX9_digest 109 = .ok (.i2l, 1) := by decide +kernel
theorem dX9_digest_110 : decode cX9_digest 110 = .ok (.ladd, 1) := by decide +kernel
theorem dX9_digest_111 : decode cX9_digest 111 = .ok (.lstore_n 1, 1) := by decide +kernel
theorem dX9_digest_112 : decode cX9_digest 112 = .ok (.iinc 6 1, 3) := by decide +kernel
theorem dX9_digest_115 : decode cX9_digest 115 = .ok (.goto (-40), 3) := by decide +kernel
theorem dX9_digest_118 : decode cX9_digest 118 = .ok (.iinc 3 1, 3) := by decide +kernel
theorem dX9_digest_121 : decode cX9_digest 121 = .ok (.goto (-110), 3) := by decide +kernel
theorem dX9_digest_124 : decode cX9_digest 124 = .ok (.lload_n 1, 1) := by decide +kernel
theorem dX9_digest_125 : decode cX9_digest 125 = .ok (.lreturn, 1) := by decide +kernel
theorem dJ7_fill_53178_0 : decode cJ7_fill_53178 0 = .ok (.iconst 0, 1) := by decide +kernel
theorem dJ7_fill_53178_1 : decode cJ7_fill_53178 1 = .ok (.istore_n 2, 1) := by decide +kernel
theorem dJ7_fill_53178_2 : decode cJ7_fill_53178 2 = .ok (.aload_n 0, 1) := by decide +kernel
theorem dJ7_fill_53178_3 : decode cJ7_fill_53178 3 = .ok (.arraylength, 1) := by decide +kernel
theorem dJ7_fill_53178_4 : decode cJ7_fill_53178 4 = .ok (.istore_n 3, 1) := by decide +kernel
theorem dJ7_fill_53178_5 : decode cJ7_fill_53178 5 = .ok (.iload_n 2, 1) := by decide +kernel
theorem dJ7_fill_53178_6 : decode cJ7_fill_53178 6 = .ok (.iload_n 3, 1) := by decide +kernel
theorem dJ7_fill_53178_7 : decode cJ7_fill_53178 7 = .ok (.if_icmp .ge 13, 3) := by decide +kernel
theorem dJ7_fill_53178_10 : decode cJ7_fill_53178 10 = .ok (.aload_n 0, 1) := by decide +kernel
theorem dJ7_fill_53178_11 : decode cJ7_fill_53178 11 = .ok (.iload_n 2, 1) := by decide +kernel
theorem dJ7_fill_53178_12 : decode cJ7_fill_53178 12 = .ok (.iload_n 1, 1) := by decide +kernel
theorem dJ7_fill_53178_13 : decode cJ7_fill_53178 13 = .ok (.iastore, 1) := by decide +kernel
theorem dJ7_fill_53178_14 : decode cJ7_fill_53178 14 = .ok (.iinc 2 1, 3) := by decide +kernel
theorem dJ7_fill_53178_17 : decode cJ7_fill_53178 17 = .ok (.goto (-12), 3) := by decide +kernel
theorem dJ7_fill_53178_20 : decode cJ7_fill_53178 20 = .ok (.return_, 1) := by decide +kernel
theorem dJ7_copyOf_59c91_0 : decode cJ7_copyOf_59c91 0 = .ok (.iload_n 1, 1) := by decide +kernel
theorem dJ7_copyOf_59c91_1 : decode cJ7_copyOf_59c91 1 = .ok (.aload_n 0, 1) := by decide +kernel
theorem dJ7_copyOf_59c91_2 : decode cJ7_copyOf_59c91 2 = .ok (.arraylength, 1) := by decide +kernel
theorem dJ7_copyOf_59c91_3 : decode cJ7_copyOf_59c91 3 = .ok (.if_icmp .ne 11, 3) := by decide +kernel
theorem dJ7_copyOf_59c91_6 : decode cJ7_copyOf_59c91 6 = .ok (.aload_n 0, 1) := by decide +kernel
theorem dJ7_copyOf_59c91_7 : decode cJ7_copyOf_59c91 7 = .ok (.invokevirtual 316, 3) := by decide +kernel
theorem dJ7_copyOf_59c91_10 : decode cJ7_copyOf_59c91 10 = .ok (.checkcast 317, 3) := by decide +kernel
theorem dJ7_copyOf_59c91_13 : decode cJ7_copyOf_59c91 13 = .ok (.areturn, 1) := by decide +kernel
theorem dJ7_copyOf_59c91_14 : decode cJ7_copyOf_59c91 14 = .ok (.iload_n 1, 1) := by decide +kernel
