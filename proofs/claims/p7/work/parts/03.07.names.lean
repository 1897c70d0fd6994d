theorem dX9_judge_77 : decode cX9_judge 77 = .ok (.iconst 2, 1) := by decide +kernel
theorem dX9_judge_78 : decode cX9_judge 78 = .ok (.idiv, 1) := by decide +kernel
theorem dX9_judge_79 : decode cX9_judge 79 = .ok (.istore_n 1, 1) := by decide +kernel
theorem dX9_judge_80 : decode cX9_judge 80 = .ok (.iload_n 1, 1) := by decide +kernel
theorem dX9_judge_81 : decode cX9_judge 81 = .ok (.ifCond .le 92, 3) := by decide +kernel
theorem dX9_judge_84 : decode cX9_judge 84 = .ok (.iload_n 1, 1) := by decide +kernel
theorem dX9_judge_85 : decode cX9_judge 85 = .ok (.istore_n 2, 1) := by decide +kernel
theorem dX9_judge_86 : decode cX9_judge 86 = .ok (.iload_n 2, 1) := by decide +kernel
theorem dX9_judge_87 : decode cX9_judge 87 = .ok (.aload_n 0, 1) := by decide +kernel
theorem dX9_judge_88 : decode cX9_judge 88 = .ok (.getfield 260, 3) := by decide +kernel
theorem dX9_judge_91 : decode cX9_judge 91 = .ok (.if_icmp .ge 75, 3) := by decide +kernel
theorem dX9_judge_94 : decode cX9_judge 94 = .ok (.aload_n 0, 1) := by decide +kernel
theorem dX9_judge_95 : decode cX9_judge 95 = .ok (.getfield 118, 3) := by decide +kernel
theorem dX9_judge_98 : decode cX9_judge 98 = .ok (.iload_n 2, 1) := by decide +kernel
theorem dX9_judge_99 : decode cX9_judge 99 = .ok (.iaload, 1) := by decide +kernel
theorem dX9_judge_100 : decode cX9_judge 100 = .ok (.istore_n 3, 1) := by decide +kernel
theorem dX9_judge_101 : decode cX9_judge 101 = .ok (.iload_n 2, 1) := by decide +kernel
theorem dX9_judge_102 : decode cX9_judge 102 = .ok (.istore 4, 2) := by decide +kernel
theorem dX9_judge_104 : decode cX9_judge 104 = .ok (.iload 4, 2) := by decide +kernel
theorem dX9_judge_106 : decode cX9_judge 106 = .ok (.iload_n 1, 1) := by decide +kernel
theorem dX9_judge_107 : decode cX9_judge 107 = .ok (.if_icmp .lt 45, 3) := by decide +kernel
theorem dX9_judge_110 : decode cX9_judge 110 = .ok (.aload_n 0, 1) := by decide +kernel
theorem dX9_judge_111 : decode cX9_judge 111 = .ok (.aload_n 0, 1) := by decide +kernel
theorem dX9_judge_112 : decode cX9_judge 112 = .ok (.getfield 118, 3) := by decide +kernel
theorem dX9_judge_115 : decode cX9_judge 115 = .ok (.iload 4, 2) := by decide +kernel
theorem dX9_judge_117 : decode cX9_judge 117 = .ok (.iload_n 1, 1) := by decide +kernel
theorem dX9_judge_118 : decode cX9_judge 118 = .ok (.isub, 1) := by decide +kernel
theorem dX9_judge_119 : decode cX9_judge 119 = .ok (.iaload, 1) := by decide +kernel
theorem dX9_judge_120 : decode cX9_judge 120 = .ok (.iload_n 3, 1) := by decide +kernel
theorem dX9_judge_121 : decode cX9_judge 121 = .ok (.invokevirtual 276, 3) := by decide +kernel
theorem dX9_judge_124 : decode cX9_judge 124 = .ok (.ifCond .eq 28, 3) := by decide +kernel
theorem dX9_judge_127 : decode cX9_judge 127 = .ok (.aload_n 0, 1) := by decide +kernel
theorem dX9_judge_128 : decode cX9_judge 128 = .ok (.getfield 118, 3) := by decide +kernel
theorem dX9_judge_131 : decode cX9_judge 131 = .ok (.iload 4, 2) := by decide +kernel
theorem dX9_judge_133 : decode cX9_judge 133 = .ok (.aload_n 0, 1) := by decide +kernel
theorem dX9_judge_134 : decode cX9_judge 134 = .ok (.getfield 118, 3) := by decide +kernel
theorem dX9_judge_137 : decode cX9_judge 137 = .ok (.iload 4, 2) := by decide +kernel
theorem dX9_judge_139 : decode cX9_judge 139 = .ok (.iload_n 1, 1) := by decide +kernel
theorem dX9_judge_140 : decode cX9_judge 140 = .ok (.isub, 1) := by decide +kernel
theorem dX9_judge_141 : decode cX9_judge 141 = .ok (.iaload, 1) := by decide +kernel
theorem dX9_judge_142 : decode cX9_judge 142 = .ok (.iastore, 1) := by decide +kernel
theorem dX9_judge_143 : decode cX9_judge 143 = .ok (.iload 4, 2) := by decide +kernel
theorem dX9_judge_145 : decode cX9_judge 145 = .ok (.iload_n 1, 1) := by decide +kernel
theorem dX9_judge_146 : decode cX9_judge 146 = .ok (.isub, 1) := by decide +kernel
theorem dX9_judge_147 : decode cX9_judge 147 = .ok (.istore 4, 2) := by decide +kernel
theorem dX9_judge_149 : decode cX9_judge 149 = .ok (.goto (-45), 3) := by decide +kernel
theorem dX9_judge_152 : decode cX9_judge 152 = .ok (.aload_n 0, 1) := by decide +kernel
theorem dX9_judge_153 : decode cX9_judge 153 = .ok (.getfield 118, 3) := by decide +kernel
theorem dX9_judge_156 : decode cX9_judge 156 = .ok (.iload 4, 2) := by decide +kernel
theorem dX9_judge_158 : decode cX9_judge 158 = .ok (.iload_n 3, 1) := by decide +kernel
theorem dX9_judge_159 : decode cX9_judge 159 = .ok (.iastore, 1) := by decide +kernel
theorem dX9_judge_160 : decode cX9_judge 160 = .ok (.iinc 2 1, 3) := by decide +kernel
theorem dX9_judge_163 : decode cX9_judge 163 = .ok (.goto (-77), 3) := by decide +kernel
theorem dX9_judge_166 : decode cX9_judge 166 = .ok (.iload_n 1, 1) := by decide +kernel
theorem dX9_judge_167 : decode cX9_judge 167 = .ok (.iconst 2, 1) := by decide +kernel
theorem dX9_judge_168 : decode cX9_judge 168 = .ok (.idiv, 1) := by decide +kernel
theorem dX9_judge_169 : decode cX9_judge 169 = .ok (.istore_n 1, 1) := by decide +kernel
theorem dX9_judge_170 : decode cX9_judge 170 = .ok (.goto (-90), 3) := by decide +kernel
theorem dX9_judge_173 : decode cX9_judge 173 = .ok (.aload_n 0, 1) := by decide +kernel
theorem dX9_judge_174 : decode cX9_judge 174 = .ok (.aload_n 0, 1) := by decide +kernel
theorem dX9_judge_175 : decode cX9_judge 175 = .ok (.getfield 167, 3) := by decide +kernel
theorem dX9_judge_178 : decode cX9_judge 178 = .ok (.putfield 279, 3) := by decide +kernel
theorem dX9_judge_181 : decode cX9_judge 181 = .ok (.aload_n 0, 1) := by decide +kernel
theorem dX9_judge_182 : decode cX9_judge 182 = .ok (.getfield 260, 3) := by decide +kernel
theorem dX9_judge_185 : decode cX9_judge 185 = .ok (.ireturn, 1) := by decide +kernel
theorem dX9_addresses_0 : decode cX9_addresses 0 = .ok (.iload_n 1, 1) := by decide +kernel
theorem dX9_addresses_1 : decode cX9_addresses 1 = .ok (.istore_n 3, 1) := by decide +kernel
theorem dX9_addresses_2 : decode cX9_addresses 2 = .ok (.iload_n 3, 1) := by decide +kernel
theorem dX9_addresses_3 : decode cX9_addresses 3 = .ok (.ifCond .le 29, 3) := by decide +kernel
theorem dX9_addresses_6 : decode cX9_addresses 6 = .ok (.aload_n 2, 1) := by decide +kernel
theorem dX9_addresses_7 : decode cX9_addresses 7 = .ok (.aload_n 0, 1) := by decide +kernel
theorem dX9_addresses_8 : decode cX9_addresses 8 = .ok (.getfield 94, 3) := by decide +kernel
theorem dX9_addresses_11 : decode cX9_addresses 11 = .ok (.iload_n 3, 1) := by decide +kernel
theorem dX9_addresses_12 : decode cX9_addresses 12 = .ok (.iaload, 1) := by decide +kernel
theorem dX9_addresses_13 : decode cX9_addresses 13 = .ok (.iconst 1, 1) := by decide +kernel
theorem dX9_addresses_14 : decode cX9_addresses 14 = .ok (.isub, 1) := by decide +kernel
theorem dX9_addresses_15 : decode cX9_addresses 15 = .ok (.aload_n 0, 1) := by decide +kernel
theorem dX9_addresses_16 : decode cX9_addresses 16 = .ok (.getfield 88, 3) := by decide +kernel
theorem dX9_addresses_19 : decode cX9_addresses 19 = .ok (.iload_n 3, 1) := by decide +kernel
theorem dX9_addresses_20 : decode cX9_addresses 20 = .ok (.iaload, 1) := by decide +kernel
theorem dX9_addresses_21 : decode cX9_addresses 21 = .ok (.iastore, 1) := by decide +kernel
theorem dX9_addresses_22 : decode cX9_addresses 22 = .ok (.aload_n 0, 1) := by decide +kernel
theorem dX9_addresses_23 : decode cX9_addresses 23 = .ok (.getfield 91, 3) := by decide +kernel
theorem dX9_addresses_26 : decode cX9_addresses 26 = .ok (.iload_n 3, 1) := by decide +kernel
theorem dX9_addresses_27 : decode cX9_addresses 27 = .ok (.iaload, 1) := by decide +kernel
theorem dX9_addresses_28 : decode cX9_addresses 28 = .ok (.istore_n 3, 1) := by decide +kernel
theorem dX9_addresses_29 : decode cX9_addresses 29 = .ok (.goto (-27), 3) := by decide +kernel
theorem dX9_addresses_32 : decode cX9_addresses 32 = .ok (.return_, 1) := by decide +kernel
set_option maxRecDepth 20000 in
theorem ggX9_behind_X9_addresses : GoodIn wsX9_behind wsX9_addresses := goodIn_r _ [10, 5, 11, 12, 13, 14, 15, 16, 17, 18, 19, 20, 21, 22, 23, 24, 25, 26, 27, 28, 29, 30, 31, 32, 33, 34, 35, 36, 37, 38, 39, 40, 41, 42, 43, 44, 45, 46, 47, 48, 49, 50, 51, 52, 53, 54, 55, 56, 57, 58, 59, 60, 61, 62, 63, 64, 65, 66, 67, 68, 69, 70, 71, 72, 73, 74] rfl (by decide +kernel)
set_option maxRecDepth 20000 in
theorem gX9_behind_X9_addresses : GoodIn wsX9_behind (wsV RX9 282 RX9 yX9_addresses wsX9_addresses) := goodIn_app (goodIn_of _ (by decide +kernel)) ggX9_behind_X9_addresses
theorem dX9_behind_0 : decode cX9_behind 0 = .ok (.aload_n 0, 1) := by decide +kernel
theorem dX9_behind_1 : decode cX9_behind 1 = .ok (.getfield 103, 3) := by decide +kernel
theorem dX9_behind_4 : decode cX9_behind 4 = .ok (.iload_n 1, 1) := by decide +kernel
theorem dX9_behind_5 : decode cX9_behind 5 = .ok (.iaload, 1) := by decide +kernel
theorem dX9_behind_6 : decode cX9_behind 6 = .ok (.aload_n 0, 1) := by decide +kernel
theorem dX9_behind_7 : decode cX9_behind 7 = .ok (.getfield 103, 3) := by decide +kernel
theorem dX9_behind_10 : decode cX9_behind 10 = .ok (.iload_n 2, 1) := by decide +kernel
theorem dX9_behind_11 : decode cX9_behind 11 = .ok (.iaload, 1) := by decide +kernel
theorem dX9_behind_12 : decode cX9_behind 12 = .ok (.if_icmp .eq 24, 3) := by decide +kernel
theorem dX9_behind_15 : decode cX9_behind 15 = .ok (.aload_n 0, 1) := by decide +kernel
theorem dX9_behind_16 : decode cX9_behind 16 = .ok (.getfield 103, 3) := by decide +kernel
theorem dX9_behind_19 : decode cX9_behind 19 = .ok (.iload_n 1, 1) := by decide +kernel
theorem dX9_behind_20 : decode cX9_behind 20 = .ok (.iaload, 1) := by decide +kernel
theorem dX9_behind_21 : decode cX9_behind 21 = .ok (.aload_n 0, 1) := by decide +kernel
theorem dX9_behind_22 : decode cX9_behind 22 = .ok (.getfield 103, 3) := by decide +kernel
theorem dX9_behind_25 : decode cX9_behind 25 = .ok (.iload_n 2, 1) := by decide +kernel
theorem dX9_behind_26 : decode cX9_behind 26 = .ok (.iaload, 1) := by decide +kernel
theorem dX9_behind_27 : decode cX9_behind 27 = .ok (.if_icmp .le 7, 3) := by decide +kernel
theorem dX9_behind_30 : decode cX9_behind 30 = .ok (.iconst 1, 1) := by decide +kernel
theorem dX9_behind_31 : decode cX9_behind 31 = .ok (.goto 4, 3) := by decide +kernel
theorem dX9_behind_34 : decode cX9_behind 34 = .ok (.iconst 0, 1) := by decide +kernel
theorem dX9_behind_35 : decode cX9_behind 35 = .ok (.ireturn, 1) := by decide +kernel
theorem dX9_behind_36 : decode cX9_behind 36 = .ok (.aload_n 0, 1) := by decide +kernel
theorem dX9_behind_37 : decode cX9_behind 37 = .ok (.aload_n 0, 1) := by decide +kernel
theorem dX9_behind_38 : decode cX9_behind 38 = .ok (.getfield 106, 3) := by decide +kernel
theorem dX9_behind_41 : decode cX9_behind 41 = .ok (.iload_n 1, 1) := by decide +kernel
theorem dX9_behind_42 : decode cX9_behind 42 = .ok (.iaload, 1) := by decide +kernel
theorem dX9_behind_43 : decode cX9_behind 43 = .ok (.aload_n 0, 1) := by decide +kernel
theorem dX9_behind_44 : decode cX9_behind 44 = .ok (.getfield 131, 3) := by decide +kernel
theorem dX9_behind_47 : decode cX9_behind 47 = .ok (.invokevirtual 282, 3) := by decide +kernel
theorem dX9_behind_50 : decode cX9_behind 50 = .ok (.aload_n 0, 1) := by decide +kernel
theorem dX9_behind_51 : decode cX9_behind 51 = .ok (.aload_n 0, 1) := by decide +kernel
theorem dX9_behind_52 : decode cX9_behind 52 = .ok (.getfield 106, 3) := by decide +kernel
theorem dX9_behind_55 : decode cX9_behind 55 = .ok (.iload_n 2, 1) := by decide +kernel
theorem dX9_behind_56 : decode cX9_behind 56 = .ok (.iaload, 1) := by decide +kernel
theorem dX9_behind_57 : decode cX9_behind 57 = .ok (.aload_n 0, 1) := by decide +kernel
theorem dX9_behind_58 : decode cX9_behind 58 = .ok (.getfield 134, 3) := by decide +kernel
theorem dX9_behind_61 : decode cX9_behind 61 = .ok (.invokevirtual 282, 3) := by decide +kernel
theorem dX9_behind_64 : decode cX9_behind 64 = .ok (.aload_n 0, 1) := by decide +kernel
theorem dX9_behind_65 : decode cX9_behind 65 = .ok (.getfield 94, 3) := by decide +kernel
theorem dX9_behind_68 : decode cX9_behind 68 = .ok (.aload_n 0, 1) := by decide +kernel
theorem dX9_behind_69 : decode cX9_behind 69 = .ok (.getfield 106, 3) := by decide +kernel
theorem dX9_behind_72 : decode cX9_behind 72 = .ok (.iload_n 1, 1) := by decide +kernel
theorem dX9_behind_73 : decode cX9_behind 73 = .ok (.iaload, 1) := by decide +kernel
theorem dX9_behind_74 : decode cX9_behind 74 = .ok (.iaload, 1) := by decide +kernel
theorem dX9_behind_75 : decode cX9_behind 75 = .ok (.istore_n 3, 1) := by decide +kernel
theorem dX9_behind_76 : decode cX9_behind 76 = .ok (.aload_n 0, 1) := by decide +kernel
theorem dX9_behind_77 : decode cX9_behind 77 = .ok (.getfield 94, 3) := by decide +kernel
theorem dX9_behind_80 : decode cX9_behind 80 = .ok (.aload_n 0, 1) := by decide +kernel
theorem dX9_behind_81 : decode cX9_behind 81 = .ok (.getfield 106, 3) := by decide +kernel
theorem dX9_behind_84 : decode cX9_behind 84 = .ok (.iload_n 2, 1) := by decide +kernel
theorem dX9_behind_85 : decode cX9_behind 85 = .ok (.iaload, 1) := by decide +kernel
theorem dX9_behind_86 : decode cX9_behind 86 = .ok (.iaload, 1) := by decide +kernel
theorem dX9_behind_87 : decode cX9_behind 87 = .ok (.istore 4, 2) := by decide +kernel
theorem dX9_behind_89 : decode cX9_behind 89 = .ok (.iconst 0, 1) := by decide +kernel
theorem dX9_behind_90 : decode cX9_behind 90 = .ok (.istore 5, 2) := by decide +kernel
theorem dX9_behind_92 : decode cX9_behind 92 = .ok (.iload 5, 2) := by decide +kernel
theorem dX9_behind_94 : decode cX9_behind 94 = .ok (.iload_n 3, 1) := by decide +kernel
theorem dX9_behind_95 : decode cX9_behind 95 = .ok (.if_icmp .ge 56, 3) := by decide +kernel
theorem dX9_behind_98 : decode cX9_behind 98 = .ok (.iload 5, 2) := by decide +kernel
theorem dX9_behind_100 : decode cX9_behind 100 = .ok (.iload 4, 2) := by decide +kernel
theorem dX9_behind_102 : decode cX9_behind 102 = .ok (.if_icmp .ge 49, 3) := by decide +kernel
theorem dX9_behind_105 : decode cX9_behind 105 = .ok (.aload_n 0, 1) := by decide +kernel
theorem dX9_behind_106 : decode cX9_behind 106 = .ok (.getfield 131, 3) := by decide +kernel
theorem dX9_behind_109 : decode cX9_behind 109 = .ok (.iload 5, 2) := by decide +kernel
theorem dX9_behind_111 : decode cX9_behind 111 = .ok (.iaload, 1) := by decide +kernel
theorem dX9_behind_112 : decode cX9_behind 112 = .ok (.aload_n 0, 1) := by decide +kernel
theorem dX9_behind_113 : decode cX9_behind 113 = .ok (.getfield 134, 3) := by decide +kernel
theorem dX9_behind_116 : decode cX9_behind 116 = .ok (.iload 5, 2) := by decide +kernel
theorem dX9_behind_118 : decode cX9_behind 118 = .ok (.iaload, 1) := by decide +kernel
theorem dX9_behind_119 : decode cX9_behind 119 = .ok (.if_icmp .eq 26, 3) := by decide +kernel
theorem dX9_behind_122 : decode cX9_behind 122 = .ok (.aload_n 0, 1) := by decide +kernel
theorem dX9_behind_123 : decode cX9_behind 123 = .ok (.getfield 131, 3) := by decide +kernel
theorem dX9_behind_126 : decode cX9_behind 126 = .ok (.iload 5, 2) := by decide +kernel
theorem dX9_behind_128 : decode cX9_behind 128 = .ok (.iaload, 1) := by decide +kernel
theorem dX9_behind_129 : decode cX9_behind 129 = .ok (.aload_n 0, 1) := by decide +kernel
theorem dX9_behind_130 : decode cX9_behind 130 = .ok (.getfield 134, 3) := by decide +kernel
theorem dX9_behind_133 : decode cX9_behind 133 = .ok (.iload 5, 2) := by decide +kernel
theorem dX9_behind_135 : decode cX9_behind 135 = .ok (.iaload, 1) := by decide +kernel
theorem dX9_behind_136 : decode cX9_behind 136 = .ok (.if_icmp .le 7, 3) := by decide +kernel
theorem dX9_behind_139 : decode cX9_behind 139 = .ok (.iconst 1, 1) := by decide +kernel
theorem dX9_behind_140 : decode cX9_behind 140 = .ok (.goto 4, 3) := by decide +kernel
theorem dX9_behind_143 : decode cX9_behind 143 = .ok (.iconst 0, 1) := by decide +kernel
theorem dX9_behind_144 : decode cX9_behind 144 = .ok (.ireturn, 1) := by decide +kernel
theorem dX9_behind_145 : decode cX9_behind 145 = .ok (.iinc 5 1, 3) := by decide +kernel
theorem dX9_behind_148 : decode cX9_behind 148 = .ok (.goto (-56), 3) := by decide +kernel
theorem dX9_behind_151 : decode cX9_behind 151 = .ok (.iload_n 3, 1) := by decide +kernel
theorem dX9_behind_152 : decode cX9_behind 152 = .ok (.iload 4, 2) := by decide +kernel
theorem dX9_behind_154 : decode cX9_behind 154 = .ok (.if_icmp .le 7, 3) := by decide +kernel
theorem dX9_behind_157 : decode cX9_behind 157 = .ok (.iconst 1, 1) := by decide +kernel
theorem dX9_behind_158 : decode cX9_behind 158 = .ok (.goto 4, 3) := by decide +kernel
theorem dX9_behind_161 : decode cX9_behind 161 = .ok (.iconst 0, 1) := by decide +kernel
theorem dX9_behind_162 : decode cX9_behind 162 = .ok (.ireturn, 1) := by decide +kernel
set_option maxRecDepth 20000 in
theorem ggX9_flows_X9_kindOf : GoodIn wsX9_flows wsX9_kindOf := goodIn_r _ [31, 32, 33, 34, 35] rfl (by decide +kernel)
set_option maxRecDepth 20000 in
theorem gX9_flows_X9_kindOf : GoodIn wsX9_flows (va_wsS RX9 221 yX9_kindOf wsX9_kindOf) := goodIn_app (goodIn_of _ (by decide +kernel)) ggX9_flows_X9_kindOf
set_option maxRecDepth 20000 in
theorem ggX9_flows_X9_places : GoodIn wsX9_flows wsX9_places := goodIn_r _ [38] rfl (by decide +kernel)
set_option maxRecDepth 20000 in
theorem gX9_flows_X9_places : GoodIn wsX9_flows (va_wsS RX9 228 yX9_places wsX9_places) := goodIn_app (goodIn_of _ (by decide +kernel)) ggX9_flows_X9_places
def ckX9_flows : List (List Cond) := [[.code yX9_flows cX9_flows 4 (some .boolean)], wsX9_flows_r1, wsX9_flows_r2, wsX9_flows_r3, wsX9_flows_r4, wsX9_flows_r5, wsX9_flows_r6, wsX9_flows_r7, wsX9_flows_r8, wsX9_flows_r9, wsX90]
theorem ckX9_flowsl : wsX9_flows = ckX9_flows.flatten := by
  simp only [wsX9_flows, ckX9_flows, List.flatten_cons, List.flatten_nil, List.append_assoc, List.append_nil, List.cons_append, List.nil_append]
set_option maxRecDepth 20000 in
theorem ggX9_flows_X9_comes : GoodIn wsX9_flows wsX9_comes := goodIn_t ckX9_flows ckX9_flowsl _ [(2, 17), (1, 2), (2, 2), (2, 18), (1, 12), (1, 15), (2, 19), (2, 1), (2, 0), (2, 20), (1, 17), (1, 16), (2, 21), (1, 20), (2, 22), (2, 23), (3, 0), (2, 5), (3, 1), (3, 2), (3, 3), (3, 4), (3, 5), (3, 6), (3, 7), (3, 8), (3, 9), (1, 23), (1, 13), (1, 14), (3, 10), (3, 11), (3, 12), (3, 13), (3, 14), (3, 15), (3, 16), (3, 17), (2, 8), (3, 18), (3, 19), (2, 7), (3, 20), (3, 21), (3, 22), (3, 23), (4, 0), (4, 1), (4, 2), (4, 3), (4, 4), (10, 0), (10, 1), (10, 2), (10, 3), (10, 4), (10, 5), (10, 6), (10, 7), (10, 8), (10, 9), (10, 10), (10, 11), (10, 12), (10, 13), (10, 14), (10, 15), (10, 16), (10, 17), (10, 18), (10, 19), (10, 20), (10, 21), (10, 22), (10, 23), (10, 24), (10, 25), (10, 26), (10, 27), (10, 28), (10, 29), (10, 30), (10, 31), (10, 32), (10, 33), (10, 34), (10, 35), (10, 36), (10, 37), (10, 38), (10, 39), (10, 40), (10, 41), (10, 42), (10, 43), (10, 44), (10, 45), (10, 46), (10, 47), (10, 48), (10, 49), (10, 50), (10, 51), (10, 52), (10, 53), (10, 54), (10, 55), (10, 56), (10, 57), (10, 58), (10, 59), (10, 60), (10, 61)] rfl (by decide +kernel)
set_option maxRecDepth 20000 in
theorem gX9_flows_X9_comes : GoodIn wsX9_flows (wsV RX9 286 RX9 yX9_comes wsX9_comes) := goodIn_app (goodIn_of _ (by decide +kernel)) ggX9_flows_X9_comes
set_option maxRecDepth 20000 in
theorem ggX9_flows_X9_size : GoodIn wsX9_flows wsX9_size := goodIn_t ckX9_flows ckX9_flowsl _ [(3, 1), (1, 15), (2, 19), (10, 0), (10, 1), (10, 2), (10, 3), (10, 4), (10, 5), (10, 6), (10, 7), (10, 8), (10, 9), (10, 10), (10, 11), (10, 12), (10, 13), (10, 14), (10, 15), (10, 16), (10, 17), (10, 18), (10, 19), (10, 20), (10, 21), (10, 22), (10, 23), (10, 24), (10, 25), (10, 26), (10, 27), (10, 28), (10, 29), (10, 30), (10, 31), (10, 32), (10, 33), (10, 34), (10, 35), (10, 36), (10, 37), (10, 38), (10, 39), (10, 40), (10, 41), (10, 42), (10, 43), (10, 44), (10, 45), (10, 46), (10, 47), (10, 48), (10, 49), (10, 50), (10, 51), (10, 52), (10, 53), (10, 54), (10, 55), (10, 56), (10, 57), (10, 58), (10, 59), (10, 60), (10, 61)] rfl (by decide +kernel)
set_option maxRecDepth 20000 in
theorem gX9_flows_X9_size : GoodIn wsX9_flows (wsV RX9 241 RX9 yX9_size wsX9_size) := goodIn_app (goodIn_of _ (by decide +kernel)) ggX9_flows_X9_size
set_option maxRecDepth 20000 in
theorem ggX9_flows_X9_take : GoodIn wsX9_flows wsX9_take := goodIn_t ckX9_flows ckX9_flowsl _ [(4, 8), (1, 15), (1, 16), (2, 20), (2, 19), (1, 17), (2, 21), (1, 20), (10, 0), (10, 1), (10, 2), (10, 3), (10, 4), (10, 5), (10, 6), (10, 7), (10, 8), (10, 9), (10, 10), (10, 11), (10, 12), (10, 13), (10, 14), (10, 15), (10, 16), (10, 17), (10, 18), (10, 19), (10, 20), (10, 21), (10, 22), (10, 23), (10, 24), (10, 25), (10, 26), (10, 27), (10, 28), (10, 29), (10, 30), (10, 31), (10, 32), (10, 33), (10, 34), (10, 35), (10, 36), (10, 37), (10, 38), (10, 39), (10, 40), (10, 41), (10, 42), (10, 43), (10, 44), (10, 45), (10, 46), (10, 47), (10, 48), (10, 49), (10, 50), (10, 51), (10, 52), (10, 53), (10, 54), (10, 55), (10, 56), (10, 57), (10, 58), (10, 59), (10, 60), (10, 61)] rfl (by decide +kernel)
set_option maxRecDepth 20000 in
theorem gX9_flows_X9_take : GoodIn wsX9_flows (wsV RX9 289 RX9 yX9_take wsX9_take) := goodIn_app (goodIn_of _ (by decide +kernel)) ggX9_flows_X9_take
set_option maxRecDepth 20000 in
theorem ggX9_flows_X9_goes : GoodIn wsX9_flows wsX9_goes := goodIn_t ckX9_flows ckX9_flowsl _ [(4, 12), (1, 8), (4, 13), (4, 14), (4, 15), (2, 19), (1, 17), (2, 21), (1, 9), (1, 3), (4, 16), (4, 17), (4, 18), (1, 0), (1, 4), (1, 16), (1, 5), (1, 6), (1, 7), (1, 1), (4, 1), (4, 2), (4, 3), (2, 5), (4, 4), (3, 19), (2, 14), (2, 15), (2, 16), (2, 17), (1, 2), (2, 2), (2, 18), (1, 12), (1, 15), (2, 1), (2, 0), (2, 20), (1, 20), (2, 22), (2, 23), (3, 0), (3, 1), (3, 2), (3, 3), (3, 4), (3, 5), (3, 6), (3, 7), (3, 8), (3, 9), (1, 23), (1, 13), (1, 14), (3, 10), (3, 11), (3, 12), (3, 13), (3, 14), (3, 15), (3, 16), (3, 17), (2, 8), (3, 18), (2, 7), (3, 20), (3, 21), (3, 22), (3, 23), (4, 0), (4, 19), (4, 20), (4, 21), (4, 22), (4, 23), (5, 0), (5, 1), (5, 2), (1, 10), (5, 3), (1, 11), (5, 4), (5, 5), (5, 6), (5, 7), (5, 8), (5, 9), (2, 3), (2, 4), (2, 6), (2, 9), (2, 10), (5, 10), (5, 11), (5, 12), (5, 13), (5, 14), (5, 15), (5, 16), (5, 17), (2, 11), (2, 12), (2, 13), (5, 18), (5, 19), (5, 20), (5, 21), (5, 22), (5, 23), (6, 0), (6, 1), (6, 2), (6, 3), (6, 4), (6, 5), (6, 6), (6, 7), (6, 8), (6, 9), (6, 10), (6, 11), (6, 12), (6, 13), (6, 14), (6, 15), (6, 16), (6, 17), (6, 18), (6, 19), (6, 20), (6, 21), (6, 22), (6, 23), (7, 0), (7, 1), (7, 2), (7, 3), (7, 4), (7, 5), (7, 6), (7, 7), (7, 8), (7, 9), (7, 10), (7, 11), (7, 12), (7, 13), (7, 14), (7, 15), (7, 16), (7, 17), (7, 18), (7, 19), (7, 20), (7, 21), (7, 22), (7, 23), (8, 0), (8, 1), (8, 2), (8, 3), (8, 4), (8, 5), (8, 6), (8, 7), (8, 8), (8, 9), (8, 10), (8, 11), (8, 12), (1, 18), (8, 13), (8, 14), (8, 15), (8, 16), (8, 17), (8, 18), (1, 19), (8, 19), (8, 20), (8, 21), (8, 22), (8, 23), (9, 0), (9, 1), (9, 2), (9, 3), (9, 4), (9, 5), (9, 6), (9, 7), (10, 0), (10, 1), (10, 2), (10, 3), (10, 4), (10, 5), (10, 6), (10, 7), (10, 8), (10, 9), (10, 10), (10, 11), (10, 12), (10, 13), (10, 14), (10, 15), (10, 16), (10, 17), (10, 18), (10, 19), (10, 20), (10, 21), (10, 22), (10, 23), (10, 24), (10, 25), (10, 26), (10, 27), (10, 28), (10, 29), (10, 30), (10, 31), (10, 32), (10, 33), (10, 34), (10, 35), (10, 36), (10, 37), (10, 38), (10, 39), (10, 40), (10, 41), (10, 42), (10, 43), (10, 44), (10, 45), (10, 46), (10, 47), (10, 48), (10, 49), (10, 50), (10, 51), (10, 52), (10, 53), (10, 54), (10, 55), (10, 56), (10, 57), (10, 58), (10, 59), (10, 60), (10, 61)] rfl (by decide +kernel)
set_option maxRecDepth 20000 in
theorem gX9_flows_X9_goes : GoodIn wsX9_flows (wsV RX9 292 RX9 yX9_goes wsX9_goes) := goodIn_app (goodIn_of _ (by decide +kernel)) ggX9_flows_X9_goes
theorem dX9_flows_0 : decode cX9_flows 0 = .ok (.iconst 0, 1) := by decide +kernel
theorem dX9_flows_1 : decode cX9_flows 1 = .ok (.istore_n 1, 1) := by decide +kernel
theorem dX9_flows_2 : decode cX9_flows 2 = .ok (.iload_n 1, 1) := by decide +kernel
theorem dX9_flows_3 : decode cX9_flows 3 = .ok (.aload_n 0, 1) := by decide +kernel
theorem dX9_flows_4 : decode cX9_flows 4 = .ok (.getfield 179, 3) := by decide +kernel
theorem dX9_flows_7 : decode cX9_flows 7 = .ok (.if_icmp .gt 23, 3) := by decide +kernel
theorem dX9_flows_10 : decode cX9_flows 10 = .ok (.aload_n 0, 1) := by decide +kernel
theorem dX9_flows_11 : decode cX9_flows 11 = .ok (.getfield 124, 3) := by decide +kernel
theorem dX9_flows_14 : decode cX9_flows 14 = .ok (.iload_n 1, 1) := by decide +kernel
theorem dX9_flows_15 : decode cX9_flows 15 = .ok (.iconst 0, 1) := by decide +kernel
theorem dX9_flows_16 : decode cX9_flows 16 = .ok (.bastore, 1) := by decide +kernel
theorem dX9_flows_17 : decode cX9_flows 17 = .ok (.aload_n 0, 1) := by decide +kernel
theorem dX9_flows_18 : decode cX9_flows 18 = .ok (.getfield 112, 3) := by decide +kernel
theorem dX9_flows_21 : decode cX9_flows 21 = .ok (.iload_n 1, 1) := by decide +kernel
theorem dX9_flows_22 : decode cX9_flows 22 = .ok (.iconst (-1), 1) := by decide +kernel
theorem dX9_flows_23 : decode cX9_flows 23 = .ok (.iastore, 1) := by decide +kernel
theorem dX9_flows_24 : decode cX9_flows 24 = .ok (.iinc 1 1, 3) := by decide +kernel
theorem dX9_flows_27 : decode cX9_flows 27 = .ok (.goto (-25), 3) := by decide +kernel
theorem dX9_flows_30 : decode cX9_flows 30 = .ok (.aload_n 0, 1) := by decide +kernel
theorem dX9_flows_31 : decode cX9_flows 31 = .ok (.getfield 124, 3) := by decide +kernel
theorem dX9_flows_34 : decode cX9_flows 34 = .ok (.iconst 0, 1) := by decide +kernel
theorem dX9_flows_35 : decode cX9_flows 35 = .ok (.iconst 1, 1) := by decide +kernel
theorem dX9_flows_36 : decode cX9_flows 36 = .ok (.bastore, 1) := by decide +kernel
theorem dX9_flows_37 : decode cX9_flows 37 = .ok (.iconst 0, 1) := by decide +kernel
theorem dX9_flows_38 : decode cX9_flows 38 = .ok (.istore_n 1, 1) := by decide +kernel
theorem dX9_flows_39 : decode cX9_flows 39 = .ok (.iload_n 1, 1) := by decide +kernel
theorem dX9_flows_40 : decode cX9_flows 40 = .ok (.aload_n 0, 1) := by decide +kernel
theorem dX9_flows_41 : decode cX9_flows 41 = .ok (.getfield 179, 3) := by decide +kernel
theorem dX9_flows_44 : decode cX9_flows 44 = .ok (.if_icmp .ge 123, 3) := by decide +kernel
theorem dX9_flows_47 : decode cX9_flows 47 = .ok (.aload_n 0, 1) := by decide +kernel
theorem dX9_flows_48 : decode cX9_flows 48 = .ok (.getfield 51, 3) := by decide +kernel
theorem dX9_flows_51 : decode cX9_flows 51 = .ok (.iload_n 1, 1) := by decide +kernel
theorem dX9_flows_52 : decode cX9_flows 52 = .ok (.iaload, 1) := by decide +kernel
theorem dX9_flows_53 : decode cX9_flows 53 = .ok (.istore_n 2, 1) := by decide +kernel
theorem dX9_flows_54 : decode cX9_flows 54 = .ok (.iload_n 2, 1) := by decide +kernel
theorem dX9_flows_55 : decode cX9_flows 55 = .ok (.sipush 153, 3) := by decide +kernel
theorem dX9_flows_58 : decode cX9_flows 58 = .ok (.if_icmp .lt 10, 3) := by decide +kernel
theorem dX9_flows_61 : decode cX9_flows 61 = .ok (.iload_n 2, 1) := by decide +kernel
theorem dX9_flows_62 : decode cX9_flows 62 = .ok (.sipush 168, 3) := by decide +kernel
theorem dX9_flows_65 : decode cX9_flows 65 = .ok (.if_icmp .le 17, 3) := by decide +kernel
theorem dX9_flows_68 : decode cX9_flows 68 = .ok (.iload_n 2, 1) := by decide +kernel
theorem dX9_flows_69 : decode cX9_flows 69 = .ok (.sipush 198, 3) := by decide +kernel
theorem dX9_flows_72 : decode cX9_flows 72 = .ok (.if_icmp .eq 10, 3) := by decide +kernel
theorem dX9_flows_75 : decode cX9_flows 75 = .ok (.iload_n 2, 1) := by decide +kernel
theorem dX9_flows_76 : decode cX9_flows 76 = .ok (.sipush 199, 3) := by decide +kernel
theorem dX9_flows_79 : decode cX9_flows 79 = .ok (.if_icmp .ne 15, 3) := by decide +kernel
theorem dX9_flows_82 : decode cX9_flows 82 = .ok (.aload_n 0, 1) := by decide +kernel
theorem dX9_flows_83 : decode cX9_flows 83 = .ok (.getfield 124, 3) := by decide +kernel
theorem dX9_flows_86 : decode cX9_flows 86 = .ok (.aload_n 0, 1) := by decide +kernel
theorem dX9_flows_87 : decode cX9_flows 87 = .ok (.getfield 54, 3) := by decide +kernel
theorem dX9_flows_90 : decode cX9_flows 90 = .ok (.iload_n 1, 1) := by decide +kernel
theorem dX9_flows_91 : decode cX9_flows 91 = .ok (.iaload, 1) := by decide +kernel
theorem dX9_flows_92 : decode cX9_flows 92 = .ok (.iconst 1, 1) := by decide +kernel
theorem dX9_flows_93 : decode cX9_flows 93 = .ok (.bastore, 1) := by decide +kernel
theorem dX9_flows_94 : decode cX9_flows 94 = .ok (.iload_n 2, 1) := by decide +kernel
theorem dX9_flows_95 : decode cX9_flows 95 = .ok (.sipush 168, 3) := by decide +kernel
theorem dX9_flows_98 : decode cX9_flows 98 = .ok (.if_icmp .ne 12, 3) := by decide +kernel
theorem dX9_flows_101 : decode cX9_flows 101 = .ok (.aload_n 0, 1) := by decide +kernel
theorem dX9_flows_102 : decode cX9_flows 102 = .ok (.getfield 124, 3) := by decide +kernel
theorem dX9_flows_105 : decode cX9_flows 105 = .ok (.iload_n 1, 1) := by decide +kernel
theorem dX9_flows_106 : decode cX9_flows 106 = .ok (.iconst 1, 1) := by decide +kernel
theorem dX9_flows_107 : decode cX9_flows 107 = .ok (.iadd, 1) := by decide +kernel
theorem dX9_flows_108 : decode cX9_flows 108 = .ok (.iconst 1, 1) := by decide +kernel
theorem dX9_flows_109 : decode cX9_flows 109 = .ok (.bastore, 1) := by decide +kernel
theorem dX9_flows_110 : decode cX9_flows 110 = .ok (.iload_n 2, 1) := by decide +kernel
theorem dX9_flows_111 : decode cX9_flows 111 = .ok (.sipush 170, 3) := by decide +kernel
theorem dX9_flows_114 : decode cX9_flows 114 = .ok (.if_icmp .eq 10, 3) := by decide +kernel
theorem dX9_flows_117 : decode cX9_flows 117 = .ok (.iload_n 2, 1) := by decide +kernel
theorem dX9_flows_118 : decode cX9_flows 118 = .ok (.sipush 171, 3) := by decide +kernel
theorem dX9_flows_121 : decode cX9_flows 121 = .ok (.if_icmp .ne 40, 3) := by decide +kernel
theorem dX9_flows_124 : decode cX9_flows 124 = .ok (.iconst 0, 1) := by decide +kernel
theorem dX9_flows_125 : decode cX9_flows 125 = .ok (.istore_n 3, 1) := by decide +kernel
theorem dX9_flows_126 : decode cX9_flows 126 = .ok (.iload_n 3, 1) := by decide +kernel
theorem dX9_flows_127 : decode cX9_flows 127 = .ok (.aload_n 0, 1) := by decide +kernel
theorem dX9_flows_128 : decode cX9_flows 128 = .ok (.getfield 63, 3) := by decide +kernel
theorem dX9_flows_131 : decode cX9_flows 131 = .ok (.iload_n 1, 1) := by decide +kernel
theorem dX9_flows_132 : decode cX9_flows 132 = .ok (.iaload, 1) := by decide +kernel
theorem dX9_flows_133 : decode cX9_flows 133 = .ok (.if_icmp .ge 28, 3) := by decide +kernel
theorem dX9_flows_136 : decode cX9_flows 136 = .ok (.aload_n 0, 1) := by decide +kernel
theorem dX9_flows_137 : decode cX9_flows 137 = .ok (.getfield 124, 3) := by decide +kernel
theorem dX9_flows_140 : decode cX9_flows 140 = .ok (.aload_n 0, 1) := by decide +kernel
theorem dX9_flows_141 : decode cX9_flows 141 = .ok (.getfield 67, 3) := by decide +kernel
theorem dX9_flows_144 : decode cX9_flows 144 = .ok (.aload_n 0, 1) := by decide +kernel
theorem dX9_flows_145 : decode cX9_flows 145 = .ok (.getfield 60, 3) := by decide +kernel
theorem dX9_flows_148 : decode cX9_flows 148 = .ok (.iload_n 1, 1) := by decide +kernel
theorem dX9_flows_149 : decode cX9_flows 149 = .ok (.iaload, 1) := by decide +kernel
theorem dX9_flows_150 : decode cX9_flows 150 = .ok (.iload_n 3, 1) := by decide +kernel
theorem dX9_flows_151 : decode cX9_flows 151 = .ok (.iadd, 1) := by decide +kernel
theorem dX9_flows_152 : decode cX9_flows 152 = .ok (.iaload, 1) := by decide +kernel
theorem dX9_flows_153 : decode cX9_flows 153 = .ok (.iconst 1, 1) := by decide +kernel
theorem dX9_flows_154 : decode cX9_flows 154 = .ok (.bastore, 1) := by decide +kernel
theorem dX9_flows_155 : decode cX9_flows 155 = .ok (.iinc 3 1, 3) := by decide +kernel
theorem dX9_flows_158 : decode cX9_flows 158 = .ok (.goto (-32), 3) := by decide +kernel
theorem dX9_flows_161 : decode cX9_flows 161 = .ok (.iinc 1 1, 3) := by decide +kernel
theorem dX9_flows_164 : decode cX9_flows 164 = .ok (.goto (-125), 3) := by decide +kernel
theorem dX9_flows_167 : decode cX9_flows 167 = .ok (.iconst 0, 1) := by decide +kernel
theorem dX9_flows_168 : decode cX9_flows 168 = .ok (.istore_n 1, 1) := by decide +kernel
theorem dX9_flows_169 : decode cX9_flows 169 = .ok (.iload_n 1, 1) := by decide +kernel
theorem dX9_flows_170 : decode cX9_flows 170 = .ok (.aload_n 0, 1) := by decide +kernel
theorem dX9_flows_171 : decode cX9_flows 171 = .ok (.getfield 182, 3) := by decide +kernel
theorem dX9_flows_174 : decode cX9_flows 174 = .ok (.if_icmp .ge 21, 3) := by decide +kernel
theorem dX9_flows_177 : decode cX9_flows 177 = .ok (.aload_n 0, 1) := by decide +kernel
theorem dX9_flows_178 : decode cX9_flows 178 = .ok (.getfield 124, 3) := by decide +kernel
theorem dX9_flows_181 : decode cX9_flows 181 = .ok (.aload_n 0, 1) := by decide +kernel
theorem dX9_flows_182 : decode cX9_flows 182 = .ok (.getfield 76, 3) := by decide +kernel
theorem dX9_flows_185 : decode cX9_flows 185 = .ok (.iload_n 1, 1) := by decide +kernel
theorem dX9_flows_186 : decode cX9_flows 186 = .ok (.iaload, 1) := by decide +kernel
theorem dX9_flows_187 : decode cX9_flows 187 = .ok (.iconst 1, 1) := by decide +kernel
theorem dX9_flows_188 : decode cX9_flows 188 = .ok (.bastore, 1) := by decide +kernel
theorem dX9_flows_189 : decode cX9_flows 189 = .ok (.iinc 1 1, 3) := by decide +kernel
theorem dX9_flows_192 : decode cX9_flows 192 = .ok (.goto (-23), 3) := by decide +kernel
theorem dX9_flows_195 : decode cX9_flows 195 = .ok (.iconst 0, 1) := by decide +kernel
theorem dX9_flows_196 : decode cX9_flows 196 = .ok (.istore_n 1, 1) := by decide +kernel
theorem dX9_flows_197 : decode cX9_flows 197 = .ok (.iload_n 1, 1) := by decide +kernel
theorem dX9_flows_198 : decode cX9_flows 198 = .ok (.sipush 1024, 3) := by decide +kernel
theorem dX9_flows_201 : decode cX9_flows 201 = .ok (.if_icmp .ge 16, 3) := by decide +kernel
theorem dX9_flows_204 : decode cX9_flows 204 = .ok (.aload_n 0, 1) := by decide +kernel
theorem dX9_flows_205 : decode cX9_flows 205 = .ok (.getfield 100, 3) := by decide +kernel
theorem dX9_flows_208 : decode cX9_flows 208 = .ok (.iload_n 1, 1) := by decide +kernel
theorem dX9_flows_209 : decode cX9_flows 209 = .ok (.iconst 0, 1) := by decide +kernel
theorem dX9_flows_210 : decode cX9_flows 210 = .ok (.iastore, 1) := by decide +kernel
theorem dX9_flows_211 : decode cX9_flows 211 = .ok (.iinc 1 1, 3) := by decide +kernel
theorem dX9_flows_214 : decode cX9_flows 214 = .ok (.goto (-17), 3) := by decide +kernel
theorem dX9_flows_217 : decode cX9_flows 217 = .ok (.aload_n 0, 1) := by decide +kernel
theorem dX9_flows_218 : decode cX9_flows 218 = .ok (.iconst 1, 1) := by decide +kernel
theorem dX9_flows_219 : decode cX9_flows 219 = .ok (.putfield 235, 3) := by decide +kernel
theorem dX9_flows_222 : decode cX9_flows 222 = .ok (.aload_n 0, 1) := by decide +kernel
theorem dX9_flows_223 : decode cX9_flows 223 = .ok (.iconst 0, 1) := by decide +kernel
theorem dX9_flows_224 : decode cX9_flows 224 = .ok (.putfield 238, 3) := by decide +kernel
theorem dX9_flows_227 : decode cX9_flows 227 = .ok (.aload_n 0, 1) := by decide +kernel
theorem dX9_flows_228 : decode cX9_flows 228 = .ok (.iconst 0, 1) := by decide +kernel
theorem dX9_flows_229 : decode cX9_flows 229 = .ok (.putfield 254, 3) := by decide +kernel
theorem dX9_flows_232 : decode cX9_flows 232 = .ok (.aload_n 0, 1) := by decide +kernel
theorem dX9_flows_233 : decode cX9_flows 233 = .ok (.iconst 0, 1) := by decide +kernel
theorem dX9_flows_234 : decode cX9_flows 234 = .ok (.putfield 257, 3) := by decide +kernel
theorem dX9_flows_237 : decode cX9_flows 237 = .ok (.iconst 0, 1) := by decide +kernel
theorem dX9_flows_238 : decode cX9_flows 238 = .ok (.istore_n 1, 1) := by decide +kernel
theorem dX9_flows_239 : decode cX9_flows 239 = .ok (.iload_n 1, 1) := by decide +kernel
theorem dX9_flows_240 : decode cX9_flows 240 = .ok (.aload_n 0, 1) := by decide +kernel
theorem dX9_flows_241 : decode cX9_flows 241 = .ok (.getfield 170, 3) := by decide +kernel
theorem dX9_flows_244 : decode cX9_flows 244 = .ok (.if_icmp .ge 16, 3) := by decide +kernel
theorem dX9_flows_247 : decode cX9_flows 247 = .ok (.aload_n 0, 1) := by decide +kernel
theorem dX9_flows_248 : decode cX9_flows 248 = .ok (.getfield 82, 3) := by decide +kernel
theorem dX9_flows_251 : decode cX9_flows 251 = .ok (.iload_n 1, 1) := by decide +kernel
theorem dX9_flows_252 : decode cX9_flows 252 = .ok (.iconst 0, 1) := by decide +kernel
theorem dX9_flows_253 : decode cX9_flows 253 = .ok (.iastore, 1) := by decide +kernel
theorem dX9_flows_254 : decode cX9_flows 254 = .ok (.iinc 1 1, 3) := by decide +kernel
theorem dX9_flows_257 : decode cX9_flows 257 = .ok (.goto (-18), 3) := by decide +kernel
theorem dX9_flows_260 : decode cX9_flows 260 = .ok (.aload_n 0, 1) := by decide +kernel
theorem dX9_flows_261 : decode cX9_flows 261 = .ok (.iconst 0, 1) := by decide +kernel
theorem dX9_flows_262 : decode cX9_flows 262 = .ok (.putfield 215, 3) := by decide +kernel
theorem dX9_flows_265 : decode cX9_flows 265 = .ok (.aload_n 0, 1) := by decide +kernel
theorem dX9_flows_266 : decode cX9_flows 266 = .ok (.aload_n 0, 1) := by decide +kernel
theorem dX9_flows_267 : decode cX9_flows 267 = .ok (.getfield 167, 3) := by decide +kernel
theorem dX9_flows_270 : decode cX9_flows 270 = .ok (.iconst 2, 1) := by decide +kernel
theorem dX9_flows_271 : decode cX9_flows 271 = .ok (.if_icmp .ne 14, 3) := by decide +kernel
theorem dX9_flows_274 : decode cX9_flows 274 = .ok (.aload_n 0, 1) := by decide +kernel
theorem dX9_flows_275 : decode cX9_flows 275 = .ok (.getfield 164, 3) := by decide +kernel
theorem dX9_flows_278 : decode cX9_flows 278 = .ok (.ifCond .ne 7, 3) := by decide +kernel
theorem dX9_flows_281 : decode cX9_flows 281 = .ok (.iconst 1, 1) := by decide +kernel
theorem dX9_flows_282 : decode cX9_flows 282 = .ok (.goto 4, 3) := by decide +kernel
theorem dX9_flows_285 : decode cX9_flows 285 = .ok (.iconst 0, 1) := by decide +kernel
theorem dX9_flows_286 : decode cX9_flows 286 = .ok (.putfield 231, 3) := by decide +kernel
theorem dX9_flows_289 : decode cX9_flows 289 = .ok (.iconst 0, 1) := by decide +kernel
theorem dX9_flows_290 : decode cX9_flows 290 = .ok (.istore_n 1, 1) := by decide +kernel
theorem dX9_flows_291 : decode cX9_flows 291 = .ok (.aload_n 0, 1) := by decide +kernel
theorem dX9_flows_292 : decode cX9_flows 292 = .ok (.getfield 167, 3) := by decide +kernel
theorem dX9_flows_295 : decode cX9_flows 295 = .ok (.ifCond .eq 42, 3) := by decide +kernel
theorem dX9_flows_298 : decode cX9_flows 298 = .ok (.aload_n 0, 1) := by decide +kernel
theorem dX9_flows_299 : decode cX9_flows 299 = .ok (.getfield 82, 3) := by decide +kernel
theorem dX9_flows_302 : decode cX9_flows 302 = .ok (.iload_n 1, 1) := by decide +kernel
theorem dX9_flows_303 : decode cX9_flows 303 = .ok (.iinc 1 1, 3) := by decide +kernel
theorem dX9_flows_306 : decode cX9_flows 306 = .ok (.aload_n 0, 1) := by decide +kernel
theorem dX9_flows_307 : decode cX9_flows 307 = .ok (.getfield 167, 3) := by decide +kernel
theorem dX9_flows_310 : decode cX9_flows 310 = .ok (.iconst 2, 1) := by decide +kernel
theorem dX9_flows_311 : decode cX9_flows 311 = .ok (.if_icmp .ne 15, 3) := by decide +kernel
theorem dX9_flows_314 : decode cX9_flows 314 = .ok (.aload_n 0, 1) := by decide +kernel
theorem dX9_flows_315 : decode cX9_flows 315 = .ok (.getfield 164, 3) := by decide +kernel
theorem dX9_flows_318 : decode cX9_flows 318 = .ok (.ifCond .eq 8, 3) := by decide +kernel
theorem dX9_flows_321 : decode cX9_flows 321 = .ok (.bipush 6, 2) := by decide +kernel
theorem dX9_flows_323 : decode cX9_flows 323 = .ok (.goto 13, 3) := by decide +kernel
theorem dX9_flows_326 : decode cX9_flows 326 = .ok (.bipush 16, 2) := by decide +kernel
theorem dX9_flows_328 : decode cX9_flows 328 = .ok (.aload_n 0, 1) := by decide +kernel
theorem dX9_flows_329 : decode cX9_flows 329 = .ok (.getfield 164, 3) := by decide +kernel
theorem dX9_flows_332 : decode cX9_flows 332 = .ok (.imul, 1) := by decide +kernel
theorem dX9_flows_333 : decode cX9_flows 333 = .ok (.bipush 8, 2) := by decide +kernel
theorem dX9_flows_335 : decode cX9_flows 335 = .ok (.iadd, 1) := by decide +kernel
theorem dX9_flows_336 : decode cX9_flows 336 = .ok (.iastore, 1) := by decide +kernel
theorem dX9_flows_337 : decode cX9_flows 337 = .ok (.iconst 0, 1) := by decide +kernel
theorem dX9_flows_338 : decode cX9_flows 338 = .ok (.istore_n 2, 1) := by decide +kernel
theorem dX9_flows_339 : decode cX9_flows 339 = .ok (.iload_n 2, 1) := by decide +kernel
theorem dX9_flows_340 : decode cX9_flows 340 = .ok (.aload_n 0, 1) := by decide +kernel
theorem dX9_flows_341 : decode cX9_flows 341 = .ok (.getfield 176, 3) := by decide +kernel
theorem dX9_flows_344 : decode cX9_flows 344 = .ok (.if_icmp .ge 48, 3) := by decide +kernel
theorem dX9_flows_347 : decode cX9_flows 347 = .ok (.aload_n 0, 1) := by decide +kernel
theorem dX9_flows_348 : decode cX9_flows 348 = .ok (.getfield 48, 3) := by decide +kernel
theorem dX9_flows_351 : decode cX9_flows 351 = .ok (.iload_n 2, 1) := by decide +kernel
theorem dX9_flows_352 : decode cX9_flows 352 = .ok (.iaload, 1) := by decide +kernel
theorem dX9_flows_353 : decode cX9_flows 353 = .ok (.invokestatic 221, 3) := by decide +kernel
theorem dX9_flows_356 : decode cX9_flows 356 = .ok (.istore_n 3, 1) := by decide +kernel
theorem dX9_flows_357 : decode cX9_flows 357 = .ok (.aload_n 0, 1) := by decide +kernel
theorem dX9_flows_358 : decode cX9_flows 358 = .ok (.getfield 82, 3) := by decide +kernel
theorem dX9_flows_361 : decode cX9_flows 361 = .ok (.iload_n 1, 1) := by decide +kernel
theorem dX9_flows_362 : decode cX9_flows 362 = .ok (.iinc 1 1, 3) := by decide +kernel
theorem dX9_flows_365 : decode cX9_flows 365 = .ok (.iload_n 3, 1) := by decide +kernel
theorem dX9_flows_366 : decode cX9_flows 366 = .ok (.iastore, 1) := by decide +kernel
theorem dX9_flows_367 : decode cX9_flows 367 = .ok (.iload_n 3, 1) := by decide +kernel
theorem dX9_flows_368 : decode cX9_flows 368 = .ok (.invokestatic 228, 3) := by decide +kernel
theorem dX9_flows_371 : decode cX9_flows 371 = .ok (.iconst 2, 1) := by decide +kernel
theorem dX9_flows_372 : decode cX9_flows 372 = .ok (.if_icmp .ne 14, 3) := by decide +kernel
theorem dX9_flows_375 : decode cX9_flows 375 = .ok (.aload_n 0, 1) := by decide +kernel
theorem dX9_flows_376 : decode cX9_flows 376 = .ok (.getfield 82, 3) := by decide +kernel
theorem dX9_flows_379 : decode cX9_flows 379 = .ok (.iload_n 1, 1) := by decide +kernel
theorem dX9_flows_380 : decode cX9_flows 380 = .ok (.iinc 1 1, 3) := by decide +kernel
theorem dX9_flows_383 : decode cX9_flows 383 = .ok (.bipush 7, 2) := by decide +kernel
theorem dX9_flows_385 : decode cX9_flows 385 = .ok (.iastore, 1) := by decide +kernel
theorem dX9_flows_386 : decode cX9_flows 386 = .ok (.iinc 2 1, 3) := by decide +kernel
theorem dX9_flows_389 : decode cX9_flows 389 = .ok (.goto (-50), 3) := by decide +kernel
theorem dX9_flows_392 : decode cX9_flows 392 = .ok (.aload_n 0, 1) := by decide +kernel
theorem dX9_flows_393 : decode cX9_flows 393 = .ok (.iconst 0, 1) := by decide +kernel
theorem dX9_flows_394 : decode cX9_flows 394 = .ok (.iconst 0, 1) := by decide +kernel
theorem dX9_flows_395 : decode cX9_flows 395 = .ok (.invokevirtual 286, 3) := by decide +kernel
theorem dX9_flows_398 : decode cX9_flows 398 = .ok (.ifCond .ne 5, 3) := by decide +kernel
theorem dX9_flows_401 : decode cX9_flows 401 = .ok (.iconst 0, 1) := by decide +kernel
theorem dX9_flows_402 : decode cX9_flows 402 = .ok (.ireturn, 1) := by decide +kernel
theorem dX9_flows_403 : decode cX9_flows 403 = .ok (.aload_n 0, 1) := by decide +kernel
theorem dX9_flows_404 : decode cX9_flows 404 = .ok (.getfield 257, 3) := by decide +kernel
theorem dX9_flows_407 : decode cX9_flows 407 = .ok (.ifCond .le 78, 3) := by decide +kernel
theorem dX9_flows_410 : decode cX9_flows 410 = .ok (.aload_n 0, 1) := by decide +kernel
theorem dX9_flows_411 : decode cX9_flows 411 = .ok (.getfield 121, 3) := by decide +kernel
theorem dX9_flows_414 : decode cX9_flows 414 = .ok (.aload_n 0, 1) := by decide +kernel
theorem dX9_flows_415 : decode cX9_flows 415 = .ok (.getfield 254, 3) := by decide +kernel
theorem dX9_flows_418 : decode cX9_flows 418 = .ok (.iaload, 1) := by decide +kernel
theorem dX9_flows_419 : decode cX9_flows 419 = .ok (.istore_n 2, 1) := by decide +kernel
theorem dX9_flows_420 : decode cX9_flows 420 = .ok (.aload_n 0, 1) := by decide +kernel
theorem dX9_flows_421 : decode cX9_flows 421 = .ok (.aload_n 0, 1) := by decide +kernel
theorem dX9_flows_422 : decode cX9_flows 422 = .ok (.getfield 254, 3) := by decide +kernel
theorem dX9_flows_425 : decode cX9_flows 425 = .ok (.iconst 1, 1) := by decide +kernel
theorem dX9_flows_426 : decode cX9_flows 426 = .ok (.iadd, 1) := by decide +kernel
theorem dX9_flows_427 : decode cX9_flows 427 = .ok (.sipush 20010, 3) := by decide +kernel
theorem dX9_flows_430 : decode cX9_flows 430 = .ok (.irem, 1) := by decide +kernel
theorem dX9_flows_431 : decode cX9_flows 431 = .ok (.putfield 254, 3) := by decide +kernel
theorem dX9_flows_434 : decode cX9_flows 434 = .ok (.aload_n 0, 1) := by decide +kernel
theorem dX9_flows_435 : decode cX9_flows 435 = .ok (.dup, 1) := by decide +kernel
theorem dX9_flows_436 : decode cX9_flows 436 = .ok (.getfield 257, 3) := by decide +kernel
theorem dX9_flows_439 : decode cX9_flows 439 = .ok (.iconst 1, 1) := by decide +kernel
theorem dX9_flows_440 : decode cX9_flows 440 = .ok (.isub, 1) := by decide +kernel
theorem dX9_flows_441 : decode cX9_flows 441 = .ok (.putfield 257, 3) := by decide +kernel
theorem dX9_flows_444 : decode cX9_flows 444 = .ok (.aload_n 0, 1) := by decide +kernel
theorem dX9_flows_445 : decode cX9_flows 445 = .ok (.getfield 115, 3) := by decide +kernel
theorem dX9_flows_448 : decode cX9_flows 448 = .ok (.iload_n 2, 1) := by decide +kernel
theorem dX9_flows_449 : decode cX9_flows 449 = .ok (.iconst 0, 1) := by decide +kernel
theorem dX9_flows_450 : decode cX9_flows 450 = .ok (.bastore, 1) := by decide +kernel
theorem dX9_flows_451 : decode cX9_flows 451 = .ok (.aload_n 0, 1) := by decide +kernel
theorem dX9_flows_452 : decode cX9_flows 452 = .ok (.iload_n 2, 1) := by decide +kernel
theorem dX9_flows_453 : decode cX9_flows 453 = .ok (.aload_n 0, 1) := by decide +kernel
theorem dX9_flows_454 : decode cX9_flows 454 = .ok (.invokevirtual 241, 3) := by decide +kernel
theorem dX9_flows_457 : decode cX9_flows 457 = .ok (.imul, 1) := by decide +kernel
theorem dX9_flows_458 : decode cX9_flows 458 = .ok (.invokevirtual 289, 3) := by decide +kernel
theorem dX9_flows_461 : decode cX9_flows 461 = .ok (.aload_n 0, 1) := by decide +kernel
theorem dX9_flows_462 : decode cX9_flows 462 = .ok (.aload_n 0, 1) := by decide +kernel
theorem dX9_flows_463 : decode cX9_flows 463 = .ok (.getfield 103, 3) := by decide +kernel
theorem dX9_flows_466 : decode cX9_flows 466 = .ok (.iload_n 2, 1) := by decide +kernel
theorem dX9_flows_467 : decode cX9_flows 467 = .ok (.iaload, 1) := by decide +kernel
theorem dX9_flows_468 : decode cX9_flows 468 = .ok (.aload_n 0, 1) := by decide +kernel
theorem dX9_flows_469 : decode cX9_flows 469 = .ok (.getfield 106, 3) := by decide +kernel
theorem dX9_flows_472 : decode cX9_flows 472 = .ok (.iload_n 2, 1) := by decide +kernel
theorem dX9_flows_473 : decode cX9_flows 473 = .ok (.iaload, 1) := by decide +kernel
theorem dX9_flows_474 : decode cX9_flows 474 = .ok (.invokevirtual 292, 3) := by decide +kernel
theorem dX9_flows_477 : decode cX9_flows 477 = .ok (.ifCond .ne 5, 3) := by decide +kernel
theorem dX9_flows_480 : decode cX9_flows 480 = .ok (.iconst 0, 1) := by decide +kernel
theorem dX9_flows_481 : decode cX9_flows 481 = .ok (.ireturn, 1) := by decide +kernel
theorem dX9_flows_482 : decode cX9_flows 482 = .ok (.goto (-79), 3) := by decide +kernel
theorem dX9_flows_485 : decode cX9_flows 485 = .ok (.iconst 1, 1) := by decide +kernel
theorem dX9_flows_486 : decode cX9_flows 486 = .ok (.ireturn, 1) := by decide +kernel
def ckX9_goes : List (List Cond) := [[.code yX9_goes cX9_goes 9 (some .boolean)], wsX9_goes_r1, wsX9_goes_r2, wsX9_goes_r3, wsX9_goes_r4, wsX9_goes_r5, wsX9_goes_r6, wsX9_goes_r7, wsX9_goes_r8, wsX90]
theorem ckX9_goesl : wsX9_goes = ckX9_goes.flatten := by
  simp only [wsX9_goes, ckX9_goes, List.flatten_cons, List.flatten_nil, List.append_assoc, List.append_nil, List.cons_append, List.nil_append]
set_option maxRecDepth 20000 in
theorem ggX9_goes_X9_below : GoodIn wsX9_goes wsX9_below := goodIn_t ckX9_goes ckX9_goesl _ [(1, 23), (2, 0), (9, 0), (9, 1), (9, 2), (9, 3), (9, 4), (9, 5), (9, 6), (9, 7), (9, 8), (9, 9), (9, 10), (9, 11), (9, 12), (9, 13), (9, 14), (9, 15), (9, 16), (9, 17), (9, 18), (9, 19), (9, 20), (9, 21), (9, 22), (9, 23), (9, 24), (9, 25), (9, 26), (9, 27), (9, 28), (9, 29), (9, 30), (9, 31), (9, 32), (9, 33), (9, 34), (9, 35), (9, 36), (9, 37), (9, 38), (9, 39), (9, 40), (9, 41), (9, 42), (9, 43), (9, 44), (9, 45), (9, 46), (9, 47), (9, 48), (9, 49), (9, 50), (9, 51), (9, 52), (9, 53), (9, 54), (9, 55), (9, 56), (9, 57), (9, 58), (9, 59), (9, 60), (9, 61)] rfl (by decide +kernel)
set_option maxRecDepth 20000 in
theorem gX9_goes_X9_below : GoodIn wsX9_goes (wsV RX9 198 RX9 yX9_below wsX9_below) := goodIn_app (goodIn_of _ (by decide +kernel)) ggX9_goes_X9_below
set_option maxRecDepth 20000 in
theorem ggX9_goes_X9_comes : GoodIn wsX9_goes wsX9_comes := goodIn_t ckX9_goes ckX9_goesl _ [(2, 4), (2, 5), (2, 6), (2, 7), (2, 8), (2, 9), (1, 4), (2, 10), (2, 11), (2, 12), (1, 5), (1, 14), (1, 6), (2, 13), (2, 14), (2, 15), (2, 16), (1, 22), (2, 17), (2, 18), (2, 19), (2, 20), (2, 21), (2, 22), (2, 23), (3, 0), (3, 1), (3, 2), (3, 3), (3, 4), (3, 5), (3, 6), (3, 7), (3, 8), (3, 9), (3, 10), (3, 11), (3, 12), (3, 13), (3, 14), (2, 0), (3, 15), (3, 16), (3, 17), (3, 18), (3, 19), (3, 20), (1, 19), (1, 20), (1, 21), (1, 23), (9, 0), (9, 1), (9, 2), (9, 3), (9, 4), (9, 5), (9, 6), (9, 7), (9, 8), (9, 9), (9, 10), (9, 11), (9, 12), (9, 13), (9, 14), (9, 15), (9, 16), (9, 17), (9, 18), (9, 19), (9, 20), (9, 21), (9, 22), (9, 23), (9, 24), (9, 25), (9, 26), (9, 27), (9, 28), (9, 29), (9, 30), (9, 31), (9, 32), (9, 33), (9, 34), (9, 35), (9, 36), (9, 37), (9, 38), (9, 39), (9, 40), (9, 41), (9, 42), (9, 43), (9, 44), (9, 45), (9, 46), (9, 47), (9, 48), (9, 49), (9, 50), (9, 51), (9, 52), (9, 53), (9, 54), (9, 55), (9, 56), (9, 57), (9, 58), (9, 59), (9, 60), (9, 61)] rfl (by decide +kernel)
set_option maxRecDepth 20000 in
theorem gX9_goes_X9_comes : GoodIn wsX9_goes (wsV RX9 286 RX9 yX9_comes wsX9_comes) := goodIn_app (goodIn_of _ (by decide +kernel)) ggX9_goes_X9_comes
set_option maxRecDepth 20000 in
theorem ggX9_goes_X9_push : GoodIn wsX9_goes wsX9_push := goodIn_t ckX9_goes ckX9_goesl _ [(4, 0), (1, 5), (1, 4), (1, 6), (9, 0), (9, 1), (9, 2), (9, 3), (9, 4), (9, 5), (9, 6), (9, 7), (9, 8), (9, 9), (9, 10), (9, 11), (9, 12), (9, 13), (9, 14), (9, 15), (9, 16), (9, 17), (9, 18), (9, 19), (9, 20), (9, 21), (9, 22), (9, 23), (9, 24), (9, 25), (9, 26), (9, 27), (9, 28), (9, 29), (9, 30), (9, 31), (9, 32), (9, 33), (9, 34), (9, 35), (9, 36), (9, 37), (9, 38), (9, 39), (9, 40), (9, 41), (9, 42), (9, 43), (9, 44), (9, 45), (9, 46), (9, 47), (9, 48), (9, 49), (9, 50), (9, 51), (9, 52), (9, 53), (9, 54), (9, 55), (9, 56), (9, 57), (9, 58), (9, 59), (9, 60), (9, 61)] rfl (by decide +kernel)
set_option maxRecDepth 20000 in
theorem gX9_goes_X9_push : GoodIn wsX9_goes (wsV RX9 295 RX9 yX9_push wsX9_push) := goodIn_app (goodIn_of _ (by decide +kernel)) ggX9_goes_X9_push
set_option maxRecDepth 20000 in
theorem ggX9_goes_X9_deeper : GoodIn wsX9_goes wsX9_deeper := goodIn_t ckX9_goes ckX9_goesl _ [(4, 4), (4, 5), (1, 10), (1, 9), (4, 6), (4, 7), (1, 11), (9, 0), (9, 1), (9, 2), (9, 3), (9, 4), (9, 5), (9, 6), (9, 7), (9, 8), (9, 9), (9, 10), (9, 11), (9, 12), (9, 13), (9, 14), (9, 15), (9, 16), (9, 17), (9, 18), (9, 19), (9, 20), (9, 21), (9, 22), (9, 23), (9, 24), (9, 25), (9, 26), (9, 27), (9, 28), (9, 29), (9, 30), (9, 31), (9, 32), (9, 33), (9, 34), (9, 35), (9, 36), (9, 37), (9, 38), (9, 39), (9, 40), (9, 41), (9, 42), (9, 43), (9, 44), (9, 45), (9, 46), (9, 47), (9, 48), (9, 49), (9, 50), (9, 51), (9, 52), (9, 53), (9, 54), (9, 55), (9, 56), (9, 57), (9, 58), (9, 59), (9, 60), (9, 61)] rfl (by decide +kernel)
set_option maxRecDepth 20000 in
theorem gX9_goes_X9_deeper : GoodIn wsX9_goes (wsV RX9 298 RX9 yX9_deeper wsX9_deeper) := goodIn_app (goodIn_of _ (by decide +kernel)) ggX9_goes_X9_deeper
set_option maxRecDepth 20000 in
theorem ggX9_goes_X9_step : GoodIn wsX9_goes wsX9_step := goodIn_t ckX9_goes ckX9_goesl _ [(4, 11), (1, 8), (1, 13), (1, 14), (1, 5), (1, 6), (2, 9), (4, 12), (3, 16), (4, 13), (3, 21), (3, 22), (3, 23), (1, 22), (4, 0), (1, 4), (4, 14), (4, 15), (4, 16), (3, 15), (3, 13), (4, 17), (4, 18), (4, 19), (4, 20), (4, 21), (4, 22), (4, 23), (5, 0), (5, 1), (5, 2), (5, 3), (5, 4), (5, 5), (5, 6), (5, 7), (5, 8), (5, 9), (5, 10), (5, 11), (5, 12), (5, 13), (5, 14), (5, 15), (5, 16), (5, 17), (5, 18), (5, 19), (5, 20), (5, 21), (5, 22), (5, 23), (6, 0), (6, 1), (6, 2), (6, 3), (6, 4), (6, 5), (6, 6), (6, 7), (6, 8), (6, 9), (6, 10), (6, 11), (6, 12), (6, 13), (6, 14), (6, 15), (6, 16), (6, 17), (6, 18), (3, 14), (1, 19), (1, 20), (1, 21), (1, 23), (2, 0), (6, 19), (6, 20), (6, 21), (6, 22), (6, 23), (7, 0), (7, 1), (7, 2), (7, 3), (7, 4), (7, 5), (7, 6), (7, 7), (7, 8), (7, 9), (7, 10), (7, 11), (7, 12), (7, 13), (7, 14), (7, 15), (7, 16), (7, 17), (7, 18), (7, 19), (7, 20), (7, 21), (7, 22), (7, 23), (8, 0), (8, 1), (2, 13), (8, 2), (8, 3), (8, 4), (8, 5), (8, 6), (8, 7), (8, 8), (8, 9), (8, 10), (8, 11), (8, 12), (8, 13), (8, 14), (8, 15), (8, 16), (8, 17), (8, 18), (8, 19), (8, 20), (8, 21), (9, 0), (9, 1), (9, 2), (9, 3), (9, 4), (9, 5), (9, 6), (9, 7), (9, 8), (9, 9), (9, 10), (9, 11), (9, 12), (9, 13), (9, 14), (9, 15), (9, 16), (9, 17), (9, 18), (9, 19), (9, 20), (9, 21), (9, 22), (9, 23), (9, 24), (9, 25), (9, 26), (9, 27), (9, 28), (9, 29), (9, 30), (9, 31), (9, 32), (9, 33), (9, 34), (9, 35), (9, 36), (9, 37), (9, 38), (9, 39), (9, 40), (9, 41), (9, 42), (9, 43), (9, 44), (9, 45), (9, 46), (9, 47), (9, 48), (9, 49), (9, 50), (9, 51), (9, 52), (9, 53), (9, 54), (9, 55), (9, 56), (9, 57), (9, 58), (9, 59), (9, 60), (9, 61)] rfl (by decide +kernel)
set_option maxRecDepth 20000 in
theorem gX9_goes_X9_step : GoodIn wsX9_goes (wsV RX9 301 RX9 yX9_step wsX9_step) := goodIn_app (goodIn_of _ (by decide +kernel)) ggX9_goes_X9_step
theorem dX9_goes_0 : decode cX9_goes 0 = .ok (.iload_n 1, 1) := by decide +kernel
theorem dX9_goes_1 : decode cX9_goes 1 = .ok (.istore_n 3, 1) := by decide +kernel
theorem dX9_goes_2 : decode cX9_goes 2 = .ok (.iconst 0, 1) := by decide +kernel
theorem dX9_goes_3 : decode cX9_goes 3 = .ok (.istore 4, 2) := by decide +kernel
theorem dX9_goes_5 : decode cX9_goes 5 = .ok (.iload 4, 2) := by decide +kernel
theorem dX9_goes_7 : decode cX9_goes 7 = .ok (.aload_n 0, 1) := by decide +kernel
theorem dX9_goes_8 : decode cX9_goes 8 = .ok (.getfield 182, 3) := by decide +kernel
theorem dX9_goes_11 : decode cX9_goes 11 = .ok (.if_icmp .ge 145, 3) := by decide +kernel
theorem dX9_goes_14 : decode cX9_goes 14 = .ok (.iload_n 3, 1) := by decide +kernel
theorem dX9_goes_15 : decode cX9_goes 15 = .ok (.aload_n 0, 1) := by decide +kernel
theorem dX9_goes_16 : decode cX9_goes 16 = .ok (.getfield 70, 3) := by decide +kernel
theorem dX9_goes_19 : decode cX9_goes 19 = .ok (.iload 4, 2) := by decide +kernel
theorem dX9_goes_21 : decode cX9_goes 21 = .ok (.iaload, 1) := by decide +kernel
theorem dX9_goes_22 : decode cX9_goes 22 = .ok (.if_icmp .lt 128, 3) := by decide +kernel
theorem dX9_goes_25 : decode cX9_goes 25 = .ok (.iload_n 3, 1) := by decide +kernel
theorem dX9_goes_26 : decode cX9_goes 26 = .ok (.aload_n 0, 1) := by decide +kernel
theorem dX9_goes_27 : decode cX9_goes 27 = .ok (.getfield 73, 3) := by decide +kernel
theorem dX9_goes_30 : decode cX9_goes 30 = .ok (.iload 4, 2) := by decide +kernel
theorem dX9_goes_32 : decode cX9_goes 32 = .ok (.iaload, 1) := by decide +kernel
theorem dX9_goes_33 : decode cX9_goes 33 = .ok (.if_icmp .lt 6, 3) := by decide +kernel
theorem dX9_goes_36 : decode cX9_goes 36 = .ok (.goto 114, 3) := by decide +kernel
theorem dX9_goes_39 : decode cX9_goes 39 = .ok (.aload_n 0, 1) := by decide +kernel
theorem dX9_goes_40 : decode cX9_goes 40 = .ok (.getfield 79, 3) := by decide +kernel
theorem dX9_goes_43 : decode cX9_goes 43 = .ok (.iload 4, 2) := by decide +kernel
theorem dX9_goes_45 : decode cX9_goes 45 = .ok (.iaload, 1) := by decide +kernel
theorem dX9_goes_46 : decode cX9_goes 46 = .ok (.ifCond .ge 7, 3) := by decide +kernel
theorem dX9_goes_49 : decode cX9_goes 49 = .ok (.iconst 1, 1) := by decide +kernel
theorem dX9_goes_50 : decode cX9_goes 50 = .ok (.goto 10, 3) := by decide +kernel
theorem dX9_goes_53 : decode cX9_goes 53 = .ok (.aload_n 0, 1) := by decide +kernel
theorem dX9_goes_54 : decode cX9_goes 54 = .ok (.getfield 79, 3) := by decide +kernel
theorem dX9_goes_57 : decode cX9_goes 57 = .ok (.iload 4, 2) := by decide +kernel
theorem dX9_goes_59 : decode cX9_goes 59 = .ok (.iaload, 1) := by decide +kernel
theorem dX9_goes_60 : decode cX9_goes 60 = .ok (.istore 5, 2) := by decide +kernel
theorem dX9_goes_62 : decode cX9_goes 62 = .ok (.aload_n 0, 1) := by decide +kernel
theorem dX9_goes_63 : decode cX9_goes 63 = .ok (.getfield 173, 3) := by decide +kernel
theorem dX9_goes_66 : decode cX9_goes 66 = .ok (.iconst 1, 1) := by decide +kernel
theorem dX9_goes_67 : decode cX9_goes 67 = .ok (.if_icmp .lt 13, 3) := by decide +kernel
theorem dX9_goes_70 : decode cX9_goes 70 = .ok (.aload_n 0, 1) := by decide +kernel
theorem dX9_goes_71 : decode cX9_goes 71 = .ok (.iload 5, 2) := by decide +kernel
theorem dX9_goes_73 : decode cX9_goes 73 = .ok (.iconst 1, 1) := by decide +kernel
theorem dX9_goes_74 : decode cX9_goes 74 = .ok (.invokevirtual 198, 3) := by decide +kernel
theorem dX9_goes_77 : decode cX9_goes 77 = .ok (.ifCond .ne 5, 3) := by decide +kernel
theorem dX9_goes_80 : decode cX9_goes 80 = .ok (.iconst 0, 1) := by decide +kernel
theorem dX9_goes_81 : decode cX9_goes 81 = .ok (.ireturn, 1) := by decide +kernel
theorem dX9_goes_82 : decode cX9_goes 82 = .ok (.aload_n 0, 1) := by decide +kernel
theorem dX9_goes_83 : decode cX9_goes 83 = .ok (.getfield 215, 3) := by decide +kernel
theorem dX9_goes_86 : decode cX9_goes 86 = .ok (.istore 6, 2) := by decide +kernel
theorem dX9_goes_88 : decode cX9_goes 88 = .ok (.aload_n 0, 1) := by decide +kernel
theorem dX9_goes_89 : decode cX9_goes 89 = .ok (.getfield 85, 3) := by decide +kernel
theorem dX9_goes_92 : decode cX9_goes 92 = .ok (.iconst 0, 1) := by decide +kernel
theorem dX9_goes_93 : decode cX9_goes 93 = .ok (.iaload, 1) := by decide +kernel
theorem dX9_goes_94 : decode cX9_goes 94 = .ok (.istore 7, 2) := by decide +kernel
theorem dX9_goes_96 : decode cX9_goes 96 = .ok (.aload_n 0, 1) := by decide +kernel
theorem dX9_goes_97 : decode cX9_goes 97 = .ok (.getfield 85, 3) := by decide +kernel
theorem dX9_goes_100 : decode cX9_goes 100 = .ok (.iconst 0, 1) := by decide +kernel
theorem dX9_goes_101 : decode cX9_goes 101 = .ok (.bipush 16, 2) := by decide +kernel
theorem dX9_goes_103 : decode cX9_goes 103 = .ok (.iload 5, 2) := by decide +kernel
theorem dX9_goes_105 : decode cX9_goes 105 = .ok (.imul, 1) := by decide +kernel
theorem dX9_goes_106 : decode cX9_goes 106 = .ok (.bipush 8, 2) := by decide +kernel
theorem dX9_goes_108 : decode cX9_goes 108 = .ok (.iadd, 1) := by decide +kernel
theorem dX9_goes_109 : decode cX9_goes 109 = .ok (.iastore, 1) := by decide +kernel
theorem dX9_goes_110 : decode cX9_goes 110 = .ok (.aload_n 0, 1) := by decide +kernel
theorem dX9_goes_111 : decode cX9_goes 111 = .ok (.iconst 1, 1) := by decide +kernel
theorem dX9_goes_112 : decode cX9_goes 112 = .ok (.putfield 215, 3) := by decide +kernel
theorem dX9_goes_115 : decode cX9_goes 115 = .ok (.aload_n 0, 1) := by decide +kernel
theorem dX9_goes_116 : decode cX9_goes 116 = .ok (.aload_n 0, 1) := by decide +kernel
theorem dX9_goes_117 : decode cX9_goes 117 = .ok (.getfield 76, 3) := by decide +kernel
theorem dX9_goes_120 : decode cX9_goes 120 = .ok (.iload 4, 2) := by decide +kernel
theorem dX9_goes_122 : decode cX9_goes 122 = .ok (.iaload, 1) := by decide +kernel
theorem dX9_goes_123 : decode cX9_goes 123 = .ok (.iload_n 2, 1) := by decide +kernel
theorem dX9_goes_124 : decode cX9_goes 124 = .ok (.invokevirtual 286, 3) := by decide +kernel
theorem dX9_goes_127 : decode cX9_goes 127 = .ok (.istore 8, 2) := by decide +kernel
theorem dX9_goes_129 : decode cX9_goes 129 = .ok (.aload_n 0, 1) := by decide +kernel
theorem dX9_goes_130 : decode cX9_goes 130 = .ok (.iload 6, 2) := by decide +kernel
theorem dX9_goes_132 : decode cX9_goes 132 = .ok (.putfield 215, 3) := by decide +kernel
theorem dX9_goes_135 : decode cX9_goes 135 = .ok (.aload_n 0, 1) := by decide +kernel
theorem dX9_goes_136 : decode cX9_goes 136 = .ok (.getfield 85, 3) := by decide +kernel
theorem dX9_goes_139 : decode cX9_goes 139 = .ok (.iconst 0, 1) := by decide +kernel
theorem dX9_goes_140 : decode cX9_goes 140 = .ok (.iload 7, 2) := by decide +kernel
theorem dX9_goes_142 : decode cX9_goes 142 = .ok (.iastore, 1) := by decide +kernel
theorem dX9_goes_143 : decode cX9_goes 143 = .ok (.iload 8, 2) := by decide +kernel
theorem dX9_goes_145 : decode cX9_goes 145 = .ok (.ifCond .ne 5, 3) := by decide +kernel
theorem dX9_goes_148 : decode cX9_goes 148 = .ok (.iconst 0, 1) := by decide +kernel
theorem dX9_goes_149 : decode cX9_goes 149 = .ok (.ireturn, 1) := by decide +kernel
theorem dX9_goes_150 : decode cX9_goes 150 = .ok (.iinc 4 1, 3) := by decide +kernel
theorem dX9_goes_153 : decode cX9_goes 153 = .ok (.goto (-148), 3) := by decide +kernel
theorem dX9_goes_156 : decode cX9_goes 156 = .ok (.aload_n 0, 1) := by decide +kernel
theorem dX9_goes_157 : decode cX9_goes 157 = .ok (.getfield 51, 3) := by decide +kernel
theorem dX9_goes_160 : decode cX9_goes 160 = .ok (.iload_n 3, 1) := by decide +kernel
theorem dX9_goes_161 : decode cX9_goes 161 = .ok (.iaload, 1) := by decide +kernel
theorem dX9_goes_162 : decode cX9_goes 162 = .ok (.istore 4, 2) := by decide +kernel
theorem dX9_goes_164 : decode cX9_goes 164 = .ok (.iload 4, 2) := by decide +kernel
theorem dX9_goes_166 : decode cX9_goes 166 = .ok (.sipush 168, 3) := by decide +kernel
theorem dX9_goes_169 : decode cX9_goes 169 = .ok (.if_icmp .ne 102, 3) := by decide +kernel
theorem dX9_goes_172 : decode cX9_goes 172 = .ok (.iload_n 2, 1) := by decide +kernel
theorem dX9_goes_173 : decode cX9_goes 173 = .ok (.istore 5, 2) := by decide +kernel
theorem dX9_goes_175 : decode cX9_goes 175 = .ok (.iload 5, 2) := by decide +kernel
theorem dX9_goes_177 : decode cX9_goes 177 = .ok (.ifCond .le 30, 3) := by decide +kernel
theorem dX9_goes_180 : decode cX9_goes 180 = .ok (.aload_n 0, 1) := by decide +kernel
theorem dX9_goes_181 : decode cX9_goes 181 = .ok (.getfield 88, 3) := by decide +kernel
theorem dX9_goes_184 : decode cX9_goes 184 = .ok (.iload 5, 2) := by decide +kernel
theorem dX9_goes_186 : decode cX9_goes 186 = .ok (.iaload, 1) := by decide +kernel
theorem dX9_goes_187 : decode cX9_goes 187 = .ok (.iload_n 3, 1) := by decide +kernel
theorem dX9_goes_188 : decode cX9_goes 188 = .ok (.iconst 1, 1) := by decide +kernel
theorem dX9_goes_189 : decode cX9_goes 189 = .ok (.iadd, 1) := by decide +kernel
theorem dX9_goes_190 : decode cX9_goes 190 = .ok (.if_icmp .ne 5, 3) := by decide +kernel
theorem dX9_goes_193 : decode cX9_goes 193 = .ok (.iconst 0, 1) := by decide +kernel
theorem dX9_goes_194 : decode cX9_goes 194 = .ok (.ireturn, 1) := by decide +kernel
theorem dX9_goes_195 : decode cX9_goes 195 = .ok (.aload_n 0, 1) := by decide +kernel
theorem dX9_goes_196 : decode cX9_goes 196 = .ok (.getfield 91, 3) := by decide +kernel
theorem dX9_goes_199 : decode cX9_goes 199 = .ok (.iload 5, 2) := by decide +kernel
theorem dX9_goes_201 : decode cX9_goes 201 = .ok (.iaload, 1) := by decide +kernel
theorem dX9_goes_202 : decode cX9_goes 202 = .ok (.istore 5, 2) := by decide +kernel
theorem dX9_goes_204 : decode cX9_goes 204 = .ok (.goto (-29), 3) := by decide +kernel
theorem dX9_goes_207 : decode cX9_goes 207 = .ok (.aload_n 0, 1) := by decide +kernel
theorem dX9_goes_208 : decode cX9_goes 208 = .ok (.getfield 94, 3) := by decide +kernel
theorem dX9_goes_211 : decode cX9_goes 211 = .ok (.iload_n 2, 1) := by decide +kernel
theorem dX9_goes_212 : decode cX9_goes 212 = .ok (.iaload, 1) := by decide +kernel
theorem dX9_goes_213 : decode cX9_goes 213 = .ok (.bipush 16, 2) := by decide +kernel
theorem dX9_goes_215 : decode cX9_goes 215 = .ok (.if_icmp .ge 54, 3) := by decide +kernel
theorem dX9_goes_218 : decode cX9_goes 218 = .ok (.iload_n 3, 1) := by decide +kernel
theorem dX9_goes_219 : decode cX9_goes 219 = .ok (.iconst 1, 1) := by decide +kernel
theorem dX9_goes_220 : decode cX9_goes 220 = .ok (.iadd, 1) := by decide +kernel
theorem dX9_goes_221 : decode cX9_goes 221 = .ok (.aload_n 0, 1) := by decide +kernel
theorem dX9_goes_222 : decode cX9_goes 222 = .ok (.getfield 179, 3) := by decide +kernel
theorem dX9_goes_225 : decode cX9_goes 225 = .ok (.if_icmp .ge 44, 3) := by decide +kernel
theorem dX9_goes_228 : decode cX9_goes 228 = .ok (.aload_n 0, 1) := by decide +kernel
theorem dX9_goes_229 : decode cX9_goes 229 = .ok (.bipush 16, 2) := by decide +kernel
theorem dX9_goes_231 : decode cX9_goes 231 = .ok (.iload_n 3, 1) := by decide +kernel
theorem dX9_goes_232 : decode cX9_goes 232 = .ok (.iconst 1, 1) := by decide +kernel
theorem dX9_goes_233 : decode cX9_goes 233 = .ok (.iadd, 1) := by decide +kernel
theorem dX9_goes_234 : decode cX9_goes 234 = .ok (.imul, 1) := by decide +kernel
theorem dX9_goes_235 : decode cX9_goes 235 = .ok (.bipush 10, 2) := by decide +kernel
theorem dX9_goes_237 : decode cX9_goes 237 = .ok (.iadd, 1) := by decide +kernel
theorem dX9_goes_238 : decode cX9_goes 238 = .ok (.invokevirtual 295, 3) := by decide +kernel
theorem dX9_goes_241 : decode cX9_goes 241 = .ok (.ifCond .eq 28, 3) := by decide +kernel
theorem dX9_goes_244 : decode cX9_goes 244 = .ok (.aload_n 0, 1) := by decide +kernel
theorem dX9_goes_245 : decode cX9_goes 245 = .ok (.aload_n 0, 1) := by decide +kernel
theorem dX9_goes_246 : decode cX9_goes 246 = .ok (.getfield 54, 3) := by decide +kernel
theorem dX9_goes_249 : decode cX9_goes 249 = .ok (.iload_n 3, 1) := by decide +kernel
theorem dX9_goes_250 : decode cX9_goes 250 = .ok (.iaload, 1) := by decide +kernel
theorem dX9_goes_251 : decode cX9_goes 251 = .ok (.aload_n 0, 1) := by decide +kernel
theorem dX9_goes_252 : decode cX9_goes 252 = .ok (.iload_n 2, 1) := by decide +kernel
theorem dX9_goes_253 : decode cX9_goes 253 = .ok (.iload_n 3, 1) := by decide +kernel
theorem dX9_goes_254 : decode cX9_goes 254 = .ok (.iconst 1, 1) := by decide +kernel
theorem dX9_goes_255 : decode cX9_goes 255 = .ok (.iadd, 1) := by decide +kernel
theorem dX9_goes_256 : decode cX9_goes 256 = .ok (.invokevirtual 298, 3) := by decide +kernel
theorem dX9_goes_259 : decode cX9_goes 259 = .ok (.invokevirtual 286, 3) := by decide +kernel
theorem dX9_goes_262 : decode cX9_goes 262 = .ok (.ifCond .eq 7, 3) := by decide +kernel
theorem dX9_goes_265 : decode cX9_goes 265 = .ok (.iconst 1, 1) := by decide +kernel
theorem dX9_goes_266 : decode cX9_goes 266 = .ok (.goto 4, 3) := by decide +kernel
theorem dX9_goes_269 : decode cX9_goes 269 = .ok (.iconst 0, 1) := by decide +kernel
theorem dX9_goes_270 : decode cX9_goes 270 = .ok (.ireturn, 1) := by decide +kernel
theorem dX9_goes_271 : decode cX9_goes 271 = .ok (.iload 4, 2) := by decide +kernel
theorem dX9_goes_273 : decode cX9_goes 273 = .ok (.sipush 169, 3) := by decide +kernel
theorem dX9_goes_276 : decode cX9_goes 276 = .ok (.if_icmp .ne 91, 3) := by decide +kernel
theorem dX9_goes_279 : decode cX9_goes 279 = .ok (.aload_n 0, 1) := by decide +kernel
theorem dX9_goes_280 : decode cX9_goes 280 = .ok (.getfield 82, 3) := by decide +kernel
theorem dX9_goes_283 : decode cX9_goes 283 = .ok (.aload_n 0, 1) := by decide +kernel
theorem dX9_goes_284 : decode cX9_goes 284 = .ok (.getfield 54, 3) := by decide +kernel
theorem dX9_goes_287 : decode cX9_goes 287 = .ok (.iload_n 3, 1) := by decide +kernel
theorem dX9_goes_288 : decode cX9_goes 288 = .ok (.iaload, 1) := by decide +kernel
theorem dX9_goes_289 : decode cX9_goes 289 = .ok (.iaload, 1) := by decide +kernel
theorem dX9_goes_290 : decode cX9_goes 290 = .ok (.istore 5, 2) := by decide +kernel
theorem dX9_goes_292 : decode cX9_goes 292 = .ok (.iload 5, 2) := by decide +kernel
theorem dX9_goes_294 : decode cX9_goes 294 = .ok (.bipush 15, 2) := by decide +kernel
theorem dX9_goes_296 : decode cX9_goes 296 = .ok (.iand, 1) := by decide +kernel
theorem dX9_goes_297 : decode cX9_goes 297 = .ok (.bipush 10, 2) := by decide +kernel
theorem dX9_goes_299 : decode cX9_goes 299 = .ok (.if_icmp .eq 5, 3) := by decide +kernel
theorem dX9_goes_302 : decode cX9_goes 302 = .ok (.iconst 0, 1) := by decide +kernel
theorem dX9_goes_303 : decode cX9_goes 303 = .ok (.ireturn, 1) := by decide +kernel
theorem dX9_goes_304 : decode cX9_goes 304 = .ok (.iload_n 2, 1) := by decide +kernel
theorem dX9_goes_305 : decode cX9_goes 305 = .ok (.istore 6, 2) := by decide +kernel
theorem dX9_goes_307 : decode cX9_goes 307 = .ok (.iload 6, 2) := by decide +kernel
theorem dX9_goes_309 : decode cX9_goes 309 = .ok (.ifCond .le 29, 3) := by decide +kernel
theorem dX9_goes_312 : decode cX9_goes 312 = .ok (.aload_n 0, 1) := by decide +kernel
theorem dX9_goes_313 : decode cX9_goes 313 = .ok (.getfield 88, 3) := by decide +kernel
theorem dX9_goes_316 : decode cX9_goes 316 = .ok (.iload 6, 2) := by decide +kernel
theorem dX9_goes_318 : decode cX9_goes 318 = .ok (.iaload, 1) := by decide +kernel
theorem dX9_goes_319 : decode cX9_goes 319 = .ok (.iload 5, 2) := by decide +kernel
theorem dX9_goes_321 : decode cX9_goes 321 = .ok (.iconst 4, 1) := by decide +kernel
theorem dX9_goes_322 : decode cX9_goes 322 = .ok (.ishr, 1) := by decide +kernel
theorem dX9_goes_323 : decode cX9_goes 323 = .ok (.if_icmp .eq 15, 3) := by decide +kernel
theorem dX9_goes_326 : decode cX9_goes 326 = .ok (.aload_n 0, 1) := by decide +kernel
theorem dX9_goes_327 : decode cX9_goes 327 = .ok (.getfield 91, 3) := by decide +kernel
theorem dX9_goes_330 : decode cX9_goes 330 = .ok (.iload 6, 2) := by decide +kernel
theorem dX9_goes_332 : decode cX9_goes 332 = .ok (.iaload, 1) := by decide +kernel
theorem dX9_goes_333 : decode cX9_goes 333 = .ok (.istore 6, 2) := by decide +kernel
theorem dX9_goes_335 : decode cX9_goes 335 = .ok (.goto (-28), 3) := by decide +kernel
theorem dX9_goes_338 : decode cX9_goes 338 = .ok (.iload 6, 2) := by decide +kernel
theorem dX9_goes_340 : decode cX9_goes 340 = .ok (.ifCond .le 25, 3) := by decide +kernel
theorem dX9_goes_343 : decode cX9_goes 343 = .ok (.aload_n 0, 1) := by decide +kernel
theorem dX9_goes_344 : decode cX9_goes 344 = .ok (.iload 5, 2) := by decide +kernel
theorem dX9_goes_346 : decode cX9_goes 346 = .ok (.iconst 4, 1) := by decide +kernel
theorem dX9_goes_347 : decode cX9_goes 347 = .ok (.ishr, 1) := by decide +kernel
theorem dX9_goes_348 : decode cX9_goes 348 = .ok (.aload_n 0, 1) := by decide +kernel
theorem dX9_goes_349 : decode cX9_goes 349 = .ok (.getfield 91, 3) := by decide +kernel
theorem dX9_goes_352 : decode cX9_goes 352 = .ok (.iload 6, 2) := by decide +kernel
theorem dX9_goes_354 : decode cX9_goes 354 = .ok (.iaload, 1) := by decide +kernel
theorem dX9_goes_355 : decode cX9_goes 355 = .ok (.invokevirtual 286, 3) := by decide +kernel
theorem dX9_goes_358 : decode cX9_goes 358 = .ok (.ifCond .eq 7, 3) := by decide +kernel
theorem dX9_goes_361 : decode cX9_goes 361 = .ok (.iconst 1, 1) := by decide +kernel
theorem dX9_goes_362 : decode cX9_goes 362 = .ok (.goto 4, 3) := by decide +kernel
theorem dX9_goes_365 : decode cX9_goes 365 = .ok (.iconst 0, 1) := by decide +kernel
theorem dX9_goes_366 : decode cX9_goes 366 = .ok (.ireturn, 1) := by decide +kernel
theorem dX9_goes_367 : decode cX9_goes 367 = .ok (.aload_n 0, 1) := by decide +kernel
theorem dX9_goes_368 : decode cX9_goes 368 = .ok (.iload_n 3, 1) := by decide +kernel
theorem dX9_goes_369 : decode cX9_goes 369 = .ok (.invokevirtual 301, 3) := by decide +kernel
theorem dX9_goes_372 : decode cX9_goes 372 = .ok (.ifCond .ne 5, 3) := by decide +kernel
theorem dX9_goes_375 : decode cX9_goes 375 = .ok (.iconst 0, 1) := by decide +kernel
theorem dX9_goes_376 : decode cX9_goes 376 = .ok (.ireturn, 1) := by decide +kernel
theorem dX9_goes_377 : decode cX9_goes 377 = .ok (.iload 4, 2) := by decide +kernel
theorem dX9_goes_379 : decode cX9_goes 379 = .ok (.sipush 153, 3) := by decide +kernel
theorem dX9_goes_382 : decode cX9_goes 382 = .ok (.if_icmp .lt 11, 3) := by decide +kernel
theorem dX9_goes_385 : decode cX9_goes 385 = .ok (.iload 4, 2) := by decide +kernel
theorem dX9_goes_387 : decode cX9_goes 387 = .ok (.sipush 167, 3) := by decide +kernel
theorem dX9_goes_390 : decode cX9_goes 390 = .ok (.if_icmp .le 19, 3) := by decide +kernel
theorem dX9_goes_393 : decode cX9_goes 393 = .ok (.iload 4, 2) := by decide +kernel
theorem dX9_goes_395 : decode cX9_goes 395 = .ok (.sipush 198, 3) := by decide +kernel
theorem dX9_goes_398 : decode cX9_goes 398 = .ok (.if_icmp .eq 11, 3) := by decide +kernel
theorem dX9_goes_401 : decode cX9_goes 401 = .ok (.iload 4, 2) := by decide +kernel
theorem dX9_goes_403 : decode cX9_goes 403 = .ok (.sipush 199, 3) := by decide +kernel
theorem dX9_goes_406 : decode cX9_goes 406 = .ok (.if_icmp .ne 19, 3) := by decide +kernel
theorem dX9_goes_409 : decode cX9_goes 409 = .ok (.aload_n 0, 1) := by decide +kernel
theorem dX9_goes_410 : decode cX9_goes 410 = .ok (.aload_n 0, 1) := by decide +kernel
theorem dX9_goes_411 : decode cX9_goes 411 = .ok (.getfield 54, 3) := by decide +kernel
theorem dX9_goes_414 : decode cX9_goes 414 = .ok (.iload_n 3, 1) := by decide +kernel
theorem dX9_goes_415 : decode cX9_goes 415 = .ok (.iaload, 1) := by decide +kernel
theorem dX9_goes_416 : decode cX9_goes 416 = .ok (.iload_n 2, 1) := by decide +kernel
theorem dX9_goes_417 : decode cX9_goes 417 = .ok (.invokevirtual 286, 3) := by decide +kernel
theorem dX9_goes_420 : decode cX9_goes 420 = .ok (.ifCond .ne 65, 3) := by decide +kernel
theorem dX9_goes_423 : decode cX9_goes 423 = .ok (.iconst 0, 1) := by decide +kernel
theorem dX9_goes_424 : decode cX9_goes 424 = .ok (.ireturn, 1) := by decide +kernel
theorem dX9_goes_425 : decode cX9_goes 425 = .ok (.iload 4, 2) := by decide +kernel
theorem dX9_goes_427 : decode cX9_goes 427 = .ok (.sipush 170, 3) := by decide +kernel
theorem dX9_goes_430 : decode cX9_goes 430 = .ok (.if_icmp .eq 11, 3) := by decide +kernel
theorem dX9_goes_433 : decode cX9_goes 433 = .ok (.iload 4, 2) := by decide +kernel
theorem dX9_goes_435 : decode cX9_goes 435 = .ok (.sipush 171, 3) := by decide +kernel
theorem dX9_goes_438 : decode cX9_goes 438 = .ok (.if_icmp .ne 47, 3) := by decide +kernel
theorem dX9_goes_441 : decode cX9_goes 441 = .ok (.iconst 0, 1) := by decide +kernel
theorem dX9_goes_442 : decode cX9_goes 442 = .ok (.istore 5, 2) := by decide +kernel
theorem dX9_goes_444 : decode cX9_goes 444 = .ok (.iload 5, 2) := by decide +kernel
theorem dX9_goes_446 : decode cX9_goes 446 = .ok (.aload_n 0, 1) := by decide +kernel
theorem dX9_goes_447 : decode cX9_goes 447 = .ok (.getfield 63, 3) := by decide +kernel
theorem dX9_goes_450 : decode cX9_goes 450 = .ok (.iload_n 3, 1) := by decide +kernel
theorem dX9_goes_451 : decode cX9_goes 451 = .ok (.iaload, 1) := by decide +kernel
theorem dX9_goes_452 : decode cX9_goes 452 = .ok (.if_icmp .ge 33, 3) := by decide +kernel
theorem dX9_goes_455 : decode cX9_goes 455 = .ok (.aload_n 0, 1) := by decide +kernel
theorem dX9_goes_456 : decode cX9_goes 456 = .ok (.aload_n 0, 1) := by decide +kernel
theorem dX9_goes_457 : decode cX9_goes 457 = .ok (.getfield 67, 3) := by decide +kernel
theorem dX9_goes_460 : decode cX9_goes 460 = .ok (.aload_n 0, 1) := by decide +kernel
theorem dX9_goes_461 : decode cX9_goes 461 = .ok (.getfield 60, 3) := by decide +kernel
theorem dX9_goes_464 : decode cX9_goes 464 = .ok (.iload_n 3, 1) := by decide +kernel
theorem dX9_goes_465 : decode cX9_goes 465 = .ok (.iaload, 1) := by decide +kernel
theorem dX9_goes_466 : decode cX9_goes 466 = .ok (.iload 5, 2) := by decide +kernel
theorem dX9_goes_468 : decode cX9_goes 468 = .ok (.iadd, 1) := by decide +kernel
theorem dX9_goes_469 : decode cX9_goes 469 = .ok (.iaload, 1) := by decide +kernel
theorem dX9_goes_470 : decode cX9_goes 470 = .ok (.iload_n 2, 1) := by decide +kernel
theorem dX9_goes_471 : decode cX9_goes 471 = .ok (.invokevirtual 286, 3) := by decide +kernel
theorem dX9_goes_474 : decode cX9_goes 474 = .ok (.ifCond .ne 5, 3) := by decide +kernel
theorem dX9_goes_477 : decode cX9_goes 477 = .ok (.iconst 0, 1) := by decide +kernel
theorem dX9_goes_478 : decode cX9_goes 478 = .ok (.ireturn, 1) := by decide +kernel
theorem dX9_goes_479 : decode cX9_goes 479 = .ok (.iinc 5 1, 3) := by decide +kernel
theorem dX9_goes_482 : decode cX9_goes 482 = .ok (.goto (-38), 3) := by decide +kernel
theorem dX9_goes_485 : decode cX9_goes 485 = .ok (.iload 4, 2) := by decide +kernel
theorem dX9_goes_487 : decode cX9_goes 487 = .ok (.sipush 167, 3) := by decide +kernel
theorem dX9_goes_490 : decode cX9_goes 490 = .ok (.if_icmp .eq 27, 3) := by decide +kernel
theorem dX9_goes_493 : decode cX9_goes 493 = .ok (.iload 4, 2) := by decide +kernel
theorem dX9_goes_495 : decode cX9_goes 495 = .ok (.sipush 170, 3) := by decide +kernel
theorem dX9_goes_498 : decode cX9_goes 498 = .ok (.if_icmp .lt 11, 3) := by decide +kernel
theorem dX9_goes_501 : decode cX9_goes 501 = .ok (.iload 4, 2) := by decide +kernel
theorem dX9_goes_503 : decode cX9_goes 503 = .ok (.sipush 177, 3) := by decide +kernel
theorem dX9_goes_506 : decode cX9_goes 506 = .ok (.if_icmp .le 11, 3) := by decide +kernel
theorem dX9_goes_509 : decode cX9_goes 509 = .ok (.iload 4, 2) := by decide +kernel
theorem dX9_goes_511 : decode cX9_goes 511 = .ok (.sipush 191, 3) := by decide +kernel
theorem dX9_goes_514 : decode cX9_goes 514 = .ok (.if_icmp .ne 5, 3) := by decide +kernel
theorem dX9_goes_517 : decode cX9_goes 517 = .ok (.iconst 1, 1) := by decide +kernel
theorem dX9_goes_518 : decode cX9_goes 518 = .ok (.ireturn, 1) := by decide +kernel
theorem dX9_goes_519 : decode cX9_goes 519 = .ok (.iinc 3 1, 3) := by decide +kernel
theorem dX9_goes_522 : decode cX9_goes 522 = .ok (.iload_n 3, 1) := by decide +kernel
theorem dX9_goes_523 : decode cX9_goes 523 = .ok (.aload_n 0, 1) := by decide +kernel
theorem dX9_goes_524 : decode cX9_goes 524 = .ok (.getfield 179, 3) := by decide +kernel
theorem dX9_goes_527 : decode cX9_goes 527 = .ok (.if_icmp .lt 5, 3) := by decide +kernel
theorem dX9_goes_530 : decode cX9_goes 530 = .ok (.iconst 0, 1) := by decide +kernel
theorem dX9_goes_531 : decode cX9_goes 531 = .ok (.ireturn, 1) := by decide +kernel
theorem dX9_goes_532 : decode cX9_goes 532 = .ok (.aload_n 0, 1) := by decide +kernel
theorem dX9_goes_533 : decode cX9_goes 533 = .ok (.getfield 124, 3) := by decide +kernel
theorem dX9_goes_536 : decode cX9_goes 536 = .ok (.iload_n 3, 1) := by decide +kernel
theorem dX9_goes_537 : decode cX9_goes 537 = .ok (.baload, 1) := by decide +kernel
theorem dX9_goes_538 : decode cX9_goes 538 = .ok (.ifCond .eq 10, 3) := by decide +kernel
theorem dX9_goes_541 : decode cX9_goes 541 = .ok (.aload_n 0, 1) := by decide +kernel
theorem dX9_goes_542 : decode cX9_goes 542 = .ok (.iload_n 3, 1) := by decide +kernel
theorem dX9_goes_543 : decode cX9_goes 543 = .ok (.iload_n 2, 1) := by decide +kernel
theorem dX9_goes_544 : decode cX9_goes 544 = .ok (.invokevirtual 286, 3) := by decide +kernel
theorem dX9_goes_547 : decode cX9_goes 547 = .ok (.ireturn, 1) := by decide +kernel
theorem dX9_goes_548 : decode cX9_goes 548 = .ok (.goto (-546), 3) := by decide +kernel
def ckX9_step : List (List Cond) := [[.code yX9_step cX9_step 6 (some .boolean)], wsX9_step_r1, wsX9_step_r2, wsX9_step_r3, wsX9_step_r4, wsX9_step_r5, wsX9_step_r6, wsX90]
theorem ckX9_stepl : wsX9_step = ckX9_step.flatten := by
  simp only [wsX9_step, ckX9_step, List.flatten_cons, List.flatten_nil, List.append_assoc, List.append_nil, List.cons_append, List.nil_append]
set_option maxRecDepth 20000 in
theorem ggX9_step_X9_push : GoodIn wsX9_step wsX9_push := goodIn_t ckX9_step ckX9_stepl _ [(1, 13), (1, 3), (1, 14), (1, 4), (7, 0), (7, 1), (7, 2), (7, 3), (7, 4), (7, 5), (7, 6), (7, 7), (7, 8), (7, 9), (7, 10), (7, 11), (7, 12), (7, 13), (7, 14), (7, 15), (7, 16), (7, 17), (7, 18), (7, 19), (7, 20), (7, 21), (7, 22), (7, 23), (7, 24), (7, 25), (7, 26), (7, 27), (7, 28), (7, 29), (7, 30), (7, 31), (7, 32), (7, 33), (7, 34), (7, 35), (7, 36), (7, 37), (7, 38), (7, 39), (7, 40), (7, 41), (7, 42), (7, 43), (7, 44), (7, 45), (7, 46), (7, 47), (7, 48), (7, 49), (7, 50), (7, 51), (7, 52), (7, 53), (7, 54), (7, 55), (7, 56), (7, 57), (7, 58), (7, 59), (7, 60), (7, 61)] rfl (by decide +kernel)
set_option maxRecDepth 20000 in
theorem gX9_step_X9_push : GoodIn wsX9_step (wsV RX9 295 RX9 yX9_push wsX9_push) := goodIn_app (goodIn_of _ (by decide +kernel)) ggX9_step_X9_push
set_option maxRecDepth 20000 in
theorem ggX9_step_X9_kindOf : GoodIn wsX9_step wsX9_kindOf := goodIn_r _ [18, 19, 20, 21, 22] rfl (by decide +kernel)
set_option maxRecDepth 20000 in
theorem gX9_step_X9_kindOf : GoodIn wsX9_step (va_wsS RX9 221 yX9_kindOf wsX9_kindOf) := goodIn_app (goodIn_of _ (by decide +kernel)) ggX9_step_X9_kindOf
set_option maxRecDepth 20000 in
theorem ggX9_step_X9_load : GoodIn wsX9_step wsX9_load := goodIn_t ckX9_step ckX9_stepl _ [(2, 1), (1, 2), (2, 2), (2, 3), (2, 4), (1, 12), (2, 5), (1, 9), (1, 10), (1, 11), (1, 13), (1, 3), (1, 14), (1, 4), (2, 6), (2, 7), (2, 8), (7, 0), (7, 1), (7, 2), (7, 3), (7, 4), (7, 5), (7, 6), (7, 7), (7, 8), (7, 9), (7, 10), (7, 11), (7, 12), (7, 13), (7, 14), (7, 15), (7, 16), (7, 17), (7, 18), (7, 19), (7, 20), (7, 21), (7, 22), (7, 23), (7, 24), (7, 25), (7, 26), (7, 27), (7, 28), (7, 29), (7, 30), (7, 31), (7, 32), (7, 33), (7, 34), (7, 35), (7, 36), (7, 37), (7, 38), (7, 39), (7, 40), (7, 41), (7, 42), (7, 43), (7, 44), (7, 45), (7, 46), (7, 47), (7, 48), (7, 49), (7, 50), (7, 51), (7, 52), (7, 53), (7, 54), (7, 55), (7, 56), (7, 57), (7, 58), (7, 59), (7, 60), (7, 61)] rfl (by decide +kernel)
set_option maxRecDepth 20000 in
theorem gX9_step_X9_load : GoodIn wsX9_step (wsV RX9 304 RX9 yX9_load wsX9_load) := goodIn_app (goodIn_of _ (by decide +kernel)) ggX9_step_X9_load
set_option maxRecDepth 20000 in
theorem ggX9_step_X9_arrayLoad : GoodIn wsX9_step wsX9_arrayLoad := goodIn_t ckX9_step ckX9_stepl _ [(2, 12), (1, 3), (1, 4), (2, 13), (2, 14), (2, 15), (2, 16), (1, 12), (2, 17), (2, 18), (2, 19), (2, 20), (2, 21), (1, 7), (1, 18), (1, 9), (1, 10), (1, 11), (1, 13), (1, 14), (7, 0), (7, 1), (7, 2), (7, 3), (7, 4), (7, 5), (7, 6), (7, 7), (7, 8), (7, 9), (7, 10), (7, 11), (7, 12), (7, 13), (7, 14), (7, 15), (7, 16), (7, 17), (7, 18), (7, 19), (7, 20), (7, 21), (7, 22), (7, 23), (7, 24), (7, 25), (7, 26), (7, 27), (7, 28), (7, 29), (7, 30), (7, 31), (7, 32), (7, 33), (7, 34), (7, 35), (7, 36), (7, 37), (7, 38), (7, 39), (7, 40), (7, 41), (7, 42), (7, 43), (7, 44), (7, 45), (7, 46), (7, 47), (7, 48), (7, 49), (7, 50), (7, 51), (7, 52), (7, 53), (7, 54), (7, 55), (7, 56), (7, 57), (7, 58), (7, 59), (7, 60), (7, 61)] rfl (by decide +kernel)
set_option maxRecDepth 20000 in
theorem gX9_step_X9_arrayLoad : GoodIn wsX9_step (wsV RX9 307 RX9 yX9_arrayLoad wsX9_arrayLoad) := goodIn_app (goodIn_of _ (by decide +kernel)) ggX9_step_X9_arrayLoad
set_option maxRecDepth 20000 in
theorem ggX9_step_X9_store : GoodIn wsX9_step wsX9_store := goodIn_t ckX9_step ckX9_stepl _ [(3, 1), (1, 3), (1, 4), (2, 2), (2, 3), (2, 4), (1, 12), (2, 5), (3, 2), (3, 3), (3, 4), (3, 5), (1, 2), (2, 14), (2, 15), (2, 16), (2, 17), (7, 0), (7, 1), (7, 2), (7, 3), (7, 4), (7, 5), (7, 6), (7, 7), (7, 8), (7, 9), (7, 10), (7, 11), (7, 12), (7, 13), (7, 14), (7, 15), (7, 16), (7, 17), (7, 18), (7, 19), (7, 20), (7, 21), (7, 22), (7, 23), (7, 24), (7, 25), (7, 26), (7, 27), (7, 28), (7, 29), (7, 30), (7, 31), (7, 32), (7, 33), (7, 34), (7, 35), (7, 36), (7, 37), (7, 38), (7, 39), (7, 40), (7, 41), (7, 42), (7, 43), (7, 44), (7, 45), (7, 46), (7, 47), (7, 48), (7, 49), (7, 50), (7, 51), (7, 52), (7, 53), (7, 54), (7, 55), (7, 56), (7, 57), (7, 58), (7, 59), (7, 60), (7, 61)] rfl (by decide +kernel)
set_option maxRecDepth 20000 in
theorem gX9_step_X9_store : GoodIn wsX9_step (wsV RX9 310 RX9 yX9_store wsX9_store) := goodIn_app (goodIn_of _ (by decide +kernel)) ggX9_step_X9_store
set_option maxRecDepth 20000 in
theorem ggX9_step_X9_arrayStore : GoodIn wsX9_step wsX9_arrayStore := goodIn_t ckX9_step ckX9_stepl _ [(3, 9), (3, 10), (3, 11), (3, 12), (1, 12), (3, 13), (1, 3), (1, 4), (3, 14), (3, 15), (3, 16), (3, 17), (1, 18), (1, 7), (1, 15), (1, 16), (1, 17), (1, 19), (1, 20), (1, 21), (2, 14), (2, 15), (2, 16), (2, 17), (3, 18), (3, 19), (3, 20), (3, 21), (3, 22), (3, 23), (4, 0), (4, 1), (4, 2), (4, 3), (2, 18), (2, 19), (2, 20), (2, 21), (7, 0), (7, 1), (7, 2), (7, 3), (7, 4), (7, 5), (7, 6), (7, 7), (7, 8), (7, 9), (7, 10), (7, 11), (7, 12), (7, 13), (7, 14), (7, 15), (7, 16), (7, 17), (7, 18), (7, 19), (7, 20), (7, 21), (7, 22), (7, 23), (7, 24), (7, 25), (7, 26), (7, 27), (7, 28), (7, 29), (7, 30), (7, 31), (7, 32), (7, 33), (7, 34), (7, 35), (7, 36), (7, 37), (7, 38), (7, 39), (7, 40), (7, 41), (7, 42), (7, 43), (7, 44), (7, 45), (7, 46), (7, 47), (7, 48), (7, 49), (7, 50), (7, 51), (7, 52), (7, 53), (7, 54), (7, 55), (7, 56), (7, 57), (7, 58), (7, 59), (7, 60), (7, 61)] rfl (by decide +kernel)
set_option maxRecDepth 20000 in
theorem gX9_step_X9_arrayStore : GoodIn wsX9_step (wsV RX9 313 RX9 yX9_arrayStore wsX9_arrayStore) := goodIn_app (goodIn_of _ (by decide +kernel)) ggX9_step_X9_arrayStore
set_option maxRecDepth 20000 in
theorem ggX9_step_X9_moves : GoodIn wsX9_step wsX9_moves := goodIn_t ckX9_step ckX9_stepl _ [(4, 7), (1, 3), (1, 4), (1, 14), (4, 8), (4, 9), (4, 10), (4, 11), (1, 12), (4, 12), (4, 13), (4, 14), (4, 15), (4, 16), (7, 0), (7, 1), (7, 2), (7, 3), (7, 4), (7, 5), (7, 6), (7, 7), (7, 8), (7, 9), (7, 10), (7, 11), (7, 12), (7, 13), (7, 14), (7, 15), (7, 16), (7, 17), (7, 18), (7, 19), (7, 20), (7, 21), (7, 22), (7, 23), (7, 24), (7, 25), (7, 26), (7, 27), (7, 28), (7, 29), (7, 30), (7, 31), (7, 32), (7, 33), (7, 34), (7, 35), (7, 36), (7, 37), (7, 38), (7, 39), (7, 40), (7, 41), (7, 42), (7, 43), (7, 44), (7, 45), (7, 46), (7, 47), (7, 48), (7, 49), (7, 50), (7, 51), (7, 52), (7, 53), (7, 54), (7, 55), (7, 56), (7, 57), (7, 58), (7, 59), (7, 60), (7, 61)] rfl (by decide +kernel)
set_option maxRecDepth 20000 in
theorem gX9_step_X9_moves : GoodIn wsX9_step (wsV RX9 316 RX9 yX9_moves wsX9_moves) := goodIn_app (goodIn_of _ (by decide +kernel)) ggX9_step_X9_moves
set_option maxRecDepth 20000 in
theorem ggX9_step_X9_computes : GoodIn wsX9_step wsX9_computes := goodIn_t ckX9_step ckX9_stepl _ [(4, 20), (2, 2), (2, 14), (2, 15), (2, 16), (1, 12), (2, 17), (1, 3), (1, 4), (1, 9), (1, 10), (1, 11), (1, 13), (1, 14), (7, 0), (7, 1), (7, 2), (7, 3), (7, 4), (7, 5), (7, 6), (7, 7), (7, 8), (7, 9), (7, 10), (7, 11), (7, 12), (7, 13), (7, 14), (7, 15), (7, 16), (7, 17), (7, 18), (7, 19), (7, 20), (7, 21), (7, 22), (7, 23), (7, 24), (7, 25), (7, 26), (7, 27), (7, 28), (7, 29), (7, 30), (7, 31), (7, 32), (7, 33), (7, 34), (7, 35), (7, 36), (7, 37), (7, 38), (7, 39), (7, 40), (7, 41), (7, 42), (7, 43), (7, 44), (7, 45), (7, 46), (7, 47), (7, 48), (7, 49), (7, 50), (7, 51), (7, 52), (7, 53), (7, 54), (7, 55), (7, 56), (7, 57), (7, 58), (7, 59), (7, 60), (7, 61)] rfl (by decide +kernel)
set_option maxRecDepth 20000 in
theorem gX9_step_X9_computes : GoodIn wsX9_step (wsV RX9 319 RX9 yX9_computes wsX9_computes) := goodIn_app (goodIn_of _ (by decide +kernel)) ggX9_step_X9_computes
set_option maxRecDepth 20000 in
theorem ggX9_step_X9_converts : GoodIn wsX9_step wsX9_converts := goodIn_t ckX9_step ckX9_stepl _ [(5, 0), (2, 14), (2, 15), (2, 16), (1, 12), (2, 17), (1, 3), (1, 4), (1, 9), (1, 10), (1, 11), (1, 13), (1, 14), (7, 0), (7, 1), (7, 2), (7, 3), (7, 4), (7, 5), (7, 6), (7, 7), (7, 8), (7, 9), (7, 10), (7, 11), (7, 12), (7, 13), (7, 14), (7, 15), (7, 16), (7, 17), (7, 18), (7, 19), (7, 20), (7, 21), (7, 22), (7, 23), (7, 24), (7, 25), (7, 26), (7, 27), (7, 28), (7, 29), (7, 30), (7, 31), (7, 32), (7, 33), (7, 34), (7, 35), (7, 36), (7, 37), (7, 38), (7, 39), (7, 40), (7, 41), (7, 42), (7, 43), (7, 44), (7, 45), (7, 46), (7, 47), (7, 48), (7, 49), (7, 50), (7, 51), (7, 52), (7, 53), (7, 54), (7, 55), (7, 56), (7, 57), (7, 58), (7, 59), (7, 60), (7, 61)] rfl (by decide +kernel)
set_option maxRecDepth 20000 in
theorem gX9_step_X9_converts : GoodIn wsX9_step (wsV RX9 322 RX9 yX9_converts wsX9_converts) := goodIn_app (goodIn_of _ (by decide +kernel)) ggX9_step_X9_converts
set_option maxRecDepth 20000 in
theorem ggX9_step_X9_pop : GoodIn wsX9_step wsX9_pop := goodIn_t ckX9_step ckX9_stepl _ [(2, 17), (1, 3), (1, 4), (7, 0), (7, 1), (7, 2), (7, 3), (7, 4), (7, 5), (7, 6), (7, 7), (7, 8), (7, 9), (7, 10), (7, 11), (7, 12), (7, 13), (7, 14), (7, 15), (7, 16), (7, 17), (7, 18), (7, 19), (7, 20), (7, 21), (7, 22), (7, 23), (7, 24), (7, 25), (7, 26), (7, 27), (7, 28), (7, 29), (7, 30), (7, 31), (7, 32), (7, 33), (7, 34), (7, 35), (7, 36), (7, 37), (7, 38), (7, 39), (7, 40), (7, 41), (7, 42), (7, 43), (7, 44), (7, 45), (7, 46), (7, 47), (7, 48), (7, 49), (7, 50), (7, 51), (7, 52), (7, 53), (7, 54), (7, 55), (7, 56), (7, 57), (7, 58), (7, 59), (7, 60), (7, 61)] rfl (by decide +kernel)
set_option maxRecDepth 20000 in
theorem gX9_step_X9_pop : GoodIn wsX9_step (wsV RX9 225 RX9 yX9_pop wsX9_pop) := goodIn_app (goodIn_of _ (by decide +kernel)) ggX9_step_X9_pop
set_option maxRecDepth 20000 in
theorem ggX9_step_X9_popRef : GoodIn wsX9_step wsX9_popRef := goodIn_t ckX9_step ckX9_stepl _ [(5, 4), (1, 3), (1, 4), (2, 3), (2, 4), (1, 12), (2, 5), (7, 0), (7, 1), (7, 2), (7, 3), (7, 4), (7, 5), (7, 6), (7, 7), (7, 8), (7, 9), (7, 10), (7, 11), (7, 12), (7, 13), (7, 14), (7, 15), (7, 16), (7, 17), (7, 18), (7, 19), (7, 20), (7, 21), (7, 22), (7, 23), (7, 24), (7, 25), (7, 26), (7, 27), (7, 28), (7, 29), (7, 30), (7, 31), (7, 32), (7, 33), (7, 34), (7, 35), (7, 36), (7, 37), (7, 38), (7, 39), (7, 40), (7, 41), (7, 42), (7, 43), (7, 44), (7, 45), (7, 46), (7, 47), (7, 48), (7, 49), (7, 50), (7, 51), (7, 52), (7, 53), (7, 54), (7, 55), (7, 56), (7, 57), (7, 58), (7, 59), (7, 60), (7, 61)] rfl (by decide +kernel)
set_option maxRecDepth 20000 in
theorem gX9_step_X9_popRef : GoodIn wsX9_step (wsV RX9 325 RX9 yX9_popRef wsX9_popRef) := goodIn_app (goodIn_of _ (by decide +kernel)) ggX9_step_X9_popRef
set_option maxRecDepth 20000 in
theorem ggX9_step_X9_returns : GoodIn wsX9_step wsX9_returns := goodIn_t ckX9_step ckX9_stepl _ [(5, 8), (5, 9), (5, 10), (5, 11), (2, 2), (1, 15), (1, 16), (1, 12), (1, 17), (1, 18), (1, 19), (1, 20), (1, 21), (3, 10), (3, 11), (3, 12), (3, 13), (1, 3), (1, 4), (3, 14), (3, 15), (3, 16), (3, 17), (1, 7), (2, 14), (2, 15), (2, 16), (2, 17), (3, 18), (3, 19), (3, 20), (3, 21), (3, 22), (3, 23), (4, 0), (4, 1), (4, 2), (4, 3), (7, 0), (7, 1), (7, 2), (7, 3), (7, 4), (7, 5), (7, 6), (7, 7), (7, 8), (7, 9), (7, 10), (7, 11), (7, 12), (7, 13), (7, 14), (7, 15), (7, 16), (7, 17), (7, 18), (7, 19), (7, 20), (7, 21), (7, 22), (7, 23), (7, 24), (7, 25), (7, 26), (7, 27), (7, 28), (7, 29), (7, 30), (7, 31), (7, 32), (7, 33), (7, 34), (7, 35), (7, 36), (7, 37), (7, 38), (7, 39), (7, 40), (7, 41), (7, 42), (7, 43), (7, 44), (7, 45), (7, 46), (7, 47), (7, 48), (7, 49), (7, 50), (7, 51), (7, 52), (7, 53), (7, 54), (7, 55), (7, 56), (7, 57), (7, 58), (7, 59), (7, 60), (7, 61)] rfl (by decide +kernel)
set_option maxRecDepth 20000 in
theorem gX9_step_X9_returns : GoodIn wsX9_step (wsV RX9 328 RX9 yX9_returns wsX9_returns) := goodIn_app (goodIn_of _ (by decide +kernel)) ggX9_step_X9_returns
set_option maxRecDepth 20000 in
theorem ggX9_step_X9_fieldStep : GoodIn wsX9_step wsX9_fieldStep := goodIn_t ckX9_step ckX9_stepl _ [(5, 15), (5, 16), (5, 17), (1, 3), (1, 4), (5, 18), (1, 15), (1, 16), (1, 12), (1, 17), (1, 18), (1, 19), (1, 20), (1, 21), (1, 9), (1, 10), (1, 11), (1, 13), (1, 14), (3, 10), (3, 11), (3, 12), (3, 13), (3, 14), (3, 15), (3, 16), (3, 17), (1, 7), (2, 14), (2, 15), (2, 16), (2, 17), (3, 18), (3, 19), (3, 20), (3, 21), (3, 22), (3, 23), (4, 0), (4, 1), (4, 2), (4, 3), (7, 0), (7, 1), (7, 2), (7, 3), (7, 4), (7, 5), (7, 6), (7, 7), (7, 8), (7, 9), (7, 10), (7, 11), (7, 12), (7, 13), (7, 14), (7, 15), (7, 16), (7, 17), (7, 18), (7, 19), (7, 20), (7, 21), (7, 22), (7, 23), (7, 24), (7, 25), (7, 26), (7, 27), (7, 28), (7, 29), (7, 30), (7, 31), (7, 32), (7, 33), (7, 34), (7, 35), (7, 36), (7, 37), (7, 38), (7, 39), (7, 40), (7, 41), (7, 42), (7, 43), (7, 44), (7, 45), (7, 46), (7, 47), (7, 48), (7, 49), (7, 50), (7, 51), (7, 52), (7, 53), (7, 54), (7, 55), (7, 56), (7, 57), (7, 58), (7, 59), (7, 60), (7, 61)] rfl (by decide +kernel)
set_option maxRecDepth 20000 in
theorem gX9_step_X9_fieldStep : GoodIn wsX9_step (wsV RX9 331 RX9 yX9_fieldStep wsX9_fieldStep) := goodIn_app (goodIn_of _ (by decide +kernel)) ggX9_step_X9_fieldStep
set_option maxRecDepth 20000 in
theorem ggX9_step_X9_calls : GoodIn wsX9_step wsX9_calls := goodIn_t ckX9_step ckX9_stepl _ [(5, 22), (5, 23), (6, 0), (6, 1), (6, 2), (5, 18), (3, 22), (6, 3), (3, 10), (3, 11), (3, 12), (1, 12), (3, 13), (1, 3), (1, 4), (3, 14), (3, 15), (3, 16), (3, 17), (1, 18), (1, 7), (1, 15), (1, 16), (1, 17), (1, 19), (1, 20), (1, 21), (2, 14), (2, 15), (2, 16), (2, 17), (3, 18), (3, 19), (3, 20), (3, 21), (3, 23), (4, 0), (4, 1), (4, 2), (4, 3), (6, 4), (6, 5), (6, 6), (6, 7), (5, 11), (1, 1), (1, 5), (1, 2), (1, 9), (1, 10), (1, 11), (1, 13), (1, 14), (7, 0), (7, 1), (7, 2), (7, 3), (7, 4), (7, 5), (7, 6), (7, 7), (7, 8), (7, 9), (7, 10), (7, 11), (7, 12), (7, 13), (7, 14), (7, 15), (7, 16), (7, 17), (7, 18), (7, 19), (7, 20), (7, 21), (7, 22), (7, 23), (7, 24), (7, 25), (7, 26), (7, 27), (7, 28), (7, 29), (7, 30), (7, 31), (7, 32), (7, 33), (7, 34), (7, 35), (7, 36), (7, 37), (7, 38), (7, 39), (7, 40), (7, 41), (7, 42), (7, 43), (7, 44), (7, 45), (7, 46), (7, 47), (7, 48), (7, 49), (7, 50), (7, 51), (7, 52), (7, 53), (7, 54), (7, 55), (7, 56), (7, 57), (7, 58), (7, 59), (7, 60), (7, 61)] rfl (by decide +kernel)
set_option maxRecDepth 20000 in
theorem gX9_step_X9_calls : GoodIn wsX9_step (wsV RX9 334 RX9 yX9_calls wsX9_calls) := goodIn_app (goodIn_of _ (by decide +kernel)) ggX9_step_X9_calls
set_option maxRecDepth 20000 in
theorem ggX9_step_X9_popType : GoodIn wsX9_step wsX9_popType := goodIn_t ckX9_step ckX9_stepl _ [(3, 13), (1, 3), (1, 4), (3, 14), (3, 15), (3, 16), (1, 12), (3, 17), (1, 18), (1, 7), (1, 15), (1, 16), (1, 17), (1, 19), (1, 20), (1, 21), (2, 14), (2, 15), (2, 16), (2, 17), (3, 18), (3, 19), (3, 20), (3, 21), (3, 22), (3, 23), (4, 0), (4, 1), (4, 2), (4, 3), (7, 0), (7, 1), (7, 2), (7, 3), (7, 4), (7, 5), (7, 6), (7, 7), (7, 8), (7, 9), (7, 10), (7, 11), (7, 12), (7, 13), (7, 14), (7, 15), (7, 16), (7, 17), (7, 18), (7, 19), (7, 20), (7, 21), (7, 22), (7, 23), (7, 24), (7, 25), (7, 26), (7, 27), (7, 28), (7, 29), (7, 30), (7, 31), (7, 32), (7, 33), (7, 34), (7, 35), (7, 36), (7, 37), (7, 38), (7, 39), (7, 40), (7, 41), (7, 42), (7, 43), (7, 44), (7, 45), (7, 46), (7, 47), (7, 48), (7, 49), (7, 50), (7, 51), (7, 52), (7, 53), (7, 54), (7, 55), (7, 56), (7, 57), (7, 58), (7, 59), (7, 60), (7, 61)] rfl (by decide +kernel)
set_option maxRecDepth 20000 in
theorem gX9_step_X9_popType : GoodIn wsX9_step (wsV RX9 338 RX9 yX9_popType wsX9_popType) := goodIn_app (goodIn_of _ (by decide +kernel)) ggX9_step_X9_popType
theorem dX9_step_0 : decode cX9_step 0 = .ok (.aload_n 0, 1) := by decide +kernel
theorem dX9_step_1 : decode cX9_step 1 = .ok (.getfield 51, 3) := by decide +kernel
theorem dX9_step_4 : decode cX9_step 4 = .ok (.iload_n 1, 1) := by decide +kernel
theorem dX9_step_5 : decode cX9_step 5 = .ok (.iaload, 1) := by decide +kernel
theorem dX9_step_6 : decode cX9_step 6 = .ok (.istore_n 2, 1) := by decide +kernel
theorem dX9_step_7 : decode cX9_step 7 = .ok (.aload_n 0, 1) := by decide +kernel
theorem dX9_step_8 : decode cX9_step 8 = .ok (.getfield 54, 3) := by decide +kernel
theorem dX9_step_11 : decode cX9_step 11 = .ok (.iload_n 1, 1) := by decide +kernel
theorem dX9_step_12 : decode cX9_step 12 = .ok (.iaload, 1) := by decide +kernel
theorem dX9_step_13 : decode cX9_step 13 = .ok (.istore_n 3, 1) := by decide +kernel
theorem dX9_step_14 : decode cX9_step 14 = .ok (.iload_n 2, 1) := by decide +kernel
theorem dX9_step_15 : decode cX9_step 15 = .ok (.iconst 1, 1) := by decide +kernel
theorem dX9_step_16 : decode cX9_step 16 = .ok (.if_icmp .gt 21, 3) := by decide +kernel
theorem dX9_step_19 : decode cX9_step 19 = .ok (.iload_n 2, 1) := by decide +kernel
theorem dX9_step_20 : decode cX9_step 20 = .ok (.ifCond .eq 11, 3) := by decide +kernel
theorem dX9_step_23 : decode cX9_step 23 = .ok (.aload_n 0, 1) := by decide +kernel
theorem dX9_step_24 : decode cX9_step 24 = .ok (.iconst 5, 1) := by decide +kernel
theorem dX9_step_25 : decode cX9_step 25 = .ok (.invokevirtual 295, 3) := by decide +kernel
theorem dX9_step_28 : decode cX9_step 28 = .ok (.ifCond .eq 7, 3) := by decide +kernel
theorem dX9_step_31 : decode cX9_step 31 = .ok (.iconst 1, 1) := by decide +kernel
theorem dX9_step_32 : decode cX9_step 32 = .ok (.goto 4, 3) := by decide +kernel
theorem dX9_step_35 : decode cX9_step 35 = .ok (.iconst 0, 1) := by decide +kernel
theorem dX9_step_36 : decode cX9_step 36 = .ok (.ireturn, 1) := by decide +kernel
theorem dX9_step_37 : decode cX9_step 37 = .ok (.iload_n 2, 1) := by decide +kernel
theorem dX9_step_38 : decode cX9_step 38 = .ok (.bipush 17, 2) := by decide +kernel
theorem dX9_step_40 : decode cX9_step 40 = .ok (.if_icmp .gt 45, 3) := by decide +kernel
theorem dX9_step_43 : decode cX9_step 43 = .ok (.aload_n 0, 1) := by decide +kernel
theorem dX9_step_44 : decode cX9_step 44 = .ok (.iload_n 2, 1) := by decide +kernel
theorem dX9_step_45 : decode cX9_step 45 = .ok (.bipush 8, 2) := by decide +kernel
theorem dX9_step_47 : decode cX9_step 47 = .ok (.if_icmp .le 9, 3) := by decide +kernel
theorem dX9_step_50 : decode cX9_step 50 = .ok (.iload_n 2, 1) := by decide +kernel
theorem dX9_step_51 : decode cX9_step 51 = .ok (.bipush 16, 2) := by decide +kernel
theorem dX9_step_53 : decode cX9_step 53 = .ok (.if_icmp .lt 7, 3) := by decide +kernel
theorem dX9_step_56 : decode cX9_step 56 = .ok (.iconst 1, 1) := by decide +kernel
theorem dX9_step_57 : decode cX9_step 57 = .ok (.goto 24, 3) := by decide +kernel
theorem dX9_step_60 : decode cX9_step 60 = .ok (.iload_n 2, 1) := by decide +kernel
theorem dX9_step_61 : decode cX9_step 61 = .ok (.bipush 10, 2) := by decide +kernel
theorem dX9_step_63 : decode cX9_step 63 = .ok (.if_icmp .gt 7, 3) := by decide +kernel
theorem dX9_step_66 : decode cX9_step 66 = .ok (.iconst 3, 1) := by decide +kernel
theorem dX9_step_67 : decode cX9_step 67 = .ok (.goto 14, 3) := by decide +kernel
theorem dX9_step_70 : decode cX9_step 70 = .ok (.iload_n 2, 1) := by decide +kernel
theorem dX9_step_71 : decode cX9_step 71 = .ok (.bipush 13, 2) := by decide +kernel
theorem dX9_step_73 : decode cX9_step 73 = .ok (.if_icmp .gt 7, 3) := by decide +kernel
theorem dX9_step_76 : decode cX9_step 76 = .ok (.iconst 2, 1) := by decide +kernel
theorem dX9_step_77 : decode cX9_step 77 = .ok (.goto 4, 3) := by decide +kernel
theorem dX9_step_80 : decode cX9_step 80 = .ok (.iconst 4, 1) := by decide +kernel
theorem dX9_step_81 : decode cX9_step 81 = .ok (.invokevirtual 295, 3) := by decide +kernel
theorem dX9_step_84 : decode cX9_step 84 = .ok (.ireturn, 1) := by decide +kernel
theorem dX9_step_85 : decode cX9_step 85 = .ok (.iload_n 2, 1) := by decide +kernel
theorem dX9_step_86 : decode cX9_step 86 = .ok (.bipush 20, 2) := by decide +kernel
theorem dX9_step_88 : decode cX9_step 88 = .ok (.if_icmp .gt 12, 3) := by decide +kernel
theorem dX9_step_91 : decode cX9_step 91 = .ok (.aload_n 0, 1) := by decide +kernel
theorem dX9_step_92 : decode cX9_step 92 = .ok (.iload_n 3, 1) := by decide +kernel
theorem dX9_step_93 : decode cX9_step 93 = .ok (.invokestatic 221, 3) := by decide +kernel
theorem dX9_step_96 : decode cX9_step 96 = .ok (.invokevirtual 295, 3) := by decide +kernel
theorem dX9_step_99 : decode cX9_step 99 = .ok (.ireturn, 1) := by decide +kernel
theorem dX9_step_100 : decode cX9_step 100 = .ok (.iload_n 2, 1) := by decide +kernel
theorem dX9_step_101 : decode cX9_step 101 = .ok (.bipush 25, 2) := by decide +kernel
theorem dX9_step_103 : decode cX9_step 103 = .ok (.if_icmp .gt 13, 3) := by decide +kernel
theorem dX9_step_106 : decode cX9_step 106 = .ok (.aload_n 0, 1) := by decide +kernel
theorem dX9_step_107 : decode cX9_step 107 = .ok (.iload_n 2, 1) := by decide +kernel
theorem dX9_step_108 : decode cX9_step 108 = .ok (.bipush 21, 2) := by decide +kernel
theorem dX9_step_110 : decode cX9_step 110 = .ok (.isub, 1) := by decide +kernel
theorem dX9_step_111 : decode cX9_step 111 = .ok (.iload_n 3, 1) := by decide +kernel
theorem dX9_step_112 : decode cX9_step 112 = .ok (.invokevirtual 304, 3) := by decide +kernel
theorem dX9_step_115 : decode cX9_step 115 = .ok (.ireturn, 1) := by decide +kernel
theorem dX9_step_116 : decode cX9_step 116 = .ok (.iload_n 2, 1) := by decide +kernel
theorem dX9_step_117 : decode cX9_step 117 = .ok (.bipush 53, 2) := by decide +kernel
theorem dX9_step_119 : decode cX9_step 119 = .ok (.if_icmp .gt 9, 3) := by decide +kernel
theorem dX9_step_122 : decode cX9_step 122 = .ok (.aload_n 0, 1) := by decide +kernel
theorem dX9_step_123 : decode cX9_step 123 = .ok (.iload_n 2, 1) := by decide +kernel
theorem dX9_step_124 : decode cX9_step 124 = .ok (.invokevirtual 307, 3) := by decide +kernel
theorem dX9_step_127 : decode cX9_step 127 = .ok (.ireturn, 1) := by decide +kernel
theorem dX9_step_128 : decode cX9_step 128 = .ok (.iload_n 2, 1) := by decide +kernel
theorem dX9_step_129 : decode cX9_step 129 = .ok (.bipush 58, 2) := by decide +kernel
theorem dX9_step_131 : decode cX9_step 131 = .ok (.if_icmp .gt 13, 3) := by decide +kernel
theorem dX9_step_134 : decode cX9_step 134 = .ok (.aload_n 0, 1) := by decide +kernel
theorem dX9_step_135 : decode cX9_step 135 = .ok (.iload_n 2, 1) := by decide +kernel
theorem dX9_step_136 : decode cX9_step 136 = .ok (.bipush 54, 2) := by decide +kernel
theorem dX9_step_138 : decode cX9_step 138 = .ok (.isub, 1) := by decide +kernel
theorem dX9_step_139 : decode cX9_step 139 = .ok (.iload_n 3, 1) := by decide +kernel
theorem dX9_step_140 : decode cX9_step 140 = .ok (.invokevirtual 310, 3) := by decide +kernel
theorem dX9_step_143 : decode cX9_step 143 = .ok (.ireturn, 1) := by decide +kernel
theorem dX9_step_144 : decode cX9_step 144 = .ok (.iload_n 2, 1) := by decide +kernel
theorem dX9_step_145 : decode cX9_step 145 = .ok (.bipush 86, 2) := by decide +kernel
theorem dX9_step_147 : decode cX9_step 147 = .ok (.if_icmp .gt 9, 3) := by decide +kernel
theorem dX9_step_150 : decode cX9_step 150 = .ok (.aload_n 0, 1) := by decide +kernel
theorem dX9_step_151 : decode cX9_step 151 = .ok (.iload_n 2, 1) := by decide +kernel
theorem dX9_step_152 : decode cX9_step 152 = .ok (.invokevirtual 313, 3) := by decide +kernel
theorem dX9_step_155 : decode cX9_step 155 = .ok (.ireturn, 1) := by decide +kernel
theorem dX9_step_156 : decode cX9_step 156 = .ok (.iload_n 2, 1) := by decide +kernel
theorem dX9_step_157 : decode cX9_step 157 = .ok (.bipush 95, 2) := by decide +kernel
theorem dX9_step_159 : decode cX9_step 159 = .ok (.if_icmp .gt 9, 3) := by decide +kernel
theorem dX9_step_162 : decode cX9_step 162 = .ok (.aload_n 0, 1) := by decide +kernel
theorem dX9_step_163 : decode cX9_step 163 = .ok (.iload_n 2, 1) := by decide +kernel
theorem dX9_step_164 : decode cX9_step 164 = .ok (.invokevirtual 316, 3) := by decide +kernel
theorem dX9_step_167 : decode cX9_step 167 = .ok (.ireturn, 1) := by decide +kernel
theorem dX9_step_168 : decode cX9_step 168 = .ok (.iload_n 2, 1) := by decide +kernel
theorem dX9_step_169 : decode cX9_step 169 = .ok (.sipush 131, 3) := by decide +kernel
theorem dX9_step_172 : decode cX9_step 172 = .ok (.if_icmp .gt 9, 3) := by decide +kernel
theorem dX9_step_175 : decode cX9_step 175 = .ok (.aload_n 0, 1) := by decide +kernel
theorem dX9_step_176 : decode cX9_step 176 = .ok (.iload_n 2, 1) := by decide +kernel
theorem dX9_step_177 : decode cX9_step 177 = .ok (.invokevirtual 319, 3) := by decide +kernel
theorem dX9_step_180 : decode cX9_step 180 = .ok (.ireturn, 1) := by decide +kernel
theorem dX9_step_181 : decode cX9_step 181 = .ok (.iload_n 2, 1) := by decide +kernel
theorem dX9_step_182 : decode cX9_step 182 = .ok (.sipush 132, 3) := by decide +kernel
theorem dX9_step_185 : decode cX9_step 185 = .ok (.if_icmp .ne 19, 3) := by decide +kernel
theorem dX9_step_188 : decode cX9_step 188 = .ok (.aload_n 0, 1) := by decide +kernel
theorem dX9_step_189 : decode cX9_step 189 = .ok (.getfield 82, 3) := by decide +kernel
theorem dX9_step_192 : decode cX9_step 192 = .ok (.iload_n 3, 1) := by decide +kernel
theorem dX9_step_193 : decode cX9_step 193 = .ok (.iaload, 1) := by decide +kernel
theorem dX9_step_194 : decode cX9_step 194 = .ok (.iconst 1, 1) := by decide +kernel
theorem dX9_step_195 : decode cX9_step 195 = .ok (.if_icmp .ne 7, 3) := by decide +kernel
theorem dX9_step_198 : decode cX9_step 198 = .ok (.iconst 1, 1) := by decide +kernel
theorem dX9_step_199 : decode cX9_step 199 = .ok (.goto 4, 3) := by decide +kernel
theorem dX9_step_202 : decode cX9_step 202 = .ok (.iconst 0, 1) := by decide +kernel
theorem dX9_step_203 : decode cX9_step 203 = .ok (.ireturn, 1) := by decide +kernel
theorem dX9_step_204 : decode cX9_step 204 = .ok (.iload_n 2, 1) := by decide +kernel
theorem dX9_step_205 : decode cX9_step 205 = .ok (.sipush 152, 3) := by decide +kernel
theorem dX9_step_208 : decode cX9_step 208 = .ok (.if_icmp .gt 9, 3) := by decide +kernel
theorem dX9_step_211 : decode cX9_step 211 = .ok (.aload_n 0, 1) := by decide +kernel
theorem dX9_step_212 : decode cX9_step 212 = .ok (.iload_n 2, 1) := by decide +kernel
theorem dX9_step_213 : decode cX9_step 213 = .ok (.invokevirtual 322, 3) := by decide +kernel
theorem dX9_step_216 : decode cX9_step 216 = .ok (.ireturn, 1) := by decide +kernel
theorem dX9_step_217 : decode cX9_step 217 = .ok (.iload_n 2, 1) := by decide +kernel
theorem dX9_step_218 : decode cX9_step 218 = .ok (.sipush 158, 3) := by decide +kernel
theorem dX9_step_221 : decode cX9_step 221 = .ok (.if_icmp .gt 9, 3) := by decide +kernel
theorem dX9_step_224 : decode cX9_step 224 = .ok (.aload_n 0, 1) := by decide +kernel
theorem dX9_step_225 : decode cX9_step 225 = .ok (.iconst 1, 1) := by decide +kernel
theorem dX9_step_226 : decode cX9_step 226 = .ok (.invokevirtual 225, 3) := by decide +kernel
theorem dX9_step_229 : decode cX9_step 229 = .ok (.ireturn, 1) := by decide +kernel
theorem dX9_step_230 : decode cX9_step 230 = .ok (.iload_n 2, 1) := by decide +kernel
theorem dX9_step_231 : decode cX9_step 231 = .ok (.sipush 164, 3) := by decide +kernel
theorem dX9_step_234 : decode cX9_step 234 = .ok (.if_icmp .gt 25, 3) := by decide +kernel
theorem dX9_step_237 : decode cX9_step 237 = .ok (.aload_n 0, 1) := by decide +kernel
theorem dX9_step_238 : decode cX9_step 238 = .ok (.iconst 1, 1) := by decide +kernel
theorem dX9_step_239 : decode cX9_step 239 = .ok (.invokevirtual 225, 3) := by decide +kernel
theorem dX9_step_242 : decode cX9_step 242 = .ok (.ifCond .eq 15, 3) := by decide +kernel
theorem dX9_step_245 : decode cX9_step 245 = .ok (.aload_n 0, 1) := by decide +kernel
theorem dX9_step_246 : decode cX9_step 246 = .ok (.iconst 1, 1) := by decide +kernel
theorem dX9_step_247 : decode cX9_step 247 = .ok (.invokevirtual 225, 3) := by decide +kernel
theorem dX9_step_250 : decode cX9_step 250 = .ok (.ifCond .eq 7, 3) := by decide +kernel
theorem dX9_step_253 : decode cX9_step 253 = .ok (.iconst 1, 1) := by decide +kernel
theorem dX9_step_254 : decode cX9_step 254 = .ok (.goto 4, 3) := by decide +kernel
theorem dX9_step_257 : decode cX9_step 257 = .ok (.iconst 0, 1) := by decide +kernel
theorem dX9_step_258 : decode cX9_step 258 = .ok (.ireturn, 1) := by decide +kernel
theorem dX9_step_259 : decode cX9_step 259 = .ok (.iload_n 2, 1) := by decide +kernel
theorem dX9_step_260 : decode cX9_step 260 = .ok (.sipush 166, 3) := by decide +kernel
theorem dX9_step_263 : decode cX9_step 263 = .ok (.if_icmp .gt 23, 3) := by decide +kernel
theorem dX9_step_266 : decode cX9_step 266 = .ok (.aload_n 0, 1) := by decide +kernel
theorem dX9_step_267 : decode cX9_step 267 = .ok (.invokevirtual 325, 3) := by decide +kernel
theorem dX9_step_270 : decode cX9_step 270 = .ok (.ifCond .eq 14, 3) := by decide +kernel
theorem dX9_step_273 : decode cX9_step 273 = .ok (.aload_n 0, 1) := by decide +kernel
theorem dX9_step_274 : decode cX9_step 274 = .ok (.invokevirtual 325, 3) := by decide +kernel
theorem dX9_step_277 : decode cX9_step 277 = .ok (.ifCond .eq 7, 3) := by decide +kernel
theorem dX9_step_280 : decode cX9_step 280 = .ok (.iconst 1, 1) := by decide +kernel
theorem dX9_step_281 : decode cX9_step 281 = .ok (.goto 4, 3) := by decide +kernel
theorem dX9_step_284 : decode cX9_step 284 = .ok (.iconst 0, 1) := by decide +kernel
theorem dX9_step_285 : decode cX9_step 285 = .ok (.ireturn, 1) := by decide +kernel
theorem dX9_step_286 : decode cX9_step 286 = .ok (.iload_n 2, 1) := by decide +kernel
theorem dX9_step_287 : decode cX9_step 287 = .ok (.sipush 167, 3) := by decide +kernel
theorem dX9_step_290 : decode cX9_step 290 = .ok (.if_icmp .ne 5, 3) := by decide +kernel
theorem dX9_step_293 : decode cX9_step 293 = .ok (.iconst 1, 1) := by decide +kernel
theorem dX9_step_294 : decode cX9_step 294 = .ok (.ireturn, 1) := by decide +kernel
theorem dX9_step_295 : decode cX9_step 295 = .ok (.iload_n 2, 1) := by decide +kernel
theorem dX9_step_296 : decode cX9_step 296 = .ok (.sipush 171, 3) := by decide +kernel
theorem dX9_step_299 : decode cX9_step 299 = .ok (.if_icmp .gt 9, 3) := by decide +kernel
theorem dX9_step_302 : decode cX9_step 302 = .ok (.aload_n 0, 1) := by decide +kernel
theorem dX9_step_303 : decode cX9_step 303 = .ok (.iconst 1, 1) := by decide +kernel
theorem dX9_step_304 : decode cX9_step 304 = .ok (.invokevirtual 225, 3) := by decide +kernel
theorem dX9_step_307 : decode cX9_step 307 = .ok (.ireturn, 1) := by decide +kernel
theorem dX9_step_308 : decode cX9_step 308 = .ok (.iload_n 2, 1) := by decide +kernel
theorem dX9_step_309 : decode cX9_step 309 = .ok (.sipush 177, 3) := by decide +kernel
theorem dX9_step_312 : decode cX9_step 312 = .ok (.if_icmp .gt 9, 3) := by decide +kernel
theorem dX9_step_315 : decode cX9_step 315 = .ok (.aload_n 0, 1) := by decide +kernel
theorem dX9_step_316 : decode cX9_step 316 = .ok (.iload_n 2, 1) := by decide +kernel
theorem dX9_step_317 : decode cX9_step 317 = .ok (.invokevirtual 328, 3) := by decide +kernel
theorem dX9_step_320 : decode cX9_step 320 = .ok (.ireturn, 1) := by decide +kernel
theorem dX9_step_321 : decode cX9_step 321 = .ok (.iload_n 2, 1) := by decide +kernel
theorem dX9_step_322 : decode cX9_step 322 = .ok (.sipush 181, 3) := by decide +kernel
theorem dX9_step_325 : decode cX9_step 325 = .ok (.if_icmp .gt 10, 3) := by decide +kernel
theorem dX9_step_328 : decode cX9_step 328 = .ok (.aload_n 0, 1) := by decide +kernel
theorem dX9_step_329 : decode cX9_step 329 = .ok (.iload_n 2, 1) := by decide +kernel
theorem dX9_step_330 : decode cX9_step 330 = .ok (.iload_n 3, 1) := by decide +kernel
theorem dX9_step_331 : decode cX9_step 331 = .ok (.invokevirtual 331, 3) := by decide +kernel
theorem dX9_step_334 : decode cX9_step 334 = .ok (.ireturn, 1) := by decide +kernel
theorem dX9_step_335 : decode cX9_step 335 = .ok (.iload_n 2, 1) := by decide +kernel
theorem dX9_step_336 : decode cX9_step 336 = .ok (.sipush 186, 3) := by decide +kernel
theorem dX9_step_339 : decode cX9_step 339 = .ok (.if_icmp .gt 10, 3) := by decide +kernel
theorem dX9_step_342 : decode cX9_step 342 = .ok (.aload_n 0, 1) := by decide +kernel
theorem dX9_step_343 : decode cX9_step 343 = .ok (.iload_n 2, 1) := by decide +kernel
theorem dX9_step_344 : decode cX9_step 344 = .ok (.iload_n 3, 1) := by decide +kernel
theorem dX9_step_345 : decode cX9_step 345 = .ok (.invokevirtual 334, 3) := by decide +kernel
theorem dX9_step_348 : decode cX9_step 348 = .ok (.ireturn, 1) := by decide +kernel
theorem dX9_step_349 : decode cX9_step 349 = .ok (.iload_n 2, 1) := by decide +kernel
theorem dX9_step_350 : decode cX9_step 350 = .ok (.tableswitch 352 187 199 #[66, 152, 184, 215, 291, 297, 325, 347, 347, 352, 352, 347, 347], 66) := by decide +kernel
theorem dX9_step_416 : decode cX9_step 416 = .ok (.bipush 16, 2) := by decide +kernel
theorem dX9_step_418 : decode cX9_step 418 = .ok (.iload_n 1, 1) := by decide +kernel
theorem dX9_step_419 : decode cX9_step 419 = .ok (.imul, 1) := by decide +kernel
theorem dX9_step_420 : decode cX9_step 420 = .ok (.bipush 9, 2) := by decide +kernel
theorem dX9_step_422 : decode cX9_step 422 = .ok (.iadd, 1) := by decide +kernel
theorem dX9_step_423 : decode cX9_step 423 = .ok (.istore 4, 2) := by decide +kernel
theorem dX9_step_425 : decode cX9_step 425 = .ok (.iconst 0, 1) := by decide +kernel
theorem dX9_step_426 : decode cX9_step 426 = .ok (.istore 5, 2) := by decide +kernel
theorem dX9_step_428 : decode cX9_step 428 = .ok (.iload 5, 2) := by decide +kernel
theorem dX9_step_430 : decode cX9_step 430 = .ok (.aload_n 0, 1) := by decide +kernel
theorem dX9_step_431 : decode cX9_step 431 = .ok (.getfield 215, 3) := by decide +kernel
theorem dX9_step_434 : decode cX9_step 434 = .ok (.if_icmp .ge 23, 3) := by decide +kernel
theorem dX9_step_437 : decode cX9_step 437 = .ok (.aload_n 0, 1) := by decide +kernel
theorem dX9_step_438 : decode cX9_step 438 = .ok (.getfield 85, 3) := by decide +kernel
theorem dX9_step_441 : decode cX9_step 441 = .ok (.iload 5, 2) := by decide +kernel
theorem dX9_step_443 : decode cX9_step 443 = .ok (.iaload, 1) := by decide +kernel
theorem dX9_step_444 : decode cX9_step 444 = .ok (.iload 4, 2) := by decide +kernel
theorem dX9_step_446 : decode cX9_step 446 = .ok (.if_icmp .ne 5, 3) := by decide +kernel
theorem dX9_step_449 : decode cX9_step 449 = .ok (.iconst 0, 1) := by decide +kernel
theorem dX9_step_450 : decode cX9_step 450 = .ok (.ireturn, 1) := by decide +kernel
theorem dX9_step_451 : decode cX9_step 451 = .ok (.iinc 5 1, 3) := by decide +kernel
theorem dX9_step_454 : decode cX9_step 454 = .ok (.goto (-26), 3) := by decide +kernel
theorem dX9_step_457 : decode cX9_step 457 = .ok (.iconst 0, 1) := by decide +kernel
theorem dX9_step_458 : decode cX9_step 458 = .ok (.istore 5, 2) := by decide +kernel
theorem dX9_step_460 : decode cX9_step 460 = .ok (.iload 5, 2) := by decide +kernel
theorem dX9_step_462 : decode cX9_step 462 = .ok (.aload_n 0, 1) := by decide +kernel
theorem dX9_step_463 : decode cX9_step 463 = .ok (.getfield 170, 3) := by decide +kernel
theorem dX9_step_466 : decode cX9_step 466 = .ok (.if_icmp .ge 29, 3) := by decide +kernel
theorem dX9_step_469 : decode cX9_step 469 = .ok (.aload_n 0, 1) := by decide +kernel
theorem dX9_step_470 : decode cX9_step 470 = .ok (.getfield 82, 3) := by decide +kernel
theorem dX9_step_473 : decode cX9_step 473 = .ok (.iload 5, 2) := by decide +kernel
theorem dX9_step_475 : decode cX9_step 475 = .ok (.iaload, 1) := by decide +kernel
theorem dX9_step_476 : decode cX9_step 476 = .ok (.iload 4, 2) := by decide +kernel
theorem dX9_step_478 : decode cX9_step 478 = .ok (.if_icmp .ne 11, 3) := by decide +kernel
theorem dX9_step_481 : decode cX9_step 481 = .ok (.aload_n 0, 1) := by decide +kernel
theorem dX9_step_482 : decode cX9_step 482 = .ok (.getfield 82, 3) := by decide +kernel
theorem dX9_step_485 : decode cX9_step 485 = .ok (.iload 5, 2) := by decide +kernel
theorem dX9_step_487 : decode cX9_step 487 = .ok (.iconst 0, 1) := by decide +kernel
theorem dX9_step_488 : decode cX9_step 488 = .ok (.iastore, 1) := by decide +kernel
theorem dX9_step_489 : decode cX9_step 489 = .ok (.iinc 5 1, 3) := by decide +kernel
theorem dX9_step_492 : decode cX9_step 492 = .ok (.goto (-32), 3) := by decide +kernel
theorem dX9_step_495 : decode cX9_step 495 = .ok (.aload_n 0, 1) := by decide +kernel
theorem dX9_step_496 : decode cX9_step 496 = .ok (.iload 4, 2) := by decide +kernel
theorem dX9_step_498 : decode cX9_step 498 = .ok (.invokevirtual 295, 3) := by decide +kernel
theorem dX9_step_501 : decode cX9_step 501 = .ok (.ireturn, 1) := by decide +kernel
theorem dX9_step_502 : decode cX9_step 502 = .ok (.aload_n 0, 1) := by decide +kernel
theorem dX9_step_503 : decode cX9_step 503 = .ok (.iconst 1, 1) := by decide +kernel
theorem dX9_step_504 : decode cX9_step 504 = .ok (.invokevirtual 225, 3) := by decide +kernel
theorem dX9_step_507 : decode cX9_step 507 = .ok (.ifCond .eq 25, 3) := by decide +kernel
theorem dX9_step_510 : decode cX9_step 510 = .ok (.aload_n 0, 1) := by decide +kernel
theorem dX9_step_511 : decode cX9_step 511 = .ok (.bipush 16, 2) := by decide +kernel
theorem dX9_step_513 : decode cX9_step 513 = .ok (.ldc_w 337, 3) := by decide +kernel
theorem dX9_step_516 : decode cX9_step 516 = .ok (.iload_n 3, 1) := by decide +kernel
theorem dX9_step_517 : decode cX9_step 517 = .ok (.iadd, 1) := by decide +kernel
theorem dX9_step_518 : decode cX9_step 518 = .ok (.imul, 1) := by decide +kernel
theorem dX9_step_519 : decode cX9_step 519 = .ok (.bipush 8, 2) := by decide +kernel
theorem dX9_step_521 : decode cX9_step 521 = .ok (.iadd, 1) := by decide +kernel
theorem dX9_step_522 : decode cX9_step 522 = .ok (.invokevirtual 295, 3) := by decide +kernel
theorem dX9_step_525 : decode cX9_step 525 = .ok (.ifCond .eq 7, 3) := by decide +kernel
theorem dX9_step_528 : decode cX9_step 528 = .ok (.iconst 1, 1) := by decide +kernel
theorem dX9_step_529 : decode cX9_step 529 = .ok (.goto 4, 3) := by decide +kernel
theorem dX9_step_532 : decode cX9_step 532 = .ok (.iconst 0, 1) := by decide +kernel
theorem dX9_step_533 : decode cX9_step 533 = .ok (.ireturn, 1) := by decide +kernel
theorem dX9_step_534 : decode cX9_step 534 = .ok (.aload_n 0, 1) := by decide +kernel
theorem dX9_step_535 : decode cX9_step 535 = .ok (.iconst 1, 1) := by decide +kernel
theorem dX9_step_536 : decode cX9_step 536 = .ok (.invokevirtual 225, 3) := by decide +kernel
theorem dX9_step_539 : decode cX9_step 539 = .ok (.ifCond .eq 24, 3) := by decide +kernel
theorem dX9_step_542 : decode cX9_step 542 = .ok (.aload_n 0, 1) := by decide +kernel
theorem dX9_step_543 : decode cX9_step 543 = .ok (.bipush 16, 2) := by decide +kernel
theorem dX9_step_545 : decode cX9_step 545 = .ok (.ldc 141, 2) := by decide +kernel
theorem dX9_step_547 : decode cX9_step 547 = .ok (.iload_n 3, 1) := by decide +kernel
theorem dX9_step_548 : decode cX9_step 548 = .ok (.iadd, 1) := by decide +kernel
theorem dX9_step_549 : decode cX9_step 549 = .ok (.imul, 1) := by decide +kernel
theorem dX9_step_550 : decode cX9_step 550 = .ok (.bipush 8, 2) := by decide +kernel
theorem dX9_step_552 : decode cX9_step 552 = .ok (.iadd, 1) := by decide +kernel
theorem dX9_step_553 : decode cX9_step 553 = .ok (.invokevirtual 295, 3) := by decide +kernel
theorem dX9_step_556 : decode cX9_step 556 = .ok (.ifCond .eq 7, 3) := by decide +kernel
theorem dX9_step_559 : decode cX9_step 559 = .ok (.iconst 1, 1) := by decide +kernel
theorem dX9_step_560 : decode cX9_step 560 = .ok (.goto 4, 3) := by decide +kernel
theorem dX9_step_563 : decode cX9_step 563 = .ok (.iconst 0, 1) := by decide +kernel
theorem dX9_step_564 : decode cX9_step 564 = .ok (.ireturn, 1) := by decide +kernel
theorem dX9_step_565 : decode cX9_step 565 = .ok (.aload_n 0, 1) := by decide +kernel
theorem dX9_step_566 : decode cX9_step 566 = .ok (.getfield 215, 3) := by decide +kernel
theorem dX9_step_569 : decode cX9_step 569 = .ok (.ifCond .eq 54, 3) := by decide +kernel
theorem dX9_step_572 : decode cX9_step 572 = .ok (.aload_n 0, 1) := by decide +kernel
theorem dX9_step_573 : decode cX9_step 573 = .ok (.getfield 85, 3) := by decide +kernel
theorem dX9_step_576 : decode cX9_step 576 = .ok (.aload_n 0, 1) := by decide +kernel
theorem dX9_step_577 : decode cX9_step 577 = .ok (.getfield 215, 3) := by decide +kernel
theorem dX9_step_580 : decode cX9_step 580 = .ok (.iconst 1, 1) := by decide +kernel
theorem dX9_step_581 : decode cX9_step 581 = .ok (.isub, 1) := by decide +kernel
theorem dX9_step_582 : decode cX9_step 582 = .ok (.iaload, 1) := by decide +kernel
theorem dX9_step_583 : decode cX9_step 583 = .ok (.iconst 5, 1) := by decide +kernel
theorem dX9_step_584 : decode cX9_step 584 = .ok (.if_icmp .eq 41, 3) := by decide +kernel
theorem dX9_step_587 : decode cX9_step 587 = .ok (.aload_n 0, 1) := by decide +kernel
theorem dX9_step_588 : decode cX9_step 588 = .ok (.getfield 85, 3) := by decide +kernel
theorem dX9_step_591 : decode cX9_step 591 = .ok (.aload_n 0, 1) := by decide +kernel
theorem dX9_step_592 : decode cX9_step 592 = .ok (.getfield 215, 3) := by decide +kernel
theorem dX9_step_595 : decode cX9_step 595 = .ok (.iconst 1, 1) := by decide +kernel
theorem dX9_step_596 : decode cX9_step 596 = .ok (.isub, 1) := by decide +kernel
theorem dX9_step_597 : decode cX9_step 597 = .ok (.iaload, 1) := by decide +kernel
theorem dX9_step_598 : decode cX9_step 598 = .ok (.bipush 15, 2) := by decide +kernel
theorem dX9_step_600 : decode cX9_step 600 = .ok (.iand, 1) := by decide +kernel
theorem dX9_step_601 : decode cX9_step 601 = .ok (.bipush 8, 2) := by decide +kernel
theorem dX9_step_603 : decode cX9_step 603 = .ok (.if_icmp .ne 20, 3) := by decide +kernel
theorem dX9_step_606 : decode cX9_step 606 = .ok (.aload_n 0, 1) := by decide +kernel
theorem dX9_step_607 : decode cX9_step 607 = .ok (.getfield 85, 3) := by decide +kernel
theorem dX9_step_610 : decode cX9_step 610 = .ok (.aload_n 0, 1) := by decide +kernel
theorem dX9_step_611 : decode cX9_step 611 = .ok (.getfield 215, 3) := by decide +kernel
theorem dX9_step_614 : decode cX9_step 614 = .ok (.iconst 1, 1) := by decide +kernel
theorem dX9_step_615 : decode cX9_step 615 = .ok (.isub, 1) := by decide +kernel
theorem dX9_step_616 : decode cX9_step 616 = .ok (.iaload, 1) := by decide +kernel
theorem dX9_step_617 : decode cX9_step 617 = .ok (.bipush 20, 2) := by decide +kernel
theorem dX9_step_619 : decode cX9_step 619 = .ok (.ishr, 1) := by decide +kernel
theorem dX9_step_620 : decode cX9_step 620 = .ok (.ifCond .ne 5, 3) := by decide +kernel
theorem dX9_step_623 : decode cX9_step 623 = .ok (.iconst 0, 1) := by decide +kernel
theorem dX9_step_624 : decode cX9_step 624 = .ok (.ireturn, 1) := by decide +kernel
theorem dX9_step_625 : decode cX9_step 625 = .ok (.aload_n 0, 1) := by decide +kernel
theorem dX9_step_626 : decode cX9_step 626 = .ok (.dup, 1) := by decide +kernel
theorem dX9_step_627 : decode cX9_step 627 = .ok (.getfield 215, 3) := by decide +kernel
theorem dX9_step_630 : decode cX9_step 630 = .ok (.iconst 1, 1) := by decide +kernel
theorem dX9_step_631 : decode cX9_step 631 = .ok (.isub, 1) := by decide +kernel
theorem dX9_step_632 : decode cX9_step 632 = .ok (.putfield 215, 3) := by decide +kernel
theorem dX9_step_635 : decode cX9_step 635 = .ok (.aload_n 0, 1) := by decide +kernel
theorem dX9_step_636 : decode cX9_step 636 = .ok (.iconst 1, 1) := by decide +kernel
theorem dX9_step_637 : decode cX9_step 637 = .ok (.invokevirtual 295, 3) := by decide +kernel
theorem dX9_step_640 : decode cX9_step 640 = .ok (.ireturn, 1) := by decide +kernel
theorem dX9_step_641 : decode cX9_step 641 = .ok (.aload_n 0, 1) := by decide +kernel
theorem dX9_step_642 : decode cX9_step 642 = .ok (.iconst 1, 1) := by decide +kernel
theorem dX9_step_643 : decode cX9_step 643 = .ok (.invokevirtual 338, 3) := by decide +kernel
theorem dX9_step_646 : decode cX9_step 646 = .ok (.ireturn, 1) := by decide +kernel
theorem dX9_step_647 : decode cX9_step 647 = .ok (.aload_n 0, 1) := by decide +kernel
theorem dX9_step_648 : decode cX9_step 648 = .ok (.iconst 0, 1) := by decide +kernel
theorem dX9_step_649 : decode cX9_step 649 = .ok (.invokevirtual 338, 3) := by decide +kernel
theorem dX9_step_652 : decode cX9_step 652 = .ok (.ifCond .eq 21, 3) := by decide +kernel
theorem dX9_step_655 : decode cX9_step 655 = .ok (.aload_n 0, 1) := by decide +kernel
theorem dX9_step_656 : decode cX9_step 656 = .ok (.bipush 16, 2) := by decide +kernel
theorem dX9_step_658 : decode cX9_step 658 = .ok (.iload_n 3, 1) := by decide +kernel
theorem dX9_step_659 : decode cX9_step 659 = .ok (.imul, 1) := by decide +kernel
theorem dX9_step_660 : decode cX9_step 660 = .ok (.bipush 8, 2) := by decide +kernel
theorem dX9_step_662 : decode cX9_step 662 = .ok (.iadd, 1) := by decide +kernel
theorem dX9_step_663 : decode cX9_step 663 = .ok (.invokevirtual 295, 3) := by decide +kernel
theorem dX9_step_666 : decode cX9_step 666 = .ok (.ifCond .eq 7, 3) := by decide +kernel
theorem dX9_step_669 : decode cX9_step 669 = .ok (.iconst 1, 1) := by decide +kernel
theorem dX9_step_670 : decode cX9_step 670 = .ok (.goto 4, 3) := by decide +kernel
theorem dX9_step_673 : decode cX9_step 673 = .ok (.iconst 0, 1) := by decide +kernel
theorem dX9_step_674 : decode cX9_step 674 = .ok (.ireturn, 1) := by decide +kernel
theorem dX9_step_675 : decode cX9_step 675 = .ok (.aload_n 0, 1) := by decide +kernel
theorem dX9_step_676 : decode cX9_step 676 = .ok (.iconst 0, 1) := by decide +kernel
theorem dX9_step_677 : decode cX9_step 677 = .ok (.invokevirtual 338, 3) := by decide +kernel
theorem dX9_step_680 : decode cX9_step 680 = .ok (.ifCond .eq 15, 3) := by decide +kernel
theorem dX9_step_683 : decode cX9_step 683 = .ok (.aload_n 0, 1) := by decide +kernel
theorem dX9_step_684 : decode cX9_step 684 = .ok (.iconst 1, 1) := by decide +kernel
theorem dX9_step_685 : decode cX9_step 685 = .ok (.invokevirtual 295, 3) := by decide +kernel
theorem dX9_step_688 : decode cX9_step 688 = .ok (.ifCond .eq 7, 3) := by decide +kernel
theorem dX9_step_691 : decode cX9_step 691 = .ok (.iconst 1, 1) := by decide +kernel
theorem dX9_step_692 : decode cX9_step 692 = .ok (.goto 4, 3) := by decide +kernel
theorem dX9_step_695 : decode cX9_step 695 = .ok (.iconst 0, 1) := by decide +kernel
theorem dX9_step_696 : decode cX9_step 696 = .ok (.ireturn, 1) := by decide +kernel
theorem dX9_step_697 : decode cX9_step 697 = .ok (.aload_n 0, 1) := by decide +kernel
theorem dX9_step_698 : decode cX9_step 698 = .ok (.invokevirtual 325, 3) := by decide +kernel
theorem dX9_step_701 : decode cX9_step 701 = .ok (.ireturn, 1) := by decide +kernel
theorem dX9_step_702 : decode cX9_step 702 = .ok (.iconst 0, 1) := by decide +kernel
theorem dX9_step_703 : decode cX9_step 703 = .ok (.istore 4, 2) := by decide +kernel
theorem dX9_step_705 : decode cX9_step 705 = .ok (.iload 4, 2) := by decide +kernel
theorem dX9_step_707 : decode cX9_step 707 = .ok (.aload_n 0, 1) := by decide +kernel
theorem dX9_step_708 : decode cX9_step 708 = .ok (.getfield 57, 3) := by decide +kernel
theorem dX9_step_711 : decode cX9_step 711 = .ok (.iload_n 1, 1) := by decide +kernel
theorem dX9_step_712 : decode cX9_step 712 = .ok (.iaload, 1) := by decide +kernel
theorem dX9_step_713 : decode cX9_step 713 = .ok (.if_icmp .ge 19, 3) := by decide +kernel
theorem dX9_step_716 : decode cX9_step 716 = .ok (.aload_n 0, 1) := by decide +kernel
theorem dX9_step_717 : decode cX9_step 717 = .ok (.iconst 1, 1) := by decide +kernel
theorem dX9_step_718 : decode cX9_step 718 = .ok (.invokevirtual 225, 3) := by decide +kernel
theorem dX9_step_721 : decode cX9_step 721 = .ok (.ifCond .ne 5, 3) := by decide +kernel
theorem dX9_step_724 : decode cX9_step 724 = .ok (.iconst 0, 1) := by decide +kernel
theorem dX9_step_725 : decode cX9_step 725 = .ok (.ireturn, 1) := by decide +kernel
theorem dX9_step_726 : decode cX9_step 726 = .ok (.iinc 4 1, 3) := by decide +kernel
theorem dX9_step_729 : decode cX9_step 729 = .ok (.goto (-24), 3) := by decide +kernel
theorem dX9_step_732 : decode cX9_step 732 = .ok (.aload_n 0, 1) := by decide +kernel
theorem dX9_step_733 : decode cX9_step 733 = .ok (.bipush 16, 2) := by decide +kernel
theorem dX9_step_735 : decode cX9_step 735 = .ok (.iload_n 3, 1) := by decide +kernel
theorem dX9_step_736 : decode cX9_step 736 = .ok (.imul, 1) := by decide +kernel
theorem dX9_step_737 : decode cX9_step 737 = .ok (.bipush 8, 2) := by decide +kernel
theorem dX9_step_739 : decode cX9_step 739 = .ok (.iadd, 1) := by decide +kernel
theorem dX9_step_740 : decode cX9_step 740 = .ok (.invokevirtual 295, 3) := by decide +kernel
theorem dX9_step_743 : decode cX9_step 743 = .ok (.ireturn, 1) := by decide +kernel
set_option maxRecDepth 20000 in
theorem ggX9_load_X9_isRef : GoodIn wsX9_load wsX9_isRef := goodIn_r _ [6] rfl (by decide +kernel)
set_option maxRecDepth 20000 in
theorem gX9_load_X9_isRef : GoodIn wsX9_load (va_wsS RX9 218 yX9_isRef wsX9_isRef) := goodIn_app (goodIn_of _ (by decide +kernel)) ggX9_load_X9_isRef
set_option maxRecDepth 20000 in
theorem ggX9_load_X9_push : GoodIn wsX9_load wsX9_push := goodIn_r _ [10, 11, 12, 13, 17, 18, 19, 20, 21, 22, 23, 24, 25, 26, 27, 28, 29, 30, 31, 32, 33, 34, 35, 36, 37, 38, 39, 40, 41, 42, 43, 44, 45, 46, 47, 48, 49, 50, 51, 52, 53, 54, 55, 56, 57, 58, 59, 60, 61, 62, 63, 64, 65, 66, 67, 68, 69, 70, 71, 72, 73, 74, 75, 76, 77, 78] rfl (by decide +kernel)
set_option maxRecDepth 20000 in
theorem gX9_load_X9_push : GoodIn wsX9_load (wsV RX9 295 RX9 yX9_push wsX9_push) := goodIn_app (goodIn_of _ (by decide +kernel)) ggX9_load_X9_push
set_option maxRecDepth 20000 in
theorem ggX9_load_X9_places : GoodIn wsX9_load wsX9_places := goodIn_r _ [16] rfl (by decide +kernel)
set_option maxRecDepth 20000 in
theorem gX9_load_X9_places : GoodIn wsX9_load (va_wsS RX9 228 yX9_places wsX9_places) := goodIn_app (goodIn_of _ (by decide +kernel)) ggX9_load_X9_places
theorem dX9_load_0 : decode cX9_load 0 = .ok (.iload_n 1, 1) := by decide +kernel
theorem dX9_load_1 : decode cX9_load 1 = .ok (.iconst 4, 1) := by decide +kernel
theorem dX9_load_2 : decode cX9_load 2 = .ok (.if_icmp .ne 34, 3) := by decide +kernel
theorem dX9_load_5 : decode cX9_load 5 = .ok (.aload_n 0, 1) := by decide +kernel
theorem dX9_load_6 : decode cX9_load 6 = .ok (.getfield 82, 3) := by decide +kernel
theorem dX9_load_9 : decode cX9_load 9 = .ok (.iload_n 2, 1) := by decide +kernel
theorem dX9_load_10 : decode cX9_load 10 = .ok (.iaload, 1) := by decide +kernel
theorem dX9_load_11 : decode cX9_load 11 = .ok (.invokestatic 218, 3) := by decide +kernel
theorem dX9_load_14 : decode cX9_load 14 = .ok (.ifCond .eq 20, 3) := by decide +kernel
theorem dX9_load_17 : decode cX9_load 17 = .ok (.aload_n 0, 1) := by decide +kernel
theorem dX9_load_18 : decode cX9_load 18 = .ok (.aload_n 0, 1) := by decide +kernel
theorem dX9_load_19 : decode cX9_load 19 = .ok (.getfield 82, 3) := by decide +kernel
theorem dX9_load_22 : decode cX9_load 22 = .ok (.iload_n 2, 1) := by decide +kernel
theorem dX9_load_23 : decode cX9_load 23 = .ok (.iaload, 1) := by decide +kernel
theorem dX9_load_24 : decode cX9_load 24 = .ok (.invokevirtual 295, 3) := by decide +kernel
theorem dX9_load_27 : decode cX9_load 27 = .ok (.ifCond .eq 7, 3) := by decide +kernel
theorem dX9_load_30 : decode cX9_load 30 = .ok (.iconst 1, 1) := by decide +kernel
theorem dX9_load_31 : decode cX9_load 31 = .ok (.goto 4, 3) := by decide +kernel
theorem dX9_load_34 : decode cX9_load 34 = .ok (.iconst 0, 1) := by decide +kernel
theorem dX9_load_35 : decode cX9_load 35 = .ok (.ireturn, 1) := by decide +kernel
theorem dX9_load_36 : decode cX9_load 36 = .ok (.getstatic 341, 3) := by decide +kernel
theorem dX9_load_39 : decode cX9_load 39 = .ok (.iload_n 1, 1) := by decide +kernel
theorem dX9_load_40 : decode cX9_load 40 = .ok (.iaload, 1) := by decide +kernel
theorem dX9_load_41 : decode cX9_load 41 = .ok (.istore_n 3, 1) := by decide +kernel
theorem dX9_load_42 : decode cX9_load 42 = .ok (.aload_n 0, 1) := by decide +kernel
theorem dX9_load_43 : decode cX9_load 43 = .ok (.getfield 82, 3) := by decide +kernel
theorem dX9_load_46 : decode cX9_load 46 = .ok (.iload_n 2, 1) := by decide +kernel
theorem dX9_load_47 : decode cX9_load 47 = .ok (.iaload, 1) := by decide +kernel
theorem dX9_load_48 : decode cX9_load 48 = .ok (.iload_n 3, 1) := by decide +kernel
theorem dX9_load_49 : decode cX9_load 49 = .ok (.if_icmp .ne 36, 3) := by decide +kernel
theorem dX9_load_52 : decode cX9_load 52 = .ok (.iload_n 3, 1) := by decide +kernel
theorem dX9_load_53 : decode cX9_load 53 = .ok (.invokestatic 228, 3) := by decide +kernel
theorem dX9_load_56 : decode cX9_load 56 = .ok (.iconst 1, 1) := by decide +kernel
theorem dX9_load_57 : decode cX9_load 57 = .ok (.if_icmp .eq 16, 3) := by decide +kernel
theorem dX9_load_60 : decode cX9_load 60 = .ok (.aload_n 0, 1) := by decide +kernel
theorem dX9_load_61 : decode cX9_load 61 = .ok (.getfield 82, 3) := by decide +kernel
theorem dX9_load_64 : decode cX9_load 64 = .ok (.iload_n 2, 1) := by decide +kernel
theorem dX9_load_65 : decode cX9_load 65 = .ok (.iconst 1, 1) := by decide +kernel
theorem dX9_load_66 : decode cX9_load 66 = .ok (.iadd, 1) := by decide +kernel
theorem dX9_load_67 : decode cX9_load 67 = .ok (.iaload, 1) := by decide +kernel
theorem dX9_load_68 : decode cX9_load 68 = .ok (.bipush 7, 2) := by decide +kernel
theorem dX9_load_70 : decode cX9_load 70 = .ok (.if_icmp .ne 15, 3) := by decide +kernel
theorem dX9_load_73 : decode cX9_load 73 = .ok (.aload_n 0, 1) := by decide +kernel
theorem dX9_load_74 : decode cX9_load 74 = .ok (.iload_n 3, 1) := by decide +kernel
theorem dX9_load_75 : decode cX9_load 75 = .ok (.invokevirtual 295, 3) := by decide +kernel
theorem dX9_load_78 : decode cX9_load 78 = .ok (.ifCond .eq 7, 3) := by decide +kernel
theorem dX9_load_81 : decode cX9_load 81 = .ok (.iconst 1, 1) := by decide +kernel
theorem dX9_load_82 : decode cX9_load 82 = .ok (.goto 4, 3) := by decide +kernel
theorem dX9_load_85 : decode cX9_load 85 = .ok (.iconst 0, 1) := by decide +kernel
theorem dX9_load_86 : decode cX9_load 86 = .ok (.ireturn, 1) := by decide +kernel
set_option maxRecDepth 20000 in
theorem ggX9_store_X9_isRef : GoodIn wsX9_store wsX9_isRef := goodIn_r _ [7] rfl (by decide +kernel)
set_option maxRecDepth 20000 in
theorem gX9_store_X9_isRef : GoodIn wsX9_store (va_wsS RX9 218 yX9_isRef wsX9_isRef) := goodIn_app (goodIn_of _ (by decide +kernel)) ggX9_store_X9_isRef
set_option maxRecDepth 20000 in
theorem ggX9_store_X9_set : GoodIn wsX9_store wsX9_set := goodIn_r _ [11, 12, 17, 18, 19, 20, 21, 22, 23, 24, 25, 26, 27, 28, 29, 30, 31, 32, 33, 34, 35, 36, 37, 38, 39, 40, 41, 42, 43, 44, 45, 46, 47, 48, 49, 50, 51, 52, 53, 54, 55, 56, 57, 58, 59, 60, 61, 62, 63, 64, 65, 66, 67, 68, 69, 70, 71, 72, 73, 74, 75, 76, 77, 78] rfl (by decide +kernel)
set_option maxRecDepth 20000 in
theorem gX9_store_X9_set : GoodIn wsX9_store (wsV RX9 344 RX9 yX9_set wsX9_set) := goodIn_app (goodIn_of _ (by decide +kernel)) ggX9_store_X9_set
set_option maxRecDepth 20000 in
theorem ggX9_store_X9_pop : GoodIn wsX9_store wsX9_pop := goodIn_r _ [16, 1, 2, 17, 18, 19, 20, 21, 22, 23, 24, 25, 26, 27, 28, 29, 30, 31, 32, 33, 34, 35, 36, 37, 38, 39, 40, 41, 42, 43, 44, 45, 46, 47, 48, 49, 50, 51, 52, 53, 54, 55, 56, 57, 58, 59, 60, 61, 62, 63, 64, 65, 66, 67, 68, 69, 70, 71, 72, 73, 74, 75, 76, 77, 78] rfl (by decide +kernel)
set_option maxRecDepth 20000 in
theorem gX9_store_X9_pop : GoodIn wsX9_store (wsV RX9 225 RX9 yX9_pop wsX9_pop) := goodIn_app (goodIn_of _ (by decide +kernel)) ggX9_store_X9_pop
theorem dX9_store_0 : decode cX9_store 0 = .ok (.iload_n 1, 1) := by decide +kernel
theorem dX9_store_1 : decode cX9_store 1 = .ok (.iconst 4, 1) := by decide +kernel
theorem dX9_store_2 : decode cX9_store 2 = .ok (.if_icmp .ne 74, 3) := by decide +kernel
theorem dX9_store_5 : decode cX9_store 5 = .ok (.aload_n 0, 1) := by decide +kernel
theorem dX9_store_6 : decode cX9_store 6 = .ok (.getfield 215, 3) := by decide +kernel
theorem dX9_store_9 : decode cX9_store 9 = .ok (.ifCond .eq 39, 3) := by decide +kernel
theorem dX9_store_12 : decode cX9_store 12 = .ok (.aload_n 0, 1) := by decide +kernel
theorem dX9_store_13 : decode cX9_store 13 = .ok (.getfield 85, 3) := by decide +kernel
theorem dX9_store_16 : decode cX9_store 16 = .ok (.aload_n 0, 1) := by decide +kernel
theorem dX9_store_17 : decode cX9_store 17 = .ok (.getfield 215, 3) := by decide +kernel
theorem dX9_store_20 : decode cX9_store 20 = .ok (.iconst 1, 1) := by decide +kernel
theorem dX9_store_21 : decode cX9_store 21 = .ok (.isub, 1) := by decide +kernel
theorem dX9_store_22 : decode cX9_store 22 = .ok (.iaload, 1) := by decide +kernel
theorem dX9_store_23 : decode cX9_store 23 = .ok (.invokestatic 218, 3) := by decide +kernel
theorem dX9_store_26 : decode cX9_store 26 = .ok (.ifCond .ne 24, 3) := by decide +kernel
theorem dX9_store_29 : decode cX9_store 29 = .ok (.aload_n 0, 1) := by decide +kernel
theorem dX9_store_30 : decode cX9_store 30 = .ok (.getfield 85, 3) := by decide +kernel
theorem dX9_store_33 : decode cX9_store 33 = .ok (.aload_n 0, 1) := by decide +kernel
theorem dX9_store_34 : decode cX9_store 34 = .ok (.getfield 215, 3) := by decide +kernel
theorem dX9_store_37 : decode cX9_store 37 = .ok (.iconst 1, 1) := by decide +kernel
theorem dX9_store_38 : decode cX9_store 38 = .ok (.isub, 1) := by decide +kernel
theorem dX9_store_39 : decode cX9_store 39 = .ok (.iaload, 1) := by decide +kernel
theorem dX9_store_40 : decode cX9_store 40 = .ok (.bipush 15, 2) := by decide +kernel
theorem dX9_store_42 : decode cX9_store 42 = .ok (.iand, 1) := by decide +kernel
theorem dX9_store_43 : decode cX9_store 43 = .ok (.bipush 10, 2) := by decide +kernel
theorem dX9_store_45 : decode cX9_store 45 = .ok (.if_icmp .eq 5, 3) := by decide +kernel
theorem dX9_store_48 : decode cX9_store 48 = .ok (.iconst 0, 1) := by decide +kernel
theorem dX9_store_49 : decode cX9_store 49 = .ok (.ireturn, 1) := by decide +kernel
theorem dX9_store_50 : decode cX9_store 50 = .ok (.aload_n 0, 1) := by decide +kernel
theorem dX9_store_51 : decode cX9_store 51 = .ok (.dup, 1) := by decide +kernel
theorem dX9_store_52 : decode cX9_store 52 = .ok (.getfield 215, 3) := by decide +kernel
theorem dX9_store_55 : decode cX9_store 55 = .ok (.iconst 1, 1) := by decide +kernel
theorem dX9_store_56 : decode cX9_store 56 = .ok (.isub, 1) := by decide +kernel
theorem dX9_store_57 : decode cX9_store 57 = .ok (.putfield 215, 3) := by decide +kernel
theorem dX9_store_60 : decode cX9_store 60 = .ok (.aload_n 0, 1) := by decide +kernel
theorem dX9_store_61 : decode cX9_store 61 = .ok (.iload_n 2, 1) := by decide +kernel
theorem dX9_store_62 : decode cX9_store 62 = .ok (.aload_n 0, 1) := by decide +kernel
theorem dX9_store_63 : decode cX9_store 63 = .ok (.getfield 85, 3) := by decide +kernel
theorem dX9_store_66 : decode cX9_store 66 = .ok (.aload_n 0, 1) := by decide +kernel
theorem dX9_store_67 : decode cX9_store 67 = .ok (.getfield 215, 3) := by decide +kernel
theorem dX9_store_70 : decode cX9_store 70 = .ok (.iaload, 1) := by decide +kernel
theorem dX9_store_71 : decode cX9_store 71 = .ok (.invokevirtual 344, 3) := by decide +kernel
theorem dX9_store_74 : decode cX9_store 74 = .ok (.iconst 1, 1) := by decide +kernel
theorem dX9_store_75 : decode cX9_store 75 = .ok (.ireturn, 1) := by decide +kernel
theorem dX9_store_76 : decode cX9_store 76 = .ok (.aload_n 0, 1) := by decide +kernel
theorem dX9_store_77 : decode cX9_store 77 = .ok (.getstatic 341, 3) := by decide +kernel
theorem dX9_store_80 : decode cX9_store 80 = .ok (.iload_n 1, 1) := by decide +kernel
theorem dX9_store_81 : decode cX9_store 81 = .ok (.iaload, 1) := by decide +kernel
theorem dX9_store_82 : decode cX9_store 82 = .ok (.invokevirtual 225, 3) := by decide +kernel
theorem dX9_store_85 : decode cX9_store 85 = .ok (.ifCond .ne 5, 3) := by decide +kernel
theorem dX9_store_88 : decode cX9_store 88 = .ok (.iconst 0, 1) := by decide +kernel
theorem dX9_store_89 : decode cX9_store 89 = .ok (.ireturn, 1) := by decide +kernel
theorem dX9_store_90 : decode cX9_store 90 = .ok (.aload_n 0, 1) := by decide +kernel
theorem dX9_store_91 : decode cX9_store 91 = .ok (.iload_n 2, 1) := by decide +kernel
theorem dX9_store_92 : decode cX9_store 92 = .ok (.getstatic 341, 3) := by decide +kernel
theorem dX9_store_95 : decode cX9_store 95 = .ok (.iload_n 1, 1) := by decide +kernel
theorem dX9_store_96 : decode cX9_store 96 = .ok (.iaload, 1) := by decide +kernel
theorem dX9_store_97 : decode cX9_store 97 = .ok (.invokevirtual 344, 3) := by decide +kernel
theorem dX9_store_100 : decode cX9_store 100 = .ok (.iconst 1, 1) := by decide +kernel
theorem dX9_store_101 : decode cX9_store 101 = .ok (.ireturn, 1) := by decide +kernel
theorem dX9_array_0 : decode cX9_array 0 = .ok (.aload_n 0, 1) := by decide +kernel
theorem dX9_array_1 : decode cX9_array 1 = .ok (.getfield 215, 3) := by decide +kernel
theorem dX9_array_4 : decode cX9_array 4 = .ok (.ifCond .ne 5, 3) := by decide +kernel
theorem dX9_array_7 : decode cX9_array 7 = .ok (.iconst 0, 1) := by decide +kernel
theorem dX9_array_8 : decode cX9_array 8 = .ok (.ireturn, 1) := by decide +kernel
theorem dX9_array_9 : decode cX9_array 9 = .ok (.aload_n 0, 1) := by decide +kernel
theorem dX9_array_10 : decode cX9_array 10 = .ok (.getfield 85, 3) := by decide +kernel
theorem dX9_array_13 : decode cX9_array 13 = .ok (.aload_n 0, 1) := by decide +kernel
theorem dX9_array_14 : decode cX9_array 14 = .ok (.dup, 1) := by decide +kernel
theorem dX9_array_15 : decode cX9_array 15 = .ok (.getfield 215, 3) := by decide +kernel
theorem dX9_array_18 : decode cX9_array 18 = .ok (.iconst 1, 1) := by decide +kernel
theorem dX9_array_19 : decode cX9_array 19 = .ok (.isub, 1) := by decide +kernel
theorem dX9_array_20 : decode cX9_array 20 = .ok (.dup_x1, 1) := by decide +kernel
theorem dX9_array_21 : decode cX9_array 21 = .ok (.putfield 215, 3) := by decide +kernel
theorem dX9_array_24 : decode cX9_array 24 = .ok (.iaload, 1) := by decide +kernel
theorem dX9_array_25 : decode cX9_array 25 = .ok (.istore_n 2, 1) := by decide +kernel
theorem dX9_array_26 : decode cX9_array 26 = .ok (.iload_n 2, 1) := by decide +kernel
theorem dX9_array_27 : decode cX9_array 27 = .ok (.iconst 5, 1) := by decide +kernel
theorem dX9_array_28 : decode cX9_array 28 = .ok (.if_icmp .ne 5, 3) := by decide +kernel
theorem dX9_array_31 : decode cX9_array 31 = .ok (.iconst 1, 1) := by decide +kernel
theorem dX9_array_32 : decode cX9_array 32 = .ok (.ireturn, 1) := by decide +kernel
theorem dX9_array_33 : decode cX9_array 33 = .ok (.iload_n 2, 1) := by decide +kernel
theorem dX9_array_34 : decode cX9_array 34 = .ok (.iconst 4, 1) := by decide +kernel
theorem dX9_array_35 : decode cX9_array 35 = .ok (.ishr, 1) := by decide +kernel
theorem dX9_array_36 : decode cX9_array 36 = .ok (.istore_n 3, 1) := by decide +kernel
theorem dX9_array_37 : decode cX9_array 37 = .ok (.iload_n 2, 1) := by decide +kernel
