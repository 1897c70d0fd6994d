theorem dX8_common_36 : decode cX8_common 36 = .ok (.iload_n 1, 1) := by decide +kernel
theorem dX8_common_37 : decode cX8_common 37 = .ok (.iload_n 2, 1) := by decide +kernel
theorem dX8_common_38 : decode cX8_common 38 = .ok (.invokevirtual 235, 3) := by decide +kernel
theorem dX8_common_41 : decode cX8_common 41 = .ok (.ireturn, 1) := by decide +kernel
set_option maxRecDepth 20000 in
theorem ggX8_isInstruction_X7_isReference : GoodIn wsX8_isInstruction wsX7_isReference := goodIn_r _ [6, 7, 8, 9, 5, 10, 11, 12, 13, 14, 15, 16, 17, 18, 19, 20, 53, 54, 55] rfl (by decide +kernel)
set_option maxRecDepth 20000 in
theorem gX8_isInstruction_X7_isReference : GoodIn wsX8_isInstruction (wsV RX8 230 RX7 yX7_isReference wsX7_isReference) := goodIn_app (goodIn_of _ (by decide +kernel)) ggX8_isInstruction_X7_isReference
set_option maxRecDepth 20000 in
theorem ggX8_isInstruction_X7_dimensionsOf : GoodIn wsX8_isInstruction wsX7_dimensionsOf := goodIn_r _ [16] rfl (by decide +kernel)
set_option maxRecDepth 20000 in
theorem gX8_isInstruction_X7_dimensionsOf : GoodIn wsX8_isInstruction (va_wsS RX8 238 yX7_dimensionsOf wsX7_dimensionsOf) := goodIn_app (goodIn_of _ (by decide +kernel)) ggX8_isInstruction_X7_dimensionsOf
def ckX8_isInstruction : List (List Cond) := [[.code yX8_isInstruction cX8_isInstruction 4 (some .boolean)], wsX8_isInstruction_r1, wsX8_isInstruction_r2, wsX80, wsX70, wsX40]
theorem ckX8_isInstructionl : wsX8_isInstruction = ckX8_isInstruction.flatten := by
  simp only [wsX8_isInstruction, ckX8_isInstruction, List.flatten_cons, List.flatten_nil, List.append_assoc, List.append_nil, List.cons_append, List.nil_append]
set_option maxRecDepth 20000 in
theorem ggX8_isInstruction_X8_isOperand : GoodIn wsX8_isInstruction wsX8_isOperand := goodIn_t ckX8_isInstruction ckX8_isInstructionl _ [(2, 1), (1, 0), (2, 2), (2, 3), (1, 7), (1, 8), (1, 4), (1, 9), (1, 10), (1, 11), (1, 12), (1, 13), (1, 14), (1, 15), (2, 4), (2, 5), (2, 6), (2, 7), (2, 8), (2, 9), (2, 10), (2, 11), (1, 1), (1, 2), (1, 3), (1, 5), (1, 6), (1, 16), (1, 17), (1, 18), (1, 19), (1, 20), (2, 12), (2, 13), (2, 14), (2, 15), (2, 16), (2, 17), (2, 18), (2, 19), (2, 20), (2, 21), (3, 0), (3, 1), (3, 2), (3, 3), (3, 4), (3, 5), (5, 0), (5, 1), (5, 2), (5, 3), (5, 4), (5, 5), (5, 6), (5, 7), (5, 8), (4, 0), (4, 1), (4, 2)] rfl (by decide +kernel)
set_option maxRecDepth 20000 in
theorem gX8_isInstruction_X8_isOperand : GoodIn wsX8_isInstruction (wsV RX8 241 RX8 yX8_isOperand wsX8_isOperand) := goodIn_app (goodIn_of _ (by decide +kernel)) ggX8_isInstruction_X8_isOperand
theorem dX8_isInstruction_0 : decode cX8_isInstruction 0 = .ok (.iload_n 1, 1) := by decide +kernel
theorem dX8_isInstruction_1 : decode cX8_isInstruction 1 = .ok (.lookupswitch 67 #[(132, 27), (197, 37)], 27) := by decide +kernel
theorem dX8_isInstruction_28 : decode cX8_isInstruction 28 = .ok (.iload_n 2, 1) := by decide +kernel
theorem dX8_isInstruction_29 : decode cX8_isInstruction 29 = .ok (.ifCond .lt 7, 3) := by decide +kernel
theorem dX8_isInstruction_32 : decode cX8_isInstruction 32 = .ok (.iconst 1, 1) := by decide +kernel
theorem dX8_isInstruction_33 : decode cX8_isInstruction 33 = .ok (.goto 4, 3) := by decide +kernel
theorem dX8_isInstruction_36 : decode cX8_isInstruction 36 = .ok (.iconst 0, 1) := by decide +kernel
theorem dX8_isInstruction_37 : decode cX8_isInstruction 37 = .ok (.ireturn, 1) := by decide +kernel
theorem dX8_isInstruction_38 : decode cX8_isInstruction 38 = .ok (.aload_n 0, 1) := by decide +kernel
theorem dX8_isInstruction_39 : decode cX8_isInstruction 39 = .ok (.getfield 10, 3) := by decide +kernel
theorem dX8_isInstruction_42 : decode cX8_isInstruction 42 = .ok (.iload_n 2, 1) := by decide +kernel
theorem dX8_isInstruction_43 : decode cX8_isInstruction 43 = .ok (.invokevirtual 230, 3) := by decide +kernel
theorem dX8_isInstruction_46 : decode cX8_isInstruction 46 = .ok (.ifCond .eq 20, 3) := by decide +kernel
theorem dX8_isInstruction_49 : decode cX8_isInstruction 49 = .ok (.iload_n 3, 1) := by decide +kernel
theorem dX8_isInstruction_50 : decode cX8_isInstruction 50 = .ok (.iconst 1, 1) := by decide +kernel
theorem dX8_isInstruction_51 : decode cX8_isInstruction 51 = .ok (.if_icmp .lt 15, 3) := by decide +kernel
theorem dX8_isInstruction_54 : decode cX8_isInstruction 54 = .ok (.iload_n 3, 1) := by decide +kernel
theorem dX8_isInstruction_55 : decode cX8_isInstruction 55 = .ok (.iload_n 2, 1) := by decide +kernel
theorem dX8_isInstruction_56 : decode cX8_isInstruction 56 = .ok (.invokestatic 238, 3) := by decide +kernel
theorem dX8_isInstruction_59 : decode cX8_isInstruction 59 = .ok (.if_icmp .gt 7, 3) := by decide +kernel
theorem dX8_isInstruction_62 : decode cX8_isInstruction 62 = .ok (.iconst 1, 1) := by decide +kernel
theorem dX8_isInstruction_63 : decode cX8_isInstruction 63 = .ok (.goto 4, 3) := by decide +kernel
theorem dX8_isInstruction_66 : decode cX8_isInstruction 66 = .ok (.iconst 0, 1) := by decide +kernel
theorem dX8_isInstruction_67 : decode cX8_isInstruction 67 = .ok (.ireturn, 1) := by decide +kernel
theorem dX8_isInstruction_68 : decode cX8_isInstruction 68 = .ok (.iload_n 3, 1) := by decide +kernel
theorem dX8_isInstruction_69 : decode cX8_isInstruction 69 = .ok (.ifCond .ne 16, 3) := by decide +kernel
theorem dX8_isInstruction_72 : decode cX8_isInstruction 72 = .ok (.aload_n 0, 1) := by decide +kernel
theorem dX8_isInstruction_73 : decode cX8_isInstruction 73 = .ok (.iload_n 1, 1) := by decide +kernel
theorem dX8_isInstruction_74 : decode cX8_isInstruction 74 = .ok (.iload_n 2, 1) := by decide +kernel
theorem dX8_isInstruction_75 : decode cX8_isInstruction 75 = .ok (.invokevirtual 241, 3) := by decide +kernel
theorem dX8_isInstruction_78 : decode cX8_isInstruction 78 = .ok (.ifCond .eq 7, 3) := by decide +kernel
theorem dX8_isInstruction_81 : decode cX8_isInstruction 81 = .ok (.iconst 1, 1) := by decide +kernel
theorem dX8_isInstruction_82 : decode cX8_isInstruction 82 = .ok (.goto 4, 3) := by decide +kernel
theorem dX8_isInstruction_85 : decode cX8_isInstruction 85 = .ok (.iconst 0, 1) := by decide +kernel
theorem dX8_isInstruction_86 : decode cX8_isInstruction 86 = .ok (.ireturn, 1) := by decide +kernel
set_option maxRecDepth 20000 in
theorem ggX8_isOperand_X7_isType : GoodIn wsX8_isOperand wsX7_isType := goodIn_r _ [7, 8, 9, 10, 11, 12, 6, 13, 57, 58, 59] rfl (by decide +kernel)
set_option maxRecDepth 20000 in
theorem gX8_isOperand_X7_isType : GoodIn wsX8_isOperand (wsV RX8 83 RX7 yX7_isType wsX7_isType) := goodIn_app (goodIn_of _ (by decide +kernel)) ggX8_isOperand_X7_isType
set_option maxRecDepth 20000 in
theorem ggX8_isOperand_X7_widthOf : GoodIn wsX8_isOperand wsX7_widthOf := goodIn_r _ [16, 8, 17] rfl (by decide +kernel)
set_option maxRecDepth 20000 in
theorem gX8_isOperand_X7_widthOf : GoodIn wsX8_isOperand (va_wsS RX8 244 yX7_widthOf wsX7_widthOf) := goodIn_app (goodIn_of _ (by decide +kernel)) ggX8_isOperand_X7_widthOf
set_option maxRecDepth 20000 in
theorem ggX8_isOperand_X7_isClass : GoodIn wsX8_isOperand wsX7_isClass := goodIn_r _ [21, 9, 57, 58, 59] rfl (by decide +kernel)
set_option maxRecDepth 20000 in
theorem gX8_isOperand_X7_isClass : GoodIn wsX8_isOperand (wsV RX8 55 RX7 yX7_isClass wsX7_isClass) := goodIn_app (goodIn_of _ (by decide +kernel)) ggX8_isOperand_X7_isClass
set_option maxRecDepth 20000 in
theorem ggX8_isOperand_X7_isReference : GoodIn wsX8_isOperand wsX7_isReference := goodIn_r _ [25, 26, 4, 5, 6, 7, 8, 9, 10, 11, 12, 13, 27, 28, 29, 30, 57, 58, 59] rfl (by decide +kernel)
set_option maxRecDepth 20000 in
theorem gX8_isOperand_X7_isReference : GoodIn wsX8_isOperand (wsV RX8 230 RX7 yX7_isReference wsX7_isReference) := goodIn_app (goodIn_of _ (by decide +kernel)) ggX8_isOperand_X7_isReference
set_option maxRecDepth 20000 in
theorem ggX8_isOperand_X7_dimensionsOf : GoodIn wsX8_isOperand wsX7_dimensionsOf := goodIn_r _ [13] rfl (by decide +kernel)
set_option maxRecDepth 20000 in
theorem gX8_isOperand_X7_dimensionsOf : GoodIn wsX8_isOperand (va_wsS RX8 238 yX7_dimensionsOf wsX7_dimensionsOf) := goodIn_app (goodIn_of _ (by decide +kernel)) ggX8_isOperand_X7_dimensionsOf
set_option maxRecDepth 20000 in
theorem ggX8_isOperand_X0_isOpcode : GoodIn wsX8_isOperand wsX0_isOpcode := goodIn_r _ [35] rfl (by decide +kernel)
set_option maxRecDepth 20000 in
theorem gX8_isOperand_X0_isOpcode : GoodIn wsX8_isOperand (va_wsS RX8 247 yX0_isOpcode wsX0_isOpcode) := goodIn_app (goodIn_of _ (by decide +kernel)) ggX8_isOperand_X0_isOpcode
set_option maxRecDepth 20000 in
theorem ggX8_isOperand_X0_isOfLocal : GoodIn wsX8_isOperand wsX0_isOfLocal := goodIn_r _ [38] rfl (by decide +kernel)
set_option maxRecDepth 20000 in
theorem gX8_isOperand_X0_isOfLocal : GoodIn wsX8_isOperand (va_wsS RX8 250 yX0_isOfLocal wsX0_isOfLocal) := goodIn_app (goodIn_of _ (by decide +kernel)) ggX8_isOperand_X0_isOfLocal
set_option maxRecDepth 20000 in
theorem ggX8_isOperand_X0_isJump : GoodIn wsX8_isOperand wsX0_isJump := goodIn_r _ [41] rfl (by decide +kernel)
set_option maxRecDepth 20000 in
theorem gX8_isOperand_X0_isJump : GoodIn wsX8_isOperand (va_wsS RX8 253 yX0_isJump wsX0_isJump) := goodIn_app (goodIn_of _ (by decide +kernel)) ggX8_isOperand_X0_isJump
theorem dX8_isOperand_0 : decode cX8_isOperand 0 = .ok (.iload_n 1, 1) := by decide +kernel
theorem dX8_isOperand_1 : decode cX8_isOperand 1 = .ok (.lookupswitch 310 #[(16, 155), (17, 155), (18, 157), (20, 182), (178, 207), (179, 207), (180, 207), (181, 207), (182, 228), (183, 228), (184, 228), (185, 228), (186, 228), (187, 249), (188, 258), (189, 274), (192, 301), (193, 301)], 155) := by decide +kernel
theorem dX8_isOperand_156 : decode cX8_isOperand 156 = .ok (.iconst 1, 1) := by decide +kernel
theorem dX8_isOperand_157 : decode cX8_isOperand 157 = .ok (.ireturn, 1) := by decide +kernel
theorem dX8_isOperand_158 : decode cX8_isOperand 158 = .ok (.aload_n 0, 1) := by decide +kernel
theorem dX8_isOperand_159 : decode cX8_isOperand 159 = .ok (.getfield 10, 3) := by decide +kernel
theorem dX8_isOperand_162 : decode cX8_isOperand 162 = .ok (.iload_n 2, 1) := by decide +kernel
theorem dX8_isOperand_163 : decode cX8_isOperand 163 = .ok (.invokevirtual 83, 3) := by decide +kernel
theorem dX8_isOperand_166 : decode cX8_isOperand 166 = .ok (.ifCond .eq 15, 3) := by decide +kernel
theorem dX8_isOperand_169 : decode cX8_isOperand 169 = .ok (.iload_n 2, 1) := by decide +kernel
theorem dX8_isOperand_170 : decode cX8_isOperand 170 = .ok (.invokestatic 244, 3) := by decide +kernel
theorem dX8_isOperand_173 : decode cX8_isOperand 173 = .ok (.iconst 1, 1) := by decide +kernel
theorem dX8_isOperand_174 : decode cX8_isOperand 174 = .ok (.if_icmp .ne 7, 3) := by decide +kernel
theorem dX8_isOperand_177 : decode cX8_isOperand 177 = .ok (.iconst 1, 1) := by decide +kernel
theorem dX8_isOperand_178 : decode cX8_isOperand 178 = .ok (.goto 4, 3) := by decide +kernel
theorem dX8_isOperand_181 : decode cX8_isOperand 181 = .ok (.iconst 0, 1) := by decide +kernel
theorem dX8_isOperand_182 : decode cX8_isOperand 182 = .ok (.ireturn, 1) := by decide +kernel
theorem dX8_isOperand_183 : decode cX8_isOperand 183 = .ok (.aload_n 0, 1) := by decide +kernel
theorem dX8_isOperand_184 : decode cX8_isOperand 184 = .ok (.getfield 10, 3) := by decide +kernel
theorem dX8_isOperand_187 : decode cX8_isOperand 187 = .ok (.iload_n 2, 1) := by decide +kernel
theorem dX8_isOperand_188 : decode cX8_isOperand 188 = .ok (.invokevirtual 83, 3) := by decide +kernel
theorem dX8_isOperand_191 : decode cX8_isOperand 191 = .ok (.ifCond .eq 15, 3) := by decide +kernel
theorem dX8_isOperand_194 : decode cX8_isOperand 194 = .ok (.iload_n 2, 1) := by decide +kernel
theorem dX8_isOperand_195 : decode cX8_isOperand 195 = .ok (.invokestatic 244, 3) := by decide +kernel
theorem dX8_isOperand_198 : decode cX8_isOperand 198 = .ok (.iconst 2, 1) := by decide +kernel
theorem dX8_isOperand_199 : decode cX8_isOperand 199 = .ok (.if_icmp .ne 7, 3) := by decide +kernel
theorem dX8_isOperand_202 : decode cX8_isOperand 202 = .ok (.iconst 1, 1) := by decide +kernel
theorem dX8_isOperand_203 : decode cX8_isOperand 203 = .ok (.goto 4, 3) := by decide +kernel
theorem dX8_isOperand_206 : decode cX8_isOperand 206 = .ok (.iconst 0, 1) := by decide +kernel
theorem dX8_isOperand_207 : decode cX8_isOperand 207 = .ok (.ireturn, 1) := by decide +kernel
theorem dX8_isOperand_208 : decode cX8_isOperand 208 = .ok (.iload_n 2, 1) := by decide +kernel
theorem dX8_isOperand_209 : decode cX8_isOperand 209 = .ok (.ifCond .lt 18, 3) := by decide +kernel
theorem dX8_isOperand_212 : decode cX8_isOperand 212 = .ok (.iload_n 2, 1) := by decide +kernel
theorem dX8_isOperand_213 : decode cX8_isOperand 213 = .ok (.aload_n 0, 1) := by decide +kernel
theorem dX8_isOperand_214 : decode cX8_isOperand 214 = .ok (.getfield 19, 3) := by decide +kernel
theorem dX8_isOperand_217 : decode cX8_isOperand 217 = .ok (.getfield 88, 3) := by decide +kernel
theorem dX8_isOperand_220 : decode cX8_isOperand 220 = .ok (.if_icmp .ge 7, 3) := by decide +kernel
theorem dX8_isOperand_223 : decode cX8_isOperand 223 = .ok (.iconst 1, 1) := by decide +kernel
theorem dX8_isOperand_224 : decode cX8_isOperand 224 = .ok (.goto 4, 3) := by decide +kernel
theorem dX8_isOperand_227 : decode cX8_isOperand 227 = .ok (.iconst 0, 1) := by decide +kernel
theorem dX8_isOperand_228 : decode cX8_isOperand 228 = .ok (.ireturn, 1) := by decide +kernel
theorem dX8_isOperand_229 : decode cX8_isOperand 229 = .ok (.iload_n 2, 1) := by decide +kernel
theorem dX8_isOperand_230 : decode cX8_isOperand 230 = .ok (.ifCond .lt 18, 3) := by decide +kernel
theorem dX8_isOperand_233 : decode cX8_isOperand 233 = .ok (.iload_n 2, 1) := by decide +kernel
theorem dX8_isOperand_234 : decode cX8_isOperand 234 = .ok (.aload_n 0, 1) := by decide +kernel
theorem dX8_isOperand_235 : decode cX8_isOperand 235 = .ok (.getfield 19, 3) := by decide +kernel
theorem dX8_isOperand_238 : decode cX8_isOperand 238 = .ok (.getfield 104, 3) := by decide +kernel
theorem dX8_isOperand_241 : decode cX8_isOperand 241 = .ok (.if_icmp .ge 7, 3) := by decide +kernel
theorem dX8_isOperand_244 : decode cX8_isOperand 244 = .ok (.iconst 1, 1) := by decide +kernel
theorem dX8_isOperand_245 : decode cX8_isOperand 245 = .ok (.goto 4, 3) := by decide +kernel
theorem dX8_isOperand_248 : decode cX8_isOperand 248 = .ok (.iconst 0, 1) := by decide +kernel
theorem dX8_isOperand_249 : decode cX8_isOperand 249 = .ok (.ireturn, 1) := by decide +kernel
theorem dX8_isOperand_250 : decode cX8_isOperand 250 = .ok (.aload_n 0, 1) := by decide +kernel
theorem dX8_isOperand_251 : decode cX8_isOperand 251 = .ok (.getfield 10, 3) := by decide +kernel
theorem dX8_isOperand_254 : decode cX8_isOperand 254 = .ok (.iload_n 2, 1) := by decide +kernel
theorem dX8_isOperand_255 : decode cX8_isOperand 255 = .ok (.invokevirtual 55, 3) := by decide +kernel
theorem dX8_isOperand_258 : decode cX8_isOperand 258 = .ok (.ireturn, 1) := by decide +kernel
theorem dX8_isOperand_259 : decode cX8_isOperand 259 = .ok (.iload_n 2, 1) := by decide +kernel
theorem dX8_isOperand_260 : decode cX8_isOperand 260 = .ok (.ifCond .lt 13, 3) := by decide +kernel
theorem dX8_isOperand_263 : decode cX8_isOperand 263 = .ok (.iload_n 2, 1) := by decide +kernel
theorem dX8_isOperand_264 : decode cX8_isOperand 264 = .ok (.bipush 7, 2) := by decide +kernel
theorem dX8_isOperand_266 : decode cX8_isOperand 266 = .ok (.if_icmp .gt 7, 3) := by decide +kernel
theorem dX8_isOperand_269 : decode cX8_isOperand 269 = .ok (.iconst 1, 1) := by decide +kernel
theorem dX8_isOperand_270 : decode cX8_isOperand 270 = .ok (.goto 4, 3) := by decide +kernel
theorem dX8_isOperand_273 : decode cX8_isOperand 273 = .ok (.iconst 0, 1) := by decide +kernel
theorem dX8_isOperand_274 : decode cX8_isOperand 274 = .ok (.ireturn, 1) := by decide +kernel
theorem dX8_isOperand_275 : decode cX8_isOperand 275 = .ok (.aload_n 0, 1) := by decide +kernel
theorem dX8_isOperand_276 : decode cX8_isOperand 276 = .ok (.getfield 10, 3) := by decide +kernel
theorem dX8_isOperand_279 : decode cX8_isOperand 279 = .ok (.iload_n 2, 1) := by decide +kernel
theorem dX8_isOperand_280 : decode cX8_isOperand 280 = .ok (.invokevirtual 230, 3) := by decide +kernel
theorem dX8_isOperand_283 : decode cX8_isOperand 283 = .ok (.ifCond .eq 17, 3) := by decide +kernel
theorem dX8_isOperand_286 : decode cX8_isOperand 286 = .ok (.iload_n 2, 1) := by decide +kernel
theorem dX8_isOperand_287 : decode cX8_isOperand 287 = .ok (.invokestatic 238, 3) := by decide +kernel
theorem dX8_isOperand_290 : decode cX8_isOperand 290 = .ok (.sipush 255, 3) := by decide +kernel
theorem dX8_isOperand_293 : decode cX8_isOperand 293 = .ok (.if_icmp .ge 7, 3) := by decide +kernel
theorem dX8_isOperand_296 : decode cX8_isOperand 296 = .ok (.iconst 1, 1) := by decide +kernel
theorem dX8_isOperand_297 : decode cX8_isOperand 297 = .ok (.goto 4, 3) := by decide +kernel
theorem dX8_isOperand_300 : decode cX8_isOperand 300 = .ok (.iconst 0, 1) := by decide +kernel
theorem dX8_isOperand_301 : decode cX8_isOperand 301 = .ok (.ireturn, 1) := by decide +kernel
theorem dX8_isOperand_302 : decode cX8_isOperand 302 = .ok (.aload_n 0, 1) := by decide +kernel
theorem dX8_isOperand_303 : decode cX8_isOperand 303 = .ok (.getfield 10, 3) := by decide +kernel
theorem dX8_isOperand_306 : decode cX8_isOperand 306 = .ok (.iload_n 2, 1) := by decide +kernel
theorem dX8_isOperand_307 : decode cX8_isOperand 307 = .ok (.invokevirtual 230, 3) := by decide +kernel
theorem dX8_isOperand_310 : decode cX8_isOperand 310 = .ok (.ireturn, 1) := by decide +kernel
theorem dX8_isOperand_311 : decode cX8_isOperand 311 = .ok (.iload_n 1, 1) := by decide +kernel
theorem dX8_isOperand_312 : decode cX8_isOperand 312 = .ok (.invokestatic 247, 3) := by decide +kernel
theorem dX8_isOperand_315 : decode cX8_isOperand 315 = .ok (.ifCond .eq 29, 3) := by decide +kernel
theorem dX8_isOperand_318 : decode cX8_isOperand 318 = .ok (.iload_n 2, 1) := by decide +kernel
theorem dX8_isOperand_319 : decode cX8_isOperand 319 = .ok (.ifCond .eq 21, 3) := by decide +kernel
theorem dX8_isOperand_322 : decode cX8_isOperand 322 = .ok (.iload_n 2, 1) := by decide +kernel
theorem dX8_isOperand_323 : decode cX8_isOperand 323 = .ok (.ifCond .le 21, 3) := by decide +kernel
theorem dX8_isOperand_326 : decode cX8_isOperand 326 = .ok (.iload_n 1, 1) := by decide +kernel
theorem dX8_isOperand_327 : decode cX8_isOperand 327 = .ok (.invokestatic 250, 3) := by decide +kernel
theorem dX8_isOperand_330 : decode cX8_isOperand 330 = .ok (.ifCond .ne 10, 3) := by decide +kernel
theorem dX8_isOperand_333 : decode cX8_isOperand 333 = .ok (.iload_n 1, 1) := by decide +kernel
theorem dX8_isOperand_334 : decode cX8_isOperand 334 = .ok (.invokestatic 253, 3) := by decide +kernel
theorem dX8_isOperand_337 : decode cX8_isOperand 337 = .ok (.ifCond .eq 7, 3) := by decide +kernel
theorem dX8_isOperand_340 : decode cX8_isOperand 340 = .ok (.iconst 1, 1) := by decide +kernel
theorem dX8_isOperand_341 : decode cX8_isOperand 341 = .ok (.goto 4, 3) := by decide +kernel
theorem dX8_isOperand_344 : decode cX8_isOperand 344 = .ok (.iconst 0, 1) := by decide +kernel
theorem dX8_isOperand_345 : decode cX8_isOperand 345 = .ok (.ireturn, 1) := by decide +kernel
theorem dX9_thrown_0 : decode cX9_thrown 0 = .ok (.aload_n 0, 1) := by decide +kernel
theorem dX9_thrown_1 : decode cX9_thrown 1 = .ok (.getfield 1, 3) := by decide +kernel
theorem dX9_thrown_4 : decode cX9_thrown 4 = .ok (.ireturn, 1) := by decide +kernel
theorem dX9_init_0 : decode cX9_init 0 = .ok (.aload_n 0, 1) := by decide +kernel
theorem dX9_init_1 : decode cX9_init 1 = .ok (.invokespecial 7, 3) := by decide +kernel
theorem dX9_init_4 : decode cX9_init 4 = .ok (.aload_n 0, 1) := by decide +kernel
theorem dX9_init_5 : decode cX9_init 5 = .ok (.iconst 4, 1) := by decide +kernel
theorem dX9_init_6 : decode cX9_init 6 = .ok (.putfield 13, 3) := by decide +kernel
theorem dX9_init_9 : decode cX9_init 9 = .ok (.aload_n 0, 1) := by decide +kernel
theorem dX9_init_10 : decode cX9_init 10 = .ok (.sipush 200, 3) := by decide +kernel
theorem dX9_init_13 : decode cX9_init 13 = .ok (.newarray .int, 2) := by decide +kernel
theorem dX9_init_15 : decode cX9_init 15 = .ok (.putfield 16, 3) := by decide +kernel
theorem dX9_init_18 : decode cX9_init 18 = .ok (.aload_n 0, 1) := by decide +kernel
theorem dX9_init_19 : decode cX9_init 19 = .ok (.sipush 200, 3) := by decide +kernel
theorem dX9_init_22 : decode cX9_init 22 = .ok (.newarray .boolean, 2) := by decide +kernel
theorem dX9_init_24 : decode cX9_init 24 = .ok (.putfield 20, 3) := by decide +kernel
theorem dX9_init_27 : decode cX9_init 27 = .ok (.aload_n 0, 1) := by decide +kernel
theorem dX9_init_28 : decode cX9_init 28 = .ok (.bipush 100, 2) := by decide +kernel
theorem dX9_init_30 : decode cX9_init 30 = .ok (.newarray .int, 2) := by decide +kernel
theorem dX9_init_32 : decode cX9_init 32 = .ok (.putfield 24, 3) := by decide +kernel
theorem dX9_init_35 : decode cX9_init 35 = .ok (.aload_n 0, 1) := by decide +kernel
theorem dX9_init_36 : decode cX9_init 36 = .ok (.bipush 100, 2) := by decide +kernel
theorem dX9_init_38 : decode cX9_init 38 = .ok (.newarray .int, 2) := by decide +kernel
theorem dX9_init_40 : decode cX9_init 40 = .ok (.putfield 27, 3) := by decide +kernel
theorem dX9_init_43 : decode cX9_init 43 = .ok (.aload_n 0, 1) := by decide +kernel
theorem dX9_init_44 : decode cX9_init 44 = .ok (.bipush 100, 2) := by decide +kernel
theorem dX9_init_46 : decode cX9_init 46 = .ok (.newarray .int, 2) := by decide +kernel
theorem dX9_init_48 : decode cX9_init 48 = .ok (.putfield 30, 3) := by decide +kernel
theorem dX9_init_51 : decode cX9_init 51 = .ok (.aload_n 0, 1) := by decide +kernel
theorem dX9_init_52 : decode cX9_init 52 = .ok (.bipush 100, 2) := by decide +kernel
theorem dX9_init_54 : decode cX9_init 54 = .ok (.newarray .int, 2) := by decide +kernel
theorem dX9_init_56 : decode cX9_init 56 = .ok (.putfield 33, 3) := by decide +kernel
theorem dX9_init_59 : decode cX9_init 59 = .ok (.aload_n 0, 1) := by decide +kernel
theorem dX9_init_60 : decode cX9_init 60 = .ok (.bipush 100, 2) := by decide +kernel
theorem dX9_init_62 : decode cX9_init 62 = .ok (.newarray .int, 2) := by decide +kernel
theorem dX9_init_64 : decode cX9_init 64 = .ok (.putfield 36, 3) := by decide +kernel
theorem dX9_init_67 : decode cX9_init 67 = .ok (.aload_n 0, 1) := by decide +kernel
theorem dX9_init_68 : decode cX9_init 68 = .ok (.sipush 2000, 3) := by decide +kernel
theorem dX9_init_71 : decode cX9_init 71 = .ok (.newarray .int, 2) := by decide +kernel
theorem dX9_init_73 : decode cX9_init 73 = .ok (.putfield 39, 3) := by decide +kernel
theorem dX9_init_76 : decode cX9_init 76 = .ok (.aload_n 0, 1) := by decide +kernel
theorem dX9_init_77 : decode cX9_init 77 = .ok (.bipush 100, 2) := by decide +kernel
theorem dX9_init_79 : decode cX9_init 79 = .ok (.newarray .boolean, 2) := by decide +kernel
theorem dX9_init_81 : decode cX9_init 81 = .ok (.putfield 42, 3) := by decide +kernel
theorem dX9_init_84 : decode cX9_init 84 = .ok (.aload_n 0, 1) := by decide +kernel
theorem dX9_init_85 : decode cX9_init 85 = .ok (.iconst (-1), 1) := by decide +kernel
theorem dX9_init_86 : decode cX9_init 86 = .ok (.putfield 45, 3) := by decide +kernel
theorem dX9_init_89 : decode cX9_init 89 = .ok (.aload_n 0, 1) := by decide +kernel
theorem dX9_init_90 : decode cX9_init 90 = .ok (.bipush 20, 2) := by decide +kernel
theorem dX9_init_92 : decode cX9_init 92 = .ok (.newarray .int, 2) := by decide +kernel
theorem dX9_init_94 : decode cX9_init 94 = .ok (.putfield 48, 3) := by decide +kernel
theorem dX9_init_97 : decode cX9_init 97 = .ok (.aload_n 0, 1) := by decide +kernel
theorem dX9_init_98 : decode cX9_init 98 = .ok (.sipush 1000, 3) := by decide +kernel
theorem dX9_init_101 : decode cX9_init 101 = .ok (.newarray .int, 2) := by decide +kernel
theorem dX9_init_103 : decode cX9_init 103 = .ok (.putfield 51, 3) := by decide +kernel
theorem dX9_init_106 : decode cX9_init 106 = .ok (.aload_n 0, 1) := by decide +kernel
theorem dX9_init_107 : decode cX9_init 107 = .ok (.sipush 1000, 3) := by decide +kernel
theorem dX9_init_110 : decode cX9_init 110 = .ok (.newarray .int, 2) := by decide +kernel
theorem dX9_init_112 : decode cX9_init 112 = .ok (.putfield 54, 3) := by decide +kernel
theorem dX9_init_115 : decode cX9_init 115 = .ok (.aload_n 0, 1) := by decide +kernel
theorem dX9_init_116 : decode cX9_init 116 = .ok (.sipush 1000, 3) := by decide +kernel
theorem dX9_init_119 : decode cX9_init 119 = .ok (.newarray .int, 2) := by decide +kernel
theorem dX9_init_121 : decode cX9_init 121 = .ok (.putfield 57, 3) := by decide +kernel
theorem dX9_init_124 : decode cX9_init 124 = .ok (.aload_n 0, 1) := by decide +kernel
theorem dX9_init_125 : decode cX9_init 125 = .ok (.sipush 1000, 3) := by decide +kernel
theorem dX9_init_128 : decode cX9_init 128 = .ok (.newarray .int, 2) := by decide +kernel
theorem dX9_init_130 : decode cX9_init 130 = .ok (.putfield 60, 3) := by decide +kernel
theorem dX9_init_133 : decode cX9_init 133 = .ok (.aload_n 0, 1) := by decide +kernel
theorem dX9_init_134 : decode cX9_init 134 = .ok (.sipush 1000, 3) := by decide +kernel
theorem dX9_init_137 : decode cX9_init 137 = .ok (.newarray .int, 2) := by decide +kernel
theorem dX9_init_139 : decode cX9_init 139 = .ok (.putfield 63, 3) := by decide +kernel
theorem dX9_init_142 : decode cX9_init 142 = .ok (.aload_n 0, 1) := by decide +kernel
theorem dX9_init_143 : decode cX9_init 143 = .ok (.ldc 66, 2) := by decide +kernel
theorem dX9_init_145 : decode cX9_init 145 = .ok (.newarray .int, 2) := by decide +kernel
theorem dX9_init_147 : decode cX9_init 147 = .ok (.putfield 67, 3) := by decide +kernel
theorem dX9_init_150 : decode cX9_init 150 = .ok (.aload_n 0, 1) := by decide +kernel
theorem dX9_init_151 : decode cX9_init 151 = .ok (.bipush 50, 2) := by decide +kernel
theorem dX9_init_153 : decode cX9_init 153 = .ok (.newarray .int, 2) := by decide +kernel
theorem dX9_init_155 : decode cX9_init 155 = .ok (.putfield 70, 3) := by decide +kernel
theorem dX9_init_158 : decode cX9_init 158 = .ok (.aload_n 0, 1) := by decide +kernel
theorem dX9_init_159 : decode cX9_init 159 = .ok (.bipush 50, 2) := by decide +kernel
theorem dX9_init_161 : decode cX9_init 161 = .ok (.newarray .int, 2) := by decide +kernel
theorem dX9_init_163 : decode cX9_init 163 = .ok (.putfield 73, 3) := by decide +kernel
theorem dX9_init_166 : decode cX9_init 166 = .ok (.aload_n 0, 1) := by decide +kernel
theorem dX9_init_167 : decode cX9_init 167 = .ok (.bipush 50, 2) := by decide +kernel
theorem dX9_init_169 : decode cX9_init 169 = .ok (.newarray .int, 2) := by decide +kernel
theorem dX9_init_171 : decode cX9_init 171 = .ok (.putfield 76, 3) := by decide +kernel
theorem dX9_init_174 : decode cX9_init 174 = .ok (.aload_n 0, 1) := by decide +kernel
theorem dX9_init_175 : decode cX9_init 175 = .ok (.bipush 50, 2) := by decide +kernel
theorem dX9_init_177 : decode cX9_init 177 = .ok (.newarray .int, 2) := by decide +kernel
theorem dX9_init_179 : decode cX9_init 179 = .ok (.putfield 79, 3) := by decide +kernel
theorem dX9_init_182 : decode cX9_init 182 = .ok (.aload_n 0, 1) := by decide +kernel
theorem dX9_init_183 : decode cX9_init 183 = .ok (.sipush 202, 3) := by decide +kernel
theorem dX9_init_186 : decode cX9_init 186 = .ok (.newarray .int, 2) := by decide +kernel
theorem dX9_init_188 : decode cX9_init 188 = .ok (.putfield 82, 3) := by decide +kernel
theorem dX9_init_191 : decode cX9_init 191 = .ok (.aload_n 0, 1) := by decide +kernel
theorem dX9_init_192 : decode cX9_init 192 = .ok (.sipush 202, 3) := by decide +kernel
theorem dX9_init_195 : decode cX9_init 195 = .ok (.newarray .int, 2) := by decide +kernel
theorem dX9_init_197 : decode cX9_init 197 = .ok (.putfield 85, 3) := by decide +kernel
theorem dX9_init_200 : decode cX9_init 200 = .ok (.aload_n 0, 1) := by decide +kernel
theorem dX9_init_201 : decode cX9_init 201 = .ok (.sipush 20010, 3) := by decide +kernel
theorem dX9_init_204 : decode cX9_init 204 = .ok (.newarray .int, 2) := by decide +kernel
theorem dX9_init_206 : decode cX9_init 206 = .ok (.putfield 88, 3) := by decide +kernel
theorem dX9_init_209 : decode cX9_init 209 = .ok (.aload_n 0, 1) := by decide +kernel
theorem dX9_init_210 : decode cX9_init 210 = .ok (.sipush 20010, 3) := by decide +kernel
theorem dX9_init_213 : decode cX9_init 213 = .ok (.newarray .int, 2) := by decide +kernel
theorem dX9_init_215 : decode cX9_init 215 = .ok (.putfield 91, 3) := by decide +kernel
theorem dX9_init_218 : decode cX9_init 218 = .ok (.aload_n 0, 1) := by decide +kernel
theorem dX9_init_219 : decode cX9_init 219 = .ok (.sipush 20010, 3) := by decide +kernel
theorem dX9_init_222 : decode cX9_init 222 = .ok (.newarray .int, 2) := by decide +kernel
theorem dX9_init_224 : decode cX9_init 224 = .ok (.putfield 94, 3) := by decide +kernel
theorem dX9_init_227 : decode cX9_init 227 = .ok (.aload_n 0, 1) := by decide +kernel
theorem dX9_init_228 : decode cX9_init 228 = .ok (.sipush 20010, 3) := by decide +kernel
theorem dX9_init_231 : decode cX9_init 231 = .ok (.newarray .int, 2) := by decide +kernel
theorem dX9_init_233 : decode cX9_init 233 = .ok (.putfield 97, 3) := by decide +kernel
theorem dX9_init_236 : decode cX9_init 236 = .ok (.aload_n 0, 1) := by decide +kernel
theorem dX9_init_237 : decode cX9_init 237 = .ok (.sipush 1024, 3) := by decide +kernel
theorem dX9_init_240 : decode cX9_init 240 = .ok (.newarray .int, 2) := by decide +kernel
theorem dX9_init_242 : decode cX9_init 242 = .ok (.putfield 100, 3) := by decide +kernel
theorem dX9_init_245 : decode cX9_init 245 = .ok (.aload_n 0, 1) := by decide +kernel
theorem dX9_init_246 : decode cX9_init 246 = .ok (.sipush 20010, 3) := by decide +kernel
theorem dX9_init_249 : decode cX9_init 249 = .ok (.newarray .int, 2) := by decide +kernel
theorem dX9_init_251 : decode cX9_init 251 = .ok (.putfield 103, 3) := by decide +kernel
theorem dX9_init_254 : decode cX9_init 254 = .ok (.aload_n 0, 1) := by decide +kernel
theorem dX9_init_255 : decode cX9_init 255 = .ok (.sipush 20010, 3) := by decide +kernel
theorem dX9_init_258 : decode cX9_init 258 = .ok (.newarray .int, 2) := by decide +kernel
theorem dX9_init_260 : decode cX9_init 260 = .ok (.putfield 106, 3) := by decide +kernel
theorem dX9_init_263 : decode cX9_init 263 = .ok (.aload_n 0, 1) := by decide +kernel
theorem dX9_init_264 : decode cX9_init 264 = .ok (.sipush 20010, 3) := by decide +kernel
theorem dX9_init_267 : decode cX9_init 267 = .ok (.newarray .int, 2) := by decide +kernel
theorem dX9_init_269 : decode cX9_init 269 = .ok (.putfield 109, 3) := by decide +kernel
theorem dX9_init_272 : decode cX9_init 272 = .ok (.aload_n 0, 1) := by decide +kernel
theorem dX9_init_273 : decode cX9_init 273 = .ok (.sipush 1001, 3) := by decide +kernel
theorem dX9_init_276 : decode cX9_init 276 = .ok (.newarray .int, 2) := by decide +kernel
theorem dX9_init_278 : decode cX9_init 278 = .ok (.putfield 112, 3) := by decide +kernel
theorem dX9_init_281 : decode cX9_init 281 = .ok (.aload_n 0, 1) := by decide +kernel
theorem dX9_init_282 : decode cX9_init 282 = .ok (.sipush 20010, 3) := by decide +kernel
theorem dX9_init_285 : decode cX9_init 285 = .ok (.newarray .boolean, 2) := by decide +kernel
theorem dX9_init_287 : decode cX9_init 287 = .ok (.putfield 115, 3) := by decide +kernel
theorem dX9_init_290 : decode cX9_init 290 = .ok (.aload_n 0, 1) := by decide +kernel
theorem dX9_init_291 : decode cX9_init 291 = .ok (.sipush 20010, 3) := by decide +kernel
theorem dX9_init_294 : decode cX9_init 294 = .ok (.newarray .int, 2) := by decide +kernel
theorem dX9_init_296 : decode cX9_init 296 = .ok (.putfield 118, 3) := by decide +kernel
theorem dX9_init_299 : decode cX9_init 299 = .ok (.aload_n 0, 1) := by decide +kernel
theorem dX9_init_300 : decode cX9_init 300 = .ok (.sipush 20010, 3) := by decide +kernel
theorem dX9_init_303 : decode cX9_init 303 = .ok (.newarray .int, 2) := by decide +kernel
theorem dX9_init_305 : decode cX9_init 305 = .ok (.putfield 121, 3) := by decide +kernel
theorem dX9_init_308 : decode cX9_init 308 = .ok (.aload_n 0, 1) := by decide +kernel
theorem dX9_init_309 : decode cX9_init 309 = .ok (.sipush 1001, 3) := by decide +kernel
theorem dX9_init_312 : decode cX9_init 312 = .ok (.newarray .boolean, 2) := by decide +kernel
theorem dX9_init_314 : decode cX9_init 314 = .ok (.putfield 124, 3) := by decide +kernel
theorem dX9_init_317 : decode cX9_init 317 = .ok (.aload_n 0, 1) := by decide +kernel
theorem dX9_init_318 : decode cX9_init 318 = .ok (.ldc 127, 2) := by decide +kernel
theorem dX9_init_320 : decode cX9_init 320 = .ok (.newarray .int, 2) := by decide +kernel
theorem dX9_init_322 : decode cX9_init 322 = .ok (.putfield 128, 3) := by decide +kernel
theorem dX9_init_325 : decode cX9_init 325 = .ok (.aload_n 0, 1) := by decide +kernel
theorem dX9_init_326 : decode cX9_init 326 = .ok (.bipush 17, 2) := by decide +kernel
theorem dX9_init_328 : decode cX9_init 328 = .ok (.newarray .int, 2) := by decide +kernel
theorem dX9_init_330 : decode cX9_init 330 = .ok (.putfield 131, 3) := by decide +kernel
theorem dX9_init_333 : decode cX9_init 333 = .ok (.aload_n 0, 1) := by decide +kernel
theorem dX9_init_334 : decode cX9_init 334 = .ok (.bipush 17, 2) := by decide +kernel
theorem dX9_init_336 : decode cX9_init 336 = .ok (.newarray .int, 2) := by decide +kernel
theorem dX9_init_338 : decode cX9_init 338 = .ok (.putfield 134, 3) := by decide +kernel
theorem dX9_init_341 : decode cX9_init 341 = .ok (.aload_n 0, 1) := by decide +kernel
theorem dX9_init_342 : decode cX9_init 342 = .ok (.iconst 2, 1) := by decide +kernel
theorem dX9_init_343 : decode cX9_init 343 = .ok (.newarray .int, 2) := by decide +kernel
theorem dX9_init_345 : decode cX9_init 345 = .ok (.putfield 137, 3) := by decide +kernel
theorem dX9_init_348 : decode cX9_init 348 = .ok (.aload_n 0, 1) := by decide +kernel
theorem dX9_init_349 : decode cX9_init 349 = .ok (.getfield 16, 3) := by decide +kernel
theorem dX9_init_352 : decode cX9_init 352 = .ok (.iconst 0, 1) := by decide +kernel
theorem dX9_init_353 : decode cX9_init 353 = .ok (.iconst (-1), 1) := by decide +kernel
theorem dX9_init_354 : decode cX9_init 354 = .ok (.iastore, 1) := by decide +kernel
theorem dX9_init_355 : decode cX9_init 355 = .ok (.aload_n 0, 1) := by decide +kernel
theorem dX9_init_356 : decode cX9_init 356 = .ok (.getfield 20, 3) := by decide +kernel
theorem dX9_init_359 : decode cX9_init 359 = .ok (.iconst 2, 1) := by decide +kernel
theorem dX9_init_360 : decode cX9_init 360 = .ok (.iconst 1, 1) := by decide +kernel
theorem dX9_init_361 : decode cX9_init 361 = .ok (.bastore, 1) := by decide +kernel
theorem dX9_init_362 : decode cX9_init 362 = .ok (.aload_n 0, 1) := by decide +kernel
theorem dX9_init_363 : decode cX9_init 363 = .ok (.getfield 20, 3) := by decide +kernel
theorem dX9_init_366 : decode cX9_init 366 = .ok (.iconst 3, 1) := by decide +kernel
theorem dX9_init_367 : decode cX9_init 367 = .ok (.iconst 1, 1) := by decide +kernel
theorem dX9_init_368 : decode cX9_init 368 = .ok (.bastore, 1) := by decide +kernel
theorem dX9_init_369 : decode cX9_init 369 = .ok (.return_, 1) := by decide +kernel
theorem dX9_bad_0 : decode cX9_bad 0 = .ok (.aload_n 0, 1) := by decide +kernel
theorem dX9_bad_1 : decode cX9_bad 1 = .ok (.iconst 1, 1) := by decide +kernel
theorem dX9_bad_2 : decode cX9_bad 2 = .ok (.putfield 1, 3) := by decide +kernel
theorem dX9_bad_5 : decode cX9_bad 5 = .ok (.iconst 0, 1) := by decide +kernel
theorem dX9_bad_6 : decode cX9_bad 6 = .ok (.ireturn, 1) := by decide +kernel
theorem dX9_full_0 : decode cX9_full 0 = .ok (.aload_n 0, 1) := by decide +kernel
theorem dX9_full_1 : decode cX9_full 1 = .ok (.iconst 2, 1) := by decide +kernel
theorem dX9_full_2 : decode cX9_full 2 = .ok (.putfield 1, 3) := by decide +kernel
theorem dX9_full_5 : decode cX9_full 5 = .ok (.iconst 0, 1) := by decide +kernel
theorem dX9_full_6 : decode cX9_full 6 = .ok (.ireturn, 1) := by decide +kernel
theorem dX9_isClass_0 : decode cX9_isClass 0 = .ok (.iload_n 1, 1) := by decide +kernel
theorem dX9_isClass_1 : decode cX9_isClass 1 = .ok (.ifCond .lt 15, 3) := by decide +kernel
theorem dX9_isClass_4 : decode cX9_isClass 4 = .ok (.iload_n 1, 1) := by decide +kernel
theorem dX9_isClass_5 : decode cX9_isClass 5 = .ok (.aload_n 0, 1) := by decide +kernel
theorem dX9_isClass_6 : decode cX9_isClass 6 = .ok (.getfield 13, 3) := by decide +kernel
theorem dX9_isClass_9 : decode cX9_isClass 9 = .ok (.if_icmp .ge 7, 3) := by decide +kernel
theorem dX9_isClass_12 : decode cX9_isClass 12 = .ok (.iconst 1, 1) := by decide +kernel
theorem dX9_isClass_13 : decode cX9_isClass 13 = .ok (.goto 4, 3) := by decide +kernel
theorem dX9_isClass_16 : decode cX9_isClass 16 = .ok (.iconst 0, 1) := by decide +kernel
theorem dX9_isClass_17 : decode cX9_isClass 17 = .ok (.ireturn, 1) := by decide +kernel
theorem dX9_isPrimitive_0 : decode cX9_isPrimitive 0 = .ok (.iload_n 1, 1) := by decide +kernel
theorem dX9_isPrimitive_1 : decode cX9_isPrimitive 1 = .ok (.ldc 140, 2) := by decide +kernel
theorem dX9_isPrimitive_3 : decode cX9_isPrimitive 3 = .ok (.if_icmp .lt 13, 3) := by decide +kernel
theorem dX9_isPrimitive_6 : decode cX9_isPrimitive 6 = .ok (.iload_n 1, 1) := by decide +kernel
theorem dX9_isPrimitive_7 : decode cX9_isPrimitive 7 = .ok (.ldc 141, 2) := by decide +kernel
theorem dX9_isPrimitive_9 : decode cX9_isPrimitive 9 = .ok (.if_icmp .ge 7, 3) := by decide +kernel
theorem dX9_isPrimitive_12 : decode cX9_isPrimitive 12 = .ok (.iconst 1, 1) := by decide +kernel
theorem dX9_isPrimitive_13 : decode cX9_isPrimitive 13 = .ok (.goto 4, 3) := by decide +kernel
theorem dX9_isPrimitive_16 : decode cX9_isPrimitive 16 = .ok (.iconst 0, 1) := by decide +kernel
theorem dX9_isPrimitive_17 : decode cX9_isPrimitive 17 = .ok (.ireturn, 1) := by decide +kernel
set_option maxRecDepth 20000 in
theorem ggX9_isType_X9_isClass : GoodIn wsX9_isType wsX9_isClass := goodIn_r _ [7, 8, 9, 10, 11, 12, 13, 14, 15, 16, 17, 18, 19, 20, 21, 22, 23, 24, 25, 26, 27, 28, 29, 30, 31, 32, 33, 34, 35, 36, 37, 38, 39, 40, 41, 42, 43, 44, 45, 46, 47, 48, 49, 50, 51, 52, 53, 54, 55, 56, 57, 58, 59, 60, 61, 62, 63, 64, 65, 66, 67, 68, 69, 70] rfl (by decide +kernel)
set_option maxRecDepth 20000 in
theorem gX9_isType_X9_isClass : GoodIn wsX9_isType (wsV RX9 143 RX9 yX9_isClass wsX9_isClass) := goodIn_app (goodIn_of _ (by decide +kernel)) ggX9_isType_X9_isClass
theorem dX9_isType_0 : decode cX9_isType 0 = .ok (.iload_n 1, 1) := by decide +kernel
theorem dX9_isType_1 : decode cX9_isType 1 = .ok (.ifCond .lt 37, 3) := by decide +kernel
theorem dX9_isType_4 : decode cX9_isType 4 = .ok (.iload_n 1, 1) := by decide +kernel
theorem dX9_isType_5 : decode cX9_isType 5 = .ok (.bipush 16, 2) := by decide +kernel
theorem dX9_isType_7 : decode cX9_isType 7 = .ok (.ishr, 1) := by decide +kernel
theorem dX9_isType_8 : decode cX9_isType 8 = .ok (.sipush 255, 3) := by decide +kernel
theorem dX9_isType_11 : decode cX9_isType 11 = .ok (.if_icmp .gt 27, 3) := by decide +kernel
theorem dX9_isType_14 : decode cX9_isType 14 = .ok (.aload_n 0, 1) := by decide +kernel
theorem dX9_isType_15 : decode cX9_isType 15 = .ok (.iload_n 1, 1) := by decide +kernel
theorem dX9_isType_16 : decode cX9_isType 16 = .ok (.ldc 142, 2) := by decide +kernel
theorem dX9_isType_18 : decode cX9_isType 18 = .ok (.iand, 1) := by decide +kernel
theorem dX9_isType_19 : decode cX9_isType 19 = .ok (.invokevirtual 143, 3) := by decide +kernel
theorem dX9_isType_22 : decode cX9_isType 22 = .ok (.ifCond .ne 12, 3) := by decide +kernel
theorem dX9_isType_25 : decode cX9_isType 25 = .ok (.iload_n 1, 1) := by decide +kernel
theorem dX9_isType_26 : decode cX9_isType 26 = .ok (.ldc 142, 2) := by decide +kernel
theorem dX9_isType_28 : decode cX9_isType 28 = .ok (.iand, 1) := by decide +kernel
theorem dX9_isType_29 : decode cX9_isType 29 = .ok (.ldc 140, 2) := by decide +kernel
theorem dX9_isType_31 : decode cX9_isType 31 = .ok (.if_icmp .lt 7, 3) := by decide +kernel
theorem dX9_isType_34 : decode cX9_isType 34 = .ok (.iconst 1, 1) := by decide +kernel
theorem dX9_isType_35 : decode cX9_isType 35 = .ok (.goto 4, 3) := by decide +kernel
theorem dX9_isType_38 : decode cX9_isType 38 = .ok (.iconst 0, 1) := by decide +kernel
theorem dX9_isType_39 : decode cX9_isType 39 = .ok (.ireturn, 1) := by decide +kernel
theorem dX9_isWide_0 : decode cX9_isWide 0 = .ok (.iload_n 1, 1) := by decide +kernel
theorem dX9_isWide_1 : decode cX9_isWide 1 = .ok (.ldc 147, 2) := by decide +kernel
theorem dX9_isWide_3 : decode cX9_isWide 3 = .ok (.if_icmp .eq 9, 3) := by decide +kernel
theorem dX9_isWide_6 : decode cX9_isWide 6 = .ok (.iload_n 1, 1) := by decide +kernel
theorem dX9_isWide_7 : decode cX9_isWide 7 = .ok (.ldc 142, 2) := by decide +kernel
theorem dX9_isWide_9 : decode cX9_isWide 9 = .ok (.if_icmp .ne 7, 3) := by decide +kernel
theorem dX9_isWide_12 : decode cX9_isWide 12 = .ok (.iconst 1, 1) := by decide +kernel
theorem dX9_isWide_13 : decode cX9_isWide 13 = .ok (.goto 4, 3) := by decide +kernel
theorem dX9_isWide_16 : decode cX9_isWide 16 = .ok (.iconst 0, 1) := by decide +kernel
theorem dX9_isWide_17 : decode cX9_isWide 17 = .ok (.ireturn, 1) := by decide +kernel
set_option maxRecDepth 20000 in
theorem ggX9_add_X9_isClass : GoodIn wsX9_add wsX9_isClass := goodIn_r _ [9, 3, 18, 19, 20, 21, 22, 23, 24, 25, 26, 27, 28, 29, 30, 31, 32, 33, 34, 35, 36, 37, 38, 39, 40, 41, 42, 43, 44, 45, 46, 47, 48, 49, 50, 51, 52, 53, 54, 55, 56, 57, 58, 59, 60, 61, 62, 63, 64, 65, 66, 67, 68, 69, 70, 71, 72, 73, 74, 75, 76, 77, 78, 79] rfl (by decide +kernel)
set_option maxRecDepth 20000 in
theorem gX9_add_X9_isClass : GoodIn wsX9_add (wsV RX9 143 RX9 yX9_isClass wsX9_isClass) := goodIn_app (goodIn_of _ (by decide +kernel)) ggX9_add_X9_isClass
set_option maxRecDepth 20000 in
theorem ggX9_add_X9_bad : GoodIn wsX9_add wsX9_bad := goodIn_r _ [13, 1, 18, 19, 20, 21, 22, 23, 24, 25, 26, 27, 28, 29, 30, 31, 32, 33, 34, 35, 36, 37, 38, 39, 40, 41, 42, 43, 44, 45, 46, 47, 48, 49, 50, 51, 52, 53, 54, 55, 56, 57, 58, 59, 60, 61, 62, 63, 64, 65, 66, 67, 68, 69, 70, 71, 72, 73, 74, 75, 76, 77, 78, 79] rfl (by decide +kernel)
set_option maxRecDepth 20000 in
theorem gX9_add_X9_bad : GoodIn wsX9_add (wsV RX9 148 RX9 yX9_bad wsX9_bad) := goodIn_app (goodIn_of _ (by decide +kernel)) ggX9_add_X9_bad
set_option maxRecDepth 20000 in
theorem ggX9_add_X9_full : GoodIn wsX9_add wsX9_full := goodIn_r _ [17, 1, 18, 19, 20, 21, 22, 23, 24, 25, 26, 27, 28, 29, 30, 31, 32, 33, 34, 35, 36, 37, 38, 39, 40, 41, 42, 43, 44, 45, 46, 47, 48, 49, 50, 51, 52, 53, 54, 55, 56, 57, 58, 59, 60, 61, 62, 63, 64, 65, 66, 67, 68, 69, 70, 71, 72, 73, 74, 75, 76, 77, 78, 79] rfl (by decide +kernel)
set_option maxRecDepth 20000 in
theorem gX9_add_X9_full : GoodIn wsX9_add (wsV RX9 152 RX9 yX9_full wsX9_full) := goodIn_app (goodIn_of _ (by decide +kernel)) ggX9_add_X9_full
theorem dX9_add_0 : decode cX9_add 0 = .ok (.aload_n 0, 1) := by decide +kernel
theorem dX9_add_1 : decode cX9_add 1 = .ok (.iconst 0, 1) := by decide +kernel
theorem dX9_add_2 : decode cX9_add 2 = .ok (.putfield 1, 3) := by decide +kernel
theorem dX9_add_5 : decode cX9_add 5 = .ok (.aload_n 0, 1) := by decide +kernel
theorem dX9_add_6 : decode cX9_add 6 = .ok (.iload_n 1, 1) := by decide +kernel
theorem dX9_add_7 : decode cX9_add 7 = .ok (.invokevirtual 143, 3) := by decide +kernel
theorem dX9_add_10 : decode cX9_add 10 = .ok (.ifCond .eq 20, 3) := by decide +kernel
theorem dX9_add_13 : decode cX9_add 13 = .ok (.aload_n 0, 1) := by decide +kernel
theorem dX9_add_14 : decode cX9_add 14 = .ok (.getfield 20, 3) := by decide +kernel
theorem dX9_add_17 : decode cX9_add 17 = .ok (.iload_n 1, 1) := by decide +kernel
theorem dX9_add_18 : decode cX9_add 18 = .ok (.baload, 1) := by decide +kernel
theorem dX9_add_19 : decode cX9_add 19 = .ok (.ifCond .ne 11, 3) := by decide +kernel
theorem dX9_add_22 : decode cX9_add 22 = .ok (.iload_n 2, 1) := by decide +kernel
theorem dX9_add_23 : decode cX9_add 23 = .ok (.ifCond .eq 12, 3) := by decide +kernel
theorem dX9_add_26 : decode cX9_add 26 = .ok (.iload_n 1, 1) := by decide +kernel
theorem dX9_add_27 : decode cX9_add 27 = .ok (.ifCond .eq 8, 3) := by decide +kernel
theorem dX9_add_30 : decode cX9_add 30 = .ok (.aload_n 0, 1) := by decide +kernel
theorem dX9_add_31 : decode cX9_add 31 = .ok (.invokevirtual 148, 3) := by decide +kernel
theorem dX9_add_34 : decode cX9_add 34 = .ok (.ireturn, 1) := by decide +kernel
theorem dX9_add_35 : decode cX9_add 35 = .ok (.aload_n 0, 1) := by decide +kernel
theorem dX9_add_36 : decode cX9_add 36 = .ok (.getfield 13, 3) := by decide +kernel
theorem dX9_add_39 : decode cX9_add 39 = .ok (.sipush 200, 3) := by decide +kernel
theorem dX9_add_42 : decode cX9_add 42 = .ok (.if_icmp .ne 8, 3) := by decide +kernel
theorem dX9_add_45 : decode cX9_add 45 = .ok (.aload_n 0, 1) := by decide +kernel
theorem dX9_add_46 : decode cX9_add 46 = .ok (.invokevirtual 152, 3) := by decide +kernel
theorem dX9_add_49 : decode cX9_add 49 = .ok (.ireturn, 1) := by decide +kernel
theorem dX9_add_50 : decode cX9_add 50 = .ok (.aload_n 0, 1) := by decide +kernel
theorem dX9_add_51 : decode cX9_add 51 = .ok (.getfield 16, 3) := by decide +kernel
theorem dX9_add_54 : decode cX9_add 54 = .ok (.aload_n 0, 1) := by decide +kernel
theorem dX9_add_55 : decode cX9_add 55 = .ok (.getfield 13, 3) := by decide +kernel
theorem dX9_add_58 : decode cX9_add 58 = .ok (.iload_n 1, 1) := by decide +kernel
theorem dX9_add_59 : decode cX9_add 59 = .ok (.iastore, 1) := by decide +kernel
theorem dX9_add_60 : decode cX9_add 60 = .ok (.aload_n 0, 1) := by decide +kernel
theorem dX9_add_61 : decode cX9_add 61 = .ok (.getfield 20, 3) := by decide +kernel
theorem dX9_add_64 : decode cX9_add 64 = .ok (.aload_n 0, 1) := by decide +kernel
theorem dX9_add_65 : decode cX9_add 65 = .ok (.getfield 13, 3) := by decide +kernel
theorem dX9_add_68 : decode cX9_add 68 = .ok (.iload_n 2, 1) := by decide +kernel
theorem dX9_add_69 : decode cX9_add 69 = .ok (.bastore, 1) := by decide +kernel
theorem dX9_add_70 : decode cX9_add 70 = .ok (.aload_n 0, 1) := by decide +kernel
theorem dX9_add_71 : decode cX9_add 71 = .ok (.dup, 1) := by decide +kernel
theorem dX9_add_72 : decode cX9_add 72 = .ok (.getfield 13, 3) := by decide +kernel
theorem dX9_add_75 : decode cX9_add 75 = .ok (.dup_x1, 1) := by decide +kernel
theorem dX9_add_76 : decode cX9_add 76 = .ok (.iconst 1, 1) := by decide +kernel
theorem dX9_add_77 : decode cX9_add 77 = .ok (.iadd, 1) := by decide +kernel
theorem dX9_add_78 : decode cX9_add 78 = .ok (.putfield 13, 3) := by decide +kernel
theorem dX9_add_81 : decode cX9_add 81 = .ok (.ireturn, 1) := by decide +kernel
set_option maxRecDepth 20000 in
theorem ggX9_field_X9_isClass : GoodIn wsX9_field wsX9_isClass := goodIn_r _ [9, 10, 25, 26, 27, 28, 29, 30, 31, 32, 33, 34, 35, 36, 37, 38, 39, 40, 41, 42, 43, 44, 45, 46, 47, 48, 49, 50, 51, 52, 53, 54, 55, 56, 57, 58, 59, 60, 61, 62, 63, 64, 65, 66, 67, 68, 69, 70, 71, 72, 73, 74, 75, 76, 77, 78, 79, 80, 81, 82, 83, 84, 85, 86] rfl (by decide +kernel)
set_option maxRecDepth 20000 in
theorem gX9_field_X9_isClass : GoodIn wsX9_field (wsV RX9 143 RX9 yX9_isClass wsX9_isClass) := goodIn_app (goodIn_of _ (by decide +kernel)) ggX9_field_X9_isClass
set_option maxRecDepth 20000 in
theorem ggX9_field_X9_isType : GoodIn wsX9_field wsX9_isType := goodIn_r _ [14, 15, 16, 5, 6, 7, 8, 9, 10, 25, 26, 27, 28, 29, 30, 31, 32, 33, 34, 35, 36, 37, 38, 39, 40, 41, 42, 43, 44, 45, 46, 47, 48, 49, 50, 51, 52, 53, 54, 55, 56, 57, 58, 59, 60, 61, 62, 63, 64, 65, 66, 67, 68, 69, 70, 71, 72, 73, 74, 75, 76, 77, 78, 79, 80, 81, 82, 83, 84, 85, 86] rfl (by decide +kernel)
set_option maxRecDepth 20000 in
theorem gX9_field_X9_isType : GoodIn wsX9_field (wsV RX9 155 RX9 yX9_isType wsX9_isType) := goodIn_app (goodIn_of _ (by decide +kernel)) ggX9_field_X9_isType
set_option maxRecDepth 20000 in
theorem ggX9_field_X9_bad : GoodIn wsX9_field wsX9_bad := goodIn_r _ [20, 1, 25, 26, 27, 28, 29, 30, 31, 32, 33, 34, 35, 36, 37, 38, 39, 40, 41, 42, 43, 44, 45, 46, 47, 48, 49, 50, 51, 52, 53, 54, 55, 56, 57, 58, 59, 60, 61, 62, 63, 64, 65, 66, 67, 68, 69, 70, 71, 72, 73, 74, 75, 76, 77, 78, 79, 80, 81, 82, 83, 84, 85, 86] rfl (by decide +kernel)
set_option maxRecDepth 20000 in
theorem gX9_field_X9_bad : GoodIn wsX9_field (wsV RX9 148 RX9 yX9_bad wsX9_bad) := goodIn_app (goodIn_of _ (by decide +kernel)) ggX9_field_X9_bad
set_option maxRecDepth 20000 in
theorem ggX9_field_X9_full : GoodIn wsX9_field wsX9_full := goodIn_r _ [24, 1, 25, 26, 27, 28, 29, 30, 31, 32, 33, 34, 35, 36, 37, 38, 39, 40, 41, 42, 43, 44, 45, 46, 47, 48, 49, 50, 51, 52, 53, 54, 55, 56, 57, 58, 59, 60, 61, 62, 63, 64, 65, 66, 67, 68, 69, 70, 71, 72, 73, 74, 75, 76, 77, 78, 79, 80, 81, 82, 83, 84, 85, 86] rfl (by decide +kernel)
set_option maxRecDepth 20000 in
theorem gX9_field_X9_full : GoodIn wsX9_field (wsV RX9 152 RX9 yX9_full wsX9_full) := goodIn_app (goodIn_of _ (by decide +kernel)) ggX9_field_X9_full
theorem dX9_field_0 : decode cX9_field 0 = .ok (.aload_n 0, 1) := by decide +kernel
theorem dX9_field_1 : decode cX9_field 1 = .ok (.iconst 0, 1) := by decide +kernel
theorem dX9_field_2 : decode cX9_field 2 = .ok (.putfield 1, 3) := by decide +kernel
theorem dX9_field_5 : decode cX9_field 5 = .ok (.aload_n 0, 1) := by decide +kernel
theorem dX9_field_6 : decode cX9_field 6 = .ok (.iload_n 1, 1) := by decide +kernel
theorem dX9_field_7 : decode cX9_field 7 = .ok (.invokevirtual 143, 3) := by decide +kernel
theorem dX9_field_10 : decode cX9_field 10 = .ok (.ifCond .eq 11, 3) := by decide +kernel
theorem dX9_field_13 : decode cX9_field 13 = .ok (.aload_n 0, 1) := by decide +kernel
theorem dX9_field_14 : decode cX9_field 14 = .ok (.iload_n 2, 1) := by decide +kernel
theorem dX9_field_15 : decode cX9_field 15 = .ok (.invokevirtual 155, 3) := by decide +kernel
theorem dX9_field_18 : decode cX9_field 18 = .ok (.ifCond .ne 8, 3) := by decide +kernel
theorem dX9_field_21 : decode cX9_field 21 = .ok (.aload_n 0, 1) := by decide +kernel
theorem dX9_field_22 : decode cX9_field 22 = .ok (.invokevirtual 148, 3) := by decide +kernel
theorem dX9_field_25 : decode cX9_field 25 = .ok (.ireturn, 1) := by decide +kernel
theorem dX9_field_26 : decode cX9_field 26 = .ok (.aload_n 0, 1) := by decide +kernel
theorem dX9_field_27 : decode cX9_field 27 = .ok (.getfield 158, 3) := by decide +kernel
theorem dX9_field_30 : decode cX9_field 30 = .ok (.bipush 100, 2) := by decide +kernel
theorem dX9_field_32 : decode cX9_field 32 = .ok (.if_icmp .ne 8, 3) := by decide +kernel
theorem dX9_field_35 : decode cX9_field 35 = .ok (.aload_n 0, 1) := by decide +kernel
theorem dX9_field_36 : decode cX9_field 36 = .ok (.invokevirtual 152, 3) := by decide +kernel
theorem dX9_field_39 : decode cX9_field 39 = .ok (.ireturn, 1) := by decide +kernel
theorem dX9_field_40 : decode cX9_field 40 = .ok (.aload_n 0, 1) := by decide +kernel
theorem dX9_field_41 : decode cX9_field 41 = .ok (.getfield 24, 3) := by decide +kernel
theorem dX9_field_44 : decode cX9_field 44 = .ok (.aload_n 0, 1) := by decide +kernel
theorem dX9_field_45 : decode cX9_field 45 = .ok (.getfield 158, 3) := by decide +kernel
theorem dX9_field_48 : decode cX9_field 48 = .ok (.iload_n 1, 1) := by decide +kernel
theorem dX9_field_49 : decode cX9_field 49 = .ok (.iastore, 1) := by decide +kernel
theorem dX9_field_50 : decode cX9_field 50 = .ok (.aload_n 0, 1) := by decide +kernel
theorem dX9_field_51 : decode cX9_field 51 = .ok (.getfield 27, 3) := by decide +kernel
theorem dX9_field_54 : decode cX9_field 54 = .ok (.aload_n 0, 1) := by decide +kernel
theorem dX9_field_55 : decode cX9_field 55 = .ok (.getfield 158, 3) := by decide +kernel
theorem dX9_field_58 : decode cX9_field 58 = .ok (.iload_n 2, 1) := by decide +kernel
theorem dX9_field_59 : decode cX9_field 59 = .ok (.iastore, 1) := by decide +kernel
theorem dX9_field_60 : decode cX9_field 60 = .ok (.aload_n 0, 1) := by decide +kernel
theorem dX9_field_61 : decode cX9_field 61 = .ok (.dup, 1) := by decide +kernel
theorem dX9_field_62 : decode cX9_field 62 = .ok (.getfield 158, 3) := by decide +kernel
theorem dX9_field_65 : decode cX9_field 65 = .ok (.dup_x1, 1) := by decide +kernel
theorem dX9_field_66 : decode cX9_field 66 = .ok (.iconst 1, 1) := by decide +kernel
theorem dX9_field_67 : decode cX9_field 67 = .ok (.iadd, 1) := by decide +kernel
theorem dX9_field_68 : decode cX9_field 68 = .ok (.putfield 158, 3) := by decide +kernel
theorem dX9_field_71 : decode cX9_field 71 = .ok (.ireturn, 1) := by decide +kernel
def ckX9_shape : List (List Cond) := [[.code yX9_shape cX9_shape 4 (some .int)], wsX9_shape_r1, wsX9_shape_r2, wsX90]
theorem ckX9_shapel : wsX9_shape = ckX9_shape.flatten := by
  simp only [wsX9_shape, ckX9_shape, List.flatten_cons, List.flatten_nil, List.append_assoc, List.append_nil, List.cons_append, List.nil_append]
set_option maxRecDepth 20000 in
theorem ggX9_shape_X9_isClass : GoodIn wsX9_shape wsX9_isClass := goodIn_t ckX9_shape ckX9_shapel _ [(1, 11), (1, 12), (3, 0), (3, 1), (3, 2), (3, 3), (3, 4), (3, 5), (3, 6), (3, 7), (3, 8), (3, 9), (3, 10), (3, 11), (3, 12), (3, 13), (3, 14), (3, 15), (3, 16), (3, 17), (3, 18), (3, 19), (3, 20), (3, 21), (3, 22), (3, 23), (3, 24), (3, 25), (3, 26), (3, 27), (3, 28), (3, 29), (3, 30), (3, 31), (3, 32), (3, 33), (3, 34), (3, 35), (3, 36), (3, 37), (3, 38), (3, 39), (3, 40), (3, 41), (3, 42), (3, 43), (3, 44), (3, 45), (3, 46), (3, 47), (3, 48), (3, 49), (3, 50), (3, 51), (3, 52), (3, 53), (3, 54), (3, 55), (3, 56), (3, 57), (3, 58), (3, 59), (3, 60), (3, 61)] rfl (by decide +kernel)
set_option maxRecDepth 20000 in
theorem gX9_shape_X9_isClass : GoodIn wsX9_shape (wsV RX9 143 RX9 yX9_isClass wsX9_isClass) := goodIn_app (goodIn_of _ (by decide +kernel)) ggX9_shape_X9_isClass
set_option maxRecDepth 20000 in
theorem ggX9_shape_X9_isType : GoodIn wsX9_shape wsX9_isType := goodIn_t ckX9_shape ckX9_shapel _ [(1, 16), (1, 17), (1, 18), (1, 7), (1, 8), (1, 9), (1, 10), (1, 11), (1, 12), (3, 0), (3, 1), (3, 2), (3, 3), (3, 4), (3, 5), (3, 6), (3, 7), (3, 8), (3, 9), (3, 10), (3, 11), (3, 12), (3, 13), (3, 14), (3, 15), (3, 16), (3, 17), (3, 18), (3, 19), (3, 20), (3, 21), (3, 22), (3, 23), (3, 24), (3, 25), (3, 26), (3, 27), (3, 28), (3, 29), (3, 30), (3, 31), (3, 32), (3, 33), (3, 34), (3, 35), (3, 36), (3, 37), (3, 38), (3, 39), (3, 40), (3, 41), (3, 42), (3, 43), (3, 44), (3, 45), (3, 46), (3, 47), (3, 48), (3, 49), (3, 50), (3, 51), (3, 52), (3, 53), (3, 54), (3, 55), (3, 56), (3, 57), (3, 58), (3, 59), (3, 60), (3, 61)] rfl (by decide +kernel)
set_option maxRecDepth 20000 in
theorem gX9_shape_X9_isType : GoodIn wsX9_shape (wsV RX9 155 RX9 yX9_isType wsX9_isType) := goodIn_app (goodIn_of _ (by decide +kernel)) ggX9_shape_X9_isType
set_option maxRecDepth 20000 in
theorem ggX9_shape_X9_bad : GoodIn wsX9_shape wsX9_bad := goodIn_t ckX9_shape ckX9_shapel _ [(1, 22), (1, 0), (3, 0), (3, 1), (3, 2), (3, 3), (3, 4), (3, 5), (3, 6), (3, 7), (3, 8), (3, 9), (3, 10), (3, 11), (3, 12), (3, 13), (3, 14), (3, 15), (3, 16), (3, 17), (3, 18), (3, 19), (3, 20), (3, 21), (3, 22), (3, 23), (3, 24), (3, 25), (3, 26), (3, 27), (3, 28), (3, 29), (3, 30), (3, 31), (3, 32), (3, 33), (3, 34), (3, 35), (3, 36), (3, 37), (3, 38), (3, 39), (3, 40), (3, 41), (3, 42), (3, 43), (3, 44), (3, 45), (3, 46), (3, 47), (3, 48), (3, 49), (3, 50), (3, 51), (3, 52), (3, 53), (3, 54), (3, 55), (3, 56), (3, 57), (3, 58), (3, 59), (3, 60), (3, 61)] rfl (by decide +kernel)
set_option maxRecDepth 20000 in
theorem gX9_shape_X9_bad : GoodIn wsX9_shape (wsV RX9 148 RX9 yX9_bad wsX9_bad) := goodIn_app (goodIn_of _ (by decide +kernel)) ggX9_shape_X9_bad
set_option maxRecDepth 20000 in
theorem ggX9_shape_X9_full : GoodIn wsX9_shape wsX9_full := goodIn_t ckX9_shape ckX9_shapel _ [(2, 2), (1, 0), (3, 0), (3, 1), (3, 2), (3, 3), (3, 4), (3, 5), (3, 6), (3, 7), (3, 8), (3, 9), (3, 10), (3, 11), (3, 12), (3, 13), (3, 14), (3, 15), (3, 16), (3, 17), (3, 18), (3, 19), (3, 20), (3, 21), (3, 22), (3, 23), (3, 24), (3, 25), (3, 26), (3, 27), (3, 28), (3, 29), (3, 30), (3, 31), (3, 32), (3, 33), (3, 34), (3, 35), (3, 36), (3, 37), (3, 38), (3, 39), (3, 40), (3, 41), (3, 42), (3, 43), (3, 44), (3, 45), (3, 46), (3, 47), (3, 48), (3, 49), (3, 50), (3, 51), (3, 52), (3, 53), (3, 54), (3, 55), (3, 56), (3, 57), (3, 58), (3, 59), (3, 60), (3, 61)] rfl (by decide +kernel)
set_option maxRecDepth 20000 in
theorem gX9_shape_X9_full : GoodIn wsX9_shape (wsV RX9 152 RX9 yX9_full wsX9_full) := goodIn_app (goodIn_of _ (by decide +kernel)) ggX9_shape_X9_full
theorem dX9_shape_0 : decode cX9_shape 0 = .ok (.aload_n 0, 1) := by decide +kernel
theorem dX9_shape_1 : decode cX9_shape 1 = .ok (.iconst 0, 1) := by decide +kernel
theorem dX9_shape_2 : decode cX9_shape 2 = .ok (.putfield 1, 3) := by decide +kernel
theorem dX9_shape_5 : decode cX9_shape 5 = .ok (.aload_n 0, 1) := by decide +kernel
theorem dX9_shape_6 : decode cX9_shape 6 = .ok (.iload_n 1, 1) := by decide +kernel
theorem dX9_shape_7 : decode cX9_shape 7 = .ok (.invokevirtual 143, 3) := by decide +kernel
theorem dX9_shape_10 : decode cX9_shape 10 = .ok (.ifCond .eq 34, 3) := by decide +kernel
theorem dX9_shape_13 : decode cX9_shape 13 = .ok (.iload_n 2, 1) := by decide +kernel
theorem dX9_shape_14 : decode cX9_shape 14 = .ok (.iconst (-1), 1) := by decide +kernel
theorem dX9_shape_15 : decode cX9_shape 15 = .ok (.if_icmp .eq 11, 3) := by decide +kernel
theorem dX9_shape_18 : decode cX9_shape 18 = .ok (.aload_n 0, 1) := by decide +kernel
theorem dX9_shape_19 : decode cX9_shape 19 = .ok (.iload_n 2, 1) := by decide +kernel
theorem dX9_shape_20 : decode cX9_shape 20 = .ok (.invokevirtual 155, 3) := by decide +kernel
theorem dX9_shape_23 : decode cX9_shape 23 = .ok (.ifCond .eq 21, 3) := by decide +kernel
theorem dX9_shape_26 : decode cX9_shape 26 = .ok (.iload_n 3, 1) := by decide +kernel
theorem dX9_shape_27 : decode cX9_shape 27 = .ok (.ifCond .eq 22, 3) := by decide +kernel
theorem dX9_shape_30 : decode cX9_shape 30 = .ok (.iload_n 2, 1) := by decide +kernel
theorem dX9_shape_31 : decode cX9_shape 31 = .ok (.iconst (-1), 1) := by decide +kernel
theorem dX9_shape_32 : decode cX9_shape 32 = .ok (.if_icmp .ne 12, 3) := by decide +kernel
theorem dX9_shape_35 : decode cX9_shape 35 = .ok (.aload_n 0, 1) := by decide +kernel
theorem dX9_shape_36 : decode cX9_shape 36 = .ok (.getfield 20, 3) := by decide +kernel
theorem dX9_shape_39 : decode cX9_shape 39 = .ok (.iload_n 1, 1) := by decide +kernel
theorem dX9_shape_40 : decode cX9_shape 40 = .ok (.baload, 1) := by decide +kernel
theorem dX9_shape_41 : decode cX9_shape 41 = .ok (.ifCond .eq 8, 3) := by decide +kernel
theorem dX9_shape_44 : decode cX9_shape 44 = .ok (.aload_n 0, 1) := by decide +kernel
theorem dX9_shape_45 : decode cX9_shape 45 = .ok (.invokevirtual 148, 3) := by decide +kernel
theorem dX9_shape_48 : decode cX9_shape 48 = .ok (.ireturn, 1) := by decide +kernel
theorem dX9_shape_49 : decode cX9_shape 49 = .ok (.aload_n 0, 1) := by decide +kernel
theorem dX9_shape_50 : decode cX9_shape 50 = .ok (.getfield 161, 3) := by decide +kernel
theorem dX9_shape_53 : decode cX9_shape 53 = .ok (.bipush 100, 2) := by decide +kernel
theorem dX9_shape_55 : decode cX9_shape 55 = .ok (.if_icmp .ne 8, 3) := by decide +kernel
theorem dX9_shape_58 : decode cX9_shape 58 = .ok (.aload_n 0, 1) := by decide +kernel
theorem dX9_shape_59 : decode cX9_shape 59 = .ok (.invokevirtual 152, 3) := by decide +kernel
theorem dX9_shape_62 : decode cX9_shape 62 = .ok (.ireturn, 1) := by decide +kernel
theorem dX9_shape_63 : decode cX9_shape 63 = .ok (.aload_n 0, 1) := by decide +kernel
theorem dX9_shape_64 : decode cX9_shape 64 = .ok (.getfield 30, 3) := by decide +kernel
theorem dX9_shape_67 : decode cX9_shape 67 = .ok (.aload_n 0, 1) := by decide +kernel
theorem dX9_shape_68 : decode cX9_shape 68 = .ok (.getfield 161, 3) := by decide +kernel
theorem dX9_shape_71 : decode cX9_shape 71 = .ok (.iload_n 1, 1) := by decide +kernel
theorem dX9_shape_72 : decode cX9_shape 72 = .ok (.iastore, 1) := by decide +kernel
theorem dX9_shape_73 : decode cX9_shape 73 = .ok (.aload_n 0, 1) := by decide +kernel
theorem dX9_shape_74 : decode cX9_shape 74 = .ok (.getfield 33, 3) := by decide +kernel
theorem dX9_shape_77 : decode cX9_shape 77 = .ok (.aload_n 0, 1) := by decide +kernel
theorem dX9_shape_78 : decode cX9_shape 78 = .ok (.getfield 161, 3) := by decide +kernel
theorem dX9_shape_81 : decode cX9_shape 81 = .ok (.iload_n 2, 1) := by decide +kernel
theorem dX9_shape_82 : decode cX9_shape 82 = .ok (.iastore, 1) := by decide +kernel
theorem dX9_shape_83 : decode cX9_shape 83 = .ok (.aload_n 0, 1) := by decide +kernel
theorem dX9_shape_84 : decode cX9_shape 84 = .ok (.getfield 42, 3) := by decide +kernel
theorem dX9_shape_87 : decode cX9_shape 87 = .ok (.aload_n 0, 1) := by decide +kernel
theorem dX9_shape_88 : decode cX9_shape 88 = .ok (.getfield 161, 3) := by decide +kernel
theorem dX9_shape_91 : decode cX9_shape 91 = .ok (.iload_n 3, 1) := by decide +kernel
theorem dX9_shape_92 : decode cX9_shape 92 = .ok (.bastore, 1) := by decide +kernel
theorem dX9_shape_93 : decode cX9_shape 93 = .ok (.aload_n 0, 1) := by decide +kernel
theorem dX9_shape_94 : decode cX9_shape 94 = .ok (.getfield 36, 3) := by decide +kernel
theorem dX9_shape_97 : decode cX9_shape 97 = .ok (.aload_n 0, 1) := by decide +kernel
theorem dX9_shape_98 : decode cX9_shape 98 = .ok (.getfield 161, 3) := by decide +kernel
theorem dX9_shape_101 : decode cX9_shape 101 = .ok (.iconst 0, 1) := by decide +kernel
theorem dX9_shape_102 : decode cX9_shape 102 = .ok (.iastore, 1) := by decide +kernel
theorem dX9_shape_103 : decode cX9_shape 103 = .ok (.aload_n 0, 1) := by decide +kernel
theorem dX9_shape_104 : decode cX9_shape 104 = .ok (.dup, 1) := by decide +kernel
theorem dX9_shape_105 : decode cX9_shape 105 = .ok (.getfield 161, 3) := by decide +kernel
theorem dX9_shape_108 : decode cX9_shape 108 = .ok (.dup_x1, 1) := by decide +kernel
theorem dX9_shape_109 : decode cX9_shape 109 = .ok (.iconst 1, 1) := by decide +kernel
theorem dX9_shape_110 : decode cX9_shape 110 = .ok (.iadd, 1) := by decide +kernel
theorem dX9_shape_111 : decode cX9_shape 111 = .ok (.putfield 161, 3) := by decide +kernel
theorem dX9_shape_114 : decode cX9_shape 114 = .ok (.ireturn, 1) := by decide +kernel
set_option maxRecDepth 20000 in
theorem ggX9_takes_X9_isType : GoodIn wsX9_takes wsX9_isType := goodIn_r _ [9, 10, 11, 12, 13, 14, 8, 15, 16, 25, 26, 27, 28, 29, 30, 31, 32, 33, 34, 35, 36, 37, 38, 39, 40, 41, 42, 43, 44, 45, 46, 47, 48, 49, 50, 51, 52, 53, 54, 55, 56, 57, 58, 59, 60, 61, 62, 63, 64, 65, 66, 67, 68, 69, 70, 71, 72, 73, 74, 75, 76, 77, 78, 79, 80, 81, 82, 83, 84, 85, 86] rfl (by decide +kernel)
set_option maxRecDepth 20000 in
theorem gX9_takes_X9_isType : GoodIn wsX9_takes (wsV RX9 155 RX9 yX9_isType wsX9_isType) := goodIn_app (goodIn_of _ (by decide +kernel)) ggX9_takes_X9_isType
set_option maxRecDepth 20000 in
theorem ggX9_takes_X9_bad : GoodIn wsX9_takes wsX9_bad := goodIn_r _ [20, 1, 25, 26, 27, 28, 29, 30, 31, 32, 33, 34, 35, 36, 37, 38, 39, 40, 41, 42, 43, 44, 45, 46, 47, 48, 49, 50, 51, 52, 53, 54, 55, 56, 57, 58, 59, 60, 61, 62, 63, 64, 65, 66, 67, 68, 69, 70, 71, 72, 73, 74, 75, 76, 77, 78, 79, 80, 81, 82, 83, 84, 85, 86] rfl (by decide +kernel)
set_option maxRecDepth 20000 in
theorem gX9_takes_X9_bad : GoodIn wsX9_takes (wsV RX9 148 RX9 yX9_bad wsX9_bad) := goodIn_app (goodIn_of _ (by decide +kernel)) ggX9_takes_X9_bad
set_option maxRecDepth 20000 in
theorem ggX9_takes_X9_full : GoodIn wsX9_takes wsX9_full := goodIn_r _ [24, 1, 25, 26, 27, 28, 29, 30, 31, 32, 33, 34, 35, 36, 37, 38, 39, 40, 41, 42, 43, 44, 45, 46, 47, 48, 49, 50, 51, 52, 53, 54, 55, 56, 57, 58, 59, 60, 61, 62, 63, 64, 65, 66, 67, 68, 69, 70, 71, 72, 73, 74, 75, 76, 77, 78, 79, 80, 81, 82, 83, 84, 85, 86] rfl (by decide +kernel)
set_option maxRecDepth 20000 in
theorem gX9_takes_X9_full : GoodIn wsX9_takes (wsV RX9 152 RX9 yX9_full wsX9_full) := goodIn_app (goodIn_of _ (by decide +kernel)) ggX9_takes_X9_full
theorem dX9_takes_0 : decode cX9_takes 0 = .ok (.aload_n 0, 1) := by decide +kernel
theorem dX9_takes_1 : decode cX9_takes 1 = .ok (.iconst 0, 1) := by decide +kernel
theorem dX9_takes_2 : decode cX9_takes 2 = .ok (.putfield 1, 3) := by decide +kernel
theorem dX9_takes_5 : decode cX9_takes 5 = .ok (.aload_n 0, 1) := by decide +kernel
theorem dX9_takes_6 : decode cX9_takes 6 = .ok (.iload_n 1, 1) := by decide +kernel
theorem dX9_takes_7 : decode cX9_takes 7 = .ok (.invokevirtual 155, 3) := by decide +kernel
theorem dX9_takes_10 : decode cX9_takes 10 = .ok (.ifCond .ne 8, 3) := by decide +kernel
theorem dX9_takes_13 : decode cX9_takes 13 = .ok (.aload_n 0, 1) := by decide +kernel
theorem dX9_takes_14 : decode cX9_takes 14 = .ok (.invokevirtual 148, 3) := by decide +kernel
theorem dX9_takes_17 : decode cX9_takes 17 = .ok (.ireturn, 1) := by decide +kernel
theorem dX9_takes_18 : decode cX9_takes 18 = .ok (.aload_n 0, 1) := by decide +kernel
theorem dX9_takes_19 : decode cX9_takes 19 = .ok (.getfield 161, 3) := by decide +kernel
theorem dX9_takes_22 : decode cX9_takes 22 = .ok (.ifCond .eq 19, 3) := by decide +kernel
theorem dX9_takes_25 : decode cX9_takes 25 = .ok (.aload_n 0, 1) := by decide +kernel
theorem dX9_takes_26 : decode cX9_takes 26 = .ok (.getfield 36, 3) := by decide +kernel
theorem dX9_takes_29 : decode cX9_takes 29 = .ok (.aload_n 0, 1) := by decide +kernel
theorem dX9_takes_30 : decode cX9_takes 30 = .ok (.getfield 161, 3) := by decide +kernel
theorem dX9_takes_33 : decode cX9_takes 33 = .ok (.iconst 1, 1) := by decide +kernel
theorem dX9_takes_34 : decode cX9_takes 34 = .ok (.isub, 1) := by decide +kernel
theorem dX9_takes_35 : decode cX9_takes 35 = .ok (.iaload, 1) := by decide +kernel
theorem dX9_takes_36 : decode cX9_takes 36 = .ok (.bipush 20, 2) := by decide +kernel
theorem dX9_takes_38 : decode cX9_takes 38 = .ok (.if_icmp .ne 8, 3) := by decide +kernel
theorem dX9_takes_41 : decode cX9_takes 41 = .ok (.aload_n 0, 1) := by decide +kernel
theorem dX9_takes_42 : decode cX9_takes 42 = .ok (.invokevirtual 152, 3) := by decide +kernel
theorem dX9_takes_45 : decode cX9_takes 45 = .ok (.ireturn, 1) := by decide +kernel
theorem dX9_takes_46 : decode cX9_takes 46 = .ok (.aload_n 0, 1) := by decide +kernel
theorem dX9_takes_47 : decode cX9_takes 47 = .ok (.getfield 161, 3) := by decide +kernel
theorem dX9_takes_50 : decode cX9_takes 50 = .ok (.iconst 1, 1) := by decide +kernel
theorem dX9_takes_51 : decode cX9_takes 51 = .ok (.isub, 1) := by decide +kernel
theorem dX9_takes_52 : decode cX9_takes 52 = .ok (.istore_n 2, 1) := by decide +kernel
theorem dX9_takes_53 : decode cX9_takes 53 = .ok (.aload_n 0, 1) := by decide +kernel
theorem dX9_takes_54 : decode cX9_takes 54 = .ok (.getfield 39, 3) := by decide +kernel
theorem dX9_takes_57 : decode cX9_takes 57 = .ok (.bipush 20, 2) := by decide +kernel
theorem dX9_takes_59 : decode cX9_takes 59 = .ok (.iload_n 2, 1) := by decide +kernel
theorem dX9_takes_60 : decode cX9_takes 60 = .ok (.imul, 1) := by decide +kernel
theorem dX9_takes_61 : decode cX9_takes 61 = .ok (.aload_n 0, 1) := by decide +kernel
theorem dX9_takes_62 : decode cX9_takes 62 = .ok (.getfield 36, 3) := by decide +kernel
theorem dX9_takes_65 : decode cX9_takes 65 = .ok (.iload_n 2, 1) := by decide +kernel
theorem dX9_takes_66 : decode cX9_takes 66 = .ok (.iaload, 1) := by decide +kernel
theorem dX9_takes_67 : decode cX9_takes 67 = .ok (.iadd, 1) := by decide +kernel
theorem dX9_takes_68 : decode cX9_takes 68 = .ok (.iload_n 1, 1) := by decide +kernel
theorem dX9_takes_69 : decode cX9_takes 69 = .ok (.iastore, 1) := by decide +kernel
theorem dX9_takes_70 : decode cX9_takes 70 = .ok (.aload_n 0, 1) := by decide +kernel
theorem dX9_takes_71 : decode cX9_takes 71 = .ok (.getfield 36, 3) := by decide +kernel
theorem dX9_takes_74 : decode cX9_takes 74 = .ok (.iload_n 2, 1) := by decide +kernel
theorem dX9_takes_75 : decode cX9_takes 75 = .ok (.dup2, 1) := by decide +kernel
theorem dX9_takes_76 : decode cX9_takes 76 = .ok (.iaload, 1) := by decide +kernel
theorem dX9_takes_77 : decode cX9_takes 77 = .ok (.iconst 1, 1) := by decide +kernel
theorem dX9_takes_78 : decode cX9_takes 78 = .ok (.iadd, 1) := by decide +kernel
theorem dX9_takes_79 : decode cX9_takes 79 = .ok (.iastore, 1) := by decide +kernel
theorem dX9_takes_80 : decode cX9_takes 80 = .ok (.aload_n 0, 1) := by decide +kernel
theorem dX9_takes_81 : decode cX9_takes 81 = .ok (.getfield 36, 3) := by decide +kernel
theorem dX9_takes_84 : decode cX9_takes 84 = .ok (.iload_n 2, 1) := by decide +kernel
theorem dX9_takes_85 : decode cX9_takes 85 = .ok (.iaload, 1) := by decide +kernel
theorem dX9_takes_86 : decode cX9_takes 86 = .ok (.ireturn, 1) := by decide +kernel
def ckX9_method : List (List Cond) := [[.code yX9_method cX9_method 6 (some .int)], wsX9_method_r1, wsX9_method_r2, wsX90]
theorem ckX9_methodl : wsX9_method = ckX9_method.flatten := by
  simp only [wsX9_method, ckX9_method, List.flatten_cons, List.flatten_nil, List.append_assoc, List.append_nil, List.cons_append, List.nil_append]
set_option maxRecDepth 20000 in
theorem ggX9_method_X9_isClass : GoodIn wsX9_method wsX9_isClass := goodIn_t ckX9_method ckX9_methodl _ [(1, 15), (1, 16), (3, 0), (3, 1), (3, 2), (3, 3), (3, 4), (3, 5), (3, 6), (3, 7), (3, 8), (3, 9), (3, 10), (3, 11), (3, 12), (3, 13), (3, 14), (3, 15), (3, 16), (3, 17), (3, 18), (3, 19), (3, 20), (3, 21), (3, 22), (3, 23), (3, 24), (3, 25), (3, 26), (3, 27), (3, 28), (3, 29), (3, 30), (3, 31), (3, 32), (3, 33), (3, 34), (3, 35), (3, 36), (3, 37), (3, 38), (3, 39), (3, 40), (3, 41), (3, 42), (3, 43), (3, 44), (3, 45), (3, 46), (3, 47), (3, 48), (3, 49), (3, 50), (3, 51), (3, 52), (3, 53), (3, 54), (3, 55), (3, 56), (3, 57), (3, 58), (3, 59), (3, 60), (3, 61)] rfl (by decide +kernel)
set_option maxRecDepth 20000 in
theorem gX9_method_X9_isClass : GoodIn wsX9_method (wsV RX9 143 RX9 yX9_isClass wsX9_isClass) := goodIn_app (goodIn_of _ (by decide +kernel)) ggX9_method_X9_isClass
set_option maxRecDepth 20000 in
theorem ggX9_method_X9_isType : GoodIn wsX9_method wsX9_isType := goodIn_t ckX9_method ckX9_methodl _ [(1, 20), (1, 21), (1, 22), (1, 11), (1, 12), (1, 13), (1, 14), (1, 15), (1, 16), (3, 0), (3, 1), (3, 2), (3, 3), (3, 4), (3, 5), (3, 6), (3, 7), (3, 8), (3, 9), (3, 10), (3, 11), (3, 12), (3, 13), (3, 14), (3, 15), (3, 16), (3, 17), (3, 18), (3, 19), (3, 20), (3, 21), (3, 22), (3, 23), (3, 24), (3, 25), (3, 26), (3, 27), (3, 28), (3, 29), (3, 30), (3, 31), (3, 32), (3, 33), (3, 34), (3, 35), (3, 36), (3, 37), (3, 38), (3, 39), (3, 40), (3, 41), (3, 42), (3, 43), (3, 44), (3, 45), (3, 46), (3, 47), (3, 48), (3, 49), (3, 50), (3, 51), (3, 52), (3, 53), (3, 54), (3, 55), (3, 56), (3, 57), (3, 58), (3, 59), (3, 60), (3, 61)] rfl (by decide +kernel)
set_option maxRecDepth 20000 in
theorem gX9_method_X9_isType : GoodIn wsX9_method (wsV RX9 155 RX9 yX9_isType wsX9_isType) := goodIn_app (goodIn_of _ (by decide +kernel)) ggX9_method_X9_isType
set_option maxRecDepth 20000 in
theorem ggX9_method_X9_bad : GoodIn wsX9_method wsX9_bad := goodIn_t ckX9_method ckX9_methodl _ [(2, 2), (1, 0), (3, 0), (3, 1), (3, 2), (3, 3), (3, 4), (3, 5), (3, 6), (3, 7), (3, 8), (3, 9), (3, 10), (3, 11), (3, 12), (3, 13), (3, 14), (3, 15), (3, 16), (3, 17), (3, 18), (3, 19), (3, 20), (3, 21), (3, 22), (3, 23), (3, 24), (3, 25), (3, 26), (3, 27), (3, 28), (3, 29), (3, 30), (3, 31), (3, 32), (3, 33), (3, 34), (3, 35), (3, 36), (3, 37), (3, 38), (3, 39), (3, 40), (3, 41), (3, 42), (3, 43), (3, 44), (3, 45), (3, 46), (3, 47), (3, 48), (3, 49), (3, 50), (3, 51), (3, 52), (3, 53), (3, 54), (3, 55), (3, 56), (3, 57), (3, 58), (3, 59), (3, 60), (3, 61)] rfl (by decide +kernel)
set_option maxRecDepth 20000 in
theorem gX9_method_X9_bad : GoodIn wsX9_method (wsV RX9 148 RX9 yX9_bad wsX9_bad) := goodIn_app (goodIn_of _ (by decide +kernel)) ggX9_method_X9_bad
theorem dX9_method_0 : decode cX9_method 0 = .ok (.aload_n 0, 1) := by decide +kernel
theorem dX9_method_1 : decode cX9_method 1 = .ok (.iconst 0, 1) := by decide +kernel
theorem dX9_method_2 : decode cX9_method 2 = .ok (.putfield 1, 3) := by decide +kernel
theorem dX9_method_5 : decode cX9_method 5 = .ok (.aload_n 0, 1) := by decide +kernel
theorem dX9_method_6 : decode cX9_method 6 = .ok (.iload_n 1, 1) := by decide +kernel
theorem dX9_method_7 : decode cX9_method 7 = .ok (.invokevirtual 143, 3) := by decide +kernel
theorem dX9_method_10 : decode cX9_method 10 = .ok (.ifCond .eq 70, 3) := by decide +kernel
theorem dX9_method_13 : decode cX9_method 13 = .ok (.iload_n 2, 1) := by decide +kernel
theorem dX9_method_14 : decode cX9_method 14 = .ok (.ifCond .lt 66, 3) := by decide +kernel
theorem dX9_method_17 : decode cX9_method 17 = .ok (.iload_n 2, 1) := by decide +kernel
theorem dX9_method_18 : decode cX9_method 18 = .ok (.iconst 2, 1) := by decide +kernel
theorem dX9_method_19 : decode cX9_method 19 = .ok (.if_icmp .gt 61, 3) := by decide +kernel
theorem dX9_method_22 : decode cX9_method 22 = .ok (.iload_n 3, 1) := by decide +kernel
theorem dX9_method_23 : decode cX9_method 23 = .ok (.iconst (-1), 1) := by decide +kernel
theorem dX9_method_24 : decode cX9_method 24 = .ok (.if_icmp .eq 16, 3) := by decide +kernel
theorem dX9_method_27 : decode cX9_method 27 = .ok (.aload_n 0, 1) := by decide +kernel
theorem dX9_method_28 : decode cX9_method 28 = .ok (.iload_n 3, 1) := by decide +kernel
theorem dX9_method_29 : decode cX9_method 29 = .ok (.invokevirtual 155, 3) := by decide +kernel
theorem dX9_method_32 : decode cX9_method 32 = .ok (.ifCond .eq 48, 3) := by decide +kernel
theorem dX9_method_35 : decode cX9_method 35 = .ok (.iload_n 2, 1) := by decide +kernel
theorem dX9_method_36 : decode cX9_method 36 = .ok (.iconst 2, 1) := by decide +kernel
theorem dX9_method_37 : decode cX9_method 37 = .ok (.if_icmp .eq 43, 3) := by decide +kernel
theorem dX9_method_40 : decode cX9_method 40 = .ok (.iload_n 2, 1) := by decide +kernel
theorem dX9_method_41 : decode cX9_method 41 = .ok (.iconst 2, 1) := by decide +kernel
theorem dX9_method_42 : decode cX9_method 42 = .ok (.if_icmp .ne 12, 3) := by decide +kernel
theorem dX9_method_45 : decode cX9_method 45 = .ok (.aload_n 0, 1) := by decide +kernel
theorem dX9_method_46 : decode cX9_method 46 = .ok (.getfield 20, 3) := by decide +kernel
theorem dX9_method_49 : decode cX9_method 49 = .ok (.iload_n 1, 1) := by decide +kernel
theorem dX9_method_50 : decode cX9_method 50 = .ok (.baload, 1) := by decide +kernel
theorem dX9_method_51 : decode cX9_method 51 = .ok (.ifCond .ne 29, 3) := by decide +kernel
theorem dX9_method_54 : decode cX9_method 54 = .ok (.iload 4, 2) := by decide +kernel
theorem dX9_method_56 : decode cX9_method 56 = .ok (.ifCond .lt 24, 3) := by decide +kernel
theorem dX9_method_59 : decode cX9_method 59 = .ok (.iload 4, 2) := by decide +kernel
theorem dX9_method_61 : decode cX9_method 61 = .ok (.sipush 200, 3) := by decide +kernel
theorem dX9_method_64 : decode cX9_method 64 = .ok (.if_icmp .gt 16, 3) := by decide +kernel
theorem dX9_method_67 : decode cX9_method 67 = .ok (.iload 5, 2) := by decide +kernel
theorem dX9_method_69 : decode cX9_method 69 = .ok (.ifCond .lt 11, 3) := by decide +kernel
theorem dX9_method_72 : decode cX9_method 72 = .ok (.iload 5, 2) := by decide +kernel
theorem dX9_method_74 : decode cX9_method 74 = .ok (.sipush 200, 3) := by decide +kernel
theorem dX9_method_77 : decode cX9_method 77 = .ok (.if_icmp .le 8, 3) := by decide +kernel
theorem dX9_method_80 : decode cX9_method 80 = .ok (.aload_n 0, 1) := by decide +kernel
theorem dX9_method_81 : decode cX9_method 81 = .ok (.invokevirtual 148, 3) := by decide +kernel
theorem dX9_method_84 : decode cX9_method 84 = .ok (.ireturn, 1) := by decide +kernel
theorem dX9_method_85 : decode cX9_method 85 = .ok (.aload_n 0, 1) := by decide +kernel
theorem dX9_method_86 : decode cX9_method 86 = .ok (.iload_n 1, 1) := by decide +kernel
theorem dX9_method_87 : decode cX9_method 87 = .ok (.putfield 164, 3) := by decide +kernel
theorem dX9_method_90 : decode cX9_method 90 = .ok (.aload_n 0, 1) := by decide +kernel
theorem dX9_method_91 : decode cX9_method 91 = .ok (.iload_n 2, 1) := by decide +kernel
theorem dX9_method_92 : decode cX9_method 92 = .ok (.putfield 167, 3) := by decide +kernel
theorem dX9_method_95 : decode cX9_method 95 = .ok (.aload_n 0, 1) := by decide +kernel
theorem dX9_method_96 : decode cX9_method 96 = .ok (.iload_n 3, 1) := by decide +kernel
theorem dX9_method_97 : decode cX9_method 97 = .ok (.putfield 45, 3) := by decide +kernel
theorem dX9_method_100 : decode cX9_method 100 = .ok (.aload_n 0, 1) := by decide +kernel
theorem dX9_method_101 : decode cX9_method 101 = .ok (.iload 4, 2) := by decide +kernel
theorem dX9_method_103 : decode cX9_method 103 = .ok (.putfield 170, 3) := by decide +kernel
theorem dX9_method_106 : decode cX9_method 106 = .ok (.aload_n 0, 1) := by decide +kernel
theorem dX9_method_107 : decode cX9_method 107 = .ok (.iload 5, 2) := by decide +kernel
theorem dX9_method_109 : decode cX9_method 109 = .ok (.putfield 173, 3) := by decide +kernel
theorem dX9_method_112 : decode cX9_method 112 = .ok (.aload_n 0, 1) := by decide +kernel
theorem dX9_method_113 : decode cX9_method 113 = .ok (.iconst 0, 1) := by decide +kernel
theorem dX9_method_114 : decode cX9_method 114 = .ok (.putfield 176, 3) := by decide +kernel
theorem dX9_method_117 : decode cX9_method 117 = .ok (.aload_n 0, 1) := by decide +kernel
theorem dX9_method_118 : decode cX9_method 118 = .ok (.iconst 0, 1) := by decide +kernel
theorem dX9_method_119 : decode cX9_method 119 = .ok (.putfield 179, 3) := by decide +kernel
theorem dX9_method_122 : decode cX9_method 122 = .ok (.aload_n 0, 1) := by decide +kernel
theorem dX9_method_123 : decode cX9_method 123 = .ok (.iconst 0, 1) := by decide +kernel
theorem dX9_method_124 : decode cX9_method 124 = .ok (.putfield 182, 3) := by decide +kernel
theorem dX9_method_127 : decode cX9_method 127 = .ok (.aload_n 0, 1) := by decide +kernel
theorem dX9_method_128 : decode cX9_method 128 = .ok (.iconst 0, 1) := by decide +kernel
theorem dX9_method_129 : decode cX9_method 129 = .ok (.putfield 185, 3) := by decide +kernel
theorem dX9_method_132 : decode cX9_method 132 = .ok (.iconst 0, 1) := by decide +kernel
theorem dX9_method_133 : decode cX9_method 133 = .ok (.ireturn, 1) := by decide +kernel
set_option maxRecDepth 20000 in
theorem ggX9_argument_X9_isType : GoodIn wsX9_argument wsX9_isType := goodIn_r _ [8, 9, 10, 11, 12, 13, 7, 14, 15, 24, 25, 26, 27, 28, 29, 30, 31, 32, 33, 34, 35, 36, 37, 38, 39, 40, 41, 42, 43, 44, 45, 46, 47, 48, 49, 50, 51, 52, 53, 54, 55, 56, 57, 58, 59, 60, 61, 62, 63, 64, 65, 66, 67, 68, 69, 70, 71, 72, 73, 74, 75, 76, 77, 78, 79, 80, 81, 82, 83, 84, 85] rfl (by decide +kernel)
set_option maxRecDepth 20000 in
theorem gX9_argument_X9_isType : GoodIn wsX9_argument (wsV RX9 155 RX9 yX9_isType wsX9_isType) := goodIn_app (goodIn_of _ (by decide +kernel)) ggX9_argument_X9_isType
set_option maxRecDepth 20000 in
theorem ggX9_argument_X9_bad : GoodIn wsX9_argument wsX9_bad := goodIn_r _ [19, 1, 24, 25, 26, 27, 28, 29, 30, 31, 32, 33, 34, 35, 36, 37, 38, 39, 40, 41, 42, 43, 44, 45, 46, 47, 48, 49, 50, 51, 52, 53, 54, 55, 56, 57, 58, 59, 60, 61, 62, 63, 64, 65, 66, 67, 68, 69, 70, 71, 72, 73, 74, 75, 76, 77, 78, 79, 80, 81, 82, 83, 84, 85] rfl (by decide +kernel)
set_option maxRecDepth 20000 in
theorem gX9_argument_X9_bad : GoodIn wsX9_argument (wsV RX9 148 RX9 yX9_bad wsX9_bad) := goodIn_app (goodIn_of _ (by decide +kernel)) ggX9_argument_X9_bad
set_option maxRecDepth 20000 in
theorem ggX9_argument_X9_full : GoodIn wsX9_argument wsX9_full := goodIn_r _ [23, 1, 24, 25, 26, 27, 28, 29, 30, 31, 32, 33, 34, 35, 36, 37, 38, 39, 40, 41, 42, 43, 44, 45, 46, 47, 48, 49, 50, 51, 52, 53, 54, 55, 56, 57, 58, 59, 60, 61, 62, 63, 64, 65, 66, 67, 68, 69, 70, 71, 72, 73, 74, 75, 76, 77, 78, 79, 80, 81, 82, 83, 84, 85] rfl (by decide +kernel)
set_option maxRecDepth 20000 in
theorem gX9_argument_X9_full : GoodIn wsX9_argument (wsV RX9 152 RX9 yX9_full wsX9_full) := goodIn_app (goodIn_of _ (by decide +kernel)) ggX9_argument_X9_full
theorem dX9_argument_0 : decode cX9_argument 0 = .ok (.aload_n 0, 1) := by decide +kernel
theorem dX9_argument_1 : decode cX9_argument 1 = .ok (.iconst 0, 1) := by decide +kernel
theorem dX9_argument_2 : decode cX9_argument 2 = .ok (.putfield 1, 3) := by decide +kernel
theorem dX9_argument_5 : decode cX9_argument 5 = .ok (.aload_n 0, 1) := by decide +kernel
theorem dX9_argument_6 : decode cX9_argument 6 = .ok (.iload_n 1, 1) := by decide +kernel
theorem dX9_argument_7 : decode cX9_argument 7 = .ok (.invokevirtual 155, 3) := by decide +kernel
theorem dX9_argument_10 : decode cX9_argument 10 = .ok (.ifCond .ne 8, 3) := by decide +kernel
theorem dX9_argument_13 : decode cX9_argument 13 = .ok (.aload_n 0, 1) := by decide +kernel
theorem dX9_argument_14 : decode cX9_argument 14 = .ok (.invokevirtual 148, 3) := by decide +kernel
theorem dX9_argument_17 : decode cX9_argument 17 = .ok (.ireturn, 1) := by decide +kernel
theorem dX9_argument_18 : decode cX9_argument 18 = .ok (.aload_n 0, 1) := by decide +kernel
theorem dX9_argument_19 : decode cX9_argument 19 = .ok (.getfield 176, 3) := by decide +kernel
theorem dX9_argument_22 : decode cX9_argument 22 = .ok (.bipush 20, 2) := by decide +kernel
theorem dX9_argument_24 : decode cX9_argument 24 = .ok (.if_icmp .ne 8, 3) := by decide +kernel
theorem dX9_argument_27 : decode cX9_argument 27 = .ok (.aload_n 0, 1) := by decide +kernel
theorem dX9_argument_28 : decode cX9_argument 28 = .ok (.invokevirtual 152, 3) := by decide +kernel
theorem dX9_argument_31 : decode cX9_argument 31 = .ok (.ireturn, 1) := by decide +kernel
theorem dX9_argument_32 : decode cX9_argument 32 = .ok (.aload_n 0, 1) := by decide +kernel
theorem dX9_argument_33 : decode cX9_argument 33 = .ok (.getfield 48, 3) := by decide +kernel
theorem dX9_argument_36 : decode cX9_argument 36 = .ok (.aload_n 0, 1) := by decide +kernel
theorem dX9_argument_37 : decode cX9_argument 37 = .ok (.dup, 1) := by decide +kernel
theorem dX9_argument_38 : decode cX9_argument 38 = .ok (.getfield 176, 3) := by decide +kernel
theorem dX9_argument_41 : decode cX9_argument 41 = .ok (.dup_x1, 1) := by decide +kernel
theorem dX9_argument_42 : decode cX9_argument 42 = .ok (.iconst 1, 1) := by decide +kernel
theorem dX9_argument_43 : decode cX9_argument 43 = .ok (.iadd, 1) := by decide +kernel
theorem dX9_argument_44 : decode cX9_argument 44 = .ok (.putfield 176, 3) := by decide +kernel
theorem dX9_argument_47 : decode cX9_argument 47 = .ok (.iload_n 1, 1) := by decide +kernel
theorem dX9_argument_48 : decode cX9_argument 48 = .ok (.iastore, 1) := by decide +kernel
theorem dX9_argument_49 : decode cX9_argument 49 = .ok (.aload_n 0, 1) := by decide +kernel
theorem dX9_argument_50 : decode cX9_argument 50 = .ok (.getfield 176, 3) := by decide +kernel
theorem dX9_argument_53 : decode cX9_argument 53 = .ok (.ireturn, 1) := by decide +kernel
def ckX9_put : List (List Cond) := [[.code yX9_put cX9_put 4 (some .int)], wsX9_put_r1, wsX9_put_r2, wsX90]
theorem ckX9_putl : wsX9_put = ckX9_put.flatten := by
  simp only [wsX9_put, ckX9_put, List.flatten_cons, List.flatten_nil, List.append_assoc, List.append_nil, List.cons_append, List.nil_append]
set_option maxRecDepth 20000 in
theorem ggX9_put_X9_fits : GoodIn wsX9_put wsX9_fits := goodIn_t ckX9_put ckX9_putl _ [(1, 12), (1, 13), (1, 14), (1, 15), (1, 16), (1, 17), (1, 11), (1, 18), (1, 19), (1, 20), (1, 21), (1, 22), (1, 23), (2, 0), (2, 1), (2, 2), (2, 3), (2, 4), (2, 5), (2, 6), (2, 7), (2, 8), (2, 9), (2, 10), (2, 11), (3, 0), (3, 1), (3, 2), (3, 3), (3, 4), (3, 5), (3, 6), (3, 7), (3, 8), (3, 9), (3, 10), (3, 11), (3, 12), (3, 13), (3, 14), (3, 15), (3, 16), (3, 17), (3, 18), (3, 19), (3, 20), (3, 21), (3, 22), (3, 23), (3, 24), (3, 25), (3, 26), (3, 27), (3, 28), (3, 29), (3, 30), (3, 31), (3, 32), (3, 33), (3, 34), (3, 35), (3, 36), (3, 37), (3, 38), (3, 39), (3, 40), (3, 41), (3, 42), (3, 43), (3, 44), (3, 45), (3, 46), (3, 47), (3, 48), (3, 49), (3, 50), (3, 51), (3, 52), (3, 53), (3, 54), (3, 55), (3, 56), (3, 57), (3, 58), (3, 59), (3, 60), (3, 61)] rfl (by decide +kernel)
set_option maxRecDepth 20000 in
theorem gX9_put_X9_fits : GoodIn wsX9_put (wsV RX9 188 RX9 yX9_fits wsX9_fits) := goodIn_app (goodIn_of _ (by decide +kernel)) ggX9_put_X9_fits
set_option maxRecDepth 20000 in
theorem ggX9_put_X9_bad : GoodIn wsX9_put wsX9_bad := goodIn_t ckX9_put ckX9_putl _ [(2, 15), (1, 0), (3, 0), (3, 1), (3, 2), (3, 3), (3, 4), (3, 5), (3, 6), (3, 7), (3, 8), (3, 9), (3, 10), (3, 11), (3, 12), (3, 13), (3, 14), (3, 15), (3, 16), (3, 17), (3, 18), (3, 19), (3, 20), (3, 21), (3, 22), (3, 23), (3, 24), (3, 25), (3, 26), (3, 27), (3, 28), (3, 29), (3, 30), (3, 31), (3, 32), (3, 33), (3, 34), (3, 35), (3, 36), (3, 37), (3, 38), (3, 39), (3, 40), (3, 41), (3, 42), (3, 43), (3, 44), (3, 45), (3, 46), (3, 47), (3, 48), (3, 49), (3, 50), (3, 51), (3, 52), (3, 53), (3, 54), (3, 55), (3, 56), (3, 57), (3, 58), (3, 59), (3, 60), (3, 61)] rfl (by decide +kernel)
set_option maxRecDepth 20000 in
theorem gX9_put_X9_bad : GoodIn wsX9_put (wsV RX9 148 RX9 yX9_bad wsX9_bad) := goodIn_app (goodIn_of _ (by decide +kernel)) ggX9_put_X9_bad
set_option maxRecDepth 20000 in
theorem ggX9_put_X9_full : GoodIn wsX9_put wsX9_full := goodIn_t ckX9_put ckX9_putl _ [(2, 19), (1, 0), (3, 0), (3, 1), (3, 2), (3, 3), (3, 4), (3, 5), (3, 6), (3, 7), (3, 8), (3, 9), (3, 10), (3, 11), (3, 12), (3, 13), (3, 14), (3, 15), (3, 16), (3, 17), (3, 18), (3, 19), (3, 20), (3, 21), (3, 22), (3, 23), (3, 24), (3, 25), (3, 26), (3, 27), (3, 28), (3, 29), (3, 30), (3, 31), (3, 32), (3, 33), (3, 34), (3, 35), (3, 36), (3, 37), (3, 38), (3, 39), (3, 40), (3, 41), (3, 42), (3, 43), (3, 44), (3, 45), (3, 46), (3, 47), (3, 48), (3, 49), (3, 50), (3, 51), (3, 52), (3, 53), (3, 54), (3, 55), (3, 56), (3, 57), (3, 58), (3, 59), (3, 60), (3, 61)] rfl (by decide +kernel)
set_option maxRecDepth 20000 in
theorem gX9_put_X9_full : GoodIn wsX9_put (wsV RX9 152 RX9 yX9_full wsX9_full) := goodIn_app (goodIn_of _ (by decide +kernel)) ggX9_put_X9_full
theorem dX9_put_0 : decode cX9_put 0 = .ok (.aload_n 0, 1) := by decide +kernel
theorem dX9_put_1 : decode cX9_put 1 = .ok (.iconst 0, 1) := by decide +kernel
theorem dX9_put_2 : decode cX9_put 2 = .ok (.putfield 1, 3) := by decide +kernel
theorem dX9_put_5 : decode cX9_put 5 = .ok (.aload_n 0, 1) := by decide +kernel
theorem dX9_put_6 : decode cX9_put 6 = .ok (.iload_n 1, 1) := by decide +kernel
theorem dX9_put_7 : decode cX9_put 7 = .ok (.iload_n 2, 1) := by decide +kernel
theorem dX9_put_8 : decode cX9_put 8 = .ok (.iload_n 3, 1) := by decide +kernel
theorem dX9_put_9 : decode cX9_put 9 = .ok (.invokevirtual 188, 3) := by decide +kernel
theorem dX9_put_12 : decode cX9_put 12 = .ok (.ifCond .ne 8, 3) := by decide +kernel
theorem dX9_put_15 : decode cX9_put 15 = .ok (.aload_n 0, 1) := by decide +kernel
theorem dX9_put_16 : decode cX9_put 16 = .ok (.invokevirtual 148, 3) := by decide +kernel
theorem dX9_put_19 : decode cX9_put 19 = .ok (.ireturn, 1) := by decide +kernel
theorem dX9_put_20 : decode cX9_put 20 = .ok (.aload_n 0, 1) := by decide +kernel
theorem dX9_put_21 : decode cX9_put 21 = .ok (.getfield 179, 3) := by decide +kernel
theorem dX9_put_24 : decode cX9_put 24 = .ok (.sipush 1000, 3) := by decide +kernel
theorem dX9_put_27 : decode cX9_put 27 = .ok (.if_icmp .ne 8, 3) := by decide +kernel
theorem dX9_put_30 : decode cX9_put 30 = .ok (.aload_n 0, 1) := by decide +kernel
theorem dX9_put_31 : decode cX9_put 31 = .ok (.invokevirtual 152, 3) := by decide +kernel
theorem dX9_put_34 : decode cX9_put 34 = .ok (.ireturn, 1) := by decide +kernel
theorem dX9_put_35 : decode cX9_put 35 = .ok (.aload_n 0, 1) := by decide +kernel
theorem dX9_put_36 : decode cX9_put 36 = .ok (.getfield 51, 3) := by decide +kernel
theorem dX9_put_39 : decode cX9_put 39 = .ok (.aload_n 0, 1) := by decide +kernel
theorem dX9_put_40 : decode cX9_put 40 = .ok (.getfield 179, 3) := by decide +kernel
theorem dX9_put_43 : decode cX9_put 43 = .ok (.iload_n 1, 1) := by decide +kernel
theorem dX9_put_44 : decode cX9_put 44 = .ok (.iastore, 1) := by decide +kernel
theorem dX9_put_45 : decode cX9_put 45 = .ok (.aload_n 0, 1) := by decide +kernel
theorem dX9_put_46 : decode cX9_put 46 = .ok (.getfield 54, 3) := by decide +kernel
theorem dX9_put_49 : decode cX9_put 49 = .ok (.aload_n 0, 1) := by decide +kernel
theorem dX9_put_50 : decode cX9_put 50 = .ok (.getfield 179, 3) := by decide +kernel
theorem dX9_put_53 : decode cX9_put 53 = .ok (.iload_n 2, 1) := by decide +kernel
theorem dX9_put_54 : decode cX9_put 54 = .ok (.iastore, 1) := by decide +kernel
theorem dX9_put_55 : decode cX9_put 55 = .ok (.aload_n 0, 1) := by decide +kernel
theorem dX9_put_56 : decode cX9_put 56 = .ok (.getfield 57, 3) := by decide +kernel
theorem dX9_put_59 : decode cX9_put 59 = .ok (.aload_n 0, 1) := by decide +kernel
theorem dX9_put_60 : decode cX9_put 60 = .ok (.getfield 179, 3) := by decide +kernel
theorem dX9_put_63 : decode cX9_put 63 = .ok (.iload_n 3, 1) := by decide +kernel
theorem dX9_put_64 : decode cX9_put 64 = .ok (.iastore, 1) := by decide +kernel
theorem dX9_put_65 : decode cX9_put 65 = .ok (.aload_n 0, 1) := by decide +kernel
theorem dX9_put_66 : decode cX9_put 66 = .ok (.getfield 60, 3) := by decide +kernel
theorem dX9_put_69 : decode cX9_put 69 = .ok (.aload_n 0, 1) := by decide +kernel
theorem dX9_put_70 : decode cX9_put 70 = .ok (.getfield 179, 3) := by decide +kernel
theorem dX9_put_73 : decode cX9_put 73 = .ok (.aload_n 0, 1) := by decide +kernel
theorem dX9_put_74 : decode cX9_put 74 = .ok (.getfield 185, 3) := by decide +kernel
theorem dX9_put_77 : decode cX9_put 77 = .ok (.iastore, 1) := by decide +kernel
theorem dX9_put_78 : decode cX9_put 78 = .ok (.aload_n 0, 1) := by decide +kernel
theorem dX9_put_79 : decode cX9_put 79 = .ok (.getfield 63, 3) := by decide +kernel
theorem dX9_put_82 : decode cX9_put 82 = .ok (.aload_n 0, 1) := by decide +kernel
theorem dX9_put_83 : decode cX9_put 83 = .ok (.getfield 179, 3) := by decide +kernel
theorem dX9_put_86 : decode cX9_put 86 = .ok (.iconst 0, 1) := by decide +kernel
theorem dX9_put_87 : decode cX9_put 87 = .ok (.iastore, 1) := by decide +kernel
theorem dX9_put_88 : decode cX9_put 88 = .ok (.aload_n 0, 1) := by decide +kernel
theorem dX9_put_89 : decode cX9_put 89 = .ok (.dup, 1) := by decide +kernel
theorem dX9_put_90 : decode cX9_put 90 = .ok (.getfield 179, 3) := by decide +kernel
theorem dX9_put_93 : decode cX9_put 93 = .ok (.dup_x1, 1) := by decide +kernel
theorem dX9_put_94 : decode cX9_put 94 = .ok (.iconst 1, 1) := by decide +kernel
theorem dX9_put_95 : decode cX9_put 95 = .ok (.iadd, 1) := by decide +kernel
theorem dX9_put_96 : decode cX9_put 96 = .ok (.putfield 179, 3) := by decide +kernel
theorem dX9_put_99 : decode cX9_put 99 = .ok (.ireturn, 1) := by decide +kernel
set_option maxRecDepth 20000 in
theorem ggX9_fits_X9_isType : GoodIn wsX9_fits wsX9_isType := goodIn_r _ [7, 8, 9, 10, 11, 12, 6, 13, 14, 25, 26, 27, 28, 29, 30, 31, 32, 33, 34, 35, 36, 37, 38, 39, 40, 41, 42, 43, 44, 45, 46, 47, 48, 49, 50, 51, 52, 53, 54, 55, 56, 57, 58, 59, 60, 61, 62, 63, 64, 65, 66, 67, 68, 69, 70, 71, 72, 73, 74, 75, 76, 77, 78, 79, 80, 81, 82, 83, 84, 85, 86] rfl (by decide +kernel)
set_option maxRecDepth 20000 in
theorem gX9_fits_X9_isType : GoodIn wsX9_fits (wsV RX9 155 RX9 yX9_isType wsX9_isType) := goodIn_app (goodIn_of _ (by decide +kernel)) ggX9_fits_X9_isType
set_option maxRecDepth 20000 in
theorem ggX9_fits_X9_isWide : GoodIn wsX9_fits wsX9_isWide := goodIn_r _ [18, 19, 8] rfl (by decide +kernel)
set_option maxRecDepth 20000 in
theorem gX9_fits_X9_isWide : GoodIn wsX9_fits (wsV RX9 192 RX9 yX9_isWide wsX9_isWide) := goodIn_app (goodIn_of _ (by decide +kernel)) ggX9_fits_X9_isWide
set_option maxRecDepth 20000 in
theorem ggX9_fits_X9_isClass : GoodIn wsX9_fits wsX9_isClass := goodIn_r _ [13, 14, 25, 26, 27, 28, 29, 30, 31, 32, 33, 34, 35, 36, 37, 38, 39, 40, 41, 42, 43, 44, 45, 46, 47, 48, 49, 50, 51, 52, 53, 54, 55, 56, 57, 58, 59, 60, 61, 62, 63, 64, 65, 66, 67, 68, 69, 70, 71, 72, 73, 74, 75, 76, 77, 78, 79, 80, 81, 82, 83, 84, 85, 86] rfl (by decide +kernel)
set_option maxRecDepth 20000 in
theorem gX9_fits_X9_isClass : GoodIn wsX9_fits (wsV RX9 143 RX9 yX9_isClass wsX9_isClass) := goodIn_app (goodIn_of _ (by decide +kernel)) ggX9_fits_X9_isClass
set_option maxRecDepth 20000 in
theorem ggX9_fits_X9_isPrimitive : GoodIn wsX9_fits wsX9_isPrimitive := goodIn_r _ [23, 9, 24] rfl (by decide +kernel)
set_option maxRecDepth 20000 in
theorem gX9_fits_X9_isPrimitive : GoodIn wsX9_fits (wsV RX9 195 RX9 yX9_isPrimitive wsX9_isPrimitive) := goodIn_app (goodIn_of _ (by decide +kernel)) ggX9_fits_X9_isPrimitive
theorem dX9_fits_0 : decode cX9_fits 0 = .ok (.iload_n 1, 1) := by decide +kernel
theorem dX9_fits_1 : decode cX9_fits 1 = .ok (.ifCond .lt 9, 3) := by decide +kernel
theorem dX9_fits_4 : decode cX9_fits 4 = .ok (.iload_n 1, 1) := by decide +kernel
theorem dX9_fits_5 : decode cX9_fits 5 = .ok (.bipush 15, 2) := by decide +kernel
theorem dX9_fits_7 : decode cX9_fits 7 = .ok (.if_icmp .le 84, 3) := by decide +kernel
theorem dX9_fits_10 : decode cX9_fits 10 = .ok (.iload_n 1, 1) := by decide +kernel
theorem dX9_fits_11 : decode cX9_fits 11 = .ok (.bipush 46, 2) := by decide +kernel
theorem dX9_fits_13 : decode cX9_fits 13 = .ok (.if_icmp .lt 9, 3) := by decide +kernel
theorem dX9_fits_16 : decode cX9_fits 16 = .ok (.iload_n 1, 1) := by decide +kernel
theorem dX9_fits_17 : decode cX9_fits 17 = .ok (.bipush 53, 2) := by decide +kernel
theorem dX9_fits_19 : decode cX9_fits 19 = .ok (.if_icmp .le 72, 3) := by decide +kernel
theorem dX9_fits_22 : decode cX9_fits 22 = .ok (.iload_n 1, 1) := by decide +kernel
theorem dX9_fits_23 : decode cX9_fits 23 = .ok (.bipush 79, 2) := by decide +kernel
theorem dX9_fits_25 : decode cX9_fits 25 = .ok (.if_icmp .lt 10, 3) := by decide +kernel
theorem dX9_fits_28 : decode cX9_fits 28 = .ok (.iload_n 1, 1) := by decide +kernel
theorem dX9_fits_29 : decode cX9_fits 29 = .ok (.sipush 131, 3) := by decide +kernel
theorem dX9_fits_32 : decode cX9_fits 32 = .ok (.if_icmp .le 59, 3) := by decide +kernel
theorem dX9_fits_35 : decode cX9_fits 35 = .ok (.iload_n 1, 1) := by decide +kernel
theorem dX9_fits_36 : decode cX9_fits 36 = .ok (.sipush 133, 3) := by decide +kernel
theorem dX9_fits_39 : decode cX9_fits 39 = .ok (.if_icmp .lt 10, 3) := by decide +kernel
theorem dX9_fits_42 : decode cX9_fits 42 = .ok (.iload_n 1, 1) := by decide +kernel
theorem dX9_fits_43 : decode cX9_fits 43 = .ok (.sipush 152, 3) := by decide +kernel
theorem dX9_fits_46 : decode cX9_fits 46 = .ok (.if_icmp .le 45, 3) := by decide +kernel
theorem dX9_fits_49 : decode cX9_fits 49 = .ok (.iload_n 1, 1) := by decide +kernel
theorem dX9_fits_50 : decode cX9_fits 50 = .ok (.sipush 170, 3) := by decide +kernel
theorem dX9_fits_53 : decode cX9_fits 53 = .ok (.if_icmp .lt 10, 3) := by decide +kernel
theorem dX9_fits_56 : decode cX9_fits 56 = .ok (.iload_n 1, 1) := by decide +kernel
theorem dX9_fits_57 : decode cX9_fits 57 = .ok (.sipush 177, 3) := by decide +kernel
theorem dX9_fits_60 : decode cX9_fits 60 = .ok (.if_icmp .le 31, 3) := by decide +kernel
theorem dX9_fits_63 : decode cX9_fits 63 = .ok (.iload_n 1, 1) := by decide +kernel
theorem dX9_fits_64 : decode cX9_fits 64 = .ok (.sipush 190, 3) := by decide +kernel
theorem dX9_fits_67 : decode cX9_fits 67 = .ok (.if_icmp .eq 24, 3) := by decide +kernel
theorem dX9_fits_70 : decode cX9_fits 70 = .ok (.iload_n 1, 1) := by decide +kernel
theorem dX9_fits_71 : decode cX9_fits 71 = .ok (.sipush 191, 3) := by decide +kernel
theorem dX9_fits_74 : decode cX9_fits 74 = .ok (.if_icmp .eq 17, 3) := by decide +kernel
theorem dX9_fits_77 : decode cX9_fits 77 = .ok (.iload_n 1, 1) := by decide +kernel
theorem dX9_fits_78 : decode cX9_fits 78 = .ok (.sipush 194, 3) := by decide +kernel
theorem dX9_fits_81 : decode cX9_fits 81 = .ok (.if_icmp .eq 10, 3) := by decide +kernel
theorem dX9_fits_84 : decode cX9_fits 84 = .ok (.iload_n 1, 1) := by decide +kernel
theorem dX9_fits_85 : decode cX9_fits 85 = .ok (.sipush 195, 3) := by decide +kernel
theorem dX9_fits_88 : decode cX9_fits 88 = .ok (.if_icmp .ne 17, 3) := by decide +kernel
theorem dX9_fits_91 : decode cX9_fits 91 = .ok (.iload_n 2, 1) := by decide +kernel
theorem dX9_fits_92 : decode cX9_fits 92 = .ok (.ifCond .ne 11, 3) := by decide +kernel
theorem dX9_fits_95 : decode cX9_fits 95 = .ok (.iload_n 3, 1) := by decide +kernel
theorem dX9_fits_96 : decode cX9_fits 96 = .ok (.ifCond .ne 7, 3) := by decide +kernel
theorem dX9_fits_99 : decode cX9_fits 99 = .ok (.iconst 1, 1) := by decide +kernel
theorem dX9_fits_100 : decode cX9_fits 100 = .ok (.goto 4, 3) := by decide +kernel
theorem dX9_fits_103 : decode cX9_fits 103 = .ok (.iconst 0, 1) := by decide +kernel
theorem dX9_fits_104 : decode cX9_fits 104 = .ok (.ireturn, 1) := by decide +kernel
theorem dX9_fits_105 : decode cX9_fits 105 = .ok (.iload_n 1, 1) := by decide +kernel
theorem dX9_fits_106 : decode cX9_fits 106 = .ok (.sipush 132, 3) := by decide +kernel
theorem dX9_fits_109 : decode cX9_fits 109 = .ok (.if_icmp .ne 13, 3) := by decide +kernel
theorem dX9_fits_112 : decode cX9_fits 112 = .ok (.iload_n 2, 1) := by decide +kernel
theorem dX9_fits_113 : decode cX9_fits 113 = .ok (.ifCond .lt 7, 3) := by decide +kernel
theorem dX9_fits_116 : decode cX9_fits 116 = .ok (.iconst 1, 1) := by decide +kernel
theorem dX9_fits_117 : decode cX9_fits 117 = .ok (.goto 4, 3) := by decide +kernel
theorem dX9_fits_120 : decode cX9_fits 120 = .ok (.iconst 0, 1) := by decide +kernel
theorem dX9_fits_121 : decode cX9_fits 121 = .ok (.ireturn, 1) := by decide +kernel
theorem dX9_fits_122 : decode cX9_fits 122 = .ok (.iload_n 1, 1) := by decide +kernel
theorem dX9_fits_123 : decode cX9_fits 123 = .ok (.sipush 197, 3) := by decide +kernel
theorem dX9_fits_126 : decode cX9_fits 126 = .ok (.if_icmp .ne 30, 3) := by decide +kernel
theorem dX9_fits_129 : decode cX9_fits 129 = .ok (.aload_n 0, 1) := by decide +kernel
theorem dX9_fits_130 : decode cX9_fits 130 = .ok (.iload_n 2, 1) := by decide +kernel
theorem dX9_fits_131 : decode cX9_fits 131 = .ok (.invokevirtual 155, 3) := by decide +kernel
theorem dX9_fits_134 : decode cX9_fits 134 = .ok (.ifCond .eq 20, 3) := by decide +kernel
theorem dX9_fits_137 : decode cX9_fits 137 = .ok (.iload_n 3, 1) := by decide +kernel
theorem dX9_fits_138 : decode cX9_fits 138 = .ok (.iconst 1, 1) := by decide +kernel
theorem dX9_fits_139 : decode cX9_fits 139 = .ok (.if_icmp .lt 15, 3) := by decide +kernel
theorem dX9_fits_142 : decode cX9_fits 142 = .ok (.iload_n 3, 1) := by decide +kernel
theorem dX9_fits_143 : decode cX9_fits 143 = .ok (.iload_n 2, 1) := by decide +kernel
theorem dX9_fits_144 : decode cX9_fits 144 = .ok (.bipush 16, 2) := by decide +kernel
theorem dX9_fits_146 : decode cX9_fits 146 = .ok (.ishr, 1) := by decide +kernel
theorem dX9_fits_147 : decode cX9_fits 147 = .ok (.if_icmp .gt 7, 3) := by decide +kernel
theorem dX9_fits_150 : decode cX9_fits 150 = .ok (.iconst 1, 1) := by decide +kernel
theorem dX9_fits_151 : decode cX9_fits 151 = .ok (.goto 4, 3) := by decide +kernel
theorem dX9_fits_154 : decode cX9_fits 154 = .ok (.iconst 0, 1) := by decide +kernel
theorem dX9_fits_155 : decode cX9_fits 155 = .ok (.ireturn, 1) := by decide +kernel
theorem dX9_fits_156 : decode cX9_fits 156 = .ok (.iload_n 3, 1) := by decide +kernel
theorem dX9_fits_157 : decode cX9_fits 157 = .ok (.ifCond .eq 5, 3) := by decide +kernel
theorem dX9_fits_160 : decode cX9_fits 160 = .ok (.iconst 0, 1) := by decide +kernel
theorem dX9_fits_161 : decode cX9_fits 161 = .ok (.ireturn, 1) := by decide +kernel
theorem dX9_fits_162 : decode cX9_fits 162 = .ok (.iload_n 1, 1) := by decide +kernel
theorem dX9_fits_163 : decode cX9_fits 163 = .ok (.bipush 16, 2) := by decide +kernel
theorem dX9_fits_165 : decode cX9_fits 165 = .ok (.if_icmp .eq 9, 3) := by decide +kernel
theorem dX9_fits_168 : decode cX9_fits 168 = .ok (.iload_n 1, 1) := by decide +kernel
theorem dX9_fits_169 : decode cX9_fits 169 = .ok (.bipush 17, 2) := by decide +kernel
theorem dX9_fits_171 : decode cX9_fits 171 = .ok (.if_icmp .ne 5, 3) := by decide +kernel
theorem dX9_fits_174 : decode cX9_fits 174 = .ok (.iconst 1, 1) := by decide +kernel
theorem dX9_fits_175 : decode cX9_fits 175 = .ok (.ireturn, 1) := by decide +kernel
theorem dX9_fits_176 : decode cX9_fits 176 = .ok (.iload_n 1, 1) := by decide +kernel
theorem dX9_fits_177 : decode cX9_fits 177 = .ok (.bipush 18, 2) := by decide +kernel
theorem dX9_fits_179 : decode cX9_fits 179 = .ok (.if_icmp .ne 25, 3) := by decide +kernel
theorem dX9_fits_182 : decode cX9_fits 182 = .ok (.aload_n 0, 1) := by decide +kernel
theorem dX9_fits_183 : decode cX9_fits 183 = .ok (.iload_n 2, 1) := by decide +kernel
theorem dX9_fits_184 : decode cX9_fits 184 = .ok (.invokevirtual 155, 3) := by decide +kernel
theorem dX9_fits_187 : decode cX9_fits 187 = .ok (.ifCond .eq 15, 3) := by decide +kernel
theorem dX9_fits_190 : decode cX9_fits 190 = .ok (.aload_n 0, 1) := by decide +kernel
theorem dX9_fits_191 : decode cX9_fits 191 = .ok (.iload_n 2, 1) := by decide +kernel
theorem dX9_fits_192 : decode cX9_fits 192 = .ok (.invokevirtual 192, 3) := by decide +kernel
theorem dX9_fits_195 : decode cX9_fits 195 = .ok (.ifCond .ne 7, 3) := by decide +kernel
theorem dX9_fits_198 : decode cX9_fits 198 = .ok (.iconst 1, 1) := by decide +kernel
theorem dX9_fits_199 : decode cX9_fits 199 = .ok (.goto 4, 3) := by decide +kernel
theorem dX9_fits_202 : decode cX9_fits 202 = .ok (.iconst 0, 1) := by decide +kernel
theorem dX9_fits_203 : decode cX9_fits 203 = .ok (.ireturn, 1) := by decide +kernel
theorem dX9_fits_204 : decode cX9_fits 204 = .ok (.iload_n 1, 1) := by decide +kernel
theorem dX9_fits_205 : decode cX9_fits 205 = .ok (.bipush 20, 2) := by decide +kernel
theorem dX9_fits_207 : decode cX9_fits 207 = .ok (.if_icmp .ne 9, 3) := by decide +kernel
theorem dX9_fits_210 : decode cX9_fits 210 = .ok (.aload_n 0, 1) := by decide +kernel
theorem dX9_fits_211 : decode cX9_fits 211 = .ok (.iload_n 2, 1) := by decide +kernel
theorem dX9_fits_212 : decode cX9_fits 212 = .ok (.invokevirtual 192, 3) := by decide +kernel
theorem dX9_fits_215 : decode cX9_fits 215 = .ok (.ireturn, 1) := by decide +kernel
theorem dX9_fits_216 : decode cX9_fits 216 = .ok (.iload_n 1, 1) := by decide +kernel
theorem dX9_fits_217 : decode cX9_fits 217 = .ok (.bipush 21, 2) := by decide +kernel
theorem dX9_fits_219 : decode cX9_fits 219 = .ok (.if_icmp .lt 9, 3) := by decide +kernel
theorem dX9_fits_222 : decode cX9_fits 222 = .ok (.iload_n 1, 1) := by decide +kernel
theorem dX9_fits_223 : decode cX9_fits 223 = .ok (.bipush 25, 2) := by decide +kernel
theorem dX9_fits_225 : decode cX9_fits 225 = .ok (.if_icmp .le 50, 3) := by decide +kernel
theorem dX9_fits_228 : decode cX9_fits 228 = .ok (.iload_n 1, 1) := by decide +kernel
theorem dX9_fits_229 : decode cX9_fits 229 = .ok (.bipush 54, 2) := by decide +kernel
theorem dX9_fits_231 : decode cX9_fits 231 = .ok (.if_icmp .lt 9, 3) := by decide +kernel
theorem dX9_fits_234 : decode cX9_fits 234 = .ok (.iload_n 1, 1) := by decide +kernel
theorem dX9_fits_235 : decode cX9_fits 235 = .ok (.bipush 58, 2) := by decide +kernel
theorem dX9_fits_237 : decode cX9_fits 237 = .ok (.if_icmp .le 38, 3) := by decide +kernel
theorem dX9_fits_240 : decode cX9_fits 240 = .ok (.iload_n 1, 1) := by decide +kernel
theorem dX9_fits_241 : decode cX9_fits 241 = .ok (.sipush 169, 3) := by decide +kernel
theorem dX9_fits_244 : decode cX9_fits 244 = .ok (.if_icmp .eq 31, 3) := by decide +kernel
theorem dX9_fits_247 : decode cX9_fits 247 = .ok (.iload_n 1, 1) := by decide +kernel
theorem dX9_fits_248 : decode cX9_fits 248 = .ok (.sipush 153, 3) := by decide +kernel
theorem dX9_fits_251 : decode cX9_fits 251 = .ok (.if_icmp .lt 10, 3) := by decide +kernel
theorem dX9_fits_254 : decode cX9_fits 254 = .ok (.iload_n 1, 1) := by decide +kernel
theorem dX9_fits_255 : decode cX9_fits 255 = .ok (.sipush 168, 3) := by decide +kernel
theorem dX9_fits_258 : decode cX9_fits 258 = .ok (.if_icmp .le 17, 3) := by decide +kernel
theorem dX9_fits_261 : decode cX9_fits 261 = .ok (.iload_n 1, 1) := by decide +kernel
theorem dX9_fits_262 : decode cX9_fits 262 = .ok (.sipush 198, 3) := by decide +kernel
theorem dX9_fits_265 : decode cX9_fits 265 = .ok (.if_icmp .eq 10, 3) := by decide +kernel
theorem dX9_fits_268 : decode cX9_fits 268 = .ok (.iload_n 1, 1) := by decide +kernel
theorem dX9_fits_269 : decode cX9_fits 269 = .ok (.sipush 199, 3) := by decide +kernel
theorem dX9_fits_272 : decode cX9_fits 272 = .ok (.if_icmp .ne 13, 3) := by decide +kernel
theorem dX9_fits_275 : decode cX9_fits 275 = .ok (.iload_n 2, 1) := by decide +kernel
theorem dX9_fits_276 : decode cX9_fits 276 = .ok (.ifCond .lt 7, 3) := by decide +kernel
theorem dX9_fits_279 : decode cX9_fits 279 = .ok (.iconst 1, 1) := by decide +kernel
theorem dX9_fits_280 : decode cX9_fits 280 = .ok (.goto 4, 3) := by decide +kernel
theorem dX9_fits_283 : decode cX9_fits 283 = .ok (.iconst 0, 1) := by decide +kernel
theorem dX9_fits_284 : decode cX9_fits 284 = .ok (.ireturn, 1) := by decide +kernel
theorem dX9_fits_285 : decode cX9_fits 285 = .ok (.iload_n 1, 1) := by decide +kernel
theorem dX9_fits_286 : decode cX9_fits 286 = .ok (.sipush 178, 3) := by decide +kernel
theorem dX9_fits_289 : decode cX9_fits 289 = .ok (.if_icmp .lt 28, 3) := by decide +kernel
theorem dX9_fits_292 : decode cX9_fits 292 = .ok (.iload_n 1, 1) := by decide +kernel
theorem dX9_fits_293 : decode cX9_fits 293 = .ok (.sipush 181, 3) := by decide +kernel
theorem dX9_fits_296 : decode cX9_fits 296 = .ok (.if_icmp .gt 21, 3) := by decide +kernel
theorem dX9_fits_299 : decode cX9_fits 299 = .ok (.iload_n 2, 1) := by decide +kernel
theorem dX9_fits_300 : decode cX9_fits 300 = .ok (.ifCond .lt 15, 3) := by decide +kernel
theorem dX9_fits_303 : decode cX9_fits 303 = .ok (.iload_n 2, 1) := by decide +kernel
theorem dX9_fits_304 : decode cX9_fits 304 = .ok (.aload_n 0, 1) := by decide +kernel
theorem dX9_fits_305 : decode cX9_fits 305 = .ok (.getfield 158, 3) := by decide +kernel
theorem dX9_fits_308 : decode cX9_fits 308 = .ok (.if_icmp .ge 7, 3) := by decide +kernel
theorem dX9_fits_311 : decode cX9_fits 311 = .ok (.iconst 1, 1) := by decide +kernel
theorem dX9_fits_312 : decode cX9_fits 312 = .ok (.goto 4, 3) := by decide +kernel
theorem dX9_fits_315 : decode cX9_fits 315 = .ok (.iconst 0, 1) := by decide +kernel
theorem dX9_fits_316 : decode cX9_fits 316 = .ok (.ireturn, 1) := by decide +kernel
theorem dX9_fits_317 : decode cX9_fits 317 = .ok (.iload_n 1, 1) := by decide +kernel
theorem dX9_fits_318 : decode cX9_fits 318 = .ok (.sipush 182, 3) := by decide +kernel
theorem dX9_fits_321 : decode cX9_fits 321 = .ok (.if_icmp .lt 28, 3) := by decide +kernel
theorem dX9_fits_324 : decode cX9_fits 324 = .ok (.iload_n 1, 1) := by decide +kernel
theorem dX9_fits_325 : decode cX9_fits 325 = .ok (.sipush 186, 3) := by decide +kernel
theorem dX9_fits_328 : decode cX9_fits 328 = .ok (.if_icmp .gt 21, 3) := by decide +kernel
theorem dX9_fits_331 : decode cX9_fits 331 = .ok (.iload_n 2, 1) := by decide +kernel
theorem dX9_fits_332 : decode cX9_fits 332 = .ok (.ifCond .lt 15, 3) := by decide +kernel
theorem dX9_fits_335 : decode cX9_fits 335 = .ok (.iload_n 2, 1) := by decide +kernel
theorem dX9_fits_336 : decode cX9_fits 336 = .ok (.aload_n 0, 1) := by decide +kernel
theorem dX9_fits_337 : decode cX9_fits 337 = .ok (.getfield 161, 3) := by decide +kernel
theorem dX9_fits_340 : decode cX9_fits 340 = .ok (.if_icmp .ge 7, 3) := by decide +kernel
theorem dX9_fits_343 : decode cX9_fits 343 = .ok (.iconst 1, 1) := by decide +kernel
theorem dX9_fits_344 : decode cX9_fits 344 = .ok (.goto 4, 3) := by decide +kernel
theorem dX9_fits_347 : decode cX9_fits 347 = .ok (.iconst 0, 1) := by decide +kernel
theorem dX9_fits_348 : decode cX9_fits 348 = .ok (.ireturn, 1) := by decide +kernel
theorem dX9_fits_349 : decode cX9_fits 349 = .ok (.iload_n 1, 1) := by decide +kernel
theorem dX9_fits_350 : decode cX9_fits 350 = .ok (.sipush 187, 3) := by decide +kernel
theorem dX9_fits_353 : decode cX9_fits 353 = .ok (.if_icmp .ne 9, 3) := by decide +kernel
theorem dX9_fits_356 : decode cX9_fits 356 = .ok (.aload_n 0, 1) := by decide +kernel
theorem dX9_fits_357 : decode cX9_fits 357 = .ok (.iload_n 2, 1) := by decide +kernel
theorem dX9_fits_358 : decode cX9_fits 358 = .ok (.invokevirtual 143, 3) := by decide +kernel
theorem dX9_fits_361 : decode cX9_fits 361 = .ok (.ireturn, 1) := by decide +kernel
theorem dX9_fits_362 : decode cX9_fits 362 = .ok (.iload_n 1, 1) := by decide +kernel
theorem dX9_fits_363 : decode cX9_fits 363 = .ok (.sipush 188, 3) := by decide +kernel
theorem dX9_fits_366 : decode cX9_fits 366 = .ok (.if_icmp .ne 19, 3) := by decide +kernel
theorem dX9_fits_369 : decode cX9_fits 369 = .ok (.iload_n 2, 1) := by decide +kernel
theorem dX9_fits_370 : decode cX9_fits 370 = .ok (.ifCond .lt 13, 3) := by decide +kernel
theorem dX9_fits_373 : decode cX9_fits 373 = .ok (.iload_n 2, 1) := by decide +kernel
theorem dX9_fits_374 : decode cX9_fits 374 = .ok (.bipush 7, 2) := by decide +kernel
theorem dX9_fits_376 : decode cX9_fits 376 = .ok (.if_icmp .gt 7, 3) := by decide +kernel
theorem dX9_fits_379 : decode cX9_fits 379 = .ok (.iconst 1, 1) := by decide +kernel
theorem dX9_fits_380 : decode cX9_fits 380 = .ok (.goto 4, 3) := by decide +kernel
theorem dX9_fits_383 : decode cX9_fits 383 = .ok (.iconst 0, 1) := by decide +kernel
theorem dX9_fits_384 : decode cX9_fits 384 = .ok (.ireturn, 1) := by decide +kernel
theorem dX9_fits_385 : decode cX9_fits 385 = .ok (.iload_n 1, 1) := by decide +kernel
theorem dX9_fits_386 : decode cX9_fits 386 = .ok (.sipush 189, 3) := by decide +kernel
theorem dX9_fits_389 : decode cX9_fits 389 = .ok (.if_icmp .ne 35, 3) := by decide +kernel
theorem dX9_fits_392 : decode cX9_fits 392 = .ok (.aload_n 0, 1) := by decide +kernel
theorem dX9_fits_393 : decode cX9_fits 393 = .ok (.iload_n 2, 1) := by decide +kernel
theorem dX9_fits_394 : decode cX9_fits 394 = .ok (.invokevirtual 155, 3) := by decide +kernel
theorem dX9_fits_397 : decode cX9_fits 397 = .ok (.ifCond .eq 25, 3) := by decide +kernel
theorem dX9_fits_400 : decode cX9_fits 400 = .ok (.aload_n 0, 1) := by decide +kernel
theorem dX9_fits_401 : decode cX9_fits 401 = .ok (.iload_n 2, 1) := by decide +kernel
theorem dX9_fits_402 : decode cX9_fits 402 = .ok (.invokevirtual 195, 3) := by decide +kernel
theorem dX9_fits_405 : decode cX9_fits 405 = .ok (.ifCond .ne 17, 3) := by decide +kernel
theorem dX9_fits_408 : decode cX9_fits 408 = .ok (.iload_n 2, 1) := by decide +kernel
theorem dX9_fits_409 : decode cX9_fits 409 = .ok (.bipush 16, 2) := by decide +kernel
theorem dX9_fits_411 : decode cX9_fits 411 = .ok (.ishr, 1) := by decide +kernel
theorem dX9_fits_412 : decode cX9_fits 412 = .ok (.sipush 255, 3) := by decide +kernel
theorem dX9_fits_415 : decode cX9_fits 415 = .ok (.if_icmp .ge 7, 3) := by decide +kernel
theorem dX9_fits_418 : decode cX9_fits 418 = .ok (.iconst 1, 1) := by decide +kernel
theorem dX9_fits_419 : decode cX9_fits 419 = .ok (.goto 4, 3) := by decide +kernel
theorem dX9_fits_422 : decode cX9_fits 422 = .ok (.iconst 0, 1) := by decide +kernel
theorem dX9_fits_423 : decode cX9_fits 423 = .ok (.ireturn, 1) := by decide +kernel
theorem dX9_fits_424 : decode cX9_fits 424 = .ok (.iload_n 1, 1) := by decide +kernel
theorem dX9_fits_425 : decode cX9_fits 425 = .ok (.sipush 192, 3) := by decide +kernel
theorem dX9_fits_428 : decode cX9_fits 428 = .ok (.if_icmp .eq 10, 3) := by decide +kernel
theorem dX9_fits_431 : decode cX9_fits 431 = .ok (.iload_n 1, 1) := by decide +kernel
theorem dX9_fits_432 : decode cX9_fits 432 = .ok (.sipush 193, 3) := by decide +kernel
theorem dX9_fits_435 : decode cX9_fits 435 = .ok (.if_icmp .ne 23, 3) := by decide +kernel
theorem dX9_fits_438 : decode cX9_fits 438 = .ok (.aload_n 0, 1) := by decide +kernel
theorem dX9_fits_439 : decode cX9_fits 439 = .ok (.iload_n 2, 1) := by decide +kernel
theorem dX9_fits_440 : decode cX9_fits 440 = .ok (.invokevirtual 155, 3) := by decide +kernel
theorem dX9_fits_443 : decode cX9_fits 443 = .ok (.ifCond .eq 15, 3) := by decide +kernel
theorem dX9_fits_446 : decode cX9_fits 446 = .ok (.aload_n 0, 1) := by decide +kernel
theorem dX9_fits_447 : decode cX9_fits 447 = .ok (.iload_n 2, 1) := by decide +kernel
theorem dX9_fits_448 : decode cX9_fits 448 = .ok (.invokevirtual 195, 3) := by decide +kernel
theorem dX9_fits_451 : decode cX9_fits 451 = .ok (.ifCond .ne 7, 3) := by decide +kernel
theorem dX9_fits_454 : decode cX9_fits 454 = .ok (.iconst 1, 1) := by decide +kernel
theorem dX9_fits_455 : decode cX9_fits 455 = .ok (.goto 4, 3) := by decide +kernel
theorem dX9_fits_458 : decode cX9_fits 458 = .ok (.iconst 0, 1) := by decide +kernel
theorem dX9_fits_459 : decode cX9_fits 459 = .ok (.ireturn, 1) := by decide +kernel
set_option maxRecDepth 20000 in
theorem ggX9_to_X9_bad : GoodIn wsX9_to wsX9_bad := goodIn_r _ [11, 1, 16, 17, 18, 19, 20, 21, 22, 23, 24, 25, 26, 27, 28, 29, 30, 31, 32, 33, 34, 35, 36, 37, 38, 39, 40, 41, 42, 43, 44, 45, 46, 47, 48, 49, 50, 51, 52, 53, 54, 55, 56, 57, 58, 59, 60, 61, 62, 63, 64, 65, 66, 67, 68, 69, 70, 71, 72, 73, 74, 75, 76, 77] rfl (by decide +kernel)
set_option maxRecDepth 20000 in
theorem gX9_to_X9_bad : GoodIn wsX9_to (wsV RX9 148 RX9 yX9_bad wsX9_bad) := goodIn_app (goodIn_of _ (by decide +kernel)) ggX9_to_X9_bad
set_option maxRecDepth 20000 in
theorem ggX9_to_X9_full : GoodIn wsX9_to wsX9_full := goodIn_r _ [15, 1, 16, 17, 18, 19, 20, 21, 22, 23, 24, 25, 26, 27, 28, 29, 30, 31, 32, 33, 34, 35, 36, 37, 38, 39, 40, 41, 42, 43, 44, 45, 46, 47, 48, 49, 50, 51, 52, 53, 54, 55, 56, 57, 58, 59, 60, 61, 62, 63, 64, 65, 66, 67, 68, 69, 70, 71, 72, 73, 74, 75, 76, 77] rfl (by decide +kernel)
set_option maxRecDepth 20000 in
theorem gX9_to_X9_full : GoodIn wsX9_to (wsV RX9 152 RX9 yX9_full wsX9_full) := goodIn_app (goodIn_of _ (by decide +kernel)) ggX9_to_X9_full
theorem dX9_to_0 : decode cX9_to 0 = .ok (.aload_n 0, 1) := by decide +kernel
theorem dX9_to_1 : decode cX9_to 1 = .ok (.iconst 0, 1) := by decide +kernel
theorem dX9_to_2 : decode cX9_to 2 = .ok (.putfield 1, 3) := by decide +kernel
theorem dX9_to_5 : decode cX9_to 5 = .ok (.iload_n 1, 1) := by decide +kernel
theorem dX9_to_6 : decode cX9_to 6 = .ok (.ifCond .ge 8, 3) := by decide +kernel
theorem dX9_to_9 : decode cX9_to 9 = .ok (.aload_n 0, 1) := by decide +kernel
theorem dX9_to_10 : decode cX9_to 10 = .ok (.invokevirtual 148, 3) := by decide +kernel
theorem dX9_to_13 : decode cX9_to 13 = .ok (.ireturn, 1) := by decide +kernel
theorem dX9_to_14 : decode cX9_to 14 = .ok (.aload_n 0, 1) := by decide +kernel
theorem dX9_to_15 : decode cX9_to 15 = .ok (.getfield 179, 3) := by decide +kernel
theorem dX9_to_18 : decode cX9_to 18 = .ok (.ifCond .eq 53, 3) := by decide +kernel
theorem dX9_to_21 : decode cX9_to 21 = .ok (.aload_n 0, 1) := by decide +kernel
theorem dX9_to_22 : decode cX9_to 22 = .ok (.getfield 51, 3) := by decide +kernel
theorem dX9_to_25 : decode cX9_to 25 = .ok (.aload_n 0, 1) := by decide +kernel
theorem dX9_to_26 : decode cX9_to 26 = .ok (.getfield 179, 3) := by decide +kernel
theorem dX9_to_29 : decode cX9_to 29 = .ok (.iconst 1, 1) := by decide +kernel
theorem dX9_to_30 : decode cX9_to 30 = .ok (.isub, 1) := by decide +kernel
theorem dX9_to_31 : decode cX9_to 31 = .ok (.iaload, 1) := by decide +kernel
theorem dX9_to_32 : decode cX9_to 32 = .ok (.sipush 170, 3) := by decide +kernel
theorem dX9_to_35 : decode cX9_to 35 = .ok (.if_icmp .eq 20, 3) := by decide +kernel
theorem dX9_to_38 : decode cX9_to 38 = .ok (.aload_n 0, 1) := by decide +kernel
theorem dX9_to_39 : decode cX9_to 39 = .ok (.getfield 51, 3) := by decide +kernel
theorem dX9_to_42 : decode cX9_to 42 = .ok (.aload_n 0, 1) := by decide +kernel
theorem dX9_to_43 : decode cX9_to 43 = .ok (.getfield 179, 3) := by decide +kernel
theorem dX9_to_46 : decode cX9_to 46 = .ok (.iconst 1, 1) := by decide +kernel
theorem dX9_to_47 : decode cX9_to 47 = .ok (.isub, 1) := by decide +kernel
theorem dX9_to_48 : decode cX9_to 48 = .ok (.iaload, 1) := by decide +kernel
theorem dX9_to_49 : decode cX9_to 49 = .ok (.sipush 171, 3) := by decide +kernel
theorem dX9_to_52 : decode cX9_to 52 = .ok (.if_icmp .ne 19, 3) := by decide +kernel
theorem dX9_to_55 : decode cX9_to 55 = .ok (.aload_n 0, 1) := by decide +kernel
theorem dX9_to_56 : decode cX9_to 56 = .ok (.getfield 63, 3) := by decide +kernel
theorem dX9_to_59 : decode cX9_to 59 = .ok (.aload_n 0, 1) := by decide +kernel
theorem dX9_to_60 : decode cX9_to 60 = .ok (.getfield 179, 3) := by decide +kernel
theorem dX9_to_63 : decode cX9_to 63 = .ok (.iconst 1, 1) := by decide +kernel
theorem dX9_to_64 : decode cX9_to 64 = .ok (.isub, 1) := by decide +kernel
theorem dX9_to_65 : decode cX9_to 65 = .ok (.iaload, 1) := by decide +kernel
theorem dX9_to_66 : decode cX9_to 66 = .ok (.bipush 50, 2) := by decide +kernel
theorem dX9_to_68 : decode cX9_to 68 = .ok (.if_icmp .ne 8, 3) := by decide +kernel
theorem dX9_to_71 : decode cX9_to 71 = .ok (.aload_n 0, 1) := by decide +kernel
theorem dX9_to_72 : decode cX9_to 72 = .ok (.invokevirtual 152, 3) := by decide +kernel
theorem dX9_to_75 : decode cX9_to 75 = .ok (.ireturn, 1) := by decide +kernel
theorem dX9_to_76 : decode cX9_to 76 = .ok (.aload_n 0, 1) := by decide +kernel
theorem dX9_to_77 : decode cX9_to 77 = .ok (.getfield 67, 3) := by decide +kernel
theorem dX9_to_80 : decode cX9_to 80 = .ok (.aload_n 0, 1) := by decide +kernel
theorem dX9_to_81 : decode cX9_to 81 = .ok (.dup, 1) := by decide +kernel
theorem dX9_to_82 : decode cX9_to 82 = .ok (.getfield 185, 3) := by decide +kernel
theorem dX9_to_85 : decode cX9_to 85 = .ok (.dup_x1, 1) := by decide +kernel
theorem dX9_to_86 : decode cX9_to 86 = .ok (.iconst 1, 1) := by decide +kernel
theorem dX9_to_87 : decode cX9_to 87 = .ok (.iadd, 1) := by decide +kernel
theorem dX9_to_88 : decode cX9_to 88 = .ok (.putfield 185, 3) := by decide +kernel
theorem dX9_to_91 : decode cX9_to 91 = .ok (.iload_n 1, 1) := by decide +kernel
theorem dX9_to_92 : decode cX9_to 92 = .ok (.iastore, 1) := by decide +kernel
theorem dX9_to_93 : decode cX9_to 93 = .ok (.aload_n 0, 1) := by decide +kernel
theorem dX9_to_94 : decode cX9_to 94 = .ok (.getfield 63, 3) := by decide +kernel
theorem dX9_to_97 : decode cX9_to 97 = .ok (.aload_n 0, 1) := by decide +kernel
theorem dX9_to_98 : decode cX9_to 98 = .ok (.getfield 179, 3) := by decide +kernel
theorem dX9_to_101 : decode cX9_to 101 = .ok (.iconst 1, 1) := by decide +kernel
theorem dX9_to_102 : decode cX9_to 102 = .ok (.isub, 1) := by decide +kernel
theorem dX9_to_103 : decode cX9_to 103 = .ok (.dup2, 1) := by decide +kernel
theorem dX9_to_104 : decode cX9_to 104 = .ok (.iaload, 1) := by decide +kernel
theorem dX9_to_105 : decode cX9_to 105 = .ok (.iconst 1, 1) := by decide +kernel
theorem dX9_to_106 : decode cX9_to 106 = .ok (.iadd, 1) := by decide +kernel
theorem dX9_to_107 : decode cX9_to 107 = .ok (.dup_x2, 1) := by decide +kernel
theorem dX9_to_108 : decode cX9_to 108 = .ok (.iastore, 1) := by decide +kernel
theorem dX9_to_109 : decode cX9_to 109 = .ok (.ireturn, 1) := by decide +kernel
set_option maxRecDepth 20000 in
theorem ggX9_row_X9_isClass : GoodIn wsX9_row wsX9_isClass := goodIn_r _ [11, 12, 21, 22, 23, 24, 25, 26, 27, 28, 29, 30, 31, 32, 33, 34, 35, 36, 37, 38, 39, 40, 41, 42, 43, 44, 45, 46, 47, 48, 49, 50, 51, 52, 53, 54, 55, 56, 57, 58, 59, 60, 61, 62, 63, 64, 65, 66, 67, 68, 69, 70, 71, 72, 73, 74, 75, 76, 77, 78, 79, 80, 81, 82] rfl (by decide +kernel)
set_option maxRecDepth 20000 in
theorem gX9_row_X9_isClass : GoodIn wsX9_row (wsV RX9 143 RX9 yX9_isClass wsX9_isClass) := goodIn_app (goodIn_of _ (by decide +kernel)) ggX9_row_X9_isClass
set_option maxRecDepth 20000 in
theorem ggX9_row_X9_bad : GoodIn wsX9_row wsX9_bad := goodIn_r _ [16, 1, 21, 22, 23, 24, 25, 26, 27, 28, 29, 30, 31, 32, 33, 34, 35, 36, 37, 38, 39, 40, 41, 42, 43, 44, 45, 46, 47, 48, 49, 50, 51, 52, 53, 54, 55, 56, 57, 58, 59, 60, 61, 62, 63, 64, 65, 66, 67, 68, 69, 70, 71, 72, 73, 74, 75, 76, 77, 78, 79, 80, 81, 82] rfl (by decide +kernel)
set_option maxRecDepth 20000 in
theorem gX9_row_X9_bad : GoodIn wsX9_row (wsV RX9 148 RX9 yX9_bad wsX9_bad) := goodIn_app (goodIn_of _ (by decide +kernel)) ggX9_row_X9_bad
set_option maxRecDepth 20000 in
theorem ggX9_row_X9_full : GoodIn wsX9_row wsX9_full := goodIn_r _ [20, 1, 21, 22, 23, 24, 25, 26, 27, 28, 29, 30, 31, 32, 33, 34, 35, 36, 37, 38, 39, 40, 41, 42, 43, 44, 45, 46, 47, 48, 49, 50, 51, 52, 53, 54, 55, 56, 57, 58, 59, 60, 61, 62, 63, 64, 65, 66, 67, 68, 69, 70, 71, 72, 73, 74, 75, 76, 77, 78, 79, 80, 81, 82] rfl (by decide +kernel)
set_option maxRecDepth 20000 in
theorem gX9_row_X9_full : GoodIn wsX9_row (wsV RX9 152 RX9 yX9_full wsX9_full) := goodIn_app (goodIn_of _ (by decide +kernel)) ggX9_row_X9_full
theorem dX9_row_0 : decode cX9_row 0 = .ok (.aload_n 0, 1) := by decide +kernel
theorem dX9_row_1 : decode cX9_row 1 = .ok (.iconst 0, 1) := by decide +kernel
theorem dX9_row_2 : decode cX9_row 2 = .ok (.putfield 1, 3) := by decide +kernel
theorem dX9_row_5 : decode cX9_row 5 = .ok (.iload_n 1, 1) := by decide +kernel
theorem dX9_row_6 : decode cX9_row 6 = .ok (.ifCond .lt 26, 3) := by decide +kernel
theorem dX9_row_9 : decode cX9_row 9 = .ok (.iload_n 2, 1) := by decide +kernel
theorem dX9_row_10 : decode cX9_row 10 = .ok (.ifCond .lt 22, 3) := by decide +kernel
theorem dX9_row_13 : decode cX9_row 13 = .ok (.iload_n 3, 1) := by decide +kernel
theorem dX9_row_14 : decode cX9_row 14 = .ok (.ifCond .lt 18, 3) := by decide +kernel
theorem dX9_row_17 : decode cX9_row 17 = .ok (.iload 4, 2) := by decide +kernel
theorem dX9_row_19 : decode cX9_row 19 = .ok (.iconst (-1), 1) := by decide +kernel
theorem dX9_row_20 : decode cX9_row 20 = .ok (.if_icmp .eq 17, 3) := by decide +kernel
theorem dX9_row_23 : decode cX9_row 23 = .ok (.aload_n 0, 1) := by decide +kernel
theorem dX9_row_24 : decode cX9_row 24 = .ok (.iload 4, 2) := by decide +kernel
theorem dX9_row_26 : decode cX9_row 26 = .ok (.invokevirtual 143, 3) := by decide +kernel
theorem dX9_row_29 : decode cX9_row 29 = .ok (.ifCond .ne 8, 3) := by decide +kernel
theorem dX9_row_32 : decode cX9_row 32 = .ok (.aload_n 0, 1) := by decide +kernel
theorem dX9_row_33 : decode cX9_row 33 = .ok (.invokevirtual 148, 3) := by decide +kernel
theorem dX9_row_36 : decode cX9_row 36 = .ok (.ireturn, 1) := by decide +kernel
theorem dX9_row_37 : decode cX9_row 37 = .ok (.aload_n 0, 1) := by decide +kernel
theorem dX9_row_38 : decode cX9_row 38 = .ok (.getfield 182, 3) := by decide +kernel
theorem dX9_row_41 : decode cX9_row 41 = .ok (.bipush 50, 2) := by decide +kernel
theorem dX9_row_43 : decode cX9_row 43 = .ok (.if_icmp .ne 8, 3) := by decide +kernel
theorem dX9_row_46 : decode cX9_row 46 = .ok (.aload_n 0, 1) := by decide +kernel
theorem dX9_row_47 : decode cX9_row 47 = .ok (.invokevirtual 152, 3) := by decide +kernel
theorem dX9_row_50 : decode cX9_row 50 = .ok (.ireturn, 1) := by decide +kernel
theorem dX9_row_51 : decode cX9_row 51 = .ok (.aload_n 0, 1) := by decide +kernel
theorem dX9_row_52 : decode cX9_row 52 = .ok (.getfield 70, 3) := by decide +kernel
theorem dX9_row_55 : decode cX9_row 55 = .ok (.aload_n 0, 1) := by decide +kernel
theorem dX9_row_56 : decode cX9_row 56 = .ok (.getfield 182, 3) := by decide +kernel
theorem dX9_row_59 : decode cX9_row 59 = .ok (.iload_n 1, 1) := by decide +kernel
theorem dX9_row_60 : decode cX9_row 60 = .ok (.iastore, 1) := by decide +kernel
theorem dX9_row_61 : decode cX9_row 61 = .ok (.aload_n 0, 1) := by decide +kernel
theorem dX9_row_62 : decode cX9_row 62 = .ok (.getfield 73, 3) := by decide +kernel
theorem dX9_row_65 : decode cX9_row 65 = .ok (.aload_n 0, 1) := by decide +kernel
theorem dX9_row_66 : decode cX9_row 66 = .ok (.getfield 182, 3) := by decide +kernel
theorem dX9_row_69 : decode cX9_row 69 = .ok (.iload_n 2, 1) := by decide +kernel
theorem dX9_row_70 : decode cX9_row 70 = .ok (.iastore, 1) := by decide +kernel
theorem dX9_row_71 : decode cX9_row 71 = .ok (.aload_n 0, 1) := by decide +kernel
theorem dX9_row_72 : decode cX9_row 72 = .ok (.getfield 76, 3) := by decide +kernel
theorem dX9_row_75 : decode cX9_row 75 = .ok (.aload_n 0, 1) := by decide +kernel
theorem dX9_row_76 : decode cX9_row 76 = .ok (.getfield 182, 3) := by decide +kernel
theorem dX9_row_79 : decode cX9_row 79 = .ok (.iload_n 3, 1) := by decide +kernel
theorem dX9_row_80 : decode cX9_row 80 = .ok (.iastore, 1) := by decide +kernel
theorem dX9_row_81 : decode cX9_row 81 = .ok (.aload_n 0, 1) := by decide +kernel
theorem dX9_row_82 : decode cX9_row 82 = .ok (.getfield 79, 3) := by decide +kernel
theorem dX9_row_85 : decode cX9_row 85 = .ok (.aload_n 0, 1) := by decide +kernel
theorem dX9_row_86 : decode cX9_row 86 = .ok (.getfield 182, 3) := by decide +kernel
theorem dX9_row_89 : decode cX9_row 89 = .ok (.iload 4, 2) := by decide +kernel
theorem dX9_row_91 : decode cX9_row 91 = .ok (.iastore, 1) := by decide +kernel
theorem dX9_row_92 : decode cX9_row 92 = .ok (.aload_n 0, 1) := by decide +kernel
theorem dX9_row_93 : decode cX9_row 93 = .ok (.dup, 1) := by decide +kernel
theorem dX9_row_94 : decode cX9_row 94 = .ok (.getfield 182, 3) := by decide +kernel
theorem dX9_row_97 : decode cX9_row 97 = .ok (.iconst 1, 1) := by decide +kernel
theorem dX9_row_98 : decode cX9_row 98 = .ok (.iadd, 1) := by decide +kernel
theorem dX9_row_99 : decode cX9_row 99 = .ok (.dup_x1, 1) := by decide +kernel
theorem dX9_row_100 : decode cX9_row 100 = .ok (.putfield 182, 3) := by decide +kernel
theorem dX9_row_103 : decode cX9_row 103 = .ok (.ireturn, 1) := by decide +kernel
theorem dX9_below_0 : decode cX9_below 0 = .ok (.iload_n 1, 1) := by decide +kernel
theorem dX9_below_1 : decode cX9_below 1 = .ok (.istore_n 3, 1) := by decide +kernel
theorem dX9_below_2 : decode cX9_below 2 = .ok (.iload_n 3, 1) := by decide +kernel
theorem dX9_below_3 : decode cX9_below 3 = .ok (.ifCond .lt 20, 3) := by decide +kernel
theorem dX9_below_6 : decode cX9_below 6 = .ok (.iload_n 3, 1) := by decide +kernel
theorem dX9_below_7 : decode cX9_below 7 = .ok (.iload_n 2, 1) := by decide +kernel
theorem dX9_below_8 : decode cX9_below 8 = .ok (.if_icmp .ne 5, 3) := by decide +kernel
theorem dX9_below_11 : decode cX9_below 11 = .ok (.iconst 1, 1) := by decide +kernel
theorem dX9_below_12 : decode cX9_below 12 = .ok (.ireturn, 1) := by decide +kernel
theorem dX9_below_13 : decode cX9_below 13 = .ok (.aload_n 0, 1) := by decide +kernel
theorem dX9_below_14 : decode cX9_below 14 = .ok (.getfield 16, 3) := by decide +kernel
theorem dX9_below_17 : decode cX9_below 17 = .ok (.iload_n 3, 1) := by decide +kernel
theorem dX9_below_18 : decode cX9_below 18 = .ok (.iaload, 1) := by decide +kernel
theorem dX9_below_19 : decode cX9_below 19 = .ok (.istore_n 3, 1) := by decide +kernel
theorem dX9_below_20 : decode cX9_below 20 = .ok (.goto (-18), 3) := by decide +kernel
theorem dX9_below_23 : decode cX9_below 23 = .ok (.iconst 0, 1) := by decide +kernel
theorem dX9_below_24 : decode cX9_below 24 = .ok (.ireturn, 1) := by decide +kernel
set_option maxRecDepth 20000 in
theorem ggX9_may_X9_isPrimitive : GoodIn wsX9_may wsX9_isPrimitive := goodIn_r _ [8, 3, 9] rfl (by decide +kernel)
set_option maxRecDepth 20000 in
theorem gX9_may_X9_isPrimitive : GoodIn wsX9_may (wsV RX9 195 RX9 yX9_isPrimitive wsX9_isPrimitive) := goodIn_app (goodIn_of _ (by decide +kernel)) ggX9_may_X9_isPrimitive
set_option maxRecDepth 20000 in
theorem ggX9_may_X9_below : GoodIn wsX9_may wsX9_below := goodIn_r _ [13, 14, 18, 19, 20, 21, 22, 23, 24, 25, 26, 27, 28, 29, 30, 31, 32, 33, 34, 35, 36, 37, 38, 39, 40, 41, 42, 43, 44, 45, 46, 47, 48, 49, 50, 51, 52, 53, 54, 55, 56, 57, 58, 59, 60, 61, 62, 63, 64, 65, 66, 67, 68, 69, 70, 71, 72, 73, 74, 75, 76, 77, 78, 79] rfl (by decide +kernel)
set_option maxRecDepth 20000 in
theorem gX9_may_X9_below : GoodIn wsX9_may (wsV RX9 198 RX9 yX9_below wsX9_below) := goodIn_app (goodIn_of _ (by decide +kernel)) ggX9_may_X9_below
set_option maxRecDepth 20000 in
theorem ggX9_may_X9_may : GoodIn wsX9_may wsX9_may := goodIn_r _ [0, 1, 2, 3, 4, 5, 6, 7, 8, 9, 10, 11, 12, 13, 14, 15, 16, 17, 18, 19, 20, 21, 22, 23, 24, 25, 26, 27, 28, 29, 30, 31, 32, 33, 34, 35, 36, 37, 38, 39, 40, 41, 42, 43, 44, 45, 46, 47, 48, 49, 50, 51, 52, 53, 54, 55, 56, 57, 58, 59, 60, 61, 62, 63, 64, 65, 66, 67, 68, 69, 70, 71, 72, 73, 74, 75, 76, 77, 78, 79] rfl (by decide +kernel)
set_option maxRecDepth 20000 in
theorem gX9_may_X9_may : GoodIn wsX9_may (wsV RX9 202 RX9 yX9_may wsX9_may) := goodIn_app (goodIn_of _ (by decide +kernel)) ggX9_may_X9_may
theorem dX9_may_0 : decode cX9_may 0 = .ok (.iload_n 1, 1) := by decide +kernel
theorem dX9_may_1 : decode cX9_may 1 = .ok (.iload_n 2, 1) := by decide +kernel
theorem dX9_may_2 : decode cX9_may 2 = .ok (.if_icmp .ne 5, 3) := by decide +kernel
theorem dX9_may_5 : decode cX9_may 5 = .ok (.iconst 1, 1) := by decide +kernel
theorem dX9_may_6 : decode cX9_may 6 = .ok (.ireturn, 1) := by decide +kernel
theorem dX9_may_7 : decode cX9_may 7 = .ok (.aload_n 0, 1) := by decide +kernel
theorem dX9_may_8 : decode cX9_may 8 = .ok (.iload_n 1, 1) := by decide +kernel
theorem dX9_may_9 : decode cX9_may 9 = .ok (.invokevirtual 195, 3) := by decide +kernel
theorem dX9_may_12 : decode cX9_may 12 = .ok (.ifCond .ne 11, 3) := by decide +kernel
theorem dX9_may_15 : decode cX9_may 15 = .ok (.aload_n 0, 1) := by decide +kernel
theorem dX9_may_16 : decode cX9_may 16 = .ok (.iload_n 2, 1) := by decide +kernel
theorem dX9_may_17 : decode cX9_may 17 = .ok (.invokevirtual 195, 3) := by decide +kernel
theorem dX9_may_20 : decode cX9_may 20 = .ok (.ifCond .eq 5, 3) := by decide +kernel
theorem dX9_may_23 : decode cX9_may 23 = .ok (.iconst 0, 1) := by decide +kernel
theorem dX9_may_24 : decode cX9_may 24 = .ok (.ireturn, 1) := by decide +kernel
theorem dX9_may_25 : decode cX9_may 25 = .ok (.iload_n 1, 1) := by decide +kernel
theorem dX9_may_26 : decode cX9_may 26 = .ok (.bipush 16, 2) := by decide +kernel
theorem dX9_may_28 : decode cX9_may 28 = .ok (.ishr, 1) := by decide +kernel
theorem dX9_may_29 : decode cX9_may 29 = .ok (.istore_n 3, 1) := by decide +kernel
theorem dX9_may_30 : decode cX9_may 30 = .ok (.iload_n 2, 1) := by decide +kernel
theorem dX9_may_31 : decode cX9_may 31 = .ok (.bipush 16, 2) := by decide +kernel
theorem dX9_may_33 : decode cX9_may 33 = .ok (.ishr, 1) := by decide +kernel
theorem dX9_may_34 : decode cX9_may 34 = .ok (.istore 4, 2) := by decide +kernel
theorem dX9_may_36 : decode cX9_may 36 = .ok (.iload 4, 2) := by decide +kernel
theorem dX9_may_38 : decode cX9_may 38 = .ok (.ifCond .ne 57, 3) := by decide +kernel
theorem dX9_may_41 : decode cX9_may 41 = .ok (.iload_n 3, 1) := by decide +kernel
theorem dX9_may_42 : decode cX9_may 42 = .ok (.ifCond .le 25, 3) := by decide +kernel
theorem dX9_may_45 : decode cX9_may 45 = .ok (.iload_n 2, 1) := by decide +kernel
theorem dX9_may_46 : decode cX9_may 46 = .ok (.ifCond .eq 13, 3) := by decide +kernel
theorem dX9_may_49 : decode cX9_may 49 = .ok (.iload_n 2, 1) := by decide +kernel
theorem dX9_may_50 : decode cX9_may 50 = .ok (.iconst 2, 1) := by decide +kernel
theorem dX9_may_51 : decode cX9_may 51 = .ok (.if_icmp .eq 8, 3) := by decide +kernel
theorem dX9_may_54 : decode cX9_may 54 = .ok (.iload_n 2, 1) := by decide +kernel
theorem dX9_may_55 : decode cX9_may 55 = .ok (.iconst 3, 1) := by decide +kernel
theorem dX9_may_56 : decode cX9_may 56 = .ok (.if_icmp .ne 7, 3) := by decide +kernel
theorem dX9_may_59 : decode cX9_may 59 = .ok (.iconst 1, 1) := by decide +kernel
theorem dX9_may_60 : decode cX9_may 60 = .ok (.goto 34, 3) := by decide +kernel
theorem dX9_may_63 : decode cX9_may 63 = .ok (.iconst 0, 1) := by decide +kernel
theorem dX9_may_64 : decode cX9_may 64 = .ok (.goto 30, 3) := by decide +kernel
theorem dX9_may_67 : decode cX9_may 67 = .ok (.iload_n 2, 1) := by decide +kernel
theorem dX9_may_68 : decode cX9_may 68 = .ok (.ifCond .eq 21, 3) := by decide +kernel
theorem dX9_may_71 : decode cX9_may 71 = .ok (.aload_n 0, 1) := by decide +kernel
theorem dX9_may_72 : decode cX9_may 72 = .ok (.getfield 20, 3) := by decide +kernel
theorem dX9_may_75 : decode cX9_may 75 = .ok (.iload_n 2, 1) := by decide +kernel
theorem dX9_may_76 : decode cX9_may 76 = .ok (.baload, 1) := by decide +kernel
theorem dX9_may_77 : decode cX9_may 77 = .ok (.ifCond .ne 12, 3) := by decide +kernel
theorem dX9_may_80 : decode cX9_may 80 = .ok (.aload_n 0, 1) := by decide +kernel
theorem dX9_may_81 : decode cX9_may 81 = .ok (.iload_n 1, 1) := by decide +kernel
theorem dX9_may_82 : decode cX9_may 82 = .ok (.iload_n 2, 1) := by decide +kernel
theorem dX9_may_83 : decode cX9_may 83 = .ok (.invokevirtual 198, 3) := by decide +kernel
theorem dX9_may_86 : decode cX9_may 86 = .ok (.ifCond .eq 7, 3) := by decide +kernel
theorem dX9_may_89 : decode cX9_may 89 = .ok (.iconst 1, 1) := by decide +kernel
theorem dX9_may_90 : decode cX9_may 90 = .ok (.goto 4, 3) := by decide +kernel
theorem dX9_may_93 : decode cX9_may 93 = .ok (.iconst 0, 1) := by decide +kernel
theorem dX9_may_94 : decode cX9_may 94 = .ok (.ireturn, 1) := by decide +kernel
theorem dX9_may_95 : decode cX9_may 95 = .ok (.iload_n 1, 1) := by decide +kernel
theorem dX9_may_96 : decode cX9_may 96 = .ok (.ldc 142, 2) := by decide +kernel
theorem dX9_may_98 : decode cX9_may 98 = .ok (.iand, 1) := by decide +kernel
theorem dX9_may_99 : decode cX9_may 99 = .ok (.istore 5, 2) := by decide +kernel
theorem dX9_may_101 : decode cX9_may 101 = .ok (.iload_n 2, 1) := by decide +kernel
theorem dX9_may_102 : decode cX9_may 102 = .ok (.ldc 142, 2) := by decide +kernel
theorem dX9_may_104 : decode cX9_may 104 = .ok (.iand, 1) := by decide +kernel
theorem dX9_may_105 : decode cX9_may 105 = .ok (.istore 6, 2) := by decide +kernel
theorem dX9_may_107 : decode cX9_may 107 = .ok (.iload_n 3, 1) := by decide +kernel
theorem dX9_may_108 : decode cX9_may 108 = .ok (.iload 4, 2) := by decide +kernel
theorem dX9_may_110 : decode cX9_may 110 = .ok (.if_icmp .ne 34, 3) := by decide +kernel
theorem dX9_may_113 : decode cX9_may 113 = .ok (.iload 5, 2) := by decide +kernel
theorem dX9_may_115 : decode cX9_may 115 = .ok (.ldc 140, 2) := by decide +kernel
theorem dX9_may_117 : decode cX9_may 117 = .ok (.if_icmp .ge 25, 3) := by decide +kernel
theorem dX9_may_120 : decode cX9_may 120 = .ok (.iload 6, 2) := by decide +kernel
theorem dX9_may_122 : decode cX9_may 122 = .ok (.ldc 140, 2) := by decide +kernel
theorem dX9_may_124 : decode cX9_may 124 = .ok (.if_icmp .ge 18, 3) := by decide +kernel
theorem dX9_may_127 : decode cX9_may 127 = .ok (.aload_n 0, 1) := by decide +kernel
theorem dX9_may_128 : decode cX9_may 128 = .ok (.iload 5, 2) := by decide +kernel
theorem dX9_may_130 : decode cX9_may 130 = .ok (.iload 6, 2) := by decide +kernel
theorem dX9_may_132 : decode cX9_may 132 = .ok (.invokevirtual 202, 3) := by decide +kernel
theorem dX9_may_135 : decode cX9_may 135 = .ok (.ifCond .eq 7, 3) := by decide +kernel
theorem dX9_may_138 : decode cX9_may 138 = .ok (.iconst 1, 1) := by decide +kernel
theorem dX9_may_139 : decode cX9_may 139 = .ok (.goto 4, 3) := by decide +kernel
theorem dX9_may_142 : decode cX9_may 142 = .ok (.iconst 0, 1) := by decide +kernel
theorem dX9_may_143 : decode cX9_may 143 = .ok (.ireturn, 1) := by decide +kernel
theorem dX9_may_144 : decode cX9_may 144 = .ok (.iload_n 3, 1) := by decide +kernel
theorem dX9_may_145 : decode cX9_may 145 = .ok (.iload 4, 2) := by decide +kernel
theorem dX9_may_147 : decode cX9_may 147 = .ok (.if_icmp .le 24, 3) := by decide +kernel
theorem dX9_may_150 : decode cX9_may 150 = .ok (.iload 6, 2) := by decide +kernel
theorem dX9_may_152 : decode cX9_may 152 = .ok (.ifCond .eq 15, 3) := by decide +kernel
