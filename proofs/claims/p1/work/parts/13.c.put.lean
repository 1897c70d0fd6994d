/-! put: the INSTRUCTIONS, interval by interval -/
theorem x_k15 : (15 : Int32) = nI 15 := rfl
theorem x_k16 : (16 : Int32) = nI 16 := rfl
theorem x_k17 : (17 : Int32) = nI 17 := rfl
theorem x_k18 : (18 : Int32) = nI 18 := rfl
theorem x_k20 : (20 : Int32) = nI 20 := rfl
theorem x_k21 : (21 : Int32) = nI 21 := rfl
theorem x_k25 : (25 : Int32) = nI 25 := rfl
theorem x_k46 : (46 : Int32) = nI 46 := rfl
theorem x_k53 : (53 : Int32) = nI 53 := rfl
theorem x_k54 : (54 : Int32) = nI 54 := rfl
theorem x_k58 : (58 : Int32) = nI 58 := rfl
theorem x_k79 : (79 : Int32) = nI 79 := rfl
theorem x_k131 : (131 : Int32) = nI 131 := rfl
theorem x_k132 : (132 : Int32) = nI 132 := rfl
theorem x_k133 : (133 : Int32) = nI 133 := rfl
theorem x_k152 : (152 : Int32) = nI 152 := rfl
theorem x_k153 : (153 : Int32) = nI 153 := rfl
theorem x_k168 : (168 : Int32) = nI 168 := rfl
theorem x_k169 : (169 : Int32) = nI 169 := rfl
theorem x_k170 : (170 : Int32) = nI 170 := rfl
theorem x_k177 : (177 : Int32) = nI 177 := rfl
theorem x_k178 : (178 : Int32) = nI 178 := rfl
theorem x_k179 : (179 : Int32) = nI 179 := rfl
theorem x_k180 : (180 : Int32) = nI 180 := rfl
theorem x_k181 : (181 : Int32) = nI 181 := rfl
theorem x_k182 : (182 : Int32) = nI 182 := rfl
theorem x_k183 : (183 : Int32) = nI 183 := rfl
theorem x_k184 : (184 : Int32) = nI 184 := rfl
theorem x_k185 : (185 : Int32) = nI 185 := rfl
theorem x_k186 : (186 : Int32) = nI 186 := rfl
theorem x_k187 : (187 : Int32) = nI 187 := rfl
theorem x_k188 : (188 : Int32) = nI 188 := rfl
theorem x_k189 : (189 : Int32) = nI 189 := rfl
theorem x_k190 : (190 : Int32) = nI 190 := rfl
theorem x_k191 : (191 : Int32) = nI 191 := rfl
theorem x_k192 : (192 : Int32) = nI 192 := rfl
theorem x_k193 : (193 : Int32) = nI 193 := rfl
theorem x_k194 : (194 : Int32) = nI 194 := rfl
theorem x_k195 : (195 : Int32) = nI 195 := rfl
theorem x_k197 : (197 : Int32) = nI 197 := rfl
theorem x_k198 : (198 : Int32) = nI 198 := rfl
theorem x_k199 : (199 : Int32) = nI 199 := rfl
theorem x_wide1 (p1 : Int32) : (if (f_X7_isType p1) = (0 : Int32) then (0 : Int32) else if (f_X7_widthOf p1) = (1 : Int32) then 1 else 0) = (if (f_X9_isType p1) = (0 : Int32) then (0 : Int32) else if (f_X9_isWide p1) = (0 : Int32) then 1 else 0) := by
  rw [e_ty]
  unfold f_X7_widthOf f_X9_isWide
  by_cases h1 : p1 = (65535 : Int32)
  · subst h1; decide
  · by_cases h2 : p1 = (65531 : Int32)
    · subst h2; decide
    · rw [if_neg h1, if_neg h2, if_neg h2, if_neg h1, if_pos rfl, if_pos rfl]
theorem x_wide2 (p1 : Int32) : (if (f_X7_isType p1) = (0 : Int32) then (0 : Int32) else if (f_X7_widthOf p1) = (2 : Int32) then 1 else 0) = f_X9_isWide p1 := by
  rw [e_ty]
  unfold f_X7_widthOf f_X9_isWide
  by_cases h1 : p1 = (65535 : Int32)
  · subst h1; decide
  · by_cases h2 : p1 = (65531 : Int32)
    · subst h2; decide
    · rw [if_neg h1, if_neg h2, if_neg h2, if_neg h1, if_neg (by decide)]
      by_cases h : f_X9_isType p1 = (0 : Int32)
      · rw [if_pos h]
      · rw [if_neg h]
theorem x_01 {x : Int32} (h : x = 0 ∨ x = 1) : (if x = (0 : Int32) then (0 : Int32) else 1) = x := by
  rcases h with rfl | rfl <;> decide
theorem x_nb01 {x : Int32} (h : x_nb x) : x = 0 ∨ x = 1 := by
  have h1 : x &&& 1 = x := by
    have h2 : (Value.int (x &&& 1)) = Value.int x := h
    injection h2
  obtain ⟨j, hj, e⟩ := pk_andE x (m := 1) 1 (by decide)
  rw [h1] at e
  rcases (show j = 0 ∨ j = 1 by omega) with rfl | rfl
  · exact Or.inl e
  · exact Or.inr e
theorem x_bb {x : Int32} (h : x_nb x) : (if x = (0 : Int32) then (0 : Int32) else 1) = x := x_01 (x_nb01 h)
theorem x_dim9 {t : Int32} (h : ¬ f_X9_isType t = 0) : f_X7_dimensionsOf t = t >>> (16 &&& 31) := by
  obtain ⟨j, hj, rfl, -, -⟩ := x_ty h
  rw [x_shr hj]
  exact x_ushN hj
theorem x_loc (p1 : Int32) : (if (if p1 = (0 : Int32) then (1 : Int32) else if p1 ≤ (0 : Int32) then 0 else 1) = (0 : Int32) then (0 : Int32) else 1) = (if p1 < (0 : Int32) then (0 : Int32) else 1) := by
  by_cases h : p1 < 0
  · rw [if_pos h, if_neg (fun q => absurd (q ▸ h) (by decide)), if_pos (Int32.le_of_lt h), if_pos rfl]
  · rw [if_neg h]
    by_cases h2 : p1 = 0
    · rw [if_pos h2, if_neg x_10]
    · rw [if_neg h2, if_neg (fun q => h2 (Int32.le_antisymm q (Int32.not_lt.mp h))), if_neg x_10]
theorem x_pln (p1 p2 : Int32) : (if p2 = (0 : Int32) then (if (if p1 = (0 : Int32) then (1 : Int32) else if p1 ≤ (0 : Int32) then 0 else 0) = (0 : Int32) then (0 : Int32) else 1) else 0) = (if p1 = (0 : Int32) then if p2 = (0 : Int32) then (1 : Int32) else 0 else 0) := by
  by_cases h1 : p1 = 0
  · rw [if_pos h1, if_pos h1, if_neg x_10]
  · rw [if_neg h1, if_neg h1]
    by_cases h2 : p1 ≤ 0
    · rw [if_pos h2, if_pos rfl]
      by_cases h3 : p2 = 0
      · rw [if_pos h3]
      · rw [if_neg h3]
    · rw [if_neg h2, if_pos rfl]
      by_cases h3 : p2 = 0
      · rw [if_pos h3]
      · rw [if_neg h3]
theorem x_r197 (p1 p2 : Int32) : (if (f_X7_isReference p1) = (0 : Int32) then (0 : Int32) else if p2 < (1 : Int32) then 0 else if (f_X7_dimensionsOf p1) < p2 then 0 else 1) = (if (f_X9_isType p1) = (0 : Int32) then (0 : Int32) else if p2 < (1 : Int32) then 0 else if (p1 >>> (16 &&& 31)) < p2 then 0 else 1) := by
  rw [e_ref]
  by_cases h0 : f_X9_isType p1 = 0
  · simp only [if_pos h0, if_pos]
  · rw [x_dim9 h0]
    by_cases q : f_X9_isPrimitive p1 = 0
    · simp only [if_neg h0, if_pos q, if_neg x_10]
    · simp only [if_neg h0, if_neg q, if_pos]
      by_cases h2 : p2 < 1
      · rw [if_pos h2]
      · rw [if_neg h2, if_pos]
        obtain ⟨j, hj, rfl, h3, h4⟩ := x_ty h0
        rw [x_prim hj] at q
        rw [x_shr hj, show j / 65536 = 0 by omega]
        exact Int32.lt_of_lt_of_le (show nI 0 < 1 by decide) (Int32.not_lt.mp h2)
theorem x_r189 (p1 : Int32) : (if (if (f_X7_isReference p1) = (0 : Int32) then (0 : Int32) else if (255 : Int32) ≤ (f_X7_dimensionsOf p1) then 0 else 1) = (0 : Int32) then (0 : Int32) else 1) = (if (f_X9_isType p1) = (0 : Int32) then (0 : Int32) else if (f_X9_isPrimitive p1) = (0 : Int32) then if (255 : Int32) ≤ (p1 >>> (16 &&& 31)) then 0 else 1 else 0) := by
  rw [e_ref]
  by_cases h0 : f_X9_isType p1 = 0
  · simp only [if_pos h0, if_pos]
  · rw [x_dim9 h0]
    by_cases q : f_X9_isPrimitive p1 = 0
    · simp only [if_neg h0, if_pos q, if_neg x_10]
      by_cases h2 : 255 ≤ p1 >>> (16 &&& 31)
      · simp only [if_pos h2, if_pos]
      · simp only [if_neg h2, if_neg x_10]
    · simp only [if_neg h0, if_neg q, if_pos]

set_option maxHeartbeats 4000000 in
theorem x_f9_0 {n : Nat} (h1 : 0 ≤ n) (h2 : n ≤ 15) (hn : n < 2 ^ 31) (p1 p2 : Int32) : f_X9_fits (nI n) p1 p2 = (if p1 = (0 : Int32) then if p2 = (0 : Int32) then (1 : Int32) else 0 else 0) := by
  unfold f_X9_fits f_X9_fits_10 f_X9_fits_22 f_X9_fits_35 f_X9_fits_49 f_X9_fits_63 f_X9_fits_91 f_X9_fits_228 f_X9_fits_240 f_X9_fits_261 f_X9_fits_275 f_X9_fits_317 f_X9_fits_349 f_X9_fits_438
  rw [if_neg (nI_pos hn)]
  simp (disch := omega) only [x_k15, x_k16, x_k17, x_k18, x_k20, x_k21, x_k25, x_k46, x_k53, x_k54, x_k58, x_k79, x_k131, x_k132, x_k133, x_k152, x_k153, x_k168, x_k169, x_k170, x_k177, x_k178, x_k179, x_k180, x_k181, x_k182, x_k183, x_k184, x_k185, x_k186, x_k187, x_k188, x_k189, x_k190, x_k191, x_k192, x_k193, x_k194, x_k195, x_k197, x_k198, x_k199, nI_leI, nI_ltI, nI_eq]
  simp (disch := omega) only [if_pos, if_neg, ite_self]
set_option maxHeartbeats 4000000 in
theorem x_f8_0 {n : Nat} (h1 : 0 ≤ n) (h2 : n ≤ 15) (hn : n < 2 ^ 31) (p1 p2 : Int32) : f_X8_isInstruction (nI n) p1 p2 = (if p1 = (0 : Int32) then if p2 = (0 : Int32) then (1 : Int32) else 0 else 0) := by
  unfold f_X8_isInstruction f_X8_isOperand f_X0_isOpcode f_X0_isOpcode_10 f_X0_isOpcode_22 f_X0_isOpcode_34 f_X0_isOpcode_47 f_X0_isOfLocal f_X0_isJump
  have hz : ¬ nI n < 0 := nI_pos hn
  simp (disch := omega) only [if_neg hz, x_k15, x_k16, x_k17, x_k18, x_k20, x_k21, x_k25, x_k46, x_k53, x_k54, x_k58, x_k79, x_k131, x_k132, x_k133, x_k152, x_k153, x_k168, x_k169, x_k170, x_k177, x_k178, x_k179, x_k180, x_k181, x_k182, x_k183, x_k184, x_k185, x_k186, x_k187, x_k188, x_k189, x_k190, x_k191, x_k192, x_k193, x_k194, x_k195, x_k197, x_k198, x_k199, nI_leI, nI_ltI, nI_eq]
  simp (disch := omega) only [if_pos, if_neg]
  exact x_pln p1 p2
set_option maxHeartbeats 4000000 in
theorem x_f9_1 {n : Nat} (h1 : 16 ≤ n) (h2 : n ≤ 17) (hn : n < 2 ^ 31) (p1 p2 : Int32) : f_X9_fits (nI n) p1 p2 = (if p2 = (0 : Int32) then (1 : Int32) else 0) := by
  unfold f_X9_fits f_X9_fits_10 f_X9_fits_22 f_X9_fits_35 f_X9_fits_49 f_X9_fits_63 f_X9_fits_91 f_X9_fits_228 f_X9_fits_240 f_X9_fits_261 f_X9_fits_275 f_X9_fits_317 f_X9_fits_349 f_X9_fits_438
  rw [if_neg (nI_pos hn)]
  simp (disch := omega) only [x_k15, x_k16, x_k17, x_k18, x_k20, x_k21, x_k25, x_k46, x_k53, x_k54, x_k58, x_k79, x_k131, x_k132, x_k133, x_k152, x_k153, x_k168, x_k169, x_k170, x_k177, x_k178, x_k179, x_k180, x_k181, x_k182, x_k183, x_k184, x_k185, x_k186, x_k187, x_k188, x_k189, x_k190, x_k191, x_k192, x_k193, x_k194, x_k195, x_k197, x_k198, x_k199, nI_leI, nI_ltI, nI_eq]
  simp (disch := omega) only [if_pos, if_neg, ite_self]
set_option maxHeartbeats 4000000 in
theorem x_f8_1 {n : Nat} (h1 : 16 ≤ n) (h2 : n ≤ 17) (hn : n < 2 ^ 31) (p1 p2 : Int32) : f_X8_isInstruction (nI n) p1 p2 = (if p2 = (0 : Int32) then (1 : Int32) else 0) := by
  unfold f_X8_isInstruction f_X8_isOperand f_X0_isOpcode f_X0_isOpcode_10 f_X0_isOpcode_22 f_X0_isOpcode_34 f_X0_isOpcode_47 f_X0_isOfLocal f_X0_isJump
  have hz : ¬ nI n < 0 := nI_pos hn
  simp (disch := omega) only [if_neg hz, x_k15, x_k16, x_k17, x_k18, x_k20, x_k21, x_k25, x_k46, x_k53, x_k54, x_k58, x_k79, x_k131, x_k132, x_k133, x_k152, x_k153, x_k168, x_k169, x_k170, x_k177, x_k178, x_k179, x_k180, x_k181, x_k182, x_k183, x_k184, x_k185, x_k186, x_k187, x_k188, x_k189, x_k190, x_k191, x_k192, x_k193, x_k194, x_k195, x_k197, x_k198, x_k199, nI_leI, nI_ltI, nI_eq]
  simp (disch := omega) only [if_pos, if_neg]
  simp only [if_neg x_10]
set_option maxHeartbeats 4000000 in
theorem x_f9_2 {n : Nat} (h1 : 18 ≤ n) (h2 : n ≤ 18) (hn : n < 2 ^ 31) (p1 p2 : Int32) : f_X9_fits (nI n) p1 p2 = (if p2 = (0 : Int32) then (if (f_X9_isType p1) = (0 : Int32) then (0 : Int32) else if (f_X9_isWide p1) = (0 : Int32) then 1 else 0) else 0) := by
  unfold f_X9_fits f_X9_fits_10 f_X9_fits_22 f_X9_fits_35 f_X9_fits_49 f_X9_fits_63 f_X9_fits_91 f_X9_fits_228 f_X9_fits_240 f_X9_fits_261 f_X9_fits_275 f_X9_fits_317 f_X9_fits_349 f_X9_fits_438
  rw [if_neg (nI_pos hn)]
  simp (disch := omega) only [x_k15, x_k16, x_k17, x_k18, x_k20, x_k21, x_k25, x_k46, x_k53, x_k54, x_k58, x_k79, x_k131, x_k132, x_k133, x_k152, x_k153, x_k168, x_k169, x_k170, x_k177, x_k178, x_k179, x_k180, x_k181, x_k182, x_k183, x_k184, x_k185, x_k186, x_k187, x_k188, x_k189, x_k190, x_k191, x_k192, x_k193, x_k194, x_k195, x_k197, x_k198, x_k199, nI_leI, nI_ltI, nI_eq]
  simp (disch := omega) only [if_pos, if_neg, ite_self]
set_option maxHeartbeats 4000000 in
theorem x_f8_2 {n : Nat} (h1 : 18 ≤ n) (h2 : n ≤ 18) (hn : n < 2 ^ 31) (p1 p2 : Int32) : f_X8_isInstruction (nI n) p1 p2 = (if p2 = (0 : Int32) then (if (f_X9_isType p1) = (0 : Int32) then (0 : Int32) else if (f_X9_isWide p1) = (0 : Int32) then 1 else 0) else 0) := by
  unfold f_X8_isInstruction f_X8_isOperand f_X0_isOpcode f_X0_isOpcode_10 f_X0_isOpcode_22 f_X0_isOpcode_34 f_X0_isOpcode_47 f_X0_isOfLocal f_X0_isJump
  have hz : ¬ nI n < 0 := nI_pos hn
  simp (disch := omega) only [if_neg hz, x_k15, x_k16, x_k17, x_k18, x_k20, x_k21, x_k25, x_k46, x_k53, x_k54, x_k58, x_k79, x_k131, x_k132, x_k133, x_k152, x_k153, x_k168, x_k169, x_k170, x_k177, x_k178, x_k179, x_k180, x_k181, x_k182, x_k183, x_k184, x_k185, x_k186, x_k187, x_k188, x_k189, x_k190, x_k191, x_k192, x_k193, x_k194, x_k195, x_k197, x_k198, x_k199, nI_leI, nI_ltI, nI_eq]
  simp (disch := omega) only [if_pos, if_neg]
  rw [x_wide1]; by_cases h3 : p2 = 0
  · rw [if_pos h3, if_pos h3]; exact x_bb (x_ite rfl (x_ite rfl rfl))
  · rw [if_neg h3, if_neg h3]
set_option maxHeartbeats 4000000 in
theorem x_f9_3 {n : Nat} (h1 : 19 ≤ n) (h2 : n ≤ 19) (hn : n < 2 ^ 31) (p1 p2 : Int32) : f_X9_fits (nI n) p1 p2 = (0 : Int32) := by
  unfold f_X9_fits f_X9_fits_10 f_X9_fits_22 f_X9_fits_35 f_X9_fits_49 f_X9_fits_63 f_X9_fits_91 f_X9_fits_228 f_X9_fits_240 f_X9_fits_261 f_X9_fits_275 f_X9_fits_317 f_X9_fits_349 f_X9_fits_438
  rw [if_neg (nI_pos hn)]
  simp (disch := omega) only [x_k15, x_k16, x_k17, x_k18, x_k20, x_k21, x_k25, x_k46, x_k53, x_k54, x_k58, x_k79, x_k131, x_k132, x_k133, x_k152, x_k153, x_k168, x_k169, x_k170, x_k177, x_k178, x_k179, x_k180, x_k181, x_k182, x_k183, x_k184, x_k185, x_k186, x_k187, x_k188, x_k189, x_k190, x_k191, x_k192, x_k193, x_k194, x_k195, x_k197, x_k198, x_k199, nI_leI, nI_ltI, nI_eq]
  simp (disch := omega) only [if_pos, if_neg, ite_self]
set_option maxHeartbeats 4000000 in
theorem x_f8_3 {n : Nat} (h1 : 19 ≤ n) (h2 : n ≤ 19) (hn : n < 2 ^ 31) (p1 p2 : Int32) : f_X8_isInstruction (nI n) p1 p2 = (0 : Int32) := by
  unfold f_X8_isInstruction f_X8_isOperand f_X0_isOpcode f_X0_isOpcode_10 f_X0_isOpcode_22 f_X0_isOpcode_34 f_X0_isOpcode_47 f_X0_isOfLocal f_X0_isJump
  have hz : ¬ nI n < 0 := nI_pos hn
  simp (disch := omega) only [if_neg hz, x_k15, x_k16, x_k17, x_k18, x_k20, x_k21, x_k25, x_k46, x_k53, x_k54, x_k58, x_k79, x_k131, x_k132, x_k133, x_k152, x_k153, x_k168, x_k169, x_k170, x_k177, x_k178, x_k179, x_k180, x_k181, x_k182, x_k183, x_k184, x_k185, x_k186, x_k187, x_k188, x_k189, x_k190, x_k191, x_k192, x_k193, x_k194, x_k195, x_k197, x_k198, x_k199, nI_leI, nI_ltI, nI_eq]
  simp (disch := omega) only [if_pos, if_neg]
  simp only [ite_self, if_pos]
set_option maxHeartbeats 4000000 in
theorem x_f9_4 {n : Nat} (h1 : 20 ≤ n) (h2 : n ≤ 20) (hn : n < 2 ^ 31) (p1 p2 : Int32) : f_X9_fits (nI n) p1 p2 = (if p2 = (0 : Int32) then (f_X9_isWide p1) else 0) := by
  unfold f_X9_fits f_X9_fits_10 f_X9_fits_22 f_X9_fits_35 f_X9_fits_49 f_X9_fits_63 f_X9_fits_91 f_X9_fits_228 f_X9_fits_240 f_X9_fits_261 f_X9_fits_275 f_X9_fits_317 f_X9_fits_349 f_X9_fits_438
  rw [if_neg (nI_pos hn)]
  simp (disch := omega) only [x_k15, x_k16, x_k17, x_k18, x_k20, x_k21, x_k25, x_k46, x_k53, x_k54, x_k58, x_k79, x_k131, x_k132, x_k133, x_k152, x_k153, x_k168, x_k169, x_k170, x_k177, x_k178, x_k179, x_k180, x_k181, x_k182, x_k183, x_k184, x_k185, x_k186, x_k187, x_k188, x_k189, x_k190, x_k191, x_k192, x_k193, x_k194, x_k195, x_k197, x_k198, x_k199, nI_leI, nI_ltI, nI_eq]
  simp (disch := omega) only [if_pos, if_neg, ite_self]
set_option maxHeartbeats 4000000 in
theorem x_f8_4 {n : Nat} (h1 : 20 ≤ n) (h2 : n ≤ 20) (hn : n < 2 ^ 31) (p1 p2 : Int32) : f_X8_isInstruction (nI n) p1 p2 = (if p2 = (0 : Int32) then (f_X9_isWide p1) else 0) := by
  unfold f_X8_isInstruction f_X8_isOperand f_X0_isOpcode f_X0_isOpcode_10 f_X0_isOpcode_22 f_X0_isOpcode_34 f_X0_isOpcode_47 f_X0_isOfLocal f_X0_isJump
  have hz : ¬ nI n < 0 := nI_pos hn
  simp (disch := omega) only [if_neg hz, x_k15, x_k16, x_k17, x_k18, x_k20, x_k21, x_k25, x_k46, x_k53, x_k54, x_k58, x_k79, x_k131, x_k132, x_k133, x_k152, x_k153, x_k168, x_k169, x_k170, x_k177, x_k178, x_k179, x_k180, x_k181, x_k182, x_k183, x_k184, x_k185, x_k186, x_k187, x_k188, x_k189, x_k190, x_k191, x_k192, x_k193, x_k194, x_k195, x_k197, x_k198, x_k199, nI_leI, nI_ltI, nI_eq]
  simp (disch := omega) only [if_pos, if_neg]
  rw [x_wide2]; by_cases h3 : p2 = 0
  · rw [if_pos h3, if_pos h3]; exact x_bb (b_X9_isWide p1)
  · rw [if_neg h3, if_neg h3]
set_option maxHeartbeats 4000000 in
theorem x_f9_5 {n : Nat} (h1 : 21 ≤ n) (h2 : n ≤ 25) (hn : n < 2 ^ 31) (p1 p2 : Int32) : f_X9_fits (nI n) p1 p2 = (if p2 = (0 : Int32) then (if p1 < (0 : Int32) then (0 : Int32) else 1) else 0) := by
  unfold f_X9_fits f_X9_fits_10 f_X9_fits_22 f_X9_fits_35 f_X9_fits_49 f_X9_fits_63 f_X9_fits_91 f_X9_fits_228 f_X9_fits_240 f_X9_fits_261 f_X9_fits_275 f_X9_fits_317 f_X9_fits_349 f_X9_fits_438
  rw [if_neg (nI_pos hn)]
  simp (disch := omega) only [x_k15, x_k16, x_k17, x_k18, x_k20, x_k21, x_k25, x_k46, x_k53, x_k54, x_k58, x_k79, x_k131, x_k132, x_k133, x_k152, x_k153, x_k168, x_k169, x_k170, x_k177, x_k178, x_k179, x_k180, x_k181, x_k182, x_k183, x_k184, x_k185, x_k186, x_k187, x_k188, x_k189, x_k190, x_k191, x_k192, x_k193, x_k194, x_k195, x_k197, x_k198, x_k199, nI_leI, nI_ltI, nI_eq]
  simp (disch := omega) only [if_pos, if_neg, ite_self]
set_option maxHeartbeats 4000000 in
theorem x_f8_5 {n : Nat} (h1 : 21 ≤ n) (h2 : n ≤ 25) (hn : n < 2 ^ 31) (p1 p2 : Int32) : f_X8_isInstruction (nI n) p1 p2 = (if p2 = (0 : Int32) then (if p1 < (0 : Int32) then (0 : Int32) else 1) else 0) := by
  unfold f_X8_isInstruction f_X8_isOperand f_X0_isOpcode f_X0_isOpcode_10 f_X0_isOpcode_22 f_X0_isOpcode_34 f_X0_isOpcode_47 f_X0_isOfLocal f_X0_isJump
  have hz : ¬ nI n < 0 := nI_pos hn
  simp (disch := omega) only [if_neg hz, x_k15, x_k16, x_k17, x_k18, x_k20, x_k21, x_k25, x_k46, x_k53, x_k54, x_k58, x_k79, x_k131, x_k132, x_k133, x_k152, x_k153, x_k168, x_k169, x_k170, x_k177, x_k178, x_k179, x_k180, x_k181, x_k182, x_k183, x_k184, x_k185, x_k186, x_k187, x_k188, x_k189, x_k190, x_k191, x_k192, x_k193, x_k194, x_k195, x_k197, x_k198, x_k199, nI_leI, nI_ltI, nI_eq]
  simp (disch := omega) only [if_pos, if_neg]
  rw [x_loc]
set_option maxHeartbeats 4000000 in
theorem x_f9_6 {n : Nat} (h1 : 26 ≤ n) (h2 : n ≤ 45) (hn : n < 2 ^ 31) (p1 p2 : Int32) : f_X9_fits (nI n) p1 p2 = (0 : Int32) := by
  unfold f_X9_fits f_X9_fits_10 f_X9_fits_22 f_X9_fits_35 f_X9_fits_49 f_X9_fits_63 f_X9_fits_91 f_X9_fits_228 f_X9_fits_240 f_X9_fits_261 f_X9_fits_275 f_X9_fits_317 f_X9_fits_349 f_X9_fits_438
  rw [if_neg (nI_pos hn)]
  simp (disch := omega) only [x_k15, x_k16, x_k17, x_k18, x_k20, x_k21, x_k25, x_k46, x_k53, x_k54, x_k58, x_k79, x_k131, x_k132, x_k133, x_k152, x_k153, x_k168, x_k169, x_k170, x_k177, x_k178, x_k179, x_k180, x_k181, x_k182, x_k183, x_k184, x_k185, x_k186, x_k187, x_k188, x_k189, x_k190, x_k191, x_k192, x_k193, x_k194, x_k195, x_k197, x_k198, x_k199, nI_leI, nI_ltI, nI_eq]
  simp (disch := omega) only [if_pos, if_neg, ite_self]
set_option maxHeartbeats 4000000 in
theorem x_f8_6 {n : Nat} (h1 : 26 ≤ n) (h2 : n ≤ 45) (hn : n < 2 ^ 31) (p1 p2 : Int32) : f_X8_isInstruction (nI n) p1 p2 = (0 : Int32) := by
  unfold f_X8_isInstruction f_X8_isOperand f_X0_isOpcode f_X0_isOpcode_10 f_X0_isOpcode_22 f_X0_isOpcode_34 f_X0_isOpcode_47 f_X0_isOfLocal f_X0_isJump
  have hz : ¬ nI n < 0 := nI_pos hn
  simp (disch := omega) only [if_neg hz, x_k15, x_k16, x_k17, x_k18, x_k20, x_k21, x_k25, x_k46, x_k53, x_k54, x_k58, x_k79, x_k131, x_k132, x_k133, x_k152, x_k153, x_k168, x_k169, x_k170, x_k177, x_k178, x_k179, x_k180, x_k181, x_k182, x_k183, x_k184, x_k185, x_k186, x_k187, x_k188, x_k189, x_k190, x_k191, x_k192, x_k193, x_k194, x_k195, x_k197, x_k198, x_k199, nI_leI, nI_ltI, nI_eq]
  simp (disch := omega) only [if_pos, if_neg]
  simp only [ite_self, if_pos]
set_option maxHeartbeats 4000000 in
theorem x_f9_7 {n : Nat} (h1 : 46 ≤ n) (h2 : n ≤ 53) (hn : n < 2 ^ 31) (p1 p2 : Int32) : f_X9_fits (nI n) p1 p2 = (if p1 = (0 : Int32) then if p2 = (0 : Int32) then (1 : Int32) else 0 else 0) := by
  unfold f_X9_fits f_X9_fits_10 f_X9_fits_22 f_X9_fits_35 f_X9_fits_49 f_X9_fits_63 f_X9_fits_91 f_X9_fits_228 f_X9_fits_240 f_X9_fits_261 f_X9_fits_275 f_X9_fits_317 f_X9_fits_349 f_X9_fits_438
  rw [if_neg (nI_pos hn)]
  simp (disch := omega) only [x_k15, x_k16, x_k17, x_k18, x_k20, x_k21, x_k25, x_k46, x_k53, x_k54, x_k58, x_k79, x_k131, x_k132, x_k133, x_k152, x_k153, x_k168, x_k169, x_k170, x_k177, x_k178, x_k179, x_k180, x_k181, x_k182, x_k183, x_k184, x_k185, x_k186, x_k187, x_k188, x_k189, x_k190, x_k191, x_k192, x_k193, x_k194, x_k195, x_k197, x_k198, x_k199, nI_leI, nI_ltI, nI_eq]
  simp (disch := omega) only [if_pos, if_neg, ite_self]
set_option maxHeartbeats 4000000 in
theorem x_f8_7 {n : Nat} (h1 : 46 ≤ n) (h2 : n ≤ 53) (hn : n < 2 ^ 31) (p1 p2 : Int32) : f_X8_isInstruction (nI n) p1 p2 = (if p1 = (0 : Int32) then if p2 = (0 : Int32) then (1 : Int32) else 0 else 0) := by
  unfold f_X8_isInstruction f_X8_isOperand f_X0_isOpcode f_X0_isOpcode_10 f_X0_isOpcode_22 f_X0_isOpcode_34 f_X0_isOpcode_47 f_X0_isOfLocal f_X0_isJump
  have hz : ¬ nI n < 0 := nI_pos hn
  simp (disch := omega) only [if_neg hz, x_k15, x_k16, x_k17, x_k18, x_k20, x_k21, x_k25, x_k46, x_k53, x_k54, x_k58, x_k79, x_k131, x_k132, x_k133, x_k152, x_k153, x_k168, x_k169, x_k170, x_k177, x_k178, x_k179, x_k180, x_k181, x_k182, x_k183, x_k184, x_k185, x_k186, x_k187, x_k188, x_k189, x_k190, x_k191, x_k192, x_k193, x_k194, x_k195, x_k197, x_k198, x_k199, nI_leI, nI_ltI, nI_eq]
  simp (disch := omega) only [if_pos, if_neg]
  exact x_pln p1 p2
set_option maxHeartbeats 4000000 in
theorem x_f9_8 {n : Nat} (h1 : 54 ≤ n) (h2 : n ≤ 58) (hn : n < 2 ^ 31) (p1 p2 : Int32) : f_X9_fits (nI n) p1 p2 = (if p2 = (0 : Int32) then (if p1 < (0 : Int32) then (0 : Int32) else 1) else 0) := by
  unfold f_X9_fits f_X9_fits_10 f_X9_fits_22 f_X9_fits_35 f_X9_fits_49 f_X9_fits_63 f_X9_fits_91 f_X9_fits_228 f_X9_fits_240 f_X9_fits_261 f_X9_fits_275 f_X9_fits_317 f_X9_fits_349 f_X9_fits_438
  rw [if_neg (nI_pos hn)]
  simp (disch := omega) only [x_k15, x_k16, x_k17, x_k18, x_k20, x_k21, x_k25, x_k46, x_k53, x_k54, x_k58, x_k79, x_k131, x_k132, x_k133, x_k152, x_k153, x_k168, x_k169, x_k170, x_k177, x_k178, x_k179, x_k180, x_k181, x_k182, x_k183, x_k184, x_k185, x_k186, x_k187, x_k188, x_k189, x_k190, x_k191, x_k192, x_k193, x_k194, x_k195, x_k197, x_k198, x_k199, nI_leI, nI_ltI, nI_eq]
  simp (disch := omega) only [if_pos, if_neg, ite_self]
set_option maxHeartbeats 4000000 in
theorem x_f8_8 {n : Nat} (h1 : 54 ≤ n) (h2 : n ≤ 58) (hn : n < 2 ^ 31) (p1 p2 : Int32) : f_X8_isInstruction (nI n) p1 p2 = (if p2 = (0 : Int32) then (if p1 < (0 : Int32) then (0 : Int32) else 1) else 0) := by
  unfold f_X8_isInstruction f_X8_isOperand f_X0_isOpcode f_X0_isOpcode_10 f_X0_isOpcode_22 f_X0_isOpcode_34 f_X0_isOpcode_47 f_X0_isOfLocal f_X0_isJump
  have hz : ¬ nI n < 0 := nI_pos hn
  simp (disch := omega) only [if_neg hz, x_k15, x_k16, x_k17, x_k18, x_k20, x_k21, x_k25, x_k46, x_k53, x_k54, x_k58, x_k79, x_k131, x_k132, x_k133, x_k152, x_k153, x_k168, x_k169, x_k170, x_k177, x_k178, x_k179, x_k180, x_k181, x_k182, x_k183, x_k184, x_k185, x_k186, x_k187, x_k188, x_k189, x_k190, x_k191, x_k192, x_k193, x_k194, x_k195, x_k197, x_k198, x_k199, nI_leI, nI_ltI, nI_eq]
  simp (disch := omega) only [if_pos, if_neg]
  rw [x_loc]
set_option maxHeartbeats 4000000 in
theorem x_f9_9 {n : Nat} (h1 : 59 ≤ n) (h2 : n ≤ 78) (hn : n < 2 ^ 31) (p1 p2 : Int32) : f_X9_fits (nI n) p1 p2 = (0 : Int32) := by
  unfold f_X9_fits f_X9_fits_10 f_X9_fits_22 f_X9_fits_35 f_X9_fits_49 f_X9_fits_63 f_X9_fits_91 f_X9_fits_228 f_X9_fits_240 f_X9_fits_261 f_X9_fits_275 f_X9_fits_317 f_X9_fits_349 f_X9_fits_438
  rw [if_neg (nI_pos hn)]
  simp (disch := omega) only [x_k15, x_k16, x_k17, x_k18, x_k20, x_k21, x_k25, x_k46, x_k53, x_k54, x_k58, x_k79, x_k131, x_k132, x_k133, x_k152, x_k153, x_k168, x_k169, x_k170, x_k177, x_k178, x_k179, x_k180, x_k181, x_k182, x_k183, x_k184, x_k185, x_k186, x_k187, x_k188, x_k189, x_k190, x_k191, x_k192, x_k193, x_k194, x_k195, x_k197, x_k198, x_k199, nI_leI, nI_ltI, nI_eq]
  simp (disch := omega) only [if_pos, if_neg, ite_self]
set_option maxHeartbeats 4000000 in
theorem x_f8_9 {n : Nat} (h1 : 59 ≤ n) (h2 : n ≤ 78) (hn : n < 2 ^ 31) (p1 p2 : Int32) : f_X8_isInstruction (nI n) p1 p2 = (0 : Int32) := by
  unfold f_X8_isInstruction f_X8_isOperand f_X0_isOpcode f_X0_isOpcode_10 f_X0_isOpcode_22 f_X0_isOpcode_34 f_X0_isOpcode_47 f_X0_isOfLocal f_X0_isJump
  have hz : ¬ nI n < 0 := nI_pos hn
  simp (disch := omega) only [if_neg hz, x_k15, x_k16, x_k17, x_k18, x_k20, x_k21, x_k25, x_k46, x_k53, x_k54, x_k58, x_k79, x_k131, x_k132, x_k133, x_k152, x_k153, x_k168, x_k169, x_k170, x_k177, x_k178, x_k179, x_k180, x_k181, x_k182, x_k183, x_k184, x_k185, x_k186, x_k187, x_k188, x_k189, x_k190, x_k191, x_k192, x_k193, x_k194, x_k195, x_k197, x_k198, x_k199, nI_leI, nI_ltI, nI_eq]
  simp (disch := omega) only [if_pos, if_neg]
  simp only [ite_self, if_pos]
set_option maxHeartbeats 4000000 in
theorem x_f9_10 {n : Nat} (h1 : 79 ≤ n) (h2 : n ≤ 131) (hn : n < 2 ^ 31) (p1 p2 : Int32) : f_X9_fits (nI n) p1 p2 = (if p1 = (0 : Int32) then if p2 = (0 : Int32) then (1 : Int32) else 0 else 0) := by
  unfold f_X9_fits f_X9_fits_10 f_X9_fits_22 f_X9_fits_35 f_X9_fits_49 f_X9_fits_63 f_X9_fits_91 f_X9_fits_228 f_X9_fits_240 f_X9_fits_261 f_X9_fits_275 f_X9_fits_317 f_X9_fits_349 f_X9_fits_438
  rw [if_neg (nI_pos hn)]
  simp (disch := omega) only [x_k15, x_k16, x_k17, x_k18, x_k20, x_k21, x_k25, x_k46, x_k53, x_k54, x_k58, x_k79, x_k131, x_k132, x_k133, x_k152, x_k153, x_k168, x_k169, x_k170, x_k177, x_k178, x_k179, x_k180, x_k181, x_k182, x_k183, x_k184, x_k185, x_k186, x_k187, x_k188, x_k189, x_k190, x_k191, x_k192, x_k193, x_k194, x_k195, x_k197, x_k198, x_k199, nI_leI, nI_ltI, nI_eq]
  simp (disch := omega) only [if_pos, if_neg, ite_self]
set_option maxHeartbeats 4000000 in
theorem x_f8_10 {n : Nat} (h1 : 79 ≤ n) (h2 : n ≤ 131) (hn : n < 2 ^ 31) (p1 p2 : Int32) : f_X8_isInstruction (nI n) p1 p2 = (if p1 = (0 : Int32) then if p2 = (0 : Int32) then (1 : Int32) else 0 else 0) := by
  unfold f_X8_isInstruction f_X8_isOperand f_X0_isOpcode f_X0_isOpcode_10 f_X0_isOpcode_22 f_X0_isOpcode_34 f_X0_isOpcode_47 f_X0_isOfLocal f_X0_isJump
  have hz : ¬ nI n < 0 := nI_pos hn
  simp (disch := omega) only [if_neg hz, x_k15, x_k16, x_k17, x_k18, x_k20, x_k21, x_k25, x_k46, x_k53, x_k54, x_k58, x_k79, x_k131, x_k132, x_k133, x_k152, x_k153, x_k168, x_k169, x_k170, x_k177, x_k178, x_k179, x_k180, x_k181, x_k182, x_k183, x_k184, x_k185, x_k186, x_k187, x_k188, x_k189, x_k190, x_k191, x_k192, x_k193, x_k194, x_k195, x_k197, x_k198, x_k199, nI_leI, nI_ltI, nI_eq]
  simp (disch := omega) only [if_pos, if_neg]
  exact x_pln p1 p2
set_option maxHeartbeats 4000000 in
theorem x_f9_11 {n : Nat} (h1 : 132 ≤ n) (h2 : n ≤ 132) (hn : n < 2 ^ 31) (p1 p2 : Int32) : f_X9_fits (nI n) p1 p2 = (if p1 < (0 : Int32) then (0 : Int32) else 1) := by
  unfold f_X9_fits f_X9_fits_10 f_X9_fits_22 f_X9_fits_35 f_X9_fits_49 f_X9_fits_63 f_X9_fits_91 f_X9_fits_228 f_X9_fits_240 f_X9_fits_261 f_X9_fits_275 f_X9_fits_317 f_X9_fits_349 f_X9_fits_438
  rw [if_neg (nI_pos hn)]
  simp (disch := omega) only [x_k15, x_k16, x_k17, x_k18, x_k20, x_k21, x_k25, x_k46, x_k53, x_k54, x_k58, x_k79, x_k131, x_k132, x_k133, x_k152, x_k153, x_k168, x_k169, x_k170, x_k177, x_k178, x_k179, x_k180, x_k181, x_k182, x_k183, x_k184, x_k185, x_k186, x_k187, x_k188, x_k189, x_k190, x_k191, x_k192, x_k193, x_k194, x_k195, x_k197, x_k198, x_k199, nI_leI, nI_ltI, nI_eq]
  simp (disch := omega) only [if_pos, if_neg, ite_self]
set_option maxHeartbeats 4000000 in
theorem x_f8_11 {n : Nat} (h1 : 132 ≤ n) (h2 : n ≤ 132) (hn : n < 2 ^ 31) (p1 p2 : Int32) : f_X8_isInstruction (nI n) p1 p2 = (if p1 < (0 : Int32) then (0 : Int32) else 1) := by
  unfold f_X8_isInstruction f_X8_isOperand f_X0_isOpcode f_X0_isOpcode_10 f_X0_isOpcode_22 f_X0_isOpcode_34 f_X0_isOpcode_47 f_X0_isOfLocal f_X0_isJump
  have hz : ¬ nI n < 0 := nI_pos hn
  simp (disch := omega) only [if_neg hz, x_k15, x_k16, x_k17, x_k18, x_k20, x_k21, x_k25, x_k46, x_k53, x_k54, x_k58, x_k79, x_k131, x_k132, x_k133, x_k152, x_k153, x_k168, x_k169, x_k170, x_k177, x_k178, x_k179, x_k180, x_k181, x_k182, x_k183, x_k184, x_k185, x_k186, x_k187, x_k188, x_k189, x_k190, x_k191, x_k192, x_k193, x_k194, x_k195, x_k197, x_k198, x_k199, nI_leI, nI_ltI, nI_eq]
  simp (disch := omega) only [if_pos, if_neg]
  rfl
set_option maxHeartbeats 4000000 in
theorem x_f9_12 {n : Nat} (h1 : 133 ≤ n) (h2 : n ≤ 152) (hn : n < 2 ^ 31) (p1 p2 : Int32) : f_X9_fits (nI n) p1 p2 = (if p1 = (0 : Int32) then if p2 = (0 : Int32) then (1 : Int32) else 0 else 0) := by
  unfold f_X9_fits f_X9_fits_10 f_X9_fits_22 f_X9_fits_35 f_X9_fits_49 f_X9_fits_63 f_X9_fits_91 f_X9_fits_228 f_X9_fits_240 f_X9_fits_261 f_X9_fits_275 f_X9_fits_317 f_X9_fits_349 f_X9_fits_438
  rw [if_neg (nI_pos hn)]
  simp (disch := omega) only [x_k15, x_k16, x_k17, x_k18, x_k20, x_k21, x_k25, x_k46, x_k53, x_k54, x_k58, x_k79, x_k131, x_k132, x_k133, x_k152, x_k153, x_k168, x_k169, x_k170, x_k177, x_k178, x_k179, x_k180, x_k181, x_k182, x_k183, x_k184, x_k185, x_k186, x_k187, x_k188, x_k189, x_k190, x_k191, x_k192, x_k193, x_k194, x_k195, x_k197, x_k198, x_k199, nI_leI, nI_ltI, nI_eq]
  simp (disch := omega) only [if_pos, if_neg, ite_self]
set_option maxHeartbeats 4000000 in
theorem x_f8_12 {n : Nat} (h1 : 133 ≤ n) (h2 : n ≤ 152) (hn : n < 2 ^ 31) (p1 p2 : Int32) : f_X8_isInstruction (nI n) p1 p2 = (if p1 = (0 : Int32) then if p2 = (0 : Int32) then (1 : Int32) else 0 else 0) := by
  unfold f_X8_isInstruction f_X8_isOperand f_X0_isOpcode f_X0_isOpcode_10 f_X0_isOpcode_22 f_X0_isOpcode_34 f_X0_isOpcode_47 f_X0_isOfLocal f_X0_isJump
  have hz : ¬ nI n < 0 := nI_pos hn
  simp (disch := omega) only [if_neg hz, x_k15, x_k16, x_k17, x_k18, x_k20, x_k21, x_k25, x_k46, x_k53, x_k54, x_k58, x_k79, x_k131, x_k132, x_k133, x_k152, x_k153, x_k168, x_k169, x_k170, x_k177, x_k178, x_k179, x_k180, x_k181, x_k182, x_k183, x_k184, x_k185, x_k186, x_k187, x_k188, x_k189, x_k190, x_k191, x_k192, x_k193, x_k194, x_k195, x_k197, x_k198, x_k199, nI_leI, nI_ltI, nI_eq]
  simp (disch := omega) only [if_pos, if_neg]
  exact x_pln p1 p2
set_option maxHeartbeats 4000000 in
theorem x_f9_13 {n : Nat} (h1 : 153 ≤ n) (h2 : n ≤ 168) (hn : n < 2 ^ 31) (p1 p2 : Int32) : f_X9_fits (nI n) p1 p2 = (if p2 = (0 : Int32) then (if p1 < (0 : Int32) then (0 : Int32) else 1) else 0) := by
  unfold f_X9_fits f_X9_fits_10 f_X9_fits_22 f_X9_fits_35 f_X9_fits_49 f_X9_fits_63 f_X9_fits_91 f_X9_fits_228 f_X9_fits_240 f_X9_fits_261 f_X9_fits_275 f_X9_fits_317 f_X9_fits_349 f_X9_fits_438
  rw [if_neg (nI_pos hn)]
  simp (disch := omega) only [x_k15, x_k16, x_k17, x_k18, x_k20, x_k21, x_k25, x_k46, x_k53, x_k54, x_k58, x_k79, x_k131, x_k132, x_k133, x_k152, x_k153, x_k168, x_k169, x_k170, x_k177, x_k178, x_k179, x_k180, x_k181, x_k182, x_k183, x_k184, x_k185, x_k186, x_k187, x_k188, x_k189, x_k190, x_k191, x_k192, x_k193, x_k194, x_k195, x_k197, x_k198, x_k199, nI_leI, nI_ltI, nI_eq]
  simp (disch := omega) only [if_pos, if_neg, ite_self]
set_option maxHeartbeats 4000000 in
theorem x_f8_13 {n : Nat} (h1 : 153 ≤ n) (h2 : n ≤ 168) (hn : n < 2 ^ 31) (p1 p2 : Int32) : f_X8_isInstruction (nI n) p1 p2 = (if p2 = (0 : Int32) then (if p1 < (0 : Int32) then (0 : Int32) else 1) else 0) := by
  unfold f_X8_isInstruction f_X8_isOperand f_X0_isOpcode f_X0_isOpcode_10 f_X0_isOpcode_22 f_X0_isOpcode_34 f_X0_isOpcode_47 f_X0_isOfLocal f_X0_isJump
  have hz : ¬ nI n < 0 := nI_pos hn
  simp (disch := omega) only [if_neg hz, x_k15, x_k16, x_k17, x_k18, x_k20, x_k21, x_k25, x_k46, x_k53, x_k54, x_k58, x_k79, x_k131, x_k132, x_k133, x_k152, x_k153, x_k168, x_k169, x_k170, x_k177, x_k178, x_k179, x_k180, x_k181, x_k182, x_k183, x_k184, x_k185, x_k186, x_k187, x_k188, x_k189, x_k190, x_k191, x_k192, x_k193, x_k194, x_k195, x_k197, x_k198, x_k199, nI_leI, nI_ltI, nI_eq]
  simp (disch := omega) only [if_pos, if_neg]
  rw [x_loc]
set_option maxHeartbeats 4000000 in
theorem x_f9_14 {n : Nat} (h1 : 169 ≤ n) (h2 : n ≤ 169) (hn : n < 2 ^ 31) (p1 p2 : Int32) : f_X9_fits (nI n) p1 p2 = (if p2 = (0 : Int32) then (if p1 < (0 : Int32) then (0 : Int32) else 1) else 0) := by
  unfold f_X9_fits f_X9_fits_10 f_X9_fits_22 f_X9_fits_35 f_X9_fits_49 f_X9_fits_63 f_X9_fits_91 f_X9_fits_228 f_X9_fits_240 f_X9_fits_261 f_X9_fits_275 f_X9_fits_317 f_X9_fits_349 f_X9_fits_438
  rw [if_neg (nI_pos hn)]
  simp (disch := omega) only [x_k15, x_k16, x_k17, x_k18, x_k20, x_k21, x_k25, x_k46, x_k53, x_k54, x_k58, x_k79, x_k131, x_k132, x_k133, x_k152, x_k153, x_k168, x_k169, x_k170, x_k177, x_k178, x_k179, x_k180, x_k181, x_k182, x_k183, x_k184, x_k185, x_k186, x_k187, x_k188, x_k189, x_k190, x_k191, x_k192, x_k193, x_k194, x_k195, x_k197, x_k198, x_k199, nI_leI, nI_ltI, nI_eq]
  simp (disch := omega) only [if_pos, if_neg, ite_self]
set_option maxHeartbeats 4000000 in
theorem x_f8_14 {n : Nat} (h1 : 169 ≤ n) (h2 : n ≤ 169) (hn : n < 2 ^ 31) (p1 p2 : Int32) : f_X8_isInstruction (nI n) p1 p2 = (if p2 = (0 : Int32) then (if p1 < (0 : Int32) then (0 : Int32) else 1) else 0) := by
  unfold f_X8_isInstruction f_X8_isOperand f_X0_isOpcode f_X0_isOpcode_10 f_X0_isOpcode_22 f_X0_isOpcode_34 f_X0_isOpcode_47 f_X0_isOfLocal f_X0_isJump
  have hz : ¬ nI n < 0 := nI_pos hn
  simp (disch := omega) only [if_neg hz, x_k15, x_k16, x_k17, x_k18, x_k20, x_k21, x_k25, x_k46, x_k53, x_k54, x_k58, x_k79, x_k131, x_k132, x_k133, x_k152, x_k153, x_k168, x_k169, x_k170, x_k177, x_k178, x_k179, x_k180, x_k181, x_k182, x_k183, x_k184, x_k185, x_k186, x_k187, x_k188, x_k189, x_k190, x_k191, x_k192, x_k193, x_k194, x_k195, x_k197, x_k198, x_k199, nI_leI, nI_ltI, nI_eq]
  simp (disch := omega) only [if_pos, if_neg]
  rw [x_loc]
set_option maxHeartbeats 4000000 in
theorem x_f9_15 {n : Nat} (h1 : 170 ≤ n) (h2 : n ≤ 177) (hn : n < 2 ^ 31) (p1 p2 : Int32) : f_X9_fits (nI n) p1 p2 = (if p1 = (0 : Int32) then if p2 = (0 : Int32) then (1 : Int32) else 0 else 0) := by
  unfold f_X9_fits f_X9_fits_10 f_X9_fits_22 f_X9_fits_35 f_X9_fits_49 f_X9_fits_63 f_X9_fits_91 f_X9_fits_228 f_X9_fits_240 f_X9_fits_261 f_X9_fits_275 f_X9_fits_317 f_X9_fits_349 f_X9_fits_438
  rw [if_neg (nI_pos hn)]
  simp (disch := omega) only [x_k15, x_k16, x_k17, x_k18, x_k20, x_k21, x_k25, x_k46, x_k53, x_k54, x_k58, x_k79, x_k131, x_k132, x_k133, x_k152, x_k153, x_k168, x_k169, x_k170, x_k177, x_k178, x_k179, x_k180, x_k181, x_k182, x_k183, x_k184, x_k185, x_k186, x_k187, x_k188, x_k189, x_k190, x_k191, x_k192, x_k193, x_k194, x_k195, x_k197, x_k198, x_k199, nI_leI, nI_ltI, nI_eq]
  simp (disch := omega) only [if_pos, if_neg, ite_self]
set_option maxHeartbeats 4000000 in
theorem x_f8_15 {n : Nat} (h1 : 170 ≤ n) (h2 : n ≤ 177) (hn : n < 2 ^ 31) (p1 p2 : Int32) : f_X8_isInstruction (nI n) p1 p2 = (if p1 = (0 : Int32) then if p2 = (0 : Int32) then (1 : Int32) else 0 else 0) := by
  unfold f_X8_isInstruction f_X8_isOperand f_X0_isOpcode f_X0_isOpcode_10 f_X0_isOpcode_22 f_X0_isOpcode_34 f_X0_isOpcode_47 f_X0_isOfLocal f_X0_isJump
  have hz : ¬ nI n < 0 := nI_pos hn
  simp (disch := omega) only [if_neg hz, x_k15, x_k16, x_k17, x_k18, x_k20, x_k21, x_k25, x_k46, x_k53, x_k54, x_k58, x_k79, x_k131, x_k132, x_k133, x_k152, x_k153, x_k168, x_k169, x_k170, x_k177, x_k178, x_k179, x_k180, x_k181, x_k182, x_k183, x_k184, x_k185, x_k186, x_k187, x_k188, x_k189, x_k190, x_k191, x_k192, x_k193, x_k194, x_k195, x_k197, x_k198, x_k199, nI_leI, nI_ltI, nI_eq]
  simp (disch := omega) only [if_pos, if_neg]
  exact x_pln p1 p2
set_option maxHeartbeats 4000000 in
theorem x_f9_16 {n : Nat} (h1 : 178 ≤ n) (h2 : n ≤ 181) (hn : n < 2 ^ 31) (p1 p2 : Int32) : f_X9_fits (nI n) p1 p2 = (if p2 = (0 : Int32) then (if p1 < (0 : Int32) then (0 : Int32) else if (0 : Int32) ≤ p1 then 0 else 1) else 0) := by
  unfold f_X9_fits f_X9_fits_10 f_X9_fits_22 f_X9_fits_35 f_X9_fits_49 f_X9_fits_63 f_X9_fits_91 f_X9_fits_228 f_X9_fits_240 f_X9_fits_261 f_X9_fits_275 f_X9_fits_317 f_X9_fits_349 f_X9_fits_438
  rw [if_neg (nI_pos hn)]
  simp (disch := omega) only [x_k15, x_k16, x_k17, x_k18, x_k20, x_k21, x_k25, x_k46, x_k53, x_k54, x_k58, x_k79, x_k131, x_k132, x_k133, x_k152, x_k153, x_k168, x_k169, x_k170, x_k177, x_k178, x_k179, x_k180, x_k181, x_k182, x_k183, x_k184, x_k185, x_k186, x_k187, x_k188, x_k189, x_k190, x_k191, x_k192, x_k193, x_k194, x_k195, x_k197, x_k198, x_k199, nI_leI, nI_ltI, nI_eq]
  simp (disch := omega) only [if_pos, if_neg, ite_self]
set_option maxHeartbeats 4000000 in
theorem x_f8_16 {n : Nat} (h1 : 178 ≤ n) (h2 : n ≤ 181) (hn : n < 2 ^ 31) (p1 p2 : Int32) : f_X8_isInstruction (nI n) p1 p2 = (if p2 = (0 : Int32) then (if p1 < (0 : Int32) then (0 : Int32) else if (0 : Int32) ≤ p1 then 0 else 1) else 0) := by
  unfold f_X8_isInstruction f_X8_isOperand f_X0_isOpcode f_X0_isOpcode_10 f_X0_isOpcode_22 f_X0_isOpcode_34 f_X0_isOpcode_47 f_X0_isOfLocal f_X0_isJump
  have hz : ¬ nI n < 0 := nI_pos hn
  simp (disch := omega) only [if_neg hz, x_k15, x_k16, x_k17, x_k18, x_k20, x_k21, x_k25, x_k46, x_k53, x_k54, x_k58, x_k79, x_k131, x_k132, x_k133, x_k152, x_k153, x_k168, x_k169, x_k170, x_k177, x_k178, x_k179, x_k180, x_k181, x_k182, x_k183, x_k184, x_k185, x_k186, x_k187, x_k188, x_k189, x_k190, x_k191, x_k192, x_k193, x_k194, x_k195, x_k197, x_k198, x_k199, nI_leI, nI_ltI, nI_eq]
  simp (disch := omega) only [if_pos, if_neg]
  by_cases h3 : p2 = 0
  · rw [if_pos h3, if_pos h3]; exact x_bb (x_ite rfl (x_ite rfl rfl))
  · rw [if_neg h3, if_neg h3]
set_option maxHeartbeats 4000000 in
theorem x_f9_17 {n : Nat} (h1 : 182 ≤ n) (h2 : n ≤ 186) (hn : n < 2 ^ 31) (p1 p2 : Int32) : f_X9_fits (nI n) p1 p2 = (if p2 = (0 : Int32) then (if p1 < (0 : Int32) then (0 : Int32) else if (0 : Int32) ≤ p1 then 0 else 1) else 0) := by
  unfold f_X9_fits f_X9_fits_10 f_X9_fits_22 f_X9_fits_35 f_X9_fits_49 f_X9_fits_63 f_X9_fits_91 f_X9_fits_228 f_X9_fits_240 f_X9_fits_261 f_X9_fits_275 f_X9_fits_317 f_X9_fits_349 f_X9_fits_438
  rw [if_neg (nI_pos hn)]
  simp (disch := omega) only [x_k15, x_k16, x_k17, x_k18, x_k20, x_k21, x_k25, x_k46, x_k53, x_k54, x_k58, x_k79, x_k131, x_k132, x_k133, x_k152, x_k153, x_k168, x_k169, x_k170, x_k177, x_k178, x_k179, x_k180, x_k181, x_k182, x_k183, x_k184, x_k185, x_k186, x_k187, x_k188, x_k189, x_k190, x_k191, x_k192, x_k193, x_k194, x_k195, x_k197, x_k198, x_k199, nI_leI, nI_ltI, nI_eq]
  simp (disch := omega) only [if_pos, if_neg, ite_self]
set_option maxHeartbeats 4000000 in
theorem x_f8_17 {n : Nat} (h1 : 182 ≤ n) (h2 : n ≤ 186) (hn : n < 2 ^ 31) (p1 p2 : Int32) : f_X8_isInstruction (nI n) p1 p2 = (if p2 = (0 : Int32) then (if p1 < (0 : Int32) then (0 : Int32) else if (0 : Int32) ≤ p1 then 0 else 1) else 0) := by
  unfold f_X8_isInstruction f_X8_isOperand f_X0_isOpcode f_X0_isOpcode_10 f_X0_isOpcode_22 f_X0_isOpcode_34 f_X0_isOpcode_47 f_X0_isOfLocal f_X0_isJump
  have hz : ¬ nI n < 0 := nI_pos hn
  simp (disch := omega) only [if_neg hz, x_k15, x_k16, x_k17, x_k18, x_k20, x_k21, x_k25, x_k46, x_k53, x_k54, x_k58, x_k79, x_k131, x_k132, x_k133, x_k152, x_k153, x_k168, x_k169, x_k170, x_k177, x_k178, x_k179, x_k180, x_k181, x_k182, x_k183, x_k184, x_k185, x_k186, x_k187, x_k188, x_k189, x_k190, x_k191, x_k192, x_k193, x_k194, x_k195, x_k197, x_k198, x_k199, nI_leI, nI_ltI, nI_eq]
  simp (disch := omega) only [if_pos, if_neg]
  by_cases h3 : p2 = 0
  · rw [if_pos h3, if_pos h3]; exact x_bb (x_ite rfl (x_ite rfl rfl))
  · rw [if_neg h3, if_neg h3]
set_option maxHeartbeats 4000000 in
theorem x_f9_18 {n : Nat} (h1 : 187 ≤ n) (h2 : n ≤ 187) (hn : n < 2 ^ 31) (p1 p2 : Int32) : f_X9_fits (nI n) p1 p2 = (if p2 = (0 : Int32) then (f_X9_isClass p1) else 0) := by
  unfold f_X9_fits f_X9_fits_10 f_X9_fits_22 f_X9_fits_35 f_X9_fits_49 f_X9_fits_63 f_X9_fits_91 f_X9_fits_228 f_X9_fits_240 f_X9_fits_261 f_X9_fits_275 f_X9_fits_317 f_X9_fits_349 f_X9_fits_438
  rw [if_neg (nI_pos hn)]
  simp (disch := omega) only [x_k15, x_k16, x_k17, x_k18, x_k20, x_k21, x_k25, x_k46, x_k53, x_k54, x_k58, x_k79, x_k131, x_k132, x_k133, x_k152, x_k153, x_k168, x_k169, x_k170, x_k177, x_k178, x_k179, x_k180, x_k181, x_k182, x_k183, x_k184, x_k185, x_k186, x_k187, x_k188, x_k189, x_k190, x_k191, x_k192, x_k193, x_k194, x_k195, x_k197, x_k198, x_k199, nI_leI, nI_ltI, nI_eq]
  simp (disch := omega) only [if_pos, if_neg, ite_self]
set_option maxHeartbeats 4000000 in
theorem x_f8_18 {n : Nat} (h1 : 187 ≤ n) (h2 : n ≤ 187) (hn : n < 2 ^ 31) (p1 p2 : Int32) : f_X8_isInstruction (nI n) p1 p2 = (if p2 = (0 : Int32) then (f_X9_isClass p1) else 0) := by
  unfold f_X8_isInstruction f_X8_isOperand f_X0_isOpcode f_X0_isOpcode_10 f_X0_isOpcode_22 f_X0_isOpcode_34 f_X0_isOpcode_47 f_X0_isOfLocal f_X0_isJump
  have hz : ¬ nI n < 0 := nI_pos hn
  simp (disch := omega) only [if_neg hz, x_k15, x_k16, x_k17, x_k18, x_k20, x_k21, x_k25, x_k46, x_k53, x_k54, x_k58, x_k79, x_k131, x_k132, x_k133, x_k152, x_k153, x_k168, x_k169, x_k170, x_k177, x_k178, x_k179, x_k180, x_k181, x_k182, x_k183, x_k184, x_k185, x_k186, x_k187, x_k188, x_k189, x_k190, x_k191, x_k192, x_k193, x_k194, x_k195, x_k197, x_k198, x_k199, nI_leI, nI_ltI, nI_eq]
  simp (disch := omega) only [if_pos, if_neg]
  by_cases h3 : p2 = 0
  · rw [if_pos h3, if_pos h3]; exact x_bb (b_X9_isClass p1)
  · rw [if_neg h3, if_neg h3]
set_option maxHeartbeats 4000000 in
theorem x_f9_19 {n : Nat} (h1 : 188 ≤ n) (h2 : n ≤ 188) (hn : n < 2 ^ 31) (p1 p2 : Int32) : f_X9_fits (nI n) p1 p2 = (if p2 = (0 : Int32) then (if p1 < (0 : Int32) then (0 : Int32) else if (7 : Int32) < p1 then 0 else 1) else 0) := by
  unfold f_X9_fits f_X9_fits_10 f_X9_fits_22 f_X9_fits_35 f_X9_fits_49 f_X9_fits_63 f_X9_fits_91 f_X9_fits_228 f_X9_fits_240 f_X9_fits_261 f_X9_fits_275 f_X9_fits_317 f_X9_fits_349 f_X9_fits_438
  rw [if_neg (nI_pos hn)]
  simp (disch := omega) only [x_k15, x_k16, x_k17, x_k18, x_k20, x_k21, x_k25, x_k46, x_k53, x_k54, x_k58, x_k79, x_k131, x_k132, x_k133, x_k152, x_k153, x_k168, x_k169, x_k170, x_k177, x_k178, x_k179, x_k180, x_k181, x_k182, x_k183, x_k184, x_k185, x_k186, x_k187, x_k188, x_k189, x_k190, x_k191, x_k192, x_k193, x_k194, x_k195, x_k197, x_k198, x_k199, nI_leI, nI_ltI, nI_eq]
  simp (disch := omega) only [if_pos, if_neg, ite_self]
set_option maxHeartbeats 4000000 in
theorem x_f8_19 {n : Nat} (h1 : 188 ≤ n) (h2 : n ≤ 188) (hn : n < 2 ^ 31) (p1 p2 : Int32) : f_X8_isInstruction (nI n) p1 p2 = (if p2 = (0 : Int32) then (if p1 < (0 : Int32) then (0 : Int32) else if (7 : Int32) < p1 then 0 else 1) else 0) := by
  unfold f_X8_isInstruction f_X8_isOperand f_X0_isOpcode f_X0_isOpcode_10 f_X0_isOpcode_22 f_X0_isOpcode_34 f_X0_isOpcode_47 f_X0_isOfLocal f_X0_isJump
  have hz : ¬ nI n < 0 := nI_pos hn
  simp (disch := omega) only [if_neg hz, x_k15, x_k16, x_k17, x_k18, x_k20, x_k21, x_k25, x_k46, x_k53, x_k54, x_k58, x_k79, x_k131, x_k132, x_k133, x_k152, x_k153, x_k168, x_k169, x_k170, x_k177, x_k178, x_k179, x_k180, x_k181, x_k182, x_k183, x_k184, x_k185, x_k186, x_k187, x_k188, x_k189, x_k190, x_k191, x_k192, x_k193, x_k194, x_k195, x_k197, x_k198, x_k199, nI_leI, nI_ltI, nI_eq]
  simp (disch := omega) only [if_pos, if_neg]
  by_cases h3 : p2 = 0
  · rw [if_pos h3, if_pos h3]; exact x_bb (x_ite rfl (x_ite rfl rfl))
  · rw [if_neg h3, if_neg h3]
set_option maxHeartbeats 4000000 in
theorem x_f9_20 {n : Nat} (h1 : 189 ≤ n) (h2 : n ≤ 189) (hn : n < 2 ^ 31) (p1 p2 : Int32) : f_X9_fits (nI n) p1 p2 = (if p2 = (0 : Int32) then (if (f_X9_isType p1) = (0 : Int32) then (0 : Int32) else if (f_X9_isPrimitive p1) = (0 : Int32) then if (255 : Int32) ≤ (p1 >>> (16 &&& 31)) then 0 else 1 else 0) else 0) := by
  unfold f_X9_fits f_X9_fits_10 f_X9_fits_22 f_X9_fits_35 f_X9_fits_49 f_X9_fits_63 f_X9_fits_91 f_X9_fits_228 f_X9_fits_240 f_X9_fits_261 f_X9_fits_275 f_X9_fits_317 f_X9_fits_349 f_X9_fits_438
  rw [if_neg (nI_pos hn)]
  simp (disch := omega) only [x_k15, x_k16, x_k17, x_k18, x_k20, x_k21, x_k25, x_k46, x_k53, x_k54, x_k58, x_k79, x_k131, x_k132, x_k133, x_k152, x_k153, x_k168, x_k169, x_k170, x_k177, x_k178, x_k179, x_k180, x_k181, x_k182, x_k183, x_k184, x_k185, x_k186, x_k187, x_k188, x_k189, x_k190, x_k191, x_k192, x_k193, x_k194, x_k195, x_k197, x_k198, x_k199, nI_leI, nI_ltI, nI_eq]
  simp (disch := omega) only [if_pos, if_neg, ite_self]
set_option maxHeartbeats 4000000 in
theorem x_f8_20 {n : Nat} (h1 : 189 ≤ n) (h2 : n ≤ 189) (hn : n < 2 ^ 31) (p1 p2 : Int32) : f_X8_isInstruction (nI n) p1 p2 = (if p2 = (0 : Int32) then (if (f_X9_isType p1) = (0 : Int32) then (0 : Int32) else if (f_X9_isPrimitive p1) = (0 : Int32) then if (255 : Int32) ≤ (p1 >>> (16 &&& 31)) then 0 else 1 else 0) else 0) := by
  unfold f_X8_isInstruction f_X8_isOperand f_X0_isOpcode f_X0_isOpcode_10 f_X0_isOpcode_22 f_X0_isOpcode_34 f_X0_isOpcode_47 f_X0_isOfLocal f_X0_isJump
  have hz : ¬ nI n < 0 := nI_pos hn
  simp (disch := omega) only [if_neg hz, x_k15, x_k16, x_k17, x_k18, x_k20, x_k21, x_k25, x_k46, x_k53, x_k54, x_k58, x_k79, x_k131, x_k132, x_k133, x_k152, x_k153, x_k168, x_k169, x_k170, x_k177, x_k178, x_k179, x_k180, x_k181, x_k182, x_k183, x_k184, x_k185, x_k186, x_k187, x_k188, x_k189, x_k190, x_k191, x_k192, x_k193, x_k194, x_k195, x_k197, x_k198, x_k199, nI_leI, nI_ltI, nI_eq]
  simp (disch := omega) only [if_pos, if_neg]
  rw [x_r189]
set_option maxHeartbeats 4000000 in
theorem x_f9_21 {n : Nat} (h1 : 190 ≤ n) (h2 : n ≤ 191) (hn : n < 2 ^ 31) (p1 p2 : Int32) : f_X9_fits (nI n) p1 p2 = (if p1 = (0 : Int32) then if p2 = (0 : Int32) then (1 : Int32) else 0 else 0) := by
  unfold f_X9_fits f_X9_fits_10 f_X9_fits_22 f_X9_fits_35 f_X9_fits_49 f_X9_fits_63 f_X9_fits_91 f_X9_fits_228 f_X9_fits_240 f_X9_fits_261 f_X9_fits_275 f_X9_fits_317 f_X9_fits_349 f_X9_fits_438
  rw [if_neg (nI_pos hn)]
  simp (disch := omega) only [x_k15, x_k16, x_k17, x_k18, x_k20, x_k21, x_k25, x_k46, x_k53, x_k54, x_k58, x_k79, x_k131, x_k132, x_k133, x_k152, x_k153, x_k168, x_k169, x_k170, x_k177, x_k178, x_k179, x_k180, x_k181, x_k182, x_k183, x_k184, x_k185, x_k186, x_k187, x_k188, x_k189, x_k190, x_k191, x_k192, x_k193, x_k194, x_k195, x_k197, x_k198, x_k199, nI_leI, nI_ltI, nI_eq]
  simp (disch := omega) only [if_pos, if_neg, ite_self]
set_option maxHeartbeats 4000000 in
theorem x_f8_21 {n : Nat} (h1 : 190 ≤ n) (h2 : n ≤ 191) (hn : n < 2 ^ 31) (p1 p2 : Int32) : f_X8_isInstruction (nI n) p1 p2 = (if p1 = (0 : Int32) then if p2 = (0 : Int32) then (1 : Int32) else 0 else 0) := by
  unfold f_X8_isInstruction f_X8_isOperand f_X0_isOpcode f_X0_isOpcode_10 f_X0_isOpcode_22 f_X0_isOpcode_34 f_X0_isOpcode_47 f_X0_isOfLocal f_X0_isJump
  have hz : ¬ nI n < 0 := nI_pos hn
  simp (disch := omega) only [if_neg hz, x_k15, x_k16, x_k17, x_k18, x_k20, x_k21, x_k25, x_k46, x_k53, x_k54, x_k58, x_k79, x_k131, x_k132, x_k133, x_k152, x_k153, x_k168, x_k169, x_k170, x_k177, x_k178, x_k179, x_k180, x_k181, x_k182, x_k183, x_k184, x_k185, x_k186, x_k187, x_k188, x_k189, x_k190, x_k191, x_k192, x_k193, x_k194, x_k195, x_k197, x_k198, x_k199, nI_leI, nI_ltI, nI_eq]
  simp (disch := omega) only [if_pos, if_neg]
  exact x_pln p1 p2
set_option maxHeartbeats 4000000 in
theorem x_f9_22 {n : Nat} (h1 : 192 ≤ n) (h2 : n ≤ 193) (hn : n < 2 ^ 31) (p1 p2 : Int32) : f_X9_fits (nI n) p1 p2 = (if p2 = (0 : Int32) then (if (f_X9_isType p1) = (0 : Int32) then (0 : Int32) else if (f_X9_isPrimitive p1) = (0 : Int32) then 1 else 0) else 0) := by
  unfold f_X9_fits f_X9_fits_10 f_X9_fits_22 f_X9_fits_35 f_X9_fits_49 f_X9_fits_63 f_X9_fits_91 f_X9_fits_228 f_X9_fits_240 f_X9_fits_261 f_X9_fits_275 f_X9_fits_317 f_X9_fits_349 f_X9_fits_438
  rw [if_neg (nI_pos hn)]
  simp (disch := omega) only [x_k15, x_k16, x_k17, x_k18, x_k20, x_k21, x_k25, x_k46, x_k53, x_k54, x_k58, x_k79, x_k131, x_k132, x_k133, x_k152, x_k153, x_k168, x_k169, x_k170, x_k177, x_k178, x_k179, x_k180, x_k181, x_k182, x_k183, x_k184, x_k185, x_k186, x_k187, x_k188, x_k189, x_k190, x_k191, x_k192, x_k193, x_k194, x_k195, x_k197, x_k198, x_k199, nI_leI, nI_ltI, nI_eq]
  simp (disch := omega) only [if_pos, if_neg, ite_self]
set_option maxHeartbeats 4000000 in
theorem x_f8_22 {n : Nat} (h1 : 192 ≤ n) (h2 : n ≤ 193) (hn : n < 2 ^ 31) (p1 p2 : Int32) : f_X8_isInstruction (nI n) p1 p2 = (if p2 = (0 : Int32) then (if (f_X9_isType p1) = (0 : Int32) then (0 : Int32) else if (f_X9_isPrimitive p1) = (0 : Int32) then 1 else 0) else 0) := by
  unfold f_X8_isInstruction f_X8_isOperand f_X0_isOpcode f_X0_isOpcode_10 f_X0_isOpcode_22 f_X0_isOpcode_34 f_X0_isOpcode_47 f_X0_isOfLocal f_X0_isJump
  have hz : ¬ nI n < 0 := nI_pos hn
  simp (disch := omega) only [if_neg hz, x_k15, x_k16, x_k17, x_k18, x_k20, x_k21, x_k25, x_k46, x_k53, x_k54, x_k58, x_k79, x_k131, x_k132, x_k133, x_k152, x_k153, x_k168, x_k169, x_k170, x_k177, x_k178, x_k179, x_k180, x_k181, x_k182, x_k183, x_k184, x_k185, x_k186, x_k187, x_k188, x_k189, x_k190, x_k191, x_k192, x_k193, x_k194, x_k195, x_k197, x_k198, x_k199, nI_leI, nI_ltI, nI_eq]
  simp (disch := omega) only [if_pos, if_neg]
  rw [e_ref]; by_cases h3 : p2 = 0
  · rw [if_pos h3, if_pos h3]; exact x_bb (x_ite rfl (x_ite rfl rfl))
  · rw [if_neg h3, if_neg h3]
set_option maxHeartbeats 4000000 in
theorem x_f9_23 {n : Nat} (h1 : 194 ≤ n) (h2 : n ≤ 195) (hn : n < 2 ^ 31) (p1 p2 : Int32) : f_X9_fits (nI n) p1 p2 = (if p1 = (0 : Int32) then if p2 = (0 : Int32) then (1 : Int32) else 0 else 0) := by
  unfold f_X9_fits f_X9_fits_10 f_X9_fits_22 f_X9_fits_35 f_X9_fits_49 f_X9_fits_63 f_X9_fits_91 f_X9_fits_228 f_X9_fits_240 f_X9_fits_261 f_X9_fits_275 f_X9_fits_317 f_X9_fits_349 f_X9_fits_438
  rw [if_neg (nI_pos hn)]
  simp (disch := omega) only [x_k15, x_k16, x_k17, x_k18, x_k20, x_k21, x_k25, x_k46, x_k53, x_k54, x_k58, x_k79, x_k131, x_k132, x_k133, x_k152, x_k153, x_k168, x_k169, x_k170, x_k177, x_k178, x_k179, x_k180, x_k181, x_k182, x_k183, x_k184, x_k185, x_k186, x_k187, x_k188, x_k189, x_k190, x_k191, x_k192, x_k193, x_k194, x_k195, x_k197, x_k198, x_k199, nI_leI, nI_ltI, nI_eq]
  simp (disch := omega) only [if_pos, if_neg, ite_self]
set_option maxHeartbeats 4000000 in
theorem x_f8_23 {n : Nat} (h1 : 194 ≤ n) (h2 : n ≤ 195) (hn : n < 2 ^ 31) (p1 p2 : Int32) : f_X8_isInstruction (nI n) p1 p2 = (if p1 = (0 : Int32) then if p2 = (0 : Int32) then (1 : Int32) else 0 else 0) := by
  unfold f_X8_isInstruction f_X8_isOperand f_X0_isOpcode f_X0_isOpcode_10 f_X0_isOpcode_22 f_X0_isOpcode_34 f_X0_isOpcode_47 f_X0_isOfLocal f_X0_isJump
  have hz : ¬ nI n < 0 := nI_pos hn
  simp (disch := omega) only [if_neg hz, x_k15, x_k16, x_k17, x_k18, x_k20, x_k21, x_k25, x_k46, x_k53, x_k54, x_k58, x_k79, x_k131, x_k132, x_k133, x_k152, x_k153, x_k168, x_k169, x_k170, x_k177, x_k178, x_k179, x_k180, x_k181, x_k182, x_k183, x_k184, x_k185, x_k186, x_k187, x_k188, x_k189, x_k190, x_k191, x_k192, x_k193, x_k194, x_k195, x_k197, x_k198, x_k199, nI_leI, nI_ltI, nI_eq]
  simp (disch := omega) only [if_pos, if_neg]
  exact x_pln p1 p2
set_option maxHeartbeats 4000000 in
theorem x_f9_24 {n : Nat} (h1 : 196 ≤ n) (h2 : n ≤ 196) (hn : n < 2 ^ 31) (p1 p2 : Int32) : f_X9_fits (nI n) p1 p2 = (0 : Int32) := by
  unfold f_X9_fits f_X9_fits_10 f_X9_fits_22 f_X9_fits_35 f_X9_fits_49 f_X9_fits_63 f_X9_fits_91 f_X9_fits_228 f_X9_fits_240 f_X9_fits_261 f_X9_fits_275 f_X9_fits_317 f_X9_fits_349 f_X9_fits_438
  rw [if_neg (nI_pos hn)]
  simp (disch := omega) only [x_k15, x_k16, x_k17, x_k18, x_k20, x_k21, x_k25, x_k46, x_k53, x_k54, x_k58, x_k79, x_k131, x_k132, x_k133, x_k152, x_k153, x_k168, x_k169, x_k170, x_k177, x_k178, x_k179, x_k180, x_k181, x_k182, x_k183, x_k184, x_k185, x_k186, x_k187, x_k188, x_k189, x_k190, x_k191, x_k192, x_k193, x_k194, x_k195, x_k197, x_k198, x_k199, nI_leI, nI_ltI, nI_eq]
  simp (disch := omega) only [if_pos, if_neg, ite_self]
set_option maxHeartbeats 4000000 in
theorem x_f8_24 {n : Nat} (h1 : 196 ≤ n) (h2 : n ≤ 196) (hn : n < 2 ^ 31) (p1 p2 : Int32) : f_X8_isInstruction (nI n) p1 p2 = (0 : Int32) := by
  unfold f_X8_isInstruction f_X8_isOperand f_X0_isOpcode f_X0_isOpcode_10 f_X0_isOpcode_22 f_X0_isOpcode_34 f_X0_isOpcode_47 f_X0_isOfLocal f_X0_isJump
  have hz : ¬ nI n < 0 := nI_pos hn
  simp (disch := omega) only [if_neg hz, x_k15, x_k16, x_k17, x_k18, x_k20, x_k21, x_k25, x_k46, x_k53, x_k54, x_k58, x_k79, x_k131, x_k132, x_k133, x_k152, x_k153, x_k168, x_k169, x_k170, x_k177, x_k178, x_k179, x_k180, x_k181, x_k182, x_k183, x_k184, x_k185, x_k186, x_k187, x_k188, x_k189, x_k190, x_k191, x_k192, x_k193, x_k194, x_k195, x_k197, x_k198, x_k199, nI_leI, nI_ltI, nI_eq]
  simp (disch := omega) only [if_pos, if_neg]
  simp only [ite_self, if_pos]
set_option maxHeartbeats 4000000 in
theorem x_f9_25 {n : Nat} (h1 : 197 ≤ n) (h2 : n ≤ 197) (hn : n < 2 ^ 31) (p1 p2 : Int32) : f_X9_fits (nI n) p1 p2 = (if (f_X9_isType p1) = (0 : Int32) then (0 : Int32) else if p2 < (1 : Int32) then 0 else if (p1 >>> (16 &&& 31)) < p2 then 0 else 1) := by
  unfold f_X9_fits f_X9_fits_10 f_X9_fits_22 f_X9_fits_35 f_X9_fits_49 f_X9_fits_63 f_X9_fits_91 f_X9_fits_228 f_X9_fits_240 f_X9_fits_261 f_X9_fits_275 f_X9_fits_317 f_X9_fits_349 f_X9_fits_438
  rw [if_neg (nI_pos hn)]
  simp (disch := omega) only [x_k15, x_k16, x_k17, x_k18, x_k20, x_k21, x_k25, x_k46, x_k53, x_k54, x_k58, x_k79, x_k131, x_k132, x_k133, x_k152, x_k153, x_k168, x_k169, x_k170, x_k177, x_k178, x_k179, x_k180, x_k181, x_k182, x_k183, x_k184, x_k185, x_k186, x_k187, x_k188, x_k189, x_k190, x_k191, x_k192, x_k193, x_k194, x_k195, x_k197, x_k198, x_k199, nI_leI, nI_ltI, nI_eq]
  simp (disch := omega) only [if_pos, if_neg, ite_self]
set_option maxHeartbeats 4000000 in
theorem x_f8_25 {n : Nat} (h1 : 197 ≤ n) (h2 : n ≤ 197) (hn : n < 2 ^ 31) (p1 p2 : Int32) : f_X8_isInstruction (nI n) p1 p2 = (if (f_X9_isType p1) = (0 : Int32) then (0 : Int32) else if p2 < (1 : Int32) then 0 else if (p1 >>> (16 &&& 31)) < p2 then 0 else 1) := by
  unfold f_X8_isInstruction f_X8_isOperand f_X0_isOpcode f_X0_isOpcode_10 f_X0_isOpcode_22 f_X0_isOpcode_34 f_X0_isOpcode_47 f_X0_isOfLocal f_X0_isJump
  have hz : ¬ nI n < 0 := nI_pos hn
  simp (disch := omega) only [if_neg hz, x_k15, x_k16, x_k17, x_k18, x_k20, x_k21, x_k25, x_k46, x_k53, x_k54, x_k58, x_k79, x_k131, x_k132, x_k133, x_k152, x_k153, x_k168, x_k169, x_k170, x_k177, x_k178, x_k179, x_k180, x_k181, x_k182, x_k183, x_k184, x_k185, x_k186, x_k187, x_k188, x_k189, x_k190, x_k191, x_k192, x_k193, x_k194, x_k195, x_k197, x_k198, x_k199, nI_leI, nI_ltI, nI_eq]
  simp (disch := omega) only [if_pos, if_neg]
  exact x_r197 p1 p2
set_option maxHeartbeats 4000000 in
theorem x_f9_26 {n : Nat} (h1 : 198 ≤ n) (h2 : n ≤ 199) (hn : n < 2 ^ 31) (p1 p2 : Int32) : f_X9_fits (nI n) p1 p2 = (if p2 = (0 : Int32) then (if p1 < (0 : Int32) then (0 : Int32) else 1) else 0) := by
  unfold f_X9_fits f_X9_fits_10 f_X9_fits_22 f_X9_fits_35 f_X9_fits_49 f_X9_fits_63 f_X9_fits_91 f_X9_fits_228 f_X9_fits_240 f_X9_fits_261 f_X9_fits_275 f_X9_fits_317 f_X9_fits_349 f_X9_fits_438
  rw [if_neg (nI_pos hn)]
  simp (disch := omega) only [x_k15, x_k16, x_k17, x_k18, x_k20, x_k21, x_k25, x_k46, x_k53, x_k54, x_k58, x_k79, x_k131, x_k132, x_k133, x_k152, x_k153, x_k168, x_k169, x_k170, x_k177, x_k178, x_k179, x_k180, x_k181, x_k182, x_k183, x_k184, x_k185, x_k186, x_k187, x_k188, x_k189, x_k190, x_k191, x_k192, x_k193, x_k194, x_k195, x_k197, x_k198, x_k199, nI_leI, nI_ltI, nI_eq]
  simp (disch := omega) only [if_pos, if_neg, ite_self]
set_option maxHeartbeats 4000000 in
theorem x_f8_26 {n : Nat} (h1 : 198 ≤ n) (h2 : n ≤ 199) (hn : n < 2 ^ 31) (p1 p2 : Int32) : f_X8_isInstruction (nI n) p1 p2 = (if p2 = (0 : Int32) then (if p1 < (0 : Int32) then (0 : Int32) else 1) else 0) := by
  unfold f_X8_isInstruction f_X8_isOperand f_X0_isOpcode f_X0_isOpcode_10 f_X0_isOpcode_22 f_X0_isOpcode_34 f_X0_isOpcode_47 f_X0_isOfLocal f_X0_isJump
  have hz : ¬ nI n < 0 := nI_pos hn
  simp (disch := omega) only [if_neg hz, x_k15, x_k16, x_k17, x_k18, x_k20, x_k21, x_k25, x_k46, x_k53, x_k54, x_k58, x_k79, x_k131, x_k132, x_k133, x_k152, x_k153, x_k168, x_k169, x_k170, x_k177, x_k178, x_k179, x_k180, x_k181, x_k182, x_k183, x_k184, x_k185, x_k186, x_k187, x_k188, x_k189, x_k190, x_k191, x_k192, x_k193, x_k194, x_k195, x_k197, x_k198, x_k199, nI_leI, nI_ltI, nI_eq]
  simp (disch := omega) only [if_pos, if_neg]
  rw [x_loc]
set_option maxHeartbeats 4000000 in
theorem x_f9_27 {n : Nat} (h1 : 200 ≤ n) (hn : n < 2 ^ 31) (p1 p2 : Int32) : f_X9_fits (nI n) p1 p2 = (0 : Int32) := by
  unfold f_X9_fits f_X9_fits_10 f_X9_fits_22 f_X9_fits_35 f_X9_fits_49 f_X9_fits_63 f_X9_fits_91 f_X9_fits_228 f_X9_fits_240 f_X9_fits_261 f_X9_fits_275 f_X9_fits_317 f_X9_fits_349 f_X9_fits_438
  rw [if_neg (nI_pos hn)]
  simp (disch := omega) only [x_k15, x_k16, x_k17, x_k18, x_k20, x_k21, x_k25, x_k46, x_k53, x_k54, x_k58, x_k79, x_k131, x_k132, x_k133, x_k152, x_k153, x_k168, x_k169, x_k170, x_k177, x_k178, x_k179, x_k180, x_k181, x_k182, x_k183, x_k184, x_k185, x_k186, x_k187, x_k188, x_k189, x_k190, x_k191, x_k192, x_k193, x_k194, x_k195, x_k197, x_k198, x_k199, nI_leI, nI_ltI, nI_eq]
  simp (disch := omega) only [if_pos, if_neg, ite_self]
set_option maxHeartbeats 4000000 in
theorem x_f8_27 {n : Nat} (h1 : 200 ≤ n) (hn : n < 2 ^ 31) (p1 p2 : Int32) : f_X8_isInstruction (nI n) p1 p2 = (0 : Int32) := by
  unfold f_X8_isInstruction f_X8_isOperand f_X0_isOpcode f_X0_isOpcode_10 f_X0_isOpcode_22 f_X0_isOpcode_34 f_X0_isOpcode_47 f_X0_isOfLocal f_X0_isJump
  have hz : ¬ nI n < 0 := nI_pos hn
  simp (disch := omega) only [if_neg hz, x_k15, x_k16, x_k17, x_k18, x_k20, x_k21, x_k25, x_k46, x_k53, x_k54, x_k58, x_k79, x_k131, x_k132, x_k133, x_k152, x_k153, x_k168, x_k169, x_k170, x_k177, x_k178, x_k179, x_k180, x_k181, x_k182, x_k183, x_k184, x_k185, x_k186, x_k187, x_k188, x_k189, x_k190, x_k191, x_k192, x_k193, x_k194, x_k195, x_k197, x_k198, x_k199, nI_leI, nI_ltI, nI_eq]
  simp (disch := omega) only [if_pos, if_neg]
  simp only [ite_self, if_pos]
theorem x_neg9 {p0 : Int32} (h : p0 < 0) (p1 p2 : Int32) : f_X9_fits p0 p1 p2 = 0 := by
  have lt : ∀ k : Int32, 0 ≤ k → p0 < k := fun k hk => Int32.lt_of_lt_of_le h hk
  have ne : ∀ k : Int32, 0 ≤ k → ¬ p0 = k := fun k hk q => absurd (q ▸ h) (Int32.not_lt.mpr hk)
  unfold f_X9_fits f_X9_fits_10 f_X9_fits_22 f_X9_fits_35 f_X9_fits_49 f_X9_fits_63 f_X9_fits_91 f_X9_fits_228 f_X9_fits_240 f_X9_fits_261 f_X9_fits_275 f_X9_fits_317 f_X9_fits_349 f_X9_fits_438
  simp only [if_pos h, if_pos (lt 46 (by decide)), if_pos (lt 79 (by decide)), if_pos (lt 133 (by decide)), if_pos (lt 170 (by decide)), if_pos (lt 21 (by decide)), if_pos (lt 54 (by decide)), if_pos (lt 153 (by decide)), if_pos (lt 178 (by decide)), if_pos (lt 182 (by decide)), if_neg (ne 190 (by decide)), if_neg (ne 191 (by decide)), if_neg (ne 194 (by decide)), if_neg (ne 195 (by decide)), if_neg (ne 132 (by decide)), if_neg (ne 197 (by decide)), if_neg (ne 16 (by decide)), if_neg (ne 17 (by decide)), if_neg (ne 18 (by decide)), if_neg (ne 20 (by decide)), if_neg (ne 169 (by decide)), if_neg (ne 198 (by decide)), if_neg (ne 199 (by decide)), if_neg (ne 187 (by decide)), if_neg (ne 188 (by decide)), if_neg (ne 189 (by decide)), if_neg (ne 192 (by decide)), if_neg (ne 193 (by decide)), ite_self]
theorem x_neg8 {p0 : Int32} (h : p0 < 0) (p1 p2 : Int32) : f_X8_isInstruction p0 p1 p2 = 0 := by
  have lt : ∀ k : Int32, 0 ≤ k → p0 < k := fun k hk => Int32.lt_of_lt_of_le h hk
  have ne : ∀ k : Int32, 0 ≤ k → ¬ p0 = k := fun k hk q => absurd (q ▸ h) (Int32.not_lt.mpr hk)
  unfold f_X8_isInstruction f_X8_isOperand f_X0_isOpcode f_X0_isOpcode_10 f_X0_isOpcode_22 f_X0_isOpcode_34 f_X0_isOpcode_47
  simp only [if_pos h, if_pos (lt 20 (by decide)), if_pos (lt 46 (by decide)), if_pos (lt 79 (by decide)), if_pos (lt 197 (by decide)), if_neg (ne 132 (by decide)), if_neg (ne 197 (by decide)), if_neg (ne 16 (by decide)), if_neg (ne 17 (by decide)), if_neg (ne 18 (by decide)), if_neg (ne 20 (by decide)), if_neg (ne 178 (by decide)), if_neg (ne 179 (by decide)), if_neg (ne 180 (by decide)), if_neg (ne 181 (by decide)), if_neg (ne 182 (by decide)), if_neg (ne 183 (by decide)), if_neg (ne 184 (by decide)), if_neg (ne 185 (by decide)), if_neg (ne 186 (by decide)), if_neg (ne 187 (by decide)), if_neg (ne 188 (by decide)), if_neg (ne 189 (by decide)), if_neg (ne 192 (by decide)), if_neg (ne 193 (by decide)), if_pos, ite_self]
theorem e_inst (p0 p1 p2 : Int32) : f_X8_isInstruction p0 p1 p2 = f_X9_fits p0 p1 p2 := by
  by_cases h : p0 < 0
  · rw [x_neg8 h, x_neg9 h]
  · obtain ⟨n, hn, rfl⟩ := nI_of h
    by_cases g0 : n ≤ 15
    · rw [x_f8_0 (by omega) g0 hn, x_f9_0 (by omega) g0 hn]
    by_cases g1 : n ≤ 17
    · rw [x_f8_1 (by omega) g1 hn, x_f9_1 (by omega) g1 hn]
    by_cases g2 : n ≤ 18
    · rw [x_f8_2 (by omega) g2 hn, x_f9_2 (by omega) g2 hn]
    by_cases g3 : n ≤ 19
    · rw [x_f8_3 (by omega) g3 hn, x_f9_3 (by omega) g3 hn]
    by_cases g4 : n ≤ 20
    · rw [x_f8_4 (by omega) g4 hn, x_f9_4 (by omega) g4 hn]
    by_cases g5 : n ≤ 25
    · rw [x_f8_5 (by omega) g5 hn, x_f9_5 (by omega) g5 hn]
    by_cases g6 : n ≤ 45
    · rw [x_f8_6 (by omega) g6 hn, x_f9_6 (by omega) g6 hn]
    by_cases g7 : n ≤ 53
    · rw [x_f8_7 (by omega) g7 hn, x_f9_7 (by omega) g7 hn]
    by_cases g8 : n ≤ 58
    · rw [x_f8_8 (by omega) g8 hn, x_f9_8 (by omega) g8 hn]
    by_cases g9 : n ≤ 78
    · rw [x_f8_9 (by omega) g9 hn, x_f9_9 (by omega) g9 hn]
    by_cases g10 : n ≤ 131
    · rw [x_f8_10 (by omega) g10 hn, x_f9_10 (by omega) g10 hn]
    by_cases g11 : n ≤ 132
    · rw [x_f8_11 (by omega) g11 hn, x_f9_11 (by omega) g11 hn]
    by_cases g12 : n ≤ 152
    · rw [x_f8_12 (by omega) g12 hn, x_f9_12 (by omega) g12 hn]
    by_cases g13 : n ≤ 168
    · rw [x_f8_13 (by omega) g13 hn, x_f9_13 (by omega) g13 hn]
    by_cases g14 : n ≤ 169
    · rw [x_f8_14 (by omega) g14 hn, x_f9_14 (by omega) g14 hn]
    by_cases g15 : n ≤ 177
    · rw [x_f8_15 (by omega) g15 hn, x_f9_15 (by omega) g15 hn]
    by_cases g16 : n ≤ 181
    · rw [x_f8_16 (by omega) g16 hn, x_f9_16 (by omega) g16 hn]
    by_cases g17 : n ≤ 186
    · rw [x_f8_17 (by omega) g17 hn, x_f9_17 (by omega) g17 hn]
    by_cases g18 : n ≤ 187
    · rw [x_f8_18 (by omega) g18 hn, x_f9_18 (by omega) g18 hn]
    by_cases g19 : n ≤ 188
    · rw [x_f8_19 (by omega) g19 hn, x_f9_19 (by omega) g19 hn]
    by_cases g20 : n ≤ 189
    · rw [x_f8_20 (by omega) g20 hn, x_f9_20 (by omega) g20 hn]
    by_cases g21 : n ≤ 191
    · rw [x_f8_21 (by omega) g21 hn, x_f9_21 (by omega) g21 hn]
    by_cases g22 : n ≤ 193
    · rw [x_f8_22 (by omega) g22 hn, x_f9_22 (by omega) g22 hn]
    by_cases g23 : n ≤ 195
    · rw [x_f8_23 (by omega) g23 hn, x_f9_23 (by omega) g23 hn]
    by_cases g24 : n ≤ 196
    · rw [x_f8_24 (by omega) g24 hn, x_f9_24 (by omega) g24 hn]
    by_cases g25 : n ≤ 197
    · rw [x_f8_25 (by omega) g25 hn, x_f9_25 (by omega) g25 hn]
    by_cases g26 : n ≤ 199
    · rw [x_f8_26 (by omega) g26 hn, x_f9_26 (by omega) g26 hn]
    rw [x_f8_27 (by omega) hn, x_f9_27 (by omega) hn]
theorem e_put (p0 p1 p2 : Int32) : f_X8_put p0 p1 p2 = f_X9_put p0 p1 p2 := by
  unfold f_X8_put f_X9_put
  rw [e_inst]
