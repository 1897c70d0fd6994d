/-! common -/
theorem x_shl {n : Nat} (h : n < 65536) : nI n <<< (16 &&& 31) = nI (n * 65536) := pk_shlN _ 16 (by decide) (by omega)
theorem x_c1 : (1 : Int32) = nI 1 := rfl
theorem x_sh9 : ∀ a b : Fin 4, a ≠ b → f_X9_shared (nI a) (nI b) = nI 0 := by decide +kernel
theorem x_sh0 : ∀ a b : Fin 4, a ≠ b → f_X9_shared0 (nI a) (nI b) = nI 0 := by decide +kernel
theorem x_sh0' {a b : Nat} (ha : a < 4) (hb : b < 4) (h : a ≠ b) : f_X9_shared0 (nI a) (nI b) = nI 0 := x_sh0 ⟨a, ha⟩ ⟨b, hb⟩ (fun q => h (congrArg Fin.val q))
def x_mid (a b : Nat) : Int32 := nI (65536 * min (if 65528 ≤ a % 65536 then a / 65536 - 1 else a / 65536) (if 65528 ≤ b % 65536 then b / 65536 - 1 else b / 65536))
set_option maxHeartbeats 4000000 in
theorem x_midA {a b : Nat} (ha : a < 2 ^ 31) (hb : b < 2 ^ 31) (ha1 : a / 65536 ≤ 255) (hb1 : b / 65536 ≤ 255) (ha2 : a % 65536 < 4 ∨ 65528 ≤ a % 65536) (hb2 : b % 65536 < 4 ∨ 65528 ≤ b % 65536) (pa : ¬ (65528 ≤ a ∧ a < 65536)) (pb : ¬ (65528 ≤ b ∧ b < 65536)) (hab : a ≠ b) : f_X7_sharedOf (nI a) (nI b) = x_mid a b := by
  have hpp : ¬ nI a = nI b := by rw [nI_eq ha hb]; exact hab
  unfold f_X7_sharedOf f_X7_dimensionsOf x_mid
  rw [if_neg hpp]
  simp only [x_ushN ha, x_ushN hb, x_and ha, x_and hb, x_c4, x_cP, x_c0, x_c1]
  by_cases h3 : 65528 ≤ a % 65536
  · by_cases h4 : 65528 ≤ b % 65536
    · simp (disch := omega) only [nI_leI, nI_ltI, nI_eq, pk_sub, x_shl, nI_add, if_pos h3, if_pos h4]
      repeat' split
      all_goals exact congrArg nI (by omega)
    · simp (disch := omega) only [nI_leI, nI_ltI, nI_eq, pk_sub, x_shl, nI_add, if_pos h3, if_neg h4]
      repeat' split
      all_goals exact congrArg nI (by omega)
  · by_cases h4 : 65528 ≤ b % 65536
    · simp (disch := omega) only [nI_leI, nI_ltI, nI_eq, pk_sub, x_shl, nI_add, if_neg h3, if_pos h4]
      repeat' split
      all_goals exact congrArg nI (by omega)
    · simp (disch := omega) only [nI_leI, nI_ltI, nI_eq, pk_sub, x_shl, nI_add, if_neg h3, if_neg h4]
      repeat' split
      all_goals exact congrArg nI (by omega)
set_option maxHeartbeats 4000000 in
theorem x_midB {a b : Nat} (ha : a < 2 ^ 31) (hb : b < 2 ^ 31) (ha1 : a / 65536 ≤ 255) (hb1 : b / 65536 ≤ 255) (ha2 : a % 65536 < 4 ∨ 65528 ≤ a % 65536) (hb2 : b % 65536 < 4 ∨ 65528 ≤ b % 65536) (pa : ¬ (65528 ≤ a ∧ a < 65536)) (pb : ¬ (65528 ≤ b ∧ b < 65536)) (hab : a ≠ b) : f_X9_shared (nI a) (nI b) = x_mid a b := by
  have hpp : ¬ nI a = nI b := by rw [nI_eq ha hb]; exact hab
  by_cases hz : a / 65536 = 0 ∧ b / 65536 = 0
  · have h4a : a < 4 := by omega
    have h4b : b < 4 := by omega
    rw [show f_X9_shared (nI a) (nI b) = nI 0 from x_sh9 ⟨a, h4a⟩ ⟨b, h4b⟩ (fun q => hab (congrArg Fin.val q))]
    unfold x_mid
    rw [if_neg (by omega), if_neg (by omega)]
    exact congrArg nI (by omega)
  · unfold f_X9_shared x_mid
    rw [if_neg hpp]
    by_cases hda : a / 65536 = 0
    · simp (disch := omega) only [x_shr ha, x_shr hb, x_c0, nI_eq, if_pos hda, if_neg (show ¬ b / 65536 = 0 by omega), if_neg (show ¬ 65528 ≤ a % 65536 by omega)]
      first | omega | exact congrArg nI (by omega)
    · by_cases hdb : b / 65536 = 0
      · simp (disch := omega) only [x_shr ha, x_shr hb, x_c0, nI_eq, if_neg hda, if_pos hdb, if_neg (show ¬ 65528 ≤ b % 65536 by omega)]
        first | omega | exact congrArg nI (by omega)
      · simp only [x_shr ha, x_shr hb, x_and ha, x_and hb, x_cP, x_cQ, x_c0, x_c1]
        by_cases h3 : 65528 ≤ a % 65536
        · by_cases h4 : 65528 ≤ b % 65536
          · simp (disch := omega) only [nI_leI, nI_ltI, nI_eq, pk_sub, pk_mul, nI_add, if_pos h3, if_pos h4, if_neg hda, if_neg hdb]
            repeat' split
            all_goals first | exact congrArg nI (by omega) | (rw [pk_mul]; exact congrArg nI (by omega))
          · simp (disch := omega) only [nI_leI, nI_ltI, nI_eq, pk_sub, pk_mul, nI_add, if_pos h3, if_neg h4, if_neg hda, if_neg hdb]
            repeat' split
            all_goals first | exact congrArg nI (by omega) | (rw [pk_mul]; exact congrArg nI (by omega))
        · by_cases h4 : 65528 ≤ b % 65536
          · simp (disch := omega) only [nI_leI, nI_ltI, nI_eq, pk_sub, pk_mul, nI_add, if_neg h3, if_pos h4, if_neg hda, if_neg hdb]
            repeat' split
            all_goals first | exact congrArg nI (by omega) | (rw [pk_mul]; exact congrArg nI (by omega))
          · by_cases hd : a / 65536 = b / 65536
            · rw [x_sh0' (by omega) (by omega) (by omega)]
              simp (disch := omega) only [nI_leI, nI_ltI, nI_eq, pk_sub, pk_mul, nI_add, if_neg h3, if_neg h4, if_neg hda, if_neg hdb, if_pos hd]
              first | omega | exact congrArg nI (by omega)
            · simp (disch := omega) only [nI_leI, nI_ltI, nI_eq, pk_sub, pk_mul, nI_add, if_neg h3, if_neg h4, if_neg hda, if_neg hdb, if_neg hd]
              repeat' split
              all_goals first | exact congrArg nI (by omega) | (rw [pk_mul]; exact congrArg nI (by omega))
theorem e_shared {p0 p1 : Int32} (h0 : ¬ f_X9_isType p0 = 0) (h1 : ¬ f_X9_isType p1 = 0) (q0 : f_X9_isPrimitive p0 = 0) (q1 : f_X9_isPrimitive p1 = 0) : f_X7_sharedOf p0 p1 = f_X9_shared p0 p1 := by
  by_cases hpp : p0 = p1
  · unfold f_X7_sharedOf f_X9_shared
    rw [if_pos hpp, if_pos hpp]
  · obtain ⟨a, ha, rfl, ha1, ha2⟩ := x_ty h0
    obtain ⟨b, hb, rfl, hb1, hb2⟩ := x_ty h1
    have hab : a ≠ b := fun q => hpp (by rw [q])
    rw [x_prim ha] at q0
    rw [x_prim hb] at q1
    rw [x_midA ha hb ha1 hb1 ha2 hb2 q0 q1 hab, x_midB ha hb ha1 hb1 ha2 hb2 q0 q1 hab]
theorem e_ref (p : Int32) : f_X7_isReference p = if f_X9_isType p = 0 then 0 else if f_X9_isPrimitive p = 0 then 1 else 0 := by
  unfold f_X7_isReference
  rw [e_ty, e_prim]
theorem e_common (p0 p1 : Int32) : f_X8_common p0 p1 = f_X9_common p0 p1 := by
  unfold f_X8_common f_X9_common
  rw [e_ref, e_ref]
  by_cases h0 : f_X9_isType p0 = 0
  · simp only [if_pos h0, if_pos]
  · by_cases h1 : f_X9_isType p1 = 0
    · by_cases q0 : f_X9_isPrimitive p0 = 0
      · simp only [if_neg h0, if_pos h1, if_pos q0, if_neg x_10, if_pos]
      · simp only [if_neg h0, if_pos h1, if_neg q0, if_pos]
    · by_cases q0 : f_X9_isPrimitive p0 = 0
      · by_cases q1 : f_X9_isPrimitive p1 = 0
        · simp only [if_neg h0, if_neg h1, if_pos q0, if_pos q1, if_neg x_10, e_shared h0 h1 q0 q1]
        · simp only [if_neg h0, if_neg h1, if_pos q0, if_neg q1, if_neg x_10, if_pos]
      · simp only [if_neg h0, if_neg h1, if_neg q0, if_pos]
