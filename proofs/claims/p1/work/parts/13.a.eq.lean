/-! THE TWO SIDES ANSWER ALIKE ON A NEW OBJECT -/
theorem e_cls : f_X7_isClass = f_X9_isClass := rfl
theorem e_prim : f_X7_isPrimitive = f_X9_isPrimitive := rfl
theorem x_10 : ¬ (1 : Int32) = 0 := by decide
theorem e_ty (t : Int32) : f_X7_isType t = f_X9_isType t := by
  by_cases h0 : t < 0
  · unfold f_X7_isType f_X9_isType
    rw [if_pos h0, if_pos h0]
  · obtain ⟨j, hj, rfl⟩ := nI_of h0
    unfold f_X7_isType f_X9_isType f_X7_dimensionsOf
    rw [if_neg h0, if_neg h0, x_ushN hj, x_shr hj, x_and hj]
    unfold f_X9_isClass
    rw [if_neg (nI_pos (n := j % 65536) (by omega))]
    by_cases h1 : 255 < nI (j / 65536)
    · rw [if_pos h1, if_pos h1]
    · rw [if_neg h1, if_neg h1]
      by_cases h2 : 4 ≤ nI (j % 65536)
      · rw [if_pos h2, if_pos rfl, if_neg (Int32.not_lt.mpr h2)]
      · rw [if_neg h2, if_neg x_10, if_pos (Int32.not_le.mp h2)]
theorem e_add (p0 p1 : Int32) : f_X8_add p0 p1 = f_X9_add p0 p1 := rfl
theorem e_field (p0 p1 : Int32) : f_X8_field p0 p1 = f_X9_field p0 p1 := by
  unfold f_X8_field f_X9_field
  rw [e_ty, e_cls]
theorem e_takes (p0 : Int32) : f_X8_takes p0 = f_X9_takes p0 := by
  unfold f_X8_takes f_X9_takes
  rw [e_ty]
theorem e_argument (p0 : Int32) : f_X8_argument p0 = f_X9_argument p0 := by
  unfold f_X8_argument f_X9_argument
  rw [e_ty]
theorem e_to (p0 : Int32) : f_X8_to p0 = f_X9_to p0 := rfl
theorem e_row (p0 p1 p2 p3 : Int32) : f_X8_row p0 p1 p2 p3 = f_X9_row p0 p1 p2 p3 := rfl
theorem e_frame (p0 p1 : Int32) : f_X8_frame p0 p1 = f_X9_frame p0 p1 := by
  unfold f_X8_frame f_X9_frame
  by_cases h : p0 < 0
  · simp only [if_pos h]
  · simp only [if_neg h]
theorem e_res (p : Int32) : f_X7_isResult p = if p = (-1 : Int32) then 1 else if f_X9_isType p = 0 then 0 else 1 := by
  unfold f_X7_isResult
  rw [e_ty]
theorem e_shape (p0 p1 p2 : Int32) : f_X8_shape p0 p1 p2 = f_X9_shape p0 p1 p2 := by
  unfold f_X8_shape f_X9_shape
  rw [e_res, e_cls]
  by_cases h : p1 = (-1 : Int32)
  · simp only [if_pos h, if_neg x_10]
  · simp only [if_neg h]
    by_cases ht : f_X9_isType p1 = 0
    · simp only [if_pos ht, if_pos]
    · simp only [if_neg ht, if_neg x_10]
theorem e_method (p0 p1 p2 p3 p4 : Int32) : f_X8_method p0 p1 p2 p3 p4 = f_X9_method p0 p1 p2 p3 p4 := by
  unfold f_X8_method f_X9_method
  rw [e_res, e_cls]
  by_cases h : p2 = (-1 : Int32)
  · simp only [if_pos h, if_neg x_10]
  · simp only [if_neg h]
    by_cases ht : f_X9_isType p2 = 0
    · simp only [if_pos ht, if_pos]
    · simp only [if_neg ht, if_neg x_10]
      by_cases h2 : p1 = (2 : Int32)
      · simp only [if_pos h2]
      · simp only [if_neg h2]
/-! stands -/
theorem x_prim {j : Nat} (hj : j < 2 ^ 31) : f_X9_isPrimitive (nI j) = 0 ↔ ¬ (65528 ≤ j ∧ j < 65536) := by
  unfold f_X9_isPrimitive
  by_cases h1 : nI j < 65528
  · rw [if_pos h1]
    rw [x_cP, nI_ltI hj (by omega)] at h1
    exact ⟨fun _ => by omega, fun _ => rfl⟩
  · rw [if_neg h1]
    rw [x_cP, nI_ltI hj (by omega)] at h1
    by_cases h2 : 65536 ≤ nI j
    · rw [if_pos h2]
      rw [x_cQ, nI_leI (by omega) hj] at h2
      exact ⟨fun _ => by omega, fun _ => rfl⟩
    · rw [if_neg h2]
      rw [x_cQ, nI_leI (by omega) hj] at h2
      exact ⟨fun h => absurd h x_10, fun h => absurd (by omega) h⟩
theorem x_sle {a b : Nat} (ha : a < 2 ^ 30) (hb : b < 2 ^ 30) : nI a - nI b ≤ 0 ↔ a ≤ b := by
  rw [Int32.le_iff_toInt_le, pk_sub_toInt ha hb, Int32.toInt_zero]
  omega
theorem x_seq {a b : Nat} (ha : a < 2 ^ 30) (hb : b < 2 ^ 30) : nI a - nI b = 0 ↔ a = b := by
  rw [← Int32.toInt_inj, pk_sub_toInt ha hb, Int32.toInt_zero]
  omega
theorem x_lt4 {n : Nat} (h : n < 4) : n = 0 ∨ n = 1 ∨ n = 2 ∨ n = 3 := by omega
/-- two classes -/
theorem x_mcs : ∀ a b : Fin 4, a ≠ b → (if f_X7_mayClassStand (nI a) (nI b) = 0 then (0 : Int32) else 1) = (if nI b = (0 : Int32) then 1 else if x_face (Int32.toNatClampNeg (nI b)) = (0 : Int32) then if f_X9_below (nI a) (nI b) = (0 : Int32) then 0 else 1 else 1) := by decide +kernel
theorem x_mcs' {a b : Nat} (ha : a < 4) (hb : b < 4) (hn : a ≠ b) : (if f_X7_mayClassStand (nI a) (nI b) = 0 then (0 : Int32) else 1) = (if nI b = (0 : Int32) then 1 else if x_face (Int32.toNatClampNeg (nI b)) = (0 : Int32) then if f_X9_below (nI a) (nI b) = (0 : Int32) then 0 else 1 else 1) :=
  x_mcs ⟨a, ha⟩ ⟨b, hb⟩ (fun q => hn (congrArg Fin.val q))
theorem x_may0 : ∀ a b : Fin 4, f_X9_may0 (nI a) (nI b) = if f_X7_mayClassStand (nI a) (nI b) = 0 then (0 : Int32) else 1 := by decide +kernel
theorem x_may0' {a b : Nat} (ha : a < 4) (hb : b < 4) : f_X9_may0 (nI a) (nI b) = if f_X7_mayClassStand (nI a) (nI b) = 0 then (0 : Int32) else 1 := x_may0 ⟨a, ha⟩ ⟨b, hb⟩
theorem x_mcsN {a b : Nat} (ha : a < 65536) (hb : b < 65536) (h : 4 ≤ a ∨ 4 ≤ b) : f_X7_mayClassStand (nI a) (nI b) = 0 := by
  unfold f_X7_mayClassStand
  by_cases h4 : 4 ≤ nI a
  · rw [if_pos h4]
  · rw [if_neg h4]
    rw [x_c4, nI_leI (by omega) (by omega)] at h4
    rw [if_neg (by rw [x_c4, nI_ltI (by omega) (by omega)]; omega)]
theorem e_may {p0 p1 : Int32} (h0 : ¬ f_X9_isType p0 = 0) (h1 : ¬ f_X9_isType p1 = 0) : f_X7_mayStand p0 p1 = f_X9_may p0 p1 := by
  by_cases hpp : p0 = p1
  · unfold f_X7_mayStand f_X9_may
    rw [if_pos hpp, if_pos hpp]
  · obtain ⟨a, ha, rfl, ha1, ha2⟩ := x_ty h0
    obtain ⟨b, hb, rfl, hb1, hb2⟩ := x_ty h1
    have hab : a ≠ b := fun q => hpp (by rw [q])
    unfold f_X7_mayStand f_X9_may f_X7_dimensionsOf
    rw [if_neg hpp, if_neg hpp, e_prim]
    by_cases hq0 : f_X9_isPrimitive (nI a) = 0
    · by_cases hq1 : f_X9_isPrimitive (nI b) = 0
      · rw [if_pos hq0, if_pos hq0, if_pos hq1, if_pos hq1, x_ushN ha, x_ushN hb, x_shr ha, x_shr hb, x_and ha, x_and hb]
        rw [x_prim ha] at hq0
        rw [x_prim hb] at hq1
        by_cases hd : a / 65536 ≤ b / 65536
        · rw [if_pos ((x_sle (by omega) (by omega)).mpr hd)]
          by_cases he : a / 65536 = b / 65536
          · rw [if_pos ((x_seq (by omega) (by omega)).mpr he)]
            by_cases hz : b / 65536 = 0
            · have e1 : a % 65536 = a := by omega
              have e2 : b % 65536 = b := by omega
              rw [e1, e2, if_pos (show nI (b / 65536) = (0 : Int32) by rw [hz]; rfl), if_pos (show nI (a / 65536) ≤ (0 : Int32) by rw [he, hz]; decide)]
              exact x_mcs' (by omega) (by omega) hab
            · have P1 : ¬ nI (b / 65536) = (0 : Int32) := by rw [x_c0, nI_eq (by omega) (by omega)]; exact hz
              have P2 : nI (a / 65536) = nI (b / 65536) := by rw [he]
              by_cases ea : 65528 ≤ a % 65536
              · have P3 : (65528 : Int32) ≤ nI (a % 65536) := by rw [x_cP, nI_leI (by omega) (by omega)]; exact ea
                have P4 : f_X7_mayClassStand (nI (a % 65536)) (nI (b % 65536)) = 0 := x_mcsN (by omega) (by omega) (Or.inl (by omega))
                simp only [if_neg P1, if_pos P2, if_pos P3, if_pos P4]
              · have P3 : ¬ (65528 : Int32) ≤ nI (a % 65536) := by rw [x_cP, nI_leI (by omega) (by omega)]; exact ea
                by_cases eb : 65528 ≤ b % 65536
                · have P5 : (65528 : Int32) ≤ nI (b % 65536) := by rw [x_cP, nI_leI (by omega) (by omega)]; exact eb
                  have P4 : f_X7_mayClassStand (nI (a % 65536)) (nI (b % 65536)) = 0 := x_mcsN (by omega) (by omega) (Or.inr (by omega))
                  simp only [if_neg P1, if_pos P2, if_neg P3, if_pos P4, if_pos P5]
                · have P5 : ¬ (65528 : Int32) ≤ nI (b % 65536) := by rw [x_cP, nI_leI (by omega) (by omega)]; exact eb
                  have P6 := x_may0' (a := a % 65536) (b := b % 65536) (by omega) (by omega)
                  by_cases hm : f_X7_mayClassStand (nI (a % 65536)) (nI (b % 65536)) = 0
                  · rw [if_pos hm] at P6
                    simp only [if_neg P1, if_pos P2, if_neg P3, if_neg P5, if_pos hm, if_pos P6]
                  · rw [if_neg hm] at P6
                    have P7 : ¬ f_X9_may0 (nI (a % 65536)) (nI (b % 65536)) = 0 := by rw [P6]; exact x_10
                    simp only [if_neg P1, if_pos P2, if_neg P3, if_neg P5, if_neg hm, if_neg P7]
          · rw [if_neg (fun q => he ((x_seq (by omega) (by omega)).mp q)), if_neg (show ¬ nI (b / 65536) = (0 : Int32) by rw [x_c0, nI_eq (by omega) (by omega)]; omega),
              if_neg (show ¬ nI (a / 65536) = nI (b / 65536) by rw [nI_eq (by omega) (by omega)]; exact he), if_pos (show nI (a / 65536) ≤ nI (b / 65536) by rw [nI_leI (by omega) (by omega)]; exact hd)]
        · rw [if_neg (fun q => hd ((x_sle (by omega) (by omega)).mp q))]
          by_cases hz : b / 65536 = 0
          · have e2 : b % 65536 = b := by omega
            rw [e2, if_pos (show nI (b / 65536) = (0 : Int32) by rw [hz]; rfl), if_neg (show ¬ nI (a / 65536) ≤ (0 : Int32) by rw [x_c0, nI_leI (by omega) (by omega)]; omega)]
          · rw [if_neg (show ¬ nI (b / 65536) = (0 : Int32) by rw [x_c0, nI_eq (by omega) (by omega)]; exact hz),
              if_neg (show ¬ nI (a / 65536) = nI (b / 65536) by rw [nI_eq (by omega) (by omega)]; omega), if_neg (show ¬ nI (a / 65536) ≤ nI (b / 65536) by rw [nI_leI (by omega) (by omega)]; exact hd)]
      · rw [if_pos hq0, if_pos hq0, if_neg hq1, if_neg hq1]
    · rw [if_neg hq0, if_neg hq0]
theorem e_stands (p0 p1 : Int32) : f_X8_stands p0 p1 = f_X9_stands p0 p1 := by
  unfold f_X8_stands f_X9_stands
  rw [e_ty, e_ty]
  by_cases h0 : f_X9_isType p0 = 0
  · rw [if_pos h0, if_pos h0]
  · by_cases h1 : f_X9_isType p1 = 0
    · rw [if_neg h0, if_neg h0, if_pos h1, if_pos h1]
    · rw [if_neg h0, if_neg h0, if_neg h1, if_neg h1, e_may h0 h1]
