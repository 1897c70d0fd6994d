theorem x_cls9 {x : Int32} (h : ¬ f_X9_isClass x = 0) : vp_in x 200 := by
  unfold f_X9_isClass at h
  by_cases h1 : x < 0
  · rw [if_pos h1] at h; exact absurd rfl h
  · by_cases h2 : 4 ≤ x
    · rw [if_neg h1, if_pos h2] at h; exact absurd rfl h
    · exact x_in4n (x_ge0 h1) h2
/-! NUMBERS OF TYPES -/
theorem x_and {j : Nat} (hj : j < 2 ^ 31) : nI j &&& 65535 = nI (j % 65536) := pk_andN (by omega) 16 (by decide)
theorem x_shr {j : Nat} (hj : j < 2 ^ 31) : nI j >>> (16 &&& 31) = nI (j / 65536) := pk_shrN hj _ 16 (by decide)
theorem x_ushN {j : Nat} (hj : j < 2 ^ 31) : x_ush (nI j) 16 = nI (j / 65536) := pk_ushrN (by omega) 16 16 (by decide)
theorem x_c255 : (255 : Int32) = nI 255 := rfl
theorem x_c4 : (4 : Int32) = nI 4 := rfl
theorem x_cP : (65528 : Int32) = nI 65528 := rfl
theorem x_cQ : (65536 : Int32) = nI 65536 := rfl
theorem x_c0 : (0 : Int32) = nI 0 := rfl
theorem x_ty {t : Int32} (h : ¬ f_X9_isType t = 0) : ∃ j : Nat, j < 2 ^ 31 ∧ t = nI j ∧ j / 65536 ≤ 255 ∧ (j % 65536 < 4 ∨ 65528 ≤ j % 65536) := by
  by_cases h0 : t < 0
  · exact absurd (by unfold f_X9_isType; rw [if_pos h0]) h
  · obtain ⟨j, hj, e⟩ := nI_of h0
    subst e
    refine ⟨j, hj, rfl, ?_⟩
    unfold f_X9_isType at h
    rw [if_neg h0, x_shr hj, x_and hj] at h
    by_cases h1 : 255 < nI (j / 65536)
    · rw [if_pos h1] at h; exact absurd rfl h
    · rw [if_neg h1] at h
      rw [x_c255, nI_ltI (by omega) (by omega)] at h1
      refine ⟨by omega, ?_⟩
      unfold f_X9_isClass at h
      rw [if_neg (nI_pos (n := j % 65536) (by omega))] at h
      by_cases h2 : 4 ≤ nI (j % 65536)
      · rw [if_pos h2, if_pos rfl] at h
        by_cases h3 : nI (j % 65536) < 65528
        · rw [if_pos h3] at h; exact absurd rfl h
        · rw [x_cP, nI_ltI (by omega) (by omega)] at h3
          omega
      · rw [x_c4, nI_leI (by omega) (by omega)] at h2
        omega
theorem x_tyR {j : Nat} (hj : j < 2 ^ 31) (h1 : j / 65536 ≤ 255) (h2 : j % 65536 < 4 ∨ 65528 ≤ j % 65536) : ¬ f_X9_isType (nI j) = 0 := by
  unfold f_X9_isType
  rw [if_neg (nI_pos hj), x_shr hj, x_and hj, if_neg (by rw [x_c255, nI_ltI (by omega) (by omega)]; omega)]
  unfold f_X9_isClass
  rw [if_neg (nI_pos (n := j % 65536) (by omega))]
  by_cases h3 : 4 ≤ nI (j % 65536)
  · rw [if_pos h3, if_pos rfl, if_neg]
    · decide
    · rw [x_c4, nI_leI (by omega) (by omega)] at h3
      rw [x_cP, nI_ltI (by omega) (by omega)]
      omega
  · rw [if_neg h3, if_neg (by decide)]
    decide
theorem x_tyc {t : Int32} (h : ¬ f_X9_isType t = 0) (hp : f_X9_isPrimitive t = 0) (hm : t >>> (16 &&& 31) ≤ 0) : 0 ≤ t ∧ t < 4 := by
  obtain ⟨j, hj, rfl, h1, h2⟩ := x_ty h
  rw [x_shr hj, x_c0, nI_leI (by omega) (by omega)] at hm
  rcases h2 with h2 | h2
  · refine ⟨nI_pos' hj, ?_⟩
    rw [x_c4, nI_ltI (by omega) (by omega)]
    omega
  · exfalso
    unfold f_X9_isPrimitive at hp
    rw [if_neg (by rw [x_cP, nI_ltI (by omega) (by omega)]; omega), if_neg (by rw [x_cQ, nI_leI (by omega) (by omega)]; omega)] at hp
    exact absurd hp (by decide)
theorem x_tyin {t : Int32} (h : ¬ f_X9_isType t = 0) (hp : f_X9_isPrimitive t = 0) (hm : t >>> (16 &&& 31) = 0) : vp_in t 200 := by
  have := x_tyc h hp (by rw [hm]; decide)
  exact x_in4 this.1 this.2
theorem x_tym {t : Int32} (h : ¬ f_X9_isType t = 0) : ¬ f_X9_isType (t &&& 65535) = 0 := by
  obtain ⟨j, hj, rfl, h1, h2⟩ := x_ty h
  rw [x_and hj]
  exact x_tyR (by omega) (by omega) (by omega)
theorem x_m16 (t : Int32) : (t &&& 65535) >>> (16 &&& 31) = 0 := by
  obtain ⟨j, hj, e⟩ := x_mk t
  rw [e, x_shr (by omega), show j / 65536 = 0 by omega]
  rfl
theorem x_tycm {t : Int32} (h : ¬ f_X9_isType t = 0) (hp : f_X9_isPrimitive t = 0) (hm : t >>> (16 &&& 31) = 0) : 0 ≤ t &&& 65535 ∧ t &&& 65535 < 4 := by
  have h4 := x_tyc h hp (by rw [hm]; decide)
  obtain ⟨j, hj, rfl, h1, h2⟩ := x_ty h
  refine ⟨x_mpos _, ?_⟩
  rw [x_c4, nI_ltI (by omega) (by omega)] at h4
  rw [x_and hj, x_c4, nI_ltI (by omega) (by omega)]
  omega
theorem x_tyinm {t : Int32} (h : ¬ f_X9_isType t = 0) (hp : f_X9_isPrimitive t = 0) (hm : t >>> (16 &&& 31) = 0) : vp_in (t &&& 65535) 200 := x_in4 (x_tycm h hp hm).1 (x_tycm h hp hm).2
theorem x_np {x : Int32} (h : ¬ 65528 ≤ x) : f_X9_isPrimitive x = 0 := by
  unfold f_X9_isPrimitive
  rw [if_pos (Int32.not_le.mp h)]
theorem x_bel0 {y : Int32} (h0 : 0 ≤ y) (h4 : y < 4) : ¬ f_X9_below y 0 = 0 := by
  unfold f_X9_below
  by_cases h : y = 0
  · rw [if_pos h]; decide
  · rw [if_neg h, if_neg h, if_pos rfl]; decide
