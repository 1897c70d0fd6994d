set_option maxHeartbeats 4000000 in
theorem y_X7_enter {v7_2 : Int32} {g7_0 : Nat → Int32} {g7_1 : Nat → Int32} {p1 : Int32} {p2 : Int32} (k0 : 4 ≤ v7_2.toInt) (k1 : v7_2.toInt < 200) (k2 : y_Rg 200 0 199 g7_0) (k3 : 0 ≤ p1.toInt) (k4 : p1.toInt ≤ 199) : y_Ok (f_X7_enter v7_2 g7_0 g7_1 p1 p2) (fun r => (r.1.toInt = v7_2.toInt) ∧ (r.2.1.toInt = v7_2.toInt + 1) ∧ (y_Rg 200 0 199 r.2.2.1)) := by
  unfold f_X7_enter
  refine y_gd (y_gdI (by omega) (by omega)) ?_
  refine y_gd (y_gdI (by omega) (by omega)) ?_
  try have e1 := @y_addL v7_2 (1 : Int32) (1) rfl (by omega) (by omega)
  try have e2 := @y_cl v7_2 (by omega)
  try have e3 : y_Rg 200 0 199 (upd g7_0 (Int32.toNatClampNeg v7_2) p1) := y_Rg_upd k2 (by omega) (by omega)
  try have e4 := @y_nb p2 (by omega) (by omega)
  refine y_some ?_
  try dsimp only
  refine ⟨?_, ?_, ?_⟩ <;> (first | with_reducible assumption | omega | ((with_reducible refine y_Vl ?_ ?_) <;> omega) | (unfold y_Ty; omega) | (exact Or.inl (by omega)) | (exact Or.inr (by (unfold y_Ty; omega))) | (unfold y_Rs y_Ty; omega))
set_option maxHeartbeats 4000000 in
theorem y_X8_add {v7_2 : Int32} {g7_0 : Nat → Int32} {g7_1 : Nat → Int32} {p1 : Int32} {p2 : Int32} (k0 : 4 ≤ v7_2.toInt) (k1 : v7_2.toInt ≤ 200) (k2 : y_Rg 200 0 199 g7_0) : y_Ok (f_X8_add v7_2 g7_0 g7_1 p1 p2) (fun r => (4 ≤ r.2.2.1.toInt) ∧ (r.2.2.1.toInt ≤ 200) ∧ (y_Rg 200 0 199 r.2.2.2.1)) := by
  unfold f_X8_add
  refine y_bi (y_X7_isClass) (fun r_1 h_r_1 => ?_)
  have h0_r_1 : (r_1.toInt = 0 ∧ ¬ (0 ≤ p1.toInt ∧ p1.toInt < v7_2.toInt)) ∨ (r_1.toInt = 1 ∧ (0 ≤ p1.toInt ∧ p1.toInt < v7_2.toInt)) := h_r_1
  refine y_if (fun c1 => ?_) (fun c1 => ?_)
  · skip
    have e2 : (0 : Int32).toInt = 0 := rfl
    have c1' := c1
    rw [← Int32.toInt_inj] at c1'
    have e3 := y_or0 h0_r_1 c1'
    clear h0_r_1
    have e4 : (1 : Int32).toInt = 1 := rfl
    refine y_some ?_
    try dsimp only
    refine ⟨?_, ?_, ?_⟩ <;> (first | with_reducible assumption | omega | ((with_reducible refine y_Vl ?_ ?_) <;> omega) | (unfold y_Ty; omega) | (exact Or.inl (by omega)) | (exact Or.inr (by (unfold y_Ty; omega))) | (unfold y_Rs y_Ty; omega))
  · skip
    have e5 : (0 : Int32).toInt = 0 := rfl
    have c1' := c1
    rw [← Int32.toInt_inj] at c1'
    have e6 := y_or1 h0_r_1 c1'
    clear h0_r_1
    refine y_gd (y_gdI (by omega) (by omega)) ?_
    refine y_if (fun c7 => ?_) (fun c7 => ?_)
    · skip
      try have e8 := @y_cl p1 (by omega)
      have c7' := c7
      rw [← Int32.toInt_inj] at c7'
      refine y_if (fun c9 => ?_) (fun c9 => ?_)
      · skip
        have c9' := c9
        rw [← Int32.toInt_inj] at c9'
        refine y_if (fun c10 => ?_) (fun c10 => ?_)
        · skip
          have e11 : (200 : Int32).toInt = 200 := rfl
          have c10' := c10
          rw [Int32.lt_iff_toInt_lt] at c10'
          refine y_bi (y_X7_enter (by omega) (by omega) (by first | with_reducible assumption | omega | ((with_reducible refine y_Vl ?_ ?_) <;> omega) | (unfold y_Ty; omega) | (exact Or.inl (by omega)) | (exact Or.inr (by (unfold y_Ty; omega))) | (unfold y_Rs y_Ty; omega)) (by omega) (by omega)) (fun r_7 h_r_7 => ?_)
          obtain ⟨h0_r_7, h1_r_7, h2_r_7⟩ := h_r_7
          refine y_some ?_
          try dsimp only
          refine ⟨?_, ?_, ?_⟩ <;> (first | with_reducible assumption | omega | ((with_reducible refine y_Vl ?_ ?_) <;> omega) | (unfold y_Ty; omega) | (exact Or.inl (by omega)) | (exact Or.inr (by (unfold y_Ty; omega))) | (unfold y_Rs y_Ty; omega))
        · skip
          have e12 : (200 : Int32).toInt = 200 := rfl
          have c10' := c10
          rw [Int32.lt_iff_toInt_lt] at c10'
          have e13 : (2 : Int32).toInt = 2 := rfl
          refine y_some ?_
          try dsimp only
          refine ⟨?_, ?_, ?_⟩ <;> (first | with_reducible assumption | omega | ((with_reducible refine y_Vl ?_ ?_) <;> omega) | (unfold y_Ty; omega) | (exact Or.inl (by omega)) | (exact Or.inr (by (unfold y_Ty; omega))) | (unfold y_Rs y_Ty; omega))
      · skip
        have c9' := c9
        rw [← Int32.toInt_inj] at c9'
        refine y_if (fun c14 => ?_) (fun c14 => ?_)
        · skip
          have c14' := c14
          rw [← Int32.toInt_inj] at c14'
          refine y_if (fun c15 => ?_) (fun c15 => ?_)
          · skip
            have e16 : (200 : Int32).toInt = 200 := rfl
            have c15' := c15
            rw [Int32.lt_iff_toInt_lt] at c15'
            refine y_bi (y_X7_enter (by omega) (by omega) (by first | with_reducible assumption | omega | ((with_reducible refine y_Vl ?_ ?_) <;> omega) | (unfold y_Ty; omega) | (exact Or.inl (by omega)) | (exact Or.inr (by (unfold y_Ty; omega))) | (unfold y_Rs y_Ty; omega)) (by omega) (by omega)) (fun r_10 h_r_10 => ?_)
            obtain ⟨h0_r_10, h1_r_10, h2_r_10⟩ := h_r_10
            refine y_some ?_
            try dsimp only
            refine ⟨?_, ?_, ?_⟩ <;> (first | with_reducible assumption | omega | ((with_reducible refine y_Vl ?_ ?_) <;> omega) | (unfold y_Ty; omega) | (exact Or.inl (by omega)) | (exact Or.inr (by (unfold y_Ty; omega))) | (unfold y_Rs y_Ty; omega))
          · skip
            have e17 : (200 : Int32).toInt = 200 := rfl
            have c15' := c15
            rw [Int32.lt_iff_toInt_lt] at c15'
            have e18 : (2 : Int32).toInt = 2 := rfl
            refine y_some ?_
            try dsimp only
            refine ⟨?_, ?_, ?_⟩ <;> (first | with_reducible assumption | omega | ((with_reducible refine y_Vl ?_ ?_) <;> omega) | (unfold y_Ty; omega) | (exact Or.inl (by omega)) | (exact Or.inr (by (unfold y_Ty; omega))) | (unfold y_Rs y_Ty; omega))
        · skip
          have c14' := c14
          rw [← Int32.toInt_inj] at c14'
          have e19 : (1 : Int32).toInt = 1 := rfl
          refine y_some ?_
          try dsimp only
          refine ⟨?_, ?_, ?_⟩ <;> (first | with_reducible assumption | omega | ((with_reducible refine y_Vl ?_ ?_) <;> omega) | (unfold y_Ty; omega) | (exact Or.inl (by omega)) | (exact Or.inr (by (unfold y_Ty; omega))) | (unfold y_Rs y_Ty; omega))
    · skip
      try have e20 := @y_cl p1 (by omega)
      have c7' := c7
      rw [← Int32.toInt_inj] at c7'
      have e21 : (1 : Int32).toInt = 1 := rfl
      refine y_some ?_
      try dsimp only
      refine ⟨?_, ?_, ?_⟩ <;> (first | with_reducible assumption | omega | ((with_reducible refine y_Vl ?_ ?_) <;> omega) | (unfold y_Ty; omega) | (exact Or.inl (by omega)) | (exact Or.inr (by (unfold y_Ty; omega))) | (unfold y_Rs y_Ty; omega))
set_option maxHeartbeats 4000000 in
theorem y_X4_enterField {v4_2 : Int32} {g4_0 : Nat → Int32} {g4_1 : Nat → Int32} {p1 : Int32} {p2 : Int32} (k0 : 0 ≤ v4_2.toInt) (k1 : v4_2.toInt < 100) (k2 : y_Rg 100 0 199 g4_0) (k3 : y_ATy 100 g4_1) (k4 : 0 ≤ p1.toInt) (k5 : p1.toInt ≤ 199) (k6 : y_Ty p2) : y_Ok (f_X4_enterField v4_2 g4_0 g4_1 p1 p2) (fun r => (r.2.1.toInt = v4_2.toInt + 1) ∧ (y_Rg 100 0 199 r.2.2.1) ∧ (y_ATy 100 r.2.2.2)) := by
  unfold f_X4_enterField
  refine y_gd (y_gdI (by omega) (by omega)) ?_
  refine y_gd (y_gdI (by omega) (by omega)) ?_
  try have e1 := @y_addL v4_2 (1 : Int32) (1) rfl (by omega) (by omega)
  try have e2 := @y_cl v4_2 (by omega)
  try have e3 : y_Rg 100 0 199 (upd g4_0 (Int32.toNatClampNeg v4_2) p1) := y_Rg_upd k2 (by omega) (by omega)
  try have e4 : y_ATy 100 (upd g4_1 (Int32.toNatClampNeg v4_2) p2) := y_ATy_upd k3 (by first | with_reducible assumption | omega | ((with_reducible refine y_Vl ?_ ?_) <;> omega) | (unfold y_Ty; omega) | (exact Or.inl (by omega)) | (exact Or.inr (by (unfold y_Ty; omega))) | (unfold y_Rs y_Ty; omega))
  refine y_some ?_
  try dsimp only
  refine ⟨?_, ?_, ?_⟩ <;> (first | with_reducible assumption | omega | ((with_reducible refine y_Vl ?_ ?_) <;> omega) | (unfold y_Ty; omega) | (exact Or.inl (by omega)) | (exact Or.inr (by (unfold y_Ty; omega))) | (unfold y_Rs y_Ty; omega))
set_option maxHeartbeats 4000000 in
theorem y_X8_field {v7_2 : Int32} {v4_2 : Int32} {g4_0 : Nat → Int32} {g4_1 : Nat → Int32} {p1 : Int32} {p2 : Int32} (k0 : 4 ≤ v7_2.toInt) (k1 : v7_2.toInt ≤ 200) (k2 : 0 ≤ v4_2.toInt) (k3 : v4_2.toInt ≤ 100) (k4 : y_Rg 100 0 199 g4_0) (k5 : y_ATy 100 g4_1) : y_Ok (f_X8_field v7_2 v4_2 g4_0 g4_1 p1 p2) (fun r => (0 ≤ r.2.2.1.toInt) ∧ (r.2.2.1.toInt ≤ 100) ∧ (y_Rg 100 0 199 r.2.2.2.1) ∧ (y_ATy 100 r.2.2.2.2)) := by
  unfold f_X8_field
  refine y_bi (y_X7_isClass) (fun r_1 h_r_1 => ?_)
  have h0_r_1 : (r_1.toInt = 0 ∧ ¬ (0 ≤ p1.toInt ∧ p1.toInt < v7_2.toInt)) ∨ (r_1.toInt = 1 ∧ (0 ≤ p1.toInt ∧ p1.toInt < v7_2.toInt)) := h_r_1
  refine y_if (fun c1 => ?_) (fun c1 => ?_)
  · skip
    have e2 : (0 : Int32).toInt = 0 := rfl
    have c1' := c1
    rw [← Int32.toInt_inj] at c1'
    have e3 := y_or0 h0_r_1 c1'
    clear h0_r_1
    have e4 : (1 : Int32).toInt = 1 := rfl
    refine y_some ?_
    try dsimp only
    refine ⟨?_, ?_, ?_, ?_⟩ <;> (first | with_reducible assumption | omega | ((with_reducible refine y_Vl ?_ ?_) <;> omega) | (unfold y_Ty; omega) | (exact Or.inl (by omega)) | (exact Or.inr (by (unfold y_Ty; omega))) | (unfold y_Rs y_Ty; omega))
  · skip
    have e5 : (0 : Int32).toInt = 0 := rfl
    have c1' := c1
    rw [← Int32.toInt_inj] at c1'
    have e6 := y_or1 h0_r_1 c1'
    clear h0_r_1
    refine y_bi (y_X7_isType (by omega) (by omega)) (fun r_3 h_r_3 => ?_)
    have h0_r_3 : (r_3.toInt = 0 ∧ ¬ (0 ≤ p2.toInt ∧ p2.toInt < 16777216 ∧ (p2.toInt % 65536 < v7_2.toInt ∨ 65528 ≤ p2.toInt % 65536))) ∨ (r_3.toInt = 1 ∧ (0 ≤ p2.toInt ∧ p2.toInt < 16777216 ∧ (p2.toInt % 65536 < v7_2.toInt ∨ 65528 ≤ p2.toInt % 65536))) := h_r_3
    refine y_if (fun c7 => ?_) (fun c7 => ?_)
    · skip
      have c7' := c7
      rw [← Int32.toInt_inj] at c7'
      have e8 := y_or0 h0_r_3 c7'
      clear h0_r_3
      have e9 : (1 : Int32).toInt = 1 := rfl
      refine y_some ?_
      try dsimp only
      refine ⟨?_, ?_, ?_, ?_⟩ <;> (first | with_reducible assumption | omega | ((with_reducible refine y_Vl ?_ ?_) <;> omega) | (unfold y_Ty; omega) | (exact Or.inl (by omega)) | (exact Or.inr (by (unfold y_Ty; omega))) | (unfold y_Rs y_Ty; omega))
    · skip
      have c7' := c7
      rw [← Int32.toInt_inj] at c7'
      have e10 := y_or1 h0_r_3 c7'
      clear h0_r_3
      refine y_if (fun c11 => ?_) (fun c11 => ?_)
      · skip
        have e12 : (100 : Int32).toInt = 100 := rfl
        have c11' := c11
        rw [Int32.lt_iff_toInt_lt] at c11'
        refine y_bi (y_X4_enterField (by omega) (by omega) (by first | with_reducible assumption | omega | ((with_reducible refine y_Vl ?_ ?_) <;> omega) | (unfold y_Ty; omega) | (exact Or.inl (by omega)) | (exact Or.inr (by (unfold y_Ty; omega))) | (unfold y_Rs y_Ty; omega)) (by first | with_reducible assumption | omega | ((with_reducible refine y_Vl ?_ ?_) <;> omega) | (unfold y_Ty; omega) | (exact Or.inl (by omega)) | (exact Or.inr (by (unfold y_Ty; omega))) | (unfold y_Rs y_Ty; omega)) (by omega) (by omega) (by first | with_reducible assumption | omega | ((with_reducible refine y_Vl ?_ ?_) <;> omega) | (unfold y_Ty; omega) | (exact Or.inl (by omega)) | (exact Or.inr (by (unfold y_Ty; omega))) | (unfold y_Rs y_Ty; omega))) (fun r_6 h_r_6 => ?_)
        obtain ⟨h0_r_6, h1_r_6, h2_r_6⟩ := h_r_6
        refine y_some ?_
        try dsimp only
        refine ⟨?_, ?_, ?_, ?_⟩ <;> (first | with_reducible assumption | omega | ((with_reducible refine y_Vl ?_ ?_) <;> omega) | (unfold y_Ty; omega) | (exact Or.inl (by omega)) | (exact Or.inr (by (unfold y_Ty; omega))) | (unfold y_Rs y_Ty; omega))
      · skip
        have e13 : (100 : Int32).toInt = 100 := rfl
        have c11' := c11
        rw [Int32.lt_iff_toInt_lt] at c11'
        have e14 : (2 : Int32).toInt = 2 := rfl
        refine y_some ?_
        try dsimp only
        refine ⟨?_, ?_, ?_, ?_⟩ <;> (first | with_reducible assumption | omega | ((with_reducible refine y_Vl ?_ ?_) <;> omega) | (unfold y_Ty; omega) | (exact Or.inl (by omega)) | (exact Or.inr (by (unfold y_Ty; omega))) | (unfold y_Rs y_Ty; omega))
set_option maxHeartbeats 4000000 in
theorem y_X4_enterShape {v4_8 : Int32} {g4_3 : Nat → Int32} {g4_4 : Nat → Int32} {g4_5 : Nat → Int32} {p1 : Int32} {p2 : Int32} {p3 : Int32} (k0 : 0 ≤ v4_8.toInt) (k1 : v4_8.toInt < 100) (k2 : y_Rg 100 0 199 g4_3) (k3 : y_ARs 100 g4_4) (k4 : 0 ≤ p1.toInt) (k5 : p1.toInt ≤ 199) (k6 : y_Rs p2) : y_Ok (f_X4_enterShape v4_8 g4_3 g4_4 g4_5 p1 p2 p3) (fun r => (r.2.1.toInt = v4_8.toInt + 1) ∧ (y_Rg 100 0 199 r.2.2.1) ∧ (y_ARs 100 r.2.2.2.1)) := by
  unfold f_X4_enterShape
  refine y_gd (y_gdI (by omega) (by omega)) ?_
  refine y_gd (y_gdI (by omega) (by omega)) ?_
  refine y_gd (y_gdI (by omega) (by omega)) ?_
  try have e1 := @y_addL v4_8 (1 : Int32) (1) rfl (by omega) (by omega)
  try have e2 := @y_cl v4_8 (by omega)
  try have e3 : y_Rg 100 0 199 (upd g4_3 (Int32.toNatClampNeg v4_8) p1) := y_Rg_upd k2 (by omega) (by omega)
  try have e4 : y_ARs 100 (upd g4_4 (Int32.toNatClampNeg v4_8) p2) := y_ARs_upd k3 (by first | with_reducible assumption | omega | ((with_reducible refine y_Vl ?_ ?_) <;> omega) | (unfold y_Ty; omega) | (exact Or.inl (by omega)) | (exact Or.inr (by (unfold y_Ty; omega))) | (unfold y_Rs y_Ty; omega))
  try have e5 := @y_nb p3 (by omega) (by omega)
  refine y_some ?_
  try dsimp only
  refine ⟨?_, ?_, ?_⟩ <;> (first | with_reducible assumption | omega | ((with_reducible refine y_Vl ?_ ?_) <;> omega) | (unfold y_Ty; omega) | (exact Or.inl (by omega)) | (exact Or.inr (by (unfold y_Ty; omega))) | (unfold y_Rs y_Ty; omega))
set_option maxHeartbeats 4000000 in
theorem y_X8_shape {v7_2 : Int32} {g7_1 : Nat → Int32} {v4_8 : Int32} {g4_3 : Nat → Int32} {g4_4 : Nat → Int32} {g4_5 : Nat → Int32} {p1 : Int32} {p2 : Int32} {p3 : Int32} (k0 : 4 ≤ v7_2.toInt) (k1 : v7_2.toInt ≤ 200) (k2 : 0 ≤ v4_8.toInt) (k3 : v4_8.toInt ≤ 100) (k4 : y_Rg 100 0 199 g4_3) (k5 : y_ARs 100 g4_4) : y_Ok (f_X8_shape v7_2 g7_1 v4_8 g4_3 g4_4 g4_5 p1 p2 p3) (fun r => (0 ≤ r.2.2.1.toInt) ∧ (r.2.2.1.toInt ≤ 100) ∧ (y_Rg 100 0 199 r.2.2.2.1) ∧ (y_ARs 100 r.2.2.2.2.1)) := by
  unfold f_X8_shape
  refine y_bi (y_X7_isClass) (fun r_1 h_r_1 => ?_)
  have h0_r_1 : (r_1.toInt = 0 ∧ ¬ (0 ≤ p1.toInt ∧ p1.toInt < v7_2.toInt)) ∨ (r_1.toInt = 1 ∧ (0 ≤ p1.toInt ∧ p1.toInt < v7_2.toInt)) := h_r_1
  refine y_if (fun c1 => ?_) (fun c1 => ?_)
  · skip
    have e2 : (0 : Int32).toInt = 0 := rfl
    have c1' := c1
    rw [← Int32.toInt_inj] at c1'
    have e3 := y_or0 h0_r_1 c1'
    clear h0_r_1
    have e4 : (1 : Int32).toInt = 1 := rfl
    refine y_some ?_
    try dsimp only
    refine ⟨?_, ?_, ?_, ?_⟩ <;> (first | with_reducible assumption | omega | ((with_reducible refine y_Vl ?_ ?_) <;> omega) | (unfold y_Ty; omega) | (exact Or.inl (by omega)) | (exact Or.inr (by (unfold y_Ty; omega))) | (unfold y_Rs y_Ty; omega))
  · skip
    have e5 : (0 : Int32).toInt = 0 := rfl
    have c1' := c1
    rw [← Int32.toInt_inj] at c1'
    have e6 := y_or1 h0_r_1 c1'
    clear h0_r_1
    refine y_bi (y_X7_isResult (by omega) (by omega)) (fun r_3 h_r_3 => ?_)
    have h0_r_3 : (r_3.toInt = 0 ∧ ¬ (p2.toInt = -1 ∨ (0 ≤ p2.toInt ∧ p2.toInt < 16777216 ∧ (p2.toInt % 65536 < v7_2.toInt ∨ 65528 ≤ p2.toInt % 65536)))) ∨ (r_3.toInt = 1 ∧ (p2.toInt = -1 ∨ (0 ≤ p2.toInt ∧ p2.toInt < 16777216 ∧ (p2.toInt % 65536 < v7_2.toInt ∨ 65528 ≤ p2.toInt % 65536)))) := h_r_3
    refine y_if (fun c7 => ?_) (fun c7 => ?_)
    · skip
      have c7' := c7
      rw [← Int32.toInt_inj] at c7'
      have e8 := y_or0 h0_r_3 c7'
      clear h0_r_3
      have e9 : (1 : Int32).toInt = 1 := rfl
      refine y_some ?_
      try dsimp only
      refine ⟨?_, ?_, ?_, ?_⟩ <;> (first | with_reducible assumption | omega | ((with_reducible refine y_Vl ?_ ?_) <;> omega) | (unfold y_Ty; omega) | (exact Or.inl (by omega)) | (exact Or.inr (by (unfold y_Ty; omega))) | (unfold y_Rs y_Ty; omega))
    · skip
      have c7' := c7
      rw [← Int32.toInt_inj] at c7'
      have e10 := y_or1 h0_r_3 c7'
      clear h0_r_3
      refine y_if (fun c11 => ?_) (fun c11 => ?_)
      · skip
        have c11' := c11
        rw [← Int32.toInt_inj] at c11'
        refine y_if (fun c12 => ?_) (fun c12 => ?_)
        · skip
          have e13 : (100 : Int32).toInt = 100 := rfl
          have c12' := c12
          rw [Int32.lt_iff_toInt_lt] at c12'
          refine y_bi (y_X4_enterShape (by omega) (by omega) (by first | with_reducible assumption | omega | ((with_reducible refine y_Vl ?_ ?_) <;> omega) | (unfold y_Ty; omega) | (exact Or.inl (by omega)) | (exact Or.inr (by (unfold y_Ty; omega))) | (unfold y_Rs y_Ty; omega)) (by first | with_reducible assumption | omega | ((with_reducible refine y_Vl ?_ ?_) <;> omega) | (unfold y_Ty; omega) | (exact Or.inl (by omega)) | (exact Or.inr (by (unfold y_Ty; omega))) | (unfold y_Rs y_Ty; omega)) (by omega) (by omega) (by first | with_reducible assumption | omega | ((with_reducible refine y_Vl ?_ ?_) <;> omega) | (unfold y_Ty; omega) | (exact Or.inl (by omega)) | (exact Or.inr (by (unfold y_Ty; omega))) | (unfold y_Rs y_Ty; omega))) (fun r_7 h_r_7 => ?_)
          obtain ⟨h0_r_7, h1_r_7, h2_r_7⟩ := h_r_7
          refine y_some ?_
          try dsimp only
          refine ⟨?_, ?_, ?_, ?_⟩ <;> (first | with_reducible assumption | omega | ((with_reducible refine y_Vl ?_ ?_) <;> omega) | (unfold y_Ty; omega) | (exact Or.inl (by omega)) | (exact Or.inr (by (unfold y_Ty; omega))) | (unfold y_Rs y_Ty; omega))
        · skip
          have e14 : (100 : Int32).toInt = 100 := rfl
          have c12' := c12
          rw [Int32.lt_iff_toInt_lt] at c12'
          have e15 : (2 : Int32).toInt = 2 := rfl
          refine y_some ?_
          try dsimp only
          refine ⟨?_, ?_, ?_, ?_⟩ <;> (first | with_reducible assumption | omega | ((with_reducible refine y_Vl ?_ ?_) <;> omega) | (unfold y_Ty; omega) | (exact Or.inl (by omega)) | (exact Or.inr (by (unfold y_Ty; omega))) | (unfold y_Rs y_Ty; omega))
      · skip
        have c11' := c11
        rw [← Int32.toInt_inj] at c11'
        refine y_if (fun c16 => ?_) (fun c16 => ?_)
        · skip
          have c16' : p2.toInt = -1 := (y_eqN rfl).mp c16
          refine y_gd (y_gdI (by omega) (by omega)) ?_
          refine y_if (fun c17 => ?_) (fun c17 => ?_)
          · skip
            try have e18 := @y_cl p1 (by omega)
            have c17' := c17
            rw [← Int32.toInt_inj] at c17'
            refine y_if (fun c19 => ?_) (fun c19 => ?_)
            · skip
              have e20 : (100 : Int32).toInt = 100 := rfl
              have c19' := c19
              rw [Int32.lt_iff_toInt_lt] at c19'
              refine y_bi (y_X4_enterShape (by omega) (by omega) (by first | with_reducible assumption | omega | ((with_reducible refine y_Vl ?_ ?_) <;> omega) | (unfold y_Ty; omega) | (exact Or.inl (by omega)) | (exact Or.inr (by (unfold y_Ty; omega))) | (unfold y_Rs y_Ty; omega)) (by first | with_reducible assumption | omega | ((with_reducible refine y_Vl ?_ ?_) <;> omega) | (unfold y_Ty; omega) | (exact Or.inl (by omega)) | (exact Or.inr (by (unfold y_Ty; omega))) | (unfold y_Rs y_Ty; omega)) (by omega) (by omega) (by first | with_reducible assumption | omega | ((with_reducible refine y_Vl ?_ ?_) <;> omega) | (unfold y_Ty; omega) | (exact Or.inl (by omega)) | (exact Or.inr (by (unfold y_Ty; omega))) | (unfold y_Rs y_Ty; omega))) (fun r_12 h_r_12 => ?_)
              obtain ⟨h0_r_12, h1_r_12, h2_r_12⟩ := h_r_12
              refine y_some ?_
              try dsimp only
              refine ⟨?_, ?_, ?_, ?_⟩ <;> (first | with_reducible assumption | omega | ((with_reducible refine y_Vl ?_ ?_) <;> omega) | (unfold y_Ty; omega) | (exact Or.inl (by omega)) | (exact Or.inr (by (unfold y_Ty; omega))) | (unfold y_Rs y_Ty; omega))
            · skip
              have e21 : (100 : Int32).toInt = 100 := rfl
              have c19' := c19
              rw [Int32.lt_iff_toInt_lt] at c19'
              have e22 : (2 : Int32).toInt = 2 := rfl
              refine y_some ?_
              try dsimp only
              refine ⟨?_, ?_, ?_, ?_⟩ <;> (first | with_reducible assumption | omega | ((with_reducible refine y_Vl ?_ ?_) <;> omega) | (unfold y_Ty; omega) | (exact Or.inl (by omega)) | (exact Or.inr (by (unfold y_Ty; omega))) | (unfold y_Rs y_Ty; omega))
          · skip
            try have e23 := @y_cl p1 (by omega)
            have c17' := c17
            rw [← Int32.toInt_inj] at c17'
            have e24 : (1 : Int32).toInt = 1 := rfl
            refine y_some ?_
            try dsimp only
            refine ⟨?_, ?_, ?_, ?_⟩ <;> (first | with_reducible assumption | omega | ((with_reducible refine y_Vl ?_ ?_) <;> omega) | (unfold y_Ty; omega) | (exact Or.inl (by omega)) | (exact Or.inr (by (unfold y_Ty; omega))) | (unfold y_Rs y_Ty; omega))
        · skip
          have c16' : ¬ p2.toInt = -1 := fun hz => c16 ((y_eqN rfl).mpr hz)
          have e25 : (1 : Int32).toInt = 1 := rfl
          refine y_some ?_
          try dsimp only
          refine ⟨?_, ?_, ?_, ?_⟩ <;> (first | with_reducible assumption | omega | ((with_reducible refine y_Vl ?_ ?_) <;> omega) | (unfold y_Ty; omega) | (exact Or.inl (by omega)) | (exact Or.inr (by (unfold y_Ty; omega))) | (unfold y_Rs y_Ty; omega))
set_option maxHeartbeats 4000000 in
theorem y_X4_canTakeMore {v4_8 : Int32} {g4_7 : Nat → Int32} (k0 : 0 ≤ v4_8.toInt) (k1 : v4_8.toInt ≤ 100) (k2 : y_Rg 100 0 20 g4_7) : y_Ok (f_X4_canTakeMore v4_8 g4_7) (fun r => (r.toInt = 0 ∨ (r.toInt = 1 ∧ (1 ≤ v4_8.toInt ∧ (g4_7 (Int32.toNatClampNeg (v4_8 - (1 : Int32)))).toInt < 20)))) := by
  unfold f_X4_canTakeMore
  refine y_if (fun c1 => ?_) (fun c1 => ?_)
  · skip
    have e2 : (0 : Int32).toInt = 0 := rfl
    have c1' := c1
    rw [Int32.le_iff_toInt_le] at c1'
    refine y_some ?_
    try dsimp only
    (first | with_reducible assumption | omega | ((with_reducible refine y_Vl ?_ ?_) <;> omega) | (unfold y_Ty; omega) | (exact Or.inl (by omega)) | (exact Or.inr (by (unfold y_Ty; omega))) | (unfold y_Rs y_Ty; omega) | (exact Or.inr ⟨by omega, by omega, by omega⟩))
  · skip
    have e3 : (0 : Int32).toInt = 0 := rfl
    have c1' := c1
    rw [Int32.le_iff_toInt_le] at c1'
    try have e4 := @y_subL v4_8 (1 : Int32) (1) rfl (by omega) (by omega)
    refine y_gd (y_gdI (by omega) (by omega)) ?_
    refine y_if (fun c5 => ?_) (fun c5 => ?_)
    · skip
      have e6 : (20 : Int32).toInt = 20 := rfl
      try have e7 := @y_cl (v4_8 - (1 : Int32)) (by omega)
      try have e8 := k2.at (Int32.toNatClampNeg (v4_8 - (1 : Int32))) (by omega)
      have c5' := c5
      rw [Int32.le_iff_toInt_le] at c5'
      refine y_some ?_
      try dsimp only
      (first | with_reducible assumption | omega | ((with_reducible refine y_Vl ?_ ?_) <;> omega) | (unfold y_Ty; omega) | (exact Or.inl (by omega)) | (exact Or.inr (by (unfold y_Ty; omega))) | (unfold y_Rs y_Ty; omega) | (exact Or.inr ⟨by omega, by omega, by omega⟩))
    · skip
      have e9 : (20 : Int32).toInt = 20 := rfl
      try have e10 := @y_cl (v4_8 - (1 : Int32)) (by omega)
      try have e11 := k2.at (Int32.toNatClampNeg (v4_8 - (1 : Int32))) (by omega)
      have c5' := c5
      rw [Int32.le_iff_toInt_le] at c5'
      have e12 : (1 : Int32).toInt = 1 := rfl
      refine y_some ?_
      try dsimp only
      (first | with_reducible assumption | omega | ((with_reducible refine y_Vl ?_ ?_) <;> omega) | (unfold y_Ty; omega) | (exact Or.inl (by omega)) | (exact Or.inr (by (unfold y_Ty; omega))) | (unfold y_Rs y_Ty; omega) | (exact Or.inr ⟨by omega, by omega, by omega⟩))
set_option maxHeartbeats 4000000 in
theorem y_X4_takeMore {v4_8 : Int32} {g4_6 : Nat → Int32} {g4_7 : Nat → Int32} {p1 : Int32} (k0 : 0 ≤ v4_8.toInt) (k1 : v4_8.toInt ≤ 100) (k2 : y_ATy 2000 g4_6) (k3 : y_Rg 100 0 20 g4_7) (k4 : 1 ≤ v4_8.toInt) (k5 : (g4_7 (Int32.toNatClampNeg (v4_8 - (1 : Int32)))).toInt < 20) (k6 : y_Ty p1) : y_Ok (f_X4_takeMore v4_8 g4_6 g4_7 p1) (fun r => (y_ATy 2000 r.2.1) ∧ (y_Rg 100 0 20 r.2.2)) := by
  unfold f_X4_takeMore
  try have e1 := @y_subL v4_8 (1 : Int32) (1) rfl (by omega) (by omega)
  refine y_gd (y_gdI (by omega) (by omega)) ?_
  have e2 : (20 : Int32).toInt = 20 := rfl
  try have e3 := @y_mulR (v4_8 - (1 : Int32)) (20 : Int32) 20 rfl (by omega) (by omega)
  try have e4 := @y_cl (v4_8 - (1 : Int32)) (by omega)
  try have e5 := k3.at (Int32.toNatClampNeg (v4_8 - (1 : Int32))) (by omega)
  try have e6 := @y_add ((v4_8 - (1 : Int32)) * (20 : Int32)) (g4_7 (Int32.toNatClampNeg (v4_8 - (1 : Int32)))) (by omega) (by omega)
  refine y_gd (y_gdI (by omega) (by omega)) ?_
  refine y_gd (y_gdI (by omega) (by omega)) ?_
  refine y_gd (y_gdI (by omega) (by omega)) ?_
  refine y_gd (y_gdI (by omega) (by omega)) ?_
  try have e7 := @y_addL (g4_7 (Int32.toNatClampNeg (v4_8 - (1 : Int32)))) (1 : Int32) (1) rfl (by omega) (by omega)
  try have e8 : y_Rg 100 0 20 (upd g4_7 (Int32.toNatClampNeg (v4_8 - (1 : Int32))) ((g4_7 (Int32.toNatClampNeg (v4_8 - (1 : Int32)))) + (1 : Int32))) := y_Rg_upd k3 (by omega) (by omega)
  try have e9 := e8.at (Int32.toNatClampNeg (v4_8 - (1 : Int32))) (by omega)
  try have e10 := @y_cl (((v4_8 - (1 : Int32)) * (20 : Int32)) + (g4_7 (Int32.toNatClampNeg (v4_8 - (1 : Int32))))) (by omega)
  try have e11 : y_ATy 2000 (upd g4_6 (Int32.toNatClampNeg (((v4_8 - (1 : Int32)) * (20 : Int32)) + (g4_7 (Int32.toNatClampNeg (v4_8 - (1 : Int32)))))) p1) := y_ATy_upd k2 (by first | with_reducible assumption | omega | ((with_reducible refine y_Vl ?_ ?_) <;> omega) | (unfold y_Ty; omega) | (exact Or.inl (by omega)) | (exact Or.inr (by (unfold y_Ty; omega))) | (unfold y_Rs y_Ty; omega))
  refine y_some ?_
  try dsimp only
  refine ⟨?_, ?_⟩ <;> (first | with_reducible assumption | omega | ((with_reducible refine y_Vl ?_ ?_) <;> omega) | (unfold y_Ty; omega) | (exact Or.inl (by omega)) | (exact Or.inr (by (unfold y_Ty; omega))) | (unfold y_Rs y_Ty; omega))
set_option maxHeartbeats 4000000 in
theorem y_X8_takes {v7_2 : Int32} {v4_8 : Int32} {g4_6 : Nat → Int32} {g4_7 : Nat → Int32} {p1 : Int32} (k0 : 4 ≤ v7_2.toInt) (k1 : v7_2.toInt ≤ 200) (k2 : 0 ≤ v4_8.toInt) (k3 : v4_8.toInt ≤ 100) (k4 : y_ATy 2000 g4_6) (k5 : y_Rg 100 0 20 g4_7) : y_Ok (f_X8_takes v7_2 v4_8 g4_6 g4_7 p1) (fun r => (y_ATy 2000 r.2.2.1) ∧ (y_Rg 100 0 20 r.2.2.2)) := by
  unfold f_X8_takes
  refine y_bi (y_X7_isType (by omega) (by omega)) (fun r_1 h_r_1 => ?_)
  have h0_r_1 : (r_1.toInt = 0 ∧ ¬ (0 ≤ p1.toInt ∧ p1.toInt < 16777216 ∧ (p1.toInt % 65536 < v7_2.toInt ∨ 65528 ≤ p1.toInt % 65536))) ∨ (r_1.toInt = 1 ∧ (0 ≤ p1.toInt ∧ p1.toInt < 16777216 ∧ (p1.toInt % 65536 < v7_2.toInt ∨ 65528 ≤ p1.toInt % 65536))) := h_r_1
  refine y_if (fun c1 => ?_) (fun c1 => ?_)
  · skip
    have e2 : (0 : Int32).toInt = 0 := rfl
    have c1' := c1
    rw [← Int32.toInt_inj] at c1'
    have e3 := y_or0 h0_r_1 c1'
    clear h0_r_1
    have e4 : (1 : Int32).toInt = 1 := rfl
    refine y_some ?_
    try dsimp only
    refine ⟨?_, ?_⟩ <;> (first | with_reducible assumption | omega | ((with_reducible refine y_Vl ?_ ?_) <;> omega) | (unfold y_Ty; omega) | (exact Or.inl (by omega)) | (exact Or.inr (by (unfold y_Ty; omega))) | (unfold y_Rs y_Ty; omega))
  · skip
    have e5 : (0 : Int32).toInt = 0 := rfl
    have c1' := c1
    rw [← Int32.toInt_inj] at c1'
    have e6 := y_or1 h0_r_1 c1'
    clear h0_r_1
    refine y_bi (y_X4_canTakeMore (by omega) (by omega) (by first | with_reducible assumption | omega | ((with_reducible refine y_Vl ?_ ?_) <;> omega) | (unfold y_Ty; omega) | (exact Or.inl (by omega)) | (exact Or.inr (by (unfold y_Ty; omega))) | (unfold y_Rs y_Ty; omega))) (fun r_3 h_r_3 => ?_)
    have h0_r_3 : r_3.toInt = 0 ∨ (r_3.toInt = 1 ∧ (1 ≤ v4_8.toInt ∧ (g4_7 (Int32.toNatClampNeg (v4_8 - (1 : Int32)))).toInt < 20)) := h_r_3
    refine y_if (fun c7 => ?_) (fun c7 => ?_)
    · skip
      have c7' := c7
      rw [← Int32.toInt_inj] at c7'
      have e8 : (2 : Int32).toInt = 2 := rfl
      refine y_some ?_
      try dsimp only
      refine ⟨?_, ?_⟩ <;> (first | with_reducible assumption | omega | ((with_reducible refine y_Vl ?_ ?_) <;> omega) | (unfold y_Ty; omega) | (exact Or.inl (by omega)) | (exact Or.inr (by (unfold y_Ty; omega))) | (unfold y_Rs y_Ty; omega))
    · skip
      have c7' := c7
      rw [← Int32.toInt_inj] at c7'
      refine y_bi (y_X4_takeMore (by omega) (by omega) (by first | with_reducible assumption | omega | ((with_reducible refine y_Vl ?_ ?_) <;> omega) | (unfold y_Ty; omega) | (exact Or.inl (by omega)) | (exact Or.inr (by (unfold y_Ty; omega))) | (unfold y_Rs y_Ty; omega)) (by first | with_reducible assumption | omega | ((with_reducible refine y_Vl ?_ ?_) <;> omega) | (unfold y_Ty; omega) | (exact Or.inl (by omega)) | (exact Or.inr (by (unfold y_Ty; omega))) | (unfold y_Rs y_Ty; omega)) (by omega) (by omega) (by first | with_reducible assumption | omega | ((with_reducible refine y_Vl ?_ ?_) <;> omega) | (unfold y_Ty; omega) | (exact Or.inl (by omega)) | (exact Or.inr (by (unfold y_Ty; omega))) | (unfold y_Rs y_Ty; omega))) (fun r_5 h_r_5 => ?_)
      obtain ⟨h0_r_5, h1_r_5⟩ := h_r_5
      refine y_some ?_
      try dsimp only
      refine ⟨?_, ?_⟩ <;> (first | with_reducible assumption | omega | ((with_reducible refine y_Vl ?_ ?_) <;> omega) | (unfold y_Ty; omega) | (exact Or.inl (by omega)) | (exact Or.inr (by (unfold y_Ty; omega))) | (unfold y_Rs y_Ty; omega))
set_option maxHeartbeats 4000000 in
theorem y_X0_begin {v0_0 : Int32} {v0_1 : Int32} {v0_2 : Int32} {v0_3 : Int32} {v0_4 : Int32} {v0_6 : Int32} {v0_10 : Int32} {v0_15 : Int32} {p1 : Int32} {p2 : Int32} {p3 : Int32} {p4 : Int32} {p5 : Int32} (k0 : y_Rs p3) : y_Ok (f_X0_begin v0_0 v0_1 v0_2 v0_3 v0_4 v0_6 v0_10 v0_15 p1 p2 p3 p4 p5) (fun r => (r.1.toInt = p1.toInt) ∧ (y_Rs r.2.2.1) ∧ (r.2.2.2.1.toInt = p4.toInt) ∧ (r.2.2.2.2.1.toInt = p5.toInt) ∧ (r.2.2.2.2.2.1.toInt = 0) ∧ (r.2.2.2.2.2.2.1.toInt = 0) ∧ (r.2.2.2.2.2.2.2.toInt = 0)) := by
  unfold f_X0_begin
  have e1 : (0 : Int32).toInt = 0 := rfl
  refine y_some ?_
  try dsimp only
  refine ⟨?_, ?_, ?_, ?_, ?_, ?_, ?_⟩ <;> (first | with_reducible assumption | omega | ((with_reducible refine y_Vl ?_ ?_) <;> omega) | (unfold y_Ty; omega) | (exact Or.inl (by omega)) | (exact Or.inr (by (unfold y_Ty; omega))) | (unfold y_Rs y_Ty; omega))
set_option maxHeartbeats 4000000 in
theorem y_X8_method {v7_2 : Int32} {g7_1 : Nat → Int32} {v0_0 : Int32} {v0_1 : Int32} {v0_2 : Int32} {v0_3 : Int32} {v0_4 : Int32} {v0_6 : Int32} {v0_10 : Int32} {v0_15 : Int32} {p1 : Int32} {p2 : Int32} {p3 : Int32} {p4 : Int32} {p5 : Int32} {n0_11 : Nat} {g0_12 g0_13 g0_7 g0_14 : Nat → Int32} (k0 : 4 ≤ v7_2.toInt) (k1 : v7_2.toInt ≤ 200) (k2 : 0 ≤ v0_0.toInt) (k3 : v0_0.toInt ≤ 199) (k4 : y_Rs v0_2) (k5 : 0 ≤ v0_3.toInt) (k6 : v0_3.toInt ≤ 200) (k7 : 0 ≤ v0_4.toInt) (k8 : v0_4.toInt ≤ 200) (k9 : 0 ≤ v0_6.toInt) (k10 : v0_6.toInt ≤ 20) (k11 : 0 ≤ v0_10.toInt) (k12 : v0_10.toInt ≤ 1000) (k13 : 0 ≤ v0_15.toInt) (k14 : v0_15.toInt ≤ 50) (k15 : y_SB v0_10.toInt n0_11 g0_12 g0_13 g0_7) (k16 : y_RW v0_15.toInt g0_14) : y_Ok (f_X8_method v7_2 g7_1 v0_0 v0_1 v0_2 v0_3 v0_4 v0_6 v0_10 v0_15 p1 p2 p3 p4 p5) (fun r => (0 ≤ r.2.2.1.toInt) ∧ (r.2.2.1.toInt ≤ 199) ∧ (y_Rs r.2.2.2.2.1) ∧ (0 ≤ r.2.2.2.2.2.1.toInt) ∧ (r.2.2.2.2.2.1.toInt ≤ 200) ∧ (0 ≤ r.2.2.2.2.2.2.1.toInt) ∧ (r.2.2.2.2.2.2.1.toInt ≤ 200) ∧ (0 ≤ r.2.2.2.2.2.2.2.1.toInt) ∧ (r.2.2.2.2.2.2.2.1.toInt ≤ 20) ∧ (0 ≤ r.2.2.2.2.2.2.2.2.1.toInt) ∧ (r.2.2.2.2.2.2.2.2.1.toInt ≤ 1000) ∧ (0 ≤ r.2.2.2.2.2.2.2.2.2.toInt) ∧ (r.2.2.2.2.2.2.2.2.2.toInt ≤ 50) ∧ (y_SB r.2.2.2.2.2.2.2.2.1.toInt n0_11 g0_12 g0_13 g0_7) ∧ (y_RW r.2.2.2.2.2.2.2.2.2.toInt g0_14)) := by
  unfold f_X8_method
  refine y_bi (y_X7_isClass) (fun r_1 h_r_1 => ?_)
  have h0_r_1 : (r_1.toInt = 0 ∧ ¬ (0 ≤ p1.toInt ∧ p1.toInt < v7_2.toInt)) ∨ (r_1.toInt = 1 ∧ (0 ≤ p1.toInt ∧ p1.toInt < v7_2.toInt)) := h_r_1
  refine y_if (fun c1 => ?_) (fun c1 => ?_)
  · skip
    have e2 : (0 : Int32).toInt = 0 := rfl
    have c1' := c1
    rw [← Int32.toInt_inj] at c1'
    have e3 := y_or0 h0_r_1 c1'
    clear h0_r_1
    have e4 : (1 : Int32).toInt = 1 := rfl
    refine y_some ?_
    try dsimp only
    refine ⟨?_, ?_, ?_, ?_, ?_, ?_, ?_, ?_, ?_, ?_, ?_, ?_, ?_, ?_, ?_⟩ <;> (first | with_reducible assumption | omega | ((with_reducible refine y_Vl ?_ ?_) <;> omega) | (unfold y_Ty; omega) | (exact Or.inl (by omega)) | (exact Or.inr (by (unfold y_Ty; omega))) | (unfold y_Rs y_Ty; omega) | ((with_reducible refine y_SB0 ?_) <;> omega) | ((with_reducible refine y_RW0 ?_) <;> omega))
  · skip
    have e5 : (0 : Int32).toInt = 0 := rfl
    have c1' := c1
    rw [← Int32.toInt_inj] at c1'
    have e6 := y_or1 h0_r_1 c1'
    clear h0_r_1
    refine y_if (fun c7 => ?_) (fun c7 => ?_)
    · skip
      have c7' := c7
      rw [Int32.lt_iff_toInt_lt] at c7'
      have e8 : (1 : Int32).toInt = 1 := rfl
      refine y_some ?_
      try dsimp only
      refine ⟨?_, ?_, ?_, ?_, ?_, ?_, ?_, ?_, ?_, ?_, ?_, ?_, ?_, ?_, ?_⟩ <;> (first | with_reducible assumption | omega | ((with_reducible refine y_Vl ?_ ?_) <;> omega) | (unfold y_Ty; omega) | (exact Or.inl (by omega)) | (exact Or.inr (by (unfold y_Ty; omega))) | (unfold y_Rs y_Ty; omega) | ((with_reducible refine y_SB0 ?_) <;> omega) | ((with_reducible refine y_RW0 ?_) <;> omega))
    · skip
      have c7' := c7
      rw [Int32.lt_iff_toInt_lt] at c7'
      refine y_if (fun c9 => ?_) (fun c9 => ?_)
      · skip
        have e10 : (2 : Int32).toInt = 2 := rfl
        have c9' := c9
        rw [Int32.lt_iff_toInt_lt] at c9'
        have e11 : (1 : Int32).toInt = 1 := rfl
        refine y_some ?_
        try dsimp only
        refine ⟨?_, ?_, ?_, ?_, ?_, ?_, ?_, ?_, ?_, ?_, ?_, ?_, ?_, ?_, ?_⟩ <;> (first | with_reducible assumption | omega | ((with_reducible refine y_Vl ?_ ?_) <;> omega) | (unfold y_Ty; omega) | (exact Or.inl (by omega)) | (exact Or.inr (by (unfold y_Ty; omega))) | (unfold y_Rs y_Ty; omega) | ((with_reducible refine y_SB0 ?_) <;> omega) | ((with_reducible refine y_RW0 ?_) <;> omega))
      · skip
        have e12 : (2 : Int32).toInt = 2 := rfl
        have c9' := c9
        rw [Int32.lt_iff_toInt_lt] at c9'
        refine y_bi (y_X7_isResult (by omega) (by omega)) (fun r_5 h_r_5 => ?_)
        have h0_r_5 : (r_5.toInt = 0 ∧ ¬ (p3.toInt = -1 ∨ (0 ≤ p3.toInt ∧ p3.toInt < 16777216 ∧ (p3.toInt % 65536 < v7_2.toInt ∨ 65528 ≤ p3.toInt % 65536)))) ∨ (r_5.toInt = 1 ∧ (p3.toInt = -1 ∨ (0 ≤ p3.toInt ∧ p3.toInt < 16777216 ∧ (p3.toInt % 65536 < v7_2.toInt ∨ 65528 ≤ p3.toInt % 65536)))) := h_r_5
        refine y_if (fun c13 => ?_) (fun c13 => ?_)
        · skip
          have c13' := c13
          rw [← Int32.toInt_inj] at c13'
          have e14 := y_or0 h0_r_5 c13'
          clear h0_r_5
          have e15 : (1 : Int32).toInt = 1 := rfl
          refine y_some ?_
          try dsimp only
          refine ⟨?_, ?_, ?_, ?_, ?_, ?_, ?_, ?_, ?_, ?_, ?_, ?_, ?_, ?_, ?_⟩ <;> (first | with_reducible assumption | omega | ((with_reducible refine y_Vl ?_ ?_) <;> omega) | (unfold y_Ty; omega) | (exact Or.inl (by omega)) | (exact Or.inr (by (unfold y_Ty; omega))) | (unfold y_Rs y_Ty; omega) | ((with_reducible refine y_SB0 ?_) <;> omega) | ((with_reducible refine y_RW0 ?_) <;> omega))
        · skip
          have c13' := c13
          rw [← Int32.toInt_inj] at c13'
          have e16 := y_or1 h0_r_5 c13'
          clear h0_r_5
          refine y_if (fun c17 => ?_) (fun c17 => ?_)
          · skip
            have c17' := c17
            rw [← Int32.toInt_inj] at c17'
            refine y_if (fun c18 => ?_) (fun c18 => ?_)
            · skip
              have c18' : p3.toInt = -1 := (y_eqN rfl).mp c18
              refine y_gd (y_gdI (by omega) (by omega)) ?_
              refine y_if (fun c19 => ?_) (fun c19 => ?_)
              · skip
                try have e20 := @y_cl p1 (by omega)
                have c19' := c19
                rw [← Int32.toInt_inj] at c19'
                refine y_if (fun c21 => ?_) (fun c21 => ?_)
                · skip
                  have c21' := c21
                  rw [Int32.lt_iff_toInt_lt] at c21'
                  have e22 : (1 : Int32).toInt = 1 := rfl
                  refine y_some ?_
                  try dsimp only
                  refine ⟨?_, ?_, ?_, ?_, ?_, ?_, ?_, ?_, ?_, ?_, ?_, ?_, ?_, ?_, ?_⟩ <;> (first | with_reducible assumption | omega | ((with_reducible refine y_Vl ?_ ?_) <;> omega) | (unfold y_Ty; omega) | (exact Or.inl (by omega)) | (exact Or.inr (by (unfold y_Ty; omega))) | (unfold y_Rs y_Ty; omega) | ((with_reducible refine y_SB0 ?_) <;> omega) | ((with_reducible refine y_RW0 ?_) <;> omega))
                · skip
                  have c21' := c21
                  rw [Int32.lt_iff_toInt_lt] at c21'
                  refine y_if (fun c23 => ?_) (fun c23 => ?_)
                  · skip
                    have e24 : (200 : Int32).toInt = 200 := rfl
                    have c23' := c23
                    rw [Int32.lt_iff_toInt_lt] at c23'
                    have e25 : (1 : Int32).toInt = 1 := rfl
                    refine y_some ?_
                    try dsimp only
                    refine ⟨?_, ?_, ?_, ?_, ?_, ?_, ?_, ?_, ?_, ?_, ?_, ?_, ?_, ?_, ?_⟩ <;> (first | with_reducible assumption | omega | ((with_reducible refine y_Vl ?_ ?_) <;> omega) | (unfold y_Ty; omega) | (exact Or.inl (by omega)) | (exact Or.inr (by (unfold y_Ty; omega))) | (unfold y_Rs y_Ty; omega) | ((with_reducible refine y_SB0 ?_) <;> omega) | ((with_reducible refine y_RW0 ?_) <;> omega))
                  · skip
                    have e26 : (200 : Int32).toInt = 200 := rfl
                    have c23' := c23
                    rw [Int32.lt_iff_toInt_lt] at c23'
                    refine y_if (fun c27 => ?_) (fun c27 => ?_)
                    · skip
                      have c27' := c27
                      rw [Int32.lt_iff_toInt_lt] at c27'
                      have e28 : (1 : Int32).toInt = 1 := rfl
                      refine y_some ?_
                      try dsimp only
                      refine ⟨?_, ?_, ?_, ?_, ?_, ?_, ?_, ?_, ?_, ?_, ?_, ?_, ?_, ?_, ?_⟩ <;> (first | with_reducible assumption | omega | ((with_reducible refine y_Vl ?_ ?_) <;> omega) | (unfold y_Ty; omega) | (exact Or.inl (by omega)) | (exact Or.inr (by (unfold y_Ty; omega))) | (unfold y_Rs y_Ty; omega) | ((with_reducible refine y_SB0 ?_) <;> omega) | ((with_reducible refine y_RW0 ?_) <;> omega))
                    · skip
                      have c27' := c27
                      rw [Int32.lt_iff_toInt_lt] at c27'
                      refine y_if (fun c29 => ?_) (fun c29 => ?_)
                      · skip
                        have c29' := c29
                        rw [Int32.le_iff_toInt_le] at c29'
                        refine y_bi (y_X0_begin (by first | with_reducible assumption | omega | ((with_reducible refine y_Vl ?_ ?_) <;> omega) | (unfold y_Ty; omega) | (exact Or.inl (by omega)) | (exact Or.inr (by (unfold y_Ty; omega))) | (unfold y_Rs y_Ty; omega) | ((with_reducible refine y_SB0 ?_) <;> omega) | ((with_reducible refine y_RW0 ?_) <;> omega))) (fun r_20 h_r_20 => ?_)
                        obtain ⟨h0_r_20, h1_r_20, h2_r_20, h3_r_20, h4_r_20, h5_r_20, h6_r_20⟩ := h_r_20
                        refine y_some ?_
                        try dsimp only
                        refine ⟨?_, ?_, ?_, ?_, ?_, ?_, ?_, ?_, ?_, ?_, ?_, ?_, ?_, ?_, ?_⟩ <;> (first | with_reducible assumption | omega | ((with_reducible refine y_Vl ?_ ?_) <;> omega) | (unfold y_Ty; omega) | (exact Or.inl (by omega)) | (exact Or.inr (by (unfold y_Ty; omega))) | (unfold y_Rs y_Ty; omega) | ((with_reducible refine y_SB0 ?_) <;> omega) | ((with_reducible refine y_RW0 ?_) <;> omega))
                      · skip
                        have c29' := c29
                        rw [Int32.le_iff_toInt_le] at c29'
                        have e30 : (1 : Int32).toInt = 1 := rfl
                        refine y_some ?_
                        try dsimp only
                        refine ⟨?_, ?_, ?_, ?_, ?_, ?_, ?_, ?_, ?_, ?_, ?_, ?_, ?_, ?_, ?_⟩ <;> (first | with_reducible assumption | omega | ((with_reducible refine y_Vl ?_ ?_) <;> omega) | (unfold y_Ty; omega) | (exact Or.inl (by omega)) | (exact Or.inr (by (unfold y_Ty; omega))) | (unfold y_Rs y_Ty; omega) | ((with_reducible refine y_SB0 ?_) <;> omega) | ((with_reducible refine y_RW0 ?_) <;> omega))
              · skip
                try have e31 := @y_cl p1 (by omega)
                have c19' := c19
                rw [← Int32.toInt_inj] at c19'
                have e32 : (1 : Int32).toInt = 1 := rfl
                refine y_some ?_
                try dsimp only
                refine ⟨?_, ?_, ?_, ?_, ?_, ?_, ?_, ?_, ?_, ?_, ?_, ?_, ?_, ?_, ?_⟩ <;> (first | with_reducible assumption | omega | ((with_reducible refine y_Vl ?_ ?_) <;> omega) | (unfold y_Ty; omega) | (exact Or.inl (by omega)) | (exact Or.inr (by (unfold y_Ty; omega))) | (unfold y_Rs y_Ty; omega) | ((with_reducible refine y_SB0 ?_) <;> omega) | ((with_reducible refine y_RW0 ?_) <;> omega))
            · skip
              have c18' : ¬ p3.toInt = -1 := fun hz => c18 ((y_eqN rfl).mpr hz)
              have e33 : (1 : Int32).toInt = 1 := rfl
              refine y_some ?_
              try dsimp only
              refine ⟨?_, ?_, ?_, ?_, ?_, ?_, ?_, ?_, ?_, ?_, ?_, ?_, ?_, ?_, ?_⟩ <;> (first | with_reducible assumption | omega | ((with_reducible refine y_Vl ?_ ?_) <;> omega) | (unfold y_Ty; omega) | (exact Or.inl (by omega)) | (exact Or.inr (by (unfold y_Ty; omega))) | (unfold y_Rs y_Ty; omega) | ((with_reducible refine y_SB0 ?_) <;> omega) | ((with_reducible refine y_RW0 ?_) <;> omega))
          · skip
            have c17' := c17
            rw [← Int32.toInt_inj] at c17'
            refine y_if (fun c34 => ?_) (fun c34 => ?_)
            · skip
              have c34' := c34
              rw [Int32.lt_iff_toInt_lt] at c34'
              have e35 : (1 : Int32).toInt = 1 := rfl
              refine y_some ?_
              try dsimp only
              refine ⟨?_, ?_, ?_, ?_, ?_, ?_, ?_, ?_, ?_, ?_, ?_, ?_, ?_, ?_, ?_⟩ <;> (first | with_reducible assumption | omega | ((with_reducible refine y_Vl ?_ ?_) <;> omega) | (unfold y_Ty; omega) | (exact Or.inl (by omega)) | (exact Or.inr (by (unfold y_Ty; omega))) | (unfold y_Rs y_Ty; omega) | ((with_reducible refine y_SB0 ?_) <;> omega) | ((with_reducible refine y_RW0 ?_) <;> omega))
            · skip
              have c34' := c34
              rw [Int32.lt_iff_toInt_lt] at c34'
              refine y_if (fun c36 => ?_) (fun c36 => ?_)
              · skip
                have e37 : (200 : Int32).toInt = 200 := rfl
                have c36' := c36
                rw [Int32.lt_iff_toInt_lt] at c36'
                have e38 : (1 : Int32).toInt = 1 := rfl
                refine y_some ?_
                try dsimp only
                refine ⟨?_, ?_, ?_, ?_, ?_, ?_, ?_, ?_, ?_, ?_, ?_, ?_, ?_, ?_, ?_⟩ <;> (first | with_reducible assumption | omega | ((with_reducible refine y_Vl ?_ ?_) <;> omega) | (unfold y_Ty; omega) | (exact Or.inl (by omega)) | (exact Or.inr (by (unfold y_Ty; omega))) | (unfold y_Rs y_Ty; omega) | ((with_reducible refine y_SB0 ?_) <;> omega) | ((with_reducible refine y_RW0 ?_) <;> omega))
              · skip
                have e39 : (200 : Int32).toInt = 200 := rfl
                have c36' := c36
                rw [Int32.lt_iff_toInt_lt] at c36'
                refine y_if (fun c40 => ?_) (fun c40 => ?_)
                · skip
                  have c40' := c40
                  rw [Int32.lt_iff_toInt_lt] at c40'
                  have e41 : (1 : Int32).toInt = 1 := rfl
                  refine y_some ?_
                  try dsimp only
                  refine ⟨?_, ?_, ?_, ?_, ?_, ?_, ?_, ?_, ?_, ?_, ?_, ?_, ?_, ?_, ?_⟩ <;> (first | with_reducible assumption | omega | ((with_reducible refine y_Vl ?_ ?_) <;> omega) | (unfold y_Ty; omega) | (exact Or.inl (by omega)) | (exact Or.inr (by (unfold y_Ty; omega))) | (unfold y_Rs y_Ty; omega) | ((with_reducible refine y_SB0 ?_) <;> omega) | ((with_reducible refine y_RW0 ?_) <;> omega))
                · skip
                  have c40' := c40
                  rw [Int32.lt_iff_toInt_lt] at c40'
                  refine y_if (fun c42 => ?_) (fun c42 => ?_)
                  · skip
                    have c42' := c42
                    rw [Int32.le_iff_toInt_le] at c42'
                    refine y_bi (y_X0_begin (by first | with_reducible assumption | omega | ((with_reducible refine y_Vl ?_ ?_) <;> omega) | (unfold y_Ty; omega) | (exact Or.inl (by omega)) | (exact Or.inr (by (unfold y_Ty; omega))) | (unfold y_Rs y_Ty; omega) | ((with_reducible refine y_SB0 ?_) <;> omega) | ((with_reducible refine y_RW0 ?_) <;> omega))) (fun r_12 h_r_12 => ?_)
                    obtain ⟨h0_r_12, h1_r_12, h2_r_12, h3_r_12, h4_r_12, h5_r_12, h6_r_12⟩ := h_r_12
                    refine y_some ?_
                    try dsimp only
                    refine ⟨?_, ?_, ?_, ?_, ?_, ?_, ?_, ?_, ?_, ?_, ?_, ?_, ?_, ?_, ?_⟩ <;> (first | with_reducible assumption | omega | ((with_reducible refine y_Vl ?_ ?_) <;> omega) | (unfold y_Ty; omega) | (exact Or.inl (by omega)) | (exact Or.inr (by (unfold y_Ty; omega))) | (unfold y_Rs y_Ty; omega) | ((with_reducible refine y_SB0 ?_) <;> omega) | ((with_reducible refine y_RW0 ?_) <;> omega))
                  · skip
                    have c42' := c42
                    rw [Int32.le_iff_toInt_le] at c42'
                    have e43 : (1 : Int32).toInt = 1 := rfl
                    refine y_some ?_
                    try dsimp only
                    refine ⟨?_, ?_, ?_, ?_, ?_, ?_, ?_, ?_, ?_, ?_, ?_, ?_, ?_, ?_, ?_⟩ <;> (first | with_reducible assumption | omega | ((with_reducible refine y_Vl ?_ ?_) <;> omega) | (unfold y_Ty; omega) | (exact Or.inl (by omega)) | (exact Or.inr (by (unfold y_Ty; omega))) | (unfold y_Rs y_Ty; omega) | ((with_reducible refine y_SB0 ?_) <;> omega) | ((with_reducible refine y_RW0 ?_) <;> omega))
set_option maxHeartbeats 4000000 in
theorem y_X0_takeMore {v0_6 : Int32} {g0_5 : Nat → Int32} {p1 : Int32} (k0 : 0 ≤ v0_6.toInt) (k1 : v0_6.toInt < 20) (k2 : y_ATy 20 g0_5) (k3 : y_Ty p1) : y_Ok (f_X0_takeMore v0_6 g0_5 p1) (fun r => (r.2.1.toInt = v0_6.toInt + 1) ∧ (y_ATy 20 r.2.2)) := by
  unfold f_X0_takeMore
  refine y_gd (y_gdI (by omega) (by omega)) ?_
  try have e1 := @y_addL v0_6 (1 : Int32) (1) rfl (by omega) (by omega)
  try have e2 := @y_cl v0_6 (by omega)
  try have e3 : y_ATy 20 (upd g0_5 (Int32.toNatClampNeg v0_6) p1) := y_ATy_upd k2 (by first | with_reducible assumption | omega | ((with_reducible refine y_Vl ?_ ?_) <;> omega) | (unfold y_Ty; omega) | (exact Or.inl (by omega)) | (exact Or.inr (by (unfold y_Ty; omega))) | (unfold y_Rs y_Ty; omega))
  refine y_some ?_
  try dsimp only
  refine ⟨?_, ?_⟩ <;> (first | with_reducible assumption | omega | ((with_reducible refine y_Vl ?_ ?_) <;> omega) | (unfold y_Ty; omega) | (exact Or.inl (by omega)) | (exact Or.inr (by (unfold y_Ty; omega))) | (unfold y_Rs y_Ty; omega))
set_option maxHeartbeats 4000000 in
theorem y_X8_argument {v7_2 : Int32} {v0_6 : Int32} {g0_5 : Nat → Int32} {p1 : Int32} (k0 : 4 ≤ v7_2.toInt) (k1 : v7_2.toInt ≤ 200) (k2 : 0 ≤ v0_6.toInt) (k3 : v0_6.toInt ≤ 20) (k4 : y_ATy 20 g0_5) : y_Ok (f_X8_argument v7_2 v0_6 g0_5 p1) (fun r => (0 ≤ r.2.2.1.toInt) ∧ (r.2.2.1.toInt ≤ 20) ∧ (y_ATy 20 r.2.2.2)) := by
  unfold f_X8_argument
  refine y_bi (y_X7_isType (by omega) (by omega)) (fun r_1 h_r_1 => ?_)
  have h0_r_1 : (r_1.toInt = 0 ∧ ¬ (0 ≤ p1.toInt ∧ p1.toInt < 16777216 ∧ (p1.toInt % 65536 < v7_2.toInt ∨ 65528 ≤ p1.toInt % 65536))) ∨ (r_1.toInt = 1 ∧ (0 ≤ p1.toInt ∧ p1.toInt < 16777216 ∧ (p1.toInt % 65536 < v7_2.toInt ∨ 65528 ≤ p1.toInt % 65536))) := h_r_1
  refine y_if (fun c1 => ?_) (fun c1 => ?_)
  · skip
    have e2 : (0 : Int32).toInt = 0 := rfl
    have c1' := c1
    rw [← Int32.toInt_inj] at c1'
    have e3 := y_or0 h0_r_1 c1'
    clear h0_r_1
    have e4 : (1 : Int32).toInt = 1 := rfl
    refine y_some ?_
    try dsimp only
    refine ⟨?_, ?_, ?_⟩ <;> (first | with_reducible assumption | omega | ((with_reducible refine y_Vl ?_ ?_) <;> omega) | (unfold y_Ty; omega) | (exact Or.inl (by omega)) | (exact Or.inr (by (unfold y_Ty; omega))) | (unfold y_Rs y_Ty; omega))
  · skip
    have e5 : (0 : Int32).toInt = 0 := rfl
    have c1' := c1
    rw [← Int32.toInt_inj] at c1'
    have e6 := y_or1 h0_r_1 c1'
    clear h0_r_1
    refine y_if (fun c7 => ?_) (fun c7 => ?_)
    · skip
      have e8 : (20 : Int32).toInt = 20 := rfl
      have c7' := c7
      rw [Int32.lt_iff_toInt_lt] at c7'
      refine y_bi (y_X0_takeMore (by omega) (by omega) (by first | with_reducible assumption | omega | ((with_reducible refine y_Vl ?_ ?_) <;> omega) | (unfold y_Ty; omega) | (exact Or.inl (by omega)) | (exact Or.inr (by (unfold y_Ty; omega))) | (unfold y_Rs y_Ty; omega)) (by first | with_reducible assumption | omega | ((with_reducible refine y_Vl ?_ ?_) <;> omega) | (unfold y_Ty; omega) | (exact Or.inl (by omega)) | (exact Or.inr (by (unfold y_Ty; omega))) | (unfold y_Rs y_Ty; omega))) (fun r_4 h_r_4 => ?_)
      obtain ⟨h0_r_4, h1_r_4⟩ := h_r_4
      refine y_some ?_
      try dsimp only
      refine ⟨?_, ?_, ?_⟩ <;> (first | with_reducible assumption | omega | ((with_reducible refine y_Vl ?_ ?_) <;> omega) | (unfold y_Ty; omega) | (exact Or.inl (by omega)) | (exact Or.inr (by (unfold y_Ty; omega))) | (unfold y_Rs y_Ty; omega))
    · skip
      have e9 : (20 : Int32).toInt = 20 := rfl
      have c7' := c7
      rw [Int32.lt_iff_toInt_lt] at c7'
      have e10 : (2 : Int32).toInt = 2 := rfl
      refine y_some ?_
      try dsimp only
      refine ⟨?_, ?_, ?_⟩ <;> (first | with_reducible assumption | omega | ((with_reducible refine y_Vl ?_ ?_) <;> omega) | (unfold y_Ty; omega) | (exact Or.inl (by omega)) | (exact Or.inr (by (unfold y_Ty; omega))) | (unfold y_Rs y_Ty; omega))
set_option maxHeartbeats 4000000 in
theorem y_X8_isOperand {v7_2 : Int32} {v4_2 : Int32} {v4_8 : Int32} {p1 : Int32} {p2 : Int32} {p3 : Int32} (k0 : 4 ≤ v7_2.toInt) (k1 : v7_2.toInt ≤ 200) (k2 : 0 ≤ v4_2.toInt) (k3 : v4_2.toInt ≤ 100) (k4 : 0 ≤ v4_8.toInt) (k5 : v4_8.toInt ≤ 100) (k6 : p3.toInt = 0) (k7 : ¬ p1.toInt = 197) (k8 : ¬ p1.toInt = 132) : y_Ok (f_X8_isOperand v7_2 v4_2 v4_8 p1 p2) (fun r => (r.toInt = 0 ∨ r.toInt = 1) ∧ (r.toInt = 0 ∨ y_In p1 p2 p3)) := by
  unfold f_X8_isOperand
  refine y_if (fun c1 => ?_) (fun c1 => ?_)
  · skip
    have e2 : (16 : Int32).toInt = 16 := rfl
    have c1' := c1
    rw [← Int32.toInt_inj] at c1'
    have e3 : (1 : Int32).toInt = 1 := rfl
    refine y_some ?_
    try dsimp only
    refine ⟨?_, ?_⟩ <;> (first | with_reducible assumption | omega | ((with_reducible refine y_Vl ?_ ?_) <;> omega) | (exact Or.inl (by omega)) | (refine Or.inr ?_; unfold y_In; refine ⟨?_, ?_, ?_, ?_, ?_, ?_, ?_, ?_, ?_, ?_, ?_⟩ <;> (first | omega | (intro z; exfalso; omega) | (intro z; unfold y_Ty; omega) | (intro z; unfold y_Tr; omega) | (intro z; omega) | (intro z; refine ⟨?_, ?_⟩ <;> (first | omega | (unfold y_Tr; omega))) | (intro z; refine ⟨?_, ?_, ?_⟩ <;> (first | omega | (unfold y_Tr; omega))))) | (rcases h0_r_41 with hz | hz; exact Or.inl hz.1; (refine Or.inr ?_; unfold y_In; refine ⟨?_, ?_, ?_, ?_, ?_, ?_, ?_, ?_, ?_, ?_, ?_⟩ <;> (first | omega | (intro z; exfalso; omega) | (intro z; unfold y_Ty; omega) | (intro z; unfold y_Tr; omega) | (intro z; omega) | (intro z; refine ⟨?_, ?_⟩ <;> (first | omega | (unfold y_Tr; omega))) | (intro z; refine ⟨?_, ?_, ?_⟩ <;> (first | omega | (unfold y_Tr; omega)))))) | (rcases h0_r_41 with hz | hz; exact Or.inl hz.1; exact Or.inr hz.1) | (rcases h0_r_46 with hz | hz; exact Or.inl hz.1; (refine Or.inr ?_; unfold y_In; refine ⟨?_, ?_, ?_, ?_, ?_, ?_, ?_, ?_, ?_, ?_, ?_⟩ <;> (first | omega | (intro z; exfalso; omega) | (intro z; unfold y_Ty; omega) | (intro z; unfold y_Tr; omega) | (intro z; omega) | (intro z; refine ⟨?_, ?_⟩ <;> (first | omega | (unfold y_Tr; omega))) | (intro z; refine ⟨?_, ?_, ?_⟩ <;> (first | omega | (unfold y_Tr; omega)))))) | (rcases h0_r_46 with hz | hz; exact Or.inl hz.1; exact Or.inr hz.1) | (rcases h0_r_51 with hz | hz; exact Or.inl hz.1; (refine Or.inr ?_; unfold y_In; refine ⟨?_, ?_, ?_, ?_, ?_, ?_, ?_, ?_, ?_, ?_, ?_⟩ <;> (first | omega | (intro z; exfalso; omega) | (intro z; unfold y_Ty; omega) | (intro z; unfold y_Tr; omega) | (intro z; omega) | (intro z; refine ⟨?_, ?_⟩ <;> (first | omega | (unfold y_Tr; omega))) | (intro z; refine ⟨?_, ?_, ?_⟩ <;> (first | omega | (unfold y_Tr; omega)))))) | (rcases h0_r_51 with hz | hz; exact Or.inl hz.1; exact Or.inr hz.1) | (rcases h0_r_53 with hz | hz; exact Or.inl hz.1; (refine Or.inr ?_; unfold y_In; refine ⟨?_, ?_, ?_, ?_, ?_, ?_, ?_, ?_, ?_, ?_, ?_⟩ <;> (first | omega | (intro z; exfalso; omega) | (intro z; unfold y_Ty; omega) | (intro z; unfold y_Tr; omega) | (intro z; omega) | (intro z; refine ⟨?_, ?_⟩ <;> (first | omega | (unfold y_Tr; omega))) | (intro z; refine ⟨?_, ?_, ?_⟩ <;> (first | omega | (unfold y_Tr; omega)))))) | (rcases h0_r_53 with hz | hz; exact Or.inl hz.1; exact Or.inr hz.1))
  · skip
    have e4 : (16 : Int32).toInt = 16 := rfl
    have c1' := c1
    rw [← Int32.toInt_inj] at c1'
    refine y_if (fun c5 => ?_) (fun c5 => ?_)
    · skip
      have e6 : (17 : Int32).toInt = 17 := rfl
      have c5' := c5
      rw [← Int32.toInt_inj] at c5'
      have e7 : (1 : Int32).toInt = 1 := rfl
      refine y_some ?_
      try dsimp only
      refine ⟨?_, ?_⟩ <;> (first | with_reducible assumption | omega | ((with_reducible refine y_Vl ?_ ?_) <;> omega) | (exact Or.inl (by omega)) | (refine Or.inr ?_; unfold y_In; refine ⟨?_, ?_, ?_, ?_, ?_, ?_, ?_, ?_, ?_, ?_, ?_⟩ <;> (first | omega | (intro z; exfalso; omega) | (intro z; unfold y_Ty; omega) | (intro z; unfold y_Tr; omega) | (intro z; omega) | (intro z; refine ⟨?_, ?_⟩ <;> (first | omega | (unfold y_Tr; omega))) | (intro z; refine ⟨?_, ?_, ?_⟩ <;> (first | omega | (unfold y_Tr; omega))))) | (rcases h0_r_41 with hz | hz; exact Or.inl hz.1; (refine Or.inr ?_; unfold y_In; refine ⟨?_, ?_, ?_, ?_, ?_, ?_, ?_, ?_, ?_, ?_, ?_⟩ <;> (first | omega | (intro z; exfalso; omega) | (intro z; unfold y_Ty; omega) | (intro z; unfold y_Tr; omega) | (intro z; omega) | (intro z; refine ⟨?_, ?_⟩ <;> (first | omega | (unfold y_Tr; omega))) | (intro z; refine ⟨?_, ?_, ?_⟩ <;> (first | omega | (unfold y_Tr; omega)))))) | (rcases h0_r_41 with hz | hz; exact Or.inl hz.1; exact Or.inr hz.1) | (rcases h0_r_46 with hz | hz; exact Or.inl hz.1; (refine Or.inr ?_; unfold y_In; refine ⟨?_, ?_, ?_, ?_, ?_, ?_, ?_, ?_, ?_, ?_, ?_⟩ <;> (first | omega | (intro z; exfalso; omega) | (intro z; unfold y_Ty; omega) | (intro z; unfold y_Tr; omega) | (intro z; omega) | (intro z; refine ⟨?_, ?_⟩ <;> (first | omega | (unfold y_Tr; omega))) | (intro z; refine ⟨?_, ?_, ?_⟩ <;> (first | omega | (unfold y_Tr; omega)))))) | (rcases h0_r_46 with hz | hz; exact Or.inl hz.1; exact Or.inr hz.1) | (rcases h0_r_51 with hz | hz; exact Or.inl hz.1; (refine Or.inr ?_; unfold y_In; refine ⟨?_, ?_, ?_, ?_, ?_, ?_, ?_, ?_, ?_, ?_, ?_⟩ <;> (first | omega | (intro z; exfalso; omega) | (intro z; unfold y_Ty; omega) | (intro z; unfold y_Tr; omega) | (intro z; omega) | (intro z; refine ⟨?_, ?_⟩ <;> (first | omega | (unfold y_Tr; omega))) | (intro z; refine ⟨?_, ?_, ?_⟩ <;> (first | omega | (unfold y_Tr; omega)))))) | (rcases h0_r_51 with hz | hz; exact Or.inl hz.1; exact Or.inr hz.1) | (rcases h0_r_53 with hz | hz; exact Or.inl hz.1; (refine Or.inr ?_; unfold y_In; refine ⟨?_, ?_, ?_, ?_, ?_, ?_, ?_, ?_, ?_, ?_, ?_⟩ <;> (first | omega | (intro z; exfalso; omega) | (intro z; unfold y_Ty; omega) | (intro z; unfold y_Tr; omega) | (intro z; omega) | (intro z; refine ⟨?_, ?_⟩ <;> (first | omega | (unfold y_Tr; omega))) | (intro z; refine ⟨?_, ?_, ?_⟩ <;> (first | omega | (unfold y_Tr; omega)))))) | (rcases h0_r_53 with hz | hz; exact Or.inl hz.1; exact Or.inr hz.1))
    · skip
      have e8 : (17 : Int32).toInt = 17 := rfl
      have c5' := c5
      rw [← Int32.toInt_inj] at c5'
      refine y_if (fun c9 => ?_) (fun c9 => ?_)
      · skip
        have e10 : (18 : Int32).toInt = 18 := rfl
        have c9' := c9
        rw [← Int32.toInt_inj] at c9'
        refine y_bi (y_X7_isType (by omega) (by omega)) (fun r_4 h_r_4 => ?_)
        have h0_r_4 : (r_4.toInt = 0 ∧ ¬ (0 ≤ p2.toInt ∧ p2.toInt < 16777216 ∧ (p2.toInt % 65536 < v7_2.toInt ∨ 65528 ≤ p2.toInt % 65536))) ∨ (r_4.toInt = 1 ∧ (0 ≤ p2.toInt ∧ p2.toInt < 16777216 ∧ (p2.toInt % 65536 < v7_2.toInt ∨ 65528 ≤ p2.toInt % 65536))) := h_r_4
        refine y_if (fun c11 => ?_) (fun c11 => ?_)
        · skip
          have e12 : (0 : Int32).toInt = 0 := rfl
          have c11' := c11
          rw [← Int32.toInt_inj] at c11'
          have e13 := y_or0 h0_r_4 c11'
          clear h0_r_4
          refine y_some ?_
          try dsimp only
          refine ⟨?_, ?_⟩ <;> (first | with_reducible assumption | omega | ((with_reducible refine y_Vl ?_ ?_) <;> omega) | (exact Or.inl (by omega)) | (refine Or.inr ?_; unfold y_In; refine ⟨?_, ?_, ?_, ?_, ?_, ?_, ?_, ?_, ?_, ?_, ?_⟩ <;> (first | omega | (intro z; exfalso; omega) | (intro z; unfold y_Ty; omega) | (intro z; unfold y_Tr; omega) | (intro z; omega) | (intro z; refine ⟨?_, ?_⟩ <;> (first | omega | (unfold y_Tr; omega))) | (intro z; refine ⟨?_, ?_, ?_⟩ <;> (first | omega | (unfold y_Tr; omega))))) | (rcases h0_r_41 with hz | hz; exact Or.inl hz.1; (refine Or.inr ?_; unfold y_In; refine ⟨?_, ?_, ?_, ?_, ?_, ?_, ?_, ?_, ?_, ?_, ?_⟩ <;> (first | omega | (intro z; exfalso; omega) | (intro z; unfold y_Ty; omega) | (intro z; unfold y_Tr; omega) | (intro z; omega) | (intro z; refine ⟨?_, ?_⟩ <;> (first | omega | (unfold y_Tr; omega))) | (intro z; refine ⟨?_, ?_, ?_⟩ <;> (first | omega | (unfold y_Tr; omega)))))) | (rcases h0_r_41 with hz | hz; exact Or.inl hz.1; exact Or.inr hz.1) | (rcases h0_r_46 with hz | hz; exact Or.inl hz.1; (refine Or.inr ?_; unfold y_In; refine ⟨?_, ?_, ?_, ?_, ?_, ?_, ?_, ?_, ?_, ?_, ?_⟩ <;> (first | omega | (intro z; exfalso; omega) | (intro z; unfold y_Ty; omega) | (intro z; unfold y_Tr; omega) | (intro z; omega) | (intro z; refine ⟨?_, ?_⟩ <;> (first | omega | (unfold y_Tr; omega))) | (intro z; refine ⟨?_, ?_, ?_⟩ <;> (first | omega | (unfold y_Tr; omega)))))) | (rcases h0_r_46 with hz | hz; exact Or.inl hz.1; exact Or.inr hz.1) | (rcases h0_r_51 with hz | hz; exact Or.inl hz.1; (refine Or.inr ?_; unfold y_In; refine ⟨?_, ?_, ?_, ?_, ?_, ?_, ?_, ?_, ?_, ?_, ?_⟩ <;> (first | omega | (intro z; exfalso; omega) | (intro z; unfold y_Ty; omega) | (intro z; unfold y_Tr; omega) | (intro z; omega) | (intro z; refine ⟨?_, ?_⟩ <;> (first | omega | (unfold y_Tr; omega))) | (intro z; refine ⟨?_, ?_, ?_⟩ <;> (first | omega | (unfold y_Tr; omega)))))) | (rcases h0_r_51 with hz | hz; exact Or.inl hz.1; exact Or.inr hz.1) | (rcases h0_r_53 with hz | hz; exact Or.inl hz.1; (refine Or.inr ?_; unfold y_In; refine ⟨?_, ?_, ?_, ?_, ?_, ?_, ?_, ?_, ?_, ?_, ?_⟩ <;> (first | omega | (intro z; exfalso; omega) | (intro z; unfold y_Ty; omega) | (intro z; unfold y_Tr; omega) | (intro z; omega) | (intro z; refine ⟨?_, ?_⟩ <;> (first | omega | (unfold y_Tr; omega))) | (intro z; refine ⟨?_, ?_, ?_⟩ <;> (first | omega | (unfold y_Tr; omega)))))) | (rcases h0_r_53 with hz | hz; exact Or.inl hz.1; exact Or.inr hz.1))
        · skip
          have e14 : (0 : Int32).toInt = 0 := rfl
          have c11' := c11
          rw [← Int32.toInt_inj] at c11'
          have e15 := y_or1 h0_r_4 c11'
          clear h0_r_4
          refine y_bi (y_X7_widthOf) (fun r_6 h_r_6 => ?_)
          obtain ⟨h0_r_6, h1_r_6⟩ := h_r_6
          refine y_if (fun c16 => ?_) (fun c16 => ?_)
          · skip
            have e17 : (1 : Int32).toInt = 1 := rfl
            have c16' := c16
            rw [← Int32.toInt_inj] at c16'
            refine y_some ?_
            try dsimp only
            refine ⟨?_, ?_⟩ <;> (first | with_reducible assumption | omega | ((with_reducible refine y_Vl ?_ ?_) <;> omega) | (exact Or.inl (by omega)) | (refine Or.inr ?_; unfold y_In; refine ⟨?_, ?_, ?_, ?_, ?_, ?_, ?_, ?_, ?_, ?_, ?_⟩ <;> (first | omega | (intro z; exfalso; omega) | (intro z; unfold y_Ty; omega) | (intro z; unfold y_Tr; omega) | (intro z; omega) | (intro z; refine ⟨?_, ?_⟩ <;> (first | omega | (unfold y_Tr; omega))) | (intro z; refine ⟨?_, ?_, ?_⟩ <;> (first | omega | (unfold y_Tr; omega))))) | (rcases h0_r_41 with hz | hz; exact Or.inl hz.1; (refine Or.inr ?_; unfold y_In; refine ⟨?_, ?_, ?_, ?_, ?_, ?_, ?_, ?_, ?_, ?_, ?_⟩ <;> (first | omega | (intro z; exfalso; omega) | (intro z; unfold y_Ty; omega) | (intro z; unfold y_Tr; omega) | (intro z; omega) | (intro z; refine ⟨?_, ?_⟩ <;> (first | omega | (unfold y_Tr; omega))) | (intro z; refine ⟨?_, ?_, ?_⟩ <;> (first | omega | (unfold y_Tr; omega)))))) | (rcases h0_r_41 with hz | hz; exact Or.inl hz.1; exact Or.inr hz.1) | (rcases h0_r_46 with hz | hz; exact Or.inl hz.1; (refine Or.inr ?_; unfold y_In; refine ⟨?_, ?_, ?_, ?_, ?_, ?_, ?_, ?_, ?_, ?_, ?_⟩ <;> (first | omega | (intro z; exfalso; omega) | (intro z; unfold y_Ty; omega) | (intro z; unfold y_Tr; omega) | (intro z; omega) | (intro z; refine ⟨?_, ?_⟩ <;> (first | omega | (unfold y_Tr; omega))) | (intro z; refine ⟨?_, ?_, ?_⟩ <;> (first | omega | (unfold y_Tr; omega)))))) | (rcases h0_r_46 with hz | hz; exact Or.inl hz.1; exact Or.inr hz.1) | (rcases h0_r_51 with hz | hz; exact Or.inl hz.1; (refine Or.inr ?_; unfold y_In; refine ⟨?_, ?_, ?_, ?_, ?_, ?_, ?_, ?_, ?_, ?_, ?_⟩ <;> (first | omega | (intro z; exfalso; omega) | (intro z; unfold y_Ty; omega) | (intro z; unfold y_Tr; omega) | (intro z; omega) | (intro z; refine ⟨?_, ?_⟩ <;> (first | omega | (unfold y_Tr; omega))) | (intro z; refine ⟨?_, ?_, ?_⟩ <;> (first | omega | (unfold y_Tr; omega)))))) | (rcases h0_r_51 with hz | hz; exact Or.inl hz.1; exact Or.inr hz.1) | (rcases h0_r_53 with hz | hz; exact Or.inl hz.1; (refine Or.inr ?_; unfold y_In; refine ⟨?_, ?_, ?_, ?_, ?_, ?_, ?_, ?_, ?_, ?_, ?_⟩ <;> (first | omega | (intro z; exfalso; omega) | (intro z; unfold y_Ty; omega) | (intro z; unfold y_Tr; omega) | (intro z; omega) | (intro z; refine ⟨?_, ?_⟩ <;> (first | omega | (unfold y_Tr; omega))) | (intro z; refine ⟨?_, ?_, ?_⟩ <;> (first | omega | (unfold y_Tr; omega)))))) | (rcases h0_r_53 with hz | hz; exact Or.inl hz.1; exact Or.inr hz.1))
          · skip
            have e18 : (1 : Int32).toInt = 1 := rfl
            have c16' := c16
            rw [← Int32.toInt_inj] at c16'
            refine y_some ?_
            try dsimp only
            refine ⟨?_, ?_⟩ <;> (first | with_reducible assumption | omega | ((with_reducible refine y_Vl ?_ ?_) <;> omega) | (exact Or.inl (by omega)) | (refine Or.inr ?_; unfold y_In; refine ⟨?_, ?_, ?_, ?_, ?_, ?_, ?_, ?_, ?_, ?_, ?_⟩ <;> (first | omega | (intro z; exfalso; omega) | (intro z; unfold y_Ty; omega) | (intro z; unfold y_Tr; omega) | (intro z; omega) | (intro z; refine ⟨?_, ?_⟩ <;> (first | omega | (unfold y_Tr; omega))) | (intro z; refine ⟨?_, ?_, ?_⟩ <;> (first | omega | (unfold y_Tr; omega))))) | (rcases h0_r_41 with hz | hz; exact Or.inl hz.1; (refine Or.inr ?_; unfold y_In; refine ⟨?_, ?_, ?_, ?_, ?_, ?_, ?_, ?_, ?_, ?_, ?_⟩ <;> (first | omega | (intro z; exfalso; omega) | (intro z; unfold y_Ty; omega) | (intro z; unfold y_Tr; omega) | (intro z; omega) | (intro z; refine ⟨?_, ?_⟩ <;> (first | omega | (unfold y_Tr; omega))) | (intro z; refine ⟨?_, ?_, ?_⟩ <;> (first | omega | (unfold y_Tr; omega)))))) | (rcases h0_r_41 with hz | hz; exact Or.inl hz.1; exact Or.inr hz.1) | (rcases h0_r_46 with hz | hz; exact Or.inl hz.1; (refine Or.inr ?_; unfold y_In; refine ⟨?_, ?_, ?_, ?_, ?_, ?_, ?_, ?_, ?_, ?_, ?_⟩ <;> (first | omega | (intro z; exfalso; omega) | (intro z; unfold y_Ty; omega) | (intro z; unfold y_Tr; omega) | (intro z; omega) | (intro z; refine ⟨?_, ?_⟩ <;> (first | omega | (unfold y_Tr; omega))) | (intro z; refine ⟨?_, ?_, ?_⟩ <;> (first | omega | (unfold y_Tr; omega)))))) | (rcases h0_r_46 with hz | hz; exact Or.inl hz.1; exact Or.inr hz.1) | (rcases h0_r_51 with hz | hz; exact Or.inl hz.1; (refine Or.inr ?_; unfold y_In; refine ⟨?_, ?_, ?_, ?_, ?_, ?_, ?_, ?_, ?_, ?_, ?_⟩ <;> (first | omega | (intro z; exfalso; omega) | (intro z; unfold y_Ty; omega) | (intro z; unfold y_Tr; omega) | (intro z; omega) | (intro z; refine ⟨?_, ?_⟩ <;> (first | omega | (unfold y_Tr; omega))) | (intro z; refine ⟨?_, ?_, ?_⟩ <;> (first | omega | (unfold y_Tr; omega)))))) | (rcases h0_r_51 with hz | hz; exact Or.inl hz.1; exact Or.inr hz.1) | (rcases h0_r_53 with hz | hz; exact Or.inl hz.1; (refine Or.inr ?_; unfold y_In; refine ⟨?_, ?_, ?_, ?_, ?_, ?_, ?_, ?_, ?_, ?_, ?_⟩ <;> (first | omega | (intro z; exfalso; omega) | (intro z; unfold y_Ty; omega) | (intro z; unfold y_Tr; omega) | (intro z; omega) | (intro z; refine ⟨?_, ?_⟩ <;> (first | omega | (unfold y_Tr; omega))) | (intro z; refine ⟨?_, ?_, ?_⟩ <;> (first | omega | (unfold y_Tr; omega)))))) | (rcases h0_r_53 with hz | hz; exact Or.inl hz.1; exact Or.inr hz.1))
      · skip
        have e19 : (18 : Int32).toInt = 18 := rfl
        have c9' := c9
        rw [← Int32.toInt_inj] at c9'
        refine y_if (fun c20 => ?_) (fun c20 => ?_)
        · skip
          have e21 : (20 : Int32).toInt = 20 := rfl
          have c20' := c20
          rw [← Int32.toInt_inj] at c20'
          refine y_bi (y_X7_isType (by omega) (by omega)) (fun r_9 h_r_9 => ?_)
          have h0_r_9 : (r_9.toInt = 0 ∧ ¬ (0 ≤ p2.toInt ∧ p2.toInt < 16777216 ∧ (p2.toInt % 65536 < v7_2.toInt ∨ 65528 ≤ p2.toInt % 65536))) ∨ (r_9.toInt = 1 ∧ (0 ≤ p2.toInt ∧ p2.toInt < 16777216 ∧ (p2.toInt % 65536 < v7_2.toInt ∨ 65528 ≤ p2.toInt % 65536))) := h_r_9
          refine y_if (fun c22 => ?_) (fun c22 => ?_)
          · skip
            have e23 : (0 : Int32).toInt = 0 := rfl
            have c22' := c22
            rw [← Int32.toInt_inj] at c22'
            have e24 := y_or0 h0_r_9 c22'
            clear h0_r_9
            refine y_some ?_
            try dsimp only
            refine ⟨?_, ?_⟩ <;> (first | with_reducible assumption | omega | ((with_reducible refine y_Vl ?_ ?_) <;> omega) | (exact Or.inl (by omega)) | (refine Or.inr ?_; unfold y_In; refine ⟨?_, ?_, ?_, ?_, ?_, ?_, ?_, ?_, ?_, ?_, ?_⟩ <;> (first | omega | (intro z; exfalso; omega) | (intro z; unfold y_Ty; omega) | (intro z; unfold y_Tr; omega) | (intro z; omega) | (intro z; refine ⟨?_, ?_⟩ <;> (first | omega | (unfold y_Tr; omega))) | (intro z; refine ⟨?_, ?_, ?_⟩ <;> (first | omega | (unfold y_Tr; omega))))) | (rcases h0_r_41 with hz | hz; exact Or.inl hz.1; (refine Or.inr ?_; unfold y_In; refine ⟨?_, ?_, ?_, ?_, ?_, ?_, ?_, ?_, ?_, ?_, ?_⟩ <;> (first | omega | (intro z; exfalso; omega) | (intro z; unfold y_Ty; omega) | (intro z; unfold y_Tr; omega) | (intro z; omega) | (intro z; refine ⟨?_, ?_⟩ <;> (first | omega | (unfold y_Tr; omega))) | (intro z; refine ⟨?_, ?_, ?_⟩ <;> (first | omega | (unfold y_Tr; omega)))))) | (rcases h0_r_41 with hz | hz; exact Or.inl hz.1; exact Or.inr hz.1) | (rcases h0_r_46 with hz | hz; exact Or.inl hz.1; (refine Or.inr ?_; unfold y_In; refine ⟨?_, ?_, ?_, ?_, ?_, ?_, ?_, ?_, ?_, ?_, ?_⟩ <;> (first | omega | (intro z; exfalso; omega) | (intro z; unfold y_Ty; omega) | (intro z; unfold y_Tr; omega) | (intro z; omega) | (intro z; refine ⟨?_, ?_⟩ <;> (first | omega | (unfold y_Tr; omega))) | (intro z; refine ⟨?_, ?_, ?_⟩ <;> (first | omega | (unfold y_Tr; omega)))))) | (rcases h0_r_46 with hz | hz; exact Or.inl hz.1; exact Or.inr hz.1) | (rcases h0_r_51 with hz | hz; exact Or.inl hz.1; (refine Or.inr ?_; unfold y_In; refine ⟨?_, ?_, ?_, ?_, ?_, ?_, ?_, ?_, ?_, ?_, ?_⟩ <;> (first | omega | (intro z; exfalso; omega) | (intro z; unfold y_Ty; omega) | (intro z; unfold y_Tr; omega) | (intro z; omega) | (intro z; refine ⟨?_, ?_⟩ <;> (first | omega | (unfold y_Tr; omega))) | (intro z; refine ⟨?_, ?_, ?_⟩ <;> (first | omega | (unfold y_Tr; omega)))))) | (rcases h0_r_51 with hz | hz; exact Or.inl hz.1; exact Or.inr hz.1) | (rcases h0_r_53 with hz | hz; exact Or.inl hz.1; (refine Or.inr ?_; unfold y_In; refine ⟨?_, ?_, ?_, ?_, ?_, ?_, ?_, ?_, ?_, ?_, ?_⟩ <;> (first | omega | (intro z; exfalso; omega) | (intro z; unfold y_Ty; omega) | (intro z; unfold y_Tr; omega) | (intro z; omega) | (intro z; refine ⟨?_, ?_⟩ <;> (first | omega | (unfold y_Tr; omega))) | (intro z; refine ⟨?_, ?_, ?_⟩ <;> (first | omega | (unfold y_Tr; omega)))))) | (rcases h0_r_53 with hz | hz; exact Or.inl hz.1; exact Or.inr hz.1))
          · skip
            have e25 : (0 : Int32).toInt = 0 := rfl
            have c22' := c22
            rw [← Int32.toInt_inj] at c22'
            have e26 := y_or1 h0_r_9 c22'
            clear h0_r_9
            refine y_bi (y_X7_widthOf) (fun r_11 h_r_11 => ?_)
            obtain ⟨h0_r_11, h1_r_11⟩ := h_r_11
            refine y_if (fun c27 => ?_) (fun c27 => ?_)
            · skip
              have e28 : (2 : Int32).toInt = 2 := rfl
              have c27' := c27
              rw [← Int32.toInt_inj] at c27'
              have e29 : (1 : Int32).toInt = 1 := rfl
              refine y_some ?_
              try dsimp only
              refine ⟨?_, ?_⟩ <;> (first | with_reducible assumption | omega | ((with_reducible refine y_Vl ?_ ?_) <;> omega) | (exact Or.inl (by omega)) | (refine Or.inr ?_; unfold y_In; refine ⟨?_, ?_, ?_, ?_, ?_, ?_, ?_, ?_, ?_, ?_, ?_⟩ <;> (first | omega | (intro z; exfalso; omega) | (intro z; unfold y_Ty; omega) | (intro z; unfold y_Tr; omega) | (intro z; omega) | (intro z; refine ⟨?_, ?_⟩ <;> (first | omega | (unfold y_Tr; omega))) | (intro z; refine ⟨?_, ?_, ?_⟩ <;> (first | omega | (unfold y_Tr; omega))))) | (rcases h0_r_41 with hz | hz; exact Or.inl hz.1; (refine Or.inr ?_; unfold y_In; refine ⟨?_, ?_, ?_, ?_, ?_, ?_, ?_, ?_, ?_, ?_, ?_⟩ <;> (first | omega | (intro z; exfalso; omega) | (intro z; unfold y_Ty; omega) | (intro z; unfold y_Tr; omega) | (intro z; omega) | (intro z; refine ⟨?_, ?_⟩ <;> (first | omega | (unfold y_Tr; omega))) | (intro z; refine ⟨?_, ?_, ?_⟩ <;> (first | omega | (unfold y_Tr; omega)))))) | (rcases h0_r_41 with hz | hz; exact Or.inl hz.1; exact Or.inr hz.1) | (rcases h0_r_46 with hz | hz; exact Or.inl hz.1; (refine Or.inr ?_; unfold y_In; refine ⟨?_, ?_, ?_, ?_, ?_, ?_, ?_, ?_, ?_, ?_, ?_⟩ <;> (first | omega | (intro z; exfalso; omega) | (intro z; unfold y_Ty; omega) | (intro z; unfold y_Tr; omega) | (intro z; omega) | (intro z; refine ⟨?_, ?_⟩ <;> (first | omega | (unfold y_Tr; omega))) | (intro z; refine ⟨?_, ?_, ?_⟩ <;> (first | omega | (unfold y_Tr; omega)))))) | (rcases h0_r_46 with hz | hz; exact Or.inl hz.1; exact Or.inr hz.1) | (rcases h0_r_51 with hz | hz; exact Or.inl hz.1; (refine Or.inr ?_; unfold y_In; refine ⟨?_, ?_, ?_, ?_, ?_, ?_, ?_, ?_, ?_, ?_, ?_⟩ <;> (first | omega | (intro z; exfalso; omega) | (intro z; unfold y_Ty; omega) | (intro z; unfold y_Tr; omega) | (intro z; omega) | (intro z; refine ⟨?_, ?_⟩ <;> (first | omega | (unfold y_Tr; omega))) | (intro z; refine ⟨?_, ?_, ?_⟩ <;> (first | omega | (unfold y_Tr; omega)))))) | (rcases h0_r_51 with hz | hz; exact Or.inl hz.1; exact Or.inr hz.1) | (rcases h0_r_53 with hz | hz; exact Or.inl hz.1; (refine Or.inr ?_; unfold y_In; refine ⟨?_, ?_, ?_, ?_, ?_, ?_, ?_, ?_, ?_, ?_, ?_⟩ <;> (first | omega | (intro z; exfalso; omega) | (intro z; unfold y_Ty; omega) | (intro z; unfold y_Tr; omega) | (intro z; omega) | (intro z; refine ⟨?_, ?_⟩ <;> (first | omega | (unfold y_Tr; omega))) | (intro z; refine ⟨?_, ?_, ?_⟩ <;> (first | omega | (unfold y_Tr; omega)))))) | (rcases h0_r_53 with hz | hz; exact Or.inl hz.1; exact Or.inr hz.1))
            · skip
              have e30 : (2 : Int32).toInt = 2 := rfl
              have c27' := c27
              rw [← Int32.toInt_inj] at c27'
              refine y_some ?_
              try dsimp only
              refine ⟨?_, ?_⟩ <;> (first | with_reducible assumption | omega | ((with_reducible refine y_Vl ?_ ?_) <;> omega) | (exact Or.inl (by omega)) | (refine Or.inr ?_; unfold y_In; refine ⟨?_, ?_, ?_, ?_, ?_, ?_, ?_, ?_, ?_, ?_, ?_⟩ <;> (first | omega | (intro z; exfalso; omega) | (intro z; unfold y_Ty; omega) | (intro z; unfold y_Tr; omega) | (intro z; omega) | (intro z; refine ⟨?_, ?_⟩ <;> (first | omega | (unfold y_Tr; omega))) | (intro z; refine ⟨?_, ?_, ?_⟩ <;> (first | omega | (unfold y_Tr; omega))))) | (rcases h0_r_41 with hz | hz; exact Or.inl hz.1; (refine Or.inr ?_; unfold y_In; refine ⟨?_, ?_, ?_, ?_, ?_, ?_, ?_, ?_, ?_, ?_, ?_⟩ <;> (first | omega | (intro z; exfalso; omega) | (intro z; unfold y_Ty; omega) | (intro z; unfold y_Tr; omega) | (intro z; omega) | (intro z; refine ⟨?_, ?_⟩ <;> (first | omega | (unfold y_Tr; omega))) | (intro z; refine ⟨?_, ?_, ?_⟩ <;> (first | omega | (unfold y_Tr; omega)))))) | (rcases h0_r_41 with hz | hz; exact Or.inl hz.1; exact Or.inr hz.1) | (rcases h0_r_46 with hz | hz; exact Or.inl hz.1; (refine Or.inr ?_; unfold y_In; refine ⟨?_, ?_, ?_, ?_, ?_, ?_, ?_, ?_, ?_, ?_, ?_⟩ <;> (first | omega | (intro z; exfalso; omega) | (intro z; unfold y_Ty; omega) | (intro z; unfold y_Tr; omega) | (intro z; omega) | (intro z; refine ⟨?_, ?_⟩ <;> (first | omega | (unfold y_Tr; omega))) | (intro z; refine ⟨?_, ?_, ?_⟩ <;> (first | omega | (unfold y_Tr; omega)))))) | (rcases h0_r_46 with hz | hz; exact Or.inl hz.1; exact Or.inr hz.1) | (rcases h0_r_51 with hz | hz; exact Or.inl hz.1; (refine Or.inr ?_; unfold y_In; refine ⟨?_, ?_, ?_, ?_, ?_, ?_, ?_, ?_, ?_, ?_, ?_⟩ <;> (first | omega | (intro z; exfalso; omega) | (intro z; unfold y_Ty; omega) | (intro z; unfold y_Tr; omega) | (intro z; omega) | (intro z; refine ⟨?_, ?_⟩ <;> (first | omega | (unfold y_Tr; omega))) | (intro z; refine ⟨?_, ?_, ?_⟩ <;> (first | omega | (unfold y_Tr; omega)))))) | (rcases h0_r_51 with hz | hz; exact Or.inl hz.1; exact Or.inr hz.1) | (rcases h0_r_53 with hz | hz; exact Or.inl hz.1; (refine Or.inr ?_; unfold y_In; refine ⟨?_, ?_, ?_, ?_, ?_, ?_, ?_, ?_, ?_, ?_, ?_⟩ <;> (first | omega | (intro z; exfalso; omega) | (intro z; unfold y_Ty; omega) | (intro z; unfold y_Tr; omega) | (intro z; omega) | (intro z; refine ⟨?_, ?_⟩ <;> (first | omega | (unfold y_Tr; omega))) | (intro z; refine ⟨?_, ?_, ?_⟩ <;> (first | omega | (unfold y_Tr; omega)))))) | (rcases h0_r_53 with hz | hz; exact Or.inl hz.1; exact Or.inr hz.1))
        · skip
          have e31 : (20 : Int32).toInt = 20 := rfl
          have c20' := c20
          rw [← Int32.toInt_inj] at c20'
          refine y_if (fun c32 => ?_) (fun c32 => ?_)
          · skip
            have e33 : (178 : Int32).toInt = 178 := rfl
            have c32' := c32
            rw [← Int32.toInt_inj] at c32'
            refine y_if (fun c34 => ?_) (fun c34 => ?_)
            · skip
              have e35 : (0 : Int32).toInt = 0 := rfl
              have c34' := c34
              rw [Int32.lt_iff_toInt_lt] at c34'
              refine y_some ?_
              try dsimp only
              refine ⟨?_, ?_⟩ <;> (first | with_reducible assumption | omega | ((with_reducible refine y_Vl ?_ ?_) <;> omega) | (exact Or.inl (by omega)) | (refine Or.inr ?_; unfold y_In; refine ⟨?_, ?_, ?_, ?_, ?_, ?_, ?_, ?_, ?_, ?_, ?_⟩ <;> (first | omega | (intro z; exfalso; omega) | (intro z; unfold y_Ty; omega) | (intro z; unfold y_Tr; omega) | (intro z; omega) | (intro z; refine ⟨?_, ?_⟩ <;> (first | omega | (unfold y_Tr; omega))) | (intro z; refine ⟨?_, ?_, ?_⟩ <;> (first | omega | (unfold y_Tr; omega))))) | (rcases h0_r_41 with hz | hz; exact Or.inl hz.1; (refine Or.inr ?_; unfold y_In; refine ⟨?_, ?_, ?_, ?_, ?_, ?_, ?_, ?_, ?_, ?_, ?_⟩ <;> (first | omega | (intro z; exfalso; omega) | (intro z; unfold y_Ty; omega) | (intro z; unfold y_Tr; omega) | (intro z; omega) | (intro z; refine ⟨?_, ?_⟩ <;> (first | omega | (unfold y_Tr; omega))) | (intro z; refine ⟨?_, ?_, ?_⟩ <;> (first | omega | (unfold y_Tr; omega)))))) | (rcases h0_r_41 with hz | hz; exact Or.inl hz.1; exact Or.inr hz.1) | (rcases h0_r_46 with hz | hz; exact Or.inl hz.1; (refine Or.inr ?_; unfold y_In; refine ⟨?_, ?_, ?_, ?_, ?_, ?_, ?_, ?_, ?_, ?_, ?_⟩ <;> (first | omega | (intro z; exfalso; omega) | (intro z; unfold y_Ty; omega) | (intro z; unfold y_Tr; omega) | (intro z; omega) | (intro z; refine ⟨?_, ?_⟩ <;> (first | omega | (unfold y_Tr; omega))) | (intro z; refine ⟨?_, ?_, ?_⟩ <;> (first | omega | (unfold y_Tr; omega)))))) | (rcases h0_r_46 with hz | hz; exact Or.inl hz.1; exact Or.inr hz.1) | (rcases h0_r_51 with hz | hz; exact Or.inl hz.1; (refine Or.inr ?_; unfold y_In; refine ⟨?_, ?_, ?_, ?_, ?_, ?_, ?_, ?_, ?_, ?_, ?_⟩ <;> (first | omega | (intro z; exfalso; omega) | (intro z; unfold y_Ty; omega) | (intro z; unfold y_Tr; omega) | (intro z; omega) | (intro z; refine ⟨?_, ?_⟩ <;> (first | omega | (unfold y_Tr; omega))) | (intro z; refine ⟨?_, ?_, ?_⟩ <;> (first | omega | (unfold y_Tr; omega)))))) | (rcases h0_r_51 with hz | hz; exact Or.inl hz.1; exact Or.inr hz.1) | (rcases h0_r_53 with hz | hz; exact Or.inl hz.1; (refine Or.inr ?_; unfold y_In; refine ⟨?_, ?_, ?_, ?_, ?_, ?_, ?_, ?_, ?_, ?_, ?_⟩ <;> (first | omega | (intro z; exfalso; omega) | (intro z; unfold y_Ty; omega) | (intro z; unfold y_Tr; omega) | (intro z; omega) | (intro z; refine ⟨?_, ?_⟩ <;> (first | omega | (unfold y_Tr; omega))) | (intro z; refine ⟨?_, ?_, ?_⟩ <;> (first | omega | (unfold y_Tr; omega)))))) | (rcases h0_r_53 with hz | hz; exact Or.inl hz.1; exact Or.inr hz.1))
            · skip
              have e36 : (0 : Int32).toInt = 0 := rfl
              have c34' := c34
              rw [Int32.lt_iff_toInt_lt] at c34'
              refine y_if (fun c37 => ?_) (fun c37 => ?_)
              · skip
                have c37' := c37
                rw [Int32.le_iff_toInt_le] at c37'
                refine y_some ?_
                try dsimp only
                refine ⟨?_, ?_⟩ <;> (first | with_reducible assumption | omega | ((with_reducible refine y_Vl ?_ ?_) <;> omega) | (exact Or.inl (by omega)) | (refine Or.inr ?_; unfold y_In; refine ⟨?_, ?_, ?_, ?_, ?_, ?_, ?_, ?_, ?_, ?_, ?_⟩ <;> (first | omega | (intro z; exfalso; omega) | (intro z; unfold y_Ty; omega) | (intro z; unfold y_Tr; omega) | (intro z; omega) | (intro z; refine ⟨?_, ?_⟩ <;> (first | omega | (unfold y_Tr; omega))) | (intro z; refine ⟨?_, ?_, ?_⟩ <;> (first | omega | (unfold y_Tr; omega))))) | (rcases h0_r_41 with hz | hz; exact Or.inl hz.1; (refine Or.inr ?_; unfold y_In; refine ⟨?_, ?_, ?_, ?_, ?_, ?_, ?_, ?_, ?_, ?_, ?_⟩ <;> (first | omega | (intro z; exfalso; omega) | (intro z; unfold y_Ty; omega) | (intro z; unfold y_Tr; omega) | (intro z; omega) | (intro z; refine ⟨?_, ?_⟩ <;> (first | omega | (unfold y_Tr; omega))) | (intro z; refine ⟨?_, ?_, ?_⟩ <;> (first | omega | (unfold y_Tr; omega)))))) | (rcases h0_r_41 with hz | hz; exact Or.inl hz.1; exact Or.inr hz.1) | (rcases h0_r_46 with hz | hz; exact Or.inl hz.1; (refine Or.inr ?_; unfold y_In; refine ⟨?_, ?_, ?_, ?_, ?_, ?_, ?_, ?_, ?_, ?_, ?_⟩ <;> (first | omega | (intro z; exfalso; omega) | (intro z; unfold y_Ty; omega) | (intro z; unfold y_Tr; omega) | (intro z; omega) | (intro z; refine ⟨?_, ?_⟩ <;> (first | omega | (unfold y_Tr; omega))) | (intro z; refine ⟨?_, ?_, ?_⟩ <;> (first | omega | (unfold y_Tr; omega)))))) | (rcases h0_r_46 with hz | hz; exact Or.inl hz.1; exact Or.inr hz.1) | (rcases h0_r_51 with hz | hz; exact Or.inl hz.1; (refine Or.inr ?_; unfold y_In; refine ⟨?_, ?_, ?_, ?_, ?_, ?_, ?_, ?_, ?_, ?_, ?_⟩ <;> (first | omega | (intro z; exfalso; omega) | (intro z; unfold y_Ty; omega) | (intro z; unfold y_Tr; omega) | (intro z; omega) | (intro z; refine ⟨?_, ?_⟩ <;> (first | omega | (unfold y_Tr; omega))) | (intro z; refine ⟨?_, ?_, ?_⟩ <;> (first | omega | (unfold y_Tr; omega)))))) | (rcases h0_r_51 with hz | hz; exact Or.inl hz.1; exact Or.inr hz.1) | (rcases h0_r_53 with hz | hz; exact Or.inl hz.1; (refine Or.inr ?_; unfold y_In; refine ⟨?_, ?_, ?_, ?_, ?_, ?_, ?_, ?_, ?_, ?_, ?_⟩ <;> (first | omega | (intro z; exfalso; omega) | (intro z; unfold y_Ty; omega) | (intro z; unfold y_Tr; omega) | (intro z; omega) | (intro z; refine ⟨?_, ?_⟩ <;> (first | omega | (unfold y_Tr; omega))) | (intro z; refine ⟨?_, ?_, ?_⟩ <;> (first | omega | (unfold y_Tr; omega)))))) | (rcases h0_r_53 with hz | hz; exact Or.inl hz.1; exact Or.inr hz.1))
              · skip
                have c37' := c37
                rw [Int32.le_iff_toInt_le] at c37'
                have e38 : (1 : Int32).toInt = 1 := rfl
                refine y_some ?_
                try dsimp only
                refine ⟨?_, ?_⟩ <;> (first | with_reducible assumption | omega | ((with_reducible refine y_Vl ?_ ?_) <;> omega) | (exact Or.inl (by omega)) | (refine Or.inr ?_; unfold y_In; refine ⟨?_, ?_, ?_, ?_, ?_, ?_, ?_, ?_, ?_, ?_, ?_⟩ <;> (first | omega | (intro z; exfalso; omega) | (intro z; unfold y_Ty; omega) | (intro z; unfold y_Tr; omega) | (intro z; omega) | (intro z; refine ⟨?_, ?_⟩ <;> (first | omega | (unfold y_Tr; omega))) | (intro z; refine ⟨?_, ?_, ?_⟩ <;> (first | omega | (unfold y_Tr; omega))))) | (rcases h0_r_41 with hz | hz; exact Or.inl hz.1; (refine Or.inr ?_; unfold y_In; refine ⟨?_, ?_, ?_, ?_, ?_, ?_, ?_, ?_, ?_, ?_, ?_⟩ <;> (first | omega | (intro z; exfalso; omega) | (intro z; unfold y_Ty; omega) | (intro z; unfold y_Tr; omega) | (intro z; omega) | (intro z; refine ⟨?_, ?_⟩ <;> (first | omega | (unfold y_Tr; omega))) | (intro z; refine ⟨?_, ?_, ?_⟩ <;> (first | omega | (unfold y_Tr; omega)))))) | (rcases h0_r_41 with hz | hz; exact Or.inl hz.1; exact Or.inr hz.1) | (rcases h0_r_46 with hz | hz; exact Or.inl hz.1; (refine Or.inr ?_; unfold y_In; refine ⟨?_, ?_, ?_, ?_, ?_, ?_, ?_, ?_, ?_, ?_, ?_⟩ <;> (first | omega | (intro z; exfalso; omega) | (intro z; unfold y_Ty; omega) | (intro z; unfold y_Tr; omega) | (intro z; omega) | (intro z; refine ⟨?_, ?_⟩ <;> (first | omega | (unfold y_Tr; omega))) | (intro z; refine ⟨?_, ?_, ?_⟩ <;> (first | omega | (unfold y_Tr; omega)))))) | (rcases h0_r_46 with hz | hz; exact Or.inl hz.1; exact Or.inr hz.1) | (rcases h0_r_51 with hz | hz; exact Or.inl hz.1; (refine Or.inr ?_; unfold y_In; refine ⟨?_, ?_, ?_, ?_, ?_, ?_, ?_, ?_, ?_, ?_, ?_⟩ <;> (first | omega | (intro z; exfalso; omega) | (intro z; unfold y_Ty; omega) | (intro z; unfold y_Tr; omega) | (intro z; omega) | (intro z; refine ⟨?_, ?_⟩ <;> (first | omega | (unfold y_Tr; omega))) | (intro z; refine ⟨?_, ?_, ?_⟩ <;> (first | omega | (unfold y_Tr; omega)))))) | (rcases h0_r_51 with hz | hz; exact Or.inl hz.1; exact Or.inr hz.1) | (rcases h0_r_53 with hz | hz; exact Or.inl hz.1; (refine Or.inr ?_; unfold y_In; refine ⟨?_, ?_, ?_, ?_, ?_, ?_, ?_, ?_, ?_, ?_, ?_⟩ <;> (first | omega | (intro z; exfalso; omega) | (intro z; unfold y_Ty; omega) | (intro z; unfold y_Tr; omega) | (intro z; omega) | (intro z; refine ⟨?_, ?_⟩ <;> (first | omega | (unfold y_Tr; omega))) | (intro z; refine ⟨?_, ?_, ?_⟩ <;> (first | omega | (unfold y_Tr; omega)))))) | (rcases h0_r_53 with hz | hz; exact Or.inl hz.1; exact Or.inr hz.1))
          · skip
            have e39 : (178 : Int32).toInt = 178 := rfl
            have c32' := c32
            rw [← Int32.toInt_inj] at c32'
            refine y_if (fun c40 => ?_) (fun c40 => ?_)
            · skip
              have e41 : (179 : Int32).toInt = 179 := rfl
              have c40' := c40
              rw [← Int32.toInt_inj] at c40'
              refine y_if (fun c42 => ?_) (fun c42 => ?_)
              · skip
                have e43 : (0 : Int32).toInt = 0 := rfl
                have c42' := c42
                rw [Int32.lt_iff_toInt_lt] at c42'
                refine y_some ?_
                try dsimp only
                refine ⟨?_, ?_⟩ <;> (first | with_reducible assumption | omega | ((with_reducible refine y_Vl ?_ ?_) <;> omega) | (exact Or.inl (by omega)) | (refine Or.inr ?_; unfold y_In; refine ⟨?_, ?_, ?_, ?_, ?_, ?_, ?_, ?_, ?_, ?_, ?_⟩ <;> (first | omega | (intro z; exfalso; omega) | (intro z; unfold y_Ty; omega) | (intro z; unfold y_Tr; omega) | (intro z; omega) | (intro z; refine ⟨?_, ?_⟩ <;> (first | omega | (unfold y_Tr; omega))) | (intro z; refine ⟨?_, ?_, ?_⟩ <;> (first | omega | (unfold y_Tr; omega))))) | (rcases h0_r_41 with hz | hz; exact Or.inl hz.1; (refine Or.inr ?_; unfold y_In; refine ⟨?_, ?_, ?_, ?_, ?_, ?_, ?_, ?_, ?_, ?_, ?_⟩ <;> (first | omega | (intro z; exfalso; omega) | (intro z; unfold y_Ty; omega) | (intro z; unfold y_Tr; omega) | (intro z; omega) | (intro z; refine ⟨?_, ?_⟩ <;> (first | omega | (unfold y_Tr; omega))) | (intro z; refine ⟨?_, ?_, ?_⟩ <;> (first | omega | (unfold y_Tr; omega)))))) | (rcases h0_r_41 with hz | hz; exact Or.inl hz.1; exact Or.inr hz.1) | (rcases h0_r_46 with hz | hz; exact Or.inl hz.1; (refine Or.inr ?_; unfold y_In; refine ⟨?_, ?_, ?_, ?_, ?_, ?_, ?_, ?_, ?_, ?_, ?_⟩ <;> (first | omega | (intro z; exfalso; omega) | (intro z; unfold y_Ty; omega) | (intro z; unfold y_Tr; omega) | (intro z; omega) | (intro z; refine ⟨?_, ?_⟩ <;> (first | omega | (unfold y_Tr; omega))) | (intro z; refine ⟨?_, ?_, ?_⟩ <;> (first | omega | (unfold y_Tr; omega)))))) | (rcases h0_r_46 with hz | hz; exact Or.inl hz.1; exact Or.inr hz.1) | (rcases h0_r_51 with hz | hz; exact Or.inl hz.1; (refine Or.inr ?_; unfold y_In; refine ⟨?_, ?_, ?_, ?_, ?_, ?_, ?_, ?_, ?_, ?_, ?_⟩ <;> (first | omega | (intro z; exfalso; omega) | (intro z; unfold y_Ty; omega) | (intro z; unfold y_Tr; omega) | (intro z; omega) | (intro z; refine ⟨?_, ?_⟩ <;> (first | omega | (unfold y_Tr; omega))) | (intro z; refine ⟨?_, ?_, ?_⟩ <;> (first | omega | (unfold y_Tr; omega)))))) | (rcases h0_r_51 with hz | hz; exact Or.inl hz.1; exact Or.inr hz.1) | (rcases h0_r_53 with hz | hz; exact Or.inl hz.1; (refine Or.inr ?_; unfold y_In; refine ⟨?_, ?_, ?_, ?_, ?_, ?_, ?_, ?_, ?_, ?_, ?_⟩ <;> (first | omega | (intro z; exfalso; omega) | (intro z; unfold y_Ty; omega) | (intro z; unfold y_Tr; omega) | (intro z; omega) | (intro z; refine ⟨?_, ?_⟩ <;> (first | omega | (unfold y_Tr; omega))) | (intro z; refine ⟨?_, ?_, ?_⟩ <;> (first | omega | (unfold y_Tr; omega)))))) | (rcases h0_r_53 with hz | hz; exact Or.inl hz.1; exact Or.inr hz.1))
              · skip
                have e44 : (0 : Int32).toInt = 0 := rfl
                have c42' := c42
                rw [Int32.lt_iff_toInt_lt] at c42'
                refine y_if (fun c45 => ?_) (fun c45 => ?_)
                · skip
                  have c45' := c45
                  rw [Int32.le_iff_toInt_le] at c45'
                  refine y_some ?_
                  try dsimp only
                  refine ⟨?_, ?_⟩ <;> (first | with_reducible assumption | omega | ((with_reducible refine y_Vl ?_ ?_) <;> omega) | (exact Or.inl (by omega)) | (refine Or.inr ?_; unfold y_In; refine ⟨?_, ?_, ?_, ?_, ?_, ?_, ?_, ?_, ?_, ?_, ?_⟩ <;> (first | omega | (intro z; exfalso; omega) | (intro z; unfold y_Ty; omega) | (intro z; unfold y_Tr; omega) | (intro z; omega) | (intro z; refine ⟨?_, ?_⟩ <;> (first | omega | (unfold y_Tr; omega))) | (intro z; refine ⟨?_, ?_, ?_⟩ <;> (first | omega | (unfold y_Tr; omega))))) | (rcases h0_r_41 with hz | hz; exact Or.inl hz.1; (refine Or.inr ?_; unfold y_In; refine ⟨?_, ?_, ?_, ?_, ?_, ?_, ?_, ?_, ?_, ?_, ?_⟩ <;> (first | omega | (intro z; exfalso; omega) | (intro z; unfold y_Ty; omega) | (intro z; unfold y_Tr; omega) | (intro z; omega) | (intro z; refine ⟨?_, ?_⟩ <;> (first | omega | (unfold y_Tr; omega))) | (intro z; refine ⟨?_, ?_, ?_⟩ <;> (first | omega | (unfold y_Tr; omega)))))) | (rcases h0_r_41 with hz | hz; exact Or.inl hz.1; exact Or.inr hz.1) | (rcases h0_r_46 with hz | hz; exact Or.inl hz.1; (refine Or.inr ?_; unfold y_In; refine ⟨?_, ?_, ?_, ?_, ?_, ?_, ?_, ?_, ?_, ?_, ?_⟩ <;> (first | omega | (intro z; exfalso; omega) | (intro z; unfold y_Ty; omega) | (intro z; unfold y_Tr; omega) | (intro z; omega) | (intro z; refine ⟨?_, ?_⟩ <;> (first | omega | (unfold y_Tr; omega))) | (intro z; refine ⟨?_, ?_, ?_⟩ <;> (first | omega | (unfold y_Tr; omega)))))) | (rcases h0_r_46 with hz | hz; exact Or.inl hz.1; exact Or.inr hz.1) | (rcases h0_r_51 with hz | hz; exact Or.inl hz.1; (refine Or.inr ?_; unfold y_In; refine ⟨?_, ?_, ?_, ?_, ?_, ?_, ?_, ?_, ?_, ?_, ?_⟩ <;> (first | omega | (intro z; exfalso; omega) | (intro z; unfold y_Ty; omega) | (intro z; unfold y_Tr; omega) | (intro z; omega) | (intro z; refine ⟨?_, ?_⟩ <;> (first | omega | (unfold y_Tr; omega))) | (intro z; refine ⟨?_, ?_, ?_⟩ <;> (first | omega | (unfold y_Tr; omega)))))) | (rcases h0_r_51 with hz | hz; exact Or.inl hz.1; exact Or.inr hz.1) | (rcases h0_r_53 with hz | hz; exact Or.inl hz.1; (refine Or.inr ?_; unfold y_In; refine ⟨?_, ?_, ?_, ?_, ?_, ?_, ?_, ?_, ?_, ?_, ?_⟩ <;> (first | omega | (intro z; exfalso; omega) | (intro z; unfold y_Ty; omega) | (intro z; unfold y_Tr; omega) | (intro z; omega) | (intro z; refine ⟨?_, ?_⟩ <;> (first | omega | (unfold y_Tr; omega))) | (intro z; refine ⟨?_, ?_, ?_⟩ <;> (first | omega | (unfold y_Tr; omega)))))) | (rcases h0_r_53 with hz | hz; exact Or.inl hz.1; exact Or.inr hz.1))
                · skip
                  have c45' := c45
                  rw [Int32.le_iff_toInt_le] at c45'
                  have e46 : (1 : Int32).toInt = 1 := rfl
                  refine y_some ?_
                  try dsimp only
                  refine ⟨?_, ?_⟩ <;> (first | with_reducible assumption | omega | ((with_reducible refine y_Vl ?_ ?_) <;> omega) | (exact Or.inl (by omega)) | (refine Or.inr ?_; unfold y_In; refine ⟨?_, ?_, ?_, ?_, ?_, ?_, ?_, ?_, ?_, ?_, ?_⟩ <;> (first | omega | (intro z; exfalso; omega) | (intro z; unfold y_Ty; omega) | (intro z; unfold y_Tr; omega) | (intro z; omega) | (intro z; refine ⟨?_, ?_⟩ <;> (first | omega | (unfold y_Tr; omega))) | (intro z; refine ⟨?_, ?_, ?_⟩ <;> (first | omega | (unfold y_Tr; omega))))) | (rcases h0_r_41 with hz | hz; exact Or.inl hz.1; (refine Or.inr ?_; unfold y_In; refine ⟨?_, ?_, ?_, ?_, ?_, ?_, ?_, ?_, ?_, ?_, ?_⟩ <;> (first | omega | (intro z; exfalso; omega) | (intro z; unfold y_Ty; omega) | (intro z; unfold y_Tr; omega) | (intro z; omega) | (intro z; refine ⟨?_, ?_⟩ <;> (first | omega | (unfold y_Tr; omega))) | (intro z; refine ⟨?_, ?_, ?_⟩ <;> (first | omega | (unfold y_Tr; omega)))))) | (rcases h0_r_41 with hz | hz; exact Or.inl hz.1; exact Or.inr hz.1) | (rcases h0_r_46 with hz | hz; exact Or.inl hz.1; (refine Or.inr ?_; unfold y_In; refine ⟨?_, ?_, ?_, ?_, ?_, ?_, ?_, ?_, ?_, ?_, ?_⟩ <;> (first | omega | (intro z; exfalso; omega) | (intro z; unfold y_Ty; omega) | (intro z; unfold y_Tr; omega) | (intro z; omega) | (intro z; refine ⟨?_, ?_⟩ <;> (first | omega | (unfold y_Tr; omega))) | (intro z; refine ⟨?_, ?_, ?_⟩ <;> (first | omega | (unfold y_Tr; omega)))))) | (rcases h0_r_46 with hz | hz; exact Or.inl hz.1; exact Or.inr hz.1) | (rcases h0_r_51 with hz | hz; exact Or.inl hz.1; (refine Or.inr ?_; unfold y_In; refine ⟨?_, ?_, ?_, ?_, ?_, ?_, ?_, ?_, ?_, ?_, ?_⟩ <;> (first | omega | (intro z; exfalso; omega) | (intro z; unfold y_Ty; omega) | (intro z; unfold y_Tr; omega) | (intro z; omega) | (intro z; refine ⟨?_, ?_⟩ <;> (first | omega | (unfold y_Tr; omega))) | (intro z; refine ⟨?_, ?_, ?_⟩ <;> (first | omega | (unfold y_Tr; omega)))))) | (rcases h0_r_51 with hz | hz; exact Or.inl hz.1; exact Or.inr hz.1) | (rcases h0_r_53 with hz | hz; exact Or.inl hz.1; (refine Or.inr ?_; unfold y_In; refine ⟨?_, ?_, ?_, ?_, ?_, ?_, ?_, ?_, ?_, ?_, ?_⟩ <;> (first | omega | (intro z; exfalso; omega) | (intro z; unfold y_Ty; omega) | (intro z; unfold y_Tr; omega) | (intro z; omega) | (intro z; refine ⟨?_, ?_⟩ <;> (first | omega | (unfold y_Tr; omega))) | (intro z; refine ⟨?_, ?_, ?_⟩ <;> (first | omega | (unfold y_Tr; omega)))))) | (rcases h0_r_53 with hz | hz; exact Or.inl hz.1; exact Or.inr hz.1))
            · skip
              have e47 : (179 : Int32).toInt = 179 := rfl
              have c40' := c40
              rw [← Int32.toInt_inj] at c40'
              refine y_if (fun c48 => ?_) (fun c48 => ?_)
              · skip
                have e49 : (180 : Int32).toInt = 180 := rfl
                have c48' := c48
                rw [← Int32.toInt_inj] at c48'
                refine y_if (fun c50 => ?_) (fun c50 => ?_)
                · skip
                  have e51 : (0 : Int32).toInt = 0 := rfl
                  have c50' := c50
                  rw [Int32.lt_iff_toInt_lt] at c50'
                  refine y_some ?_
                  try dsimp only
                  refine ⟨?_, ?_⟩ <;> (first | with_reducible assumption | omega | ((with_reducible refine y_Vl ?_ ?_) <;> omega) | (exact Or.inl (by omega)) | (refine Or.inr ?_; unfold y_In; refine ⟨?_, ?_, ?_, ?_, ?_, ?_, ?_, ?_, ?_, ?_, ?_⟩ <;> (first | omega | (intro z; exfalso; omega) | (intro z; unfold y_Ty; omega) | (intro z; unfold y_Tr; omega) | (intro z; omega) | (intro z; refine ⟨?_, ?_⟩ <;> (first | omega | (unfold y_Tr; omega))) | (intro z; refine ⟨?_, ?_, ?_⟩ <;> (first | omega | (unfold y_Tr; omega))))) | (rcases h0_r_41 with hz | hz; exact Or.inl hz.1; (refine Or.inr ?_; unfold y_In; refine ⟨?_, ?_, ?_, ?_, ?_, ?_, ?_, ?_, ?_, ?_, ?_⟩ <;> (first | omega | (intro z; exfalso; omega) | (intro z; unfold y_Ty; omega) | (intro z; unfold y_Tr; omega) | (intro z; omega) | (intro z; refine ⟨?_, ?_⟩ <;> (first | omega | (unfold y_Tr; omega))) | (intro z; refine ⟨?_, ?_, ?_⟩ <;> (first | omega | (unfold y_Tr; omega)))))) | (rcases h0_r_41 with hz | hz; exact Or.inl hz.1; exact Or.inr hz.1) | (rcases h0_r_46 with hz | hz; exact Or.inl hz.1; (refine Or.inr ?_; unfold y_In; refine ⟨?_, ?_, ?_, ?_, ?_, ?_, ?_, ?_, ?_, ?_, ?_⟩ <;> (first | omega | (intro z; exfalso; omega) | (intro z; unfold y_Ty; omega) | (intro z; unfold y_Tr; omega) | (intro z; omega) | (intro z; refine ⟨?_, ?_⟩ <;> (first | omega | (unfold y_Tr; omega))) | (intro z; refine ⟨?_, ?_, ?_⟩ <;> (first | omega | (unfold y_Tr; omega)))))) | (rcases h0_r_46 with hz | hz; exact Or.inl hz.1; exact Or.inr hz.1) | (rcases h0_r_51 with hz | hz; exact Or.inl hz.1; (refine Or.inr ?_; unfold y_In; refine ⟨?_, ?_, ?_, ?_, ?_, ?_, ?_, ?_, ?_, ?_, ?_⟩ <;> (first | omega | (intro z; exfalso; omega) | (intro z; unfold y_Ty; omega) | (intro z; unfold y_Tr; omega) | (intro z; omega) | (intro z; refine ⟨?_, ?_⟩ <;> (first | omega | (unfold y_Tr; omega))) | (intro z; refine ⟨?_, ?_, ?_⟩ <;> (first | omega | (unfold y_Tr; omega)))))) | (rcases h0_r_51 with hz | hz; exact Or.inl hz.1; exact Or.inr hz.1) | (rcases h0_r_53 with hz | hz; exact Or.inl hz.1; (refine Or.inr ?_; unfold y_In; refine ⟨?_, ?_, ?_, ?_, ?_, ?_, ?_, ?_, ?_, ?_, ?_⟩ <;> (first | omega | (intro z; exfalso; omega) | (intro z; unfold y_Ty; omega) | (intro z; unfold y_Tr; omega) | (intro z; omega) | (intro z; refine ⟨?_, ?_⟩ <;> (first | omega | (unfold y_Tr; omega))) | (intro z; refine ⟨?_, ?_, ?_⟩ <;> (first | omega | (unfold y_Tr; omega)))))) | (rcases h0_r_53 with hz | hz; exact Or.inl hz.1; exact Or.inr hz.1))
                · skip
                  have e52 : (0 : Int32).toInt = 0 := rfl
                  have c50' := c50
                  rw [Int32.lt_iff_toInt_lt] at c50'
                  refine y_if (fun c53 => ?_) (fun c53 => ?_)
                  · skip
                    have c53' := c53
                    rw [Int32.le_iff_toInt_le] at c53'
                    refine y_some ?_
                    try dsimp only
                    refine ⟨?_, ?_⟩ <;> (first | with_reducible assumption | omega | ((with_reducible refine y_Vl ?_ ?_) <;> omega) | (exact Or.inl (by omega)) | (refine Or.inr ?_; unfold y_In; refine ⟨?_, ?_, ?_, ?_, ?_, ?_, ?_, ?_, ?_, ?_, ?_⟩ <;> (first | omega | (intro z; exfalso; omega) | (intro z; unfold y_Ty; omega) | (intro z; unfold y_Tr; omega) | (intro z; omega) | (intro z; refine ⟨?_, ?_⟩ <;> (first | omega | (unfold y_Tr; omega))) | (intro z; refine ⟨?_, ?_, ?_⟩ <;> (first | omega | (unfold y_Tr; omega))))) | (rcases h0_r_41 with hz | hz; exact Or.inl hz.1; (refine Or.inr ?_; unfold y_In; refine ⟨?_, ?_, ?_, ?_, ?_, ?_, ?_, ?_, ?_, ?_, ?_⟩ <;> (first | omega | (intro z; exfalso; omega) | (intro z; unfold y_Ty; omega) | (intro z; unfold y_Tr; omega) | (intro z; omega) | (intro z; refine ⟨?_, ?_⟩ <;> (first | omega | (unfold y_Tr; omega))) | (intro z; refine ⟨?_, ?_, ?_⟩ <;> (first | omega | (unfold y_Tr; omega)))))) | (rcases h0_r_41 with hz | hz; exact Or.inl hz.1; exact Or.inr hz.1) | (rcases h0_r_46 with hz | hz; exact Or.inl hz.1; (refine Or.inr ?_; unfold y_In; refine ⟨?_, ?_, ?_, ?_, ?_, ?_, ?_, ?_, ?_, ?_, ?_⟩ <;> (first | omega | (intro z; exfalso; omega) | (intro z; unfold y_Ty; omega) | (intro z; unfold y_Tr; omega) | (intro z; omega) | (intro z; refine ⟨?_, ?_⟩ <;> (first | omega | (unfold y_Tr; omega))) | (intro z; refine ⟨?_, ?_, ?_⟩ <;> (first | omega | (unfold y_Tr; omega)))))) | (rcases h0_r_46 with hz | hz; exact Or.inl hz.1; exact Or.inr hz.1) | (rcases h0_r_51 with hz | hz; exact Or.inl hz.1; (refine Or.inr ?_; unfold y_In; refine ⟨?_, ?_, ?_, ?_, ?_, ?_, ?_, ?_, ?_, ?_, ?_⟩ <;> (first | omega | (intro z; exfalso; omega) | (intro z; unfold y_Ty; omega) | (intro z; unfold y_Tr; omega) | (intro z; omega) | (intro z; refine ⟨?_, ?_⟩ <;> (first | omega | (unfold y_Tr; omega))) | (intro z; refine ⟨?_, ?_, ?_⟩ <;> (first | omega | (unfold y_Tr; omega)))))) | (rcases h0_r_51 with hz | hz; exact Or.inl hz.1; exact Or.inr hz.1) | (rcases h0_r_53 with hz | hz; exact Or.inl hz.1; (refine Or.inr ?_; unfold y_In; refine ⟨?_, ?_, ?_, ?_, ?_, ?_, ?_, ?_, ?_, ?_, ?_⟩ <;> (first | omega | (intro z; exfalso; omega) | (intro z; unfold y_Ty; omega) | (intro z; unfold y_Tr; omega) | (intro z; omega) | (intro z; refine ⟨?_, ?_⟩ <;> (first | omega | (unfold y_Tr; omega))) | (intro z; refine ⟨?_, ?_, ?_⟩ <;> (first | omega | (unfold y_Tr; omega)))))) | (rcases h0_r_53 with hz | hz; exact Or.inl hz.1; exact Or.inr hz.1))
                  · skip
                    have c53' := c53
                    rw [Int32.le_iff_toInt_le] at c53'
                    have e54 : (1 : Int32).toInt = 1 := rfl
                    refine y_some ?_
                    try dsimp only
                    refine ⟨?_, ?_⟩ <;> (first | with_reducible assumption | omega | ((with_reducible refine y_Vl ?_ ?_) <;> omega) | (exact Or.inl (by omega)) | (refine Or.inr ?_; unfold y_In; refine ⟨?_, ?_, ?_, ?_, ?_, ?_, ?_, ?_, ?_, ?_, ?_⟩ <;> (first | omega | (intro z; exfalso; omega) | (intro z; unfold y_Ty; omega) | (intro z; unfold y_Tr; omega) | (intro z; omega) | (intro z; refine ⟨?_, ?_⟩ <;> (first | omega | (unfold y_Tr; omega))) | (intro z; refine ⟨?_, ?_, ?_⟩ <;> (first | omega | (unfold y_Tr; omega))))) | (rcases h0_r_41 with hz | hz; exact Or.inl hz.1; (refine Or.inr ?_; unfold y_In; refine ⟨?_, ?_, ?_, ?_, ?_, ?_, ?_, ?_, ?_, ?_, ?_⟩ <;> (first | omega | (intro z; exfalso; omega) | (intro z; unfold y_Ty; omega) | (intro z; unfold y_Tr; omega) | (intro z; omega) | (intro z; refine ⟨?_, ?_⟩ <;> (first | omega | (unfold y_Tr; omega))) | (intro z; refine ⟨?_, ?_, ?_⟩ <;> (first | omega | (unfold y_Tr; omega)))))) | (rcases h0_r_41 with hz | hz; exact Or.inl hz.1; exact Or.inr hz.1) | (rcases h0_r_46 with hz | hz; exact Or.inl hz.1; (refine Or.inr ?_; unfold y_In; refine ⟨?_, ?_, ?_, ?_, ?_, ?_, ?_, ?_, ?_, ?_, ?_⟩ <;> (first | omega | (intro z; exfalso; omega) | (intro z; unfold y_Ty; omega) | (intro z; unfold y_Tr; omega) | (intro z; omega) | (intro z; refine ⟨?_, ?_⟩ <;> (first | omega | (unfold y_Tr; omega))) | (intro z; refine ⟨?_, ?_, ?_⟩ <;> (first | omega | (unfold y_Tr; omega)))))) | (rcases h0_r_46 with hz | hz; exact Or.inl hz.1; exact Or.inr hz.1) | (rcases h0_r_51 with hz | hz; exact Or.inl hz.1; (refine Or.inr ?_; unfold y_In; refine ⟨?_, ?_, ?_, ?_, ?_, ?_, ?_, ?_, ?_, ?_, ?_⟩ <;> (first | omega | (intro z; exfalso; omega) | (intro z; unfold y_Ty; omega) | (intro z; unfold y_Tr; omega) | (intro z; omega) | (intro z; refine ⟨?_, ?_⟩ <;> (first | omega | (unfold y_Tr; omega))) | (intro z; refine ⟨?_, ?_, ?_⟩ <;> (first | omega | (unfold y_Tr; omega)))))) | (rcases h0_r_51 with hz | hz; exact Or.inl hz.1; exact Or.inr hz.1) | (rcases h0_r_53 with hz | hz; exact Or.inl hz.1; (refine Or.inr ?_; unfold y_In; refine ⟨?_, ?_, ?_, ?_, ?_, ?_, ?_, ?_, ?_, ?_, ?_⟩ <;> (first | omega | (intro z; exfalso; omega) | (intro z; unfold y_Ty; omega) | (intro z; unfold y_Tr; omega) | (intro z; omega) | (intro z; refine ⟨?_, ?_⟩ <;> (first | omega | (unfold y_Tr; omega))) | (intro z; refine ⟨?_, ?_, ?_⟩ <;> (first | omega | (unfold y_Tr; omega)))))) | (rcases h0_r_53 with hz | hz; exact Or.inl hz.1; exact Or.inr hz.1))
              · skip
                have e55 : (180 : Int32).toInt = 180 := rfl
                have c48' := c48
                rw [← Int32.toInt_inj] at c48'
                refine y_if (fun c56 => ?_) (fun c56 => ?_)
                · skip
                  have e57 : (181 : Int32).toInt = 181 := rfl
                  have c56' := c56
                  rw [← Int32.toInt_inj] at c56'
                  refine y_if (fun c58 => ?_) (fun c58 => ?_)
                  · skip
                    have e59 : (0 : Int32).toInt = 0 := rfl
                    have c58' := c58
                    rw [Int32.lt_iff_toInt_lt] at c58'
                    refine y_some ?_
                    try dsimp only
                    refine ⟨?_, ?_⟩ <;> (first | with_reducible assumption | omega | ((with_reducible refine y_Vl ?_ ?_) <;> omega) | (exact Or.inl (by omega)) | (refine Or.inr ?_; unfold y_In; refine ⟨?_, ?_, ?_, ?_, ?_, ?_, ?_, ?_, ?_, ?_, ?_⟩ <;> (first | omega | (intro z; exfalso; omega) | (intro z; unfold y_Ty; omega) | (intro z; unfold y_Tr; omega) | (intro z; omega) | (intro z; refine ⟨?_, ?_⟩ <;> (first | omega | (unfold y_Tr; omega))) | (intro z; refine ⟨?_, ?_, ?_⟩ <;> (first | omega | (unfold y_Tr; omega))))) | (rcases h0_r_41 with hz | hz; exact Or.inl hz.1; (refine Or.inr ?_; unfold y_In; refine ⟨?_, ?_, ?_, ?_, ?_, ?_, ?_, ?_, ?_, ?_, ?_⟩ <;> (first | omega | (intro z; exfalso; omega) | (intro z; unfold y_Ty; omega) | (intro z; unfold y_Tr; omega) | (intro z; omega) | (intro z; refine ⟨?_, ?_⟩ <;> (first | omega | (unfold y_Tr; omega))) | (intro z; refine ⟨?_, ?_, ?_⟩ <;> (first | omega | (unfold y_Tr; omega)))))) | (rcases h0_r_41 with hz | hz; exact Or.inl hz.1; exact Or.inr hz.1) | (rcases h0_r_46 with hz | hz; exact Or.inl hz.1; (refine Or.inr ?_; unfold y_In; refine ⟨?_, ?_, ?_, ?_, ?_, ?_, ?_, ?_, ?_, ?_, ?_⟩ <;> (first | omega | (intro z; exfalso; omega) | (intro z; unfold y_Ty; omega) | (intro z; unfold y_Tr; omega) | (intro z; omega) | (intro z; refine ⟨?_, ?_⟩ <;> (first | omega | (unfold y_Tr; omega))) | (intro z; refine ⟨?_, ?_, ?_⟩ <;> (first | omega | (unfold y_Tr; omega)))))) | (rcases h0_r_46 with hz | hz; exact Or.inl hz.1; exact Or.inr hz.1) | (rcases h0_r_51 with hz | hz; exact Or.inl hz.1; (refine Or.inr ?_; unfold y_In; refine ⟨?_, ?_, ?_, ?_, ?_, ?_, ?_, ?_, ?_, ?_, ?_⟩ <;> (first | omega | (intro z; exfalso; omega) | (intro z; unfold y_Ty; omega) | (intro z; unfold y_Tr; omega) | (intro z; omega) | (intro z; refine ⟨?_, ?_⟩ <;> (first | omega | (unfold y_Tr; omega))) | (intro z; refine ⟨?_, ?_, ?_⟩ <;> (first | omega | (unfold y_Tr; omega)))))) | (rcases h0_r_51 with hz | hz; exact Or.inl hz.1; exact Or.inr hz.1) | (rcases h0_r_53 with hz | hz; exact Or.inl hz.1; (refine Or.inr ?_; unfold y_In; refine ⟨?_, ?_, ?_, ?_, ?_, ?_, ?_, ?_, ?_, ?_, ?_⟩ <;> (first | omega | (intro z; exfalso; omega) | (intro z; unfold y_Ty; omega) | (intro z; unfold y_Tr; omega) | (intro z; omega) | (intro z; refine ⟨?_, ?_⟩ <;> (first | omega | (unfold y_Tr; omega))) | (intro z; refine ⟨?_, ?_, ?_⟩ <;> (first | omega | (unfold y_Tr; omega)))))) | (rcases h0_r_53 with hz | hz; exact Or.inl hz.1; exact Or.inr hz.1))
                  · skip
                    have e60 : (0 : Int32).toInt = 0 := rfl
                    have c58' := c58
                    rw [Int32.lt_iff_toInt_lt] at c58'
                    refine y_if (fun c61 => ?_) (fun c61 => ?_)
                    · skip
                      have c61' := c61
                      rw [Int32.le_iff_toInt_le] at c61'
                      refine y_some ?_
                      try dsimp only
                      refine ⟨?_, ?_⟩ <;> (first | with_reducible assumption | omega | ((with_reducible refine y_Vl ?_ ?_) <;> omega) | (exact Or.inl (by omega)) | (refine Or.inr ?_; unfold y_In; refine ⟨?_, ?_, ?_, ?_, ?_, ?_, ?_, ?_, ?_, ?_, ?_⟩ <;> (first | omega | (intro z; exfalso; omega) | (intro z; unfold y_Ty; omega) | (intro z; unfold y_Tr; omega) | (intro z; omega) | (intro z; refine ⟨?_, ?_⟩ <;> (first | omega | (unfold y_Tr; omega))) | (intro z; refine ⟨?_, ?_, ?_⟩ <;> (first | omega | (unfold y_Tr; omega))))) | (rcases h0_r_41 with hz | hz; exact Or.inl hz.1; (refine Or.inr ?_; unfold y_In; refine ⟨?_, ?_, ?_, ?_, ?_, ?_, ?_, ?_, ?_, ?_, ?_⟩ <;> (first | omega | (intro z; exfalso; omega) | (intro z; unfold y_Ty; omega) | (intro z; unfold y_Tr; omega) | (intro z; omega) | (intro z; refine ⟨?_, ?_⟩ <;> (first | omega | (unfold y_Tr; omega))) | (intro z; refine ⟨?_, ?_, ?_⟩ <;> (first | omega | (unfold y_Tr; omega)))))) | (rcases h0_r_41 with hz | hz; exact Or.inl hz.1; exact Or.inr hz.1) | (rcases h0_r_46 with hz | hz; exact Or.inl hz.1; (refine Or.inr ?_; unfold y_In; refine ⟨?_, ?_, ?_, ?_, ?_, ?_, ?_, ?_, ?_, ?_, ?_⟩ <;> (first | omega | (intro z; exfalso; omega) | (intro z; unfold y_Ty; omega) | (intro z; unfold y_Tr; omega) | (intro z; omega) | (intro z; refine ⟨?_, ?_⟩ <;> (first | omega | (unfold y_Tr; omega))) | (intro z; refine ⟨?_, ?_, ?_⟩ <;> (first | omega | (unfold y_Tr; omega)))))) | (rcases h0_r_46 with hz | hz; exact Or.inl hz.1; exact Or.inr hz.1) | (rcases h0_r_51 with hz | hz; exact Or.inl hz.1; (refine Or.inr ?_; unfold y_In; refine ⟨?_, ?_, ?_, ?_, ?_, ?_, ?_, ?_, ?_, ?_, ?_⟩ <;> (first | omega | (intro z; exfalso; omega) | (intro z; unfold y_Ty; omega) | (intro z; unfold y_Tr; omega) | (intro z; omega) | (intro z; refine ⟨?_, ?_⟩ <;> (first | omega | (unfold y_Tr; omega))) | (intro z; refine ⟨?_, ?_, ?_⟩ <;> (first | omega | (unfold y_Tr; omega)))))) | (rcases h0_r_51 with hz | hz; exact Or.inl hz.1; exact Or.inr hz.1) | (rcases h0_r_53 with hz | hz; exact Or.inl hz.1; (refine Or.inr ?_; unfold y_In; refine ⟨?_, ?_, ?_, ?_, ?_, ?_, ?_, ?_, ?_, ?_, ?_⟩ <;> (first | omega | (intro z; exfalso; omega) | (intro z; unfold y_Ty; omega) | (intro z; unfold y_Tr; omega) | (intro z; omega) | (intro z; refine ⟨?_, ?_⟩ <;> (first | omega | (unfold y_Tr; omega))) | (intro z; refine ⟨?_, ?_, ?_⟩ <;> (first | omega | (unfold y_Tr; omega)))))) | (rcases h0_r_53 with hz | hz; exact Or.inl hz.1; exact Or.inr hz.1))
                    · skip
                      have c61' := c61
                      rw [Int32.le_iff_toInt_le] at c61'
                      have e62 : (1 : Int32).toInt = 1 := rfl
                      refine y_some ?_
                      try dsimp only
                      refine ⟨?_, ?_⟩ <;> (first | with_reducible assumption | omega | ((with_reducible refine y_Vl ?_ ?_) <;> omega) | (exact Or.inl (by omega)) | (refine Or.inr ?_; unfold y_In; refine ⟨?_, ?_, ?_, ?_, ?_, ?_, ?_, ?_, ?_, ?_, ?_⟩ <;> (first | omega | (intro z; exfalso; omega) | (intro z; unfold y_Ty; omega) | (intro z; unfold y_Tr; omega) | (intro z; omega) | (intro z; refine ⟨?_, ?_⟩ <;> (first | omega | (unfold y_Tr; omega))) | (intro z; refine ⟨?_, ?_, ?_⟩ <;> (first | omega | (unfold y_Tr; omega))))) | (rcases h0_r_41 with hz | hz; exact Or.inl hz.1; (refine Or.inr ?_; unfold y_In; refine ⟨?_, ?_, ?_, ?_, ?_, ?_, ?_, ?_, ?_, ?_, ?_⟩ <;> (first | omega | (intro z; exfalso; omega) | (intro z; unfold y_Ty; omega) | (intro z; unfold y_Tr; omega) | (intro z; omega) | (intro z; refine ⟨?_, ?_⟩ <;> (first | omega | (unfold y_Tr; omega))) | (intro z; refine ⟨?_, ?_, ?_⟩ <;> (first | omega | (unfold y_Tr; omega)))))) | (rcases h0_r_41 with hz | hz; exact Or.inl hz.1; exact Or.inr hz.1) | (rcases h0_r_46 with hz | hz; exact Or.inl hz.1; (refine Or.inr ?_; unfold y_In; refine ⟨?_, ?_, ?_, ?_, ?_, ?_, ?_, ?_, ?_, ?_, ?_⟩ <;> (first | omega | (intro z; exfalso; omega) | (intro z; unfold y_Ty; omega) | (intro z; unfold y_Tr; omega) | (intro z; omega) | (intro z; refine ⟨?_, ?_⟩ <;> (first | omega | (unfold y_Tr; omega))) | (intro z; refine ⟨?_, ?_, ?_⟩ <;> (first | omega | (unfold y_Tr; omega)))))) | (rcases h0_r_46 with hz | hz; exact Or.inl hz.1; exact Or.inr hz.1) | (rcases h0_r_51 with hz | hz; exact Or.inl hz.1; (refine Or.inr ?_; unfold y_In; refine ⟨?_, ?_, ?_, ?_, ?_, ?_, ?_, ?_, ?_, ?_, ?_⟩ <;> (first | omega | (intro z; exfalso; omega) | (intro z; unfold y_Ty; omega) | (intro z; unfold y_Tr; omega) | (intro z; omega) | (intro z; refine ⟨?_, ?_⟩ <;> (first | omega | (unfold y_Tr; omega))) | (intro z; refine ⟨?_, ?_, ?_⟩ <;> (first | omega | (unfold y_Tr; omega)))))) | (rcases h0_r_51 with hz | hz; exact Or.inl hz.1; exact Or.inr hz.1) | (rcases h0_r_53 with hz | hz; exact Or.inl hz.1; (refine Or.inr ?_; unfold y_In; refine ⟨?_, ?_, ?_, ?_, ?_, ?_, ?_, ?_, ?_, ?_, ?_⟩ <;> (first | omega | (intro z; exfalso; omega) | (intro z; unfold y_Ty; omega) | (intro z; unfold y_Tr; omega) | (intro z; omega) | (intro z; refine ⟨?_, ?_⟩ <;> (first | omega | (unfold y_Tr; omega))) | (intro z; refine ⟨?_, ?_, ?_⟩ <;> (first | omega | (unfold y_Tr; omega)))))) | (rcases h0_r_53 with hz | hz; exact Or.inl hz.1; exact Or.inr hz.1))
                · skip
                  have e63 : (181 : Int32).toInt = 181 := rfl
                  have c56' := c56
                  rw [← Int32.toInt_inj] at c56'
                  refine y_if (fun c64 => ?_) (fun c64 => ?_)
                  · skip
                    have e65 : (182 : Int32).toInt = 182 := rfl
                    have c64' := c64
                    rw [← Int32.toInt_inj] at c64'
                    refine y_if (fun c66 => ?_) (fun c66 => ?_)
                    · skip
                      have e67 : (0 : Int32).toInt = 0 := rfl
                      have c66' := c66
                      rw [Int32.lt_iff_toInt_lt] at c66'
                      refine y_some ?_
                      try dsimp only
                      refine ⟨?_, ?_⟩ <;> (first | with_reducible assumption | omega | ((with_reducible refine y_Vl ?_ ?_) <;> omega) | (exact Or.inl (by omega)) | (refine Or.inr ?_; unfold y_In; refine ⟨?_, ?_, ?_, ?_, ?_, ?_, ?_, ?_, ?_, ?_, ?_⟩ <;> (first | omega | (intro z; exfalso; omega) | (intro z; unfold y_Ty; omega) | (intro z; unfold y_Tr; omega) | (intro z; omega) | (intro z; refine ⟨?_, ?_⟩ <;> (first | omega | (unfold y_Tr; omega))) | (intro z; refine ⟨?_, ?_, ?_⟩ <;> (first | omega | (unfold y_Tr; omega))))) | (rcases h0_r_41 with hz | hz; exact Or.inl hz.1; (refine Or.inr ?_; unfold y_In; refine ⟨?_, ?_, ?_, ?_, ?_, ?_, ?_, ?_, ?_, ?_, ?_⟩ <;> (first | omega | (intro z; exfalso; omega) | (intro z; unfold y_Ty; omega) | (intro z; unfold y_Tr; omega) | (intro z; omega) | (intro z; refine ⟨?_, ?_⟩ <;> (first | omega | (unfold y_Tr; omega))) | (intro z; refine ⟨?_, ?_, ?_⟩ <;> (first | omega | (unfold y_Tr; omega)))))) | (rcases h0_r_41 with hz | hz; exact Or.inl hz.1; exact Or.inr hz.1) | (rcases h0_r_46 with hz | hz; exact Or.inl hz.1; (refine Or.inr ?_; unfold y_In; refine ⟨?_, ?_, ?_, ?_, ?_, ?_, ?_, ?_, ?_, ?_, ?_⟩ <;> (first | omega | (intro z; exfalso; omega) | (intro z; unfold y_Ty; omega) | (intro z; unfold y_Tr; omega) | (intro z; omega) | (intro z; refine ⟨?_, ?_⟩ <;> (first | omega | (unfold y_Tr; omega))) | (intro z; refine ⟨?_, ?_, ?_⟩ <;> (first | omega | (unfold y_Tr; omega)))))) | (rcases h0_r_46 with hz | hz; exact Or.inl hz.1; exact Or.inr hz.1) | (rcases h0_r_51 with hz | hz; exact Or.inl hz.1; (refine Or.inr ?_; unfold y_In; refine ⟨?_, ?_, ?_, ?_, ?_, ?_, ?_, ?_, ?_, ?_, ?_⟩ <;> (first | omega | (intro z; exfalso; omega) | (intro z; unfold y_Ty; omega) | (intro z; unfold y_Tr; omega) | (intro z; omega) | (intro z; refine ⟨?_, ?_⟩ <;> (first | omega | (unfold y_Tr; omega))) | (intro z; refine ⟨?_, ?_, ?_⟩ <;> (first | omega | (unfold y_Tr; omega)))))) | (rcases h0_r_51 with hz | hz; exact Or.inl hz.1; exact Or.inr hz.1) | (rcases h0_r_53 with hz | hz; exact Or.inl hz.1; (refine Or.inr ?_; unfold y_In; refine ⟨?_, ?_, ?_, ?_, ?_, ?_, ?_, ?_, ?_, ?_, ?_⟩ <;> (first | omega | (intro z; exfalso; omega) | (intro z; unfold y_Ty; omega) | (intro z; unfold y_Tr; omega) | (intro z; omega) | (intro z; refine ⟨?_, ?_⟩ <;> (first | omega | (unfold y_Tr; omega))) | (intro z; refine ⟨?_, ?_, ?_⟩ <;> (first | omega | (unfold y_Tr; omega)))))) | (rcases h0_r_53 with hz | hz; exact Or.inl hz.1; exact Or.inr hz.1))
                    · skip
                      have e68 : (0 : Int32).toInt = 0 := rfl
                      have c66' := c66
                      rw [Int32.lt_iff_toInt_lt] at c66'
                      refine y_if (fun c69 => ?_) (fun c69 => ?_)
                      · skip
                        have c69' := c69
                        rw [Int32.le_iff_toInt_le] at c69'
                        refine y_some ?_
                        try dsimp only
                        refine ⟨?_, ?_⟩ <;> (first | with_reducible assumption | omega | ((with_reducible refine y_Vl ?_ ?_) <;> omega) | (exact Or.inl (by omega)) | (refine Or.inr ?_; unfold y_In; refine ⟨?_, ?_, ?_, ?_, ?_, ?_, ?_, ?_, ?_, ?_, ?_⟩ <;> (first | omega | (intro z; exfalso; omega) | (intro z; unfold y_Ty; omega) | (intro z; unfold y_Tr; omega) | (intro z; omega) | (intro z; refine ⟨?_, ?_⟩ <;> (first | omega | (unfold y_Tr; omega))) | (intro z; refine ⟨?_, ?_, ?_⟩ <;> (first | omega | (unfold y_Tr; omega))))) | (rcases h0_r_41 with hz | hz; exact Or.inl hz.1; (refine Or.inr ?_; unfold y_In; refine ⟨?_, ?_, ?_, ?_, ?_, ?_, ?_, ?_, ?_, ?_, ?_⟩ <;> (first | omega | (intro z; exfalso; omega) | (intro z; unfold y_Ty; omega) | (intro z; unfold y_Tr; omega) | (intro z; omega) | (intro z; refine ⟨?_, ?_⟩ <;> (first | omega | (unfold y_Tr; omega))) | (intro z; refine ⟨?_, ?_, ?_⟩ <;> (first | omega | (unfold y_Tr; omega)))))) | (rcases h0_r_41 with hz | hz; exact Or.inl hz.1; exact Or.inr hz.1) | (rcases h0_r_46 with hz | hz; exact Or.inl hz.1; (refine Or.inr ?_; unfold y_In; refine ⟨?_, ?_, ?_, ?_, ?_, ?_, ?_, ?_, ?_, ?_, ?_⟩ <;> (first | omega | (intro z; exfalso; omega) | (intro z; unfold y_Ty; omega) | (intro z; unfold y_Tr; omega) | (intro z; omega) | (intro z; refine ⟨?_, ?_⟩ <;> (first | omega | (unfold y_Tr; omega))) | (intro z; refine ⟨?_, ?_, ?_⟩ <;> (first | omega | (unfold y_Tr; omega)))))) | (rcases h0_r_46 with hz | hz; exact Or.inl hz.1; exact Or.inr hz.1) | (rcases h0_r_51 with hz | hz; exact Or.inl hz.1; (refine Or.inr ?_; unfold y_In; refine ⟨?_, ?_, ?_, ?_, ?_, ?_, ?_, ?_, ?_, ?_, ?_⟩ <;> (first | omega | (intro z; exfalso; omega) | (intro z; unfold y_Ty; omega) | (intro z; unfold y_Tr; omega) | (intro z; omega) | (intro z; refine ⟨?_, ?_⟩ <;> (first | omega | (unfold y_Tr; omega))) | (intro z; refine ⟨?_, ?_, ?_⟩ <;> (first | omega | (unfold y_Tr; omega)))))) | (rcases h0_r_51 with hz | hz; exact Or.inl hz.1; exact Or.inr hz.1) | (rcases h0_r_53 with hz | hz; exact Or.inl hz.1; (refine Or.inr ?_; unfold y_In; refine ⟨?_, ?_, ?_, ?_, ?_, ?_, ?_, ?_, ?_, ?_, ?_⟩ <;> (first | omega | (intro z; exfalso; omega) | (intro z; unfold y_Ty; omega) | (intro z; unfold y_Tr; omega) | (intro z; omega) | (intro z; refine ⟨?_, ?_⟩ <;> (first | omega | (unfold y_Tr; omega))) | (intro z; refine ⟨?_, ?_, ?_⟩ <;> (first | omega | (unfold y_Tr; omega)))))) | (rcases h0_r_53 with hz | hz; exact Or.inl hz.1; exact Or.inr hz.1))
                      · skip
                        have c69' := c69
                        rw [Int32.le_iff_toInt_le] at c69'
                        have e70 : (1 : Int32).toInt = 1 := rfl
                        refine y_some ?_
                        try dsimp only
                        refine ⟨?_, ?_⟩ <;> (first | with_reducible assumption | omega | ((with_reducible refine y_Vl ?_ ?_) <;> omega) | (exact Or.inl (by omega)) | (refine Or.inr ?_; unfold y_In; refine ⟨?_, ?_, ?_, ?_, ?_, ?_, ?_, ?_, ?_, ?_, ?_⟩ <;> (first | omega | (intro z; exfalso; omega) | (intro z; unfold y_Ty; omega) | (intro z; unfold y_Tr; omega) | (intro z; omega) | (intro z; refine ⟨?_, ?_⟩ <;> (first | omega | (unfold y_Tr; omega))) | (intro z; refine ⟨?_, ?_, ?_⟩ <;> (first | omega | (unfold y_Tr; omega))))) | (rcases h0_r_41 with hz | hz; exact Or.inl hz.1; (refine Or.inr ?_; unfold y_In; refine ⟨?_, ?_, ?_, ?_, ?_, ?_, ?_, ?_, ?_, ?_, ?_⟩ <;> (first | omega | (intro z; exfalso; omega) | (intro z; unfold y_Ty; omega) | (intro z; unfold y_Tr; omega) | (intro z; omega) | (intro z; refine ⟨?_, ?_⟩ <;> (first | omega | (unfold y_Tr; omega))) | (intro z; refine ⟨?_, ?_, ?_⟩ <;> (first | omega | (unfold y_Tr; omega)))))) | (rcases h0_r_41 with hz | hz; exact Or.inl hz.1; exact Or.inr hz.1) | (rcases h0_r_46 with hz | hz; exact Or.inl hz.1; (refine Or.inr ?_; unfold y_In; refine ⟨?_, ?_, ?_, ?_, ?_, ?_, ?_, ?_, ?_, ?_, ?_⟩ <;> (first | omega | (intro z; exfalso; omega) | (intro z; unfold y_Ty; omega) | (intro z; unfold y_Tr; omega) | (intro z; omega) | (intro z; refine ⟨?_, ?_⟩ <;> (first | omega | (unfold y_Tr; omega))) | (intro z; refine ⟨?_, ?_, ?_⟩ <;> (first | omega | (unfold y_Tr; omega)))))) | (rcases h0_r_46 with hz | hz; exact Or.inl hz.1; exact Or.inr hz.1) | (rcases h0_r_51 with hz | hz; exact Or.inl hz.1; (refine Or.inr ?_; unfold y_In; refine ⟨?_, ?_, ?_, ?_, ?_, ?_, ?_, ?_, ?_, ?_, ?_⟩ <;> (first | omega | (intro z; exfalso; omega) | (intro z; unfold y_Ty; omega) | (intro z; unfold y_Tr; omega) | (intro z; omega) | (intro z; refine ⟨?_, ?_⟩ <;> (first | omega | (unfold y_Tr; omega))) | (intro z; refine ⟨?_, ?_, ?_⟩ <;> (first | omega | (unfold y_Tr; omega)))))) | (rcases h0_r_51 with hz | hz; exact Or.inl hz.1; exact Or.inr hz.1) | (rcases h0_r_53 with hz | hz; exact Or.inl hz.1; (refine Or.inr ?_; unfold y_In; refine ⟨?_, ?_, ?_, ?_, ?_, ?_, ?_, ?_, ?_, ?_, ?_⟩ <;> (first | omega | (intro z; exfalso; omega) | (intro z; unfold y_Ty; omega) | (intro z; unfold y_Tr; omega) | (intro z; omega) | (intro z; refine ⟨?_, ?_⟩ <;> (first | omega | (unfold y_Tr; omega))) | (intro z; refine ⟨?_, ?_, ?_⟩ <;> (first | omega | (unfold y_Tr; omega)))))) | (rcases h0_r_53 with hz | hz; exact Or.inl hz.1; exact Or.inr hz.1))
                  · skip
                    have e71 : (182 : Int32).toInt = 182 := rfl
                    have c64' := c64
                    rw [← Int32.toInt_inj] at c64'
                    refine y_if (fun c72 => ?_) (fun c72 => ?_)
                    · skip
                      have e73 : (183 : Int32).toInt = 183 := rfl
                      have c72' := c72
                      rw [← Int32.toInt_inj] at c72'
                      refine y_if (fun c74 => ?_) (fun c74 => ?_)
                      · skip
                        have e75 : (0 : Int32).toInt = 0 := rfl
                        have c74' := c74
                        rw [Int32.lt_iff_toInt_lt] at c74'
                        refine y_some ?_
                        try dsimp only
                        refine ⟨?_, ?_⟩ <;> (first | with_reducible assumption | omega | ((with_reducible refine y_Vl ?_ ?_) <;> omega) | (exact Or.inl (by omega)) | (refine Or.inr ?_; unfold y_In; refine ⟨?_, ?_, ?_, ?_, ?_, ?_, ?_, ?_, ?_, ?_, ?_⟩ <;> (first | omega | (intro z; exfalso; omega) | (intro z; unfold y_Ty; omega) | (intro z; unfold y_Tr; omega) | (intro z; omega) | (intro z; refine ⟨?_, ?_⟩ <;> (first | omega | (unfold y_Tr; omega))) | (intro z; refine ⟨?_, ?_, ?_⟩ <;> (first | omega | (unfold y_Tr; omega))))) | (rcases h0_r_41 with hz | hz; exact Or.inl hz.1; (refine Or.inr ?_; unfold y_In; refine ⟨?_, ?_, ?_, ?_, ?_, ?_, ?_, ?_, ?_, ?_, ?_⟩ <;> (first | omega | (intro z; exfalso; omega) | (intro z; unfold y_Ty; omega) | (intro z; unfold y_Tr; omega) | (intro z; omega) | (intro z; refine ⟨?_, ?_⟩ <;> (first | omega | (unfold y_Tr; omega))) | (intro z; refine ⟨?_, ?_, ?_⟩ <;> (first | omega | (unfold y_Tr; omega)))))) | (rcases h0_r_41 with hz | hz; exact Or.inl hz.1; exact Or.inr hz.1) | (rcases h0_r_46 with hz | hz; exact Or.inl hz.1; (refine Or.inr ?_; unfold y_In; refine ⟨?_, ?_, ?_, ?_, ?_, ?_, ?_, ?_, ?_, ?_, ?_⟩ <;> (first | omega | (intro z; exfalso; omega) | (intro z; unfold y_Ty; omega) | (intro z; unfold y_Tr; omega) | (intro z; omega) | (intro z; refine ⟨?_, ?_⟩ <;> (first | omega | (unfold y_Tr; omega))) | (intro z; refine ⟨?_, ?_, ?_⟩ <;> (first | omega | (unfold y_Tr; omega)))))) | (rcases h0_r_46 with hz | hz; exact Or.inl hz.1; exact Or.inr hz.1) | (rcases h0_r_51 with hz | hz; exact Or.inl hz.1; (refine Or.inr ?_; unfold y_In; refine ⟨?_, ?_, ?_, ?_, ?_, ?_, ?_, ?_, ?_, ?_, ?_⟩ <;> (first | omega | (intro z; exfalso; omega) | (intro z; unfold y_Ty; omega) | (intro z; unfold y_Tr; omega) | (intro z; omega) | (intro z; refine ⟨?_, ?_⟩ <;> (first | omega | (unfold y_Tr; omega))) | (intro z; refine ⟨?_, ?_, ?_⟩ <;> (first | omega | (unfold y_Tr; omega)))))) | (rcases h0_r_51 with hz | hz; exact Or.inl hz.1; exact Or.inr hz.1) | (rcases h0_r_53 with hz | hz; exact Or.inl hz.1; (refine Or.inr ?_; unfold y_In; refine ⟨?_, ?_, ?_, ?_, ?_, ?_, ?_, ?_, ?_, ?_, ?_⟩ <;> (first | omega | (intro z; exfalso; omega) | (intro z; unfold y_Ty; omega) | (intro z; unfold y_Tr; omega) | (intro z; omega) | (intro z; refine ⟨?_, ?_⟩ <;> (first | omega | (unfold y_Tr; omega))) | (intro z; refine ⟨?_, ?_, ?_⟩ <;> (first | omega | (unfold y_Tr; omega)))))) | (rcases h0_r_53 with hz | hz; exact Or.inl hz.1; exact Or.inr hz.1))
                      · skip
                        have e76 : (0 : Int32).toInt = 0 := rfl
                        have c74' := c74
                        rw [Int32.lt_iff_toInt_lt] at c74'
                        refine y_if (fun c77 => ?_) (fun c77 => ?_)
                        · skip
                          have c77' := c77
                          rw [Int32.le_iff_toInt_le] at c77'
                          refine y_some ?_
                          try dsimp only
                          refine ⟨?_, ?_⟩ <;> (first | with_reducible assumption | omega | ((with_reducible refine y_Vl ?_ ?_) <;> omega) | (exact Or.inl (by omega)) | (refine Or.inr ?_; unfold y_In; refine ⟨?_, ?_, ?_, ?_, ?_, ?_, ?_, ?_, ?_, ?_, ?_⟩ <;> (first | omega | (intro z; exfalso; omega) | (intro z; unfold y_Ty; omega) | (intro z; unfold y_Tr; omega) | (intro z; omega) | (intro z; refine ⟨?_, ?_⟩ <;> (first | omega | (unfold y_Tr; omega))) | (intro z; refine ⟨?_, ?_, ?_⟩ <;> (first | omega | (unfold y_Tr; omega))))) | (rcases h0_r_41 with hz | hz; exact Or.inl hz.1; (refine Or.inr ?_; unfold y_In; refine ⟨?_, ?_, ?_, ?_, ?_, ?_, ?_, ?_, ?_, ?_, ?_⟩ <;> (first | omega | (intro z; exfalso; omega) | (intro z; unfold y_Ty; omega) | (intro z; unfold y_Tr; omega) | (intro z; omega) | (intro z; refine ⟨?_, ?_⟩ <;> (first | omega | (unfold y_Tr; omega))) | (intro z; refine ⟨?_, ?_, ?_⟩ <;> (first | omega | (unfold y_Tr; omega)))))) | (rcases h0_r_41 with hz | hz; exact Or.inl hz.1; exact Or.inr hz.1) | (rcases h0_r_46 with hz | hz; exact Or.inl hz.1; (refine Or.inr ?_; unfold y_In; refine ⟨?_, ?_, ?_, ?_, ?_, ?_, ?_, ?_, ?_, ?_, ?_⟩ <;> (first | omega | (intro z; exfalso; omega) | (intro z; unfold y_Ty; omega) | (intro z; unfold y_Tr; omega) | (intro z; omega) | (intro z; refine ⟨?_, ?_⟩ <;> (first | omega | (unfold y_Tr; omega))) | (intro z; refine ⟨?_, ?_, ?_⟩ <;> (first | omega | (unfold y_Tr; omega)))))) | (rcases h0_r_46 with hz | hz; exact Or.inl hz.1; exact Or.inr hz.1) | (rcases h0_r_51 with hz | hz; exact Or.inl hz.1; (refine Or.inr ?_; unfold y_In; refine ⟨?_, ?_, ?_, ?_, ?_, ?_, ?_, ?_, ?_, ?_, ?_⟩ <;> (first | omega | (intro z; exfalso; omega) | (intro z; unfold y_Ty; omega) | (intro z; unfold y_Tr; omega) | (intro z; omega) | (intro z; refine ⟨?_, ?_⟩ <;> (first | omega | (unfold y_Tr; omega))) | (intro z; refine ⟨?_, ?_, ?_⟩ <;> (first | omega | (unfold y_Tr; omega)))))) | (rcases h0_r_51 with hz | hz; exact Or.inl hz.1; exact Or.inr hz.1) | (rcases h0_r_53 with hz | hz; exact Or.inl hz.1; (refine Or.inr ?_; unfold y_In; refine ⟨?_, ?_, ?_, ?_, ?_, ?_, ?_, ?_, ?_, ?_, ?_⟩ <;> (first | omega | (intro z; exfalso; omega) | (intro z; unfold y_Ty; omega) | (intro z; unfold y_Tr; omega) | (intro z; omega) | (intro z; refine ⟨?_, ?_⟩ <;> (first | omega | (unfold y_Tr; omega))) | (intro z; refine ⟨?_, ?_, ?_⟩ <;> (first | omega | (unfold y_Tr; omega)))))) | (rcases h0_r_53 with hz | hz; exact Or.inl hz.1; exact Or.inr hz.1))
                        · skip
                          have c77' := c77
                          rw [Int32.le_iff_toInt_le] at c77'
                          have e78 : (1 : Int32).toInt = 1 := rfl
                          refine y_some ?_
                          try dsimp only
                          refine ⟨?_, ?_⟩ <;> (first | with_reducible assumption | omega | ((with_reducible refine y_Vl ?_ ?_) <;> omega) | (exact Or.inl (by omega)) | (refine Or.inr ?_; unfold y_In; refine ⟨?_, ?_, ?_, ?_, ?_, ?_, ?_, ?_, ?_, ?_, ?_⟩ <;> (first | omega | (intro z; exfalso; omega) | (intro z; unfold y_Ty; omega) | (intro z; unfold y_Tr; omega) | (intro z; omega) | (intro z; refine ⟨?_, ?_⟩ <;> (first | omega | (unfold y_Tr; omega))) | (intro z; refine ⟨?_, ?_, ?_⟩ <;> (first | omega | (unfold y_Tr; omega))))) | (rcases h0_r_41 with hz | hz; exact Or.inl hz.1; (refine Or.inr ?_; unfold y_In; refine ⟨?_, ?_, ?_, ?_, ?_, ?_, ?_, ?_, ?_, ?_, ?_⟩ <;> (first | omega | (intro z; exfalso; omega) | (intro z; unfold y_Ty; omega) | (intro z; unfold y_Tr; omega) | (intro z; omega) | (intro z; refine ⟨?_, ?_⟩ <;> (first | omega | (unfold y_Tr; omega))) | (intro z; refine ⟨?_, ?_, ?_⟩ <;> (first | omega | (unfold y_Tr; omega)))))) | (rcases h0_r_41 with hz | hz; exact Or.inl hz.1; exact Or.inr hz.1) | (rcases h0_r_46 with hz | hz; exact Or.inl hz.1; (refine Or.inr ?_; unfold y_In; refine ⟨?_, ?_, ?_, ?_, ?_, ?_, ?_, ?_, ?_, ?_, ?_⟩ <;> (first | omega | (intro z; exfalso; omega) | (intro z; unfold y_Ty; omega) | (intro z; unfold y_Tr; omega) | (intro z; omega) | (intro z; refine ⟨?_, ?_⟩ <;> (first | omega | (unfold y_Tr; omega))) | (intro z; refine ⟨?_, ?_, ?_⟩ <;> (first | omega | (unfold y_Tr; omega)))))) | (rcases h0_r_46 with hz | hz; exact Or.inl hz.1; exact Or.inr hz.1) | (rcases h0_r_51 with hz | hz; exact Or.inl hz.1; (refine Or.inr ?_; unfold y_In; refine ⟨?_, ?_, ?_, ?_, ?_, ?_, ?_, ?_, ?_, ?_, ?_⟩ <;> (first | omega | (intro z; exfalso; omega) | (intro z; unfold y_Ty; omega) | (intro z; unfold y_Tr; omega) | (intro z; omega) | (intro z; refine ⟨?_, ?_⟩ <;> (first | omega | (unfold y_Tr; omega))) | (intro z; refine ⟨?_, ?_, ?_⟩ <;> (first | omega | (unfold y_Tr; omega)))))) | (rcases h0_r_51 with hz | hz; exact Or.inl hz.1; exact Or.inr hz.1) | (rcases h0_r_53 with hz | hz; exact Or.inl hz.1; (refine Or.inr ?_; unfold y_In; refine ⟨?_, ?_, ?_, ?_, ?_, ?_, ?_, ?_, ?_, ?_, ?_⟩ <;> (first | omega | (intro z; exfalso; omega) | (intro z; unfold y_Ty; omega) | (intro z; unfold y_Tr; omega) | (intro z; omega) | (intro z; refine ⟨?_, ?_⟩ <;> (first | omega | (unfold y_Tr; omega))) | (intro z; refine ⟨?_, ?_, ?_⟩ <;> (first | omega | (unfold y_Tr; omega)))))) | (rcases h0_r_53 with hz | hz; exact Or.inl hz.1; exact Or.inr hz.1))
                    · skip
                      have e79 : (183 : Int32).toInt = 183 := rfl
                      have c72' := c72
                      rw [← Int32.toInt_inj] at c72'
                      refine y_if (fun c80 => ?_) (fun c80 => ?_)
                      · skip
                        have e81 : (184 : Int32).toInt = 184 := rfl
                        have c80' := c80
                        rw [← Int32.toInt_inj] at c80'
                        refine y_if (fun c82 => ?_) (fun c82 => ?_)
                        · skip
                          have e83 : (0 : Int32).toInt = 0 := rfl
                          have c82' := c82
                          rw [Int32.lt_iff_toInt_lt] at c82'
                          refine y_some ?_
                          try dsimp only
                          refine ⟨?_, ?_⟩ <;> (first | with_reducible assumption | omega | ((with_reducible refine y_Vl ?_ ?_) <;> omega) | (exact Or.inl (by omega)) | (refine Or.inr ?_; unfold y_In; refine ⟨?_, ?_, ?_, ?_, ?_, ?_, ?_, ?_, ?_, ?_, ?_⟩ <;> (first | omega | (intro z; exfalso; omega) | (intro z; unfold y_Ty; omega) | (intro z; unfold y_Tr; omega) | (intro z; omega) | (intro z; refine ⟨?_, ?_⟩ <;> (first | omega | (unfold y_Tr; omega))) | (intro z; refine ⟨?_, ?_, ?_⟩ <;> (first | omega | (unfold y_Tr; omega))))) | (rcases h0_r_41 with hz | hz; exact Or.inl hz.1; (refine Or.inr ?_; unfold y_In; refine ⟨?_, ?_, ?_, ?_, ?_, ?_, ?_, ?_, ?_, ?_, ?_⟩ <;> (first | omega | (intro z; exfalso; omega) | (intro z; unfold y_Ty; omega) | (intro z; unfold y_Tr; omega) | (intro z; omega) | (intro z; refine ⟨?_, ?_⟩ <;> (first | omega | (unfold y_Tr; omega))) | (intro z; refine ⟨?_, ?_, ?_⟩ <;> (first | omega | (unfold y_Tr; omega)))))) | (rcases h0_r_41 with hz | hz; exact Or.inl hz.1; exact Or.inr hz.1) | (rcases h0_r_46 with hz | hz; exact Or.inl hz.1; (refine Or.inr ?_; unfold y_In; refine ⟨?_, ?_, ?_, ?_, ?_, ?_, ?_, ?_, ?_, ?_, ?_⟩ <;> (first | omega | (intro z; exfalso; omega) | (intro z; unfold y_Ty; omega) | (intro z; unfold y_Tr; omega) | (intro z; omega) | (intro z; refine ⟨?_, ?_⟩ <;> (first | omega | (unfold y_Tr; omega))) | (intro z; refine ⟨?_, ?_, ?_⟩ <;> (first | omega | (unfold y_Tr; omega)))))) | (rcases h0_r_46 with hz | hz; exact Or.inl hz.1; exact Or.inr hz.1) | (rcases h0_r_51 with hz | hz; exact Or.inl hz.1; (refine Or.inr ?_; unfold y_In; refine ⟨?_, ?_, ?_, ?_, ?_, ?_, ?_, ?_, ?_, ?_, ?_⟩ <;> (first | omega | (intro z; exfalso; omega) | (intro z; unfold y_Ty; omega) | (intro z; unfold y_Tr; omega) | (intro z; omega) | (intro z; refine ⟨?_, ?_⟩ <;> (first | omega | (unfold y_Tr; omega))) | (intro z; refine ⟨?_, ?_, ?_⟩ <;> (first | omega | (unfold y_Tr; omega)))))) | (rcases h0_r_51 with hz | hz; exact Or.inl hz.1; exact Or.inr hz.1) | (rcases h0_r_53 with hz | hz; exact Or.inl hz.1; (refine Or.inr ?_; unfold y_In; refine ⟨?_, ?_, ?_, ?_, ?_, ?_, ?_, ?_, ?_, ?_, ?_⟩ <;> (first | omega | (intro z; exfalso; omega) | (intro z; unfold y_Ty; omega) | (intro z; unfold y_Tr; omega) | (intro z; omega) | (intro z; refine ⟨?_, ?_⟩ <;> (first | omega | (unfold y_Tr; omega))) | (intro z; refine ⟨?_, ?_, ?_⟩ <;> (first | omega | (unfold y_Tr; omega)))))) | (rcases h0_r_53 with hz | hz; exact Or.inl hz.1; exact Or.inr hz.1))
                        · skip
                          have e84 : (0 : Int32).toInt = 0 := rfl
                          have c82' := c82
                          rw [Int32.lt_iff_toInt_lt] at c82'
                          refine y_if (fun c85 => ?_) (fun c85 => ?_)
                          · skip
                            have c85' := c85
                            rw [Int32.le_iff_toInt_le] at c85'
                            refine y_some ?_
                            try dsimp only
                            refine ⟨?_, ?_⟩ <;> (first | with_reducible assumption | omega | ((with_reducible refine y_Vl ?_ ?_) <;> omega) | (exact Or.inl (by omega)) | (refine Or.inr ?_; unfold y_In; refine ⟨?_, ?_, ?_, ?_, ?_, ?_, ?_, ?_, ?_, ?_, ?_⟩ <;> (first | omega | (intro z; exfalso; omega) | (intro z; unfold y_Ty; omega) | (intro z; unfold y_Tr; omega) | (intro z; omega) | (intro z; refine ⟨?_, ?_⟩ <;> (first | omega | (unfold y_Tr; omega))) | (intro z; refine ⟨?_, ?_, ?_⟩ <;> (first | omega | (unfold y_Tr; omega))))) | (rcases h0_r_41 with hz | hz; exact Or.inl hz.1; (refine Or.inr ?_; unfold y_In; refine ⟨?_, ?_, ?_, ?_, ?_, ?_, ?_, ?_, ?_, ?_, ?_⟩ <;> (first | omega | (intro z; exfalso; omega) | (intro z; unfold y_Ty; omega) | (intro z; unfold y_Tr; omega) | (intro z; omega) | (intro z; refine ⟨?_, ?_⟩ <;> (first | omega | (unfold y_Tr; omega))) | (intro z; refine ⟨?_, ?_, ?_⟩ <;> (first | omega | (unfold y_Tr; omega)))))) | (rcases h0_r_41 with hz | hz; exact Or.inl hz.1; exact Or.inr hz.1) | (rcases h0_r_46 with hz | hz; exact Or.inl hz.1; (refine Or.inr ?_; unfold y_In; refine ⟨?_, ?_, ?_, ?_, ?_, ?_, ?_, ?_, ?_, ?_, ?_⟩ <;> (first | omega | (intro z; exfalso; omega) | (intro z; unfold y_Ty; omega) | (intro z; unfold y_Tr; omega) | (intro z; omega) | (intro z; refine ⟨?_, ?_⟩ <;> (first | omega | (unfold y_Tr; omega))) | (intro z; refine ⟨?_, ?_, ?_⟩ <;> (first | omega | (unfold y_Tr; omega)))))) | (rcases h0_r_46 with hz | hz; exact Or.inl hz.1; exact Or.inr hz.1) | (rcases h0_r_51 with hz | hz; exact Or.inl hz.1; (refine Or.inr ?_; unfold y_In; refine ⟨?_, ?_, ?_, ?_, ?_, ?_, ?_, ?_, ?_, ?_, ?_⟩ <;> (first | omega | (intro z; exfalso; omega) | (intro z; unfold y_Ty; omega) | (intro z; unfold y_Tr; omega) | (intro z; omega) | (intro z; refine ⟨?_, ?_⟩ <;> (first | omega | (unfold y_Tr; omega))) | (intro z; refine ⟨?_, ?_, ?_⟩ <;> (first | omega | (unfold y_Tr; omega)))))) | (rcases h0_r_51 with hz | hz; exact Or.inl hz.1; exact Or.inr hz.1) | (rcases h0_r_53 with hz | hz; exact Or.inl hz.1; (refine Or.inr ?_; unfold y_In; refine ⟨?_, ?_, ?_, ?_, ?_, ?_, ?_, ?_, ?_, ?_, ?_⟩ <;> (first | omega | (intro z; exfalso; omega) | (intro z; unfold y_Ty; omega) | (intro z; unfold y_Tr; omega) | (intro z; omega) | (intro z; refine ⟨?_, ?_⟩ <;> (first | omega | (unfold y_Tr; omega))) | (intro z; refine ⟨?_, ?_, ?_⟩ <;> (first | omega | (unfold y_Tr; omega)))))) | (rcases h0_r_53 with hz | hz; exact Or.inl hz.1; exact Or.inr hz.1))
                          · skip
                            have c85' := c85
                            rw [Int32.le_iff_toInt_le] at c85'
                            have e86 : (1 : Int32).toInt = 1 := rfl
                            refine y_some ?_
                            try dsimp only
                            refine ⟨?_, ?_⟩ <;> (first | with_reducible assumption | omega | ((with_reducible refine y_Vl ?_ ?_) <;> omega) | (exact Or.inl (by omega)) | (refine Or.inr ?_; unfold y_In; refine ⟨?_, ?_, ?_, ?_, ?_, ?_, ?_, ?_, ?_, ?_, ?_⟩ <;> (first | omega | (intro z; exfalso; omega) | (intro z; unfold y_Ty; omega) | (intro z; unfold y_Tr; omega) | (intro z; omega) | (intro z; refine ⟨?_, ?_⟩ <;> (first | omega | (unfold y_Tr; omega))) | (intro z; refine ⟨?_, ?_, ?_⟩ <;> (first | omega | (unfold y_Tr; omega))))) | (rcases h0_r_41 with hz | hz; exact Or.inl hz.1; (refine Or.inr ?_; unfold y_In; refine ⟨?_, ?_, ?_, ?_, ?_, ?_, ?_, ?_, ?_, ?_, ?_⟩ <;> (first | omega | (intro z; exfalso; omega) | (intro z; unfold y_Ty; omega) | (intro z; unfold y_Tr; omega) | (intro z; omega) | (intro z; refine ⟨?_, ?_⟩ <;> (first | omega | (unfold y_Tr; omega))) | (intro z; refine ⟨?_, ?_, ?_⟩ <;> (first | omega | (unfold y_Tr; omega)))))) | (rcases h0_r_41 with hz | hz; exact Or.inl hz.1; exact Or.inr hz.1) | (rcases h0_r_46 with hz | hz; exact Or.inl hz.1; (refine Or.inr ?_; unfold y_In; refine ⟨?_, ?_, ?_, ?_, ?_, ?_, ?_, ?_, ?_, ?_, ?_⟩ <;> (first | omega | (intro z; exfalso; omega) | (intro z; unfold y_Ty; omega) | (intro z; unfold y_Tr; omega) | (intro z; omega) | (intro z; refine ⟨?_, ?_⟩ <;> (first | omega | (unfold y_Tr; omega))) | (intro z; refine ⟨?_, ?_, ?_⟩ <;> (first | omega | (unfold y_Tr; omega)))))) | (rcases h0_r_46 with hz | hz; exact Or.inl hz.1; exact Or.inr hz.1) | (rcases h0_r_51 with hz | hz; exact Or.inl hz.1; (refine Or.inr ?_; unfold y_In; refine ⟨?_, ?_, ?_, ?_, ?_, ?_, ?_, ?_, ?_, ?_, ?_⟩ <;> (first | omega | (intro z; exfalso; omega) | (intro z; unfold y_Ty; omega) | (intro z; unfold y_Tr; omega) | (intro z; omega) | (intro z; refine ⟨?_, ?_⟩ <;> (first | omega | (unfold y_Tr; omega))) | (intro z; refine ⟨?_, ?_, ?_⟩ <;> (first | omega | (unfold y_Tr; omega)))))) | (rcases h0_r_51 with hz | hz; exact Or.inl hz.1; exact Or.inr hz.1) | (rcases h0_r_53 with hz | hz; exact Or.inl hz.1; (refine Or.inr ?_; unfold y_In; refine ⟨?_, ?_, ?_, ?_, ?_, ?_, ?_, ?_, ?_, ?_, ?_⟩ <;> (first | omega | (intro z; exfalso; omega) | (intro z; unfold y_Ty; omega) | (intro z; unfold y_Tr; omega) | (intro z; omega) | (intro z; refine ⟨?_, ?_⟩ <;> (first | omega | (unfold y_Tr; omega))) | (intro z; refine ⟨?_, ?_, ?_⟩ <;> (first | omega | (unfold y_Tr; omega)))))) | (rcases h0_r_53 with hz | hz; exact Or.inl hz.1; exact Or.inr hz.1))
                      · skip
                        have e87 : (184 : Int32).toInt = 184 := rfl
                        have c80' := c80
                        rw [← Int32.toInt_inj] at c80'
                        refine y_if (fun c88 => ?_) (fun c88 => ?_)
                        · skip
                          have e89 : (185 : Int32).toInt = 185 := rfl
                          have c88' := c88
                          rw [← Int32.toInt_inj] at c88'
                          refine y_if (fun c90 => ?_) (fun c90 => ?_)
                          · skip
                            have e91 : (0 : Int32).toInt = 0 := rfl
                            have c90' := c90
                            rw [Int32.lt_iff_toInt_lt] at c90'
                            refine y_some ?_
                            try dsimp only
                            refine ⟨?_, ?_⟩ <;> (first | with_reducible assumption | omega | ((with_reducible refine y_Vl ?_ ?_) <;> omega) | (exact Or.inl (by omega)) | (refine Or.inr ?_; unfold y_In; refine ⟨?_, ?_, ?_, ?_, ?_, ?_, ?_, ?_, ?_, ?_, ?_⟩ <;> (first | omega | (intro z; exfalso; omega) | (intro z; unfold y_Ty; omega) | (intro z; unfold y_Tr; omega) | (intro z; omega) | (intro z; refine ⟨?_, ?_⟩ <;> (first | omega | (unfold y_Tr; omega))) | (intro z; refine ⟨?_, ?_, ?_⟩ <;> (first | omega | (unfold y_Tr; omega))))) | (rcases h0_r_41 with hz | hz; exact Or.inl hz.1; (refine Or.inr ?_; unfold y_In; refine ⟨?_, ?_, ?_, ?_, ?_, ?_, ?_, ?_, ?_, ?_, ?_⟩ <;> (first | omega | (intro z; exfalso; omega) | (intro z; unfold y_Ty; omega) | (intro z; unfold y_Tr; omega) | (intro z; omega) | (intro z; refine ⟨?_, ?_⟩ <;> (first | omega | (unfold y_Tr; omega))) | (intro z; refine ⟨?_, ?_, ?_⟩ <;> (first | omega | (unfold y_Tr; omega)))))) | (rcases h0_r_41 with hz | hz; exact Or.inl hz.1; exact Or.inr hz.1) | (rcases h0_r_46 with hz | hz; exact Or.inl hz.1; (refine Or.inr ?_; unfold y_In; refine ⟨?_, ?_, ?_, ?_, ?_, ?_, ?_, ?_, ?_, ?_, ?_⟩ <;> (first | omega | (intro z; exfalso; omega) | (intro z; unfold y_Ty; omega) | (intro z; unfold y_Tr; omega) | (intro z; omega) | (intro z; refine ⟨?_, ?_⟩ <;> (first | omega | (unfold y_Tr; omega))) | (intro z; refine ⟨?_, ?_, ?_⟩ <;> (first | omega | (unfold y_Tr; omega)))))) | (rcases h0_r_46 with hz | hz; exact Or.inl hz.1; exact Or.inr hz.1) | (rcases h0_r_51 with hz | hz; exact Or.inl hz.1; (refine Or.inr ?_; unfold y_In; refine ⟨?_, ?_, ?_, ?_, ?_, ?_, ?_, ?_, ?_, ?_, ?_⟩ <;> (first | omega | (intro z; exfalso; omega) | (intro z; unfold y_Ty; omega) | (intro z; unfold y_Tr; omega) | (intro z; omega) | (intro z; refine ⟨?_, ?_⟩ <;> (first | omega | (unfold y_Tr; omega))) | (intro z; refine ⟨?_, ?_, ?_⟩ <;> (first | omega | (unfold y_Tr; omega)))))) | (rcases h0_r_51 with hz | hz; exact Or.inl hz.1; exact Or.inr hz.1) | (rcases h0_r_53 with hz | hz; exact Or.inl hz.1; (refine Or.inr ?_; unfold y_In; refine ⟨?_, ?_, ?_, ?_, ?_, ?_, ?_, ?_, ?_, ?_, ?_⟩ <;> (first | omega | (intro z; exfalso; omega) | (intro z; unfold y_Ty; omega) | (intro z; unfold y_Tr; omega) | (intro z; omega) | (intro z; refine ⟨?_, ?_⟩ <;> (first | omega | (unfold y_Tr; omega))) | (intro z; refine ⟨?_, ?_, ?_⟩ <;> (first | omega | (unfold y_Tr; omega)))))) | (rcases h0_r_53 with hz | hz; exact Or.inl hz.1; exact Or.inr hz.1))
                          · skip
                            have e92 : (0 : Int32).toInt = 0 := rfl
                            have c90' := c90
                            rw [Int32.lt_iff_toInt_lt] at c90'
                            refine y_if (fun c93 => ?_) (fun c93 => ?_)
                            · skip
                              have c93' := c93
                              rw [Int32.le_iff_toInt_le] at c93'
                              refine y_some ?_
                              try dsimp only
                              refine ⟨?_, ?_⟩ <;> (first | with_reducible assumption | omega | ((with_reducible refine y_Vl ?_ ?_) <;> omega) | (exact Or.inl (by omega)) | (refine Or.inr ?_; unfold y_In; refine ⟨?_, ?_, ?_, ?_, ?_, ?_, ?_, ?_, ?_, ?_, ?_⟩ <;> (first | omega | (intro z; exfalso; omega) | (intro z; unfold y_Ty; omega) | (intro z; unfold y_Tr; omega) | (intro z; omega) | (intro z; refine ⟨?_, ?_⟩ <;> (first | omega | (unfold y_Tr; omega))) | (intro z; refine ⟨?_, ?_, ?_⟩ <;> (first | omega | (unfold y_Tr; omega))))) | (rcases h0_r_41 with hz | hz; exact Or.inl hz.1; (refine Or.inr ?_; unfold y_In; refine ⟨?_, ?_, ?_, ?_, ?_, ?_, ?_, ?_, ?_, ?_, ?_⟩ <;> (first | omega | (intro z; exfalso; omega) | (intro z; unfold y_Ty; omega) | (intro z; unfold y_Tr; omega) | (intro z; omega) | (intro z; refine ⟨?_, ?_⟩ <;> (first | omega | (unfold y_Tr; omega))) | (intro z; refine ⟨?_, ?_, ?_⟩ <;> (first | omega | (unfold y_Tr; omega)))))) | (rcases h0_r_41 with hz | hz; exact Or.inl hz.1; exact Or.inr hz.1) | (rcases h0_r_46 with hz | hz; exact Or.inl hz.1; (refine Or.inr ?_; unfold y_In; refine ⟨?_, ?_, ?_, ?_, ?_, ?_, ?_, ?_, ?_, ?_, ?_⟩ <;> (first | omega | (intro z; exfalso; omega) | (intro z; unfold y_Ty; omega) | (intro z; unfold y_Tr; omega) | (intro z; omega) | (intro z; refine ⟨?_, ?_⟩ <;> (first | omega | (unfold y_Tr; omega))) | (intro z; refine ⟨?_, ?_, ?_⟩ <;> (first | omega | (unfold y_Tr; omega)))))) | (rcases h0_r_46 with hz | hz; exact Or.inl hz.1; exact Or.inr hz.1) | (rcases h0_r_51 with hz | hz; exact Or.inl hz.1; (refine Or.inr ?_; unfold y_In; refine ⟨?_, ?_, ?_, ?_, ?_, ?_, ?_, ?_, ?_, ?_, ?_⟩ <;> (first | omega | (intro z; exfalso; omega) | (intro z; unfold y_Ty; omega) | (intro z; unfold y_Tr; omega) | (intro z; omega) | (intro z; refine ⟨?_, ?_⟩ <;> (first | omega | (unfold y_Tr; omega))) | (intro z; refine ⟨?_, ?_, ?_⟩ <;> (first | omega | (unfold y_Tr; omega)))))) | (rcases h0_r_51 with hz | hz; exact Or.inl hz.1; exact Or.inr hz.1) | (rcases h0_r_53 with hz | hz; exact Or.inl hz.1; (refine Or.inr ?_; unfold y_In; refine ⟨?_, ?_, ?_, ?_, ?_, ?_, ?_, ?_, ?_, ?_, ?_⟩ <;> (first | omega | (intro z; exfalso; omega) | (intro z; unfold y_Ty; omega) | (intro z; unfold y_Tr; omega) | (intro z; omega) | (intro z; refine ⟨?_, ?_⟩ <;> (first | omega | (unfold y_Tr; omega))) | (intro z; refine ⟨?_, ?_, ?_⟩ <;> (first | omega | (unfold y_Tr; omega)))))) | (rcases h0_r_53 with hz | hz; exact Or.inl hz.1; exact Or.inr hz.1))
                            · skip
                              have c93' := c93
                              rw [Int32.le_iff_toInt_le] at c93'
                              have e94 : (1 : Int32).toInt = 1 := rfl
                              refine y_some ?_
                              try dsimp only
                              refine ⟨?_, ?_⟩ <;> (first | with_reducible assumption | omega | ((with_reducible refine y_Vl ?_ ?_) <;> omega) | (exact Or.inl (by omega)) | (refine Or.inr ?_; unfold y_In; refine ⟨?_, ?_, ?_, ?_, ?_, ?_, ?_, ?_, ?_, ?_, ?_⟩ <;> (first | omega | (intro z; exfalso; omega) | (intro z; unfold y_Ty; omega) | (intro z; unfold y_Tr; omega) | (intro z; omega) | (intro z; refine ⟨?_, ?_⟩ <;> (first | omega | (unfold y_Tr; omega))) | (intro z; refine ⟨?_, ?_, ?_⟩ <;> (first | omega | (unfold y_Tr; omega))))) | (rcases h0_r_41 with hz | hz; exact Or.inl hz.1; (refine Or.inr ?_; unfold y_In; refine ⟨?_, ?_, ?_, ?_, ?_, ?_, ?_, ?_, ?_, ?_, ?_⟩ <;> (first | omega | (intro z; exfalso; omega) | (intro z; unfold y_Ty; omega) | (intro z; unfold y_Tr; omega) | (intro z; omega) | (intro z; refine ⟨?_, ?_⟩ <;> (first | omega | (unfold y_Tr; omega))) | (intro z; refine ⟨?_, ?_, ?_⟩ <;> (first | omega | (unfold y_Tr; omega)))))) | (rcases h0_r_41 with hz | hz; exact Or.inl hz.1; exact Or.inr hz.1) | (rcases h0_r_46 with hz | hz; exact Or.inl hz.1; (refine Or.inr ?_; unfold y_In; refine ⟨?_, ?_, ?_, ?_, ?_, ?_, ?_, ?_, ?_, ?_, ?_⟩ <;> (first | omega | (intro z; exfalso; omega) | (intro z; unfold y_Ty; omega) | (intro z; unfold y_Tr; omega) | (intro z; omega) | (intro z; refine ⟨?_, ?_⟩ <;> (first | omega | (unfold y_Tr; omega))) | (intro z; refine ⟨?_, ?_, ?_⟩ <;> (first | omega | (unfold y_Tr; omega)))))) | (rcases h0_r_46 with hz | hz; exact Or.inl hz.1; exact Or.inr hz.1) | (rcases h0_r_51 with hz | hz; exact Or.inl hz.1; (refine Or.inr ?_; unfold y_In; refine ⟨?_, ?_, ?_, ?_, ?_, ?_, ?_, ?_, ?_, ?_, ?_⟩ <;> (first | omega | (intro z; exfalso; omega) | (intro z; unfold y_Ty; omega) | (intro z; unfold y_Tr; omega) | (intro z; omega) | (intro z; refine ⟨?_, ?_⟩ <;> (first | omega | (unfold y_Tr; omega))) | (intro z; refine ⟨?_, ?_, ?_⟩ <;> (first | omega | (unfold y_Tr; omega)))))) | (rcases h0_r_51 with hz | hz; exact Or.inl hz.1; exact Or.inr hz.1) | (rcases h0_r_53 with hz | hz; exact Or.inl hz.1; (refine Or.inr ?_; unfold y_In; refine ⟨?_, ?_, ?_, ?_, ?_, ?_, ?_, ?_, ?_, ?_, ?_⟩ <;> (first | omega | (intro z; exfalso; omega) | (intro z; unfold y_Ty; omega) | (intro z; unfold y_Tr; omega) | (intro z; omega) | (intro z; refine ⟨?_, ?_⟩ <;> (first | omega | (unfold y_Tr; omega))) | (intro z; refine ⟨?_, ?_, ?_⟩ <;> (first | omega | (unfold y_Tr; omega)))))) | (rcases h0_r_53 with hz | hz; exact Or.inl hz.1; exact Or.inr hz.1))
                        · skip
                          have e95 : (185 : Int32).toInt = 185 := rfl
                          have c88' := c88
                          rw [← Int32.toInt_inj] at c88'
                          refine y_if (fun c96 => ?_) (fun c96 => ?_)
                          · skip
                            have e97 : (186 : Int32).toInt = 186 := rfl
                            have c96' := c96
                            rw [← Int32.toInt_inj] at c96'
                            refine y_if (fun c98 => ?_) (fun c98 => ?_)
                            · skip
                              have e99 : (0 : Int32).toInt = 0 := rfl
                              have c98' := c98
                              rw [Int32.lt_iff_toInt_lt] at c98'
                              refine y_some ?_
                              try dsimp only
                              refine ⟨?_, ?_⟩ <;> (first | with_reducible assumption | omega | ((with_reducible refine y_Vl ?_ ?_) <;> omega) | (exact Or.inl (by omega)) | (refine Or.inr ?_; unfold y_In; refine ⟨?_, ?_, ?_, ?_, ?_, ?_, ?_, ?_, ?_, ?_, ?_⟩ <;> (first | omega | (intro z; exfalso; omega) | (intro z; unfold y_Ty; omega) | (intro z; unfold y_Tr; omega) | (intro z; omega) | (intro z; refine ⟨?_, ?_⟩ <;> (first | omega | (unfold y_Tr; omega))) | (intro z; refine ⟨?_, ?_, ?_⟩ <;> (first | omega | (unfold y_Tr; omega))))) | (rcases h0_r_41 with hz | hz; exact Or.inl hz.1; (refine Or.inr ?_; unfold y_In; refine ⟨?_, ?_, ?_, ?_, ?_, ?_, ?_, ?_, ?_, ?_, ?_⟩ <;> (first | omega | (intro z; exfalso; omega) | (intro z; unfold y_Ty; omega) | (intro z; unfold y_Tr; omega) | (intro z; omega) | (intro z; refine ⟨?_, ?_⟩ <;> (first | omega | (unfold y_Tr; omega))) | (intro z; refine ⟨?_, ?_, ?_⟩ <;> (first | omega | (unfold y_Tr; omega)))))) | (rcases h0_r_41 with hz | hz; exact Or.inl hz.1; exact Or.inr hz.1) | (rcases h0_r_46 with hz | hz; exact Or.inl hz.1; (refine Or.inr ?_; unfold y_In; refine ⟨?_, ?_, ?_, ?_, ?_, ?_, ?_, ?_, ?_, ?_, ?_⟩ <;> (first | omega | (intro z; exfalso; omega) | (intro z; unfold y_Ty; omega) | (intro z; unfold y_Tr; omega) | (intro z; omega) | (intro z; refine ⟨?_, ?_⟩ <;> (first | omega | (unfold y_Tr; omega))) | (intro z; refine ⟨?_, ?_, ?_⟩ <;> (first | omega | (unfold y_Tr; omega)))))) | (rcases h0_r_46 with hz | hz; exact Or.inl hz.1; exact Or.inr hz.1) | (rcases h0_r_51 with hz | hz; exact Or.inl hz.1; (refine Or.inr ?_; unfold y_In; refine ⟨?_, ?_, ?_, ?_, ?_, ?_, ?_, ?_, ?_, ?_, ?_⟩ <;> (first | omega | (intro z; exfalso; omega) | (intro z; unfold y_Ty; omega) | (intro z; unfold y_Tr; omega) | (intro z; omega) | (intro z; refine ⟨?_, ?_⟩ <;> (first | omega | (unfold y_Tr; omega))) | (intro z; refine ⟨?_, ?_, ?_⟩ <;> (first | omega | (unfold y_Tr; omega)))))) | (rcases h0_r_51 with hz | hz; exact Or.inl hz.1; exact Or.inr hz.1) | (rcases h0_r_53 with hz | hz; exact Or.inl hz.1; (refine Or.inr ?_; unfold y_In; refine ⟨?_, ?_, ?_, ?_, ?_, ?_, ?_, ?_, ?_, ?_, ?_⟩ <;> (first | omega | (intro z; exfalso; omega) | (intro z; unfold y_Ty; omega) | (intro z; unfold y_Tr; omega) | (intro z; omega) | (intro z; refine ⟨?_, ?_⟩ <;> (first | omega | (unfold y_Tr; omega))) | (intro z; refine ⟨?_, ?_, ?_⟩ <;> (first | omega | (unfold y_Tr; omega)))))) | (rcases h0_r_53 with hz | hz; exact Or.inl hz.1; exact Or.inr hz.1))
                            · skip
                              have e100 : (0 : Int32).toInt = 0 := rfl
                              have c98' := c98
                              rw [Int32.lt_iff_toInt_lt] at c98'
                              refine y_if (fun c101 => ?_) (fun c101 => ?_)
                              · skip
                                have c101' := c101
                                rw [Int32.le_iff_toInt_le] at c101'
                                refine y_some ?_
                                try dsimp only
                                refine ⟨?_, ?_⟩ <;> (first | with_reducible assumption | omega | ((with_reducible refine y_Vl ?_ ?_) <;> omega) | (exact Or.inl (by omega)) | (refine Or.inr ?_; unfold y_In; refine ⟨?_, ?_, ?_, ?_, ?_, ?_, ?_, ?_, ?_, ?_, ?_⟩ <;> (first | omega | (intro z; exfalso; omega) | (intro z; unfold y_Ty; omega) | (intro z; unfold y_Tr; omega) | (intro z; omega) | (intro z; refine ⟨?_, ?_⟩ <;> (first | omega | (unfold y_Tr; omega))) | (intro z; refine ⟨?_, ?_, ?_⟩ <;> (first | omega | (unfold y_Tr; omega))))) | (rcases h0_r_41 with hz | hz; exact Or.inl hz.1; (refine Or.inr ?_; unfold y_In; refine ⟨?_, ?_, ?_, ?_, ?_, ?_, ?_, ?_, ?_, ?_, ?_⟩ <;> (first | omega | (intro z; exfalso; omega) | (intro z; unfold y_Ty; omega) | (intro z; unfold y_Tr; omega) | (intro z; omega) | (intro z; refine ⟨?_, ?_⟩ <;> (first | omega | (unfold y_Tr; omega))) | (intro z; refine ⟨?_, ?_, ?_⟩ <;> (first | omega | (unfold y_Tr; omega)))))) | (rcases h0_r_41 with hz | hz; exact Or.inl hz.1; exact Or.inr hz.1) | (rcases h0_r_46 with hz | hz; exact Or.inl hz.1; (refine Or.inr ?_; unfold y_In; refine ⟨?_, ?_, ?_, ?_, ?_, ?_, ?_, ?_, ?_, ?_, ?_⟩ <;> (first | omega | (intro z; exfalso; omega) | (intro z; unfold y_Ty; omega) | (intro z; unfold y_Tr; omega) | (intro z; omega) | (intro z; refine ⟨?_, ?_⟩ <;> (first | omega | (unfold y_Tr; omega))) | (intro z; refine ⟨?_, ?_, ?_⟩ <;> (first | omega | (unfold y_Tr; omega)))))) | (rcases h0_r_46 with hz | hz; exact Or.inl hz.1; exact Or.inr hz.1) | (rcases h0_r_51 with hz | hz; exact Or.inl hz.1; (refine Or.inr ?_; unfold y_In; refine ⟨?_, ?_, ?_, ?_, ?_, ?_, ?_, ?_, ?_, ?_, ?_⟩ <;> (first | omega | (intro z; exfalso; omega) | (intro z; unfold y_Ty; omega) | (intro z; unfold y_Tr; omega) | (intro z; omega) | (intro z; refine ⟨?_, ?_⟩ <;> (first | omega | (unfold y_Tr; omega))) | (intro z; refine ⟨?_, ?_, ?_⟩ <;> (first | omega | (unfold y_Tr; omega)))))) | (rcases h0_r_51 with hz | hz; exact Or.inl hz.1; exact Or.inr hz.1) | (rcases h0_r_53 with hz | hz; exact Or.inl hz.1; (refine Or.inr ?_; unfold y_In; refine ⟨?_, ?_, ?_, ?_, ?_, ?_, ?_, ?_, ?_, ?_, ?_⟩ <;> (first | omega | (intro z; exfalso; omega) | (intro z; unfold y_Ty; omega) | (intro z; unfold y_Tr; omega) | (intro z; omega) | (intro z; refine ⟨?_, ?_⟩ <;> (first | omega | (unfold y_Tr; omega))) | (intro z; refine ⟨?_, ?_, ?_⟩ <;> (first | omega | (unfold y_Tr; omega)))))) | (rcases h0_r_53 with hz | hz; exact Or.inl hz.1; exact Or.inr hz.1))
                              · skip
                                have c101' := c101
                                rw [Int32.le_iff_toInt_le] at c101'
                                have e102 : (1 : Int32).toInt = 1 := rfl
                                refine y_some ?_
                                try dsimp only
                                refine ⟨?_, ?_⟩ <;> (first | with_reducible assumption | omega | ((with_reducible refine y_Vl ?_ ?_) <;> omega) | (exact Or.inl (by omega)) | (refine Or.inr ?_; unfold y_In; refine ⟨?_, ?_, ?_, ?_, ?_, ?_, ?_, ?_, ?_, ?_, ?_⟩ <;> (first | omega | (intro z; exfalso; omega) | (intro z; unfold y_Ty; omega) | (intro z; unfold y_Tr; omega) | (intro z; omega) | (intro z; refine ⟨?_, ?_⟩ <;> (first | omega | (unfold y_Tr; omega))) | (intro z; refine ⟨?_, ?_, ?_⟩ <;> (first | omega | (unfold y_Tr; omega))))) | (rcases h0_r_41 with hz | hz; exact Or.inl hz.1; (refine Or.inr ?_; unfold y_In; refine ⟨?_, ?_, ?_, ?_, ?_, ?_, ?_, ?_, ?_, ?_, ?_⟩ <;> (first | omega | (intro z; exfalso; omega) | (intro z; unfold y_Ty; omega) | (intro z; unfold y_Tr; omega) | (intro z; omega) | (intro z; refine ⟨?_, ?_⟩ <;> (first | omega | (unfold y_Tr; omega))) | (intro z; refine ⟨?_, ?_, ?_⟩ <;> (first | omega | (unfold y_Tr; omega)))))) | (rcases h0_r_41 with hz | hz; exact Or.inl hz.1; exact Or.inr hz.1) | (rcases h0_r_46 with hz | hz; exact Or.inl hz.1; (refine Or.inr ?_; unfold y_In; refine ⟨?_, ?_, ?_, ?_, ?_, ?_, ?_, ?_, ?_, ?_, ?_⟩ <;> (first | omega | (intro z; exfalso; omega) | (intro z; unfold y_Ty; omega) | (intro z; unfold y_Tr; omega) | (intro z; omega) | (intro z; refine ⟨?_, ?_⟩ <;> (first | omega | (unfold y_Tr; omega))) | (intro z; refine ⟨?_, ?_, ?_⟩ <;> (first | omega | (unfold y_Tr; omega)))))) | (rcases h0_r_46 with hz | hz; exact Or.inl hz.1; exact Or.inr hz.1) | (rcases h0_r_51 with hz | hz; exact Or.inl hz.1; (refine Or.inr ?_; unfold y_In; refine ⟨?_, ?_, ?_, ?_, ?_, ?_, ?_, ?_, ?_, ?_, ?_⟩ <;> (first | omega | (intro z; exfalso; omega) | (intro z; unfold y_Ty; omega) | (intro z; unfold y_Tr; omega) | (intro z; omega) | (intro z; refine ⟨?_, ?_⟩ <;> (first | omega | (unfold y_Tr; omega))) | (intro z; refine ⟨?_, ?_, ?_⟩ <;> (first | omega | (unfold y_Tr; omega)))))) | (rcases h0_r_51 with hz | hz; exact Or.inl hz.1; exact Or.inr hz.1) | (rcases h0_r_53 with hz | hz; exact Or.inl hz.1; (refine Or.inr ?_; unfold y_In; refine ⟨?_, ?_, ?_, ?_, ?_, ?_, ?_, ?_, ?_, ?_, ?_⟩ <;> (first | omega | (intro z; exfalso; omega) | (intro z; unfold y_Ty; omega) | (intro z; unfold y_Tr; omega) | (intro z; omega) | (intro z; refine ⟨?_, ?_⟩ <;> (first | omega | (unfold y_Tr; omega))) | (intro z; refine ⟨?_, ?_, ?_⟩ <;> (first | omega | (unfold y_Tr; omega)))))) | (rcases h0_r_53 with hz | hz; exact Or.inl hz.1; exact Or.inr hz.1))
                          · skip
                            have e103 : (186 : Int32).toInt = 186 := rfl
                            have c96' := c96
                            rw [← Int32.toInt_inj] at c96'
                            refine y_if (fun c104 => ?_) (fun c104 => ?_)
                            · skip
                              have e105 : (187 : Int32).toInt = 187 := rfl
                              have c104' := c104
                              rw [← Int32.toInt_inj] at c104'
                              refine y_bi (y_X7_isClass) (fun r_41 h_r_41 => ?_)
                              have h0_r_41 : (r_41.toInt = 0 ∧ ¬ (0 ≤ p2.toInt ∧ p2.toInt < v7_2.toInt)) ∨ (r_41.toInt = 1 ∧ (0 ≤ p2.toInt ∧ p2.toInt < v7_2.toInt)) := h_r_41
                              refine y_some ?_
                              try dsimp only
                              refine ⟨?_, ?_⟩ <;> (first | with_reducible assumption | omega | ((with_reducible refine y_Vl ?_ ?_) <;> omega) | (exact Or.inl (by omega)) | (refine Or.inr ?_; unfold y_In; refine ⟨?_, ?_, ?_, ?_, ?_, ?_, ?_, ?_, ?_, ?_, ?_⟩ <;> (first | omega | (intro z; exfalso; omega) | (intro z; unfold y_Ty; omega) | (intro z; unfold y_Tr; omega) | (intro z; omega) | (intro z; refine ⟨?_, ?_⟩ <;> (first | omega | (unfold y_Tr; omega))) | (intro z; refine ⟨?_, ?_, ?_⟩ <;> (first | omega | (unfold y_Tr; omega))))) | (rcases h0_r_41 with hz | hz; exact Or.inl hz.1; (refine Or.inr ?_; unfold y_In; refine ⟨?_, ?_, ?_, ?_, ?_, ?_, ?_, ?_, ?_, ?_, ?_⟩ <;> (first | omega | (intro z; exfalso; omega) | (intro z; unfold y_Ty; omega) | (intro z; unfold y_Tr; omega) | (intro z; omega) | (intro z; refine ⟨?_, ?_⟩ <;> (first | omega | (unfold y_Tr; omega))) | (intro z; refine ⟨?_, ?_, ?_⟩ <;> (first | omega | (unfold y_Tr; omega)))))) | (rcases h0_r_41 with hz | hz; exact Or.inl hz.1; exact Or.inr hz.1) | (rcases h0_r_46 with hz | hz; exact Or.inl hz.1; (refine Or.inr ?_; unfold y_In; refine ⟨?_, ?_, ?_, ?_, ?_, ?_, ?_, ?_, ?_, ?_, ?_⟩ <;> (first | omega | (intro z; exfalso; omega) | (intro z; unfold y_Ty; omega) | (intro z; unfold y_Tr; omega) | (intro z; omega) | (intro z; refine ⟨?_, ?_⟩ <;> (first | omega | (unfold y_Tr; omega))) | (intro z; refine ⟨?_, ?_, ?_⟩ <;> (first | omega | (unfold y_Tr; omega)))))) | (rcases h0_r_46 with hz | hz; exact Or.inl hz.1; exact Or.inr hz.1) | (rcases h0_r_51 with hz | hz; exact Or.inl hz.1; (refine Or.inr ?_; unfold y_In; refine ⟨?_, ?_, ?_, ?_, ?_, ?_, ?_, ?_, ?_, ?_, ?_⟩ <;> (first | omega | (intro z; exfalso; omega) | (intro z; unfold y_Ty; omega) | (intro z; unfold y_Tr; omega) | (intro z; omega) | (intro z; refine ⟨?_, ?_⟩ <;> (first | omega | (unfold y_Tr; omega))) | (intro z; refine ⟨?_, ?_, ?_⟩ <;> (first | omega | (unfold y_Tr; omega)))))) | (rcases h0_r_51 with hz | hz; exact Or.inl hz.1; exact Or.inr hz.1) | (rcases h0_r_53 with hz | hz; exact Or.inl hz.1; (refine Or.inr ?_; unfold y_In; refine ⟨?_, ?_, ?_, ?_, ?_, ?_, ?_, ?_, ?_, ?_, ?_⟩ <;> (first | omega | (intro z; exfalso; omega) | (intro z; unfold y_Ty; omega) | (intro z; unfold y_Tr; omega) | (intro z; omega) | (intro z; refine ⟨?_, ?_⟩ <;> (first | omega | (unfold y_Tr; omega))) | (intro z; refine ⟨?_, ?_, ?_⟩ <;> (first | omega | (unfold y_Tr; omega)))))) | (rcases h0_r_53 with hz | hz; exact Or.inl hz.1; exact Or.inr hz.1))
                            · skip
                              have e106 : (187 : Int32).toInt = 187 := rfl
                              have c104' := c104
                              rw [← Int32.toInt_inj] at c104'
                              refine y_if (fun c107 => ?_) (fun c107 => ?_)
                              · skip
                                have e108 : (188 : Int32).toInt = 188 := rfl
                                have c107' := c107
                                rw [← Int32.toInt_inj] at c107'
                                refine y_if (fun c109 => ?_) (fun c109 => ?_)
                                · skip
                                  have e110 : (0 : Int32).toInt = 0 := rfl
                                  have c109' := c109
                                  rw [Int32.lt_iff_toInt_lt] at c109'
                                  refine y_some ?_
                                  try dsimp only
                                  refine ⟨?_, ?_⟩ <;> (first | with_reducible assumption | omega | ((with_reducible refine y_Vl ?_ ?_) <;> omega) | (exact Or.inl (by omega)) | (refine Or.inr ?_; unfold y_In; refine ⟨?_, ?_, ?_, ?_, ?_, ?_, ?_, ?_, ?_, ?_, ?_⟩ <;> (first | omega | (intro z; exfalso; omega) | (intro z; unfold y_Ty; omega) | (intro z; unfold y_Tr; omega) | (intro z; omega) | (intro z; refine ⟨?_, ?_⟩ <;> (first | omega | (unfold y_Tr; omega))) | (intro z; refine ⟨?_, ?_, ?_⟩ <;> (first | omega | (unfold y_Tr; omega))))) | (rcases h0_r_41 with hz | hz; exact Or.inl hz.1; (refine Or.inr ?_; unfold y_In; refine ⟨?_, ?_, ?_, ?_, ?_, ?_, ?_, ?_, ?_, ?_, ?_⟩ <;> (first | omega | (intro z; exfalso; omega) | (intro z; unfold y_Ty; omega) | (intro z; unfold y_Tr; omega) | (intro z; omega) | (intro z; refine ⟨?_, ?_⟩ <;> (first | omega | (unfold y_Tr; omega))) | (intro z; refine ⟨?_, ?_, ?_⟩ <;> (first | omega | (unfold y_Tr; omega)))))) | (rcases h0_r_41 with hz | hz; exact Or.inl hz.1; exact Or.inr hz.1) | (rcases h0_r_46 with hz | hz; exact Or.inl hz.1; (refine Or.inr ?_; unfold y_In; refine ⟨?_, ?_, ?_, ?_, ?_, ?_, ?_, ?_, ?_, ?_, ?_⟩ <;> (first | omega | (intro z; exfalso; omega) | (intro z; unfold y_Ty; omega) | (intro z; unfold y_Tr; omega) | (intro z; omega) | (intro z; refine ⟨?_, ?_⟩ <;> (first | omega | (unfold y_Tr; omega))) | (intro z; refine ⟨?_, ?_, ?_⟩ <;> (first | omega | (unfold y_Tr; omega)))))) | (rcases h0_r_46 with hz | hz; exact Or.inl hz.1; exact Or.inr hz.1) | (rcases h0_r_51 with hz | hz; exact Or.inl hz.1; (refine Or.inr ?_; unfold y_In; refine ⟨?_, ?_, ?_, ?_, ?_, ?_, ?_, ?_, ?_, ?_, ?_⟩ <;> (first | omega | (intro z; exfalso; omega) | (intro z; unfold y_Ty; omega) | (intro z; unfold y_Tr; omega) | (intro z; omega) | (intro z; refine ⟨?_, ?_⟩ <;> (first | omega | (unfold y_Tr; omega))) | (intro z; refine ⟨?_, ?_, ?_⟩ <;> (first | omega | (unfold y_Tr; omega)))))) | (rcases h0_r_51 with hz | hz; exact Or.inl hz.1; exact Or.inr hz.1) | (rcases h0_r_53 with hz | hz; exact Or.inl hz.1; (refine Or.inr ?_; unfold y_In; refine ⟨?_, ?_, ?_, ?_, ?_, ?_, ?_, ?_, ?_, ?_, ?_⟩ <;> (first | omega | (intro z; exfalso; omega) | (intro z; unfold y_Ty; omega) | (intro z; unfold y_Tr; omega) | (intro z; omega) | (intro z; refine ⟨?_, ?_⟩ <;> (first | omega | (unfold y_Tr; omega))) | (intro z; refine ⟨?_, ?_, ?_⟩ <;> (first | omega | (unfold y_Tr; omega)))))) | (rcases h0_r_53 with hz | hz; exact Or.inl hz.1; exact Or.inr hz.1))
                                · skip
                                  have e111 : (0 : Int32).toInt = 0 := rfl
                                  have c109' := c109
                                  rw [Int32.lt_iff_toInt_lt] at c109'
                                  refine y_if (fun c112 => ?_) (fun c112 => ?_)
                                  · skip
                                    have e113 : (7 : Int32).toInt = 7 := rfl
                                    have c112' := c112
                                    rw [Int32.lt_iff_toInt_lt] at c112'
                                    refine y_some ?_
                                    try dsimp only
                                    refine ⟨?_, ?_⟩ <;> (first | with_reducible assumption | omega | ((with_reducible refine y_Vl ?_ ?_) <;> omega) | (exact Or.inl (by omega)) | (refine Or.inr ?_; unfold y_In; refine ⟨?_, ?_, ?_, ?_, ?_, ?_, ?_, ?_, ?_, ?_, ?_⟩ <;> (first | omega | (intro z; exfalso; omega) | (intro z; unfold y_Ty; omega) | (intro z; unfold y_Tr; omega) | (intro z; omega) | (intro z; refine ⟨?_, ?_⟩ <;> (first | omega | (unfold y_Tr; omega))) | (intro z; refine ⟨?_, ?_, ?_⟩ <;> (first | omega | (unfold y_Tr; omega))))) | (rcases h0_r_41 with hz | hz; exact Or.inl hz.1; (refine Or.inr ?_; unfold y_In; refine ⟨?_, ?_, ?_, ?_, ?_, ?_, ?_, ?_, ?_, ?_, ?_⟩ <;> (first | omega | (intro z; exfalso; omega) | (intro z; unfold y_Ty; omega) | (intro z; unfold y_Tr; omega) | (intro z; omega) | (intro z; refine ⟨?_, ?_⟩ <;> (first | omega | (unfold y_Tr; omega))) | (intro z; refine ⟨?_, ?_, ?_⟩ <;> (first | omega | (unfold y_Tr; omega)))))) | (rcases h0_r_41 with hz | hz; exact Or.inl hz.1; exact Or.inr hz.1) | (rcases h0_r_46 with hz | hz; exact Or.inl hz.1; (refine Or.inr ?_; unfold y_In; refine ⟨?_, ?_, ?_, ?_, ?_, ?_, ?_, ?_, ?_, ?_, ?_⟩ <;> (first | omega | (intro z; exfalso; omega) | (intro z; unfold y_Ty; omega) | (intro z; unfold y_Tr; omega) | (intro z; omega) | (intro z; refine ⟨?_, ?_⟩ <;> (first | omega | (unfold y_Tr; omega))) | (intro z; refine ⟨?_, ?_, ?_⟩ <;> (first | omega | (unfold y_Tr; omega)))))) | (rcases h0_r_46 with hz | hz; exact Or.inl hz.1; exact Or.inr hz.1) | (rcases h0_r_51 with hz | hz; exact Or.inl hz.1; (refine Or.inr ?_; unfold y_In; refine ⟨?_, ?_, ?_, ?_, ?_, ?_, ?_, ?_, ?_, ?_, ?_⟩ <;> (first | omega | (intro z; exfalso; omega) | (intro z; unfold y_Ty; omega) | (intro z; unfold y_Tr; omega) | (intro z; omega) | (intro z; refine ⟨?_, ?_⟩ <;> (first | omega | (unfold y_Tr; omega))) | (intro z; refine ⟨?_, ?_, ?_⟩ <;> (first | omega | (unfold y_Tr; omega)))))) | (rcases h0_r_51 with hz | hz; exact Or.inl hz.1; exact Or.inr hz.1) | (rcases h0_r_53 with hz | hz; exact Or.inl hz.1; (refine Or.inr ?_; unfold y_In; refine ⟨?_, ?_, ?_, ?_, ?_, ?_, ?_, ?_, ?_, ?_, ?_⟩ <;> (first | omega | (intro z; exfalso; omega) | (intro z; unfold y_Ty; omega) | (intro z; unfold y_Tr; omega) | (intro z; omega) | (intro z; refine ⟨?_, ?_⟩ <;> (first | omega | (unfold y_Tr; omega))) | (intro z; refine ⟨?_, ?_, ?_⟩ <;> (first | omega | (unfold y_Tr; omega)))))) | (rcases h0_r_53 with hz | hz; exact Or.inl hz.1; exact Or.inr hz.1))
                                  · skip
                                    have e114 : (7 : Int32).toInt = 7 := rfl
                                    have c112' := c112
                                    rw [Int32.lt_iff_toInt_lt] at c112'
                                    have e115 : (1 : Int32).toInt = 1 := rfl
                                    refine y_some ?_
                                    try dsimp only
                                    refine ⟨?_, ?_⟩ <;> (first | with_reducible assumption | omega | ((with_reducible refine y_Vl ?_ ?_) <;> omega) | (exact Or.inl (by omega)) | (refine Or.inr ?_; unfold y_In; refine ⟨?_, ?_, ?_, ?_, ?_, ?_, ?_, ?_, ?_, ?_, ?_⟩ <;> (first | omega | (intro z; exfalso; omega) | (intro z; unfold y_Ty; omega) | (intro z; unfold y_Tr; omega) | (intro z; omega) | (intro z; refine ⟨?_, ?_⟩ <;> (first | omega | (unfold y_Tr; omega))) | (intro z; refine ⟨?_, ?_, ?_⟩ <;> (first | omega | (unfold y_Tr; omega))))) | (rcases h0_r_41 with hz | hz; exact Or.inl hz.1; (refine Or.inr ?_; unfold y_In; refine ⟨?_, ?_, ?_, ?_, ?_, ?_, ?_, ?_, ?_, ?_, ?_⟩ <;> (first | omega | (intro z; exfalso; omega) | (intro z; unfold y_Ty; omega) | (intro z; unfold y_Tr; omega) | (intro z; omega) | (intro z; refine ⟨?_, ?_⟩ <;> (first | omega | (unfold y_Tr; omega))) | (intro z; refine ⟨?_, ?_, ?_⟩ <;> (first | omega | (unfold y_Tr; omega)))))) | (rcases h0_r_41 with hz | hz; exact Or.inl hz.1; exact Or.inr hz.1) | (rcases h0_r_46 with hz | hz; exact Or.inl hz.1; (refine Or.inr ?_; unfold y_In; refine ⟨?_, ?_, ?_, ?_, ?_, ?_, ?_, ?_, ?_, ?_, ?_⟩ <;> (first | omega | (intro z; exfalso; omega) | (intro z; unfold y_Ty; omega) | (intro z; unfold y_Tr; omega) | (intro z; omega) | (intro z; refine ⟨?_, ?_⟩ <;> (first | omega | (unfold y_Tr; omega))) | (intro z; refine ⟨?_, ?_, ?_⟩ <;> (first | omega | (unfold y_Tr; omega)))))) | (rcases h0_r_46 with hz | hz; exact Or.inl hz.1; exact Or.inr hz.1) | (rcases h0_r_51 with hz | hz; exact Or.inl hz.1; (refine Or.inr ?_; unfold y_In; refine ⟨?_, ?_, ?_, ?_, ?_, ?_, ?_, ?_, ?_, ?_, ?_⟩ <;> (first | omega | (intro z; exfalso; omega) | (intro z; unfold y_Ty; omega) | (intro z; unfold y_Tr; omega) | (intro z; omega) | (intro z; refine ⟨?_, ?_⟩ <;> (first | omega | (unfold y_Tr; omega))) | (intro z; refine ⟨?_, ?_, ?_⟩ <;> (first | omega | (unfold y_Tr; omega)))))) | (rcases h0_r_51 with hz | hz; exact Or.inl hz.1; exact Or.inr hz.1) | (rcases h0_r_53 with hz | hz; exact Or.inl hz.1; (refine Or.inr ?_; unfold y_In; refine ⟨?_, ?_, ?_, ?_, ?_, ?_, ?_, ?_, ?_, ?_, ?_⟩ <;> (first | omega | (intro z; exfalso; omega) | (intro z; unfold y_Ty; omega) | (intro z; unfold y_Tr; omega) | (intro z; omega) | (intro z; refine ⟨?_, ?_⟩ <;> (first | omega | (unfold y_Tr; omega))) | (intro z; refine ⟨?_, ?_, ?_⟩ <;> (first | omega | (unfold y_Tr; omega)))))) | (rcases h0_r_53 with hz | hz; exact Or.inl hz.1; exact Or.inr hz.1))
                              · skip
                                have e116 : (188 : Int32).toInt = 188 := rfl
                                have c107' := c107
                                rw [← Int32.toInt_inj] at c107'
                                refine y_if (fun c117 => ?_) (fun c117 => ?_)
                                · skip
                                  have e118 : (189 : Int32).toInt = 189 := rfl
                                  have c117' := c117
                                  rw [← Int32.toInt_inj] at c117'
                                  refine y_bi (y_X7_isReference (by omega) (by omega)) (fun r_46 h_r_46 => ?_)
                                  have h0_r_46 : (r_46.toInt = 0 ∧ ¬ ((0 ≤ p2.toInt ∧ p2.toInt < 16777216 ∧ (p2.toInt % 65536 < v7_2.toInt ∨ 65528 ≤ p2.toInt % 65536)) ∧ ¬ (65528 ≤ p2.toInt ∧ p2.toInt < 65536))) ∨ (r_46.toInt = 1 ∧ ((0 ≤ p2.toInt ∧ p2.toInt < 16777216 ∧ (p2.toInt % 65536 < v7_2.toInt ∨ 65528 ≤ p2.toInt % 65536)) ∧ ¬ (65528 ≤ p2.toInt ∧ p2.toInt < 65536))) := h_r_46
                                  refine y_if (fun c119 => ?_) (fun c119 => ?_)
                                  · skip
                                    have e120 : (0 : Int32).toInt = 0 := rfl
                                    have c119' := c119
                                    rw [← Int32.toInt_inj] at c119'
                                    have e121 := y_or0 h0_r_46 c119'
                                    clear h0_r_46
                                    refine y_some ?_
                                    try dsimp only
                                    refine ⟨?_, ?_⟩ <;> (first | with_reducible assumption | omega | ((with_reducible refine y_Vl ?_ ?_) <;> omega) | (exact Or.inl (by omega)) | (refine Or.inr ?_; unfold y_In; refine ⟨?_, ?_, ?_, ?_, ?_, ?_, ?_, ?_, ?_, ?_, ?_⟩ <;> (first | omega | (intro z; exfalso; omega) | (intro z; unfold y_Ty; omega) | (intro z; unfold y_Tr; omega) | (intro z; omega) | (intro z; refine ⟨?_, ?_⟩ <;> (first | omega | (unfold y_Tr; omega))) | (intro z; refine ⟨?_, ?_, ?_⟩ <;> (first | omega | (unfold y_Tr; omega))))) | (rcases h0_r_41 with hz | hz; exact Or.inl hz.1; (refine Or.inr ?_; unfold y_In; refine ⟨?_, ?_, ?_, ?_, ?_, ?_, ?_, ?_, ?_, ?_, ?_⟩ <;> (first | omega | (intro z; exfalso; omega) | (intro z; unfold y_Ty; omega) | (intro z; unfold y_Tr; omega) | (intro z; omega) | (intro z; refine ⟨?_, ?_⟩ <;> (first | omega | (unfold y_Tr; omega))) | (intro z; refine ⟨?_, ?_, ?_⟩ <;> (first | omega | (unfold y_Tr; omega)))))) | (rcases h0_r_41 with hz | hz; exact Or.inl hz.1; exact Or.inr hz.1) | (rcases h0_r_46 with hz | hz; exact Or.inl hz.1; (refine Or.inr ?_; unfold y_In; refine ⟨?_, ?_, ?_, ?_, ?_, ?_, ?_, ?_, ?_, ?_, ?_⟩ <;> (first | omega | (intro z; exfalso; omega) | (intro z; unfold y_Ty; omega) | (intro z; unfold y_Tr; omega) | (intro z; omega) | (intro z; refine ⟨?_, ?_⟩ <;> (first | omega | (unfold y_Tr; omega))) | (intro z; refine ⟨?_, ?_, ?_⟩ <;> (first | omega | (unfold y_Tr; omega)))))) | (rcases h0_r_46 with hz | hz; exact Or.inl hz.1; exact Or.inr hz.1) | (rcases h0_r_51 with hz | hz; exact Or.inl hz.1; (refine Or.inr ?_; unfold y_In; refine ⟨?_, ?_, ?_, ?_, ?_, ?_, ?_, ?_, ?_, ?_, ?_⟩ <;> (first | omega | (intro z; exfalso; omega) | (intro z; unfold y_Ty; omega) | (intro z; unfold y_Tr; omega) | (intro z; omega) | (intro z; refine ⟨?_, ?_⟩ <;> (first | omega | (unfold y_Tr; omega))) | (intro z; refine ⟨?_, ?_, ?_⟩ <;> (first | omega | (unfold y_Tr; omega)))))) | (rcases h0_r_51 with hz | hz; exact Or.inl hz.1; exact Or.inr hz.1) | (rcases h0_r_53 with hz | hz; exact Or.inl hz.1; (refine Or.inr ?_; unfold y_In; refine ⟨?_, ?_, ?_, ?_, ?_, ?_, ?_, ?_, ?_, ?_, ?_⟩ <;> (first | omega | (intro z; exfalso; omega) | (intro z; unfold y_Ty; omega) | (intro z; unfold y_Tr; omega) | (intro z; omega) | (intro z; refine ⟨?_, ?_⟩ <;> (first | omega | (unfold y_Tr; omega))) | (intro z; refine ⟨?_, ?_, ?_⟩ <;> (first | omega | (unfold y_Tr; omega)))))) | (rcases h0_r_53 with hz | hz; exact Or.inl hz.1; exact Or.inr hz.1))
                                  · skip
                                    have e122 : (0 : Int32).toInt = 0 := rfl
                                    have c119' := c119
                                    rw [← Int32.toInt_inj] at c119'
                                    have e123 := y_or1 h0_r_46 c119'
                                    clear h0_r_46
                                    refine y_bi (y_X7_dimensionsOf (by omega)) (fun r_48 h_r_48 => ?_)
                                    have h0_r_48 : r_48.toInt = p2.toInt / 65536 := h_r_48
                                    refine y_if (fun c124 => ?_) (fun c124 => ?_)
                                    · skip
                                      have e125 : (255 : Int32).toInt = 255 := rfl
                                      have c124' := c124
                                      rw [Int32.le_iff_toInt_le] at c124'
                                      refine y_some ?_
                                      try dsimp only
                                      refine ⟨?_, ?_⟩ <;> (first | with_reducible assumption | omega | ((with_reducible refine y_Vl ?_ ?_) <;> omega) | (exact Or.inl (by omega)) | (refine Or.inr ?_; unfold y_In; refine ⟨?_, ?_, ?_, ?_, ?_, ?_, ?_, ?_, ?_, ?_, ?_⟩ <;> (first | omega | (intro z; exfalso; omega) | (intro z; unfold y_Ty; omega) | (intro z; unfold y_Tr; omega) | (intro z; omega) | (intro z; refine ⟨?_, ?_⟩ <;> (first | omega | (unfold y_Tr; omega))) | (intro z; refine ⟨?_, ?_, ?_⟩ <;> (first | omega | (unfold y_Tr; omega))))) | (rcases h0_r_41 with hz | hz; exact Or.inl hz.1; (refine Or.inr ?_; unfold y_In; refine ⟨?_, ?_, ?_, ?_, ?_, ?_, ?_, ?_, ?_, ?_, ?_⟩ <;> (first | omega | (intro z; exfalso; omega) | (intro z; unfold y_Ty; omega) | (intro z; unfold y_Tr; omega) | (intro z; omega) | (intro z; refine ⟨?_, ?_⟩ <;> (first | omega | (unfold y_Tr; omega))) | (intro z; refine ⟨?_, ?_, ?_⟩ <;> (first | omega | (unfold y_Tr; omega)))))) | (rcases h0_r_41 with hz | hz; exact Or.inl hz.1; exact Or.inr hz.1) | (rcases h0_r_46 with hz | hz; exact Or.inl hz.1; (refine Or.inr ?_; unfold y_In; refine ⟨?_, ?_, ?_, ?_, ?_, ?_, ?_, ?_, ?_, ?_, ?_⟩ <;> (first | omega | (intro z; exfalso; omega) | (intro z; unfold y_Ty; omega) | (intro z; unfold y_Tr; omega) | (intro z; omega) | (intro z; refine ⟨?_, ?_⟩ <;> (first | omega | (unfold y_Tr; omega))) | (intro z; refine ⟨?_, ?_, ?_⟩ <;> (first | omega | (unfold y_Tr; omega)))))) | (rcases h0_r_46 with hz | hz; exact Or.inl hz.1; exact Or.inr hz.1) | (rcases h0_r_51 with hz | hz; exact Or.inl hz.1; (refine Or.inr ?_; unfold y_In; refine ⟨?_, ?_, ?_, ?_, ?_, ?_, ?_, ?_, ?_, ?_, ?_⟩ <;> (first | omega | (intro z; exfalso; omega) | (intro z; unfold y_Ty; omega) | (intro z; unfold y_Tr; omega) | (intro z; omega) | (intro z; refine ⟨?_, ?_⟩ <;> (first | omega | (unfold y_Tr; omega))) | (intro z; refine ⟨?_, ?_, ?_⟩ <;> (first | omega | (unfold y_Tr; omega)))))) | (rcases h0_r_51 with hz | hz; exact Or.inl hz.1; exact Or.inr hz.1) | (rcases h0_r_53 with hz | hz; exact Or.inl hz.1; (refine Or.inr ?_; unfold y_In; refine ⟨?_, ?_, ?_, ?_, ?_, ?_, ?_, ?_, ?_, ?_, ?_⟩ <;> (first | omega | (intro z; exfalso; omega) | (intro z; unfold y_Ty; omega) | (intro z; unfold y_Tr; omega) | (intro z; omega) | (intro z; refine ⟨?_, ?_⟩ <;> (first | omega | (unfold y_Tr; omega))) | (intro z; refine ⟨?_, ?_, ?_⟩ <;> (first | omega | (unfold y_Tr; omega)))))) | (rcases h0_r_53 with hz | hz; exact Or.inl hz.1; exact Or.inr hz.1))
                                    · skip
                                      have e126 : (255 : Int32).toInt = 255 := rfl
                                      have c124' := c124
                                      rw [Int32.le_iff_toInt_le] at c124'
                                      have e127 : (1 : Int32).toInt = 1 := rfl
                                      refine y_some ?_
                                      try dsimp only
                                      refine ⟨?_, ?_⟩ <;> (first | with_reducible assumption | omega | ((with_reducible refine y_Vl ?_ ?_) <;> omega) | (exact Or.inl (by omega)) | (refine Or.inr ?_; unfold y_In; refine ⟨?_, ?_, ?_, ?_, ?_, ?_, ?_, ?_, ?_, ?_, ?_⟩ <;> (first | omega | (intro z; exfalso; omega) | (intro z; unfold y_Ty; omega) | (intro z; unfold y_Tr; omega) | (intro z; omega) | (intro z; refine ⟨?_, ?_⟩ <;> (first | omega | (unfold y_Tr; omega))) | (intro z; refine ⟨?_, ?_, ?_⟩ <;> (first | omega | (unfold y_Tr; omega))))) | (rcases h0_r_41 with hz | hz; exact Or.inl hz.1; (refine Or.inr ?_; unfold y_In; refine ⟨?_, ?_, ?_, ?_, ?_, ?_, ?_, ?_, ?_, ?_, ?_⟩ <;> (first | omega | (intro z; exfalso; omega) | (intro z; unfold y_Ty; omega) | (intro z; unfold y_Tr; omega) | (intro z; omega) | (intro z; refine ⟨?_, ?_⟩ <;> (first | omega | (unfold y_Tr; omega))) | (intro z; refine ⟨?_, ?_, ?_⟩ <;> (first | omega | (unfold y_Tr; omega)))))) | (rcases h0_r_41 with hz | hz; exact Or.inl hz.1; exact Or.inr hz.1) | (rcases h0_r_46 with hz | hz; exact Or.inl hz.1; (refine Or.inr ?_; unfold y_In; refine ⟨?_, ?_, ?_, ?_, ?_, ?_, ?_, ?_, ?_, ?_, ?_⟩ <;> (first | omega | (intro z; exfalso; omega) | (intro z; unfold y_Ty; omega) | (intro z; unfold y_Tr; omega) | (intro z; omega) | (intro z; refine ⟨?_, ?_⟩ <;> (first | omega | (unfold y_Tr; omega))) | (intro z; refine ⟨?_, ?_, ?_⟩ <;> (first | omega | (unfold y_Tr; omega)))))) | (rcases h0_r_46 with hz | hz; exact Or.inl hz.1; exact Or.inr hz.1) | (rcases h0_r_51 with hz | hz; exact Or.inl hz.1; (refine Or.inr ?_; unfold y_In; refine ⟨?_, ?_, ?_, ?_, ?_, ?_, ?_, ?_, ?_, ?_, ?_⟩ <;> (first | omega | (intro z; exfalso; omega) | (intro z; unfold y_Ty; omega) | (intro z; unfold y_Tr; omega) | (intro z; omega) | (intro z; refine ⟨?_, ?_⟩ <;> (first | omega | (unfold y_Tr; omega))) | (intro z; refine ⟨?_, ?_, ?_⟩ <;> (first | omega | (unfold y_Tr; omega)))))) | (rcases h0_r_51 with hz | hz; exact Or.inl hz.1; exact Or.inr hz.1) | (rcases h0_r_53 with hz | hz; exact Or.inl hz.1; (refine Or.inr ?_; unfold y_In; refine ⟨?_, ?_, ?_, ?_, ?_, ?_, ?_, ?_, ?_, ?_, ?_⟩ <;> (first | omega | (intro z; exfalso; omega) | (intro z; unfold y_Ty; omega) | (intro z; unfold y_Tr; omega) | (intro z; omega) | (intro z; refine ⟨?_, ?_⟩ <;> (first | omega | (unfold y_Tr; omega))) | (intro z; refine ⟨?_, ?_, ?_⟩ <;> (first | omega | (unfold y_Tr; omega)))))) | (rcases h0_r_53 with hz | hz; exact Or.inl hz.1; exact Or.inr hz.1))
                                · skip
                                  have e128 : (189 : Int32).toInt = 189 := rfl
                                  have c117' := c117
                                  rw [← Int32.toInt_inj] at c117'
                                  refine y_if (fun c129 => ?_) (fun c129 => ?_)
                                  · skip
                                    have e130 : (192 : Int32).toInt = 192 := rfl
                                    have c129' := c129
                                    rw [← Int32.toInt_inj] at c129'
                                    refine y_bi (y_X7_isReference (by omega) (by omega)) (fun r_51 h_r_51 => ?_)
                                    have h0_r_51 : (r_51.toInt = 0 ∧ ¬ ((0 ≤ p2.toInt ∧ p2.toInt < 16777216 ∧ (p2.toInt % 65536 < v7_2.toInt ∨ 65528 ≤ p2.toInt % 65536)) ∧ ¬ (65528 ≤ p2.toInt ∧ p2.toInt < 65536))) ∨ (r_51.toInt = 1 ∧ ((0 ≤ p2.toInt ∧ p2.toInt < 16777216 ∧ (p2.toInt % 65536 < v7_2.toInt ∨ 65528 ≤ p2.toInt % 65536)) ∧ ¬ (65528 ≤ p2.toInt ∧ p2.toInt < 65536))) := h_r_51
                                    refine y_some ?_
                                    try dsimp only
                                    refine ⟨?_, ?_⟩ <;> (first | with_reducible assumption | omega | ((with_reducible refine y_Vl ?_ ?_) <;> omega) | (exact Or.inl (by omega)) | (refine Or.inr ?_; unfold y_In; refine ⟨?_, ?_, ?_, ?_, ?_, ?_, ?_, ?_, ?_, ?_, ?_⟩ <;> (first | omega | (intro z; exfalso; omega) | (intro z; unfold y_Ty; omega) | (intro z; unfold y_Tr; omega) | (intro z; omega) | (intro z; refine ⟨?_, ?_⟩ <;> (first | omega | (unfold y_Tr; omega))) | (intro z; refine ⟨?_, ?_, ?_⟩ <;> (first | omega | (unfold y_Tr; omega))))) | (rcases h0_r_41 with hz | hz; exact Or.inl hz.1; (refine Or.inr ?_; unfold y_In; refine ⟨?_, ?_, ?_, ?_, ?_, ?_, ?_, ?_, ?_, ?_, ?_⟩ <;> (first | omega | (intro z; exfalso; omega) | (intro z; unfold y_Ty; omega) | (intro z; unfold y_Tr; omega) | (intro z; omega) | (intro z; refine ⟨?_, ?_⟩ <;> (first | omega | (unfold y_Tr; omega))) | (intro z; refine ⟨?_, ?_, ?_⟩ <;> (first | omega | (unfold y_Tr; omega)))))) | (rcases h0_r_41 with hz | hz; exact Or.inl hz.1; exact Or.inr hz.1) | (rcases h0_r_46 with hz | hz; exact Or.inl hz.1; (refine Or.inr ?_; unfold y_In; refine ⟨?_, ?_, ?_, ?_, ?_, ?_, ?_, ?_, ?_, ?_, ?_⟩ <;> (first | omega | (intro z; exfalso; omega) | (intro z; unfold y_Ty; omega) | (intro z; unfold y_Tr; omega) | (intro z; omega) | (intro z; refine ⟨?_, ?_⟩ <;> (first | omega | (unfold y_Tr; omega))) | (intro z; refine ⟨?_, ?_, ?_⟩ <;> (first | omega | (unfold y_Tr; omega)))))) | (rcases h0_r_46 with hz | hz; exact Or.inl hz.1; exact Or.inr hz.1) | (rcases h0_r_51 with hz | hz; exact Or.inl hz.1; (refine Or.inr ?_; unfold y_In; refine ⟨?_, ?_, ?_, ?_, ?_, ?_, ?_, ?_, ?_, ?_, ?_⟩ <;> (first | omega | (intro z; exfalso; omega) | (intro z; unfold y_Ty; omega) | (intro z; unfold y_Tr; omega) | (intro z; omega) | (intro z; refine ⟨?_, ?_⟩ <;> (first | omega | (unfold y_Tr; omega))) | (intro z; refine ⟨?_, ?_, ?_⟩ <;> (first | omega | (unfold y_Tr; omega)))))) | (rcases h0_r_51 with hz | hz; exact Or.inl hz.1; exact Or.inr hz.1) | (rcases h0_r_53 with hz | hz; exact Or.inl hz.1; (refine Or.inr ?_; unfold y_In; refine ⟨?_, ?_, ?_, ?_, ?_, ?_, ?_, ?_, ?_, ?_, ?_⟩ <;> (first | omega | (intro z; exfalso; omega) | (intro z; unfold y_Ty; omega) | (intro z; unfold y_Tr; omega) | (intro z; omega) | (intro z; refine ⟨?_, ?_⟩ <;> (first | omega | (unfold y_Tr; omega))) | (intro z; refine ⟨?_, ?_, ?_⟩ <;> (first | omega | (unfold y_Tr; omega)))))) | (rcases h0_r_53 with hz | hz; exact Or.inl hz.1; exact Or.inr hz.1))
                                  · skip
                                    have e131 : (192 : Int32).toInt = 192 := rfl
                                    have c129' := c129
                                    rw [← Int32.toInt_inj] at c129'
                                    refine y_if (fun c132 => ?_) (fun c132 => ?_)
                                    · skip
                                      have e133 : (193 : Int32).toInt = 193 := rfl
                                      have c132' := c132
                                      rw [← Int32.toInt_inj] at c132'
                                      refine y_bi (y_X7_isReference (by omega) (by omega)) (fun r_53 h_r_53 => ?_)
                                      have h0_r_53 : (r_53.toInt = 0 ∧ ¬ ((0 ≤ p2.toInt ∧ p2.toInt < 16777216 ∧ (p2.toInt % 65536 < v7_2.toInt ∨ 65528 ≤ p2.toInt % 65536)) ∧ ¬ (65528 ≤ p2.toInt ∧ p2.toInt < 65536))) ∨ (r_53.toInt = 1 ∧ ((0 ≤ p2.toInt ∧ p2.toInt < 16777216 ∧ (p2.toInt % 65536 < v7_2.toInt ∨ 65528 ≤ p2.toInt % 65536)) ∧ ¬ (65528 ≤ p2.toInt ∧ p2.toInt < 65536))) := h_r_53
                                      refine y_some ?_
                                      try dsimp only
                                      refine ⟨?_, ?_⟩ <;> (first | with_reducible assumption | omega | ((with_reducible refine y_Vl ?_ ?_) <;> omega) | (exact Or.inl (by omega)) | (refine Or.inr ?_; unfold y_In; refine ⟨?_, ?_, ?_, ?_, ?_, ?_, ?_, ?_, ?_, ?_, ?_⟩ <;> (first | omega | (intro z; exfalso; omega) | (intro z; unfold y_Ty; omega) | (intro z; unfold y_Tr; omega) | (intro z; omega) | (intro z; refine ⟨?_, ?_⟩ <;> (first | omega | (unfold y_Tr; omega))) | (intro z; refine ⟨?_, ?_, ?_⟩ <;> (first | omega | (unfold y_Tr; omega))))) | (rcases h0_r_41 with hz | hz; exact Or.inl hz.1; (refine Or.inr ?_; unfold y_In; refine ⟨?_, ?_, ?_, ?_, ?_, ?_, ?_, ?_, ?_, ?_, ?_⟩ <;> (first | omega | (intro z; exfalso; omega) | (intro z; unfold y_Ty; omega) | (intro z; unfold y_Tr; omega) | (intro z; omega) | (intro z; refine ⟨?_, ?_⟩ <;> (first | omega | (unfold y_Tr; omega))) | (intro z; refine ⟨?_, ?_, ?_⟩ <;> (first | omega | (unfold y_Tr; omega)))))) | (rcases h0_r_41 with hz | hz; exact Or.inl hz.1; exact Or.inr hz.1) | (rcases h0_r_46 with hz | hz; exact Or.inl hz.1; (refine Or.inr ?_; unfold y_In; refine ⟨?_, ?_, ?_, ?_, ?_, ?_, ?_, ?_, ?_, ?_, ?_⟩ <;> (first | omega | (intro z; exfalso; omega) | (intro z; unfold y_Ty; omega) | (intro z; unfold y_Tr; omega) | (intro z; omega) | (intro z; refine ⟨?_, ?_⟩ <;> (first | omega | (unfold y_Tr; omega))) | (intro z; refine ⟨?_, ?_, ?_⟩ <;> (first | omega | (unfold y_Tr; omega)))))) | (rcases h0_r_46 with hz | hz; exact Or.inl hz.1; exact Or.inr hz.1) | (rcases h0_r_51 with hz | hz; exact Or.inl hz.1; (refine Or.inr ?_; unfold y_In; refine ⟨?_, ?_, ?_, ?_, ?_, ?_, ?_, ?_, ?_, ?_, ?_⟩ <;> (first | omega | (intro z; exfalso; omega) | (intro z; unfold y_Ty; omega) | (intro z; unfold y_Tr; omega) | (intro z; omega) | (intro z; refine ⟨?_, ?_⟩ <;> (first | omega | (unfold y_Tr; omega))) | (intro z; refine ⟨?_, ?_, ?_⟩ <;> (first | omega | (unfold y_Tr; omega)))))) | (rcases h0_r_51 with hz | hz; exact Or.inl hz.1; exact Or.inr hz.1) | (rcases h0_r_53 with hz | hz; exact Or.inl hz.1; (refine Or.inr ?_; unfold y_In; refine ⟨?_, ?_, ?_, ?_, ?_, ?_, ?_, ?_, ?_, ?_, ?_⟩ <;> (first | omega | (intro z; exfalso; omega) | (intro z; unfold y_Ty; omega) | (intro z; unfold y_Tr; omega) | (intro z; omega) | (intro z; refine ⟨?_, ?_⟩ <;> (first | omega | (unfold y_Tr; omega))) | (intro z; refine ⟨?_, ?_, ?_⟩ <;> (first | omega | (unfold y_Tr; omega)))))) | (rcases h0_r_53 with hz | hz; exact Or.inl hz.1; exact Or.inr hz.1))
                                    · skip
                                      have e134 : (193 : Int32).toInt = 193 := rfl
                                      have c132' := c132
                                      rw [← Int32.toInt_inj] at c132'
                                      refine y_bi (y_X0_isOpcode) (fun r_54 h_r_54 => ?_)
                                      have h0_r_54 : (r_54.toInt = 0 ∧ ¬ (0 ≤ p1.toInt ∧ p1.toInt ≤ 18 ∨ 20 ≤ p1.toInt ∧ p1.toInt ≤ 25 ∨ 46 ≤ p1.toInt ∧ p1.toInt ≤ 58 ∨ 79 ≤ p1.toInt ∧ p1.toInt ≤ 195 ∨ 197 ≤ p1.toInt ∧ p1.toInt ≤ 199)) ∨ (r_54.toInt = 1 ∧ (0 ≤ p1.toInt ∧ p1.toInt ≤ 18 ∨ 20 ≤ p1.toInt ∧ p1.toInt ≤ 25 ∨ 46 ≤ p1.toInt ∧ p1.toInt ≤ 58 ∨ 79 ≤ p1.toInt ∧ p1.toInt ≤ 195 ∨ 197 ≤ p1.toInt ∧ p1.toInt ≤ 199)) := h_r_54
                                      refine y_if (fun c135 => ?_) (fun c135 => ?_)
                                      · skip
                                        have e136 : (0 : Int32).toInt = 0 := rfl
                                        have c135' := c135
                                        rw [← Int32.toInt_inj] at c135'
                                        have e137 := y_or0 h0_r_54 c135'
                                        clear h0_r_54
                                        refine y_some ?_
                                        try dsimp only
                                        refine ⟨?_, ?_⟩ <;> (first | with_reducible assumption | omega | ((with_reducible refine y_Vl ?_ ?_) <;> omega) | (exact Or.inl (by omega)) | (refine Or.inr ?_; unfold y_In; refine ⟨?_, ?_, ?_, ?_, ?_, ?_, ?_, ?_, ?_, ?_, ?_⟩ <;> (first | omega | (intro z; exfalso; omega) | (intro z; unfold y_Ty; omega) | (intro z; unfold y_Tr; omega) | (intro z; omega) | (intro z; refine ⟨?_, ?_⟩ <;> (first | omega | (unfold y_Tr; omega))) | (intro z; refine ⟨?_, ?_, ?_⟩ <;> (first | omega | (unfold y_Tr; omega))))) | (rcases h0_r_41 with hz | hz; exact Or.inl hz.1; (refine Or.inr ?_; unfold y_In; refine ⟨?_, ?_, ?_, ?_, ?_, ?_, ?_, ?_, ?_, ?_, ?_⟩ <;> (first | omega | (intro z; exfalso; omega) | (intro z; unfold y_Ty; omega) | (intro z; unfold y_Tr; omega) | (intro z; omega) | (intro z; refine ⟨?_, ?_⟩ <;> (first | omega | (unfold y_Tr; omega))) | (intro z; refine ⟨?_, ?_, ?_⟩ <;> (first | omega | (unfold y_Tr; omega)))))) | (rcases h0_r_41 with hz | hz; exact Or.inl hz.1; exact Or.inr hz.1) | (rcases h0_r_46 with hz | hz; exact Or.inl hz.1; (refine Or.inr ?_; unfold y_In; refine ⟨?_, ?_, ?_, ?_, ?_, ?_, ?_, ?_, ?_, ?_, ?_⟩ <;> (first | omega | (intro z; exfalso; omega) | (intro z; unfold y_Ty; omega) | (intro z; unfold y_Tr; omega) | (intro z; omega) | (intro z; refine ⟨?_, ?_⟩ <;> (first | omega | (unfold y_Tr; omega))) | (intro z; refine ⟨?_, ?_, ?_⟩ <;> (first | omega | (unfold y_Tr; omega)))))) | (rcases h0_r_46 with hz | hz; exact Or.inl hz.1; exact Or.inr hz.1) | (rcases h0_r_51 with hz | hz; exact Or.inl hz.1; (refine Or.inr ?_; unfold y_In; refine ⟨?_, ?_, ?_, ?_, ?_, ?_, ?_, ?_, ?_, ?_, ?_⟩ <;> (first | omega | (intro z; exfalso; omega) | (intro z; unfold y_Ty; omega) | (intro z; unfold y_Tr; omega) | (intro z; omega) | (intro z; refine ⟨?_, ?_⟩ <;> (first | omega | (unfold y_Tr; omega))) | (intro z; refine ⟨?_, ?_, ?_⟩ <;> (first | omega | (unfold y_Tr; omega)))))) | (rcases h0_r_51 with hz | hz; exact Or.inl hz.1; exact Or.inr hz.1) | (rcases h0_r_53 with hz | hz; exact Or.inl hz.1; (refine Or.inr ?_; unfold y_In; refine ⟨?_, ?_, ?_, ?_, ?_, ?_, ?_, ?_, ?_, ?_, ?_⟩ <;> (first | omega | (intro z; exfalso; omega) | (intro z; unfold y_Ty; omega) | (intro z; unfold y_Tr; omega) | (intro z; omega) | (intro z; refine ⟨?_, ?_⟩ <;> (first | omega | (unfold y_Tr; omega))) | (intro z; refine ⟨?_, ?_, ?_⟩ <;> (first | omega | (unfold y_Tr; omega)))))) | (rcases h0_r_53 with hz | hz; exact Or.inl hz.1; exact Or.inr hz.1))
                                      · skip
                                        have e138 : (0 : Int32).toInt = 0 := rfl
                                        have c135' := c135
                                        rw [← Int32.toInt_inj] at c135'
                                        have e139 := y_or1 h0_r_54 c135'
                                        clear h0_r_54
                                        refine y_if (fun c140 => ?_) (fun c140 => ?_)
                                        · skip
                                          have c140' := c140
                                          rw [← Int32.toInt_inj] at c140'
                                          have e141 : (1 : Int32).toInt = 1 := rfl
                                          refine y_some ?_
                                          try dsimp only
                                          refine ⟨?_, ?_⟩ <;> (first | with_reducible assumption | omega | ((with_reducible refine y_Vl ?_ ?_) <;> omega) | (exact Or.inl (by omega)) | (refine Or.inr ?_; unfold y_In; refine ⟨?_, ?_, ?_, ?_, ?_, ?_, ?_, ?_, ?_, ?_, ?_⟩ <;> (first | omega | (intro z; exfalso; omega) | (intro z; unfold y_Ty; omega) | (intro z; unfold y_Tr; omega) | (intro z; omega) | (intro z; refine ⟨?_, ?_⟩ <;> (first | omega | (unfold y_Tr; omega))) | (intro z; refine ⟨?_, ?_, ?_⟩ <;> (first | omega | (unfold y_Tr; omega))))) | (rcases h0_r_41 with hz | hz; exact Or.inl hz.1; (refine Or.inr ?_; unfold y_In; refine ⟨?_, ?_, ?_, ?_, ?_, ?_, ?_, ?_, ?_, ?_, ?_⟩ <;> (first | omega | (intro z; exfalso; omega) | (intro z; unfold y_Ty; omega) | (intro z; unfold y_Tr; omega) | (intro z; omega) | (intro z; refine ⟨?_, ?_⟩ <;> (first | omega | (unfold y_Tr; omega))) | (intro z; refine ⟨?_, ?_, ?_⟩ <;> (first | omega | (unfold y_Tr; omega)))))) | (rcases h0_r_41 with hz | hz; exact Or.inl hz.1; exact Or.inr hz.1) | (rcases h0_r_46 with hz | hz; exact Or.inl hz.1; (refine Or.inr ?_; unfold y_In; refine ⟨?_, ?_, ?_, ?_, ?_, ?_, ?_, ?_, ?_, ?_, ?_⟩ <;> (first | omega | (intro z; exfalso; omega) | (intro z; unfold y_Ty; omega) | (intro z; unfold y_Tr; omega) | (intro z; omega) | (intro z; refine ⟨?_, ?_⟩ <;> (first | omega | (unfold y_Tr; omega))) | (intro z; refine ⟨?_, ?_, ?_⟩ <;> (first | omega | (unfold y_Tr; omega)))))) | (rcases h0_r_46 with hz | hz; exact Or.inl hz.1; exact Or.inr hz.1) | (rcases h0_r_51 with hz | hz; exact Or.inl hz.1; (refine Or.inr ?_; unfold y_In; refine ⟨?_, ?_, ?_, ?_, ?_, ?_, ?_, ?_, ?_, ?_, ?_⟩ <;> (first | omega | (intro z; exfalso; omega) | (intro z; unfold y_Ty; omega) | (intro z; unfold y_Tr; omega) | (intro z; omega) | (intro z; refine ⟨?_, ?_⟩ <;> (first | omega | (unfold y_Tr; omega))) | (intro z; refine ⟨?_, ?_, ?_⟩ <;> (first | omega | (unfold y_Tr; omega)))))) | (rcases h0_r_51 with hz | hz; exact Or.inl hz.1; exact Or.inr hz.1) | (rcases h0_r_53 with hz | hz; exact Or.inl hz.1; (refine Or.inr ?_; unfold y_In; refine ⟨?_, ?_, ?_, ?_, ?_, ?_, ?_, ?_, ?_, ?_, ?_⟩ <;> (first | omega | (intro z; exfalso; omega) | (intro z; unfold y_Ty; omega) | (intro z; unfold y_Tr; omega) | (intro z; omega) | (intro z; refine ⟨?_, ?_⟩ <;> (first | omega | (unfold y_Tr; omega))) | (intro z; refine ⟨?_, ?_, ?_⟩ <;> (first | omega | (unfold y_Tr; omega)))))) | (rcases h0_r_53 with hz | hz; exact Or.inl hz.1; exact Or.inr hz.1))
                                        · skip
                                          have c140' := c140
                                          rw [← Int32.toInt_inj] at c140'
                                          refine y_if (fun c142 => ?_) (fun c142 => ?_)
                                          · skip
                                            have c142' := c142
                                            rw [Int32.le_iff_toInt_le] at c142'
                                            refine y_some ?_
                                            try dsimp only
                                            refine ⟨?_, ?_⟩ <;> (first | with_reducible assumption | omega | ((with_reducible refine y_Vl ?_ ?_) <;> omega) | (exact Or.inl (by omega)) | (refine Or.inr ?_; unfold y_In; refine ⟨?_, ?_, ?_, ?_, ?_, ?_, ?_, ?_, ?_, ?_, ?_⟩ <;> (first | omega | (intro z; exfalso; omega) | (intro z; unfold y_Ty; omega) | (intro z; unfold y_Tr; omega) | (intro z; omega) | (intro z; refine ⟨?_, ?_⟩ <;> (first | omega | (unfold y_Tr; omega))) | (intro z; refine ⟨?_, ?_, ?_⟩ <;> (first | omega | (unfold y_Tr; omega))))) | (rcases h0_r_41 with hz | hz; exact Or.inl hz.1; (refine Or.inr ?_; unfold y_In; refine ⟨?_, ?_, ?_, ?_, ?_, ?_, ?_, ?_, ?_, ?_, ?_⟩ <;> (first | omega | (intro z; exfalso; omega) | (intro z; unfold y_Ty; omega) | (intro z; unfold y_Tr; omega) | (intro z; omega) | (intro z; refine ⟨?_, ?_⟩ <;> (first | omega | (unfold y_Tr; omega))) | (intro z; refine ⟨?_, ?_, ?_⟩ <;> (first | omega | (unfold y_Tr; omega)))))) | (rcases h0_r_41 with hz | hz; exact Or.inl hz.1; exact Or.inr hz.1) | (rcases h0_r_46 with hz | hz; exact Or.inl hz.1; (refine Or.inr ?_; unfold y_In; refine ⟨?_, ?_, ?_, ?_, ?_, ?_, ?_, ?_, ?_, ?_, ?_⟩ <;> (first | omega | (intro z; exfalso; omega) | (intro z; unfold y_Ty; omega) | (intro z; unfold y_Tr; omega) | (intro z; omega) | (intro z; refine ⟨?_, ?_⟩ <;> (first | omega | (unfold y_Tr; omega))) | (intro z; refine ⟨?_, ?_, ?_⟩ <;> (first | omega | (unfold y_Tr; omega)))))) | (rcases h0_r_46 with hz | hz; exact Or.inl hz.1; exact Or.inr hz.1) | (rcases h0_r_51 with hz | hz; exact Or.inl hz.1; (refine Or.inr ?_; unfold y_In; refine ⟨?_, ?_, ?_, ?_, ?_, ?_, ?_, ?_, ?_, ?_, ?_⟩ <;> (first | omega | (intro z; exfalso; omega) | (intro z; unfold y_Ty; omega) | (intro z; unfold y_Tr; omega) | (intro z; omega) | (intro z; refine ⟨?_, ?_⟩ <;> (first | omega | (unfold y_Tr; omega))) | (intro z; refine ⟨?_, ?_, ?_⟩ <;> (first | omega | (unfold y_Tr; omega)))))) | (rcases h0_r_51 with hz | hz; exact Or.inl hz.1; exact Or.inr hz.1) | (rcases h0_r_53 with hz | hz; exact Or.inl hz.1; (refine Or.inr ?_; unfold y_In; refine ⟨?_, ?_, ?_, ?_, ?_, ?_, ?_, ?_, ?_, ?_, ?_⟩ <;> (first | omega | (intro z; exfalso; omega) | (intro z; unfold y_Ty; omega) | (intro z; unfold y_Tr; omega) | (intro z; omega) | (intro z; refine ⟨?_, ?_⟩ <;> (first | omega | (unfold y_Tr; omega))) | (intro z; refine ⟨?_, ?_, ?_⟩ <;> (first | omega | (unfold y_Tr; omega)))))) | (rcases h0_r_53 with hz | hz; exact Or.inl hz.1; exact Or.inr hz.1))
                                          · skip
                                            have c142' := c142
                                            rw [Int32.le_iff_toInt_le] at c142'
                                            refine y_bi (y_X0_isOfLocal) (fun r_58 h_r_58 => ?_)
                                            have h0_r_58 : (r_58.toInt = 0 ∧ ¬ (21 ≤ p1.toInt ∧ p1.toInt ≤ 25 ∨ 54 ≤ p1.toInt ∧ p1.toInt ≤ 58 ∨ p1.toInt = 132 ∨ p1.toInt = 169)) ∨ (r_58.toInt = 1 ∧ (21 ≤ p1.toInt ∧ p1.toInt ≤ 25 ∨ 54 ≤ p1.toInt ∧ p1.toInt ≤ 58 ∨ p1.toInt = 132 ∨ p1.toInt = 169)) := h_r_58
                                            refine y_if (fun c143 => ?_) (fun c143 => ?_)
                                            · skip
                                              have c143' := c143
                                              rw [← Int32.toInt_inj] at c143'
                                              have e144 := y_or0 h0_r_58 c143'
                                              clear h0_r_58
                                              refine y_bi (y_X0_isJump) (fun r_60 h_r_60 => ?_)
                                              have h0_r_60 : (r_60.toInt = 0 ∧ ¬ (153 ≤ p1.toInt ∧ p1.toInt ≤ 168 ∨ p1.toInt = 198 ∨ p1.toInt = 199)) ∨ (r_60.toInt = 1 ∧ (153 ≤ p1.toInt ∧ p1.toInt ≤ 168 ∨ p1.toInt = 198 ∨ p1.toInt = 199)) := h_r_60
                                              refine y_if (fun c145 => ?_) (fun c145 => ?_)
                                              · skip
                                                have c145' := c145
                                                rw [← Int32.toInt_inj] at c145'
                                                have e146 := y_or0 h0_r_60 c145'
                                                clear h0_r_60
                                                refine y_some ?_
                                                try dsimp only
                                                refine ⟨?_, ?_⟩ <;> (first | with_reducible assumption | omega | ((with_reducible refine y_Vl ?_ ?_) <;> omega) | (exact Or.inl (by omega)) | (refine Or.inr ?_; unfold y_In; refine ⟨?_, ?_, ?_, ?_, ?_, ?_, ?_, ?_, ?_, ?_, ?_⟩ <;> (first | omega | (intro z; exfalso; omega) | (intro z; unfold y_Ty; omega) | (intro z; unfold y_Tr; omega) | (intro z; omega) | (intro z; refine ⟨?_, ?_⟩ <;> (first | omega | (unfold y_Tr; omega))) | (intro z; refine ⟨?_, ?_, ?_⟩ <;> (first | omega | (unfold y_Tr; omega))))) | (rcases h0_r_41 with hz | hz; exact Or.inl hz.1; (refine Or.inr ?_; unfold y_In; refine ⟨?_, ?_, ?_, ?_, ?_, ?_, ?_, ?_, ?_, ?_, ?_⟩ <;> (first | omega | (intro z; exfalso; omega) | (intro z; unfold y_Ty; omega) | (intro z; unfold y_Tr; omega) | (intro z; omega) | (intro z; refine ⟨?_, ?_⟩ <;> (first | omega | (unfold y_Tr; omega))) | (intro z; refine ⟨?_, ?_, ?_⟩ <;> (first | omega | (unfold y_Tr; omega)))))) | (rcases h0_r_41 with hz | hz; exact Or.inl hz.1; exact Or.inr hz.1) | (rcases h0_r_46 with hz | hz; exact Or.inl hz.1; (refine Or.inr ?_; unfold y_In; refine ⟨?_, ?_, ?_, ?_, ?_, ?_, ?_, ?_, ?_, ?_, ?_⟩ <;> (first | omega | (intro z; exfalso; omega) | (intro z; unfold y_Ty; omega) | (intro z; unfold y_Tr; omega) | (intro z; omega) | (intro z; refine ⟨?_, ?_⟩ <;> (first | omega | (unfold y_Tr; omega))) | (intro z; refine ⟨?_, ?_, ?_⟩ <;> (first | omega | (unfold y_Tr; omega)))))) | (rcases h0_r_46 with hz | hz; exact Or.inl hz.1; exact Or.inr hz.1) | (rcases h0_r_51 with hz | hz; exact Or.inl hz.1; (refine Or.inr ?_; unfold y_In; refine ⟨?_, ?_, ?_, ?_, ?_, ?_, ?_, ?_, ?_, ?_, ?_⟩ <;> (first | omega | (intro z; exfalso; omega) | (intro z; unfold y_Ty; omega) | (intro z; unfold y_Tr; omega) | (intro z; omega) | (intro z; refine ⟨?_, ?_⟩ <;> (first | omega | (unfold y_Tr; omega))) | (intro z; refine ⟨?_, ?_, ?_⟩ <;> (first | omega | (unfold y_Tr; omega)))))) | (rcases h0_r_51 with hz | hz; exact Or.inl hz.1; exact Or.inr hz.1) | (rcases h0_r_53 with hz | hz; exact Or.inl hz.1; (refine Or.inr ?_; unfold y_In; refine ⟨?_, ?_, ?_, ?_, ?_, ?_, ?_, ?_, ?_, ?_, ?_⟩ <;> (first | omega | (intro z; exfalso; omega) | (intro z; unfold y_Ty; omega) | (intro z; unfold y_Tr; omega) | (intro z; omega) | (intro z; refine ⟨?_, ?_⟩ <;> (first | omega | (unfold y_Tr; omega))) | (intro z; refine ⟨?_, ?_, ?_⟩ <;> (first | omega | (unfold y_Tr; omega)))))) | (rcases h0_r_53 with hz | hz; exact Or.inl hz.1; exact Or.inr hz.1))
                                              · skip
                                                have c145' := c145
                                                rw [← Int32.toInt_inj] at c145'
                                                have e147 := y_or1 h0_r_60 c145'
                                                clear h0_r_60
                                                have e148 : (1 : Int32).toInt = 1 := rfl
                                                refine y_some ?_
                                                try dsimp only
                                                refine ⟨?_, ?_⟩ <;> (first | with_reducible assumption | omega | ((with_reducible refine y_Vl ?_ ?_) <;> omega) | (exact Or.inl (by omega)) | (refine Or.inr ?_; unfold y_In; refine ⟨?_, ?_, ?_, ?_, ?_, ?_, ?_, ?_, ?_, ?_, ?_⟩ <;> (first | omega | (intro z; exfalso; omega) | (intro z; unfold y_Ty; omega) | (intro z; unfold y_Tr; omega) | (intro z; omega) | (intro z; refine ⟨?_, ?_⟩ <;> (first | omega | (unfold y_Tr; omega))) | (intro z; refine ⟨?_, ?_, ?_⟩ <;> (first | omega | (unfold y_Tr; omega))))) | (rcases h0_r_41 with hz | hz; exact Or.inl hz.1; (refine Or.inr ?_; unfold y_In; refine ⟨?_, ?_, ?_, ?_, ?_, ?_, ?_, ?_, ?_, ?_, ?_⟩ <;> (first | omega | (intro z; exfalso; omega) | (intro z; unfold y_Ty; omega) | (intro z; unfold y_Tr; omega) | (intro z; omega) | (intro z; refine ⟨?_, ?_⟩ <;> (first | omega | (unfold y_Tr; omega))) | (intro z; refine ⟨?_, ?_, ?_⟩ <;> (first | omega | (unfold y_Tr; omega)))))) | (rcases h0_r_41 with hz | hz; exact Or.inl hz.1; exact Or.inr hz.1) | (rcases h0_r_46 with hz | hz; exact Or.inl hz.1; (refine Or.inr ?_; unfold y_In; refine ⟨?_, ?_, ?_, ?_, ?_, ?_, ?_, ?_, ?_, ?_, ?_⟩ <;> (first | omega | (intro z; exfalso; omega) | (intro z; unfold y_Ty; omega) | (intro z; unfold y_Tr; omega) | (intro z; omega) | (intro z; refine ⟨?_, ?_⟩ <;> (first | omega | (unfold y_Tr; omega))) | (intro z; refine ⟨?_, ?_, ?_⟩ <;> (first | omega | (unfold y_Tr; omega)))))) | (rcases h0_r_46 with hz | hz; exact Or.inl hz.1; exact Or.inr hz.1) | (rcases h0_r_51 with hz | hz; exact Or.inl hz.1; (refine Or.inr ?_; unfold y_In; refine ⟨?_, ?_, ?_, ?_, ?_, ?_, ?_, ?_, ?_, ?_, ?_⟩ <;> (first | omega | (intro z; exfalso; omega) | (intro z; unfold y_Ty; omega) | (intro z; unfold y_Tr; omega) | (intro z; omega) | (intro z; refine ⟨?_, ?_⟩ <;> (first | omega | (unfold y_Tr; omega))) | (intro z; refine ⟨?_, ?_, ?_⟩ <;> (first | omega | (unfold y_Tr; omega)))))) | (rcases h0_r_51 with hz | hz; exact Or.inl hz.1; exact Or.inr hz.1) | (rcases h0_r_53 with hz | hz; exact Or.inl hz.1; (refine Or.inr ?_; unfold y_In; refine ⟨?_, ?_, ?_, ?_, ?_, ?_, ?_, ?_, ?_, ?_, ?_⟩ <;> (first | omega | (intro z; exfalso; omega) | (intro z; unfold y_Ty; omega) | (intro z; unfold y_Tr; omega) | (intro z; omega) | (intro z; refine ⟨?_, ?_⟩ <;> (first | omega | (unfold y_Tr; omega))) | (intro z; refine ⟨?_, ?_, ?_⟩ <;> (first | omega | (unfold y_Tr; omega)))))) | (rcases h0_r_53 with hz | hz; exact Or.inl hz.1; exact Or.inr hz.1))
                                            · skip
                                              have c143' := c143
                                              rw [← Int32.toInt_inj] at c143'
                                              have e149 := y_or1 h0_r_58 c143'
                                              clear h0_r_58
                                              have e150 : (1 : Int32).toInt = 1 := rfl
                                              refine y_some ?_
                                              try dsimp only
                                              refine ⟨?_, ?_⟩ <;> (first | with_reducible assumption | omega | ((with_reducible refine y_Vl ?_ ?_) <;> omega) | (exact Or.inl (by omega)) | (refine Or.inr ?_; unfold y_In; refine ⟨?_, ?_, ?_, ?_, ?_, ?_, ?_, ?_, ?_, ?_, ?_⟩ <;> (first | omega | (intro z; exfalso; omega) | (intro z; unfold y_Ty; omega) | (intro z; unfold y_Tr; omega) | (intro z; omega) | (intro z; refine ⟨?_, ?_⟩ <;> (first | omega | (unfold y_Tr; omega))) | (intro z; refine ⟨?_, ?_, ?_⟩ <;> (first | omega | (unfold y_Tr; omega))))) | (rcases h0_r_41 with hz | hz; exact Or.inl hz.1; (refine Or.inr ?_; unfold y_In; refine ⟨?_, ?_, ?_, ?_, ?_, ?_, ?_, ?_, ?_, ?_, ?_⟩ <;> (first | omega | (intro z; exfalso; omega) | (intro z; unfold y_Ty; omega) | (intro z; unfold y_Tr; omega) | (intro z; omega) | (intro z; refine ⟨?_, ?_⟩ <;> (first | omega | (unfold y_Tr; omega))) | (intro z; refine ⟨?_, ?_, ?_⟩ <;> (first | omega | (unfold y_Tr; omega)))))) | (rcases h0_r_41 with hz | hz; exact Or.inl hz.1; exact Or.inr hz.1) | (rcases h0_r_46 with hz | hz; exact Or.inl hz.1; (refine Or.inr ?_; unfold y_In; refine ⟨?_, ?_, ?_, ?_, ?_, ?_, ?_, ?_, ?_, ?_, ?_⟩ <;> (first | omega | (intro z; exfalso; omega) | (intro z; unfold y_Ty; omega) | (intro z; unfold y_Tr; omega) | (intro z; omega) | (intro z; refine ⟨?_, ?_⟩ <;> (first | omega | (unfold y_Tr; omega))) | (intro z; refine ⟨?_, ?_, ?_⟩ <;> (first | omega | (unfold y_Tr; omega)))))) | (rcases h0_r_46 with hz | hz; exact Or.inl hz.1; exact Or.inr hz.1) | (rcases h0_r_51 with hz | hz; exact Or.inl hz.1; (refine Or.inr ?_; unfold y_In; refine ⟨?_, ?_, ?_, ?_, ?_, ?_, ?_, ?_, ?_, ?_, ?_⟩ <;> (first | omega | (intro z; exfalso; omega) | (intro z; unfold y_Ty; omega) | (intro z; unfold y_Tr; omega) | (intro z; omega) | (intro z; refine ⟨?_, ?_⟩ <;> (first | omega | (unfold y_Tr; omega))) | (intro z; refine ⟨?_, ?_, ?_⟩ <;> (first | omega | (unfold y_Tr; omega)))))) | (rcases h0_r_51 with hz | hz; exact Or.inl hz.1; exact Or.inr hz.1) | (rcases h0_r_53 with hz | hz; exact Or.inl hz.1; (refine Or.inr ?_; unfold y_In; refine ⟨?_, ?_, ?_, ?_, ?_, ?_, ?_, ?_, ?_, ?_, ?_⟩ <;> (first | omega | (intro z; exfalso; omega) | (intro z; unfold y_Ty; omega) | (intro z; unfold y_Tr; omega) | (intro z; omega) | (intro z; refine ⟨?_, ?_⟩ <;> (first | omega | (unfold y_Tr; omega))) | (intro z; refine ⟨?_, ?_, ?_⟩ <;> (first | omega | (unfold y_Tr; omega)))))) | (rcases h0_r_53 with hz | hz; exact Or.inl hz.1; exact Or.inr hz.1))
set_option maxHeartbeats 4000000 in
theorem y_X8_isInstruction {v7_2 : Int32} {v4_2 : Int32} {v4_8 : Int32} {p1 : Int32} {p2 : Int32} {p3 : Int32} (k0 : 4 ≤ v7_2.toInt) (k1 : v7_2.toInt ≤ 200) (k2 : 0 ≤ v4_2.toInt) (k3 : v4_2.toInt ≤ 100) (k4 : 0 ≤ v4_8.toInt) (k5 : v4_8.toInt ≤ 100) : y_Ok (f_X8_isInstruction v7_2 v4_2 v4_8 p1 p2 p3) (fun r => (r.toInt = 0 ∨ r.toInt = 1) ∧ (r.toInt = 0 ∨ y_In p1 p2 p3)) := by
  unfold f_X8_isInstruction
  refine y_if (fun c1 => ?_) (fun c1 => ?_)
  · skip
    have e2 : (132 : Int32).toInt = 132 := rfl
    have c1' := c1
    rw [← Int32.toInt_inj] at c1'
    refine y_if (fun c3 => ?_) (fun c3 => ?_)
    · skip
      have e4 : (0 : Int32).toInt = 0 := rfl
      have c3' := c3
      rw [Int32.lt_iff_toInt_lt] at c3'
      refine y_some ?_
      try dsimp only
      refine ⟨?_, ?_⟩ <;> (first | with_reducible assumption | omega | ((with_reducible refine y_Vl ?_ ?_) <;> omega) | (exact Or.inl (by omega)) | (refine Or.inr ?_; unfold y_In; refine ⟨?_, ?_, ?_, ?_, ?_, ?_, ?_, ?_, ?_, ?_, ?_⟩ <;> (first | omega | (intro z; exfalso; omega) | (intro z; unfold y_Ty; omega) | (intro z; unfold y_Tr; omega) | (intro z; omega) | (intro z; refine ⟨?_, ?_⟩ <;> (first | omega | (unfold y_Tr; omega))) | (intro z; refine ⟨?_, ?_, ?_⟩ <;> (first | omega | (unfold y_Tr; omega))))) | (exact Or.inr (h1_r_10.resolve_left (by omega))))
    · skip
      have e5 : (0 : Int32).toInt = 0 := rfl
      have c3' := c3
      rw [Int32.lt_iff_toInt_lt] at c3'
      have e6 : (1 : Int32).toInt = 1 := rfl
      refine y_some ?_
      try dsimp only
      refine ⟨?_, ?_⟩ <;> (first | with_reducible assumption | omega | ((with_reducible refine y_Vl ?_ ?_) <;> omega) | (exact Or.inl (by omega)) | (refine Or.inr ?_; unfold y_In; refine ⟨?_, ?_, ?_, ?_, ?_, ?_, ?_, ?_, ?_, ?_, ?_⟩ <;> (first | omega | (intro z; exfalso; omega) | (intro z; unfold y_Ty; omega) | (intro z; unfold y_Tr; omega) | (intro z; omega) | (intro z; refine ⟨?_, ?_⟩ <;> (first | omega | (unfold y_Tr; omega))) | (intro z; refine ⟨?_, ?_, ?_⟩ <;> (first | omega | (unfold y_Tr; omega))))) | (exact Or.inr (h1_r_10.resolve_left (by omega))))
  · skip
    have e7 : (132 : Int32).toInt = 132 := rfl
    have c1' := c1
    rw [← Int32.toInt_inj] at c1'
    refine y_if (fun c8 => ?_) (fun c8 => ?_)
    · skip
      have e9 : (197 : Int32).toInt = 197 := rfl
      have c8' := c8
      rw [← Int32.toInt_inj] at c8'
      refine y_bi (y_X7_isReference (by omega) (by omega)) (fun r_4 h_r_4 => ?_)
      have h0_r_4 : (r_4.toInt = 0 ∧ ¬ ((0 ≤ p2.toInt ∧ p2.toInt < 16777216 ∧ (p2.toInt % 65536 < v7_2.toInt ∨ 65528 ≤ p2.toInt % 65536)) ∧ ¬ (65528 ≤ p2.toInt ∧ p2.toInt < 65536))) ∨ (r_4.toInt = 1 ∧ ((0 ≤ p2.toInt ∧ p2.toInt < 16777216 ∧ (p2.toInt % 65536 < v7_2.toInt ∨ 65528 ≤ p2.toInt % 65536)) ∧ ¬ (65528 ≤ p2.toInt ∧ p2.toInt < 65536))) := h_r_4
      refine y_if (fun c10 => ?_) (fun c10 => ?_)
      · skip
        have e11 : (0 : Int32).toInt = 0 := rfl
        have c10' := c10
        rw [← Int32.toInt_inj] at c10'
        have e12 := y_or0 h0_r_4 c10'
        clear h0_r_4
        refine y_some ?_
        try dsimp only
        refine ⟨?_, ?_⟩ <;> (first | with_reducible assumption | omega | ((with_reducible refine y_Vl ?_ ?_) <;> omega) | (exact Or.inl (by omega)) | (refine Or.inr ?_; unfold y_In; refine ⟨?_, ?_, ?_, ?_, ?_, ?_, ?_, ?_, ?_, ?_, ?_⟩ <;> (first | omega | (intro z; exfalso; omega) | (intro z; unfold y_Ty; omega) | (intro z; unfold y_Tr; omega) | (intro z; omega) | (intro z; refine ⟨?_, ?_⟩ <;> (first | omega | (unfold y_Tr; omega))) | (intro z; refine ⟨?_, ?_, ?_⟩ <;> (first | omega | (unfold y_Tr; omega))))) | (exact Or.inr (h1_r_10.resolve_left (by omega))))
      · skip
        have e13 : (0 : Int32).toInt = 0 := rfl
        have c10' := c10
        rw [← Int32.toInt_inj] at c10'
        have e14 := y_or1 h0_r_4 c10'
        clear h0_r_4
        refine y_if (fun c15 => ?_) (fun c15 => ?_)
        · skip
          have e16 : (1 : Int32).toInt = 1 := rfl
          have c15' := c15
          rw [Int32.lt_iff_toInt_lt] at c15'
          refine y_some ?_
          try dsimp only
          refine ⟨?_, ?_⟩ <;> (first | with_reducible assumption | omega | ((with_reducible refine y_Vl ?_ ?_) <;> omega) | (exact Or.inl (by omega)) | (refine Or.inr ?_; unfold y_In; refine ⟨?_, ?_, ?_, ?_, ?_, ?_, ?_, ?_, ?_, ?_, ?_⟩ <;> (first | omega | (intro z; exfalso; omega) | (intro z; unfold y_Ty; omega) | (intro z; unfold y_Tr; omega) | (intro z; omega) | (intro z; refine ⟨?_, ?_⟩ <;> (first | omega | (unfold y_Tr; omega))) | (intro z; refine ⟨?_, ?_, ?_⟩ <;> (first | omega | (unfold y_Tr; omega))))) | (exact Or.inr (h1_r_10.resolve_left (by omega))))
        · skip
          have e17 : (1 : Int32).toInt = 1 := rfl
          have c15' := c15
          rw [Int32.lt_iff_toInt_lt] at c15'
          refine y_bi (y_X7_dimensionsOf (by omega)) (fun r_7 h_r_7 => ?_)
          have h0_r_7 : r_7.toInt = p2.toInt / 65536 := h_r_7
          refine y_if (fun c18 => ?_) (fun c18 => ?_)
          · skip
            have c18' := c18
            rw [Int32.lt_iff_toInt_lt] at c18'
            refine y_some ?_
            try dsimp only
            refine ⟨?_, ?_⟩ <;> (first | with_reducible assumption | omega | ((with_reducible refine y_Vl ?_ ?_) <;> omega) | (exact Or.inl (by omega)) | (refine Or.inr ?_; unfold y_In; refine ⟨?_, ?_, ?_, ?_, ?_, ?_, ?_, ?_, ?_, ?_, ?_⟩ <;> (first | omega | (intro z; exfalso; omega) | (intro z; unfold y_Ty; omega) | (intro z; unfold y_Tr; omega) | (intro z; omega) | (intro z; refine ⟨?_, ?_⟩ <;> (first | omega | (unfold y_Tr; omega))) | (intro z; refine ⟨?_, ?_, ?_⟩ <;> (first | omega | (unfold y_Tr; omega))))) | (exact Or.inr (h1_r_10.resolve_left (by omega))))
          · skip
            have c18' := c18
            rw [Int32.lt_iff_toInt_lt] at c18'
            refine y_some ?_
            try dsimp only
            refine ⟨?_, ?_⟩ <;> (first | with_reducible assumption | omega | ((with_reducible refine y_Vl ?_ ?_) <;> omega) | (exact Or.inl (by omega)) | (refine Or.inr ?_; unfold y_In; refine ⟨?_, ?_, ?_, ?_, ?_, ?_, ?_, ?_, ?_, ?_, ?_⟩ <;> (first | omega | (intro z; exfalso; omega) | (intro z; unfold y_Ty; omega) | (intro z; unfold y_Tr; omega) | (intro z; omega) | (intro z; refine ⟨?_, ?_⟩ <;> (first | omega | (unfold y_Tr; omega))) | (intro z; refine ⟨?_, ?_, ?_⟩ <;> (first | omega | (unfold y_Tr; omega))))) | (exact Or.inr (h1_r_10.resolve_left (by omega))))
    · skip
      have e19 : (197 : Int32).toInt = 197 := rfl
      have c8' := c8
      rw [← Int32.toInt_inj] at c8'
      refine y_if (fun c20 => ?_) (fun c20 => ?_)
      · skip
        have e21 : (0 : Int32).toInt = 0 := rfl
        have c20' := c20
        rw [← Int32.toInt_inj] at c20'
        refine y_bi (y_X8_isOperand (p3 := p3) (by omega) (by omega) (by omega) (by omega) (by omega) (by omega) (by omega) (by omega) (by omega)) (fun r_10 h_r_10 => ?_)
        obtain ⟨h0_r_10, h1_r_10⟩ := h_r_10
        refine y_if (fun c22 => ?_) (fun c22 => ?_)
        · skip
          have c22' := c22
          rw [← Int32.toInt_inj] at c22'
          refine y_some ?_
          try dsimp only
          refine ⟨?_, ?_⟩ <;> (first | with_reducible assumption | omega | ((with_reducible refine y_Vl ?_ ?_) <;> omega) | (exact Or.inl (by omega)) | (refine Or.inr ?_; unfold y_In; refine ⟨?_, ?_, ?_, ?_, ?_, ?_, ?_, ?_, ?_, ?_, ?_⟩ <;> (first | omega | (intro z; exfalso; omega) | (intro z; unfold y_Ty; omega) | (intro z; unfold y_Tr; omega) | (intro z; omega) | (intro z; refine ⟨?_, ?_⟩ <;> (first | omega | (unfold y_Tr; omega))) | (intro z; refine ⟨?_, ?_, ?_⟩ <;> (first | omega | (unfold y_Tr; omega))))) | (exact Or.inr (h1_r_10.resolve_left (by omega))))
        · skip
          have c22' := c22
          rw [← Int32.toInt_inj] at c22'
          have e23 : (1 : Int32).toInt = 1 := rfl
          refine y_some ?_
          try dsimp only
          refine ⟨?_, ?_⟩ <;> (first | with_reducible assumption | omega | ((with_reducible refine y_Vl ?_ ?_) <;> omega) | (exact Or.inl (by omega)) | (refine Or.inr ?_; unfold y_In; refine ⟨?_, ?_, ?_, ?_, ?_, ?_, ?_, ?_, ?_, ?_, ?_⟩ <;> (first | omega | (intro z; exfalso; omega) | (intro z; unfold y_Ty; omega) | (intro z; unfold y_Tr; omega) | (intro z; omega) | (intro z; refine ⟨?_, ?_⟩ <;> (first | omega | (unfold y_Tr; omega))) | (intro z; refine ⟨?_, ?_, ?_⟩ <;> (first | omega | (unfold y_Tr; omega))))) | (exact Or.inr (h1_r_10.resolve_left (by omega))))
      · skip
        have e24 : (0 : Int32).toInt = 0 := rfl
        have c20' := c20
        rw [← Int32.toInt_inj] at c20'
        refine y_some ?_
        try dsimp only
        refine ⟨?_, ?_⟩ <;> (first | with_reducible assumption | omega | ((with_reducible refine y_Vl ?_ ?_) <;> omega) | (exact Or.inl (by omega)) | (refine Or.inr ?_; unfold y_In; refine ⟨?_, ?_, ?_, ?_, ?_, ?_, ?_, ?_, ?_, ?_, ?_⟩ <;> (first | omega | (intro z; exfalso; omega) | (intro z; unfold y_Ty; omega) | (intro z; unfold y_Tr; omega) | (intro z; omega) | (intro z; refine ⟨?_, ?_⟩ <;> (first | omega | (unfold y_Tr; omega))) | (intro z; refine ⟨?_, ?_, ?_⟩ <;> (first | omega | (unfold y_Tr; omega))))) | (exact Or.inr (h1_r_10.resolve_left (by omega))))
set_option maxHeartbeats 4000000 in
theorem y_X0_enter {v0_10 : Int32} {g0_7 : Nat → Int32} {g0_8 : Nat → Int32} {g0_9 : Nat → Int32} {g0_12 : Nat → Int32} {g0_13 : Nat → Int32} {p1 : Int32} {p2 : Int32} {p3 : Int32} {n0_11 : Nat} (k0 : 0 ≤ v0_10.toInt) (k1 : v0_10.toInt < 1000) (hSB : y_SB v0_10.toInt n0_11 g0_12 g0_13 g0_7) (hI : y_AIn g0_7 g0_8 g0_9) (hin : y_In p1 p2 p3) : y_Ok (f_X0_enter v0_10 g0_7 g0_8 g0_9 g0_12 g0_13 p1 p2 p3) (fun r => (r.2.1.toInt = v0_10.toInt + 1) ∧ (y_AIn r.2.2.1 r.2.2.2.1 r.2.2.2.2.1) ∧ (y_SB r.2.1.toInt n0_11 r.2.2.2.2.2.1 r.2.2.2.2.2.2 r.2.2.1)) := by
  unfold f_X0_enter
  refine y_if (fun c1 => ?_) (fun c1 => ?_)
  · skip
    have e2 : (0 : Int32).toInt = 0 := rfl
    have c1' := c1
    rw [Int32.le_iff_toInt_le] at c1'
    refine y_gd (y_gdI (by omega) (by omega)) ?_
    refine y_gd (y_gdI (by omega) (by omega)) ?_
    refine y_gd (y_gdI (by omega) (by omega)) ?_
    refine y_gd (y_gdI (by omega) (by omega)) ?_
    refine y_gd (y_gdI (by omega) (by omega)) ?_
    try have e3 := @y_addL v0_10 (1 : Int32) (1) rfl (by omega) (by omega)
    try have e4 := @y_cl v0_10 (by omega)
    refine y_some ?_
    try dsimp only
    refine ⟨?_, ?_, ?_⟩ <;> (first | with_reducible assumption | omega | ((with_reducible refine y_Vl ?_ ?_) <;> omega) | (unfold y_Ty; omega) | (exact Or.inl (by omega)) | (exact Or.inr (by (unfold y_Ty; omega))) | (unfold y_Rs y_Ty; omega) | (exact y_AIn_put hI hin) | (refine y_SB_put hSB (by omega) (by omega) (by omega) rfl ⟨fun hz => (by first | omega | rfl), fun j hj => (by first | omega | (have e9 : j = Int32.toNatClampNeg (v0_10 - (1 : Int32)) := (by omega); subst e9; rfl))⟩))
  · skip
    have e5 : (0 : Int32).toInt = 0 := rfl
    have c1' := c1
    rw [Int32.le_iff_toInt_le] at c1'
    try have e6 := @y_subL v0_10 (1 : Int32) (1) rfl (by omega) (by omega)
    refine y_gd (y_gdI (by omega) (by omega)) ?_
    refine y_gd (y_gdI (by omega) (by omega)) ?_
    refine y_gd (y_gdI (by omega) (by omega)) ?_
    refine y_gd (y_gdI (by omega) (by omega)) ?_
    refine y_gd (y_gdI (by omega) (by omega)) ?_
    refine y_gd (y_gdI (by omega) (by omega)) ?_
    try have e7 := @y_addL v0_10 (1 : Int32) (1) rfl (by omega) (by omega)
    try have e8 := @y_cl v0_10 (by omega)
    try have e9 := @y_cl (v0_10 - (1 : Int32)) (by omega)
    refine y_some ?_
    try dsimp only
    refine ⟨?_, ?_, ?_⟩ <;> (first | with_reducible assumption | omega | ((with_reducible refine y_Vl ?_ ?_) <;> omega) | (unfold y_Ty; omega) | (exact Or.inl (by omega)) | (exact Or.inr (by (unfold y_Ty; omega))) | (unfold y_Rs y_Ty; omega) | (exact y_AIn_put hI hin) | (refine y_SB_put hSB (by omega) (by omega) (by omega) rfl ⟨fun hz => (by first | omega | rfl), fun j hj => (by first | omega | (have e9 : j = Int32.toNatClampNeg (v0_10 - (1 : Int32)) := (by omega); subst e9; rfl))⟩))
set_option maxHeartbeats 4000000 in
theorem y_X8_put {v7_2 : Int32} {v4_2 : Int32} {v4_8 : Int32} {v0_10 : Int32} {g0_7 : Nat → Int32} {g0_8 : Nat → Int32} {g0_9 : Nat → Int32} {g0_12 : Nat → Int32} {g0_13 : Nat → Int32} {p1 : Int32} {p2 : Int32} {p3 : Int32} {n0_11 : Nat} (k0 : 4 ≤ v7_2.toInt) (k1 : v7_2.toInt ≤ 200) (k2 : 0 ≤ v4_2.toInt) (k3 : v4_2.toInt ≤ 100) (k4 : 0 ≤ v4_8.toInt) (k5 : v4_8.toInt ≤ 100) (k6 : 0 ≤ v0_10.toInt) (k7 : v0_10.toInt ≤ 1000) (hSB : y_SB v0_10.toInt n0_11 g0_12 g0_13 g0_7) (hI : y_AIn g0_7 g0_8 g0_9) : y_Ok (f_X8_put v7_2 v4_2 v4_8 v0_10 g0_7 g0_8 g0_9 g0_12 g0_13 p1 p2 p3) (fun r => (0 ≤ r.2.2.1.toInt) ∧ (r.2.2.1.toInt ≤ 1000) ∧ (y_AIn r.2.2.2.1 r.2.2.2.2.1 r.2.2.2.2.2.1) ∧ (y_SB r.2.2.1.toInt n0_11 r.2.2.2.2.2.2.1 r.2.2.2.2.2.2.2 r.2.2.2.1)) := by
  unfold f_X8_put
  refine y_bi (y_X8_isInstruction (by omega) (by omega) (by omega) (by omega) (by omega) (by omega)) (fun r_1 h_r_1 => ?_)
  obtain ⟨h0_r_1, h1_r_1⟩ := h_r_1
  refine y_if (fun c1 => ?_) (fun c1 => ?_)
  · skip
    have e2 : (0 : Int32).toInt = 0 := rfl
    have c1' := c1
    rw [← Int32.toInt_inj] at c1'
    have e3 : (1 : Int32).toInt = 1 := rfl
    refine y_some ?_
    try dsimp only
    refine ⟨?_, ?_, ?_, ?_⟩ <;> (first | with_reducible assumption | omega | ((with_reducible refine y_Vl ?_ ?_) <;> omega) | (unfold y_Ty; omega) | (exact Or.inl (by omega)) | (exact Or.inr (by (unfold y_Ty; omega))) | (unfold y_Rs y_Ty; omega) | (exact h1_r_1.resolve_left (by omega)))
  · skip
    have e4 : (0 : Int32).toInt = 0 := rfl
    have c1' := c1
    rw [← Int32.toInt_inj] at c1'
    refine y_if (fun c5 => ?_) (fun c5 => ?_)
    · skip
      have e6 : (1000 : Int32).toInt = 1000 := rfl
      have c5' := c5
      rw [Int32.lt_iff_toInt_lt] at c5'
      refine y_bi (y_X0_enter (n0_11 := n0_11) (by omega) (by omega) (by first | with_reducible assumption | omega | ((with_reducible refine y_Vl ?_ ?_) <;> omega) | (unfold y_Ty; omega) | (exact Or.inl (by omega)) | (exact Or.inr (by (unfold y_Ty; omega))) | (unfold y_Rs y_Ty; omega) | (exact h1_r_1.resolve_left (by omega))) (by first | with_reducible assumption | omega | ((with_reducible refine y_Vl ?_ ?_) <;> omega) | (unfold y_Ty; omega) | (exact Or.inl (by omega)) | (exact Or.inr (by (unfold y_Ty; omega))) | (unfold y_Rs y_Ty; omega) | (exact h1_r_1.resolve_left (by omega))) (by first | with_reducible assumption | omega | ((with_reducible refine y_Vl ?_ ?_) <;> omega) | (unfold y_Ty; omega) | (exact Or.inl (by omega)) | (exact Or.inr (by (unfold y_Ty; omega))) | (unfold y_Rs y_Ty; omega) | (exact h1_r_1.resolve_left (by omega)))) (fun r_4 h_r_4 => ?_)
      obtain ⟨h0_r_4, h1_r_4, h2_r_4⟩ := h_r_4
      refine y_some ?_
      try dsimp only
      refine ⟨?_, ?_, ?_, ?_⟩ <;> (first | with_reducible assumption | omega | ((with_reducible refine y_Vl ?_ ?_) <;> omega) | (unfold y_Ty; omega) | (exact Or.inl (by omega)) | (exact Or.inr (by (unfold y_Ty; omega))) | (unfold y_Rs y_Ty; omega) | (exact h1_r_1.resolve_left (by omega)))
    · skip
      have e7 : (1000 : Int32).toInt = 1000 := rfl
      have c5' := c5
      rw [Int32.lt_iff_toInt_lt] at c5'
      have e8 : (2 : Int32).toInt = 2 := rfl
      refine y_some ?_
      try dsimp only
      refine ⟨?_, ?_, ?_, ?_⟩ <;> (first | with_reducible assumption | omega | ((with_reducible refine y_Vl ?_ ?_) <;> omega) | (unfold y_Ty; omega) | (exact Or.inl (by omega)) | (exact Or.inr (by (unfold y_Ty; omega))) | (unfold y_Rs y_Ty; omega) | (exact h1_r_1.resolve_left (by omega)))
set_option maxHeartbeats 4000000 in
theorem y_X0_canSwitchToMore {v0_10 : Int32} {g0_7 : Nat → Int32} {g0_12 : Nat → Int32} {g0_13 : Nat → Int32} {n0_11 : Nat} (k0 : 0 ≤ v0_10.toInt) (k1 : v0_10.toInt ≤ 1000) (hSB : y_SB v0_10.toInt n0_11 g0_12 g0_13 g0_7) : y_Ok (f_X0_canSwitchToMore v0_10 g0_7 g0_12 g0_13) (fun r => (r.toInt = 0 ∨ (r.toInt = 1 ∧ (1 ≤ v0_10.toInt ∧ (g0_13 (Int32.toNatClampNeg (v0_10 - (1 : Int32)))).toInt < (g0_12 (Int32.toNatClampNeg (v0_10 - (1 : Int32)))).toInt + 50 ∧ ((g0_7 (Int32.toNatClampNeg (v0_10 - (1 : Int32)))).toInt = 170 ∨ (g0_7 (Int32.toNatClampNeg (v0_10 - (1 : Int32)))).toInt = 171))))) := by
  have hs1 := @y_subL v0_10 1 1 rfl (by omega) (by omega)
  unfold f_X0_canSwitchToMore
  refine y_if (fun c1 => ?_) (fun c1 => ?_)
  · skip
    try have e2 := @y_subL v0_10 (1 : Int32) (1) rfl (by omega) (by omega)
    have e3 : (0 : Int32).toInt = 0 := rfl
    have c1' := c1
    rw [Int32.lt_iff_toInt_lt] at c1'
    refine y_some ?_
    try dsimp only
    (first | with_reducible assumption | omega | ((with_reducible refine y_Vl ?_ ?_) <;> omega) | (unfold y_Ty; omega) | (exact Or.inl (by omega)) | (exact Or.inr (by (unfold y_Ty; omega))) | (unfold y_Rs y_Ty; omega) | (exact Or.inr ⟨by omega, by omega, by omega, by omega⟩))
  · skip
    try have e4 := @y_subL v0_10 (1 : Int32) (1) rfl (by omega) (by omega)
    have e5 : (0 : Int32).toInt = 0 := rfl
    have c1' := c1
    rw [Int32.lt_iff_toInt_lt] at c1'
    have hc1 := @y_cl (v0_10 - (1 : Int32)) (by omega)
    have hsb := hSB.at (Int32.toNatClampNeg (v0_10 - (1 : Int32))) (by omega)
    refine y_gd (y_gdI (by omega) (by omega)) ?_
    try have e6 := @y_cl (v0_10 - (1 : Int32)) (by omega)
    refine y_bi (y_X0_isSwitch) (fun r_3 h_r_3 => ?_)
    have h0_r_3 : (r_3.toInt = 0 ∧ ¬ ((g0_7 (Int32.toNatClampNeg (v0_10 - (1 : Int32)))).toInt = 170 ∨ (g0_7 (Int32.toNatClampNeg (v0_10 - (1 : Int32)))).toInt = 171)) ∨ (r_3.toInt = 1 ∧ ((g0_7 (Int32.toNatClampNeg (v0_10 - (1 : Int32)))).toInt = 170 ∨ (g0_7 (Int32.toNatClampNeg (v0_10 - (1 : Int32)))).toInt = 171)) := h_r_3
    refine y_if (fun c7 => ?_) (fun c7 => ?_)
    · skip
      have c7' := c7
      rw [← Int32.toInt_inj] at c7'
      have e8 := y_or0 h0_r_3 c7'
      clear h0_r_3
      refine y_some ?_
      try dsimp only
      (first | with_reducible assumption | omega | ((with_reducible refine y_Vl ?_ ?_) <;> omega) | (unfold y_Ty; omega) | (exact Or.inl (by omega)) | (exact Or.inr (by (unfold y_Ty; omega))) | (unfold y_Rs y_Ty; omega) | (exact Or.inr ⟨by omega, by omega, by omega, by omega⟩))
    · skip
      have c7' := c7
      rw [← Int32.toInt_inj] at c7'
      have e9 := y_or1 h0_r_3 c7'
      clear h0_r_3
      refine y_gd (y_gdI (by omega) (by omega)) ?_
      refine y_gd (y_gdI (by omega) (by omega)) ?_
      refine y_if (fun c10 => ?_) (fun c10 => ?_)
      · skip
        have e11 : (50 : Int32).toInt = 50 := rfl
        try have e12 := @y_sub (g0_13 (Int32.toNatClampNeg (v0_10 - (1 : Int32)))) (g0_12 (Int32.toNatClampNeg (v0_10 - (1 : Int32)))) (by omega) (by omega)
        have c10' := c10
        rw [Int32.le_iff_toInt_le] at c10'
        refine y_some ?_
        try dsimp only
        (first | with_reducible assumption | omega | ((with_reducible refine y_Vl ?_ ?_) <;> omega) | (unfold y_Ty; omega) | (exact Or.inl (by omega)) | (exact Or.inr (by (unfold y_Ty; omega))) | (unfold y_Rs y_Ty; omega) | (exact Or.inr ⟨by omega, by omega, by omega, by omega⟩))
      · skip
        have e13 : (50 : Int32).toInt = 50 := rfl
        try have e14 := @y_sub (g0_13 (Int32.toNatClampNeg (v0_10 - (1 : Int32)))) (g0_12 (Int32.toNatClampNeg (v0_10 - (1 : Int32)))) (by omega) (by omega)
        have c10' := c10
        rw [Int32.le_iff_toInt_le] at c10'
        have e15 : (1 : Int32).toInt = 1 := rfl
        refine y_some ?_
        try dsimp only
        (first | with_reducible assumption | omega | ((with_reducible refine y_Vl ?_ ?_) <;> omega) | (unfold y_Ty; omega) | (exact Or.inl (by omega)) | (exact Or.inr (by (unfold y_Ty; omega))) | (unfold y_Rs y_Ty; omega) | (exact Or.inr ⟨by omega, by omega, by omega, by omega⟩))
set_option maxHeartbeats 4000000 in
theorem y_X0_switchToMore {v0_10 : Int32} {g0_11 : Nat → Int32} {n0_11 : Nat} {g0_12 : Nat → Int32} {g0_13 : Nat → Int32} {p1 : Int32} {g0_7 : Nat → Int32} (k0 : 1 ≤ v0_10.toInt) (k1 : v0_10.toInt ≤ 1000) (k2 : 64 ≤ n0_11) (k3 : n0_11 ≤ 131072) (hSB : y_SB v0_10.toInt n0_11 g0_12 g0_13 g0_7) (hTO : y_Rg n0_11 0 2147483647 g0_11) (hcan : (g0_13 (Int32.toNatClampNeg (v0_10 - (1 : Int32)))).toInt < (g0_12 (Int32.toNatClampNeg (v0_10 - (1 : Int32)))).toInt + 50 ∧ ((g0_7 (Int32.toNatClampNeg (v0_10 - (1 : Int32)))).toInt = 170 ∨ (g0_7 (Int32.toNatClampNeg (v0_10 - (1 : Int32)))).toInt = 171)) (k7 : 0 ≤ p1.toInt) : y_Ok (f_X0_switchToMore v0_10 g0_11 n0_11 g0_12 g0_13 p1) (fun r => (y_SB v0_10.toInt r.2.2.1 g0_12 r.2.2.2.1 g0_7) ∧ (y_Rg r.2.2.1 0 2147483647 r.2.1) ∧ (n0_11 ≤ r.2.2.1) ∧ (r.2.2.1 ≤ 131072) ∧ (r.2.2.2.2.1 ≤ 1) ∧ (r.2.2.2.2.2 + 2 * n0_11 ≤ 2 * r.2.2.1)) := by
  have hs1 := @y_subL v0_10 1 1 rfl (by omega) (by omega)
  have hc1 := @y_cl (v0_10 - (1 : Int32)) (by omega)
  have hsb := hSB.at (Int32.toNatClampNeg (v0_10 - (1 : Int32))) (by omega)
  have hp1 := p1.toInt_lt
  have hon := @y_ofNat n0_11 (by omega)
  have hcn := @y_cl (Int32.ofNat n0_11) (by omega)
  unfold f_X0_switchToMore
  try have e1 := @y_subL v0_10 (1 : Int32) (1) rfl (by omega) (by omega)
  refine y_gd (y_gdI (by omega) (by omega)) ?_
  refine y_if (fun c2 => ?_) (fun c2 => ?_)
  · skip
    try have e3 := @y_cl (v0_10 - (1 : Int32)) (by omega)
    try have e4 := @y_ofNat n0_11 (by omega)
    have c2' := c2
    rw [Int32.lt_iff_toInt_lt] at c2'
    refine y_gd (y_gdI (by omega) (by omega)) ?_
    refine y_gd (y_gdI (by omega) (by omega)) ?_
    refine y_gd (y_gdI (by omega) (by omega)) ?_
    try have e5 := @y_addL (g0_13 (Int32.toNatClampNeg (v0_10 - (1 : Int32)))) (1 : Int32) (1) rfl (by omega) (by omega)
    try have e6 := @y_sub ((g0_13 (Int32.toNatClampNeg (v0_10 - (1 : Int32)))) + (1 : Int32)) (g0_12 (Int32.toNatClampNeg (v0_10 - (1 : Int32)))) (by omega) (by omega)
    try have e7 := @y_cl (g0_13 (Int32.toNatClampNeg (v0_10 - (1 : Int32)))) (by omega)
    try have e8 : y_Rg n0_11 0 2147483647 (upd g0_11 (Int32.toNatClampNeg (g0_13 (Int32.toNatClampNeg (v0_10 - (1 : Int32))))) p1) := y_Rg_upd hTO (by omega) (by omega)
    have e9 : (0 : Int32).toInt = 0 := rfl
    refine y_some ?_
    try dsimp only
    refine ⟨?_, ?_, ?_, ?_, ?_, ?_⟩ <;> (first | with_reducible assumption | omega | ((with_reducible refine y_Vl ?_ ?_) <;> omega) | (unfold y_Ty; omega) | (exact Or.inl (by omega)) | (exact Or.inr (by (unfold y_Ty; omega))) | (unfold y_Rs y_Ty; omega) | (exact hTO) | (refine y_SB_to hSB (by omega) (by omega) (by omega) (by omega) (by omega) hcan.2) | ((refine y_Rg_upd (y_Rg_cpy (fun k h1 h2 => hTO k (by rw [y_tn0] at h2; omega)) (fun k hk => ⟨(by show (0 : Int) ≤ Int32.toInt 0; decide), (by show Int32.toInt 0 ≤ (2147483647 : Int); decide)⟩)) ?_ ?_) <;> omega))
  · skip
    try have e10 := @y_cl (v0_10 - (1 : Int32)) (by omega)
    try have e11 := @y_ofNat n0_11 (by omega)
    have c2' := c2
    rw [Int32.lt_iff_toInt_lt] at c2'
    have e12 : (2 : Int32).toInt = 2 := rfl
    try have e13 := @y_mulL (2 : Int32) (Int32.ofNat n0_11) 2 rfl (by omega) (by omega)
    refine y_gd (y_ngI (by omega) (by omega) (by omega)) ?_
    refine y_bt ?_
    try have e14 := @y_cl ((2 : Int32) * (Int32.ofNat n0_11)) (by omega)
    refine y_gd (y_gdI (by omega) (by omega)) ?_
    refine y_gd (y_gdI (by omega) (by omega)) ?_
    refine y_gd (y_gdI (by omega) (by omega)) ?_
    refine y_some ?_
    try dsimp only
    try have e15 := @y_addL (g0_13 (Int32.toNatClampNeg (v0_10 - (1 : Int32)))) (1 : Int32) (1) rfl (by omega) (by omega)
    try have e16 := @y_sub ((g0_13 (Int32.toNatClampNeg (v0_10 - (1 : Int32)))) + (1 : Int32)) (g0_12 (Int32.toNatClampNeg (v0_10 - (1 : Int32)))) (by omega) (by omega)
    try have e17 := @y_cl (g0_13 (Int32.toNatClampNeg (v0_10 - (1 : Int32)))) (by omega)
    have e18 : (0 : Int32).toInt = 0 := rfl
    try have e19 := @y_addL (0 : Int32) (1 : Int32) (1) rfl (by omega) (by omega)
    try have e20 := @y_add (0 : Int32) (Int32.toNatClampNeg ((2 : Int32) * (Int32.ofNat n0_11))) (by omega) (by omega)
    refine y_some ?_
    try dsimp only
    refine ⟨?_, ?_, ?_, ?_, ?_, ?_⟩ <;> (first | with_reducible assumption | omega | ((with_reducible refine y_Vl ?_ ?_) <;> omega) | (unfold y_Ty; omega) | (exact Or.inl (by omega)) | (exact Or.inr (by (unfold y_Ty; omega))) | (unfold y_Rs y_Ty; omega) | (exact hTO) | (refine y_SB_to hSB (by omega) (by omega) (by omega) (by omega) (by omega) hcan.2) | ((refine y_Rg_upd (y_Rg_cpy (fun k h1 h2 => hTO k (by rw [y_tn0] at h2; omega)) (fun k hk => ⟨(by show (0 : Int) ≤ Int32.toInt 0; decide), (by show Int32.toInt 0 ≤ (2147483647 : Int); decide)⟩)) ?_ ?_) <;> omega))
set_option maxHeartbeats 4000000 in
theorem y_X8_to {v0_10 : Int32} {g0_7 : Nat → Int32} {g0_11 : Nat → Int32} {n0_11 : Nat} {g0_12 : Nat → Int32} {g0_13 : Nat → Int32} {p1 : Int32} (k0 : 0 ≤ v0_10.toInt) (k1 : v0_10.toInt ≤ 1000) (k2 : 64 ≤ n0_11) (k3 : n0_11 ≤ 131072) (hSB : y_SB v0_10.toInt n0_11 g0_12 g0_13 g0_7) (hTO : y_Rg n0_11 0 2147483647 g0_11) : y_Ok (f_X8_to v0_10 g0_7 g0_11 n0_11 g0_12 g0_13 p1) (fun r => (y_SB v0_10.toInt r.2.2.2.1 g0_12 r.2.2.2.2.1 g0_7) ∧ (y_Rg r.2.2.2.1 0 2147483647 r.2.2.1) ∧ (n0_11 ≤ r.2.2.2.1) ∧ (r.2.2.2.1 ≤ 131072) ∧ (r.2.2.2.2.2.1 ≤ 1) ∧ (r.2.2.2.2.2.2 + 2 * n0_11 ≤ 2 * r.2.2.2.1 + 6)) := by
  unfold f_X8_to
  refine y_if (fun c1 => ?_) (fun c1 => ?_)
  · skip
    have e2 : (0 : Int32).toInt = 0 := rfl
    have c1' := c1
    rw [Int32.le_iff_toInt_le] at c1'
    refine y_bi (y_X0_canSwitchToMore (n0_11 := n0_11) (by omega) (by omega) (by first | with_reducible assumption | omega | ((with_reducible refine y_Vl ?_ ?_) <;> omega) | (unfold y_Ty; omega) | (exact Or.inl (by omega)) | (exact Or.inr (by (unfold y_Ty; omega))) | (unfold y_Rs y_Ty; omega) | (exact (h0_r_2.resolve_left (by omega)).2.2))) (fun r_2 h_r_2 => ?_)
    have h0_r_2 : r_2.toInt = 0 ∨ (r_2.toInt = 1 ∧ (1 ≤ v0_10.toInt ∧ (g0_13 (Int32.toNatClampNeg (v0_10 - (1 : Int32)))).toInt < (g0_12 (Int32.toNatClampNeg (v0_10 - (1 : Int32)))).toInt + 50 ∧ ((g0_7 (Int32.toNatClampNeg (v0_10 - (1 : Int32)))).toInt = 170 ∨ (g0_7 (Int32.toNatClampNeg (v0_10 - (1 : Int32)))).toInt = 171))) := h_r_2
    refine y_if (fun c3 => ?_) (fun c3 => ?_)
    · skip
      have c3' := c3
      rw [← Int32.toInt_inj] at c3'
      have e4 : (2 : Int32).toInt = 2 := rfl
      have e5 : (1 : Int32).toInt = 1 := rfl
      have e6 : (6 : Int32).toInt = 6 := rfl
      refine y_some ?_
      try dsimp only
      refine ⟨?_, ?_, ?_, ?_, ?_, ?_⟩ <;> (first | with_reducible assumption | omega | ((with_reducible refine y_Vl ?_ ?_) <;> omega) | (unfold y_Ty; omega) | (exact Or.inl (by omega)) | (exact Or.inr (by (unfold y_Ty; omega))) | (unfold y_Rs y_Ty; omega) | (exact (h0_r_2.resolve_left (by omega)).2.2))
    · skip
      have c3' := c3
      rw [← Int32.toInt_inj] at c3'
      have hcn := (h0_r_2.resolve_left (by omega)).2.1
      refine y_bi (y_X0_switchToMore (g0_7 := g0_7) (by omega) (by omega) (by omega) (by omega) (by first | with_reducible assumption | omega | ((with_reducible refine y_Vl ?_ ?_) <;> omega) | (unfold y_Ty; omega) | (exact Or.inl (by omega)) | (exact Or.inr (by (unfold y_Ty; omega))) | (unfold y_Rs y_Ty; omega) | (exact (h0_r_2.resolve_left (by omega)).2.2)) (by first | with_reducible assumption | omega | ((with_reducible refine y_Vl ?_ ?_) <;> omega) | (unfold y_Ty; omega) | (exact Or.inl (by omega)) | (exact Or.inr (by (unfold y_Ty; omega))) | (unfold y_Rs y_Ty; omega) | (exact (h0_r_2.resolve_left (by omega)).2.2)) (by omega) (by omega)) (fun r_4 h_r_4 => ?_)
      obtain ⟨h0_r_4, h1_r_4, h2_r_4, h3_r_4, h4_r_4, h5_r_4⟩ := h_r_4
      refine y_bt ?_
      refine y_some ?_
      try dsimp only
      try have e7 := @y_add (0 : Int32) r_4.2.2.2.2.1 (by omega) (by omega)
      try have e8 := @y_add (0 : Int32) r_4.2.2.2.2.2 (by omega) (by omega)
      refine y_some ?_
      try dsimp only
      refine ⟨?_, ?_, ?_, ?_, ?_, ?_⟩ <;> (first | with_reducible assumption | omega | ((with_reducible refine y_Vl ?_ ?_) <;> omega) | (unfold y_Ty; omega) | (exact Or.inl (by omega)) | (exact Or.inr (by (unfold y_Ty; omega))) | (unfold y_Rs y_Ty; omega) | (exact (h0_r_2.resolve_left (by omega)).2.2))
  · skip
    have e9 : (0 : Int32).toInt = 0 := rfl
    have c1' := c1
    rw [Int32.le_iff_toInt_le] at c1'
    have e10 : (1 : Int32).toInt = 1 := rfl
    have e11 : (6 : Int32).toInt = 6 := rfl
    refine y_some ?_
    try dsimp only
    refine ⟨?_, ?_, ?_, ?_, ?_, ?_⟩ <;> (first | with_reducible assumption | omega | ((with_reducible refine y_Vl ?_ ?_) <;> omega) | (unfold y_Ty; omega) | (exact Or.inl (by omega)) | (exact Or.inr (by (unfold y_Ty; omega))) | (unfold y_Rs y_Ty; omega) | (exact (h0_r_2.resolve_left (by omega)).2.2))
set_option maxHeartbeats 4000000 in
theorem y_X0_enterRow {v0_15 : Int32} {g0_14 : Nat → Int32} {p1 : Int32} {p2 : Int32} {p3 : Int32} {p4 : Int32} (k0 : 0 ≤ v0_15.toInt) (k1 : v0_15.toInt < 50) (hRW : y_RW v0_15.toInt g0_14) (k3 : 0 ≤ p3.toInt) (h4t : -1 ≤ p4.toInt ∧ p4.toInt ≤ 199) : y_Ok (f_X0_enterRow v0_15 g0_14 p1 p2 p3 p4) (fun r => (r.2.1.toInt = v0_15.toInt + 1) ∧ (y_RW r.2.1.toInt r.2.2)) := by
  have h4a := @y_mulL (4 : Int32) v0_15 4 rfl (by omega) (by omega)
  have hv15 := @y_cl v0_15 (by omega)
  have h41 := @y_addL ((4 : Int32) * v0_15) 1 1 rfl (by omega) (by omega)
  have h42 := @y_addL ((4 : Int32) * v0_15) 2 2 rfl (by omega) (by omega)
  have h43 := @y_addL ((4 : Int32) * v0_15) 3 3 rfl (by omega) (by omega)
  have h4c := @y_cl ((4 : Int32) * v0_15) (by omega)
  have h4c1 := @y_cl (((4 : Int32) * v0_15) + (1 : Int32)) (by omega)
  have h4c2 := @y_cl (((4 : Int32) * v0_15) + (2 : Int32)) (by omega)
  have h4c3 := @y_cl (((4 : Int32) * v0_15) + (3 : Int32)) (by omega)
  unfold f_X0_enterRow
  have e1 : (4 : Int32).toInt = 4 := rfl
  try have e2 := @y_mulL (4 : Int32) v0_15 4 rfl (by omega) (by omega)
  refine y_gd (y_gdI (by omega) (by omega)) ?_
  try have e3 := @y_addL ((4 : Int32) * v0_15) (1 : Int32) (1) rfl (by omega) (by omega)
  refine y_gd (y_gdI (by omega) (by omega)) ?_
  try have e4 := @y_addL ((4 : Int32) * v0_15) (2 : Int32) (2) rfl (by omega) (by omega)
  refine y_gd (y_gdI (by omega) (by omega)) ?_
  try have e5 := @y_addL ((4 : Int32) * v0_15) (3 : Int32) (3) rfl (by omega) (by omega)
  refine y_gd (y_gdI (by omega) (by omega)) ?_
  try have e6 := @y_addL v0_15 (1 : Int32) (1) rfl (by omega) (by omega)
  try have e7 := @y_cl ((4 : Int32) * v0_15) (by omega)
  try have e8 := @y_cl (((4 : Int32) * v0_15) + (1 : Int32)) (by omega)
  try have e9 := @y_cl (((4 : Int32) * v0_15) + (2 : Int32)) (by omega)
  try have e10 := @y_cl (((4 : Int32) * v0_15) + (3 : Int32)) (by omega)
  refine y_some ?_
  try dsimp only
  refine ⟨?_, ?_⟩ <;> (first | with_reducible assumption | omega | ((with_reducible refine y_Vl ?_ ?_) <;> omega) | (unfold y_Ty; omega) | (exact Or.inl (by omega)) | (exact Or.inr (by (unfold y_Ty; omega))) | (unfold y_Rs y_Ty; omega) | (refine y_RW_put (k := Int32.toNatClampNeg v0_15) hRW (by omega) (by omega) (by omega) (by omega) (by omega) (by omega) (by omega) h4t))
set_option maxHeartbeats 4000000 in
theorem y_X8_row {v7_2 : Int32} {v0_15 : Int32} {g0_14 : Nat → Int32} {p1 : Int32} {p2 : Int32} {p3 : Int32} {p4 : Int32} (k0 : 4 ≤ v7_2.toInt) (k1 : v7_2.toInt ≤ 200) (k2 : 0 ≤ v0_15.toInt) (k3 : v0_15.toInt ≤ 50) (hRW : y_RW v0_15.toInt g0_14) : y_Ok (f_X8_row v7_2 v0_15 g0_14 p1 p2 p3 p4) (fun r => (0 ≤ r.2.2.1.toInt) ∧ (r.2.2.1.toInt ≤ 50) ∧ (y_RW r.2.2.1.toInt r.2.2.2)) := by
  unfold f_X8_row
  refine y_if (fun c1 => ?_) (fun c1 => ?_)
  · skip
    have e2 : (0 : Int32).toInt = 0 := rfl
    have c1' := c1
    rw [Int32.lt_iff_toInt_lt] at c1'
    have e3 : (1 : Int32).toInt = 1 := rfl
    refine y_some ?_
    try dsimp only
    refine ⟨?_, ?_, ?_⟩ <;> (first | with_reducible assumption | omega | ((with_reducible refine y_Vl ?_ ?_) <;> omega) | (unfold y_Ty; omega) | (exact Or.inl (by omega)) | (exact Or.inr (by (unfold y_Ty; omega))) | (unfold y_Rs y_Ty; omega))
  · skip
    have e4 : (0 : Int32).toInt = 0 := rfl
    have c1' := c1
    rw [Int32.lt_iff_toInt_lt] at c1'
    refine y_if (fun c5 => ?_) (fun c5 => ?_)
    · skip
      have c5' := c5
      rw [Int32.lt_iff_toInt_lt] at c5'
      have e6 : (1 : Int32).toInt = 1 := rfl
      refine y_some ?_
      try dsimp only
      refine ⟨?_, ?_, ?_⟩ <;> (first | with_reducible assumption | omega | ((with_reducible refine y_Vl ?_ ?_) <;> omega) | (unfold y_Ty; omega) | (exact Or.inl (by omega)) | (exact Or.inr (by (unfold y_Ty; omega))) | (unfold y_Rs y_Ty; omega))
    · skip
      have c5' := c5
      rw [Int32.lt_iff_toInt_lt] at c5'
      refine y_if (fun c7 => ?_) (fun c7 => ?_)
      · skip
        have c7' := c7
        rw [Int32.lt_iff_toInt_lt] at c7'
        have e8 : (1 : Int32).toInt = 1 := rfl
        refine y_some ?_
        try dsimp only
        refine ⟨?_, ?_, ?_⟩ <;> (first | with_reducible assumption | omega | ((with_reducible refine y_Vl ?_ ?_) <;> omega) | (unfold y_Ty; omega) | (exact Or.inl (by omega)) | (exact Or.inr (by (unfold y_Ty; omega))) | (unfold y_Rs y_Ty; omega))
      · skip
        have c7' := c7
        rw [Int32.lt_iff_toInt_lt] at c7'
        refine y_if (fun c9 => ?_) (fun c9 => ?_)
        · skip
          have c9' : p4.toInt = -1 := (y_eqN rfl).mp c9
          refine y_if (fun c10 => ?_) (fun c10 => ?_)
          · skip
            have e11 : (50 : Int32).toInt = 50 := rfl
            have c10' := c10
            rw [Int32.lt_iff_toInt_lt] at c10'
            refine y_bi (y_X0_enterRow (by omega) (by omega) (by first | with_reducible assumption | omega | ((with_reducible refine y_Vl ?_ ?_) <;> omega) | (unfold y_Ty; omega) | (exact Or.inl (by omega)) | (exact Or.inr (by (unfold y_Ty; omega))) | (unfold y_Rs y_Ty; omega)) (by omega) (by omega)) (fun r_6 h_r_6 => ?_)
            obtain ⟨h0_r_6, h1_r_6⟩ := h_r_6
            refine y_some ?_
            try dsimp only
            refine ⟨?_, ?_, ?_⟩ <;> (first | with_reducible assumption | omega | ((with_reducible refine y_Vl ?_ ?_) <;> omega) | (unfold y_Ty; omega) | (exact Or.inl (by omega)) | (exact Or.inr (by (unfold y_Ty; omega))) | (unfold y_Rs y_Ty; omega))
          · skip
            have e12 : (50 : Int32).toInt = 50 := rfl
            have c10' := c10
            rw [Int32.lt_iff_toInt_lt] at c10'
            have e13 : (2 : Int32).toInt = 2 := rfl
            refine y_some ?_
            try dsimp only
            refine ⟨?_, ?_, ?_⟩ <;> (first | with_reducible assumption | omega | ((with_reducible refine y_Vl ?_ ?_) <;> omega) | (unfold y_Ty; omega) | (exact Or.inl (by omega)) | (exact Or.inr (by (unfold y_Ty; omega))) | (unfold y_Rs y_Ty; omega))
        · skip
          have c9' : ¬ p4.toInt = -1 := fun hz => c9 ((y_eqN rfl).mpr hz)
          refine y_bi (y_X7_isClass) (fun r_7 h_r_7 => ?_)
          have h0_r_7 : (r_7.toInt = 0 ∧ ¬ (0 ≤ p4.toInt ∧ p4.toInt < v7_2.toInt)) ∨ (r_7.toInt = 1 ∧ (0 ≤ p4.toInt ∧ p4.toInt < v7_2.toInt)) := h_r_7
          refine y_if (fun c14 => ?_) (fun c14 => ?_)
          · skip
            have c14' := c14
            rw [← Int32.toInt_inj] at c14'
            have e15 := y_or0 h0_r_7 c14'
            clear h0_r_7
            have e16 : (1 : Int32).toInt = 1 := rfl
            refine y_some ?_
            try dsimp only
            refine ⟨?_, ?_, ?_⟩ <;> (first | with_reducible assumption | omega | ((with_reducible refine y_Vl ?_ ?_) <;> omega) | (unfold y_Ty; omega) | (exact Or.inl (by omega)) | (exact Or.inr (by (unfold y_Ty; omega))) | (unfold y_Rs y_Ty; omega))
          · skip
            have c14' := c14
            rw [← Int32.toInt_inj] at c14'
            have e17 := y_or1 h0_r_7 c14'
            clear h0_r_7
            refine y_if (fun c18 => ?_) (fun c18 => ?_)
            · skip
              have e19 : (50 : Int32).toInt = 50 := rfl
              have c18' := c18
              rw [Int32.lt_iff_toInt_lt] at c18'
              refine y_bi (y_X0_enterRow (by omega) (by omega) (by first | with_reducible assumption | omega | ((with_reducible refine y_Vl ?_ ?_) <;> omega) | (unfold y_Ty; omega) | (exact Or.inl (by omega)) | (exact Or.inr (by (unfold y_Ty; omega))) | (unfold y_Rs y_Ty; omega)) (by omega) (by omega)) (fun r_10 h_r_10 => ?_)
              obtain ⟨h0_r_10, h1_r_10⟩ := h_r_10
              refine y_some ?_
              try dsimp only
              refine ⟨?_, ?_, ?_⟩ <;> (first | with_reducible assumption | omega | ((with_reducible refine y_Vl ?_ ?_) <;> omega) | (unfold y_Ty; omega) | (exact Or.inl (by omega)) | (exact Or.inr (by (unfold y_Ty; omega))) | (unfold y_Rs y_Ty; omega))
            · skip
              have e20 : (50 : Int32).toInt = 50 := rfl
              have c18' := c18
              rw [Int32.lt_iff_toInt_lt] at c18'
              have e21 : (2 : Int32).toInt = 2 := rfl
              refine y_some ?_
              try dsimp only
              refine ⟨?_, ?_, ?_⟩ <;> (first | with_reducible assumption | omega | ((with_reducible refine y_Vl ?_ ?_) <;> omega) | (unfold y_Ty; omega) | (exact Or.inl (by omega)) | (exact Or.inr (by (unfold y_Ty; omega))) | (unfold y_Rs y_Ty; omega))
set_option maxHeartbeats 4000000 in
theorem y_X8_context {g1_0 : Nat → Int32} {n1_0 : Nat} {g1_1 : Nat → Int32} {n1_1 : Nat} {g1_2 : Nat → Int32} {n1_2 : Nat} {v3_4 : Int32} {g3_7 : Nat → Int32} {n3_7 : Nat} {g3_15 : Nat → Int32} {n3_15 : Nat} {p1 : Int32} {p2 : Int32} {v1_5 : Int32} {n3_6 n1_3 n1_4 : Nat} (k0 : n1_1 = n1_0) (k1 : n1_2 = n1_0) (k2 : n1_3 = n1_0) (k3 : n1_4 = n1_0) (k4 : 16 ≤ n1_0) (k5 : n1_0 ≤ 40004) (k6 : 1 ≤ v1_5.toInt) (k7 : v1_5.toInt ≤ n1_0) (k8 : v1_5.toInt ≤ 20002) (hpar : y_P v1_5.toInt g1_0) (k10 : n3_7 = n3_6) (k11 : v3_4.toInt ≤ n3_6) (k12 : 0 ≤ v3_4.toInt) (k13 : v3_4.toInt ≤ 20000) (hwy : y_RI v3_4.toInt 0 (v1_5.toInt - 1) g3_7) (hord : y_RI v3_4.toInt 0 (v3_4.toInt - 1) g3_15) (k16 : v3_4.toInt ≤ n3_15) : y_Ok (f_X8_context g1_0 n1_0 g1_1 n1_1 g1_2 n1_2 v3_4 g3_7 n3_7 g3_15 n3_15 p1 p2) (fun r => (True)) := by
  unfold f_X8_context
  refine y_bi (y_X3_addressOf (v1_5 := v1_5) (n3_6 := n3_6) (n1_3 := n1_3) (n1_4 := n1_4) (by first | with_reducible assumption | omega | ((with_reducible refine y_Vl ?_ ?_) <;> omega)) (by first | with_reducible assumption | omega | ((with_reducible refine y_Vl ?_ ?_) <;> omega)) (by first | with_reducible assumption | omega | ((with_reducible refine y_Vl ?_ ?_) <;> omega)) (by first | with_reducible assumption | omega | ((with_reducible refine y_Vl ?_ ?_) <;> omega)) (by omega) (by omega) (by omega) (by omega) (by omega) (by first | with_reducible assumption | omega | ((with_reducible refine y_Vl ?_ ?_) <;> omega)) (by first | with_reducible assumption | omega | ((with_reducible refine y_Vl ?_ ?_) <;> omega)) (by omega) (by omega) (by omega) (by first | with_reducible assumption | omega | ((with_reducible refine y_Vl ?_ ?_) <;> omega)) (by first | with_reducible assumption | omega | ((with_reducible refine y_Vl ?_ ?_) <;> omega)) (by omega)) (fun r_1 h_r_1 => ?_)
  have h0_r_1 : True := h_r_1
  exact y_some trivial
set_option maxHeartbeats 4000000 in
theorem y_X8_told {v3_2 : Int32} {v3_3 : Int32} {v3_4 : Int32} {g3_5 : Nat → Int32} {n3_5 : Nat} {g3_8 : Nat → Int32} {n3_8 : Nat} {g3_15 : Nat → Int32} {n3_15 : Nat} {p1 : Int32} {p2 : Int32} {C n3_6 : Nat} (k0 : 0 ≤ v3_2.toInt) (k1 : v3_2.toInt ≤ v3_3.toInt) (k2 : v3_3.toInt ≤ 400) (hC : (C : Int) = v3_3.toInt) (hwd : y_Wd v3_4.toInt C n3_5) (hht : y_RI v3_4.toInt 0 (v3_3.toInt - v3_2.toInt) g3_8) (k6 : n3_8 = n3_6) (k7 : n3_5 ≤ 40000) (k8 : v3_4.toInt ≤ n3_6) (k9 : 0 ≤ v3_4.toInt) (k10 : v3_4.toInt ≤ 20000) (hord : y_RI v3_4.toInt 0 (v3_4.toInt - 1) g3_15) (k12 : v3_4.toInt ≤ n3_15) : y_Ok (f_X8_told v3_2 v3_3 v3_4 g3_5 n3_5 g3_8 n3_8 g3_15 n3_15 p1 p2) (fun r => (True)) := by
  unfold f_X8_told
  refine y_bi (y_X3_placeOf (C := C) (n3_6 := n3_6) (by omega) (by omega) (by omega) (by omega) (by first | with_reducible assumption | omega | ((with_reducible refine y_Vl ?_ ?_) <;> omega)) (by first | with_reducible assumption | omega | ((with_reducible refine y_Vl ?_ ?_) <;> omega)) (by first | with_reducible assumption | omega | ((with_reducible refine y_Vl ?_ ?_) <;> omega)) (by omega) (by omega) (by omega) (by omega) (by first | with_reducible assumption | omega | ((with_reducible refine y_Vl ?_ ?_) <;> omega)) (by omega)) (fun r_1 h_r_1 => ?_)
  have h0_r_1 : True := h_r_1
  exact y_some trivial
set_option maxHeartbeats 4000000 in
theorem y_X8_frame {g1_2 : Nat → Int32} {n1_2 : Nat} {v3_4 : Int32} {g3_6 : Nat → Int32} {n3_6 : Nat} {g3_7 : Nat → Int32} {n3_7 : Nat} {g3_8 : Nat → Int32} {n3_8 : Nat} {g3_9 : Nat → Int32} {n3_9 : Nat} {g3_15 : Nat → Int32} {n3_15 : Nat} {p1 : Int32} {p2 : Int32} {v1_5 : Int32} {n1_0 n1_1 n1_3 n1_4 : Nat} {g1_0 : Nat → Int32} (k0 : n1_1 = n1_0) (k1 : n1_2 = n1_0) (k2 : n1_3 = n1_0) (k3 : n1_4 = n1_0) (k4 : 16 ≤ n1_0) (k5 : n1_0 ≤ 40004) (k6 : 1 ≤ v1_5.toInt) (k7 : v1_5.toInt ≤ n1_0) (k8 : v1_5.toInt ≤ 20002) (hpar : y_P v1_5.toInt g1_0) (k10 : n3_7 = n3_6) (k11 : v3_4.toInt ≤ n3_6) (k12 : 0 ≤ v3_4.toInt) (k13 : v3_4.toInt ≤ 20000) (k14 : n3_8 = n3_6) (k15 : n3_9 = n3_6) (hwy : y_RI v3_4.toInt 0 (v1_5.toInt - 1) g3_7) (hord : y_RI v3_4.toInt 0 (v3_4.toInt - 1) g3_15) (k18 : v3_4.toInt ≤ n3_15) : y_Ok (f_X8_frame g1_2 n1_2 v3_4 g3_6 n3_6 g3_7 n3_7 g3_8 n3_8 g3_9 n3_9 g3_15 n3_15 p1 p2) (fun r => (True)) := by
  unfold f_X8_frame
  refine y_if (fun c1 => ?_) (fun c1 => ?_)
  · skip
    have e2 : (0 : Int32).toInt = 0 := rfl
    have c1' := c1
    rw [Int32.lt_iff_toInt_lt] at c1'
    have e3 : (1 : Int32).toInt = 1 := rfl
    exact y_some trivial
  · skip
    have e4 : (0 : Int32).toInt = 0 := rfl
    have c1' := c1
    rw [Int32.lt_iff_toInt_lt] at c1'
    refine y_if (fun c5 => ?_) (fun c5 => ?_)
    · skip
      have e6 : (3 : Int32).toInt = 3 := rfl
      have c5' := c5
      rw [Int32.le_iff_toInt_le] at c5'
      refine y_bi (y_X3_factOf (v1_5 := v1_5) (n1_0 := n1_0) (n1_1 := n1_1) (n1_3 := n1_3) (n1_4 := n1_4) (g1_0 := g1_0) (by first | with_reducible assumption | omega | ((with_reducible refine y_Vl ?_ ?_) <;> omega)) (by first | with_reducible assumption | omega | ((with_reducible refine y_Vl ?_ ?_) <;> omega)) (by first | with_reducible assumption | omega | ((with_reducible refine y_Vl ?_ ?_) <;> omega)) (by first | with_reducible assumption | omega | ((with_reducible refine y_Vl ?_ ?_) <;> omega)) (by omega) (by omega) (by omega) (by omega) (by omega) (by first | with_reducible assumption | omega | ((with_reducible refine y_Vl ?_ ?_) <;> omega)) (by first | with_reducible assumption | omega | ((with_reducible refine y_Vl ?_ ?_) <;> omega)) (by omega) (by omega) (by omega) (by first | with_reducible assumption | omega | ((with_reducible refine y_Vl ?_ ?_) <;> omega)) (by first | with_reducible assumption | omega | ((with_reducible refine y_Vl ?_ ?_) <;> omega)) (by first | with_reducible assumption | omega | ((with_reducible refine y_Vl ?_ ?_) <;> omega)) (by first | with_reducible assumption | omega | ((with_reducible refine y_Vl ?_ ?_) <;> omega)) (by omega)) (fun r_3 h_r_3 => ?_)
      have h0_r_3 : True := h_r_3
      exact y_some trivial
    · skip
      have e7 : (3 : Int32).toInt = 3 := rfl
      have c5' := c5
      rw [Int32.le_iff_toInt_le] at c5'
      have e8 : (1 : Int32).toInt = 1 := rfl
      exact y_some trivial
set_option maxHeartbeats 4000000 in
theorem y_X8_digest_L_2_i {g1_2 : Nat → Int32} {n1_2 : Nat} {v3_2 : Int32} {v3_3 : Int32} {v3_4 : Int32} {g3_5 : Nat → Int32} {n3_5 : Nat} {g3_6 : Nat → Int32} {n3_6 : Nat} {g3_7 : Nat → Int32} {n3_7 : Nat} {g3_8 : Nat → Int32} {n3_8 : Nat} {g3_9 : Nat → Int32} {n3_9 : Nat} {g3_15 : Nat → Int32} {n3_15 : Nat} {v1_5 : Int32} {n1_0 n1_1 n1_3 n1_4 : Nat} {g1_0 : Nat → Int32} {C : Nat} (k0 : n1_1 = n1_0) (k1 : n1_2 = n1_0) (k2 : n1_3 = n1_0) (k3 : n1_4 = n1_0) (k4 : 16 ≤ n1_0) (k5 : n1_0 ≤ 40004) (k6 : 1 ≤ v1_5.toInt) (k7 : v1_5.toInt ≤ n1_0) (k8 : v1_5.toInt ≤ 20002) (hpar : y_P v1_5.toInt g1_0) (k10 : n3_7 = n3_6) (k11 : v3_4.toInt ≤ n3_6) (k12 : 0 ≤ v3_4.toInt) (k13 : v3_4.toInt ≤ 20000) (k14 : n3_9 = n3_6) (hwy : y_RI v3_4.toInt 0 (v1_5.toInt - 1) g3_7) (hord : y_RI v3_4.toInt 0 (v3_4.toInt - 1) g3_15) (k17 : v3_4.toInt ≤ n3_15) (k18 : 0 ≤ v3_2.toInt) (k19 : v3_2.toInt ≤ v3_3.toInt) (k20 : v3_3.toInt ≤ 400) (hC : (C : Int) = v3_3.toInt) (hwd : y_Wd v3_4.toInt C n3_5) (hht : y_RI v3_4.toInt 0 (v3_3.toInt - v3_2.toInt) g3_8) (k24 : n3_8 = n3_6) (k25 : n3_5 ≤ 40000) : ∀ (m : Nat) {l1 : Int64} {l3 : Int32} {l4 : Int32} {l5 : Int32}, (0 ≤ l3.toInt) → (l3.toInt < v3_4.toInt) → (∀ (z : Int64), y_Ok (f_X8_digest_L g1_2 n1_2 v3_2 v3_3 v3_4 g3_5 n3_5 g3_6 n3_6 g3_7 n3_7 g3_8 n3_8 g3_9 n3_9 g3_15 n3_15 (0, z, l3 + 1, 0, 0)) (fun r => (True))) → (0 ≤ l5.toInt) → (l5.toInt ≤ 2147483647) → 2147483648 - l5.toInt < m → y_Ok (f_X8_digest_L g1_2 n1_2 v3_2 v3_3 v3_4 g3_5 n3_5 g3_6 n3_6 g3_7 n3_7 g3_8 n3_8 g3_9 n3_9 g3_15 n3_15 (2, l1, l3, l4, l5)) (fun r => (True)) := by
  intro m
  induction m with
  | zero => intro l1 l3 l4 l5 k26 k27 ihp k29 k30 hm; exfalso; omega
  | succ m ih =>
    intro l1 l3 l4 l5 k26 k27 ihp k29 k30 hm
    have hl4m := l4.toInt_lt
    rw [f_X8_digest_L]
    refine y_in (by decide) ?_
    refine y_in (by decide) ?_
    refine y_ip rfl ?_
    refine y_if (fun c1 => ?_) (fun c1 => ?_)
    · skip
      have c1' := c1
      rw [Int32.le_iff_toInt_le] at c1'
      try have e2 := @y_addL l3 (1 : Int32) (1) rfl (by omega) (by omega)
      have e3 : (0 : Int32).toInt = 0 := rfl
      exact ihp _
    · skip
      have c1' := c1
      rw [Int32.le_iff_toInt_le] at c1'
      refine y_bi (y_X3_placeOf (C := C) (n3_6 := n3_6) (by omega) (by omega) (by omega) (by omega) (by first | with_reducible assumption | omega | ((with_reducible refine y_Vl ?_ ?_) <;> omega)) (by first | with_reducible assumption | omega | ((with_reducible refine y_Vl ?_ ?_) <;> omega)) (by first | with_reducible assumption | omega | ((with_reducible refine y_Vl ?_ ?_) <;> omega)) (by omega) (by omega) (by omega) (by omega) (by first | with_reducible assumption | omega | ((with_reducible refine y_Vl ?_ ?_) <;> omega)) (by omega)) (fun r_6 h_r_6 => ?_)
      have h0_r_6 : True := h_r_6
      try have e4 := @y_addL l5 (1 : Int32) (1) rfl (by omega) (by omega)
      exact y_Ok.mono (ih (l1 := (((31 : Int64) * l1) + (Int32.toInt64 r_6))) (l3 := l3) (l4 := l4) (l5 := (l5 + 1)) (by omega) (by omega) (by first | with_reducible assumption | omega | ((with_reducible refine y_Vl ?_ ?_) <;> omega)) (by omega) (by omega) (by omega)) (fun _ _ => trivial)
theorem y_X8_digest_L_2 {g1_2 : Nat → Int32} {n1_2 : Nat} {v3_2 : Int32} {v3_3 : Int32} {v3_4 : Int32} {g3_5 : Nat → Int32} {n3_5 : Nat} {g3_6 : Nat → Int32} {n3_6 : Nat} {g3_7 : Nat → Int32} {n3_7 : Nat} {g3_8 : Nat → Int32} {n3_8 : Nat} {g3_9 : Nat → Int32} {n3_9 : Nat} {g3_15 : Nat → Int32} {n3_15 : Nat} {v1_5 : Int32} {n1_0 n1_1 n1_3 n1_4 : Nat} {g1_0 : Nat → Int32} {C : Nat} {l1 : Int64} {l3 : Int32} {l4 : Int32} {l5 : Int32} (k0 : n1_1 = n1_0) (k1 : n1_2 = n1_0) (k2 : n1_3 = n1_0) (k3 : n1_4 = n1_0) (k4 : 16 ≤ n1_0) (k5 : n1_0 ≤ 40004) (k6 : 1 ≤ v1_5.toInt) (k7 : v1_5.toInt ≤ n1_0) (k8 : v1_5.toInt ≤ 20002) (hpar : y_P v1_5.toInt g1_0) (k10 : n3_7 = n3_6) (k11 : v3_4.toInt ≤ n3_6) (k12 : 0 ≤ v3_4.toInt) (k13 : v3_4.toInt ≤ 20000) (k14 : n3_9 = n3_6) (hwy : y_RI v3_4.toInt 0 (v1_5.toInt - 1) g3_7) (hord : y_RI v3_4.toInt 0 (v3_4.toInt - 1) g3_15) (k17 : v3_4.toInt ≤ n3_15) (k18 : 0 ≤ v3_2.toInt) (k19 : v3_2.toInt ≤ v3_3.toInt) (k20 : v3_3.toInt ≤ 400) (hC : (C : Int) = v3_3.toInt) (hwd : y_Wd v3_4.toInt C n3_5) (hht : y_RI v3_4.toInt 0 (v3_3.toInt - v3_2.toInt) g3_8) (k24 : n3_8 = n3_6) (k25 : n3_5 ≤ 40000) (k26 : 0 ≤ l3.toInt) (k27 : l3.toInt < v3_4.toInt) (ihp : ∀ (z : Int64), y_Ok (f_X8_digest_L g1_2 n1_2 v3_2 v3_3 v3_4 g3_5 n3_5 g3_6 n3_6 g3_7 n3_7 g3_8 n3_8 g3_9 n3_9 g3_15 n3_15 (0, z, l3 + 1, 0, 0)) (fun r => (True))) (k29 : 0 ≤ l5.toInt) (k30 : l5.toInt ≤ 2147483647) : y_Ok (f_X8_digest_L g1_2 n1_2 v3_2 v3_3 v3_4 g3_5 n3_5 g3_6 n3_6 g3_7 n3_7 g3_8 n3_8 g3_9 n3_9 g3_15 n3_15 (2, l1, l3, l4, l5)) (fun r => (True)) := y_X8_digest_L_2_i (v1_5 := v1_5) (n1_0 := n1_0) (n1_1 := n1_1) (n1_3 := n1_3) (n1_4 := n1_4) (g1_0 := g1_0) (C := C) k0 k1 k2 k3 k4 k5 k6 k7 k8 hpar k10 k11 k12 k13 k14 hwy hord k17 k18 k19 k20 hC hwd hht k24 k25 (2147483648 - l5.toInt + 1).toNat k26 k27 ihp k29 k30 (by omega)
set_option maxHeartbeats 4000000 in
theorem y_X8_digest_L_1_i {g1_2 : Nat → Int32} {n1_2 : Nat} {v3_2 : Int32} {v3_3 : Int32} {v3_4 : Int32} {g3_5 : Nat → Int32} {n3_5 : Nat} {g3_6 : Nat → Int32} {n3_6 : Nat} {g3_7 : Nat → Int32} {n3_7 : Nat} {g3_8 : Nat → Int32} {n3_8 : Nat} {g3_9 : Nat → Int32} {n3_9 : Nat} {g3_15 : Nat → Int32} {n3_15 : Nat} {v1_5 : Int32} {n1_0 n1_1 n1_3 n1_4 : Nat} {g1_0 : Nat → Int32} {C : Nat} (k0 : n1_1 = n1_0) (k1 : n1_2 = n1_0) (k2 : n1_3 = n1_0) (k3 : n1_4 = n1_0) (k4 : 16 ≤ n1_0) (k5 : n1_0 ≤ 40004) (k6 : 1 ≤ v1_5.toInt) (k7 : v1_5.toInt ≤ n1_0) (k8 : v1_5.toInt ≤ 20002) (hpar : y_P v1_5.toInt g1_0) (k10 : n3_7 = n3_6) (k11 : v3_4.toInt ≤ n3_6) (k12 : 0 ≤ v3_4.toInt) (k13 : v3_4.toInt ≤ 20000) (k14 : n3_9 = n3_6) (hwy : y_RI v3_4.toInt 0 (v1_5.toInt - 1) g3_7) (hord : y_RI v3_4.toInt 0 (v3_4.toInt - 1) g3_15) (k17 : v3_4.toInt ≤ n3_15) (k18 : 0 ≤ v3_2.toInt) (k19 : v3_2.toInt ≤ v3_3.toInt) (k20 : v3_3.toInt ≤ 400) (hC : (C : Int) = v3_3.toInt) (hwd : y_Wd v3_4.toInt C n3_5) (hht : y_RI v3_4.toInt 0 (v3_3.toInt - v3_2.toInt) g3_8) (k24 : n3_8 = n3_6) (k25 : n3_5 ≤ 40000) : ∀ (m : Nat) {l1 : Int64} {l3 : Int32} {l4 : Int32} {l5 : Int32}, (0 ≤ l3.toInt) → (l3.toInt < v3_4.toInt) → (∀ (z : Int64), y_Ok (f_X8_digest_L g1_2 n1_2 v3_2 v3_3 v3_4 g3_5 n3_5 g3_6 n3_6 g3_7 n3_7 g3_8 n3_8 g3_9 n3_9 g3_15 n3_15 (0, z, l3 + 1, 0, 0)) (fun r => (True))) → (0 ≤ l4.toInt) → (l4.toInt ≤ 4) → 4 - l4.toInt < m → y_Ok (f_X8_digest_L g1_2 n1_2 v3_2 v3_3 v3_4 g3_5 n3_5 g3_6 n3_6 g3_7 n3_7 g3_8 n3_8 g3_9 n3_9 g3_15 n3_15 (1, l1, l3, l4, l5)) (fun r => (True)) := by
  intro m
  induction m with
  | zero => intro l1 l3 l4 l5 k26 k27 ihp k29 k30 hm; exfalso; omega
  | succ m ih =>
    intro l1 l3 l4 l5 k26 k27 ihp k29 k30 hm
    rw [f_X8_digest_L]
    refine y_in (by decide) ?_
    refine y_ip rfl ?_
    refine y_if (fun c1 => ?_) (fun c1 => ?_)
    · skip
      have e2 : (3 : Int32).toInt = 3 := rfl
      have c1' := c1
      rw [Int32.lt_iff_toInt_lt] at c1'
      have e3 : (2 : Int32).toInt = 2 := rfl
      refine y_bi (y_X3_factOf (v1_5 := v1_5) (n1_0 := n1_0) (n1_1 := n1_1) (n1_3 := n1_3) (n1_4 := n1_4) (g1_0 := g1_0) (by first | with_reducible assumption | omega | ((with_reducible refine y_Vl ?_ ?_) <;> omega)) (by first | with_reducible assumption | omega | ((with_reducible refine y_Vl ?_ ?_) <;> omega)) (by first | with_reducible assumption | omega | ((with_reducible refine y_Vl ?_ ?_) <;> omega)) (by first | with_reducible assumption | omega | ((with_reducible refine y_Vl ?_ ?_) <;> omega)) (by omega) (by omega) (by omega) (by omega) (by omega) (by first | with_reducible assumption | omega | ((with_reducible refine y_Vl ?_ ?_) <;> omega)) (by first | with_reducible assumption | omega | ((with_reducible refine y_Vl ?_ ?_) <;> omega)) (by omega) (by omega) (by omega) (by first | with_reducible assumption | omega | ((with_reducible refine y_Vl ?_ ?_) <;> omega)) (by first | with_reducible assumption | omega | ((with_reducible refine y_Vl ?_ ?_) <;> omega)) (by first | with_reducible assumption | omega | ((with_reducible refine y_Vl ?_ ?_) <;> omega)) (by first | with_reducible assumption | omega | ((with_reducible refine y_Vl ?_ ?_) <;> omega)) (by omega)) (fun r_3 h_r_3 => ?_)
      have h0_r_3 : True := h_r_3
      try have e4 := @y_add v3_2 r_3 (by omega) (by omega)
      have e5 : (0 : Int32).toInt = 0 := rfl
      exact y_Ok.mono (y_X8_digest_L_2 (v1_5 := v1_5) (n1_0 := n1_0) (n1_1 := n1_1) (n1_3 := n1_3) (n1_4 := n1_4) (g1_0 := g1_0) (C := C) (l1 := l1) (l3 := l3) (l4 := (v3_2 + r_3)) (l5 := 0) (by first | with_reducible assumption | omega | ((with_reducible refine y_Vl ?_ ?_) <;> omega)) (by first | with_reducible assumption | omega | ((with_reducible refine y_Vl ?_ ?_) <;> omega)) (by first | with_reducible assumption | omega | ((with_reducible refine y_Vl ?_ ?_) <;> omega)) (by first | with_reducible assumption | omega | ((with_reducible refine y_Vl ?_ ?_) <;> omega)) (by omega) (by omega) (by omega) (by omega) (by omega) (by first | with_reducible assumption | omega | ((with_reducible refine y_Vl ?_ ?_) <;> omega)) (by first | with_reducible assumption | omega | ((with_reducible refine y_Vl ?_ ?_) <;> omega)) (by omega) (by omega) (by omega) (by first | with_reducible assumption | omega | ((with_reducible refine y_Vl ?_ ?_) <;> omega)) (by first | with_reducible assumption | omega | ((with_reducible refine y_Vl ?_ ?_) <;> omega)) (by first | with_reducible assumption | omega | ((with_reducible refine y_Vl ?_ ?_) <;> omega)) (by omega) (by omega) (by omega) (by omega) (by omega) (by first | with_reducible assumption | omega | ((with_reducible refine y_Vl ?_ ?_) <;> omega)) (by first | with_reducible assumption | omega | ((with_reducible refine y_Vl ?_ ?_) <;> omega)) (by first | with_reducible assumption | omega | ((with_reducible refine y_Vl ?_ ?_) <;> omega)) (by omega) (by omega) (by omega) (by first | with_reducible assumption | omega | ((with_reducible refine y_Vl ?_ ?_) <;> omega)) (by omega) (by omega)) (fun _ _ => trivial)
    · skip
      have e6 : (3 : Int32).toInt = 3 := rfl
      have c1' := c1
      rw [Int32.lt_iff_toInt_lt] at c1'
      refine y_bi (y_X3_factOf (v1_5 := v1_5) (n1_0 := n1_0) (n1_1 := n1_1) (n1_3 := n1_3) (n1_4 := n1_4) (g1_0 := g1_0) (by first | with_reducible assumption | omega | ((with_reducible refine y_Vl ?_ ?_) <;> omega)) (by first | with_reducible assumption | omega | ((with_reducible refine y_Vl ?_ ?_) <;> omega)) (by first | with_reducible assumption | omega | ((with_reducible refine y_Vl ?_ ?_) <;> omega)) (by first | with_reducible assumption | omega | ((with_reducible refine y_Vl ?_ ?_) <;> omega)) (by omega) (by omega) (by omega) (by omega) (by omega) (by first | with_reducible assumption | omega | ((with_reducible refine y_Vl ?_ ?_) <;> omega)) (by first | with_reducible assumption | omega | ((with_reducible refine y_Vl ?_ ?_) <;> omega)) (by omega) (by omega) (by omega) (by first | with_reducible assumption | omega | ((with_reducible refine y_Vl ?_ ?_) <;> omega)) (by first | with_reducible assumption | omega | ((with_reducible refine y_Vl ?_ ?_) <;> omega)) (by first | with_reducible assumption | omega | ((with_reducible refine y_Vl ?_ ?_) <;> omega)) (by first | with_reducible assumption | omega | ((with_reducible refine y_Vl ?_ ?_) <;> omega)) (by omega)) (fun r_4 h_r_4 => ?_)
      have h0_r_4 : True := h_r_4
      try have e7 := @y_addL l4 (1 : Int32) (1) rfl (by omega) (by omega)
      have e8 : (0 : Int32).toInt = 0 := rfl
      exact y_Ok.mono (ih (l1 := (((31 : Int64) * l1) + (Int32.toInt64 r_4))) (l3 := l3) (l4 := (l4 + 1)) (l5 := 0) (by omega) (by omega) (by first | with_reducible assumption | omega | ((with_reducible refine y_Vl ?_ ?_) <;> omega)) (by omega) (by omega) (by omega)) (fun _ _ => trivial)
theorem y_X8_digest_L_1 {g1_2 : Nat → Int32} {n1_2 : Nat} {v3_2 : Int32} {v3_3 : Int32} {v3_4 : Int32} {g3_5 : Nat → Int32} {n3_5 : Nat} {g3_6 : Nat → Int32} {n3_6 : Nat} {g3_7 : Nat → Int32} {n3_7 : Nat} {g3_8 : Nat → Int32} {n3_8 : Nat} {g3_9 : Nat → Int32} {n3_9 : Nat} {g3_15 : Nat → Int32} {n3_15 : Nat} {v1_5 : Int32} {n1_0 n1_1 n1_3 n1_4 : Nat} {g1_0 : Nat → Int32} {C : Nat} {l1 : Int64} {l3 : Int32} {l4 : Int32} {l5 : Int32} (k0 : n1_1 = n1_0) (k1 : n1_2 = n1_0) (k2 : n1_3 = n1_0) (k3 : n1_4 = n1_0) (k4 : 16 ≤ n1_0) (k5 : n1_0 ≤ 40004) (k6 : 1 ≤ v1_5.toInt) (k7 : v1_5.toInt ≤ n1_0) (k8 : v1_5.toInt ≤ 20002) (hpar : y_P v1_5.toInt g1_0) (k10 : n3_7 = n3_6) (k11 : v3_4.toInt ≤ n3_6) (k12 : 0 ≤ v3_4.toInt) (k13 : v3_4.toInt ≤ 20000) (k14 : n3_9 = n3_6) (hwy : y_RI v3_4.toInt 0 (v1_5.toInt - 1) g3_7) (hord : y_RI v3_4.toInt 0 (v3_4.toInt - 1) g3_15) (k17 : v3_4.toInt ≤ n3_15) (k18 : 0 ≤ v3_2.toInt) (k19 : v3_2.toInt ≤ v3_3.toInt) (k20 : v3_3.toInt ≤ 400) (hC : (C : Int) = v3_3.toInt) (hwd : y_Wd v3_4.toInt C n3_5) (hht : y_RI v3_4.toInt 0 (v3_3.toInt - v3_2.toInt) g3_8) (k24 : n3_8 = n3_6) (k25 : n3_5 ≤ 40000) (k26 : 0 ≤ l3.toInt) (k27 : l3.toInt < v3_4.toInt) (ihp : ∀ (z : Int64), y_Ok (f_X8_digest_L g1_2 n1_2 v3_2 v3_3 v3_4 g3_5 n3_5 g3_6 n3_6 g3_7 n3_7 g3_8 n3_8 g3_9 n3_9 g3_15 n3_15 (0, z, l3 + 1, 0, 0)) (fun r => (True))) (k29 : 0 ≤ l4.toInt) (k30 : l4.toInt ≤ 4) : y_Ok (f_X8_digest_L g1_2 n1_2 v3_2 v3_3 v3_4 g3_5 n3_5 g3_6 n3_6 g3_7 n3_7 g3_8 n3_8 g3_9 n3_9 g3_15 n3_15 (1, l1, l3, l4, l5)) (fun r => (True)) := y_X8_digest_L_1_i (v1_5 := v1_5) (n1_0 := n1_0) (n1_1 := n1_1) (n1_3 := n1_3) (n1_4 := n1_4) (g1_0 := g1_0) (C := C) k0 k1 k2 k3 k4 k5 k6 k7 k8 hpar k10 k11 k12 k13 k14 hwy hord k17 k18 k19 k20 hC hwd hht k24 k25 (4 - l4.toInt + 1).toNat k26 k27 ihp k29 k30 (by omega)
set_option maxHeartbeats 4000000 in
theorem y_X8_digest_L_0_i {g1_2 : Nat → Int32} {n1_2 : Nat} {v3_2 : Int32} {v3_3 : Int32} {v3_4 : Int32} {g3_5 : Nat → Int32} {n3_5 : Nat} {g3_6 : Nat → Int32} {n3_6 : Nat} {g3_7 : Nat → Int32} {n3_7 : Nat} {g3_8 : Nat → Int32} {n3_8 : Nat} {g3_9 : Nat → Int32} {n3_9 : Nat} {g3_15 : Nat → Int32} {n3_15 : Nat} {v1_5 : Int32} {n1_0 n1_1 n1_3 n1_4 : Nat} {g1_0 : Nat → Int32} {C : Nat} (k0 : n1_1 = n1_0) (k1 : n1_2 = n1_0) (k2 : n1_3 = n1_0) (k3 : n1_4 = n1_0) (k4 : 16 ≤ n1_0) (k5 : n1_0 ≤ 40004) (k6 : 1 ≤ v1_5.toInt) (k7 : v1_5.toInt ≤ n1_0) (k8 : v1_5.toInt ≤ 20002) (hpar : y_P v1_5.toInt g1_0) (k10 : n3_7 = n3_6) (k11 : v3_4.toInt ≤ n3_6) (k12 : 0 ≤ v3_4.toInt) (k13 : v3_4.toInt ≤ 20000) (k14 : n3_9 = n3_6) (hwy : y_RI v3_4.toInt 0 (v1_5.toInt - 1) g3_7) (hord : y_RI v3_4.toInt 0 (v3_4.toInt - 1) g3_15) (k17 : v3_4.toInt ≤ n3_15) (k18 : 0 ≤ v3_2.toInt) (k19 : v3_2.toInt ≤ v3_3.toInt) (k20 : v3_3.toInt ≤ 400) (hC : (C : Int) = v3_3.toInt) (hwd : y_Wd v3_4.toInt C n3_5) (hht : y_RI v3_4.toInt 0 (v3_3.toInt - v3_2.toInt) g3_8) (k24 : n3_8 = n3_6) (k25 : n3_5 ≤ 40000) : ∀ (m : Nat) {l1 : Int64} {l3 : Int32} {l4 : Int32} {l5 : Int32}, (0 ≤ l3.toInt) → (l3.toInt ≤ v3_4.toInt) → v3_4.toInt - l3.toInt < m → y_Ok (f_X8_digest_L g1_2 n1_2 v3_2 v3_3 v3_4 g3_5 n3_5 g3_6 n3_6 g3_7 n3_7 g3_8 n3_8 g3_9 n3_9 g3_15 n3_15 (0, l1, l3, l4, l5)) (fun r => (True)) := by
  intro m
  induction m with
  | zero => intro l1 l3 l4 l5 k26 k27 hm; exfalso; omega
  | succ m ih =>
    intro l1 l3 l4 l5 k26 k27 hm
    rw [f_X8_digest_L]
    refine y_ip rfl ?_
    refine y_if (fun c1 => ?_) (fun c1 => ?_)
    · skip
      have c1' := c1
      rw [Int32.le_iff_toInt_le] at c1'
      exact y_some trivial
    · skip
      have c1' := c1
      rw [Int32.le_iff_toInt_le] at c1'
      have hs3 := @y_addL l3 1 1 rfl (by omega) (by omega)
      have e2 : (0 : Int32).toInt = 0 := rfl
      exact y_Ok.mono (y_X8_digest_L_1 (v1_5 := v1_5) (n1_0 := n1_0) (n1_1 := n1_1) (n1_3 := n1_3) (n1_4 := n1_4) (g1_0 := g1_0) (C := C) (l1 := l1) (l3 := l3) (l4 := 0) (l5 := 0) (by first | with_reducible assumption | omega | ((with_reducible refine y_Vl ?_ ?_) <;> omega) | (intro zz; apply ih <;> (first | with_reducible assumption | omega))) (by first | with_reducible assumption | omega | ((with_reducible refine y_Vl ?_ ?_) <;> omega) | (intro zz; apply ih <;> (first | with_reducible assumption | omega))) (by first | with_reducible assumption | omega | ((with_reducible refine y_Vl ?_ ?_) <;> omega) | (intro zz; apply ih <;> (first | with_reducible assumption | omega))) (by first | with_reducible assumption | omega | ((with_reducible refine y_Vl ?_ ?_) <;> omega) | (intro zz; apply ih <;> (first | with_reducible assumption | omega))) (by omega) (by omega) (by omega) (by omega) (by omega) (by first | with_reducible assumption | omega | ((with_reducible refine y_Vl ?_ ?_) <;> omega) | (intro zz; apply ih <;> (first | with_reducible assumption | omega))) (by first | with_reducible assumption | omega | ((with_reducible refine y_Vl ?_ ?_) <;> omega) | (intro zz; apply ih <;> (first | with_reducible assumption | omega))) (by omega) (by omega) (by omega) (by first | with_reducible assumption | omega | ((with_reducible refine y_Vl ?_ ?_) <;> omega) | (intro zz; apply ih <;> (first | with_reducible assumption | omega))) (by first | with_reducible assumption | omega | ((with_reducible refine y_Vl ?_ ?_) <;> omega) | (intro zz; apply ih <;> (first | with_reducible assumption | omega))) (by first | with_reducible assumption | omega | ((with_reducible refine y_Vl ?_ ?_) <;> omega) | (intro zz; apply ih <;> (first | with_reducible assumption | omega))) (by omega) (by omega) (by omega) (by omega) (by omega) (by first | with_reducible assumption | omega | ((with_reducible refine y_Vl ?_ ?_) <;> omega) | (intro zz; apply ih <;> (first | with_reducible assumption | omega))) (by first | with_reducible assumption | omega | ((with_reducible refine y_Vl ?_ ?_) <;> omega) | (intro zz; apply ih <;> (first | with_reducible assumption | omega))) (by first | with_reducible assumption | omega | ((with_reducible refine y_Vl ?_ ?_) <;> omega) | (intro zz; apply ih <;> (first | with_reducible assumption | omega))) (by omega) (by omega) (by omega) (by first | with_reducible assumption | omega | ((with_reducible refine y_Vl ?_ ?_) <;> omega) | (intro zz; apply ih <;> (first | with_reducible assumption | omega))) (by omega) (by omega)) (fun _ _ => trivial)
theorem y_X8_digest_L_0 {g1_2 : Nat → Int32} {n1_2 : Nat} {v3_2 : Int32} {v3_3 : Int32} {v3_4 : Int32} {g3_5 : Nat → Int32} {n3_5 : Nat} {g3_6 : Nat → Int32} {n3_6 : Nat} {g3_7 : Nat → Int32} {n3_7 : Nat} {g3_8 : Nat → Int32} {n3_8 : Nat} {g3_9 : Nat → Int32} {n3_9 : Nat} {g3_15 : Nat → Int32} {n3_15 : Nat} {v1_5 : Int32} {n1_0 n1_1 n1_3 n1_4 : Nat} {g1_0 : Nat → Int32} {C : Nat} {l1 : Int64} {l3 : Int32} {l4 : Int32} {l5 : Int32} (k0 : n1_1 = n1_0) (k1 : n1_2 = n1_0) (k2 : n1_3 = n1_0) (k3 : n1_4 = n1_0) (k4 : 16 ≤ n1_0) (k5 : n1_0 ≤ 40004) (k6 : 1 ≤ v1_5.toInt) (k7 : v1_5.toInt ≤ n1_0) (k8 : v1_5.toInt ≤ 20002) (hpar : y_P v1_5.toInt g1_0) (k10 : n3_7 = n3_6) (k11 : v3_4.toInt ≤ n3_6) (k12 : 0 ≤ v3_4.toInt) (k13 : v3_4.toInt ≤ 20000) (k14 : n3_9 = n3_6) (hwy : y_RI v3_4.toInt 0 (v1_5.toInt - 1) g3_7) (hord : y_RI v3_4.toInt 0 (v3_4.toInt - 1) g3_15) (k17 : v3_4.toInt ≤ n3_15) (k18 : 0 ≤ v3_2.toInt) (k19 : v3_2.toInt ≤ v3_3.toInt) (k20 : v3_3.toInt ≤ 400) (hC : (C : Int) = v3_3.toInt) (hwd : y_Wd v3_4.toInt C n3_5) (hht : y_RI v3_4.toInt 0 (v3_3.toInt - v3_2.toInt) g3_8) (k24 : n3_8 = n3_6) (k25 : n3_5 ≤ 40000) (k26 : 0 ≤ l3.toInt) (k27 : l3.toInt ≤ v3_4.toInt) : y_Ok (f_X8_digest_L g1_2 n1_2 v3_2 v3_3 v3_4 g3_5 n3_5 g3_6 n3_6 g3_7 n3_7 g3_8 n3_8 g3_9 n3_9 g3_15 n3_15 (0, l1, l3, l4, l5)) (fun r => (True)) := y_X8_digest_L_0_i (v1_5 := v1_5) (n1_0 := n1_0) (n1_1 := n1_1) (n1_3 := n1_3) (n1_4 := n1_4) (g1_0 := g1_0) (C := C) k0 k1 k2 k3 k4 k5 k6 k7 k8 hpar k10 k11 k12 k13 k14 hwy hord k17 k18 k19 k20 hC hwd hht k24 k25 (v3_4.toInt - l3.toInt + 1).toNat k26 k27 (by omega)
set_option maxHeartbeats 4000000 in
theorem y_X8_digest {g1_2 : Nat → Int32} {n1_2 : Nat} {v3_2 : Int32} {v3_3 : Int32} {v3_4 : Int32} {g3_5 : Nat → Int32} {n3_5 : Nat} {g3_6 : Nat → Int32} {n3_6 : Nat} {g3_7 : Nat → Int32} {n3_7 : Nat} {g3_8 : Nat → Int32} {n3_8 : Nat} {g3_9 : Nat → Int32} {n3_9 : Nat} {g3_15 : Nat → Int32} {n3_15 : Nat} {v1_5 : Int32} {n1_0 n1_1 n1_3 n1_4 : Nat} {g1_0 : Nat → Int32} {C : Nat} (k0 : n1_1 = n1_0) (k1 : n1_2 = n1_0) (k2 : n1_3 = n1_0) (k3 : n1_4 = n1_0) (k4 : 16 ≤ n1_0) (k5 : n1_0 ≤ 40004) (k6 : 1 ≤ v1_5.toInt) (k7 : v1_5.toInt ≤ n1_0) (k8 : v1_5.toInt ≤ 20002) (hpar : y_P v1_5.toInt g1_0) (k10 : n3_7 = n3_6) (k11 : v3_4.toInt ≤ n3_6) (k12 : 0 ≤ v3_4.toInt) (k13 : v3_4.toInt ≤ 20000) (k14 : n3_9 = n3_6) (hwy : y_RI v3_4.toInt 0 (v1_5.toInt - 1) g3_7) (hord : y_RI v3_4.toInt 0 (v3_4.toInt - 1) g3_15) (k17 : v3_4.toInt ≤ n3_15) (k18 : 0 ≤ v3_2.toInt) (k19 : v3_2.toInt ≤ v3_3.toInt) (k20 : v3_3.toInt ≤ 400) (hC : (C : Int) = v3_3.toInt) (hwd : y_Wd v3_4.toInt C n3_5) (hht : y_RI v3_4.toInt 0 (v3_3.toInt - v3_2.toInt) g3_8) (k24 : n3_8 = n3_6) (k25 : n3_5 ≤ 40000) : y_Ok (f_X8_digest g1_2 n1_2 v3_2 v3_3 v3_4 g3_5 n3_5 g3_6 n3_6 g3_7 n3_7 g3_8 n3_8 g3_9 n3_9 g3_15 n3_15) (fun r => (True)) := by
  unfold f_X8_digest
  have e1 : (7 : Int32).toInt = 7 := rfl
  have e2 : (0 : Int32).toInt = 0 := rfl
  exact y_Ok.mono (y_X8_digest_L_0 (v1_5 := v1_5) (n1_0 := n1_0) (n1_1 := n1_1) (n1_3 := n1_3) (n1_4 := n1_4) (g1_0 := g1_0) (C := C) (l1 := 7) (l3 := 0) (l4 := 0) (l5 := 0) (by first | with_reducible assumption | omega | ((with_reducible refine y_Vl ?_ ?_) <;> omega)) (by first | with_reducible assumption | omega | ((with_reducible refine y_Vl ?_ ?_) <;> omega)) (by first | with_reducible assumption | omega | ((with_reducible refine y_Vl ?_ ?_) <;> omega)) (by first | with_reducible assumption | omega | ((with_reducible refine y_Vl ?_ ?_) <;> omega)) (by omega) (by omega) (by omega) (by omega) (by omega) (by first | with_reducible assumption | omega | ((with_reducible refine y_Vl ?_ ?_) <;> omega)) (by first | with_reducible assumption | omega | ((with_reducible refine y_Vl ?_ ?_) <;> omega)) (by omega) (by omega) (by omega) (by first | with_reducible assumption | omega | ((with_reducible refine y_Vl ?_ ?_) <;> omega)) (by first | with_reducible assumption | omega | ((with_reducible refine y_Vl ?_ ?_) <;> omega)) (by first | with_reducible assumption | omega | ((with_reducible refine y_Vl ?_ ?_) <;> omega)) (by omega) (by omega) (by omega) (by omega) (by omega) (by first | with_reducible assumption | omega | ((with_reducible refine y_Vl ?_ ?_) <;> omega)) (by first | with_reducible assumption | omega | ((with_reducible refine y_Vl ?_ ?_) <;> omega)) (by first | with_reducible assumption | omega | ((with_reducible refine y_Vl ?_ ?_) <;> omega)) (by omega) (by omega) (by omega)) (fun _ _ => trivial)
set_option maxHeartbeats 4000000 in
theorem y_X8_stands {v7_2 : Int32} {g7_0 : Nat → Int32} {g7_1 : Nat → Int32} {p1 : Int32} {p2 : Int32} (k0 : 4 ≤ v7_2.toInt) (k1 : v7_2.toInt ≤ 200) (k2 : y_Rg 200 0 199 g7_0) : y_Ok (f_X8_stands v7_2 g7_0 g7_1 p1 p2) (fun r => (True)) := by
  unfold f_X8_stands
  refine y_bi (y_X7_isType (by omega) (by omega)) (fun r_1 h_r_1 => ?_)
  have h0_r_1 : (r_1.toInt = 0 ∧ ¬ (0 ≤ p1.toInt ∧ p1.toInt < 16777216 ∧ (p1.toInt % 65536 < v7_2.toInt ∨ 65528 ≤ p1.toInt % 65536))) ∨ (r_1.toInt = 1 ∧ (0 ≤ p1.toInt ∧ p1.toInt < 16777216 ∧ (p1.toInt % 65536 < v7_2.toInt ∨ 65528 ≤ p1.toInt % 65536))) := h_r_1
  refine y_if (fun c1 => ?_) (fun c1 => ?_)
  · skip
    have e2 : (0 : Int32).toInt = 0 := rfl
    have c1' := c1
    rw [← Int32.toInt_inj] at c1'
    have e3 := y_or0 h0_r_1 c1'
    clear h0_r_1
    have e4 : (1 : Int32).toInt = 1 := rfl
    exact y_some trivial
  · skip
    have e5 : (0 : Int32).toInt = 0 := rfl
    have c1' := c1
    rw [← Int32.toInt_inj] at c1'
    have e6 := y_or1 h0_r_1 c1'
    clear h0_r_1
    refine y_bi (y_X7_isType (by omega) (by omega)) (fun r_3 h_r_3 => ?_)
    have h0_r_3 : (r_3.toInt = 0 ∧ ¬ (0 ≤ p2.toInt ∧ p2.toInt < 16777216 ∧ (p2.toInt % 65536 < v7_2.toInt ∨ 65528 ≤ p2.toInt % 65536))) ∨ (r_3.toInt = 1 ∧ (0 ≤ p2.toInt ∧ p2.toInt < 16777216 ∧ (p2.toInt % 65536 < v7_2.toInt ∨ 65528 ≤ p2.toInt % 65536))) := h_r_3
    refine y_if (fun c7 => ?_) (fun c7 => ?_)
    · skip
      have c7' := c7
      rw [← Int32.toInt_inj] at c7'
      have e8 := y_or0 h0_r_3 c7'
      clear h0_r_3
      have e9 : (1 : Int32).toInt = 1 := rfl
      exact y_some trivial
    · skip
      have c7' := c7
      rw [← Int32.toInt_inj] at c7'
      have e10 := y_or1 h0_r_3 c7'
      clear h0_r_3
      refine y_bi (y_X7_mayStand (by omega) (by omega) (by first | with_reducible assumption | omega | ((with_reducible refine y_Vl ?_ ?_) <;> omega)) (by omega) (by omega)) (fun r_5 h_r_5 => ?_)
      have h0_r_5 : r_5.toInt = 0 ∨ r_5.toInt = 1 := h_r_5
      exact y_some trivial
set_option maxHeartbeats 4000000 in
theorem y_X8_common {v7_2 : Int32} {g7_0 : Nat → Int32} {p1 : Int32} {p2 : Int32} (k0 : 4 ≤ v7_2.toInt) (k1 : v7_2.toInt ≤ 200) (k2 : y_Rg 200 0 199 g7_0) : y_Ok (f_X8_common v7_2 g7_0 p1 p2) (fun r => (True)) := by
  unfold f_X8_common
  refine y_bi (y_X7_isReference (by omega) (by omega)) (fun r_1 h_r_1 => ?_)
  have h0_r_1 : (r_1.toInt = 0 ∧ ¬ ((0 ≤ p1.toInt ∧ p1.toInt < 16777216 ∧ (p1.toInt % 65536 < v7_2.toInt ∨ 65528 ≤ p1.toInt % 65536)) ∧ ¬ (65528 ≤ p1.toInt ∧ p1.toInt < 65536))) ∨ (r_1.toInt = 1 ∧ ((0 ≤ p1.toInt ∧ p1.toInt < 16777216 ∧ (p1.toInt % 65536 < v7_2.toInt ∨ 65528 ≤ p1.toInt % 65536)) ∧ ¬ (65528 ≤ p1.toInt ∧ p1.toInt < 65536))) := h_r_1
  refine y_if (fun c1 => ?_) (fun c1 => ?_)
  · skip
    have e2 : (0 : Int32).toInt = 0 := rfl
    have c1' := c1
    rw [← Int32.toInt_inj] at c1'
    have e3 := y_or0 h0_r_1 c1'
    clear h0_r_1
    have e4 : (1 : Int32).toInt = 1 := rfl
    exact y_some trivial
  · skip
    have e5 : (0 : Int32).toInt = 0 := rfl
    have c1' := c1
    rw [← Int32.toInt_inj] at c1'
    have e6 := y_or1 h0_r_1 c1'
    clear h0_r_1
    refine y_bi (y_X7_isReference (by omega) (by omega)) (fun r_3 h_r_3 => ?_)
    have h0_r_3 : (r_3.toInt = 0 ∧ ¬ ((0 ≤ p2.toInt ∧ p2.toInt < 16777216 ∧ (p2.toInt % 65536 < v7_2.toInt ∨ 65528 ≤ p2.toInt % 65536)) ∧ ¬ (65528 ≤ p2.toInt ∧ p2.toInt < 65536))) ∨ (r_3.toInt = 1 ∧ ((0 ≤ p2.toInt ∧ p2.toInt < 16777216 ∧ (p2.toInt % 65536 < v7_2.toInt ∨ 65528 ≤ p2.toInt % 65536)) ∧ ¬ (65528 ≤ p2.toInt ∧ p2.toInt < 65536))) := h_r_3
    refine y_if (fun c7 => ?_) (fun c7 => ?_)
    · skip
      have c7' := c7
      rw [← Int32.toInt_inj] at c7'
      have e8 := y_or0 h0_r_3 c7'
      clear h0_r_3
      have e9 : (1 : Int32).toInt = 1 := rfl
      exact y_some trivial
    · skip
      have c7' := c7
      rw [← Int32.toInt_inj] at c7'
      have e10 := y_or1 h0_r_3 c7'
      clear h0_r_3
      refine y_bi (y_X7_sharedOf (by omega) (by omega) (by first | with_reducible assumption | omega | ((with_reducible refine y_Vl ?_ ?_) <;> omega) | (unfold y_Ty; omega) | (exact Or.inl (by omega)) | (exact Or.inr (by (unfold y_Ty; omega))) | (unfold y_Rs y_Ty; omega) | (unfold y_Tr; omega)) (by first | with_reducible assumption | omega | ((with_reducible refine y_Vl ?_ ?_) <;> omega) | (unfold y_Ty; omega) | (exact Or.inl (by omega)) | (exact Or.inr (by (unfold y_Ty; omega))) | (unfold y_Rs y_Ty; omega) | (unfold y_Tr; omega)) (by first | with_reducible assumption | omega | ((with_reducible refine y_Vl ?_ ?_) <;> omega) | (unfold y_Ty; omega) | (exact Or.inl (by omega)) | (exact Or.inr (by (unfold y_Ty; omega))) | (unfold y_Rs y_Ty; omega) | (unfold y_Tr; omega))) (fun r_5 h_r_5 => ?_)
      obtain ⟨h0_r_5, h1_r_5, h2_r_5, h3_r_5⟩ := h_r_5
      exact y_some trivial
