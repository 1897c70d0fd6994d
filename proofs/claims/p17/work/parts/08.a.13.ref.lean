set_option maxHeartbeats 4000000 in
theorem y_X9_add {v9_0 : Int32} {v9_1 : Int32} {g9_4 : Nat → Int32} {g9_5 : Nat → Int32} {p1 : Int32} {p2 : Int32} (k0 : 4 ≤ v9_1.toInt) (k1 : v9_1.toInt ≤ 200) (k2 : y_Up g9_4) : y_Ok (f_X9_add v9_0 v9_1 g9_4 g9_5 p1 p2) (fun r => (4 ≤ r.2.2.1.toInt) ∧ (r.2.2.1.toInt ≤ 200) ∧ (y_Up r.2.2.2.1)) := by
  unfold f_X9_add
  refine y_bi (y_X9_isClass) (fun r_1 h_r_1 => ?_)
  have h0_r_1 : (r_1.toInt = 0 ∧ ¬ (0 ≤ p1.toInt ∧ p1.toInt < v9_1.toInt)) ∨ (r_1.toInt = 1 ∧ (0 ≤ p1.toInt ∧ p1.toInt < v9_1.toInt)) := h_r_1
  refine y_if (fun c1 => ?_) (fun c1 => ?_)
  · skip
    have e2 : (0 : Int32).toInt = 0 := rfl
    have c1' := c1
    rw [← Int32.toInt_inj] at c1'
    have e3 := y_or0 h0_r_1 c1'
    clear h0_r_1
    refine y_bi (y_X9_bad) (fun r_3 h_r_3 => ?_)
    obtain ⟨h0_r_3, h1_r_3⟩ := h_r_3
    refine y_some ?_
    try dsimp only
    refine ⟨?_, ?_, ?_⟩ <;> (first | with_reducible assumption | omega | ((with_reducible refine y_Vl ?_ ?_) <;> omega) | (unfold y_Ty; omega) | ((with_reducible refine y_Up_add (by with_reducible assumption) ?_ ?_ ?_) <;> omega) | (exact Or.inl (by omega)) | (exact Or.inr (by (unfold y_Ty; omega))))
  · skip
    have e4 : (0 : Int32).toInt = 0 := rfl
    have c1' := c1
    rw [← Int32.toInt_inj] at c1'
    have e5 := y_or1 h0_r_1 c1'
    clear h0_r_1
    refine y_gd (y_gdI (by omega) (by omega)) ?_
    refine y_if (fun c6 => ?_) (fun c6 => ?_)
    · skip
      try have e7 := @y_cl p1 (by omega)
      have c6' := c6
      rw [← Int32.toInt_inj] at c6'
      refine y_if (fun c8 => ?_) (fun c8 => ?_)
      · skip
        have c8' := c8
        rw [← Int32.toInt_inj] at c8'
        refine y_if (fun c9 => ?_) (fun c9 => ?_)
        · skip
          have e10 : (200 : Int32).toInt = 200 := rfl
          have c9' := c9
          rw [← Int32.toInt_inj] at c9'
          refine y_bi (y_X9_full) (fun r_11 h_r_11 => ?_)
          obtain ⟨h0_r_11, h1_r_11⟩ := h_r_11
          refine y_some ?_
          try dsimp only
          refine ⟨?_, ?_, ?_⟩ <;> (first | with_reducible assumption | omega | ((with_reducible refine y_Vl ?_ ?_) <;> omega) | (unfold y_Ty; omega) | ((with_reducible refine y_Up_add (by with_reducible assumption) ?_ ?_ ?_) <;> omega) | (exact Or.inl (by omega)) | (exact Or.inr (by (unfold y_Ty; omega))))
        · skip
          have e11 : (200 : Int32).toInt = 200 := rfl
          have c9' := c9
          rw [← Int32.toInt_inj] at c9'
          refine y_gd (y_gdI (by omega) (by omega)) ?_
          refine y_gd (y_gdI (by omega) (by omega)) ?_
          try have e12 := @y_addL v9_1 (1 : Int32) (1) rfl (by omega) (by omega)
          try have e13 := @y_cl v9_1 (by omega)
          refine y_some ?_
          try dsimp only
          refine ⟨?_, ?_, ?_⟩ <;> (first | with_reducible assumption | omega | ((with_reducible refine y_Vl ?_ ?_) <;> omega) | (unfold y_Ty; omega) | ((with_reducible refine y_Up_add (by with_reducible assumption) ?_ ?_ ?_) <;> omega) | (exact Or.inl (by omega)) | (exact Or.inr (by (unfold y_Ty; omega))))
      · skip
        have c8' := c8
        rw [← Int32.toInt_inj] at c8'
        refine y_if (fun c15 => ?_) (fun c15 => ?_)
        · skip
          have c15' := c15
          rw [← Int32.toInt_inj] at c15'
          refine y_if (fun c16 => ?_) (fun c16 => ?_)
          · skip
            have e17 : (200 : Int32).toInt = 200 := rfl
            have c16' := c16
            rw [← Int32.toInt_inj] at c16'
            refine y_bi (y_X9_full) (fun r_16 h_r_16 => ?_)
            obtain ⟨h0_r_16, h1_r_16⟩ := h_r_16
            refine y_some ?_
            try dsimp only
            refine ⟨?_, ?_, ?_⟩ <;> (first | with_reducible assumption | omega | ((with_reducible refine y_Vl ?_ ?_) <;> omega) | (unfold y_Ty; omega) | ((with_reducible refine y_Up_add (by with_reducible assumption) ?_ ?_ ?_) <;> omega) | (exact Or.inl (by omega)) | (exact Or.inr (by (unfold y_Ty; omega))))
          · skip
            have e18 : (200 : Int32).toInt = 200 := rfl
            have c16' := c16
            rw [← Int32.toInt_inj] at c16'
            refine y_gd (y_gdI (by omega) (by omega)) ?_
            refine y_gd (y_gdI (by omega) (by omega)) ?_
            try have e19 := @y_addL v9_1 (1 : Int32) (1) rfl (by omega) (by omega)
            try have e20 := @y_cl v9_1 (by omega)
            refine y_some ?_
            try dsimp only
            refine ⟨?_, ?_, ?_⟩ <;> (first | with_reducible assumption | omega | ((with_reducible refine y_Vl ?_ ?_) <;> omega) | (unfold y_Ty; omega) | ((with_reducible refine y_Up_add (by with_reducible assumption) ?_ ?_ ?_) <;> omega) | (exact Or.inl (by omega)) | (exact Or.inr (by (unfold y_Ty; omega))))
        · skip
          have c15' := c15
          rw [← Int32.toInt_inj] at c15'
          refine y_bi (y_X9_bad) (fun r_17 h_r_17 => ?_)
          obtain ⟨h0_r_17, h1_r_17⟩ := h_r_17
          refine y_some ?_
          try dsimp only
          refine ⟨?_, ?_, ?_⟩ <;> (first | with_reducible assumption | omega | ((with_reducible refine y_Vl ?_ ?_) <;> omega) | (unfold y_Ty; omega) | ((with_reducible refine y_Up_add (by with_reducible assumption) ?_ ?_ ?_) <;> omega) | (exact Or.inl (by omega)) | (exact Or.inr (by (unfold y_Ty; omega))))
    · skip
      try have e22 := @y_cl p1 (by omega)
      have c6' := c6
      rw [← Int32.toInt_inj] at c6'
      refine y_bi (y_X9_bad) (fun r_6 h_r_6 => ?_)
      obtain ⟨h0_r_6, h1_r_6⟩ := h_r_6
      refine y_some ?_
      try dsimp only
      refine ⟨?_, ?_, ?_⟩ <;> (first | with_reducible assumption | omega | ((with_reducible refine y_Vl ?_ ?_) <;> omega) | (unfold y_Ty; omega) | ((with_reducible refine y_Up_add (by with_reducible assumption) ?_ ?_ ?_) <;> omega) | (exact Or.inl (by omega)) | (exact Or.inr (by (unfold y_Ty; omega))))
set_option maxHeartbeats 4000000 in
theorem y_X9_field {v9_0 : Int32} {v9_1 : Int32} {v9_2 : Int32} {g9_6 : Nat → Int32} {g9_7 : Nat → Int32} {p1 : Int32} {p2 : Int32} (k0 : 4 ≤ v9_1.toInt) (k1 : v9_1.toInt ≤ 200) (k2 : 0 ≤ v9_2.toInt) (k3 : v9_2.toInt ≤ 100) (k4 : y_Rg 100 0 199 g9_6) (k5 : y_ATy 100 g9_7) : y_Ok (f_X9_field v9_0 v9_1 v9_2 g9_6 g9_7 p1 p2) (fun r => (0 ≤ r.2.2.1.toInt) ∧ (r.2.2.1.toInt ≤ 100) ∧ (y_Rg 100 0 199 r.2.2.2.1) ∧ (y_ATy 100 r.2.2.2.2)) := by
  unfold f_X9_field
  refine y_bi (y_X9_isClass) (fun r_1 h_r_1 => ?_)
  have h0_r_1 : (r_1.toInt = 0 ∧ ¬ (0 ≤ p1.toInt ∧ p1.toInt < v9_1.toInt)) ∨ (r_1.toInt = 1 ∧ (0 ≤ p1.toInt ∧ p1.toInt < v9_1.toInt)) := h_r_1
  refine y_if (fun c1 => ?_) (fun c1 => ?_)
  · skip
    have e2 : (0 : Int32).toInt = 0 := rfl
    have c1' := c1
    rw [← Int32.toInt_inj] at c1'
    have e3 := y_or0 h0_r_1 c1'
    clear h0_r_1
    refine y_bi (y_X9_bad) (fun r_3 h_r_3 => ?_)
    obtain ⟨h0_r_3, h1_r_3⟩ := h_r_3
    refine y_some ?_
    try dsimp only
    refine ⟨?_, ?_, ?_, ?_⟩ <;> (first | with_reducible assumption | omega | ((with_reducible refine y_Vl ?_ ?_) <;> omega) | (unfold y_Ty; omega) | ((with_reducible refine y_Up_add (by with_reducible assumption) ?_ ?_ ?_) <;> omega) | (exact Or.inl (by omega)) | (exact Or.inr (by (unfold y_Ty; omega))))
  · skip
    have e4 : (0 : Int32).toInt = 0 := rfl
    have c1' := c1
    rw [← Int32.toInt_inj] at c1'
    have e5 := y_or1 h0_r_1 c1'
    clear h0_r_1
    refine y_bi (y_X9_isType (by omega) (by omega)) (fun r_4 h_r_4 => ?_)
    have h0_r_4 : (r_4.toInt = 0 ∧ ¬ (0 ≤ p2.toInt ∧ p2.toInt < 16777216 ∧ (p2.toInt % 65536 < v9_1.toInt ∨ 65528 ≤ p2.toInt % 65536))) ∨ (r_4.toInt = 1 ∧ (0 ≤ p2.toInt ∧ p2.toInt < 16777216 ∧ (p2.toInt % 65536 < v9_1.toInt ∨ 65528 ≤ p2.toInt % 65536))) := h_r_4
    refine y_if (fun c6 => ?_) (fun c6 => ?_)
    · skip
      have c6' := c6
      rw [← Int32.toInt_inj] at c6'
      have e7 := y_or0 h0_r_4 c6'
      clear h0_r_4
      refine y_bi (y_X9_bad) (fun r_10 h_r_10 => ?_)
      obtain ⟨h0_r_10, h1_r_10⟩ := h_r_10
      refine y_some ?_
      try dsimp only
      refine ⟨?_, ?_, ?_, ?_⟩ <;> (first | with_reducible assumption | omega | ((with_reducible refine y_Vl ?_ ?_) <;> omega) | (unfold y_Ty; omega) | ((with_reducible refine y_Up_add (by with_reducible assumption) ?_ ?_ ?_) <;> omega) | (exact Or.inl (by omega)) | (exact Or.inr (by (unfold y_Ty; omega))))
    · skip
      have c6' := c6
      rw [← Int32.toInt_inj] at c6'
      have e8 := y_or1 h0_r_4 c6'
      clear h0_r_4
      refine y_if (fun c9 => ?_) (fun c9 => ?_)
      · skip
        have e10 : (100 : Int32).toInt = 100 := rfl
        have c9' := c9
        rw [← Int32.toInt_inj] at c9'
        refine y_bi (y_X9_full) (fun r_9 h_r_9 => ?_)
        obtain ⟨h0_r_9, h1_r_9⟩ := h_r_9
        refine y_some ?_
        try dsimp only
        refine ⟨?_, ?_, ?_, ?_⟩ <;> (first | with_reducible assumption | omega | ((with_reducible refine y_Vl ?_ ?_) <;> omega) | (unfold y_Ty; omega) | ((with_reducible refine y_Up_add (by with_reducible assumption) ?_ ?_ ?_) <;> omega) | (exact Or.inl (by omega)) | (exact Or.inr (by (unfold y_Ty; omega))))
      · skip
        have e11 : (100 : Int32).toInt = 100 := rfl
        have c9' := c9
        rw [← Int32.toInt_inj] at c9'
        refine y_gd (y_gdI (by omega) (by omega)) ?_
        refine y_gd (y_gdI (by omega) (by omega)) ?_
        try have e12 := @y_addL v9_2 (1 : Int32) (1) rfl (by omega) (by omega)
        try have e13 := @y_cl v9_2 (by omega)
        try have e14 : y_Rg 100 0 199 (upd g9_6 (Int32.toNatClampNeg v9_2) p1) := y_Rg_upd k4 (by omega) (by omega)
        try have e15 : y_ATy 100 (upd g9_7 (Int32.toNatClampNeg v9_2) p2) := y_ATy_upd k5 (by first | with_reducible assumption | omega | ((with_reducible refine y_Vl ?_ ?_) <;> omega) | (unfold y_Ty; omega) | ((with_reducible refine y_Up_add (by with_reducible assumption) ?_ ?_ ?_) <;> omega) | (exact Or.inl (by omega)) | (exact Or.inr (by (unfold y_Ty; omega))))
        refine y_some ?_
        try dsimp only
        refine ⟨?_, ?_, ?_, ?_⟩ <;> (first | with_reducible assumption | omega | ((with_reducible refine y_Vl ?_ ?_) <;> omega) | (unfold y_Ty; omega) | ((with_reducible refine y_Up_add (by with_reducible assumption) ?_ ?_ ?_) <;> omega) | (exact Or.inl (by omega)) | (exact Or.inr (by (unfold y_Ty; omega))))
set_option maxHeartbeats 4000000 in
theorem y_X9_shape {v9_0 : Int32} {v9_1 : Int32} {v9_3 : Int32} {g9_5 : Nat → Int32} {g9_8 : Nat → Int32} {g9_9 : Nat → Int32} {g9_10 : Nat → Int32} {g9_12 : Nat → Int32} {p1 : Int32} {p2 : Int32} {p3 : Int32} (k0 : 4 ≤ v9_1.toInt) (k1 : v9_1.toInt ≤ 200) (k2 : 0 ≤ v9_3.toInt) (k3 : v9_3.toInt ≤ 100) (k4 : y_Rg 100 0 199 g9_8) (k5 : y_ARs 100 g9_9) (k6 : y_Rg 100 0 20 g9_10) : y_Ok (f_X9_shape v9_0 v9_1 v9_3 g9_5 g9_8 g9_9 g9_10 g9_12 p1 p2 p3) (fun r => (0 ≤ r.2.2.1.toInt) ∧ (r.2.2.1.toInt ≤ 100) ∧ (y_Rg 100 0 199 r.2.2.2.1) ∧ (y_ARs 100 r.2.2.2.2.1) ∧ (y_Rg 100 0 20 r.2.2.2.2.2.1)) := by
  unfold f_X9_shape
  refine y_bi (y_X9_isClass) (fun r_1 h_r_1 => ?_)
  have h0_r_1 : (r_1.toInt = 0 ∧ ¬ (0 ≤ p1.toInt ∧ p1.toInt < v9_1.toInt)) ∨ (r_1.toInt = 1 ∧ (0 ≤ p1.toInt ∧ p1.toInt < v9_1.toInt)) := h_r_1
  refine y_if (fun c1 => ?_) (fun c1 => ?_)
  · skip
    have e2 : (0 : Int32).toInt = 0 := rfl
    have c1' := c1
    rw [← Int32.toInt_inj] at c1'
    have e3 := y_or0 h0_r_1 c1'
    clear h0_r_1
    refine y_bi (y_X9_bad) (fun r_3 h_r_3 => ?_)
    obtain ⟨h0_r_3, h1_r_3⟩ := h_r_3
    refine y_some ?_
    try dsimp only
    refine ⟨?_, ?_, ?_, ?_, ?_⟩ <;> (first | with_reducible assumption | omega | ((with_reducible refine y_Vl ?_ ?_) <;> omega) | (unfold y_Ty; omega) | ((with_reducible refine y_Up_add (by with_reducible assumption) ?_ ?_ ?_) <;> omega) | (exact Or.inl (by omega)) | (exact Or.inr (by (unfold y_Ty; omega))))
  · skip
    have e4 : (0 : Int32).toInt = 0 := rfl
    have c1' := c1
    rw [← Int32.toInt_inj] at c1'
    have e5 := y_or1 h0_r_1 c1'
    clear h0_r_1
    refine y_if (fun c6 => ?_) (fun c6 => ?_)
    · skip
      have e7 : (-1 : Int32).toInt = -1 := rfl
      have c6' := c6
      rw [← Int32.toInt_inj] at c6'
      refine y_if (fun c8 => ?_) (fun c8 => ?_)
      · skip
        have c8' := c8
        rw [← Int32.toInt_inj] at c8'
        refine y_if (fun c9 => ?_) (fun c9 => ?_)
        · skip
          have e10 : (100 : Int32).toInt = 100 := rfl
          have c9' := c9
          rw [← Int32.toInt_inj] at c9'
          refine y_bi (y_X9_full) (fun r_11 h_r_11 => ?_)
          obtain ⟨h0_r_11, h1_r_11⟩ := h_r_11
          refine y_some ?_
          try dsimp only
          refine ⟨?_, ?_, ?_, ?_, ?_⟩ <;> (first | with_reducible assumption | omega | ((with_reducible refine y_Vl ?_ ?_) <;> omega) | (unfold y_Ty; omega) | ((with_reducible refine y_Up_add (by with_reducible assumption) ?_ ?_ ?_) <;> omega) | (exact Or.inl (by omega)) | (exact Or.inr (by (unfold y_Ty; omega))))
        · skip
          have e11 : (100 : Int32).toInt = 100 := rfl
          have c9' := c9
          rw [← Int32.toInt_inj] at c9'
          refine y_gd (y_gdI (by omega) (by omega)) ?_
          refine y_gd (y_gdI (by omega) (by omega)) ?_
          refine y_gd (y_gdI (by omega) (by omega)) ?_
          refine y_gd (y_gdI (by omega) (by omega)) ?_
          try have e12 := @y_addL v9_3 (1 : Int32) (1) rfl (by omega) (by omega)
          try have e13 := @y_cl v9_3 (by omega)
          try have e14 : y_Rg 100 0 199 (upd g9_8 (Int32.toNatClampNeg v9_3) p1) := y_Rg_upd k4 (by omega) (by omega)
          try have e15 : y_ARs 100 (upd g9_9 (Int32.toNatClampNeg v9_3) p2) := y_ARs_upd k5 (by first | with_reducible assumption | omega | ((with_reducible refine y_Vl ?_ ?_) <;> omega) | (unfold y_Ty; omega) | ((with_reducible refine y_Up_add (by with_reducible assumption) ?_ ?_ ?_) <;> omega) | (exact Or.inl (by omega)) | (exact Or.inr (by (unfold y_Ty; omega))))
          try have e16 : y_Rg 100 0 20 (upd g9_10 (Int32.toNatClampNeg v9_3) (0 : Int32)) := y_Rg_upd k6 (by omega) (by omega)
          refine y_some ?_
          try dsimp only
          refine ⟨?_, ?_, ?_, ?_, ?_⟩ <;> (first | with_reducible assumption | omega | ((with_reducible refine y_Vl ?_ ?_) <;> omega) | (unfold y_Ty; omega) | ((with_reducible refine y_Up_add (by with_reducible assumption) ?_ ?_ ?_) <;> omega) | (exact Or.inl (by omega)) | (exact Or.inr (by (unfold y_Ty; omega))))
      · skip
        have c8' := c8
        rw [← Int32.toInt_inj] at c8'
        refine y_if (fun c17 => ?_) (fun c17 => ?_)
        · skip
          have c17' := c17
          rw [← Int32.toInt_inj] at c17'
          refine y_gd (y_gdI (by omega) (by omega)) ?_
          refine y_if (fun c18 => ?_) (fun c18 => ?_)
          · skip
            try have e19 := @y_cl p1 (by omega)
            have c18' := c18
            rw [← Int32.toInt_inj] at c18'
            refine y_if (fun c20 => ?_) (fun c20 => ?_)
            · skip
              have e21 : (100 : Int32).toInt = 100 := rfl
              have c20' := c20
              rw [← Int32.toInt_inj] at c20'
              refine y_bi (y_X9_full) (fun r_21 h_r_21 => ?_)
              obtain ⟨h0_r_21, h1_r_21⟩ := h_r_21
              refine y_some ?_
              try dsimp only
              refine ⟨?_, ?_, ?_, ?_, ?_⟩ <;> (first | with_reducible assumption | omega | ((with_reducible refine y_Vl ?_ ?_) <;> omega) | (unfold y_Ty; omega) | ((with_reducible refine y_Up_add (by with_reducible assumption) ?_ ?_ ?_) <;> omega) | (exact Or.inl (by omega)) | (exact Or.inr (by (unfold y_Ty; omega))))
            · skip
              have e22 : (100 : Int32).toInt = 100 := rfl
              have c20' := c20
              rw [← Int32.toInt_inj] at c20'
              refine y_gd (y_gdI (by omega) (by omega)) ?_
              refine y_gd (y_gdI (by omega) (by omega)) ?_
              refine y_gd (y_gdI (by omega) (by omega)) ?_
              refine y_gd (y_gdI (by omega) (by omega)) ?_
              try have e23 := @y_addL v9_3 (1 : Int32) (1) rfl (by omega) (by omega)
              try have e24 := @y_cl v9_3 (by omega)
              try have e25 : y_Rg 100 0 199 (upd g9_8 (Int32.toNatClampNeg v9_3) p1) := y_Rg_upd k4 (by omega) (by omega)
              try have e26 : y_ARs 100 (upd g9_9 (Int32.toNatClampNeg v9_3) p2) := y_ARs_upd k5 (by first | with_reducible assumption | omega | ((with_reducible refine y_Vl ?_ ?_) <;> omega) | (unfold y_Ty; omega) | ((with_reducible refine y_Up_add (by with_reducible assumption) ?_ ?_ ?_) <;> omega) | (exact Or.inl (by omega)) | (exact Or.inr (by (unfold y_Ty; omega))))
              try have e27 : y_Rg 100 0 20 (upd g9_10 (Int32.toNatClampNeg v9_3) (0 : Int32)) := y_Rg_upd k6 (by omega) (by omega)
              refine y_some ?_
              try dsimp only
              refine ⟨?_, ?_, ?_, ?_, ?_⟩ <;> (first | with_reducible assumption | omega | ((with_reducible refine y_Vl ?_ ?_) <;> omega) | (unfold y_Ty; omega) | ((with_reducible refine y_Up_add (by with_reducible assumption) ?_ ?_ ?_) <;> omega) | (exact Or.inl (by omega)) | (exact Or.inr (by (unfold y_Ty; omega))))
          · skip
            try have e28 := @y_cl p1 (by omega)
            have c18' := c18
            rw [← Int32.toInt_inj] at c18'
            refine y_bi (y_X9_bad) (fun r_22 h_r_22 => ?_)
            obtain ⟨h0_r_22, h1_r_22⟩ := h_r_22
            refine y_some ?_
            try dsimp only
            refine ⟨?_, ?_, ?_, ?_, ?_⟩ <;> (first | with_reducible assumption | omega | ((with_reducible refine y_Vl ?_ ?_) <;> omega) | (unfold y_Ty; omega) | ((with_reducible refine y_Up_add (by with_reducible assumption) ?_ ?_ ?_) <;> omega) | (exact Or.inl (by omega)) | (exact Or.inr (by (unfold y_Ty; omega))))
        · skip
          have c17' := c17
          rw [← Int32.toInt_inj] at c17'
          refine y_bi (y_X9_bad) (fun r_13 h_r_13 => ?_)
          obtain ⟨h0_r_13, h1_r_13⟩ := h_r_13
          refine y_some ?_
          try dsimp only
          refine ⟨?_, ?_, ?_, ?_, ?_⟩ <;> (first | with_reducible assumption | omega | ((with_reducible refine y_Vl ?_ ?_) <;> omega) | (unfold y_Ty; omega) | ((with_reducible refine y_Up_add (by with_reducible assumption) ?_ ?_ ?_) <;> omega) | (exact Or.inl (by omega)) | (exact Or.inr (by (unfold y_Ty; omega))))
    · skip
      have e29 : (-1 : Int32).toInt = -1 := rfl
      have c6' := c6
      rw [← Int32.toInt_inj] at c6'
      refine y_bi (y_X9_isType (by omega) (by omega)) (fun r_23 h_r_23 => ?_)
      have h0_r_23 : (r_23.toInt = 0 ∧ ¬ (0 ≤ p2.toInt ∧ p2.toInt < 16777216 ∧ (p2.toInt % 65536 < v9_1.toInt ∨ 65528 ≤ p2.toInt % 65536))) ∨ (r_23.toInt = 1 ∧ (0 ≤ p2.toInt ∧ p2.toInt < 16777216 ∧ (p2.toInt % 65536 < v9_1.toInt ∨ 65528 ≤ p2.toInt % 65536))) := h_r_23
      refine y_if (fun c30 => ?_) (fun c30 => ?_)
      · skip
        have c30' := c30
        rw [← Int32.toInt_inj] at c30'
        have e31 := y_or0 h0_r_23 c30'
        clear h0_r_23
        refine y_bi (y_X9_bad) (fun r_25 h_r_25 => ?_)
        obtain ⟨h0_r_25, h1_r_25⟩ := h_r_25
        refine y_some ?_
        try dsimp only
        refine ⟨?_, ?_, ?_, ?_, ?_⟩ <;> (first | with_reducible assumption | omega | ((with_reducible refine y_Vl ?_ ?_) <;> omega) | (unfold y_Ty; omega) | ((with_reducible refine y_Up_add (by with_reducible assumption) ?_ ?_ ?_) <;> omega) | (exact Or.inl (by omega)) | (exact Or.inr (by (unfold y_Ty; omega))))
      · skip
        have c30' := c30
        rw [← Int32.toInt_inj] at c30'
        have e32 := y_or1 h0_r_23 c30'
        clear h0_r_23
        refine y_if (fun c33 => ?_) (fun c33 => ?_)
        · skip
          have c33' := c33
          rw [← Int32.toInt_inj] at c33'
          refine y_if (fun c34 => ?_) (fun c34 => ?_)
          · skip
            have e35 : (100 : Int32).toInt = 100 := rfl
            have c34' := c34
            rw [← Int32.toInt_inj] at c34'
            refine y_bi (y_X9_full) (fun r_32 h_r_32 => ?_)
            obtain ⟨h0_r_32, h1_r_32⟩ := h_r_32
            refine y_some ?_
            try dsimp only
            refine ⟨?_, ?_, ?_, ?_, ?_⟩ <;> (first | with_reducible assumption | omega | ((with_reducible refine y_Vl ?_ ?_) <;> omega) | (unfold y_Ty; omega) | ((with_reducible refine y_Up_add (by with_reducible assumption) ?_ ?_ ?_) <;> omega) | (exact Or.inl (by omega)) | (exact Or.inr (by (unfold y_Ty; omega))))
          · skip
            have e36 : (100 : Int32).toInt = 100 := rfl
            have c34' := c34
            rw [← Int32.toInt_inj] at c34'
            refine y_gd (y_gdI (by omega) (by omega)) ?_
            refine y_gd (y_gdI (by omega) (by omega)) ?_
            refine y_gd (y_gdI (by omega) (by omega)) ?_
            refine y_gd (y_gdI (by omega) (by omega)) ?_
            try have e37 := @y_addL v9_3 (1 : Int32) (1) rfl (by omega) (by omega)
            try have e38 := @y_cl v9_3 (by omega)
            try have e39 : y_Rg 100 0 199 (upd g9_8 (Int32.toNatClampNeg v9_3) p1) := y_Rg_upd k4 (by omega) (by omega)
            try have e40 : y_ARs 100 (upd g9_9 (Int32.toNatClampNeg v9_3) p2) := y_ARs_upd k5 (by first | with_reducible assumption | omega | ((with_reducible refine y_Vl ?_ ?_) <;> omega) | (unfold y_Ty; omega) | ((with_reducible refine y_Up_add (by with_reducible assumption) ?_ ?_ ?_) <;> omega) | (exact Or.inl (by omega)) | (exact Or.inr (by (unfold y_Ty; omega))))
            try have e41 : y_Rg 100 0 20 (upd g9_10 (Int32.toNatClampNeg v9_3) (0 : Int32)) := y_Rg_upd k6 (by omega) (by omega)
            refine y_some ?_
            try dsimp only
            refine ⟨?_, ?_, ?_, ?_, ?_⟩ <;> (first | with_reducible assumption | omega | ((with_reducible refine y_Vl ?_ ?_) <;> omega) | (unfold y_Ty; omega) | ((with_reducible refine y_Up_add (by with_reducible assumption) ?_ ?_ ?_) <;> omega) | (exact Or.inl (by omega)) | (exact Or.inr (by (unfold y_Ty; omega))))
        · skip
          have c33' := c33
          rw [← Int32.toInt_inj] at c33'
          refine y_if (fun c42 => ?_) (fun c42 => ?_)
          · skip
            have c42' := c42
            rw [← Int32.toInt_inj] at c42'
            refine y_gd (y_gdI (by omega) (by omega)) ?_
            refine y_if (fun c43 => ?_) (fun c43 => ?_)
            · skip
              try have e44 := @y_cl p1 (by omega)
              have c43' := c43
              rw [← Int32.toInt_inj] at c43'
              refine y_if (fun c45 => ?_) (fun c45 => ?_)
              · skip
                have e46 : (100 : Int32).toInt = 100 := rfl
                have c45' := c45
                rw [← Int32.toInt_inj] at c45'
                refine y_bi (y_X9_full) (fun r_42 h_r_42 => ?_)
                obtain ⟨h0_r_42, h1_r_42⟩ := h_r_42
                refine y_some ?_
                try dsimp only
                refine ⟨?_, ?_, ?_, ?_, ?_⟩ <;> (first | with_reducible assumption | omega | ((with_reducible refine y_Vl ?_ ?_) <;> omega) | (unfold y_Ty; omega) | ((with_reducible refine y_Up_add (by with_reducible assumption) ?_ ?_ ?_) <;> omega) | (exact Or.inl (by omega)) | (exact Or.inr (by (unfold y_Ty; omega))))
              · skip
                have e47 : (100 : Int32).toInt = 100 := rfl
                have c45' := c45
                rw [← Int32.toInt_inj] at c45'
                refine y_gd (y_gdI (by omega) (by omega)) ?_
                refine y_gd (y_gdI (by omega) (by omega)) ?_
                refine y_gd (y_gdI (by omega) (by omega)) ?_
                refine y_gd (y_gdI (by omega) (by omega)) ?_
                try have e48 := @y_addL v9_3 (1 : Int32) (1) rfl (by omega) (by omega)
                try have e49 := @y_cl v9_3 (by omega)
                try have e50 : y_Rg 100 0 199 (upd g9_8 (Int32.toNatClampNeg v9_3) p1) := y_Rg_upd k4 (by omega) (by omega)
                try have e51 : y_ARs 100 (upd g9_9 (Int32.toNatClampNeg v9_3) p2) := y_ARs_upd k5 (by first | with_reducible assumption | omega | ((with_reducible refine y_Vl ?_ ?_) <;> omega) | (unfold y_Ty; omega) | ((with_reducible refine y_Up_add (by with_reducible assumption) ?_ ?_ ?_) <;> omega) | (exact Or.inl (by omega)) | (exact Or.inr (by (unfold y_Ty; omega))))
                try have e52 : y_Rg 100 0 20 (upd g9_10 (Int32.toNatClampNeg v9_3) (0 : Int32)) := y_Rg_upd k6 (by omega) (by omega)
                refine y_some ?_
                try dsimp only
                refine ⟨?_, ?_, ?_, ?_, ?_⟩ <;> (first | with_reducible assumption | omega | ((with_reducible refine y_Vl ?_ ?_) <;> omega) | (unfold y_Ty; omega) | ((with_reducible refine y_Up_add (by with_reducible assumption) ?_ ?_ ?_) <;> omega) | (exact Or.inl (by omega)) | (exact Or.inr (by (unfold y_Ty; omega))))
            · skip
              try have e53 := @y_cl p1 (by omega)
              have c43' := c43
              rw [← Int32.toInt_inj] at c43'
              refine y_bi (y_X9_bad) (fun r_43 h_r_43 => ?_)
              obtain ⟨h0_r_43, h1_r_43⟩ := h_r_43
              refine y_some ?_
              try dsimp only
              refine ⟨?_, ?_, ?_, ?_, ?_⟩ <;> (first | with_reducible assumption | omega | ((with_reducible refine y_Vl ?_ ?_) <;> omega) | (unfold y_Ty; omega) | ((with_reducible refine y_Up_add (by with_reducible assumption) ?_ ?_ ?_) <;> omega) | (exact Or.inl (by omega)) | (exact Or.inr (by (unfold y_Ty; omega))))
          · skip
            have c42' := c42
            rw [← Int32.toInt_inj] at c42'
            refine y_bi (y_X9_bad) (fun r_34 h_r_34 => ?_)
            obtain ⟨h0_r_34, h1_r_34⟩ := h_r_34
            refine y_some ?_
            try dsimp only
            refine ⟨?_, ?_, ?_, ?_, ?_⟩ <;> (first | with_reducible assumption | omega | ((with_reducible refine y_Vl ?_ ?_) <;> omega) | (unfold y_Ty; omega) | ((with_reducible refine y_Up_add (by with_reducible assumption) ?_ ?_ ?_) <;> omega) | (exact Or.inl (by omega)) | (exact Or.inr (by (unfold y_Ty; omega))))
set_option maxHeartbeats 4000000 in
theorem y_X9_takes {v9_0 : Int32} {v9_1 : Int32} {v9_3 : Int32} {g9_10 : Nat → Int32} {g9_11 : Nat → Int32} {p1 : Int32} (k0 : 4 ≤ v9_1.toInt) (k1 : v9_1.toInt ≤ 200) (k2 : 0 ≤ v9_3.toInt) (k3 : v9_3.toInt ≤ 100) (k4 : y_Rg 100 0 20 g9_10) (k5 : y_ATy 2000 g9_11) : y_Ok (f_X9_takes v9_0 v9_1 v9_3 g9_10 g9_11 p1) (fun r => (y_Rg 100 0 20 r.2.2.1) ∧ (y_ATy 2000 r.2.2.2)) := by
  unfold f_X9_takes
  refine y_bi (y_X9_isType (by omega) (by omega)) (fun r_1 h_r_1 => ?_)
  have h0_r_1 : (r_1.toInt = 0 ∧ ¬ (0 ≤ p1.toInt ∧ p1.toInt < 16777216 ∧ (p1.toInt % 65536 < v9_1.toInt ∨ 65528 ≤ p1.toInt % 65536))) ∨ (r_1.toInt = 1 ∧ (0 ≤ p1.toInt ∧ p1.toInt < 16777216 ∧ (p1.toInt % 65536 < v9_1.toInt ∨ 65528 ≤ p1.toInt % 65536))) := h_r_1
  refine y_if (fun c1 => ?_) (fun c1 => ?_)
  · skip
    have e2 : (0 : Int32).toInt = 0 := rfl
    have c1' := c1
    rw [← Int32.toInt_inj] at c1'
    have e3 := y_or0 h0_r_1 c1'
    clear h0_r_1
    refine y_bi (y_X9_bad) (fun r_13 h_r_13 => ?_)
    obtain ⟨h0_r_13, h1_r_13⟩ := h_r_13
    refine y_some ?_
    try dsimp only
    refine ⟨?_, ?_⟩ <;> (first | with_reducible assumption | omega | ((with_reducible refine y_Vl ?_ ?_) <;> omega) | (unfold y_Ty; omega) | ((with_reducible refine y_Up_add (by with_reducible assumption) ?_ ?_ ?_) <;> omega) | (exact Or.inl (by omega)) | (exact Or.inr (by (unfold y_Ty; omega))))
  · skip
    have e4 : (0 : Int32).toInt = 0 := rfl
    have c1' := c1
    rw [← Int32.toInt_inj] at c1'
    have e5 := y_or1 h0_r_1 c1'
    clear h0_r_1
    refine y_if (fun c6 => ?_) (fun c6 => ?_)
    · skip
      have c6' := c6
      rw [← Int32.toInt_inj] at c6'
      refine y_bi (y_X9_full) (fun r_4 h_r_4 => ?_)
      obtain ⟨h0_r_4, h1_r_4⟩ := h_r_4
      refine y_some ?_
      try dsimp only
      refine ⟨?_, ?_⟩ <;> (first | with_reducible assumption | omega | ((with_reducible refine y_Vl ?_ ?_) <;> omega) | (unfold y_Ty; omega) | ((with_reducible refine y_Up_add (by with_reducible assumption) ?_ ?_ ?_) <;> omega) | (exact Or.inl (by omega)) | (exact Or.inr (by (unfold y_Ty; omega))))
    · skip
      have c6' := c6
      rw [← Int32.toInt_inj] at c6'
      try have e7 := @y_subL v9_3 (1 : Int32) (1) rfl (by omega) (by omega)
      refine y_gd (y_gdI (by omega) (by omega)) ?_
      refine y_if (fun c8 => ?_) (fun c8 => ?_)
      · skip
        try have e9 := @y_cl (v9_3 - (1 : Int32)) (by omega)
        try have e10 := k4.at (Int32.toNatClampNeg (v9_3 - (1 : Int32))) (by omega)
        have e11 : (20 : Int32).toInt = 20 := rfl
        have c8' := c8
        rw [← Int32.toInt_inj] at c8'
        refine y_bi (y_X9_full) (fun r_12 h_r_12 => ?_)
        obtain ⟨h0_r_12, h1_r_12⟩ := h_r_12
        refine y_some ?_
        try dsimp only
        refine ⟨?_, ?_⟩ <;> (first | with_reducible assumption | omega | ((with_reducible refine y_Vl ?_ ?_) <;> omega) | (unfold y_Ty; omega) | ((with_reducible refine y_Up_add (by with_reducible assumption) ?_ ?_ ?_) <;> omega) | (exact Or.inl (by omega)) | (exact Or.inr (by (unfold y_Ty; omega))))
      · skip
        try have e12 := @y_cl (v9_3 - (1 : Int32)) (by omega)
        try have e13 := k4.at (Int32.toNatClampNeg (v9_3 - (1 : Int32))) (by omega)
        have e14 : (20 : Int32).toInt = 20 := rfl
        have c8' := c8
        rw [← Int32.toInt_inj] at c8'
        refine y_gd (y_gdI (by omega) (by omega)) ?_
        try have e15 := @y_mulL (20 : Int32) (v9_3 - (1 : Int32)) 20 rfl (by omega) (by omega)
        try have e16 := @y_add ((20 : Int32) * (v9_3 - (1 : Int32))) (g9_10 (Int32.toNatClampNeg (v9_3 - (1 : Int32)))) (by omega) (by omega)
        refine y_gd (y_gdI (by omega) (by omega)) ?_
        refine y_gd (y_gdI (by omega) (by omega)) ?_
        refine y_gd (y_gdI (by omega) (by omega)) ?_
        refine y_gd (y_gdI (by omega) (by omega)) ?_
        try have e17 := @y_addL (g9_10 (Int32.toNatClampNeg (v9_3 - (1 : Int32)))) (1 : Int32) (1) rfl (by omega) (by omega)
        try have e18 : y_Rg 100 0 20 (upd g9_10 (Int32.toNatClampNeg (v9_3 - (1 : Int32))) ((g9_10 (Int32.toNatClampNeg (v9_3 - (1 : Int32)))) + (1 : Int32))) := y_Rg_upd k4 (by omega) (by omega)
        try have e19 := e18.at (Int32.toNatClampNeg (v9_3 - (1 : Int32))) (by omega)
        try have e20 := @y_cl (((20 : Int32) * (v9_3 - (1 : Int32))) + (g9_10 (Int32.toNatClampNeg (v9_3 - (1 : Int32))))) (by omega)
        try have e21 : y_ATy 2000 (upd g9_11 (Int32.toNatClampNeg (((20 : Int32) * (v9_3 - (1 : Int32))) + (g9_10 (Int32.toNatClampNeg (v9_3 - (1 : Int32)))))) p1) := y_ATy_upd k5 (by first | with_reducible assumption | omega | ((with_reducible refine y_Vl ?_ ?_) <;> omega) | (unfold y_Ty; omega) | ((with_reducible refine y_Up_add (by with_reducible assumption) ?_ ?_ ?_) <;> omega) | (exact Or.inl (by omega)) | (exact Or.inr (by (unfold y_Ty; omega))))
        refine y_some ?_
        try dsimp only
        refine ⟨?_, ?_⟩ <;> (first | with_reducible assumption | omega | ((with_reducible refine y_Vl ?_ ?_) <;> omega) | (unfold y_Ty; omega) | ((with_reducible refine y_Up_add (by with_reducible assumption) ?_ ?_ ?_) <;> omega) | (exact Or.inl (by omega)) | (exact Or.inr (by (unfold y_Ty; omega))))
set_option maxHeartbeats 4000000 in
theorem y_X9_method {v9_0 : Int32} {v9_1 : Int32} {v9_13 : Int32} {v9_14 : Int32} {v9_15 : Int32} {v9_16 : Int32} {v9_17 : Int32} {v9_18 : Int32} {v9_20 : Int32} {v9_21 : Int32} {v9_22 : Int32} {g9_5 : Nat → Int32} {p1 : Int32} {p2 : Int32} {p3 : Int32} {p4 : Int32} {p5 : Int32} {ga gm : Nat → Int32} (k0 : 4 ≤ v9_1.toInt) (k1 : v9_1.toInt ≤ 200) (k2 : 0 ≤ v9_13.toInt) (k3 : v9_13.toInt ≤ 199) (k4 : y_Rs v9_15) (k5 : 0 ≤ v9_16.toInt) (k6 : v9_16.toInt ≤ 200) (k7 : 0 ≤ v9_17.toInt) (k8 : v9_17.toInt ≤ 200) (k9 : 0 ≤ v9_18.toInt) (k10 : v9_18.toInt ≤ 20) (k11 : 0 ≤ v9_20.toInt) (k12 : v9_20.toInt ≤ 1000) (k13 : 0 ≤ v9_21.toInt) (k14 : v9_21.toInt ≤ 50) (k15 : y_TB v9_20.toInt v9_22.toInt ga gm) : y_Ok (f_X9_method v9_0 v9_1 v9_13 v9_14 v9_15 v9_16 v9_17 v9_18 v9_20 v9_21 v9_22 g9_5 p1 p2 p3 p4 p5) (fun r => (0 ≤ r.2.2.1.toInt) ∧ (r.2.2.1.toInt ≤ 199) ∧ (y_Rs r.2.2.2.2.1) ∧ (0 ≤ r.2.2.2.2.2.1.toInt) ∧ (r.2.2.2.2.2.1.toInt ≤ 200) ∧ (0 ≤ r.2.2.2.2.2.2.1.toInt) ∧ (r.2.2.2.2.2.2.1.toInt ≤ 200) ∧ (0 ≤ r.2.2.2.2.2.2.2.1.toInt) ∧ (r.2.2.2.2.2.2.2.1.toInt ≤ 20) ∧ (0 ≤ r.2.2.2.2.2.2.2.2.1.toInt) ∧ (r.2.2.2.2.2.2.2.2.1.toInt ≤ 1000) ∧ (0 ≤ r.2.2.2.2.2.2.2.2.2.1.toInt) ∧ (r.2.2.2.2.2.2.2.2.2.1.toInt ≤ 50) ∧ (y_TB r.2.2.2.2.2.2.2.2.1.toInt r.2.2.2.2.2.2.2.2.2.2.toInt ga gm)) := by
  unfold f_X9_method
  refine y_bi (y_X9_isClass) (fun r_1 h_r_1 => ?_)
  have h0_r_1 : (r_1.toInt = 0 ∧ ¬ (0 ≤ p1.toInt ∧ p1.toInt < v9_1.toInt)) ∨ (r_1.toInt = 1 ∧ (0 ≤ p1.toInt ∧ p1.toInt < v9_1.toInt)) := h_r_1
  refine y_if (fun c1 => ?_) (fun c1 => ?_)
  · skip
    have e2 : (0 : Int32).toInt = 0 := rfl
    have c1' := c1
    rw [← Int32.toInt_inj] at c1'
    have e3 := y_or0 h0_r_1 c1'
    clear h0_r_1
    refine y_bi (y_X9_bad) (fun r_3 h_r_3 => ?_)
    obtain ⟨h0_r_3, h1_r_3⟩ := h_r_3
    refine y_some ?_
    try dsimp only
    refine ⟨?_, ?_, ?_, ?_, ?_, ?_, ?_, ?_, ?_, ?_, ?_, ?_, ?_, ?_⟩ <;> (first | with_reducible assumption | omega | ((with_reducible refine y_Vl ?_ ?_) <;> omega) | (unfold y_Ty; omega) | ((with_reducible refine y_Up_add (by with_reducible assumption) ?_ ?_ ?_) <;> omega) | (exact Or.inl (by omega)) | (exact Or.inr (by (unfold y_Ty; omega))) | ((with_reducible refine y_TB0 ?_ ?_) <;> omega) | ((refine Or.inr ?_); (unfold y_Ty; omega)))
  · skip
    have e4 : (0 : Int32).toInt = 0 := rfl
    have c1' := c1
    rw [← Int32.toInt_inj] at c1'
    have e5 := y_or1 h0_r_1 c1'
    clear h0_r_1
    refine y_if (fun c6 => ?_) (fun c6 => ?_)
    · skip
      have c6' := c6
      rw [Int32.lt_iff_toInt_lt] at c6'
      refine y_bi (y_X9_bad) (fun r_5 h_r_5 => ?_)
      obtain ⟨h0_r_5, h1_r_5⟩ := h_r_5
      refine y_some ?_
      try dsimp only
      refine ⟨?_, ?_, ?_, ?_, ?_, ?_, ?_, ?_, ?_, ?_, ?_, ?_, ?_, ?_⟩ <;> (first | with_reducible assumption | omega | ((with_reducible refine y_Vl ?_ ?_) <;> omega) | (unfold y_Ty; omega) | ((with_reducible refine y_Up_add (by with_reducible assumption) ?_ ?_ ?_) <;> omega) | (exact Or.inl (by omega)) | (exact Or.inr (by (unfold y_Ty; omega))) | ((with_reducible refine y_TB0 ?_ ?_) <;> omega) | ((refine Or.inr ?_); (unfold y_Ty; omega)))
    · skip
      have c6' := c6
      rw [Int32.lt_iff_toInt_lt] at c6'
      refine y_if (fun c7 => ?_) (fun c7 => ?_)
      · skip
        have e8 : (2 : Int32).toInt = 2 := rfl
        have c7' := c7
        rw [Int32.lt_iff_toInt_lt] at c7'
        refine y_bi (y_X9_bad) (fun r_7 h_r_7 => ?_)
        obtain ⟨h0_r_7, h1_r_7⟩ := h_r_7
        refine y_some ?_
        try dsimp only
        refine ⟨?_, ?_, ?_, ?_, ?_, ?_, ?_, ?_, ?_, ?_, ?_, ?_, ?_, ?_⟩ <;> (first | with_reducible assumption | omega | ((with_reducible refine y_Vl ?_ ?_) <;> omega) | (unfold y_Ty; omega) | ((with_reducible refine y_Up_add (by with_reducible assumption) ?_ ?_ ?_) <;> omega) | (exact Or.inl (by omega)) | (exact Or.inr (by (unfold y_Ty; omega))) | ((with_reducible refine y_TB0 ?_ ?_) <;> omega) | ((refine Or.inr ?_); (unfold y_Ty; omega)))
      · skip
        have e9 : (2 : Int32).toInt = 2 := rfl
        have c7' := c7
        rw [Int32.lt_iff_toInt_lt] at c7'
        refine y_if (fun c10 => ?_) (fun c10 => ?_)
        · skip
          have e11 : (-1 : Int32).toInt = -1 := rfl
          have c10' := c10
          rw [← Int32.toInt_inj] at c10'
          refine y_if (fun c12 => ?_) (fun c12 => ?_)
          · skip
            have c12' := c12
            rw [← Int32.toInt_inj] at c12'
            refine y_gd (y_gdI (by omega) (by omega)) ?_
            refine y_if (fun c13 => ?_) (fun c13 => ?_)
            · skip
              try have e14 := @y_cl p1 (by omega)
              have c13' := c13
              rw [← Int32.toInt_inj] at c13'
              refine y_if (fun c15 => ?_) (fun c15 => ?_)
              · skip
                have c15' := c15
                rw [Int32.lt_iff_toInt_lt] at c15'
                refine y_bi (y_X9_bad) (fun r_22 h_r_22 => ?_)
                obtain ⟨h0_r_22, h1_r_22⟩ := h_r_22
                refine y_some ?_
                try dsimp only
                refine ⟨?_, ?_, ?_, ?_, ?_, ?_, ?_, ?_, ?_, ?_, ?_, ?_, ?_, ?_⟩ <;> (first | with_reducible assumption | omega | ((with_reducible refine y_Vl ?_ ?_) <;> omega) | (unfold y_Ty; omega) | ((with_reducible refine y_Up_add (by with_reducible assumption) ?_ ?_ ?_) <;> omega) | (exact Or.inl (by omega)) | (exact Or.inr (by (unfold y_Ty; omega))) | ((with_reducible refine y_TB0 ?_ ?_) <;> omega) | ((refine Or.inr ?_); (unfold y_Ty; omega)))
              · skip
                have c15' := c15
                rw [Int32.lt_iff_toInt_lt] at c15'
                refine y_if (fun c16 => ?_) (fun c16 => ?_)
                · skip
                  have e17 : (200 : Int32).toInt = 200 := rfl
                  have c16' := c16
                  rw [Int32.lt_iff_toInt_lt] at c16'
                  refine y_bi (y_X9_bad) (fun r_24 h_r_24 => ?_)
                  obtain ⟨h0_r_24, h1_r_24⟩ := h_r_24
                  refine y_some ?_
                  try dsimp only
                  refine ⟨?_, ?_, ?_, ?_, ?_, ?_, ?_, ?_, ?_, ?_, ?_, ?_, ?_, ?_⟩ <;> (first | with_reducible assumption | omega | ((with_reducible refine y_Vl ?_ ?_) <;> omega) | (unfold y_Ty; omega) | ((with_reducible refine y_Up_add (by with_reducible assumption) ?_ ?_ ?_) <;> omega) | (exact Or.inl (by omega)) | (exact Or.inr (by (unfold y_Ty; omega))) | ((with_reducible refine y_TB0 ?_ ?_) <;> omega) | ((refine Or.inr ?_); (unfold y_Ty; omega)))
                · skip
                  have e18 : (200 : Int32).toInt = 200 := rfl
                  have c16' := c16
                  rw [Int32.lt_iff_toInt_lt] at c16'
                  refine y_if (fun c19 => ?_) (fun c19 => ?_)
                  · skip
                    have c19' := c19
                    rw [Int32.lt_iff_toInt_lt] at c19'
                    refine y_bi (y_X9_bad) (fun r_26 h_r_26 => ?_)
                    obtain ⟨h0_r_26, h1_r_26⟩ := h_r_26
                    refine y_some ?_
                    try dsimp only
                    refine ⟨?_, ?_, ?_, ?_, ?_, ?_, ?_, ?_, ?_, ?_, ?_, ?_, ?_, ?_⟩ <;> (first | with_reducible assumption | omega | ((with_reducible refine y_Vl ?_ ?_) <;> omega) | (unfold y_Ty; omega) | ((with_reducible refine y_Up_add (by with_reducible assumption) ?_ ?_ ?_) <;> omega) | (exact Or.inl (by omega)) | (exact Or.inr (by (unfold y_Ty; omega))) | ((with_reducible refine y_TB0 ?_ ?_) <;> omega) | ((refine Or.inr ?_); (unfold y_Ty; omega)))
                  · skip
                    have c19' := c19
                    rw [Int32.lt_iff_toInt_lt] at c19'
                    refine y_if (fun c20 => ?_) (fun c20 => ?_)
                    · skip
                      have c20' := c20
                      rw [Int32.le_iff_toInt_le] at c20'
                      refine y_some ?_
                      try dsimp only
                      refine ⟨?_, ?_, ?_, ?_, ?_, ?_, ?_, ?_, ?_, ?_, ?_, ?_, ?_, ?_⟩ <;> (first | with_reducible assumption | omega | ((with_reducible refine y_Vl ?_ ?_) <;> omega) | (unfold y_Ty; omega) | ((with_reducible refine y_Up_add (by with_reducible assumption) ?_ ?_ ?_) <;> omega) | (exact Or.inl (by omega)) | (exact Or.inr (by (unfold y_Ty; omega))) | ((with_reducible refine y_TB0 ?_ ?_) <;> omega) | ((refine Or.inr ?_); (unfold y_Ty; omega)))
                    · skip
                      have c20' := c20
                      rw [Int32.le_iff_toInt_le] at c20'
                      refine y_bi (y_X9_bad) (fun r_28 h_r_28 => ?_)
                      obtain ⟨h0_r_28, h1_r_28⟩ := h_r_28
                      refine y_some ?_
                      try dsimp only
                      refine ⟨?_, ?_, ?_, ?_, ?_, ?_, ?_, ?_, ?_, ?_, ?_, ?_, ?_, ?_⟩ <;> (first | with_reducible assumption | omega | ((with_reducible refine y_Vl ?_ ?_) <;> omega) | (unfold y_Ty; omega) | ((with_reducible refine y_Up_add (by with_reducible assumption) ?_ ?_ ?_) <;> omega) | (exact Or.inl (by omega)) | (exact Or.inr (by (unfold y_Ty; omega))) | ((with_reducible refine y_TB0 ?_ ?_) <;> omega) | ((refine Or.inr ?_); (unfold y_Ty; omega)))
            · skip
              try have e21 := @y_cl p1 (by omega)
              have c13' := c13
              rw [← Int32.toInt_inj] at c13'
              refine y_bi (y_X9_bad) (fun r_20 h_r_20 => ?_)
              obtain ⟨h0_r_20, h1_r_20⟩ := h_r_20
              refine y_some ?_
              try dsimp only
              refine ⟨?_, ?_, ?_, ?_, ?_, ?_, ?_, ?_, ?_, ?_, ?_, ?_, ?_, ?_⟩ <;> (first | with_reducible assumption | omega | ((with_reducible refine y_Vl ?_ ?_) <;> omega) | (unfold y_Ty; omega) | ((with_reducible refine y_Up_add (by with_reducible assumption) ?_ ?_ ?_) <;> omega) | (exact Or.inl (by omega)) | (exact Or.inr (by (unfold y_Ty; omega))) | ((with_reducible refine y_TB0 ?_ ?_) <;> omega) | ((refine Or.inr ?_); (unfold y_Ty; omega)))
          · skip
            have c12' := c12
            rw [← Int32.toInt_inj] at c12'
            refine y_if (fun c22 => ?_) (fun c22 => ?_)
            · skip
              have c22' := c22
              rw [Int32.lt_iff_toInt_lt] at c22'
              refine y_bi (y_X9_bad) (fun r_11 h_r_11 => ?_)
              obtain ⟨h0_r_11, h1_r_11⟩ := h_r_11
              refine y_some ?_
              try dsimp only
              refine ⟨?_, ?_, ?_, ?_, ?_, ?_, ?_, ?_, ?_, ?_, ?_, ?_, ?_, ?_⟩ <;> (first | with_reducible assumption | omega | ((with_reducible refine y_Vl ?_ ?_) <;> omega) | (unfold y_Ty; omega) | ((with_reducible refine y_Up_add (by with_reducible assumption) ?_ ?_ ?_) <;> omega) | (exact Or.inl (by omega)) | (exact Or.inr (by (unfold y_Ty; omega))) | ((with_reducible refine y_TB0 ?_ ?_) <;> omega) | ((refine Or.inr ?_); (unfold y_Ty; omega)))
            · skip
              have c22' := c22
              rw [Int32.lt_iff_toInt_lt] at c22'
              refine y_if (fun c23 => ?_) (fun c23 => ?_)
              · skip
                have e24 : (200 : Int32).toInt = 200 := rfl
                have c23' := c23
                rw [Int32.lt_iff_toInt_lt] at c23'
                refine y_bi (y_X9_bad) (fun r_13 h_r_13 => ?_)
                obtain ⟨h0_r_13, h1_r_13⟩ := h_r_13
                refine y_some ?_
                try dsimp only
                refine ⟨?_, ?_, ?_, ?_, ?_, ?_, ?_, ?_, ?_, ?_, ?_, ?_, ?_, ?_⟩ <;> (first | with_reducible assumption | omega | ((with_reducible refine y_Vl ?_ ?_) <;> omega) | (unfold y_Ty; omega) | ((with_reducible refine y_Up_add (by with_reducible assumption) ?_ ?_ ?_) <;> omega) | (exact Or.inl (by omega)) | (exact Or.inr (by (unfold y_Ty; omega))) | ((with_reducible refine y_TB0 ?_ ?_) <;> omega) | ((refine Or.inr ?_); (unfold y_Ty; omega)))
              · skip
                have e25 : (200 : Int32).toInt = 200 := rfl
                have c23' := c23
                rw [Int32.lt_iff_toInt_lt] at c23'
                refine y_if (fun c26 => ?_) (fun c26 => ?_)
                · skip
                  have c26' := c26
                  rw [Int32.lt_iff_toInt_lt] at c26'
                  refine y_bi (y_X9_bad) (fun r_15 h_r_15 => ?_)
                  obtain ⟨h0_r_15, h1_r_15⟩ := h_r_15
                  refine y_some ?_
                  try dsimp only
                  refine ⟨?_, ?_, ?_, ?_, ?_, ?_, ?_, ?_, ?_, ?_, ?_, ?_, ?_, ?_⟩ <;> (first | with_reducible assumption | omega | ((with_reducible refine y_Vl ?_ ?_) <;> omega) | (unfold y_Ty; omega) | ((with_reducible refine y_Up_add (by with_reducible assumption) ?_ ?_ ?_) <;> omega) | (exact Or.inl (by omega)) | (exact Or.inr (by (unfold y_Ty; omega))) | ((with_reducible refine y_TB0 ?_ ?_) <;> omega) | ((refine Or.inr ?_); (unfold y_Ty; omega)))
                · skip
                  have c26' := c26
                  rw [Int32.lt_iff_toInt_lt] at c26'
                  refine y_if (fun c27 => ?_) (fun c27 => ?_)
                  · skip
                    have c27' := c27
                    rw [Int32.le_iff_toInt_le] at c27'
                    refine y_some ?_
                    try dsimp only
                    refine ⟨?_, ?_, ?_, ?_, ?_, ?_, ?_, ?_, ?_, ?_, ?_, ?_, ?_, ?_⟩ <;> (first | with_reducible assumption | omega | ((with_reducible refine y_Vl ?_ ?_) <;> omega) | (unfold y_Ty; omega) | ((with_reducible refine y_Up_add (by with_reducible assumption) ?_ ?_ ?_) <;> omega) | (exact Or.inl (by omega)) | (exact Or.inr (by (unfold y_Ty; omega))) | ((with_reducible refine y_TB0 ?_ ?_) <;> omega) | ((refine Or.inr ?_); (unfold y_Ty; omega)))
                  · skip
                    have c27' := c27
                    rw [Int32.le_iff_toInt_le] at c27'
                    refine y_bi (y_X9_bad) (fun r_17 h_r_17 => ?_)
                    obtain ⟨h0_r_17, h1_r_17⟩ := h_r_17
                    refine y_some ?_
                    try dsimp only
                    refine ⟨?_, ?_, ?_, ?_, ?_, ?_, ?_, ?_, ?_, ?_, ?_, ?_, ?_, ?_⟩ <;> (first | with_reducible assumption | omega | ((with_reducible refine y_Vl ?_ ?_) <;> omega) | (unfold y_Ty; omega) | ((with_reducible refine y_Up_add (by with_reducible assumption) ?_ ?_ ?_) <;> omega) | (exact Or.inl (by omega)) | (exact Or.inr (by (unfold y_Ty; omega))) | ((with_reducible refine y_TB0 ?_ ?_) <;> omega) | ((refine Or.inr ?_); (unfold y_Ty; omega)))
        · skip
          have e28 : (-1 : Int32).toInt = -1 := rfl
          have c10' := c10
          rw [← Int32.toInt_inj] at c10'
          refine y_bi (y_X9_isType (by omega) (by omega)) (fun r_29 h_r_29 => ?_)
          have h0_r_29 : (r_29.toInt = 0 ∧ ¬ (0 ≤ p3.toInt ∧ p3.toInt < 16777216 ∧ (p3.toInt % 65536 < v9_1.toInt ∨ 65528 ≤ p3.toInt % 65536))) ∨ (r_29.toInt = 1 ∧ (0 ≤ p3.toInt ∧ p3.toInt < 16777216 ∧ (p3.toInt % 65536 < v9_1.toInt ∨ 65528 ≤ p3.toInt % 65536))) := h_r_29
          refine y_if (fun c29 => ?_) (fun c29 => ?_)
          · skip
            have c29' := c29
            rw [← Int32.toInt_inj] at c29'
            have e30 := y_or0 h0_r_29 c29'
            clear h0_r_29
            refine y_bi (y_X9_bad) (fun r_31 h_r_31 => ?_)
            obtain ⟨h0_r_31, h1_r_31⟩ := h_r_31
            refine y_some ?_
            try dsimp only
            refine ⟨?_, ?_, ?_, ?_, ?_, ?_, ?_, ?_, ?_, ?_, ?_, ?_, ?_, ?_⟩ <;> (first | with_reducible assumption | omega | ((with_reducible refine y_Vl ?_ ?_) <;> omega) | (unfold y_Ty; omega) | ((with_reducible refine y_Up_add (by with_reducible assumption) ?_ ?_ ?_) <;> omega) | (exact Or.inl (by omega)) | (exact Or.inr (by (unfold y_Ty; omega))) | ((with_reducible refine y_TB0 ?_ ?_) <;> omega) | ((refine Or.inr ?_); (unfold y_Ty; omega)))
          · skip
            have c29' := c29
            rw [← Int32.toInt_inj] at c29'
            have e31 := y_or1 h0_r_29 c29'
            clear h0_r_29
            refine y_if (fun c32 => ?_) (fun c32 => ?_)
            · skip
              have c32' := c32
              rw [← Int32.toInt_inj] at c32'
              refine y_bi (y_X9_bad) (fun r_33 h_r_33 => ?_)
              obtain ⟨h0_r_33, h1_r_33⟩ := h_r_33
              refine y_some ?_
              try dsimp only
              refine ⟨?_, ?_, ?_, ?_, ?_, ?_, ?_, ?_, ?_, ?_, ?_, ?_, ?_, ?_⟩ <;> (first | with_reducible assumption | omega | ((with_reducible refine y_Vl ?_ ?_) <;> omega) | (unfold y_Ty; omega) | ((with_reducible refine y_Up_add (by with_reducible assumption) ?_ ?_ ?_) <;> omega) | (exact Or.inl (by omega)) | (exact Or.inr (by (unfold y_Ty; omega))) | ((with_reducible refine y_TB0 ?_ ?_) <;> omega) | ((refine Or.inr ?_); (unfold y_Ty; omega)))
            · skip
              have c32' := c32
              rw [← Int32.toInt_inj] at c32'
              refine y_if (fun c33 => ?_) (fun c33 => ?_)
              · skip
                have c33' := c33
                rw [← Int32.toInt_inj] at c33'
                refine y_gd (y_gdI (by omega) (by omega)) ?_
                refine y_if (fun c34 => ?_) (fun c34 => ?_)
                · skip
                  try have e35 := @y_cl p1 (by omega)
                  have c34' := c34
                  rw [← Int32.toInt_inj] at c34'
                  refine y_if (fun c36 => ?_) (fun c36 => ?_)
                  · skip
                    have c36' := c36
                    rw [Int32.lt_iff_toInt_lt] at c36'
                    refine y_bi (y_X9_bad) (fun r_47 h_r_47 => ?_)
                    obtain ⟨h0_r_47, h1_r_47⟩ := h_r_47
                    refine y_some ?_
                    try dsimp only
                    refine ⟨?_, ?_, ?_, ?_, ?_, ?_, ?_, ?_, ?_, ?_, ?_, ?_, ?_, ?_⟩ <;> (first | with_reducible assumption | omega | ((with_reducible refine y_Vl ?_ ?_) <;> omega) | (unfold y_Ty; omega) | ((with_reducible refine y_Up_add (by with_reducible assumption) ?_ ?_ ?_) <;> omega) | (exact Or.inl (by omega)) | (exact Or.inr (by (unfold y_Ty; omega))) | ((with_reducible refine y_TB0 ?_ ?_) <;> omega) | ((refine Or.inr ?_); (unfold y_Ty; omega)))
                  · skip
                    have c36' := c36
                    rw [Int32.lt_iff_toInt_lt] at c36'
                    refine y_if (fun c37 => ?_) (fun c37 => ?_)
                    · skip
                      have e38 : (200 : Int32).toInt = 200 := rfl
                      have c37' := c37
                      rw [Int32.lt_iff_toInt_lt] at c37'
                      refine y_bi (y_X9_bad) (fun r_49 h_r_49 => ?_)
                      obtain ⟨h0_r_49, h1_r_49⟩ := h_r_49
                      refine y_some ?_
                      try dsimp only
                      refine ⟨?_, ?_, ?_, ?_, ?_, ?_, ?_, ?_, ?_, ?_, ?_, ?_, ?_, ?_⟩ <;> (first | with_reducible assumption | omega | ((with_reducible refine y_Vl ?_ ?_) <;> omega) | (unfold y_Ty; omega) | ((with_reducible refine y_Up_add (by with_reducible assumption) ?_ ?_ ?_) <;> omega) | (exact Or.inl (by omega)) | (exact Or.inr (by (unfold y_Ty; omega))) | ((with_reducible refine y_TB0 ?_ ?_) <;> omega) | ((refine Or.inr ?_); (unfold y_Ty; omega)))
                    · skip
                      have e39 : (200 : Int32).toInt = 200 := rfl
                      have c37' := c37
                      rw [Int32.lt_iff_toInt_lt] at c37'
                      refine y_if (fun c40 => ?_) (fun c40 => ?_)
                      · skip
                        have c40' := c40
                        rw [Int32.lt_iff_toInt_lt] at c40'
                        refine y_bi (y_X9_bad) (fun r_51 h_r_51 => ?_)
                        obtain ⟨h0_r_51, h1_r_51⟩ := h_r_51
                        refine y_some ?_
                        try dsimp only
                        refine ⟨?_, ?_, ?_, ?_, ?_, ?_, ?_, ?_, ?_, ?_, ?_, ?_, ?_, ?_⟩ <;> (first | with_reducible assumption | omega | ((with_reducible refine y_Vl ?_ ?_) <;> omega) | (unfold y_Ty; omega) | ((with_reducible refine y_Up_add (by with_reducible assumption) ?_ ?_ ?_) <;> omega) | (exact Or.inl (by omega)) | (exact Or.inr (by (unfold y_Ty; omega))) | ((with_reducible refine y_TB0 ?_ ?_) <;> omega) | ((refine Or.inr ?_); (unfold y_Ty; omega)))
                      · skip
                        have c40' := c40
                        rw [Int32.lt_iff_toInt_lt] at c40'
                        refine y_if (fun c41 => ?_) (fun c41 => ?_)
                        · skip
                          have c41' := c41
                          rw [Int32.le_iff_toInt_le] at c41'
                          refine y_some ?_
                          try dsimp only
                          refine ⟨?_, ?_, ?_, ?_, ?_, ?_, ?_, ?_, ?_, ?_, ?_, ?_, ?_, ?_⟩ <;> (first | with_reducible assumption | omega | ((with_reducible refine y_Vl ?_ ?_) <;> omega) | (unfold y_Ty; omega) | ((with_reducible refine y_Up_add (by with_reducible assumption) ?_ ?_ ?_) <;> omega) | (exact Or.inl (by omega)) | (exact Or.inr (by (unfold y_Ty; omega))) | ((with_reducible refine y_TB0 ?_ ?_) <;> omega) | ((refine Or.inr ?_); (unfold y_Ty; omega)))
                        · skip
                          have c41' := c41
                          rw [Int32.le_iff_toInt_le] at c41'
                          refine y_bi (y_X9_bad) (fun r_53 h_r_53 => ?_)
                          obtain ⟨h0_r_53, h1_r_53⟩ := h_r_53
                          refine y_some ?_
                          try dsimp only
                          refine ⟨?_, ?_, ?_, ?_, ?_, ?_, ?_, ?_, ?_, ?_, ?_, ?_, ?_, ?_⟩ <;> (first | with_reducible assumption | omega | ((with_reducible refine y_Vl ?_ ?_) <;> omega) | (unfold y_Ty; omega) | ((with_reducible refine y_Up_add (by with_reducible assumption) ?_ ?_ ?_) <;> omega) | (exact Or.inl (by omega)) | (exact Or.inr (by (unfold y_Ty; omega))) | ((with_reducible refine y_TB0 ?_ ?_) <;> omega) | ((refine Or.inr ?_); (unfold y_Ty; omega)))
                · skip
                  try have e42 := @y_cl p1 (by omega)
                  have c34' := c34
                  rw [← Int32.toInt_inj] at c34'
                  refine y_bi (y_X9_bad) (fun r_45 h_r_45 => ?_)
                  obtain ⟨h0_r_45, h1_r_45⟩ := h_r_45
                  refine y_some ?_
                  try dsimp only
                  refine ⟨?_, ?_, ?_, ?_, ?_, ?_, ?_, ?_, ?_, ?_, ?_, ?_, ?_, ?_⟩ <;> (first | with_reducible assumption | omega | ((with_reducible refine y_Vl ?_ ?_) <;> omega) | (unfold y_Ty; omega) | ((with_reducible refine y_Up_add (by with_reducible assumption) ?_ ?_ ?_) <;> omega) | (exact Or.inl (by omega)) | (exact Or.inr (by (unfold y_Ty; omega))) | ((with_reducible refine y_TB0 ?_ ?_) <;> omega) | ((refine Or.inr ?_); (unfold y_Ty; omega)))
              · skip
                have c33' := c33
                rw [← Int32.toInt_inj] at c33'
                refine y_if (fun c43 => ?_) (fun c43 => ?_)
                · skip
                  have c43' := c43
                  rw [Int32.lt_iff_toInt_lt] at c43'
                  refine y_bi (y_X9_bad) (fun r_36 h_r_36 => ?_)
                  obtain ⟨h0_r_36, h1_r_36⟩ := h_r_36
                  refine y_some ?_
                  try dsimp only
                  refine ⟨?_, ?_, ?_, ?_, ?_, ?_, ?_, ?_, ?_, ?_, ?_, ?_, ?_, ?_⟩ <;> (first | with_reducible assumption | omega | ((with_reducible refine y_Vl ?_ ?_) <;> omega) | (unfold y_Ty; omega) | ((with_reducible refine y_Up_add (by with_reducible assumption) ?_ ?_ ?_) <;> omega) | (exact Or.inl (by omega)) | (exact Or.inr (by (unfold y_Ty; omega))) | ((with_reducible refine y_TB0 ?_ ?_) <;> omega) | ((refine Or.inr ?_); (unfold y_Ty; omega)))
                · skip
                  have c43' := c43
                  rw [Int32.lt_iff_toInt_lt] at c43'
                  refine y_if (fun c44 => ?_) (fun c44 => ?_)
                  · skip
                    have e45 : (200 : Int32).toInt = 200 := rfl
                    have c44' := c44
                    rw [Int32.lt_iff_toInt_lt] at c44'
                    refine y_bi (y_X9_bad) (fun r_38 h_r_38 => ?_)
                    obtain ⟨h0_r_38, h1_r_38⟩ := h_r_38
                    refine y_some ?_
                    try dsimp only
                    refine ⟨?_, ?_, ?_, ?_, ?_, ?_, ?_, ?_, ?_, ?_, ?_, ?_, ?_, ?_⟩ <;> (first | with_reducible assumption | omega | ((with_reducible refine y_Vl ?_ ?_) <;> omega) | (unfold y_Ty; omega) | ((with_reducible refine y_Up_add (by with_reducible assumption) ?_ ?_ ?_) <;> omega) | (exact Or.inl (by omega)) | (exact Or.inr (by (unfold y_Ty; omega))) | ((with_reducible refine y_TB0 ?_ ?_) <;> omega) | ((refine Or.inr ?_); (unfold y_Ty; omega)))
                  · skip
                    have e46 : (200 : Int32).toInt = 200 := rfl
                    have c44' := c44
                    rw [Int32.lt_iff_toInt_lt] at c44'
                    refine y_if (fun c47 => ?_) (fun c47 => ?_)
                    · skip
                      have c47' := c47
                      rw [Int32.lt_iff_toInt_lt] at c47'
                      refine y_bi (y_X9_bad) (fun r_40 h_r_40 => ?_)
                      obtain ⟨h0_r_40, h1_r_40⟩ := h_r_40
                      refine y_some ?_
                      try dsimp only
                      refine ⟨?_, ?_, ?_, ?_, ?_, ?_, ?_, ?_, ?_, ?_, ?_, ?_, ?_, ?_⟩ <;> (first | with_reducible assumption | omega | ((with_reducible refine y_Vl ?_ ?_) <;> omega) | (unfold y_Ty; omega) | ((with_reducible refine y_Up_add (by with_reducible assumption) ?_ ?_ ?_) <;> omega) | (exact Or.inl (by omega)) | (exact Or.inr (by (unfold y_Ty; omega))) | ((with_reducible refine y_TB0 ?_ ?_) <;> omega) | ((refine Or.inr ?_); (unfold y_Ty; omega)))
                    · skip
                      have c47' := c47
                      rw [Int32.lt_iff_toInt_lt] at c47'
                      refine y_if (fun c48 => ?_) (fun c48 => ?_)
                      · skip
                        have c48' := c48
                        rw [Int32.le_iff_toInt_le] at c48'
                        refine y_some ?_
                        try dsimp only
                        refine ⟨?_, ?_, ?_, ?_, ?_, ?_, ?_, ?_, ?_, ?_, ?_, ?_, ?_, ?_⟩ <;> (first | with_reducible assumption | omega | ((with_reducible refine y_Vl ?_ ?_) <;> omega) | (unfold y_Ty; omega) | ((with_reducible refine y_Up_add (by with_reducible assumption) ?_ ?_ ?_) <;> omega) | (exact Or.inl (by omega)) | (exact Or.inr (by (unfold y_Ty; omega))) | ((with_reducible refine y_TB0 ?_ ?_) <;> omega) | ((refine Or.inr ?_); (unfold y_Ty; omega)))
                      · skip
                        have c48' := c48
                        rw [Int32.le_iff_toInt_le] at c48'
                        refine y_bi (y_X9_bad) (fun r_42 h_r_42 => ?_)
                        obtain ⟨h0_r_42, h1_r_42⟩ := h_r_42
                        refine y_some ?_
                        try dsimp only
                        refine ⟨?_, ?_, ?_, ?_, ?_, ?_, ?_, ?_, ?_, ?_, ?_, ?_, ?_, ?_⟩ <;> (first | with_reducible assumption | omega | ((with_reducible refine y_Vl ?_ ?_) <;> omega) | (unfold y_Ty; omega) | ((with_reducible refine y_Up_add (by with_reducible assumption) ?_ ?_ ?_) <;> omega) | (exact Or.inl (by omega)) | (exact Or.inr (by (unfold y_Ty; omega))) | ((with_reducible refine y_TB0 ?_ ?_) <;> omega) | ((refine Or.inr ?_); (unfold y_Ty; omega)))
set_option maxHeartbeats 4000000 in
theorem y_X9_argument {v9_0 : Int32} {v9_1 : Int32} {v9_18 : Int32} {g9_19 : Nat → Int32} {p1 : Int32} (k0 : 4 ≤ v9_1.toInt) (k1 : v9_1.toInt ≤ 200) (k2 : 0 ≤ v9_18.toInt) (k3 : v9_18.toInt ≤ 20) (k4 : y_ATy 20 g9_19) : y_Ok (f_X9_argument v9_0 v9_1 v9_18 g9_19 p1) (fun r => (0 ≤ r.2.2.1.toInt) ∧ (r.2.2.1.toInt ≤ 20) ∧ (y_ATy 20 r.2.2.2)) := by
  unfold f_X9_argument
  refine y_bi (y_X9_isType (by omega) (by omega)) (fun r_1 h_r_1 => ?_)
  have h0_r_1 : (r_1.toInt = 0 ∧ ¬ (0 ≤ p1.toInt ∧ p1.toInt < 16777216 ∧ (p1.toInt % 65536 < v9_1.toInt ∨ 65528 ≤ p1.toInt % 65536))) ∨ (r_1.toInt = 1 ∧ (0 ≤ p1.toInt ∧ p1.toInt < 16777216 ∧ (p1.toInt % 65536 < v9_1.toInt ∨ 65528 ≤ p1.toInt % 65536))) := h_r_1
  refine y_if (fun c1 => ?_) (fun c1 => ?_)
  · skip
    have e2 : (0 : Int32).toInt = 0 := rfl
    have c1' := c1
    rw [← Int32.toInt_inj] at c1'
    have e3 := y_or0 h0_r_1 c1'
    clear h0_r_1
    refine y_bi (y_X9_bad) (fun r_6 h_r_6 => ?_)
    obtain ⟨h0_r_6, h1_r_6⟩ := h_r_6
    refine y_some ?_
    try dsimp only
    refine ⟨?_, ?_, ?_⟩ <;> (first | with_reducible assumption | omega | ((with_reducible refine y_Vl ?_ ?_) <;> omega) | (unfold y_Ty; omega) | ((with_reducible refine y_Up_add (by with_reducible assumption) ?_ ?_ ?_) <;> omega) | (exact Or.inl (by omega)) | (exact Or.inr (by (unfold y_Ty; omega))))
  · skip
    have e4 : (0 : Int32).toInt = 0 := rfl
    have c1' := c1
    rw [← Int32.toInt_inj] at c1'
    have e5 := y_or1 h0_r_1 c1'
    clear h0_r_1
    refine y_if (fun c6 => ?_) (fun c6 => ?_)
    · skip
      have e7 : (20 : Int32).toInt = 20 := rfl
      have c6' := c6
      rw [← Int32.toInt_inj] at c6'
      refine y_bi (y_X9_full) (fun r_5 h_r_5 => ?_)
      obtain ⟨h0_r_5, h1_r_5⟩ := h_r_5
      refine y_some ?_
      try dsimp only
      refine ⟨?_, ?_, ?_⟩ <;> (first | with_reducible assumption | omega | ((with_reducible refine y_Vl ?_ ?_) <;> omega) | (unfold y_Ty; omega) | ((with_reducible refine y_Up_add (by with_reducible assumption) ?_ ?_ ?_) <;> omega) | (exact Or.inl (by omega)) | (exact Or.inr (by (unfold y_Ty; omega))))
    · skip
      have e8 : (20 : Int32).toInt = 20 := rfl
      have c6' := c6
      rw [← Int32.toInt_inj] at c6'
      refine y_gd (y_gdI (by omega) (by omega)) ?_
      try have e9 := @y_addL v9_18 (1 : Int32) (1) rfl (by omega) (by omega)
      try have e10 := @y_cl v9_18 (by omega)
      try have e11 : y_ATy 20 (upd g9_19 (Int32.toNatClampNeg v9_18) p1) := y_ATy_upd k4 (by first | with_reducible assumption | omega | ((with_reducible refine y_Vl ?_ ?_) <;> omega) | (unfold y_Ty; omega) | ((with_reducible refine y_Up_add (by with_reducible assumption) ?_ ?_ ?_) <;> omega) | (exact Or.inl (by omega)) | (exact Or.inr (by (unfold y_Ty; omega))))
      refine y_some ?_
      try dsimp only
      refine ⟨?_, ?_, ?_⟩ <;> (first | with_reducible assumption | omega | ((with_reducible refine y_Vl ?_ ?_) <;> omega) | (unfold y_Ty; omega) | ((with_reducible refine y_Up_add (by with_reducible assumption) ?_ ?_ ?_) <;> omega) | (exact Or.inl (by omega)) | (exact Or.inr (by (unfold y_Ty; omega))))
set_option maxHeartbeats 4000000 in
theorem y_X9_fits_L_5 {v9_1 : Int32} {v9_2 : Int32} {v9_3 : Int32} {l2 : Int32} {o b : Int32} {l1 : Int32} {l3 : Int32} (k0 : 4 ≤ v9_1.toInt) (k1 : v9_1.toInt ≤ 200) (k2 : 0 ≤ v9_2.toInt) (k3 : v9_2.toInt ≤ 100) (k4 : 0 ≤ v9_3.toInt) (k5 : v9_3.toInt ≤ 100) (k6 : l3.toInt = b.toInt) (k7 : 0 ≤ o.toInt ∧ o.toInt ≤ 15 ∨ 46 ≤ o.toInt ∧ o.toInt ≤ 53 ∨ 79 ≤ o.toInt ∧ o.toInt ≤ 131 ∨ 133 ≤ o.toInt ∧ o.toInt ≤ 152 ∨ 170 ≤ o.toInt ∧ o.toInt ≤ 177 ∨ o.toInt = 190 ∨ o.toInt = 191 ∨ o.toInt = 194 ∨ o.toInt = 195) : y_Ok (f_X9_fits_L v9_1 v9_2 v9_3 l2 (5, l1, l3)) (fun r => (r.toInt = 0 ∨ y_In o l2 b)) := by
  rw [f_X9_fits_L]
  refine y_in (by decide) ?_
  refine y_in (by decide) ?_
  refine y_in (by decide) ?_
  refine y_in (by decide) ?_
  refine y_in (by decide) ?_
  refine y_ip rfl ?_
  refine y_if (fun c1 => ?_) (fun c1 => ?_)
  · skip
    have e2 : (0 : Int32).toInt = 0 := rfl
    have c1' := c1
    rw [← Int32.toInt_inj] at c1'
    refine y_if (fun c3 => ?_) (fun c3 => ?_)
    · skip
      have c3' := c3
      rw [← Int32.toInt_inj] at c3'
      have e4 : (1 : Int32).toInt = 1 := rfl
      refine y_some ?_
      try dsimp only
      (first | with_reducible assumption | omega | ((with_reducible refine y_Vl ?_ ?_) <;> omega) | (exact Or.inl (by omega)) | (refine Or.inr ?_; unfold y_In; refine ⟨?_, ?_, ?_, ?_, ?_, ?_, ?_, ?_, ?_, ?_, ?_⟩ <;> (first | omega | (intro z; exfalso; omega) | (intro z; unfold y_Ty; omega) | (intro z; unfold y_Tr; omega) | (intro z; refine ⟨?_, ?_⟩ <;> (first | omega | (unfold y_Tr; omega))) | (intro z; refine ⟨?_, ?_, ?_⟩ <;> (first | omega | (unfold y_Tr; omega))))))
    · skip
      have c3' := c3
      rw [← Int32.toInt_inj] at c3'
      refine y_some ?_
      try dsimp only
      (first | with_reducible assumption | omega | ((with_reducible refine y_Vl ?_ ?_) <;> omega) | (exact Or.inl (by omega)) | (refine Or.inr ?_; unfold y_In; refine ⟨?_, ?_, ?_, ?_, ?_, ?_, ?_, ?_, ?_, ?_, ?_⟩ <;> (first | omega | (intro z; exfalso; omega) | (intro z; unfold y_Ty; omega) | (intro z; unfold y_Tr; omega) | (intro z; refine ⟨?_, ?_⟩ <;> (first | omega | (unfold y_Tr; omega))) | (intro z; refine ⟨?_, ?_, ?_⟩ <;> (first | omega | (unfold y_Tr; omega))))))
  · skip
    have e5 : (0 : Int32).toInt = 0 := rfl
    have c1' := c1
    rw [← Int32.toInt_inj] at c1'
    refine y_some ?_
    try dsimp only
    (first | with_reducible assumption | omega | ((with_reducible refine y_Vl ?_ ?_) <;> omega) | (exact Or.inl (by omega)) | (refine Or.inr ?_; unfold y_In; refine ⟨?_, ?_, ?_, ?_, ?_, ?_, ?_, ?_, ?_, ?_, ?_⟩ <;> (first | omega | (intro z; exfalso; omega) | (intro z; unfold y_Ty; omega) | (intro z; unfold y_Tr; omega) | (intro z; refine ⟨?_, ?_⟩ <;> (first | omega | (unfold y_Tr; omega))) | (intro z; refine ⟨?_, ?_, ?_⟩ <;> (first | omega | (unfold y_Tr; omega))))))
set_option maxHeartbeats 4000000 in
theorem y_X9_fits_L_9 {v9_1 : Int32} {v9_2 : Int32} {v9_3 : Int32} {l2 : Int32} {o b : Int32} {l1 : Int32} {l3 : Int32} (k0 : 4 ≤ v9_1.toInt) (k1 : v9_1.toInt ≤ 200) (k2 : 0 ≤ v9_2.toInt) (k3 : v9_2.toInt ≤ 100) (k4 : 0 ≤ v9_3.toInt) (k5 : v9_3.toInt ≤ 100) (k6 : 21 ≤ o.toInt ∧ o.toInt ≤ 25 ∨ 54 ≤ o.toInt ∧ o.toInt ≤ 58 ∨ o.toInt = 169 ∨ 153 ≤ o.toInt ∧ o.toInt ≤ 168 ∨ o.toInt = 198 ∨ o.toInt = 199) : y_Ok (f_X9_fits_L v9_1 v9_2 v9_3 l2 (9, l1, l3)) (fun r => (r.toInt = 0 ∨ y_In o l2 b)) := by
  rw [f_X9_fits_L]
  refine y_in (by decide) ?_
  refine y_in (by decide) ?_
  refine y_in (by decide) ?_
  refine y_in (by decide) ?_
  refine y_in (by decide) ?_
  refine y_in (by decide) ?_
  refine y_in (by decide) ?_
  refine y_in (by decide) ?_
  refine y_in (by decide) ?_
  refine y_ip rfl ?_
  refine y_if (fun c1 => ?_) (fun c1 => ?_)
  · skip
    have e2 : (0 : Int32).toInt = 0 := rfl
    have c1' := c1
    rw [Int32.lt_iff_toInt_lt] at c1'
    refine y_some ?_
    try dsimp only
    (first | with_reducible assumption | omega | ((with_reducible refine y_Vl ?_ ?_) <;> omega) | (exact Or.inl (by omega)) | (refine Or.inr ?_; unfold y_In; refine ⟨?_, ?_, ?_, ?_, ?_, ?_, ?_, ?_, ?_, ?_, ?_⟩ <;> (first | omega | (intro z; exfalso; omega) | (intro z; unfold y_Ty; omega) | (intro z; unfold y_Tr; omega) | (intro z; refine ⟨?_, ?_⟩ <;> (first | omega | (unfold y_Tr; omega))) | (intro z; refine ⟨?_, ?_, ?_⟩ <;> (first | omega | (unfold y_Tr; omega))))))
  · skip
    have e3 : (0 : Int32).toInt = 0 := rfl
    have c1' := c1
    rw [Int32.lt_iff_toInt_lt] at c1'
    have e4 : (1 : Int32).toInt = 1 := rfl
    refine y_some ?_
    try dsimp only
    (first | with_reducible assumption | omega | ((with_reducible refine y_Vl ?_ ?_) <;> omega) | (exact Or.inl (by omega)) | (refine Or.inr ?_; unfold y_In; refine ⟨?_, ?_, ?_, ?_, ?_, ?_, ?_, ?_, ?_, ?_, ?_⟩ <;> (first | omega | (intro z; exfalso; omega) | (intro z; unfold y_Ty; omega) | (intro z; unfold y_Tr; omega) | (intro z; refine ⟨?_, ?_⟩ <;> (first | omega | (unfold y_Tr; omega))) | (intro z; refine ⟨?_, ?_, ?_⟩ <;> (first | omega | (unfold y_Tr; omega))))))
set_option maxHeartbeats 4000000 in
theorem y_X9_fits_L_12 {v9_1 : Int32} {v9_2 : Int32} {v9_3 : Int32} {l2 : Int32} {o b : Int32} {l1 : Int32} {l3 : Int32} (k0 : 4 ≤ v9_1.toInt) (k1 : v9_1.toInt ≤ 200) (k2 : 0 ≤ v9_2.toInt) (k3 : v9_2.toInt ≤ 100) (k4 : 0 ≤ v9_3.toInt) (k5 : v9_3.toInt ≤ 100) (k6 : o.toInt = 192 ∨ o.toInt = 193) : y_Ok (f_X9_fits_L v9_1 v9_2 v9_3 l2 (12, l1, l3)) (fun r => (r.toInt = 0 ∨ y_In o l2 b)) := by
  rw [f_X9_fits_L]
  refine y_in (by decide) ?_
  refine y_in (by decide) ?_
  refine y_in (by decide) ?_
  refine y_in (by decide) ?_
  refine y_in (by decide) ?_
  refine y_in (by decide) ?_
  refine y_in (by decide) ?_
  refine y_in (by decide) ?_
  refine y_in (by decide) ?_
  refine y_in (by decide) ?_
  refine y_in (by decide) ?_
  refine y_in (by decide) ?_
  refine y_ip rfl ?_
  refine y_bi (y_X9_isType (by omega) (by omega)) (fun r_63 h_r_63 => ?_)
  have h0_r_63 : (r_63.toInt = 0 ∧ ¬ (0 ≤ l2.toInt ∧ l2.toInt < 16777216 ∧ (l2.toInt % 65536 < v9_1.toInt ∨ 65528 ≤ l2.toInt % 65536))) ∨ (r_63.toInt = 1 ∧ (0 ≤ l2.toInt ∧ l2.toInt < 16777216 ∧ (l2.toInt % 65536 < v9_1.toInt ∨ 65528 ≤ l2.toInt % 65536))) := h_r_63
  refine y_if (fun c1 => ?_) (fun c1 => ?_)
  · skip
    have e2 : (0 : Int32).toInt = 0 := rfl
    have c1' := c1
    rw [← Int32.toInt_inj] at c1'
    have e3 := y_or0 h0_r_63 c1'
    clear h0_r_63
    refine y_some ?_
    try dsimp only
    (first | with_reducible assumption | omega | ((with_reducible refine y_Vl ?_ ?_) <;> omega) | (exact Or.inl (by omega)) | (refine Or.inr ?_; unfold y_In; refine ⟨?_, ?_, ?_, ?_, ?_, ?_, ?_, ?_, ?_, ?_, ?_⟩ <;> (first | omega | (intro z; exfalso; omega) | (intro z; unfold y_Ty; omega) | (intro z; unfold y_Tr; omega) | (intro z; refine ⟨?_, ?_⟩ <;> (first | omega | (unfold y_Tr; omega))) | (intro z; refine ⟨?_, ?_, ?_⟩ <;> (first | omega | (unfold y_Tr; omega))))))
  · skip
    have e4 : (0 : Int32).toInt = 0 := rfl
    have c1' := c1
    rw [← Int32.toInt_inj] at c1'
    have e5 := y_or1 h0_r_63 c1'
    clear h0_r_63
    refine y_bi (y_X9_isPrimitive) (fun r_65 h_r_65 => ?_)
    have h0_r_65 : (r_65.toInt = 0 ∧ ¬ (65528 ≤ l2.toInt ∧ l2.toInt < 65536)) ∨ (r_65.toInt = 1 ∧ (65528 ≤ l2.toInt ∧ l2.toInt < 65536)) := h_r_65
    refine y_if (fun c6 => ?_) (fun c6 => ?_)
    · skip
      have c6' := c6
      rw [← Int32.toInt_inj] at c6'
      have e7 := y_or0 h0_r_65 c6'
      clear h0_r_65
      have e8 : (1 : Int32).toInt = 1 := rfl
      refine y_some ?_
      try dsimp only
      (first | with_reducible assumption | omega | ((with_reducible refine y_Vl ?_ ?_) <;> omega) | (exact Or.inl (by omega)) | (refine Or.inr ?_; unfold y_In; refine ⟨?_, ?_, ?_, ?_, ?_, ?_, ?_, ?_, ?_, ?_, ?_⟩ <;> (first | omega | (intro z; exfalso; omega) | (intro z; unfold y_Ty; omega) | (intro z; unfold y_Tr; omega) | (intro z; refine ⟨?_, ?_⟩ <;> (first | omega | (unfold y_Tr; omega))) | (intro z; refine ⟨?_, ?_, ?_⟩ <;> (first | omega | (unfold y_Tr; omega))))))
    · skip
      have c6' := c6
      rw [← Int32.toInt_inj] at c6'
      have e9 := y_or1 h0_r_65 c6'
      clear h0_r_65
      refine y_some ?_
      try dsimp only
      (first | with_reducible assumption | omega | ((with_reducible refine y_Vl ?_ ?_) <;> omega) | (exact Or.inl (by omega)) | (refine Or.inr ?_; unfold y_In; refine ⟨?_, ?_, ?_, ?_, ?_, ?_, ?_, ?_, ?_, ?_, ?_⟩ <;> (first | omega | (intro z; exfalso; omega) | (intro z; unfold y_Ty; omega) | (intro z; unfold y_Tr; omega) | (intro z; refine ⟨?_, ?_⟩ <;> (first | omega | (unfold y_Tr; omega))) | (intro z; refine ⟨?_, ?_, ?_⟩ <;> (first | omega | (unfold y_Tr; omega))))))
set_option maxHeartbeats 4000000 in
theorem y_X9_fits_L_11 {v9_1 : Int32} {v9_2 : Int32} {v9_3 : Int32} {l2 : Int32} {o b : Int32} {l1 : Int32} {l3 : Int32} (k0 : 4 ≤ v9_1.toInt) (k1 : v9_1.toInt ≤ 200) (k2 : 0 ≤ v9_2.toInt) (k3 : v9_2.toInt ≤ 100) (k4 : 0 ≤ v9_3.toInt) (k5 : v9_3.toInt ≤ 100) (k6 : l1.toInt = o.toInt) : y_Ok (f_X9_fits_L v9_1 v9_2 v9_3 l2 (11, l1, l3)) (fun r => (r.toInt = 0 ∨ y_In o l2 b)) := by
  rw [f_X9_fits_L]
  refine y_in (by decide) ?_
  refine y_in (by decide) ?_
  refine y_in (by decide) ?_
  refine y_in (by decide) ?_
  refine y_in (by decide) ?_
  refine y_in (by decide) ?_
  refine y_in (by decide) ?_
  refine y_in (by decide) ?_
  refine y_in (by decide) ?_
  refine y_in (by decide) ?_
  refine y_in (by decide) ?_
  refine y_ip rfl ?_
  refine y_if (fun c1 => ?_) (fun c1 => ?_)
  · skip
    have e2 : (187 : Int32).toInt = 187 := rfl
    have c1' := c1
    rw [← Int32.toInt_inj] at c1'
    refine y_bi (y_X9_isClass) (fun r_62 h_r_62 => ?_)
    have h0_r_62 : (r_62.toInt = 0 ∧ ¬ (0 ≤ l2.toInt ∧ l2.toInt < v9_1.toInt)) ∨ (r_62.toInt = 1 ∧ (0 ≤ l2.toInt ∧ l2.toInt < v9_1.toInt)) := h_r_62
    refine y_some ?_
    try dsimp only
    (first | with_reducible assumption | omega | ((with_reducible refine y_Vl ?_ ?_) <;> omega) | (exact Or.inl (by omega)) | (refine Or.inr ?_; unfold y_In; refine ⟨?_, ?_, ?_, ?_, ?_, ?_, ?_, ?_, ?_, ?_, ?_⟩ <;> (first | omega | (intro z; exfalso; omega) | (intro z; unfold y_Ty; omega) | (intro z; unfold y_Tr; omega) | (intro z; refine ⟨?_, ?_⟩ <;> (first | omega | (unfold y_Tr; omega))) | (intro z; refine ⟨?_, ?_, ?_⟩ <;> (first | omega | (unfold y_Tr; omega))))) | (rcases h0_r_62 with hz | hz; exact Or.inl hz.1; (refine Or.inr ?_; unfold y_In; refine ⟨?_, ?_, ?_, ?_, ?_, ?_, ?_, ?_, ?_, ?_, ?_⟩ <;> (first | omega | (intro z; exfalso; omega) | (intro z; unfold y_Ty; omega) | (intro z; unfold y_Tr; omega) | (intro z; refine ⟨?_, ?_⟩ <;> (first | omega | (unfold y_Tr; omega))) | (intro z; refine ⟨?_, ?_, ?_⟩ <;> (first | omega | (unfold y_Tr; omega)))))))
  · skip
    have e3 : (187 : Int32).toInt = 187 := rfl
    have c1' := c1
    rw [← Int32.toInt_inj] at c1'
    refine y_if (fun c4 => ?_) (fun c4 => ?_)
    · skip
      have e5 : (188 : Int32).toInt = 188 := rfl
      have c4' := c4
      rw [← Int32.toInt_inj] at c4'
      refine y_if (fun c6 => ?_) (fun c6 => ?_)
      · skip
        have e7 : (0 : Int32).toInt = 0 := rfl
        have c6' := c6
        rw [Int32.lt_iff_toInt_lt] at c6'
        refine y_some ?_
        try dsimp only
        (first | with_reducible assumption | omega | ((with_reducible refine y_Vl ?_ ?_) <;> omega) | (exact Or.inl (by omega)) | (refine Or.inr ?_; unfold y_In; refine ⟨?_, ?_, ?_, ?_, ?_, ?_, ?_, ?_, ?_, ?_, ?_⟩ <;> (first | omega | (intro z; exfalso; omega) | (intro z; unfold y_Ty; omega) | (intro z; unfold y_Tr; omega) | (intro z; refine ⟨?_, ?_⟩ <;> (first | omega | (unfold y_Tr; omega))) | (intro z; refine ⟨?_, ?_, ?_⟩ <;> (first | omega | (unfold y_Tr; omega))))) | (rcases h0_r_62 with hz | hz; exact Or.inl hz.1; (refine Or.inr ?_; unfold y_In; refine ⟨?_, ?_, ?_, ?_, ?_, ?_, ?_, ?_, ?_, ?_, ?_⟩ <;> (first | omega | (intro z; exfalso; omega) | (intro z; unfold y_Ty; omega) | (intro z; unfold y_Tr; omega) | (intro z; refine ⟨?_, ?_⟩ <;> (first | omega | (unfold y_Tr; omega))) | (intro z; refine ⟨?_, ?_, ?_⟩ <;> (first | omega | (unfold y_Tr; omega)))))))
      · skip
        have e8 : (0 : Int32).toInt = 0 := rfl
        have c6' := c6
        rw [Int32.lt_iff_toInt_lt] at c6'
        refine y_if (fun c9 => ?_) (fun c9 => ?_)
        · skip
          have e10 : (7 : Int32).toInt = 7 := rfl
          have c9' := c9
          rw [Int32.lt_iff_toInt_lt] at c9'
          refine y_some ?_
          try dsimp only
          (first | with_reducible assumption | omega | ((with_reducible refine y_Vl ?_ ?_) <;> omega) | (exact Or.inl (by omega)) | (refine Or.inr ?_; unfold y_In; refine ⟨?_, ?_, ?_, ?_, ?_, ?_, ?_, ?_, ?_, ?_, ?_⟩ <;> (first | omega | (intro z; exfalso; omega) | (intro z; unfold y_Ty; omega) | (intro z; unfold y_Tr; omega) | (intro z; refine ⟨?_, ?_⟩ <;> (first | omega | (unfold y_Tr; omega))) | (intro z; refine ⟨?_, ?_, ?_⟩ <;> (first | omega | (unfold y_Tr; omega))))) | (rcases h0_r_62 with hz | hz; exact Or.inl hz.1; (refine Or.inr ?_; unfold y_In; refine ⟨?_, ?_, ?_, ?_, ?_, ?_, ?_, ?_, ?_, ?_, ?_⟩ <;> (first | omega | (intro z; exfalso; omega) | (intro z; unfold y_Ty; omega) | (intro z; unfold y_Tr; omega) | (intro z; refine ⟨?_, ?_⟩ <;> (first | omega | (unfold y_Tr; omega))) | (intro z; refine ⟨?_, ?_, ?_⟩ <;> (first | omega | (unfold y_Tr; omega)))))))
        · skip
          have e11 : (7 : Int32).toInt = 7 := rfl
          have c9' := c9
          rw [Int32.lt_iff_toInt_lt] at c9'
          have e12 : (1 : Int32).toInt = 1 := rfl
          refine y_some ?_
          try dsimp only
          (first | with_reducible assumption | omega | ((with_reducible refine y_Vl ?_ ?_) <;> omega) | (exact Or.inl (by omega)) | (refine Or.inr ?_; unfold y_In; refine ⟨?_, ?_, ?_, ?_, ?_, ?_, ?_, ?_, ?_, ?_, ?_⟩ <;> (first | omega | (intro z; exfalso; omega) | (intro z; unfold y_Ty; omega) | (intro z; unfold y_Tr; omega) | (intro z; refine ⟨?_, ?_⟩ <;> (first | omega | (unfold y_Tr; omega))) | (intro z; refine ⟨?_, ?_, ?_⟩ <;> (first | omega | (unfold y_Tr; omega))))) | (rcases h0_r_62 with hz | hz; exact Or.inl hz.1; (refine Or.inr ?_; unfold y_In; refine ⟨?_, ?_, ?_, ?_, ?_, ?_, ?_, ?_, ?_, ?_, ?_⟩ <;> (first | omega | (intro z; exfalso; omega) | (intro z; unfold y_Ty; omega) | (intro z; unfold y_Tr; omega) | (intro z; refine ⟨?_, ?_⟩ <;> (first | omega | (unfold y_Tr; omega))) | (intro z; refine ⟨?_, ?_, ?_⟩ <;> (first | omega | (unfold y_Tr; omega)))))))
    · skip
      have e13 : (188 : Int32).toInt = 188 := rfl
      have c4' := c4
      rw [← Int32.toInt_inj] at c4'
      refine y_if (fun c14 => ?_) (fun c14 => ?_)
      · skip
        have e15 : (189 : Int32).toInt = 189 := rfl
        have c14' := c14
        rw [← Int32.toInt_inj] at c14'
        refine y_bi (y_X9_isType (by omega) (by omega)) (fun r_55 h_r_55 => ?_)
        have h0_r_55 : (r_55.toInt = 0 ∧ ¬ (0 ≤ l2.toInt ∧ l2.toInt < 16777216 ∧ (l2.toInt % 65536 < v9_1.toInt ∨ 65528 ≤ l2.toInt % 65536))) ∨ (r_55.toInt = 1 ∧ (0 ≤ l2.toInt ∧ l2.toInt < 16777216 ∧ (l2.toInt % 65536 < v9_1.toInt ∨ 65528 ≤ l2.toInt % 65536))) := h_r_55
        refine y_if (fun c16 => ?_) (fun c16 => ?_)
        · skip
          have e17 : (0 : Int32).toInt = 0 := rfl
          have c16' := c16
          rw [← Int32.toInt_inj] at c16'
          have e18 := y_or0 h0_r_55 c16'
          clear h0_r_55
          refine y_some ?_
          try dsimp only
          (first | with_reducible assumption | omega | ((with_reducible refine y_Vl ?_ ?_) <;> omega) | (exact Or.inl (by omega)) | (refine Or.inr ?_; unfold y_In; refine ⟨?_, ?_, ?_, ?_, ?_, ?_, ?_, ?_, ?_, ?_, ?_⟩ <;> (first | omega | (intro z; exfalso; omega) | (intro z; unfold y_Ty; omega) | (intro z; unfold y_Tr; omega) | (intro z; refine ⟨?_, ?_⟩ <;> (first | omega | (unfold y_Tr; omega))) | (intro z; refine ⟨?_, ?_, ?_⟩ <;> (first | omega | (unfold y_Tr; omega))))) | (rcases h0_r_62 with hz | hz; exact Or.inl hz.1; (refine Or.inr ?_; unfold y_In; refine ⟨?_, ?_, ?_, ?_, ?_, ?_, ?_, ?_, ?_, ?_, ?_⟩ <;> (first | omega | (intro z; exfalso; omega) | (intro z; unfold y_Ty; omega) | (intro z; unfold y_Tr; omega) | (intro z; refine ⟨?_, ?_⟩ <;> (first | omega | (unfold y_Tr; omega))) | (intro z; refine ⟨?_, ?_, ?_⟩ <;> (first | omega | (unfold y_Tr; omega)))))))
        · skip
          have e19 : (0 : Int32).toInt = 0 := rfl
          have c16' := c16
          rw [← Int32.toInt_inj] at c16'
          have e20 := y_or1 h0_r_55 c16'
          clear h0_r_55
          refine y_bi (y_X9_isPrimitive) (fun r_57 h_r_57 => ?_)
          have h0_r_57 : (r_57.toInt = 0 ∧ ¬ (65528 ≤ l2.toInt ∧ l2.toInt < 65536)) ∨ (r_57.toInt = 1 ∧ (65528 ≤ l2.toInt ∧ l2.toInt < 65536)) := h_r_57
          refine y_if (fun c21 => ?_) (fun c21 => ?_)
          · skip
            have c21' := c21
            rw [← Int32.toInt_inj] at c21'
            have e22 := y_or0 h0_r_57 c21'
            clear h0_r_57
            refine y_if (fun c23 => ?_) (fun c23 => ?_)
            · skip
              have e24 : (255 : Int32).toInt = 255 := rfl
              have e25 := y_sar16 l2
              have c23' := c23
              rw [Int32.le_iff_toInt_le] at c23'
              refine y_some ?_
              try dsimp only
              (first | with_reducible assumption | omega | ((with_reducible refine y_Vl ?_ ?_) <;> omega) | (exact Or.inl (by omega)) | (refine Or.inr ?_; unfold y_In; refine ⟨?_, ?_, ?_, ?_, ?_, ?_, ?_, ?_, ?_, ?_, ?_⟩ <;> (first | omega | (intro z; exfalso; omega) | (intro z; unfold y_Ty; omega) | (intro z; unfold y_Tr; omega) | (intro z; refine ⟨?_, ?_⟩ <;> (first | omega | (unfold y_Tr; omega))) | (intro z; refine ⟨?_, ?_, ?_⟩ <;> (first | omega | (unfold y_Tr; omega))))) | (rcases h0_r_62 with hz | hz; exact Or.inl hz.1; (refine Or.inr ?_; unfold y_In; refine ⟨?_, ?_, ?_, ?_, ?_, ?_, ?_, ?_, ?_, ?_, ?_⟩ <;> (first | omega | (intro z; exfalso; omega) | (intro z; unfold y_Ty; omega) | (intro z; unfold y_Tr; omega) | (intro z; refine ⟨?_, ?_⟩ <;> (first | omega | (unfold y_Tr; omega))) | (intro z; refine ⟨?_, ?_, ?_⟩ <;> (first | omega | (unfold y_Tr; omega)))))))
            · skip
              have e26 : (255 : Int32).toInt = 255 := rfl
              have e27 := y_sar16 l2
              have c23' := c23
              rw [Int32.le_iff_toInt_le] at c23'
              have e28 : (1 : Int32).toInt = 1 := rfl
              refine y_some ?_
              try dsimp only
              (first | with_reducible assumption | omega | ((with_reducible refine y_Vl ?_ ?_) <;> omega) | (exact Or.inl (by omega)) | (refine Or.inr ?_; unfold y_In; refine ⟨?_, ?_, ?_, ?_, ?_, ?_, ?_, ?_, ?_, ?_, ?_⟩ <;> (first | omega | (intro z; exfalso; omega) | (intro z; unfold y_Ty; omega) | (intro z; unfold y_Tr; omega) | (intro z; refine ⟨?_, ?_⟩ <;> (first | omega | (unfold y_Tr; omega))) | (intro z; refine ⟨?_, ?_, ?_⟩ <;> (first | omega | (unfold y_Tr; omega))))) | (rcases h0_r_62 with hz | hz; exact Or.inl hz.1; (refine Or.inr ?_; unfold y_In; refine ⟨?_, ?_, ?_, ?_, ?_, ?_, ?_, ?_, ?_, ?_, ?_⟩ <;> (first | omega | (intro z; exfalso; omega) | (intro z; unfold y_Ty; omega) | (intro z; unfold y_Tr; omega) | (intro z; refine ⟨?_, ?_⟩ <;> (first | omega | (unfold y_Tr; omega))) | (intro z; refine ⟨?_, ?_, ?_⟩ <;> (first | omega | (unfold y_Tr; omega)))))))
          · skip
            have c21' := c21
            rw [← Int32.toInt_inj] at c21'
            have e29 := y_or1 h0_r_57 c21'
            clear h0_r_57
            refine y_some ?_
            try dsimp only
            (first | with_reducible assumption | omega | ((with_reducible refine y_Vl ?_ ?_) <;> omega) | (exact Or.inl (by omega)) | (refine Or.inr ?_; unfold y_In; refine ⟨?_, ?_, ?_, ?_, ?_, ?_, ?_, ?_, ?_, ?_, ?_⟩ <;> (first | omega | (intro z; exfalso; omega) | (intro z; unfold y_Ty; omega) | (intro z; unfold y_Tr; omega) | (intro z; refine ⟨?_, ?_⟩ <;> (first | omega | (unfold y_Tr; omega))) | (intro z; refine ⟨?_, ?_, ?_⟩ <;> (first | omega | (unfold y_Tr; omega))))) | (rcases h0_r_62 with hz | hz; exact Or.inl hz.1; (refine Or.inr ?_; unfold y_In; refine ⟨?_, ?_, ?_, ?_, ?_, ?_, ?_, ?_, ?_, ?_, ?_⟩ <;> (first | omega | (intro z; exfalso; omega) | (intro z; unfold y_Ty; omega) | (intro z; unfold y_Tr; omega) | (intro z; refine ⟨?_, ?_⟩ <;> (first | omega | (unfold y_Tr; omega))) | (intro z; refine ⟨?_, ?_, ?_⟩ <;> (first | omega | (unfold y_Tr; omega)))))))
      · skip
        have e30 : (189 : Int32).toInt = 189 := rfl
        have c14' := c14
        rw [← Int32.toInt_inj] at c14'
        refine y_if (fun c31 => ?_) (fun c31 => ?_)
        · skip
          have e32 : (192 : Int32).toInt = 192 := rfl
          have c31' := c31
          rw [← Int32.toInt_inj] at c31'
          have e33 : (0 : Int32).toInt = 0 := rfl
          refine y_Ok.mono (y_X9_fits_L_12 (o := o) (b := b) (l1 := 0) (l3 := 0) (by omega) (by omega) (by omega) (by omega) (by omega) (by omega) (by omega)) (fun r_t33 h_r_t33 => ?_)
          (first | with_reducible assumption | omega | ((with_reducible refine y_Vl ?_ ?_) <;> omega) | (exact Or.inl (by omega)) | (refine Or.inr ?_; unfold y_In; refine ⟨?_, ?_, ?_, ?_, ?_, ?_, ?_, ?_, ?_, ?_, ?_⟩ <;> (first | omega | (intro z; exfalso; omega) | (intro z; unfold y_Ty; omega) | (intro z; unfold y_Tr; omega) | (intro z; refine ⟨?_, ?_⟩ <;> (first | omega | (unfold y_Tr; omega))) | (intro z; refine ⟨?_, ?_, ?_⟩ <;> (first | omega | (unfold y_Tr; omega))))) | (rcases h0_r_62 with hz | hz; exact Or.inl hz.1; (refine Or.inr ?_; unfold y_In; refine ⟨?_, ?_, ?_, ?_, ?_, ?_, ?_, ?_, ?_, ?_, ?_⟩ <;> (first | omega | (intro z; exfalso; omega) | (intro z; unfold y_Ty; omega) | (intro z; unfold y_Tr; omega) | (intro z; refine ⟨?_, ?_⟩ <;> (first | omega | (unfold y_Tr; omega))) | (intro z; refine ⟨?_, ?_, ?_⟩ <;> (first | omega | (unfold y_Tr; omega)))))))
        · skip
          have e35 : (192 : Int32).toInt = 192 := rfl
          have c31' := c31
          rw [← Int32.toInt_inj] at c31'
          refine y_if (fun c36 => ?_) (fun c36 => ?_)
          · skip
            have e37 : (193 : Int32).toInt = 193 := rfl
            have c36' := c36
            rw [← Int32.toInt_inj] at c36'
            have e38 : (0 : Int32).toInt = 0 := rfl
            refine y_Ok.mono (y_X9_fits_L_12 (o := o) (b := b) (l1 := 0) (l3 := 0) (by omega) (by omega) (by omega) (by omega) (by omega) (by omega) (by omega)) (fun r_t38 h_r_t38 => ?_)
            (first | with_reducible assumption | omega | ((with_reducible refine y_Vl ?_ ?_) <;> omega) | (exact Or.inl (by omega)) | (refine Or.inr ?_; unfold y_In; refine ⟨?_, ?_, ?_, ?_, ?_, ?_, ?_, ?_, ?_, ?_, ?_⟩ <;> (first | omega | (intro z; exfalso; omega) | (intro z; unfold y_Ty; omega) | (intro z; unfold y_Tr; omega) | (intro z; refine ⟨?_, ?_⟩ <;> (first | omega | (unfold y_Tr; omega))) | (intro z; refine ⟨?_, ?_, ?_⟩ <;> (first | omega | (unfold y_Tr; omega))))) | (rcases h0_r_62 with hz | hz; exact Or.inl hz.1; (refine Or.inr ?_; unfold y_In; refine ⟨?_, ?_, ?_, ?_, ?_, ?_, ?_, ?_, ?_, ?_, ?_⟩ <;> (first | omega | (intro z; exfalso; omega) | (intro z; unfold y_Ty; omega) | (intro z; unfold y_Tr; omega) | (intro z; refine ⟨?_, ?_⟩ <;> (first | omega | (unfold y_Tr; omega))) | (intro z; refine ⟨?_, ?_, ?_⟩ <;> (first | omega | (unfold y_Tr; omega)))))))
          · skip
            have e40 : (193 : Int32).toInt = 193 := rfl
            have c36' := c36
            rw [← Int32.toInt_inj] at c36'
            have e41 : (0 : Int32).toInt = 0 := rfl
            refine y_some ?_
            try dsimp only
            (first | with_reducible assumption | omega | ((with_reducible refine y_Vl ?_ ?_) <;> omega) | (exact Or.inl (by omega)) | (refine Or.inr ?_; unfold y_In; refine ⟨?_, ?_, ?_, ?_, ?_, ?_, ?_, ?_, ?_, ?_, ?_⟩ <;> (first | omega | (intro z; exfalso; omega) | (intro z; unfold y_Ty; omega) | (intro z; unfold y_Tr; omega) | (intro z; refine ⟨?_, ?_⟩ <;> (first | omega | (unfold y_Tr; omega))) | (intro z; refine ⟨?_, ?_, ?_⟩ <;> (first | omega | (unfold y_Tr; omega))))) | (rcases h0_r_62 with hz | hz; exact Or.inl hz.1; (refine Or.inr ?_; unfold y_In; refine ⟨?_, ?_, ?_, ?_, ?_, ?_, ?_, ?_, ?_, ?_, ?_⟩ <;> (first | omega | (intro z; exfalso; omega) | (intro z; unfold y_Ty; omega) | (intro z; unfold y_Tr; omega) | (intro z; refine ⟨?_, ?_⟩ <;> (first | omega | (unfold y_Tr; omega))) | (intro z; refine ⟨?_, ?_, ?_⟩ <;> (first | omega | (unfold y_Tr; omega)))))))
set_option maxHeartbeats 4000000 in
theorem y_X9_fits_L_10 {v9_1 : Int32} {v9_2 : Int32} {v9_3 : Int32} {l2 : Int32} {o b : Int32} {l1 : Int32} {l3 : Int32} (k0 : 4 ≤ v9_1.toInt) (k1 : v9_1.toInt ≤ 200) (k2 : 0 ≤ v9_2.toInt) (k3 : v9_2.toInt ≤ 100) (k4 : 0 ≤ v9_3.toInt) (k5 : v9_3.toInt ≤ 100) (k6 : l1.toInt = o.toInt) : y_Ok (f_X9_fits_L v9_1 v9_2 v9_3 l2 (10, l1, l3)) (fun r => (r.toInt = 0 ∨ y_In o l2 b)) := by
  rw [f_X9_fits_L]
  refine y_in (by decide) ?_
  refine y_in (by decide) ?_
  refine y_in (by decide) ?_
  refine y_in (by decide) ?_
  refine y_in (by decide) ?_
  refine y_in (by decide) ?_
  refine y_in (by decide) ?_
  refine y_in (by decide) ?_
  refine y_in (by decide) ?_
  refine y_in (by decide) ?_
  refine y_ip rfl ?_
  refine y_if (fun c1 => ?_) (fun c1 => ?_)
  · skip
    have e2 : (182 : Int32).toInt = 182 := rfl
    have c1' := c1
    rw [Int32.lt_iff_toInt_lt] at c1'
    have e3 : (0 : Int32).toInt = 0 := rfl
    refine y_Ok.mono (y_X9_fits_L_11 (o := o) (b := b) (l1 := l1) (l3 := 0) (by omega) (by omega) (by omega) (by omega) (by omega) (by omega) (by omega)) (fun r_t3 h_r_t3 => ?_)
    (first | with_reducible assumption | omega | ((with_reducible refine y_Vl ?_ ?_) <;> omega) | (exact Or.inl (by omega)) | (refine Or.inr ?_; unfold y_In; refine ⟨?_, ?_, ?_, ?_, ?_, ?_, ?_, ?_, ?_, ?_, ?_⟩ <;> (first | omega | (intro z; exfalso; omega) | (intro z; unfold y_Ty; omega) | (intro z; unfold y_Tr; omega) | (intro z; refine ⟨?_, ?_⟩ <;> (first | omega | (unfold y_Tr; omega))) | (intro z; refine ⟨?_, ?_, ?_⟩ <;> (first | omega | (unfold y_Tr; omega))))))
  · skip
    have e5 : (182 : Int32).toInt = 182 := rfl
    have c1' := c1
    rw [Int32.lt_iff_toInt_lt] at c1'
    refine y_if (fun c6 => ?_) (fun c6 => ?_)
    · skip
      have e7 : (186 : Int32).toInt = 186 := rfl
      have c6' := c6
      rw [Int32.lt_iff_toInt_lt] at c6'
      have e8 : (0 : Int32).toInt = 0 := rfl
      refine y_Ok.mono (y_X9_fits_L_11 (o := o) (b := b) (l1 := l1) (l3 := 0) (by omega) (by omega) (by omega) (by omega) (by omega) (by omega) (by omega)) (fun r_t8 h_r_t8 => ?_)
      (first | with_reducible assumption | omega | ((with_reducible refine y_Vl ?_ ?_) <;> omega) | (exact Or.inl (by omega)) | (refine Or.inr ?_; unfold y_In; refine ⟨?_, ?_, ?_, ?_, ?_, ?_, ?_, ?_, ?_, ?_, ?_⟩ <;> (first | omega | (intro z; exfalso; omega) | (intro z; unfold y_Ty; omega) | (intro z; unfold y_Tr; omega) | (intro z; refine ⟨?_, ?_⟩ <;> (first | omega | (unfold y_Tr; omega))) | (intro z; refine ⟨?_, ?_, ?_⟩ <;> (first | omega | (unfold y_Tr; omega))))))
    · skip
      have e10 : (186 : Int32).toInt = 186 := rfl
      have c6' := c6
      rw [Int32.lt_iff_toInt_lt] at c6'
      refine y_if (fun c11 => ?_) (fun c11 => ?_)
      · skip
        have e12 : (0 : Int32).toInt = 0 := rfl
        have c11' := c11
        rw [Int32.lt_iff_toInt_lt] at c11'
        refine y_some ?_
        try dsimp only
        (first | with_reducible assumption | omega | ((with_reducible refine y_Vl ?_ ?_) <;> omega) | (exact Or.inl (by omega)) | (refine Or.inr ?_; unfold y_In; refine ⟨?_, ?_, ?_, ?_, ?_, ?_, ?_, ?_, ?_, ?_, ?_⟩ <;> (first | omega | (intro z; exfalso; omega) | (intro z; unfold y_Ty; omega) | (intro z; unfold y_Tr; omega) | (intro z; refine ⟨?_, ?_⟩ <;> (first | omega | (unfold y_Tr; omega))) | (intro z; refine ⟨?_, ?_, ?_⟩ <;> (first | omega | (unfold y_Tr; omega))))))
      · skip
        have e13 : (0 : Int32).toInt = 0 := rfl
        have c11' := c11
        rw [Int32.lt_iff_toInt_lt] at c11'
        refine y_if (fun c14 => ?_) (fun c14 => ?_)
        · skip
          have c14' := c14
          rw [Int32.le_iff_toInt_le] at c14'
          refine y_some ?_
          try dsimp only
          (first | with_reducible assumption | omega | ((with_reducible refine y_Vl ?_ ?_) <;> omega) | (exact Or.inl (by omega)) | (refine Or.inr ?_; unfold y_In; refine ⟨?_, ?_, ?_, ?_, ?_, ?_, ?_, ?_, ?_, ?_, ?_⟩ <;> (first | omega | (intro z; exfalso; omega) | (intro z; unfold y_Ty; omega) | (intro z; unfold y_Tr; omega) | (intro z; refine ⟨?_, ?_⟩ <;> (first | omega | (unfold y_Tr; omega))) | (intro z; refine ⟨?_, ?_, ?_⟩ <;> (first | omega | (unfold y_Tr; omega))))))
        · skip
          have c14' := c14
          rw [Int32.le_iff_toInt_le] at c14'
          have e15 : (1 : Int32).toInt = 1 := rfl
          refine y_some ?_
          try dsimp only
          (first | with_reducible assumption | omega | ((with_reducible refine y_Vl ?_ ?_) <;> omega) | (exact Or.inl (by omega)) | (refine Or.inr ?_; unfold y_In; refine ⟨?_, ?_, ?_, ?_, ?_, ?_, ?_, ?_, ?_, ?_, ?_⟩ <;> (first | omega | (intro z; exfalso; omega) | (intro z; unfold y_Ty; omega) | (intro z; unfold y_Tr; omega) | (intro z; refine ⟨?_, ?_⟩ <;> (first | omega | (unfold y_Tr; omega))) | (intro z; refine ⟨?_, ?_, ?_⟩ <;> (first | omega | (unfold y_Tr; omega))))))
set_option maxHeartbeats 4000000 in
theorem y_X9_fits_L_8 {v9_1 : Int32} {v9_2 : Int32} {v9_3 : Int32} {l2 : Int32} {o b : Int32} {l1 : Int32} {l3 : Int32} (k0 : 4 ≤ v9_1.toInt) (k1 : v9_1.toInt ≤ 200) (k2 : 0 ≤ v9_2.toInt) (k3 : v9_2.toInt ≤ 100) (k4 : 0 ≤ v9_3.toInt) (k5 : v9_3.toInt ≤ 100) (k6 : l1.toInt = o.toInt) : y_Ok (f_X9_fits_L v9_1 v9_2 v9_3 l2 (8, l1, l3)) (fun r => (r.toInt = 0 ∨ y_In o l2 b)) := by
  rw [f_X9_fits_L]
  refine y_in (by decide) ?_
  refine y_in (by decide) ?_
  refine y_in (by decide) ?_
  refine y_in (by decide) ?_
  refine y_in (by decide) ?_
  refine y_in (by decide) ?_
  refine y_in (by decide) ?_
  refine y_in (by decide) ?_
  refine y_ip rfl ?_
  refine y_if (fun c1 => ?_) (fun c1 => ?_)
  · skip
    have e2 : (198 : Int32).toInt = 198 := rfl
    have c1' := c1
    rw [← Int32.toInt_inj] at c1'
    have e3 : (0 : Int32).toInt = 0 := rfl
    refine y_Ok.mono (y_X9_fits_L_9 (o := o) (b := b) (l1 := 0) (l3 := 0) (by omega) (by omega) (by omega) (by omega) (by omega) (by omega) (by omega)) (fun r_t3 h_r_t3 => ?_)
    (first | with_reducible assumption | omega | ((with_reducible refine y_Vl ?_ ?_) <;> omega) | (exact Or.inl (by omega)) | (refine Or.inr ?_; unfold y_In; refine ⟨?_, ?_, ?_, ?_, ?_, ?_, ?_, ?_, ?_, ?_, ?_⟩ <;> (first | omega | (intro z; exfalso; omega) | (intro z; unfold y_Ty; omega) | (intro z; unfold y_Tr; omega) | (intro z; refine ⟨?_, ?_⟩ <;> (first | omega | (unfold y_Tr; omega))) | (intro z; refine ⟨?_, ?_, ?_⟩ <;> (first | omega | (unfold y_Tr; omega))))))
  · skip
    have e5 : (198 : Int32).toInt = 198 := rfl
    have c1' := c1
    rw [← Int32.toInt_inj] at c1'
    refine y_if (fun c6 => ?_) (fun c6 => ?_)
    · skip
      have e7 : (199 : Int32).toInt = 199 := rfl
      have c6' := c6
      rw [← Int32.toInt_inj] at c6'
      have e8 : (0 : Int32).toInt = 0 := rfl
      refine y_Ok.mono (y_X9_fits_L_9 (o := o) (b := b) (l1 := 0) (l3 := 0) (by omega) (by omega) (by omega) (by omega) (by omega) (by omega) (by omega)) (fun r_t8 h_r_t8 => ?_)
      (first | with_reducible assumption | omega | ((with_reducible refine y_Vl ?_ ?_) <;> omega) | (exact Or.inl (by omega)) | (refine Or.inr ?_; unfold y_In; refine ⟨?_, ?_, ?_, ?_, ?_, ?_, ?_, ?_, ?_, ?_, ?_⟩ <;> (first | omega | (intro z; exfalso; omega) | (intro z; unfold y_Ty; omega) | (intro z; unfold y_Tr; omega) | (intro z; refine ⟨?_, ?_⟩ <;> (first | omega | (unfold y_Tr; omega))) | (intro z; refine ⟨?_, ?_, ?_⟩ <;> (first | omega | (unfold y_Tr; omega))))))
    · skip
      have e10 : (199 : Int32).toInt = 199 := rfl
      have c6' := c6
      rw [← Int32.toInt_inj] at c6'
      refine y_if (fun c11 => ?_) (fun c11 => ?_)
      · skip
        have e12 : (178 : Int32).toInt = 178 := rfl
        have c11' := c11
        rw [Int32.lt_iff_toInt_lt] at c11'
        have e13 : (0 : Int32).toInt = 0 := rfl
        refine y_Ok.mono (y_X9_fits_L_10 (o := o) (b := b) (l1 := l1) (l3 := 0) (by omega) (by omega) (by omega) (by omega) (by omega) (by omega) (by omega)) (fun r_t13 h_r_t13 => ?_)
        (first | with_reducible assumption | omega | ((with_reducible refine y_Vl ?_ ?_) <;> omega) | (exact Or.inl (by omega)) | (refine Or.inr ?_; unfold y_In; refine ⟨?_, ?_, ?_, ?_, ?_, ?_, ?_, ?_, ?_, ?_, ?_⟩ <;> (first | omega | (intro z; exfalso; omega) | (intro z; unfold y_Ty; omega) | (intro z; unfold y_Tr; omega) | (intro z; refine ⟨?_, ?_⟩ <;> (first | omega | (unfold y_Tr; omega))) | (intro z; refine ⟨?_, ?_, ?_⟩ <;> (first | omega | (unfold y_Tr; omega))))))
      · skip
        have e15 : (178 : Int32).toInt = 178 := rfl
        have c11' := c11
        rw [Int32.lt_iff_toInt_lt] at c11'
        refine y_if (fun c16 => ?_) (fun c16 => ?_)
        · skip
          have e17 : (181 : Int32).toInt = 181 := rfl
          have c16' := c16
          rw [Int32.lt_iff_toInt_lt] at c16'
          have e18 : (0 : Int32).toInt = 0 := rfl
          refine y_Ok.mono (y_X9_fits_L_10 (o := o) (b := b) (l1 := l1) (l3 := 0) (by omega) (by omega) (by omega) (by omega) (by omega) (by omega) (by omega)) (fun r_t18 h_r_t18 => ?_)
          (first | with_reducible assumption | omega | ((with_reducible refine y_Vl ?_ ?_) <;> omega) | (exact Or.inl (by omega)) | (refine Or.inr ?_; unfold y_In; refine ⟨?_, ?_, ?_, ?_, ?_, ?_, ?_, ?_, ?_, ?_, ?_⟩ <;> (first | omega | (intro z; exfalso; omega) | (intro z; unfold y_Ty; omega) | (intro z; unfold y_Tr; omega) | (intro z; refine ⟨?_, ?_⟩ <;> (first | omega | (unfold y_Tr; omega))) | (intro z; refine ⟨?_, ?_, ?_⟩ <;> (first | omega | (unfold y_Tr; omega))))))
        · skip
          have e20 : (181 : Int32).toInt = 181 := rfl
          have c16' := c16
          rw [Int32.lt_iff_toInt_lt] at c16'
          refine y_if (fun c21 => ?_) (fun c21 => ?_)
          · skip
            have e22 : (0 : Int32).toInt = 0 := rfl
            have c21' := c21
            rw [Int32.lt_iff_toInt_lt] at c21'
            refine y_some ?_
            try dsimp only
            (first | with_reducible assumption | omega | ((with_reducible refine y_Vl ?_ ?_) <;> omega) | (exact Or.inl (by omega)) | (refine Or.inr ?_; unfold y_In; refine ⟨?_, ?_, ?_, ?_, ?_, ?_, ?_, ?_, ?_, ?_, ?_⟩ <;> (first | omega | (intro z; exfalso; omega) | (intro z; unfold y_Ty; omega) | (intro z; unfold y_Tr; omega) | (intro z; refine ⟨?_, ?_⟩ <;> (first | omega | (unfold y_Tr; omega))) | (intro z; refine ⟨?_, ?_, ?_⟩ <;> (first | omega | (unfold y_Tr; omega))))))
          · skip
            have e23 : (0 : Int32).toInt = 0 := rfl
            have c21' := c21
            rw [Int32.lt_iff_toInt_lt] at c21'
            refine y_if (fun c24 => ?_) (fun c24 => ?_)
            · skip
              have c24' := c24
              rw [Int32.le_iff_toInt_le] at c24'
              refine y_some ?_
              try dsimp only
              (first | with_reducible assumption | omega | ((with_reducible refine y_Vl ?_ ?_) <;> omega) | (exact Or.inl (by omega)) | (refine Or.inr ?_; unfold y_In; refine ⟨?_, ?_, ?_, ?_, ?_, ?_, ?_, ?_, ?_, ?_, ?_⟩ <;> (first | omega | (intro z; exfalso; omega) | (intro z; unfold y_Ty; omega) | (intro z; unfold y_Tr; omega) | (intro z; refine ⟨?_, ?_⟩ <;> (first | omega | (unfold y_Tr; omega))) | (intro z; refine ⟨?_, ?_, ?_⟩ <;> (first | omega | (unfold y_Tr; omega))))))
            · skip
              have c24' := c24
              rw [Int32.le_iff_toInt_le] at c24'
              have e25 : (1 : Int32).toInt = 1 := rfl
              refine y_some ?_
              try dsimp only
              (first | with_reducible assumption | omega | ((with_reducible refine y_Vl ?_ ?_) <;> omega) | (exact Or.inl (by omega)) | (refine Or.inr ?_; unfold y_In; refine ⟨?_, ?_, ?_, ?_, ?_, ?_, ?_, ?_, ?_, ?_, ?_⟩ <;> (first | omega | (intro z; exfalso; omega) | (intro z; unfold y_Ty; omega) | (intro z; unfold y_Tr; omega) | (intro z; refine ⟨?_, ?_⟩ <;> (first | omega | (unfold y_Tr; omega))) | (intro z; refine ⟨?_, ?_, ?_⟩ <;> (first | omega | (unfold y_Tr; omega))))))
set_option maxHeartbeats 4000000 in
theorem y_X9_fits_L_7 {v9_1 : Int32} {v9_2 : Int32} {v9_3 : Int32} {l2 : Int32} {o b : Int32} {l1 : Int32} {l3 : Int32} (k0 : 4 ≤ v9_1.toInt) (k1 : v9_1.toInt ≤ 200) (k2 : 0 ≤ v9_2.toInt) (k3 : v9_2.toInt ≤ 100) (k4 : 0 ≤ v9_3.toInt) (k5 : v9_3.toInt ≤ 100) (k6 : l1.toInt = o.toInt) : y_Ok (f_X9_fits_L v9_1 v9_2 v9_3 l2 (7, l1, l3)) (fun r => (r.toInt = 0 ∨ y_In o l2 b)) := by
  rw [f_X9_fits_L]
  refine y_in (by decide) ?_
  refine y_in (by decide) ?_
  refine y_in (by decide) ?_
  refine y_in (by decide) ?_
  refine y_in (by decide) ?_
  refine y_in (by decide) ?_
  refine y_in (by decide) ?_
  refine y_ip rfl ?_
  refine y_if (fun c1 => ?_) (fun c1 => ?_)
  · skip
    have e2 : (169 : Int32).toInt = 169 := rfl
    have c1' := c1
    rw [← Int32.toInt_inj] at c1'
    have e3 : (0 : Int32).toInt = 0 := rfl
    refine y_Ok.mono (y_X9_fits_L_9 (o := o) (b := b) (l1 := 0) (l3 := 0) (by omega) (by omega) (by omega) (by omega) (by omega) (by omega) (by omega)) (fun r_t3 h_r_t3 => ?_)
    (first | with_reducible assumption | omega | ((with_reducible refine y_Vl ?_ ?_) <;> omega) | (exact Or.inl (by omega)) | (refine Or.inr ?_; unfold y_In; refine ⟨?_, ?_, ?_, ?_, ?_, ?_, ?_, ?_, ?_, ?_, ?_⟩ <;> (first | omega | (intro z; exfalso; omega) | (intro z; unfold y_Ty; omega) | (intro z; unfold y_Tr; omega) | (intro z; refine ⟨?_, ?_⟩ <;> (first | omega | (unfold y_Tr; omega))) | (intro z; refine ⟨?_, ?_, ?_⟩ <;> (first | omega | (unfold y_Tr; omega))))))
  · skip
    have e5 : (169 : Int32).toInt = 169 := rfl
    have c1' := c1
    rw [← Int32.toInt_inj] at c1'
    refine y_if (fun c6 => ?_) (fun c6 => ?_)
    · skip
      have e7 : (153 : Int32).toInt = 153 := rfl
      have c6' := c6
      rw [Int32.lt_iff_toInt_lt] at c6'
      have e8 : (0 : Int32).toInt = 0 := rfl
      refine y_Ok.mono (y_X9_fits_L_8 (o := o) (b := b) (l1 := l1) (l3 := 0) (by omega) (by omega) (by omega) (by omega) (by omega) (by omega) (by omega)) (fun r_t8 h_r_t8 => ?_)
      (first | with_reducible assumption | omega | ((with_reducible refine y_Vl ?_ ?_) <;> omega) | (exact Or.inl (by omega)) | (refine Or.inr ?_; unfold y_In; refine ⟨?_, ?_, ?_, ?_, ?_, ?_, ?_, ?_, ?_, ?_, ?_⟩ <;> (first | omega | (intro z; exfalso; omega) | (intro z; unfold y_Ty; omega) | (intro z; unfold y_Tr; omega) | (intro z; refine ⟨?_, ?_⟩ <;> (first | omega | (unfold y_Tr; omega))) | (intro z; refine ⟨?_, ?_, ?_⟩ <;> (first | omega | (unfold y_Tr; omega))))))
    · skip
      have e10 : (153 : Int32).toInt = 153 := rfl
      have c6' := c6
      rw [Int32.lt_iff_toInt_lt] at c6'
      refine y_if (fun c11 => ?_) (fun c11 => ?_)
      · skip
        have e12 : (168 : Int32).toInt = 168 := rfl
        have c11' := c11
        rw [Int32.le_iff_toInt_le] at c11'
        have e13 : (0 : Int32).toInt = 0 := rfl
        refine y_Ok.mono (y_X9_fits_L_9 (o := o) (b := b) (l1 := 0) (l3 := 0) (by omega) (by omega) (by omega) (by omega) (by omega) (by omega) (by omega)) (fun r_t13 h_r_t13 => ?_)
        (first | with_reducible assumption | omega | ((with_reducible refine y_Vl ?_ ?_) <;> omega) | (exact Or.inl (by omega)) | (refine Or.inr ?_; unfold y_In; refine ⟨?_, ?_, ?_, ?_, ?_, ?_, ?_, ?_, ?_, ?_, ?_⟩ <;> (first | omega | (intro z; exfalso; omega) | (intro z; unfold y_Ty; omega) | (intro z; unfold y_Tr; omega) | (intro z; refine ⟨?_, ?_⟩ <;> (first | omega | (unfold y_Tr; omega))) | (intro z; refine ⟨?_, ?_, ?_⟩ <;> (first | omega | (unfold y_Tr; omega))))))
      · skip
        have e15 : (168 : Int32).toInt = 168 := rfl
        have c11' := c11
        rw [Int32.le_iff_toInt_le] at c11'
        have e16 : (0 : Int32).toInt = 0 := rfl
        refine y_Ok.mono (y_X9_fits_L_8 (o := o) (b := b) (l1 := l1) (l3 := 0) (by omega) (by omega) (by omega) (by omega) (by omega) (by omega) (by omega)) (fun r_t16 h_r_t16 => ?_)
        (first | with_reducible assumption | omega | ((with_reducible refine y_Vl ?_ ?_) <;> omega) | (exact Or.inl (by omega)) | (refine Or.inr ?_; unfold y_In; refine ⟨?_, ?_, ?_, ?_, ?_, ?_, ?_, ?_, ?_, ?_, ?_⟩ <;> (first | omega | (intro z; exfalso; omega) | (intro z; unfold y_Ty; omega) | (intro z; unfold y_Tr; omega) | (intro z; refine ⟨?_, ?_⟩ <;> (first | omega | (unfold y_Tr; omega))) | (intro z; refine ⟨?_, ?_, ?_⟩ <;> (first | omega | (unfold y_Tr; omega))))))
set_option maxHeartbeats 4000000 in
theorem y_X9_fits_L_6 {v9_1 : Int32} {v9_2 : Int32} {v9_3 : Int32} {l2 : Int32} {o b : Int32} {l1 : Int32} {l3 : Int32} (k0 : 4 ≤ v9_1.toInt) (k1 : v9_1.toInt ≤ 200) (k2 : 0 ≤ v9_2.toInt) (k3 : v9_2.toInt ≤ 100) (k4 : 0 ≤ v9_3.toInt) (k5 : v9_3.toInt ≤ 100) (k6 : l1.toInt = o.toInt) : y_Ok (f_X9_fits_L v9_1 v9_2 v9_3 l2 (6, l1, l3)) (fun r => (r.toInt = 0 ∨ y_In o l2 b)) := by
  rw [f_X9_fits_L]
  refine y_in (by decide) ?_
  refine y_in (by decide) ?_
  refine y_in (by decide) ?_
  refine y_in (by decide) ?_
  refine y_in (by decide) ?_
  refine y_in (by decide) ?_
  refine y_ip rfl ?_
  refine y_if (fun c1 => ?_) (fun c1 => ?_)
  · skip
    have e2 : (54 : Int32).toInt = 54 := rfl
    have c1' := c1
    rw [Int32.lt_iff_toInt_lt] at c1'
    have e3 : (0 : Int32).toInt = 0 := rfl
    refine y_Ok.mono (y_X9_fits_L_7 (o := o) (b := b) (l1 := l1) (l3 := 0) (by omega) (by omega) (by omega) (by omega) (by omega) (by omega) (by omega)) (fun r_t3 h_r_t3 => ?_)
    (first | with_reducible assumption | omega | ((with_reducible refine y_Vl ?_ ?_) <;> omega) | (exact Or.inl (by omega)) | (refine Or.inr ?_; unfold y_In; refine ⟨?_, ?_, ?_, ?_, ?_, ?_, ?_, ?_, ?_, ?_, ?_⟩ <;> (first | omega | (intro z; exfalso; omega) | (intro z; unfold y_Ty; omega) | (intro z; unfold y_Tr; omega) | (intro z; refine ⟨?_, ?_⟩ <;> (first | omega | (unfold y_Tr; omega))) | (intro z; refine ⟨?_, ?_, ?_⟩ <;> (first | omega | (unfold y_Tr; omega))))))
  · skip
    have e5 : (54 : Int32).toInt = 54 := rfl
    have c1' := c1
    rw [Int32.lt_iff_toInt_lt] at c1'
    refine y_if (fun c6 => ?_) (fun c6 => ?_)
    · skip
      have e7 : (58 : Int32).toInt = 58 := rfl
      have c6' := c6
      rw [Int32.le_iff_toInt_le] at c6'
      have e8 : (0 : Int32).toInt = 0 := rfl
      refine y_Ok.mono (y_X9_fits_L_9 (o := o) (b := b) (l1 := 0) (l3 := 0) (by omega) (by omega) (by omega) (by omega) (by omega) (by omega) (by omega)) (fun r_t8 h_r_t8 => ?_)
      (first | with_reducible assumption | omega | ((with_reducible refine y_Vl ?_ ?_) <;> omega) | (exact Or.inl (by omega)) | (refine Or.inr ?_; unfold y_In; refine ⟨?_, ?_, ?_, ?_, ?_, ?_, ?_, ?_, ?_, ?_, ?_⟩ <;> (first | omega | (intro z; exfalso; omega) | (intro z; unfold y_Ty; omega) | (intro z; unfold y_Tr; omega) | (intro z; refine ⟨?_, ?_⟩ <;> (first | omega | (unfold y_Tr; omega))) | (intro z; refine ⟨?_, ?_, ?_⟩ <;> (first | omega | (unfold y_Tr; omega))))))
    · skip
      have e10 : (58 : Int32).toInt = 58 := rfl
      have c6' := c6
      rw [Int32.le_iff_toInt_le] at c6'
      have e11 : (0 : Int32).toInt = 0 := rfl
      refine y_Ok.mono (y_X9_fits_L_7 (o := o) (b := b) (l1 := l1) (l3 := 0) (by omega) (by omega) (by omega) (by omega) (by omega) (by omega) (by omega)) (fun r_t11 h_r_t11 => ?_)
      (first | with_reducible assumption | omega | ((with_reducible refine y_Vl ?_ ?_) <;> omega) | (exact Or.inl (by omega)) | (refine Or.inr ?_; unfold y_In; refine ⟨?_, ?_, ?_, ?_, ?_, ?_, ?_, ?_, ?_, ?_, ?_⟩ <;> (first | omega | (intro z; exfalso; omega) | (intro z; unfold y_Ty; omega) | (intro z; unfold y_Tr; omega) | (intro z; refine ⟨?_, ?_⟩ <;> (first | omega | (unfold y_Tr; omega))) | (intro z; refine ⟨?_, ?_, ?_⟩ <;> (first | omega | (unfold y_Tr; omega))))))
set_option maxHeartbeats 4000000 in
theorem y_X9_fits_L_4 {v9_1 : Int32} {v9_2 : Int32} {v9_3 : Int32} {l2 : Int32} {o b : Int32} {l1 : Int32} {l3 : Int32} (k0 : 4 ≤ v9_1.toInt) (k1 : v9_1.toInt ≤ 200) (k2 : 0 ≤ v9_2.toInt) (k3 : v9_2.toInt ≤ 100) (k4 : 0 ≤ v9_3.toInt) (k5 : v9_3.toInt ≤ 100) (k6 : l1.toInt = o.toInt) (k7 : l3.toInt = b.toInt) : y_Ok (f_X9_fits_L v9_1 v9_2 v9_3 l2 (4, l1, l3)) (fun r => (r.toInt = 0 ∨ y_In o l2 b)) := by
  rw [f_X9_fits_L]
  refine y_in (by decide) ?_
  refine y_in (by decide) ?_
  refine y_in (by decide) ?_
  refine y_in (by decide) ?_
  refine y_ip rfl ?_
  refine y_if (fun c1 => ?_) (fun c1 => ?_)
  · skip
    have e2 : (190 : Int32).toInt = 190 := rfl
    have c1' := c1
    rw [← Int32.toInt_inj] at c1'
    have e3 : (0 : Int32).toInt = 0 := rfl
    refine y_Ok.mono (y_X9_fits_L_5 (o := o) (b := b) (l1 := 0) (l3 := l3) (by omega) (by omega) (by omega) (by omega) (by omega) (by omega) (by omega) (by omega)) (fun r_t3 h_r_t3 => ?_)
    (first | with_reducible assumption | omega | ((with_reducible refine y_Vl ?_ ?_) <;> omega) | (exact Or.inl (by omega)) | (refine Or.inr ?_; unfold y_In; refine ⟨?_, ?_, ?_, ?_, ?_, ?_, ?_, ?_, ?_, ?_, ?_⟩ <;> (first | omega | (intro z; exfalso; omega) | (intro z; unfold y_Ty; omega) | (intro z; unfold y_Tr; omega) | (intro z; refine ⟨?_, ?_⟩ <;> (first | omega | (unfold y_Tr; omega))) | (intro z; refine ⟨?_, ?_, ?_⟩ <;> (first | omega | (unfold y_Tr; omega))))) | (rcases h0_r_22 with hz | hz; exact Or.inl hz.1; (refine Or.inr ?_; unfold y_In; refine ⟨?_, ?_, ?_, ?_, ?_, ?_, ?_, ?_, ?_, ?_, ?_⟩ <;> (first | omega | (intro z; exfalso; omega) | (intro z; unfold y_Ty; omega) | (intro z; unfold y_Tr; omega) | (intro z; refine ⟨?_, ?_⟩ <;> (first | omega | (unfold y_Tr; omega))) | (intro z; refine ⟨?_, ?_, ?_⟩ <;> (first | omega | (unfold y_Tr; omega)))))))
  · skip
    have e5 : (190 : Int32).toInt = 190 := rfl
    have c1' := c1
    rw [← Int32.toInt_inj] at c1'
    refine y_if (fun c6 => ?_) (fun c6 => ?_)
    · skip
      have e7 : (191 : Int32).toInt = 191 := rfl
      have c6' := c6
      rw [← Int32.toInt_inj] at c6'
      have e8 : (0 : Int32).toInt = 0 := rfl
      refine y_Ok.mono (y_X9_fits_L_5 (o := o) (b := b) (l1 := 0) (l3 := l3) (by omega) (by omega) (by omega) (by omega) (by omega) (by omega) (by omega) (by omega)) (fun r_t8 h_r_t8 => ?_)
      (first | with_reducible assumption | omega | ((with_reducible refine y_Vl ?_ ?_) <;> omega) | (exact Or.inl (by omega)) | (refine Or.inr ?_; unfold y_In; refine ⟨?_, ?_, ?_, ?_, ?_, ?_, ?_, ?_, ?_, ?_, ?_⟩ <;> (first | omega | (intro z; exfalso; omega) | (intro z; unfold y_Ty; omega) | (intro z; unfold y_Tr; omega) | (intro z; refine ⟨?_, ?_⟩ <;> (first | omega | (unfold y_Tr; omega))) | (intro z; refine ⟨?_, ?_, ?_⟩ <;> (first | omega | (unfold y_Tr; omega))))) | (rcases h0_r_22 with hz | hz; exact Or.inl hz.1; (refine Or.inr ?_; unfold y_In; refine ⟨?_, ?_, ?_, ?_, ?_, ?_, ?_, ?_, ?_, ?_, ?_⟩ <;> (first | omega | (intro z; exfalso; omega) | (intro z; unfold y_Ty; omega) | (intro z; unfold y_Tr; omega) | (intro z; refine ⟨?_, ?_⟩ <;> (first | omega | (unfold y_Tr; omega))) | (intro z; refine ⟨?_, ?_, ?_⟩ <;> (first | omega | (unfold y_Tr; omega)))))))
    · skip
      have e10 : (191 : Int32).toInt = 191 := rfl
      have c6' := c6
      rw [← Int32.toInt_inj] at c6'
      refine y_if (fun c11 => ?_) (fun c11 => ?_)
      · skip
        have e12 : (194 : Int32).toInt = 194 := rfl
        have c11' := c11
        rw [← Int32.toInt_inj] at c11'
        have e13 : (0 : Int32).toInt = 0 := rfl
        refine y_Ok.mono (y_X9_fits_L_5 (o := o) (b := b) (l1 := 0) (l3 := l3) (by omega) (by omega) (by omega) (by omega) (by omega) (by omega) (by omega) (by omega)) (fun r_t13 h_r_t13 => ?_)
        (first | with_reducible assumption | omega | ((with_reducible refine y_Vl ?_ ?_) <;> omega) | (exact Or.inl (by omega)) | (refine Or.inr ?_; unfold y_In; refine ⟨?_, ?_, ?_, ?_, ?_, ?_, ?_, ?_, ?_, ?_, ?_⟩ <;> (first | omega | (intro z; exfalso; omega) | (intro z; unfold y_Ty; omega) | (intro z; unfold y_Tr; omega) | (intro z; refine ⟨?_, ?_⟩ <;> (first | omega | (unfold y_Tr; omega))) | (intro z; refine ⟨?_, ?_, ?_⟩ <;> (first | omega | (unfold y_Tr; omega))))) | (rcases h0_r_22 with hz | hz; exact Or.inl hz.1; (refine Or.inr ?_; unfold y_In; refine ⟨?_, ?_, ?_, ?_, ?_, ?_, ?_, ?_, ?_, ?_, ?_⟩ <;> (first | omega | (intro z; exfalso; omega) | (intro z; unfold y_Ty; omega) | (intro z; unfold y_Tr; omega) | (intro z; refine ⟨?_, ?_⟩ <;> (first | omega | (unfold y_Tr; omega))) | (intro z; refine ⟨?_, ?_, ?_⟩ <;> (first | omega | (unfold y_Tr; omega)))))))
      · skip
        have e15 : (194 : Int32).toInt = 194 := rfl
        have c11' := c11
        rw [← Int32.toInt_inj] at c11'
        refine y_if (fun c16 => ?_) (fun c16 => ?_)
        · skip
          have e17 : (195 : Int32).toInt = 195 := rfl
          have c16' := c16
          rw [← Int32.toInt_inj] at c16'
          have e18 : (0 : Int32).toInt = 0 := rfl
          refine y_Ok.mono (y_X9_fits_L_5 (o := o) (b := b) (l1 := 0) (l3 := l3) (by omega) (by omega) (by omega) (by omega) (by omega) (by omega) (by omega) (by omega)) (fun r_t18 h_r_t18 => ?_)
          (first | with_reducible assumption | omega | ((with_reducible refine y_Vl ?_ ?_) <;> omega) | (exact Or.inl (by omega)) | (refine Or.inr ?_; unfold y_In; refine ⟨?_, ?_, ?_, ?_, ?_, ?_, ?_, ?_, ?_, ?_, ?_⟩ <;> (first | omega | (intro z; exfalso; omega) | (intro z; unfold y_Ty; omega) | (intro z; unfold y_Tr; omega) | (intro z; refine ⟨?_, ?_⟩ <;> (first | omega | (unfold y_Tr; omega))) | (intro z; refine ⟨?_, ?_, ?_⟩ <;> (first | omega | (unfold y_Tr; omega))))) | (rcases h0_r_22 with hz | hz; exact Or.inl hz.1; (refine Or.inr ?_; unfold y_In; refine ⟨?_, ?_, ?_, ?_, ?_, ?_, ?_, ?_, ?_, ?_, ?_⟩ <;> (first | omega | (intro z; exfalso; omega) | (intro z; unfold y_Ty; omega) | (intro z; unfold y_Tr; omega) | (intro z; refine ⟨?_, ?_⟩ <;> (first | omega | (unfold y_Tr; omega))) | (intro z; refine ⟨?_, ?_, ?_⟩ <;> (first | omega | (unfold y_Tr; omega)))))))
        · skip
          have e20 : (195 : Int32).toInt = 195 := rfl
          have c16' := c16
          rw [← Int32.toInt_inj] at c16'
          refine y_if (fun c21 => ?_) (fun c21 => ?_)
          · skip
            have e22 : (132 : Int32).toInt = 132 := rfl
            have c21' := c21
            rw [← Int32.toInt_inj] at c21'
            refine y_if (fun c23 => ?_) (fun c23 => ?_)
            · skip
              have e24 : (0 : Int32).toInt = 0 := rfl
              have c23' := c23
              rw [Int32.lt_iff_toInt_lt] at c23'
              refine y_some ?_
              try dsimp only
              (first | with_reducible assumption | omega | ((with_reducible refine y_Vl ?_ ?_) <;> omega) | (exact Or.inl (by omega)) | (refine Or.inr ?_; unfold y_In; refine ⟨?_, ?_, ?_, ?_, ?_, ?_, ?_, ?_, ?_, ?_, ?_⟩ <;> (first | omega | (intro z; exfalso; omega) | (intro z; unfold y_Ty; omega) | (intro z; unfold y_Tr; omega) | (intro z; refine ⟨?_, ?_⟩ <;> (first | omega | (unfold y_Tr; omega))) | (intro z; refine ⟨?_, ?_, ?_⟩ <;> (first | omega | (unfold y_Tr; omega))))) | (rcases h0_r_22 with hz | hz; exact Or.inl hz.1; (refine Or.inr ?_; unfold y_In; refine ⟨?_, ?_, ?_, ?_, ?_, ?_, ?_, ?_, ?_, ?_, ?_⟩ <;> (first | omega | (intro z; exfalso; omega) | (intro z; unfold y_Ty; omega) | (intro z; unfold y_Tr; omega) | (intro z; refine ⟨?_, ?_⟩ <;> (first | omega | (unfold y_Tr; omega))) | (intro z; refine ⟨?_, ?_, ?_⟩ <;> (first | omega | (unfold y_Tr; omega)))))))
            · skip
              have e25 : (0 : Int32).toInt = 0 := rfl
              have c23' := c23
              rw [Int32.lt_iff_toInt_lt] at c23'
              have e26 : (1 : Int32).toInt = 1 := rfl
              refine y_some ?_
              try dsimp only
              (first | with_reducible assumption | omega | ((with_reducible refine y_Vl ?_ ?_) <;> omega) | (exact Or.inl (by omega)) | (refine Or.inr ?_; unfold y_In; refine ⟨?_, ?_, ?_, ?_, ?_, ?_, ?_, ?_, ?_, ?_, ?_⟩ <;> (first | omega | (intro z; exfalso; omega) | (intro z; unfold y_Ty; omega) | (intro z; unfold y_Tr; omega) | (intro z; refine ⟨?_, ?_⟩ <;> (first | omega | (unfold y_Tr; omega))) | (intro z; refine ⟨?_, ?_, ?_⟩ <;> (first | omega | (unfold y_Tr; omega))))) | (rcases h0_r_22 with hz | hz; exact Or.inl hz.1; (refine Or.inr ?_; unfold y_In; refine ⟨?_, ?_, ?_, ?_, ?_, ?_, ?_, ?_, ?_, ?_, ?_⟩ <;> (first | omega | (intro z; exfalso; omega) | (intro z; unfold y_Ty; omega) | (intro z; unfold y_Tr; omega) | (intro z; refine ⟨?_, ?_⟩ <;> (first | omega | (unfold y_Tr; omega))) | (intro z; refine ⟨?_, ?_, ?_⟩ <;> (first | omega | (unfold y_Tr; omega)))))))
          · skip
            have e27 : (132 : Int32).toInt = 132 := rfl
            have c21' := c21
            rw [← Int32.toInt_inj] at c21'
            refine y_if (fun c28 => ?_) (fun c28 => ?_)
            · skip
              have e29 : (197 : Int32).toInt = 197 := rfl
              have c28' := c28
              rw [← Int32.toInt_inj] at c28'
              refine y_bi (y_X9_isType (by omega) (by omega)) (fun r_27 h_r_27 => ?_)
              have h0_r_27 : (r_27.toInt = 0 ∧ ¬ (0 ≤ l2.toInt ∧ l2.toInt < 16777216 ∧ (l2.toInt % 65536 < v9_1.toInt ∨ 65528 ≤ l2.toInt % 65536))) ∨ (r_27.toInt = 1 ∧ (0 ≤ l2.toInt ∧ l2.toInt < 16777216 ∧ (l2.toInt % 65536 < v9_1.toInt ∨ 65528 ≤ l2.toInt % 65536))) := h_r_27
              refine y_if (fun c30 => ?_) (fun c30 => ?_)
              · skip
                have e31 : (0 : Int32).toInt = 0 := rfl
                have c30' := c30
                rw [← Int32.toInt_inj] at c30'
                have e32 := y_or0 h0_r_27 c30'
                clear h0_r_27
                refine y_some ?_
                try dsimp only
                (first | with_reducible assumption | omega | ((with_reducible refine y_Vl ?_ ?_) <;> omega) | (exact Or.inl (by omega)) | (refine Or.inr ?_; unfold y_In; refine ⟨?_, ?_, ?_, ?_, ?_, ?_, ?_, ?_, ?_, ?_, ?_⟩ <;> (first | omega | (intro z; exfalso; omega) | (intro z; unfold y_Ty; omega) | (intro z; unfold y_Tr; omega) | (intro z; refine ⟨?_, ?_⟩ <;> (first | omega | (unfold y_Tr; omega))) | (intro z; refine ⟨?_, ?_, ?_⟩ <;> (first | omega | (unfold y_Tr; omega))))) | (rcases h0_r_22 with hz | hz; exact Or.inl hz.1; (refine Or.inr ?_; unfold y_In; refine ⟨?_, ?_, ?_, ?_, ?_, ?_, ?_, ?_, ?_, ?_, ?_⟩ <;> (first | omega | (intro z; exfalso; omega) | (intro z; unfold y_Ty; omega) | (intro z; unfold y_Tr; omega) | (intro z; refine ⟨?_, ?_⟩ <;> (first | omega | (unfold y_Tr; omega))) | (intro z; refine ⟨?_, ?_, ?_⟩ <;> (first | omega | (unfold y_Tr; omega)))))))
              · skip
                have e33 : (0 : Int32).toInt = 0 := rfl
                have c30' := c30
                rw [← Int32.toInt_inj] at c30'
                have e34 := y_or1 h0_r_27 c30'
                clear h0_r_27
                refine y_if (fun c35 => ?_) (fun c35 => ?_)
                · skip
                  have e36 : (1 : Int32).toInt = 1 := rfl
                  have c35' := c35
                  rw [Int32.lt_iff_toInt_lt] at c35'
                  refine y_some ?_
                  try dsimp only
                  (first | with_reducible assumption | omega | ((with_reducible refine y_Vl ?_ ?_) <;> omega) | (exact Or.inl (by omega)) | (refine Or.inr ?_; unfold y_In; refine ⟨?_, ?_, ?_, ?_, ?_, ?_, ?_, ?_, ?_, ?_, ?_⟩ <;> (first | omega | (intro z; exfalso; omega) | (intro z; unfold y_Ty; omega) | (intro z; unfold y_Tr; omega) | (intro z; refine ⟨?_, ?_⟩ <;> (first | omega | (unfold y_Tr; omega))) | (intro z; refine ⟨?_, ?_, ?_⟩ <;> (first | omega | (unfold y_Tr; omega))))) | (rcases h0_r_22 with hz | hz; exact Or.inl hz.1; (refine Or.inr ?_; unfold y_In; refine ⟨?_, ?_, ?_, ?_, ?_, ?_, ?_, ?_, ?_, ?_, ?_⟩ <;> (first | omega | (intro z; exfalso; omega) | (intro z; unfold y_Ty; omega) | (intro z; unfold y_Tr; omega) | (intro z; refine ⟨?_, ?_⟩ <;> (first | omega | (unfold y_Tr; omega))) | (intro z; refine ⟨?_, ?_, ?_⟩ <;> (first | omega | (unfold y_Tr; omega)))))))
                · skip
                  have e37 : (1 : Int32).toInt = 1 := rfl
                  have c35' := c35
                  rw [Int32.lt_iff_toInt_lt] at c35'
                  refine y_if (fun c38 => ?_) (fun c38 => ?_)
                  · skip
                    have e39 := y_sar16 l2
                    have c38' := c38
                    rw [Int32.lt_iff_toInt_lt] at c38'
                    refine y_some ?_
                    try dsimp only
                    (first | with_reducible assumption | omega | ((with_reducible refine y_Vl ?_ ?_) <;> omega) | (exact Or.inl (by omega)) | (refine Or.inr ?_; unfold y_In; refine ⟨?_, ?_, ?_, ?_, ?_, ?_, ?_, ?_, ?_, ?_, ?_⟩ <;> (first | omega | (intro z; exfalso; omega) | (intro z; unfold y_Ty; omega) | (intro z; unfold y_Tr; omega) | (intro z; refine ⟨?_, ?_⟩ <;> (first | omega | (unfold y_Tr; omega))) | (intro z; refine ⟨?_, ?_, ?_⟩ <;> (first | omega | (unfold y_Tr; omega))))) | (rcases h0_r_22 with hz | hz; exact Or.inl hz.1; (refine Or.inr ?_; unfold y_In; refine ⟨?_, ?_, ?_, ?_, ?_, ?_, ?_, ?_, ?_, ?_, ?_⟩ <;> (first | omega | (intro z; exfalso; omega) | (intro z; unfold y_Ty; omega) | (intro z; unfold y_Tr; omega) | (intro z; refine ⟨?_, ?_⟩ <;> (first | omega | (unfold y_Tr; omega))) | (intro z; refine ⟨?_, ?_, ?_⟩ <;> (first | omega | (unfold y_Tr; omega)))))))
                  · skip
                    have e40 := y_sar16 l2
                    have c38' := c38
                    rw [Int32.lt_iff_toInt_lt] at c38'
                    refine y_some ?_
                    try dsimp only
                    (first | with_reducible assumption | omega | ((with_reducible refine y_Vl ?_ ?_) <;> omega) | (exact Or.inl (by omega)) | (refine Or.inr ?_; unfold y_In; refine ⟨?_, ?_, ?_, ?_, ?_, ?_, ?_, ?_, ?_, ?_, ?_⟩ <;> (first | omega | (intro z; exfalso; omega) | (intro z; unfold y_Ty; omega) | (intro z; unfold y_Tr; omega) | (intro z; refine ⟨?_, ?_⟩ <;> (first | omega | (unfold y_Tr; omega))) | (intro z; refine ⟨?_, ?_, ?_⟩ <;> (first | omega | (unfold y_Tr; omega))))) | (rcases h0_r_22 with hz | hz; exact Or.inl hz.1; (refine Or.inr ?_; unfold y_In; refine ⟨?_, ?_, ?_, ?_, ?_, ?_, ?_, ?_, ?_, ?_, ?_⟩ <;> (first | omega | (intro z; exfalso; omega) | (intro z; unfold y_Ty; omega) | (intro z; unfold y_Tr; omega) | (intro z; refine ⟨?_, ?_⟩ <;> (first | omega | (unfold y_Tr; omega))) | (intro z; refine ⟨?_, ?_, ?_⟩ <;> (first | omega | (unfold y_Tr; omega)))))))
            · skip
              have e41 : (197 : Int32).toInt = 197 := rfl
              have c28' := c28
              rw [← Int32.toInt_inj] at c28'
              refine y_if (fun c42 => ?_) (fun c42 => ?_)
              · skip
                have e43 : (0 : Int32).toInt = 0 := rfl
                have c42' := c42
                rw [← Int32.toInt_inj] at c42'
                refine y_if (fun c44 => ?_) (fun c44 => ?_)
                · skip
                  have e45 : (16 : Int32).toInt = 16 := rfl
                  have c44' := c44
                  rw [← Int32.toInt_inj] at c44'
                  have e46 : (1 : Int32).toInt = 1 := rfl
                  refine y_some ?_
                  try dsimp only
                  (first | with_reducible assumption | omega | ((with_reducible refine y_Vl ?_ ?_) <;> omega) | (exact Or.inl (by omega)) | (refine Or.inr ?_; unfold y_In; refine ⟨?_, ?_, ?_, ?_, ?_, ?_, ?_, ?_, ?_, ?_, ?_⟩ <;> (first | omega | (intro z; exfalso; omega) | (intro z; unfold y_Ty; omega) | (intro z; unfold y_Tr; omega) | (intro z; refine ⟨?_, ?_⟩ <;> (first | omega | (unfold y_Tr; omega))) | (intro z; refine ⟨?_, ?_, ?_⟩ <;> (first | omega | (unfold y_Tr; omega))))) | (rcases h0_r_22 with hz | hz; exact Or.inl hz.1; (refine Or.inr ?_; unfold y_In; refine ⟨?_, ?_, ?_, ?_, ?_, ?_, ?_, ?_, ?_, ?_, ?_⟩ <;> (first | omega | (intro z; exfalso; omega) | (intro z; unfold y_Ty; omega) | (intro z; unfold y_Tr; omega) | (intro z; refine ⟨?_, ?_⟩ <;> (first | omega | (unfold y_Tr; omega))) | (intro z; refine ⟨?_, ?_, ?_⟩ <;> (first | omega | (unfold y_Tr; omega)))))))
                · skip
                  have e47 : (16 : Int32).toInt = 16 := rfl
                  have c44' := c44
                  rw [← Int32.toInt_inj] at c44'
                  refine y_if (fun c48 => ?_) (fun c48 => ?_)
                  · skip
                    have e49 : (17 : Int32).toInt = 17 := rfl
                    have c48' := c48
                    rw [← Int32.toInt_inj] at c48'
                    have e50 : (1 : Int32).toInt = 1 := rfl
                    refine y_some ?_
                    try dsimp only
                    (first | with_reducible assumption | omega | ((with_reducible refine y_Vl ?_ ?_) <;> omega) | (exact Or.inl (by omega)) | (refine Or.inr ?_; unfold y_In; refine ⟨?_, ?_, ?_, ?_, ?_, ?_, ?_, ?_, ?_, ?_, ?_⟩ <;> (first | omega | (intro z; exfalso; omega) | (intro z; unfold y_Ty; omega) | (intro z; unfold y_Tr; omega) | (intro z; refine ⟨?_, ?_⟩ <;> (first | omega | (unfold y_Tr; omega))) | (intro z; refine ⟨?_, ?_, ?_⟩ <;> (first | omega | (unfold y_Tr; omega))))) | (rcases h0_r_22 with hz | hz; exact Or.inl hz.1; (refine Or.inr ?_; unfold y_In; refine ⟨?_, ?_, ?_, ?_, ?_, ?_, ?_, ?_, ?_, ?_, ?_⟩ <;> (first | omega | (intro z; exfalso; omega) | (intro z; unfold y_Ty; omega) | (intro z; unfold y_Tr; omega) | (intro z; refine ⟨?_, ?_⟩ <;> (first | omega | (unfold y_Tr; omega))) | (intro z; refine ⟨?_, ?_, ?_⟩ <;> (first | omega | (unfold y_Tr; omega)))))))
                  · skip
                    have e51 : (17 : Int32).toInt = 17 := rfl
                    have c48' := c48
                    rw [← Int32.toInt_inj] at c48'
                    refine y_if (fun c52 => ?_) (fun c52 => ?_)
                    · skip
                      have e53 : (18 : Int32).toInt = 18 := rfl
                      have c52' := c52
                      rw [← Int32.toInt_inj] at c52'
                      refine y_bi (y_X9_isType (by omega) (by omega)) (fun r_23 h_r_23 => ?_)
                      have h0_r_23 : (r_23.toInt = 0 ∧ ¬ (0 ≤ l2.toInt ∧ l2.toInt < 16777216 ∧ (l2.toInt % 65536 < v9_1.toInt ∨ 65528 ≤ l2.toInt % 65536))) ∨ (r_23.toInt = 1 ∧ (0 ≤ l2.toInt ∧ l2.toInt < 16777216 ∧ (l2.toInt % 65536 < v9_1.toInt ∨ 65528 ≤ l2.toInt % 65536))) := h_r_23
                      refine y_if (fun c54 => ?_) (fun c54 => ?_)
                      · skip
                        have c54' := c54
                        rw [← Int32.toInt_inj] at c54'
                        have e55 := y_or0 h0_r_23 c54'
                        clear h0_r_23
                        refine y_some ?_
                        try dsimp only
                        (first | with_reducible assumption | omega | ((with_reducible refine y_Vl ?_ ?_) <;> omega) | (exact Or.inl (by omega)) | (refine Or.inr ?_; unfold y_In; refine ⟨?_, ?_, ?_, ?_, ?_, ?_, ?_, ?_, ?_, ?_, ?_⟩ <;> (first | omega | (intro z; exfalso; omega) | (intro z; unfold y_Ty; omega) | (intro z; unfold y_Tr; omega) | (intro z; refine ⟨?_, ?_⟩ <;> (first | omega | (unfold y_Tr; omega))) | (intro z; refine ⟨?_, ?_, ?_⟩ <;> (first | omega | (unfold y_Tr; omega))))) | (rcases h0_r_22 with hz | hz; exact Or.inl hz.1; (refine Or.inr ?_; unfold y_In; refine ⟨?_, ?_, ?_, ?_, ?_, ?_, ?_, ?_, ?_, ?_, ?_⟩ <;> (first | omega | (intro z; exfalso; omega) | (intro z; unfold y_Ty; omega) | (intro z; unfold y_Tr; omega) | (intro z; refine ⟨?_, ?_⟩ <;> (first | omega | (unfold y_Tr; omega))) | (intro z; refine ⟨?_, ?_, ?_⟩ <;> (first | omega | (unfold y_Tr; omega)))))))
                      · skip
                        have c54' := c54
                        rw [← Int32.toInt_inj] at c54'
                        have e56 := y_or1 h0_r_23 c54'
                        clear h0_r_23
                        refine y_bi (y_X9_isWide) (fun r_25 h_r_25 => ?_)
                        have h0_r_25 : (r_25.toInt = 0 ∧ ¬ (l2.toInt = 65531 ∨ l2.toInt = 65535)) ∨ (r_25.toInt = 1 ∧ (l2.toInt = 65531 ∨ l2.toInt = 65535)) := h_r_25
                        refine y_if (fun c57 => ?_) (fun c57 => ?_)
                        · skip
                          have c57' := c57
                          rw [← Int32.toInt_inj] at c57'
                          have e58 := y_or0 h0_r_25 c57'
                          clear h0_r_25
                          have e59 : (1 : Int32).toInt = 1 := rfl
                          refine y_some ?_
                          try dsimp only
                          (first | with_reducible assumption | omega | ((with_reducible refine y_Vl ?_ ?_) <;> omega) | (exact Or.inl (by omega)) | (refine Or.inr ?_; unfold y_In; refine ⟨?_, ?_, ?_, ?_, ?_, ?_, ?_, ?_, ?_, ?_, ?_⟩ <;> (first | omega | (intro z; exfalso; omega) | (intro z; unfold y_Ty; omega) | (intro z; unfold y_Tr; omega) | (intro z; refine ⟨?_, ?_⟩ <;> (first | omega | (unfold y_Tr; omega))) | (intro z; refine ⟨?_, ?_, ?_⟩ <;> (first | omega | (unfold y_Tr; omega))))) | (rcases h0_r_22 with hz | hz; exact Or.inl hz.1; (refine Or.inr ?_; unfold y_In; refine ⟨?_, ?_, ?_, ?_, ?_, ?_, ?_, ?_, ?_, ?_, ?_⟩ <;> (first | omega | (intro z; exfalso; omega) | (intro z; unfold y_Ty; omega) | (intro z; unfold y_Tr; omega) | (intro z; refine ⟨?_, ?_⟩ <;> (first | omega | (unfold y_Tr; omega))) | (intro z; refine ⟨?_, ?_, ?_⟩ <;> (first | omega | (unfold y_Tr; omega)))))))
                        · skip
                          have c57' := c57
                          rw [← Int32.toInt_inj] at c57'
                          have e60 := y_or1 h0_r_25 c57'
                          clear h0_r_25
                          refine y_some ?_
                          try dsimp only
                          (first | with_reducible assumption | omega | ((with_reducible refine y_Vl ?_ ?_) <;> omega) | (exact Or.inl (by omega)) | (refine Or.inr ?_; unfold y_In; refine ⟨?_, ?_, ?_, ?_, ?_, ?_, ?_, ?_, ?_, ?_, ?_⟩ <;> (first | omega | (intro z; exfalso; omega) | (intro z; unfold y_Ty; omega) | (intro z; unfold y_Tr; omega) | (intro z; refine ⟨?_, ?_⟩ <;> (first | omega | (unfold y_Tr; omega))) | (intro z; refine ⟨?_, ?_, ?_⟩ <;> (first | omega | (unfold y_Tr; omega))))) | (rcases h0_r_22 with hz | hz; exact Or.inl hz.1; (refine Or.inr ?_; unfold y_In; refine ⟨?_, ?_, ?_, ?_, ?_, ?_, ?_, ?_, ?_, ?_, ?_⟩ <;> (first | omega | (intro z; exfalso; omega) | (intro z; unfold y_Ty; omega) | (intro z; unfold y_Tr; omega) | (intro z; refine ⟨?_, ?_⟩ <;> (first | omega | (unfold y_Tr; omega))) | (intro z; refine ⟨?_, ?_, ?_⟩ <;> (first | omega | (unfold y_Tr; omega)))))))
                    · skip
                      have e61 : (18 : Int32).toInt = 18 := rfl
                      have c52' := c52
                      rw [← Int32.toInt_inj] at c52'
                      refine y_if (fun c62 => ?_) (fun c62 => ?_)
                      · skip
                        have e63 : (20 : Int32).toInt = 20 := rfl
                        have c62' := c62
                        rw [← Int32.toInt_inj] at c62'
                        refine y_bi (y_X9_isWide) (fun r_22 h_r_22 => ?_)
                        have h0_r_22 : (r_22.toInt = 0 ∧ ¬ (l2.toInt = 65531 ∨ l2.toInt = 65535)) ∨ (r_22.toInt = 1 ∧ (l2.toInt = 65531 ∨ l2.toInt = 65535)) := h_r_22
                        refine y_some ?_
                        try dsimp only
                        (first | with_reducible assumption | omega | ((with_reducible refine y_Vl ?_ ?_) <;> omega) | (exact Or.inl (by omega)) | (refine Or.inr ?_; unfold y_In; refine ⟨?_, ?_, ?_, ?_, ?_, ?_, ?_, ?_, ?_, ?_, ?_⟩ <;> (first | omega | (intro z; exfalso; omega) | (intro z; unfold y_Ty; omega) | (intro z; unfold y_Tr; omega) | (intro z; refine ⟨?_, ?_⟩ <;> (first | omega | (unfold y_Tr; omega))) | (intro z; refine ⟨?_, ?_, ?_⟩ <;> (first | omega | (unfold y_Tr; omega))))) | (rcases h0_r_22 with hz | hz; exact Or.inl hz.1; (refine Or.inr ?_; unfold y_In; refine ⟨?_, ?_, ?_, ?_, ?_, ?_, ?_, ?_, ?_, ?_, ?_⟩ <;> (first | omega | (intro z; exfalso; omega) | (intro z; unfold y_Ty; omega) | (intro z; unfold y_Tr; omega) | (intro z; refine ⟨?_, ?_⟩ <;> (first | omega | (unfold y_Tr; omega))) | (intro z; refine ⟨?_, ?_, ?_⟩ <;> (first | omega | (unfold y_Tr; omega)))))))
                      · skip
                        have e64 : (20 : Int32).toInt = 20 := rfl
                        have c62' := c62
                        rw [← Int32.toInt_inj] at c62'
                        refine y_if (fun c65 => ?_) (fun c65 => ?_)
                        · skip
                          have e66 : (21 : Int32).toInt = 21 := rfl
                          have c65' := c65
                          rw [Int32.lt_iff_toInt_lt] at c65'
                          refine y_Ok.mono (y_X9_fits_L_6 (o := o) (b := b) (l1 := l1) (l3 := 0) (by omega) (by omega) (by omega) (by omega) (by omega) (by omega) (by omega)) (fun r_t66 h_r_t66 => ?_)
                          (first | with_reducible assumption | omega | ((with_reducible refine y_Vl ?_ ?_) <;> omega) | (exact Or.inl (by omega)) | (refine Or.inr ?_; unfold y_In; refine ⟨?_, ?_, ?_, ?_, ?_, ?_, ?_, ?_, ?_, ?_, ?_⟩ <;> (first | omega | (intro z; exfalso; omega) | (intro z; unfold y_Ty; omega) | (intro z; unfold y_Tr; omega) | (intro z; refine ⟨?_, ?_⟩ <;> (first | omega | (unfold y_Tr; omega))) | (intro z; refine ⟨?_, ?_, ?_⟩ <;> (first | omega | (unfold y_Tr; omega))))) | (rcases h0_r_22 with hz | hz; exact Or.inl hz.1; (refine Or.inr ?_; unfold y_In; refine ⟨?_, ?_, ?_, ?_, ?_, ?_, ?_, ?_, ?_, ?_, ?_⟩ <;> (first | omega | (intro z; exfalso; omega) | (intro z; unfold y_Ty; omega) | (intro z; unfold y_Tr; omega) | (intro z; refine ⟨?_, ?_⟩ <;> (first | omega | (unfold y_Tr; omega))) | (intro z; refine ⟨?_, ?_, ?_⟩ <;> (first | omega | (unfold y_Tr; omega)))))))
                        · skip
                          have e68 : (21 : Int32).toInt = 21 := rfl
                          have c65' := c65
                          rw [Int32.lt_iff_toInt_lt] at c65'
                          refine y_if (fun c69 => ?_) (fun c69 => ?_)
                          · skip
                            have e70 : (25 : Int32).toInt = 25 := rfl
                            have c69' := c69
                            rw [Int32.le_iff_toInt_le] at c69'
                            refine y_Ok.mono (y_X9_fits_L_9 (o := o) (b := b) (l1 := 0) (l3 := 0) (by omega) (by omega) (by omega) (by omega) (by omega) (by omega) (by omega)) (fun r_t70 h_r_t70 => ?_)
                            (first | with_reducible assumption | omega | ((with_reducible refine y_Vl ?_ ?_) <;> omega) | (exact Or.inl (by omega)) | (refine Or.inr ?_; unfold y_In; refine ⟨?_, ?_, ?_, ?_, ?_, ?_, ?_, ?_, ?_, ?_, ?_⟩ <;> (first | omega | (intro z; exfalso; omega) | (intro z; unfold y_Ty; omega) | (intro z; unfold y_Tr; omega) | (intro z; refine ⟨?_, ?_⟩ <;> (first | omega | (unfold y_Tr; omega))) | (intro z; refine ⟨?_, ?_, ?_⟩ <;> (first | omega | (unfold y_Tr; omega))))) | (rcases h0_r_22 with hz | hz; exact Or.inl hz.1; (refine Or.inr ?_; unfold y_In; refine ⟨?_, ?_, ?_, ?_, ?_, ?_, ?_, ?_, ?_, ?_, ?_⟩ <;> (first | omega | (intro z; exfalso; omega) | (intro z; unfold y_Ty; omega) | (intro z; unfold y_Tr; omega) | (intro z; refine ⟨?_, ?_⟩ <;> (first | omega | (unfold y_Tr; omega))) | (intro z; refine ⟨?_, ?_, ?_⟩ <;> (first | omega | (unfold y_Tr; omega)))))))
                          · skip
                            have e72 : (25 : Int32).toInt = 25 := rfl
                            have c69' := c69
                            rw [Int32.le_iff_toInt_le] at c69'
                            refine y_Ok.mono (y_X9_fits_L_6 (o := o) (b := b) (l1 := l1) (l3 := 0) (by omega) (by omega) (by omega) (by omega) (by omega) (by omega) (by omega)) (fun r_t72 h_r_t72 => ?_)
                            (first | with_reducible assumption | omega | ((with_reducible refine y_Vl ?_ ?_) <;> omega) | (exact Or.inl (by omega)) | (refine Or.inr ?_; unfold y_In; refine ⟨?_, ?_, ?_, ?_, ?_, ?_, ?_, ?_, ?_, ?_, ?_⟩ <;> (first | omega | (intro z; exfalso; omega) | (intro z; unfold y_Ty; omega) | (intro z; unfold y_Tr; omega) | (intro z; refine ⟨?_, ?_⟩ <;> (first | omega | (unfold y_Tr; omega))) | (intro z; refine ⟨?_, ?_, ?_⟩ <;> (first | omega | (unfold y_Tr; omega))))) | (rcases h0_r_22 with hz | hz; exact Or.inl hz.1; (refine Or.inr ?_; unfold y_In; refine ⟨?_, ?_, ?_, ?_, ?_, ?_, ?_, ?_, ?_, ?_, ?_⟩ <;> (first | omega | (intro z; exfalso; omega) | (intro z; unfold y_Ty; omega) | (intro z; unfold y_Tr; omega) | (intro z; refine ⟨?_, ?_⟩ <;> (first | omega | (unfold y_Tr; omega))) | (intro z; refine ⟨?_, ?_, ?_⟩ <;> (first | omega | (unfold y_Tr; omega)))))))
              · skip
                have e74 : (0 : Int32).toInt = 0 := rfl
                have c42' := c42
                rw [← Int32.toInt_inj] at c42'
                refine y_some ?_
                try dsimp only
                (first | with_reducible assumption | omega | ((with_reducible refine y_Vl ?_ ?_) <;> omega) | (exact Or.inl (by omega)) | (refine Or.inr ?_; unfold y_In; refine ⟨?_, ?_, ?_, ?_, ?_, ?_, ?_, ?_, ?_, ?_, ?_⟩ <;> (first | omega | (intro z; exfalso; omega) | (intro z; unfold y_Ty; omega) | (intro z; unfold y_Tr; omega) | (intro z; refine ⟨?_, ?_⟩ <;> (first | omega | (unfold y_Tr; omega))) | (intro z; refine ⟨?_, ?_, ?_⟩ <;> (first | omega | (unfold y_Tr; omega))))) | (rcases h0_r_22 with hz | hz; exact Or.inl hz.1; (refine Or.inr ?_; unfold y_In; refine ⟨?_, ?_, ?_, ?_, ?_, ?_, ?_, ?_, ?_, ?_, ?_⟩ <;> (first | omega | (intro z; exfalso; omega) | (intro z; unfold y_Ty; omega) | (intro z; unfold y_Tr; omega) | (intro z; refine ⟨?_, ?_⟩ <;> (first | omega | (unfold y_Tr; omega))) | (intro z; refine ⟨?_, ?_, ?_⟩ <;> (first | omega | (unfold y_Tr; omega)))))))
set_option maxHeartbeats 4000000 in
theorem y_X9_fits_L_3 {v9_1 : Int32} {v9_2 : Int32} {v9_3 : Int32} {l2 : Int32} {o b : Int32} {l1 : Int32} {l3 : Int32} (k0 : 4 ≤ v9_1.toInt) (k1 : v9_1.toInt ≤ 200) (k2 : 0 ≤ v9_2.toInt) (k3 : v9_2.toInt ≤ 100) (k4 : 0 ≤ v9_3.toInt) (k5 : v9_3.toInt ≤ 100) (k6 : l1.toInt = o.toInt) (k7 : l3.toInt = b.toInt) : y_Ok (f_X9_fits_L v9_1 v9_2 v9_3 l2 (3, l1, l3)) (fun r => (r.toInt = 0 ∨ y_In o l2 b)) := by
  rw [f_X9_fits_L]
  refine y_in (by decide) ?_
  refine y_in (by decide) ?_
  refine y_in (by decide) ?_
  refine y_ip rfl ?_
  refine y_if (fun c1 => ?_) (fun c1 => ?_)
  · skip
    have e2 : (170 : Int32).toInt = 170 := rfl
    have c1' := c1
    rw [Int32.lt_iff_toInt_lt] at c1'
    refine y_Ok.mono (y_X9_fits_L_4 (o := o) (b := b) (l1 := l1) (l3 := l3) (by omega) (by omega) (by omega) (by omega) (by omega) (by omega) (by omega) (by omega)) (fun r_t2 h_r_t2 => ?_)
    (first | with_reducible assumption | omega | ((with_reducible refine y_Vl ?_ ?_) <;> omega) | (exact Or.inl (by omega)) | (refine Or.inr ?_; unfold y_In; refine ⟨?_, ?_, ?_, ?_, ?_, ?_, ?_, ?_, ?_, ?_, ?_⟩ <;> (first | omega | (intro z; exfalso; omega) | (intro z; unfold y_Ty; omega) | (intro z; unfold y_Tr; omega) | (intro z; refine ⟨?_, ?_⟩ <;> (first | omega | (unfold y_Tr; omega))) | (intro z; refine ⟨?_, ?_, ?_⟩ <;> (first | omega | (unfold y_Tr; omega))))))
  · skip
    have e4 : (170 : Int32).toInt = 170 := rfl
    have c1' := c1
    rw [Int32.lt_iff_toInt_lt] at c1'
    refine y_if (fun c5 => ?_) (fun c5 => ?_)
    · skip
      have e6 : (177 : Int32).toInt = 177 := rfl
      have c5' := c5
      rw [Int32.le_iff_toInt_le] at c5'
      have e7 : (0 : Int32).toInt = 0 := rfl
      refine y_Ok.mono (y_X9_fits_L_5 (o := o) (b := b) (l1 := 0) (l3 := l3) (by omega) (by omega) (by omega) (by omega) (by omega) (by omega) (by omega) (by omega)) (fun r_t7 h_r_t7 => ?_)
      (first | with_reducible assumption | omega | ((with_reducible refine y_Vl ?_ ?_) <;> omega) | (exact Or.inl (by omega)) | (refine Or.inr ?_; unfold y_In; refine ⟨?_, ?_, ?_, ?_, ?_, ?_, ?_, ?_, ?_, ?_, ?_⟩ <;> (first | omega | (intro z; exfalso; omega) | (intro z; unfold y_Ty; omega) | (intro z; unfold y_Tr; omega) | (intro z; refine ⟨?_, ?_⟩ <;> (first | omega | (unfold y_Tr; omega))) | (intro z; refine ⟨?_, ?_, ?_⟩ <;> (first | omega | (unfold y_Tr; omega))))))
    · skip
      have e9 : (177 : Int32).toInt = 177 := rfl
      have c5' := c5
      rw [Int32.le_iff_toInt_le] at c5'
      refine y_Ok.mono (y_X9_fits_L_4 (o := o) (b := b) (l1 := l1) (l3 := l3) (by omega) (by omega) (by omega) (by omega) (by omega) (by omega) (by omega) (by omega)) (fun r_t9 h_r_t9 => ?_)
      (first | with_reducible assumption | omega | ((with_reducible refine y_Vl ?_ ?_) <;> omega) | (exact Or.inl (by omega)) | (refine Or.inr ?_; unfold y_In; refine ⟨?_, ?_, ?_, ?_, ?_, ?_, ?_, ?_, ?_, ?_, ?_⟩ <;> (first | omega | (intro z; exfalso; omega) | (intro z; unfold y_Ty; omega) | (intro z; unfold y_Tr; omega) | (intro z; refine ⟨?_, ?_⟩ <;> (first | omega | (unfold y_Tr; omega))) | (intro z; refine ⟨?_, ?_, ?_⟩ <;> (first | omega | (unfold y_Tr; omega))))))
set_option maxHeartbeats 4000000 in
theorem y_X9_fits_L_2 {v9_1 : Int32} {v9_2 : Int32} {v9_3 : Int32} {l2 : Int32} {o b : Int32} {l1 : Int32} {l3 : Int32} (k0 : 4 ≤ v9_1.toInt) (k1 : v9_1.toInt ≤ 200) (k2 : 0 ≤ v9_2.toInt) (k3 : v9_2.toInt ≤ 100) (k4 : 0 ≤ v9_3.toInt) (k5 : v9_3.toInt ≤ 100) (k6 : l1.toInt = o.toInt) (k7 : l3.toInt = b.toInt) : y_Ok (f_X9_fits_L v9_1 v9_2 v9_3 l2 (2, l1, l3)) (fun r => (r.toInt = 0 ∨ y_In o l2 b)) := by
  rw [f_X9_fits_L]
  refine y_in (by decide) ?_
  refine y_in (by decide) ?_
  refine y_ip rfl ?_
  refine y_if (fun c1 => ?_) (fun c1 => ?_)
  · skip
    have e2 : (133 : Int32).toInt = 133 := rfl
    have c1' := c1
    rw [Int32.lt_iff_toInt_lt] at c1'
    refine y_Ok.mono (y_X9_fits_L_3 (o := o) (b := b) (l1 := l1) (l3 := l3) (by omega) (by omega) (by omega) (by omega) (by omega) (by omega) (by omega) (by omega)) (fun r_t2 h_r_t2 => ?_)
    (first | with_reducible assumption | omega | ((with_reducible refine y_Vl ?_ ?_) <;> omega) | (exact Or.inl (by omega)) | (refine Or.inr ?_; unfold y_In; refine ⟨?_, ?_, ?_, ?_, ?_, ?_, ?_, ?_, ?_, ?_, ?_⟩ <;> (first | omega | (intro z; exfalso; omega) | (intro z; unfold y_Ty; omega) | (intro z; unfold y_Tr; omega) | (intro z; refine ⟨?_, ?_⟩ <;> (first | omega | (unfold y_Tr; omega))) | (intro z; refine ⟨?_, ?_, ?_⟩ <;> (first | omega | (unfold y_Tr; omega))))))
  · skip
    have e4 : (133 : Int32).toInt = 133 := rfl
    have c1' := c1
    rw [Int32.lt_iff_toInt_lt] at c1'
    refine y_if (fun c5 => ?_) (fun c5 => ?_)
    · skip
      have e6 : (152 : Int32).toInt = 152 := rfl
      have c5' := c5
      rw [Int32.le_iff_toInt_le] at c5'
      have e7 : (0 : Int32).toInt = 0 := rfl
      refine y_Ok.mono (y_X9_fits_L_5 (o := o) (b := b) (l1 := 0) (l3 := l3) (by omega) (by omega) (by omega) (by omega) (by omega) (by omega) (by omega) (by omega)) (fun r_t7 h_r_t7 => ?_)
      (first | with_reducible assumption | omega | ((with_reducible refine y_Vl ?_ ?_) <;> omega) | (exact Or.inl (by omega)) | (refine Or.inr ?_; unfold y_In; refine ⟨?_, ?_, ?_, ?_, ?_, ?_, ?_, ?_, ?_, ?_, ?_⟩ <;> (first | omega | (intro z; exfalso; omega) | (intro z; unfold y_Ty; omega) | (intro z; unfold y_Tr; omega) | (intro z; refine ⟨?_, ?_⟩ <;> (first | omega | (unfold y_Tr; omega))) | (intro z; refine ⟨?_, ?_, ?_⟩ <;> (first | omega | (unfold y_Tr; omega))))))
    · skip
      have e9 : (152 : Int32).toInt = 152 := rfl
      have c5' := c5
      rw [Int32.le_iff_toInt_le] at c5'
      refine y_Ok.mono (y_X9_fits_L_3 (o := o) (b := b) (l1 := l1) (l3 := l3) (by omega) (by omega) (by omega) (by omega) (by omega) (by omega) (by omega) (by omega)) (fun r_t9 h_r_t9 => ?_)
      (first | with_reducible assumption | omega | ((with_reducible refine y_Vl ?_ ?_) <;> omega) | (exact Or.inl (by omega)) | (refine Or.inr ?_; unfold y_In; refine ⟨?_, ?_, ?_, ?_, ?_, ?_, ?_, ?_, ?_, ?_, ?_⟩ <;> (first | omega | (intro z; exfalso; omega) | (intro z; unfold y_Ty; omega) | (intro z; unfold y_Tr; omega) | (intro z; refine ⟨?_, ?_⟩ <;> (first | omega | (unfold y_Tr; omega))) | (intro z; refine ⟨?_, ?_, ?_⟩ <;> (first | omega | (unfold y_Tr; omega))))))
set_option maxHeartbeats 4000000 in
theorem y_X9_fits_L_1 {v9_1 : Int32} {v9_2 : Int32} {v9_3 : Int32} {l2 : Int32} {o b : Int32} {l1 : Int32} {l3 : Int32} (k0 : 4 ≤ v9_1.toInt) (k1 : v9_1.toInt ≤ 200) (k2 : 0 ≤ v9_2.toInt) (k3 : v9_2.toInt ≤ 100) (k4 : 0 ≤ v9_3.toInt) (k5 : v9_3.toInt ≤ 100) (k6 : l1.toInt = o.toInt) (k7 : l3.toInt = b.toInt) : y_Ok (f_X9_fits_L v9_1 v9_2 v9_3 l2 (1, l1, l3)) (fun r => (r.toInt = 0 ∨ y_In o l2 b)) := by
  rw [f_X9_fits_L]
  refine y_in (by decide) ?_
  refine y_ip rfl ?_
  refine y_if (fun c1 => ?_) (fun c1 => ?_)
  · skip
    have e2 : (79 : Int32).toInt = 79 := rfl
    have c1' := c1
    rw [Int32.lt_iff_toInt_lt] at c1'
    refine y_Ok.mono (y_X9_fits_L_2 (o := o) (b := b) (l1 := l1) (l3 := l3) (by omega) (by omega) (by omega) (by omega) (by omega) (by omega) (by omega) (by omega)) (fun r_t2 h_r_t2 => ?_)
    (first | with_reducible assumption | omega | ((with_reducible refine y_Vl ?_ ?_) <;> omega) | (exact Or.inl (by omega)) | (refine Or.inr ?_; unfold y_In; refine ⟨?_, ?_, ?_, ?_, ?_, ?_, ?_, ?_, ?_, ?_, ?_⟩ <;> (first | omega | (intro z; exfalso; omega) | (intro z; unfold y_Ty; omega) | (intro z; unfold y_Tr; omega) | (intro z; refine ⟨?_, ?_⟩ <;> (first | omega | (unfold y_Tr; omega))) | (intro z; refine ⟨?_, ?_, ?_⟩ <;> (first | omega | (unfold y_Tr; omega))))))
  · skip
    have e4 : (79 : Int32).toInt = 79 := rfl
    have c1' := c1
    rw [Int32.lt_iff_toInt_lt] at c1'
    refine y_if (fun c5 => ?_) (fun c5 => ?_)
    · skip
      have e6 : (131 : Int32).toInt = 131 := rfl
      have c5' := c5
      rw [Int32.le_iff_toInt_le] at c5'
      have e7 : (0 : Int32).toInt = 0 := rfl
      refine y_Ok.mono (y_X9_fits_L_5 (o := o) (b := b) (l1 := 0) (l3 := l3) (by omega) (by omega) (by omega) (by omega) (by omega) (by omega) (by omega) (by omega)) (fun r_t7 h_r_t7 => ?_)
      (first | with_reducible assumption | omega | ((with_reducible refine y_Vl ?_ ?_) <;> omega) | (exact Or.inl (by omega)) | (refine Or.inr ?_; unfold y_In; refine ⟨?_, ?_, ?_, ?_, ?_, ?_, ?_, ?_, ?_, ?_, ?_⟩ <;> (first | omega | (intro z; exfalso; omega) | (intro z; unfold y_Ty; omega) | (intro z; unfold y_Tr; omega) | (intro z; refine ⟨?_, ?_⟩ <;> (first | omega | (unfold y_Tr; omega))) | (intro z; refine ⟨?_, ?_, ?_⟩ <;> (first | omega | (unfold y_Tr; omega))))))
    · skip
      have e9 : (131 : Int32).toInt = 131 := rfl
      have c5' := c5
      rw [Int32.le_iff_toInt_le] at c5'
      refine y_Ok.mono (y_X9_fits_L_2 (o := o) (b := b) (l1 := l1) (l3 := l3) (by omega) (by omega) (by omega) (by omega) (by omega) (by omega) (by omega) (by omega)) (fun r_t9 h_r_t9 => ?_)
      (first | with_reducible assumption | omega | ((with_reducible refine y_Vl ?_ ?_) <;> omega) | (exact Or.inl (by omega)) | (refine Or.inr ?_; unfold y_In; refine ⟨?_, ?_, ?_, ?_, ?_, ?_, ?_, ?_, ?_, ?_, ?_⟩ <;> (first | omega | (intro z; exfalso; omega) | (intro z; unfold y_Ty; omega) | (intro z; unfold y_Tr; omega) | (intro z; refine ⟨?_, ?_⟩ <;> (first | omega | (unfold y_Tr; omega))) | (intro z; refine ⟨?_, ?_, ?_⟩ <;> (first | omega | (unfold y_Tr; omega))))))
set_option maxHeartbeats 4000000 in
theorem y_X9_fits_L_0 {v9_1 : Int32} {v9_2 : Int32} {v9_3 : Int32} {l2 : Int32} {o b : Int32} {l1 : Int32} {l3 : Int32} (k0 : 4 ≤ v9_1.toInt) (k1 : v9_1.toInt ≤ 200) (k2 : 0 ≤ v9_2.toInt) (k3 : v9_2.toInt ≤ 100) (k4 : 0 ≤ v9_3.toInt) (k5 : v9_3.toInt ≤ 100) (k6 : l1.toInt = o.toInt) (k7 : l3.toInt = b.toInt) : y_Ok (f_X9_fits_L v9_1 v9_2 v9_3 l2 (0, l1, l3)) (fun r => (r.toInt = 0 ∨ y_In o l2 b)) := by
  rw [f_X9_fits_L]
  refine y_ip rfl ?_
  refine y_if (fun c1 => ?_) (fun c1 => ?_)
  · skip
    have e2 : (46 : Int32).toInt = 46 := rfl
    have c1' := c1
    rw [Int32.lt_iff_toInt_lt] at c1'
    refine y_Ok.mono (y_X9_fits_L_1 (o := o) (b := b) (l1 := l1) (l3 := l3) (by omega) (by omega) (by omega) (by omega) (by omega) (by omega) (by omega) (by omega)) (fun r_t2 h_r_t2 => ?_)
    (first | with_reducible assumption | omega | ((with_reducible refine y_Vl ?_ ?_) <;> omega) | (exact Or.inl (by omega)) | (refine Or.inr ?_; unfold y_In; refine ⟨?_, ?_, ?_, ?_, ?_, ?_, ?_, ?_, ?_, ?_, ?_⟩ <;> (first | omega | (intro z; exfalso; omega) | (intro z; unfold y_Ty; omega) | (intro z; unfold y_Tr; omega) | (intro z; refine ⟨?_, ?_⟩ <;> (first | omega | (unfold y_Tr; omega))) | (intro z; refine ⟨?_, ?_, ?_⟩ <;> (first | omega | (unfold y_Tr; omega))))))
  · skip
    have e4 : (46 : Int32).toInt = 46 := rfl
    have c1' := c1
    rw [Int32.lt_iff_toInt_lt] at c1'
    refine y_if (fun c5 => ?_) (fun c5 => ?_)
    · skip
      have e6 : (53 : Int32).toInt = 53 := rfl
      have c5' := c5
      rw [Int32.le_iff_toInt_le] at c5'
      have e7 : (0 : Int32).toInt = 0 := rfl
      refine y_Ok.mono (y_X9_fits_L_5 (o := o) (b := b) (l1 := 0) (l3 := l3) (by omega) (by omega) (by omega) (by omega) (by omega) (by omega) (by omega) (by omega)) (fun r_t7 h_r_t7 => ?_)
      (first | with_reducible assumption | omega | ((with_reducible refine y_Vl ?_ ?_) <;> omega) | (exact Or.inl (by omega)) | (refine Or.inr ?_; unfold y_In; refine ⟨?_, ?_, ?_, ?_, ?_, ?_, ?_, ?_, ?_, ?_, ?_⟩ <;> (first | omega | (intro z; exfalso; omega) | (intro z; unfold y_Ty; omega) | (intro z; unfold y_Tr; omega) | (intro z; refine ⟨?_, ?_⟩ <;> (first | omega | (unfold y_Tr; omega))) | (intro z; refine ⟨?_, ?_, ?_⟩ <;> (first | omega | (unfold y_Tr; omega))))))
    · skip
      have e9 : (53 : Int32).toInt = 53 := rfl
      have c5' := c5
      rw [Int32.le_iff_toInt_le] at c5'
      refine y_Ok.mono (y_X9_fits_L_1 (o := o) (b := b) (l1 := l1) (l3 := l3) (by omega) (by omega) (by omega) (by omega) (by omega) (by omega) (by omega) (by omega)) (fun r_t9 h_r_t9 => ?_)
      (first | with_reducible assumption | omega | ((with_reducible refine y_Vl ?_ ?_) <;> omega) | (exact Or.inl (by omega)) | (refine Or.inr ?_; unfold y_In; refine ⟨?_, ?_, ?_, ?_, ?_, ?_, ?_, ?_, ?_, ?_, ?_⟩ <;> (first | omega | (intro z; exfalso; omega) | (intro z; unfold y_Ty; omega) | (intro z; unfold y_Tr; omega) | (intro z; refine ⟨?_, ?_⟩ <;> (first | omega | (unfold y_Tr; omega))) | (intro z; refine ⟨?_, ?_, ?_⟩ <;> (first | omega | (unfold y_Tr; omega))))))
set_option maxHeartbeats 4000000 in
theorem y_X9_fits {v9_1 : Int32} {v9_2 : Int32} {v9_3 : Int32} {p1 : Int32} {p2 : Int32} {p3 : Int32} (k0 : 4 ≤ v9_1.toInt) (k1 : v9_1.toInt ≤ 200) (k2 : 0 ≤ v9_2.toInt) (k3 : v9_2.toInt ≤ 100) (k4 : 0 ≤ v9_3.toInt) (k5 : v9_3.toInt ≤ 100) : y_Ok (f_X9_fits v9_1 v9_2 v9_3 p1 p2 p3) (fun r => (r.toInt = 0 ∨ y_In p1 p2 p3)) := by
  unfold f_X9_fits
  refine y_if (fun c1 => ?_) (fun c1 => ?_)
  · skip
    have e2 : (0 : Int32).toInt = 0 := rfl
    have c1' := c1
    rw [Int32.lt_iff_toInt_lt] at c1'
    refine y_Ok.mono (y_X9_fits_L_0 (o := p1) (b := p3) (l1 := p1) (l3 := p3) (by omega) (by omega) (by omega) (by omega) (by omega) (by omega) (by omega) (by omega)) (fun r_t2 h_r_t2 => ?_)
    (first | with_reducible assumption | omega | ((with_reducible refine y_Vl ?_ ?_) <;> omega) | (exact Or.inl (by omega)) | (refine Or.inr ?_; unfold y_In; refine ⟨?_, ?_, ?_, ?_, ?_, ?_, ?_, ?_, ?_, ?_, ?_⟩ <;> (first | omega | (intro z; exfalso; omega) | (intro z; unfold y_Ty; omega) | (intro z; unfold y_Tr; omega) | (intro z; refine ⟨?_, ?_⟩ <;> (first | omega | (unfold y_Tr; omega))) | (intro z; refine ⟨?_, ?_, ?_⟩ <;> (first | omega | (unfold y_Tr; omega))))))
  · skip
    have e4 : (0 : Int32).toInt = 0 := rfl
    have c1' := c1
    rw [Int32.lt_iff_toInt_lt] at c1'
    refine y_if (fun c5 => ?_) (fun c5 => ?_)
    · skip
      have e6 : (15 : Int32).toInt = 15 := rfl
      have c5' := c5
      rw [Int32.le_iff_toInt_le] at c5'
      refine y_Ok.mono (y_X9_fits_L_5 (o := p1) (b := p3) (l1 := 0) (l3 := p3) (by omega) (by omega) (by omega) (by omega) (by omega) (by omega) (by omega) (by omega)) (fun r_t6 h_r_t6 => ?_)
      (first | with_reducible assumption | omega | ((with_reducible refine y_Vl ?_ ?_) <;> omega) | (exact Or.inl (by omega)) | (refine Or.inr ?_; unfold y_In; refine ⟨?_, ?_, ?_, ?_, ?_, ?_, ?_, ?_, ?_, ?_, ?_⟩ <;> (first | omega | (intro z; exfalso; omega) | (intro z; unfold y_Ty; omega) | (intro z; unfold y_Tr; omega) | (intro z; refine ⟨?_, ?_⟩ <;> (first | omega | (unfold y_Tr; omega))) | (intro z; refine ⟨?_, ?_, ?_⟩ <;> (first | omega | (unfold y_Tr; omega))))))
    · skip
      have e8 : (15 : Int32).toInt = 15 := rfl
      have c5' := c5
      rw [Int32.le_iff_toInt_le] at c5'
      refine y_Ok.mono (y_X9_fits_L_0 (o := p1) (b := p3) (l1 := p1) (l3 := p3) (by omega) (by omega) (by omega) (by omega) (by omega) (by omega) (by omega) (by omega)) (fun r_t8 h_r_t8 => ?_)
      (first | with_reducible assumption | omega | ((with_reducible refine y_Vl ?_ ?_) <;> omega) | (exact Or.inl (by omega)) | (refine Or.inr ?_; unfold y_In; refine ⟨?_, ?_, ?_, ?_, ?_, ?_, ?_, ?_, ?_, ?_, ?_⟩ <;> (first | omega | (intro z; exfalso; omega) | (intro z; unfold y_Ty; omega) | (intro z; unfold y_Tr; omega) | (intro z; refine ⟨?_, ?_⟩ <;> (first | omega | (unfold y_Tr; omega))) | (intro z; refine ⟨?_, ?_, ?_⟩ <;> (first | omega | (unfold y_Tr; omega))))))
set_option maxHeartbeats 4000000 in
theorem y_X9_put {v9_0 : Int32} {v9_1 : Int32} {v9_2 : Int32} {v9_3 : Int32} {v9_20 : Int32} {v9_22 : Int32} {g9_23 : Nat → Int32} {g9_24 : Nat → Int32} {g9_25 : Nat → Int32} {g9_26 : Nat → Int32} {g9_27 : Nat → Int32} {p1 : Int32} {p2 : Int32} {p3 : Int32} (k0 : 4 ≤ v9_1.toInt) (k1 : v9_1.toInt ≤ 200) (k2 : 0 ≤ v9_2.toInt) (k3 : v9_2.toInt ≤ 100) (k4 : 0 ≤ v9_3.toInt) (k5 : v9_3.toInt ≤ 100) (k6 : 0 ≤ v9_20.toInt) (k7 : v9_20.toInt ≤ 1000) (hTB : y_TB v9_20.toInt v9_22.toInt g9_26 g9_27) (hI : y_AIn g9_23 g9_24 g9_25) : y_Ok (f_X9_put v9_0 v9_1 v9_2 v9_3 v9_20 v9_22 g9_23 g9_24 g9_25 g9_26 g9_27 p1 p2 p3) (fun r => (0 ≤ r.2.2.1.toInt) ∧ (r.2.2.1.toInt ≤ 1000) ∧ (y_AIn r.2.2.2.1 r.2.2.2.2.1 r.2.2.2.2.2.1) ∧ (y_TB r.2.2.1.toInt v9_22.toInt r.2.2.2.2.2.2.1 r.2.2.2.2.2.2.2)) := by
  unfold f_X9_put
  refine y_bi (y_X9_fits (by omega) (by omega) (by omega) (by omega) (by omega) (by omega)) (fun r_1 h_r_1 => ?_)
  have h0_r_1 : r_1.toInt = 0 ∨ y_In p1 p2 p3 := h_r_1
  refine y_if (fun c1 => ?_) (fun c1 => ?_)
  · skip
    have e2 : (0 : Int32).toInt = 0 := rfl
    have c1' := c1
    rw [← Int32.toInt_inj] at c1'
    refine y_bi (y_X9_bad) (fun r_10 h_r_10 => ?_)
    obtain ⟨h0_r_10, h1_r_10⟩ := h_r_10
    refine y_some ?_
    try dsimp only
    refine ⟨?_, ?_, ?_, ?_⟩ <;> (first | with_reducible assumption | omega | ((with_reducible refine y_Vl ?_ ?_) <;> omega) | ((with_reducible refine y_TB_put (by with_reducible assumption) ?_ ?_ ?_ ?_ ?_) <;> omega) | (exact y_AIn_put hI (y_ok h0_r_1 (by assumption))))
  · skip
    have e3 : (0 : Int32).toInt = 0 := rfl
    have c1' := c1
    rw [← Int32.toInt_inj] at c1'
    refine y_if (fun c4 => ?_) (fun c4 => ?_)
    · skip
      have e5 : (1000 : Int32).toInt = 1000 := rfl
      have c4' := c4
      rw [← Int32.toInt_inj] at c4'
      refine y_bi (y_X9_full) (fun r_9 h_r_9 => ?_)
      obtain ⟨h0_r_9, h1_r_9⟩ := h_r_9
      refine y_some ?_
      try dsimp only
      refine ⟨?_, ?_, ?_, ?_⟩ <;> (first | with_reducible assumption | omega | ((with_reducible refine y_Vl ?_ ?_) <;> omega) | ((with_reducible refine y_TB_put (by with_reducible assumption) ?_ ?_ ?_ ?_ ?_) <;> omega) | (exact y_AIn_put hI (y_ok h0_r_1 (by assumption))))
    · skip
      have e6 : (1000 : Int32).toInt = 1000 := rfl
      have c4' := c4
      rw [← Int32.toInt_inj] at c4'
      refine y_gd (y_gdI (by omega) (by omega)) ?_
      refine y_gd (y_gdI (by omega) (by omega)) ?_
      refine y_gd (y_gdI (by omega) (by omega)) ?_
      refine y_gd (y_gdI (by omega) (by omega)) ?_
      refine y_gd (y_gdI (by omega) (by omega)) ?_
      try have e7 := @y_addL v9_20 (1 : Int32) (1) rfl (by omega) (by omega)
      try have e8 := @y_cl v9_20 (by omega)
      refine y_some ?_
      try dsimp only
      refine ⟨?_, ?_, ?_, ?_⟩ <;> (first | with_reducible assumption | omega | ((with_reducible refine y_Vl ?_ ?_) <;> omega) | ((with_reducible refine y_TB_put (by with_reducible assumption) ?_ ?_ ?_ ?_ ?_) <;> omega) | (exact y_AIn_put hI (y_ok h0_r_1 (by assumption))))
set_option maxHeartbeats 4000000 in
theorem y_X9_to {v9_0 : Int32} {v9_20 : Int32} {v9_22 : Int32} {g9_23 : Nat → Int32} {g9_27 : Nat → Int32} {g9_28 : Nat → Int32} {p1 : Int32} {g9_26 : Nat → Int32} (k0 : 0 ≤ v9_20.toInt) (k1 : v9_20.toInt ≤ 1000) (hTB : y_TB v9_20.toInt v9_22.toInt g9_26 g9_27) (hTO : y_Rg 50000 0 2147483647 g9_28) : y_Ok (f_X9_to v9_0 v9_20 v9_22 g9_23 g9_27 g9_28 p1) (fun r => (y_TB v9_20.toInt r.2.2.1.toInt g9_26 r.2.2.2.1) ∧ (y_Rg 50000 0 2147483647 r.2.2.2.2)) := by
  have hto := hTB.tos (by omega)
  have hp1 := p1.toInt_lt
  unfold f_X9_to
  refine y_if (fun c1 => ?_) (fun c1 => ?_)
  · skip
    have e2 : (0 : Int32).toInt = 0 := rfl
    have c1' := c1
    rw [Int32.le_iff_toInt_le] at c1'
    refine y_if (fun c3 => ?_) (fun c3 => ?_)
    · skip
      have c3' := c3
      rw [← Int32.toInt_inj] at c3'
      refine y_bi (y_X9_full) (fun r_3 h_r_3 => ?_)
      obtain ⟨h0_r_3, h1_r_3⟩ := h_r_3
      refine y_some ?_
      try dsimp only
      refine ⟨?_, ?_⟩ <;> (first | with_reducible assumption | omega | ((with_reducible refine y_Vl ?_ ?_) <;> omega) | ((with_reducible refine y_TB_to (by with_reducible assumption) ?_ ?_ ?_ ?_ ?_) <;> omega))
    · skip
      have c3' := c3
      rw [← Int32.toInt_inj] at c3'
      have hs1 := @y_subL v9_20 1 1 rfl (by omega) (by omega)
      have hc1 := @y_cl (v9_20 - (1 : Int32)) (by omega)
      have ht1 := hTB.at (Int32.toNatClampNeg (v9_20 - (1 : Int32))) (by omega)
      have ht2 := hTB.la (Int32.toNatClampNeg (v9_20 - (1 : Int32))) (by omega)
      try have e4 := @y_subL v9_20 (1 : Int32) (1) rfl (by omega) (by omega)
      refine y_gd (y_gdI (by omega) (by omega)) ?_
      refine y_if (fun c5 => ?_) (fun c5 => ?_)
      · skip
        try have e6 := @y_cl (v9_20 - (1 : Int32)) (by omega)
        have e7 : (170 : Int32).toInt = 170 := rfl
        have c5' := c5
        rw [← Int32.toInt_inj] at c5'
        refine y_gd (y_gdI (by omega) (by omega)) ?_
        refine y_if (fun c8 => ?_) (fun c8 => ?_)
        · skip
          have e9 : (50 : Int32).toInt = 50 := rfl
          have c8' := c8
          rw [← Int32.toInt_inj] at c8'
          refine y_bi (y_X9_full) (fun r_11 h_r_11 => ?_)
          obtain ⟨h0_r_11, h1_r_11⟩ := h_r_11
          refine y_some ?_
          try dsimp only
          refine ⟨?_, ?_⟩ <;> (first | with_reducible assumption | omega | ((with_reducible refine y_Vl ?_ ?_) <;> omega) | ((with_reducible refine y_TB_to (by with_reducible assumption) ?_ ?_ ?_ ?_ ?_) <;> omega))
        · skip
          have e10 : (50 : Int32).toInt = 50 := rfl
          have c8' := c8
          rw [← Int32.toInt_inj] at c8'
          refine y_gd (y_gdI (by omega) (by omega)) ?_
          refine y_gd (y_gdI (by omega) (by omega)) ?_
          refine y_gd (y_gdI (by omega) (by omega)) ?_
          try have e11 := @y_addL (g9_27 (Int32.toNatClampNeg (v9_20 - (1 : Int32)))) (1 : Int32) (1) rfl (by omega) (by omega)
          try have e12 := @y_addL v9_22 (1 : Int32) (1) rfl (by omega) (by omega)
          try have e13 := @y_cl v9_22 (by omega)
          try have e14 : y_Rg 50000 0 2147483647 (upd g9_28 (Int32.toNatClampNeg v9_22) p1) := y_Rg_upd hTO (by omega) (by omega)
          refine y_some ?_
          try dsimp only
          refine ⟨?_, ?_⟩ <;> (first | with_reducible assumption | omega | ((with_reducible refine y_Vl ?_ ?_) <;> omega) | ((with_reducible refine y_TB_to (by with_reducible assumption) ?_ ?_ ?_ ?_ ?_) <;> omega))
      · skip
        try have e15 := @y_cl (v9_20 - (1 : Int32)) (by omega)
        have e16 : (170 : Int32).toInt = 170 := rfl
        have c5' := c5
        rw [← Int32.toInt_inj] at c5'
        refine y_gd (y_gdI (by omega) (by omega)) ?_
        refine y_if (fun c17 => ?_) (fun c17 => ?_)
        · skip
          have e18 : (171 : Int32).toInt = 171 := rfl
          have c17' := c17
          rw [← Int32.toInt_inj] at c17'
          refine y_gd (y_gdI (by omega) (by omega)) ?_
          refine y_if (fun c19 => ?_) (fun c19 => ?_)
          · skip
            have e20 : (50 : Int32).toInt = 50 := rfl
            have c19' := c19
            rw [← Int32.toInt_inj] at c19'
            refine y_bi (y_X9_full) (fun r_20 h_r_20 => ?_)
            obtain ⟨h0_r_20, h1_r_20⟩ := h_r_20
            refine y_some ?_
            try dsimp only
            refine ⟨?_, ?_⟩ <;> (first | with_reducible assumption | omega | ((with_reducible refine y_Vl ?_ ?_) <;> omega) | ((with_reducible refine y_TB_to (by with_reducible assumption) ?_ ?_ ?_ ?_ ?_) <;> omega))
          · skip
            have e21 : (50 : Int32).toInt = 50 := rfl
            have c19' := c19
            rw [← Int32.toInt_inj] at c19'
            refine y_gd (y_gdI (by omega) (by omega)) ?_
            refine y_gd (y_gdI (by omega) (by omega)) ?_
            refine y_gd (y_gdI (by omega) (by omega)) ?_
            try have e22 := @y_addL (g9_27 (Int32.toNatClampNeg (v9_20 - (1 : Int32)))) (1 : Int32) (1) rfl (by omega) (by omega)
            try have e23 := @y_addL v9_22 (1 : Int32) (1) rfl (by omega) (by omega)
            try have e24 := @y_cl v9_22 (by omega)
            try have e25 : y_Rg 50000 0 2147483647 (upd g9_28 (Int32.toNatClampNeg v9_22) p1) := y_Rg_upd hTO (by omega) (by omega)
            refine y_some ?_
            try dsimp only
            refine ⟨?_, ?_⟩ <;> (first | with_reducible assumption | omega | ((with_reducible refine y_Vl ?_ ?_) <;> omega) | ((with_reducible refine y_TB_to (by with_reducible assumption) ?_ ?_ ?_ ?_ ?_) <;> omega))
        · skip
          have e26 : (171 : Int32).toInt = 171 := rfl
          have c17' := c17
          rw [← Int32.toInt_inj] at c17'
          refine y_bi (y_X9_full) (fun r_14 h_r_14 => ?_)
          obtain ⟨h0_r_14, h1_r_14⟩ := h_r_14
          refine y_some ?_
          try dsimp only
          refine ⟨?_, ?_⟩ <;> (first | with_reducible assumption | omega | ((with_reducible refine y_Vl ?_ ?_) <;> omega) | ((with_reducible refine y_TB_to (by with_reducible assumption) ?_ ?_ ?_ ?_ ?_) <;> omega))
  · skip
    have e27 : (0 : Int32).toInt = 0 := rfl
    have c1' := c1
    rw [Int32.le_iff_toInt_le] at c1'
    refine y_bi (y_X9_bad) (fun r_21 h_r_21 => ?_)
    obtain ⟨h0_r_21, h1_r_21⟩ := h_r_21
    refine y_some ?_
    try dsimp only
    refine ⟨?_, ?_⟩ <;> (first | with_reducible assumption | omega | ((with_reducible refine y_Vl ?_ ?_) <;> omega) | ((with_reducible refine y_TB_to (by with_reducible assumption) ?_ ?_ ?_ ?_ ?_) <;> omega))
set_option maxHeartbeats 4000000 in
theorem y_X9_row {v9_0 : Int32} {v9_1 : Int32} {v9_21 : Int32} {g9_29 : Nat → Int32} {g9_30 : Nat → Int32} {g9_31 : Nat → Int32} {g9_32 : Nat → Int32} {p1 : Int32} {p2 : Int32} {p3 : Int32} {p4 : Int32} (k0 : 4 ≤ v9_1.toInt) (k1 : v9_1.toInt ≤ 200) (k2 : 0 ≤ v9_21.toInt) (k3 : v9_21.toInt ≤ 50) (hRH : y_Rg 50 0 2147483647 g9_31) (hRT : y_Rg 50 (-1) 199 g9_32) : y_Ok (f_X9_row v9_0 v9_1 v9_21 g9_29 g9_30 g9_31 g9_32 p1 p2 p3 p4) (fun r => (0 ≤ r.2.2.1.toInt) ∧ (r.2.2.1.toInt ≤ 50) ∧ (y_Rg 50 0 2147483647 r.2.2.2.2.2.1) ∧ (y_Rg 50 (-1) 199 r.2.2.2.2.2.2)) := by
  have hp3 := p3.toInt_lt
  unfold f_X9_row
  refine y_if (fun c1 => ?_) (fun c1 => ?_)
  · skip
    have e2 : (0 : Int32).toInt = 0 := rfl
    have c1' := c1
    rw [Int32.lt_iff_toInt_lt] at c1'
    refine y_bi (y_X9_bad) (fun r_2 h_r_2 => ?_)
    obtain ⟨h0_r_2, h1_r_2⟩ := h_r_2
    refine y_some ?_
    try dsimp only
    refine ⟨?_, ?_, ?_, ?_⟩ <;> (first | with_reducible assumption | omega | ((with_reducible refine y_Vl ?_ ?_) <;> omega) | (unfold y_Ty; omega) | ((with_reducible refine y_Up_add (by with_reducible assumption) ?_ ?_ ?_) <;> omega) | (exact Or.inl (by omega)) | (exact Or.inr (by (unfold y_Ty; omega))))
  · skip
    have e3 : (0 : Int32).toInt = 0 := rfl
    have c1' := c1
    rw [Int32.lt_iff_toInt_lt] at c1'
    refine y_if (fun c4 => ?_) (fun c4 => ?_)
    · skip
      have c4' := c4
      rw [Int32.lt_iff_toInt_lt] at c4'
      refine y_bi (y_X9_bad) (fun r_4 h_r_4 => ?_)
      obtain ⟨h0_r_4, h1_r_4⟩ := h_r_4
      refine y_some ?_
      try dsimp only
      refine ⟨?_, ?_, ?_, ?_⟩ <;> (first | with_reducible assumption | omega | ((with_reducible refine y_Vl ?_ ?_) <;> omega) | (unfold y_Ty; omega) | ((with_reducible refine y_Up_add (by with_reducible assumption) ?_ ?_ ?_) <;> omega) | (exact Or.inl (by omega)) | (exact Or.inr (by (unfold y_Ty; omega))))
    · skip
      have c4' := c4
      rw [Int32.lt_iff_toInt_lt] at c4'
      refine y_if (fun c5 => ?_) (fun c5 => ?_)
      · skip
        have c5' := c5
        rw [Int32.lt_iff_toInt_lt] at c5'
        refine y_bi (y_X9_bad) (fun r_6 h_r_6 => ?_)
        obtain ⟨h0_r_6, h1_r_6⟩ := h_r_6
        refine y_some ?_
        try dsimp only
        refine ⟨?_, ?_, ?_, ?_⟩ <;> (first | with_reducible assumption | omega | ((with_reducible refine y_Vl ?_ ?_) <;> omega) | (unfold y_Ty; omega) | ((with_reducible refine y_Up_add (by with_reducible assumption) ?_ ?_ ?_) <;> omega) | (exact Or.inl (by omega)) | (exact Or.inr (by (unfold y_Ty; omega))))
      · skip
        have c5' := c5
        rw [Int32.lt_iff_toInt_lt] at c5'
        refine y_if (fun c6 => ?_) (fun c6 => ?_)
        · skip
          have e7 : (-1 : Int32).toInt = -1 := rfl
          have c6' := c6
          rw [← Int32.toInt_inj] at c6'
          refine y_if (fun c8 => ?_) (fun c8 => ?_)
          · skip
            have e9 : (50 : Int32).toInt = 50 := rfl
            have c8' := c8
            rw [← Int32.toInt_inj] at c8'
            refine y_bi (y_X9_full) (fun r_13 h_r_13 => ?_)
            obtain ⟨h0_r_13, h1_r_13⟩ := h_r_13
            refine y_some ?_
            try dsimp only
            refine ⟨?_, ?_, ?_, ?_⟩ <;> (first | with_reducible assumption | omega | ((with_reducible refine y_Vl ?_ ?_) <;> omega) | (unfold y_Ty; omega) | ((with_reducible refine y_Up_add (by with_reducible assumption) ?_ ?_ ?_) <;> omega) | (exact Or.inl (by omega)) | (exact Or.inr (by (unfold y_Ty; omega))))
          · skip
            have e10 : (50 : Int32).toInt = 50 := rfl
            have c8' := c8
            rw [← Int32.toInt_inj] at c8'
            refine y_gd (y_gdI (by omega) (by omega)) ?_
            refine y_gd (y_gdI (by omega) (by omega)) ?_
            refine y_gd (y_gdI (by omega) (by omega)) ?_
            refine y_gd (y_gdI (by omega) (by omega)) ?_
            try have e11 := @y_addL v9_21 (1 : Int32) (1) rfl (by omega) (by omega)
            try have e12 := @y_cl v9_21 (by omega)
            try have e13 : y_Rg 50 0 2147483647 (upd g9_31 (Int32.toNatClampNeg v9_21) p3) := y_Rg_upd hRH (by omega) (by omega)
            try have e14 : y_Rg 50 (-1) 199 (upd g9_32 (Int32.toNatClampNeg v9_21) p4) := y_Rg_upd hRT (by omega) (by omega)
            refine y_some ?_
            try dsimp only
            refine ⟨?_, ?_, ?_, ?_⟩ <;> (first | with_reducible assumption | omega | ((with_reducible refine y_Vl ?_ ?_) <;> omega) | (unfold y_Ty; omega) | ((with_reducible refine y_Up_add (by with_reducible assumption) ?_ ?_ ?_) <;> omega) | (exact Or.inl (by omega)) | (exact Or.inr (by (unfold y_Ty; omega))))
        · skip
          have e15 : (-1 : Int32).toInt = -1 := rfl
          have c6' := c6
          rw [← Int32.toInt_inj] at c6'
          refine y_bi (y_X9_isClass) (fun r_14 h_r_14 => ?_)
          have h0_r_14 : (r_14.toInt = 0 ∧ ¬ (0 ≤ p4.toInt ∧ p4.toInt < v9_1.toInt)) ∨ (r_14.toInt = 1 ∧ (0 ≤ p4.toInt ∧ p4.toInt < v9_1.toInt)) := h_r_14
          refine y_if (fun c16 => ?_) (fun c16 => ?_)
          · skip
            have c16' := c16
            rw [← Int32.toInt_inj] at c16'
            have e17 := y_or0 h0_r_14 c16'
            clear h0_r_14
            refine y_bi (y_X9_bad) (fun r_22 h_r_22 => ?_)
            obtain ⟨h0_r_22, h1_r_22⟩ := h_r_22
            refine y_some ?_
            try dsimp only
            refine ⟨?_, ?_, ?_, ?_⟩ <;> (first | with_reducible assumption | omega | ((with_reducible refine y_Vl ?_ ?_) <;> omega) | (unfold y_Ty; omega) | ((with_reducible refine y_Up_add (by with_reducible assumption) ?_ ?_ ?_) <;> omega) | (exact Or.inl (by omega)) | (exact Or.inr (by (unfold y_Ty; omega))))
          · skip
            have c16' := c16
            rw [← Int32.toInt_inj] at c16'
            have e18 := y_or1 h0_r_14 c16'
            clear h0_r_14
            refine y_if (fun c19 => ?_) (fun c19 => ?_)
            · skip
              have e20 : (50 : Int32).toInt = 50 := rfl
              have c19' := c19
              rw [← Int32.toInt_inj] at c19'
              refine y_bi (y_X9_full) (fun r_21 h_r_21 => ?_)
              obtain ⟨h0_r_21, h1_r_21⟩ := h_r_21
              refine y_some ?_
              try dsimp only
              refine ⟨?_, ?_, ?_, ?_⟩ <;> (first | with_reducible assumption | omega | ((with_reducible refine y_Vl ?_ ?_) <;> omega) | (unfold y_Ty; omega) | ((with_reducible refine y_Up_add (by with_reducible assumption) ?_ ?_ ?_) <;> omega) | (exact Or.inl (by omega)) | (exact Or.inr (by (unfold y_Ty; omega))))
            · skip
              have e21 : (50 : Int32).toInt = 50 := rfl
              have c19' := c19
              rw [← Int32.toInt_inj] at c19'
              refine y_gd (y_gdI (by omega) (by omega)) ?_
              refine y_gd (y_gdI (by omega) (by omega)) ?_
              refine y_gd (y_gdI (by omega) (by omega)) ?_
              refine y_gd (y_gdI (by omega) (by omega)) ?_
              try have e22 := @y_addL v9_21 (1 : Int32) (1) rfl (by omega) (by omega)
              try have e23 := @y_cl v9_21 (by omega)
              try have e24 : y_Rg 50 0 2147483647 (upd g9_31 (Int32.toNatClampNeg v9_21) p3) := y_Rg_upd hRH (by omega) (by omega)
              try have e25 : y_Rg 50 (-1) 199 (upd g9_32 (Int32.toNatClampNeg v9_21) p4) := y_Rg_upd hRT (by omega) (by omega)
              refine y_some ?_
              try dsimp only
              refine ⟨?_, ?_, ?_, ?_⟩ <;> (first | with_reducible assumption | omega | ((with_reducible refine y_Vl ?_ ?_) <;> omega) | (unfold y_Ty; omega) | ((with_reducible refine y_Up_add (by with_reducible assumption) ?_ ?_ ?_) <;> omega) | (exact Or.inl (by omega)) | (exact Or.inr (by (unfold y_Ty; omega))))
set_option maxHeartbeats 4000000 in
theorem y_X9_stands {v9_0 : Int32} {v9_1 : Int32} {g9_4 : Nat → Int32} {g9_5 : Nat → Int32} {p1 : Int32} {p2 : Int32} (k0 : 4 ≤ v9_1.toInt) (k1 : v9_1.toInt ≤ 200) (k2 : y_Up g9_4) : y_Ok (f_X9_stands v9_0 v9_1 g9_4 g9_5 p1 p2) (fun r => (True)) := by
  unfold f_X9_stands
  refine y_bi (y_X9_isType (by omega) (by omega)) (fun r_1 h_r_1 => ?_)
  have h0_r_1 : (r_1.toInt = 0 ∧ ¬ (0 ≤ p1.toInt ∧ p1.toInt < 16777216 ∧ (p1.toInt % 65536 < v9_1.toInt ∨ 65528 ≤ p1.toInt % 65536))) ∨ (r_1.toInt = 1 ∧ (0 ≤ p1.toInt ∧ p1.toInt < 16777216 ∧ (p1.toInt % 65536 < v9_1.toInt ∨ 65528 ≤ p1.toInt % 65536))) := h_r_1
  refine y_if (fun c1 => ?_) (fun c1 => ?_)
  · skip
    have e2 : (0 : Int32).toInt = 0 := rfl
    have c1' := c1
    rw [← Int32.toInt_inj] at c1'
    have e3 := y_or0 h0_r_1 c1'
    clear h0_r_1
    have e4 : (1 : Int32).toInt = 1 := rfl
    exact y_some trivial
  · skip
    have e5 : (0 : Int32).toInt = 0 := rfl
    have c1' := c1
    rw [← Int32.toInt_inj] at c1'
    have e6 := y_or1 h0_r_1 c1'
    clear h0_r_1
    refine y_bi (y_X9_isType (by omega) (by omega)) (fun r_3 h_r_3 => ?_)
    have h0_r_3 : (r_3.toInt = 0 ∧ ¬ (0 ≤ p2.toInt ∧ p2.toInt < 16777216 ∧ (p2.toInt % 65536 < v9_1.toInt ∨ 65528 ≤ p2.toInt % 65536))) ∨ (r_3.toInt = 1 ∧ (0 ≤ p2.toInt ∧ p2.toInt < 16777216 ∧ (p2.toInt % 65536 < v9_1.toInt ∨ 65528 ≤ p2.toInt % 65536))) := h_r_3
    refine y_if (fun c7 => ?_) (fun c7 => ?_)
    · skip
      have c7' := c7
      rw [← Int32.toInt_inj] at c7'
      have e8 := y_or0 h0_r_3 c7'
      clear h0_r_3
      have e9 : (1 : Int32).toInt = 1 := rfl
      exact y_some trivial
    · skip
      have c7' := c7
      rw [← Int32.toInt_inj] at c7'
      have e10 := y_or1 h0_r_3 c7'
      clear h0_r_3
      refine y_bi (y_X9_may (by first | with_reducible assumption | omega | ((with_reducible refine y_Vl ?_ ?_) <;> omega) | (unfold y_Ty; omega) | ((with_reducible refine y_Up_add (by with_reducible assumption) ?_ ?_ ?_) <;> omega) | (exact Or.inl (by omega)) | (exact Or.inr (by (unfold y_Ty; omega)))) (by first | with_reducible assumption | omega | ((with_reducible refine y_Vl ?_ ?_) <;> omega) | (unfold y_Ty; omega) | ((with_reducible refine y_Up_add (by with_reducible assumption) ?_ ?_ ?_) <;> omega) | (exact Or.inl (by omega)) | (exact Or.inr (by (unfold y_Ty; omega)))) (by first | with_reducible assumption | omega | ((with_reducible refine y_Vl ?_ ?_) <;> omega) | (unfold y_Ty; omega) | ((with_reducible refine y_Up_add (by with_reducible assumption) ?_ ?_ ?_) <;> omega) | (exact Or.inl (by omega)) | (exact Or.inr (by (unfold y_Ty; omega))))) (fun r_5 h_r_5 => ?_)
      have h0_r_5 : r_5.toInt = 0 ∨ r_5.toInt = 1 := h_r_5
      exact y_some trivial
set_option maxHeartbeats 4000000 in
theorem y_X9_common {v9_0 : Int32} {v9_1 : Int32} {g9_4 : Nat → Int32} {g9_5 : Nat → Int32} {p1 : Int32} {p2 : Int32} (k0 : 4 ≤ v9_1.toInt) (k1 : v9_1.toInt ≤ 200) (k2 : y_Up g9_4) : y_Ok (f_X9_common v9_0 v9_1 g9_4 g9_5 p1 p2) (fun r => (True)) := by
  unfold f_X9_common
  refine y_bi (y_X9_isType (by omega) (by omega)) (fun r_1 h_r_1 => ?_)
  have h0_r_1 : (r_1.toInt = 0 ∧ ¬ (0 ≤ p1.toInt ∧ p1.toInt < 16777216 ∧ (p1.toInt % 65536 < v9_1.toInt ∨ 65528 ≤ p1.toInt % 65536))) ∨ (r_1.toInt = 1 ∧ (0 ≤ p1.toInt ∧ p1.toInt < 16777216 ∧ (p1.toInt % 65536 < v9_1.toInt ∨ 65528 ≤ p1.toInt % 65536))) := h_r_1
  refine y_if (fun c1 => ?_) (fun c1 => ?_)
  · skip
    have e2 : (0 : Int32).toInt = 0 := rfl
    have c1' := c1
    rw [← Int32.toInt_inj] at c1'
    have e3 := y_or0 h0_r_1 c1'
    clear h0_r_1
    refine y_bi (y_X9_bad) (fun r_3 h_r_3 => ?_)
    obtain ⟨h0_r_3, h1_r_3⟩ := h_r_3
    exact y_some trivial
  · skip
    have e4 : (0 : Int32).toInt = 0 := rfl
    have c1' := c1
    rw [← Int32.toInt_inj] at c1'
    have e5 := y_or1 h0_r_1 c1'
    clear h0_r_1
    refine y_bi (y_X9_isType (by omega) (by omega)) (fun r_4 h_r_4 => ?_)
    have h0_r_4 : (r_4.toInt = 0 ∧ ¬ (0 ≤ p2.toInt ∧ p2.toInt < 16777216 ∧ (p2.toInt % 65536 < v9_1.toInt ∨ 65528 ≤ p2.toInt % 65536))) ∨ (r_4.toInt = 1 ∧ (0 ≤ p2.toInt ∧ p2.toInt < 16777216 ∧ (p2.toInt % 65536 < v9_1.toInt ∨ 65528 ≤ p2.toInt % 65536))) := h_r_4
    refine y_if (fun c6 => ?_) (fun c6 => ?_)
    · skip
      have c6' := c6
      rw [← Int32.toInt_inj] at c6'
      have e7 := y_or0 h0_r_4 c6'
      clear h0_r_4
      refine y_bi (y_X9_bad) (fun r_6 h_r_6 => ?_)
      obtain ⟨h0_r_6, h1_r_6⟩ := h_r_6
      exact y_some trivial
    · skip
      have c6' := c6
      rw [← Int32.toInt_inj] at c6'
      have e8 := y_or1 h0_r_4 c6'
      clear h0_r_4
      refine y_bi (y_X9_isPrimitive) (fun r_7 h_r_7 => ?_)
      have h0_r_7 : (r_7.toInt = 0 ∧ ¬ (65528 ≤ p1.toInt ∧ p1.toInt < 65536)) ∨ (r_7.toInt = 1 ∧ (65528 ≤ p1.toInt ∧ p1.toInt < 65536)) := h_r_7
      refine y_if (fun c9 => ?_) (fun c9 => ?_)
      · skip
        have c9' := c9
        rw [← Int32.toInt_inj] at c9'
        have e10 := y_or0 h0_r_7 c9'
        clear h0_r_7
        refine y_bi (y_X9_isPrimitive) (fun r_10 h_r_10 => ?_)
        have h0_r_10 : (r_10.toInt = 0 ∧ ¬ (65528 ≤ p2.toInt ∧ p2.toInt < 65536)) ∨ (r_10.toInt = 1 ∧ (65528 ≤ p2.toInt ∧ p2.toInt < 65536)) := h_r_10
        refine y_if (fun c11 => ?_) (fun c11 => ?_)
        · skip
          have c11' := c11
          rw [← Int32.toInt_inj] at c11'
          have e12 := y_or0 h0_r_10 c11'
          clear h0_r_10
          refine y_bi (y_X9_shared (by first | with_reducible assumption | omega | ((with_reducible refine y_Vl ?_ ?_) <;> omega) | (unfold y_Ty; omega) | ((with_reducible refine y_Up_add (by with_reducible assumption) ?_ ?_ ?_) <;> omega) | (exact Or.inl (by omega)) | (exact Or.inr (by (unfold y_Ty; omega))) | (unfold y_Tr; omega)) (by first | with_reducible assumption | omega | ((with_reducible refine y_Vl ?_ ?_) <;> omega) | (unfold y_Ty; omega) | ((with_reducible refine y_Up_add (by with_reducible assumption) ?_ ?_ ?_) <;> omega) | (exact Or.inl (by omega)) | (exact Or.inr (by (unfold y_Ty; omega))) | (unfold y_Tr; omega)) (by first | with_reducible assumption | omega | ((with_reducible refine y_Vl ?_ ?_) <;> omega) | (unfold y_Ty; omega) | ((with_reducible refine y_Up_add (by with_reducible assumption) ?_ ?_ ?_) <;> omega) | (exact Or.inl (by omega)) | (exact Or.inr (by (unfold y_Ty; omega))) | (unfold y_Tr; omega))) (fun r_12 h_r_12 => ?_)
          obtain ⟨h0_r_12, h1_r_12, h2_r_12, h3_r_12⟩ := h_r_12
          exact y_some trivial
        · skip
          have c11' := c11
          rw [← Int32.toInt_inj] at c11'
          have e13 := y_or1 h0_r_10 c11'
          clear h0_r_10
          refine y_bi (y_X9_bad) (fun r_13 h_r_13 => ?_)
          obtain ⟨h0_r_13, h1_r_13⟩ := h_r_13
          exact y_some trivial
      · skip
        have c9' := c9
        rw [← Int32.toInt_inj] at c9'
        have e14 := y_or1 h0_r_7 c9'
        clear h0_r_7
        refine y_bi (y_X9_bad) (fun r_9 h_r_9 => ?_)
        obtain ⟨h0_r_9, h1_r_9⟩ := h_r_9
        exact y_some trivial
