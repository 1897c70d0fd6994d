set_option maxHeartbeats 4000000 in
theorem y_X9_kindOf {p0 : Int32} (k0 : y_Ty p0) : y_Ok (f_X9_kindOf p0) (fun r => (y_V r)) := by
  have u1 := k0
  unfold y_Ty at u1
  unfold f_X9_kindOf
  refine y_if (fun c1 => ?_) (fun c1 => ?_)
  · skip
    have e2 : (65528 : Int32).toInt = 65528 := rfl
    have c1' := c1
    rw [Int32.lt_iff_toInt_lt] at c1'
    have e3 : (16 : Int32).toInt = 16 := rfl
    try have e4 := @y_mulL (16 : Int32) p0 16 rfl (by omega) (by omega)
    try have e5 := @y_addL ((16 : Int32) * p0) (8 : Int32) (8) rfl (by omega) (by omega)
    refine y_some ?_
    try dsimp only
    (first | with_reducible assumption | omega | ((with_reducible refine y_Vl ?_ ?_) <;> omega) | ((with_reducible refine y_V8 ?_) <;> (first | with_reducible assumption | (unfold y_Tr; omega))) | ((with_reducible refine y_Tr4 ?_ ?_) <;> (first | with_reducible assumption | omega)) | ((with_reducible refine (y_Tr4 ?_ ?_).ty) <;> (first | with_reducible assumption | omega)) | (unfold y_Ty; omega) | (unfold y_Tr; omega))
  · skip
    have e6 : (65528 : Int32).toInt = 65528 := rfl
    have c1' := c1
    rw [Int32.lt_iff_toInt_lt] at c1'
    refine y_if (fun c7 => ?_) (fun c7 => ?_)
    · skip
      have e8 : (65535 : Int32).toInt = 65535 := rfl
      have c7' := c7
      rw [Int32.le_iff_toInt_le] at c7'
      refine y_if (fun c9 => ?_) (fun c9 => ?_)
      · skip
        have e10 : (65530 : Int32).toInt = 65530 := rfl
        have c9' := c9
        rw [← Int32.toInt_inj] at c9'
        have e11 : (2 : Int32).toInt = 2 := rfl
        refine y_some ?_
        try dsimp only
        (first | with_reducible assumption | omega | ((with_reducible refine y_Vl ?_ ?_) <;> omega) | ((with_reducible refine y_V8 ?_) <;> (first | with_reducible assumption | (unfold y_Tr; omega))) | ((with_reducible refine y_Tr4 ?_ ?_) <;> (first | with_reducible assumption | omega)) | ((with_reducible refine (y_Tr4 ?_ ?_).ty) <;> (first | with_reducible assumption | omega)) | (unfold y_Ty; omega) | (unfold y_Tr; omega))
      · skip
        have e12 : (65530 : Int32).toInt = 65530 := rfl
        have c9' := c9
        rw [← Int32.toInt_inj] at c9'
        refine y_if (fun c13 => ?_) (fun c13 => ?_)
        · skip
          have e14 : (65531 : Int32).toInt = 65531 := rfl
          have c13' := c13
          rw [← Int32.toInt_inj] at c13'
          have e15 : (4 : Int32).toInt = 4 := rfl
          refine y_some ?_
          try dsimp only
          (first | with_reducible assumption | omega | ((with_reducible refine y_Vl ?_ ?_) <;> omega) | ((with_reducible refine y_V8 ?_) <;> (first | with_reducible assumption | (unfold y_Tr; omega))) | ((with_reducible refine y_Tr4 ?_ ?_) <;> (first | with_reducible assumption | omega)) | ((with_reducible refine (y_Tr4 ?_ ?_).ty) <;> (first | with_reducible assumption | omega)) | (unfold y_Ty; omega) | (unfold y_Tr; omega))
        · skip
          have e16 : (65531 : Int32).toInt = 65531 := rfl
          have c13' := c13
          rw [← Int32.toInt_inj] at c13'
          refine y_if (fun c17 => ?_) (fun c17 => ?_)
          · skip
            have c17' := c17
            rw [← Int32.toInt_inj] at c17'
            have e18 : (3 : Int32).toInt = 3 := rfl
            refine y_some ?_
            try dsimp only
            (first | with_reducible assumption | omega | ((with_reducible refine y_Vl ?_ ?_) <;> omega) | ((with_reducible refine y_V8 ?_) <;> (first | with_reducible assumption | (unfold y_Tr; omega))) | ((with_reducible refine y_Tr4 ?_ ?_) <;> (first | with_reducible assumption | omega)) | ((with_reducible refine (y_Tr4 ?_ ?_).ty) <;> (first | with_reducible assumption | omega)) | (unfold y_Ty; omega) | (unfold y_Tr; omega))
          · skip
            have c17' := c17
            rw [← Int32.toInt_inj] at c17'
            have e19 : (1 : Int32).toInt = 1 := rfl
            refine y_some ?_
            try dsimp only
            (first | with_reducible assumption | omega | ((with_reducible refine y_Vl ?_ ?_) <;> omega) | ((with_reducible refine y_V8 ?_) <;> (first | with_reducible assumption | (unfold y_Tr; omega))) | ((with_reducible refine y_Tr4 ?_ ?_) <;> (first | with_reducible assumption | omega)) | ((with_reducible refine (y_Tr4 ?_ ?_).ty) <;> (first | with_reducible assumption | omega)) | (unfold y_Ty; omega) | (unfold y_Tr; omega))
    · skip
      have e20 : (65535 : Int32).toInt = 65535 := rfl
      have c7' := c7
      rw [Int32.le_iff_toInt_le] at c7'
      have e21 : (16 : Int32).toInt = 16 := rfl
      try have e22 := @y_mulL (16 : Int32) p0 16 rfl (by omega) (by omega)
      try have e23 := @y_addL ((16 : Int32) * p0) (8 : Int32) (8) rfl (by omega) (by omega)
      refine y_some ?_
      try dsimp only
      (first | with_reducible assumption | omega | ((with_reducible refine y_Vl ?_ ?_) <;> omega) | ((with_reducible refine y_V8 ?_) <;> (first | with_reducible assumption | (unfold y_Tr; omega))) | ((with_reducible refine y_Tr4 ?_ ?_) <;> (first | with_reducible assumption | omega)) | ((with_reducible refine (y_Tr4 ?_ ?_).ty) <;> (first | with_reducible assumption | omega)) | (unfold y_Ty; omega) | (unfold y_Tr; omega))
set_option maxHeartbeats 4000000 in
theorem y_X9_isRef {p0 : Int32}  : y_Ok (f_X9_isRef p0) (fun r => (r.toInt = 0 ∨ r.toInt = 1)) := by
  unfold f_X9_isRef
  refine y_if (fun c1 => ?_) (fun c1 => ?_)
  · skip
    have e2 : (5 : Int32).toInt = 5 := rfl
    have c1' := c1
    rw [← Int32.toInt_inj] at c1'
    have e3 : (1 : Int32).toInt = 1 := rfl
    refine y_some ?_
    try dsimp only
    (first | with_reducible assumption | omega | ((with_reducible refine y_Vl ?_ ?_) <;> omega))
  · skip
    have e4 : (5 : Int32).toInt = 5 := rfl
    have c1' := c1
    rw [← Int32.toInt_inj] at c1'
    refine y_if (fun c5 => ?_) (fun c5 => ?_)
    · skip
      have e6 : (6 : Int32).toInt = 6 := rfl
      have c5' := c5
      rw [← Int32.toInt_inj] at c5'
      have e7 : (1 : Int32).toInt = 1 := rfl
      refine y_some ?_
      try dsimp only
      (first | with_reducible assumption | omega | ((with_reducible refine y_Vl ?_ ?_) <;> omega))
    · skip
      have e8 : (6 : Int32).toInt = 6 := rfl
      have c5' := c5
      rw [← Int32.toInt_inj] at c5'
      refine y_if (fun c9 => ?_) (fun c9 => ?_)
      · skip
        have e10 := y_and4 p0
        have e11 : (8 : Int32).toInt = 8 := rfl
        have c9' := c9
        rw [← Int32.toInt_inj] at c9'
        have e12 : (1 : Int32).toInt = 1 := rfl
        refine y_some ?_
        try dsimp only
        (first | with_reducible assumption | omega | ((with_reducible refine y_Vl ?_ ?_) <;> omega))
      · skip
        have e13 := y_and4 p0
        have e14 : (8 : Int32).toInt = 8 := rfl
        have c9' := c9
        rw [← Int32.toInt_inj] at c9'
        refine y_if (fun c15 => ?_) (fun c15 => ?_)
        · skip
          have e16 : (9 : Int32).toInt = 9 := rfl
          have c15' := c15
          rw [← Int32.toInt_inj] at c15'
          have e17 : (1 : Int32).toInt = 1 := rfl
          refine y_some ?_
          try dsimp only
          (first | with_reducible assumption | omega | ((with_reducible refine y_Vl ?_ ?_) <;> omega))
        · skip
          have e18 : (9 : Int32).toInt = 9 := rfl
          have c15' := c15
          rw [← Int32.toInt_inj] at c15'
          have e19 : (0 : Int32).toInt = 0 := rfl
          refine y_some ?_
          try dsimp only
          (first | with_reducible assumption | omega | ((with_reducible refine y_Vl ?_ ?_) <;> omega))
set_option maxHeartbeats 4000000 in
theorem y_X9_places {p0 : Int32}  : y_Ok (f_X9_places p0) (fun r => (1 ≤ r.toInt) ∧ (r.toInt ≤ 2)) := by
  unfold f_X9_places
  refine y_if (fun c1 => ?_) (fun c1 => ?_)
  · skip
    have e2 : (3 : Int32).toInt = 3 := rfl
    have c1' := c1
    rw [← Int32.toInt_inj] at c1'
    have e3 : (2 : Int32).toInt = 2 := rfl
    refine y_some ?_
    try dsimp only
    refine ⟨?_, ?_⟩ <;> (first | with_reducible assumption | omega | ((with_reducible refine y_Vl ?_ ?_) <;> omega))
  · skip
    have e4 : (3 : Int32).toInt = 3 := rfl
    have c1' := c1
    rw [← Int32.toInt_inj] at c1'
    refine y_if (fun c5 => ?_) (fun c5 => ?_)
    · skip
      have e6 : (4 : Int32).toInt = 4 := rfl
      have c5' := c5
      rw [← Int32.toInt_inj] at c5'
      have e7 : (2 : Int32).toInt = 2 := rfl
      refine y_some ?_
      try dsimp only
      refine ⟨?_, ?_⟩ <;> (first | with_reducible assumption | omega | ((with_reducible refine y_Vl ?_ ?_) <;> omega))
    · skip
      have e8 : (4 : Int32).toInt = 4 := rfl
      have c5' := c5
      rw [← Int32.toInt_inj] at c5'
      have e9 : (1 : Int32).toInt = 1 := rfl
      refine y_some ?_
      try dsimp only
      refine ⟨?_, ?_⟩ <;> (first | with_reducible assumption | omega | ((with_reducible refine y_Vl ?_ ?_) <;> omega))
set_option maxHeartbeats 4000000 in
theorem y_X9_size {v9_16 : Int32} {v9_17 : Int32} (k0 : 0 ≤ v9_16.toInt) (k1 : v9_16.toInt ≤ 200) (k2 : 0 ≤ v9_17.toInt) (k3 : v9_17.toInt ≤ 200) : y_Ok (f_X9_size v9_16 v9_17) (fun r => (r.toInt = v9_16.toInt + v9_17.toInt + 2)) := by
  unfold f_X9_size
  try have e1 := @y_add v9_16 v9_17 (by omega) (by omega)
  try have e2 := @y_addL (v9_16 + v9_17) (2 : Int32) (2) rfl (by omega) (by omega)
  refine y_some ?_
  try dsimp only
  (first | with_reducible assumption | omega | ((with_reducible refine y_Vl ?_ ?_) <;> omega))
set_option maxHeartbeats 4000000 in
theorem y_X9_bad {v9_0 : Int32}  : y_Ok (f_X9_bad v9_0) (fun r => (r.2.toInt = 1) ∧ (r.1.toInt = 0)) := by
  unfold f_X9_bad
  have e1 : (0 : Int32).toInt = 0 := rfl
  have e2 : (1 : Int32).toInt = 1 := rfl
  refine y_some ?_
  try dsimp only
  refine ⟨?_, ?_⟩ <;> (first | with_reducible assumption | omega | ((with_reducible refine y_Vl ?_ ?_) <;> omega))
set_option maxHeartbeats 4000000 in
theorem y_X9_full {v9_0 : Int32}  : y_Ok (f_X9_full v9_0) (fun r => (r.2.toInt = 2) ∧ (r.1.toInt = 0)) := by
  unfold f_X9_full
  have e1 : (0 : Int32).toInt = 0 := rfl
  have e2 : (2 : Int32).toInt = 2 := rfl
  refine y_some ?_
  try dsimp only
  refine ⟨?_, ?_⟩ <;> (first | with_reducible assumption | omega | ((with_reducible refine y_Vl ?_ ?_) <;> omega))
set_option maxHeartbeats 4000000 in
theorem y_X9_joined {g9_4 : Nat → Int32} {g9_5 : Nat → Int32} {p1 : Int32} {p2 : Int32} (k0 : y_Up g9_4) (k1 : y_V p1) (k2 : y_V p2) : y_Ok (f_X9_joined g9_4 g9_5 p1 p2) (fun r => (r.toInt = -1 ∨ y_V r) ∧ (r.toInt = -1 ∨ r.toInt = p1.toInt ∨ y_rk r < y_rk p1) ∧ (-1 ≤ r.toInt)) := by
  have u1 := k1
  have u2 := k2
  unfold y_V at u1 u2
  unfold f_X9_joined
  refine y_if (fun c1 => ?_) (fun c1 => ?_)
  · skip
    have c1' := c1
    rw [← Int32.toInt_inj] at c1'
    refine y_some ?_
    try dsimp only
    refine ⟨?_, ?_, ?_⟩ <;> (first | with_reducible assumption | omega | ((with_reducible refine y_Vl ?_ ?_) <;> omega) | ((with_reducible refine y_V8 ?_) <;> (first | with_reducible assumption | (unfold y_Tr; omega))) | ((with_reducible refine y_Tr4 ?_ ?_) <;> (first | with_reducible assumption | omega)) | ((with_reducible refine (y_Tr4 ?_ ?_).ty) <;> (first | with_reducible assumption | omega)) | (unfold y_Ty; omega) | (unfold y_Tr; omega) | exact Or.inl (by omega) | exact Or.inr (by first | with_reducible assumption | omega | ((with_reducible refine y_Vl ?_ ?_) <;> omega) | ((with_reducible refine y_V8 ?_) <;> (first | with_reducible assumption | (unfold y_Tr; omega))) | ((with_reducible refine y_Tr4 ?_ ?_) <;> (first | with_reducible assumption | omega)) | ((with_reducible refine (y_Tr4 ?_ ?_).ty) <;> (first | with_reducible assumption | omega)) | (unfold y_Ty; omega) | (unfold y_Tr; omega)) | (unfold y_rk; (repeat' split) <;> omega))
  · skip
    have c1' := c1
    rw [← Int32.toInt_inj] at c1'
    refine y_if (fun c2 => ?_) (fun c2 => ?_)
    · skip
      have e3 := y_and4 p1
      have e4 : (8 : Int32).toInt = 8 := rfl
      have c2' := c2
      rw [← Int32.toInt_inj] at c2'
      refine y_if (fun c5 => ?_) (fun c5 => ?_)
      · skip
        have e6 : (5 : Int32).toInt = 5 := rfl
        have c5' := c5
        rw [← Int32.toInt_inj] at c5'
        refine y_some ?_
        try dsimp only
        refine ⟨?_, ?_, ?_⟩ <;> (first | with_reducible assumption | omega | ((with_reducible refine y_Vl ?_ ?_) <;> omega) | ((with_reducible refine y_V8 ?_) <;> (first | with_reducible assumption | (unfold y_Tr; omega))) | ((with_reducible refine y_Tr4 ?_ ?_) <;> (first | with_reducible assumption | omega)) | ((with_reducible refine (y_Tr4 ?_ ?_).ty) <;> (first | with_reducible assumption | omega)) | (unfold y_Ty; omega) | (unfold y_Tr; omega) | exact Or.inl (by omega) | exact Or.inr (by first | with_reducible assumption | omega | ((with_reducible refine y_Vl ?_ ?_) <;> omega) | ((with_reducible refine y_V8 ?_) <;> (first | with_reducible assumption | (unfold y_Tr; omega))) | ((with_reducible refine y_Tr4 ?_ ?_) <;> (first | with_reducible assumption | omega)) | ((with_reducible refine (y_Tr4 ?_ ?_).ty) <;> (first | with_reducible assumption | omega)) | (unfold y_Ty; omega) | (unfold y_Tr; omega)) | (unfold y_rk; (repeat' split) <;> omega))
      · skip
        have e7 : (5 : Int32).toInt = 5 := rfl
        have c5' := c5
        rw [← Int32.toInt_inj] at c5'
        refine y_if (fun c8 => ?_) (fun c8 => ?_)
        · skip
          have c8' := c8
          rw [← Int32.toInt_inj] at c8'
          refine y_if (fun c9 => ?_) (fun c9 => ?_)
          · skip
            have e10 := y_and4 p2
            have c9' := c9
            rw [← Int32.toInt_inj] at c9'
            refine y_some ?_
            try dsimp only
            refine ⟨?_, ?_, ?_⟩ <;> (first | with_reducible assumption | omega | ((with_reducible refine y_Vl ?_ ?_) <;> omega) | ((with_reducible refine y_V8 ?_) <;> (first | with_reducible assumption | (unfold y_Tr; omega))) | ((with_reducible refine y_Tr4 ?_ ?_) <;> (first | with_reducible assumption | omega)) | ((with_reducible refine (y_Tr4 ?_ ?_).ty) <;> (first | with_reducible assumption | omega)) | (unfold y_Ty; omega) | (unfold y_Tr; omega) | exact Or.inl (by omega) | exact Or.inr (by first | with_reducible assumption | omega | ((with_reducible refine y_Vl ?_ ?_) <;> omega) | ((with_reducible refine y_V8 ?_) <;> (first | with_reducible assumption | (unfold y_Tr; omega))) | ((with_reducible refine y_Tr4 ?_ ?_) <;> (first | with_reducible assumption | omega)) | ((with_reducible refine (y_Tr4 ?_ ?_).ty) <;> (first | with_reducible assumption | omega)) | (unfold y_Ty; omega) | (unfold y_Tr; omega)) | (unfold y_rk; (repeat' split) <;> omega))
          · skip
            have e11 := y_and4 p2
            have c9' := c9
            rw [← Int32.toInt_inj] at c9'
            refine y_if (fun c12 => ?_) (fun c12 => ?_)
            · skip
              have c12' := c12
              rw [← Int32.toInt_inj] at c12'
              refine y_if (fun c13 => ?_) (fun c13 => ?_)
              · skip
                have c13' := c13
                rw [← Int32.toInt_inj] at c13'
                have e14 := y_sar4 p1
                have e15 := y_sar4 p2
                refine y_bi (y_X9_shared (by first | with_reducible assumption | omega | ((with_reducible refine y_Vl ?_ ?_) <;> omega) | ((with_reducible refine y_V8 ?_) <;> (first | with_reducible assumption | (unfold y_Tr; omega))) | ((with_reducible refine y_Tr4 ?_ ?_) <;> (first | with_reducible assumption | omega)) | ((with_reducible refine (y_Tr4 ?_ ?_).ty) <;> (first | with_reducible assumption | omega)) | (unfold y_Ty; omega) | (unfold y_Tr; omega) | exact Or.inl (by omega) | exact Or.inr (by first | with_reducible assumption | omega | ((with_reducible refine y_Vl ?_ ?_) <;> omega) | ((with_reducible refine y_V8 ?_) <;> (first | with_reducible assumption | (unfold y_Tr; omega))) | ((with_reducible refine y_Tr4 ?_ ?_) <;> (first | with_reducible assumption | omega)) | ((with_reducible refine (y_Tr4 ?_ ?_).ty) <;> (first | with_reducible assumption | omega)) | (unfold y_Ty; omega) | (unfold y_Tr; omega)) | (unfold y_rk; (repeat' split) <;> omega)) (by first | with_reducible assumption | omega | ((with_reducible refine y_Vl ?_ ?_) <;> omega) | ((with_reducible refine y_V8 ?_) <;> (first | with_reducible assumption | (unfold y_Tr; omega))) | ((with_reducible refine y_Tr4 ?_ ?_) <;> (first | with_reducible assumption | omega)) | ((with_reducible refine (y_Tr4 ?_ ?_).ty) <;> (first | with_reducible assumption | omega)) | (unfold y_Ty; omega) | (unfold y_Tr; omega) | exact Or.inl (by omega) | exact Or.inr (by first | with_reducible assumption | omega | ((with_reducible refine y_Vl ?_ ?_) <;> omega) | ((with_reducible refine y_V8 ?_) <;> (first | with_reducible assumption | (unfold y_Tr; omega))) | ((with_reducible refine y_Tr4 ?_ ?_) <;> (first | with_reducible assumption | omega)) | ((with_reducible refine (y_Tr4 ?_ ?_).ty) <;> (first | with_reducible assumption | omega)) | (unfold y_Ty; omega) | (unfold y_Tr; omega)) | (unfold y_rk; (repeat' split) <;> omega)) (by first | with_reducible assumption | omega | ((with_reducible refine y_Vl ?_ ?_) <;> omega) | ((with_reducible refine y_V8 ?_) <;> (first | with_reducible assumption | (unfold y_Tr; omega))) | ((with_reducible refine y_Tr4 ?_ ?_) <;> (first | with_reducible assumption | omega)) | ((with_reducible refine (y_Tr4 ?_ ?_).ty) <;> (first | with_reducible assumption | omega)) | (unfold y_Ty; omega) | (unfold y_Tr; omega) | exact Or.inl (by omega) | exact Or.inr (by first | with_reducible assumption | omega | ((with_reducible refine y_Vl ?_ ?_) <;> omega) | ((with_reducible refine y_V8 ?_) <;> (first | with_reducible assumption | (unfold y_Tr; omega))) | ((with_reducible refine y_Tr4 ?_ ?_) <;> (first | with_reducible assumption | omega)) | ((with_reducible refine (y_Tr4 ?_ ?_).ty) <;> (first | with_reducible assumption | omega)) | (unfold y_Ty; omega) | (unfold y_Tr; omega)) | (unfold y_rk; (repeat' split) <;> omega))) (fun r_19 h_r_19 => ?_)
                obtain ⟨h0_r_19, h1_r_19, h2_r_19, h3_r_19⟩ := h_r_19
                have e16 : (16 : Int32).toInt = 16 := rfl
                try have e17 := @y_mulL (16 : Int32) r_19 16 rfl (by omega) (by omega)
                try have e18 := @y_addL ((16 : Int32) * r_19) (8 : Int32) (8) rfl (by omega) (by omega)
                refine y_some ?_
                try dsimp only
                refine ⟨?_, ?_, ?_⟩ <;> (first | with_reducible assumption | omega | ((with_reducible refine y_Vl ?_ ?_) <;> omega) | ((with_reducible refine y_V8 ?_) <;> (first | with_reducible assumption | (unfold y_Tr; omega))) | ((with_reducible refine y_Tr4 ?_ ?_) <;> (first | with_reducible assumption | omega)) | ((with_reducible refine (y_Tr4 ?_ ?_).ty) <;> (first | with_reducible assumption | omega)) | (unfold y_Ty; omega) | (unfold y_Tr; omega) | exact Or.inl (by omega) | exact Or.inr (by first | with_reducible assumption | omega | ((with_reducible refine y_Vl ?_ ?_) <;> omega) | ((with_reducible refine y_V8 ?_) <;> (first | with_reducible assumption | (unfold y_Tr; omega))) | ((with_reducible refine y_Tr4 ?_ ?_) <;> (first | with_reducible assumption | omega)) | ((with_reducible refine (y_Tr4 ?_ ?_).ty) <;> (first | with_reducible assumption | omega)) | (unfold y_Ty; omega) | (unfold y_Tr; omega)) | (unfold y_rk; (repeat' split) <;> omega))
              · skip
                have c13' := c13
                rw [← Int32.toInt_inj] at c13'
                have e19 : (-1 : Int32).toInt = -1 := rfl
                refine y_some ?_
                try dsimp only
                refine ⟨?_, ?_, ?_⟩ <;> (first | with_reducible assumption | omega | ((with_reducible refine y_Vl ?_ ?_) <;> omega) | ((with_reducible refine y_V8 ?_) <;> (first | with_reducible assumption | (unfold y_Tr; omega))) | ((with_reducible refine y_Tr4 ?_ ?_) <;> (first | with_reducible assumption | omega)) | ((with_reducible refine (y_Tr4 ?_ ?_).ty) <;> (first | with_reducible assumption | omega)) | (unfold y_Ty; omega) | (unfold y_Tr; omega) | exact Or.inl (by omega) | exact Or.inr (by first | with_reducible assumption | omega | ((with_reducible refine y_Vl ?_ ?_) <;> omega) | ((with_reducible refine y_V8 ?_) <;> (first | with_reducible assumption | (unfold y_Tr; omega))) | ((with_reducible refine y_Tr4 ?_ ?_) <;> (first | with_reducible assumption | omega)) | ((with_reducible refine (y_Tr4 ?_ ?_).ty) <;> (first | with_reducible assumption | omega)) | (unfold y_Ty; omega) | (unfold y_Tr; omega)) | (unfold y_rk; (repeat' split) <;> omega))
            · skip
              have c12' := c12
              rw [← Int32.toInt_inj] at c12'
              have e20 : (-1 : Int32).toInt = -1 := rfl
              refine y_some ?_
              try dsimp only
              refine ⟨?_, ?_, ?_⟩ <;> (first | with_reducible assumption | omega | ((with_reducible refine y_Vl ?_ ?_) <;> omega) | ((with_reducible refine y_V8 ?_) <;> (first | with_reducible assumption | (unfold y_Tr; omega))) | ((with_reducible refine y_Tr4 ?_ ?_) <;> (first | with_reducible assumption | omega)) | ((with_reducible refine (y_Tr4 ?_ ?_).ty) <;> (first | with_reducible assumption | omega)) | (unfold y_Ty; omega) | (unfold y_Tr; omega) | exact Or.inl (by omega) | exact Or.inr (by first | with_reducible assumption | omega | ((with_reducible refine y_Vl ?_ ?_) <;> omega) | ((with_reducible refine y_V8 ?_) <;> (first | with_reducible assumption | (unfold y_Tr; omega))) | ((with_reducible refine y_Tr4 ?_ ?_) <;> (first | with_reducible assumption | omega)) | ((with_reducible refine (y_Tr4 ?_ ?_).ty) <;> (first | with_reducible assumption | omega)) | (unfold y_Ty; omega) | (unfold y_Tr; omega)) | (unfold y_rk; (repeat' split) <;> omega))
        · skip
          have c8' := c8
          rw [← Int32.toInt_inj] at c8'
          refine y_if (fun c21 => ?_) (fun c21 => ?_)
          · skip
            have c21' := c21
            rw [← Int32.toInt_inj] at c21'
            refine y_if (fun c22 => ?_) (fun c22 => ?_)
            · skip
              have e23 := y_and4 p2
              have c22' := c22
              rw [← Int32.toInt_inj] at c22'
              have e24 := y_sar4 p1
              have e25 := y_sar4 p2
              refine y_bi (y_X9_shared (by first | with_reducible assumption | omega | ((with_reducible refine y_Vl ?_ ?_) <;> omega) | ((with_reducible refine y_V8 ?_) <;> (first | with_reducible assumption | (unfold y_Tr; omega))) | ((with_reducible refine y_Tr4 ?_ ?_) <;> (first | with_reducible assumption | omega)) | ((with_reducible refine (y_Tr4 ?_ ?_).ty) <;> (first | with_reducible assumption | omega)) | (unfold y_Ty; omega) | (unfold y_Tr; omega) | exact Or.inl (by omega) | exact Or.inr (by first | with_reducible assumption | omega | ((with_reducible refine y_Vl ?_ ?_) <;> omega) | ((with_reducible refine y_V8 ?_) <;> (first | with_reducible assumption | (unfold y_Tr; omega))) | ((with_reducible refine y_Tr4 ?_ ?_) <;> (first | with_reducible assumption | omega)) | ((with_reducible refine (y_Tr4 ?_ ?_).ty) <;> (first | with_reducible assumption | omega)) | (unfold y_Ty; omega) | (unfold y_Tr; omega)) | (unfold y_rk; (repeat' split) <;> omega)) (by first | with_reducible assumption | omega | ((with_reducible refine y_Vl ?_ ?_) <;> omega) | ((with_reducible refine y_V8 ?_) <;> (first | with_reducible assumption | (unfold y_Tr; omega))) | ((with_reducible refine y_Tr4 ?_ ?_) <;> (first | with_reducible assumption | omega)) | ((with_reducible refine (y_Tr4 ?_ ?_).ty) <;> (first | with_reducible assumption | omega)) | (unfold y_Ty; omega) | (unfold y_Tr; omega) | exact Or.inl (by omega) | exact Or.inr (by first | with_reducible assumption | omega | ((with_reducible refine y_Vl ?_ ?_) <;> omega) | ((with_reducible refine y_V8 ?_) <;> (first | with_reducible assumption | (unfold y_Tr; omega))) | ((with_reducible refine y_Tr4 ?_ ?_) <;> (first | with_reducible assumption | omega)) | ((with_reducible refine (y_Tr4 ?_ ?_).ty) <;> (first | with_reducible assumption | omega)) | (unfold y_Ty; omega) | (unfold y_Tr; omega)) | (unfold y_rk; (repeat' split) <;> omega)) (by first | with_reducible assumption | omega | ((with_reducible refine y_Vl ?_ ?_) <;> omega) | ((with_reducible refine y_V8 ?_) <;> (first | with_reducible assumption | (unfold y_Tr; omega))) | ((with_reducible refine y_Tr4 ?_ ?_) <;> (first | with_reducible assumption | omega)) | ((with_reducible refine (y_Tr4 ?_ ?_).ty) <;> (first | with_reducible assumption | omega)) | (unfold y_Ty; omega) | (unfold y_Tr; omega) | exact Or.inl (by omega) | exact Or.inr (by first | with_reducible assumption | omega | ((with_reducible refine y_Vl ?_ ?_) <;> omega) | ((with_reducible refine y_V8 ?_) <;> (first | with_reducible assumption | (unfold y_Tr; omega))) | ((with_reducible refine y_Tr4 ?_ ?_) <;> (first | with_reducible assumption | omega)) | ((with_reducible refine (y_Tr4 ?_ ?_).ty) <;> (first | with_reducible assumption | omega)) | (unfold y_Ty; omega) | (unfold y_Tr; omega)) | (unfold y_rk; (repeat' split) <;> omega))) (fun r_15 h_r_15 => ?_)
              obtain ⟨h0_r_15, h1_r_15, h2_r_15, h3_r_15⟩ := h_r_15
              have e26 : (16 : Int32).toInt = 16 := rfl
              try have e27 := @y_mulL (16 : Int32) r_15 16 rfl (by omega) (by omega)
              try have e28 := @y_addL ((16 : Int32) * r_15) (8 : Int32) (8) rfl (by omega) (by omega)
              refine y_some ?_
              try dsimp only
              refine ⟨?_, ?_, ?_⟩ <;> (first | with_reducible assumption | omega | ((with_reducible refine y_Vl ?_ ?_) <;> omega) | ((with_reducible refine y_V8 ?_) <;> (first | with_reducible assumption | (unfold y_Tr; omega))) | ((with_reducible refine y_Tr4 ?_ ?_) <;> (first | with_reducible assumption | omega)) | ((with_reducible refine (y_Tr4 ?_ ?_).ty) <;> (first | with_reducible assumption | omega)) | (unfold y_Ty; omega) | (unfold y_Tr; omega) | exact Or.inl (by omega) | exact Or.inr (by first | with_reducible assumption | omega | ((with_reducible refine y_Vl ?_ ?_) <;> omega) | ((with_reducible refine y_V8 ?_) <;> (first | with_reducible assumption | (unfold y_Tr; omega))) | ((with_reducible refine y_Tr4 ?_ ?_) <;> (first | with_reducible assumption | omega)) | ((with_reducible refine (y_Tr4 ?_ ?_).ty) <;> (first | with_reducible assumption | omega)) | (unfold y_Ty; omega) | (unfold y_Tr; omega)) | (unfold y_rk; (repeat' split) <;> omega))
            · skip
              have e29 := y_and4 p2
              have c22' := c22
              rw [← Int32.toInt_inj] at c22'
              have e30 : (-1 : Int32).toInt = -1 := rfl
              refine y_some ?_
              try dsimp only
              refine ⟨?_, ?_, ?_⟩ <;> (first | with_reducible assumption | omega | ((with_reducible refine y_Vl ?_ ?_) <;> omega) | ((with_reducible refine y_V8 ?_) <;> (first | with_reducible assumption | (unfold y_Tr; omega))) | ((with_reducible refine y_Tr4 ?_ ?_) <;> (first | with_reducible assumption | omega)) | ((with_reducible refine (y_Tr4 ?_ ?_).ty) <;> (first | with_reducible assumption | omega)) | (unfold y_Ty; omega) | (unfold y_Tr; omega) | exact Or.inl (by omega) | exact Or.inr (by first | with_reducible assumption | omega | ((with_reducible refine y_Vl ?_ ?_) <;> omega) | ((with_reducible refine y_V8 ?_) <;> (first | with_reducible assumption | (unfold y_Tr; omega))) | ((with_reducible refine y_Tr4 ?_ ?_) <;> (first | with_reducible assumption | omega)) | ((with_reducible refine (y_Tr4 ?_ ?_).ty) <;> (first | with_reducible assumption | omega)) | (unfold y_Ty; omega) | (unfold y_Tr; omega)) | (unfold y_rk; (repeat' split) <;> omega))
          · skip
            have c21' := c21
            rw [← Int32.toInt_inj] at c21'
            have e31 : (-1 : Int32).toInt = -1 := rfl
            refine y_some ?_
            try dsimp only
            refine ⟨?_, ?_, ?_⟩ <;> (first | with_reducible assumption | omega | ((with_reducible refine y_Vl ?_ ?_) <;> omega) | ((with_reducible refine y_V8 ?_) <;> (first | with_reducible assumption | (unfold y_Tr; omega))) | ((with_reducible refine y_Tr4 ?_ ?_) <;> (first | with_reducible assumption | omega)) | ((with_reducible refine (y_Tr4 ?_ ?_).ty) <;> (first | with_reducible assumption | omega)) | (unfold y_Ty; omega) | (unfold y_Tr; omega) | exact Or.inl (by omega) | exact Or.inr (by first | with_reducible assumption | omega | ((with_reducible refine y_Vl ?_ ?_) <;> omega) | ((with_reducible refine y_V8 ?_) <;> (first | with_reducible assumption | (unfold y_Tr; omega))) | ((with_reducible refine y_Tr4 ?_ ?_) <;> (first | with_reducible assumption | omega)) | ((with_reducible refine (y_Tr4 ?_ ?_).ty) <;> (first | with_reducible assumption | omega)) | (unfold y_Ty; omega) | (unfold y_Tr; omega)) | (unfold y_rk; (repeat' split) <;> omega))
    · skip
      have e32 := y_and4 p1
      have e33 : (8 : Int32).toInt = 8 := rfl
      have c2' := c2
      rw [← Int32.toInt_inj] at c2'
      refine y_if (fun c34 => ?_) (fun c34 => ?_)
      · skip
        have e35 : (5 : Int32).toInt = 5 := rfl
        have c34' := c34
        rw [← Int32.toInt_inj] at c34'
        refine y_if (fun c36 => ?_) (fun c36 => ?_)
        · skip
          have e37 := y_and4 p2
          have c36' := c36
          rw [← Int32.toInt_inj] at c36'
          refine y_some ?_
          try dsimp only
          refine ⟨?_, ?_, ?_⟩ <;> (first | with_reducible assumption | omega | ((with_reducible refine y_Vl ?_ ?_) <;> omega) | ((with_reducible refine y_V8 ?_) <;> (first | with_reducible assumption | (unfold y_Tr; omega))) | ((with_reducible refine y_Tr4 ?_ ?_) <;> (first | with_reducible assumption | omega)) | ((with_reducible refine (y_Tr4 ?_ ?_).ty) <;> (first | with_reducible assumption | omega)) | (unfold y_Ty; omega) | (unfold y_Tr; omega) | exact Or.inl (by omega) | exact Or.inr (by first | with_reducible assumption | omega | ((with_reducible refine y_Vl ?_ ?_) <;> omega) | ((with_reducible refine y_V8 ?_) <;> (first | with_reducible assumption | (unfold y_Tr; omega))) | ((with_reducible refine y_Tr4 ?_ ?_) <;> (first | with_reducible assumption | omega)) | ((with_reducible refine (y_Tr4 ?_ ?_).ty) <;> (first | with_reducible assumption | omega)) | (unfold y_Ty; omega) | (unfold y_Tr; omega)) | (unfold y_rk; (repeat' split) <;> omega))
        · skip
          have e38 := y_and4 p2
          have c36' := c36
          rw [← Int32.toInt_inj] at c36'
          refine y_if (fun c39 => ?_) (fun c39 => ?_)
          · skip
            have c39' := c39
            rw [← Int32.toInt_inj] at c39'
            refine y_if (fun c40 => ?_) (fun c40 => ?_)
            · skip
              have c40' := c40
              rw [← Int32.toInt_inj] at c40'
              have e41 := y_sar4 p1
              have e42 := y_sar4 p2
              refine y_bi (y_X9_shared (by first | with_reducible assumption | omega | ((with_reducible refine y_Vl ?_ ?_) <;> omega) | ((with_reducible refine y_V8 ?_) <;> (first | with_reducible assumption | (unfold y_Tr; omega))) | ((with_reducible refine y_Tr4 ?_ ?_) <;> (first | with_reducible assumption | omega)) | ((with_reducible refine (y_Tr4 ?_ ?_).ty) <;> (first | with_reducible assumption | omega)) | (unfold y_Ty; omega) | (unfold y_Tr; omega) | exact Or.inl (by omega) | exact Or.inr (by first | with_reducible assumption | omega | ((with_reducible refine y_Vl ?_ ?_) <;> omega) | ((with_reducible refine y_V8 ?_) <;> (first | with_reducible assumption | (unfold y_Tr; omega))) | ((with_reducible refine y_Tr4 ?_ ?_) <;> (first | with_reducible assumption | omega)) | ((with_reducible refine (y_Tr4 ?_ ?_).ty) <;> (first | with_reducible assumption | omega)) | (unfold y_Ty; omega) | (unfold y_Tr; omega)) | (unfold y_rk; (repeat' split) <;> omega)) (by first | with_reducible assumption | omega | ((with_reducible refine y_Vl ?_ ?_) <;> omega) | ((with_reducible refine y_V8 ?_) <;> (first | with_reducible assumption | (unfold y_Tr; omega))) | ((with_reducible refine y_Tr4 ?_ ?_) <;> (first | with_reducible assumption | omega)) | ((with_reducible refine (y_Tr4 ?_ ?_).ty) <;> (first | with_reducible assumption | omega)) | (unfold y_Ty; omega) | (unfold y_Tr; omega) | exact Or.inl (by omega) | exact Or.inr (by first | with_reducible assumption | omega | ((with_reducible refine y_Vl ?_ ?_) <;> omega) | ((with_reducible refine y_V8 ?_) <;> (first | with_reducible assumption | (unfold y_Tr; omega))) | ((with_reducible refine y_Tr4 ?_ ?_) <;> (first | with_reducible assumption | omega)) | ((with_reducible refine (y_Tr4 ?_ ?_).ty) <;> (first | with_reducible assumption | omega)) | (unfold y_Ty; omega) | (unfold y_Tr; omega)) | (unfold y_rk; (repeat' split) <;> omega)) (by first | with_reducible assumption | omega | ((with_reducible refine y_Vl ?_ ?_) <;> omega) | ((with_reducible refine y_V8 ?_) <;> (first | with_reducible assumption | (unfold y_Tr; omega))) | ((with_reducible refine y_Tr4 ?_ ?_) <;> (first | with_reducible assumption | omega)) | ((with_reducible refine (y_Tr4 ?_ ?_).ty) <;> (first | with_reducible assumption | omega)) | (unfold y_Ty; omega) | (unfold y_Tr; omega) | exact Or.inl (by omega) | exact Or.inr (by first | with_reducible assumption | omega | ((with_reducible refine y_Vl ?_ ?_) <;> omega) | ((with_reducible refine y_V8 ?_) <;> (first | with_reducible assumption | (unfold y_Tr; omega))) | ((with_reducible refine y_Tr4 ?_ ?_) <;> (first | with_reducible assumption | omega)) | ((with_reducible refine (y_Tr4 ?_ ?_).ty) <;> (first | with_reducible assumption | omega)) | (unfold y_Ty; omega) | (unfold y_Tr; omega)) | (unfold y_rk; (repeat' split) <;> omega))) (fun r_10 h_r_10 => ?_)
              obtain ⟨h0_r_10, h1_r_10, h2_r_10, h3_r_10⟩ := h_r_10
              have e43 : (16 : Int32).toInt = 16 := rfl
              try have e44 := @y_mulL (16 : Int32) r_10 16 rfl (by omega) (by omega)
              try have e45 := @y_addL ((16 : Int32) * r_10) (8 : Int32) (8) rfl (by omega) (by omega)
              refine y_some ?_
              try dsimp only
              refine ⟨?_, ?_, ?_⟩ <;> (first | with_reducible assumption | omega | ((with_reducible refine y_Vl ?_ ?_) <;> omega) | ((with_reducible refine y_V8 ?_) <;> (first | with_reducible assumption | (unfold y_Tr; omega))) | ((with_reducible refine y_Tr4 ?_ ?_) <;> (first | with_reducible assumption | omega)) | ((with_reducible refine (y_Tr4 ?_ ?_).ty) <;> (first | with_reducible assumption | omega)) | (unfold y_Ty; omega) | (unfold y_Tr; omega) | exact Or.inl (by omega) | exact Or.inr (by first | with_reducible assumption | omega | ((with_reducible refine y_Vl ?_ ?_) <;> omega) | ((with_reducible refine y_V8 ?_) <;> (first | with_reducible assumption | (unfold y_Tr; omega))) | ((with_reducible refine y_Tr4 ?_ ?_) <;> (first | with_reducible assumption | omega)) | ((with_reducible refine (y_Tr4 ?_ ?_).ty) <;> (first | with_reducible assumption | omega)) | (unfold y_Ty; omega) | (unfold y_Tr; omega)) | (unfold y_rk; (repeat' split) <;> omega))
            · skip
              have c40' := c40
              rw [← Int32.toInt_inj] at c40'
              have e46 : (-1 : Int32).toInt = -1 := rfl
              refine y_some ?_
              try dsimp only
              refine ⟨?_, ?_, ?_⟩ <;> (first | with_reducible assumption | omega | ((with_reducible refine y_Vl ?_ ?_) <;> omega) | ((with_reducible refine y_V8 ?_) <;> (first | with_reducible assumption | (unfold y_Tr; omega))) | ((with_reducible refine y_Tr4 ?_ ?_) <;> (first | with_reducible assumption | omega)) | ((with_reducible refine (y_Tr4 ?_ ?_).ty) <;> (first | with_reducible assumption | omega)) | (unfold y_Ty; omega) | (unfold y_Tr; omega) | exact Or.inl (by omega) | exact Or.inr (by first | with_reducible assumption | omega | ((with_reducible refine y_Vl ?_ ?_) <;> omega) | ((with_reducible refine y_V8 ?_) <;> (first | with_reducible assumption | (unfold y_Tr; omega))) | ((with_reducible refine y_Tr4 ?_ ?_) <;> (first | with_reducible assumption | omega)) | ((with_reducible refine (y_Tr4 ?_ ?_).ty) <;> (first | with_reducible assumption | omega)) | (unfold y_Ty; omega) | (unfold y_Tr; omega)) | (unfold y_rk; (repeat' split) <;> omega))
          · skip
            have c39' := c39
            rw [← Int32.toInt_inj] at c39'
            have e47 : (-1 : Int32).toInt = -1 := rfl
            refine y_some ?_
            try dsimp only
            refine ⟨?_, ?_, ?_⟩ <;> (first | with_reducible assumption | omega | ((with_reducible refine y_Vl ?_ ?_) <;> omega) | ((with_reducible refine y_V8 ?_) <;> (first | with_reducible assumption | (unfold y_Tr; omega))) | ((with_reducible refine y_Tr4 ?_ ?_) <;> (first | with_reducible assumption | omega)) | ((with_reducible refine (y_Tr4 ?_ ?_).ty) <;> (first | with_reducible assumption | omega)) | (unfold y_Ty; omega) | (unfold y_Tr; omega) | exact Or.inl (by omega) | exact Or.inr (by first | with_reducible assumption | omega | ((with_reducible refine y_Vl ?_ ?_) <;> omega) | ((with_reducible refine y_V8 ?_) <;> (first | with_reducible assumption | (unfold y_Tr; omega))) | ((with_reducible refine y_Tr4 ?_ ?_) <;> (first | with_reducible assumption | omega)) | ((with_reducible refine (y_Tr4 ?_ ?_).ty) <;> (first | with_reducible assumption | omega)) | (unfold y_Ty; omega) | (unfold y_Tr; omega)) | (unfold y_rk; (repeat' split) <;> omega))
      · skip
        have e48 : (5 : Int32).toInt = 5 := rfl
        have c34' := c34
        rw [← Int32.toInt_inj] at c34'
        refine y_if (fun c49 => ?_) (fun c49 => ?_)
        · skip
          have c49' := c49
          rw [← Int32.toInt_inj] at c49'
          refine y_if (fun c50 => ?_) (fun c50 => ?_)
          · skip
            have e51 := y_and4 p2
            have c50' := c50
            rw [← Int32.toInt_inj] at c50'
            have e52 := y_sar4 p1
            have e53 := y_sar4 p2
            refine y_bi (y_X9_shared (by first | with_reducible assumption | omega | ((with_reducible refine y_Vl ?_ ?_) <;> omega) | ((with_reducible refine y_V8 ?_) <;> (first | with_reducible assumption | (unfold y_Tr; omega))) | ((with_reducible refine y_Tr4 ?_ ?_) <;> (first | with_reducible assumption | omega)) | ((with_reducible refine (y_Tr4 ?_ ?_).ty) <;> (first | with_reducible assumption | omega)) | (unfold y_Ty; omega) | (unfold y_Tr; omega) | exact Or.inl (by omega) | exact Or.inr (by first | with_reducible assumption | omega | ((with_reducible refine y_Vl ?_ ?_) <;> omega) | ((with_reducible refine y_V8 ?_) <;> (first | with_reducible assumption | (unfold y_Tr; omega))) | ((with_reducible refine y_Tr4 ?_ ?_) <;> (first | with_reducible assumption | omega)) | ((with_reducible refine (y_Tr4 ?_ ?_).ty) <;> (first | with_reducible assumption | omega)) | (unfold y_Ty; omega) | (unfold y_Tr; omega)) | (unfold y_rk; (repeat' split) <;> omega)) (by first | with_reducible assumption | omega | ((with_reducible refine y_Vl ?_ ?_) <;> omega) | ((with_reducible refine y_V8 ?_) <;> (first | with_reducible assumption | (unfold y_Tr; omega))) | ((with_reducible refine y_Tr4 ?_ ?_) <;> (first | with_reducible assumption | omega)) | ((with_reducible refine (y_Tr4 ?_ ?_).ty) <;> (first | with_reducible assumption | omega)) | (unfold y_Ty; omega) | (unfold y_Tr; omega) | exact Or.inl (by omega) | exact Or.inr (by first | with_reducible assumption | omega | ((with_reducible refine y_Vl ?_ ?_) <;> omega) | ((with_reducible refine y_V8 ?_) <;> (first | with_reducible assumption | (unfold y_Tr; omega))) | ((with_reducible refine y_Tr4 ?_ ?_) <;> (first | with_reducible assumption | omega)) | ((with_reducible refine (y_Tr4 ?_ ?_).ty) <;> (first | with_reducible assumption | omega)) | (unfold y_Ty; omega) | (unfold y_Tr; omega)) | (unfold y_rk; (repeat' split) <;> omega)) (by first | with_reducible assumption | omega | ((with_reducible refine y_Vl ?_ ?_) <;> omega) | ((with_reducible refine y_V8 ?_) <;> (first | with_reducible assumption | (unfold y_Tr; omega))) | ((with_reducible refine y_Tr4 ?_ ?_) <;> (first | with_reducible assumption | omega)) | ((with_reducible refine (y_Tr4 ?_ ?_).ty) <;> (first | with_reducible assumption | omega)) | (unfold y_Ty; omega) | (unfold y_Tr; omega) | exact Or.inl (by omega) | exact Or.inr (by first | with_reducible assumption | omega | ((with_reducible refine y_Vl ?_ ?_) <;> omega) | ((with_reducible refine y_V8 ?_) <;> (first | with_reducible assumption | (unfold y_Tr; omega))) | ((with_reducible refine y_Tr4 ?_ ?_) <;> (first | with_reducible assumption | omega)) | ((with_reducible refine (y_Tr4 ?_ ?_).ty) <;> (first | with_reducible assumption | omega)) | (unfold y_Ty; omega) | (unfold y_Tr; omega)) | (unfold y_rk; (repeat' split) <;> omega))) (fun r_6 h_r_6 => ?_)
            obtain ⟨h0_r_6, h1_r_6, h2_r_6, h3_r_6⟩ := h_r_6
            have e54 : (16 : Int32).toInt = 16 := rfl
            try have e55 := @y_mulL (16 : Int32) r_6 16 rfl (by omega) (by omega)
            try have e56 := @y_addL ((16 : Int32) * r_6) (8 : Int32) (8) rfl (by omega) (by omega)
            refine y_some ?_
            try dsimp only
            refine ⟨?_, ?_, ?_⟩ <;> (first | with_reducible assumption | omega | ((with_reducible refine y_Vl ?_ ?_) <;> omega) | ((with_reducible refine y_V8 ?_) <;> (first | with_reducible assumption | (unfold y_Tr; omega))) | ((with_reducible refine y_Tr4 ?_ ?_) <;> (first | with_reducible assumption | omega)) | ((with_reducible refine (y_Tr4 ?_ ?_).ty) <;> (first | with_reducible assumption | omega)) | (unfold y_Ty; omega) | (unfold y_Tr; omega) | exact Or.inl (by omega) | exact Or.inr (by first | with_reducible assumption | omega | ((with_reducible refine y_Vl ?_ ?_) <;> omega) | ((with_reducible refine y_V8 ?_) <;> (first | with_reducible assumption | (unfold y_Tr; omega))) | ((with_reducible refine y_Tr4 ?_ ?_) <;> (first | with_reducible assumption | omega)) | ((with_reducible refine (y_Tr4 ?_ ?_).ty) <;> (first | with_reducible assumption | omega)) | (unfold y_Ty; omega) | (unfold y_Tr; omega)) | (unfold y_rk; (repeat' split) <;> omega))
          · skip
            have e57 := y_and4 p2
            have c50' := c50
            rw [← Int32.toInt_inj] at c50'
            have e58 : (-1 : Int32).toInt = -1 := rfl
            refine y_some ?_
            try dsimp only
            refine ⟨?_, ?_, ?_⟩ <;> (first | with_reducible assumption | omega | ((with_reducible refine y_Vl ?_ ?_) <;> omega) | ((with_reducible refine y_V8 ?_) <;> (first | with_reducible assumption | (unfold y_Tr; omega))) | ((with_reducible refine y_Tr4 ?_ ?_) <;> (first | with_reducible assumption | omega)) | ((with_reducible refine (y_Tr4 ?_ ?_).ty) <;> (first | with_reducible assumption | omega)) | (unfold y_Ty; omega) | (unfold y_Tr; omega) | exact Or.inl (by omega) | exact Or.inr (by first | with_reducible assumption | omega | ((with_reducible refine y_Vl ?_ ?_) <;> omega) | ((with_reducible refine y_V8 ?_) <;> (first | with_reducible assumption | (unfold y_Tr; omega))) | ((with_reducible refine y_Tr4 ?_ ?_) <;> (first | with_reducible assumption | omega)) | ((with_reducible refine (y_Tr4 ?_ ?_).ty) <;> (first | with_reducible assumption | omega)) | (unfold y_Ty; omega) | (unfold y_Tr; omega)) | (unfold y_rk; (repeat' split) <;> omega))
        · skip
          have c49' := c49
          rw [← Int32.toInt_inj] at c49'
          have e59 : (-1 : Int32).toInt = -1 := rfl
          refine y_some ?_
          try dsimp only
          refine ⟨?_, ?_, ?_⟩ <;> (first | with_reducible assumption | omega | ((with_reducible refine y_Vl ?_ ?_) <;> omega) | ((with_reducible refine y_V8 ?_) <;> (first | with_reducible assumption | (unfold y_Tr; omega))) | ((with_reducible refine y_Tr4 ?_ ?_) <;> (first | with_reducible assumption | omega)) | ((with_reducible refine (y_Tr4 ?_ ?_).ty) <;> (first | with_reducible assumption | omega)) | (unfold y_Ty; omega) | (unfold y_Tr; omega) | exact Or.inl (by omega) | exact Or.inr (by first | with_reducible assumption | omega | ((with_reducible refine y_Vl ?_ ?_) <;> omega) | ((with_reducible refine y_V8 ?_) <;> (first | with_reducible assumption | (unfold y_Tr; omega))) | ((with_reducible refine y_Tr4 ?_ ?_) <;> (first | with_reducible assumption | omega)) | ((with_reducible refine (y_Tr4 ?_ ?_).ty) <;> (first | with_reducible assumption | omega)) | (unfold y_Ty; omega) | (unfold y_Tr; omega)) | (unfold y_rk; (repeat' split) <;> omega))
set_option maxHeartbeats 4000000 in
theorem y_X9_push {v9_17 : Int32} {v9_35 : Int32} {g9_34 : Nat → Int32} {p1 : Int32} (k0 : 0 ≤ v9_35.toInt) (k1 : v9_35.toInt ≤ v9_17.toInt) (k2 : v9_17.toInt ≤ 200) (k3 : y_AV 202 g9_34) (k4 : y_V p1) : y_Ok (f_X9_push v9_17 v9_35 g9_34 p1) (fun r => (0 ≤ r.2.1.toInt) ∧ (r.2.1.toInt ≤ v9_17.toInt) ∧ (y_AV 202 r.2.2)) := by
  unfold f_X9_push
  refine y_if (fun c1 => ?_) (fun c1 => ?_)
  · skip
    have e2 : (3 : Int32).toInt = 3 := rfl
    have c1' := c1
    rw [← Int32.toInt_inj] at c1'
    refine y_if (fun c3 => ?_) (fun c3 => ?_)
    · skip
      try have e4 := @y_addL v9_35 (2 : Int32) (2) rfl (by omega) (by omega)
      have c3' := c3
      rw [Int32.le_iff_toInt_le] at c3'
      refine y_gd (y_gdI (by omega) (by omega)) ?_
      try have e5 := @y_addL v9_35 (1 : Int32) (1) rfl (by omega) (by omega)
      refine y_gd (y_gdI (by omega) (by omega)) ?_
      have e6 : (1 : Int32).toInt = 1 := rfl
      try have e7 := @y_addL (v9_35 + (1 : Int32)) (1 : Int32) (1) rfl (by omega) (by omega)
      try have e8 := @y_cl v9_35 (by omega)
      try have e9 : y_AV 202 (upd g9_34 (Int32.toNatClampNeg v9_35) p1) := y_AV_upd k3 (by first | with_reducible assumption | omega | ((with_reducible refine y_Vl ?_ ?_) <;> omega))
      try have e10 := @y_cl (v9_35 + (1 : Int32)) (by omega)
      have e11 : (7 : Int32).toInt = 7 := rfl
      try have e12 : y_AV 202 (upd (upd g9_34 (Int32.toNatClampNeg v9_35) p1) (Int32.toNatClampNeg (v9_35 + (1 : Int32))) (7 : Int32)) := y_AV_upd e9 (by first | with_reducible assumption | omega | ((with_reducible refine y_Vl ?_ ?_) <;> omega))
      refine y_some ?_
      try dsimp only
      refine ⟨?_, ?_, ?_⟩ <;> (first | with_reducible assumption | omega | ((with_reducible refine y_Vl ?_ ?_) <;> omega))
    · skip
      try have e13 := @y_addL v9_35 (2 : Int32) (2) rfl (by omega) (by omega)
      have c3' := c3
      rw [Int32.le_iff_toInt_le] at c3'
      have e14 : (0 : Int32).toInt = 0 := rfl
      refine y_some ?_
      try dsimp only
      refine ⟨?_, ?_, ?_⟩ <;> (first | with_reducible assumption | omega | ((with_reducible refine y_Vl ?_ ?_) <;> omega))
  · skip
    have e15 : (3 : Int32).toInt = 3 := rfl
    have c1' := c1
    rw [← Int32.toInt_inj] at c1'
    refine y_if (fun c16 => ?_) (fun c16 => ?_)
    · skip
      have e17 : (4 : Int32).toInt = 4 := rfl
      have c16' := c16
      rw [← Int32.toInt_inj] at c16'
      refine y_if (fun c18 => ?_) (fun c18 => ?_)
      · skip
        try have e19 := @y_addL v9_35 (2 : Int32) (2) rfl (by omega) (by omega)
        have c18' := c18
        rw [Int32.le_iff_toInt_le] at c18'
        refine y_gd (y_gdI (by omega) (by omega)) ?_
        try have e20 := @y_addL v9_35 (1 : Int32) (1) rfl (by omega) (by omega)
        refine y_gd (y_gdI (by omega) (by omega)) ?_
        have e21 : (1 : Int32).toInt = 1 := rfl
        try have e22 := @y_addL (v9_35 + (1 : Int32)) (1 : Int32) (1) rfl (by omega) (by omega)
        try have e23 := @y_cl v9_35 (by omega)
        try have e24 : y_AV 202 (upd g9_34 (Int32.toNatClampNeg v9_35) p1) := y_AV_upd k3 (by first | with_reducible assumption | omega | ((with_reducible refine y_Vl ?_ ?_) <;> omega))
        try have e25 := @y_cl (v9_35 + (1 : Int32)) (by omega)
        have e26 : (7 : Int32).toInt = 7 := rfl
        try have e27 : y_AV 202 (upd (upd g9_34 (Int32.toNatClampNeg v9_35) p1) (Int32.toNatClampNeg (v9_35 + (1 : Int32))) (7 : Int32)) := y_AV_upd e24 (by first | with_reducible assumption | omega | ((with_reducible refine y_Vl ?_ ?_) <;> omega))
        refine y_some ?_
        try dsimp only
        refine ⟨?_, ?_, ?_⟩ <;> (first | with_reducible assumption | omega | ((with_reducible refine y_Vl ?_ ?_) <;> omega))
      · skip
        try have e28 := @y_addL v9_35 (2 : Int32) (2) rfl (by omega) (by omega)
        have c18' := c18
        rw [Int32.le_iff_toInt_le] at c18'
        have e29 : (0 : Int32).toInt = 0 := rfl
        refine y_some ?_
        try dsimp only
        refine ⟨?_, ?_, ?_⟩ <;> (first | with_reducible assumption | omega | ((with_reducible refine y_Vl ?_ ?_) <;> omega))
    · skip
      have e30 : (4 : Int32).toInt = 4 := rfl
      have c16' := c16
      rw [← Int32.toInt_inj] at c16'
      refine y_if (fun c31 => ?_) (fun c31 => ?_)
      · skip
        try have e32 := @y_addL v9_35 (1 : Int32) (1) rfl (by omega) (by omega)
        have c31' := c31
        rw [Int32.le_iff_toInt_le] at c31'
        refine y_gd (y_gdI (by omega) (by omega)) ?_
        have e33 : (1 : Int32).toInt = 1 := rfl
        try have e34 := @y_cl v9_35 (by omega)
        try have e35 : y_AV 202 (upd g9_34 (Int32.toNatClampNeg v9_35) p1) := y_AV_upd k3 (by first | with_reducible assumption | omega | ((with_reducible refine y_Vl ?_ ?_) <;> omega))
        refine y_some ?_
        try dsimp only
        refine ⟨?_, ?_, ?_⟩ <;> (first | with_reducible assumption | omega | ((with_reducible refine y_Vl ?_ ?_) <;> omega))
      · skip
        try have e36 := @y_addL v9_35 (1 : Int32) (1) rfl (by omega) (by omega)
        have c31' := c31
        rw [Int32.le_iff_toInt_le] at c31'
        have e37 : (0 : Int32).toInt = 0 := rfl
        refine y_some ?_
        try dsimp only
        refine ⟨?_, ?_, ?_⟩ <;> (first | with_reducible assumption | omega | ((with_reducible refine y_Vl ?_ ?_) <;> omega))
set_option maxHeartbeats 4000000 in
theorem y_X9_pop {v9_35 : Int32} {g9_34 : Nat → Int32} {p1 : Int32} (k0 : 0 ≤ v9_35.toInt) (k1 : v9_35.toInt ≤ 200) : y_Ok (f_X9_pop v9_35 g9_34 p1) (fun r => (0 ≤ r.2.toInt) ∧ (r.2.toInt ≤ v9_35.toInt)) := by
  unfold f_X9_pop
  refine y_if (fun c1 => ?_) (fun c1 => ?_)
  · skip
    have e2 : (3 : Int32).toInt = 3 := rfl
    have c1' := c1
    rw [← Int32.toInt_inj] at c1'
    refine y_if (fun c3 => ?_) (fun c3 => ?_)
    · skip
      have e4 : (2 : Int32).toInt = 2 := rfl
      have c3' := c3
      rw [Int32.lt_iff_toInt_lt] at c3'
      have e5 : (0 : Int32).toInt = 0 := rfl
      refine y_some ?_
      try dsimp only
      refine ⟨?_, ?_⟩ <;> (first | with_reducible assumption | omega | ((with_reducible refine y_Vl ?_ ?_) <;> omega))
    · skip
      have e6 : (2 : Int32).toInt = 2 := rfl
      have c3' := c3
      rw [Int32.lt_iff_toInt_lt] at c3'
      try have e7 := @y_subL v9_35 (2 : Int32) (2) rfl (by omega) (by omega)
      refine y_gd (y_gdI (by omega) (by omega)) ?_
      refine y_if (fun c8 => ?_) (fun c8 => ?_)
      · skip
        try have e9 := @y_cl (v9_35 - (2 : Int32)) (by omega)
        have c8' := c8
        rw [← Int32.toInt_inj] at c8'
        try have e10 := @y_subL v9_35 (1 : Int32) (1) rfl (by omega) (by omega)
        refine y_gd (y_gdI (by omega) (by omega)) ?_
        refine y_if (fun c11 => ?_) (fun c11 => ?_)
        · skip
          try have e12 := @y_cl (v9_35 - (1 : Int32)) (by omega)
          have e13 : (7 : Int32).toInt = 7 := rfl
          have c11' := c11
          rw [← Int32.toInt_inj] at c11'
          have e14 : (1 : Int32).toInt = 1 := rfl
          refine y_some ?_
          try dsimp only
          refine ⟨?_, ?_⟩ <;> (first | with_reducible assumption | omega | ((with_reducible refine y_Vl ?_ ?_) <;> omega))
        · skip
          try have e15 := @y_cl (v9_35 - (1 : Int32)) (by omega)
          have e16 : (7 : Int32).toInt = 7 := rfl
          have c11' := c11
          rw [← Int32.toInt_inj] at c11'
          have e17 : (0 : Int32).toInt = 0 := rfl
          refine y_some ?_
          try dsimp only
          refine ⟨?_, ?_⟩ <;> (first | with_reducible assumption | omega | ((with_reducible refine y_Vl ?_ ?_) <;> omega))
      · skip
        try have e18 := @y_cl (v9_35 - (2 : Int32)) (by omega)
        have c8' := c8
        rw [← Int32.toInt_inj] at c8'
        have e19 : (0 : Int32).toInt = 0 := rfl
        refine y_some ?_
        try dsimp only
        refine ⟨?_, ?_⟩ <;> (first | with_reducible assumption | omega | ((with_reducible refine y_Vl ?_ ?_) <;> omega))
  · skip
    have e20 : (3 : Int32).toInt = 3 := rfl
    have c1' := c1
    rw [← Int32.toInt_inj] at c1'
    refine y_if (fun c21 => ?_) (fun c21 => ?_)
    · skip
      have e22 : (4 : Int32).toInt = 4 := rfl
      have c21' := c21
      rw [← Int32.toInt_inj] at c21'
      refine y_if (fun c23 => ?_) (fun c23 => ?_)
      · skip
        have e24 : (2 : Int32).toInt = 2 := rfl
        have c23' := c23
        rw [Int32.lt_iff_toInt_lt] at c23'
        have e25 : (0 : Int32).toInt = 0 := rfl
        refine y_some ?_
        try dsimp only
        refine ⟨?_, ?_⟩ <;> (first | with_reducible assumption | omega | ((with_reducible refine y_Vl ?_ ?_) <;> omega))
      · skip
        have e26 : (2 : Int32).toInt = 2 := rfl
        have c23' := c23
        rw [Int32.lt_iff_toInt_lt] at c23'
        try have e27 := @y_subL v9_35 (2 : Int32) (2) rfl (by omega) (by omega)
        refine y_gd (y_gdI (by omega) (by omega)) ?_
        refine y_if (fun c28 => ?_) (fun c28 => ?_)
        · skip
          try have e29 := @y_cl (v9_35 - (2 : Int32)) (by omega)
          have c28' := c28
          rw [← Int32.toInt_inj] at c28'
          try have e30 := @y_subL v9_35 (1 : Int32) (1) rfl (by omega) (by omega)
          refine y_gd (y_gdI (by omega) (by omega)) ?_
          refine y_if (fun c31 => ?_) (fun c31 => ?_)
          · skip
            try have e32 := @y_cl (v9_35 - (1 : Int32)) (by omega)
            have e33 : (7 : Int32).toInt = 7 := rfl
            have c31' := c31
            rw [← Int32.toInt_inj] at c31'
            have e34 : (1 : Int32).toInt = 1 := rfl
            refine y_some ?_
            try dsimp only
            refine ⟨?_, ?_⟩ <;> (first | with_reducible assumption | omega | ((with_reducible refine y_Vl ?_ ?_) <;> omega))
          · skip
            try have e35 := @y_cl (v9_35 - (1 : Int32)) (by omega)
            have e36 : (7 : Int32).toInt = 7 := rfl
            have c31' := c31
            rw [← Int32.toInt_inj] at c31'
            have e37 : (0 : Int32).toInt = 0 := rfl
            refine y_some ?_
            try dsimp only
            refine ⟨?_, ?_⟩ <;> (first | with_reducible assumption | omega | ((with_reducible refine y_Vl ?_ ?_) <;> omega))
        · skip
          try have e38 := @y_cl (v9_35 - (2 : Int32)) (by omega)
          have c28' := c28
          rw [← Int32.toInt_inj] at c28'
          have e39 : (0 : Int32).toInt = 0 := rfl
          refine y_some ?_
          try dsimp only
          refine ⟨?_, ?_⟩ <;> (first | with_reducible assumption | omega | ((with_reducible refine y_Vl ?_ ?_) <;> omega))
    · skip
      have e40 : (4 : Int32).toInt = 4 := rfl
      have c21' := c21
      rw [← Int32.toInt_inj] at c21'
      refine y_if (fun c41 => ?_) (fun c41 => ?_)
      · skip
        have e42 : (1 : Int32).toInt = 1 := rfl
        have c41' := c41
        rw [Int32.lt_iff_toInt_lt] at c41'
        have e43 : (0 : Int32).toInt = 0 := rfl
        refine y_some ?_
        try dsimp only
        refine ⟨?_, ?_⟩ <;> (first | with_reducible assumption | omega | ((with_reducible refine y_Vl ?_ ?_) <;> omega))
      · skip
        have e44 : (1 : Int32).toInt = 1 := rfl
        have c41' := c41
        rw [Int32.lt_iff_toInt_lt] at c41'
        try have e45 := @y_subL v9_35 (1 : Int32) (1) rfl (by omega) (by omega)
        refine y_gd (y_gdI (by omega) (by omega)) ?_
        refine y_if (fun c46 => ?_) (fun c46 => ?_)
        · skip
          try have e47 := @y_cl (v9_35 - (1 : Int32)) (by omega)
          have c46' := c46
          rw [← Int32.toInt_inj] at c46'
          refine y_some ?_
          try dsimp only
          refine ⟨?_, ?_⟩ <;> (first | with_reducible assumption | omega | ((with_reducible refine y_Vl ?_ ?_) <;> omega))
        · skip
          try have e48 := @y_cl (v9_35 - (1 : Int32)) (by omega)
          have c46' := c46
          rw [← Int32.toInt_inj] at c46'
          have e49 : (0 : Int32).toInt = 0 := rfl
          refine y_some ?_
          try dsimp only
          refine ⟨?_, ?_⟩ <;> (first | with_reducible assumption | omega | ((with_reducible refine y_Vl ?_ ?_) <;> omega))
set_option maxHeartbeats 4000000 in
theorem y_X9_popRef {v9_35 : Int32} {g9_34 : Nat → Int32} (k0 : 0 ≤ v9_35.toInt) (k1 : v9_35.toInt ≤ 200) : y_Ok (f_X9_popRef v9_35 g9_34) (fun r => (0 ≤ r.2.toInt) ∧ (r.2.toInt ≤ v9_35.toInt)) := by
  unfold f_X9_popRef
  refine y_if (fun c1 => ?_) (fun c1 => ?_)
  · skip
    have e2 : (0 : Int32).toInt = 0 := rfl
    have c1' := c1
    rw [← Int32.toInt_inj] at c1'
    refine y_some ?_
    try dsimp only
    refine ⟨?_, ?_⟩ <;> (first | with_reducible assumption | omega | ((with_reducible refine y_Vl ?_ ?_) <;> omega))
  · skip
    have e3 : (0 : Int32).toInt = 0 := rfl
    have c1' := c1
    rw [← Int32.toInt_inj] at c1'
    try have e4 := @y_subL v9_35 (1 : Int32) (1) rfl (by omega) (by omega)
    refine y_gd (y_gdI (by omega) (by omega)) ?_
    try have e5 := @y_cl (v9_35 - (1 : Int32)) (by omega)
    refine y_bi (y_X9_isRef) (fun r_3 h_r_3 => ?_)
    have h0_r_3 : r_3.toInt = 0 ∨ r_3.toInt = 1 := h_r_3
    refine y_if (fun c6 => ?_) (fun c6 => ?_)
    · skip
      have c6' := c6
      rw [← Int32.toInt_inj] at c6'
      refine y_some ?_
      try dsimp only
      refine ⟨?_, ?_⟩ <;> (first | with_reducible assumption | omega | ((with_reducible refine y_Vl ?_ ?_) <;> omega))
    · skip
      have c6' := c6
      rw [← Int32.toInt_inj] at c6'
      have e7 : (1 : Int32).toInt = 1 := rfl
      refine y_some ?_
      try dsimp only
      refine ⟨?_, ?_⟩ <;> (first | with_reducible assumption | omega | ((with_reducible refine y_Vl ?_ ?_) <;> omega))
set_option maxHeartbeats 4000000 in
theorem y_X9_popType {v9_35 : Int32} {g9_4 : Nat → Int32} {g9_5 : Nat → Int32} {g9_34 : Nat → Int32} {p1 : Int32} (k0 : 0 ≤ v9_35.toInt) (k1 : v9_35.toInt ≤ 200) (k2 : y_Up g9_4) (k3 : y_AV 202 g9_34) (k4 : y_Ty p1) : y_Ok (f_X9_popType v9_35 g9_4 g9_5 g9_34 p1) (fun r => (0 ≤ r.2.toInt) ∧ (r.2.toInt ≤ v9_35.toInt)) := by
  unfold f_X9_popType
  refine y_bi (y_X9_isPrimitive) (fun r_1 h_r_1 => ?_)
  have h0_r_1 : (r_1.toInt = 0 ∧ ¬ (65528 ≤ p1.toInt ∧ p1.toInt < 65536)) ∨ (r_1.toInt = 1 ∧ (65528 ≤ p1.toInt ∧ p1.toInt < 65536)) := h_r_1
  refine y_if (fun c1 => ?_) (fun c1 => ?_)
  · skip
    have e2 : (0 : Int32).toInt = 0 := rfl
    have c1' := c1
    rw [← Int32.toInt_inj] at c1'
    have e3 := y_or0 h0_r_1 c1'
    clear h0_r_1
    refine y_if (fun c4 => ?_) (fun c4 => ?_)
    · skip
      have c4' := c4
      rw [← Int32.toInt_inj] at c4'
      refine y_some ?_
      try dsimp only
      refine ⟨?_, ?_⟩ <;> (first | with_reducible assumption | omega | ((with_reducible refine y_Vl ?_ ?_) <;> omega) | ((with_reducible refine y_V8 ?_) <;> (first | with_reducible assumption | (unfold y_Tr; omega))) | ((with_reducible refine y_Tr4 ?_ ?_) <;> (first | with_reducible assumption | omega)) | ((with_reducible refine (y_Tr4 ?_ ?_).ty) <;> (first | with_reducible assumption | omega)) | (unfold y_Ty; omega) | (unfold y_Tr; omega))
    · skip
      have c4' := c4
      rw [← Int32.toInt_inj] at c4'
      try have e5 := @y_subL v9_35 (1 : Int32) (1) rfl (by omega) (by omega)
      refine y_gd (y_gdI (by omega) (by omega)) ?_
      refine y_if (fun c6 => ?_) (fun c6 => ?_)
      · skip
        try have e7 := @y_cl (v9_35 - (1 : Int32)) (by omega)
        try have e8 := k3.at (Int32.toNatClampNeg (v9_35 - (1 : Int32))) (by omega)
        try have e9 := e8.b
        have e10 : (5 : Int32).toInt = 5 := rfl
        have c6' := c6
        rw [← Int32.toInt_inj] at c6'
        have e11 : (1 : Int32).toInt = 1 := rfl
        refine y_some ?_
        try dsimp only
        refine ⟨?_, ?_⟩ <;> (first | with_reducible assumption | omega | ((with_reducible refine y_Vl ?_ ?_) <;> omega) | ((with_reducible refine y_V8 ?_) <;> (first | with_reducible assumption | (unfold y_Tr; omega))) | ((with_reducible refine y_Tr4 ?_ ?_) <;> (first | with_reducible assumption | omega)) | ((with_reducible refine (y_Tr4 ?_ ?_).ty) <;> (first | with_reducible assumption | omega)) | (unfold y_Ty; omega) | (unfold y_Tr; omega))
      · skip
        try have e12 := @y_cl (v9_35 - (1 : Int32)) (by omega)
        try have e13 := k3.at (Int32.toNatClampNeg (v9_35 - (1 : Int32))) (by omega)
        try have e14 := e13.b
        have e15 : (5 : Int32).toInt = 5 := rfl
        have c6' := c6
        rw [← Int32.toInt_inj] at c6'
        refine y_if (fun c16 => ?_) (fun c16 => ?_)
        · skip
          have e17 := y_and4 (g9_34 (Int32.toNatClampNeg (v9_35 - (1 : Int32))))
          have e18 : (8 : Int32).toInt = 8 := rfl
          have c16' := c16
          rw [← Int32.toInt_inj] at c16'
          have e19 := y_sar4 (g9_34 (Int32.toNatClampNeg (v9_35 - (1 : Int32))))
          refine y_bi (y_X9_may (by first | with_reducible assumption | omega | ((with_reducible refine y_Vl ?_ ?_) <;> omega) | ((with_reducible refine y_V8 ?_) <;> (first | with_reducible assumption | (unfold y_Tr; omega))) | ((with_reducible refine y_Tr4 ?_ ?_) <;> (first | with_reducible assumption | omega)) | ((with_reducible refine (y_Tr4 ?_ ?_).ty) <;> (first | with_reducible assumption | omega)) | (unfold y_Ty; omega) | (unfold y_Tr; omega)) (by first | with_reducible assumption | omega | ((with_reducible refine y_Vl ?_ ?_) <;> omega) | ((with_reducible refine y_V8 ?_) <;> (first | with_reducible assumption | (unfold y_Tr; omega))) | ((with_reducible refine y_Tr4 ?_ ?_) <;> (first | with_reducible assumption | omega)) | ((with_reducible refine (y_Tr4 ?_ ?_).ty) <;> (first | with_reducible assumption | omega)) | (unfold y_Ty; omega) | (unfold y_Tr; omega)) (by first | with_reducible assumption | omega | ((with_reducible refine y_Vl ?_ ?_) <;> omega) | ((with_reducible refine y_V8 ?_) <;> (first | with_reducible assumption | (unfold y_Tr; omega))) | ((with_reducible refine y_Tr4 ?_ ?_) <;> (first | with_reducible assumption | omega)) | ((with_reducible refine (y_Tr4 ?_ ?_).ty) <;> (first | with_reducible assumption | omega)) | (unfold y_Ty; omega) | (unfold y_Tr; omega))) (fun r_9 h_r_9 => ?_)
          have h0_r_9 : r_9.toInt = 0 ∨ r_9.toInt = 1 := h_r_9
          refine y_if (fun c20 => ?_) (fun c20 => ?_)
          · skip
            have c20' := c20
            rw [← Int32.toInt_inj] at c20'
            refine y_some ?_
            try dsimp only
            refine ⟨?_, ?_⟩ <;> (first | with_reducible assumption | omega | ((with_reducible refine y_Vl ?_ ?_) <;> omega) | ((with_reducible refine y_V8 ?_) <;> (first | with_reducible assumption | (unfold y_Tr; omega))) | ((with_reducible refine y_Tr4 ?_ ?_) <;> (first | with_reducible assumption | omega)) | ((with_reducible refine (y_Tr4 ?_ ?_).ty) <;> (first | with_reducible assumption | omega)) | (unfold y_Ty; omega) | (unfold y_Tr; omega))
          · skip
            have c20' := c20
            rw [← Int32.toInt_inj] at c20'
            have e21 : (1 : Int32).toInt = 1 := rfl
            refine y_some ?_
            try dsimp only
            refine ⟨?_, ?_⟩ <;> (first | with_reducible assumption | omega | ((with_reducible refine y_Vl ?_ ?_) <;> omega) | ((with_reducible refine y_V8 ?_) <;> (first | with_reducible assumption | (unfold y_Tr; omega))) | ((with_reducible refine y_Tr4 ?_ ?_) <;> (first | with_reducible assumption | omega)) | ((with_reducible refine (y_Tr4 ?_ ?_).ty) <;> (first | with_reducible assumption | omega)) | (unfold y_Ty; omega) | (unfold y_Tr; omega))
        · skip
          have e22 := y_and4 (g9_34 (Int32.toNatClampNeg (v9_35 - (1 : Int32))))
          have e23 : (8 : Int32).toInt = 8 := rfl
          have c16' := c16
          rw [← Int32.toInt_inj] at c16'
          refine y_some ?_
          try dsimp only
          refine ⟨?_, ?_⟩ <;> (first | with_reducible assumption | omega | ((with_reducible refine y_Vl ?_ ?_) <;> omega) | ((with_reducible refine y_V8 ?_) <;> (first | with_reducible assumption | (unfold y_Tr; omega))) | ((with_reducible refine y_Tr4 ?_ ?_) <;> (first | with_reducible assumption | omega)) | ((with_reducible refine (y_Tr4 ?_ ?_).ty) <;> (first | with_reducible assumption | omega)) | (unfold y_Ty; omega) | (unfold y_Tr; omega))
  · skip
    have e24 : (0 : Int32).toInt = 0 := rfl
    have c1' := c1
    rw [← Int32.toInt_inj] at c1'
    have e25 := y_or1 h0_r_1 c1'
    clear h0_r_1
    refine y_bi (y_X9_kindOf (by first | with_reducible assumption | omega | ((with_reducible refine y_Vl ?_ ?_) <;> omega) | ((with_reducible refine y_V8 ?_) <;> (first | with_reducible assumption | (unfold y_Tr; omega))) | ((with_reducible refine y_Tr4 ?_ ?_) <;> (first | with_reducible assumption | omega)) | ((with_reducible refine (y_Tr4 ?_ ?_).ty) <;> (first | with_reducible assumption | omega)) | (unfold y_Ty; omega) | (unfold y_Tr; omega))) (fun r_13 h_r_13 => ?_)
    have h0_r_13 : y_V r_13 := h_r_13
    refine y_bi (y_X9_pop (by omega) (by omega)) (fun r_14 h_r_14 => ?_)
    obtain ⟨h0_r_14, h1_r_14⟩ := h_r_14
    refine y_some ?_
    try dsimp only
    refine ⟨?_, ?_⟩ <;> (first | with_reducible assumption | omega | ((with_reducible refine y_Vl ?_ ?_) <;> omega) | ((with_reducible refine y_V8 ?_) <;> (first | with_reducible assumption | (unfold y_Tr; omega))) | ((with_reducible refine y_Tr4 ?_ ?_) <;> (first | with_reducible assumption | omega)) | ((with_reducible refine (y_Tr4 ?_ ?_).ty) <;> (first | with_reducible assumption | omega)) | (unfold y_Ty; omega) | (unfold y_Tr; omega))
set_option maxHeartbeats 4000000 in
theorem y_X9_set_L_5 {l1 : Int32} {l2 : Int32} {g9_33 : Nat → Int32} (k0 : 0 ≤ l1.toInt) (k1 : l1.toInt < 200) (k2 : y_AV 202 g9_33) : y_Ok (f_X9_set_L l1 (5, l2, g9_33)) (fun r => (y_AV 202 r)) := by
  rw [f_X9_set_L]
  refine y_in (by decide) ?_
  refine y_in (by decide) ?_
  refine y_in (by decide) ?_
  refine y_in (by decide) ?_
  refine y_in (by decide) ?_
  refine y_ip rfl ?_
  try have e1 := @y_addL l1 (1 : Int32) (1) rfl (by omega) (by omega)
  refine y_gd (y_gdI (by omega) (by omega)) ?_
  try have e2 := @y_cl (l1 + (1 : Int32)) (by omega)
  have e3 : (7 : Int32).toInt = 7 := rfl
  try have e4 : y_AV 202 (upd g9_33 (Int32.toNatClampNeg (l1 + (1 : Int32))) (7 : Int32)) := y_AV_upd k2 (by first | with_reducible assumption | omega | ((with_reducible refine y_Vl ?_ ?_) <;> omega))
  refine y_some ?_
  try dsimp only
  (first | with_reducible assumption | omega | ((with_reducible refine y_Vl ?_ ?_) <;> omega))
set_option maxHeartbeats 4000000 in
theorem y_X9_set_L_4 {l1 : Int32} {l2 : Int32} {g9_33 : Nat → Int32} (k0 : 0 ≤ l1.toInt) (k1 : l1.toInt < 200) (k2 : y_AV 202 g9_33) : y_Ok (f_X9_set_L l1 (4, l2, g9_33)) (fun r => (y_AV 202 r)) := by
  rw [f_X9_set_L]
  refine y_in (by decide) ?_
  refine y_in (by decide) ?_
  refine y_in (by decide) ?_
  refine y_in (by decide) ?_
  refine y_ip rfl ?_
  try have e1 := @y_addL l1 (2 : Int32) (2) rfl (by omega) (by omega)
  refine y_gd (y_gdI (by omega) (by omega)) ?_
  have e2 : (0 : Int32).toInt = 0 := rfl
  try have e3 := @y_cl (l1 + (2 : Int32)) (by omega)
  try have e4 : y_AV 202 (upd g9_33 (Int32.toNatClampNeg (l1 + (2 : Int32))) (0 : Int32)) := y_AV_upd k2 (by first | with_reducible assumption | omega | ((with_reducible refine y_Vl ?_ ?_) <;> omega))
  refine y_Ok.mono (y_X9_set_L_5 (l2 := 0) (g9_33 := (upd g9_33 (Int32.toNatClampNeg (l1 + (2 : Int32))) 0)) (by omega) (by omega) (by first | with_reducible assumption | omega | ((with_reducible refine y_Vl ?_ ?_) <;> omega))) (fun r_t4 h_r_t4 => ?_)
  (first | with_reducible assumption | omega | ((with_reducible refine y_Vl ?_ ?_) <;> omega))
set_option maxHeartbeats 4000000 in
theorem y_X9_set_L_3 {l1 : Int32} {l2 : Int32} {g9_33 : Nat → Int32} (k0 : 0 ≤ l1.toInt) (k1 : l1.toInt < 200) (k2 : y_AV 202 g9_33) : y_Ok (f_X9_set_L l1 (3, l2, g9_33)) (fun r => (y_AV 202 r)) := by
  rw [f_X9_set_L]
  refine y_in (by decide) ?_
  refine y_in (by decide) ?_
  refine y_in (by decide) ?_
  refine y_ip rfl ?_
  try have e1 := @y_addL l1 (1 : Int32) (1) rfl (by omega) (by omega)
  refine y_gd (y_gdI (by omega) (by omega)) ?_
  refine y_if (fun c2 => ?_) (fun c2 => ?_)
  · skip
    try have e3 := @y_cl (l1 + (1 : Int32)) (by omega)
    try have e4 := k2.at (Int32.toNatClampNeg (l1 + (1 : Int32))) (by omega)
    try have e5 := e4.b
    have e6 : (3 : Int32).toInt = 3 := rfl
    have c2' := c2
    rw [← Int32.toInt_inj] at c2'
    have e7 : (0 : Int32).toInt = 0 := rfl
    refine y_Ok.mono (y_X9_set_L_4 (l2 := 0) (g9_33 := g9_33) (by omega) (by omega) (by first | with_reducible assumption | omega | ((with_reducible refine y_Vl ?_ ?_) <;> omega))) (fun r_t7 h_r_t7 => ?_)
    (first | with_reducible assumption | omega | ((with_reducible refine y_Vl ?_ ?_) <;> omega))
  · skip
    try have e9 := @y_cl (l1 + (1 : Int32)) (by omega)
    try have e10 := k2.at (Int32.toNatClampNeg (l1 + (1 : Int32))) (by omega)
    try have e11 := e10.b
    have e12 : (3 : Int32).toInt = 3 := rfl
    have c2' := c2
    rw [← Int32.toInt_inj] at c2'
    refine y_gd (y_gdI (by omega) (by omega)) ?_
    refine y_if (fun c13 => ?_) (fun c13 => ?_)
    · skip
      have e14 : (4 : Int32).toInt = 4 := rfl
      have c13' := c13
      rw [← Int32.toInt_inj] at c13'
      have e15 : (0 : Int32).toInt = 0 := rfl
      refine y_Ok.mono (y_X9_set_L_4 (l2 := 0) (g9_33 := g9_33) (by omega) (by omega) (by first | with_reducible assumption | omega | ((with_reducible refine y_Vl ?_ ?_) <;> omega))) (fun r_t15 h_r_t15 => ?_)
      (first | with_reducible assumption | omega | ((with_reducible refine y_Vl ?_ ?_) <;> omega))
    · skip
      have e17 : (4 : Int32).toInt = 4 := rfl
      have c13' := c13
      rw [← Int32.toInt_inj] at c13'
      have e18 : (0 : Int32).toInt = 0 := rfl
      refine y_Ok.mono (y_X9_set_L_5 (l2 := 0) (g9_33 := g9_33) (by omega) (by omega) (by first | with_reducible assumption | omega | ((with_reducible refine y_Vl ?_ ?_) <;> omega))) (fun r_t18 h_r_t18 => ?_)
      (first | with_reducible assumption | omega | ((with_reducible refine y_Vl ?_ ?_) <;> omega))
set_option maxHeartbeats 4000000 in
theorem y_X9_set_L_2 {l1 : Int32} {l2 : Int32} {g9_33 : Nat → Int32} (k0 : 0 ≤ l1.toInt) (k1 : l1.toInt < 200) (k2 : y_AV 202 g9_33) (k3 : y_V l2) : y_Ok (f_X9_set_L l1 (2, l2, g9_33)) (fun r => (y_AV 202 r)) := by
  rw [f_X9_set_L]
  refine y_in (by decide) ?_
  refine y_in (by decide) ?_
  refine y_ip rfl ?_
  refine y_gd (y_gdI (by omega) (by omega)) ?_
  refine y_if (fun c1 => ?_) (fun c1 => ?_)
  · skip
    have e2 : (3 : Int32).toInt = 3 := rfl
    have c1' := c1
    rw [← Int32.toInt_inj] at c1'
    have e3 : (0 : Int32).toInt = 0 := rfl
    try have e4 := @y_cl l1 (by omega)
    try have e5 : y_AV 202 (upd g9_33 (Int32.toNatClampNeg l1) l2) := y_AV_upd k2 (by first | with_reducible assumption | omega | ((with_reducible refine y_Vl ?_ ?_) <;> omega))
    refine y_Ok.mono (y_X9_set_L_3 (l2 := 0) (g9_33 := (upd g9_33 (Int32.toNatClampNeg l1) l2)) (by omega) (by omega) (by first | with_reducible assumption | omega | ((with_reducible refine y_Vl ?_ ?_) <;> omega))) (fun r_t5 h_r_t5 => ?_)
    (first | with_reducible assumption | omega | ((with_reducible refine y_Vl ?_ ?_) <;> omega))
  · skip
    have e7 : (3 : Int32).toInt = 3 := rfl
    have c1' := c1
    rw [← Int32.toInt_inj] at c1'
    refine y_if (fun c8 => ?_) (fun c8 => ?_)
    · skip
      have e9 : (4 : Int32).toInt = 4 := rfl
      have c8' := c8
      rw [← Int32.toInt_inj] at c8'
      have e10 : (0 : Int32).toInt = 0 := rfl
      try have e11 := @y_cl l1 (by omega)
      try have e12 : y_AV 202 (upd g9_33 (Int32.toNatClampNeg l1) l2) := y_AV_upd k2 (by first | with_reducible assumption | omega | ((with_reducible refine y_Vl ?_ ?_) <;> omega))
      refine y_Ok.mono (y_X9_set_L_3 (l2 := 0) (g9_33 := (upd g9_33 (Int32.toNatClampNeg l1) l2)) (by omega) (by omega) (by first | with_reducible assumption | omega | ((with_reducible refine y_Vl ?_ ?_) <;> omega))) (fun r_t12 h_r_t12 => ?_)
      (first | with_reducible assumption | omega | ((with_reducible refine y_Vl ?_ ?_) <;> omega))
    · skip
      have e14 : (4 : Int32).toInt = 4 := rfl
      have c8' := c8
      rw [← Int32.toInt_inj] at c8'
      try have e15 := @y_cl l1 (by omega)
      try have e16 : y_AV 202 (upd g9_33 (Int32.toNatClampNeg l1) l2) := y_AV_upd k2 (by first | with_reducible assumption | omega | ((with_reducible refine y_Vl ?_ ?_) <;> omega))
      refine y_some ?_
      try dsimp only
      (first | with_reducible assumption | omega | ((with_reducible refine y_Vl ?_ ?_) <;> omega))
set_option maxHeartbeats 4000000 in
theorem y_X9_set_L_1 {l1 : Int32} {l2 : Int32} {g9_33 : Nat → Int32} (k0 : 0 ≤ l1.toInt) (k1 : l1.toInt < 200) (k2 : y_AV 202 g9_33) (k3 : y_V l2) : y_Ok (f_X9_set_L l1 (1, l2, g9_33)) (fun r => (y_AV 202 r)) := by
  rw [f_X9_set_L]
  refine y_in (by decide) ?_
  refine y_ip rfl ?_
  try have e1 := @y_addL l1 (1 : Int32) (1) rfl (by omega) (by omega)
  refine y_gd (y_gdI (by omega) (by omega)) ?_
  try have e2 := @y_cl (l1 + (1 : Int32)) (by omega)
  have e3 : (0 : Int32).toInt = 0 := rfl
  try have e4 : y_AV 202 (upd g9_33 (Int32.toNatClampNeg (l1 + (1 : Int32))) (0 : Int32)) := y_AV_upd k2 (by first | with_reducible assumption | omega | ((with_reducible refine y_Vl ?_ ?_) <;> omega))
  refine y_Ok.mono (y_X9_set_L_2 (l2 := l2) (g9_33 := (upd g9_33 (Int32.toNatClampNeg (l1 + (1 : Int32))) 0)) (by omega) (by omega) (by first | with_reducible assumption | omega | ((with_reducible refine y_Vl ?_ ?_) <;> omega)) (by first | with_reducible assumption | omega | ((with_reducible refine y_Vl ?_ ?_) <;> omega))) (fun r_t4 h_r_t4 => ?_)
  (first | with_reducible assumption | omega | ((with_reducible refine y_Vl ?_ ?_) <;> omega))
set_option maxHeartbeats 4000000 in
theorem y_X9_set_L_0 {l1 : Int32} {l2 : Int32} {g9_33 : Nat → Int32} (k0 : 0 ≤ l1.toInt) (k1 : l1.toInt < 200) (k2 : y_AV 202 g9_33) (k3 : y_V l2) : y_Ok (f_X9_set_L l1 (0, l2, g9_33)) (fun r => (y_AV 202 r)) := by
  rw [f_X9_set_L]
  refine y_ip rfl ?_
  refine y_gd (y_gdI (by omega) (by omega)) ?_
  refine y_if (fun c1 => ?_) (fun c1 => ?_)
  · skip
    try have e2 := @y_cl l1 (by omega)
    try have e3 := k2.at (Int32.toNatClampNeg l1) (by omega)
    try have e4 := e3.b
    have e5 : (3 : Int32).toInt = 3 := rfl
    have c1' := c1
    rw [← Int32.toInt_inj] at c1'
    refine y_Ok.mono (y_X9_set_L_1 (l2 := l2) (g9_33 := g9_33) (by omega) (by omega) (by first | with_reducible assumption | omega | ((with_reducible refine y_Vl ?_ ?_) <;> omega)) (by first | with_reducible assumption | omega | ((with_reducible refine y_Vl ?_ ?_) <;> omega))) (fun r_t5 h_r_t5 => ?_)
    (first | with_reducible assumption | omega | ((with_reducible refine y_Vl ?_ ?_) <;> omega))
  · skip
    try have e7 := @y_cl l1 (by omega)
    try have e8 := k2.at (Int32.toNatClampNeg l1) (by omega)
    try have e9 := e8.b
    have e10 : (3 : Int32).toInt = 3 := rfl
    have c1' := c1
    rw [← Int32.toInt_inj] at c1'
    refine y_gd (y_gdI (by omega) (by omega)) ?_
    refine y_if (fun c11 => ?_) (fun c11 => ?_)
    · skip
      have e12 : (4 : Int32).toInt = 4 := rfl
      have c11' := c11
      rw [← Int32.toInt_inj] at c11'
      refine y_Ok.mono (y_X9_set_L_1 (l2 := l2) (g9_33 := g9_33) (by omega) (by omega) (by first | with_reducible assumption | omega | ((with_reducible refine y_Vl ?_ ?_) <;> omega)) (by first | with_reducible assumption | omega | ((with_reducible refine y_Vl ?_ ?_) <;> omega))) (fun r_t12 h_r_t12 => ?_)
      (first | with_reducible assumption | omega | ((with_reducible refine y_Vl ?_ ?_) <;> omega))
    · skip
      have e14 : (4 : Int32).toInt = 4 := rfl
      have c11' := c11
      rw [← Int32.toInt_inj] at c11'
      refine y_Ok.mono (y_X9_set_L_2 (l2 := l2) (g9_33 := g9_33) (by omega) (by omega) (by first | with_reducible assumption | omega | ((with_reducible refine y_Vl ?_ ?_) <;> omega)) (by first | with_reducible assumption | omega | ((with_reducible refine y_Vl ?_ ?_) <;> omega))) (fun r_t14 h_r_t14 => ?_)
      (first | with_reducible assumption | omega | ((with_reducible refine y_Vl ?_ ?_) <;> omega))
set_option maxHeartbeats 4000000 in
theorem y_X9_set {g9_33 : Nat → Int32} {p1 : Int32} {p2 : Int32} (k0 : y_AV 202 g9_33) (k1 : 0 ≤ p1.toInt) (k2 : p1.toInt < 200) (k3 : y_V p2) : y_Ok (f_X9_set g9_33 p1 p2) (fun r => (y_AV 202 r)) := by
  unfold f_X9_set
  refine y_gd (y_gdI (by omega) (by omega)) ?_
  refine y_if (fun c1 => ?_) (fun c1 => ?_)
  · skip
    try have e2 := @y_cl p1 (by omega)
    try have e3 := k0.at (Int32.toNatClampNeg p1) (by omega)
    try have e4 := e3.b
    have e5 : (7 : Int32).toInt = 7 := rfl
    have c1' := c1
    rw [← Int32.toInt_inj] at c1'
    refine y_if (fun c6 => ?_) (fun c6 => ?_)
    · skip
      have e7 : (0 : Int32).toInt = 0 := rfl
      have c6' := c6
      rw [Int32.le_iff_toInt_le] at c6'
      refine y_Ok.mono (y_X9_set_L_0 (l2 := p2) (g9_33 := g9_33) (by omega) (by omega) (by first | with_reducible assumption | omega | ((with_reducible refine y_Vl ?_ ?_) <;> omega)) (by first | with_reducible assumption | omega | ((with_reducible refine y_Vl ?_ ?_) <;> omega))) (fun r_t7 h_r_t7 => ?_)
      (first | with_reducible assumption | omega | ((with_reducible refine y_Vl ?_ ?_) <;> omega))
    · skip
      have e9 : (0 : Int32).toInt = 0 := rfl
      have c6' := c6
      rw [Int32.le_iff_toInt_le] at c6'
      try have e10 := @y_subL p1 (1 : Int32) (1) rfl (by omega) (by omega)
      refine y_gd (y_gdI (by omega) (by omega)) ?_
      try have e11 := @y_cl (p1 - (1 : Int32)) (by omega)
      try have e12 : y_AV 202 (upd g9_33 (Int32.toNatClampNeg (p1 - (1 : Int32))) (0 : Int32)) := y_AV_upd k0 (by first | with_reducible assumption | omega | ((with_reducible refine y_Vl ?_ ?_) <;> omega))
      refine y_Ok.mono (y_X9_set_L_0 (l2 := p2) (g9_33 := (upd g9_33 (Int32.toNatClampNeg (p1 - (1 : Int32))) 0)) (by omega) (by omega) (by first | with_reducible assumption | omega | ((with_reducible refine y_Vl ?_ ?_) <;> omega)) (by first | with_reducible assumption | omega | ((with_reducible refine y_Vl ?_ ?_) <;> omega))) (fun r_t12 h_r_t12 => ?_)
      (first | with_reducible assumption | omega | ((with_reducible refine y_Vl ?_ ?_) <;> omega))
  · skip
    try have e14 := @y_cl p1 (by omega)
    try have e15 := k0.at (Int32.toNatClampNeg p1) (by omega)
    try have e16 := e15.b
    have e17 : (7 : Int32).toInt = 7 := rfl
    have c1' := c1
    rw [← Int32.toInt_inj] at c1'
    refine y_Ok.mono (y_X9_set_L_0 (l2 := p2) (g9_33 := g9_33) (by omega) (by omega) (by first | with_reducible assumption | omega | ((with_reducible refine y_Vl ?_ ?_) <;> omega)) (by first | with_reducible assumption | omega | ((with_reducible refine y_Vl ?_ ?_) <;> omega))) (fun r_t17 h_r_t17 => ?_)
    (first | with_reducible assumption | omega | ((with_reducible refine y_Vl ?_ ?_) <;> omega))
set_option maxHeartbeats 4000000 in
theorem y_X9_single {v9_35 : Int32} {g9_34 : Nat → Int32} {p1 : Int32} (k0 : 0 ≤ v9_35.toInt) (k1 : v9_35.toInt ≤ 200) (k2 : 1 ≤ p1.toInt) : y_Ok (f_X9_single v9_35 g9_34 p1) (fun r => (r.toInt = 0 ∨ p1.toInt ≤ v9_35.toInt)) := by
  unfold f_X9_single
  refine y_if (fun c1 => ?_) (fun c1 => ?_)
  · skip
    have c1' := c1
    rw [Int32.lt_iff_toInt_lt] at c1'
    have e2 : (0 : Int32).toInt = 0 := rfl
    refine y_some ?_
    try dsimp only
    (first | with_reducible assumption | omega | ((with_reducible refine y_Vl ?_ ?_) <;> omega))
  · skip
    have c1' := c1
    rw [Int32.lt_iff_toInt_lt] at c1'
    try have e3 := @y_sub v9_35 p1 (by omega) (by omega)
    refine y_gd (y_gdI (by omega) (by omega)) ?_
    refine y_if (fun c4 => ?_) (fun c4 => ?_)
    · skip
      try have e5 := @y_cl (v9_35 - p1) (by omega)
      have e6 : (7 : Int32).toInt = 7 := rfl
      have c4' := c4
      rw [← Int32.toInt_inj] at c4'
      have e7 : (0 : Int32).toInt = 0 := rfl
      refine y_some ?_
      try dsimp only
      (first | with_reducible assumption | omega | ((with_reducible refine y_Vl ?_ ?_) <;> omega))
    · skip
      try have e8 := @y_cl (v9_35 - p1) (by omega)
      have e9 : (7 : Int32).toInt = 7 := rfl
      have c4' := c4
      rw [← Int32.toInt_inj] at c4'
      refine y_gd (y_gdI (by omega) (by omega)) ?_
      refine y_if (fun c10 => ?_) (fun c10 => ?_)
      · skip
        have e11 : (3 : Int32).toInt = 3 := rfl
        have c10' := c10
        rw [← Int32.toInt_inj] at c10'
        have e12 : (0 : Int32).toInt = 0 := rfl
        refine y_some ?_
        try dsimp only
        (first | with_reducible assumption | omega | ((with_reducible refine y_Vl ?_ ?_) <;> omega))
      · skip
        have e13 : (3 : Int32).toInt = 3 := rfl
        have c10' := c10
        rw [← Int32.toInt_inj] at c10'
        refine y_gd (y_gdI (by omega) (by omega)) ?_
        refine y_if (fun c14 => ?_) (fun c14 => ?_)
        · skip
          have e15 : (4 : Int32).toInt = 4 := rfl
          have c14' := c14
          rw [← Int32.toInt_inj] at c14'
          have e16 : (0 : Int32).toInt = 0 := rfl
          refine y_some ?_
          try dsimp only
          (first | with_reducible assumption | omega | ((with_reducible refine y_Vl ?_ ?_) <;> omega))
        · skip
          have e17 : (4 : Int32).toInt = 4 := rfl
          have c14' := c14
          rw [← Int32.toInt_inj] at c14'
          have e18 : (1 : Int32).toInt = 1 := rfl
          refine y_some ?_
          try dsimp only
          (first | with_reducible assumption | omega | ((with_reducible refine y_Vl ?_ ?_) <;> omega))
set_option maxHeartbeats 4000000 in
theorem y_X9_pair {v9_35 : Int32} {g9_34 : Nat → Int32} {p1 : Int32} (k0 : 0 ≤ v9_35.toInt) (k1 : v9_35.toInt ≤ 200) (k2 : 2 ≤ p1.toInt) : y_Ok (f_X9_pair v9_35 g9_34 p1) (fun r => (r.toInt = 0 ∨ p1.toInt ≤ v9_35.toInt)) := by
  unfold f_X9_pair
  refine y_if (fun c1 => ?_) (fun c1 => ?_)
  · skip
    have c1' := c1
    rw [Int32.lt_iff_toInt_lt] at c1'
    have e2 : (0 : Int32).toInt = 0 := rfl
    refine y_some ?_
    try dsimp only
    (first | with_reducible assumption | omega | ((with_reducible refine y_Vl ?_ ?_) <;> omega))
  · skip
    have c1' := c1
    rw [Int32.lt_iff_toInt_lt] at c1'
    try have e3 := @y_sub v9_35 p1 (by omega) (by omega)
    try have e4 := @y_addL (v9_35 - p1) (1 : Int32) (1) rfl (by omega) (by omega)
    refine y_gd (y_gdI (by omega) (by omega)) ?_
    refine y_if (fun c5 => ?_) (fun c5 => ?_)
    · skip
      try have e6 := @y_cl ((v9_35 - p1) + (1 : Int32)) (by omega)
      have e7 : (7 : Int32).toInt = 7 := rfl
      have c5' := c5
      rw [← Int32.toInt_inj] at c5'
      have e8 : (1 : Int32).toInt = 1 := rfl
      refine y_some ?_
      try dsimp only
      (first | with_reducible assumption | omega | ((with_reducible refine y_Vl ?_ ?_) <;> omega))
    · skip
      try have e9 := @y_cl ((v9_35 - p1) + (1 : Int32)) (by omega)
      have e10 : (7 : Int32).toInt = 7 := rfl
      have c5' := c5
      rw [← Int32.toInt_inj] at c5'
      refine y_bi (y_X9_single (by omega) (by omega) (by omega)) (fun r_4 h_r_4 => ?_)
      have h0_r_4 : r_4.toInt = 0 ∨ p1.toInt ≤ v9_35.toInt := h_r_4
      refine y_if (fun c11 => ?_) (fun c11 => ?_)
      · skip
        have e12 : (0 : Int32).toInt = 0 := rfl
        have c11' := c11
        rw [← Int32.toInt_inj] at c11'
        refine y_some ?_
        try dsimp only
        (first | with_reducible assumption | omega | ((with_reducible refine y_Vl ?_ ?_) <;> omega))
      · skip
        have e13 : (0 : Int32).toInt = 0 := rfl
        have c11' := c11
        rw [← Int32.toInt_inj] at c11'
        try have e14 := @y_subL p1 (1 : Int32) (1) rfl (by omega) (by omega)
        refine y_bi (y_X9_single (by omega) (by omega) (by omega)) (fun r_6 h_r_6 => ?_)
        have h0_r_6 : r_6.toInt = 0 ∨ (p1 - (1 : Int32)).toInt ≤ v9_35.toInt := h_r_6
        refine y_if (fun c15 => ?_) (fun c15 => ?_)
        · skip
          have c15' := c15
          rw [← Int32.toInt_inj] at c15'
          refine y_some ?_
          try dsimp only
          (first | with_reducible assumption | omega | ((with_reducible refine y_Vl ?_ ?_) <;> omega))
        · skip
          have c15' := c15
          rw [← Int32.toInt_inj] at c15'
          have e16 : (1 : Int32).toInt = 1 := rfl
          refine y_some ?_
          try dsimp only
          (first | with_reducible assumption | omega | ((with_reducible refine y_Vl ?_ ?_) <;> omega))
