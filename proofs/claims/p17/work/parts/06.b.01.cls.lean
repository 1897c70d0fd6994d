set_option maxHeartbeats 4000000 in
theorem y_X7_isPrimitive {p0 : Int32}  : y_Ok (f_X7_isPrimitive p0) (fun r => ((r.toInt = 0 ∧ ¬ (65528 ≤ p0.toInt ∧ p0.toInt < 65536)) ∨ (r.toInt = 1 ∧ (65528 ≤ p0.toInt ∧ p0.toInt < 65536)))) := by
  unfold f_X7_isPrimitive
  refine y_if (fun c1 => ?_) (fun c1 => ?_)
  · skip
    have e2 : (65528 : Int32).toInt = 65528 := rfl
    have c1' := c1
    rw [Int32.lt_iff_toInt_lt] at c1'
    have e3 : (0 : Int32).toInt = 0 := rfl
    refine y_some ?_
    try dsimp only
    (first | with_reducible assumption | omega | ((with_reducible refine y_Vl ?_ ?_) <;> omega))
  · skip
    have e4 : (65528 : Int32).toInt = 65528 := rfl
    have c1' := c1
    rw [Int32.lt_iff_toInt_lt] at c1'
    refine y_if (fun c5 => ?_) (fun c5 => ?_)
    · skip
      have e6 : (65536 : Int32).toInt = 65536 := rfl
      have c5' := c5
      rw [Int32.le_iff_toInt_le] at c5'
      have e7 : (0 : Int32).toInt = 0 := rfl
      refine y_some ?_
      try dsimp only
      (first | with_reducible assumption | omega | ((with_reducible refine y_Vl ?_ ?_) <;> omega))
    · skip
      have e8 : (65536 : Int32).toInt = 65536 := rfl
      have c5' := c5
      rw [Int32.le_iff_toInt_le] at c5'
      have e9 : (1 : Int32).toInt = 1 := rfl
      refine y_some ?_
      try dsimp only
      (first | with_reducible assumption | omega | ((with_reducible refine y_Vl ?_ ?_) <;> omega))
set_option maxHeartbeats 4000000 in
theorem y_X7_dimensionsOf {p0 : Int32} (k0 : 0 ≤ p0.toInt) : y_Ok (f_X7_dimensionsOf p0) (fun r => (r.toInt = p0.toInt / 65536)) := by
  unfold f_X7_dimensionsOf
  try have e1 := @y_ush16 p0 (by omega)
  refine y_some ?_
  try dsimp only
  (first | with_reducible assumption | omega | ((with_reducible refine y_Vl ?_ ?_) <;> omega))
set_option maxHeartbeats 4000000 in
theorem y_X7_widthOf {p0 : Int32}  : y_Ok (f_X7_widthOf p0) (fun r => (1 ≤ r.toInt) ∧ (r.toInt ≤ 2)) := by
  unfold f_X7_widthOf
  refine y_if (fun c1 => ?_) (fun c1 => ?_)
  · skip
    have e2 : (65535 : Int32).toInt = 65535 := rfl
    have c1' := c1
    rw [← Int32.toInt_inj] at c1'
    have e3 : (2 : Int32).toInt = 2 := rfl
    refine y_some ?_
    try dsimp only
    refine ⟨?_, ?_⟩ <;> (first | with_reducible assumption | omega | ((with_reducible refine y_Vl ?_ ?_) <;> omega))
  · skip
    have e4 : (65535 : Int32).toInt = 65535 := rfl
    have c1' := c1
    rw [← Int32.toInt_inj] at c1'
    refine y_if (fun c5 => ?_) (fun c5 => ?_)
    · skip
      have e6 : (65531 : Int32).toInt = 65531 := rfl
      have c5' := c5
      rw [← Int32.toInt_inj] at c5'
      have e7 : (2 : Int32).toInt = 2 := rfl
      refine y_some ?_
      try dsimp only
      refine ⟨?_, ?_⟩ <;> (first | with_reducible assumption | omega | ((with_reducible refine y_Vl ?_ ?_) <;> omega))
    · skip
      have e8 : (65531 : Int32).toInt = 65531 := rfl
      have c5' := c5
      rw [← Int32.toInt_inj] at c5'
      have e9 : (1 : Int32).toInt = 1 := rfl
      refine y_some ?_
      try dsimp only
      refine ⟨?_, ?_⟩ <;> (first | with_reducible assumption | omega | ((with_reducible refine y_Vl ?_ ?_) <;> omega))
set_option maxHeartbeats 4000000 in
theorem y_X7_isClass {v7_2 : Int32} {p1 : Int32}  : y_Ok (f_X7_isClass v7_2 p1) (fun r => ((r.toInt = 0 ∧ ¬ (0 ≤ p1.toInt ∧ p1.toInt < v7_2.toInt)) ∨ (r.toInt = 1 ∧ (0 ≤ p1.toInt ∧ p1.toInt < v7_2.toInt)))) := by
  unfold f_X7_isClass
  refine y_if (fun c1 => ?_) (fun c1 => ?_)
  · skip
    have e2 : (0 : Int32).toInt = 0 := rfl
    have c1' := c1
    rw [Int32.lt_iff_toInt_lt] at c1'
    refine y_some ?_
    try dsimp only
    (first | with_reducible assumption | omega | ((with_reducible refine y_Vl ?_ ?_) <;> omega))
  · skip
    have e3 : (0 : Int32).toInt = 0 := rfl
    have c1' := c1
    rw [Int32.lt_iff_toInt_lt] at c1'
    refine y_if (fun c4 => ?_) (fun c4 => ?_)
    · skip
      have c4' := c4
      rw [Int32.le_iff_toInt_le] at c4'
      refine y_some ?_
      try dsimp only
      (first | with_reducible assumption | omega | ((with_reducible refine y_Vl ?_ ?_) <;> omega))
    · skip
      have c4' := c4
      rw [Int32.le_iff_toInt_le] at c4'
      have e5 : (1 : Int32).toInt = 1 := rfl
      refine y_some ?_
      try dsimp only
      (first | with_reducible assumption | omega | ((with_reducible refine y_Vl ?_ ?_) <;> omega))
set_option maxHeartbeats 4000000 in
theorem y_X7_isType {v7_2 : Int32} {p1 : Int32} (k0 : 4 ≤ v7_2.toInt) (k1 : v7_2.toInt ≤ 200) : y_Ok (f_X7_isType v7_2 p1) (fun r => ((r.toInt = 0 ∧ ¬ (0 ≤ p1.toInt ∧ p1.toInt < 16777216 ∧ (p1.toInt % 65536 < v7_2.toInt ∨ 65528 ≤ p1.toInt % 65536))) ∨ (r.toInt = 1 ∧ (0 ≤ p1.toInt ∧ p1.toInt < 16777216 ∧ (p1.toInt % 65536 < v7_2.toInt ∨ 65528 ≤ p1.toInt % 65536))))) := by
  unfold f_X7_isType
  refine y_if (fun c1 => ?_) (fun c1 => ?_)
  · skip
    have e2 : (0 : Int32).toInt = 0 := rfl
    have c1' := c1
    rw [Int32.lt_iff_toInt_lt] at c1'
    refine y_some ?_
    try dsimp only
    (first | with_reducible assumption | omega | ((with_reducible refine y_Vl ?_ ?_) <;> omega))
  · skip
    have e3 : (0 : Int32).toInt = 0 := rfl
    have c1' := c1
    rw [Int32.lt_iff_toInt_lt] at c1'
    refine y_bi (y_X7_dimensionsOf (by omega)) (fun r_2 h_r_2 => ?_)
    have h0_r_2 : r_2.toInt = p1.toInt / 65536 := h_r_2
    refine y_if (fun c4 => ?_) (fun c4 => ?_)
    · skip
      have e5 : (255 : Int32).toInt = 255 := rfl
      have c4' := c4
      rw [Int32.lt_iff_toInt_lt] at c4'
      refine y_some ?_
      try dsimp only
      (first | with_reducible assumption | omega | ((with_reducible refine y_Vl ?_ ?_) <;> omega))
    · skip
      have e6 : (255 : Int32).toInt = 255 := rfl
      have c4' := c4
      rw [Int32.lt_iff_toInt_lt] at c4'
      refine y_if (fun c7 => ?_) (fun c7 => ?_)
      · skip
        have e8 := y_and16 p1
        have c7' := c7
        rw [Int32.lt_iff_toInt_lt] at c7'
        have e9 : (1 : Int32).toInt = 1 := rfl
        refine y_some ?_
        try dsimp only
        (first | with_reducible assumption | omega | ((with_reducible refine y_Vl ?_ ?_) <;> omega))
      · skip
        have e10 := y_and16 p1
        have c7' := c7
        rw [Int32.lt_iff_toInt_lt] at c7'
        refine y_if (fun c11 => ?_) (fun c11 => ?_)
        · skip
          have e12 : (65528 : Int32).toInt = 65528 := rfl
          have c11' := c11
          rw [Int32.lt_iff_toInt_lt] at c11'
          refine y_some ?_
          try dsimp only
          (first | with_reducible assumption | omega | ((with_reducible refine y_Vl ?_ ?_) <;> omega))
        · skip
          have e13 : (65528 : Int32).toInt = 65528 := rfl
          have c11' := c11
          rw [Int32.lt_iff_toInt_lt] at c11'
          have e14 : (1 : Int32).toInt = 1 := rfl
          refine y_some ?_
          try dsimp only
          (first | with_reducible assumption | omega | ((with_reducible refine y_Vl ?_ ?_) <;> omega))
set_option maxHeartbeats 4000000 in
theorem y_X7_isReference {v7_2 : Int32} {p1 : Int32} (k0 : 4 ≤ v7_2.toInt) (k1 : v7_2.toInt ≤ 200) : y_Ok (f_X7_isReference v7_2 p1) (fun r => ((r.toInt = 0 ∧ ¬ ((0 ≤ p1.toInt ∧ p1.toInt < 16777216 ∧ (p1.toInt % 65536 < v7_2.toInt ∨ 65528 ≤ p1.toInt % 65536)) ∧ ¬ (65528 ≤ p1.toInt ∧ p1.toInt < 65536))) ∨ (r.toInt = 1 ∧ ((0 ≤ p1.toInt ∧ p1.toInt < 16777216 ∧ (p1.toInt % 65536 < v7_2.toInt ∨ 65528 ≤ p1.toInt % 65536)) ∧ ¬ (65528 ≤ p1.toInt ∧ p1.toInt < 65536))))) := by
  unfold f_X7_isReference
  refine y_bi (y_X7_isType (by omega) (by omega)) (fun r_1 h_r_1 => ?_)
  have h0_r_1 : (r_1.toInt = 0 ∧ ¬ (0 ≤ p1.toInt ∧ p1.toInt < 16777216 ∧ (p1.toInt % 65536 < v7_2.toInt ∨ 65528 ≤ p1.toInt % 65536))) ∨ (r_1.toInt = 1 ∧ (0 ≤ p1.toInt ∧ p1.toInt < 16777216 ∧ (p1.toInt % 65536 < v7_2.toInt ∨ 65528 ≤ p1.toInt % 65536))) := h_r_1
  refine y_if (fun c1 => ?_) (fun c1 => ?_)
  · skip
    have e2 : (0 : Int32).toInt = 0 := rfl
    have c1' := c1
    rw [← Int32.toInt_inj] at c1'
    have e3 := y_or0 h0_r_1 c1'
    clear h0_r_1
    refine y_some ?_
    try dsimp only
    (first | with_reducible assumption | omega | ((with_reducible refine y_Vl ?_ ?_) <;> omega))
  · skip
    have e4 : (0 : Int32).toInt = 0 := rfl
    have c1' := c1
    rw [← Int32.toInt_inj] at c1'
    have e5 := y_or1 h0_r_1 c1'
    clear h0_r_1
    refine y_bi (y_X7_isPrimitive) (fun r_3 h_r_3 => ?_)
    have h0_r_3 : (r_3.toInt = 0 ∧ ¬ (65528 ≤ p1.toInt ∧ p1.toInt < 65536)) ∨ (r_3.toInt = 1 ∧ (65528 ≤ p1.toInt ∧ p1.toInt < 65536)) := h_r_3
    refine y_if (fun c6 => ?_) (fun c6 => ?_)
    · skip
      have c6' := c6
      rw [← Int32.toInt_inj] at c6'
      have e7 := y_or0 h0_r_3 c6'
      clear h0_r_3
      have e8 : (1 : Int32).toInt = 1 := rfl
      refine y_some ?_
      try dsimp only
      (first | with_reducible assumption | omega | ((with_reducible refine y_Vl ?_ ?_) <;> omega))
    · skip
      have c6' := c6
      rw [← Int32.toInt_inj] at c6'
      have e9 := y_or1 h0_r_3 c6'
      clear h0_r_3
      refine y_some ?_
      try dsimp only
      (first | with_reducible assumption | omega | ((with_reducible refine y_Vl ?_ ?_) <;> omega))
set_option maxHeartbeats 4000000 in
theorem y_X7_isResult {v7_2 : Int32} {p1 : Int32} (k0 : 4 ≤ v7_2.toInt) (k1 : v7_2.toInt ≤ 200) : y_Ok (f_X7_isResult v7_2 p1) (fun r => ((r.toInt = 0 ∧ ¬ (p1.toInt = -1 ∨ (0 ≤ p1.toInt ∧ p1.toInt < 16777216 ∧ (p1.toInt % 65536 < v7_2.toInt ∨ 65528 ≤ p1.toInt % 65536)))) ∨ (r.toInt = 1 ∧ (p1.toInt = -1 ∨ (0 ≤ p1.toInt ∧ p1.toInt < 16777216 ∧ (p1.toInt % 65536 < v7_2.toInt ∨ 65528 ≤ p1.toInt % 65536)))))) := by
  unfold f_X7_isResult
  refine y_if (fun c1 => ?_) (fun c1 => ?_)
  · skip
    have c1' : p1.toInt = -1 := (y_eqN rfl).mp c1
    have e2 : (1 : Int32).toInt = 1 := rfl
    refine y_some ?_
    try dsimp only
    (first | with_reducible assumption | omega | ((with_reducible refine y_Vl ?_ ?_) <;> omega))
  · skip
    have c1' : ¬ p1.toInt = -1 := fun hz => c1 ((y_eqN rfl).mpr hz)
    refine y_bi (y_X7_isType (by omega) (by omega)) (fun r_2 h_r_2 => ?_)
    have h0_r_2 : (r_2.toInt = 0 ∧ ¬ (0 ≤ p1.toInt ∧ p1.toInt < 16777216 ∧ (p1.toInt % 65536 < v7_2.toInt ∨ 65528 ≤ p1.toInt % 65536))) ∨ (r_2.toInt = 1 ∧ (0 ≤ p1.toInt ∧ p1.toInt < 16777216 ∧ (p1.toInt % 65536 < v7_2.toInt ∨ 65528 ≤ p1.toInt % 65536))) := h_r_2
    refine y_if (fun c3 => ?_) (fun c3 => ?_)
    · skip
      have e4 : (0 : Int32).toInt = 0 := rfl
      have c3' := c3
      rw [← Int32.toInt_inj] at c3'
      have e5 := y_or0 h0_r_2 c3'
      clear h0_r_2
      refine y_some ?_
      try dsimp only
      (first | with_reducible assumption | omega | ((with_reducible refine y_Vl ?_ ?_) <;> omega))
    · skip
      have e6 : (0 : Int32).toInt = 0 := rfl
      have c3' := c3
      rw [← Int32.toInt_inj] at c3'
      have e7 := y_or1 h0_r_2 c3'
      clear h0_r_2
      have e8 : (1 : Int32).toInt = 1 := rfl
      refine y_some ?_
      try dsimp only
      (first | with_reducible assumption | omega | ((with_reducible refine y_Vl ?_ ?_) <;> omega))
set_option maxHeartbeats 4000000 in
theorem y_X7_isOfInterface {v7_2 : Int32} {g7_1 : Nat → Int32} {p1 : Int32} (k0 : 4 ≤ v7_2.toInt) (k1 : v7_2.toInt ≤ 200) : y_Ok (f_X7_isOfInterface v7_2 g7_1 p1) (fun r => (r.toInt = 0 ∨ r.toInt = 1)) := by
  unfold f_X7_isOfInterface
  refine y_if (fun c1 => ?_) (fun c1 => ?_)
  · skip
    have e2 := y_and16 p1
    have c1' := c1
    rw [Int32.le_iff_toInt_le] at c1'
    have e3 : (0 : Int32).toInt = 0 := rfl
    refine y_some ?_
    try dsimp only
    (first | with_reducible assumption | omega | ((with_reducible refine y_Vl ?_ ?_) <;> omega))
  · skip
    have e4 := y_and16 p1
    have c1' := c1
    rw [Int32.le_iff_toInt_le] at c1'
    refine y_gd (y_gdI (by omega) (by omega)) ?_
    refine y_if (fun c5 => ?_) (fun c5 => ?_)
    · skip
      try have e6 := @y_cl (p1 &&& (65535 : Int32)) (by omega)
      have e7 : (0 : Int32).toInt = 0 := rfl
      have c5' := c5
      rw [← Int32.toInt_inj] at c5'
      refine y_some ?_
      try dsimp only
      (first | with_reducible assumption | omega | ((with_reducible refine y_Vl ?_ ?_) <;> omega))
    · skip
      try have e8 := @y_cl (p1 &&& (65535 : Int32)) (by omega)
      have e9 : (0 : Int32).toInt = 0 := rfl
      have c5' := c5
      rw [← Int32.toInt_inj] at c5'
      have e10 : (1 : Int32).toInt = 1 := rfl
      refine y_some ?_
      try dsimp only
      (first | with_reducible assumption | omega | ((with_reducible refine y_Vl ?_ ?_) <;> omega))
set_option maxHeartbeats 4000000 in
theorem y_X7_placeOf {p0 : Int32} (k0 : y_Ty p0) : y_Ok (f_X7_placeOf p0) (fun r => (y_V r)) := by
  have u1 := k0
  unfold y_Ty at u1
  unfold f_X7_placeOf
  refine y_bi (y_X7_isPrimitive) (fun r_1 h_r_1 => ?_)
  have h0_r_1 : (r_1.toInt = 0 ∧ ¬ (65528 ≤ p0.toInt ∧ p0.toInt < 65536)) ∨ (r_1.toInt = 1 ∧ (65528 ≤ p0.toInt ∧ p0.toInt < 65536)) := h_r_1
  refine y_if (fun c1 => ?_) (fun c1 => ?_)
  · skip
    have e2 : (0 : Int32).toInt = 0 := rfl
    have c1' := c1
    rw [← Int32.toInt_inj] at c1'
    have e3 := y_or0 h0_r_1 c1'
    clear h0_r_1
    have e4 : (16 : Int32).toInt = 16 := rfl
    try have e5 := @y_mulL (16 : Int32) p0 16 rfl (by omega) (by omega)
    try have e6 := @y_addL ((16 : Int32) * p0) (8 : Int32) (8) rfl (by omega) (by omega)
    refine y_some ?_
    try dsimp only
    (first | with_reducible assumption | omega | ((with_reducible refine y_Vl ?_ ?_) <;> omega) | ((with_reducible refine y_V8 ?_) <;> (first | with_reducible assumption | (unfold y_Tr; omega))) | ((with_reducible refine y_Tr4 ?_ ?_) <;> (first | with_reducible assumption | omega)) | ((with_reducible refine (y_Tr4 ?_ ?_).ty) <;> (first | with_reducible assumption | omega)) | (unfold y_Ty; omega) | (unfold y_Tr; omega))
  · skip
    have e7 : (0 : Int32).toInt = 0 := rfl
    have c1' := c1
    rw [← Int32.toInt_inj] at c1'
    have e8 := y_or1 h0_r_1 c1'
    clear h0_r_1
    refine y_if (fun c9 => ?_) (fun c9 => ?_)
    · skip
      have e10 : (65530 : Int32).toInt = 65530 := rfl
      have c9' := c9
      rw [← Int32.toInt_inj] at c9'
      have e11 : (2 : Int32).toInt = 2 := rfl
      refine y_some ?_
      try dsimp only
      (first | with_reducible assumption | omega | ((with_reducible refine y_Vl ?_ ?_) <;> omega) | ((with_reducible refine y_V8 ?_) <;> (first | with_reducible assumption | (unfold y_Tr; omega))) | ((with_reducible refine y_Tr4 ?_ ?_) <;> (first | with_reducible assumption | omega)) | ((with_reducible refine (y_Tr4 ?_ ?_).ty) <;> (first | with_reducible assumption | omega)) | (unfold y_Ty; omega) | (unfold y_Tr; omega))
    · skip
      have e12 : (65530 : Int32).toInt = 65530 := rfl
      have c9' := c9
      rw [← Int32.toInt_inj] at c9'
      refine y_if (fun c13 => ?_) (fun c13 => ?_)
      · skip
        have e14 : (65531 : Int32).toInt = 65531 := rfl
        have c13' := c13
        rw [← Int32.toInt_inj] at c13'
        have e15 : (4 : Int32).toInt = 4 := rfl
        refine y_some ?_
        try dsimp only
        (first | with_reducible assumption | omega | ((with_reducible refine y_Vl ?_ ?_) <;> omega) | ((with_reducible refine y_V8 ?_) <;> (first | with_reducible assumption | (unfold y_Tr; omega))) | ((with_reducible refine y_Tr4 ?_ ?_) <;> (first | with_reducible assumption | omega)) | ((with_reducible refine (y_Tr4 ?_ ?_).ty) <;> (first | with_reducible assumption | omega)) | (unfold y_Ty; omega) | (unfold y_Tr; omega))
      · skip
        have e16 : (65531 : Int32).toInt = 65531 := rfl
        have c13' := c13
        rw [← Int32.toInt_inj] at c13'
        refine y_if (fun c17 => ?_) (fun c17 => ?_)
        · skip
          have e18 : (65535 : Int32).toInt = 65535 := rfl
          have c17' := c17
          rw [← Int32.toInt_inj] at c17'
          have e19 : (3 : Int32).toInt = 3 := rfl
          refine y_some ?_
          try dsimp only
          (first | with_reducible assumption | omega | ((with_reducible refine y_Vl ?_ ?_) <;> omega) | ((with_reducible refine y_V8 ?_) <;> (first | with_reducible assumption | (unfold y_Tr; omega))) | ((with_reducible refine y_Tr4 ?_ ?_) <;> (first | with_reducible assumption | omega)) | ((with_reducible refine (y_Tr4 ?_ ?_).ty) <;> (first | with_reducible assumption | omega)) | (unfold y_Ty; omega) | (unfold y_Tr; omega))
        · skip
          have e20 : (65535 : Int32).toInt = 65535 := rfl
          have c17' := c17
          rw [← Int32.toInt_inj] at c17'
          have e21 : (1 : Int32).toInt = 1 := rfl
          refine y_some ?_
          try dsimp only
          (first | with_reducible assumption | omega | ((with_reducible refine y_Vl ?_ ?_) <;> omega) | ((with_reducible refine y_V8 ?_) <;> (first | with_reducible assumption | (unfold y_Tr; omega))) | ((with_reducible refine y_Tr4 ?_ ?_) <;> (first | with_reducible assumption | omega)) | ((with_reducible refine (y_Tr4 ?_ ?_).ty) <;> (first | with_reducible assumption | omega)) | (unfold y_Ty; omega) | (unfold y_Tr; omega))
set_option maxHeartbeats 4000000 in
theorem y_X7_mayClassStand_L_0_i {v7_2 : Int32} {g7_0 : Nat → Int32} {g7_1 : Nat → Int32} {l2 : Int32} (k0 : y_Rg 200 0 199 g7_0) (k1 : 0 ≤ l2.toInt) : ∀ (m : Nat) {l3 : Int32} {l4 : Int32}, (0 ≤ l3.toInt) → (l3.toInt < 200) → (0 ≤ l4.toInt) → (l4.toInt ≤ 200) → 200 - l4.toInt < m → y_Ok (f_X7_mayClassStand_L v7_2 g7_0 g7_1 l2 (0, l3, l4)) (fun r => (r.toInt = 0 ∨ r.toInt = 1)) := by
  intro m
  induction m with
  | zero => intro l3 l4 k2 k3 k4 k5 hm; exfalso; omega
  | succ m ih =>
    intro l3 l4 k2 k3 k4 k5 hm
    rw [f_X7_mayClassStand_L]
    refine y_ip rfl ?_
    refine y_if (fun c1 => ?_) (fun c1 => ?_)
    · skip
      have e2 : (200 : Int32).toInt = 200 := rfl
      have c1' := c1
      rw [Int32.le_iff_toInt_le] at c1'
      refine y_if (fun c3 => ?_) (fun c3 => ?_)
      · skip
        have c3' := c3
        rw [← Int32.toInt_inj] at c3'
        have e4 : (1 : Int32).toInt = 1 := rfl
        refine y_some ?_
        try dsimp only
        (first | with_reducible assumption | omega | ((with_reducible refine y_Vl ?_ ?_) <;> omega))
      · skip
        have c3' := c3
        rw [← Int32.toInt_inj] at c3'
        have e5 : (0 : Int32).toInt = 0 := rfl
        refine y_some ?_
        try dsimp only
        (first | with_reducible assumption | omega | ((with_reducible refine y_Vl ?_ ?_) <;> omega))
    · skip
      have e6 : (200 : Int32).toInt = 200 := rfl
      have c1' := c1
      rw [Int32.le_iff_toInt_le] at c1'
      refine y_if (fun c7 => ?_) (fun c7 => ?_)
      · skip
        have c7' := c7
        rw [Int32.le_iff_toInt_le] at c7'
        refine y_if (fun c8 => ?_) (fun c8 => ?_)
        · skip
          have c8' := c8
          rw [← Int32.toInt_inj] at c8'
          have e9 : (1 : Int32).toInt = 1 := rfl
          refine y_some ?_
          try dsimp only
          (first | with_reducible assumption | omega | ((with_reducible refine y_Vl ?_ ?_) <;> omega))
        · skip
          have c8' := c8
          rw [← Int32.toInt_inj] at c8'
          have e10 : (0 : Int32).toInt = 0 := rfl
          refine y_some ?_
          try dsimp only
          (first | with_reducible assumption | omega | ((with_reducible refine y_Vl ?_ ?_) <;> omega))
      · skip
        have c7' := c7
        rw [Int32.le_iff_toInt_le] at c7'
        refine y_gd (y_gdI (by omega) (by omega)) ?_
        try have e11 := @y_cl l3 (by omega)
        try have e12 := k0.at (Int32.toNatClampNeg l3) (by omega)
        try have e13 := @y_addL l4 (1 : Int32) (1) rfl (by omega) (by omega)
        exact ih (l3 := (g7_0 (Int32.toNatClampNeg l3))) (l4 := (l4 + 1)) (by omega) (by omega) (by omega) (by omega) (by omega)
theorem y_X7_mayClassStand_L_0 {v7_2 : Int32} {g7_0 : Nat → Int32} {g7_1 : Nat → Int32} {l2 : Int32} {l3 : Int32} {l4 : Int32} (k0 : y_Rg 200 0 199 g7_0) (k1 : 0 ≤ l2.toInt) (k2 : 0 ≤ l3.toInt) (k3 : l3.toInt < 200) (k4 : 0 ≤ l4.toInt) (k5 : l4.toInt ≤ 200) : y_Ok (f_X7_mayClassStand_L v7_2 g7_0 g7_1 l2 (0, l3, l4)) (fun r => (r.toInt = 0 ∨ r.toInt = 1)) := y_X7_mayClassStand_L_0_i k0 k1 (200 - l4.toInt + 1).toNat k2 k3 k4 k5 (by omega)
set_option maxHeartbeats 4000000 in
theorem y_X7_mayClassStand {v7_2 : Int32} {g7_0 : Nat → Int32} {g7_1 : Nat → Int32} {p1 : Int32} {p2 : Int32} (k0 : 4 ≤ v7_2.toInt) (k1 : v7_2.toInt ≤ 200) (k2 : y_Rg 200 0 199 g7_0) (k3 : 0 ≤ p1.toInt) (k4 : 0 ≤ p2.toInt) : y_Ok (f_X7_mayClassStand v7_2 g7_0 g7_1 p1 p2) (fun r => (r.toInt = 0 ∨ r.toInt = 1)) := by
  unfold f_X7_mayClassStand
  refine y_if (fun c1 => ?_) (fun c1 => ?_)
  · skip
    have c1' := c1
    rw [Int32.le_iff_toInt_le] at c1'
    have e2 : (0 : Int32).toInt = 0 := rfl
    refine y_some ?_
    try dsimp only
    (first | with_reducible assumption | omega | ((with_reducible refine y_Vl ?_ ?_) <;> omega))
  · skip
    have c1' := c1
    rw [Int32.le_iff_toInt_le] at c1'
    refine y_if (fun c3 => ?_) (fun c3 => ?_)
    · skip
      have c3' := c3
      rw [Int32.lt_iff_toInt_lt] at c3'
      refine y_if (fun c4 => ?_) (fun c4 => ?_)
      · skip
        have e5 : (0 : Int32).toInt = 0 := rfl
        have c4' := c4
        rw [← Int32.toInt_inj] at c4'
        have e6 : (1 : Int32).toInt = 1 := rfl
        refine y_some ?_
        try dsimp only
        (first | with_reducible assumption | omega | ((with_reducible refine y_Vl ?_ ?_) <;> omega))
      · skip
        have e7 : (0 : Int32).toInt = 0 := rfl
        have c4' := c4
        rw [← Int32.toInt_inj] at c4'
        refine y_gd (y_gdI (by omega) (by omega)) ?_
        refine y_if (fun c8 => ?_) (fun c8 => ?_)
        · skip
          try have e9 := @y_cl p2 (by omega)
          have c8' := c8
          rw [← Int32.toInt_inj] at c8'
          refine y_Ok.mono (y_X7_mayClassStand_L_0 (l3 := p1) (l4 := 0) (by first | with_reducible assumption | omega | ((with_reducible refine y_Vl ?_ ?_) <;> omega)) (by omega) (by omega) (by omega) (by omega) (by omega)) (fun r_t9 h_r_t9 => ?_)
          (first | with_reducible assumption | omega | ((with_reducible refine y_Vl ?_ ?_) <;> omega))
        · skip
          try have e11 := @y_cl p2 (by omega)
          have c8' := c8
          rw [← Int32.toInt_inj] at c8'
          have e12 : (1 : Int32).toInt = 1 := rfl
          refine y_some ?_
          try dsimp only
          (first | with_reducible assumption | omega | ((with_reducible refine y_Vl ?_ ?_) <;> omega))
    · skip
      have c3' := c3
      rw [Int32.lt_iff_toInt_lt] at c3'
      have e13 : (0 : Int32).toInt = 0 := rfl
      refine y_some ?_
      try dsimp only
      (first | with_reducible assumption | omega | ((with_reducible refine y_Vl ?_ ?_) <;> omega))
set_option maxHeartbeats 4000000 in
theorem y_X7_mayStand {v7_2 : Int32} {g7_0 : Nat → Int32} {g7_1 : Nat → Int32} {p1 : Int32} {p2 : Int32} (k0 : 4 ≤ v7_2.toInt) (k1 : v7_2.toInt ≤ 200) (k2 : y_Rg 200 0 199 g7_0) (k3 : 0 ≤ p1.toInt) (k4 : 0 ≤ p2.toInt) : y_Ok (f_X7_mayStand v7_2 g7_0 g7_1 p1 p2) (fun r => (r.toInt = 0 ∨ r.toInt = 1)) := by
  unfold f_X7_mayStand
  refine y_if (fun c1 => ?_) (fun c1 => ?_)
  · skip
    have c1' := c1
    rw [← Int32.toInt_inj] at c1'
    have e2 : (1 : Int32).toInt = 1 := rfl
    refine y_some ?_
    try dsimp only
    (first | with_reducible assumption | omega | ((with_reducible refine y_Vl ?_ ?_) <;> omega))
  · skip
    have c1' := c1
    rw [← Int32.toInt_inj] at c1'
    refine y_bi (y_X7_isPrimitive) (fun r_2 h_r_2 => ?_)
    have h0_r_2 : (r_2.toInt = 0 ∧ ¬ (65528 ≤ p1.toInt ∧ p1.toInt < 65536)) ∨ (r_2.toInt = 1 ∧ (65528 ≤ p1.toInt ∧ p1.toInt < 65536)) := h_r_2
    refine y_if (fun c3 => ?_) (fun c3 => ?_)
    · skip
      have e4 : (0 : Int32).toInt = 0 := rfl
      have c3' := c3
      rw [← Int32.toInt_inj] at c3'
      have e5 := y_or0 h0_r_2 c3'
      clear h0_r_2
      refine y_bi (y_X7_isPrimitive) (fun r_4 h_r_4 => ?_)
      have h0_r_4 : (r_4.toInt = 0 ∧ ¬ (65528 ≤ p2.toInt ∧ p2.toInt < 65536)) ∨ (r_4.toInt = 1 ∧ (65528 ≤ p2.toInt ∧ p2.toInt < 65536)) := h_r_4
      refine y_if (fun c6 => ?_) (fun c6 => ?_)
      · skip
        have c6' := c6
        rw [← Int32.toInt_inj] at c6'
        have e7 := y_or0 h0_r_4 c6'
        clear h0_r_4
        refine y_bi (y_X7_dimensionsOf (by omega)) (fun r_6 h_r_6 => ?_)
        have h0_r_6 : r_6.toInt = p1.toInt / 65536 := h_r_6
        refine y_bi (y_X7_dimensionsOf (by omega)) (fun r_7 h_r_7 => ?_)
        have h0_r_7 : r_7.toInt = p2.toInt / 65536 := h_r_7
        refine y_if (fun c8 => ?_) (fun c8 => ?_)
        · skip
          try have e9 := @y_sub r_6 r_7 (by omega) (by omega)
          have c8' := c8
          rw [Int32.le_iff_toInt_le] at c8'
          refine y_if (fun c10 => ?_) (fun c10 => ?_)
          · skip
            have c10' := c10
            rw [← Int32.toInt_inj] at c10'
            have e11 := y_and16 p1
            have e12 := y_and16 p2
            refine y_bi (y_X7_mayClassStand (by omega) (by omega) (by first | with_reducible assumption | omega | ((with_reducible refine y_Vl ?_ ?_) <;> omega)) (by omega) (by omega)) (fun r_10 h_r_10 => ?_)
            have h0_r_10 : r_10.toInt = 0 ∨ r_10.toInt = 1 := h_r_10
            refine y_if (fun c13 => ?_) (fun c13 => ?_)
            · skip
              have c13' := c13
              rw [← Int32.toInt_inj] at c13'
              refine y_some ?_
              try dsimp only
              (first | with_reducible assumption | omega | ((with_reducible refine y_Vl ?_ ?_) <;> omega))
            · skip
              have c13' := c13
              rw [← Int32.toInt_inj] at c13'
              have e14 : (1 : Int32).toInt = 1 := rfl
              refine y_some ?_
              try dsimp only
              (first | with_reducible assumption | omega | ((with_reducible refine y_Vl ?_ ?_) <;> omega))
          · skip
            have c10' := c10
            rw [← Int32.toInt_inj] at c10'
            refine y_some ?_
            try dsimp only
            (first | with_reducible assumption | omega | ((with_reducible refine y_Vl ?_ ?_) <;> omega))
        · skip
          try have e15 := @y_sub r_6 r_7 (by omega) (by omega)
          have c8' := c8
          rw [Int32.le_iff_toInt_le] at c8'
          refine y_if (fun c16 => ?_) (fun c16 => ?_)
          · skip
            have e17 := y_and16 p2
            have c16' := c16
            rw [← Int32.toInt_inj] at c16'
            have e18 : (1 : Int32).toInt = 1 := rfl
            refine y_some ?_
            try dsimp only
            (first | with_reducible assumption | omega | ((with_reducible refine y_Vl ?_ ?_) <;> omega))
          · skip
            have e19 := y_and16 p2
            have c16' := c16
            rw [← Int32.toInt_inj] at c16'
            refine y_if (fun c20 => ?_) (fun c20 => ?_)
            · skip
              have e21 : (2 : Int32).toInt = 2 := rfl
              have c20' := c20
              rw [← Int32.toInt_inj] at c20'
              have e22 : (1 : Int32).toInt = 1 := rfl
              refine y_some ?_
              try dsimp only
              (first | with_reducible assumption | omega | ((with_reducible refine y_Vl ?_ ?_) <;> omega))
            · skip
              have e23 : (2 : Int32).toInt = 2 := rfl
              have c20' := c20
              rw [← Int32.toInt_inj] at c20'
              refine y_if (fun c24 => ?_) (fun c24 => ?_)
              · skip
                have e25 : (3 : Int32).toInt = 3 := rfl
                have c24' := c24
                rw [← Int32.toInt_inj] at c24'
                have e26 : (1 : Int32).toInt = 1 := rfl
                refine y_some ?_
                try dsimp only
                (first | with_reducible assumption | omega | ((with_reducible refine y_Vl ?_ ?_) <;> omega))
              · skip
                have e27 : (3 : Int32).toInt = 3 := rfl
                have c24' := c24
                rw [← Int32.toInt_inj] at c24'
                refine y_some ?_
                try dsimp only
                (first | with_reducible assumption | omega | ((with_reducible refine y_Vl ?_ ?_) <;> omega))
      · skip
        have c6' := c6
        rw [← Int32.toInt_inj] at c6'
        have e28 := y_or1 h0_r_4 c6'
        clear h0_r_4
        refine y_some ?_
        try dsimp only
        (first | with_reducible assumption | omega | ((with_reducible refine y_Vl ?_ ?_) <;> omega))
    · skip
      have e29 : (0 : Int32).toInt = 0 := rfl
      have c3' := c3
      rw [← Int32.toInt_inj] at c3'
      have e30 := y_or1 h0_r_2 c3'
      clear h0_r_2
      refine y_some ?_
      try dsimp only
      (first | with_reducible assumption | omega | ((with_reducible refine y_Vl ?_ ?_) <;> omega))
set_option maxHeartbeats 4000000 in
theorem y_X7_sharedOf_L_0_i {v7_2 : Int32} {g7_0 : Nat → Int32} {l5 : Int32} (k0 : y_Rg 200 0 199 g7_0) (k1 : 0 ≤ l5.toInt) (k2 : l5.toInt ≤ 255) : ∀ (m : Nat) {l3 : Int32} {l4 : Int32} {l7 : Int32}, (0 ≤ l3.toInt) → (l3.toInt < 200) → (0 ≤ l4.toInt) → (l4.toInt < 200) → (0 ≤ l7.toInt) → (l7.toInt ≤ 400) → 400 - l7.toInt < m → y_Ok (f_X7_sharedOf_L v7_2 g7_0 l5 (0, l3, l4, l7)) (fun r => (0 ≤ r.toInt) ∧ (r.toInt < 16777216) ∧ (r.toInt % 65536 < 200 ∨ 65528 ≤ r.toInt % 65536) ∧ (¬ (65528 ≤ r.toInt ∧ r.toInt < 65536))) := by
  intro m
  induction m with
  | zero => intro l3 l4 l7 k3 k4 k5 k6 k7 k8 hm; exfalso; omega
  | succ m ih =>
    intro l3 l4 l7 k3 k4 k5 k6 k7 k8 hm
    rw [f_X7_sharedOf_L]
    refine y_ip rfl ?_
    refine y_if (fun c1 => ?_) (fun c1 => ?_)
    · skip
      have e2 : (400 : Int32).toInt = 400 := rfl
      have c1' := c1
      rw [Int32.le_iff_toInt_le] at c1'
      try have e3 := @y_shl16 l5 (by omega) (by omega)
      try have e4 := @y_add (l5 <<< (16 &&& 31)) l3 (by omega) (by omega)
      refine y_some ?_
      try dsimp only
      refine ⟨?_, ?_, ?_, ?_⟩ <;> (first | with_reducible assumption | omega | ((with_reducible refine y_Vl ?_ ?_) <;> omega))
    · skip
      have e5 : (400 : Int32).toInt = 400 := rfl
      have c1' := c1
      rw [Int32.le_iff_toInt_le] at c1'
      refine y_if (fun c6 => ?_) (fun c6 => ?_)
      · skip
        have c6' := c6
        rw [← Int32.toInt_inj] at c6'
        try have e7 := @y_shl16 l5 (by omega) (by omega)
        try have e8 := @y_add (l5 <<< (16 &&& 31)) l3 (by omega) (by omega)
        refine y_some ?_
        try dsimp only
        refine ⟨?_, ?_, ?_, ?_⟩ <;> (first | with_reducible assumption | omega | ((with_reducible refine y_Vl ?_ ?_) <;> omega))
      · skip
        have c6' := c6
        rw [← Int32.toInt_inj] at c6'
        refine y_if (fun c9 => ?_) (fun c9 => ?_)
        · skip
          have c9' := c9
          rw [Int32.le_iff_toInt_le] at c9'
          refine y_gd (y_gdI (by omega) (by omega)) ?_
          try have e10 := @y_cl l4 (by omega)
          try have e11 := k0.at (Int32.toNatClampNeg l4) (by omega)
          try have e12 := @y_addL l7 (1 : Int32) (1) rfl (by omega) (by omega)
          exact ih (l3 := l3) (l4 := (g7_0 (Int32.toNatClampNeg l4))) (l7 := (l7 + 1)) (by omega) (by omega) (by omega) (by omega) (by omega) (by omega) (by omega)
        · skip
          have c9' := c9
          rw [Int32.le_iff_toInt_le] at c9'
          refine y_gd (y_gdI (by omega) (by omega)) ?_
          try have e13 := @y_cl l3 (by omega)
          try have e14 := k0.at (Int32.toNatClampNeg l3) (by omega)
          try have e15 := @y_addL l7 (1 : Int32) (1) rfl (by omega) (by omega)
          exact ih (l3 := (g7_0 (Int32.toNatClampNeg l3))) (l4 := l4) (l7 := (l7 + 1)) (by omega) (by omega) (by omega) (by omega) (by omega) (by omega) (by omega)
theorem y_X7_sharedOf_L_0 {v7_2 : Int32} {g7_0 : Nat → Int32} {l5 : Int32} {l3 : Int32} {l4 : Int32} {l7 : Int32} (k0 : y_Rg 200 0 199 g7_0) (k1 : 0 ≤ l5.toInt) (k2 : l5.toInt ≤ 255) (k3 : 0 ≤ l3.toInt) (k4 : l3.toInt < 200) (k5 : 0 ≤ l4.toInt) (k6 : l4.toInt < 200) (k7 : 0 ≤ l7.toInt) (k8 : l7.toInt ≤ 400) : y_Ok (f_X7_sharedOf_L v7_2 g7_0 l5 (0, l3, l4, l7)) (fun r => (0 ≤ r.toInt) ∧ (r.toInt < 16777216) ∧ (r.toInt % 65536 < 200 ∨ 65528 ≤ r.toInt % 65536) ∧ (¬ (65528 ≤ r.toInt ∧ r.toInt < 65536))) := y_X7_sharedOf_L_0_i k0 k1 k2 (400 - l7.toInt + 1).toNat k3 k4 k5 k6 k7 k8 (by omega)
set_option maxHeartbeats 4000000 in
theorem y_X7_sharedOf {v7_2 : Int32} {g7_0 : Nat → Int32} {p1 : Int32} {p2 : Int32} (k0 : 4 ≤ v7_2.toInt) (k1 : v7_2.toInt ≤ 200) (k2 : y_Rg 200 0 199 g7_0) (k3 : y_Tr p1) (k4 : y_Tr p2) : y_Ok (f_X7_sharedOf v7_2 g7_0 p1 p2) (fun r => (0 ≤ r.toInt) ∧ (r.toInt < 16777216) ∧ (r.toInt % 65536 < 200 ∨ 65528 ≤ r.toInt % 65536) ∧ (¬ (65528 ≤ r.toInt ∧ r.toInt < 65536))) := by
  have u1 := k3
  have u2 := k4
  unfold y_Tr at u1 u2
  unfold f_X7_sharedOf
  refine y_if (fun c1 => ?_) (fun c1 => ?_)
  · skip
    have c1' := c1
    rw [← Int32.toInt_inj] at c1'
    refine y_some ?_
    try dsimp only
    refine ⟨?_, ?_, ?_, ?_⟩ <;> (first | with_reducible assumption | omega | ((with_reducible refine y_Vl ?_ ?_) <;> omega))
  · skip
    have c1' := c1
    rw [← Int32.toInt_inj] at c1'
    refine y_bi (y_X7_dimensionsOf (by omega)) (fun r_7 h_r_7 => ?_)
    have h0_r_7 : r_7.toInt = p1.toInt / 65536 := h_r_7
    refine y_bi (y_X7_dimensionsOf (by omega)) (fun r_8 h_r_8 => ?_)
    have h0_r_8 : r_8.toInt = p2.toInt / 65536 := h_r_8
    refine y_if (fun c2 => ?_) (fun c2 => ?_)
    · skip
      have c2' := c2
      rw [← Int32.toInt_inj] at c2'
      refine y_if (fun c3 => ?_) (fun c3 => ?_)
      · skip
        have e4 := y_and16 p1
        have c3' := c3
        rw [Int32.le_iff_toInt_le] at c3'
        refine y_if (fun c5 => ?_) (fun c5 => ?_)
        · skip
          have e6 : (65528 : Int32).toInt = 65528 := rfl
          have c5' := c5
          rw [Int32.le_iff_toInt_le] at c5'
          refine y_if (fun c7 => ?_) (fun c7 => ?_)
          · skip
            have e8 := y_and16 p2
            have c7' := c7
            rw [Int32.le_iff_toInt_le] at c7'
            refine y_if (fun c9 => ?_) (fun c9 => ?_)
            · skip
              try have e10 := @y_subL r_8 (1 : Int32) (1) rfl (by omega) (by omega)
              try have e11 := @y_subL r_7 (1 : Int32) (1) rfl (by omega) (by omega)
              have c9' := c9
              rw [Int32.le_iff_toInt_le] at c9'
              try have e12 := @y_shl16 (r_8 - (1 : Int32)) (by omega) (by omega)
              refine y_some ?_
              try dsimp only
              refine ⟨?_, ?_, ?_, ?_⟩ <;> (first | with_reducible assumption | omega | ((with_reducible refine y_Vl ?_ ?_) <;> omega))
            · skip
              try have e13 := @y_subL r_8 (1 : Int32) (1) rfl (by omega) (by omega)
              try have e14 := @y_subL r_7 (1 : Int32) (1) rfl (by omega) (by omega)
              have c9' := c9
              rw [Int32.le_iff_toInt_le] at c9'
              try have e15 := @y_shl16 (r_7 - (1 : Int32)) (by omega) (by omega)
              refine y_some ?_
              try dsimp only
              refine ⟨?_, ?_, ?_, ?_⟩ <;> (first | with_reducible assumption | omega | ((with_reducible refine y_Vl ?_ ?_) <;> omega))
          · skip
            have e16 := y_and16 p2
            have c7' := c7
            rw [Int32.le_iff_toInt_le] at c7'
            refine y_if (fun c17 => ?_) (fun c17 => ?_)
            · skip
              try have e18 := @y_subL r_7 (1 : Int32) (1) rfl (by omega) (by omega)
              have c17' := c17
              rw [Int32.le_iff_toInt_le] at c17'
              try have e19 := @y_shl16 r_8 (by omega) (by omega)
              refine y_some ?_
              try dsimp only
              refine ⟨?_, ?_, ?_, ?_⟩ <;> (first | with_reducible assumption | omega | ((with_reducible refine y_Vl ?_ ?_) <;> omega))
            · skip
              try have e20 := @y_subL r_7 (1 : Int32) (1) rfl (by omega) (by omega)
              have c17' := c17
              rw [Int32.le_iff_toInt_le] at c17'
              try have e21 := @y_shl16 (r_7 - (1 : Int32)) (by omega) (by omega)
              refine y_some ?_
              try dsimp only
              refine ⟨?_, ?_, ?_, ?_⟩ <;> (first | with_reducible assumption | omega | ((with_reducible refine y_Vl ?_ ?_) <;> omega))
        · skip
          have e22 : (65528 : Int32).toInt = 65528 := rfl
          have c5' := c5
          rw [Int32.le_iff_toInt_le] at c5'
          refine y_if (fun c23 => ?_) (fun c23 => ?_)
          · skip
            have e24 := y_and16 p2
            have c23' := c23
            rw [Int32.le_iff_toInt_le] at c23'
            refine y_if (fun c25 => ?_) (fun c25 => ?_)
            · skip
              try have e26 := @y_subL r_8 (1 : Int32) (1) rfl (by omega) (by omega)
              have c25' := c25
              rw [Int32.le_iff_toInt_le] at c25'
              try have e27 := @y_shl16 (r_8 - (1 : Int32)) (by omega) (by omega)
              refine y_some ?_
              try dsimp only
              refine ⟨?_, ?_, ?_, ?_⟩ <;> (first | with_reducible assumption | omega | ((with_reducible refine y_Vl ?_ ?_) <;> omega))
            · skip
              try have e28 := @y_subL r_8 (1 : Int32) (1) rfl (by omega) (by omega)
              have c25' := c25
              rw [Int32.le_iff_toInt_le] at c25'
              try have e29 := @y_shl16 r_7 (by omega) (by omega)
              refine y_some ?_
              try dsimp only
              refine ⟨?_, ?_, ?_, ?_⟩ <;> (first | with_reducible assumption | omega | ((with_reducible refine y_Vl ?_ ?_) <;> omega))
          · skip
            have e30 := y_and16 p2
            have c23' := c23
            rw [Int32.le_iff_toInt_le] at c23'
            refine y_if (fun c31 => ?_) (fun c31 => ?_)
            · skip
              have c31' := c31
              rw [Int32.le_iff_toInt_le] at c31'
              try have e32 := @y_shl16 r_8 (by omega) (by omega)
              refine y_some ?_
              try dsimp only
              refine ⟨?_, ?_, ?_, ?_⟩ <;> (first | with_reducible assumption | omega | ((with_reducible refine y_Vl ?_ ?_) <;> omega))
            · skip
              have c31' := c31
              rw [Int32.le_iff_toInt_le] at c31'
              try have e33 := @y_shl16 r_7 (by omega) (by omega)
              refine y_some ?_
              try dsimp only
              refine ⟨?_, ?_, ?_, ?_⟩ <;> (first | with_reducible assumption | omega | ((with_reducible refine y_Vl ?_ ?_) <;> omega))
      · skip
        have e34 := y_and16 p1
        have c3' := c3
        rw [Int32.le_iff_toInt_le] at c3'
        refine y_if (fun c35 => ?_) (fun c35 => ?_)
        · skip
          have e36 := y_and16 p2
          have c35' := c35
          rw [Int32.lt_iff_toInt_lt] at c35'
          have e37 : (0 : Int32).toInt = 0 := rfl
          refine y_Ok.mono (y_X7_sharedOf_L_0 (l3 := (p1 &&& 65535)) (l4 := (p2 &&& 65535)) (l7 := 0) (by first | with_reducible assumption | omega | ((with_reducible refine y_Vl ?_ ?_) <;> omega)) (by omega) (by omega) (by omega) (by omega) (by omega) (by omega) (by omega) (by omega)) (fun r_t37 h_r_t37 => ?_)
          obtain ⟨h0_r_t37, h1_r_t37, h2_r_t37, h3_r_t37⟩ := h_r_t37
          refine ⟨?_, ?_, ?_, ?_⟩ <;> (first | with_reducible assumption | omega | ((with_reducible refine y_Vl ?_ ?_) <;> omega))
        · skip
          have e39 := y_and16 p2
          have c35' := c35
          rw [Int32.lt_iff_toInt_lt] at c35'
          refine y_if (fun c40 => ?_) (fun c40 => ?_)
          · skip
            have e41 : (65528 : Int32).toInt = 65528 := rfl
            have c40' := c40
            rw [Int32.le_iff_toInt_le] at c40'
            refine y_if (fun c42 => ?_) (fun c42 => ?_)
            · skip
              have c42' := c42
              rw [Int32.le_iff_toInt_le] at c42'
              refine y_if (fun c43 => ?_) (fun c43 => ?_)
              · skip
                try have e44 := @y_subL r_8 (1 : Int32) (1) rfl (by omega) (by omega)
                try have e45 := @y_subL r_7 (1 : Int32) (1) rfl (by omega) (by omega)
                have c43' := c43
                rw [Int32.le_iff_toInt_le] at c43'
                try have e46 := @y_shl16 (r_8 - (1 : Int32)) (by omega) (by omega)
                refine y_some ?_
                try dsimp only
                refine ⟨?_, ?_, ?_, ?_⟩ <;> (first | with_reducible assumption | omega | ((with_reducible refine y_Vl ?_ ?_) <;> omega))
              · skip
                try have e47 := @y_subL r_8 (1 : Int32) (1) rfl (by omega) (by omega)
                try have e48 := @y_subL r_7 (1 : Int32) (1) rfl (by omega) (by omega)
                have c43' := c43
                rw [Int32.le_iff_toInt_le] at c43'
                try have e49 := @y_shl16 (r_7 - (1 : Int32)) (by omega) (by omega)
                refine y_some ?_
                try dsimp only
                refine ⟨?_, ?_, ?_, ?_⟩ <;> (first | with_reducible assumption | omega | ((with_reducible refine y_Vl ?_ ?_) <;> omega))
            · skip
              have c42' := c42
              rw [Int32.le_iff_toInt_le] at c42'
              refine y_if (fun c50 => ?_) (fun c50 => ?_)
              · skip
                try have e51 := @y_subL r_7 (1 : Int32) (1) rfl (by omega) (by omega)
                have c50' := c50
                rw [Int32.le_iff_toInt_le] at c50'
                try have e52 := @y_shl16 r_8 (by omega) (by omega)
                refine y_some ?_
                try dsimp only
                refine ⟨?_, ?_, ?_, ?_⟩ <;> (first | with_reducible assumption | omega | ((with_reducible refine y_Vl ?_ ?_) <;> omega))
              · skip
                try have e53 := @y_subL r_7 (1 : Int32) (1) rfl (by omega) (by omega)
                have c50' := c50
                rw [Int32.le_iff_toInt_le] at c50'
                try have e54 := @y_shl16 (r_7 - (1 : Int32)) (by omega) (by omega)
                refine y_some ?_
                try dsimp only
                refine ⟨?_, ?_, ?_, ?_⟩ <;> (first | with_reducible assumption | omega | ((with_reducible refine y_Vl ?_ ?_) <;> omega))
          · skip
            have e55 : (65528 : Int32).toInt = 65528 := rfl
            have c40' := c40
            rw [Int32.le_iff_toInt_le] at c40'
            refine y_if (fun c56 => ?_) (fun c56 => ?_)
            · skip
              have c56' := c56
              rw [Int32.le_iff_toInt_le] at c56'
              refine y_if (fun c57 => ?_) (fun c57 => ?_)
              · skip
                try have e58 := @y_subL r_8 (1 : Int32) (1) rfl (by omega) (by omega)
                have c57' := c57
                rw [Int32.le_iff_toInt_le] at c57'
                try have e59 := @y_shl16 (r_8 - (1 : Int32)) (by omega) (by omega)
                refine y_some ?_
                try dsimp only
                refine ⟨?_, ?_, ?_, ?_⟩ <;> (first | with_reducible assumption | omega | ((with_reducible refine y_Vl ?_ ?_) <;> omega))
              · skip
                try have e60 := @y_subL r_8 (1 : Int32) (1) rfl (by omega) (by omega)
                have c57' := c57
                rw [Int32.le_iff_toInt_le] at c57'
                try have e61 := @y_shl16 r_7 (by omega) (by omega)
                refine y_some ?_
                try dsimp only
                refine ⟨?_, ?_, ?_, ?_⟩ <;> (first | with_reducible assumption | omega | ((with_reducible refine y_Vl ?_ ?_) <;> omega))
            · skip
              have c56' := c56
              rw [Int32.le_iff_toInt_le] at c56'
              refine y_if (fun c62 => ?_) (fun c62 => ?_)
              · skip
                have c62' := c62
                rw [Int32.le_iff_toInt_le] at c62'
                try have e63 := @y_shl16 r_8 (by omega) (by omega)
                refine y_some ?_
                try dsimp only
                refine ⟨?_, ?_, ?_, ?_⟩ <;> (first | with_reducible assumption | omega | ((with_reducible refine y_Vl ?_ ?_) <;> omega))
              · skip
                have c62' := c62
                rw [Int32.le_iff_toInt_le] at c62'
                try have e64 := @y_shl16 r_7 (by omega) (by omega)
                refine y_some ?_
                try dsimp only
                refine ⟨?_, ?_, ?_, ?_⟩ <;> (first | with_reducible assumption | omega | ((with_reducible refine y_Vl ?_ ?_) <;> omega))
    · skip
      have c2' := c2
      rw [← Int32.toInt_inj] at c2'
      refine y_if (fun c65 => ?_) (fun c65 => ?_)
      · skip
        have e66 : (65528 : Int32).toInt = 65528 := rfl
        have e67 := y_and16 p1
        have c65' := c65
        rw [Int32.le_iff_toInt_le] at c65'
        refine y_if (fun c68 => ?_) (fun c68 => ?_)
        · skip
          have e69 := y_and16 p2
          have c68' := c68
          rw [Int32.le_iff_toInt_le] at c68'
          refine y_if (fun c70 => ?_) (fun c70 => ?_)
          · skip
            try have e71 := @y_subL r_8 (1 : Int32) (1) rfl (by omega) (by omega)
            try have e72 := @y_subL r_7 (1 : Int32) (1) rfl (by omega) (by omega)
            have c70' := c70
            rw [Int32.le_iff_toInt_le] at c70'
            try have e73 := @y_shl16 (r_8 - (1 : Int32)) (by omega) (by omega)
            refine y_some ?_
            try dsimp only
            refine ⟨?_, ?_, ?_, ?_⟩ <;> (first | with_reducible assumption | omega | ((with_reducible refine y_Vl ?_ ?_) <;> omega))
          · skip
            try have e74 := @y_subL r_8 (1 : Int32) (1) rfl (by omega) (by omega)
            try have e75 := @y_subL r_7 (1 : Int32) (1) rfl (by omega) (by omega)
            have c70' := c70
            rw [Int32.le_iff_toInt_le] at c70'
            try have e76 := @y_shl16 (r_7 - (1 : Int32)) (by omega) (by omega)
            refine y_some ?_
            try dsimp only
            refine ⟨?_, ?_, ?_, ?_⟩ <;> (first | with_reducible assumption | omega | ((with_reducible refine y_Vl ?_ ?_) <;> omega))
        · skip
          have e77 := y_and16 p2
          have c68' := c68
          rw [Int32.le_iff_toInt_le] at c68'
          refine y_if (fun c78 => ?_) (fun c78 => ?_)
          · skip
            try have e79 := @y_subL r_7 (1 : Int32) (1) rfl (by omega) (by omega)
            have c78' := c78
            rw [Int32.le_iff_toInt_le] at c78'
            try have e80 := @y_shl16 r_8 (by omega) (by omega)
            refine y_some ?_
            try dsimp only
            refine ⟨?_, ?_, ?_, ?_⟩ <;> (first | with_reducible assumption | omega | ((with_reducible refine y_Vl ?_ ?_) <;> omega))
          · skip
            try have e81 := @y_subL r_7 (1 : Int32) (1) rfl (by omega) (by omega)
            have c78' := c78
            rw [Int32.le_iff_toInt_le] at c78'
            try have e82 := @y_shl16 (r_7 - (1 : Int32)) (by omega) (by omega)
            refine y_some ?_
            try dsimp only
            refine ⟨?_, ?_, ?_, ?_⟩ <;> (first | with_reducible assumption | omega | ((with_reducible refine y_Vl ?_ ?_) <;> omega))
      · skip
        have e83 : (65528 : Int32).toInt = 65528 := rfl
        have e84 := y_and16 p1
        have c65' := c65
        rw [Int32.le_iff_toInt_le] at c65'
        refine y_if (fun c85 => ?_) (fun c85 => ?_)
        · skip
          have e86 := y_and16 p2
          have c85' := c85
          rw [Int32.le_iff_toInt_le] at c85'
          refine y_if (fun c87 => ?_) (fun c87 => ?_)
          · skip
            try have e88 := @y_subL r_8 (1 : Int32) (1) rfl (by omega) (by omega)
            have c87' := c87
            rw [Int32.le_iff_toInt_le] at c87'
            try have e89 := @y_shl16 (r_8 - (1 : Int32)) (by omega) (by omega)
            refine y_some ?_
            try dsimp only
            refine ⟨?_, ?_, ?_, ?_⟩ <;> (first | with_reducible assumption | omega | ((with_reducible refine y_Vl ?_ ?_) <;> omega))
          · skip
            try have e90 := @y_subL r_8 (1 : Int32) (1) rfl (by omega) (by omega)
            have c87' := c87
            rw [Int32.le_iff_toInt_le] at c87'
            try have e91 := @y_shl16 r_7 (by omega) (by omega)
            refine y_some ?_
            try dsimp only
            refine ⟨?_, ?_, ?_, ?_⟩ <;> (first | with_reducible assumption | omega | ((with_reducible refine y_Vl ?_ ?_) <;> omega))
        · skip
          have e92 := y_and16 p2
          have c85' := c85
          rw [Int32.le_iff_toInt_le] at c85'
          refine y_if (fun c93 => ?_) (fun c93 => ?_)
          · skip
            have c93' := c93
            rw [Int32.le_iff_toInt_le] at c93'
            try have e94 := @y_shl16 r_8 (by omega) (by omega)
            refine y_some ?_
            try dsimp only
            refine ⟨?_, ?_, ?_, ?_⟩ <;> (first | with_reducible assumption | omega | ((with_reducible refine y_Vl ?_ ?_) <;> omega))
          · skip
            have c93' := c93
            rw [Int32.le_iff_toInt_le] at c93'
            try have e95 := @y_shl16 r_7 (by omega) (by omega)
            refine y_some ?_
            try dsimp only
            refine ⟨?_, ?_, ?_, ?_⟩ <;> (first | with_reducible assumption | omega | ((with_reducible refine y_Vl ?_ ?_) <;> omega))
set_option maxHeartbeats 4000000 in
theorem y_X7_meet {v7_2 : Int32} {g7_0 : Nat → Int32} {p1 : Int32} {p2 : Int32} (k0 : 4 ≤ v7_2.toInt) (k1 : v7_2.toInt ≤ 200) (k2 : y_Rg 200 0 199 g7_0) (k3 : y_V p1) (k4 : y_V p2) : y_Ok (f_X7_meet v7_2 g7_0 p1 p2) (fun r => (y_V r)) := by
  unfold f_X7_meet
  refine y_if (fun c1 => ?_) (fun c1 => ?_)
  · skip
    have c1' := c1
    rw [← Int32.toInt_inj] at c1'
    refine y_some ?_
    try dsimp only
    (first | with_reducible assumption | omega | ((with_reducible refine y_Vl ?_ ?_) <;> omega) | ((with_reducible refine y_V8 ?_) <;> (first | with_reducible assumption | (unfold y_Tr; omega))) | ((with_reducible refine y_Tr4 ?_ ?_) <;> (first | with_reducible assumption | omega)) | ((with_reducible refine (y_Tr4 ?_ ?_).ty) <;> (first | with_reducible assumption | omega)) | (unfold y_Ty; omega) | (unfold y_Tr; omega))
  · skip
    have c1' := c1
    rw [← Int32.toInt_inj] at c1'
    refine y_if (fun c2 => ?_) (fun c2 => ?_)
    · skip
      have e3 := y_and4 p1
      have e4 : (8 : Int32).toInt = 8 := rfl
      have c2' := c2
      rw [← Int32.toInt_inj] at c2'
      refine y_if (fun c5 => ?_) (fun c5 => ?_)
      · skip
        have e6 := y_and4 p2
        have c5' := c5
        rw [← Int32.toInt_inj] at c5'
        have e7 := y_sar4 p1
        have e8 := y_sar4 p2
        refine y_bi (y_X7_sharedOf (by omega) (by omega) (by first | with_reducible assumption | omega | ((with_reducible refine y_Vl ?_ ?_) <;> omega) | ((with_reducible refine y_V8 ?_) <;> (first | with_reducible assumption | (unfold y_Tr; omega))) | ((with_reducible refine y_Tr4 ?_ ?_) <;> (first | with_reducible assumption | omega)) | ((with_reducible refine (y_Tr4 ?_ ?_).ty) <;> (first | with_reducible assumption | omega)) | (unfold y_Ty; omega) | (unfold y_Tr; omega)) (by first | with_reducible assumption | omega | ((with_reducible refine y_Vl ?_ ?_) <;> omega) | ((with_reducible refine y_V8 ?_) <;> (first | with_reducible assumption | (unfold y_Tr; omega))) | ((with_reducible refine y_Tr4 ?_ ?_) <;> (first | with_reducible assumption | omega)) | ((with_reducible refine (y_Tr4 ?_ ?_).ty) <;> (first | with_reducible assumption | omega)) | (unfold y_Ty; omega) | (unfold y_Tr; omega)) (by first | with_reducible assumption | omega | ((with_reducible refine y_Vl ?_ ?_) <;> omega) | ((with_reducible refine y_V8 ?_) <;> (first | with_reducible assumption | (unfold y_Tr; omega))) | ((with_reducible refine y_Tr4 ?_ ?_) <;> (first | with_reducible assumption | omega)) | ((with_reducible refine (y_Tr4 ?_ ?_).ty) <;> (first | with_reducible assumption | omega)) | (unfold y_Ty; omega) | (unfold y_Tr; omega))) (fun r_27 h_r_27 => ?_)
        obtain ⟨h0_r_27, h1_r_27, h2_r_27, h3_r_27⟩ := h_r_27
        have e9 : (16 : Int32).toInt = 16 := rfl
        try have e10 := @y_mulL (16 : Int32) r_27 16 rfl (by omega) (by omega)
        try have e11 := @y_addL ((16 : Int32) * r_27) (8 : Int32) (8) rfl (by omega) (by omega)
        refine y_some ?_
        try dsimp only
        (first | with_reducible assumption | omega | ((with_reducible refine y_Vl ?_ ?_) <;> omega) | ((with_reducible refine y_V8 ?_) <;> (first | with_reducible assumption | (unfold y_Tr; omega))) | ((with_reducible refine y_Tr4 ?_ ?_) <;> (first | with_reducible assumption | omega)) | ((with_reducible refine (y_Tr4 ?_ ?_).ty) <;> (first | with_reducible assumption | omega)) | (unfold y_Ty; omega) | (unfold y_Tr; omega))
      · skip
        have e12 := y_and4 p2
        have c5' := c5
        rw [← Int32.toInt_inj] at c5'
        refine y_if (fun c13 => ?_) (fun c13 => ?_)
        · skip
          have e14 : (5 : Int32).toInt = 5 := rfl
          have c13' := c13
          rw [← Int32.toInt_inj] at c13'
          refine y_if (fun c15 => ?_) (fun c15 => ?_)
          · skip
            have c15' := c15
            rw [← Int32.toInt_inj] at c15'
            refine y_some ?_
            try dsimp only
            (first | with_reducible assumption | omega | ((with_reducible refine y_Vl ?_ ?_) <;> omega) | ((with_reducible refine y_V8 ?_) <;> (first | with_reducible assumption | (unfold y_Tr; omega))) | ((with_reducible refine y_Tr4 ?_ ?_) <;> (first | with_reducible assumption | omega)) | ((with_reducible refine (y_Tr4 ?_ ?_).ty) <;> (first | with_reducible assumption | omega)) | (unfold y_Ty; omega) | (unfold y_Tr; omega))
          · skip
            have c15' := c15
            rw [← Int32.toInt_inj] at c15'
            have e16 : (0 : Int32).toInt = 0 := rfl
            refine y_some ?_
            try dsimp only
            (first | with_reducible assumption | omega | ((with_reducible refine y_Vl ?_ ?_) <;> omega) | ((with_reducible refine y_V8 ?_) <;> (first | with_reducible assumption | (unfold y_Tr; omega))) | ((with_reducible refine y_Tr4 ?_ ?_) <;> (first | with_reducible assumption | omega)) | ((with_reducible refine (y_Tr4 ?_ ?_).ty) <;> (first | with_reducible assumption | omega)) | (unfold y_Ty; omega) | (unfold y_Tr; omega))
        · skip
          have e17 : (5 : Int32).toInt = 5 := rfl
          have c13' := c13
          rw [← Int32.toInt_inj] at c13'
          refine y_if (fun c18 => ?_) (fun c18 => ?_)
          · skip
            have c18' := c18
            rw [← Int32.toInt_inj] at c18'
            refine y_some ?_
            try dsimp only
            (first | with_reducible assumption | omega | ((with_reducible refine y_Vl ?_ ?_) <;> omega) | ((with_reducible refine y_V8 ?_) <;> (first | with_reducible assumption | (unfold y_Tr; omega))) | ((with_reducible refine y_Tr4 ?_ ?_) <;> (first | with_reducible assumption | omega)) | ((with_reducible refine (y_Tr4 ?_ ?_).ty) <;> (first | with_reducible assumption | omega)) | (unfold y_Ty; omega) | (unfold y_Tr; omega))
          · skip
            have c18' := c18
            rw [← Int32.toInt_inj] at c18'
            have e19 : (0 : Int32).toInt = 0 := rfl
            refine y_some ?_
            try dsimp only
            (first | with_reducible assumption | omega | ((with_reducible refine y_Vl ?_ ?_) <;> omega) | ((with_reducible refine y_V8 ?_) <;> (first | with_reducible assumption | (unfold y_Tr; omega))) | ((with_reducible refine y_Tr4 ?_ ?_) <;> (first | with_reducible assumption | omega)) | ((with_reducible refine (y_Tr4 ?_ ?_).ty) <;> (first | with_reducible assumption | omega)) | (unfold y_Ty; omega) | (unfold y_Tr; omega))
    · skip
      have e20 := y_and4 p1
      have e21 : (8 : Int32).toInt = 8 := rfl
      have c2' := c2
      rw [← Int32.toInt_inj] at c2'
      refine y_if (fun c22 => ?_) (fun c22 => ?_)
      · skip
        have e23 := y_and4 p2
        have c22' := c22
        rw [← Int32.toInt_inj] at c22'
        refine y_if (fun c24 => ?_) (fun c24 => ?_)
        · skip
          have e25 : (5 : Int32).toInt = 5 := rfl
          have c24' := c24
          rw [← Int32.toInt_inj] at c24'
          refine y_some ?_
          try dsimp only
          (first | with_reducible assumption | omega | ((with_reducible refine y_Vl ?_ ?_) <;> omega) | ((with_reducible refine y_V8 ?_) <;> (first | with_reducible assumption | (unfold y_Tr; omega))) | ((with_reducible refine y_Tr4 ?_ ?_) <;> (first | with_reducible assumption | omega)) | ((with_reducible refine (y_Tr4 ?_ ?_).ty) <;> (first | with_reducible assumption | omega)) | (unfold y_Ty; omega) | (unfold y_Tr; omega))
        · skip
          have e26 : (5 : Int32).toInt = 5 := rfl
          have c24' := c24
          rw [← Int32.toInt_inj] at c24'
          refine y_if (fun c27 => ?_) (fun c27 => ?_)
          · skip
            have c27' := c27
            rw [← Int32.toInt_inj] at c27'
            have e28 : (0 : Int32).toInt = 0 := rfl
            refine y_some ?_
            try dsimp only
            (first | with_reducible assumption | omega | ((with_reducible refine y_Vl ?_ ?_) <;> omega) | ((with_reducible refine y_V8 ?_) <;> (first | with_reducible assumption | (unfold y_Tr; omega))) | ((with_reducible refine y_Tr4 ?_ ?_) <;> (first | with_reducible assumption | omega)) | ((with_reducible refine (y_Tr4 ?_ ?_).ty) <;> (first | with_reducible assumption | omega)) | (unfold y_Ty; omega) | (unfold y_Tr; omega))
          · skip
            have c27' := c27
            rw [← Int32.toInt_inj] at c27'
            have e29 : (0 : Int32).toInt = 0 := rfl
            refine y_some ?_
            try dsimp only
            (first | with_reducible assumption | omega | ((with_reducible refine y_Vl ?_ ?_) <;> omega) | ((with_reducible refine y_V8 ?_) <;> (first | with_reducible assumption | (unfold y_Tr; omega))) | ((with_reducible refine y_Tr4 ?_ ?_) <;> (first | with_reducible assumption | omega)) | ((with_reducible refine (y_Tr4 ?_ ?_).ty) <;> (first | with_reducible assumption | omega)) | (unfold y_Ty; omega) | (unfold y_Tr; omega))
      · skip
        have e30 := y_and4 p2
        have c22' := c22
        rw [← Int32.toInt_inj] at c22'
        refine y_if (fun c31 => ?_) (fun c31 => ?_)
        · skip
          have e32 : (5 : Int32).toInt = 5 := rfl
          have c31' := c31
          rw [← Int32.toInt_inj] at c31'
          refine y_if (fun c33 => ?_) (fun c33 => ?_)
          · skip
            have c33' := c33
            rw [← Int32.toInt_inj] at c33'
            have e34 : (0 : Int32).toInt = 0 := rfl
            refine y_some ?_
            try dsimp only
            (first | with_reducible assumption | omega | ((with_reducible refine y_Vl ?_ ?_) <;> omega) | ((with_reducible refine y_V8 ?_) <;> (first | with_reducible assumption | (unfold y_Tr; omega))) | ((with_reducible refine y_Tr4 ?_ ?_) <;> (first | with_reducible assumption | omega)) | ((with_reducible refine (y_Tr4 ?_ ?_).ty) <;> (first | with_reducible assumption | omega)) | (unfold y_Ty; omega) | (unfold y_Tr; omega))
          · skip
            have c33' := c33
            rw [← Int32.toInt_inj] at c33'
            have e35 : (0 : Int32).toInt = 0 := rfl
            refine y_some ?_
            try dsimp only
            (first | with_reducible assumption | omega | ((with_reducible refine y_Vl ?_ ?_) <;> omega) | ((with_reducible refine y_V8 ?_) <;> (first | with_reducible assumption | (unfold y_Tr; omega))) | ((with_reducible refine y_Tr4 ?_ ?_) <;> (first | with_reducible assumption | omega)) | ((with_reducible refine (y_Tr4 ?_ ?_).ty) <;> (first | with_reducible assumption | omega)) | (unfold y_Ty; omega) | (unfold y_Tr; omega))
        · skip
          have e36 : (5 : Int32).toInt = 5 := rfl
          have c31' := c31
          rw [← Int32.toInt_inj] at c31'
          refine y_if (fun c37 => ?_) (fun c37 => ?_)
          · skip
            have c37' := c37
            rw [← Int32.toInt_inj] at c37'
            have e38 : (0 : Int32).toInt = 0 := rfl
            refine y_some ?_
            try dsimp only
            (first | with_reducible assumption | omega | ((with_reducible refine y_Vl ?_ ?_) <;> omega) | ((with_reducible refine y_V8 ?_) <;> (first | with_reducible assumption | (unfold y_Tr; omega))) | ((with_reducible refine y_Tr4 ?_ ?_) <;> (first | with_reducible assumption | omega)) | ((with_reducible refine (y_Tr4 ?_ ?_).ty) <;> (first | with_reducible assumption | omega)) | (unfold y_Ty; omega) | (unfold y_Tr; omega))
          · skip
            have c37' := c37
            rw [← Int32.toInt_inj] at c37'
            have e39 : (0 : Int32).toInt = 0 := rfl
            refine y_some ?_
            try dsimp only
            (first | with_reducible assumption | omega | ((with_reducible refine y_Vl ?_ ?_) <;> omega) | ((with_reducible refine y_V8 ?_) <;> (first | with_reducible assumption | (unfold y_Tr; omega))) | ((with_reducible refine y_Tr4 ?_ ?_) <;> (first | with_reducible assumption | omega)) | ((with_reducible refine (y_Tr4 ?_ ?_).ty) <;> (first | with_reducible assumption | omega)) | (unfold y_Ty; omega) | (unfold y_Tr; omega))
set_option maxHeartbeats 4000000 in
theorem y_X5_isWide {p0 : Int32}  : y_Ok (f_X5_isWide p0) (fun r => ((r.toInt = 0 ∧ ¬ (p0.toInt = 3 ∨ p0.toInt = 4)) ∨ (r.toInt = 1 ∧ (p0.toInt = 3 ∨ p0.toInt = 4)))) := by
  unfold f_X5_isWide
  refine y_if (fun c1 => ?_) (fun c1 => ?_)
  · skip
    have e2 : (3 : Int32).toInt = 3 := rfl
    have c1' := c1
    rw [← Int32.toInt_inj] at c1'
    have e3 : (1 : Int32).toInt = 1 := rfl
    refine y_some ?_
    try dsimp only
    (first | with_reducible assumption | omega | ((with_reducible refine y_Vl ?_ ?_) <;> omega))
  · skip
    have e4 : (3 : Int32).toInt = 3 := rfl
    have c1' := c1
    rw [← Int32.toInt_inj] at c1'
    refine y_if (fun c5 => ?_) (fun c5 => ?_)
    · skip
      have e6 : (4 : Int32).toInt = 4 := rfl
      have c5' := c5
      rw [← Int32.toInt_inj] at c5'
      have e7 : (1 : Int32).toInt = 1 := rfl
      refine y_some ?_
      try dsimp only
      (first | with_reducible assumption | omega | ((with_reducible refine y_Vl ?_ ?_) <;> omega))
    · skip
      have e8 : (4 : Int32).toInt = 4 := rfl
      have c5' := c5
      rw [← Int32.toInt_inj] at c5'
      have e9 : (0 : Int32).toInt = 0 := rfl
      refine y_some ?_
      try dsimp only
      (first | with_reducible assumption | omega | ((with_reducible refine y_Vl ?_ ?_) <;> omega))
set_option maxHeartbeats 4000000 in
theorem y_X5_isAnyReference {p0 : Int32}  : y_Ok (f_X5_isAnyReference p0) (fun r => (r.toInt = 0 ∨ r.toInt = 1)) := by
  unfold f_X5_isAnyReference
  refine y_if (fun c1 => ?_) (fun c1 => ?_)
  · skip
    have e2 := y_and4 p0
    have e3 : (5 : Int32).toInt = 5 := rfl
    have c1' := c1
    rw [← Int32.toInt_inj] at c1'
    have e4 : (1 : Int32).toInt = 1 := rfl
    refine y_some ?_
    try dsimp only
    (first | with_reducible assumption | omega | ((with_reducible refine y_Vl ?_ ?_) <;> omega))
  · skip
    have e5 := y_and4 p0
    have e6 : (5 : Int32).toInt = 5 := rfl
    have c1' := c1
    rw [← Int32.toInt_inj] at c1'
    refine y_if (fun c7 => ?_) (fun c7 => ?_)
    · skip
      have e8 : (6 : Int32).toInt = 6 := rfl
      have c7' := c7
      rw [← Int32.toInt_inj] at c7'
      have e9 : (1 : Int32).toInt = 1 := rfl
      refine y_some ?_
      try dsimp only
      (first | with_reducible assumption | omega | ((with_reducible refine y_Vl ?_ ?_) <;> omega))
    · skip
      have e10 : (6 : Int32).toInt = 6 := rfl
      have c7' := c7
      rw [← Int32.toInt_inj] at c7'
      refine y_if (fun c11 => ?_) (fun c11 => ?_)
      · skip
        have e12 : (8 : Int32).toInt = 8 := rfl
        have c11' := c11
        rw [← Int32.toInt_inj] at c11'
        have e13 : (1 : Int32).toInt = 1 := rfl
        refine y_some ?_
        try dsimp only
        (first | with_reducible assumption | omega | ((with_reducible refine y_Vl ?_ ?_) <;> omega))
      · skip
        have e14 : (8 : Int32).toInt = 8 := rfl
        have c11' := c11
        rw [← Int32.toInt_inj] at c11'
        refine y_if (fun c15 => ?_) (fun c15 => ?_)
        · skip
          have e16 : (9 : Int32).toInt = 9 := rfl
          have c15' := c15
          rw [← Int32.toInt_inj] at c15'
          have e17 : (1 : Int32).toInt = 1 := rfl
          refine y_some ?_
          try dsimp only
          (first | with_reducible assumption | omega | ((with_reducible refine y_Vl ?_ ?_) <;> omega))
        · skip
          have e18 : (9 : Int32).toInt = 9 := rfl
          have c15' := c15
          rw [← Int32.toInt_inj] at c15'
          have e19 : (0 : Int32).toInt = 0 := rfl
          refine y_some ?_
          try dsimp only
          (first | with_reducible assumption | omega | ((with_reducible refine y_Vl ?_ ?_) <;> omega))
set_option maxHeartbeats 4000000 in
theorem y_X5_localAt {v5_2 : Int32} {g5_1 : Nat → Int32} {p1 : Int32} (k0 : 0 ≤ v5_2.toInt) (k1 : v5_2.toInt ≤ 400) (k2 : y_AV 400 g5_1) : y_Ok (f_X5_localAt v5_2 g5_1 p1) (fun r => (y_V r) ∧ ((¬ (0 ≤ p1.toInt ∧ p1.toInt < v5_2.toInt) ∧ r.toInt = 0) ∨ (0 ≤ p1.toInt ∧ p1.toInt < v5_2.toInt ∧ r.toInt = (g5_1 (Int32.toNatClampNeg p1)).toInt))) := by
  unfold f_X5_localAt
  refine y_if (fun c1 => ?_) (fun c1 => ?_)
  · skip
    have e2 : (0 : Int32).toInt = 0 := rfl
    have c1' := c1
    rw [Int32.lt_iff_toInt_lt] at c1'
    refine y_some ?_
    try dsimp only
    refine ⟨?_, ?_⟩ <;> (first | with_reducible assumption | omega | ((with_reducible refine y_Vl ?_ ?_) <;> omega))
  · skip
    have e3 : (0 : Int32).toInt = 0 := rfl
    have c1' := c1
    rw [Int32.lt_iff_toInt_lt] at c1'
    refine y_if (fun c4 => ?_) (fun c4 => ?_)
    · skip
      have c4' := c4
      rw [Int32.le_iff_toInt_le] at c4'
      refine y_some ?_
      try dsimp only
      refine ⟨?_, ?_⟩ <;> (first | with_reducible assumption | omega | ((with_reducible refine y_Vl ?_ ?_) <;> omega))
    · skip
      have c4' := c4
      rw [Int32.le_iff_toInt_le] at c4'
      refine y_gd (y_gdI (by omega) (by omega)) ?_
      try have e5 := @y_cl p1 (by omega)
      try have e6 := k2.at (Int32.toNatClampNeg p1) (by omega)
      try have e7 := e6.b
      refine y_some ?_
      try dsimp only
      refine ⟨?_, ?_⟩ <;> (first | with_reducible assumption | omega | ((with_reducible refine y_Vl ?_ ?_) <;> omega))
set_option maxHeartbeats 4000000 in
theorem y_X5_setLocal {v5_2 : Int32} {v5_6 : Int32} {v5_7 : Int32} {g5_1 : Nat → Int32} {p1 : Int32} {p2 : Int32} (k0 : 0 ≤ v5_2.toInt) (k1 : v5_2.toInt ≤ 400) (k2 : y_AV 400 g5_1) (k3 : y_V p2) (k4 : p1.toInt ≤ 100000) : y_Ok (f_X5_setLocal v5_2 v5_6 v5_7 g5_1 p1 p2) (fun r => (y_AV 400 r.2.2)) := by
  unfold f_X5_setLocal
  refine y_bi (y_X5_isWide) (fun r_1 h_r_1 => ?_)
  have h0_r_1 : (r_1.toInt = 0 ∧ ¬ (p2.toInt = 3 ∨ p2.toInt = 4)) ∨ (r_1.toInt = 1 ∧ (p2.toInt = 3 ∨ p2.toInt = 4)) := h_r_1
  refine y_if (fun c1 => ?_) (fun c1 => ?_)
  · skip
    have e2 : (0 : Int32).toInt = 0 := rfl
    have c1' := c1
    rw [← Int32.toInt_inj] at c1'
    have e3 := y_or0 h0_r_1 c1'
    clear h0_r_1
    refine y_if (fun c4 => ?_) (fun c4 => ?_)
    · skip
      have c4' := c4
      rw [Int32.lt_iff_toInt_lt] at c4'
      have e5 : (1 : Int32).toInt = 1 := rfl
      refine y_some ?_
      try dsimp only
      (first | with_reducible assumption | omega | ((with_reducible refine y_Vl ?_ ?_) <;> omega))
    · skip
      have c4' := c4
      rw [Int32.lt_iff_toInt_lt] at c4'
      refine y_if (fun c6 => ?_) (fun c6 => ?_)
      · skip
        have c6' := c6
        rw [Int32.lt_iff_toInt_lt] at c6'
        refine y_if (fun c7 => ?_) (fun c7 => ?_)
        · skip
          have c7' := c7
          rw [Int32.le_iff_toInt_le] at c7'
          refine y_if (fun c8 => ?_) (fun c8 => ?_)
          · skip
            try have e9 := @y_addL p1 (1 : Int32) (1) rfl (by omega) (by omega)
            have c8' := c8
            rw [Int32.le_iff_toInt_le] at c8'
            refine y_gd (y_gdI (by omega) (by omega)) ?_
            refine y_if (fun c10 => ?_) (fun c10 => ?_)
            · skip
              have c10' := c10
              rw [Int32.le_iff_toInt_le] at c10'
              have e11 : (1 : Int32).toInt = 1 := rfl
              try have e12 := @y_cl p1 (by omega)
              try have e13 : y_AV 400 (upd g5_1 (Int32.toNatClampNeg p1) p2) := y_AV_upd k2 (by first | with_reducible assumption | omega | ((with_reducible refine y_Vl ?_ ?_) <;> omega))
              refine y_some ?_
              try dsimp only
              (first | with_reducible assumption | omega | ((with_reducible refine y_Vl ?_ ?_) <;> omega))
            · skip
              have c10' := c10
              rw [Int32.le_iff_toInt_le] at c10'
              refine y_gd (y_gdI (by omega) (by omega)) ?_
              have e14 : (1 : Int32).toInt = 1 := rfl
              try have e15 := @y_cl p1 (by omega)
              try have e16 : y_AV 400 (upd g5_1 (Int32.toNatClampNeg p1) p2) := y_AV_upd k2 (by first | with_reducible assumption | omega | ((with_reducible refine y_Vl ?_ ?_) <;> omega))
              have e17 : (7 : Int32).toInt = 7 := rfl
              try have e18 : y_AV 400 (upd (upd g5_1 (Int32.toNatClampNeg p1) p2) (Int32.toNatClampNeg p1) (7 : Int32)) := y_AV_upd e16 (by first | with_reducible assumption | omega | ((with_reducible refine y_Vl ?_ ?_) <;> omega))
              refine y_some ?_
              try dsimp only
              (first | with_reducible assumption | omega | ((with_reducible refine y_Vl ?_ ?_) <;> omega))
          · skip
            try have e19 := @y_addL p1 (1 : Int32) (1) rfl (by omega) (by omega)
            have c8' := c8
            rw [Int32.le_iff_toInt_le] at c8'
            refine y_gd (y_gdI (by omega) (by omega)) ?_
            refine y_if (fun c20 => ?_) (fun c20 => ?_)
            · skip
              try have e21 := @y_cl (p1 + (1 : Int32)) (by omega)
              try have e22 := k2.at (Int32.toNatClampNeg (p1 + (1 : Int32))) (by omega)
              try have e23 := e22.b
              have e24 : (7 : Int32).toInt = 7 := rfl
              have c20' := c20
              rw [← Int32.toInt_inj] at c20'
              refine y_gd (y_gdI (by omega) (by omega)) ?_
              refine y_gd (y_gdI (by omega) (by omega)) ?_
              refine y_if (fun c25 => ?_) (fun c25 => ?_)
              · skip
                have c25' := c25
                rw [Int32.le_iff_toInt_le] at c25'
                have e26 : (1 : Int32).toInt = 1 := rfl
                try have e27 : y_AV 400 (upd g5_1 (Int32.toNatClampNeg (p1 + (1 : Int32))) (0 : Int32)) := y_AV_upd k2 (by first | with_reducible assumption | omega | ((with_reducible refine y_Vl ?_ ?_) <;> omega))
                try have e28 := @y_cl p1 (by omega)
                try have e29 : y_AV 400 (upd (upd g5_1 (Int32.toNatClampNeg (p1 + (1 : Int32))) (0 : Int32)) (Int32.toNatClampNeg p1) p2) := y_AV_upd e27 (by first | with_reducible assumption | omega | ((with_reducible refine y_Vl ?_ ?_) <;> omega))
                refine y_some ?_
                try dsimp only
                (first | with_reducible assumption | omega | ((with_reducible refine y_Vl ?_ ?_) <;> omega))
              · skip
                have c25' := c25
                rw [Int32.le_iff_toInt_le] at c25'
                refine y_gd (y_gdI (by omega) (by omega)) ?_
                have e30 : (1 : Int32).toInt = 1 := rfl
                try have e31 : y_AV 400 (upd g5_1 (Int32.toNatClampNeg (p1 + (1 : Int32))) (0 : Int32)) := y_AV_upd k2 (by first | with_reducible assumption | omega | ((with_reducible refine y_Vl ?_ ?_) <;> omega))
                try have e32 := @y_cl p1 (by omega)
                try have e33 : y_AV 400 (upd (upd g5_1 (Int32.toNatClampNeg (p1 + (1 : Int32))) (0 : Int32)) (Int32.toNatClampNeg p1) p2) := y_AV_upd e31 (by first | with_reducible assumption | omega | ((with_reducible refine y_Vl ?_ ?_) <;> omega))
                try have e34 : y_AV 400 (upd (upd (upd g5_1 (Int32.toNatClampNeg (p1 + (1 : Int32))) (0 : Int32)) (Int32.toNatClampNeg p1) p2) (Int32.toNatClampNeg p1) (7 : Int32)) := y_AV_upd e33 (by first | with_reducible assumption | omega | ((with_reducible refine y_Vl ?_ ?_) <;> omega))
                refine y_some ?_
                try dsimp only
                (first | with_reducible assumption | omega | ((with_reducible refine y_Vl ?_ ?_) <;> omega))
            · skip
              try have e35 := @y_cl (p1 + (1 : Int32)) (by omega)
              try have e36 := k2.at (Int32.toNatClampNeg (p1 + (1 : Int32))) (by omega)
              try have e37 := e36.b
              have e38 : (7 : Int32).toInt = 7 := rfl
              have c20' := c20
              rw [← Int32.toInt_inj] at c20'
              refine y_gd (y_gdI (by omega) (by omega)) ?_
              refine y_if (fun c39 => ?_) (fun c39 => ?_)
              · skip
                have c39' := c39
                rw [Int32.le_iff_toInt_le] at c39'
                have e40 : (1 : Int32).toInt = 1 := rfl
                try have e41 := @y_cl p1 (by omega)
                try have e42 : y_AV 400 (upd g5_1 (Int32.toNatClampNeg p1) p2) := y_AV_upd k2 (by first | with_reducible assumption | omega | ((with_reducible refine y_Vl ?_ ?_) <;> omega))
                refine y_some ?_
                try dsimp only
                (first | with_reducible assumption | omega | ((with_reducible refine y_Vl ?_ ?_) <;> omega))
              · skip
                have c39' := c39
                rw [Int32.le_iff_toInt_le] at c39'
                refine y_gd (y_gdI (by omega) (by omega)) ?_
                have e43 : (1 : Int32).toInt = 1 := rfl
                try have e44 := @y_cl p1 (by omega)
                try have e45 : y_AV 400 (upd g5_1 (Int32.toNatClampNeg p1) p2) := y_AV_upd k2 (by first | with_reducible assumption | omega | ((with_reducible refine y_Vl ?_ ?_) <;> omega))
                try have e46 : y_AV 400 (upd (upd g5_1 (Int32.toNatClampNeg p1) p2) (Int32.toNatClampNeg p1) (7 : Int32)) := y_AV_upd e45 (by first | with_reducible assumption | omega | ((with_reducible refine y_Vl ?_ ?_) <;> omega))
                refine y_some ?_
                try dsimp only
                (first | with_reducible assumption | omega | ((with_reducible refine y_Vl ?_ ?_) <;> omega))
        · skip
          have c7' := c7
          rw [Int32.le_iff_toInt_le] at c7'
          refine y_gd (y_gdI (by omega) (by omega)) ?_
          refine y_if (fun c47 => ?_) (fun c47 => ?_)
          · skip
            try have e48 := @y_cl p1 (by omega)
            try have e49 := k2.at (Int32.toNatClampNeg p1) (by omega)
            try have e50 := e49.b
            have e51 : (7 : Int32).toInt = 7 := rfl
            have c47' := c47
            rw [← Int32.toInt_inj] at c47'
            try have e52 := @y_subL p1 (1 : Int32) (1) rfl (by omega) (by omega)
            refine y_gd (y_gdI (by omega) (by omega)) ?_
            refine y_if (fun c53 => ?_) (fun c53 => ?_)
            · skip
              try have e54 := @y_addL p1 (1 : Int32) (1) rfl (by omega) (by omega)
              have c53' := c53
              rw [Int32.le_iff_toInt_le] at c53'
              refine y_gd (y_gdI (by omega) (by omega)) ?_
              refine y_if (fun c55 => ?_) (fun c55 => ?_)
              · skip
                have c55' := c55
                rw [Int32.le_iff_toInt_le] at c55'
                have e56 : (1 : Int32).toInt = 1 := rfl
                try have e57 := @y_cl (p1 - (1 : Int32)) (by omega)
                try have e58 : y_AV 400 (upd g5_1 (Int32.toNatClampNeg (p1 - (1 : Int32))) (0 : Int32)) := y_AV_upd k2 (by first | with_reducible assumption | omega | ((with_reducible refine y_Vl ?_ ?_) <;> omega))
                try have e59 : y_AV 400 (upd (upd g5_1 (Int32.toNatClampNeg (p1 - (1 : Int32))) (0 : Int32)) (Int32.toNatClampNeg p1) p2) := y_AV_upd e58 (by first | with_reducible assumption | omega | ((with_reducible refine y_Vl ?_ ?_) <;> omega))
                refine y_some ?_
                try dsimp only
                (first | with_reducible assumption | omega | ((with_reducible refine y_Vl ?_ ?_) <;> omega))
              · skip
                have c55' := c55
                rw [Int32.le_iff_toInt_le] at c55'
                refine y_gd (y_gdI (by omega) (by omega)) ?_
                have e60 : (1 : Int32).toInt = 1 := rfl
                try have e61 := @y_cl (p1 - (1 : Int32)) (by omega)
                try have e62 : y_AV 400 (upd g5_1 (Int32.toNatClampNeg (p1 - (1 : Int32))) (0 : Int32)) := y_AV_upd k2 (by first | with_reducible assumption | omega | ((with_reducible refine y_Vl ?_ ?_) <;> omega))
                try have e63 : y_AV 400 (upd (upd g5_1 (Int32.toNatClampNeg (p1 - (1 : Int32))) (0 : Int32)) (Int32.toNatClampNeg p1) p2) := y_AV_upd e62 (by first | with_reducible assumption | omega | ((with_reducible refine y_Vl ?_ ?_) <;> omega))
                try have e64 : y_AV 400 (upd (upd (upd g5_1 (Int32.toNatClampNeg (p1 - (1 : Int32))) (0 : Int32)) (Int32.toNatClampNeg p1) p2) (Int32.toNatClampNeg p1) (7 : Int32)) := y_AV_upd e63 (by first | with_reducible assumption | omega | ((with_reducible refine y_Vl ?_ ?_) <;> omega))
                refine y_some ?_
                try dsimp only
                (first | with_reducible assumption | omega | ((with_reducible refine y_Vl ?_ ?_) <;> omega))
            · skip
              try have e65 := @y_addL p1 (1 : Int32) (1) rfl (by omega) (by omega)
              have c53' := c53
              rw [Int32.le_iff_toInt_le] at c53'
              refine y_gd (y_gdI (by omega) (by omega)) ?_
              refine y_if (fun c66 => ?_) (fun c66 => ?_)
              · skip
                try have e67 := @y_cl (p1 + (1 : Int32)) (by omega)
                try have e68 := @y_cl (p1 - (1 : Int32)) (by omega)
                try have e69 : y_AV 400 (upd g5_1 (Int32.toNatClampNeg (p1 - (1 : Int32))) (0 : Int32)) := y_AV_upd k2 (by first | with_reducible assumption | omega | ((with_reducible refine y_Vl ?_ ?_) <;> omega))
                try have e70 := e69.at (Int32.toNatClampNeg (p1 + (1 : Int32))) (by omega)
                try have e71 := e70.b
                have c66' := c66
                rw [← Int32.toInt_inj] at c66'
                refine y_gd (y_gdI (by omega) (by omega)) ?_
                refine y_gd (y_gdI (by omega) (by omega)) ?_
                refine y_if (fun c72 => ?_) (fun c72 => ?_)
                · skip
                  have c72' := c72
                  rw [Int32.le_iff_toInt_le] at c72'
                  have e73 : (1 : Int32).toInt = 1 := rfl
                  try have e74 : y_AV 400 (upd (upd g5_1 (Int32.toNatClampNeg (p1 - (1 : Int32))) (0 : Int32)) (Int32.toNatClampNeg (p1 + (1 : Int32))) (0 : Int32)) := y_AV_upd e69 (by first | with_reducible assumption | omega | ((with_reducible refine y_Vl ?_ ?_) <;> omega))
                  try have e75 : y_AV 400 (upd (upd (upd g5_1 (Int32.toNatClampNeg (p1 - (1 : Int32))) (0 : Int32)) (Int32.toNatClampNeg (p1 + (1 : Int32))) (0 : Int32)) (Int32.toNatClampNeg p1) p2) := y_AV_upd e74 (by first | with_reducible assumption | omega | ((with_reducible refine y_Vl ?_ ?_) <;> omega))
                  refine y_some ?_
                  try dsimp only
                  (first | with_reducible assumption | omega | ((with_reducible refine y_Vl ?_ ?_) <;> omega))
                · skip
                  have c72' := c72
                  rw [Int32.le_iff_toInt_le] at c72'
                  refine y_gd (y_gdI (by omega) (by omega)) ?_
                  have e76 : (1 : Int32).toInt = 1 := rfl
                  try have e77 : y_AV 400 (upd (upd g5_1 (Int32.toNatClampNeg (p1 - (1 : Int32))) (0 : Int32)) (Int32.toNatClampNeg (p1 + (1 : Int32))) (0 : Int32)) := y_AV_upd e69 (by first | with_reducible assumption | omega | ((with_reducible refine y_Vl ?_ ?_) <;> omega))
                  try have e78 : y_AV 400 (upd (upd (upd g5_1 (Int32.toNatClampNeg (p1 - (1 : Int32))) (0 : Int32)) (Int32.toNatClampNeg (p1 + (1 : Int32))) (0 : Int32)) (Int32.toNatClampNeg p1) p2) := y_AV_upd e77 (by first | with_reducible assumption | omega | ((with_reducible refine y_Vl ?_ ?_) <;> omega))
                  try have e79 : y_AV 400 (upd (upd (upd (upd g5_1 (Int32.toNatClampNeg (p1 - (1 : Int32))) (0 : Int32)) (Int32.toNatClampNeg (p1 + (1 : Int32))) (0 : Int32)) (Int32.toNatClampNeg p1) p2) (Int32.toNatClampNeg p1) (7 : Int32)) := y_AV_upd e78 (by first | with_reducible assumption | omega | ((with_reducible refine y_Vl ?_ ?_) <;> omega))
                  refine y_some ?_
                  try dsimp only
                  (first | with_reducible assumption | omega | ((with_reducible refine y_Vl ?_ ?_) <;> omega))
              · skip
                try have e80 := @y_cl (p1 + (1 : Int32)) (by omega)
                try have e81 := @y_cl (p1 - (1 : Int32)) (by omega)
                try have e82 : y_AV 400 (upd g5_1 (Int32.toNatClampNeg (p1 - (1 : Int32))) (0 : Int32)) := y_AV_upd k2 (by first | with_reducible assumption | omega | ((with_reducible refine y_Vl ?_ ?_) <;> omega))
                try have e83 := e82.at (Int32.toNatClampNeg (p1 + (1 : Int32))) (by omega)
                try have e84 := e83.b
                have c66' := c66
                rw [← Int32.toInt_inj] at c66'
                refine y_gd (y_gdI (by omega) (by omega)) ?_
                refine y_if (fun c85 => ?_) (fun c85 => ?_)
                · skip
                  have c85' := c85
                  rw [Int32.le_iff_toInt_le] at c85'
                  have e86 : (1 : Int32).toInt = 1 := rfl
                  try have e87 : y_AV 400 (upd (upd g5_1 (Int32.toNatClampNeg (p1 - (1 : Int32))) (0 : Int32)) (Int32.toNatClampNeg p1) p2) := y_AV_upd e82 (by first | with_reducible assumption | omega | ((with_reducible refine y_Vl ?_ ?_) <;> omega))
                  refine y_some ?_
                  try dsimp only
                  (first | with_reducible assumption | omega | ((with_reducible refine y_Vl ?_ ?_) <;> omega))
                · skip
                  have c85' := c85
                  rw [Int32.le_iff_toInt_le] at c85'
                  refine y_gd (y_gdI (by omega) (by omega)) ?_
                  have e88 : (1 : Int32).toInt = 1 := rfl
                  try have e89 : y_AV 400 (upd (upd g5_1 (Int32.toNatClampNeg (p1 - (1 : Int32))) (0 : Int32)) (Int32.toNatClampNeg p1) p2) := y_AV_upd e82 (by first | with_reducible assumption | omega | ((with_reducible refine y_Vl ?_ ?_) <;> omega))
                  try have e90 : y_AV 400 (upd (upd (upd g5_1 (Int32.toNatClampNeg (p1 - (1 : Int32))) (0 : Int32)) (Int32.toNatClampNeg p1) p2) (Int32.toNatClampNeg p1) (7 : Int32)) := y_AV_upd e89 (by first | with_reducible assumption | omega | ((with_reducible refine y_Vl ?_ ?_) <;> omega))
                  refine y_some ?_
                  try dsimp only
                  (first | with_reducible assumption | omega | ((with_reducible refine y_Vl ?_ ?_) <;> omega))
          · skip
            try have e91 := @y_cl p1 (by omega)
            try have e92 := k2.at (Int32.toNatClampNeg p1) (by omega)
            try have e93 := e92.b
            have e94 : (7 : Int32).toInt = 7 := rfl
            have c47' := c47
            rw [← Int32.toInt_inj] at c47'
            refine y_if (fun c95 => ?_) (fun c95 => ?_)
            · skip
              try have e96 := @y_addL p1 (1 : Int32) (1) rfl (by omega) (by omega)
              have c95' := c95
              rw [Int32.le_iff_toInt_le] at c95'
              refine y_gd (y_gdI (by omega) (by omega)) ?_
              refine y_if (fun c97 => ?_) (fun c97 => ?_)
              · skip
                have c97' := c97
                rw [Int32.le_iff_toInt_le] at c97'
                have e98 : (1 : Int32).toInt = 1 := rfl
                try have e99 : y_AV 400 (upd g5_1 (Int32.toNatClampNeg p1) p2) := y_AV_upd k2 (by first | with_reducible assumption | omega | ((with_reducible refine y_Vl ?_ ?_) <;> omega))
                refine y_some ?_
                try dsimp only
                (first | with_reducible assumption | omega | ((with_reducible refine y_Vl ?_ ?_) <;> omega))
              · skip
                have c97' := c97
                rw [Int32.le_iff_toInt_le] at c97'
                refine y_gd (y_gdI (by omega) (by omega)) ?_
                have e100 : (1 : Int32).toInt = 1 := rfl
                try have e101 : y_AV 400 (upd g5_1 (Int32.toNatClampNeg p1) p2) := y_AV_upd k2 (by first | with_reducible assumption | omega | ((with_reducible refine y_Vl ?_ ?_) <;> omega))
                try have e102 : y_AV 400 (upd (upd g5_1 (Int32.toNatClampNeg p1) p2) (Int32.toNatClampNeg p1) (7 : Int32)) := y_AV_upd e101 (by first | with_reducible assumption | omega | ((with_reducible refine y_Vl ?_ ?_) <;> omega))
                refine y_some ?_
                try dsimp only
                (first | with_reducible assumption | omega | ((with_reducible refine y_Vl ?_ ?_) <;> omega))
            · skip
              try have e103 := @y_addL p1 (1 : Int32) (1) rfl (by omega) (by omega)
              have c95' := c95
              rw [Int32.le_iff_toInt_le] at c95'
              refine y_gd (y_gdI (by omega) (by omega)) ?_
              refine y_if (fun c104 => ?_) (fun c104 => ?_)
              · skip
                try have e105 := @y_cl (p1 + (1 : Int32)) (by omega)
                try have e106 := k2.at (Int32.toNatClampNeg (p1 + (1 : Int32))) (by omega)
                try have e107 := e106.b
                have c104' := c104
                rw [← Int32.toInt_inj] at c104'
                refine y_gd (y_gdI (by omega) (by omega)) ?_
                refine y_gd (y_gdI (by omega) (by omega)) ?_
                refine y_if (fun c108 => ?_) (fun c108 => ?_)
                · skip
                  have c108' := c108
                  rw [Int32.le_iff_toInt_le] at c108'
                  have e109 : (1 : Int32).toInt = 1 := rfl
                  try have e110 : y_AV 400 (upd g5_1 (Int32.toNatClampNeg (p1 + (1 : Int32))) (0 : Int32)) := y_AV_upd k2 (by first | with_reducible assumption | omega | ((with_reducible refine y_Vl ?_ ?_) <;> omega))
                  try have e111 : y_AV 400 (upd (upd g5_1 (Int32.toNatClampNeg (p1 + (1 : Int32))) (0 : Int32)) (Int32.toNatClampNeg p1) p2) := y_AV_upd e110 (by first | with_reducible assumption | omega | ((with_reducible refine y_Vl ?_ ?_) <;> omega))
                  refine y_some ?_
                  try dsimp only
                  (first | with_reducible assumption | omega | ((with_reducible refine y_Vl ?_ ?_) <;> omega))
                · skip
                  have c108' := c108
                  rw [Int32.le_iff_toInt_le] at c108'
                  refine y_gd (y_gdI (by omega) (by omega)) ?_
                  have e112 : (1 : Int32).toInt = 1 := rfl
                  try have e113 : y_AV 400 (upd g5_1 (Int32.toNatClampNeg (p1 + (1 : Int32))) (0 : Int32)) := y_AV_upd k2 (by first | with_reducible assumption | omega | ((with_reducible refine y_Vl ?_ ?_) <;> omega))
                  try have e114 : y_AV 400 (upd (upd g5_1 (Int32.toNatClampNeg (p1 + (1 : Int32))) (0 : Int32)) (Int32.toNatClampNeg p1) p2) := y_AV_upd e113 (by first | with_reducible assumption | omega | ((with_reducible refine y_Vl ?_ ?_) <;> omega))
                  try have e115 : y_AV 400 (upd (upd (upd g5_1 (Int32.toNatClampNeg (p1 + (1 : Int32))) (0 : Int32)) (Int32.toNatClampNeg p1) p2) (Int32.toNatClampNeg p1) (7 : Int32)) := y_AV_upd e114 (by first | with_reducible assumption | omega | ((with_reducible refine y_Vl ?_ ?_) <;> omega))
                  refine y_some ?_
                  try dsimp only
                  (first | with_reducible assumption | omega | ((with_reducible refine y_Vl ?_ ?_) <;> omega))
              · skip
                try have e116 := @y_cl (p1 + (1 : Int32)) (by omega)
                try have e117 := k2.at (Int32.toNatClampNeg (p1 + (1 : Int32))) (by omega)
                try have e118 := e117.b
                have c104' := c104
                rw [← Int32.toInt_inj] at c104'
                refine y_gd (y_gdI (by omega) (by omega)) ?_
                refine y_if (fun c119 => ?_) (fun c119 => ?_)
                · skip
                  have c119' := c119
                  rw [Int32.le_iff_toInt_le] at c119'
                  have e120 : (1 : Int32).toInt = 1 := rfl
                  try have e121 : y_AV 400 (upd g5_1 (Int32.toNatClampNeg p1) p2) := y_AV_upd k2 (by first | with_reducible assumption | omega | ((with_reducible refine y_Vl ?_ ?_) <;> omega))
                  refine y_some ?_
                  try dsimp only
                  (first | with_reducible assumption | omega | ((with_reducible refine y_Vl ?_ ?_) <;> omega))
                · skip
                  have c119' := c119
                  rw [Int32.le_iff_toInt_le] at c119'
                  refine y_gd (y_gdI (by omega) (by omega)) ?_
                  have e122 : (1 : Int32).toInt = 1 := rfl
                  try have e123 : y_AV 400 (upd g5_1 (Int32.toNatClampNeg p1) p2) := y_AV_upd k2 (by first | with_reducible assumption | omega | ((with_reducible refine y_Vl ?_ ?_) <;> omega))
                  try have e124 : y_AV 400 (upd (upd g5_1 (Int32.toNatClampNeg p1) p2) (Int32.toNatClampNeg p1) (7 : Int32)) := y_AV_upd e123 (by first | with_reducible assumption | omega | ((with_reducible refine y_Vl ?_ ?_) <;> omega))
                  refine y_some ?_
                  try dsimp only
                  (first | with_reducible assumption | omega | ((with_reducible refine y_Vl ?_ ?_) <;> omega))
      · skip
        have c6' := c6
        rw [Int32.lt_iff_toInt_lt] at c6'
        have e125 : (1 : Int32).toInt = 1 := rfl
        refine y_some ?_
        try dsimp only
        (first | with_reducible assumption | omega | ((with_reducible refine y_Vl ?_ ?_) <;> omega))
  · skip
    have e126 : (0 : Int32).toInt = 0 := rfl
    have c1' := c1
    rw [← Int32.toInt_inj] at c1'
    have e127 := y_or1 h0_r_1 c1'
    clear h0_r_1
    refine y_if (fun c128 => ?_) (fun c128 => ?_)
    · skip
      have c128' := c128
      rw [Int32.lt_iff_toInt_lt] at c128'
      have e129 : (1 : Int32).toInt = 1 := rfl
      refine y_some ?_
      try dsimp only
      (first | with_reducible assumption | omega | ((with_reducible refine y_Vl ?_ ?_) <;> omega))
    · skip
      have c128' := c128
      rw [Int32.lt_iff_toInt_lt] at c128'
      refine y_if (fun c130 => ?_) (fun c130 => ?_)
      · skip
        try have e131 := @y_addL p1 (1 : Int32) (1) rfl (by omega) (by omega)
        have c130' := c130
        rw [Int32.lt_iff_toInt_lt] at c130'
        refine y_if (fun c132 => ?_) (fun c132 => ?_)
        · skip
          have c132' := c132
          rw [Int32.le_iff_toInt_le] at c132'
          refine y_if (fun c133 => ?_) (fun c133 => ?_)
          · skip
            try have e134 := @y_addL (p1 + (1 : Int32)) (1 : Int32) (1) rfl (by omega) (by omega)
            have c133' := c133
            rw [Int32.le_iff_toInt_le] at c133'
            refine y_gd (y_gdI (by omega) (by omega)) ?_
            refine y_if (fun c135 => ?_) (fun c135 => ?_)
            · skip
              have c135' := c135
              rw [Int32.le_iff_toInt_le] at c135'
              have e136 : (1 : Int32).toInt = 1 := rfl
              try have e137 := @y_cl p1 (by omega)
              try have e138 : y_AV 400 (upd g5_1 (Int32.toNatClampNeg p1) p2) := y_AV_upd k2 (by first | with_reducible assumption | omega | ((with_reducible refine y_Vl ?_ ?_) <;> omega))
              refine y_some ?_
              try dsimp only
              (first | with_reducible assumption | omega | ((with_reducible refine y_Vl ?_ ?_) <;> omega))
            · skip
              have c135' := c135
              rw [Int32.le_iff_toInt_le] at c135'
              refine y_gd (y_gdI (by omega) (by omega)) ?_
              have e139 : (1 : Int32).toInt = 1 := rfl
              try have e140 := @y_cl p1 (by omega)
              try have e141 : y_AV 400 (upd g5_1 (Int32.toNatClampNeg p1) p2) := y_AV_upd k2 (by first | with_reducible assumption | omega | ((with_reducible refine y_Vl ?_ ?_) <;> omega))
              try have e142 := @y_cl (p1 + (1 : Int32)) (by omega)
              have e143 : (7 : Int32).toInt = 7 := rfl
              try have e144 : y_AV 400 (upd (upd g5_1 (Int32.toNatClampNeg p1) p2) (Int32.toNatClampNeg (p1 + (1 : Int32))) (7 : Int32)) := y_AV_upd e141 (by first | with_reducible assumption | omega | ((with_reducible refine y_Vl ?_ ?_) <;> omega))
              refine y_some ?_
              try dsimp only
              (first | with_reducible assumption | omega | ((with_reducible refine y_Vl ?_ ?_) <;> omega))
          · skip
            try have e145 := @y_addL (p1 + (1 : Int32)) (1 : Int32) (1) rfl (by omega) (by omega)
            have c133' := c133
            rw [Int32.le_iff_toInt_le] at c133'
            refine y_gd (y_gdI (by omega) (by omega)) ?_
            refine y_if (fun c146 => ?_) (fun c146 => ?_)
            · skip
              try have e147 := @y_cl ((p1 + (1 : Int32)) + (1 : Int32)) (by omega)
              try have e148 := k2.at (Int32.toNatClampNeg ((p1 + (1 : Int32)) + (1 : Int32))) (by omega)
              try have e149 := e148.b
              have e150 : (7 : Int32).toInt = 7 := rfl
              have c146' := c146
              rw [← Int32.toInt_inj] at c146'
              refine y_gd (y_gdI (by omega) (by omega)) ?_
              refine y_gd (y_gdI (by omega) (by omega)) ?_
              refine y_if (fun c151 => ?_) (fun c151 => ?_)
              · skip
                have c151' := c151
                rw [Int32.le_iff_toInt_le] at c151'
                have e152 : (1 : Int32).toInt = 1 := rfl
                try have e153 : y_AV 400 (upd g5_1 (Int32.toNatClampNeg ((p1 + (1 : Int32)) + (1 : Int32))) (0 : Int32)) := y_AV_upd k2 (by first | with_reducible assumption | omega | ((with_reducible refine y_Vl ?_ ?_) <;> omega))
                try have e154 := @y_cl p1 (by omega)
                try have e155 : y_AV 400 (upd (upd g5_1 (Int32.toNatClampNeg ((p1 + (1 : Int32)) + (1 : Int32))) (0 : Int32)) (Int32.toNatClampNeg p1) p2) := y_AV_upd e153 (by first | with_reducible assumption | omega | ((with_reducible refine y_Vl ?_ ?_) <;> omega))
                refine y_some ?_
                try dsimp only
                (first | with_reducible assumption | omega | ((with_reducible refine y_Vl ?_ ?_) <;> omega))
              · skip
                have c151' := c151
                rw [Int32.le_iff_toInt_le] at c151'
                refine y_gd (y_gdI (by omega) (by omega)) ?_
                have e156 : (1 : Int32).toInt = 1 := rfl
                try have e157 : y_AV 400 (upd g5_1 (Int32.toNatClampNeg ((p1 + (1 : Int32)) + (1 : Int32))) (0 : Int32)) := y_AV_upd k2 (by first | with_reducible assumption | omega | ((with_reducible refine y_Vl ?_ ?_) <;> omega))
                try have e158 := @y_cl p1 (by omega)
                try have e159 : y_AV 400 (upd (upd g5_1 (Int32.toNatClampNeg ((p1 + (1 : Int32)) + (1 : Int32))) (0 : Int32)) (Int32.toNatClampNeg p1) p2) := y_AV_upd e157 (by first | with_reducible assumption | omega | ((with_reducible refine y_Vl ?_ ?_) <;> omega))
                try have e160 := @y_cl (p1 + (1 : Int32)) (by omega)
                try have e161 : y_AV 400 (upd (upd (upd g5_1 (Int32.toNatClampNeg ((p1 + (1 : Int32)) + (1 : Int32))) (0 : Int32)) (Int32.toNatClampNeg p1) p2) (Int32.toNatClampNeg (p1 + (1 : Int32))) (7 : Int32)) := y_AV_upd e159 (by first | with_reducible assumption | omega | ((with_reducible refine y_Vl ?_ ?_) <;> omega))
                refine y_some ?_
                try dsimp only
                (first | with_reducible assumption | omega | ((with_reducible refine y_Vl ?_ ?_) <;> omega))
            · skip
              try have e162 := @y_cl ((p1 + (1 : Int32)) + (1 : Int32)) (by omega)
              try have e163 := k2.at (Int32.toNatClampNeg ((p1 + (1 : Int32)) + (1 : Int32))) (by omega)
              try have e164 := e163.b
              have e165 : (7 : Int32).toInt = 7 := rfl
              have c146' := c146
              rw [← Int32.toInt_inj] at c146'
              refine y_gd (y_gdI (by omega) (by omega)) ?_
              refine y_if (fun c166 => ?_) (fun c166 => ?_)
              · skip
                have c166' := c166
                rw [Int32.le_iff_toInt_le] at c166'
                have e167 : (1 : Int32).toInt = 1 := rfl
                try have e168 := @y_cl p1 (by omega)
                try have e169 : y_AV 400 (upd g5_1 (Int32.toNatClampNeg p1) p2) := y_AV_upd k2 (by first | with_reducible assumption | omega | ((with_reducible refine y_Vl ?_ ?_) <;> omega))
                refine y_some ?_
                try dsimp only
                (first | with_reducible assumption | omega | ((with_reducible refine y_Vl ?_ ?_) <;> omega))
              · skip
                have c166' := c166
                rw [Int32.le_iff_toInt_le] at c166'
                refine y_gd (y_gdI (by omega) (by omega)) ?_
                have e170 : (1 : Int32).toInt = 1 := rfl
                try have e171 := @y_cl p1 (by omega)
                try have e172 : y_AV 400 (upd g5_1 (Int32.toNatClampNeg p1) p2) := y_AV_upd k2 (by first | with_reducible assumption | omega | ((with_reducible refine y_Vl ?_ ?_) <;> omega))
                try have e173 := @y_cl (p1 + (1 : Int32)) (by omega)
                try have e174 : y_AV 400 (upd (upd g5_1 (Int32.toNatClampNeg p1) p2) (Int32.toNatClampNeg (p1 + (1 : Int32))) (7 : Int32)) := y_AV_upd e172 (by first | with_reducible assumption | omega | ((with_reducible refine y_Vl ?_ ?_) <;> omega))
                refine y_some ?_
                try dsimp only
                (first | with_reducible assumption | omega | ((with_reducible refine y_Vl ?_ ?_) <;> omega))
        · skip
          have c132' := c132
          rw [Int32.le_iff_toInt_le] at c132'
          refine y_gd (y_gdI (by omega) (by omega)) ?_
          refine y_if (fun c175 => ?_) (fun c175 => ?_)
          · skip
            try have e176 := @y_cl p1 (by omega)
            try have e177 := k2.at (Int32.toNatClampNeg p1) (by omega)
            try have e178 := e177.b
            have e179 : (7 : Int32).toInt = 7 := rfl
            have c175' := c175
            rw [← Int32.toInt_inj] at c175'
            try have e180 := @y_subL p1 (1 : Int32) (1) rfl (by omega) (by omega)
            refine y_gd (y_gdI (by omega) (by omega)) ?_
            refine y_if (fun c181 => ?_) (fun c181 => ?_)
            · skip
              try have e182 := @y_addL (p1 + (1 : Int32)) (1 : Int32) (1) rfl (by omega) (by omega)
              have c181' := c181
              rw [Int32.le_iff_toInt_le] at c181'
              refine y_gd (y_gdI (by omega) (by omega)) ?_
              refine y_if (fun c183 => ?_) (fun c183 => ?_)
              · skip
                have c183' := c183
                rw [Int32.le_iff_toInt_le] at c183'
                have e184 : (1 : Int32).toInt = 1 := rfl
                try have e185 := @y_cl (p1 - (1 : Int32)) (by omega)
                try have e186 : y_AV 400 (upd g5_1 (Int32.toNatClampNeg (p1 - (1 : Int32))) (0 : Int32)) := y_AV_upd k2 (by first | with_reducible assumption | omega | ((with_reducible refine y_Vl ?_ ?_) <;> omega))
                try have e187 : y_AV 400 (upd (upd g5_1 (Int32.toNatClampNeg (p1 - (1 : Int32))) (0 : Int32)) (Int32.toNatClampNeg p1) p2) := y_AV_upd e186 (by first | with_reducible assumption | omega | ((with_reducible refine y_Vl ?_ ?_) <;> omega))
                refine y_some ?_
                try dsimp only
                (first | with_reducible assumption | omega | ((with_reducible refine y_Vl ?_ ?_) <;> omega))
              · skip
                have c183' := c183
                rw [Int32.le_iff_toInt_le] at c183'
                refine y_gd (y_gdI (by omega) (by omega)) ?_
                have e188 : (1 : Int32).toInt = 1 := rfl
                try have e189 := @y_cl (p1 - (1 : Int32)) (by omega)
                try have e190 : y_AV 400 (upd g5_1 (Int32.toNatClampNeg (p1 - (1 : Int32))) (0 : Int32)) := y_AV_upd k2 (by first | with_reducible assumption | omega | ((with_reducible refine y_Vl ?_ ?_) <;> omega))
                try have e191 : y_AV 400 (upd (upd g5_1 (Int32.toNatClampNeg (p1 - (1 : Int32))) (0 : Int32)) (Int32.toNatClampNeg p1) p2) := y_AV_upd e190 (by first | with_reducible assumption | omega | ((with_reducible refine y_Vl ?_ ?_) <;> omega))
                try have e192 := @y_cl (p1 + (1 : Int32)) (by omega)
                try have e193 : y_AV 400 (upd (upd (upd g5_1 (Int32.toNatClampNeg (p1 - (1 : Int32))) (0 : Int32)) (Int32.toNatClampNeg p1) p2) (Int32.toNatClampNeg (p1 + (1 : Int32))) (7 : Int32)) := y_AV_upd e191 (by first | with_reducible assumption | omega | ((with_reducible refine y_Vl ?_ ?_) <;> omega))
                refine y_some ?_
                try dsimp only
                (first | with_reducible assumption | omega | ((with_reducible refine y_Vl ?_ ?_) <;> omega))
            · skip
              try have e194 := @y_addL (p1 + (1 : Int32)) (1 : Int32) (1) rfl (by omega) (by omega)
              have c181' := c181
              rw [Int32.le_iff_toInt_le] at c181'
              refine y_gd (y_gdI (by omega) (by omega)) ?_
              refine y_if (fun c195 => ?_) (fun c195 => ?_)
              · skip
                try have e196 := @y_cl ((p1 + (1 : Int32)) + (1 : Int32)) (by omega)
                try have e197 := @y_cl (p1 - (1 : Int32)) (by omega)
                try have e198 : y_AV 400 (upd g5_1 (Int32.toNatClampNeg (p1 - (1 : Int32))) (0 : Int32)) := y_AV_upd k2 (by first | with_reducible assumption | omega | ((with_reducible refine y_Vl ?_ ?_) <;> omega))
                try have e199 := e198.at (Int32.toNatClampNeg ((p1 + (1 : Int32)) + (1 : Int32))) (by omega)
                try have e200 := e199.b
                have c195' := c195
                rw [← Int32.toInt_inj] at c195'
                refine y_gd (y_gdI (by omega) (by omega)) ?_
                refine y_gd (y_gdI (by omega) (by omega)) ?_
                refine y_if (fun c201 => ?_) (fun c201 => ?_)
                · skip
                  have c201' := c201
                  rw [Int32.le_iff_toInt_le] at c201'
                  have e202 : (1 : Int32).toInt = 1 := rfl
                  try have e203 : y_AV 400 (upd (upd g5_1 (Int32.toNatClampNeg (p1 - (1 : Int32))) (0 : Int32)) (Int32.toNatClampNeg ((p1 + (1 : Int32)) + (1 : Int32))) (0 : Int32)) := y_AV_upd e198 (by first | with_reducible assumption | omega | ((with_reducible refine y_Vl ?_ ?_) <;> omega))
                  try have e204 : y_AV 400 (upd (upd (upd g5_1 (Int32.toNatClampNeg (p1 - (1 : Int32))) (0 : Int32)) (Int32.toNatClampNeg ((p1 + (1 : Int32)) + (1 : Int32))) (0 : Int32)) (Int32.toNatClampNeg p1) p2) := y_AV_upd e203 (by first | with_reducible assumption | omega | ((with_reducible refine y_Vl ?_ ?_) <;> omega))
                  refine y_some ?_
                  try dsimp only
                  (first | with_reducible assumption | omega | ((with_reducible refine y_Vl ?_ ?_) <;> omega))
                · skip
                  have c201' := c201
                  rw [Int32.le_iff_toInt_le] at c201'
                  refine y_gd (y_gdI (by omega) (by omega)) ?_
                  have e205 : (1 : Int32).toInt = 1 := rfl
                  try have e206 : y_AV 400 (upd (upd g5_1 (Int32.toNatClampNeg (p1 - (1 : Int32))) (0 : Int32)) (Int32.toNatClampNeg ((p1 + (1 : Int32)) + (1 : Int32))) (0 : Int32)) := y_AV_upd e198 (by first | with_reducible assumption | omega | ((with_reducible refine y_Vl ?_ ?_) <;> omega))
                  try have e207 : y_AV 400 (upd (upd (upd g5_1 (Int32.toNatClampNeg (p1 - (1 : Int32))) (0 : Int32)) (Int32.toNatClampNeg ((p1 + (1 : Int32)) + (1 : Int32))) (0 : Int32)) (Int32.toNatClampNeg p1) p2) := y_AV_upd e206 (by first | with_reducible assumption | omega | ((with_reducible refine y_Vl ?_ ?_) <;> omega))
                  try have e208 := @y_cl (p1 + (1 : Int32)) (by omega)
                  try have e209 : y_AV 400 (upd (upd (upd (upd g5_1 (Int32.toNatClampNeg (p1 - (1 : Int32))) (0 : Int32)) (Int32.toNatClampNeg ((p1 + (1 : Int32)) + (1 : Int32))) (0 : Int32)) (Int32.toNatClampNeg p1) p2) (Int32.toNatClampNeg (p1 + (1 : Int32))) (7 : Int32)) := y_AV_upd e207 (by first | with_reducible assumption | omega | ((with_reducible refine y_Vl ?_ ?_) <;> omega))
                  refine y_some ?_
                  try dsimp only
                  (first | with_reducible assumption | omega | ((with_reducible refine y_Vl ?_ ?_) <;> omega))
              · skip
                try have e210 := @y_cl ((p1 + (1 : Int32)) + (1 : Int32)) (by omega)
                try have e211 := @y_cl (p1 - (1 : Int32)) (by omega)
                try have e212 : y_AV 400 (upd g5_1 (Int32.toNatClampNeg (p1 - (1 : Int32))) (0 : Int32)) := y_AV_upd k2 (by first | with_reducible assumption | omega | ((with_reducible refine y_Vl ?_ ?_) <;> omega))
                try have e213 := e212.at (Int32.toNatClampNeg ((p1 + (1 : Int32)) + (1 : Int32))) (by omega)
                try have e214 := e213.b
                have c195' := c195
                rw [← Int32.toInt_inj] at c195'
                refine y_gd (y_gdI (by omega) (by omega)) ?_
                refine y_if (fun c215 => ?_) (fun c215 => ?_)
                · skip
                  have c215' := c215
                  rw [Int32.le_iff_toInt_le] at c215'
                  have e216 : (1 : Int32).toInt = 1 := rfl
                  try have e217 : y_AV 400 (upd (upd g5_1 (Int32.toNatClampNeg (p1 - (1 : Int32))) (0 : Int32)) (Int32.toNatClampNeg p1) p2) := y_AV_upd e212 (by first | with_reducible assumption | omega | ((with_reducible refine y_Vl ?_ ?_) <;> omega))
                  refine y_some ?_
                  try dsimp only
                  (first | with_reducible assumption | omega | ((with_reducible refine y_Vl ?_ ?_) <;> omega))
                · skip
                  have c215' := c215
                  rw [Int32.le_iff_toInt_le] at c215'
                  refine y_gd (y_gdI (by omega) (by omega)) ?_
                  have e218 : (1 : Int32).toInt = 1 := rfl
                  try have e219 : y_AV 400 (upd (upd g5_1 (Int32.toNatClampNeg (p1 - (1 : Int32))) (0 : Int32)) (Int32.toNatClampNeg p1) p2) := y_AV_upd e212 (by first | with_reducible assumption | omega | ((with_reducible refine y_Vl ?_ ?_) <;> omega))
                  try have e220 := @y_cl (p1 + (1 : Int32)) (by omega)
                  try have e221 : y_AV 400 (upd (upd (upd g5_1 (Int32.toNatClampNeg (p1 - (1 : Int32))) (0 : Int32)) (Int32.toNatClampNeg p1) p2) (Int32.toNatClampNeg (p1 + (1 : Int32))) (7 : Int32)) := y_AV_upd e219 (by first | with_reducible assumption | omega | ((with_reducible refine y_Vl ?_ ?_) <;> omega))
                  refine y_some ?_
                  try dsimp only
                  (first | with_reducible assumption | omega | ((with_reducible refine y_Vl ?_ ?_) <;> omega))
          · skip
            try have e222 := @y_cl p1 (by omega)
            try have e223 := k2.at (Int32.toNatClampNeg p1) (by omega)
            try have e224 := e223.b
            have e225 : (7 : Int32).toInt = 7 := rfl
            have c175' := c175
            rw [← Int32.toInt_inj] at c175'
            refine y_if (fun c226 => ?_) (fun c226 => ?_)
            · skip
              try have e227 := @y_addL (p1 + (1 : Int32)) (1 : Int32) (1) rfl (by omega) (by omega)
              have c226' := c226
              rw [Int32.le_iff_toInt_le] at c226'
              refine y_gd (y_gdI (by omega) (by omega)) ?_
              refine y_if (fun c228 => ?_) (fun c228 => ?_)
              · skip
                have c228' := c228
                rw [Int32.le_iff_toInt_le] at c228'
                have e229 : (1 : Int32).toInt = 1 := rfl
                try have e230 : y_AV 400 (upd g5_1 (Int32.toNatClampNeg p1) p2) := y_AV_upd k2 (by first | with_reducible assumption | omega | ((with_reducible refine y_Vl ?_ ?_) <;> omega))
                refine y_some ?_
                try dsimp only
                (first | with_reducible assumption | omega | ((with_reducible refine y_Vl ?_ ?_) <;> omega))
              · skip
                have c228' := c228
                rw [Int32.le_iff_toInt_le] at c228'
                refine y_gd (y_gdI (by omega) (by omega)) ?_
                have e231 : (1 : Int32).toInt = 1 := rfl
                try have e232 : y_AV 400 (upd g5_1 (Int32.toNatClampNeg p1) p2) := y_AV_upd k2 (by first | with_reducible assumption | omega | ((with_reducible refine y_Vl ?_ ?_) <;> omega))
                try have e233 := @y_cl (p1 + (1 : Int32)) (by omega)
                try have e234 : y_AV 400 (upd (upd g5_1 (Int32.toNatClampNeg p1) p2) (Int32.toNatClampNeg (p1 + (1 : Int32))) (7 : Int32)) := y_AV_upd e232 (by first | with_reducible assumption | omega | ((with_reducible refine y_Vl ?_ ?_) <;> omega))
                refine y_some ?_
                try dsimp only
                (first | with_reducible assumption | omega | ((with_reducible refine y_Vl ?_ ?_) <;> omega))
            · skip
              try have e235 := @y_addL (p1 + (1 : Int32)) (1 : Int32) (1) rfl (by omega) (by omega)
              have c226' := c226
              rw [Int32.le_iff_toInt_le] at c226'
              refine y_gd (y_gdI (by omega) (by omega)) ?_
              refine y_if (fun c236 => ?_) (fun c236 => ?_)
              · skip
                try have e237 := @y_cl ((p1 + (1 : Int32)) + (1 : Int32)) (by omega)
                try have e238 := k2.at (Int32.toNatClampNeg ((p1 + (1 : Int32)) + (1 : Int32))) (by omega)
                try have e239 := e238.b
                have c236' := c236
                rw [← Int32.toInt_inj] at c236'
                refine y_gd (y_gdI (by omega) (by omega)) ?_
                refine y_gd (y_gdI (by omega) (by omega)) ?_
                refine y_if (fun c240 => ?_) (fun c240 => ?_)
                · skip
                  have c240' := c240
                  rw [Int32.le_iff_toInt_le] at c240'
                  have e241 : (1 : Int32).toInt = 1 := rfl
                  try have e242 : y_AV 400 (upd g5_1 (Int32.toNatClampNeg ((p1 + (1 : Int32)) + (1 : Int32))) (0 : Int32)) := y_AV_upd k2 (by first | with_reducible assumption | omega | ((with_reducible refine y_Vl ?_ ?_) <;> omega))
                  try have e243 : y_AV 400 (upd (upd g5_1 (Int32.toNatClampNeg ((p1 + (1 : Int32)) + (1 : Int32))) (0 : Int32)) (Int32.toNatClampNeg p1) p2) := y_AV_upd e242 (by first | with_reducible assumption | omega | ((with_reducible refine y_Vl ?_ ?_) <;> omega))
                  refine y_some ?_
                  try dsimp only
                  (first | with_reducible assumption | omega | ((with_reducible refine y_Vl ?_ ?_) <;> omega))
                · skip
                  have c240' := c240
                  rw [Int32.le_iff_toInt_le] at c240'
                  refine y_gd (y_gdI (by omega) (by omega)) ?_
                  have e244 : (1 : Int32).toInt = 1 := rfl
                  try have e245 : y_AV 400 (upd g5_1 (Int32.toNatClampNeg ((p1 + (1 : Int32)) + (1 : Int32))) (0 : Int32)) := y_AV_upd k2 (by first | with_reducible assumption | omega | ((with_reducible refine y_Vl ?_ ?_) <;> omega))
                  try have e246 : y_AV 400 (upd (upd g5_1 (Int32.toNatClampNeg ((p1 + (1 : Int32)) + (1 : Int32))) (0 : Int32)) (Int32.toNatClampNeg p1) p2) := y_AV_upd e245 (by first | with_reducible assumption | omega | ((with_reducible refine y_Vl ?_ ?_) <;> omega))
                  try have e247 := @y_cl (p1 + (1 : Int32)) (by omega)
                  try have e248 : y_AV 400 (upd (upd (upd g5_1 (Int32.toNatClampNeg ((p1 + (1 : Int32)) + (1 : Int32))) (0 : Int32)) (Int32.toNatClampNeg p1) p2) (Int32.toNatClampNeg (p1 + (1 : Int32))) (7 : Int32)) := y_AV_upd e246 (by first | with_reducible assumption | omega | ((with_reducible refine y_Vl ?_ ?_) <;> omega))
                  refine y_some ?_
                  try dsimp only
                  (first | with_reducible assumption | omega | ((with_reducible refine y_Vl ?_ ?_) <;> omega))
              · skip
                try have e249 := @y_cl ((p1 + (1 : Int32)) + (1 : Int32)) (by omega)
                try have e250 := k2.at (Int32.toNatClampNeg ((p1 + (1 : Int32)) + (1 : Int32))) (by omega)
                try have e251 := e250.b
                have c236' := c236
                rw [← Int32.toInt_inj] at c236'
                refine y_gd (y_gdI (by omega) (by omega)) ?_
                refine y_if (fun c252 => ?_) (fun c252 => ?_)
                · skip
                  have c252' := c252
                  rw [Int32.le_iff_toInt_le] at c252'
                  have e253 : (1 : Int32).toInt = 1 := rfl
                  try have e254 : y_AV 400 (upd g5_1 (Int32.toNatClampNeg p1) p2) := y_AV_upd k2 (by first | with_reducible assumption | omega | ((with_reducible refine y_Vl ?_ ?_) <;> omega))
                  refine y_some ?_
                  try dsimp only
                  (first | with_reducible assumption | omega | ((with_reducible refine y_Vl ?_ ?_) <;> omega))
                · skip
                  have c252' := c252
                  rw [Int32.le_iff_toInt_le] at c252'
                  refine y_gd (y_gdI (by omega) (by omega)) ?_
                  have e255 : (1 : Int32).toInt = 1 := rfl
                  try have e256 : y_AV 400 (upd g5_1 (Int32.toNatClampNeg p1) p2) := y_AV_upd k2 (by first | with_reducible assumption | omega | ((with_reducible refine y_Vl ?_ ?_) <;> omega))
                  try have e257 := @y_cl (p1 + (1 : Int32)) (by omega)
                  try have e258 : y_AV 400 (upd (upd g5_1 (Int32.toNatClampNeg p1) p2) (Int32.toNatClampNeg (p1 + (1 : Int32))) (7 : Int32)) := y_AV_upd e256 (by first | with_reducible assumption | omega | ((with_reducible refine y_Vl ?_ ?_) <;> omega))
                  refine y_some ?_
                  try dsimp only
                  (first | with_reducible assumption | omega | ((with_reducible refine y_Vl ?_ ?_) <;> omega))
      · skip
        try have e259 := @y_addL p1 (1 : Int32) (1) rfl (by omega) (by omega)
        have c130' := c130
        rw [Int32.lt_iff_toInt_lt] at c130'
        have e260 : (1 : Int32).toInt = 1 := rfl
        refine y_some ?_
        try dsimp only
        (first | with_reducible assumption | omega | ((with_reducible refine y_Vl ?_ ?_) <;> omega))
set_option maxHeartbeats 4000000 in
theorem y_X5_push {v5_3 : Int32} {v5_4 : Int32} {v5_6 : Int32} {g5_1 : Nat → Int32} {p1 : Int32} {v5_2 : Int32} (k0 : 0 ≤ v5_2.toInt) (k1 : v5_2.toInt ≤ v5_3.toInt) (k2 : v5_3.toInt ≤ v5_4.toInt) (k3 : v5_4.toInt ≤ 400) (k4 : y_AV 400 g5_1) (k5 : y_V p1) : y_Ok (f_X5_push v5_3 v5_4 v5_6 g5_1 p1) (fun r => (v5_2.toInt ≤ r.1.toInt) ∧ (r.1.toInt ≤ v5_4.toInt) ∧ (y_AV 400 r.2.2)) := by
  unfold f_X5_push
  refine y_bi (y_X5_isWide) (fun r_1 h_r_1 => ?_)
  have h0_r_1 : (r_1.toInt = 0 ∧ ¬ (p1.toInt = 3 ∨ p1.toInt = 4)) ∨ (r_1.toInt = 1 ∧ (p1.toInt = 3 ∨ p1.toInt = 4)) := h_r_1
  refine y_if (fun c1 => ?_) (fun c1 => ?_)
  · skip
    have e2 : (0 : Int32).toInt = 0 := rfl
    have c1' := c1
    rw [← Int32.toInt_inj] at c1'
    have e3 := y_or0 h0_r_1 c1'
    clear h0_r_1
    refine y_if (fun c4 => ?_) (fun c4 => ?_)
    · skip
      try have e5 := @y_addL v5_3 (1 : Int32) (1) rfl (by omega) (by omega)
      have c4' := c4
      rw [Int32.le_iff_toInt_le] at c4'
      refine y_gd (y_gdI (by omega) (by omega)) ?_
      try have e6 := @y_cl v5_3 (by omega)
      try have e7 : y_AV 400 (upd g5_1 (Int32.toNatClampNeg v5_3) p1) := y_AV_upd k4 (by first | with_reducible assumption | omega | ((with_reducible refine y_Vl ?_ ?_) <;> omega))
      refine y_some ?_
      try dsimp only
      refine ⟨?_, ?_, ?_⟩ <;> (first | with_reducible assumption | omega | ((with_reducible refine y_Vl ?_ ?_) <;> omega))
    · skip
      try have e8 := @y_addL v5_3 (1 : Int32) (1) rfl (by omega) (by omega)
      have c4' := c4
      rw [Int32.le_iff_toInt_le] at c4'
      have e9 : (1 : Int32).toInt = 1 := rfl
      refine y_some ?_
      try dsimp only
      refine ⟨?_, ?_, ?_⟩ <;> (first | with_reducible assumption | omega | ((with_reducible refine y_Vl ?_ ?_) <;> omega))
  · skip
    have e10 : (0 : Int32).toInt = 0 := rfl
    have c1' := c1
    rw [← Int32.toInt_inj] at c1'
    have e11 := y_or1 h0_r_1 c1'
    clear h0_r_1
    refine y_if (fun c12 => ?_) (fun c12 => ?_)
    · skip
      try have e13 := @y_addL v5_3 (2 : Int32) (2) rfl (by omega) (by omega)
      have c12' := c12
      rw [Int32.le_iff_toInt_le] at c12'
      refine y_gd (y_gdI (by omega) (by omega)) ?_
      try have e14 := @y_addL v5_3 (1 : Int32) (1) rfl (by omega) (by omega)
      refine y_gd (y_gdI (by omega) (by omega)) ?_
      try have e15 := @y_cl v5_3 (by omega)
      try have e16 : y_AV 400 (upd g5_1 (Int32.toNatClampNeg v5_3) p1) := y_AV_upd k4 (by first | with_reducible assumption | omega | ((with_reducible refine y_Vl ?_ ?_) <;> omega))
      try have e17 := @y_cl (v5_3 + (1 : Int32)) (by omega)
      have e18 : (7 : Int32).toInt = 7 := rfl
      try have e19 : y_AV 400 (upd (upd g5_1 (Int32.toNatClampNeg v5_3) p1) (Int32.toNatClampNeg (v5_3 + (1 : Int32))) (7 : Int32)) := y_AV_upd e16 (by first | with_reducible assumption | omega | ((with_reducible refine y_Vl ?_ ?_) <;> omega))
      refine y_some ?_
      try dsimp only
      refine ⟨?_, ?_, ?_⟩ <;> (first | with_reducible assumption | omega | ((with_reducible refine y_Vl ?_ ?_) <;> omega))
    · skip
      try have e20 := @y_addL v5_3 (2 : Int32) (2) rfl (by omega) (by omega)
      have c12' := c12
      rw [Int32.le_iff_toInt_le] at c12'
      have e21 : (1 : Int32).toInt = 1 := rfl
      refine y_some ?_
      try dsimp only
      refine ⟨?_, ?_, ?_⟩ <;> (first | with_reducible assumption | omega | ((with_reducible refine y_Vl ?_ ?_) <;> omega))
set_option maxHeartbeats 4000000 in
theorem y_X5_pushType {v5_3 : Int32} {v5_4 : Int32} {v5_6 : Int32} {g5_1 : Nat → Int32} {p1 : Int32} {v5_2 : Int32} (k0 : 0 ≤ v5_2.toInt) (k1 : v5_2.toInt ≤ v5_3.toInt) (k2 : v5_3.toInt ≤ v5_4.toInt) (k3 : v5_4.toInt ≤ 400) (k4 : y_AV 400 g5_1) (k5 : y_Ty p1) : y_Ok (f_X5_pushType v5_3 v5_4 v5_6 g5_1 p1) (fun r => (v5_2.toInt ≤ r.1.toInt) ∧ (r.1.toInt ≤ v5_4.toInt) ∧ (y_AV 400 r.2.2)) := by
  unfold f_X5_pushType
  refine y_bi (y_X7_placeOf (by first | with_reducible assumption | omega | ((with_reducible refine y_Vl ?_ ?_) <;> omega))) (fun r_1 h_r_1 => ?_)
  have h0_r_1 : y_V r_1 := h_r_1
  refine y_bi (y_X5_push (v5_2 := v5_2) (by omega) (by omega) (by omega) (by omega) (by first | with_reducible assumption | omega | ((with_reducible refine y_Vl ?_ ?_) <;> omega)) (by first | with_reducible assumption | omega | ((with_reducible refine y_Vl ?_ ?_) <;> omega))) (fun r_2 h_r_2 => ?_)
  obtain ⟨h0_r_2, h1_r_2, h2_r_2⟩ := h_r_2
  refine y_some ?_
  try dsimp only
  refine ⟨?_, ?_, ?_⟩ <;> (first | with_reducible assumption | omega | ((with_reducible refine y_Vl ?_ ?_) <;> omega))
set_option maxHeartbeats 4000000 in
theorem y_X5_pull {v5_2 : Int32} {v5_3 : Int32} {v5_6 : Int32} {g5_1 : Nat → Int32} (k0 : 0 ≤ v5_2.toInt) (k1 : v5_2.toInt ≤ v5_3.toInt) (k2 : v5_3.toInt ≤ 400) (k3 : y_AV 400 g5_1) : y_Ok (f_X5_pull v5_2 v5_3 v5_6 g5_1) (fun r => (y_V r.1) ∧ (v5_2.toInt ≤ r.2.1.toInt) ∧ (r.2.1.toInt ≤ v5_3.toInt) ∧ (r.2.2.toInt = 0 → r.2.1.toInt = v5_3.toInt - 1 ∧ v5_6.toInt = 0)) := by
  unfold f_X5_pull
  refine y_if (fun c1 => ?_) (fun c1 => ?_)
  · skip
    have c1' := c1
    rw [Int32.le_iff_toInt_le] at c1'
    have e2 : (0 : Int32).toInt = 0 := rfl
    have e3 : (1 : Int32).toInt = 1 := rfl
    refine y_some ?_
    try dsimp only
    refine ⟨?_, ?_, ?_, ?_⟩ <;> (first | with_reducible assumption | omega | ((with_reducible refine y_Vl ?_ ?_) <;> omega) | (intro hz; omega))
  · skip
    have c1' := c1
    rw [Int32.le_iff_toInt_le] at c1'
    try have e4 := @y_subL v5_3 (1 : Int32) (1) rfl (by omega) (by omega)
    refine y_gd (y_gdI (by omega) (by omega)) ?_
    refine y_if (fun c5 => ?_) (fun c5 => ?_)
    · skip
      try have e6 := @y_cl (v5_3 - (1 : Int32)) (by omega)
      try have e7 := k3.at (Int32.toNatClampNeg (v5_3 - (1 : Int32))) (by omega)
      try have e8 := e7.b
      have e9 : (7 : Int32).toInt = 7 := rfl
      have c5' := c5
      rw [← Int32.toInt_inj] at c5'
      have e10 : (0 : Int32).toInt = 0 := rfl
      have e11 : (1 : Int32).toInt = 1 := rfl
      refine y_some ?_
      try dsimp only
      refine ⟨?_, ?_, ?_, ?_⟩ <;> (first | with_reducible assumption | omega | ((with_reducible refine y_Vl ?_ ?_) <;> omega) | (intro hz; omega))
    · skip
      try have e12 := @y_cl (v5_3 - (1 : Int32)) (by omega)
      try have e13 := k3.at (Int32.toNatClampNeg (v5_3 - (1 : Int32))) (by omega)
      try have e14 := e13.b
      have e15 : (7 : Int32).toInt = 7 := rfl
      have c5' := c5
      rw [← Int32.toInt_inj] at c5'
      refine y_gd (y_gdI (by omega) (by omega)) ?_
      refine y_some ?_
      try dsimp only
      refine ⟨?_, ?_, ?_, ?_⟩ <;> (first | with_reducible assumption | omega | ((with_reducible refine y_Vl ?_ ?_) <;> omega) | (intro hz; omega))
set_option maxHeartbeats 4000000 in
theorem y_X5_pullKind {v5_2 : Int32} {v5_3 : Int32} {v5_6 : Int32} {g5_1 : Nat → Int32} {p1 : Int32} (k0 : 0 ≤ v5_2.toInt) (k1 : v5_2.toInt ≤ v5_3.toInt) (k2 : v5_3.toInt ≤ 400) : y_Ok (f_X5_pullKind v5_2 v5_3 v5_6 g5_1 p1) (fun r => (v5_2.toInt ≤ r.1.toInt) ∧ (r.1.toInt ≤ v5_3.toInt)) := by
  unfold f_X5_pullKind
  refine y_bi (y_X5_isWide) (fun r_1 h_r_1 => ?_)
  have h0_r_1 : (r_1.toInt = 0 ∧ ¬ (p1.toInt = 3 ∨ p1.toInt = 4)) ∨ (r_1.toInt = 1 ∧ (p1.toInt = 3 ∨ p1.toInt = 4)) := h_r_1
  refine y_if (fun c1 => ?_) (fun c1 => ?_)
  · skip
    have e2 : (0 : Int32).toInt = 0 := rfl
    have c1' := c1
    rw [← Int32.toInt_inj] at c1'
    have e3 := y_or0 h0_r_1 c1'
    clear h0_r_1
    refine y_if (fun c4 => ?_) (fun c4 => ?_)
    · skip
      try have e5 := @y_subL v5_3 (1 : Int32) (1) rfl (by omega) (by omega)
      have c4' := c4
      rw [Int32.lt_iff_toInt_lt] at c4'
      have e6 : (1 : Int32).toInt = 1 := rfl
      refine y_some ?_
      try dsimp only
      refine ⟨?_, ?_⟩ <;> (first | with_reducible assumption | omega | ((with_reducible refine y_Vl ?_ ?_) <;> omega))
    · skip
      try have e7 := @y_subL v5_3 (1 : Int32) (1) rfl (by omega) (by omega)
      have c4' := c4
      rw [Int32.lt_iff_toInt_lt] at c4'
      refine y_gd (y_gdI (by omega) (by omega)) ?_
      refine y_if (fun c8 => ?_) (fun c8 => ?_)
      · skip
        try have e9 := @y_cl (v5_3 - (1 : Int32)) (by omega)
        have c8' := c8
        rw [← Int32.toInt_inj] at c8'
        refine y_some ?_
        try dsimp only
        refine ⟨?_, ?_⟩ <;> (first | with_reducible assumption | omega | ((with_reducible refine y_Vl ?_ ?_) <;> omega))
      · skip
        try have e10 := @y_cl (v5_3 - (1 : Int32)) (by omega)
        have c8' := c8
        rw [← Int32.toInt_inj] at c8'
        have e11 : (1 : Int32).toInt = 1 := rfl
        refine y_some ?_
        try dsimp only
        refine ⟨?_, ?_⟩ <;> (first | with_reducible assumption | omega | ((with_reducible refine y_Vl ?_ ?_) <;> omega))
  · skip
    have e12 : (0 : Int32).toInt = 0 := rfl
    have c1' := c1
    rw [← Int32.toInt_inj] at c1'
    have e13 := y_or1 h0_r_1 c1'
    clear h0_r_1
    refine y_if (fun c14 => ?_) (fun c14 => ?_)
    · skip
      try have e15 := @y_subL v5_3 (2 : Int32) (2) rfl (by omega) (by omega)
      have c14' := c14
      rw [Int32.lt_iff_toInt_lt] at c14'
      have e16 : (1 : Int32).toInt = 1 := rfl
      refine y_some ?_
      try dsimp only
      refine ⟨?_, ?_⟩ <;> (first | with_reducible assumption | omega | ((with_reducible refine y_Vl ?_ ?_) <;> omega))
    · skip
      try have e17 := @y_subL v5_3 (2 : Int32) (2) rfl (by omega) (by omega)
      have c14' := c14
      rw [Int32.lt_iff_toInt_lt] at c14'
      refine y_gd (y_gdI (by omega) (by omega)) ?_
      refine y_if (fun c18 => ?_) (fun c18 => ?_)
      · skip
        try have e19 := @y_cl (v5_3 - (2 : Int32)) (by omega)
        have c18' := c18
        rw [← Int32.toInt_inj] at c18'
        refine y_some ?_
        try dsimp only
        refine ⟨?_, ?_⟩ <;> (first | with_reducible assumption | omega | ((with_reducible refine y_Vl ?_ ?_) <;> omega))
      · skip
        try have e20 := @y_cl (v5_3 - (2 : Int32)) (by omega)
        have c18' := c18
        rw [← Int32.toInt_inj] at c18'
        have e21 : (1 : Int32).toInt = 1 := rfl
        refine y_some ?_
        try dsimp only
        refine ⟨?_, ?_⟩ <;> (first | with_reducible assumption | omega | ((with_reducible refine y_Vl ?_ ?_) <;> omega))
set_option maxHeartbeats 4000000 in
theorem y_X5_pullType {v7_2 : Int32} {g7_0 : Nat → Int32} {g7_1 : Nat → Int32} {v5_2 : Int32} {v5_3 : Int32} {v5_6 : Int32} {v5_8 : Int32} {v5_9 : Int32} {g5_1 : Nat → Int32} {p1 : Int32} (k0 : 4 ≤ v7_2.toInt) (k1 : v7_2.toInt ≤ 200) (k2 : y_Rg 200 0 199 g7_0) (k3 : 0 ≤ v5_2.toInt) (k4 : v5_2.toInt ≤ v5_3.toInt) (k5 : v5_3.toInt ≤ 400) (k6 : y_AV 400 g5_1) (k7 : 0 ≤ v5_8.toInt) (k8 : v5_8.toInt ≤ 1) (k9 : y_Ty p1) : y_Ok (f_X5_pullType v7_2 g7_0 g7_1 v5_2 v5_3 v5_6 v5_8 v5_9 g5_1 p1) (fun r => (v5_2.toInt ≤ r.1.toInt) ∧ (r.1.toInt ≤ v5_3.toInt) ∧ (0 ≤ r.2.2.toInt) ∧ (r.2.2.toInt ≤ 1)) := by
  have hp1 := (by assumption : y_Ty p1).b
  unfold f_X5_pullType
  refine y_bi (y_X7_isPrimitive) (fun r_1 h_r_1 => ?_)
  have h0_r_1 : (r_1.toInt = 0 ∧ ¬ (65528 ≤ p1.toInt ∧ p1.toInt < 65536)) ∨ (r_1.toInt = 1 ∧ (65528 ≤ p1.toInt ∧ p1.toInt < 65536)) := h_r_1
  refine y_if (fun c1 => ?_) (fun c1 => ?_)
  · skip
    have e2 : (0 : Int32).toInt = 0 := rfl
    have c1' := c1
    rw [← Int32.toInt_inj] at c1'
    have e3 := y_or0 h0_r_1 c1'
    clear h0_r_1
    refine y_bi (y_X5_pull (by omega) (by omega) (by omega) (by first | with_reducible assumption | omega | ((with_reducible refine y_Vl ?_ ?_) <;> omega) | ((with_reducible refine y_V8 ?_) <;> (first | with_reducible assumption | (unfold y_Tr; omega))) | ((with_reducible refine y_Tr4 ?_ ?_) <;> (first | with_reducible assumption | omega)) | ((with_reducible refine (y_Tr4 ?_ ?_).ty) <;> (first | with_reducible assumption | omega)) | (unfold y_Ty; omega) | (unfold y_Tr; omega))) (fun r_3 h_r_3 => ?_)
    obtain ⟨h0_r_3, h1_r_3, h2_r_3, h3_r_3⟩ := h_r_3
    have hb3 := h0_r_3.b
    refine y_if (fun c4 => ?_) (fun c4 => ?_)
    · skip
      have e5 : (5 : Int32).toInt = 5 := rfl
      have c4' := c4
      rw [← Int32.toInt_inj] at c4'
      refine y_some ?_
      try dsimp only
      refine ⟨?_, ?_, ?_, ?_⟩ <;> (first | with_reducible assumption | omega | ((with_reducible refine y_Vl ?_ ?_) <;> omega) | ((with_reducible refine y_V8 ?_) <;> (first | with_reducible assumption | (unfold y_Tr; omega))) | ((with_reducible refine y_Tr4 ?_ ?_) <;> (first | with_reducible assumption | omega)) | ((with_reducible refine (y_Tr4 ?_ ?_).ty) <;> (first | with_reducible assumption | omega)) | (unfold y_Ty; omega) | (unfold y_Tr; omega))
    · skip
      have e6 : (5 : Int32).toInt = 5 := rfl
      have c4' := c4
      rw [← Int32.toInt_inj] at c4'
      refine y_if (fun c7 => ?_) (fun c7 => ?_)
      · skip
        have e8 := y_and4 r_3.1
        have e9 : (8 : Int32).toInt = 8 := rfl
        have c7' := c7
        rw [← Int32.toInt_inj] at c7'
        have e10 := y_sar4 r_3.1
        refine y_bi (y_X7_mayStand (by omega) (by omega) (by first | with_reducible assumption | omega | ((with_reducible refine y_Vl ?_ ?_) <;> omega) | ((with_reducible refine y_V8 ?_) <;> (first | with_reducible assumption | (unfold y_Tr; omega))) | ((with_reducible refine y_Tr4 ?_ ?_) <;> (first | with_reducible assumption | omega)) | ((with_reducible refine (y_Tr4 ?_ ?_).ty) <;> (first | with_reducible assumption | omega)) | (unfold y_Ty; omega) | (unfold y_Tr; omega)) (by omega) (by omega)) (fun r_6 h_r_6 => ?_)
        have h0_r_6 : r_6.toInt = 0 ∨ r_6.toInt = 1 := h_r_6
        refine y_if (fun c11 => ?_) (fun c11 => ?_)
        · skip
          have c11' := c11
          rw [← Int32.toInt_inj] at c11'
          refine y_if (fun c12 => ?_) (fun c12 => ?_)
          · skip
            have c12' := c12
            rw [← Int32.toInt_inj] at c12'
            refine y_bi (y_X7_isOfInterface (by omega) (by omega)) (fun r_15 h_r_15 => ?_)
            have h0_r_15 : r_15.toInt = 0 ∨ r_15.toInt = 1 := h_r_15
            refine y_if (fun c13 => ?_) (fun c13 => ?_)
            · skip
              have c13' := c13
              rw [← Int32.toInt_inj] at c13'
              refine y_if (fun c14 => ?_) (fun c14 => ?_)
              · skip
                have c14' := c14
                rw [← Int32.toInt_inj] at c14'
                refine y_if (fun c15 => ?_) (fun c15 => ?_)
                · skip
                  have c15' := c15
                  rw [← Int32.toInt_inj] at c15'
                  have e16 : (1 : Int32).toInt = 1 := rfl
                  refine y_some ?_
                  try dsimp only
                  refine ⟨?_, ?_, ?_, ?_⟩ <;> (first | with_reducible assumption | omega | ((with_reducible refine y_Vl ?_ ?_) <;> omega) | ((with_reducible refine y_V8 ?_) <;> (first | with_reducible assumption | (unfold y_Tr; omega))) | ((with_reducible refine y_Tr4 ?_ ?_) <;> (first | with_reducible assumption | omega)) | ((with_reducible refine (y_Tr4 ?_ ?_).ty) <;> (first | with_reducible assumption | omega)) | (unfold y_Ty; omega) | (unfold y_Tr; omega))
                · skip
                  have c15' := c15
                  rw [← Int32.toInt_inj] at c15'
                  have e17 : (1 : Int32).toInt = 1 := rfl
                  refine y_some ?_
                  try dsimp only
                  refine ⟨?_, ?_, ?_, ?_⟩ <;> (first | with_reducible assumption | omega | ((with_reducible refine y_Vl ?_ ?_) <;> omega) | ((with_reducible refine y_V8 ?_) <;> (first | with_reducible assumption | (unfold y_Tr; omega))) | ((with_reducible refine y_Tr4 ?_ ?_) <;> (first | with_reducible assumption | omega)) | ((with_reducible refine (y_Tr4 ?_ ?_).ty) <;> (first | with_reducible assumption | omega)) | (unfold y_Ty; omega) | (unfold y_Tr; omega))
              · skip
                have c14' := c14
                rw [← Int32.toInt_inj] at c14'
                refine y_if (fun c18 => ?_) (fun c18 => ?_)
                · skip
                  have c18' := c18
                  rw [← Int32.toInt_inj] at c18'
                  have e19 : (1 : Int32).toInt = 1 := rfl
                  refine y_some ?_
                  try dsimp only
                  refine ⟨?_, ?_, ?_, ?_⟩ <;> (first | with_reducible assumption | omega | ((with_reducible refine y_Vl ?_ ?_) <;> omega) | ((with_reducible refine y_V8 ?_) <;> (first | with_reducible assumption | (unfold y_Tr; omega))) | ((with_reducible refine y_Tr4 ?_ ?_) <;> (first | with_reducible assumption | omega)) | ((with_reducible refine (y_Tr4 ?_ ?_).ty) <;> (first | with_reducible assumption | omega)) | (unfold y_Ty; omega) | (unfold y_Tr; omega))
                · skip
                  have c18' := c18
                  rw [← Int32.toInt_inj] at c18'
                  have e20 : (1 : Int32).toInt = 1 := rfl
                  refine y_some ?_
                  try dsimp only
                  refine ⟨?_, ?_, ?_, ?_⟩ <;> (first | with_reducible assumption | omega | ((with_reducible refine y_Vl ?_ ?_) <;> omega) | ((with_reducible refine y_V8 ?_) <;> (first | with_reducible assumption | (unfold y_Tr; omega))) | ((with_reducible refine y_Tr4 ?_ ?_) <;> (first | with_reducible assumption | omega)) | ((with_reducible refine (y_Tr4 ?_ ?_).ty) <;> (first | with_reducible assumption | omega)) | (unfold y_Ty; omega) | (unfold y_Tr; omega))
            · skip
              have c13' := c13
              rw [← Int32.toInt_inj] at c13'
              have e21 := y_and16 p1
              try have e22 := @y_sub p1 (p1 &&& (65535 : Int32)) (by omega) (by omega)
              refine y_bi (y_X7_mayStand (by omega) (by omega) (by first | with_reducible assumption | omega | ((with_reducible refine y_Vl ?_ ?_) <;> omega) | ((with_reducible refine y_V8 ?_) <;> (first | with_reducible assumption | (unfold y_Tr; omega))) | ((with_reducible refine y_Tr4 ?_ ?_) <;> (first | with_reducible assumption | omega)) | ((with_reducible refine (y_Tr4 ?_ ?_).ty) <;> (first | with_reducible assumption | omega)) | (unfold y_Ty; omega) | (unfold y_Tr; omega)) (by omega) (by omega)) (fun r_23 h_r_23 => ?_)
              have h0_r_23 : r_23.toInt = 0 ∨ r_23.toInt = 1 := h_r_23
              refine y_if (fun c23 => ?_) (fun c23 => ?_)
              · skip
                have c23' := c23
                rw [← Int32.toInt_inj] at c23'
                refine y_if (fun c24 => ?_) (fun c24 => ?_)
                · skip
                  have c24' := c24
                  rw [← Int32.toInt_inj] at c24'
                  refine y_if (fun c25 => ?_) (fun c25 => ?_)
                  · skip
                    have c25' := c25
                    rw [← Int32.toInt_inj] at c25'
                    have e26 : (1 : Int32).toInt = 1 := rfl
                    refine y_some ?_
                    try dsimp only
                    refine ⟨?_, ?_, ?_, ?_⟩ <;> (first | with_reducible assumption | omega | ((with_reducible refine y_Vl ?_ ?_) <;> omega) | ((with_reducible refine y_V8 ?_) <;> (first | with_reducible assumption | (unfold y_Tr; omega))) | ((with_reducible refine y_Tr4 ?_ ?_) <;> (first | with_reducible assumption | omega)) | ((with_reducible refine (y_Tr4 ?_ ?_).ty) <;> (first | with_reducible assumption | omega)) | (unfold y_Ty; omega) | (unfold y_Tr; omega))
                  · skip
                    have c25' := c25
                    rw [← Int32.toInt_inj] at c25'
                    have e27 : (1 : Int32).toInt = 1 := rfl
                    refine y_some ?_
                    try dsimp only
                    refine ⟨?_, ?_, ?_, ?_⟩ <;> (first | with_reducible assumption | omega | ((with_reducible refine y_Vl ?_ ?_) <;> omega) | ((with_reducible refine y_V8 ?_) <;> (first | with_reducible assumption | (unfold y_Tr; omega))) | ((with_reducible refine y_Tr4 ?_ ?_) <;> (first | with_reducible assumption | omega)) | ((with_reducible refine (y_Tr4 ?_ ?_).ty) <;> (first | with_reducible assumption | omega)) | (unfold y_Ty; omega) | (unfold y_Tr; omega))
                · skip
                  have c24' := c24
                  rw [← Int32.toInt_inj] at c24'
                  refine y_if (fun c28 => ?_) (fun c28 => ?_)
                  · skip
                    have c28' := c28
                    rw [← Int32.toInt_inj] at c28'
                    have e29 : (1 : Int32).toInt = 1 := rfl
                    refine y_some ?_
                    try dsimp only
                    refine ⟨?_, ?_, ?_, ?_⟩ <;> (first | with_reducible assumption | omega | ((with_reducible refine y_Vl ?_ ?_) <;> omega) | ((with_reducible refine y_V8 ?_) <;> (first | with_reducible assumption | (unfold y_Tr; omega))) | ((with_reducible refine y_Tr4 ?_ ?_) <;> (first | with_reducible assumption | omega)) | ((with_reducible refine (y_Tr4 ?_ ?_).ty) <;> (first | with_reducible assumption | omega)) | (unfold y_Ty; omega) | (unfold y_Tr; omega))
                  · skip
                    have c28' := c28
                    rw [← Int32.toInt_inj] at c28'
                    have e30 : (1 : Int32).toInt = 1 := rfl
                    refine y_some ?_
                    try dsimp only
                    refine ⟨?_, ?_, ?_, ?_⟩ <;> (first | with_reducible assumption | omega | ((with_reducible refine y_Vl ?_ ?_) <;> omega) | ((with_reducible refine y_V8 ?_) <;> (first | with_reducible assumption | (unfold y_Tr; omega))) | ((with_reducible refine y_Tr4 ?_ ?_) <;> (first | with_reducible assumption | omega)) | ((with_reducible refine (y_Tr4 ?_ ?_).ty) <;> (first | with_reducible assumption | omega)) | (unfold y_Ty; omega) | (unfold y_Tr; omega))
              · skip
                have c23' := c23
                rw [← Int32.toInt_inj] at c23'
                refine y_if (fun c31 => ?_) (fun c31 => ?_)
                · skip
                  have c31' := c31
                  rw [← Int32.toInt_inj] at c31'
                  refine y_if (fun c32 => ?_) (fun c32 => ?_)
                  · skip
                    have c32' := c32
                    rw [← Int32.toInt_inj] at c32'
                    have e33 : (1 : Int32).toInt = 1 := rfl
                    refine y_some ?_
                    try dsimp only
                    refine ⟨?_, ?_, ?_, ?_⟩ <;> (first | with_reducible assumption | omega | ((with_reducible refine y_Vl ?_ ?_) <;> omega) | ((with_reducible refine y_V8 ?_) <;> (first | with_reducible assumption | (unfold y_Tr; omega))) | ((with_reducible refine y_Tr4 ?_ ?_) <;> (first | with_reducible assumption | omega)) | ((with_reducible refine (y_Tr4 ?_ ?_).ty) <;> (first | with_reducible assumption | omega)) | (unfold y_Ty; omega) | (unfold y_Tr; omega))
                  · skip
                    have c32' := c32
                    rw [← Int32.toInt_inj] at c32'
                    have e34 : (1 : Int32).toInt = 1 := rfl
                    refine y_some ?_
                    try dsimp only
                    refine ⟨?_, ?_, ?_, ?_⟩ <;> (first | with_reducible assumption | omega | ((with_reducible refine y_Vl ?_ ?_) <;> omega) | ((with_reducible refine y_V8 ?_) <;> (first | with_reducible assumption | (unfold y_Tr; omega))) | ((with_reducible refine y_Tr4 ?_ ?_) <;> (first | with_reducible assumption | omega)) | ((with_reducible refine (y_Tr4 ?_ ?_).ty) <;> (first | with_reducible assumption | omega)) | (unfold y_Ty; omega) | (unfold y_Tr; omega))
                · skip
                  have c31' := c31
                  rw [← Int32.toInt_inj] at c31'
                  refine y_if (fun c35 => ?_) (fun c35 => ?_)
                  · skip
                    have c35' := c35
                    rw [← Int32.toInt_inj] at c35'
                    have e36 : (1 : Int32).toInt = 1 := rfl
                    refine y_some ?_
                    try dsimp only
                    refine ⟨?_, ?_, ?_, ?_⟩ <;> (first | with_reducible assumption | omega | ((with_reducible refine y_Vl ?_ ?_) <;> omega) | ((with_reducible refine y_V8 ?_) <;> (first | with_reducible assumption | (unfold y_Tr; omega))) | ((with_reducible refine y_Tr4 ?_ ?_) <;> (first | with_reducible assumption | omega)) | ((with_reducible refine (y_Tr4 ?_ ?_).ty) <;> (first | with_reducible assumption | omega)) | (unfold y_Ty; omega) | (unfold y_Tr; omega))
                  · skip
                    have c35' := c35
                    rw [← Int32.toInt_inj] at c35'
                    have e37 : (1 : Int32).toInt = 1 := rfl
                    refine y_some ?_
                    try dsimp only
                    refine ⟨?_, ?_, ?_, ?_⟩ <;> (first | with_reducible assumption | omega | ((with_reducible refine y_Vl ?_ ?_) <;> omega) | ((with_reducible refine y_V8 ?_) <;> (first | with_reducible assumption | (unfold y_Tr; omega))) | ((with_reducible refine y_Tr4 ?_ ?_) <;> (first | with_reducible assumption | omega)) | ((with_reducible refine (y_Tr4 ?_ ?_).ty) <;> (first | with_reducible assumption | omega)) | (unfold y_Ty; omega) | (unfold y_Tr; omega))
          · skip
            have c12' := c12
            rw [← Int32.toInt_inj] at c12'
            refine y_if (fun c38 => ?_) (fun c38 => ?_)
            · skip
              have c38' := c38
              rw [← Int32.toInt_inj] at c38'
              refine y_if (fun c39 => ?_) (fun c39 => ?_)
              · skip
                have c39' := c39
                rw [← Int32.toInt_inj] at c39'
                have e40 : (1 : Int32).toInt = 1 := rfl
                refine y_some ?_
                try dsimp only
                refine ⟨?_, ?_, ?_, ?_⟩ <;> (first | with_reducible assumption | omega | ((with_reducible refine y_Vl ?_ ?_) <;> omega) | ((with_reducible refine y_V8 ?_) <;> (first | with_reducible assumption | (unfold y_Tr; omega))) | ((with_reducible refine y_Tr4 ?_ ?_) <;> (first | with_reducible assumption | omega)) | ((with_reducible refine (y_Tr4 ?_ ?_).ty) <;> (first | with_reducible assumption | omega)) | (unfold y_Ty; omega) | (unfold y_Tr; omega))
              · skip
                have c39' := c39
                rw [← Int32.toInt_inj] at c39'
                have e41 : (1 : Int32).toInt = 1 := rfl
                refine y_some ?_
                try dsimp only
                refine ⟨?_, ?_, ?_, ?_⟩ <;> (first | with_reducible assumption | omega | ((with_reducible refine y_Vl ?_ ?_) <;> omega) | ((with_reducible refine y_V8 ?_) <;> (first | with_reducible assumption | (unfold y_Tr; omega))) | ((with_reducible refine y_Tr4 ?_ ?_) <;> (first | with_reducible assumption | omega)) | ((with_reducible refine (y_Tr4 ?_ ?_).ty) <;> (first | with_reducible assumption | omega)) | (unfold y_Ty; omega) | (unfold y_Tr; omega))
            · skip
              have c38' := c38
              rw [← Int32.toInt_inj] at c38'
              refine y_if (fun c42 => ?_) (fun c42 => ?_)
              · skip
                have c42' := c42
                rw [← Int32.toInt_inj] at c42'
                have e43 : (1 : Int32).toInt = 1 := rfl
                refine y_some ?_
                try dsimp only
                refine ⟨?_, ?_, ?_, ?_⟩ <;> (first | with_reducible assumption | omega | ((with_reducible refine y_Vl ?_ ?_) <;> omega) | ((with_reducible refine y_V8 ?_) <;> (first | with_reducible assumption | (unfold y_Tr; omega))) | ((with_reducible refine y_Tr4 ?_ ?_) <;> (first | with_reducible assumption | omega)) | ((with_reducible refine (y_Tr4 ?_ ?_).ty) <;> (first | with_reducible assumption | omega)) | (unfold y_Ty; omega) | (unfold y_Tr; omega))
              · skip
                have c42' := c42
                rw [← Int32.toInt_inj] at c42'
                have e44 : (1 : Int32).toInt = 1 := rfl
                refine y_some ?_
                try dsimp only
                refine ⟨?_, ?_, ?_, ?_⟩ <;> (first | with_reducible assumption | omega | ((with_reducible refine y_Vl ?_ ?_) <;> omega) | ((with_reducible refine y_V8 ?_) <;> (first | with_reducible assumption | (unfold y_Tr; omega))) | ((with_reducible refine y_Tr4 ?_ ?_) <;> (first | with_reducible assumption | omega)) | ((with_reducible refine (y_Tr4 ?_ ?_).ty) <;> (first | with_reducible assumption | omega)) | (unfold y_Ty; omega) | (unfold y_Tr; omega))
        · skip
          have c11' := c11
          rw [← Int32.toInt_inj] at c11'
          refine y_some ?_
          try dsimp only
          refine ⟨?_, ?_, ?_, ?_⟩ <;> (first | with_reducible assumption | omega | ((with_reducible refine y_Vl ?_ ?_) <;> omega) | ((with_reducible refine y_V8 ?_) <;> (first | with_reducible assumption | (unfold y_Tr; omega))) | ((with_reducible refine y_Tr4 ?_ ?_) <;> (first | with_reducible assumption | omega)) | ((with_reducible refine (y_Tr4 ?_ ?_).ty) <;> (first | with_reducible assumption | omega)) | (unfold y_Ty; omega) | (unfold y_Tr; omega))
      · skip
        have e45 := y_and4 r_3.1
        have e46 : (8 : Int32).toInt = 8 := rfl
        have c7' := c7
        rw [← Int32.toInt_inj] at c7'
        have e47 : (1 : Int32).toInt = 1 := rfl
        refine y_some ?_
        try dsimp only
        refine ⟨?_, ?_, ?_, ?_⟩ <;> (first | with_reducible assumption | omega | ((with_reducible refine y_Vl ?_ ?_) <;> omega) | ((with_reducible refine y_V8 ?_) <;> (first | with_reducible assumption | (unfold y_Tr; omega))) | ((with_reducible refine y_Tr4 ?_ ?_) <;> (first | with_reducible assumption | omega)) | ((with_reducible refine (y_Tr4 ?_ ?_).ty) <;> (first | with_reducible assumption | omega)) | (unfold y_Ty; omega) | (unfold y_Tr; omega))
  · skip
    have e48 : (0 : Int32).toInt = 0 := rfl
    have c1' := c1
    rw [← Int32.toInt_inj] at c1'
    have e49 := y_or1 h0_r_1 c1'
    clear h0_r_1
    refine y_bi (y_X7_placeOf (by first | with_reducible assumption | omega | ((with_reducible refine y_Vl ?_ ?_) <;> omega) | ((with_reducible refine y_V8 ?_) <;> (first | with_reducible assumption | (unfold y_Tr; omega))) | ((with_reducible refine y_Tr4 ?_ ?_) <;> (first | with_reducible assumption | omega)) | ((with_reducible refine (y_Tr4 ?_ ?_).ty) <;> (first | with_reducible assumption | omega)) | (unfold y_Ty; omega) | (unfold y_Tr; omega))) (fun r_37 h_r_37 => ?_)
    have h0_r_37 : y_V r_37 := h_r_37
    refine y_bi (y_X5_pullKind (by omega) (by omega) (by omega)) (fun r_38 h_r_38 => ?_)
    obtain ⟨h0_r_38, h1_r_38⟩ := h_r_38
    refine y_some ?_
    try dsimp only
    refine ⟨?_, ?_, ?_, ?_⟩ <;> (first | with_reducible assumption | omega | ((with_reducible refine y_Vl ?_ ?_) <;> omega) | ((with_reducible refine y_V8 ?_) <;> (first | with_reducible assumption | (unfold y_Tr; omega))) | ((with_reducible refine y_Tr4 ?_ ?_) <;> (first | with_reducible assumption | omega)) | ((with_reducible refine (y_Tr4 ?_ ?_).ty) <;> (first | with_reducible assumption | omega)) | (unfold y_Ty; omega) | (unfold y_Tr; omega))
set_option maxHeartbeats 4000000 in
theorem y_X5_pullReference {v5_2 : Int32} {v5_3 : Int32} {v5_6 : Int32} {g5_1 : Nat → Int32} (k0 : 0 ≤ v5_2.toInt) (k1 : v5_2.toInt ≤ v5_3.toInt) (k2 : v5_3.toInt ≤ 400) (k3 : y_AV 400 g5_1) : y_Ok (f_X5_pullReference v5_2 v5_3 v5_6 g5_1) (fun r => (v5_2.toInt ≤ r.2.1.toInt) ∧ (r.2.1.toInt ≤ v5_3.toInt)) := by
  unfold f_X5_pullReference
  refine y_bi (y_X5_pull (by omega) (by omega) (by omega) (by first | with_reducible assumption | omega | ((with_reducible refine y_Vl ?_ ?_) <;> omega))) (fun r_1 h_r_1 => ?_)
  obtain ⟨h0_r_1, h1_r_1, h2_r_1, h3_r_1⟩ := h_r_1
  refine y_bi (y_X5_isAnyReference) (fun r_2 h_r_2 => ?_)
  have h0_r_2 : r_2.toInt = 0 ∨ r_2.toInt = 1 := h_r_2
  refine y_if (fun c1 => ?_) (fun c1 => ?_)
  · skip
    have e2 : (0 : Int32).toInt = 0 := rfl
    have c1' := c1
    rw [← Int32.toInt_inj] at c1'
    have e3 : (1 : Int32).toInt = 1 := rfl
    refine y_some ?_
    try dsimp only
    refine ⟨?_, ?_⟩ <;> (first | with_reducible assumption | omega | ((with_reducible refine y_Vl ?_ ?_) <;> omega))
  · skip
    have e4 : (0 : Int32).toInt = 0 := rfl
    have c1' := c1
    rw [← Int32.toInt_inj] at c1'
    refine y_some ?_
    try dsimp only
    refine ⟨?_, ?_⟩ <;> (first | with_reducible assumption | omega | ((with_reducible refine y_Vl ?_ ?_) <;> omega))
set_option maxHeartbeats 4000000 in
theorem y_X5_pullArray {v5_2 : Int32} {v5_3 : Int32} {v5_6 : Int32} {g5_1 : Nat → Int32} (k0 : 0 ≤ v5_2.toInt) (k1 : v5_2.toInt ≤ v5_3.toInt) (k2 : v5_3.toInt ≤ 400) (k3 : y_AV 400 g5_1) : y_Ok (f_X5_pullArray v5_2 v5_3 v5_6 g5_1) (fun r => (r.1.toInt = -1 ∨ 65536 ≤ r.1.toInt ∧ y_Tr r.1) ∧ (v5_2.toInt ≤ r.2.1.toInt) ∧ (r.2.1.toInt ≤ v5_3.toInt)) := by
  unfold f_X5_pullArray
  refine y_bi (y_X5_pull (by omega) (by omega) (by omega) (by first | with_reducible assumption | omega | ((with_reducible refine y_Vl ?_ ?_) <;> omega) | ((with_reducible refine y_V8 ?_) <;> (first | with_reducible assumption | (unfold y_Tr; omega))) | ((with_reducible refine y_Tr4 ?_ ?_) <;> (first | with_reducible assumption | omega)) | ((with_reducible refine (y_Tr4 ?_ ?_).ty) <;> (first | with_reducible assumption | omega)) | (unfold y_Ty; omega) | (unfold y_Tr; omega) | exact Or.inl (by omega) | (refine Or.inr ⟨by omega, ?_⟩; ((with_reducible refine y_Tr4 ?_ ?_) <;> (first | with_reducible assumption | omega))))) (fun r_1 h_r_1 => ?_)
  obtain ⟨h0_r_1, h1_r_1, h2_r_1, h3_r_1⟩ := h_r_1
  have hb1 := h0_r_1.b
  refine y_if (fun c1 => ?_) (fun c1 => ?_)
  · skip
    have e2 := y_and4 r_1.1
    have e3 : (8 : Int32).toInt = 8 := rfl
    have c1' := c1
    rw [← Int32.toInt_inj] at c1'
    refine y_if (fun c4 => ?_) (fun c4 => ?_)
    · skip
      have e5 := y_sar4 r_1.1
      have e6 : (65536 : Int32).toInt = 65536 := rfl
      have c4' := c4
      rw [Int32.lt_iff_toInt_lt] at c4'
      refine y_if (fun c7 => ?_) (fun c7 => ?_)
      · skip
        have e8 : (0 : Int32).toInt = 0 := rfl
        have c7' := c7
        rw [← Int32.toInt_inj] at c7'
        refine y_if (fun c9 => ?_) (fun c9 => ?_)
        · skip
          have e10 : (5 : Int32).toInt = 5 := rfl
          have c9' := c9
          rw [← Int32.toInt_inj] at c9'
          have e11 : (-1 : Int32).toInt = -1 := rfl
          refine y_some ?_
          try dsimp only
          refine ⟨?_, ?_, ?_⟩ <;> (first | with_reducible assumption | omega | ((with_reducible refine y_Vl ?_ ?_) <;> omega) | ((with_reducible refine y_V8 ?_) <;> (first | with_reducible assumption | (unfold y_Tr; omega))) | ((with_reducible refine y_Tr4 ?_ ?_) <;> (first | with_reducible assumption | omega)) | ((with_reducible refine (y_Tr4 ?_ ?_).ty) <;> (first | with_reducible assumption | omega)) | (unfold y_Ty; omega) | (unfold y_Tr; omega) | exact Or.inl (by omega) | (refine Or.inr ⟨by omega, ?_⟩; ((with_reducible refine y_Tr4 ?_ ?_) <;> (first | with_reducible assumption | omega))))
        · skip
          have e12 : (5 : Int32).toInt = 5 := rfl
          have c9' := c9
          rw [← Int32.toInt_inj] at c9'
          have e13 : (-1 : Int32).toInt = -1 := rfl
          have e14 : (1 : Int32).toInt = 1 := rfl
          refine y_some ?_
          try dsimp only
          refine ⟨?_, ?_, ?_⟩ <;> (first | with_reducible assumption | omega | ((with_reducible refine y_Vl ?_ ?_) <;> omega) | ((with_reducible refine y_V8 ?_) <;> (first | with_reducible assumption | (unfold y_Tr; omega))) | ((with_reducible refine y_Tr4 ?_ ?_) <;> (first | with_reducible assumption | omega)) | ((with_reducible refine (y_Tr4 ?_ ?_).ty) <;> (first | with_reducible assumption | omega)) | (unfold y_Ty; omega) | (unfold y_Tr; omega) | exact Or.inl (by omega) | (refine Or.inr ⟨by omega, ?_⟩; ((with_reducible refine y_Tr4 ?_ ?_) <;> (first | with_reducible assumption | omega))))
      · skip
        have e15 : (0 : Int32).toInt = 0 := rfl
        have c7' := c7
        rw [← Int32.toInt_inj] at c7'
        have e16 : (-1 : Int32).toInt = -1 := rfl
        have e17 : (1 : Int32).toInt = 1 := rfl
        refine y_some ?_
        try dsimp only
        refine ⟨?_, ?_, ?_⟩ <;> (first | with_reducible assumption | omega | ((with_reducible refine y_Vl ?_ ?_) <;> omega) | ((with_reducible refine y_V8 ?_) <;> (first | with_reducible assumption | (unfold y_Tr; omega))) | ((with_reducible refine y_Tr4 ?_ ?_) <;> (first | with_reducible assumption | omega)) | ((with_reducible refine (y_Tr4 ?_ ?_).ty) <;> (first | with_reducible assumption | omega)) | (unfold y_Ty; omega) | (unfold y_Tr; omega) | exact Or.inl (by omega) | (refine Or.inr ⟨by omega, ?_⟩; ((with_reducible refine y_Tr4 ?_ ?_) <;> (first | with_reducible assumption | omega))))
    · skip
      have e18 := y_sar4 r_1.1
      have e19 : (65536 : Int32).toInt = 65536 := rfl
      have c4' := c4
      rw [Int32.lt_iff_toInt_lt] at c4'
      refine y_if (fun c20 => ?_) (fun c20 => ?_)
      · skip
        have e21 : (0 : Int32).toInt = 0 := rfl
        have c20' := c20
        rw [← Int32.toInt_inj] at c20'
        refine y_some ?_
        try dsimp only
        refine ⟨?_, ?_, ?_⟩ <;> (first | with_reducible assumption | omega | ((with_reducible refine y_Vl ?_ ?_) <;> omega) | ((with_reducible refine y_V8 ?_) <;> (first | with_reducible assumption | (unfold y_Tr; omega))) | ((with_reducible refine y_Tr4 ?_ ?_) <;> (first | with_reducible assumption | omega)) | ((with_reducible refine (y_Tr4 ?_ ?_).ty) <;> (first | with_reducible assumption | omega)) | (unfold y_Ty; omega) | (unfold y_Tr; omega) | exact Or.inl (by omega) | (refine Or.inr ⟨by omega, ?_⟩; ((with_reducible refine y_Tr4 ?_ ?_) <;> (first | with_reducible assumption | omega))))
      · skip
        have e22 : (0 : Int32).toInt = 0 := rfl
        have c20' := c20
        rw [← Int32.toInt_inj] at c20'
        have e23 : (1 : Int32).toInt = 1 := rfl
        refine y_some ?_
        try dsimp only
        refine ⟨?_, ?_, ?_⟩ <;> (first | with_reducible assumption | omega | ((with_reducible refine y_Vl ?_ ?_) <;> omega) | ((with_reducible refine y_V8 ?_) <;> (first | with_reducible assumption | (unfold y_Tr; omega))) | ((with_reducible refine y_Tr4 ?_ ?_) <;> (first | with_reducible assumption | omega)) | ((with_reducible refine (y_Tr4 ?_ ?_).ty) <;> (first | with_reducible assumption | omega)) | (unfold y_Ty; omega) | (unfold y_Tr; omega) | exact Or.inl (by omega) | (refine Or.inr ⟨by omega, ?_⟩; ((with_reducible refine y_Tr4 ?_ ?_) <;> (first | with_reducible assumption | omega))))
  · skip
    have e24 := y_and4 r_1.1
    have e25 : (8 : Int32).toInt = 8 := rfl
    have c1' := c1
    rw [← Int32.toInt_inj] at c1'
    refine y_if (fun c26 => ?_) (fun c26 => ?_)
    · skip
      have e27 : (0 : Int32).toInt = 0 := rfl
      have c26' := c26
      rw [← Int32.toInt_inj] at c26'
      refine y_if (fun c28 => ?_) (fun c28 => ?_)
      · skip
        have e29 : (5 : Int32).toInt = 5 := rfl
        have c28' := c28
        rw [← Int32.toInt_inj] at c28'
        have e30 : (-1 : Int32).toInt = -1 := rfl
        refine y_some ?_
        try dsimp only
        refine ⟨?_, ?_, ?_⟩ <;> (first | with_reducible assumption | omega | ((with_reducible refine y_Vl ?_ ?_) <;> omega) | ((with_reducible refine y_V8 ?_) <;> (first | with_reducible assumption | (unfold y_Tr; omega))) | ((with_reducible refine y_Tr4 ?_ ?_) <;> (first | with_reducible assumption | omega)) | ((with_reducible refine (y_Tr4 ?_ ?_).ty) <;> (first | with_reducible assumption | omega)) | (unfold y_Ty; omega) | (unfold y_Tr; omega) | exact Or.inl (by omega) | (refine Or.inr ⟨by omega, ?_⟩; ((with_reducible refine y_Tr4 ?_ ?_) <;> (first | with_reducible assumption | omega))))
      · skip
        have e31 : (5 : Int32).toInt = 5 := rfl
        have c28' := c28
        rw [← Int32.toInt_inj] at c28'
        have e32 : (-1 : Int32).toInt = -1 := rfl
        have e33 : (1 : Int32).toInt = 1 := rfl
        refine y_some ?_
        try dsimp only
        refine ⟨?_, ?_, ?_⟩ <;> (first | with_reducible assumption | omega | ((with_reducible refine y_Vl ?_ ?_) <;> omega) | ((with_reducible refine y_V8 ?_) <;> (first | with_reducible assumption | (unfold y_Tr; omega))) | ((with_reducible refine y_Tr4 ?_ ?_) <;> (first | with_reducible assumption | omega)) | ((with_reducible refine (y_Tr4 ?_ ?_).ty) <;> (first | with_reducible assumption | omega)) | (unfold y_Ty; omega) | (unfold y_Tr; omega) | exact Or.inl (by omega) | (refine Or.inr ⟨by omega, ?_⟩; ((with_reducible refine y_Tr4 ?_ ?_) <;> (first | with_reducible assumption | omega))))
    · skip
      have e34 : (0 : Int32).toInt = 0 := rfl
      have c26' := c26
      rw [← Int32.toInt_inj] at c26'
      have e35 : (-1 : Int32).toInt = -1 := rfl
      have e36 : (1 : Int32).toInt = 1 := rfl
      refine y_some ?_
      try dsimp only
      refine ⟨?_, ?_, ?_⟩ <;> (first | with_reducible assumption | omega | ((with_reducible refine y_Vl ?_ ?_) <;> omega) | ((with_reducible refine y_V8 ?_) <;> (first | with_reducible assumption | (unfold y_Tr; omega))) | ((with_reducible refine y_Tr4 ?_ ?_) <;> (first | with_reducible assumption | omega)) | ((with_reducible refine (y_Tr4 ?_ ?_).ty) <;> (first | with_reducible assumption | omega)) | (unfold y_Ty; omega) | (unfold y_Tr; omega) | exact Or.inl (by omega) | (refine Or.inr ⟨by omega, ?_⟩; ((with_reducible refine y_Tr4 ?_ ?_) <;> (first | with_reducible assumption | omega))))
set_option maxHeartbeats 4000000 in
theorem y_X5_drop {v5_2 : Int32} {v5_3 : Int32} {v5_6 : Int32} {g5_1 : Nat → Int32} {p1 : Int32} (k0 : 0 ≤ v5_2.toInt) (k1 : v5_2.toInt ≤ v5_3.toInt) (k2 : v5_3.toInt ≤ 400) (k3 : 1 ≤ p1.toInt) (k4 : p1.toInt ≤ 2) : y_Ok (f_X5_drop v5_2 v5_3 v5_6 g5_1 p1) (fun r => (v5_2.toInt ≤ r.1.toInt) ∧ (r.1.toInt ≤ v5_3.toInt)) := by
  unfold f_X5_drop
  refine y_if (fun c1 => ?_) (fun c1 => ?_)
  · skip
    try have e2 := @y_sub v5_3 p1 (by omega) (by omega)
    have c1' := c1
    rw [Int32.lt_iff_toInt_lt] at c1'
    have e3 : (1 : Int32).toInt = 1 := rfl
    refine y_some ?_
    try dsimp only
    refine ⟨?_, ?_⟩ <;> (first | with_reducible assumption | omega | ((with_reducible refine y_Vl ?_ ?_) <;> omega))
  · skip
    try have e4 := @y_sub v5_3 p1 (by omega) (by omega)
    have c1' := c1
    rw [Int32.lt_iff_toInt_lt] at c1'
    refine y_gd (y_gdI (by omega) (by omega)) ?_
    refine y_if (fun c5 => ?_) (fun c5 => ?_)
    · skip
      try have e6 := @y_cl (v5_3 - p1) (by omega)
      have e7 : (7 : Int32).toInt = 7 := rfl
      have c5' := c5
      rw [← Int32.toInt_inj] at c5'
      have e8 : (1 : Int32).toInt = 1 := rfl
      refine y_some ?_
      try dsimp only
      refine ⟨?_, ?_⟩ <;> (first | with_reducible assumption | omega | ((with_reducible refine y_Vl ?_ ?_) <;> omega))
    · skip
      try have e9 := @y_cl (v5_3 - p1) (by omega)
      have e10 : (7 : Int32).toInt = 7 := rfl
      have c5' := c5
      rw [← Int32.toInt_inj] at c5'
      refine y_some ?_
      try dsimp only
      refine ⟨?_, ?_⟩ <;> (first | with_reducible assumption | omega | ((with_reducible refine y_Vl ?_ ?_) <;> omega))
set_option maxHeartbeats 4000000 in
theorem y_X5_copyUnder_L_1_i {v5_2 : Int32} {v5_4 : Int32} {l1 : Int32} {l4 : Int32} {v5_3 : Int32} {v5_6 : Int32} (k0 : 0 ≤ v5_2.toInt) (k1 : v5_2.toInt ≤ v5_3.toInt) (k2 : v5_3.toInt ≤ v5_4.toInt) (k3 : v5_4.toInt ≤ 400) (k4 : 1 ≤ l1.toInt) (k5 : l1.toInt ≤ 2) (k6 : v5_2.toInt ≤ l4.toInt) (k7 : l4.toInt ≤ v5_3.toInt) (k8 : v5_3.toInt + l1.toInt ≤ v5_4.toInt) (k12 : l4.toInt + l1.toInt ≤ v5_3.toInt) : ∀ (m : Nat) {l5 : Int32} {g5_1 : Nat → Int32}, (y_AV 400 g5_1) → (0 ≤ l5.toInt) → (l5.toInt ≤ l1.toInt) → l1.toInt - l5.toInt < m → y_Ok (f_X5_copyUnder_L v5_2 v5_4 l1 l4 v5_3 v5_6 (1, l5, g5_1)) (fun r => (v5_2.toInt ≤ r.1.toInt) ∧ (r.1.toInt ≤ v5_4.toInt) ∧ (y_AV 400 r.2.2)) := by
  intro m
  induction m with
  | zero => intro l5 g5_1 k9 k10 k11 hm; exfalso; omega
  | succ m ih =>
    intro l5 g5_1 k9 k10 k11 hm
    rw [f_X5_copyUnder_L]
    refine y_in (by decide) ?_
    refine y_ip rfl ?_
    refine y_if (fun c1 => ?_) (fun c1 => ?_)
    · skip
      have c1' := c1
      rw [Int32.le_iff_toInt_le] at c1'
      try have e2 := @y_add v5_3 l1 (by omega) (by omega)
      refine y_some ?_
      try dsimp only
      refine ⟨?_, ?_, ?_⟩ <;> (first | with_reducible assumption | omega | ((with_reducible refine y_Vl ?_ ?_) <;> omega))
    · skip
      have c1' := c1
      rw [Int32.le_iff_toInt_le] at c1'
      try have e3 := @y_add v5_3 l5 (by omega) (by omega)
      refine y_gd (y_gdI (by omega) (by omega)) ?_
      try have e4 := @y_add l4 l5 (by omega) (by omega)
      refine y_gd (y_gdI (by omega) (by omega)) ?_
      try have e5 := @y_addL l5 (1 : Int32) (1) rfl (by omega) (by omega)
      try have e6 := @y_cl (l4 + l5) (by omega)
      try have e7 := @y_cl (v5_3 + l5) (by omega)
      try have e8 := k9.at (Int32.toNatClampNeg (v5_3 + l5)) (by omega)
      try have e9 := e8.b
      try have e10 : y_AV 400 (upd g5_1 (Int32.toNatClampNeg (l4 + l5)) (g5_1 (Int32.toNatClampNeg (v5_3 + l5)))) := y_AV_upd k9 (by first | with_reducible assumption | omega | ((with_reducible refine y_Vl ?_ ?_) <;> omega))
      exact ih (l5 := (l5 + 1)) (g5_1 := (upd g5_1 (Int32.toNatClampNeg (l4 + l5)) (g5_1 (Int32.toNatClampNeg (v5_3 + l5))))) (by first | with_reducible assumption | omega | ((with_reducible refine y_Vl ?_ ?_) <;> omega)) (by omega) (by omega) (by omega)
theorem y_X5_copyUnder_L_1 {v5_2 : Int32} {v5_4 : Int32} {l1 : Int32} {l4 : Int32} {v5_3 : Int32} {v5_6 : Int32} {l5 : Int32} {g5_1 : Nat → Int32} (k0 : 0 ≤ v5_2.toInt) (k1 : v5_2.toInt ≤ v5_3.toInt) (k2 : v5_3.toInt ≤ v5_4.toInt) (k3 : v5_4.toInt ≤ 400) (k4 : 1 ≤ l1.toInt) (k5 : l1.toInt ≤ 2) (k6 : v5_2.toInt ≤ l4.toInt) (k7 : l4.toInt ≤ v5_3.toInt) (k8 : v5_3.toInt + l1.toInt ≤ v5_4.toInt) (k9 : y_AV 400 g5_1) (k10 : 0 ≤ l5.toInt) (k11 : l5.toInt ≤ l1.toInt) (k12 : l4.toInt + l1.toInt ≤ v5_3.toInt) : y_Ok (f_X5_copyUnder_L v5_2 v5_4 l1 l4 v5_3 v5_6 (1, l5, g5_1)) (fun r => (v5_2.toInt ≤ r.1.toInt) ∧ (r.1.toInt ≤ v5_4.toInt) ∧ (y_AV 400 r.2.2)) := y_X5_copyUnder_L_1_i k0 k1 k2 k3 k4 k5 k6 k7 k8 k12 (l1.toInt - l5.toInt + 1).toNat k9 k10 k11 (by omega)
set_option maxHeartbeats 4000000 in
theorem y_X5_copyUnder_L_0_i {v5_2 : Int32} {v5_4 : Int32} {l1 : Int32} {l4 : Int32} {v5_3 : Int32} {v5_6 : Int32} (k0 : 0 ≤ v5_2.toInt) (k1 : v5_2.toInt ≤ v5_3.toInt) (k2 : v5_3.toInt ≤ v5_4.toInt) (k3 : v5_4.toInt ≤ 400) (k4 : 1 ≤ l1.toInt) (k5 : l1.toInt ≤ 2) (k6 : v5_2.toInt ≤ l4.toInt) (k7 : l4.toInt ≤ v5_3.toInt) (k8 : v5_3.toInt + l1.toInt ≤ v5_4.toInt) (k12 : l4.toInt + l1.toInt ≤ v5_3.toInt) : ∀ (m : Nat) {l5 : Int32} {g5_1 : Nat → Int32}, (y_AV 400 g5_1) → (-1 ≤ l5.toInt) → (l5.toInt < v5_3.toInt) → l5.toInt + 1 < m → y_Ok (f_X5_copyUnder_L v5_2 v5_4 l1 l4 v5_3 v5_6 (0, l5, g5_1)) (fun r => (v5_2.toInt ≤ r.1.toInt) ∧ (r.1.toInt ≤ v5_4.toInt) ∧ (y_AV 400 r.2.2)) := by
  intro m
  induction m with
  | zero => intro l5 g5_1 k9 k10 k11 hm; exfalso; omega
  | succ m ih =>
    intro l5 g5_1 k9 k10 k11 hm
    rw [f_X5_copyUnder_L]
    refine y_ip rfl ?_
    refine y_if (fun c1 => ?_) (fun c1 => ?_)
    · skip
      have c1' := c1
      rw [Int32.lt_iff_toInt_lt] at c1'
      have e2 : (0 : Int32).toInt = 0 := rfl
      refine y_Ok.mono (y_X5_copyUnder_L_1 (l5 := 0) (g5_1 := g5_1) (by omega) (by omega) (by omega) (by omega) (by omega) (by omega) (by omega) (by omega) (by omega) (by first | with_reducible assumption | omega | ((with_reducible refine y_Vl ?_ ?_) <;> omega)) (by omega) (by omega) (by omega)) (fun r_t2 h_r_t2 => ?_)
      obtain ⟨h0_r_t2, h1_r_t2, h2_r_t2⟩ := h_r_t2
      refine ⟨?_, ?_, ?_⟩ <;> (first | with_reducible assumption | omega | ((with_reducible refine y_Vl ?_ ?_) <;> omega))
    · skip
      have c1' := c1
      rw [Int32.lt_iff_toInt_lt] at c1'
      refine y_gd (y_gdI (by omega) (by omega)) ?_
      try have e4 := @y_add l5 l1 (by omega) (by omega)
      refine y_gd (y_gdI (by omega) (by omega)) ?_
      obtain ⟨d4, h_d4, h_d4'⟩ := @y_dec l5 (by omega)
      rw [h_d4]
      try have e6 := @y_cl (l5 + l1) (by omega)
      try have e7 := @y_cl l5 (by omega)
      try have e8 := k9.at (Int32.toNatClampNeg l5) (by omega)
      try have e9 := e8.b
      try have e10 : y_AV 400 (upd g5_1 (Int32.toNatClampNeg (l5 + l1)) (g5_1 (Int32.toNatClampNeg l5))) := y_AV_upd k9 (by first | with_reducible assumption | omega | ((with_reducible refine y_Vl ?_ ?_) <;> omega))
      exact ih (l5 := d4) (g5_1 := (upd g5_1 (Int32.toNatClampNeg (l5 + l1)) (g5_1 (Int32.toNatClampNeg l5)))) (by first | with_reducible assumption | omega | ((with_reducible refine y_Vl ?_ ?_) <;> omega)) (by omega) (by omega) (by omega)
theorem y_X5_copyUnder_L_0 {v5_2 : Int32} {v5_4 : Int32} {l1 : Int32} {l4 : Int32} {v5_3 : Int32} {v5_6 : Int32} {l5 : Int32} {g5_1 : Nat → Int32} (k0 : 0 ≤ v5_2.toInt) (k1 : v5_2.toInt ≤ v5_3.toInt) (k2 : v5_3.toInt ≤ v5_4.toInt) (k3 : v5_4.toInt ≤ 400) (k4 : 1 ≤ l1.toInt) (k5 : l1.toInt ≤ 2) (k6 : v5_2.toInt ≤ l4.toInt) (k7 : l4.toInt ≤ v5_3.toInt) (k8 : v5_3.toInt + l1.toInt ≤ v5_4.toInt) (k9 : y_AV 400 g5_1) (k10 : -1 ≤ l5.toInt) (k11 : l5.toInt < v5_3.toInt) (k12 : l4.toInt + l1.toInt ≤ v5_3.toInt) : y_Ok (f_X5_copyUnder_L v5_2 v5_4 l1 l4 v5_3 v5_6 (0, l5, g5_1)) (fun r => (v5_2.toInt ≤ r.1.toInt) ∧ (r.1.toInt ≤ v5_4.toInt) ∧ (y_AV 400 r.2.2)) := y_X5_copyUnder_L_0_i k0 k1 k2 k3 k4 k5 k6 k7 k8 k12 (l5.toInt + 1 + 1).toNat k9 k10 k11 (by omega)
set_option maxHeartbeats 4000000 in
theorem y_X5_copyUnder {v5_2 : Int32} {v5_3 : Int32} {v5_4 : Int32} {v5_6 : Int32} {g5_1 : Nat → Int32} {p1 : Int32} {p2 : Int32} (k0 : 0 ≤ v5_2.toInt) (k1 : v5_2.toInt ≤ v5_3.toInt) (k2 : v5_3.toInt ≤ v5_4.toInt) (k3 : v5_4.toInt ≤ 400) (k4 : y_AV 400 g5_1) (k5 : 1 ≤ p1.toInt) (k6 : p1.toInt ≤ 2) (k7 : 0 ≤ p2.toInt) (k8 : p2.toInt ≤ 2) : y_Ok (f_X5_copyUnder v5_2 v5_3 v5_4 v5_6 g5_1 p1 p2) (fun r => (v5_2.toInt ≤ r.1.toInt) ∧ (r.1.toInt ≤ v5_4.toInt) ∧ (y_AV 400 r.2.2)) := by
  unfold f_X5_copyUnder
  refine y_if (fun c1 => ?_) (fun c1 => ?_)
  · skip
    try have e2 := @y_sub v5_3 p1 (by omega) (by omega)
    try have e3 := @y_sub (v5_3 - p1) p2 (by omega) (by omega)
    have c1' := c1
    rw [Int32.lt_iff_toInt_lt] at c1'
    have e4 : (1 : Int32).toInt = 1 := rfl
    refine y_some ?_
    try dsimp only
    refine ⟨?_, ?_, ?_⟩ <;> (first | with_reducible assumption | omega | ((with_reducible refine y_Vl ?_ ?_) <;> omega))
  · skip
    try have e5 := @y_sub v5_3 p1 (by omega) (by omega)
    try have e6 := @y_sub (v5_3 - p1) p2 (by omega) (by omega)
    have c1' := c1
    rw [Int32.lt_iff_toInt_lt] at c1'
    refine y_if (fun c7 => ?_) (fun c7 => ?_)
    · skip
      try have e8 := @y_add v5_3 p1 (by omega) (by omega)
      have c7' := c7
      rw [Int32.lt_iff_toInt_lt] at c7'
      have e9 : (1 : Int32).toInt = 1 := rfl
      refine y_some ?_
      try dsimp only
      refine ⟨?_, ?_, ?_⟩ <;> (first | with_reducible assumption | omega | ((with_reducible refine y_Vl ?_ ?_) <;> omega))
    · skip
      try have e10 := @y_add v5_3 p1 (by omega) (by omega)
      have c7' := c7
      rw [Int32.lt_iff_toInt_lt] at c7'
      refine y_gd (y_gdI (by omega) (by omega)) ?_
      refine y_if (fun c11 => ?_) (fun c11 => ?_)
      · skip
        try have e12 := @y_cl (v5_3 - p1) (by omega)
        try have e13 := k4.at (Int32.toNatClampNeg (v5_3 - p1)) (by omega)
        try have e14 := e13.b
        have e15 : (7 : Int32).toInt = 7 := rfl
        have c11' := c11
        rw [← Int32.toInt_inj] at c11'
        have e16 : (1 : Int32).toInt = 1 := rfl
        refine y_some ?_
        try dsimp only
        refine ⟨?_, ?_, ?_⟩ <;> (first | with_reducible assumption | omega | ((with_reducible refine y_Vl ?_ ?_) <;> omega))
      · skip
        try have e17 := @y_cl (v5_3 - p1) (by omega)
        try have e18 := k4.at (Int32.toNatClampNeg (v5_3 - p1)) (by omega)
        try have e19 := e18.b
        have e20 : (7 : Int32).toInt = 7 := rfl
        have c11' := c11
        rw [← Int32.toInt_inj] at c11'
        refine y_gd (y_gdI (by omega) (by omega)) ?_
        refine y_if (fun c21 => ?_) (fun c21 => ?_)
        · skip
          try have e22 := @y_cl ((v5_3 - p1) - p2) (by omega)
          try have e23 := k4.at (Int32.toNatClampNeg ((v5_3 - p1) - p2)) (by omega)
          try have e24 := e23.b
          have c21' := c21
          rw [← Int32.toInt_inj] at c21'
          have e25 : (1 : Int32).toInt = 1 := rfl
          refine y_some ?_
          try dsimp only
          refine ⟨?_, ?_, ?_⟩ <;> (first | with_reducible assumption | omega | ((with_reducible refine y_Vl ?_ ?_) <;> omega))
        · skip
          try have e26 := @y_cl ((v5_3 - p1) - p2) (by omega)
          try have e27 := k4.at (Int32.toNatClampNeg ((v5_3 - p1) - p2)) (by omega)
          try have e28 := e27.b
          have c21' := c21
          rw [← Int32.toInt_inj] at c21'
          try have e29 := @y_subL v5_3 (1 : Int32) (1) rfl (by omega) (by omega)
          refine y_Ok.mono (y_X5_copyUnder_L_0 (l5 := (v5_3 - (1 : Int32))) (g5_1 := g5_1) (by omega) (by omega) (by omega) (by omega) (by omega) (by omega) (by omega) (by omega) (by omega) (by first | with_reducible assumption | omega | ((with_reducible refine y_Vl ?_ ?_) <;> omega)) (by omega) (by omega) (by omega)) (fun r_t29 h_r_t29 => ?_)
          obtain ⟨h0_r_t29, h1_r_t29, h2_r_t29⟩ := h_r_t29
          refine ⟨?_, ?_, ?_⟩ <;> (first | with_reducible assumption | omega | ((with_reducible refine y_Vl ?_ ?_) <;> omega))
set_option maxHeartbeats 4000000 in
theorem y_X5_exchange {v5_2 : Int32} {v5_3 : Int32} {v5_6 : Int32} {g5_1 : Nat → Int32} {v5_4 : Int32} (k0 : 0 ≤ v5_2.toInt) (k1 : v5_2.toInt ≤ v5_3.toInt) (k2 : v5_3.toInt ≤ v5_4.toInt) (k3 : v5_4.toInt ≤ 400) (k4 : y_AV 400 g5_1) : y_Ok (f_X5_exchange v5_2 v5_3 v5_6 g5_1) (fun r => (v5_2.toInt ≤ r.1.toInt) ∧ (r.1.toInt ≤ v5_4.toInt) ∧ (y_AV 400 r.2.2)) := by
  unfold f_X5_exchange
  refine y_bi (y_X5_pull (by omega) (by omega) (by omega) (by first | with_reducible assumption | omega | ((with_reducible refine y_Vl ?_ ?_) <;> omega) | ((with_reducible refine y_V8 ?_) <;> (first | with_reducible assumption | (unfold y_Tr; omega))) | ((with_reducible refine y_Tr4 ?_ ?_) <;> (first | with_reducible assumption | omega)) | ((with_reducible refine (y_Tr4 ?_ ?_).ty) <;> (first | with_reducible assumption | omega)) | (unfold y_Ty; omega) | (unfold y_Tr; omega))) (fun r_1 h_r_1 => ?_)
  obtain ⟨h0_r_1, h1_r_1, h2_r_1, h3_r_1⟩ := h_r_1
  refine y_bi (y_X5_pull (by omega) (by omega) (by omega) (by first | with_reducible assumption | omega | ((with_reducible refine y_Vl ?_ ?_) <;> omega) | ((with_reducible refine y_V8 ?_) <;> (first | with_reducible assumption | (unfold y_Tr; omega))) | ((with_reducible refine y_Tr4 ?_ ?_) <;> (first | with_reducible assumption | omega)) | ((with_reducible refine (y_Tr4 ?_ ?_).ty) <;> (first | with_reducible assumption | omega)) | (unfold y_Ty; omega) | (unfold y_Tr; omega))) (fun r_2 h_r_2 => ?_)
  obtain ⟨h0_r_2, h1_r_2, h2_r_2, h3_r_2⟩ := h_r_2
  refine y_if (fun c1 => ?_) (fun c1 => ?_)
  · skip
    have e2 : (0 : Int32).toInt = 0 := rfl
    have c1' := c1
    rw [← Int32.toInt_inj] at c1'
    refine y_gd (y_gdI (by omega) (by omega)) ?_
    try have e3 := @y_addL r_2.2.1 (1 : Int32) (1) rfl (by omega) (by omega)
    refine y_gd (y_gdI (by omega) (by omega)) ?_
    try have e4 := @y_addL r_2.2.1 (2 : Int32) (2) rfl (by omega) (by omega)
    try have e5 := @y_cl r_2.2.1 (by omega)
    try have e6 : y_AV 400 (upd g5_1 (Int32.toNatClampNeg r_2.2.1) r_1.1) := y_AV_upd k4 (by first | with_reducible assumption | omega | ((with_reducible refine y_Vl ?_ ?_) <;> omega) | ((with_reducible refine y_V8 ?_) <;> (first | with_reducible assumption | (unfold y_Tr; omega))) | ((with_reducible refine y_Tr4 ?_ ?_) <;> (first | with_reducible assumption | omega)) | ((with_reducible refine (y_Tr4 ?_ ?_).ty) <;> (first | with_reducible assumption | omega)) | (unfold y_Ty; omega) | (unfold y_Tr; omega))
    try have e7 := @y_cl (r_2.2.1 + (1 : Int32)) (by omega)
    try have e8 : y_AV 400 (upd (upd g5_1 (Int32.toNatClampNeg r_2.2.1) r_1.1) (Int32.toNatClampNeg (r_2.2.1 + (1 : Int32))) r_2.1) := y_AV_upd e6 (by first | with_reducible assumption | omega | ((with_reducible refine y_Vl ?_ ?_) <;> omega) | ((with_reducible refine y_V8 ?_) <;> (first | with_reducible assumption | (unfold y_Tr; omega))) | ((with_reducible refine y_Tr4 ?_ ?_) <;> (first | with_reducible assumption | omega)) | ((with_reducible refine (y_Tr4 ?_ ?_).ty) <;> (first | with_reducible assumption | omega)) | (unfold y_Ty; omega) | (unfold y_Tr; omega))
    refine y_some ?_
    try dsimp only
    refine ⟨?_, ?_, ?_⟩ <;> (first | with_reducible assumption | omega | ((with_reducible refine y_Vl ?_ ?_) <;> omega) | ((with_reducible refine y_V8 ?_) <;> (first | with_reducible assumption | (unfold y_Tr; omega))) | ((with_reducible refine y_Tr4 ?_ ?_) <;> (first | with_reducible assumption | omega)) | ((with_reducible refine (y_Tr4 ?_ ?_).ty) <;> (first | with_reducible assumption | omega)) | (unfold y_Ty; omega) | (unfold y_Tr; omega))
  · skip
    have e9 : (0 : Int32).toInt = 0 := rfl
    have c1' := c1
    rw [← Int32.toInt_inj] at c1'
    refine y_some ?_
    try dsimp only
    refine ⟨?_, ?_, ?_⟩ <;> (first | with_reducible assumption | omega | ((with_reducible refine y_Vl ?_ ?_) <;> omega) | ((with_reducible refine y_V8 ?_) <;> (first | with_reducible assumption | (unfold y_Tr; omega))) | ((with_reducible refine y_Tr4 ?_ ?_) <;> (first | with_reducible assumption | omega)) | ((with_reducible refine (y_Tr4 ?_ ?_).ty) <;> (first | with_reducible assumption | omega)) | (unfold y_Ty; omega) | (unfold y_Tr; omega))
set_option maxHeartbeats 4000000 in
theorem y_X5_replaceAll_L_0_i {v5_3 : Int32} {l1 : Int32} {l2 : Int32} {v5_7 : Int32} (k0 : v5_3.toInt ≤ 400) (k2 : y_V l2) : ∀ (m : Nat) {l3 : Int32} {g5_1 : Nat → Int32}, (y_AV 400 g5_1) → (0 ≤ l3.toInt) → (l3.toInt ≤ 400) → 400 - l3.toInt < m → y_Ok (f_X5_replaceAll_L v5_3 l1 l2 v5_7 (0, l3, g5_1)) (fun r => (y_AV 400 r.2)) := by
  intro m
  induction m with
  | zero => intro l3 g5_1 k1 k3 k4 hm; exfalso; omega
  | succ m ih =>
    intro l3 g5_1 k1 k3 k4 hm
    rw [f_X5_replaceAll_L]
    refine y_ip rfl ?_
    refine y_if (fun c1 => ?_) (fun c1 => ?_)
    · skip
      have c1' := c1
      rw [Int32.le_iff_toInt_le] at c1'
      have e2 : (1 : Int32).toInt = 1 := rfl
      refine y_some ?_
      try dsimp only
      (first | with_reducible assumption | omega | ((with_reducible refine y_Vl ?_ ?_) <;> omega))
    · skip
      have c1' := c1
      rw [Int32.le_iff_toInt_le] at c1'
      refine y_gd (y_gdI (by omega) (by omega)) ?_
      refine y_if (fun c3 => ?_) (fun c3 => ?_)
      · skip
        try have e4 := @y_cl l3 (by omega)
        try have e5 := k1.at (Int32.toNatClampNeg l3) (by omega)
        try have e6 := e5.b
        have c3' := c3
        rw [← Int32.toInt_inj] at c3'
        refine y_gd (y_gdI (by omega) (by omega)) ?_
        try have e7 := @y_addL l3 (1 : Int32) (1) rfl (by omega) (by omega)
        try have e8 : y_AV 400 (upd g5_1 (Int32.toNatClampNeg l3) l2) := y_AV_upd k1 (by first | with_reducible assumption | omega | ((with_reducible refine y_Vl ?_ ?_) <;> omega))
        exact ih (l3 := (l3 + 1)) (g5_1 := (upd g5_1 (Int32.toNatClampNeg l3) l2)) (by first | with_reducible assumption | omega | ((with_reducible refine y_Vl ?_ ?_) <;> omega)) (by omega) (by omega) (by omega)
      · skip
        try have e9 := @y_cl l3 (by omega)
        try have e10 := k1.at (Int32.toNatClampNeg l3) (by omega)
        try have e11 := e10.b
        have c3' := c3
        rw [← Int32.toInt_inj] at c3'
        try have e12 := @y_addL l3 (1 : Int32) (1) rfl (by omega) (by omega)
        exact ih (l3 := (l3 + 1)) (g5_1 := g5_1) (by first | with_reducible assumption | omega | ((with_reducible refine y_Vl ?_ ?_) <;> omega)) (by omega) (by omega) (by omega)
theorem y_X5_replaceAll_L_0 {v5_3 : Int32} {l1 : Int32} {l2 : Int32} {v5_7 : Int32} {l3 : Int32} {g5_1 : Nat → Int32} (k0 : v5_3.toInt ≤ 400) (k1 : y_AV 400 g5_1) (k2 : y_V l2) (k3 : 0 ≤ l3.toInt) (k4 : l3.toInt ≤ 400) : y_Ok (f_X5_replaceAll_L v5_3 l1 l2 v5_7 (0, l3, g5_1)) (fun r => (y_AV 400 r.2)) := y_X5_replaceAll_L_0_i k0 k2 (400 - l3.toInt + 1).toNat k1 k3 k4 (by omega)
set_option maxHeartbeats 4000000 in
theorem y_X5_replaceAll {v5_3 : Int32} {v5_7 : Int32} {g5_1 : Nat → Int32} {p1 : Int32} {p2 : Int32} (k0 : v5_3.toInt ≤ 400) (k1 : y_AV 400 g5_1) (k2 : y_V p2) : y_Ok (f_X5_replaceAll v5_3 v5_7 g5_1 p1 p2) (fun r => (y_AV 400 r.2)) := by
  unfold f_X5_replaceAll
  have e1 : (0 : Int32).toInt = 0 := rfl
  refine y_Ok.mono (y_X5_replaceAll_L_0 (l3 := 0) (g5_1 := g5_1) (by omega) (by first | with_reducible assumption | omega | ((with_reducible refine y_Vl ?_ ?_) <;> omega)) (by first | with_reducible assumption | omega | ((with_reducible refine y_Vl ?_ ?_) <;> omega)) (by omega) (by omega)) (fun r_t1 h_r_t1 => ?_)
  (first | with_reducible assumption | omega | ((with_reducible refine y_Vl ?_ ?_) <;> omega))
set_option maxHeartbeats 4000000 in
theorem y_X5_forget_L_0_i {v5_2 : Int32} {v5_3 : Int32} {l1 : Int32} (k0 : v5_3.toInt ≤ 400) : ∀ (m : Nat) {l2 : Int32} {v5_6 : Int32} {v5_7 : Int32} {g5_1 : Nat → Int32}, (y_AV 400 g5_1) → (0 ≤ l2.toInt) → (l2.toInt ≤ 400) → 400 - l2.toInt < m → y_Ok (f_X5_forget_L v5_2 v5_3 l1 (0, l2, v5_6, v5_7, g5_1)) (fun r => (y_AV 400 r.2.2)) := by
  intro m
  induction m with
  | zero => intro l2 v5_6 v5_7 g5_1 k1 k2 k3 hm; exfalso; omega
  | succ m ih =>
    intro l2 v5_6 v5_7 g5_1 k1 k2 k3 hm
    rw [f_X5_forget_L]
    refine y_ip rfl ?_
    refine y_if (fun c1 => ?_) (fun c1 => ?_)
    · skip
      have c1' := c1
      rw [Int32.le_iff_toInt_le] at c1'
      refine y_some ?_
      try dsimp only
      (first | with_reducible assumption | omega | ((with_reducible refine y_Vl ?_ ?_) <;> omega))
    · skip
      have c1' := c1
      rw [Int32.le_iff_toInt_le] at c1'
      refine y_gd (y_gdI (by omega) (by omega)) ?_
      refine y_if (fun c2 => ?_) (fun c2 => ?_)
      · skip
        try have e3 := @y_cl l2 (by omega)
        try have e4 := k1.at (Int32.toNatClampNeg l2) (by omega)
        try have e5 := e4.b
        have c2' := c2
        rw [← Int32.toInt_inj] at c2'
        refine y_gd (y_gdI (by omega) (by omega)) ?_
        refine y_if (fun c6 => ?_) (fun c6 => ?_)
        · skip
          have e7 : (0 : Int32).toInt = 0 := rfl
          have c6' := c6
          rw [← Int32.toInt_inj] at c6'
          refine y_if (fun c8 => ?_) (fun c8 => ?_)
          · skip
            have c8' := c8
            rw [Int32.lt_iff_toInt_lt] at c8'
            try have e9 := @y_addL l2 (1 : Int32) (1) rfl (by omega) (by omega)
            have e10 : (1 : Int32).toInt = 1 := rfl
            try have e11 : y_AV 400 (upd g5_1 (Int32.toNatClampNeg l2) (0 : Int32)) := y_AV_upd k1 (by first | with_reducible assumption | omega | ((with_reducible refine y_Vl ?_ ?_) <;> omega))
            exact ih (l2 := (l2 + 1)) (v5_6 := 0) (v5_7 := 1) (g5_1 := (upd g5_1 (Int32.toNatClampNeg l2) 0)) (by first | with_reducible assumption | omega | ((with_reducible refine y_Vl ?_ ?_) <;> omega)) (by omega) (by omega) (by omega)
          · skip
            have c8' := c8
            rw [Int32.lt_iff_toInt_lt] at c8'
            try have e12 := @y_addL l2 (1 : Int32) (1) rfl (by omega) (by omega)
            have e13 : (1 : Int32).toInt = 1 := rfl
            try have e14 : y_AV 400 (upd g5_1 (Int32.toNatClampNeg l2) (0 : Int32)) := y_AV_upd k1 (by first | with_reducible assumption | omega | ((with_reducible refine y_Vl ?_ ?_) <;> omega))
            exact ih (l2 := (l2 + 1)) (v5_6 := 1) (v5_7 := 1) (g5_1 := (upd g5_1 (Int32.toNatClampNeg l2) 0)) (by first | with_reducible assumption | omega | ((with_reducible refine y_Vl ?_ ?_) <;> omega)) (by omega) (by omega) (by omega)
        · skip
          have e15 : (0 : Int32).toInt = 0 := rfl
          have c6' := c6
          rw [← Int32.toInt_inj] at c6'
          try have e16 := @y_addL l2 (1 : Int32) (1) rfl (by omega) (by omega)
          have e17 : (1 : Int32).toInt = 1 := rfl
          try have e18 : y_AV 400 (upd g5_1 (Int32.toNatClampNeg l2) (0 : Int32)) := y_AV_upd k1 (by first | with_reducible assumption | omega | ((with_reducible refine y_Vl ?_ ?_) <;> omega))
          exact ih (l2 := (l2 + 1)) (v5_6 := 1) (v5_7 := 1) (g5_1 := (upd g5_1 (Int32.toNatClampNeg l2) 0)) (by first | with_reducible assumption | omega | ((with_reducible refine y_Vl ?_ ?_) <;> omega)) (by omega) (by omega) (by omega)
      · skip
        try have e19 := @y_cl l2 (by omega)
        try have e20 := k1.at (Int32.toNatClampNeg l2) (by omega)
        try have e21 := e20.b
        have c2' := c2
        rw [← Int32.toInt_inj] at c2'
        try have e22 := @y_addL l2 (1 : Int32) (1) rfl (by omega) (by omega)
        exact ih (l2 := (l2 + 1)) (v5_6 := v5_6) (v5_7 := v5_7) (g5_1 := g5_1) (by first | with_reducible assumption | omega | ((with_reducible refine y_Vl ?_ ?_) <;> omega)) (by omega) (by omega) (by omega)
theorem y_X5_forget_L_0 {v5_2 : Int32} {v5_3 : Int32} {l1 : Int32} {l2 : Int32} {v5_6 : Int32} {v5_7 : Int32} {g5_1 : Nat → Int32} (k0 : v5_3.toInt ≤ 400) (k1 : y_AV 400 g5_1) (k2 : 0 ≤ l2.toInt) (k3 : l2.toInt ≤ 400) : y_Ok (f_X5_forget_L v5_2 v5_3 l1 (0, l2, v5_6, v5_7, g5_1)) (fun r => (y_AV 400 r.2.2)) := y_X5_forget_L_0_i k0 (400 - l2.toInt + 1).toNat k1 k2 k3 (by omega)
set_option maxHeartbeats 4000000 in
theorem y_X5_forget {v5_2 : Int32} {v5_3 : Int32} {v5_6 : Int32} {v5_7 : Int32} {g5_1 : Nat → Int32} {p1 : Int32} (k0 : v5_3.toInt ≤ 400) (k1 : y_AV 400 g5_1) : y_Ok (f_X5_forget v5_2 v5_3 v5_6 v5_7 g5_1 p1) (fun r => (y_AV 400 r.2.2)) := by
  unfold f_X5_forget
  have e1 : (0 : Int32).toInt = 0 := rfl
  refine y_Ok.mono (y_X5_forget_L_0 (l2 := 0) (v5_6 := v5_6) (v5_7 := v5_7) (g5_1 := g5_1) (by omega) (by first | with_reducible assumption | omega | ((with_reducible refine y_Vl ?_ ?_) <;> omega)) (by omega) (by omega)) (fun r_t1 h_r_t1 => ?_)
  (first | with_reducible assumption | omega | ((with_reducible refine y_Vl ?_ ?_) <;> omega))
set_option maxHeartbeats 4000000 in
theorem y_X0_isSwitch {p0 : Int32}  : y_Ok (f_X0_isSwitch p0) (fun r => ((r.toInt = 0 ∧ ¬ (p0.toInt = 170 ∨ p0.toInt = 171)) ∨ (r.toInt = 1 ∧ (p0.toInt = 170 ∨ p0.toInt = 171)))) := by
  unfold f_X0_isSwitch
  refine y_if (fun c1 => ?_) (fun c1 => ?_)
  · skip
    have e2 : (170 : Int32).toInt = 170 := rfl
    have c1' := c1
    rw [← Int32.toInt_inj] at c1'
    have e3 : (1 : Int32).toInt = 1 := rfl
    refine y_some ?_
    try dsimp only
    (first | with_reducible assumption | omega | ((with_reducible refine y_Vl ?_ ?_) <;> omega))
  · skip
    have e4 : (170 : Int32).toInt = 170 := rfl
    have c1' := c1
    rw [← Int32.toInt_inj] at c1'
    refine y_if (fun c5 => ?_) (fun c5 => ?_)
    · skip
      have e6 : (171 : Int32).toInt = 171 := rfl
      have c5' := c5
      rw [← Int32.toInt_inj] at c5'
      have e7 : (1 : Int32).toInt = 1 := rfl
      refine y_some ?_
      try dsimp only
      (first | with_reducible assumption | omega | ((with_reducible refine y_Vl ?_ ?_) <;> omega))
    · skip
      have e8 : (171 : Int32).toInt = 171 := rfl
      have c5' := c5
      rw [← Int32.toInt_inj] at c5'
      have e9 : (0 : Int32).toInt = 0 := rfl
      refine y_some ?_
      try dsimp only
      (first | with_reducible assumption | omega | ((with_reducible refine y_Vl ?_ ?_) <;> omega))
set_option maxHeartbeats 4000000 in
theorem y_X0_isJump {p0 : Int32}  : y_Ok (f_X0_isJump p0) (fun r => ((r.toInt = 0 ∧ ¬ (153 ≤ p0.toInt ∧ p0.toInt ≤ 168 ∨ p0.toInt = 198 ∨ p0.toInt = 199)) ∨ (r.toInt = 1 ∧ (153 ≤ p0.toInt ∧ p0.toInt ≤ 168 ∨ p0.toInt = 198 ∨ p0.toInt = 199)))) := by
  unfold f_X0_isJump
  refine y_if (fun c1 => ?_) (fun c1 => ?_)
  · skip
    have e2 : (153 : Int32).toInt = 153 := rfl
    have c1' := c1
    rw [Int32.lt_iff_toInt_lt] at c1'
    refine y_if (fun c3 => ?_) (fun c3 => ?_)
    · skip
      have e4 : (198 : Int32).toInt = 198 := rfl
      have c3' := c3
      rw [← Int32.toInt_inj] at c3'
      have e5 : (1 : Int32).toInt = 1 := rfl
      refine y_some ?_
      try dsimp only
      (first | with_reducible assumption | omega | ((with_reducible refine y_Vl ?_ ?_) <;> omega))
    · skip
      have e6 : (198 : Int32).toInt = 198 := rfl
      have c3' := c3
      rw [← Int32.toInt_inj] at c3'
      refine y_if (fun c7 => ?_) (fun c7 => ?_)
      · skip
        have e8 : (199 : Int32).toInt = 199 := rfl
        have c7' := c7
        rw [← Int32.toInt_inj] at c7'
        have e9 : (1 : Int32).toInt = 1 := rfl
        refine y_some ?_
        try dsimp only
        (first | with_reducible assumption | omega | ((with_reducible refine y_Vl ?_ ?_) <;> omega))
      · skip
        have e10 : (199 : Int32).toInt = 199 := rfl
        have c7' := c7
        rw [← Int32.toInt_inj] at c7'
        have e11 : (0 : Int32).toInt = 0 := rfl
        refine y_some ?_
        try dsimp only
        (first | with_reducible assumption | omega | ((with_reducible refine y_Vl ?_ ?_) <;> omega))
  · skip
    have e12 : (153 : Int32).toInt = 153 := rfl
    have c1' := c1
    rw [Int32.lt_iff_toInt_lt] at c1'
    refine y_if (fun c13 => ?_) (fun c13 => ?_)
    · skip
      have e14 : (168 : Int32).toInt = 168 := rfl
      have c13' := c13
      rw [Int32.le_iff_toInt_le] at c13'
      have e15 : (1 : Int32).toInt = 1 := rfl
      refine y_some ?_
      try dsimp only
      (first | with_reducible assumption | omega | ((with_reducible refine y_Vl ?_ ?_) <;> omega))
    · skip
      have e16 : (168 : Int32).toInt = 168 := rfl
      have c13' := c13
      rw [Int32.le_iff_toInt_le] at c13'
      refine y_if (fun c17 => ?_) (fun c17 => ?_)
      · skip
        have e18 : (198 : Int32).toInt = 198 := rfl
        have c17' := c17
        rw [← Int32.toInt_inj] at c17'
        have e19 : (1 : Int32).toInt = 1 := rfl
        refine y_some ?_
        try dsimp only
        (first | with_reducible assumption | omega | ((with_reducible refine y_Vl ?_ ?_) <;> omega))
      · skip
        have e20 : (198 : Int32).toInt = 198 := rfl
        have c17' := c17
        rw [← Int32.toInt_inj] at c17'
        refine y_if (fun c21 => ?_) (fun c21 => ?_)
        · skip
          have e22 : (199 : Int32).toInt = 199 := rfl
          have c21' := c21
          rw [← Int32.toInt_inj] at c21'
          have e23 : (1 : Int32).toInt = 1 := rfl
          refine y_some ?_
          try dsimp only
          (first | with_reducible assumption | omega | ((with_reducible refine y_Vl ?_ ?_) <;> omega))
        · skip
          have e24 : (199 : Int32).toInt = 199 := rfl
          have c21' := c21
          rw [← Int32.toInt_inj] at c21'
          have e25 : (0 : Int32).toInt = 0 := rfl
          refine y_some ?_
          try dsimp only
          (first | with_reducible assumption | omega | ((with_reducible refine y_Vl ?_ ?_) <;> omega))
set_option maxHeartbeats 4000000 in
theorem y_X0_isOfLocal {p0 : Int32}  : y_Ok (f_X0_isOfLocal p0) (fun r => ((r.toInt = 0 ∧ ¬ (21 ≤ p0.toInt ∧ p0.toInt ≤ 25 ∨ 54 ≤ p0.toInt ∧ p0.toInt ≤ 58 ∨ p0.toInt = 132 ∨ p0.toInt = 169)) ∨ (r.toInt = 1 ∧ (21 ≤ p0.toInt ∧ p0.toInt ≤ 25 ∨ 54 ≤ p0.toInt ∧ p0.toInt ≤ 58 ∨ p0.toInt = 132 ∨ p0.toInt = 169)))) := by
  unfold f_X0_isOfLocal
  refine y_if (fun c1 => ?_) (fun c1 => ?_)
  · skip
    have e2 : (21 : Int32).toInt = 21 := rfl
    have c1' := c1
    rw [Int32.lt_iff_toInt_lt] at c1'
    refine y_if (fun c3 => ?_) (fun c3 => ?_)
    · skip
      have e4 : (54 : Int32).toInt = 54 := rfl
      have c3' := c3
      rw [Int32.lt_iff_toInt_lt] at c3'
      refine y_if (fun c5 => ?_) (fun c5 => ?_)
      · skip
        have e6 : (132 : Int32).toInt = 132 := rfl
        have c5' := c5
        rw [← Int32.toInt_inj] at c5'
        have e7 : (1 : Int32).toInt = 1 := rfl
        refine y_some ?_
        try dsimp only
        (first | with_reducible assumption | omega | ((with_reducible refine y_Vl ?_ ?_) <;> omega))
      · skip
        have e8 : (132 : Int32).toInt = 132 := rfl
        have c5' := c5
        rw [← Int32.toInt_inj] at c5'
        refine y_if (fun c9 => ?_) (fun c9 => ?_)
        · skip
          have e10 : (169 : Int32).toInt = 169 := rfl
          have c9' := c9
          rw [← Int32.toInt_inj] at c9'
          have e11 : (1 : Int32).toInt = 1 := rfl
          refine y_some ?_
          try dsimp only
          (first | with_reducible assumption | omega | ((with_reducible refine y_Vl ?_ ?_) <;> omega))
        · skip
          have e12 : (169 : Int32).toInt = 169 := rfl
          have c9' := c9
          rw [← Int32.toInt_inj] at c9'
          have e13 : (0 : Int32).toInt = 0 := rfl
          refine y_some ?_
          try dsimp only
          (first | with_reducible assumption | omega | ((with_reducible refine y_Vl ?_ ?_) <;> omega))
    · skip
      have e14 : (54 : Int32).toInt = 54 := rfl
      have c3' := c3
      rw [Int32.lt_iff_toInt_lt] at c3'
      refine y_if (fun c15 => ?_) (fun c15 => ?_)
      · skip
        have e16 : (58 : Int32).toInt = 58 := rfl
        have c15' := c15
        rw [Int32.le_iff_toInt_le] at c15'
        have e17 : (1 : Int32).toInt = 1 := rfl
        refine y_some ?_
        try dsimp only
        (first | with_reducible assumption | omega | ((with_reducible refine y_Vl ?_ ?_) <;> omega))
      · skip
        have e18 : (58 : Int32).toInt = 58 := rfl
        have c15' := c15
        rw [Int32.le_iff_toInt_le] at c15'
        refine y_if (fun c19 => ?_) (fun c19 => ?_)
        · skip
          have e20 : (132 : Int32).toInt = 132 := rfl
          have c19' := c19
          rw [← Int32.toInt_inj] at c19'
          have e21 : (1 : Int32).toInt = 1 := rfl
          refine y_some ?_
          try dsimp only
          (first | with_reducible assumption | omega | ((with_reducible refine y_Vl ?_ ?_) <;> omega))
        · skip
          have e22 : (132 : Int32).toInt = 132 := rfl
          have c19' := c19
          rw [← Int32.toInt_inj] at c19'
          refine y_if (fun c23 => ?_) (fun c23 => ?_)
          · skip
            have e24 : (169 : Int32).toInt = 169 := rfl
            have c23' := c23
            rw [← Int32.toInt_inj] at c23'
            have e25 : (1 : Int32).toInt = 1 := rfl
            refine y_some ?_
            try dsimp only
            (first | with_reducible assumption | omega | ((with_reducible refine y_Vl ?_ ?_) <;> omega))
          · skip
            have e26 : (169 : Int32).toInt = 169 := rfl
            have c23' := c23
            rw [← Int32.toInt_inj] at c23'
            have e27 : (0 : Int32).toInt = 0 := rfl
            refine y_some ?_
            try dsimp only
            (first | with_reducible assumption | omega | ((with_reducible refine y_Vl ?_ ?_) <;> omega))
  · skip
    have e28 : (21 : Int32).toInt = 21 := rfl
    have c1' := c1
    rw [Int32.lt_iff_toInt_lt] at c1'
    refine y_if (fun c29 => ?_) (fun c29 => ?_)
    · skip
      have e30 : (25 : Int32).toInt = 25 := rfl
      have c29' := c29
      rw [Int32.le_iff_toInt_le] at c29'
      have e31 : (1 : Int32).toInt = 1 := rfl
      refine y_some ?_
      try dsimp only
      (first | with_reducible assumption | omega | ((with_reducible refine y_Vl ?_ ?_) <;> omega))
    · skip
      have e32 : (25 : Int32).toInt = 25 := rfl
      have c29' := c29
      rw [Int32.le_iff_toInt_le] at c29'
      refine y_if (fun c33 => ?_) (fun c33 => ?_)
      · skip
        have e34 : (54 : Int32).toInt = 54 := rfl
        have c33' := c33
        rw [Int32.lt_iff_toInt_lt] at c33'
        refine y_if (fun c35 => ?_) (fun c35 => ?_)
        · skip
          have e36 : (132 : Int32).toInt = 132 := rfl
          have c35' := c35
          rw [← Int32.toInt_inj] at c35'
          have e37 : (1 : Int32).toInt = 1 := rfl
          refine y_some ?_
          try dsimp only
          (first | with_reducible assumption | omega | ((with_reducible refine y_Vl ?_ ?_) <;> omega))
        · skip
          have e38 : (132 : Int32).toInt = 132 := rfl
          have c35' := c35
          rw [← Int32.toInt_inj] at c35'
          refine y_if (fun c39 => ?_) (fun c39 => ?_)
          · skip
            have e40 : (169 : Int32).toInt = 169 := rfl
            have c39' := c39
            rw [← Int32.toInt_inj] at c39'
            have e41 : (1 : Int32).toInt = 1 := rfl
            refine y_some ?_
            try dsimp only
            (first | with_reducible assumption | omega | ((with_reducible refine y_Vl ?_ ?_) <;> omega))
          · skip
            have e42 : (169 : Int32).toInt = 169 := rfl
            have c39' := c39
            rw [← Int32.toInt_inj] at c39'
            have e43 : (0 : Int32).toInt = 0 := rfl
            refine y_some ?_
            try dsimp only
            (first | with_reducible assumption | omega | ((with_reducible refine y_Vl ?_ ?_) <;> omega))
      · skip
        have e44 : (54 : Int32).toInt = 54 := rfl
        have c33' := c33
        rw [Int32.lt_iff_toInt_lt] at c33'
        refine y_if (fun c45 => ?_) (fun c45 => ?_)
        · skip
          have e46 : (58 : Int32).toInt = 58 := rfl
          have c45' := c45
          rw [Int32.le_iff_toInt_le] at c45'
          have e47 : (1 : Int32).toInt = 1 := rfl
          refine y_some ?_
          try dsimp only
          (first | with_reducible assumption | omega | ((with_reducible refine y_Vl ?_ ?_) <;> omega))
        · skip
          have e48 : (58 : Int32).toInt = 58 := rfl
          have c45' := c45
          rw [Int32.le_iff_toInt_le] at c45'
          refine y_if (fun c49 => ?_) (fun c49 => ?_)
          · skip
            have e50 : (132 : Int32).toInt = 132 := rfl
            have c49' := c49
            rw [← Int32.toInt_inj] at c49'
            have e51 : (1 : Int32).toInt = 1 := rfl
            refine y_some ?_
            try dsimp only
            (first | with_reducible assumption | omega | ((with_reducible refine y_Vl ?_ ?_) <;> omega))
          · skip
            have e52 : (132 : Int32).toInt = 132 := rfl
            have c49' := c49
            rw [← Int32.toInt_inj] at c49'
            refine y_if (fun c53 => ?_) (fun c53 => ?_)
            · skip
              have e54 : (169 : Int32).toInt = 169 := rfl
              have c53' := c53
              rw [← Int32.toInt_inj] at c53'
              have e55 : (1 : Int32).toInt = 1 := rfl
              refine y_some ?_
              try dsimp only
              (first | with_reducible assumption | omega | ((with_reducible refine y_Vl ?_ ?_) <;> omega))
            · skip
              have e56 : (169 : Int32).toInt = 169 := rfl
              have c53' := c53
              rw [← Int32.toInt_inj] at c53'
              have e57 : (0 : Int32).toInt = 0 := rfl
              refine y_some ?_
              try dsimp only
              (first | with_reducible assumption | omega | ((with_reducible refine y_Vl ?_ ?_) <;> omega))
set_option maxHeartbeats 4000000 in
theorem y_X0_isOfWideLocal {p0 : Int32}  : y_Ok (f_X0_isOfWideLocal p0) (fun r => ((r.toInt = 0 ∧ ¬ (p0.toInt = 22 ∨ p0.toInt = 24 ∨ p0.toInt = 55 ∨ p0.toInt = 57)) ∨ (r.toInt = 1 ∧ (p0.toInt = 22 ∨ p0.toInt = 24 ∨ p0.toInt = 55 ∨ p0.toInt = 57)))) := by
  unfold f_X0_isOfWideLocal
  refine y_if (fun c1 => ?_) (fun c1 => ?_)
  · skip
    have e2 : (22 : Int32).toInt = 22 := rfl
    have c1' := c1
    rw [← Int32.toInt_inj] at c1'
    have e3 : (1 : Int32).toInt = 1 := rfl
    refine y_some ?_
    try dsimp only
    (first | with_reducible assumption | omega | ((with_reducible refine y_Vl ?_ ?_) <;> omega))
  · skip
    have e4 : (22 : Int32).toInt = 22 := rfl
    have c1' := c1
    rw [← Int32.toInt_inj] at c1'
    refine y_if (fun c5 => ?_) (fun c5 => ?_)
    · skip
      have e6 : (24 : Int32).toInt = 24 := rfl
      have c5' := c5
      rw [← Int32.toInt_inj] at c5'
      have e7 : (1 : Int32).toInt = 1 := rfl
      refine y_some ?_
      try dsimp only
      (first | with_reducible assumption | omega | ((with_reducible refine y_Vl ?_ ?_) <;> omega))
    · skip
      have e8 : (24 : Int32).toInt = 24 := rfl
      have c5' := c5
      rw [← Int32.toInt_inj] at c5'
      refine y_if (fun c9 => ?_) (fun c9 => ?_)
      · skip
        have e10 : (55 : Int32).toInt = 55 := rfl
        have c9' := c9
        rw [← Int32.toInt_inj] at c9'
        have e11 : (1 : Int32).toInt = 1 := rfl
        refine y_some ?_
        try dsimp only
        (first | with_reducible assumption | omega | ((with_reducible refine y_Vl ?_ ?_) <;> omega))
      · skip
        have e12 : (55 : Int32).toInt = 55 := rfl
        have c9' := c9
        rw [← Int32.toInt_inj] at c9'
        refine y_if (fun c13 => ?_) (fun c13 => ?_)
        · skip
          have e14 : (57 : Int32).toInt = 57 := rfl
          have c13' := c13
          rw [← Int32.toInt_inj] at c13'
          have e15 : (1 : Int32).toInt = 1 := rfl
          refine y_some ?_
          try dsimp only
          (first | with_reducible assumption | omega | ((with_reducible refine y_Vl ?_ ?_) <;> omega))
        · skip
          have e16 : (57 : Int32).toInt = 57 := rfl
          have c13' := c13
          rw [← Int32.toInt_inj] at c13'
          have e17 : (0 : Int32).toInt = 0 := rfl
          refine y_some ?_
          try dsimp only
          (first | with_reducible assumption | omega | ((with_reducible refine y_Vl ?_ ?_) <;> omega))
set_option maxHeartbeats 4000000 in
theorem y_X0_isOpcode {p0 : Int32}  : y_Ok (f_X0_isOpcode p0) (fun r => ((r.toInt = 0 ∧ ¬ (0 ≤ p0.toInt ∧ p0.toInt ≤ 18 ∨ 20 ≤ p0.toInt ∧ p0.toInt ≤ 25 ∨ 46 ≤ p0.toInt ∧ p0.toInt ≤ 58 ∨ 79 ≤ p0.toInt ∧ p0.toInt ≤ 195 ∨ 197 ≤ p0.toInt ∧ p0.toInt ≤ 199)) ∨ (r.toInt = 1 ∧ (0 ≤ p0.toInt ∧ p0.toInt ≤ 18 ∨ 20 ≤ p0.toInt ∧ p0.toInt ≤ 25 ∨ 46 ≤ p0.toInt ∧ p0.toInt ≤ 58 ∨ 79 ≤ p0.toInt ∧ p0.toInt ≤ 195 ∨ 197 ≤ p0.toInt ∧ p0.toInt ≤ 199)))) := by
  unfold f_X0_isOpcode
  refine y_if (fun c1 => ?_) (fun c1 => ?_)
  · skip
    have e2 : (0 : Int32).toInt = 0 := rfl
    have c1' := c1
    rw [Int32.lt_iff_toInt_lt] at c1'
    refine y_if (fun c3 => ?_) (fun c3 => ?_)
    · skip
      have e4 : (20 : Int32).toInt = 20 := rfl
      have c3' := c3
      rw [Int32.lt_iff_toInt_lt] at c3'
      refine y_if (fun c5 => ?_) (fun c5 => ?_)
      · skip
        have e6 : (46 : Int32).toInt = 46 := rfl
        have c5' := c5
        rw [Int32.lt_iff_toInt_lt] at c5'
        refine y_if (fun c7 => ?_) (fun c7 => ?_)
        · skip
          have e8 : (79 : Int32).toInt = 79 := rfl
          have c7' := c7
          rw [Int32.lt_iff_toInt_lt] at c7'
          refine y_if (fun c9 => ?_) (fun c9 => ?_)
          · skip
            have e10 : (197 : Int32).toInt = 197 := rfl
            have c9' := c9
            rw [Int32.lt_iff_toInt_lt] at c9'
            refine y_some ?_
            try dsimp only
            (first | with_reducible assumption | omega | ((with_reducible refine y_Vl ?_ ?_) <;> omega))
          · skip
            have e11 : (197 : Int32).toInt = 197 := rfl
            have c9' := c9
            rw [Int32.lt_iff_toInt_lt] at c9'
            refine y_if (fun c12 => ?_) (fun c12 => ?_)
            · skip
              have e13 : (199 : Int32).toInt = 199 := rfl
              have c12' := c12
              rw [Int32.lt_iff_toInt_lt] at c12'
              refine y_some ?_
              try dsimp only
              (first | with_reducible assumption | omega | ((with_reducible refine y_Vl ?_ ?_) <;> omega))
            · skip
              have e14 : (199 : Int32).toInt = 199 := rfl
              have c12' := c12
              rw [Int32.lt_iff_toInt_lt] at c12'
              have e15 : (1 : Int32).toInt = 1 := rfl
              refine y_some ?_
              try dsimp only
              (first | with_reducible assumption | omega | ((with_reducible refine y_Vl ?_ ?_) <;> omega))
        · skip
          have e16 : (79 : Int32).toInt = 79 := rfl
          have c7' := c7
          rw [Int32.lt_iff_toInt_lt] at c7'
          refine y_if (fun c17 => ?_) (fun c17 => ?_)
          · skip
            have e18 : (195 : Int32).toInt = 195 := rfl
            have c17' := c17
            rw [Int32.le_iff_toInt_le] at c17'
            have e19 : (1 : Int32).toInt = 1 := rfl
            refine y_some ?_
            try dsimp only
            (first | with_reducible assumption | omega | ((with_reducible refine y_Vl ?_ ?_) <;> omega))
          · skip
            have e20 : (195 : Int32).toInt = 195 := rfl
            have c17' := c17
            rw [Int32.le_iff_toInt_le] at c17'
            refine y_if (fun c21 => ?_) (fun c21 => ?_)
            · skip
              have e22 : (197 : Int32).toInt = 197 := rfl
              have c21' := c21
              rw [Int32.lt_iff_toInt_lt] at c21'
              refine y_some ?_
              try dsimp only
              (first | with_reducible assumption | omega | ((with_reducible refine y_Vl ?_ ?_) <;> omega))
            · skip
              have e23 : (197 : Int32).toInt = 197 := rfl
              have c21' := c21
              rw [Int32.lt_iff_toInt_lt] at c21'
              refine y_if (fun c24 => ?_) (fun c24 => ?_)
              · skip
                have e25 : (199 : Int32).toInt = 199 := rfl
                have c24' := c24
                rw [Int32.lt_iff_toInt_lt] at c24'
                refine y_some ?_
                try dsimp only
                (first | with_reducible assumption | omega | ((with_reducible refine y_Vl ?_ ?_) <;> omega))
              · skip
                have e26 : (199 : Int32).toInt = 199 := rfl
                have c24' := c24
                rw [Int32.lt_iff_toInt_lt] at c24'
                have e27 : (1 : Int32).toInt = 1 := rfl
                refine y_some ?_
                try dsimp only
                (first | with_reducible assumption | omega | ((with_reducible refine y_Vl ?_ ?_) <;> omega))
      · skip
        have e28 : (46 : Int32).toInt = 46 := rfl
        have c5' := c5
        rw [Int32.lt_iff_toInt_lt] at c5'
        refine y_if (fun c29 => ?_) (fun c29 => ?_)
        · skip
          have e30 : (58 : Int32).toInt = 58 := rfl
          have c29' := c29
          rw [Int32.le_iff_toInt_le] at c29'
          have e31 : (1 : Int32).toInt = 1 := rfl
          refine y_some ?_
          try dsimp only
          (first | with_reducible assumption | omega | ((with_reducible refine y_Vl ?_ ?_) <;> omega))
        · skip
          have e32 : (58 : Int32).toInt = 58 := rfl
          have c29' := c29
          rw [Int32.le_iff_toInt_le] at c29'
          refine y_if (fun c33 => ?_) (fun c33 => ?_)
          · skip
            have e34 : (79 : Int32).toInt = 79 := rfl
            have c33' := c33
            rw [Int32.lt_iff_toInt_lt] at c33'
            refine y_if (fun c35 => ?_) (fun c35 => ?_)
            · skip
              have e36 : (197 : Int32).toInt = 197 := rfl
              have c35' := c35
              rw [Int32.lt_iff_toInt_lt] at c35'
              refine y_some ?_
              try dsimp only
              (first | with_reducible assumption | omega | ((with_reducible refine y_Vl ?_ ?_) <;> omega))
            · skip
              have e37 : (197 : Int32).toInt = 197 := rfl
              have c35' := c35
              rw [Int32.lt_iff_toInt_lt] at c35'
              refine y_if (fun c38 => ?_) (fun c38 => ?_)
              · skip
                have e39 : (199 : Int32).toInt = 199 := rfl
                have c38' := c38
                rw [Int32.lt_iff_toInt_lt] at c38'
                refine y_some ?_
                try dsimp only
                (first | with_reducible assumption | omega | ((with_reducible refine y_Vl ?_ ?_) <;> omega))
              · skip
                have e40 : (199 : Int32).toInt = 199 := rfl
                have c38' := c38
                rw [Int32.lt_iff_toInt_lt] at c38'
                have e41 : (1 : Int32).toInt = 1 := rfl
                refine y_some ?_
                try dsimp only
                (first | with_reducible assumption | omega | ((with_reducible refine y_Vl ?_ ?_) <;> omega))
          · skip
            have e42 : (79 : Int32).toInt = 79 := rfl
            have c33' := c33
            rw [Int32.lt_iff_toInt_lt] at c33'
            refine y_if (fun c43 => ?_) (fun c43 => ?_)
            · skip
              have e44 : (195 : Int32).toInt = 195 := rfl
              have c43' := c43
              rw [Int32.le_iff_toInt_le] at c43'
              have e45 : (1 : Int32).toInt = 1 := rfl
              refine y_some ?_
              try dsimp only
              (first | with_reducible assumption | omega | ((with_reducible refine y_Vl ?_ ?_) <;> omega))
            · skip
              have e46 : (195 : Int32).toInt = 195 := rfl
              have c43' := c43
              rw [Int32.le_iff_toInt_le] at c43'
              refine y_if (fun c47 => ?_) (fun c47 => ?_)
              · skip
                have e48 : (197 : Int32).toInt = 197 := rfl
                have c47' := c47
                rw [Int32.lt_iff_toInt_lt] at c47'
                refine y_some ?_
                try dsimp only
                (first | with_reducible assumption | omega | ((with_reducible refine y_Vl ?_ ?_) <;> omega))
              · skip
                have e49 : (197 : Int32).toInt = 197 := rfl
                have c47' := c47
                rw [Int32.lt_iff_toInt_lt] at c47'
                refine y_if (fun c50 => ?_) (fun c50 => ?_)
                · skip
                  have e51 : (199 : Int32).toInt = 199 := rfl
                  have c50' := c50
                  rw [Int32.lt_iff_toInt_lt] at c50'
                  refine y_some ?_
                  try dsimp only
                  (first | with_reducible assumption | omega | ((with_reducible refine y_Vl ?_ ?_) <;> omega))
                · skip
                  have e52 : (199 : Int32).toInt = 199 := rfl
                  have c50' := c50
                  rw [Int32.lt_iff_toInt_lt] at c50'
                  have e53 : (1 : Int32).toInt = 1 := rfl
                  refine y_some ?_
                  try dsimp only
                  (first | with_reducible assumption | omega | ((with_reducible refine y_Vl ?_ ?_) <;> omega))
    · skip
      have e54 : (20 : Int32).toInt = 20 := rfl
      have c3' := c3
      rw [Int32.lt_iff_toInt_lt] at c3'
      refine y_if (fun c55 => ?_) (fun c55 => ?_)
      · skip
        have e56 : (25 : Int32).toInt = 25 := rfl
        have c55' := c55
        rw [Int32.le_iff_toInt_le] at c55'
        have e57 : (1 : Int32).toInt = 1 := rfl
        refine y_some ?_
        try dsimp only
        (first | with_reducible assumption | omega | ((with_reducible refine y_Vl ?_ ?_) <;> omega))
      · skip
        have e58 : (25 : Int32).toInt = 25 := rfl
        have c55' := c55
        rw [Int32.le_iff_toInt_le] at c55'
        refine y_if (fun c59 => ?_) (fun c59 => ?_)
        · skip
          have e60 : (46 : Int32).toInt = 46 := rfl
          have c59' := c59
          rw [Int32.lt_iff_toInt_lt] at c59'
          refine y_if (fun c61 => ?_) (fun c61 => ?_)
          · skip
            have e62 : (79 : Int32).toInt = 79 := rfl
            have c61' := c61
            rw [Int32.lt_iff_toInt_lt] at c61'
            refine y_if (fun c63 => ?_) (fun c63 => ?_)
            · skip
              have e64 : (197 : Int32).toInt = 197 := rfl
              have c63' := c63
              rw [Int32.lt_iff_toInt_lt] at c63'
              refine y_some ?_
              try dsimp only
              (first | with_reducible assumption | omega | ((with_reducible refine y_Vl ?_ ?_) <;> omega))
            · skip
              have e65 : (197 : Int32).toInt = 197 := rfl
              have c63' := c63
              rw [Int32.lt_iff_toInt_lt] at c63'
              refine y_if (fun c66 => ?_) (fun c66 => ?_)
              · skip
                have e67 : (199 : Int32).toInt = 199 := rfl
                have c66' := c66
                rw [Int32.lt_iff_toInt_lt] at c66'
                refine y_some ?_
                try dsimp only
                (first | with_reducible assumption | omega | ((with_reducible refine y_Vl ?_ ?_) <;> omega))
              · skip
                have e68 : (199 : Int32).toInt = 199 := rfl
                have c66' := c66
                rw [Int32.lt_iff_toInt_lt] at c66'
                have e69 : (1 : Int32).toInt = 1 := rfl
                refine y_some ?_
                try dsimp only
                (first | with_reducible assumption | omega | ((with_reducible refine y_Vl ?_ ?_) <;> omega))
          · skip
            have e70 : (79 : Int32).toInt = 79 := rfl
            have c61' := c61
            rw [Int32.lt_iff_toInt_lt] at c61'
            refine y_if (fun c71 => ?_) (fun c71 => ?_)
            · skip
              have e72 : (195 : Int32).toInt = 195 := rfl
              have c71' := c71
              rw [Int32.le_iff_toInt_le] at c71'
              have e73 : (1 : Int32).toInt = 1 := rfl
              refine y_some ?_
              try dsimp only
              (first | with_reducible assumption | omega | ((with_reducible refine y_Vl ?_ ?_) <;> omega))
            · skip
              have e74 : (195 : Int32).toInt = 195 := rfl
              have c71' := c71
              rw [Int32.le_iff_toInt_le] at c71'
              refine y_if (fun c75 => ?_) (fun c75 => ?_)
              · skip
                have e76 : (197 : Int32).toInt = 197 := rfl
                have c75' := c75
                rw [Int32.lt_iff_toInt_lt] at c75'
                refine y_some ?_
                try dsimp only
                (first | with_reducible assumption | omega | ((with_reducible refine y_Vl ?_ ?_) <;> omega))
              · skip
                have e77 : (197 : Int32).toInt = 197 := rfl
                have c75' := c75
                rw [Int32.lt_iff_toInt_lt] at c75'
                refine y_if (fun c78 => ?_) (fun c78 => ?_)
                · skip
                  have e79 : (199 : Int32).toInt = 199 := rfl
                  have c78' := c78
                  rw [Int32.lt_iff_toInt_lt] at c78'
                  refine y_some ?_
                  try dsimp only
                  (first | with_reducible assumption | omega | ((with_reducible refine y_Vl ?_ ?_) <;> omega))
                · skip
                  have e80 : (199 : Int32).toInt = 199 := rfl
                  have c78' := c78
                  rw [Int32.lt_iff_toInt_lt] at c78'
                  have e81 : (1 : Int32).toInt = 1 := rfl
                  refine y_some ?_
                  try dsimp only
                  (first | with_reducible assumption | omega | ((with_reducible refine y_Vl ?_ ?_) <;> omega))
        · skip
          have e82 : (46 : Int32).toInt = 46 := rfl
          have c59' := c59
          rw [Int32.lt_iff_toInt_lt] at c59'
          refine y_if (fun c83 => ?_) (fun c83 => ?_)
          · skip
            have e84 : (58 : Int32).toInt = 58 := rfl
            have c83' := c83
            rw [Int32.le_iff_toInt_le] at c83'
            have e85 : (1 : Int32).toInt = 1 := rfl
            refine y_some ?_
            try dsimp only
            (first | with_reducible assumption | omega | ((with_reducible refine y_Vl ?_ ?_) <;> omega))
          · skip
            have e86 : (58 : Int32).toInt = 58 := rfl
            have c83' := c83
            rw [Int32.le_iff_toInt_le] at c83'
            refine y_if (fun c87 => ?_) (fun c87 => ?_)
            · skip
              have e88 : (79 : Int32).toInt = 79 := rfl
              have c87' := c87
              rw [Int32.lt_iff_toInt_lt] at c87'
              refine y_if (fun c89 => ?_) (fun c89 => ?_)
              · skip
                have e90 : (197 : Int32).toInt = 197 := rfl
                have c89' := c89
                rw [Int32.lt_iff_toInt_lt] at c89'
                refine y_some ?_
                try dsimp only
                (first | with_reducible assumption | omega | ((with_reducible refine y_Vl ?_ ?_) <;> omega))
              · skip
                have e91 : (197 : Int32).toInt = 197 := rfl
                have c89' := c89
                rw [Int32.lt_iff_toInt_lt] at c89'
                refine y_if (fun c92 => ?_) (fun c92 => ?_)
                · skip
                  have e93 : (199 : Int32).toInt = 199 := rfl
                  have c92' := c92
                  rw [Int32.lt_iff_toInt_lt] at c92'
                  refine y_some ?_
                  try dsimp only
                  (first | with_reducible assumption | omega | ((with_reducible refine y_Vl ?_ ?_) <;> omega))
                · skip
                  have e94 : (199 : Int32).toInt = 199 := rfl
                  have c92' := c92
                  rw [Int32.lt_iff_toInt_lt] at c92'
                  have e95 : (1 : Int32).toInt = 1 := rfl
                  refine y_some ?_
                  try dsimp only
                  (first | with_reducible assumption | omega | ((with_reducible refine y_Vl ?_ ?_) <;> omega))
            · skip
              have e96 : (79 : Int32).toInt = 79 := rfl
              have c87' := c87
              rw [Int32.lt_iff_toInt_lt] at c87'
              refine y_if (fun c97 => ?_) (fun c97 => ?_)
              · skip
                have e98 : (195 : Int32).toInt = 195 := rfl
                have c97' := c97
                rw [Int32.le_iff_toInt_le] at c97'
                have e99 : (1 : Int32).toInt = 1 := rfl
                refine y_some ?_
                try dsimp only
                (first | with_reducible assumption | omega | ((with_reducible refine y_Vl ?_ ?_) <;> omega))
              · skip
                have e100 : (195 : Int32).toInt = 195 := rfl
                have c97' := c97
                rw [Int32.le_iff_toInt_le] at c97'
                refine y_if (fun c101 => ?_) (fun c101 => ?_)
                · skip
                  have e102 : (197 : Int32).toInt = 197 := rfl
                  have c101' := c101
                  rw [Int32.lt_iff_toInt_lt] at c101'
                  refine y_some ?_
                  try dsimp only
                  (first | with_reducible assumption | omega | ((with_reducible refine y_Vl ?_ ?_) <;> omega))
                · skip
                  have e103 : (197 : Int32).toInt = 197 := rfl
                  have c101' := c101
                  rw [Int32.lt_iff_toInt_lt] at c101'
                  refine y_if (fun c104 => ?_) (fun c104 => ?_)
                  · skip
                    have e105 : (199 : Int32).toInt = 199 := rfl
                    have c104' := c104
                    rw [Int32.lt_iff_toInt_lt] at c104'
                    refine y_some ?_
                    try dsimp only
                    (first | with_reducible assumption | omega | ((with_reducible refine y_Vl ?_ ?_) <;> omega))
                  · skip
                    have e106 : (199 : Int32).toInt = 199 := rfl
                    have c104' := c104
                    rw [Int32.lt_iff_toInt_lt] at c104'
                    have e107 : (1 : Int32).toInt = 1 := rfl
                    refine y_some ?_
                    try dsimp only
                    (first | with_reducible assumption | omega | ((with_reducible refine y_Vl ?_ ?_) <;> omega))
  · skip
    have e108 : (0 : Int32).toInt = 0 := rfl
    have c1' := c1
    rw [Int32.lt_iff_toInt_lt] at c1'
    refine y_if (fun c109 => ?_) (fun c109 => ?_)
    · skip
      have e110 : (18 : Int32).toInt = 18 := rfl
      have c109' := c109
      rw [Int32.le_iff_toInt_le] at c109'
      have e111 : (1 : Int32).toInt = 1 := rfl
      refine y_some ?_
      try dsimp only
      (first | with_reducible assumption | omega | ((with_reducible refine y_Vl ?_ ?_) <;> omega))
    · skip
      have e112 : (18 : Int32).toInt = 18 := rfl
      have c109' := c109
      rw [Int32.le_iff_toInt_le] at c109'
      refine y_if (fun c113 => ?_) (fun c113 => ?_)
      · skip
        have e114 : (20 : Int32).toInt = 20 := rfl
        have c113' := c113
        rw [Int32.lt_iff_toInt_lt] at c113'
        refine y_if (fun c115 => ?_) (fun c115 => ?_)
        · skip
          have e116 : (46 : Int32).toInt = 46 := rfl
          have c115' := c115
          rw [Int32.lt_iff_toInt_lt] at c115'
          refine y_if (fun c117 => ?_) (fun c117 => ?_)
          · skip
            have e118 : (79 : Int32).toInt = 79 := rfl
            have c117' := c117
            rw [Int32.lt_iff_toInt_lt] at c117'
            refine y_if (fun c119 => ?_) (fun c119 => ?_)
            · skip
              have e120 : (197 : Int32).toInt = 197 := rfl
              have c119' := c119
              rw [Int32.lt_iff_toInt_lt] at c119'
              refine y_some ?_
              try dsimp only
              (first | with_reducible assumption | omega | ((with_reducible refine y_Vl ?_ ?_) <;> omega))
            · skip
              have e121 : (197 : Int32).toInt = 197 := rfl
              have c119' := c119
              rw [Int32.lt_iff_toInt_lt] at c119'
              refine y_if (fun c122 => ?_) (fun c122 => ?_)
              · skip
                have e123 : (199 : Int32).toInt = 199 := rfl
                have c122' := c122
                rw [Int32.lt_iff_toInt_lt] at c122'
                refine y_some ?_
                try dsimp only
                (first | with_reducible assumption | omega | ((with_reducible refine y_Vl ?_ ?_) <;> omega))
              · skip
                have e124 : (199 : Int32).toInt = 199 := rfl
                have c122' := c122
                rw [Int32.lt_iff_toInt_lt] at c122'
                have e125 : (1 : Int32).toInt = 1 := rfl
                refine y_some ?_
                try dsimp only
                (first | with_reducible assumption | omega | ((with_reducible refine y_Vl ?_ ?_) <;> omega))
          · skip
            have e126 : (79 : Int32).toInt = 79 := rfl
            have c117' := c117
            rw [Int32.lt_iff_toInt_lt] at c117'
            refine y_if (fun c127 => ?_) (fun c127 => ?_)
            · skip
              have e128 : (195 : Int32).toInt = 195 := rfl
              have c127' := c127
              rw [Int32.le_iff_toInt_le] at c127'
              have e129 : (1 : Int32).toInt = 1 := rfl
              refine y_some ?_
              try dsimp only
              (first | with_reducible assumption | omega | ((with_reducible refine y_Vl ?_ ?_) <;> omega))
            · skip
              have e130 : (195 : Int32).toInt = 195 := rfl
              have c127' := c127
              rw [Int32.le_iff_toInt_le] at c127'
              refine y_if (fun c131 => ?_) (fun c131 => ?_)
              · skip
                have e132 : (197 : Int32).toInt = 197 := rfl
                have c131' := c131
                rw [Int32.lt_iff_toInt_lt] at c131'
                refine y_some ?_
                try dsimp only
                (first | with_reducible assumption | omega | ((with_reducible refine y_Vl ?_ ?_) <;> omega))
              · skip
                have e133 : (197 : Int32).toInt = 197 := rfl
                have c131' := c131
                rw [Int32.lt_iff_toInt_lt] at c131'
                refine y_if (fun c134 => ?_) (fun c134 => ?_)
                · skip
                  have e135 : (199 : Int32).toInt = 199 := rfl
                  have c134' := c134
                  rw [Int32.lt_iff_toInt_lt] at c134'
                  refine y_some ?_
                  try dsimp only
                  (first | with_reducible assumption | omega | ((with_reducible refine y_Vl ?_ ?_) <;> omega))
                · skip
                  have e136 : (199 : Int32).toInt = 199 := rfl
                  have c134' := c134
                  rw [Int32.lt_iff_toInt_lt] at c134'
                  have e137 : (1 : Int32).toInt = 1 := rfl
                  refine y_some ?_
                  try dsimp only
                  (first | with_reducible assumption | omega | ((with_reducible refine y_Vl ?_ ?_) <;> omega))
        · skip
          have e138 : (46 : Int32).toInt = 46 := rfl
          have c115' := c115
          rw [Int32.lt_iff_toInt_lt] at c115'
          refine y_if (fun c139 => ?_) (fun c139 => ?_)
          · skip
            have e140 : (58 : Int32).toInt = 58 := rfl
            have c139' := c139
            rw [Int32.le_iff_toInt_le] at c139'
            have e141 : (1 : Int32).toInt = 1 := rfl
            refine y_some ?_
            try dsimp only
            (first | with_reducible assumption | omega | ((with_reducible refine y_Vl ?_ ?_) <;> omega))
          · skip
            have e142 : (58 : Int32).toInt = 58 := rfl
            have c139' := c139
            rw [Int32.le_iff_toInt_le] at c139'
            refine y_if (fun c143 => ?_) (fun c143 => ?_)
            · skip
              have e144 : (79 : Int32).toInt = 79 := rfl
              have c143' := c143
              rw [Int32.lt_iff_toInt_lt] at c143'
              refine y_if (fun c145 => ?_) (fun c145 => ?_)
              · skip
                have e146 : (197 : Int32).toInt = 197 := rfl
                have c145' := c145
                rw [Int32.lt_iff_toInt_lt] at c145'
                refine y_some ?_
                try dsimp only
                (first | with_reducible assumption | omega | ((with_reducible refine y_Vl ?_ ?_) <;> omega))
              · skip
                have e147 : (197 : Int32).toInt = 197 := rfl
                have c145' := c145
                rw [Int32.lt_iff_toInt_lt] at c145'
                refine y_if (fun c148 => ?_) (fun c148 => ?_)
                · skip
                  have e149 : (199 : Int32).toInt = 199 := rfl
                  have c148' := c148
                  rw [Int32.lt_iff_toInt_lt] at c148'
                  refine y_some ?_
                  try dsimp only
                  (first | with_reducible assumption | omega | ((with_reducible refine y_Vl ?_ ?_) <;> omega))
                · skip
                  have e150 : (199 : Int32).toInt = 199 := rfl
                  have c148' := c148
                  rw [Int32.lt_iff_toInt_lt] at c148'
                  have e151 : (1 : Int32).toInt = 1 := rfl
                  refine y_some ?_
                  try dsimp only
                  (first | with_reducible assumption | omega | ((with_reducible refine y_Vl ?_ ?_) <;> omega))
            · skip
              have e152 : (79 : Int32).toInt = 79 := rfl
              have c143' := c143
              rw [Int32.lt_iff_toInt_lt] at c143'
              refine y_if (fun c153 => ?_) (fun c153 => ?_)
              · skip
                have e154 : (195 : Int32).toInt = 195 := rfl
                have c153' := c153
                rw [Int32.le_iff_toInt_le] at c153'
                have e155 : (1 : Int32).toInt = 1 := rfl
                refine y_some ?_
                try dsimp only
                (first | with_reducible assumption | omega | ((with_reducible refine y_Vl ?_ ?_) <;> omega))
              · skip
                have e156 : (195 : Int32).toInt = 195 := rfl
                have c153' := c153
                rw [Int32.le_iff_toInt_le] at c153'
                refine y_if (fun c157 => ?_) (fun c157 => ?_)
                · skip
                  have e158 : (197 : Int32).toInt = 197 := rfl
                  have c157' := c157
                  rw [Int32.lt_iff_toInt_lt] at c157'
                  refine y_some ?_
                  try dsimp only
                  (first | with_reducible assumption | omega | ((with_reducible refine y_Vl ?_ ?_) <;> omega))
                · skip
                  have e159 : (197 : Int32).toInt = 197 := rfl
                  have c157' := c157
                  rw [Int32.lt_iff_toInt_lt] at c157'
                  refine y_if (fun c160 => ?_) (fun c160 => ?_)
                  · skip
                    have e161 : (199 : Int32).toInt = 199 := rfl
                    have c160' := c160
                    rw [Int32.lt_iff_toInt_lt] at c160'
                    refine y_some ?_
                    try dsimp only
                    (first | with_reducible assumption | omega | ((with_reducible refine y_Vl ?_ ?_) <;> omega))
                  · skip
                    have e162 : (199 : Int32).toInt = 199 := rfl
                    have c160' := c160
                    rw [Int32.lt_iff_toInt_lt] at c160'
                    have e163 : (1 : Int32).toInt = 1 := rfl
                    refine y_some ?_
                    try dsimp only
                    (first | with_reducible assumption | omega | ((with_reducible refine y_Vl ?_ ?_) <;> omega))
      · skip
        have e164 : (20 : Int32).toInt = 20 := rfl
        have c113' := c113
        rw [Int32.lt_iff_toInt_lt] at c113'
        refine y_if (fun c165 => ?_) (fun c165 => ?_)
        · skip
          have e166 : (25 : Int32).toInt = 25 := rfl
          have c165' := c165
          rw [Int32.le_iff_toInt_le] at c165'
          have e167 : (1 : Int32).toInt = 1 := rfl
          refine y_some ?_
          try dsimp only
          (first | with_reducible assumption | omega | ((with_reducible refine y_Vl ?_ ?_) <;> omega))
        · skip
          have e168 : (25 : Int32).toInt = 25 := rfl
          have c165' := c165
          rw [Int32.le_iff_toInt_le] at c165'
          refine y_if (fun c169 => ?_) (fun c169 => ?_)
          · skip
            have e170 : (46 : Int32).toInt = 46 := rfl
            have c169' := c169
            rw [Int32.lt_iff_toInt_lt] at c169'
            refine y_if (fun c171 => ?_) (fun c171 => ?_)
            · skip
              have e172 : (79 : Int32).toInt = 79 := rfl
              have c171' := c171
              rw [Int32.lt_iff_toInt_lt] at c171'
              refine y_if (fun c173 => ?_) (fun c173 => ?_)
              · skip
                have e174 : (197 : Int32).toInt = 197 := rfl
                have c173' := c173
                rw [Int32.lt_iff_toInt_lt] at c173'
                refine y_some ?_
                try dsimp only
                (first | with_reducible assumption | omega | ((with_reducible refine y_Vl ?_ ?_) <;> omega))
              · skip
                have e175 : (197 : Int32).toInt = 197 := rfl
                have c173' := c173
                rw [Int32.lt_iff_toInt_lt] at c173'
                refine y_if (fun c176 => ?_) (fun c176 => ?_)
                · skip
                  have e177 : (199 : Int32).toInt = 199 := rfl
                  have c176' := c176
                  rw [Int32.lt_iff_toInt_lt] at c176'
                  refine y_some ?_
                  try dsimp only
                  (first | with_reducible assumption | omega | ((with_reducible refine y_Vl ?_ ?_) <;> omega))
                · skip
                  have e178 : (199 : Int32).toInt = 199 := rfl
                  have c176' := c176
                  rw [Int32.lt_iff_toInt_lt] at c176'
                  have e179 : (1 : Int32).toInt = 1 := rfl
                  refine y_some ?_
                  try dsimp only
                  (first | with_reducible assumption | omega | ((with_reducible refine y_Vl ?_ ?_) <;> omega))
            · skip
              have e180 : (79 : Int32).toInt = 79 := rfl
              have c171' := c171
              rw [Int32.lt_iff_toInt_lt] at c171'
              refine y_if (fun c181 => ?_) (fun c181 => ?_)
              · skip
                have e182 : (195 : Int32).toInt = 195 := rfl
                have c181' := c181
                rw [Int32.le_iff_toInt_le] at c181'
                have e183 : (1 : Int32).toInt = 1 := rfl
                refine y_some ?_
                try dsimp only
                (first | with_reducible assumption | omega | ((with_reducible refine y_Vl ?_ ?_) <;> omega))
              · skip
                have e184 : (195 : Int32).toInt = 195 := rfl
                have c181' := c181
                rw [Int32.le_iff_toInt_le] at c181'
                refine y_if (fun c185 => ?_) (fun c185 => ?_)
                · skip
                  have e186 : (197 : Int32).toInt = 197 := rfl
                  have c185' := c185
                  rw [Int32.lt_iff_toInt_lt] at c185'
                  refine y_some ?_
                  try dsimp only
                  (first | with_reducible assumption | omega | ((with_reducible refine y_Vl ?_ ?_) <;> omega))
                · skip
                  have e187 : (197 : Int32).toInt = 197 := rfl
                  have c185' := c185
                  rw [Int32.lt_iff_toInt_lt] at c185'
                  refine y_if (fun c188 => ?_) (fun c188 => ?_)
                  · skip
                    have e189 : (199 : Int32).toInt = 199 := rfl
                    have c188' := c188
                    rw [Int32.lt_iff_toInt_lt] at c188'
                    refine y_some ?_
                    try dsimp only
                    (first | with_reducible assumption | omega | ((with_reducible refine y_Vl ?_ ?_) <;> omega))
                  · skip
                    have e190 : (199 : Int32).toInt = 199 := rfl
                    have c188' := c188
                    rw [Int32.lt_iff_toInt_lt] at c188'
                    have e191 : (1 : Int32).toInt = 1 := rfl
                    refine y_some ?_
                    try dsimp only
                    (first | with_reducible assumption | omega | ((with_reducible refine y_Vl ?_ ?_) <;> omega))
          · skip
            have e192 : (46 : Int32).toInt = 46 := rfl
            have c169' := c169
            rw [Int32.lt_iff_toInt_lt] at c169'
            refine y_if (fun c193 => ?_) (fun c193 => ?_)
            · skip
              have e194 : (58 : Int32).toInt = 58 := rfl
              have c193' := c193
              rw [Int32.le_iff_toInt_le] at c193'
              have e195 : (1 : Int32).toInt = 1 := rfl
              refine y_some ?_
              try dsimp only
              (first | with_reducible assumption | omega | ((with_reducible refine y_Vl ?_ ?_) <;> omega))
            · skip
              have e196 : (58 : Int32).toInt = 58 := rfl
              have c193' := c193
              rw [Int32.le_iff_toInt_le] at c193'
              refine y_if (fun c197 => ?_) (fun c197 => ?_)
              · skip
                have e198 : (79 : Int32).toInt = 79 := rfl
                have c197' := c197
                rw [Int32.lt_iff_toInt_lt] at c197'
                refine y_if (fun c199 => ?_) (fun c199 => ?_)
                · skip
                  have e200 : (197 : Int32).toInt = 197 := rfl
                  have c199' := c199
                  rw [Int32.lt_iff_toInt_lt] at c199'
                  refine y_some ?_
                  try dsimp only
                  (first | with_reducible assumption | omega | ((with_reducible refine y_Vl ?_ ?_) <;> omega))
                · skip
                  have e201 : (197 : Int32).toInt = 197 := rfl
                  have c199' := c199
                  rw [Int32.lt_iff_toInt_lt] at c199'
                  refine y_if (fun c202 => ?_) (fun c202 => ?_)
                  · skip
                    have e203 : (199 : Int32).toInt = 199 := rfl
                    have c202' := c202
                    rw [Int32.lt_iff_toInt_lt] at c202'
                    refine y_some ?_
                    try dsimp only
                    (first | with_reducible assumption | omega | ((with_reducible refine y_Vl ?_ ?_) <;> omega))
                  · skip
                    have e204 : (199 : Int32).toInt = 199 := rfl
                    have c202' := c202
                    rw [Int32.lt_iff_toInt_lt] at c202'
                    have e205 : (1 : Int32).toInt = 1 := rfl
                    refine y_some ?_
                    try dsimp only
                    (first | with_reducible assumption | omega | ((with_reducible refine y_Vl ?_ ?_) <;> omega))
              · skip
                have e206 : (79 : Int32).toInt = 79 := rfl
                have c197' := c197
                rw [Int32.lt_iff_toInt_lt] at c197'
                refine y_if (fun c207 => ?_) (fun c207 => ?_)
                · skip
                  have e208 : (195 : Int32).toInt = 195 := rfl
                  have c207' := c207
                  rw [Int32.le_iff_toInt_le] at c207'
                  have e209 : (1 : Int32).toInt = 1 := rfl
                  refine y_some ?_
                  try dsimp only
                  (first | with_reducible assumption | omega | ((with_reducible refine y_Vl ?_ ?_) <;> omega))
                · skip
                  have e210 : (195 : Int32).toInt = 195 := rfl
                  have c207' := c207
                  rw [Int32.le_iff_toInt_le] at c207'
                  refine y_if (fun c211 => ?_) (fun c211 => ?_)
                  · skip
                    have e212 : (197 : Int32).toInt = 197 := rfl
                    have c211' := c211
                    rw [Int32.lt_iff_toInt_lt] at c211'
                    refine y_some ?_
                    try dsimp only
                    (first | with_reducible assumption | omega | ((with_reducible refine y_Vl ?_ ?_) <;> omega))
                  · skip
                    have e213 : (197 : Int32).toInt = 197 := rfl
                    have c211' := c211
                    rw [Int32.lt_iff_toInt_lt] at c211'
                    refine y_if (fun c214 => ?_) (fun c214 => ?_)
                    · skip
                      have e215 : (199 : Int32).toInt = 199 := rfl
                      have c214' := c214
                      rw [Int32.lt_iff_toInt_lt] at c214'
                      refine y_some ?_
                      try dsimp only
                      (first | with_reducible assumption | omega | ((with_reducible refine y_Vl ?_ ?_) <;> omega))
                    · skip
                      have e216 : (199 : Int32).toInt = 199 := rfl
                      have c214' := c214
                      rw [Int32.lt_iff_toInt_lt] at c214'
                      have e217 : (1 : Int32).toInt = 1 := rfl
                      refine y_some ?_
                      try dsimp only
                      (first | with_reducible assumption | omega | ((with_reducible refine y_Vl ?_ ?_) <;> omega))
set_option maxHeartbeats 4000000 in
theorem y_X6_pushConstant {v5_3 : Int32} {v5_4 : Int32} {v5_6 : Int32} {g5_1 : Nat → Int32} {p1 : Int32} {p2 : Int32} {v5_2 : Int32} (k0 : 0 ≤ v5_2.toInt) (k1 : v5_2.toInt ≤ v5_3.toInt) (k2 : v5_3.toInt ≤ v5_4.toInt) (k3 : v5_4.toInt ≤ 400) (k4 : y_AV 400 g5_1) (k5 : 0 ≤ p1.toInt) (kty : 18 ≤ p1.toInt → y_Ty p2) : y_Ok (f_X6_pushConstant v5_3 v5_4 v5_6 g5_1 p1 p2) (fun r => (v5_2.toInt ≤ r.1.toInt) ∧ (r.1.toInt ≤ v5_4.toInt) ∧ (y_AV 400 r.2.2)) := by
  unfold f_X6_pushConstant
  refine y_if (fun c1 => ?_) (fun c1 => ?_)
  · skip
    have e2 : (17 : Int32).toInt = 17 := rfl
    have c1' := c1
    rw [Int32.le_iff_toInt_le] at c1'
    refine y_if (fun c3 => ?_) (fun c3 => ?_)
    · skip
      have e4 : (15 : Int32).toInt = 15 := rfl
      have c3' := c3
      rw [Int32.le_iff_toInt_le] at c3'
      refine y_if (fun c5 => ?_) (fun c5 => ?_)
      · skip
        have e6 : (0 : Int32).toInt = 0 := rfl
        have c5' := c5
        rw [Int32.le_iff_toInt_le] at c5'
        refine y_some ?_
        try dsimp only
        refine ⟨?_, ?_, ?_⟩ <;> (first | with_reducible assumption | omega | ((with_reducible refine y_Vl ?_ ?_) <;> omega) | ((with_reducible refine y_V8 ?_) <;> (first | with_reducible assumption | (unfold y_Tr; omega))) | ((with_reducible refine y_Tr4 ?_ ?_) <;> (first | with_reducible assumption | omega)) | ((with_reducible refine (y_Tr4 ?_ ?_).ty) <;> (first | with_reducible assumption | omega)) | (unfold y_Ty; omega) | (unfold y_Tr; omega) | (exact kty (by omega)))
      · skip
        have e7 : (0 : Int32).toInt = 0 := rfl
        have c5' := c5
        rw [Int32.le_iff_toInt_le] at c5'
        refine y_gd (y_gdI (by omega) (by omega)) ?_
        try have e8 := @y_cl p1 (by omega)
        try have e9 := y_st1 (Int32.toNatClampNeg p1)
        refine y_bi (y_X5_push (v5_2 := v5_2) (by omega) (by omega) (by omega) (by omega) (by first | with_reducible assumption | omega | ((with_reducible refine y_Vl ?_ ?_) <;> omega) | ((with_reducible refine y_V8 ?_) <;> (first | with_reducible assumption | (unfold y_Tr; omega))) | ((with_reducible refine y_Tr4 ?_ ?_) <;> (first | with_reducible assumption | omega)) | ((with_reducible refine (y_Tr4 ?_ ?_).ty) <;> (first | with_reducible assumption | omega)) | (unfold y_Ty; omega) | (unfold y_Tr; omega) | (exact kty (by omega))) (by first | with_reducible assumption | omega | ((with_reducible refine y_Vl ?_ ?_) <;> omega) | ((with_reducible refine y_V8 ?_) <;> (first | with_reducible assumption | (unfold y_Tr; omega))) | ((with_reducible refine y_Tr4 ?_ ?_) <;> (first | with_reducible assumption | omega)) | ((with_reducible refine (y_Tr4 ?_ ?_).ty) <;> (first | with_reducible assumption | omega)) | (unfold y_Ty; omega) | (unfold y_Tr; omega) | (exact kty (by omega)))) (fun r_6 h_r_6 => ?_)
        obtain ⟨h0_r_6, h1_r_6, h2_r_6⟩ := h_r_6
        refine y_some ?_
        try dsimp only
        refine ⟨?_, ?_, ?_⟩ <;> (first | with_reducible assumption | omega | ((with_reducible refine y_Vl ?_ ?_) <;> omega) | ((with_reducible refine y_V8 ?_) <;> (first | with_reducible assumption | (unfold y_Tr; omega))) | ((with_reducible refine y_Tr4 ?_ ?_) <;> (first | with_reducible assumption | omega)) | ((with_reducible refine (y_Tr4 ?_ ?_).ty) <;> (first | with_reducible assumption | omega)) | (unfold y_Ty; omega) | (unfold y_Tr; omega) | (exact kty (by omega)))
    · skip
      have e10 : (15 : Int32).toInt = 15 := rfl
      have c3' := c3
      rw [Int32.le_iff_toInt_le] at c3'
      have e11 : (1 : Int32).toInt = 1 := rfl
      refine y_bi (y_X5_push (v5_2 := v5_2) (by omega) (by omega) (by omega) (by omega) (by first | with_reducible assumption | omega | ((with_reducible refine y_Vl ?_ ?_) <;> omega) | ((with_reducible refine y_V8 ?_) <;> (first | with_reducible assumption | (unfold y_Tr; omega))) | ((with_reducible refine y_Tr4 ?_ ?_) <;> (first | with_reducible assumption | omega)) | ((with_reducible refine (y_Tr4 ?_ ?_).ty) <;> (first | with_reducible assumption | omega)) | (unfold y_Ty; omega) | (unfold y_Tr; omega) | (exact kty (by omega))) (by first | with_reducible assumption | omega | ((with_reducible refine y_Vl ?_ ?_) <;> omega) | ((with_reducible refine y_V8 ?_) <;> (first | with_reducible assumption | (unfold y_Tr; omega))) | ((with_reducible refine y_Tr4 ?_ ?_) <;> (first | with_reducible assumption | omega)) | ((with_reducible refine (y_Tr4 ?_ ?_).ty) <;> (first | with_reducible assumption | omega)) | (unfold y_Ty; omega) | (unfold y_Tr; omega) | (exact kty (by omega)))) (fun r_7 h_r_7 => ?_)
      obtain ⟨h0_r_7, h1_r_7, h2_r_7⟩ := h_r_7
      refine y_some ?_
      try dsimp only
      refine ⟨?_, ?_, ?_⟩ <;> (first | with_reducible assumption | omega | ((with_reducible refine y_Vl ?_ ?_) <;> omega) | ((with_reducible refine y_V8 ?_) <;> (first | with_reducible assumption | (unfold y_Tr; omega))) | ((with_reducible refine y_Tr4 ?_ ?_) <;> (first | with_reducible assumption | omega)) | ((with_reducible refine (y_Tr4 ?_ ?_).ty) <;> (first | with_reducible assumption | omega)) | (unfold y_Ty; omega) | (unfold y_Tr; omega) | (exact kty (by omega)))
  · skip
    have e12 : (17 : Int32).toInt = 17 := rfl
    have c1' := c1
    rw [Int32.le_iff_toInt_le] at c1'
    refine y_bi (y_X5_pushType (v5_2 := v5_2) (by omega) (by omega) (by omega) (by omega) (by first | with_reducible assumption | omega | ((with_reducible refine y_Vl ?_ ?_) <;> omega) | ((with_reducible refine y_V8 ?_) <;> (first | with_reducible assumption | (unfold y_Tr; omega))) | ((with_reducible refine y_Tr4 ?_ ?_) <;> (first | with_reducible assumption | omega)) | ((with_reducible refine (y_Tr4 ?_ ?_).ty) <;> (first | with_reducible assumption | omega)) | (unfold y_Ty; omega) | (unfold y_Tr; omega) | (exact kty (by omega))) (by first | with_reducible assumption | omega | ((with_reducible refine y_Vl ?_ ?_) <;> omega) | ((with_reducible refine y_V8 ?_) <;> (first | with_reducible assumption | (unfold y_Tr; omega))) | ((with_reducible refine y_Tr4 ?_ ?_) <;> (first | with_reducible assumption | omega)) | ((with_reducible refine (y_Tr4 ?_ ?_).ty) <;> (first | with_reducible assumption | omega)) | (unfold y_Ty; omega) | (unfold y_Tr; omega) | (exact kty (by omega)))) (fun r_8 h_r_8 => ?_)
    obtain ⟨h0_r_8, h1_r_8, h2_r_8⟩ := h_r_8
    refine y_some ?_
    try dsimp only
    refine ⟨?_, ?_, ?_⟩ <;> (first | with_reducible assumption | omega | ((with_reducible refine y_Vl ?_ ?_) <;> omega) | ((with_reducible refine y_V8 ?_) <;> (first | with_reducible assumption | (unfold y_Tr; omega))) | ((with_reducible refine y_Tr4 ?_ ?_) <;> (first | with_reducible assumption | omega)) | ((with_reducible refine (y_Tr4 ?_ ?_).ty) <;> (first | with_reducible assumption | omega)) | (unfold y_Ty; omega) | (unfold y_Tr; omega) | (exact kty (by omega)))
set_option maxHeartbeats 4000000 in
theorem y_X6_load {v5_2 : Int32} {v5_3 : Int32} {v5_4 : Int32} {v5_6 : Int32} {g5_1 : Nat → Int32} {p1 : Int32} {p2 : Int32} (k0 : 0 ≤ v5_2.toInt) (k1 : v5_2.toInt ≤ v5_3.toInt) (k2 : v5_3.toInt ≤ v5_4.toInt) (k3 : v5_4.toInt ≤ 400) (k4 : y_AV 400 g5_1) (k5 : 0 ≤ p1.toInt) : y_Ok (f_X6_load v5_2 v5_3 v5_4 v5_6 g5_1 p1 p2) (fun r => (v5_2.toInt ≤ r.1.toInt) ∧ (r.1.toInt ≤ v5_4.toInt) ∧ (y_AV 400 r.2.2)) := by
  unfold f_X6_load
  refine y_bi (y_X5_localAt (by omega) (by omega) (by first | with_reducible assumption | omega | ((with_reducible refine y_Vl ?_ ?_) <;> omega))) (fun r_1 h_r_1 => ?_)
  obtain ⟨h0_r_1, h1_r_1⟩ := h_r_1
  refine y_if (fun c1 => ?_) (fun c1 => ?_)
  · skip
    have e2 : (4 : Int32).toInt = 4 := rfl
    have c1' := c1
    rw [Int32.le_iff_toInt_le] at c1'
    refine y_bi (y_X5_isAnyReference) (fun r_5 h_r_5 => ?_)
    have h0_r_5 : r_5.toInt = 0 ∨ r_5.toInt = 1 := h_r_5
    refine y_if (fun c3 => ?_) (fun c3 => ?_)
    · skip
      have e4 : (0 : Int32).toInt = 0 := rfl
      have c3' := c3
      rw [← Int32.toInt_inj] at c3'
      have e5 : (1 : Int32).toInt = 1 := rfl
      refine y_some ?_
      try dsimp only
      refine ⟨?_, ?_, ?_⟩ <;> (first | with_reducible assumption | omega | ((with_reducible refine y_Vl ?_ ?_) <;> omega))
    · skip
      have e6 : (0 : Int32).toInt = 0 := rfl
      have c3' := c3
      rw [← Int32.toInt_inj] at c3'
      refine y_bi (y_X5_push (v5_2 := v5_2) (by omega) (by omega) (by omega) (by omega) (by first | with_reducible assumption | omega | ((with_reducible refine y_Vl ?_ ?_) <;> omega)) (by first | with_reducible assumption | omega | ((with_reducible refine y_Vl ?_ ?_) <;> omega))) (fun r_7 h_r_7 => ?_)
      obtain ⟨h0_r_7, h1_r_7, h2_r_7⟩ := h_r_7
      refine y_some ?_
      try dsimp only
      refine ⟨?_, ?_, ?_⟩ <;> (first | with_reducible assumption | omega | ((with_reducible refine y_Vl ?_ ?_) <;> omega))
  · skip
    have e7 : (4 : Int32).toInt = 4 := rfl
    have c1' := c1
    rw [Int32.le_iff_toInt_le] at c1'
    refine y_gd (y_gdI (by omega) (by omega)) ?_
    refine y_if (fun c8 => ?_) (fun c8 => ?_)
    · skip
      try have e9 := @y_cl p1 (by omega)
      try have e10 := y_st3 (Int32.toNatClampNeg p1)
      have c8' := c8
      rw [← Int32.toInt_inj] at c8'
      refine y_bi (y_X5_push (v5_2 := v5_2) (by omega) (by omega) (by omega) (by omega) (by first | with_reducible assumption | omega | ((with_reducible refine y_Vl ?_ ?_) <;> omega)) (by first | with_reducible assumption | omega | ((with_reducible refine y_Vl ?_ ?_) <;> omega))) (fun r_13 h_r_13 => ?_)
      obtain ⟨h0_r_13, h1_r_13, h2_r_13⟩ := h_r_13
      refine y_some ?_
      try dsimp only
      refine ⟨?_, ?_, ?_⟩ <;> (first | with_reducible assumption | omega | ((with_reducible refine y_Vl ?_ ?_) <;> omega))
    · skip
      try have e11 := @y_cl p1 (by omega)
      try have e12 := y_st3 (Int32.toNatClampNeg p1)
      have c8' := c8
      rw [← Int32.toInt_inj] at c8'
      have e13 : (1 : Int32).toInt = 1 := rfl
      refine y_some ?_
      try dsimp only
      refine ⟨?_, ?_, ?_⟩ <;> (first | with_reducible assumption | omega | ((with_reducible refine y_Vl ?_ ?_) <;> omega))
set_option maxHeartbeats 4000000 in
theorem y_X6_store {v5_2 : Int32} {v5_3 : Int32} {v5_6 : Int32} {v5_7 : Int32} {g5_1 : Nat → Int32} {p1 : Int32} {p2 : Int32} (k0 : 0 ≤ v5_2.toInt) (k1 : v5_2.toInt ≤ v5_3.toInt) (k2 : v5_3.toInt ≤ 400) (k3 : y_AV 400 g5_1) (k4 : 0 ≤ p1.toInt) (k5 : p2.toInt ≤ 100000) : y_Ok (f_X6_store v5_2 v5_3 v5_6 v5_7 g5_1 p1 p2) (fun r => (v5_2.toInt ≤ r.1.toInt) ∧ (r.1.toInt ≤ v5_3.toInt) ∧ (y_AV 400 r.2.2.2)) := by
  unfold f_X6_store
  refine y_if (fun c1 => ?_) (fun c1 => ?_)
  · skip
    have e2 : (4 : Int32).toInt = 4 := rfl
    have c1' := c1
    rw [Int32.le_iff_toInt_le] at c1'
    refine y_bi (y_X5_pull (by omega) (by omega) (by omega) (by first | with_reducible assumption | omega | ((with_reducible refine y_Vl ?_ ?_) <;> omega))) (fun r_4 h_r_4 => ?_)
    obtain ⟨h0_r_4, h1_r_4, h2_r_4, h3_r_4⟩ := h_r_4
    refine y_if (fun c3 => ?_) (fun c3 => ?_)
    · skip
      have e4 := y_and4 r_4.1
      have e5 : (10 : Int32).toInt = 10 := rfl
      have c3' := c3
      rw [← Int32.toInt_inj] at c3'
      refine y_bi (y_X5_setLocal (by omega) (by omega) (by first | with_reducible assumption | omega | ((with_reducible refine y_Vl ?_ ?_) <;> omega)) (by first | with_reducible assumption | omega | ((with_reducible refine y_Vl ?_ ?_) <;> omega)) (by omega)) (fun r_6 h_r_6 => ?_)
      have h0_r_6 : y_AV 400 r_6.2.2 := h_r_6
      refine y_some ?_
      try dsimp only
      refine ⟨?_, ?_, ?_⟩ <;> (first | with_reducible assumption | omega | ((with_reducible refine y_Vl ?_ ?_) <;> omega))
    · skip
      have e6 := y_and4 r_4.1
      have e7 : (10 : Int32).toInt = 10 := rfl
      have c3' := c3
      rw [← Int32.toInt_inj] at c3'
      refine y_bi (y_X5_isAnyReference) (fun r_7 h_r_7 => ?_)
      have h0_r_7 : r_7.toInt = 0 ∨ r_7.toInt = 1 := h_r_7
      refine y_if (fun c8 => ?_) (fun c8 => ?_)
      · skip
        have e9 : (0 : Int32).toInt = 0 := rfl
        have c8' := c8
        rw [← Int32.toInt_inj] at c8'
        have e10 : (1 : Int32).toInt = 1 := rfl
        refine y_bi (y_X5_setLocal (by omega) (by omega) (by first | with_reducible assumption | omega | ((with_reducible refine y_Vl ?_ ?_) <;> omega)) (by first | with_reducible assumption | omega | ((with_reducible refine y_Vl ?_ ?_) <;> omega)) (by omega)) (fun r_10 h_r_10 => ?_)
        have h0_r_10 : y_AV 400 r_10.2.2 := h_r_10
        refine y_some ?_
        try dsimp only
        refine ⟨?_, ?_, ?_⟩ <;> (first | with_reducible assumption | omega | ((with_reducible refine y_Vl ?_ ?_) <;> omega))
      · skip
        have e11 : (0 : Int32).toInt = 0 := rfl
        have c8' := c8
        rw [← Int32.toInt_inj] at c8'
        refine y_bi (y_X5_setLocal (by omega) (by omega) (by first | with_reducible assumption | omega | ((with_reducible refine y_Vl ?_ ?_) <;> omega)) (by first | with_reducible assumption | omega | ((with_reducible refine y_Vl ?_ ?_) <;> omega)) (by omega)) (fun r_9 h_r_9 => ?_)
        have h0_r_9 : y_AV 400 r_9.2.2 := h_r_9
        refine y_some ?_
        try dsimp only
        refine ⟨?_, ?_, ?_⟩ <;> (first | with_reducible assumption | omega | ((with_reducible refine y_Vl ?_ ?_) <;> omega))
  · skip
    have e12 : (4 : Int32).toInt = 4 := rfl
    have c1' := c1
    rw [Int32.le_iff_toInt_le] at c1'
    refine y_gd (y_gdI (by omega) (by omega)) ?_
    try have e13 := @y_cl p1 (by omega)
    try have e14 := y_st3 (Int32.toNatClampNeg p1)
    refine y_bi (y_X5_pullKind (by omega) (by omega) (by omega)) (fun r_13 h_r_13 => ?_)
    obtain ⟨h0_r_13, h1_r_13⟩ := h_r_13
    refine y_gd (y_gdI (by omega) (by omega)) ?_
    refine y_bi (y_X5_setLocal (by omega) (by omega) (by first | with_reducible assumption | omega | ((with_reducible refine y_Vl ?_ ?_) <;> omega)) (by first | with_reducible assumption | omega | ((with_reducible refine y_Vl ?_ ?_) <;> omega)) (by omega)) (fun r_16 h_r_16 => ?_)
    have h0_r_16 : y_AV 400 r_16.2.2 := h_r_16
    refine y_some ?_
    try dsimp only
    refine ⟨?_, ?_, ?_⟩ <;> (first | with_reducible assumption | omega | ((with_reducible refine y_Vl ?_ ?_) <;> omega))
set_option maxHeartbeats 4000000 in
theorem y_X6_increase {v5_2 : Int32} {v5_6 : Int32} {g5_1 : Nat → Int32} {p1 : Int32} (k0 : 0 ≤ v5_2.toInt) (k1 : v5_2.toInt ≤ 400) (k2 : y_AV 400 g5_1) : y_Ok (f_X6_increase v5_2 v5_6 g5_1 p1) (fun r => (True)) := by
  unfold f_X6_increase
  refine y_bi (y_X5_localAt (by omega) (by omega) (by first | with_reducible assumption | omega | ((with_reducible refine y_Vl ?_ ?_) <;> omega))) (fun r_1 h_r_1 => ?_)
  obtain ⟨h0_r_1, h1_r_1⟩ := h_r_1
  refine y_if (fun c1 => ?_) (fun c1 => ?_)
  · skip
    have e2 : (1 : Int32).toInt = 1 := rfl
    have c1' := c1
    rw [← Int32.toInt_inj] at c1'
    exact y_some trivial
  · skip
    have e3 : (1 : Int32).toInt = 1 := rfl
    have c1' := c1
    rw [← Int32.toInt_inj] at c1'
    exact y_some trivial
set_option maxHeartbeats 4000000 in
theorem y_X6_lookAtArray {v5_6 : Int32} {p1 : Int32} {p2 : Int32}  : y_Ok (f_X6_lookAtArray v5_6 p1 p2) (fun r => (True)) := by
  unfold f_X6_lookAtArray
  refine y_if (fun c1 => ?_) (fun c1 => ?_)
  · skip
    have e2 : (0 : Int32).toInt = 0 := rfl
    have c1' := c1
    rw [Int32.lt_iff_toInt_lt] at c1'
    refine y_if (fun c3 => ?_) (fun c3 => ?_)
    · skip
      have c3' := c3
      rw [← Int32.toInt_inj] at c3'
      exact y_some trivial
    · skip
      have c3' := c3
      rw [← Int32.toInt_inj] at c3'
      have e4 : (1 : Int32).toInt = 1 := rfl
      exact y_some trivial
  · skip
    have e5 : (0 : Int32).toInt = 0 := rfl
    have c1' := c1
    rw [Int32.lt_iff_toInt_lt] at c1'
    refine y_if (fun c6 => ?_) (fun c6 => ?_)
    · skip
      have e7 : (65536 : Int32).toInt = 65536 := rfl
      try have e8 := @y_add (65536 : Int32) p2 (by omega) (by omega)
      have c6' := c6
      rw [← Int32.toInt_inj] at c6'
      refine y_if (fun c9 => ?_) (fun c9 => ?_)
      · skip
        have c9' := c9
        rw [← Int32.toInt_inj] at c9'
        exact y_some trivial
      · skip
        have c9' := c9
        rw [← Int32.toInt_inj] at c9'
        have e10 : (1 : Int32).toInt = 1 := rfl
        exact y_some trivial
    · skip
      have e11 : (65536 : Int32).toInt = 65536 := rfl
      try have e12 := @y_add (65536 : Int32) p2 (by omega) (by omega)
      have c6' := c6
      rw [← Int32.toInt_inj] at c6'
      refine y_if (fun c13 => ?_) (fun c13 => ?_)
      · skip
        have e14 : (65532 : Int32).toInt = 65532 := rfl
        have c13' := c13
        rw [← Int32.toInt_inj] at c13'
        refine y_if (fun c15 => ?_) (fun c15 => ?_)
        · skip
          have e16 : (131064 : Int32).toInt = 131064 := rfl
          have c15' := c15
          rw [← Int32.toInt_inj] at c15'
          refine y_if (fun c17 => ?_) (fun c17 => ?_)
          · skip
            have c17' := c17
            rw [← Int32.toInt_inj] at c17'
            exact y_some trivial
          · skip
            have c17' := c17
            rw [← Int32.toInt_inj] at c17'
            have e18 : (1 : Int32).toInt = 1 := rfl
            exact y_some trivial
        · skip
          have e19 : (131064 : Int32).toInt = 131064 := rfl
          have c15' := c15
          rw [← Int32.toInt_inj] at c15'
          refine y_if (fun c20 => ?_) (fun c20 => ?_)
          · skip
            have c20' := c20
            rw [← Int32.toInt_inj] at c20'
            have e21 : (1 : Int32).toInt = 1 := rfl
            exact y_some trivial
          · skip
            have c20' := c20
            rw [← Int32.toInt_inj] at c20'
            have e22 : (1 : Int32).toInt = 1 := rfl
            exact y_some trivial
      · skip
        have e23 : (65532 : Int32).toInt = 65532 := rfl
        have c13' := c13
        rw [← Int32.toInt_inj] at c13'
        refine y_if (fun c24 => ?_) (fun c24 => ?_)
        · skip
          have c24' := c24
          rw [← Int32.toInt_inj] at c24'
          have e25 : (1 : Int32).toInt = 1 := rfl
          exact y_some trivial
        · skip
          have c24' := c24
          rw [← Int32.toInt_inj] at c24'
          have e26 : (1 : Int32).toInt = 1 := rfl
          exact y_some trivial
set_option maxHeartbeats 4000000 in
theorem y_X6_loadElement {v5_2 : Int32} {v5_3 : Int32} {v5_4 : Int32} {v5_6 : Int32} {g5_1 : Nat → Int32} {p1 : Int32} (k0 : 0 ≤ v5_2.toInt) (k1 : v5_2.toInt ≤ v5_3.toInt) (k2 : v5_3.toInt ≤ v5_4.toInt) (k3 : v5_4.toInt ≤ 400) (k4 : y_AV 400 g5_1) (k5 : 0 ≤ p1.toInt) (k6 : p1.toInt ≤ 7) : y_Ok (f_X6_loadElement v5_2 v5_3 v5_4 v5_6 g5_1 p1) (fun r => (v5_2.toInt ≤ r.1.toInt) ∧ (r.1.toInt ≤ v5_4.toInt) ∧ (y_AV 400 r.2.2)) := by
  unfold f_X6_loadElement
  have e1 : (1 : Int32).toInt = 1 := rfl
  refine y_bi (y_X5_pullKind (by omega) (by omega) (by omega)) (fun r_1 h_r_1 => ?_)
  obtain ⟨h0_r_1, h1_r_1⟩ := h_r_1
  refine y_bi (y_X5_pullArray (by omega) (by omega) (by omega) (by first | with_reducible assumption | omega | ((with_reducible refine y_Vl ?_ ?_) <;> omega) | ((with_reducible refine y_V8 ?_) <;> (first | with_reducible assumption | (unfold y_Tr; omega))) | ((with_reducible refine y_Tr4 ?_ ?_) <;> (first | with_reducible assumption | omega)) | ((with_reducible refine (y_Tr4 ?_ ?_).ty) <;> (first | with_reducible assumption | omega)) | (unfold y_Ty; omega) | (unfold y_Tr; omega) | (with_reducible exact y_st4t _) | (exact (kel.resolve_left (by omega)).2.ty) | (have z := (h0_r_2.resolve_left (by omega)); have z2 := z.2; unfold y_Tr at z2; unfold y_Ty; omega))) (fun r_2 h_r_2 => ?_)
  obtain ⟨h0_r_2, h1_r_2, h2_r_2⟩ := h_r_2
  have hb2 := y_arrb h0_r_2
  refine y_gd (y_gdI (by omega) (by omega)) ?_
  refine y_if (fun c2 => ?_) (fun c2 => ?_)
  · skip
    try have e3 := @y_cl p1 (by omega)
    try have e4 := y_st4 (Int32.toNatClampNeg p1)
    have e5 : (0 : Int32).toInt = 0 := rfl
    have c2' := c2
    rw [← Int32.toInt_inj] at c2'
    refine y_if (fun c6 => ?_) (fun c6 => ?_)
    · skip
      have c6' := c6
      rw [Int32.le_iff_toInt_le] at c6'
      try have e7 := @y_subL r_2.1 (65536 : Int32) (65536) rfl (by omega) (by omega)
      refine y_bi (y_X7_isPrimitive) (fun r_7 h_r_7 => ?_)
      have h0_r_7 : (r_7.toInt = 0 ∧ ¬ (65528 ≤ (r_2.1 - (65536 : Int32)).toInt ∧ (r_2.1 - (65536 : Int32)).toInt < 65536)) ∨ (r_7.toInt = 1 ∧ (65528 ≤ (r_2.1 - (65536 : Int32)).toInt ∧ (r_2.1 - (65536 : Int32)).toInt < 65536)) := h_r_7
      refine y_if (fun c8 => ?_) (fun c8 => ?_)
      · skip
        have c8' := c8
        rw [← Int32.toInt_inj] at c8'
        have e9 := y_or0 h0_r_7 c8'
        clear h0_r_7
        refine y_bi (y_X5_pushType (v5_2 := v5_2) (by omega) (by omega) (by omega) (by omega) (by first | with_reducible assumption | omega | ((with_reducible refine y_Vl ?_ ?_) <;> omega) | ((with_reducible refine y_V8 ?_) <;> (first | with_reducible assumption | (unfold y_Tr; omega))) | ((with_reducible refine y_Tr4 ?_ ?_) <;> (first | with_reducible assumption | omega)) | ((with_reducible refine (y_Tr4 ?_ ?_).ty) <;> (first | with_reducible assumption | omega)) | (unfold y_Ty; omega) | (unfold y_Tr; omega) | (with_reducible exact y_st4t _) | (exact (kel.resolve_left (by omega)).2.ty) | (have z := (h0_r_2.resolve_left (by omega)); have z2 := z.2; unfold y_Tr at z2; unfold y_Ty; omega)) (by first | with_reducible assumption | omega | ((with_reducible refine y_Vl ?_ ?_) <;> omega) | ((with_reducible refine y_V8 ?_) <;> (first | with_reducible assumption | (unfold y_Tr; omega))) | ((with_reducible refine y_Tr4 ?_ ?_) <;> (first | with_reducible assumption | omega)) | ((with_reducible refine (y_Tr4 ?_ ?_).ty) <;> (first | with_reducible assumption | omega)) | (unfold y_Ty; omega) | (unfold y_Tr; omega) | (with_reducible exact y_st4t _) | (exact (kel.resolve_left (by omega)).2.ty) | (have z := (h0_r_2.resolve_left (by omega)); have z2 := z.2; unfold y_Tr at z2; unfold y_Ty; omega))) (fun r_9 h_r_9 => ?_)
        obtain ⟨h0_r_9, h1_r_9, h2_r_9⟩ := h_r_9
        refine y_some ?_
        try dsimp only
        refine ⟨?_, ?_, ?_⟩ <;> (first | with_reducible assumption | omega | ((with_reducible refine y_Vl ?_ ?_) <;> omega) | ((with_reducible refine y_V8 ?_) <;> (first | with_reducible assumption | (unfold y_Tr; omega))) | ((with_reducible refine y_Tr4 ?_ ?_) <;> (first | with_reducible assumption | omega)) | ((with_reducible refine (y_Tr4 ?_ ?_).ty) <;> (first | with_reducible assumption | omega)) | (unfold y_Ty; omega) | (unfold y_Tr; omega) | (with_reducible exact y_st4t _) | (exact (kel.resolve_left (by omega)).2.ty) | (have z := (h0_r_2.resolve_left (by omega)); have z2 := z.2; unfold y_Tr at z2; unfold y_Ty; omega))
      · skip
        have c8' := c8
        rw [← Int32.toInt_inj] at c8'
        have e10 := y_or1 h0_r_7 c8'
        clear h0_r_7
        refine y_some ?_
        try dsimp only
        refine ⟨?_, ?_, ?_⟩ <;> (first | with_reducible assumption | omega | ((with_reducible refine y_Vl ?_ ?_) <;> omega) | ((with_reducible refine y_V8 ?_) <;> (first | with_reducible assumption | (unfold y_Tr; omega))) | ((with_reducible refine y_Tr4 ?_ ?_) <;> (first | with_reducible assumption | omega)) | ((with_reducible refine (y_Tr4 ?_ ?_).ty) <;> (first | with_reducible assumption | omega)) | (unfold y_Ty; omega) | (unfold y_Tr; omega) | (with_reducible exact y_st4t _) | (exact (kel.resolve_left (by omega)).2.ty) | (have z := (h0_r_2.resolve_left (by omega)); have z2 := z.2; unfold y_Tr at z2; unfold y_Ty; omega))
    · skip
      have c6' := c6
      rw [Int32.le_iff_toInt_le] at c6'
      have e11 : (5 : Int32).toInt = 5 := rfl
      refine y_bi (y_X5_push (v5_2 := v5_2) (by omega) (by omega) (by omega) (by omega) (by first | with_reducible assumption | omega | ((with_reducible refine y_Vl ?_ ?_) <;> omega) | ((with_reducible refine y_V8 ?_) <;> (first | with_reducible assumption | (unfold y_Tr; omega))) | ((with_reducible refine y_Tr4 ?_ ?_) <;> (first | with_reducible assumption | omega)) | ((with_reducible refine (y_Tr4 ?_ ?_).ty) <;> (first | with_reducible assumption | omega)) | (unfold y_Ty; omega) | (unfold y_Tr; omega) | (with_reducible exact y_st4t _) | (exact (kel.resolve_left (by omega)).2.ty) | (have z := (h0_r_2.resolve_left (by omega)); have z2 := z.2; unfold y_Tr at z2; unfold y_Ty; omega)) (by first | with_reducible assumption | omega | ((with_reducible refine y_Vl ?_ ?_) <;> omega) | ((with_reducible refine y_V8 ?_) <;> (first | with_reducible assumption | (unfold y_Tr; omega))) | ((with_reducible refine y_Tr4 ?_ ?_) <;> (first | with_reducible assumption | omega)) | ((with_reducible refine (y_Tr4 ?_ ?_).ty) <;> (first | with_reducible assumption | omega)) | (unfold y_Ty; omega) | (unfold y_Tr; omega) | (with_reducible exact y_st4t _) | (exact (kel.resolve_left (by omega)).2.ty) | (have z := (h0_r_2.resolve_left (by omega)); have z2 := z.2; unfold y_Tr at z2; unfold y_Ty; omega))) (fun r_10 h_r_10 => ?_)
      obtain ⟨h0_r_10, h1_r_10, h2_r_10⟩ := h_r_10
      refine y_some ?_
      try dsimp only
      refine ⟨?_, ?_, ?_⟩ <;> (first | with_reducible assumption | omega | ((with_reducible refine y_Vl ?_ ?_) <;> omega) | ((with_reducible refine y_V8 ?_) <;> (first | with_reducible assumption | (unfold y_Tr; omega))) | ((with_reducible refine y_Tr4 ?_ ?_) <;> (first | with_reducible assumption | omega)) | ((with_reducible refine (y_Tr4 ?_ ?_).ty) <;> (first | with_reducible assumption | omega)) | (unfold y_Ty; omega) | (unfold y_Tr; omega) | (with_reducible exact y_st4t _) | (exact (kel.resolve_left (by omega)).2.ty) | (have z := (h0_r_2.resolve_left (by omega)); have z2 := z.2; unfold y_Tr at z2; unfold y_Ty; omega))
  · skip
    try have e12 := @y_cl p1 (by omega)
    try have e13 := y_st4 (Int32.toNatClampNeg p1)
    have e14 : (0 : Int32).toInt = 0 := rfl
    have c2' := c2
    rw [← Int32.toInt_inj] at c2'
    refine y_gd (y_gdI (by omega) (by omega)) ?_
    refine y_bi (y_X6_lookAtArray) (fun r_13 h_r_13 => ?_)
    have h0_r_13 : True := h_r_13
    refine y_gd (y_gdI (by omega) (by omega)) ?_
    refine y_bi (y_X5_pushType (v5_2 := v5_2) (by omega) (by omega) (by omega) (by omega) (by first | with_reducible assumption | omega | ((with_reducible refine y_Vl ?_ ?_) <;> omega) | ((with_reducible refine y_V8 ?_) <;> (first | with_reducible assumption | (unfold y_Tr; omega))) | ((with_reducible refine y_Tr4 ?_ ?_) <;> (first | with_reducible assumption | omega)) | ((with_reducible refine (y_Tr4 ?_ ?_).ty) <;> (first | with_reducible assumption | omega)) | (unfold y_Ty; omega) | (unfold y_Tr; omega) | (with_reducible exact y_st4t _) | (exact (kel.resolve_left (by omega)).2.ty) | (have z := (h0_r_2.resolve_left (by omega)); have z2 := z.2; unfold y_Tr at z2; unfold y_Ty; omega)) (by first | with_reducible assumption | omega | ((with_reducible refine y_Vl ?_ ?_) <;> omega) | ((with_reducible refine y_V8 ?_) <;> (first | with_reducible assumption | (unfold y_Tr; omega))) | ((with_reducible refine y_Tr4 ?_ ?_) <;> (first | with_reducible assumption | omega)) | ((with_reducible refine (y_Tr4 ?_ ?_).ty) <;> (first | with_reducible assumption | omega)) | (unfold y_Ty; omega) | (unfold y_Tr; omega) | (with_reducible exact y_st4t _) | (exact (kel.resolve_left (by omega)).2.ty) | (have z := (h0_r_2.resolve_left (by omega)); have z2 := z.2; unfold y_Tr at z2; unfold y_Ty; omega))) (fun r_16 h_r_16 => ?_)
    obtain ⟨h0_r_16, h1_r_16, h2_r_16⟩ := h_r_16
    refine y_some ?_
    try dsimp only
    refine ⟨?_, ?_, ?_⟩ <;> (first | with_reducible assumption | omega | ((with_reducible refine y_Vl ?_ ?_) <;> omega) | ((with_reducible refine y_V8 ?_) <;> (first | with_reducible assumption | (unfold y_Tr; omega))) | ((with_reducible refine y_Tr4 ?_ ?_) <;> (first | with_reducible assumption | omega)) | ((with_reducible refine (y_Tr4 ?_ ?_).ty) <;> (first | with_reducible assumption | omega)) | (unfold y_Ty; omega) | (unfold y_Tr; omega) | (with_reducible exact y_st4t _) | (exact (kel.resolve_left (by omega)).2.ty) | (have z := (h0_r_2.resolve_left (by omega)); have z2 := z.2; unfold y_Tr at z2; unfold y_Ty; omega))
set_option maxHeartbeats 4000000 in
theorem y_X6_storeElement {v7_2 : Int32} {g7_0 : Nat → Int32} {g7_1 : Nat → Int32} {v5_2 : Int32} {v5_3 : Int32} {v5_6 : Int32} {v5_8 : Int32} {v5_9 : Int32} {g5_1 : Nat → Int32} {p1 : Int32} (k0 : 4 ≤ v7_2.toInt) (k1 : v7_2.toInt ≤ 200) (k2 : y_Rg 200 0 199 g7_0) (k3 : 0 ≤ v5_2.toInt) (k4 : v5_2.toInt ≤ v5_3.toInt) (k5 : v5_3.toInt ≤ 400) (k6 : y_AV 400 g5_1) (k7 : 0 ≤ v5_8.toInt) (k8 : v5_8.toInt ≤ 1) (k9 : 0 ≤ p1.toInt) (k10 : p1.toInt ≤ 7) : y_Ok (f_X6_storeElement v7_2 g7_0 g7_1 v5_2 v5_3 v5_6 v5_8 v5_9 g5_1 p1) (fun r => (v5_2.toInt ≤ r.1.toInt) ∧ (r.1.toInt ≤ v5_3.toInt) ∧ (0 ≤ r.2.2.toInt) ∧ (r.2.2.toInt ≤ 1)) := by
  unfold f_X6_storeElement
  refine y_gd (y_gdI (by omega) (by omega)) ?_
  refine y_if (fun c1 => ?_) (fun c1 => ?_)
  · skip
    try have e2 := @y_cl p1 (by omega)
    try have e3 := y_st4 (Int32.toNatClampNeg p1)
    have e4 : (0 : Int32).toInt = 0 := rfl
    have c1' := c1
    rw [← Int32.toInt_inj] at c1'
    refine y_bi (y_X5_pullType (by omega) (by omega) (by first | with_reducible assumption | omega | ((with_reducible refine y_Vl ?_ ?_) <;> omega) | ((with_reducible refine y_V8 ?_) <;> (first | with_reducible assumption | (unfold y_Tr; omega))) | ((with_reducible refine y_Tr4 ?_ ?_) <;> (first | with_reducible assumption | omega)) | ((with_reducible refine (y_Tr4 ?_ ?_).ty) <;> (first | with_reducible assumption | omega)) | (unfold y_Ty; omega) | (unfold y_Tr; omega) | (with_reducible exact y_st4t _)) (by omega) (by omega) (by omega) (by first | with_reducible assumption | omega | ((with_reducible refine y_Vl ?_ ?_) <;> omega) | ((with_reducible refine y_V8 ?_) <;> (first | with_reducible assumption | (unfold y_Tr; omega))) | ((with_reducible refine y_Tr4 ?_ ?_) <;> (first | with_reducible assumption | omega)) | ((with_reducible refine (y_Tr4 ?_ ?_).ty) <;> (first | with_reducible assumption | omega)) | (unfold y_Ty; omega) | (unfold y_Tr; omega) | (with_reducible exact y_st4t _)) (by omega) (by omega) (by first | with_reducible assumption | omega | ((with_reducible refine y_Vl ?_ ?_) <;> omega) | ((with_reducible refine y_V8 ?_) <;> (first | with_reducible assumption | (unfold y_Tr; omega))) | ((with_reducible refine y_Tr4 ?_ ?_) <;> (first | with_reducible assumption | omega)) | ((with_reducible refine (y_Tr4 ?_ ?_).ty) <;> (first | with_reducible assumption | omega)) | (unfold y_Ty; omega) | (unfold y_Tr; omega) | (with_reducible exact y_st4t _))) (fun r_12 h_r_12 => ?_)
    obtain ⟨h0_r_12, h1_r_12, h2_r_12, h3_r_12⟩ := h_r_12
    have e5 : (1 : Int32).toInt = 1 := rfl
    refine y_bi (y_X5_pullKind (by omega) (by omega) (by omega)) (fun r_13 h_r_13 => ?_)
    obtain ⟨h0_r_13, h1_r_13⟩ := h_r_13
    have e6 : (65536 : Int32).toInt = 65536 := rfl
    refine y_bi (y_X5_pullType (by omega) (by omega) (by first | with_reducible assumption | omega | ((with_reducible refine y_Vl ?_ ?_) <;> omega) | ((with_reducible refine y_V8 ?_) <;> (first | with_reducible assumption | (unfold y_Tr; omega))) | ((with_reducible refine y_Tr4 ?_ ?_) <;> (first | with_reducible assumption | omega)) | ((with_reducible refine (y_Tr4 ?_ ?_).ty) <;> (first | with_reducible assumption | omega)) | (unfold y_Ty; omega) | (unfold y_Tr; omega) | (with_reducible exact y_st4t _)) (by omega) (by omega) (by omega) (by first | with_reducible assumption | omega | ((with_reducible refine y_Vl ?_ ?_) <;> omega) | ((with_reducible refine y_V8 ?_) <;> (first | with_reducible assumption | (unfold y_Tr; omega))) | ((with_reducible refine y_Tr4 ?_ ?_) <;> (first | with_reducible assumption | omega)) | ((with_reducible refine (y_Tr4 ?_ ?_).ty) <;> (first | with_reducible assumption | omega)) | (unfold y_Ty; omega) | (unfold y_Tr; omega) | (with_reducible exact y_st4t _)) (by omega) (by omega) (by first | with_reducible assumption | omega | ((with_reducible refine y_Vl ?_ ?_) <;> omega) | ((with_reducible refine y_V8 ?_) <;> (first | with_reducible assumption | (unfold y_Tr; omega))) | ((with_reducible refine y_Tr4 ?_ ?_) <;> (first | with_reducible assumption | omega)) | ((with_reducible refine (y_Tr4 ?_ ?_).ty) <;> (first | with_reducible assumption | omega)) | (unfold y_Ty; omega) | (unfold y_Tr; omega) | (with_reducible exact y_st4t _))) (fun r_14 h_r_14 => ?_)
    obtain ⟨h0_r_14, h1_r_14, h2_r_14, h3_r_14⟩ := h_r_14
    refine y_some ?_
    try dsimp only
    refine ⟨?_, ?_, ?_, ?_⟩ <;> (first | with_reducible assumption | omega | ((with_reducible refine y_Vl ?_ ?_) <;> omega) | ((with_reducible refine y_V8 ?_) <;> (first | with_reducible assumption | (unfold y_Tr; omega))) | ((with_reducible refine y_Tr4 ?_ ?_) <;> (first | with_reducible assumption | omega)) | ((with_reducible refine (y_Tr4 ?_ ?_).ty) <;> (first | with_reducible assumption | omega)) | (unfold y_Ty; omega) | (unfold y_Tr; omega) | (with_reducible exact y_st4t _))
  · skip
    try have e7 := @y_cl p1 (by omega)
    try have e8 := y_st4 (Int32.toNatClampNeg p1)
    have e9 : (0 : Int32).toInt = 0 := rfl
    have c1' := c1
    rw [← Int32.toInt_inj] at c1'
    refine y_gd (y_gdI (by omega) (by omega)) ?_
    refine y_bi (y_X5_pullType (by omega) (by omega) (by first | with_reducible assumption | omega | ((with_reducible refine y_Vl ?_ ?_) <;> omega) | ((with_reducible refine y_V8 ?_) <;> (first | with_reducible assumption | (unfold y_Tr; omega))) | ((with_reducible refine y_Tr4 ?_ ?_) <;> (first | with_reducible assumption | omega)) | ((with_reducible refine (y_Tr4 ?_ ?_).ty) <;> (first | with_reducible assumption | omega)) | (unfold y_Ty; omega) | (unfold y_Tr; omega) | (with_reducible exact y_st4t _)) (by omega) (by omega) (by omega) (by first | with_reducible assumption | omega | ((with_reducible refine y_Vl ?_ ?_) <;> omega) | ((with_reducible refine y_V8 ?_) <;> (first | with_reducible assumption | (unfold y_Tr; omega))) | ((with_reducible refine y_Tr4 ?_ ?_) <;> (first | with_reducible assumption | omega)) | ((with_reducible refine (y_Tr4 ?_ ?_).ty) <;> (first | with_reducible assumption | omega)) | (unfold y_Ty; omega) | (unfold y_Tr; omega) | (with_reducible exact y_st4t _)) (by omega) (by omega) (by first | with_reducible assumption | omega | ((with_reducible refine y_Vl ?_ ?_) <;> omega) | ((with_reducible refine y_V8 ?_) <;> (first | with_reducible assumption | (unfold y_Tr; omega))) | ((with_reducible refine y_Tr4 ?_ ?_) <;> (first | with_reducible assumption | omega)) | ((with_reducible refine (y_Tr4 ?_ ?_).ty) <;> (first | with_reducible assumption | omega)) | (unfold y_Ty; omega) | (unfold y_Tr; omega) | (with_reducible exact y_st4t _))) (fun r_6 h_r_6 => ?_)
    obtain ⟨h0_r_6, h1_r_6, h2_r_6, h3_r_6⟩ := h_r_6
    have e10 : (1 : Int32).toInt = 1 := rfl
    refine y_bi (y_X5_pullKind (by omega) (by omega) (by omega)) (fun r_7 h_r_7 => ?_)
    obtain ⟨h0_r_7, h1_r_7⟩ := h_r_7
    refine y_bi (y_X5_pullArray (by omega) (by omega) (by omega) (by first | with_reducible assumption | omega | ((with_reducible refine y_Vl ?_ ?_) <;> omega) | ((with_reducible refine y_V8 ?_) <;> (first | with_reducible assumption | (unfold y_Tr; omega))) | ((with_reducible refine y_Tr4 ?_ ?_) <;> (first | with_reducible assumption | omega)) | ((with_reducible refine (y_Tr4 ?_ ?_).ty) <;> (first | with_reducible assumption | omega)) | (unfold y_Ty; omega) | (unfold y_Tr; omega) | (with_reducible exact y_st4t _))) (fun r_8 h_r_8 => ?_)
    obtain ⟨h0_r_8, h1_r_8, h2_r_8⟩ := h_r_8
    refine y_gd (y_gdI (by omega) (by omega)) ?_
    refine y_bi (y_X6_lookAtArray) (fun r_11 h_r_11 => ?_)
    have h0_r_11 : True := h_r_11
    refine y_some ?_
    try dsimp only
    refine ⟨?_, ?_, ?_, ?_⟩ <;> (first | with_reducible assumption | omega | ((with_reducible refine y_Vl ?_ ?_) <;> omega) | ((with_reducible refine y_V8 ?_) <;> (first | with_reducible assumption | (unfold y_Tr; omega))) | ((with_reducible refine y_Tr4 ?_ ?_) <;> (first | with_reducible assumption | omega)) | ((with_reducible refine (y_Tr4 ?_ ?_).ty) <;> (first | with_reducible assumption | omega)) | (unfold y_Ty; omega) | (unfold y_Tr; omega) | (with_reducible exact y_st4t _))
set_option maxHeartbeats 4000000 in
theorem y_X6_shuffle {v5_2 : Int32} {v5_3 : Int32} {v5_4 : Int32} {v5_6 : Int32} {g5_1 : Nat → Int32} {p1 : Int32} (k0 : 0 ≤ v5_2.toInt) (k1 : v5_2.toInt ≤ v5_3.toInt) (k2 : v5_3.toInt ≤ v5_4.toInt) (k3 : v5_4.toInt ≤ 400) (k4 : y_AV 400 g5_1) (k5 : 87 ≤ p1.toInt) (k6 : p1.toInt ≤ 95) : y_Ok (f_X6_shuffle v5_2 v5_3 v5_4 v5_6 g5_1 p1) (fun r => (v5_2.toInt ≤ r.1.toInt) ∧ (r.1.toInt ≤ v5_4.toInt) ∧ (y_AV 400 r.2.2)) := by
  unfold f_X6_shuffle
  refine y_if (fun c1 => ?_) (fun c1 => ?_)
  · skip
    have e2 : (88 : Int32).toInt = 88 := rfl
    have c1' := c1
    rw [Int32.lt_iff_toInt_lt] at c1'
    refine y_if (fun c3 => ?_) (fun c3 => ?_)
    · skip
      have e4 : (94 : Int32).toInt = 94 := rfl
      have c3' := c3
      rw [Int32.lt_iff_toInt_lt] at c3'
      refine y_bi (y_X5_exchange (v5_4 := v5_4) (by omega) (by omega) (by omega) (by omega) (by first | with_reducible assumption | omega | ((with_reducible refine y_Vl ?_ ?_) <;> omega) | ((with_reducible refine y_V8 ?_) <;> (first | with_reducible assumption | (unfold y_Tr; omega))) | ((with_reducible refine y_Tr4 ?_ ?_) <;> (first | with_reducible assumption | omega)) | ((with_reducible refine (y_Tr4 ?_ ?_).ty) <;> (first | with_reducible assumption | omega)) | (unfold y_Ty; omega) | (unfold y_Tr; omega) | (with_reducible exact y_st4t _))) (fun r_3 h_r_3 => ?_)
      obtain ⟨h0_r_3, h1_r_3, h2_r_3⟩ := h_r_3
      refine y_some ?_
      try dsimp only
      refine ⟨?_, ?_, ?_⟩ <;> (first | with_reducible assumption | omega | ((with_reducible refine y_Vl ?_ ?_) <;> omega) | ((with_reducible refine y_V8 ?_) <;> (first | with_reducible assumption | (unfold y_Tr; omega))) | ((with_reducible refine y_Tr4 ?_ ?_) <;> (first | with_reducible assumption | omega)) | ((with_reducible refine (y_Tr4 ?_ ?_).ty) <;> (first | with_reducible assumption | omega)) | (unfold y_Ty; omega) | (unfold y_Tr; omega) | (with_reducible exact y_st4t _))
    · skip
      have e5 : (94 : Int32).toInt = 94 := rfl
      have c3' := c3
      rw [Int32.lt_iff_toInt_lt] at c3'
      try have e6 := @y_subL p1 (89 : Int32) (89) rfl (by omega) (by omega)
      refine y_gd (y_gdI (by omega) (by omega)) ?_
      refine y_gd (y_gdI (by omega) (by omega)) ?_
      try have e7 := @y_cl (p1 - (89 : Int32)) (by omega)
      try have e8 := y_st5 (Int32.toNatClampNeg (p1 - (89 : Int32)))
      try have e9 := y_st6 (Int32.toNatClampNeg (p1 - (89 : Int32)))
      refine y_bi (y_X5_copyUnder (by omega) (by omega) (by omega) (by omega) (by first | with_reducible assumption | omega | ((with_reducible refine y_Vl ?_ ?_) <;> omega) | ((with_reducible refine y_V8 ?_) <;> (first | with_reducible assumption | (unfold y_Tr; omega))) | ((with_reducible refine y_Tr4 ?_ ?_) <;> (first | with_reducible assumption | omega)) | ((with_reducible refine (y_Tr4 ?_ ?_).ty) <;> (first | with_reducible assumption | omega)) | (unfold y_Ty; omega) | (unfold y_Tr; omega) | (with_reducible exact y_st4t _)) (by omega) (by omega) (by omega) (by omega)) (fun r_8 h_r_8 => ?_)
      obtain ⟨h0_r_8, h1_r_8, h2_r_8⟩ := h_r_8
      refine y_some ?_
      try dsimp only
      refine ⟨?_, ?_, ?_⟩ <;> (first | with_reducible assumption | omega | ((with_reducible refine y_Vl ?_ ?_) <;> omega) | ((with_reducible refine y_V8 ?_) <;> (first | with_reducible assumption | (unfold y_Tr; omega))) | ((with_reducible refine y_Tr4 ?_ ?_) <;> (first | with_reducible assumption | omega)) | ((with_reducible refine (y_Tr4 ?_ ?_).ty) <;> (first | with_reducible assumption | omega)) | (unfold y_Ty; omega) | (unfold y_Tr; omega) | (with_reducible exact y_st4t _))
  · skip
    have e10 : (88 : Int32).toInt = 88 := rfl
    have c1' := c1
    rw [Int32.lt_iff_toInt_lt] at c1'
    try have e11 := @y_subL p1 (86 : Int32) (86) rfl (by omega) (by omega)
    refine y_bi (y_X5_drop (by omega) (by omega) (by omega) (by omega) (by omega)) (fun r_9 h_r_9 => ?_)
    obtain ⟨h0_r_9, h1_r_9⟩ := h_r_9
    refine y_some ?_
    try dsimp only
    refine ⟨?_, ?_, ?_⟩ <;> (first | with_reducible assumption | omega | ((with_reducible refine y_Vl ?_ ?_) <;> omega) | ((with_reducible refine y_V8 ?_) <;> (first | with_reducible assumption | (unfold y_Tr; omega))) | ((with_reducible refine y_Tr4 ?_ ?_) <;> (first | with_reducible assumption | omega)) | ((with_reducible refine (y_Tr4 ?_ ?_).ty) <;> (first | with_reducible assumption | omega)) | (unfold y_Ty; omega) | (unfold y_Tr; omega) | (with_reducible exact y_st4t _))
set_option maxHeartbeats 4000000 in
theorem y_X6_reckon_L_0_i {v5_2 : Int32} {v5_4 : Int32} {l1 : Int32} {g5_1 : Nat → Int32} (k0 : 0 ≤ v5_2.toInt) (k3 : v5_4.toInt ≤ 400) (k4 : y_AV 400 g5_1) (k5 : 0 ≤ l1.toInt) (k6 : l1.toInt ≤ 444) : ∀ (m : Nat) {l2 : Int32} {l3 : Int32} {v5_3 : Int32} {v5_6 : Int32}, (v5_2.toInt ≤ v5_3.toInt) → (v5_3.toInt ≤ v5_4.toInt) → (0 ≤ l2.toInt) → (l2.toInt ≤ 444) → (0 ≤ l3.toInt) → (l3.toInt ≤ 2) → 2 - l3.toInt < m → y_Ok (f_X6_reckon_L v5_2 v5_4 l1 g5_1 (0, l2, l3, v5_3, v5_6)) (fun r => (v5_2.toInt ≤ r.1.toInt) ∧ (r.1.toInt ≤ v5_4.toInt) ∧ (y_AV 400 r.2.2)) := by
  intro m
  induction m with
  | zero => intro l2 l3 v5_3 v5_6 k1 k2 k7 k8 k9 k10 hm; exfalso; omega
  | succ m ih =>
    intro l2 l3 v5_3 v5_6 k1 k2 k7 k8 k9 k10 hm
    rw [f_X6_reckon_L]
    refine y_ip rfl ?_
    refine y_if (fun c1 => ?_) (fun c1 => ?_)
    · skip
      have e2 : (2 : Int32).toInt = 2 := rfl
      have c1' := c1
      rw [Int32.le_iff_toInt_le] at c1'
      try have e3 := @y_rem l1 (10 : Int32) 10 rfl (by decide) (by omega)
      refine y_bi (y_X5_push (v5_2 := v5_2) (by omega) (by omega) (by omega) (by omega) (by first | with_reducible assumption | omega | ((with_reducible refine y_Vl ?_ ?_) <;> omega)) (by first | with_reducible assumption | omega | ((with_reducible refine y_Vl ?_ ?_) <;> omega))) (fun r_2 h_r_2 => ?_)
      obtain ⟨h0_r_2, h1_r_2, h2_r_2⟩ := h_r_2
      refine y_some ?_
      try dsimp only
      refine ⟨?_, ?_, ?_⟩ <;> (first | with_reducible assumption | omega | ((with_reducible refine y_Vl ?_ ?_) <;> omega))
    · skip
      have e4 : (2 : Int32).toInt = 2 := rfl
      have c1' := c1
      rw [Int32.le_iff_toInt_le] at c1'
      refine y_if (fun c5 => ?_) (fun c5 => ?_)
      · skip
        have e6 : (0 : Int32).toInt = 0 := rfl
        have c5' := c5
        rw [Int32.le_iff_toInt_le] at c5'
        try have e7 := @y_rem l1 (10 : Int32) 10 rfl (by decide) (by omega)
        refine y_bi (y_X5_push (v5_2 := v5_2) (by omega) (by omega) (by omega) (by omega) (by first | with_reducible assumption | omega | ((with_reducible refine y_Vl ?_ ?_) <;> omega)) (by first | with_reducible assumption | omega | ((with_reducible refine y_Vl ?_ ?_) <;> omega))) (fun r_4 h_r_4 => ?_)
        obtain ⟨h0_r_4, h1_r_4, h2_r_4⟩ := h_r_4
        refine y_some ?_
        try dsimp only
        refine ⟨?_, ?_, ?_⟩ <;> (first | with_reducible assumption | omega | ((with_reducible refine y_Vl ?_ ?_) <;> omega))
      · skip
        have e8 : (0 : Int32).toInt = 0 := rfl
        have c5' := c5
        rw [Int32.le_iff_toInt_le] at c5'
        try have e9 := @y_rem l2 (10 : Int32) 10 rfl (by decide) (by omega)
        refine y_bi (y_X5_pullKind (by omega) (by omega) (by omega)) (fun r_5 h_r_5 => ?_)
        obtain ⟨h0_r_5, h1_r_5⟩ := h_r_5
        try have e10 := @y_div l2 (10 : Int32) 10 rfl (by decide) (by omega)
        try have e11 := @y_addL l3 (1 : Int32) (1) rfl (by omega) (by omega)
        exact ih (l2 := (l2 / (10 : Int32))) (l3 := (l3 + 1)) (v5_3 := r_5.1) (v5_6 := r_5.2) (by omega) (by omega) (by omega) (by omega) (by omega) (by omega) (by omega)
theorem y_X6_reckon_L_0 {v5_2 : Int32} {v5_4 : Int32} {l1 : Int32} {g5_1 : Nat → Int32} {l2 : Int32} {l3 : Int32} {v5_3 : Int32} {v5_6 : Int32} (k0 : 0 ≤ v5_2.toInt) (k1 : v5_2.toInt ≤ v5_3.toInt) (k2 : v5_3.toInt ≤ v5_4.toInt) (k3 : v5_4.toInt ≤ 400) (k4 : y_AV 400 g5_1) (k5 : 0 ≤ l1.toInt) (k6 : l1.toInt ≤ 444) (k7 : 0 ≤ l2.toInt) (k8 : l2.toInt ≤ 444) (k9 : 0 ≤ l3.toInt) (k10 : l3.toInt ≤ 2) : y_Ok (f_X6_reckon_L v5_2 v5_4 l1 g5_1 (0, l2, l3, v5_3, v5_6)) (fun r => (v5_2.toInt ≤ r.1.toInt) ∧ (r.1.toInt ≤ v5_4.toInt) ∧ (y_AV 400 r.2.2)) := y_X6_reckon_L_0_i k0 k3 k4 k5 k6 (2 - l3.toInt + 1).toNat k1 k2 k7 k8 k9 k10 (by omega)
set_option maxHeartbeats 4000000 in
theorem y_X6_reckon {v5_2 : Int32} {v5_3 : Int32} {v5_4 : Int32} {v5_6 : Int32} {g5_1 : Nat → Int32} {p1 : Int32} (k0 : 0 ≤ v5_2.toInt) (k1 : v5_2.toInt ≤ v5_3.toInt) (k2 : v5_3.toInt ≤ v5_4.toInt) (k3 : v5_4.toInt ≤ 400) (k4 : y_AV 400 g5_1) (k5 : 0 ≤ p1.toInt) (k6 : p1.toInt ≤ 444) : y_Ok (f_X6_reckon v5_2 v5_3 v5_4 v5_6 g5_1 p1) (fun r => (v5_2.toInt ≤ r.1.toInt) ∧ (r.1.toInt ≤ v5_4.toInt) ∧ (y_AV 400 r.2.2)) := by
  unfold f_X6_reckon
  try have e1 := @y_div p1 (10 : Int32) 10 rfl (by decide) (by omega)
  have e2 : (0 : Int32).toInt = 0 := rfl
  refine y_Ok.mono (y_X6_reckon_L_0 (l2 := (p1 / (10 : Int32))) (l3 := 0) (v5_3 := v5_3) (v5_6 := v5_6) (by omega) (by omega) (by omega) (by omega) (by first | with_reducible assumption | omega | ((with_reducible refine y_Vl ?_ ?_) <;> omega)) (by omega) (by omega) (by omega) (by omega) (by omega) (by omega)) (fun r_t2 h_r_t2 => ?_)
  obtain ⟨h0_r_t2, h1_r_t2, h2_r_t2⟩ := h_r_t2
  refine ⟨?_, ?_, ?_⟩ <;> (first | with_reducible assumption | omega | ((with_reducible refine y_Vl ?_ ?_) <;> omega))
set_option maxHeartbeats 4000000 in
theorem y_X6_branch {g0_7 : Nat → Int32} {v5_2 : Int32} {v5_3 : Int32} {v5_4 : Int32} {v5_6 : Int32} {g5_1 : Nat → Int32} {p1 : Int32} (k0 : 0 ≤ v5_2.toInt) (k1 : v5_2.toInt ≤ v5_3.toInt) (k2 : v5_3.toInt ≤ v5_4.toInt) (k3 : v5_4.toInt ≤ 400) (k4 : y_AV 400 g5_1) (k5 : 0 ≤ p1.toInt) (k6 : p1.toInt < 1000) : y_Ok (f_X6_branch g0_7 v5_2 v5_3 v5_4 v5_6 g5_1 p1) (fun r => (v5_2.toInt ≤ r.1.toInt) ∧ (r.1.toInt ≤ v5_4.toInt) ∧ (y_AV 400 r.2.2)) := by
  unfold f_X6_branch
  refine y_gd (y_gdI (by omega) (by omega)) ?_
  refine y_if (fun c1 => ?_) (fun c1 => ?_)
  · skip
    try have e2 := @y_cl p1 (by omega)
    have e3 : (168 : Int32).toInt = 168 := rfl
    have c1' := c1
    rw [← Int32.toInt_inj] at c1'
    have e4 : (16 : Int32).toInt = 16 := rfl
    try have e5 := @y_addL p1 (1 : Int32) (1) rfl (by omega) (by omega)
    try have e6 := @y_mulL (16 : Int32) (p1 + (1 : Int32)) 16 rfl (by omega) (by omega)
    try have e7 := @y_addL ((16 : Int32) * (p1 + (1 : Int32))) (10 : Int32) (10) rfl (by omega) (by omega)
    refine y_bi (y_X5_push (v5_2 := v5_2) (by omega) (by omega) (by omega) (by omega) (by first | with_reducible assumption | omega | ((with_reducible refine y_Vl ?_ ?_) <;> omega) | ((with_reducible refine y_V8 ?_) <;> (first | with_reducible assumption | (unfold y_Tr; omega))) | ((with_reducible refine y_Tr4 ?_ ?_) <;> (first | with_reducible assumption | omega)) | ((with_reducible refine (y_Tr4 ?_ ?_).ty) <;> (first | with_reducible assumption | omega)) | (unfold y_Ty; omega) | (unfold y_Tr; omega) | (with_reducible exact y_st4t _) | ((with_reducible refine y_V10 ?_ ?_) <;> omega)) (by first | with_reducible assumption | omega | ((with_reducible refine y_Vl ?_ ?_) <;> omega) | ((with_reducible refine y_V8 ?_) <;> (first | with_reducible assumption | (unfold y_Tr; omega))) | ((with_reducible refine y_Tr4 ?_ ?_) <;> (first | with_reducible assumption | omega)) | ((with_reducible refine (y_Tr4 ?_ ?_).ty) <;> (first | with_reducible assumption | omega)) | (unfold y_Ty; omega) | (unfold y_Tr; omega) | (with_reducible exact y_st4t _) | ((with_reducible refine y_V10 ?_ ?_) <;> omega))) (fun r_20 h_r_20 => ?_)
    obtain ⟨h0_r_20, h1_r_20, h2_r_20⟩ := h_r_20
    refine y_some ?_
    try dsimp only
    refine ⟨?_, ?_, ?_⟩ <;> (first | with_reducible assumption | omega | ((with_reducible refine y_Vl ?_ ?_) <;> omega) | ((with_reducible refine y_V8 ?_) <;> (first | with_reducible assumption | (unfold y_Tr; omega))) | ((with_reducible refine y_Tr4 ?_ ?_) <;> (first | with_reducible assumption | omega)) | ((with_reducible refine (y_Tr4 ?_ ?_).ty) <;> (first | with_reducible assumption | omega)) | (unfold y_Ty; omega) | (unfold y_Tr; omega) | (with_reducible exact y_st4t _) | ((with_reducible refine y_V10 ?_ ?_) <;> omega))
  · skip
    try have e8 := @y_cl p1 (by omega)
    have e9 : (168 : Int32).toInt = 168 := rfl
    have c1' := c1
    rw [← Int32.toInt_inj] at c1'
    refine y_if (fun c10 => ?_) (fun c10 => ?_)
    · skip
      have e11 : (165 : Int32).toInt = 165 := rfl
      have c10' := c10
      rw [← Int32.toInt_inj] at c10'
      refine y_bi (y_X5_pullReference (by omega) (by omega) (by omega) (by first | with_reducible assumption | omega | ((with_reducible refine y_Vl ?_ ?_) <;> omega) | ((with_reducible refine y_V8 ?_) <;> (first | with_reducible assumption | (unfold y_Tr; omega))) | ((with_reducible refine y_Tr4 ?_ ?_) <;> (first | with_reducible assumption | omega)) | ((with_reducible refine (y_Tr4 ?_ ?_).ty) <;> (first | with_reducible assumption | omega)) | (unfold y_Ty; omega) | (unfold y_Tr; omega) | (with_reducible exact y_st4t _) | ((with_reducible refine y_V10 ?_ ?_) <;> omega))) (fun r_4 h_r_4 => ?_)
      obtain ⟨h0_r_4, h1_r_4⟩ := h_r_4
      refine y_bi (y_X5_pullReference (by omega) (by omega) (by omega) (by first | with_reducible assumption | omega | ((with_reducible refine y_Vl ?_ ?_) <;> omega) | ((with_reducible refine y_V8 ?_) <;> (first | with_reducible assumption | (unfold y_Tr; omega))) | ((with_reducible refine y_Tr4 ?_ ?_) <;> (first | with_reducible assumption | omega)) | ((with_reducible refine (y_Tr4 ?_ ?_).ty) <;> (first | with_reducible assumption | omega)) | (unfold y_Ty; omega) | (unfold y_Tr; omega) | (with_reducible exact y_st4t _) | ((with_reducible refine y_V10 ?_ ?_) <;> omega))) (fun r_5 h_r_5 => ?_)
      obtain ⟨h0_r_5, h1_r_5⟩ := h_r_5
      refine y_some ?_
      try dsimp only
      refine ⟨?_, ?_, ?_⟩ <;> (first | with_reducible assumption | omega | ((with_reducible refine y_Vl ?_ ?_) <;> omega) | ((with_reducible refine y_V8 ?_) <;> (first | with_reducible assumption | (unfold y_Tr; omega))) | ((with_reducible refine y_Tr4 ?_ ?_) <;> (first | with_reducible assumption | omega)) | ((with_reducible refine (y_Tr4 ?_ ?_).ty) <;> (first | with_reducible assumption | omega)) | (unfold y_Ty; omega) | (unfold y_Tr; omega) | (with_reducible exact y_st4t _) | ((with_reducible refine y_V10 ?_ ?_) <;> omega))
    · skip
      have e12 : (165 : Int32).toInt = 165 := rfl
      have c10' := c10
      rw [← Int32.toInt_inj] at c10'
      refine y_if (fun c13 => ?_) (fun c13 => ?_)
      · skip
        have e14 : (166 : Int32).toInt = 166 := rfl
        have c13' := c13
        rw [← Int32.toInt_inj] at c13'
        refine y_bi (y_X5_pullReference (by omega) (by omega) (by omega) (by first | with_reducible assumption | omega | ((with_reducible refine y_Vl ?_ ?_) <;> omega) | ((with_reducible refine y_V8 ?_) <;> (first | with_reducible assumption | (unfold y_Tr; omega))) | ((with_reducible refine y_Tr4 ?_ ?_) <;> (first | with_reducible assumption | omega)) | ((with_reducible refine (y_Tr4 ?_ ?_).ty) <;> (first | with_reducible assumption | omega)) | (unfold y_Ty; omega) | (unfold y_Tr; omega) | (with_reducible exact y_st4t _) | ((with_reducible refine y_V10 ?_ ?_) <;> omega))) (fun r_18 h_r_18 => ?_)
        obtain ⟨h0_r_18, h1_r_18⟩ := h_r_18
        refine y_bi (y_X5_pullReference (by omega) (by omega) (by omega) (by first | with_reducible assumption | omega | ((with_reducible refine y_Vl ?_ ?_) <;> omega) | ((with_reducible refine y_V8 ?_) <;> (first | with_reducible assumption | (unfold y_Tr; omega))) | ((with_reducible refine y_Tr4 ?_ ?_) <;> (first | with_reducible assumption | omega)) | ((with_reducible refine (y_Tr4 ?_ ?_).ty) <;> (first | with_reducible assumption | omega)) | (unfold y_Ty; omega) | (unfold y_Tr; omega) | (with_reducible exact y_st4t _) | ((with_reducible refine y_V10 ?_ ?_) <;> omega))) (fun r_19 h_r_19 => ?_)
        obtain ⟨h0_r_19, h1_r_19⟩ := h_r_19
        refine y_some ?_
        try dsimp only
        refine ⟨?_, ?_, ?_⟩ <;> (first | with_reducible assumption | omega | ((with_reducible refine y_Vl ?_ ?_) <;> omega) | ((with_reducible refine y_V8 ?_) <;> (first | with_reducible assumption | (unfold y_Tr; omega))) | ((with_reducible refine y_Tr4 ?_ ?_) <;> (first | with_reducible assumption | omega)) | ((with_reducible refine (y_Tr4 ?_ ?_).ty) <;> (first | with_reducible assumption | omega)) | (unfold y_Ty; omega) | (unfold y_Tr; omega) | (with_reducible exact y_st4t _) | ((with_reducible refine y_V10 ?_ ?_) <;> omega))
      · skip
        have e15 : (166 : Int32).toInt = 166 := rfl
        have c13' := c13
        rw [← Int32.toInt_inj] at c13'
        refine y_if (fun c16 => ?_) (fun c16 => ?_)
        · skip
          have e17 : (164 : Int32).toInt = 164 := rfl
          have c16' := c16
          rw [Int32.le_iff_toInt_le] at c16'
          have e18 : (1 : Int32).toInt = 1 := rfl
          refine y_bi (y_X5_pullKind (by omega) (by omega) (by omega)) (fun r_8 h_r_8 => ?_)
          obtain ⟨h0_r_8, h1_r_8⟩ := h_r_8
          refine y_if (fun c19 => ?_) (fun c19 => ?_)
          · skip
            have e20 : (159 : Int32).toInt = 159 := rfl
            have c19' := c19
            rw [Int32.lt_iff_toInt_lt] at c19'
            refine y_some ?_
            try dsimp only
            refine ⟨?_, ?_, ?_⟩ <;> (first | with_reducible assumption | omega | ((with_reducible refine y_Vl ?_ ?_) <;> omega) | ((with_reducible refine y_V8 ?_) <;> (first | with_reducible assumption | (unfold y_Tr; omega))) | ((with_reducible refine y_Tr4 ?_ ?_) <;> (first | with_reducible assumption | omega)) | ((with_reducible refine (y_Tr4 ?_ ?_).ty) <;> (first | with_reducible assumption | omega)) | (unfold y_Ty; omega) | (unfold y_Tr; omega) | (with_reducible exact y_st4t _) | ((with_reducible refine y_V10 ?_ ?_) <;> omega))
          · skip
            have e21 : (159 : Int32).toInt = 159 := rfl
            have c19' := c19
            rw [Int32.lt_iff_toInt_lt] at c19'
            refine y_if (fun c22 => ?_) (fun c22 => ?_)
            · skip
              have c22' := c22
              rw [Int32.lt_iff_toInt_lt] at c22'
              refine y_some ?_
              try dsimp only
              refine ⟨?_, ?_, ?_⟩ <;> (first | with_reducible assumption | omega | ((with_reducible refine y_Vl ?_ ?_) <;> omega) | ((with_reducible refine y_V8 ?_) <;> (first | with_reducible assumption | (unfold y_Tr; omega))) | ((with_reducible refine y_Tr4 ?_ ?_) <;> (first | with_reducible assumption | omega)) | ((with_reducible refine (y_Tr4 ?_ ?_).ty) <;> (first | with_reducible assumption | omega)) | (unfold y_Ty; omega) | (unfold y_Tr; omega) | (with_reducible exact y_st4t _) | ((with_reducible refine y_V10 ?_ ?_) <;> omega))
            · skip
              have c22' := c22
              rw [Int32.lt_iff_toInt_lt] at c22'
              refine y_bi (y_X5_pullKind (by omega) (by omega) (by omega)) (fun r_11 h_r_11 => ?_)
              obtain ⟨h0_r_11, h1_r_11⟩ := h_r_11
              refine y_some ?_
              try dsimp only
              refine ⟨?_, ?_, ?_⟩ <;> (first | with_reducible assumption | omega | ((with_reducible refine y_Vl ?_ ?_) <;> omega) | ((with_reducible refine y_V8 ?_) <;> (first | with_reducible assumption | (unfold y_Tr; omega))) | ((with_reducible refine y_Tr4 ?_ ?_) <;> (first | with_reducible assumption | omega)) | ((with_reducible refine (y_Tr4 ?_ ?_).ty) <;> (first | with_reducible assumption | omega)) | (unfold y_Ty; omega) | (unfold y_Tr; omega) | (with_reducible exact y_st4t _) | ((with_reducible refine y_V10 ?_ ?_) <;> omega))
        · skip
          have e23 : (164 : Int32).toInt = 164 := rfl
          have c16' := c16
          rw [Int32.le_iff_toInt_le] at c16'
          refine y_bi (y_X0_isSwitch) (fun r_12 h_r_12 => ?_)
          have h0_r_12 : (r_12.toInt = 0 ∧ ¬ ((g0_7 (Int32.toNatClampNeg p1)).toInt = 170 ∨ (g0_7 (Int32.toNatClampNeg p1)).toInt = 171)) ∨ (r_12.toInt = 1 ∧ ((g0_7 (Int32.toNatClampNeg p1)).toInt = 170 ∨ (g0_7 (Int32.toNatClampNeg p1)).toInt = 171)) := h_r_12
          refine y_if (fun c24 => ?_) (fun c24 => ?_)
          · skip
            have e25 : (0 : Int32).toInt = 0 := rfl
            have c24' := c24
            rw [← Int32.toInt_inj] at c24'
            have e26 := y_or0 h0_r_12 c24'
            clear h0_r_12
            refine y_some ?_
            try dsimp only
            refine ⟨?_, ?_, ?_⟩ <;> (first | with_reducible assumption | omega | ((with_reducible refine y_Vl ?_ ?_) <;> omega) | ((with_reducible refine y_V8 ?_) <;> (first | with_reducible assumption | (unfold y_Tr; omega))) | ((with_reducible refine y_Tr4 ?_ ?_) <;> (first | with_reducible assumption | omega)) | ((with_reducible refine (y_Tr4 ?_ ?_).ty) <;> (first | with_reducible assumption | omega)) | (unfold y_Ty; omega) | (unfold y_Tr; omega) | (with_reducible exact y_st4t _) | ((with_reducible refine y_V10 ?_ ?_) <;> omega))
          · skip
            have e27 : (0 : Int32).toInt = 0 := rfl
            have c24' := c24
            rw [← Int32.toInt_inj] at c24'
            have e28 := y_or1 h0_r_12 c24'
            clear h0_r_12
            have e29 : (1 : Int32).toInt = 1 := rfl
            refine y_bi (y_X5_pullKind (by omega) (by omega) (by omega)) (fun r_14 h_r_14 => ?_)
            obtain ⟨h0_r_14, h1_r_14⟩ := h_r_14
            refine y_if (fun c30 => ?_) (fun c30 => ?_)
            · skip
              have e31 : (159 : Int32).toInt = 159 := rfl
              have c30' := c30
              rw [Int32.lt_iff_toInt_lt] at c30'
              refine y_some ?_
              try dsimp only
              refine ⟨?_, ?_, ?_⟩ <;> (first | with_reducible assumption | omega | ((with_reducible refine y_Vl ?_ ?_) <;> omega) | ((with_reducible refine y_V8 ?_) <;> (first | with_reducible assumption | (unfold y_Tr; omega))) | ((with_reducible refine y_Tr4 ?_ ?_) <;> (first | with_reducible assumption | omega)) | ((with_reducible refine (y_Tr4 ?_ ?_).ty) <;> (first | with_reducible assumption | omega)) | (unfold y_Ty; omega) | (unfold y_Tr; omega) | (with_reducible exact y_st4t _) | ((with_reducible refine y_V10 ?_ ?_) <;> omega))
            · skip
              have e32 : (159 : Int32).toInt = 159 := rfl
              have c30' := c30
              rw [Int32.lt_iff_toInt_lt] at c30'
              refine y_if (fun c33 => ?_) (fun c33 => ?_)
              · skip
                have c33' := c33
                rw [Int32.lt_iff_toInt_lt] at c33'
                refine y_some ?_
                try dsimp only
                refine ⟨?_, ?_, ?_⟩ <;> (first | with_reducible assumption | omega | ((with_reducible refine y_Vl ?_ ?_) <;> omega) | ((with_reducible refine y_V8 ?_) <;> (first | with_reducible assumption | (unfold y_Tr; omega))) | ((with_reducible refine y_Tr4 ?_ ?_) <;> (first | with_reducible assumption | omega)) | ((with_reducible refine (y_Tr4 ?_ ?_).ty) <;> (first | with_reducible assumption | omega)) | (unfold y_Ty; omega) | (unfold y_Tr; omega) | (with_reducible exact y_st4t _) | ((with_reducible refine y_V10 ?_ ?_) <;> omega))
              · skip
                have c33' := c33
                rw [Int32.lt_iff_toInt_lt] at c33'
                refine y_bi (y_X5_pullKind (by omega) (by omega) (by omega)) (fun r_17 h_r_17 => ?_)
                obtain ⟨h0_r_17, h1_r_17⟩ := h_r_17
                refine y_some ?_
                try dsimp only
                refine ⟨?_, ?_, ?_⟩ <;> (first | with_reducible assumption | omega | ((with_reducible refine y_Vl ?_ ?_) <;> omega) | ((with_reducible refine y_V8 ?_) <;> (first | with_reducible assumption | (unfold y_Tr; omega))) | ((with_reducible refine y_Tr4 ?_ ?_) <;> (first | with_reducible assumption | omega)) | ((with_reducible refine (y_Tr4 ?_ ?_).ty) <;> (first | with_reducible assumption | omega)) | (unfold y_Ty; omega) | (unfold y_Tr; omega) | (with_reducible exact y_st4t _) | ((with_reducible refine y_V10 ?_ ?_) <;> omega))
set_option maxHeartbeats 4000000 in
theorem y_X6_leave {v7_2 : Int32} {g7_0 : Nat → Int32} {g7_1 : Nat → Int32} {v0_1 : Int32} {v0_2 : Int32} {v5_2 : Int32} {v5_3 : Int32} {v5_5 : Int32} {v5_6 : Int32} {v5_8 : Int32} {v5_9 : Int32} {g5_1 : Nat → Int32} {p1 : Int32} (k0 : 4 ≤ v7_2.toInt) (k1 : v7_2.toInt ≤ 200) (k2 : y_Rg 200 0 199 g7_0) (k3 : 0 ≤ v5_2.toInt) (k4 : v5_2.toInt ≤ v5_3.toInt) (k5 : v5_3.toInt ≤ 400) (k6 : y_AV 400 g5_1) (k7 : 0 ≤ v5_8.toInt) (k8 : v5_8.toInt ≤ 1) (k9 : y_Rs v0_2) (k10 : 0 ≤ p1.toInt) (k11 : p1.toInt ≤ 5) : y_Ok (f_X6_leave v7_2 g7_0 g7_1 v0_1 v0_2 v5_2 v5_3 v5_5 v5_6 v5_8 v5_9 g5_1 p1) (fun r => (v5_2.toInt ≤ r.1.toInt) ∧ (r.1.toInt ≤ v5_3.toInt) ∧ (0 ≤ r.2.2.toInt) ∧ (r.2.2.toInt ≤ 1)) := by
  unfold f_X6_leave
  refine y_if (fun c1 => ?_) (fun c1 => ?_)
  · skip
    have e2 : (5 : Int32).toInt = 5 := rfl
    have c1' := c1
    rw [← Int32.toInt_inj] at c1'
    refine y_if (fun c3 => ?_) (fun c3 => ?_)
    · skip
      have c3' : v0_2.toInt = -1 := (y_eqN rfl).mp c3
      refine y_if (fun c4 => ?_) (fun c4 => ?_)
      · skip
        have e5 : (2 : Int32).toInt = 2 := rfl
        have c4' := c4
        rw [← Int32.toInt_inj] at c4'
        refine y_if (fun c6 => ?_) (fun c6 => ?_)
        · skip
          have e7 : (1 : Int32).toInt = 1 := rfl
          have c6' := c6
          rw [← Int32.toInt_inj] at c6'
          refine y_if (fun c8 => ?_) (fun c8 => ?_)
          · skip
            have c8' := c8
            rw [Int32.le_iff_toInt_le] at c8'
            refine y_some ?_
            try dsimp only
            refine ⟨?_, ?_, ?_, ?_⟩ <;> (first | with_reducible assumption | omega | ((with_reducible refine y_Vl ?_ ?_) <;> omega) | ((with_reducible refine y_V8 ?_) <;> (first | with_reducible assumption | (unfold y_Tr; omega))) | ((with_reducible refine y_Tr4 ?_ ?_) <;> (first | with_reducible assumption | omega)) | ((with_reducible refine (y_Tr4 ?_ ?_).ty) <;> (first | with_reducible assumption | omega)) | (unfold y_Ty; omega) | (unfold y_Tr; omega) | (with_reducible exact y_st4t _) | ((with_reducible refine y_Rs.ty ?_ ?_) <;> (first | with_reducible assumption | omega)))
          · skip
            have c8' := c8
            rw [Int32.le_iff_toInt_le] at c8'
            refine y_bi (y_X5_pullType (by omega) (by omega) (by first | with_reducible assumption | omega | ((with_reducible refine y_Vl ?_ ?_) <;> omega) | ((with_reducible refine y_V8 ?_) <;> (first | with_reducible assumption | (unfold y_Tr; omega))) | ((with_reducible refine y_Tr4 ?_ ?_) <;> (first | with_reducible assumption | omega)) | ((with_reducible refine (y_Tr4 ?_ ?_).ty) <;> (first | with_reducible assumption | omega)) | (unfold y_Ty; omega) | (unfold y_Tr; omega) | (with_reducible exact y_st4t _) | ((with_reducible refine y_Rs.ty ?_ ?_) <;> (first | with_reducible assumption | omega))) (by omega) (by omega) (by omega) (by first | with_reducible assumption | omega | ((with_reducible refine y_Vl ?_ ?_) <;> omega) | ((with_reducible refine y_V8 ?_) <;> (first | with_reducible assumption | (unfold y_Tr; omega))) | ((with_reducible refine y_Tr4 ?_ ?_) <;> (first | with_reducible assumption | omega)) | ((with_reducible refine (y_Tr4 ?_ ?_).ty) <;> (first | with_reducible assumption | omega)) | (unfold y_Ty; omega) | (unfold y_Tr; omega) | (with_reducible exact y_st4t _) | ((with_reducible refine y_Rs.ty ?_ ?_) <;> (first | with_reducible assumption | omega))) (by omega) (by omega) (by first | with_reducible assumption | omega | ((with_reducible refine y_Vl ?_ ?_) <;> omega) | ((with_reducible refine y_V8 ?_) <;> (first | with_reducible assumption | (unfold y_Tr; omega))) | ((with_reducible refine y_Tr4 ?_ ?_) <;> (first | with_reducible assumption | omega)) | ((with_reducible refine (y_Tr4 ?_ ?_).ty) <;> (first | with_reducible assumption | omega)) | (unfold y_Ty; omega) | (unfold y_Tr; omega) | (with_reducible exact y_st4t _) | ((with_reducible refine y_Rs.ty ?_ ?_) <;> (first | with_reducible assumption | omega)))) (fun r_29 h_r_29 => ?_)
            obtain ⟨h0_r_29, h1_r_29, h2_r_29, h3_r_29⟩ := h_r_29
            refine y_some ?_
            try dsimp only
            refine ⟨?_, ?_, ?_, ?_⟩ <;> (first | with_reducible assumption | omega | ((with_reducible refine y_Vl ?_ ?_) <;> omega) | ((with_reducible refine y_V8 ?_) <;> (first | with_reducible assumption | (unfold y_Tr; omega))) | ((with_reducible refine y_Tr4 ?_ ?_) <;> (first | with_reducible assumption | omega)) | ((with_reducible refine (y_Tr4 ?_ ?_).ty) <;> (first | with_reducible assumption | omega)) | (unfold y_Ty; omega) | (unfold y_Tr; omega) | (with_reducible exact y_st4t _) | ((with_reducible refine y_Rs.ty ?_ ?_) <;> (first | with_reducible assumption | omega)))
        · skip
          have e9 : (1 : Int32).toInt = 1 := rfl
          have c6' := c6
          rw [← Int32.toInt_inj] at c6'
          refine y_some ?_
          try dsimp only
          refine ⟨?_, ?_, ?_, ?_⟩ <;> (first | with_reducible assumption | omega | ((with_reducible refine y_Vl ?_ ?_) <;> omega) | ((with_reducible refine y_V8 ?_) <;> (first | with_reducible assumption | (unfold y_Tr; omega))) | ((with_reducible refine y_Tr4 ?_ ?_) <;> (first | with_reducible assumption | omega)) | ((with_reducible refine (y_Tr4 ?_ ?_).ty) <;> (first | with_reducible assumption | omega)) | (unfold y_Ty; omega) | (unfold y_Tr; omega) | (with_reducible exact y_st4t _) | ((with_reducible refine y_Rs.ty ?_ ?_) <;> (first | with_reducible assumption | omega)))
      · skip
        have e10 : (2 : Int32).toInt = 2 := rfl
        have c4' := c4
        rw [← Int32.toInt_inj] at c4'
        refine y_if (fun c11 => ?_) (fun c11 => ?_)
        · skip
          have c11' := c11
          rw [Int32.le_iff_toInt_le] at c11'
          refine y_some ?_
          try dsimp only
          refine ⟨?_, ?_, ?_, ?_⟩ <;> (first | with_reducible assumption | omega | ((with_reducible refine y_Vl ?_ ?_) <;> omega) | ((with_reducible refine y_V8 ?_) <;> (first | with_reducible assumption | (unfold y_Tr; omega))) | ((with_reducible refine y_Tr4 ?_ ?_) <;> (first | with_reducible assumption | omega)) | ((with_reducible refine (y_Tr4 ?_ ?_).ty) <;> (first | with_reducible assumption | omega)) | (unfold y_Ty; omega) | (unfold y_Tr; omega) | (with_reducible exact y_st4t _) | ((with_reducible refine y_Rs.ty ?_ ?_) <;> (first | with_reducible assumption | omega)))
        · skip
          have c11' := c11
          rw [Int32.le_iff_toInt_le] at c11'
          refine y_bi (y_X5_pullType (by omega) (by omega) (by first | with_reducible assumption | omega | ((with_reducible refine y_Vl ?_ ?_) <;> omega) | ((with_reducible refine y_V8 ?_) <;> (first | with_reducible assumption | (unfold y_Tr; omega))) | ((with_reducible refine y_Tr4 ?_ ?_) <;> (first | with_reducible assumption | omega)) | ((with_reducible refine (y_Tr4 ?_ ?_).ty) <;> (first | with_reducible assumption | omega)) | (unfold y_Ty; omega) | (unfold y_Tr; omega) | (with_reducible exact y_st4t _) | ((with_reducible refine y_Rs.ty ?_ ?_) <;> (first | with_reducible assumption | omega))) (by omega) (by omega) (by omega) (by first | with_reducible assumption | omega | ((with_reducible refine y_Vl ?_ ?_) <;> omega) | ((with_reducible refine y_V8 ?_) <;> (first | with_reducible assumption | (unfold y_Tr; omega))) | ((with_reducible refine y_Tr4 ?_ ?_) <;> (first | with_reducible assumption | omega)) | ((with_reducible refine (y_Tr4 ?_ ?_).ty) <;> (first | with_reducible assumption | omega)) | (unfold y_Ty; omega) | (unfold y_Tr; omega) | (with_reducible exact y_st4t _) | ((with_reducible refine y_Rs.ty ?_ ?_) <;> (first | with_reducible assumption | omega))) (by omega) (by omega) (by first | with_reducible assumption | omega | ((with_reducible refine y_Vl ?_ ?_) <;> omega) | ((with_reducible refine y_V8 ?_) <;> (first | with_reducible assumption | (unfold y_Tr; omega))) | ((with_reducible refine y_Tr4 ?_ ?_) <;> (first | with_reducible assumption | omega)) | ((with_reducible refine (y_Tr4 ?_ ?_).ty) <;> (first | with_reducible assumption | omega)) | (unfold y_Ty; omega) | (unfold y_Tr; omega) | (with_reducible exact y_st4t _) | ((with_reducible refine y_Rs.ty ?_ ?_) <;> (first | with_reducible assumption | omega)))) (fun r_24 h_r_24 => ?_)
          obtain ⟨h0_r_24, h1_r_24, h2_r_24, h3_r_24⟩ := h_r_24
          refine y_some ?_
          try dsimp only
          refine ⟨?_, ?_, ?_, ?_⟩ <;> (first | with_reducible assumption | omega | ((with_reducible refine y_Vl ?_ ?_) <;> omega) | ((with_reducible refine y_V8 ?_) <;> (first | with_reducible assumption | (unfold y_Tr; omega))) | ((with_reducible refine y_Tr4 ?_ ?_) <;> (first | with_reducible assumption | omega)) | ((with_reducible refine (y_Tr4 ?_ ?_).ty) <;> (first | with_reducible assumption | omega)) | (unfold y_Ty; omega) | (unfold y_Tr; omega) | (with_reducible exact y_st4t _) | ((with_reducible refine y_Rs.ty ?_ ?_) <;> (first | with_reducible assumption | omega)))
    · skip
      have c3' : ¬ v0_2.toInt = -1 := fun hz => c3 ((y_eqN rfl).mpr hz)
      have e12 : (1 : Int32).toInt = 1 := rfl
      refine y_some ?_
      try dsimp only
      refine ⟨?_, ?_, ?_, ?_⟩ <;> (first | with_reducible assumption | omega | ((with_reducible refine y_Vl ?_ ?_) <;> omega) | ((with_reducible refine y_V8 ?_) <;> (first | with_reducible assumption | (unfold y_Tr; omega))) | ((with_reducible refine y_Tr4 ?_ ?_) <;> (first | with_reducible assumption | omega)) | ((with_reducible refine (y_Tr4 ?_ ?_).ty) <;> (first | with_reducible assumption | omega)) | (unfold y_Ty; omega) | (unfold y_Tr; omega) | (with_reducible exact y_st4t _) | ((with_reducible refine y_Rs.ty ?_ ?_) <;> (first | with_reducible assumption | omega)))
  · skip
    have e13 : (5 : Int32).toInt = 5 := rfl
    have c1' := c1
    rw [← Int32.toInt_inj] at c1'
    refine y_if (fun c14 => ?_) (fun c14 => ?_)
    · skip
      have c14' : v0_2.toInt = -1 := (y_eqN rfl).mp c14
      have e15 : (1 : Int32).toInt = 1 := rfl
      refine y_some ?_
      try dsimp only
      refine ⟨?_, ?_, ?_, ?_⟩ <;> (first | with_reducible assumption | omega | ((with_reducible refine y_Vl ?_ ?_) <;> omega) | ((with_reducible refine y_V8 ?_) <;> (first | with_reducible assumption | (unfold y_Tr; omega))) | ((with_reducible refine y_Tr4 ?_ ?_) <;> (first | with_reducible assumption | omega)) | ((with_reducible refine (y_Tr4 ?_ ?_).ty) <;> (first | with_reducible assumption | omega)) | (unfold y_Ty; omega) | (unfold y_Tr; omega) | (with_reducible exact y_st4t _) | ((with_reducible refine y_Rs.ty ?_ ?_) <;> (first | with_reducible assumption | omega)))
    · skip
      have c14' : ¬ v0_2.toInt = -1 := fun hz => c14 ((y_eqN rfl).mpr hz)
      refine y_if (fun c16 => ?_) (fun c16 => ?_)
      · skip
        have e17 : (4 : Int32).toInt = 4 := rfl
        have c16' := c16
        rw [← Int32.toInt_inj] at c16'
        refine y_bi (y_X7_isPrimitive) (fun r_13 h_r_13 => ?_)
        have h0_r_13 : (r_13.toInt = 0 ∧ ¬ (65528 ≤ v0_2.toInt ∧ v0_2.toInt < 65536)) ∨ (r_13.toInt = 1 ∧ (65528 ≤ v0_2.toInt ∧ v0_2.toInt < 65536)) := h_r_13
        refine y_if (fun c18 => ?_) (fun c18 => ?_)
        · skip
          have e19 : (0 : Int32).toInt = 0 := rfl
          have c18' := c18
          rw [← Int32.toInt_inj] at c18'
          have e20 := y_or0 h0_r_13 c18'
          clear h0_r_13
          refine y_if (fun c21 => ?_) (fun c21 => ?_)
          · skip
            have c21' := c21
            rw [Int32.le_iff_toInt_le] at c21'
            refine y_some ?_
            try dsimp only
            refine ⟨?_, ?_, ?_, ?_⟩ <;> (first | with_reducible assumption | omega | ((with_reducible refine y_Vl ?_ ?_) <;> omega) | ((with_reducible refine y_V8 ?_) <;> (first | with_reducible assumption | (unfold y_Tr; omega))) | ((with_reducible refine y_Tr4 ?_ ?_) <;> (first | with_reducible assumption | omega)) | ((with_reducible refine (y_Tr4 ?_ ?_).ty) <;> (first | with_reducible assumption | omega)) | (unfold y_Ty; omega) | (unfold y_Tr; omega) | (with_reducible exact y_st4t _) | ((with_reducible refine y_Rs.ty ?_ ?_) <;> (first | with_reducible assumption | omega)))
          · skip
            have c21' := c21
            rw [Int32.le_iff_toInt_le] at c21'
            refine y_bi (y_X5_pullType (by omega) (by omega) (by first | with_reducible assumption | omega | ((with_reducible refine y_Vl ?_ ?_) <;> omega) | ((with_reducible refine y_V8 ?_) <;> (first | with_reducible assumption | (unfold y_Tr; omega))) | ((with_reducible refine y_Tr4 ?_ ?_) <;> (first | with_reducible assumption | omega)) | ((with_reducible refine (y_Tr4 ?_ ?_).ty) <;> (first | with_reducible assumption | omega)) | (unfold y_Ty; omega) | (unfold y_Tr; omega) | (with_reducible exact y_st4t _) | ((with_reducible refine y_Rs.ty ?_ ?_) <;> (first | with_reducible assumption | omega))) (by omega) (by omega) (by omega) (by first | with_reducible assumption | omega | ((with_reducible refine y_Vl ?_ ?_) <;> omega) | ((with_reducible refine y_V8 ?_) <;> (first | with_reducible assumption | (unfold y_Tr; omega))) | ((with_reducible refine y_Tr4 ?_ ?_) <;> (first | with_reducible assumption | omega)) | ((with_reducible refine (y_Tr4 ?_ ?_).ty) <;> (first | with_reducible assumption | omega)) | (unfold y_Ty; omega) | (unfold y_Tr; omega) | (with_reducible exact y_st4t _) | ((with_reducible refine y_Rs.ty ?_ ?_) <;> (first | with_reducible assumption | omega))) (by omega) (by omega) (by first | with_reducible assumption | omega | ((with_reducible refine y_Vl ?_ ?_) <;> omega) | ((with_reducible refine y_V8 ?_) <;> (first | with_reducible assumption | (unfold y_Tr; omega))) | ((with_reducible refine y_Tr4 ?_ ?_) <;> (first | with_reducible assumption | omega)) | ((with_reducible refine (y_Tr4 ?_ ?_).ty) <;> (first | with_reducible assumption | omega)) | (unfold y_Ty; omega) | (unfold y_Tr; omega) | (with_reducible exact y_st4t _) | ((with_reducible refine y_Rs.ty ?_ ?_) <;> (first | with_reducible assumption | omega)))) (fun r_18 h_r_18 => ?_)
            obtain ⟨h0_r_18, h1_r_18, h2_r_18, h3_r_18⟩ := h_r_18
            refine y_some ?_
            try dsimp only
            refine ⟨?_, ?_, ?_, ?_⟩ <;> (first | with_reducible assumption | omega | ((with_reducible refine y_Vl ?_ ?_) <;> omega) | ((with_reducible refine y_V8 ?_) <;> (first | with_reducible assumption | (unfold y_Tr; omega))) | ((with_reducible refine y_Tr4 ?_ ?_) <;> (first | with_reducible assumption | omega)) | ((with_reducible refine (y_Tr4 ?_ ?_).ty) <;> (first | with_reducible assumption | omega)) | (unfold y_Ty; omega) | (unfold y_Tr; omega) | (with_reducible exact y_st4t _) | ((with_reducible refine y_Rs.ty ?_ ?_) <;> (first | with_reducible assumption | omega)))
        · skip
          have e22 : (0 : Int32).toInt = 0 := rfl
          have c18' := c18
          rw [← Int32.toInt_inj] at c18'
          have e23 := y_or1 h0_r_13 c18'
          clear h0_r_13
          have e24 : (1 : Int32).toInt = 1 := rfl
          refine y_some ?_
          try dsimp only
          refine ⟨?_, ?_, ?_, ?_⟩ <;> (first | with_reducible assumption | omega | ((with_reducible refine y_Vl ?_ ?_) <;> omega) | ((with_reducible refine y_V8 ?_) <;> (first | with_reducible assumption | (unfold y_Tr; omega))) | ((with_reducible refine y_Tr4 ?_ ?_) <;> (first | with_reducible assumption | omega)) | ((with_reducible refine (y_Tr4 ?_ ?_).ty) <;> (first | with_reducible assumption | omega)) | (unfold y_Ty; omega) | (unfold y_Tr; omega) | (with_reducible exact y_st4t _) | ((with_reducible refine y_Rs.ty ?_ ?_) <;> (first | with_reducible assumption | omega)))
      · skip
        have e25 : (4 : Int32).toInt = 4 := rfl
        have c16' := c16
        rw [← Int32.toInt_inj] at c16'
        refine y_bi (y_X7_placeOf (by first | with_reducible assumption | omega | ((with_reducible refine y_Vl ?_ ?_) <;> omega) | ((with_reducible refine y_V8 ?_) <;> (first | with_reducible assumption | (unfold y_Tr; omega))) | ((with_reducible refine y_Tr4 ?_ ?_) <;> (first | with_reducible assumption | omega)) | ((with_reducible refine (y_Tr4 ?_ ?_).ty) <;> (first | with_reducible assumption | omega)) | (unfold y_Ty; omega) | (unfold y_Tr; omega) | (with_reducible exact y_st4t _) | ((with_reducible refine y_Rs.ty ?_ ?_) <;> (first | with_reducible assumption | omega)))) (fun r_5 h_r_5 => ?_)
        have h0_r_5 : y_V r_5 := h_r_5
        refine y_gd (y_gdI (by omega) (by omega)) ?_
        refine y_if (fun c26 => ?_) (fun c26 => ?_)
        · skip
          try have e27 := @y_cl p1 (by omega)
          try have e28 := y_st3 (Int32.toNatClampNeg p1)
          have c26' := c26
          rw [← Int32.toInt_inj] at c26'
          refine y_if (fun c29 => ?_) (fun c29 => ?_)
          · skip
            have c29' := c29
            rw [Int32.le_iff_toInt_le] at c29'
            refine y_some ?_
            try dsimp only
            refine ⟨?_, ?_, ?_, ?_⟩ <;> (first | with_reducible assumption | omega | ((with_reducible refine y_Vl ?_ ?_) <;> omega) | ((with_reducible refine y_V8 ?_) <;> (first | with_reducible assumption | (unfold y_Tr; omega))) | ((with_reducible refine y_Tr4 ?_ ?_) <;> (first | with_reducible assumption | omega)) | ((with_reducible refine (y_Tr4 ?_ ?_).ty) <;> (first | with_reducible assumption | omega)) | (unfold y_Ty; omega) | (unfold y_Tr; omega) | (with_reducible exact y_st4t _) | ((with_reducible refine y_Rs.ty ?_ ?_) <;> (first | with_reducible assumption | omega)))
          · skip
            have c29' := c29
            rw [Int32.le_iff_toInt_le] at c29'
            refine y_bi (y_X5_pullType (by omega) (by omega) (by first | with_reducible assumption | omega | ((with_reducible refine y_Vl ?_ ?_) <;> omega) | ((with_reducible refine y_V8 ?_) <;> (first | with_reducible assumption | (unfold y_Tr; omega))) | ((with_reducible refine y_Tr4 ?_ ?_) <;> (first | with_reducible assumption | omega)) | ((with_reducible refine (y_Tr4 ?_ ?_).ty) <;> (first | with_reducible assumption | omega)) | (unfold y_Ty; omega) | (unfold y_Tr; omega) | (with_reducible exact y_st4t _) | ((with_reducible refine y_Rs.ty ?_ ?_) <;> (first | with_reducible assumption | omega))) (by omega) (by omega) (by omega) (by first | with_reducible assumption | omega | ((with_reducible refine y_Vl ?_ ?_) <;> omega) | ((with_reducible refine y_V8 ?_) <;> (first | with_reducible assumption | (unfold y_Tr; omega))) | ((with_reducible refine y_Tr4 ?_ ?_) <;> (first | with_reducible assumption | omega)) | ((with_reducible refine (y_Tr4 ?_ ?_).ty) <;> (first | with_reducible assumption | omega)) | (unfold y_Ty; omega) | (unfold y_Tr; omega) | (with_reducible exact y_st4t _) | ((with_reducible refine y_Rs.ty ?_ ?_) <;> (first | with_reducible assumption | omega))) (by omega) (by omega) (by first | with_reducible assumption | omega | ((with_reducible refine y_Vl ?_ ?_) <;> omega) | ((with_reducible refine y_V8 ?_) <;> (first | with_reducible assumption | (unfold y_Tr; omega))) | ((with_reducible refine y_Tr4 ?_ ?_) <;> (first | with_reducible assumption | omega)) | ((with_reducible refine (y_Tr4 ?_ ?_).ty) <;> (first | with_reducible assumption | omega)) | (unfold y_Ty; omega) | (unfold y_Tr; omega) | (with_reducible exact y_st4t _) | ((with_reducible refine y_Rs.ty ?_ ?_) <;> (first | with_reducible assumption | omega)))) (fun r_12 h_r_12 => ?_)
            obtain ⟨h0_r_12, h1_r_12, h2_r_12, h3_r_12⟩ := h_r_12
            refine y_some ?_
            try dsimp only
            refine ⟨?_, ?_, ?_, ?_⟩ <;> (first | with_reducible assumption | omega | ((with_reducible refine y_Vl ?_ ?_) <;> omega) | ((with_reducible refine y_V8 ?_) <;> (first | with_reducible assumption | (unfold y_Tr; omega))) | ((with_reducible refine y_Tr4 ?_ ?_) <;> (first | with_reducible assumption | omega)) | ((with_reducible refine (y_Tr4 ?_ ?_).ty) <;> (first | with_reducible assumption | omega)) | (unfold y_Ty; omega) | (unfold y_Tr; omega) | (with_reducible exact y_st4t _) | ((with_reducible refine y_Rs.ty ?_ ?_) <;> (first | with_reducible assumption | omega)))
        · skip
          try have e30 := @y_cl p1 (by omega)
          try have e31 := y_st3 (Int32.toNatClampNeg p1)
          have c26' := c26
          rw [← Int32.toInt_inj] at c26'
          have e32 : (1 : Int32).toInt = 1 := rfl
          refine y_some ?_
          try dsimp only
          refine ⟨?_, ?_, ?_, ?_⟩ <;> (first | with_reducible assumption | omega | ((with_reducible refine y_Vl ?_ ?_) <;> omega) | ((with_reducible refine y_V8 ?_) <;> (first | with_reducible assumption | (unfold y_Tr; omega))) | ((with_reducible refine y_Tr4 ?_ ?_) <;> (first | with_reducible assumption | omega)) | ((with_reducible refine (y_Tr4 ?_ ?_).ty) <;> (first | with_reducible assumption | omega)) | (unfold y_Ty; omega) | (unfold y_Tr; omega) | (with_reducible exact y_st4t _) | ((with_reducible refine y_Rs.ty ?_ ?_) <;> (first | with_reducible assumption | omega)))
set_option maxHeartbeats 4000000 in
theorem y_X6_pullOwner {v7_2 : Int32} {g7_0 : Nat → Int32} {g7_1 : Nat → Int32} {v5_2 : Int32} {v5_3 : Int32} {v5_6 : Int32} {v5_8 : Int32} {v5_9 : Int32} {g5_1 : Nat → Int32} {p1 : Int32} {p2 : Int32} (k0 : 4 ≤ v7_2.toInt) (k1 : v7_2.toInt ≤ 200) (k2 : y_Rg 200 0 199 g7_0) (k3 : 0 ≤ v5_2.toInt) (k4 : v5_2.toInt ≤ v5_3.toInt) (k5 : v5_3.toInt ≤ 400) (k6 : y_AV 400 g5_1) (k7 : 0 ≤ v5_8.toInt) (k8 : v5_8.toInt ≤ 1) (k9 : y_Ty p1) : y_Ok (f_X6_pullOwner v7_2 g7_0 g7_1 v5_2 v5_3 v5_6 v5_8 v5_9 g5_1 p1 p2) (fun r => (v5_2.toInt ≤ r.1.toInt) ∧ (r.1.toInt ≤ v5_3.toInt) ∧ (0 ≤ r.2.2.toInt) ∧ (r.2.2.toInt ≤ 1)) := by
  unfold f_X6_pullOwner
  refine y_if (fun c1 => ?_) (fun c1 => ?_)
  · skip
    have e2 : (0 : Int32).toInt = 0 := rfl
    have c1' := c1
    rw [← Int32.toInt_inj] at c1'
    refine y_bi (y_X5_pullType (by omega) (by omega) (by first | with_reducible assumption | omega | ((with_reducible refine y_Vl ?_ ?_) <;> omega) | ((with_reducible refine y_V8 ?_) <;> (first | with_reducible assumption | (unfold y_Tr; omega))) | ((with_reducible refine y_Tr4 ?_ ?_) <;> (first | with_reducible assumption | omega)) | ((with_reducible refine (y_Tr4 ?_ ?_).ty) <;> (first | with_reducible assumption | omega)) | (unfold y_Ty; omega) | (unfold y_Tr; omega) | (with_reducible exact y_st4t _)) (by omega) (by omega) (by omega) (by first | with_reducible assumption | omega | ((with_reducible refine y_Vl ?_ ?_) <;> omega) | ((with_reducible refine y_V8 ?_) <;> (first | with_reducible assumption | (unfold y_Tr; omega))) | ((with_reducible refine y_Tr4 ?_ ?_) <;> (first | with_reducible assumption | omega)) | ((with_reducible refine (y_Tr4 ?_ ?_).ty) <;> (first | with_reducible assumption | omega)) | (unfold y_Ty; omega) | (unfold y_Tr; omega) | (with_reducible exact y_st4t _)) (by omega) (by omega) (by first | with_reducible assumption | omega | ((with_reducible refine y_Vl ?_ ?_) <;> omega) | ((with_reducible refine y_V8 ?_) <;> (first | with_reducible assumption | (unfold y_Tr; omega))) | ((with_reducible refine y_Tr4 ?_ ?_) <;> (first | with_reducible assumption | omega)) | ((with_reducible refine (y_Tr4 ?_ ?_).ty) <;> (first | with_reducible assumption | omega)) | (unfold y_Ty; omega) | (unfold y_Tr; omega) | (with_reducible exact y_st4t _))) (fun r_2 h_r_2 => ?_)
    obtain ⟨h0_r_2, h1_r_2, h2_r_2, h3_r_2⟩ := h_r_2
    refine y_some ?_
    try dsimp only
    refine ⟨?_, ?_, ?_, ?_⟩ <;> (first | with_reducible assumption | omega | ((with_reducible refine y_Vl ?_ ?_) <;> omega) | ((with_reducible refine y_V8 ?_) <;> (first | with_reducible assumption | (unfold y_Tr; omega))) | ((with_reducible refine y_Tr4 ?_ ?_) <;> (first | with_reducible assumption | omega)) | ((with_reducible refine (y_Tr4 ?_ ?_).ty) <;> (first | with_reducible assumption | omega)) | (unfold y_Ty; omega) | (unfold y_Tr; omega) | (with_reducible exact y_st4t _))
  · skip
    have e3 : (0 : Int32).toInt = 0 := rfl
    have c1' := c1
    rw [← Int32.toInt_inj] at c1'
    refine y_if (fun c4 => ?_) (fun c4 => ?_)
    · skip
      try have e5 := @y_subL v5_3 (1 : Int32) (1) rfl (by omega) (by omega)
      have c4' := c4
      rw [Int32.lt_iff_toInt_lt] at c4'
      refine y_bi (y_X5_pullType (by omega) (by omega) (by first | with_reducible assumption | omega | ((with_reducible refine y_Vl ?_ ?_) <;> omega) | ((with_reducible refine y_V8 ?_) <;> (first | with_reducible assumption | (unfold y_Tr; omega))) | ((with_reducible refine y_Tr4 ?_ ?_) <;> (first | with_reducible assumption | omega)) | ((with_reducible refine (y_Tr4 ?_ ?_).ty) <;> (first | with_reducible assumption | omega)) | (unfold y_Ty; omega) | (unfold y_Tr; omega) | (with_reducible exact y_st4t _)) (by omega) (by omega) (by omega) (by first | with_reducible assumption | omega | ((with_reducible refine y_Vl ?_ ?_) <;> omega) | ((with_reducible refine y_V8 ?_) <;> (first | with_reducible assumption | (unfold y_Tr; omega))) | ((with_reducible refine y_Tr4 ?_ ?_) <;> (first | with_reducible assumption | omega)) | ((with_reducible refine (y_Tr4 ?_ ?_).ty) <;> (first | with_reducible assumption | omega)) | (unfold y_Ty; omega) | (unfold y_Tr; omega) | (with_reducible exact y_st4t _)) (by omega) (by omega) (by first | with_reducible assumption | omega | ((with_reducible refine y_Vl ?_ ?_) <;> omega) | ((with_reducible refine y_V8 ?_) <;> (first | with_reducible assumption | (unfold y_Tr; omega))) | ((with_reducible refine y_Tr4 ?_ ?_) <;> (first | with_reducible assumption | omega)) | ((with_reducible refine (y_Tr4 ?_ ?_).ty) <;> (first | with_reducible assumption | omega)) | (unfold y_Ty; omega) | (unfold y_Tr; omega) | (with_reducible exact y_st4t _))) (fun r_4 h_r_4 => ?_)
      obtain ⟨h0_r_4, h1_r_4, h2_r_4, h3_r_4⟩ := h_r_4
      refine y_some ?_
      try dsimp only
      refine ⟨?_, ?_, ?_, ?_⟩ <;> (first | with_reducible assumption | omega | ((with_reducible refine y_Vl ?_ ?_) <;> omega) | ((with_reducible refine y_V8 ?_) <;> (first | with_reducible assumption | (unfold y_Tr; omega))) | ((with_reducible refine y_Tr4 ?_ ?_) <;> (first | with_reducible assumption | omega)) | ((with_reducible refine (y_Tr4 ?_ ?_).ty) <;> (first | with_reducible assumption | omega)) | (unfold y_Ty; omega) | (unfold y_Tr; omega) | (with_reducible exact y_st4t _))
    · skip
      try have e6 := @y_subL v5_3 (1 : Int32) (1) rfl (by omega) (by omega)
      have c4' := c4
      rw [Int32.lt_iff_toInt_lt] at c4'
      refine y_gd (y_gdI (by omega) (by omega)) ?_
      refine y_if (fun c7 => ?_) (fun c7 => ?_)
      · skip
        try have e8 := @y_cl (v5_3 - (1 : Int32)) (by omega)
        try have e9 := k6.at (Int32.toNatClampNeg (v5_3 - (1 : Int32))) (by omega)
        try have e10 := e9.b
        have e11 : (6 : Int32).toInt = 6 := rfl
        have c7' := c7
        rw [← Int32.toInt_inj] at c7'
        refine y_bi (y_X5_pull (by omega) (by omega) (by omega) (by first | with_reducible assumption | omega | ((with_reducible refine y_Vl ?_ ?_) <;> omega) | ((with_reducible refine y_V8 ?_) <;> (first | with_reducible assumption | (unfold y_Tr; omega))) | ((with_reducible refine y_Tr4 ?_ ?_) <;> (first | with_reducible assumption | omega)) | ((with_reducible refine (y_Tr4 ?_ ?_).ty) <;> (first | with_reducible assumption | omega)) | (unfold y_Ty; omega) | (unfold y_Tr; omega) | (with_reducible exact y_st4t _))) (fun r_8 h_r_8 => ?_)
        obtain ⟨h0_r_8, h1_r_8, h2_r_8, h3_r_8⟩ := h_r_8
        refine y_some ?_
        try dsimp only
        refine ⟨?_, ?_, ?_, ?_⟩ <;> (first | with_reducible assumption | omega | ((with_reducible refine y_Vl ?_ ?_) <;> omega) | ((with_reducible refine y_V8 ?_) <;> (first | with_reducible assumption | (unfold y_Tr; omega))) | ((with_reducible refine y_Tr4 ?_ ?_) <;> (first | with_reducible assumption | omega)) | ((with_reducible refine (y_Tr4 ?_ ?_).ty) <;> (first | with_reducible assumption | omega)) | (unfold y_Ty; omega) | (unfold y_Tr; omega) | (with_reducible exact y_st4t _))
      · skip
        try have e12 := @y_cl (v5_3 - (1 : Int32)) (by omega)
        try have e13 := k6.at (Int32.toNatClampNeg (v5_3 - (1 : Int32))) (by omega)
        try have e14 := e13.b
        have e15 : (6 : Int32).toInt = 6 := rfl
        have c7' := c7
        rw [← Int32.toInt_inj] at c7'
        refine y_bi (y_X5_pullType (by omega) (by omega) (by first | with_reducible assumption | omega | ((with_reducible refine y_Vl ?_ ?_) <;> omega) | ((with_reducible refine y_V8 ?_) <;> (first | with_reducible assumption | (unfold y_Tr; omega))) | ((with_reducible refine y_Tr4 ?_ ?_) <;> (first | with_reducible assumption | omega)) | ((with_reducible refine (y_Tr4 ?_ ?_).ty) <;> (first | with_reducible assumption | omega)) | (unfold y_Ty; omega) | (unfold y_Tr; omega) | (with_reducible exact y_st4t _)) (by omega) (by omega) (by omega) (by first | with_reducible assumption | omega | ((with_reducible refine y_Vl ?_ ?_) <;> omega) | ((with_reducible refine y_V8 ?_) <;> (first | with_reducible assumption | (unfold y_Tr; omega))) | ((with_reducible refine y_Tr4 ?_ ?_) <;> (first | with_reducible assumption | omega)) | ((with_reducible refine (y_Tr4 ?_ ?_).ty) <;> (first | with_reducible assumption | omega)) | (unfold y_Ty; omega) | (unfold y_Tr; omega) | (with_reducible exact y_st4t _)) (by omega) (by omega) (by first | with_reducible assumption | omega | ((with_reducible refine y_Vl ?_ ?_) <;> omega) | ((with_reducible refine y_V8 ?_) <;> (first | with_reducible assumption | (unfold y_Tr; omega))) | ((with_reducible refine y_Tr4 ?_ ?_) <;> (first | with_reducible assumption | omega)) | ((with_reducible refine (y_Tr4 ?_ ?_).ty) <;> (first | with_reducible assumption | omega)) | (unfold y_Ty; omega) | (unfold y_Tr; omega) | (with_reducible exact y_st4t _))) (fun r_7 h_r_7 => ?_)
        obtain ⟨h0_r_7, h1_r_7, h2_r_7, h3_r_7⟩ := h_r_7
        refine y_some ?_
        try dsimp only
        refine ⟨?_, ?_, ?_, ?_⟩ <;> (first | with_reducible assumption | omega | ((with_reducible refine y_Vl ?_ ?_) <;> omega) | ((with_reducible refine y_V8 ?_) <;> (first | with_reducible assumption | (unfold y_Tr; omega))) | ((with_reducible refine y_Tr4 ?_ ?_) <;> (first | with_reducible assumption | omega)) | ((with_reducible refine (y_Tr4 ?_ ?_).ty) <;> (first | with_reducible assumption | omega)) | (unfold y_Ty; omega) | (unfold y_Tr; omega) | (with_reducible exact y_st4t _))
set_option maxHeartbeats 4000000 in
theorem y_X6_useField {v7_2 : Int32} {g7_0 : Nat → Int32} {g7_1 : Nat → Int32} {g4_0 : Nat → Int32} {g4_1 : Nat → Int32} {v0_0 : Int32} {v5_2 : Int32} {v5_3 : Int32} {v5_4 : Int32} {v5_6 : Int32} {v5_8 : Int32} {v5_9 : Int32} {g5_1 : Nat → Int32} {p1 : Int32} {p2 : Int32} (k0 : 4 ≤ v7_2.toInt) (k1 : v7_2.toInt ≤ 200) (k2 : y_Rg 200 0 199 g7_0) (k3 : 0 ≤ v5_2.toInt) (k4 : v5_2.toInt ≤ v5_3.toInt) (k5 : v5_3.toInt ≤ v5_4.toInt) (k6 : v5_4.toInt ≤ 400) (k7 : y_AV 400 g5_1) (k8 : 0 ≤ v5_8.toInt) (k9 : v5_8.toInt ≤ 1) (k10 : y_Rg 100 0 199 g4_0) (k11 : y_ATy 100 g4_1) (k12 : 0 ≤ p2.toInt) (k13 : p2.toInt < 100) : y_Ok (f_X6_useField v7_2 g7_0 g7_1 g4_0 g4_1 v0_0 v5_2 v5_3 v5_4 v5_6 v5_8 v5_9 g5_1 p1 p2) (fun r => (v5_2.toInt ≤ r.1.toInt) ∧ (r.1.toInt ≤ v5_4.toInt) ∧ (0 ≤ r.2.2.1.toInt) ∧ (r.2.2.1.toInt ≤ 1) ∧ (y_AV 400 r.2.2.2)) := by
  unfold f_X6_useField
  refine y_gd (y_gdI (by omega) (by omega)) ?_
  refine y_gd (y_gdI (by omega) (by omega)) ?_
  refine y_if (fun c1 => ?_) (fun c1 => ?_)
  · skip
    have e2 : (179 : Int32).toInt = 179 := rfl
    have c1' := c1
    rw [← Int32.toInt_inj] at c1'
    try have e3 := @y_cl p2 (by omega)
    try have e4 := k11.at (Int32.toNatClampNeg p2) (by omega)
    try have e5 := e4.b
    refine y_bi (y_X5_pullType (by omega) (by omega) (by first | with_reducible assumption | omega | ((with_reducible refine y_Vl ?_ ?_) <;> omega) | ((with_reducible refine y_V8 ?_) <;> (first | with_reducible assumption | (unfold y_Tr; omega))) | ((with_reducible refine y_Tr4 ?_ ?_) <;> (first | with_reducible assumption | omega)) | ((with_reducible refine (y_Tr4 ?_ ?_).ty) <;> (first | with_reducible assumption | omega)) | (unfold y_Ty; omega) | (unfold y_Tr; omega) | (with_reducible exact y_st4t _)) (by omega) (by omega) (by omega) (by first | with_reducible assumption | omega | ((with_reducible refine y_Vl ?_ ?_) <;> omega) | ((with_reducible refine y_V8 ?_) <;> (first | with_reducible assumption | (unfold y_Tr; omega))) | ((with_reducible refine y_Tr4 ?_ ?_) <;> (first | with_reducible assumption | omega)) | ((with_reducible refine (y_Tr4 ?_ ?_).ty) <;> (first | with_reducible assumption | omega)) | (unfold y_Ty; omega) | (unfold y_Tr; omega) | (with_reducible exact y_st4t _)) (by omega) (by omega) (by first | with_reducible assumption | omega | ((with_reducible refine y_Vl ?_ ?_) <;> omega) | ((with_reducible refine y_V8 ?_) <;> (first | with_reducible assumption | (unfold y_Tr; omega))) | ((with_reducible refine y_Tr4 ?_ ?_) <;> (first | with_reducible assumption | omega)) | ((with_reducible refine (y_Tr4 ?_ ?_).ty) <;> (first | with_reducible assumption | omega)) | (unfold y_Ty; omega) | (unfold y_Tr; omega) | (with_reducible exact y_st4t _))) (fun r_5 h_r_5 => ?_)
    obtain ⟨h0_r_5, h1_r_5, h2_r_5, h3_r_5⟩ := h_r_5
    refine y_if (fun c6 => ?_) (fun c6 => ?_)
    · skip
      have e7 : (180 : Int32).toInt = 180 := rfl
      have c6' := c6
      rw [Int32.lt_iff_toInt_lt] at c6'
      refine y_some ?_
      try dsimp only
      refine ⟨?_, ?_, ?_, ?_, ?_⟩ <;> (first | with_reducible assumption | omega | ((with_reducible refine y_Vl ?_ ?_) <;> omega) | ((with_reducible refine y_V8 ?_) <;> (first | with_reducible assumption | (unfold y_Tr; omega))) | ((with_reducible refine y_Tr4 ?_ ?_) <;> (first | with_reducible assumption | omega)) | ((with_reducible refine (y_Tr4 ?_ ?_).ty) <;> (first | with_reducible assumption | omega)) | (unfold y_Ty; omega) | (unfold y_Tr; omega) | (with_reducible exact y_st4t _))
    · skip
      have e8 : (180 : Int32).toInt = 180 := rfl
      have c6' := c6
      rw [Int32.lt_iff_toInt_lt] at c6'
      refine y_if (fun c9 => ?_) (fun c9 => ?_)
      · skip
        try have e10 := k10.at (Int32.toNatClampNeg p2) (by omega)
        have c9' := c9
        rw [← Int32.toInt_inj] at c9'
        have e11 : (1 : Int32).toInt = 1 := rfl
        refine y_bi (y_X6_pullOwner (by omega) (by omega) (by first | with_reducible assumption | omega | ((with_reducible refine y_Vl ?_ ?_) <;> omega) | ((with_reducible refine y_V8 ?_) <;> (first | with_reducible assumption | (unfold y_Tr; omega))) | ((with_reducible refine y_Tr4 ?_ ?_) <;> (first | with_reducible assumption | omega)) | ((with_reducible refine (y_Tr4 ?_ ?_).ty) <;> (first | with_reducible assumption | omega)) | (unfold y_Ty; omega) | (unfold y_Tr; omega) | (with_reducible exact y_st4t _)) (by omega) (by omega) (by omega) (by first | with_reducible assumption | omega | ((with_reducible refine y_Vl ?_ ?_) <;> omega) | ((with_reducible refine y_V8 ?_) <;> (first | with_reducible assumption | (unfold y_Tr; omega))) | ((with_reducible refine y_Tr4 ?_ ?_) <;> (first | with_reducible assumption | omega)) | ((with_reducible refine (y_Tr4 ?_ ?_).ty) <;> (first | with_reducible assumption | omega)) | (unfold y_Ty; omega) | (unfold y_Tr; omega) | (with_reducible exact y_st4t _)) (by omega) (by omega) (by first | with_reducible assumption | omega | ((with_reducible refine y_Vl ?_ ?_) <;> omega) | ((with_reducible refine y_V8 ?_) <;> (first | with_reducible assumption | (unfold y_Tr; omega))) | ((with_reducible refine y_Tr4 ?_ ?_) <;> (first | with_reducible assumption | omega)) | ((with_reducible refine (y_Tr4 ?_ ?_).ty) <;> (first | with_reducible assumption | omega)) | (unfold y_Ty; omega) | (unfold y_Tr; omega) | (with_reducible exact y_st4t _))) (fun r_12 h_r_12 => ?_)
        obtain ⟨h0_r_12, h1_r_12, h2_r_12, h3_r_12⟩ := h_r_12
        refine y_some ?_
        try dsimp only
        refine ⟨?_, ?_, ?_, ?_, ?_⟩ <;> (first | with_reducible assumption | omega | ((with_reducible refine y_Vl ?_ ?_) <;> omega) | ((with_reducible refine y_V8 ?_) <;> (first | with_reducible assumption | (unfold y_Tr; omega))) | ((with_reducible refine y_Tr4 ?_ ?_) <;> (first | with_reducible assumption | omega)) | ((with_reducible refine (y_Tr4 ?_ ?_).ty) <;> (first | with_reducible assumption | omega)) | (unfold y_Ty; omega) | (unfold y_Tr; omega) | (with_reducible exact y_st4t _))
      · skip
        try have e12 := k10.at (Int32.toNatClampNeg p2) (by omega)
        have c9' := c9
        rw [← Int32.toInt_inj] at c9'
        have e13 : (0 : Int32).toInt = 0 := rfl
        refine y_bi (y_X6_pullOwner (by omega) (by omega) (by first | with_reducible assumption | omega | ((with_reducible refine y_Vl ?_ ?_) <;> omega) | ((with_reducible refine y_V8 ?_) <;> (first | with_reducible assumption | (unfold y_Tr; omega))) | ((with_reducible refine y_Tr4 ?_ ?_) <;> (first | with_reducible assumption | omega)) | ((with_reducible refine (y_Tr4 ?_ ?_).ty) <;> (first | with_reducible assumption | omega)) | (unfold y_Ty; omega) | (unfold y_Tr; omega) | (with_reducible exact y_st4t _)) (by omega) (by omega) (by omega) (by first | with_reducible assumption | omega | ((with_reducible refine y_Vl ?_ ?_) <;> omega) | ((with_reducible refine y_V8 ?_) <;> (first | with_reducible assumption | (unfold y_Tr; omega))) | ((with_reducible refine y_Tr4 ?_ ?_) <;> (first | with_reducible assumption | omega)) | ((with_reducible refine (y_Tr4 ?_ ?_).ty) <;> (first | with_reducible assumption | omega)) | (unfold y_Ty; omega) | (unfold y_Tr; omega) | (with_reducible exact y_st4t _)) (by omega) (by omega) (by first | with_reducible assumption | omega | ((with_reducible refine y_Vl ?_ ?_) <;> omega) | ((with_reducible refine y_V8 ?_) <;> (first | with_reducible assumption | (unfold y_Tr; omega))) | ((with_reducible refine y_Tr4 ?_ ?_) <;> (first | with_reducible assumption | omega)) | ((with_reducible refine (y_Tr4 ?_ ?_).ty) <;> (first | with_reducible assumption | omega)) | (unfold y_Ty; omega) | (unfold y_Tr; omega) | (with_reducible exact y_st4t _))) (fun r_10 h_r_10 => ?_)
        obtain ⟨h0_r_10, h1_r_10, h2_r_10, h3_r_10⟩ := h_r_10
        refine y_some ?_
        try dsimp only
        refine ⟨?_, ?_, ?_, ?_, ?_⟩ <;> (first | with_reducible assumption | omega | ((with_reducible refine y_Vl ?_ ?_) <;> omega) | ((with_reducible refine y_V8 ?_) <;> (first | with_reducible assumption | (unfold y_Tr; omega))) | ((with_reducible refine y_Tr4 ?_ ?_) <;> (first | with_reducible assumption | omega)) | ((with_reducible refine (y_Tr4 ?_ ?_).ty) <;> (first | with_reducible assumption | omega)) | (unfold y_Ty; omega) | (unfold y_Tr; omega) | (with_reducible exact y_st4t _))
  · skip
    have e14 : (179 : Int32).toInt = 179 := rfl
    have c1' := c1
    rw [← Int32.toInt_inj] at c1'
    refine y_if (fun c15 => ?_) (fun c15 => ?_)
    · skip
      have e16 : (181 : Int32).toInt = 181 := rfl
      have c15' := c15
      rw [← Int32.toInt_inj] at c15'
      try have e17 := @y_cl p2 (by omega)
      try have e18 := k11.at (Int32.toNatClampNeg p2) (by omega)
      try have e19 := e18.b
      refine y_bi (y_X5_pullType (by omega) (by omega) (by first | with_reducible assumption | omega | ((with_reducible refine y_Vl ?_ ?_) <;> omega) | ((with_reducible refine y_V8 ?_) <;> (first | with_reducible assumption | (unfold y_Tr; omega))) | ((with_reducible refine y_Tr4 ?_ ?_) <;> (first | with_reducible assumption | omega)) | ((with_reducible refine (y_Tr4 ?_ ?_).ty) <;> (first | with_reducible assumption | omega)) | (unfold y_Ty; omega) | (unfold y_Tr; omega) | (with_reducible exact y_st4t _)) (by omega) (by omega) (by omega) (by first | with_reducible assumption | omega | ((with_reducible refine y_Vl ?_ ?_) <;> omega) | ((with_reducible refine y_V8 ?_) <;> (first | with_reducible assumption | (unfold y_Tr; omega))) | ((with_reducible refine y_Tr4 ?_ ?_) <;> (first | with_reducible assumption | omega)) | ((with_reducible refine (y_Tr4 ?_ ?_).ty) <;> (first | with_reducible assumption | omega)) | (unfold y_Ty; omega) | (unfold y_Tr; omega) | (with_reducible exact y_st4t _)) (by omega) (by omega) (by first | with_reducible assumption | omega | ((with_reducible refine y_Vl ?_ ?_) <;> omega) | ((with_reducible refine y_V8 ?_) <;> (first | with_reducible assumption | (unfold y_Tr; omega))) | ((with_reducible refine y_Tr4 ?_ ?_) <;> (first | with_reducible assumption | omega)) | ((with_reducible refine (y_Tr4 ?_ ?_).ty) <;> (first | with_reducible assumption | omega)) | (unfold y_Ty; omega) | (unfold y_Tr; omega) | (with_reducible exact y_st4t _))) (fun r_24 h_r_24 => ?_)
      obtain ⟨h0_r_24, h1_r_24, h2_r_24, h3_r_24⟩ := h_r_24
      refine y_if (fun c20 => ?_) (fun c20 => ?_)
      · skip
        have e21 : (180 : Int32).toInt = 180 := rfl
        have c20' := c20
        rw [Int32.lt_iff_toInt_lt] at c20'
        refine y_some ?_
        try dsimp only
        refine ⟨?_, ?_, ?_, ?_, ?_⟩ <;> (first | with_reducible assumption | omega | ((with_reducible refine y_Vl ?_ ?_) <;> omega) | ((with_reducible refine y_V8 ?_) <;> (first | with_reducible assumption | (unfold y_Tr; omega))) | ((with_reducible refine y_Tr4 ?_ ?_) <;> (first | with_reducible assumption | omega)) | ((with_reducible refine (y_Tr4 ?_ ?_).ty) <;> (first | with_reducible assumption | omega)) | (unfold y_Ty; omega) | (unfold y_Tr; omega) | (with_reducible exact y_st4t _))
      · skip
        have e22 : (180 : Int32).toInt = 180 := rfl
        have c20' := c20
        rw [Int32.lt_iff_toInt_lt] at c20'
        refine y_if (fun c23 => ?_) (fun c23 => ?_)
        · skip
          try have e24 := k10.at (Int32.toNatClampNeg p2) (by omega)
          have c23' := c23
          rw [← Int32.toInt_inj] at c23'
          have e25 : (1 : Int32).toInt = 1 := rfl
          refine y_bi (y_X6_pullOwner (by omega) (by omega) (by first | with_reducible assumption | omega | ((with_reducible refine y_Vl ?_ ?_) <;> omega) | ((with_reducible refine y_V8 ?_) <;> (first | with_reducible assumption | (unfold y_Tr; omega))) | ((with_reducible refine y_Tr4 ?_ ?_) <;> (first | with_reducible assumption | omega)) | ((with_reducible refine (y_Tr4 ?_ ?_).ty) <;> (first | with_reducible assumption | omega)) | (unfold y_Ty; omega) | (unfold y_Tr; omega) | (with_reducible exact y_st4t _)) (by omega) (by omega) (by omega) (by first | with_reducible assumption | omega | ((with_reducible refine y_Vl ?_ ?_) <;> omega) | ((with_reducible refine y_V8 ?_) <;> (first | with_reducible assumption | (unfold y_Tr; omega))) | ((with_reducible refine y_Tr4 ?_ ?_) <;> (first | with_reducible assumption | omega)) | ((with_reducible refine (y_Tr4 ?_ ?_).ty) <;> (first | with_reducible assumption | omega)) | (unfold y_Ty; omega) | (unfold y_Tr; omega) | (with_reducible exact y_st4t _)) (by omega) (by omega) (by first | with_reducible assumption | omega | ((with_reducible refine y_Vl ?_ ?_) <;> omega) | ((with_reducible refine y_V8 ?_) <;> (first | with_reducible assumption | (unfold y_Tr; omega))) | ((with_reducible refine y_Tr4 ?_ ?_) <;> (first | with_reducible assumption | omega)) | ((with_reducible refine (y_Tr4 ?_ ?_).ty) <;> (first | with_reducible assumption | omega)) | (unfold y_Ty; omega) | (unfold y_Tr; omega) | (with_reducible exact y_st4t _))) (fun r_31 h_r_31 => ?_)
          obtain ⟨h0_r_31, h1_r_31, h2_r_31, h3_r_31⟩ := h_r_31
          refine y_some ?_
          try dsimp only
          refine ⟨?_, ?_, ?_, ?_, ?_⟩ <;> (first | with_reducible assumption | omega | ((with_reducible refine y_Vl ?_ ?_) <;> omega) | ((with_reducible refine y_V8 ?_) <;> (first | with_reducible assumption | (unfold y_Tr; omega))) | ((with_reducible refine y_Tr4 ?_ ?_) <;> (first | with_reducible assumption | omega)) | ((with_reducible refine (y_Tr4 ?_ ?_).ty) <;> (first | with_reducible assumption | omega)) | (unfold y_Ty; omega) | (unfold y_Tr; omega) | (with_reducible exact y_st4t _))
        · skip
          try have e26 := k10.at (Int32.toNatClampNeg p2) (by omega)
          have c23' := c23
          rw [← Int32.toInt_inj] at c23'
          have e27 : (0 : Int32).toInt = 0 := rfl
          refine y_bi (y_X6_pullOwner (by omega) (by omega) (by first | with_reducible assumption | omega | ((with_reducible refine y_Vl ?_ ?_) <;> omega) | ((with_reducible refine y_V8 ?_) <;> (first | with_reducible assumption | (unfold y_Tr; omega))) | ((with_reducible refine y_Tr4 ?_ ?_) <;> (first | with_reducible assumption | omega)) | ((with_reducible refine (y_Tr4 ?_ ?_).ty) <;> (first | with_reducible assumption | omega)) | (unfold y_Ty; omega) | (unfold y_Tr; omega) | (with_reducible exact y_st4t _)) (by omega) (by omega) (by omega) (by first | with_reducible assumption | omega | ((with_reducible refine y_Vl ?_ ?_) <;> omega) | ((with_reducible refine y_V8 ?_) <;> (first | with_reducible assumption | (unfold y_Tr; omega))) | ((with_reducible refine y_Tr4 ?_ ?_) <;> (first | with_reducible assumption | omega)) | ((with_reducible refine (y_Tr4 ?_ ?_).ty) <;> (first | with_reducible assumption | omega)) | (unfold y_Ty; omega) | (unfold y_Tr; omega) | (with_reducible exact y_st4t _)) (by omega) (by omega) (by first | with_reducible assumption | omega | ((with_reducible refine y_Vl ?_ ?_) <;> omega) | ((with_reducible refine y_V8 ?_) <;> (first | with_reducible assumption | (unfold y_Tr; omega))) | ((with_reducible refine y_Tr4 ?_ ?_) <;> (first | with_reducible assumption | omega)) | ((with_reducible refine (y_Tr4 ?_ ?_).ty) <;> (first | with_reducible assumption | omega)) | (unfold y_Ty; omega) | (unfold y_Tr; omega) | (with_reducible exact y_st4t _))) (fun r_29 h_r_29 => ?_)
          obtain ⟨h0_r_29, h1_r_29, h2_r_29, h3_r_29⟩ := h_r_29
          refine y_some ?_
          try dsimp only
          refine ⟨?_, ?_, ?_, ?_, ?_⟩ <;> (first | with_reducible assumption | omega | ((with_reducible refine y_Vl ?_ ?_) <;> omega) | ((with_reducible refine y_V8 ?_) <;> (first | with_reducible assumption | (unfold y_Tr; omega))) | ((with_reducible refine y_Tr4 ?_ ?_) <;> (first | with_reducible assumption | omega)) | ((with_reducible refine (y_Tr4 ?_ ?_).ty) <;> (first | with_reducible assumption | omega)) | (unfold y_Ty; omega) | (unfold y_Tr; omega) | (with_reducible exact y_st4t _))
    · skip
      have e28 : (181 : Int32).toInt = 181 := rfl
      have c15' := c15
      rw [← Int32.toInt_inj] at c15'
      refine y_if (fun c29 => ?_) (fun c29 => ?_)
      · skip
        have e30 : (180 : Int32).toInt = 180 := rfl
        have c29' := c29
        rw [Int32.lt_iff_toInt_lt] at c29'
        try have e31 := @y_cl p2 (by omega)
        try have e32 := k11.at (Int32.toNatClampNeg p2) (by omega)
        try have e33 := e32.b
        refine y_bi (y_X5_pushType (v5_2 := v5_2) (by omega) (by omega) (by omega) (by omega) (by first | with_reducible assumption | omega | ((with_reducible refine y_Vl ?_ ?_) <;> omega) | ((with_reducible refine y_V8 ?_) <;> (first | with_reducible assumption | (unfold y_Tr; omega))) | ((with_reducible refine y_Tr4 ?_ ?_) <;> (first | with_reducible assumption | omega)) | ((with_reducible refine (y_Tr4 ?_ ?_).ty) <;> (first | with_reducible assumption | omega)) | (unfold y_Ty; omega) | (unfold y_Tr; omega) | (with_reducible exact y_st4t _)) (by first | with_reducible assumption | omega | ((with_reducible refine y_Vl ?_ ?_) <;> omega) | ((with_reducible refine y_V8 ?_) <;> (first | with_reducible assumption | (unfold y_Tr; omega))) | ((with_reducible refine y_Tr4 ?_ ?_) <;> (first | with_reducible assumption | omega)) | ((with_reducible refine (y_Tr4 ?_ ?_).ty) <;> (first | with_reducible assumption | omega)) | (unfold y_Ty; omega) | (unfold y_Tr; omega) | (with_reducible exact y_st4t _))) (fun r_18 h_r_18 => ?_)
        obtain ⟨h0_r_18, h1_r_18, h2_r_18⟩ := h_r_18
        refine y_some ?_
        try dsimp only
        refine ⟨?_, ?_, ?_, ?_, ?_⟩ <;> (first | with_reducible assumption | omega | ((with_reducible refine y_Vl ?_ ?_) <;> omega) | ((with_reducible refine y_V8 ?_) <;> (first | with_reducible assumption | (unfold y_Tr; omega))) | ((with_reducible refine y_Tr4 ?_ ?_) <;> (first | with_reducible assumption | omega)) | ((with_reducible refine (y_Tr4 ?_ ?_).ty) <;> (first | with_reducible assumption | omega)) | (unfold y_Ty; omega) | (unfold y_Tr; omega) | (with_reducible exact y_st4t _))
      · skip
        have e34 : (180 : Int32).toInt = 180 := rfl
        have c29' := c29
        rw [Int32.lt_iff_toInt_lt] at c29'
        try have e35 := @y_cl p2 (by omega)
        try have e36 := k10.at (Int32.toNatClampNeg p2) (by omega)
        have e37 : (0 : Int32).toInt = 0 := rfl
        refine y_bi (y_X6_pullOwner (by omega) (by omega) (by first | with_reducible assumption | omega | ((with_reducible refine y_Vl ?_ ?_) <;> omega) | ((with_reducible refine y_V8 ?_) <;> (first | with_reducible assumption | (unfold y_Tr; omega))) | ((with_reducible refine y_Tr4 ?_ ?_) <;> (first | with_reducible assumption | omega)) | ((with_reducible refine (y_Tr4 ?_ ?_).ty) <;> (first | with_reducible assumption | omega)) | (unfold y_Ty; omega) | (unfold y_Tr; omega) | (with_reducible exact y_st4t _)) (by omega) (by omega) (by omega) (by first | with_reducible assumption | omega | ((with_reducible refine y_Vl ?_ ?_) <;> omega) | ((with_reducible refine y_V8 ?_) <;> (first | with_reducible assumption | (unfold y_Tr; omega))) | ((with_reducible refine y_Tr4 ?_ ?_) <;> (first | with_reducible assumption | omega)) | ((with_reducible refine (y_Tr4 ?_ ?_).ty) <;> (first | with_reducible assumption | omega)) | (unfold y_Ty; omega) | (unfold y_Tr; omega) | (with_reducible exact y_st4t _)) (by omega) (by omega) (by first | with_reducible assumption | omega | ((with_reducible refine y_Vl ?_ ?_) <;> omega) | ((with_reducible refine y_V8 ?_) <;> (first | with_reducible assumption | (unfold y_Tr; omega))) | ((with_reducible refine y_Tr4 ?_ ?_) <;> (first | with_reducible assumption | omega)) | ((with_reducible refine (y_Tr4 ?_ ?_).ty) <;> (first | with_reducible assumption | omega)) | (unfold y_Ty; omega) | (unfold y_Tr; omega) | (with_reducible exact y_st4t _))) (fun r_20 h_r_20 => ?_)
        obtain ⟨h0_r_20, h1_r_20, h2_r_20, h3_r_20⟩ := h_r_20
        try have e38 := k11.at (Int32.toNatClampNeg p2) (by omega)
        try have e39 := e38.b
        refine y_bi (y_X5_pushType (v5_2 := v5_2) (by omega) (by omega) (by omega) (by omega) (by first | with_reducible assumption | omega | ((with_reducible refine y_Vl ?_ ?_) <;> omega) | ((with_reducible refine y_V8 ?_) <;> (first | with_reducible assumption | (unfold y_Tr; omega))) | ((with_reducible refine y_Tr4 ?_ ?_) <;> (first | with_reducible assumption | omega)) | ((with_reducible refine (y_Tr4 ?_ ?_).ty) <;> (first | with_reducible assumption | omega)) | (unfold y_Ty; omega) | (unfold y_Tr; omega) | (with_reducible exact y_st4t _)) (by first | with_reducible assumption | omega | ((with_reducible refine y_Vl ?_ ?_) <;> omega) | ((with_reducible refine y_V8 ?_) <;> (first | with_reducible assumption | (unfold y_Tr; omega))) | ((with_reducible refine y_Tr4 ?_ ?_) <;> (first | with_reducible assumption | omega)) | ((with_reducible refine (y_Tr4 ?_ ?_).ty) <;> (first | with_reducible assumption | omega)) | (unfold y_Ty; omega) | (unfold y_Tr; omega) | (with_reducible exact y_st4t _))) (fun r_22 h_r_22 => ?_)
        obtain ⟨h0_r_22, h1_r_22, h2_r_22⟩ := h_r_22
        refine y_some ?_
        try dsimp only
        refine ⟨?_, ?_, ?_, ?_, ?_⟩ <;> (first | with_reducible assumption | omega | ((with_reducible refine y_Vl ?_ ?_) <;> omega) | ((with_reducible refine y_V8 ?_) <;> (first | with_reducible assumption | (unfold y_Tr; omega))) | ((with_reducible refine y_Tr4 ?_ ?_) <;> (first | with_reducible assumption | omega)) | ((with_reducible refine (y_Tr4 ?_ ?_).ty) <;> (first | with_reducible assumption | omega)) | (unfold y_Ty; omega) | (unfold y_Tr; omega) | (with_reducible exact y_st4t _))
set_option maxHeartbeats 4000000 in
theorem y_X6_construct {g7_0 : Nat → Int32} {v0_0 : Int32} {v0_10 : Int32} {g0_8 : Nat → Int32} {v5_2 : Int32} {v5_3 : Int32} {v5_5 : Int32} {v5_6 : Int32} {v5_7 : Int32} {g5_1 : Nat → Int32} {p1 : Int32} {p2 : Int32} (k0 : 0 ≤ v5_2.toInt) (k1 : v5_2.toInt ≤ v5_3.toInt) (k2 : v5_3.toInt ≤ 400) (k3 : y_AV 400 g5_1) (k4 : 0 ≤ v0_0.toInt) (k5 : v0_0.toInt ≤ 199) (k6 : 0 ≤ v5_5.toInt) (k7 : v5_5.toInt ≤ 1) (k8 : v0_10.toInt ≤ 1000) (k9 : 0 ≤ p2.toInt) (k10 : p2.toInt ≤ 199) : y_Ok (f_X6_construct g7_0 v0_0 v0_10 g0_8 v5_2 v5_3 v5_5 v5_6 v5_7 g5_1 p1 p2) (fun r => (v5_2.toInt ≤ r.1.toInt) ∧ (r.1.toInt ≤ v5_3.toInt) ∧ (0 ≤ r.2.1.toInt) ∧ (r.2.1.toInt ≤ 1) ∧ (y_AV 400 r.2.2.2.2)) := by
  unfold f_X6_construct
  refine y_bi (y_X5_pull (by omega) (by omega) (by omega) (by first | with_reducible assumption | omega | ((with_reducible refine y_Vl ?_ ?_) <;> omega) | ((with_reducible refine y_V8 ?_) <;> (first | with_reducible assumption | (unfold y_Tr; omega))) | ((with_reducible refine y_Tr4 ?_ ?_) <;> (first | with_reducible assumption | omega)) | ((with_reducible refine (y_Tr4 ?_ ?_).ty) <;> (first | with_reducible assumption | omega)) | (unfold y_Ty; omega) | (unfold y_Tr; omega) | (with_reducible exact y_st4t _))) (fun r_1 h_r_1 => ?_)
  obtain ⟨h0_r_1, h1_r_1, h2_r_1, h3_r_1⟩ := h_r_1
  have hb1 := h0_r_1.b
  refine y_if (fun c1 => ?_) (fun c1 => ?_)
  · skip
    have e2 : (183 : Int32).toInt = 183 := rfl
    have c1' := c1
    rw [← Int32.toInt_inj] at c1'
    refine y_if (fun c3 => ?_) (fun c3 => ?_)
    · skip
      have e4 := y_and4 r_1.1
      have e5 : (9 : Int32).toInt = 9 := rfl
      have c3' := c3
      rw [← Int32.toInt_inj] at c3'
      refine y_if (fun c6 => ?_) (fun c6 => ?_)
      · skip
        have e7 := y_sar4 r_1.1
        have c6' := c6
        rw [Int32.le_iff_toInt_le] at c6'
        refine y_if (fun c8 => ?_) (fun c8 => ?_)
        · skip
          have c8' := c8
          rw [← Int32.toInt_inj] at c8'
          refine y_if (fun c9 => ?_) (fun c9 => ?_)
          · skip
            have e10 : (6 : Int32).toInt = 6 := rfl
            have c9' := c9
            rw [← Int32.toInt_inj] at c9'
            refine y_if (fun c11 => ?_) (fun c11 => ?_)
            · skip
              have c11' := c11
              rw [← Int32.toInt_inj] at c11'
              refine y_bi (y_X7_placeOf (by first | with_reducible assumption | omega | ((with_reducible refine y_Vl ?_ ?_) <;> omega) | ((with_reducible refine y_V8 ?_) <;> (first | with_reducible assumption | (unfold y_Tr; omega))) | ((with_reducible refine y_Tr4 ?_ ?_) <;> (first | with_reducible assumption | omega)) | ((with_reducible refine (y_Tr4 ?_ ?_).ty) <;> (first | with_reducible assumption | omega)) | (unfold y_Ty; omega) | (unfold y_Tr; omega) | (with_reducible exact y_st4t _))) (fun r_26 h_r_26 => ?_)
              have h0_r_26 : y_V r_26 := h_r_26
              refine y_bi (y_X5_replaceAll (by omega) (by first | with_reducible assumption | omega | ((with_reducible refine y_Vl ?_ ?_) <;> omega) | ((with_reducible refine y_V8 ?_) <;> (first | with_reducible assumption | (unfold y_Tr; omega))) | ((with_reducible refine y_Tr4 ?_ ?_) <;> (first | with_reducible assumption | omega)) | ((with_reducible refine (y_Tr4 ?_ ?_).ty) <;> (first | with_reducible assumption | omega)) | (unfold y_Ty; omega) | (unfold y_Tr; omega) | (with_reducible exact y_st4t _)) (by first | with_reducible assumption | omega | ((with_reducible refine y_Vl ?_ ?_) <;> omega) | ((with_reducible refine y_V8 ?_) <;> (first | with_reducible assumption | (unfold y_Tr; omega))) | ((with_reducible refine y_Tr4 ?_ ?_) <;> (first | with_reducible assumption | omega)) | ((with_reducible refine (y_Tr4 ?_ ?_).ty) <;> (first | with_reducible assumption | omega)) | (unfold y_Ty; omega) | (unfold y_Tr; omega) | (with_reducible exact y_st4t _))) (fun r_27 h_r_27 => ?_)
              have h0_r_27 : y_AV 400 r_27.2 := h_r_27
              have e12 : (1 : Int32).toInt = 1 := rfl
              refine y_some ?_
              try dsimp only
              refine ⟨?_, ?_, ?_, ?_, ?_⟩ <;> (first | with_reducible assumption | omega | ((with_reducible refine y_Vl ?_ ?_) <;> omega) | ((with_reducible refine y_V8 ?_) <;> (first | with_reducible assumption | (unfold y_Tr; omega))) | ((with_reducible refine y_Tr4 ?_ ?_) <;> (first | with_reducible assumption | omega)) | ((with_reducible refine (y_Tr4 ?_ ?_).ty) <;> (first | with_reducible assumption | omega)) | (unfold y_Ty; omega) | (unfold y_Tr; omega) | (with_reducible exact y_st4t _))
            · skip
              have c11' := c11
              rw [← Int32.toInt_inj] at c11'
              refine y_gd (y_gdI (by omega) (by omega)) ?_
              refine y_if (fun c13 => ?_) (fun c13 => ?_)
              · skip
                try have e14 := @y_cl v0_0 (by omega)
                have c13' := c13
                rw [← Int32.toInt_inj] at c13'
                refine y_bi (y_X7_placeOf (by first | with_reducible assumption | omega | ((with_reducible refine y_Vl ?_ ?_) <;> omega) | ((with_reducible refine y_V8 ?_) <;> (first | with_reducible assumption | (unfold y_Tr; omega))) | ((with_reducible refine y_Tr4 ?_ ?_) <;> (first | with_reducible assumption | omega)) | ((with_reducible refine (y_Tr4 ?_ ?_).ty) <;> (first | with_reducible assumption | omega)) | (unfold y_Ty; omega) | (unfold y_Tr; omega) | (with_reducible exact y_st4t _))) (fun r_30 h_r_30 => ?_)
                have h0_r_30 : y_V r_30 := h_r_30
                refine y_bi (y_X5_replaceAll (by omega) (by first | with_reducible assumption | omega | ((with_reducible refine y_Vl ?_ ?_) <;> omega) | ((with_reducible refine y_V8 ?_) <;> (first | with_reducible assumption | (unfold y_Tr; omega))) | ((with_reducible refine y_Tr4 ?_ ?_) <;> (first | with_reducible assumption | omega)) | ((with_reducible refine (y_Tr4 ?_ ?_).ty) <;> (first | with_reducible assumption | omega)) | (unfold y_Ty; omega) | (unfold y_Tr; omega) | (with_reducible exact y_st4t _)) (by first | with_reducible assumption | omega | ((with_reducible refine y_Vl ?_ ?_) <;> omega) | ((with_reducible refine y_V8 ?_) <;> (first | with_reducible assumption | (unfold y_Tr; omega))) | ((with_reducible refine y_Tr4 ?_ ?_) <;> (first | with_reducible assumption | omega)) | ((with_reducible refine (y_Tr4 ?_ ?_).ty) <;> (first | with_reducible assumption | omega)) | (unfold y_Ty; omega) | (unfold y_Tr; omega) | (with_reducible exact y_st4t _))) (fun r_31 h_r_31 => ?_)
                have h0_r_31 : y_AV 400 r_31.2 := h_r_31
                have e15 : (1 : Int32).toInt = 1 := rfl
                refine y_some ?_
                try dsimp only
                refine ⟨?_, ?_, ?_, ?_, ?_⟩ <;> (first | with_reducible assumption | omega | ((with_reducible refine y_Vl ?_ ?_) <;> omega) | ((with_reducible refine y_V8 ?_) <;> (first | with_reducible assumption | (unfold y_Tr; omega))) | ((with_reducible refine y_Tr4 ?_ ?_) <;> (first | with_reducible assumption | omega)) | ((with_reducible refine (y_Tr4 ?_ ?_).ty) <;> (first | with_reducible assumption | omega)) | (unfold y_Ty; omega) | (unfold y_Tr; omega) | (with_reducible exact y_st4t _))
              · skip
                try have e16 := @y_cl v0_0 (by omega)
                have c13' := c13
                rw [← Int32.toInt_inj] at c13'
                have e17 : (1 : Int32).toInt = 1 := rfl
                refine y_some ?_
                try dsimp only
                refine ⟨?_, ?_, ?_, ?_, ?_⟩ <;> (first | with_reducible assumption | omega | ((with_reducible refine y_Vl ?_ ?_) <;> omega) | ((with_reducible refine y_V8 ?_) <;> (first | with_reducible assumption | (unfold y_Tr; omega))) | ((with_reducible refine y_Tr4 ?_ ?_) <;> (first | with_reducible assumption | omega)) | ((with_reducible refine (y_Tr4 ?_ ?_).ty) <;> (first | with_reducible assumption | omega)) | (unfold y_Ty; omega) | (unfold y_Tr; omega) | (with_reducible exact y_st4t _))
          · skip
            have e18 : (6 : Int32).toInt = 6 := rfl
            have c9' := c9
            rw [← Int32.toInt_inj] at c9'
            have e19 : (1 : Int32).toInt = 1 := rfl
            refine y_some ?_
            try dsimp only
            refine ⟨?_, ?_, ?_, ?_, ?_⟩ <;> (first | with_reducible assumption | omega | ((with_reducible refine y_Vl ?_ ?_) <;> omega) | ((with_reducible refine y_V8 ?_) <;> (first | with_reducible assumption | (unfold y_Tr; omega))) | ((with_reducible refine y_Tr4 ?_ ?_) <;> (first | with_reducible assumption | omega)) | ((with_reducible refine (y_Tr4 ?_ ?_).ty) <;> (first | with_reducible assumption | omega)) | (unfold y_Ty; omega) | (unfold y_Tr; omega) | (with_reducible exact y_st4t _))
        · skip
          have c8' := c8
          rw [← Int32.toInt_inj] at c8'
          have e20 : (1 : Int32).toInt = 1 := rfl
          refine y_some ?_
          try dsimp only
          refine ⟨?_, ?_, ?_, ?_, ?_⟩ <;> (first | with_reducible assumption | omega | ((with_reducible refine y_Vl ?_ ?_) <;> omega) | ((with_reducible refine y_V8 ?_) <;> (first | with_reducible assumption | (unfold y_Tr; omega))) | ((with_reducible refine y_Tr4 ?_ ?_) <;> (first | with_reducible assumption | omega)) | ((with_reducible refine (y_Tr4 ?_ ?_).ty) <;> (first | with_reducible assumption | omega)) | (unfold y_Ty; omega) | (unfold y_Tr; omega) | (with_reducible exact y_st4t _))
      · skip
        have e21 := y_sar4 r_1.1
        have c6' := c6
        rw [Int32.le_iff_toInt_le] at c6'
        refine y_gd (y_gdI (by omega) (by omega)) ?_
        refine y_if (fun c22 => ?_) (fun c22 => ?_)
        · skip
          try have e23 := @y_cl (r_1.1 >>> (4 &&& 31)) (by omega)
          have c22' := c22
          rw [← Int32.toInt_inj] at c22'
          refine y_bi (y_X7_placeOf (by first | with_reducible assumption | omega | ((with_reducible refine y_Vl ?_ ?_) <;> omega) | ((with_reducible refine y_V8 ?_) <;> (first | with_reducible assumption | (unfold y_Tr; omega))) | ((with_reducible refine y_Tr4 ?_ ?_) <;> (first | with_reducible assumption | omega)) | ((with_reducible refine (y_Tr4 ?_ ?_).ty) <;> (first | with_reducible assumption | omega)) | (unfold y_Ty; omega) | (unfold y_Tr; omega) | (with_reducible exact y_st4t _))) (fun r_43 h_r_43 => ?_)
          have h0_r_43 : y_V r_43 := h_r_43
          refine y_bi (y_X5_replaceAll (by omega) (by first | with_reducible assumption | omega | ((with_reducible refine y_Vl ?_ ?_) <;> omega) | ((with_reducible refine y_V8 ?_) <;> (first | with_reducible assumption | (unfold y_Tr; omega))) | ((with_reducible refine y_Tr4 ?_ ?_) <;> (first | with_reducible assumption | omega)) | ((with_reducible refine (y_Tr4 ?_ ?_).ty) <;> (first | with_reducible assumption | omega)) | (unfold y_Ty; omega) | (unfold y_Tr; omega) | (with_reducible exact y_st4t _)) (by first | with_reducible assumption | omega | ((with_reducible refine y_Vl ?_ ?_) <;> omega) | ((with_reducible refine y_V8 ?_) <;> (first | with_reducible assumption | (unfold y_Tr; omega))) | ((with_reducible refine y_Tr4 ?_ ?_) <;> (first | with_reducible assumption | omega)) | ((with_reducible refine (y_Tr4 ?_ ?_).ty) <;> (first | with_reducible assumption | omega)) | (unfold y_Ty; omega) | (unfold y_Tr; omega) | (with_reducible exact y_st4t _))) (fun r_44 h_r_44 => ?_)
          have h0_r_44 : y_AV 400 r_44.2 := h_r_44
          refine y_some ?_
          try dsimp only
          refine ⟨?_, ?_, ?_, ?_, ?_⟩ <;> (first | with_reducible assumption | omega | ((with_reducible refine y_Vl ?_ ?_) <;> omega) | ((with_reducible refine y_V8 ?_) <;> (first | with_reducible assumption | (unfold y_Tr; omega))) | ((with_reducible refine y_Tr4 ?_ ?_) <;> (first | with_reducible assumption | omega)) | ((with_reducible refine (y_Tr4 ?_ ?_).ty) <;> (first | with_reducible assumption | omega)) | (unfold y_Ty; omega) | (unfold y_Tr; omega) | (with_reducible exact y_st4t _))
        · skip
          try have e24 := @y_cl (r_1.1 >>> (4 &&& 31)) (by omega)
          have c22' := c22
          rw [← Int32.toInt_inj] at c22'
          refine y_if (fun c25 => ?_) (fun c25 => ?_)
          · skip
            have c25' := c25
            rw [← Int32.toInt_inj] at c25'
            refine y_if (fun c26 => ?_) (fun c26 => ?_)
            · skip
              have e27 : (6 : Int32).toInt = 6 := rfl
              have c26' := c26
              rw [← Int32.toInt_inj] at c26'
              refine y_if (fun c28 => ?_) (fun c28 => ?_)
              · skip
                have c28' := c28
                rw [← Int32.toInt_inj] at c28'
                refine y_bi (y_X7_placeOf (by first | with_reducible assumption | omega | ((with_reducible refine y_Vl ?_ ?_) <;> omega) | ((with_reducible refine y_V8 ?_) <;> (first | with_reducible assumption | (unfold y_Tr; omega))) | ((with_reducible refine y_Tr4 ?_ ?_) <;> (first | with_reducible assumption | omega)) | ((with_reducible refine (y_Tr4 ?_ ?_).ty) <;> (first | with_reducible assumption | omega)) | (unfold y_Ty; omega) | (unfold y_Tr; omega) | (with_reducible exact y_st4t _))) (fun r_37 h_r_37 => ?_)
                have h0_r_37 : y_V r_37 := h_r_37
                refine y_bi (y_X5_replaceAll (by omega) (by first | with_reducible assumption | omega | ((with_reducible refine y_Vl ?_ ?_) <;> omega) | ((with_reducible refine y_V8 ?_) <;> (first | with_reducible assumption | (unfold y_Tr; omega))) | ((with_reducible refine y_Tr4 ?_ ?_) <;> (first | with_reducible assumption | omega)) | ((with_reducible refine (y_Tr4 ?_ ?_).ty) <;> (first | with_reducible assumption | omega)) | (unfold y_Ty; omega) | (unfold y_Tr; omega) | (with_reducible exact y_st4t _)) (by first | with_reducible assumption | omega | ((with_reducible refine y_Vl ?_ ?_) <;> omega) | ((with_reducible refine y_V8 ?_) <;> (first | with_reducible assumption | (unfold y_Tr; omega))) | ((with_reducible refine y_Tr4 ?_ ?_) <;> (first | with_reducible assumption | omega)) | ((with_reducible refine (y_Tr4 ?_ ?_).ty) <;> (first | with_reducible assumption | omega)) | (unfold y_Ty; omega) | (unfold y_Tr; omega) | (with_reducible exact y_st4t _))) (fun r_38 h_r_38 => ?_)
                have h0_r_38 : y_AV 400 r_38.2 := h_r_38
                have e29 : (1 : Int32).toInt = 1 := rfl
                refine y_some ?_
                try dsimp only
                refine ⟨?_, ?_, ?_, ?_, ?_⟩ <;> (first | with_reducible assumption | omega | ((with_reducible refine y_Vl ?_ ?_) <;> omega) | ((with_reducible refine y_V8 ?_) <;> (first | with_reducible assumption | (unfold y_Tr; omega))) | ((with_reducible refine y_Tr4 ?_ ?_) <;> (first | with_reducible assumption | omega)) | ((with_reducible refine (y_Tr4 ?_ ?_).ty) <;> (first | with_reducible assumption | omega)) | (unfold y_Ty; omega) | (unfold y_Tr; omega) | (with_reducible exact y_st4t _))
              · skip
                have c28' := c28
                rw [← Int32.toInt_inj] at c28'
                refine y_gd (y_gdI (by omega) (by omega)) ?_
                refine y_if (fun c30 => ?_) (fun c30 => ?_)
                · skip
                  try have e31 := @y_cl v0_0 (by omega)
                  have c30' := c30
                  rw [← Int32.toInt_inj] at c30'
                  refine y_bi (y_X7_placeOf (by first | with_reducible assumption | omega | ((with_reducible refine y_Vl ?_ ?_) <;> omega) | ((with_reducible refine y_V8 ?_) <;> (first | with_reducible assumption | (unfold y_Tr; omega))) | ((with_reducible refine y_Tr4 ?_ ?_) <;> (first | with_reducible assumption | omega)) | ((with_reducible refine (y_Tr4 ?_ ?_).ty) <;> (first | with_reducible assumption | omega)) | (unfold y_Ty; omega) | (unfold y_Tr; omega) | (with_reducible exact y_st4t _))) (fun r_41 h_r_41 => ?_)
                  have h0_r_41 : y_V r_41 := h_r_41
                  refine y_bi (y_X5_replaceAll (by omega) (by first | with_reducible assumption | omega | ((with_reducible refine y_Vl ?_ ?_) <;> omega) | ((with_reducible refine y_V8 ?_) <;> (first | with_reducible assumption | (unfold y_Tr; omega))) | ((with_reducible refine y_Tr4 ?_ ?_) <;> (first | with_reducible assumption | omega)) | ((with_reducible refine (y_Tr4 ?_ ?_).ty) <;> (first | with_reducible assumption | omega)) | (unfold y_Ty; omega) | (unfold y_Tr; omega) | (with_reducible exact y_st4t _)) (by first | with_reducible assumption | omega | ((with_reducible refine y_Vl ?_ ?_) <;> omega) | ((with_reducible refine y_V8 ?_) <;> (first | with_reducible assumption | (unfold y_Tr; omega))) | ((with_reducible refine y_Tr4 ?_ ?_) <;> (first | with_reducible assumption | omega)) | ((with_reducible refine (y_Tr4 ?_ ?_).ty) <;> (first | with_reducible assumption | omega)) | (unfold y_Ty; omega) | (unfold y_Tr; omega) | (with_reducible exact y_st4t _))) (fun r_42 h_r_42 => ?_)
                  have h0_r_42 : y_AV 400 r_42.2 := h_r_42
                  have e32 : (1 : Int32).toInt = 1 := rfl
                  refine y_some ?_
                  try dsimp only
                  refine ⟨?_, ?_, ?_, ?_, ?_⟩ <;> (first | with_reducible assumption | omega | ((with_reducible refine y_Vl ?_ ?_) <;> omega) | ((with_reducible refine y_V8 ?_) <;> (first | with_reducible assumption | (unfold y_Tr; omega))) | ((with_reducible refine y_Tr4 ?_ ?_) <;> (first | with_reducible assumption | omega)) | ((with_reducible refine (y_Tr4 ?_ ?_).ty) <;> (first | with_reducible assumption | omega)) | (unfold y_Ty; omega) | (unfold y_Tr; omega) | (with_reducible exact y_st4t _))
                · skip
                  try have e33 := @y_cl v0_0 (by omega)
                  have c30' := c30
                  rw [← Int32.toInt_inj] at c30'
                  have e34 : (1 : Int32).toInt = 1 := rfl
                  refine y_some ?_
                  try dsimp only
                  refine ⟨?_, ?_, ?_, ?_, ?_⟩ <;> (first | with_reducible assumption | omega | ((with_reducible refine y_Vl ?_ ?_) <;> omega) | ((with_reducible refine y_V8 ?_) <;> (first | with_reducible assumption | (unfold y_Tr; omega))) | ((with_reducible refine y_Tr4 ?_ ?_) <;> (first | with_reducible assumption | omega)) | ((with_reducible refine (y_Tr4 ?_ ?_).ty) <;> (first | with_reducible assumption | omega)) | (unfold y_Ty; omega) | (unfold y_Tr; omega) | (with_reducible exact y_st4t _))
            · skip
              have e35 : (6 : Int32).toInt = 6 := rfl
              have c26' := c26
              rw [← Int32.toInt_inj] at c26'
              have e36 : (1 : Int32).toInt = 1 := rfl
              refine y_some ?_
              try dsimp only
              refine ⟨?_, ?_, ?_, ?_, ?_⟩ <;> (first | with_reducible assumption | omega | ((with_reducible refine y_Vl ?_ ?_) <;> omega) | ((with_reducible refine y_V8 ?_) <;> (first | with_reducible assumption | (unfold y_Tr; omega))) | ((with_reducible refine y_Tr4 ?_ ?_) <;> (first | with_reducible assumption | omega)) | ((with_reducible refine (y_Tr4 ?_ ?_).ty) <;> (first | with_reducible assumption | omega)) | (unfold y_Ty; omega) | (unfold y_Tr; omega) | (with_reducible exact y_st4t _))
          · skip
            have c25' := c25
            rw [← Int32.toInt_inj] at c25'
            have e37 : (1 : Int32).toInt = 1 := rfl
            refine y_some ?_
            try dsimp only
            refine ⟨?_, ?_, ?_, ?_, ?_⟩ <;> (first | with_reducible assumption | omega | ((with_reducible refine y_Vl ?_ ?_) <;> omega) | ((with_reducible refine y_V8 ?_) <;> (first | with_reducible assumption | (unfold y_Tr; omega))) | ((with_reducible refine y_Tr4 ?_ ?_) <;> (first | with_reducible assumption | omega)) | ((with_reducible refine (y_Tr4 ?_ ?_).ty) <;> (first | with_reducible assumption | omega)) | (unfold y_Ty; omega) | (unfold y_Tr; omega) | (with_reducible exact y_st4t _))
    · skip
      have e38 := y_and4 r_1.1
      have e39 : (9 : Int32).toInt = 9 := rfl
      have c3' := c3
      rw [← Int32.toInt_inj] at c3'
      refine y_if (fun c40 => ?_) (fun c40 => ?_)
      · skip
        have c40' := c40
        rw [← Int32.toInt_inj] at c40'
        refine y_if (fun c41 => ?_) (fun c41 => ?_)
        · skip
          have e42 : (6 : Int32).toInt = 6 := rfl
          have c41' := c41
          rw [← Int32.toInt_inj] at c41'
          refine y_if (fun c43 => ?_) (fun c43 => ?_)
          · skip
            have c43' := c43
            rw [← Int32.toInt_inj] at c43'
            refine y_bi (y_X7_placeOf (by first | with_reducible assumption | omega | ((with_reducible refine y_Vl ?_ ?_) <;> omega) | ((with_reducible refine y_V8 ?_) <;> (first | with_reducible assumption | (unfold y_Tr; omega))) | ((with_reducible refine y_Tr4 ?_ ?_) <;> (first | with_reducible assumption | omega)) | ((with_reducible refine (y_Tr4 ?_ ?_).ty) <;> (first | with_reducible assumption | omega)) | (unfold y_Ty; omega) | (unfold y_Tr; omega) | (with_reducible exact y_st4t _))) (fun r_16 h_r_16 => ?_)
            have h0_r_16 : y_V r_16 := h_r_16
            refine y_bi (y_X5_replaceAll (by omega) (by first | with_reducible assumption | omega | ((with_reducible refine y_Vl ?_ ?_) <;> omega) | ((with_reducible refine y_V8 ?_) <;> (first | with_reducible assumption | (unfold y_Tr; omega))) | ((with_reducible refine y_Tr4 ?_ ?_) <;> (first | with_reducible assumption | omega)) | ((with_reducible refine (y_Tr4 ?_ ?_).ty) <;> (first | with_reducible assumption | omega)) | (unfold y_Ty; omega) | (unfold y_Tr; omega) | (with_reducible exact y_st4t _)) (by first | with_reducible assumption | omega | ((with_reducible refine y_Vl ?_ ?_) <;> omega) | ((with_reducible refine y_V8 ?_) <;> (first | with_reducible assumption | (unfold y_Tr; omega))) | ((with_reducible refine y_Tr4 ?_ ?_) <;> (first | with_reducible assumption | omega)) | ((with_reducible refine (y_Tr4 ?_ ?_).ty) <;> (first | with_reducible assumption | omega)) | (unfold y_Ty; omega) | (unfold y_Tr; omega) | (with_reducible exact y_st4t _))) (fun r_17 h_r_17 => ?_)
            have h0_r_17 : y_AV 400 r_17.2 := h_r_17
            have e44 : (1 : Int32).toInt = 1 := rfl
            refine y_some ?_
            try dsimp only
            refine ⟨?_, ?_, ?_, ?_, ?_⟩ <;> (first | with_reducible assumption | omega | ((with_reducible refine y_Vl ?_ ?_) <;> omega) | ((with_reducible refine y_V8 ?_) <;> (first | with_reducible assumption | (unfold y_Tr; omega))) | ((with_reducible refine y_Tr4 ?_ ?_) <;> (first | with_reducible assumption | omega)) | ((with_reducible refine (y_Tr4 ?_ ?_).ty) <;> (first | with_reducible assumption | omega)) | (unfold y_Ty; omega) | (unfold y_Tr; omega) | (with_reducible exact y_st4t _))
          · skip
            have c43' := c43
            rw [← Int32.toInt_inj] at c43'
            refine y_gd (y_gdI (by omega) (by omega)) ?_
            refine y_if (fun c45 => ?_) (fun c45 => ?_)
            · skip
              try have e46 := @y_cl v0_0 (by omega)
              have c45' := c45
              rw [← Int32.toInt_inj] at c45'
              refine y_bi (y_X7_placeOf (by first | with_reducible assumption | omega | ((with_reducible refine y_Vl ?_ ?_) <;> omega) | ((with_reducible refine y_V8 ?_) <;> (first | with_reducible assumption | (unfold y_Tr; omega))) | ((with_reducible refine y_Tr4 ?_ ?_) <;> (first | with_reducible assumption | omega)) | ((with_reducible refine (y_Tr4 ?_ ?_).ty) <;> (first | with_reducible assumption | omega)) | (unfold y_Ty; omega) | (unfold y_Tr; omega) | (with_reducible exact y_st4t _))) (fun r_20 h_r_20 => ?_)
              have h0_r_20 : y_V r_20 := h_r_20
              refine y_bi (y_X5_replaceAll (by omega) (by first | with_reducible assumption | omega | ((with_reducible refine y_Vl ?_ ?_) <;> omega) | ((with_reducible refine y_V8 ?_) <;> (first | with_reducible assumption | (unfold y_Tr; omega))) | ((with_reducible refine y_Tr4 ?_ ?_) <;> (first | with_reducible assumption | omega)) | ((with_reducible refine (y_Tr4 ?_ ?_).ty) <;> (first | with_reducible assumption | omega)) | (unfold y_Ty; omega) | (unfold y_Tr; omega) | (with_reducible exact y_st4t _)) (by first | with_reducible assumption | omega | ((with_reducible refine y_Vl ?_ ?_) <;> omega) | ((with_reducible refine y_V8 ?_) <;> (first | with_reducible assumption | (unfold y_Tr; omega))) | ((with_reducible refine y_Tr4 ?_ ?_) <;> (first | with_reducible assumption | omega)) | ((with_reducible refine (y_Tr4 ?_ ?_).ty) <;> (first | with_reducible assumption | omega)) | (unfold y_Ty; omega) | (unfold y_Tr; omega) | (with_reducible exact y_st4t _))) (fun r_21 h_r_21 => ?_)
              have h0_r_21 : y_AV 400 r_21.2 := h_r_21
              have e47 : (1 : Int32).toInt = 1 := rfl
              refine y_some ?_
              try dsimp only
              refine ⟨?_, ?_, ?_, ?_, ?_⟩ <;> (first | with_reducible assumption | omega | ((with_reducible refine y_Vl ?_ ?_) <;> omega) | ((with_reducible refine y_V8 ?_) <;> (first | with_reducible assumption | (unfold y_Tr; omega))) | ((with_reducible refine y_Tr4 ?_ ?_) <;> (first | with_reducible assumption | omega)) | ((with_reducible refine (y_Tr4 ?_ ?_).ty) <;> (first | with_reducible assumption | omega)) | (unfold y_Ty; omega) | (unfold y_Tr; omega) | (with_reducible exact y_st4t _))
            · skip
              try have e48 := @y_cl v0_0 (by omega)
              have c45' := c45
              rw [← Int32.toInt_inj] at c45'
              have e49 : (1 : Int32).toInt = 1 := rfl
              refine y_some ?_
              try dsimp only
              refine ⟨?_, ?_, ?_, ?_, ?_⟩ <;> (first | with_reducible assumption | omega | ((with_reducible refine y_Vl ?_ ?_) <;> omega) | ((with_reducible refine y_V8 ?_) <;> (first | with_reducible assumption | (unfold y_Tr; omega))) | ((with_reducible refine y_Tr4 ?_ ?_) <;> (first | with_reducible assumption | omega)) | ((with_reducible refine (y_Tr4 ?_ ?_).ty) <;> (first | with_reducible assumption | omega)) | (unfold y_Ty; omega) | (unfold y_Tr; omega) | (with_reducible exact y_st4t _))
        · skip
          have e50 : (6 : Int32).toInt = 6 := rfl
          have c41' := c41
          rw [← Int32.toInt_inj] at c41'
          have e51 : (1 : Int32).toInt = 1 := rfl
          refine y_some ?_
          try dsimp only
          refine ⟨?_, ?_, ?_, ?_, ?_⟩ <;> (first | with_reducible assumption | omega | ((with_reducible refine y_Vl ?_ ?_) <;> omega) | ((with_reducible refine y_V8 ?_) <;> (first | with_reducible assumption | (unfold y_Tr; omega))) | ((with_reducible refine y_Tr4 ?_ ?_) <;> (first | with_reducible assumption | omega)) | ((with_reducible refine (y_Tr4 ?_ ?_).ty) <;> (first | with_reducible assumption | omega)) | (unfold y_Ty; omega) | (unfold y_Tr; omega) | (with_reducible exact y_st4t _))
      · skip
        have c40' := c40
        rw [← Int32.toInt_inj] at c40'
        have e52 : (1 : Int32).toInt = 1 := rfl
        refine y_some ?_
        try dsimp only
        refine ⟨?_, ?_, ?_, ?_, ?_⟩ <;> (first | with_reducible assumption | omega | ((with_reducible refine y_Vl ?_ ?_) <;> omega) | ((with_reducible refine y_V8 ?_) <;> (first | with_reducible assumption | (unfold y_Tr; omega))) | ((with_reducible refine y_Tr4 ?_ ?_) <;> (first | with_reducible assumption | omega)) | ((with_reducible refine (y_Tr4 ?_ ?_).ty) <;> (first | with_reducible assumption | omega)) | (unfold y_Ty; omega) | (unfold y_Tr; omega) | (with_reducible exact y_st4t _))
  · skip
    have e53 : (183 : Int32).toInt = 183 := rfl
    have c1' := c1
    rw [← Int32.toInt_inj] at c1'
    refine y_if (fun c54 => ?_) (fun c54 => ?_)
    · skip
      have c54' := c54
      rw [← Int32.toInt_inj] at c54'
      refine y_if (fun c55 => ?_) (fun c55 => ?_)
      · skip
        have e56 : (6 : Int32).toInt = 6 := rfl
        have c55' := c55
        rw [← Int32.toInt_inj] at c55'
        refine y_if (fun c57 => ?_) (fun c57 => ?_)
        · skip
          have c57' := c57
          rw [← Int32.toInt_inj] at c57'
          refine y_bi (y_X7_placeOf (by first | with_reducible assumption | omega | ((with_reducible refine y_Vl ?_ ?_) <;> omega) | ((with_reducible refine y_V8 ?_) <;> (first | with_reducible assumption | (unfold y_Tr; omega))) | ((with_reducible refine y_Tr4 ?_ ?_) <;> (first | with_reducible assumption | omega)) | ((with_reducible refine (y_Tr4 ?_ ?_).ty) <;> (first | with_reducible assumption | omega)) | (unfold y_Ty; omega) | (unfold y_Tr; omega) | (with_reducible exact y_st4t _))) (fun r_6 h_r_6 => ?_)
          have h0_r_6 : y_V r_6 := h_r_6
          refine y_bi (y_X5_replaceAll (by omega) (by first | with_reducible assumption | omega | ((with_reducible refine y_Vl ?_ ?_) <;> omega) | ((with_reducible refine y_V8 ?_) <;> (first | with_reducible assumption | (unfold y_Tr; omega))) | ((with_reducible refine y_Tr4 ?_ ?_) <;> (first | with_reducible assumption | omega)) | ((with_reducible refine (y_Tr4 ?_ ?_).ty) <;> (first | with_reducible assumption | omega)) | (unfold y_Ty; omega) | (unfold y_Tr; omega) | (with_reducible exact y_st4t _)) (by first | with_reducible assumption | omega | ((with_reducible refine y_Vl ?_ ?_) <;> omega) | ((with_reducible refine y_V8 ?_) <;> (first | with_reducible assumption | (unfold y_Tr; omega))) | ((with_reducible refine y_Tr4 ?_ ?_) <;> (first | with_reducible assumption | omega)) | ((with_reducible refine (y_Tr4 ?_ ?_).ty) <;> (first | with_reducible assumption | omega)) | (unfold y_Ty; omega) | (unfold y_Tr; omega) | (with_reducible exact y_st4t _))) (fun r_7 h_r_7 => ?_)
          have h0_r_7 : y_AV 400 r_7.2 := h_r_7
          have e58 : (1 : Int32).toInt = 1 := rfl
          refine y_some ?_
          try dsimp only
          refine ⟨?_, ?_, ?_, ?_, ?_⟩ <;> (first | with_reducible assumption | omega | ((with_reducible refine y_Vl ?_ ?_) <;> omega) | ((with_reducible refine y_V8 ?_) <;> (first | with_reducible assumption | (unfold y_Tr; omega))) | ((with_reducible refine y_Tr4 ?_ ?_) <;> (first | with_reducible assumption | omega)) | ((with_reducible refine (y_Tr4 ?_ ?_).ty) <;> (first | with_reducible assumption | omega)) | (unfold y_Ty; omega) | (unfold y_Tr; omega) | (with_reducible exact y_st4t _))
        · skip
          have c57' := c57
          rw [← Int32.toInt_inj] at c57'
          refine y_gd (y_gdI (by omega) (by omega)) ?_
          refine y_if (fun c59 => ?_) (fun c59 => ?_)
          · skip
            try have e60 := @y_cl v0_0 (by omega)
            have c59' := c59
            rw [← Int32.toInt_inj] at c59'
            refine y_bi (y_X7_placeOf (by first | with_reducible assumption | omega | ((with_reducible refine y_Vl ?_ ?_) <;> omega) | ((with_reducible refine y_V8 ?_) <;> (first | with_reducible assumption | (unfold y_Tr; omega))) | ((with_reducible refine y_Tr4 ?_ ?_) <;> (first | with_reducible assumption | omega)) | ((with_reducible refine (y_Tr4 ?_ ?_).ty) <;> (first | with_reducible assumption | omega)) | (unfold y_Ty; omega) | (unfold y_Tr; omega) | (with_reducible exact y_st4t _))) (fun r_10 h_r_10 => ?_)
            have h0_r_10 : y_V r_10 := h_r_10
            refine y_bi (y_X5_replaceAll (by omega) (by first | with_reducible assumption | omega | ((with_reducible refine y_Vl ?_ ?_) <;> omega) | ((with_reducible refine y_V8 ?_) <;> (first | with_reducible assumption | (unfold y_Tr; omega))) | ((with_reducible refine y_Tr4 ?_ ?_) <;> (first | with_reducible assumption | omega)) | ((with_reducible refine (y_Tr4 ?_ ?_).ty) <;> (first | with_reducible assumption | omega)) | (unfold y_Ty; omega) | (unfold y_Tr; omega) | (with_reducible exact y_st4t _)) (by first | with_reducible assumption | omega | ((with_reducible refine y_Vl ?_ ?_) <;> omega) | ((with_reducible refine y_V8 ?_) <;> (first | with_reducible assumption | (unfold y_Tr; omega))) | ((with_reducible refine y_Tr4 ?_ ?_) <;> (first | with_reducible assumption | omega)) | ((with_reducible refine (y_Tr4 ?_ ?_).ty) <;> (first | with_reducible assumption | omega)) | (unfold y_Ty; omega) | (unfold y_Tr; omega) | (with_reducible exact y_st4t _))) (fun r_11 h_r_11 => ?_)
            have h0_r_11 : y_AV 400 r_11.2 := h_r_11
            have e61 : (1 : Int32).toInt = 1 := rfl
            refine y_some ?_
            try dsimp only
            refine ⟨?_, ?_, ?_, ?_, ?_⟩ <;> (first | with_reducible assumption | omega | ((with_reducible refine y_Vl ?_ ?_) <;> omega) | ((with_reducible refine y_V8 ?_) <;> (first | with_reducible assumption | (unfold y_Tr; omega))) | ((with_reducible refine y_Tr4 ?_ ?_) <;> (first | with_reducible assumption | omega)) | ((with_reducible refine (y_Tr4 ?_ ?_).ty) <;> (first | with_reducible assumption | omega)) | (unfold y_Ty; omega) | (unfold y_Tr; omega) | (with_reducible exact y_st4t _))
          · skip
            try have e62 := @y_cl v0_0 (by omega)
            have c59' := c59
            rw [← Int32.toInt_inj] at c59'
            have e63 : (1 : Int32).toInt = 1 := rfl
            refine y_some ?_
            try dsimp only
            refine ⟨?_, ?_, ?_, ?_, ?_⟩ <;> (first | with_reducible assumption | omega | ((with_reducible refine y_Vl ?_ ?_) <;> omega) | ((with_reducible refine y_V8 ?_) <;> (first | with_reducible assumption | (unfold y_Tr; omega))) | ((with_reducible refine y_Tr4 ?_ ?_) <;> (first | with_reducible assumption | omega)) | ((with_reducible refine (y_Tr4 ?_ ?_).ty) <;> (first | with_reducible assumption | omega)) | (unfold y_Ty; omega) | (unfold y_Tr; omega) | (with_reducible exact y_st4t _))
      · skip
        have e64 : (6 : Int32).toInt = 6 := rfl
        have c55' := c55
        rw [← Int32.toInt_inj] at c55'
        have e65 : (1 : Int32).toInt = 1 := rfl
        refine y_some ?_
        try dsimp only
        refine ⟨?_, ?_, ?_, ?_, ?_⟩ <;> (first | with_reducible assumption | omega | ((with_reducible refine y_Vl ?_ ?_) <;> omega) | ((with_reducible refine y_V8 ?_) <;> (first | with_reducible assumption | (unfold y_Tr; omega))) | ((with_reducible refine y_Tr4 ?_ ?_) <;> (first | with_reducible assumption | omega)) | ((with_reducible refine (y_Tr4 ?_ ?_).ty) <;> (first | with_reducible assumption | omega)) | (unfold y_Ty; omega) | (unfold y_Tr; omega) | (with_reducible exact y_st4t _))
    · skip
      have c54' := c54
      rw [← Int32.toInt_inj] at c54'
      have e66 : (1 : Int32).toInt = 1 := rfl
      refine y_some ?_
      try dsimp only
      refine ⟨?_, ?_, ?_, ?_, ?_⟩ <;> (first | with_reducible assumption | omega | ((with_reducible refine y_Vl ?_ ?_) <;> omega) | ((with_reducible refine y_V8 ?_) <;> (first | with_reducible assumption | (unfold y_Tr; omega))) | ((with_reducible refine y_Tr4 ?_ ?_) <;> (first | with_reducible assumption | omega)) | ((with_reducible refine (y_Tr4 ?_ ?_).ty) <;> (first | with_reducible assumption | omega)) | (unfold y_Ty; omega) | (unfold y_Tr; omega) | (with_reducible exact y_st4t _))
set_option maxHeartbeats 4000000 in
theorem y_X4_takenOf {g4_6 : Nat → Int32} {p1 : Int32} {p2 : Int32} (k0 : y_ATy 2000 g4_6) (k1 : 0 ≤ p1.toInt) (k2 : p1.toInt < 100) (k3 : 0 ≤ p2.toInt) (k4 : p2.toInt < 20) : y_Ok (f_X4_takenOf g4_6 p1 p2) (fun r => (y_Ty r)) := by
  unfold f_X4_takenOf
  have e1 : (20 : Int32).toInt = 20 := rfl
  try have e2 := @y_mulR p1 (20 : Int32) 20 rfl (by omega) (by omega)
  try have e3 := @y_add (p1 * (20 : Int32)) p2 (by omega) (by omega)
  refine y_gd (y_gdI (by omega) (by omega)) ?_
  try have e4 := @y_cl ((p1 * (20 : Int32)) + p2) (by omega)
  try have e5 := k0.at (Int32.toNatClampNeg ((p1 * (20 : Int32)) + p2)) (by omega)
  try have e6 := e5.b
  refine y_some ?_
  try dsimp only
  (first | with_reducible assumption | omega | ((with_reducible refine y_Vl ?_ ?_) <;> omega))
set_option maxHeartbeats 4000000 in
theorem y_X6_invoke_L_0_i {v7_2 : Int32} {g7_0 : Nat → Int32} {g7_1 : Nat → Int32} {g4_3 : Nat → Int32} {g4_4 : Nat → Int32} {g4_5 : Nat → Int32} {g4_6 : Nat → Int32} {g4_7 : Nat → Int32} {v0_0 : Int32} {v0_10 : Int32} {g0_8 : Nat → Int32} {v5_2 : Int32} {v5_4 : Int32} {v5_9 : Int32} {l1 : Int32} {l2 : Int32} {v5_5 : Int32} {v5_7 : Int32} {g5_1 : Nat → Int32} (k0 : 4 ≤ v7_2.toInt) (k1 : v7_2.toInt ≤ 200) (k2 : y_Rg 200 0 199 g7_0) (k3 : 0 ≤ v5_2.toInt) (k6 : v5_4.toInt ≤ 400) (k7 : y_AV 400 g5_1) (k10 : 0 ≤ v0_0.toInt) (k11 : v0_0.toInt ≤ 199) (k12 : 0 ≤ v5_5.toInt) (k13 : v5_5.toInt ≤ 1) (k14 : y_Rg 100 0 199 g4_3) (k15 : y_ARs 100 g4_4) (k16 : y_ATy 2000 g4_6) (k17 : y_Rg 100 0 20 g4_7) (k18 : v0_10.toInt ≤ 1000) (k19 : 0 ≤ l2.toInt) (k20 : l2.toInt < 100) : ∀ (m : Nat) {l3 : Int32} {v5_3 : Int32} {v5_6 : Int32} {v5_8 : Int32}, (v5_2.toInt ≤ v5_3.toInt) → (v5_3.toInt ≤ v5_4.toInt) → (0 ≤ v5_8.toInt) → (v5_8.toInt ≤ 1) → (-1 ≤ l3.toInt) → (l3.toInt ≤ 19) → l3.toInt + 1 < m → y_Ok (f_X6_invoke_L v7_2 g7_0 g7_1 g4_3 g4_4 g4_5 g4_6 g4_7 v0_0 v0_10 g0_8 v5_2 v5_4 v5_9 l1 l2 v5_5 v5_7 g5_1 (0, l3, v5_3, v5_6, v5_8)) (fun r => (v5_2.toInt ≤ r.1.toInt) ∧ (r.1.toInt ≤ v5_4.toInt) ∧ (0 ≤ r.2.1.toInt) ∧ (r.2.1.toInt ≤ 1) ∧ (0 ≤ r.2.2.2.2.1.toInt) ∧ (r.2.2.2.2.1.toInt ≤ 1) ∧ (y_AV 400 r.2.2.2.2.2)) := by
  intro m
  induction m with
  | zero => intro l3 v5_3 v5_6 v5_8 k4 k5 k8 k9 k21 k22 hm; exfalso; omega
  | succ m ih =>
    intro l3 v5_3 v5_6 v5_8 k4 k5 k8 k9 k21 k22 hm
    rw [f_X6_invoke_L]
    refine y_ip rfl ?_
    refine y_if (fun c1 => ?_) (fun c1 => ?_)
    · skip
      have e2 : (0 : Int32).toInt = 0 := rfl
      have c1' := c1
      rw [Int32.lt_iff_toInt_lt] at c1'
      refine y_gd (y_gdI (by omega) (by omega)) ?_
      refine y_gd (y_gdI (by omega) (by omega)) ?_
      refine y_if (fun c3 => ?_) (fun c3 => ?_)
      · skip
        try have e4 := @y_cl l2 (by omega)
        have c3' := c3
        rw [← Int32.toInt_inj] at c3'
        refine y_if (fun c5 => ?_) (fun c5 => ?_)
        · skip
          have e6 : (183 : Int32).toInt = 183 := rfl
          have c5' := c5
          rw [← Int32.toInt_inj] at c5'
          refine y_bi (y_X5_pullType (by omega) (by omega) (by first | with_reducible assumption | omega | ((with_reducible refine y_Vl ?_ ?_) <;> omega) | ((with_reducible refine y_V8 ?_) <;> (first | with_reducible assumption | (unfold y_Tr; omega))) | ((with_reducible refine y_Tr4 ?_ ?_) <;> (first | with_reducible assumption | omega)) | ((with_reducible refine (y_Tr4 ?_ ?_).ty) <;> (first | with_reducible assumption | omega)) | (unfold y_Ty; omega) | (unfold y_Tr; omega) | (with_reducible exact y_st4t _) | ((with_reducible refine y_Rs.ty ?_ ?_) <;> (first | with_reducible assumption | omega))) (by omega) (by omega) (by omega) (by first | with_reducible assumption | omega | ((with_reducible refine y_Vl ?_ ?_) <;> omega) | ((with_reducible refine y_V8 ?_) <;> (first | with_reducible assumption | (unfold y_Tr; omega))) | ((with_reducible refine y_Tr4 ?_ ?_) <;> (first | with_reducible assumption | omega)) | ((with_reducible refine (y_Tr4 ?_ ?_).ty) <;> (first | with_reducible assumption | omega)) | (unfold y_Ty; omega) | (unfold y_Tr; omega) | (with_reducible exact y_st4t _) | ((with_reducible refine y_Rs.ty ?_ ?_) <;> (first | with_reducible assumption | omega))) (by omega) (by omega) (by first | with_reducible assumption | omega | ((with_reducible refine y_Vl ?_ ?_) <;> omega) | ((with_reducible refine y_V8 ?_) <;> (first | with_reducible assumption | (unfold y_Tr; omega))) | ((with_reducible refine y_Tr4 ?_ ?_) <;> (first | with_reducible assumption | omega)) | ((with_reducible refine (y_Tr4 ?_ ?_).ty) <;> (first | with_reducible assumption | omega)) | (unfold y_Ty; omega) | (unfold y_Tr; omega) | (with_reducible exact y_st4t _) | ((with_reducible refine y_Rs.ty ?_ ?_) <;> (first | with_reducible assumption | omega)))) (fun r_22 h_r_22 => ?_)
          obtain ⟨h0_r_22, h1_r_22, h2_r_22, h3_r_22⟩ := h_r_22
          refine y_if (fun c7 => ?_) (fun c7 => ?_)
          · skip
            have c7' := c7
            rw [← Int32.toInt_inj] at c7'
            try have e8 := k14.at (Int32.toNatClampNeg l2) (by omega)
            refine y_bi (y_X7_mayStand (by omega) (by omega) (by first | with_reducible assumption | omega | ((with_reducible refine y_Vl ?_ ?_) <;> omega) | ((with_reducible refine y_V8 ?_) <;> (first | with_reducible assumption | (unfold y_Tr; omega))) | ((with_reducible refine y_Tr4 ?_ ?_) <;> (first | with_reducible assumption | omega)) | ((with_reducible refine (y_Tr4 ?_ ?_).ty) <;> (first | with_reducible assumption | omega)) | (unfold y_Ty; omega) | (unfold y_Tr; omega) | (with_reducible exact y_st4t _) | ((with_reducible refine y_Rs.ty ?_ ?_) <;> (first | with_reducible assumption | omega))) (by omega) (by omega)) (fun r_28 h_r_28 => ?_)
            have h0_r_28 : r_28.toInt = 0 ∨ r_28.toInt = 1 := h_r_28
            refine y_if (fun c9 => ?_) (fun c9 => ?_)
            · skip
              have c9' := c9
              rw [← Int32.toInt_inj] at c9'
              refine y_gd (y_gdI (by omega) (by omega)) ?_
              refine y_if (fun c10 => ?_) (fun c10 => ?_)
              · skip
                try have e11 := k15.at (Int32.toNatClampNeg l2) (by omega)
                try have e12 := e11.b
                have c10' : (g4_4 (Int32.toNatClampNeg l2)).toInt = -1 := (y_eqN rfl).mp c10
                have e13 : (1 : Int32).toInt = 1 := rfl
                refine y_some ?_
                try dsimp only
                refine ⟨?_, ?_, ?_, ?_, ?_, ?_, ?_⟩ <;> (first | with_reducible assumption | omega | ((with_reducible refine y_Vl ?_ ?_) <;> omega) | ((with_reducible refine y_V8 ?_) <;> (first | with_reducible assumption | (unfold y_Tr; omega))) | ((with_reducible refine y_Tr4 ?_ ?_) <;> (first | with_reducible assumption | omega)) | ((with_reducible refine (y_Tr4 ?_ ?_).ty) <;> (first | with_reducible assumption | omega)) | (unfold y_Ty; omega) | (unfold y_Tr; omega) | (with_reducible exact y_st4t _) | ((with_reducible refine y_Rs.ty ?_ ?_) <;> (first | with_reducible assumption | omega)))
              · skip
                try have e14 := k15.at (Int32.toNatClampNeg l2) (by omega)
                try have e15 := e14.b
                have c10' : ¬ (g4_4 (Int32.toNatClampNeg l2)).toInt = -1 := fun hz => c10 ((y_eqN rfl).mpr hz)
                refine y_gd (y_gdI (by omega) (by omega)) ?_
                have e16 : (1 : Int32).toInt = 1 := rfl
                refine y_bi (y_X5_pushType (v5_2 := v5_2) (by omega) (by omega) (by omega) (by omega) (by first | with_reducible assumption | omega | ((with_reducible refine y_Vl ?_ ?_) <;> omega) | ((with_reducible refine y_V8 ?_) <;> (first | with_reducible assumption | (unfold y_Tr; omega))) | ((with_reducible refine y_Tr4 ?_ ?_) <;> (first | with_reducible assumption | omega)) | ((with_reducible refine (y_Tr4 ?_ ?_).ty) <;> (first | with_reducible assumption | omega)) | (unfold y_Ty; omega) | (unfold y_Tr; omega) | (with_reducible exact y_st4t _) | ((with_reducible refine y_Rs.ty ?_ ?_) <;> (first | with_reducible assumption | omega))) (by first | with_reducible assumption | omega | ((with_reducible refine y_Vl ?_ ?_) <;> omega) | ((with_reducible refine y_V8 ?_) <;> (first | with_reducible assumption | (unfold y_Tr; omega))) | ((with_reducible refine y_Tr4 ?_ ?_) <;> (first | with_reducible assumption | omega)) | ((with_reducible refine (y_Tr4 ?_ ?_).ty) <;> (first | with_reducible assumption | omega)) | (unfold y_Ty; omega) | (unfold y_Tr; omega) | (with_reducible exact y_st4t _) | ((with_reducible refine y_Rs.ty ?_ ?_) <;> (first | with_reducible assumption | omega)))) (fun r_37 h_r_37 => ?_)
                obtain ⟨h0_r_37, h1_r_37, h2_r_37⟩ := h_r_37
                refine y_some ?_
                try dsimp only
                refine ⟨?_, ?_, ?_, ?_, ?_, ?_, ?_⟩ <;> (first | with_reducible assumption | omega | ((with_reducible refine y_Vl ?_ ?_) <;> omega) | ((with_reducible refine y_V8 ?_) <;> (first | with_reducible assumption | (unfold y_Tr; omega))) | ((with_reducible refine y_Tr4 ?_ ?_) <;> (first | with_reducible assumption | omega)) | ((with_reducible refine (y_Tr4 ?_ ?_).ty) <;> (first | with_reducible assumption | omega)) | (unfold y_Ty; omega) | (unfold y_Tr; omega) | (with_reducible exact y_st4t _) | ((with_reducible refine y_Rs.ty ?_ ?_) <;> (first | with_reducible assumption | omega)))
            · skip
              have c9' := c9
              rw [← Int32.toInt_inj] at c9'
              refine y_gd (y_gdI (by omega) (by omega)) ?_
              refine y_if (fun c17 => ?_) (fun c17 => ?_)
              · skip
                try have e18 := k15.at (Int32.toNatClampNeg l2) (by omega)
                try have e19 := e18.b
                have c17' : (g4_4 (Int32.toNatClampNeg l2)).toInt = -1 := (y_eqN rfl).mp c17
                refine y_some ?_
                try dsimp only
                refine ⟨?_, ?_, ?_, ?_, ?_, ?_, ?_⟩ <;> (first | with_reducible assumption | omega | ((with_reducible refine y_Vl ?_ ?_) <;> omega) | ((with_reducible refine y_V8 ?_) <;> (first | with_reducible assumption | (unfold y_Tr; omega))) | ((with_reducible refine y_Tr4 ?_ ?_) <;> (first | with_reducible assumption | omega)) | ((with_reducible refine (y_Tr4 ?_ ?_).ty) <;> (first | with_reducible assumption | omega)) | (unfold y_Ty; omega) | (unfold y_Tr; omega) | (with_reducible exact y_st4t _) | ((with_reducible refine y_Rs.ty ?_ ?_) <;> (first | with_reducible assumption | omega)))
              · skip
                try have e20 := k15.at (Int32.toNatClampNeg l2) (by omega)
                try have e21 := e20.b
                have c17' : ¬ (g4_4 (Int32.toNatClampNeg l2)).toInt = -1 := fun hz => c17 ((y_eqN rfl).mpr hz)
                refine y_gd (y_gdI (by omega) (by omega)) ?_
                refine y_bi (y_X5_pushType (v5_2 := v5_2) (by omega) (by omega) (by omega) (by omega) (by first | with_reducible assumption | omega | ((with_reducible refine y_Vl ?_ ?_) <;> omega) | ((with_reducible refine y_V8 ?_) <;> (first | with_reducible assumption | (unfold y_Tr; omega))) | ((with_reducible refine y_Tr4 ?_ ?_) <;> (first | with_reducible assumption | omega)) | ((with_reducible refine (y_Tr4 ?_ ?_).ty) <;> (first | with_reducible assumption | omega)) | (unfold y_Ty; omega) | (unfold y_Tr; omega) | (with_reducible exact y_st4t _) | ((with_reducible refine y_Rs.ty ?_ ?_) <;> (first | with_reducible assumption | omega))) (by first | with_reducible assumption | omega | ((with_reducible refine y_Vl ?_ ?_) <;> omega) | ((with_reducible refine y_V8 ?_) <;> (first | with_reducible assumption | (unfold y_Tr; omega))) | ((with_reducible refine y_Tr4 ?_ ?_) <;> (first | with_reducible assumption | omega)) | ((with_reducible refine (y_Tr4 ?_ ?_).ty) <;> (first | with_reducible assumption | omega)) | (unfold y_Ty; omega) | (unfold y_Tr; omega) | (with_reducible exact y_st4t _) | ((with_reducible refine y_Rs.ty ?_ ?_) <;> (first | with_reducible assumption | omega)))) (fun r_33 h_r_33 => ?_)
                obtain ⟨h0_r_33, h1_r_33, h2_r_33⟩ := h_r_33
                refine y_some ?_
                try dsimp only
                refine ⟨?_, ?_, ?_, ?_, ?_, ?_, ?_⟩ <;> (first | with_reducible assumption | omega | ((with_reducible refine y_Vl ?_ ?_) <;> omega) | ((with_reducible refine y_V8 ?_) <;> (first | with_reducible assumption | (unfold y_Tr; omega))) | ((with_reducible refine y_Tr4 ?_ ?_) <;> (first | with_reducible assumption | omega)) | ((with_reducible refine (y_Tr4 ?_ ?_).ty) <;> (first | with_reducible assumption | omega)) | (unfold y_Ty; omega) | (unfold y_Tr; omega) | (with_reducible exact y_st4t _) | ((with_reducible refine y_Rs.ty ?_ ?_) <;> (first | with_reducible assumption | omega)))
          · skip
            have c7' := c7
            rw [← Int32.toInt_inj] at c7'
            refine y_gd (y_gdI (by omega) (by omega)) ?_
            refine y_if (fun c22 => ?_) (fun c22 => ?_)
            · skip
              try have e23 := k15.at (Int32.toNatClampNeg l2) (by omega)
              try have e24 := e23.b
              have c22' : (g4_4 (Int32.toNatClampNeg l2)).toInt = -1 := (y_eqN rfl).mp c22
              have e25 : (1 : Int32).toInt = 1 := rfl
              refine y_some ?_
              try dsimp only
              refine ⟨?_, ?_, ?_, ?_, ?_, ?_, ?_⟩ <;> (first | with_reducible assumption | omega | ((with_reducible refine y_Vl ?_ ?_) <;> omega) | ((with_reducible refine y_V8 ?_) <;> (first | with_reducible assumption | (unfold y_Tr; omega))) | ((with_reducible refine y_Tr4 ?_ ?_) <;> (first | with_reducible assumption | omega)) | ((with_reducible refine (y_Tr4 ?_ ?_).ty) <;> (first | with_reducible assumption | omega)) | (unfold y_Ty; omega) | (unfold y_Tr; omega) | (with_reducible exact y_st4t _) | ((with_reducible refine y_Rs.ty ?_ ?_) <;> (first | with_reducible assumption | omega)))
            · skip
              try have e26 := k15.at (Int32.toNatClampNeg l2) (by omega)
              try have e27 := e26.b
              have c22' : ¬ (g4_4 (Int32.toNatClampNeg l2)).toInt = -1 := fun hz => c22 ((y_eqN rfl).mpr hz)
              refine y_gd (y_gdI (by omega) (by omega)) ?_
              have e28 : (1 : Int32).toInt = 1 := rfl
              refine y_bi (y_X5_pushType (v5_2 := v5_2) (by omega) (by omega) (by omega) (by omega) (by first | with_reducible assumption | omega | ((with_reducible refine y_Vl ?_ ?_) <;> omega) | ((with_reducible refine y_V8 ?_) <;> (first | with_reducible assumption | (unfold y_Tr; omega))) | ((with_reducible refine y_Tr4 ?_ ?_) <;> (first | with_reducible assumption | omega)) | ((with_reducible refine (y_Tr4 ?_ ?_).ty) <;> (first | with_reducible assumption | omega)) | (unfold y_Ty; omega) | (unfold y_Tr; omega) | (with_reducible exact y_st4t _) | ((with_reducible refine y_Rs.ty ?_ ?_) <;> (first | with_reducible assumption | omega))) (by first | with_reducible assumption | omega | ((with_reducible refine y_Vl ?_ ?_) <;> omega) | ((with_reducible refine y_V8 ?_) <;> (first | with_reducible assumption | (unfold y_Tr; omega))) | ((with_reducible refine y_Tr4 ?_ ?_) <;> (first | with_reducible assumption | omega)) | ((with_reducible refine (y_Tr4 ?_ ?_).ty) <;> (first | with_reducible assumption | omega)) | (unfold y_Ty; omega) | (unfold y_Tr; omega) | (with_reducible exact y_st4t _) | ((with_reducible refine y_Rs.ty ?_ ?_) <;> (first | with_reducible assumption | omega)))) (fun r_27 h_r_27 => ?_)
              obtain ⟨h0_r_27, h1_r_27, h2_r_27⟩ := h_r_27
              refine y_some ?_
              try dsimp only
              refine ⟨?_, ?_, ?_, ?_, ?_, ?_, ?_⟩ <;> (first | with_reducible assumption | omega | ((with_reducible refine y_Vl ?_ ?_) <;> omega) | ((with_reducible refine y_V8 ?_) <;> (first | with_reducible assumption | (unfold y_Tr; omega))) | ((with_reducible refine y_Tr4 ?_ ?_) <;> (first | with_reducible assumption | omega)) | ((with_reducible refine (y_Tr4 ?_ ?_).ty) <;> (first | with_reducible assumption | omega)) | (unfold y_Ty; omega) | (unfold y_Tr; omega) | (with_reducible exact y_st4t _) | ((with_reducible refine y_Rs.ty ?_ ?_) <;> (first | with_reducible assumption | omega)))
        · skip
          have e29 : (183 : Int32).toInt = 183 := rfl
          have c5' := c5
          rw [← Int32.toInt_inj] at c5'
          refine y_if (fun c30 => ?_) (fun c30 => ?_)
          · skip
            have e31 : (182 : Int32).toInt = 182 := rfl
            have c30' := c30
            rw [← Int32.toInt_inj] at c30'
            try have e32 := k14.at (Int32.toNatClampNeg l2) (by omega)
            refine y_bi (y_X5_pullType (by omega) (by omega) (by first | with_reducible assumption | omega | ((with_reducible refine y_Vl ?_ ?_) <;> omega) | ((with_reducible refine y_V8 ?_) <;> (first | with_reducible assumption | (unfold y_Tr; omega))) | ((with_reducible refine y_Tr4 ?_ ?_) <;> (first | with_reducible assumption | omega)) | ((with_reducible refine (y_Tr4 ?_ ?_).ty) <;> (first | with_reducible assumption | omega)) | (unfold y_Ty; omega) | (unfold y_Tr; omega) | (with_reducible exact y_st4t _) | ((with_reducible refine y_Rs.ty ?_ ?_) <;> (first | with_reducible assumption | omega))) (by omega) (by omega) (by omega) (by first | with_reducible assumption | omega | ((with_reducible refine y_Vl ?_ ?_) <;> omega) | ((with_reducible refine y_V8 ?_) <;> (first | with_reducible assumption | (unfold y_Tr; omega))) | ((with_reducible refine y_Tr4 ?_ ?_) <;> (first | with_reducible assumption | omega)) | ((with_reducible refine (y_Tr4 ?_ ?_).ty) <;> (first | with_reducible assumption | omega)) | (unfold y_Ty; omega) | (unfold y_Tr; omega) | (with_reducible exact y_st4t _) | ((with_reducible refine y_Rs.ty ?_ ?_) <;> (first | with_reducible assumption | omega))) (by omega) (by omega) (by first | with_reducible assumption | omega | ((with_reducible refine y_Vl ?_ ?_) <;> omega) | ((with_reducible refine y_V8 ?_) <;> (first | with_reducible assumption | (unfold y_Tr; omega))) | ((with_reducible refine y_Tr4 ?_ ?_) <;> (first | with_reducible assumption | omega)) | ((with_reducible refine (y_Tr4 ?_ ?_).ty) <;> (first | with_reducible assumption | omega)) | (unfold y_Ty; omega) | (unfold y_Tr; omega) | (with_reducible exact y_st4t _) | ((with_reducible refine y_Rs.ty ?_ ?_) <;> (first | with_reducible assumption | omega)))) (fun r_7 h_r_7 => ?_)
            obtain ⟨h0_r_7, h1_r_7, h2_r_7, h3_r_7⟩ := h_r_7
            refine y_gd (y_gdI (by omega) (by omega)) ?_
            refine y_if (fun c33 => ?_) (fun c33 => ?_)
            · skip
              try have e34 := k15.at (Int32.toNatClampNeg l2) (by omega)
              try have e35 := e34.b
              have c33' : (g4_4 (Int32.toNatClampNeg l2)).toInt = -1 := (y_eqN rfl).mp c33
              refine y_some ?_
              try dsimp only
              refine ⟨?_, ?_, ?_, ?_, ?_, ?_, ?_⟩ <;> (first | with_reducible assumption | omega | ((with_reducible refine y_Vl ?_ ?_) <;> omega) | ((with_reducible refine y_V8 ?_) <;> (first | with_reducible assumption | (unfold y_Tr; omega))) | ((with_reducible refine y_Tr4 ?_ ?_) <;> (first | with_reducible assumption | omega)) | ((with_reducible refine (y_Tr4 ?_ ?_).ty) <;> (first | with_reducible assumption | omega)) | (unfold y_Ty; omega) | (unfold y_Tr; omega) | (with_reducible exact y_st4t _) | ((with_reducible refine y_Rs.ty ?_ ?_) <;> (first | with_reducible assumption | omega)))
            · skip
              try have e36 := k15.at (Int32.toNatClampNeg l2) (by omega)
              try have e37 := e36.b
              have c33' : ¬ (g4_4 (Int32.toNatClampNeg l2)).toInt = -1 := fun hz => c33 ((y_eqN rfl).mpr hz)
              refine y_gd (y_gdI (by omega) (by omega)) ?_
              refine y_bi (y_X5_pushType (v5_2 := v5_2) (by omega) (by omega) (by omega) (by omega) (by first | with_reducible assumption | omega | ((with_reducible refine y_Vl ?_ ?_) <;> omega) | ((with_reducible refine y_V8 ?_) <;> (first | with_reducible assumption | (unfold y_Tr; omega))) | ((with_reducible refine y_Tr4 ?_ ?_) <;> (first | with_reducible assumption | omega)) | ((with_reducible refine (y_Tr4 ?_ ?_).ty) <;> (first | with_reducible assumption | omega)) | (unfold y_Ty; omega) | (unfold y_Tr; omega) | (with_reducible exact y_st4t _) | ((with_reducible refine y_Rs.ty ?_ ?_) <;> (first | with_reducible assumption | omega))) (by first | with_reducible assumption | omega | ((with_reducible refine y_Vl ?_ ?_) <;> omega) | ((with_reducible refine y_V8 ?_) <;> (first | with_reducible assumption | (unfold y_Tr; omega))) | ((with_reducible refine y_Tr4 ?_ ?_) <;> (first | with_reducible assumption | omega)) | ((with_reducible refine (y_Tr4 ?_ ?_).ty) <;> (first | with_reducible assumption | omega)) | (unfold y_Ty; omega) | (unfold y_Tr; omega) | (with_reducible exact y_st4t _) | ((with_reducible refine y_Rs.ty ?_ ?_) <;> (first | with_reducible assumption | omega)))) (fun r_11 h_r_11 => ?_)
              obtain ⟨h0_r_11, h1_r_11, h2_r_11⟩ := h_r_11
              refine y_some ?_
              try dsimp only
              refine ⟨?_, ?_, ?_, ?_, ?_, ?_, ?_⟩ <;> (first | with_reducible assumption | omega | ((with_reducible refine y_Vl ?_ ?_) <;> omega) | ((with_reducible refine y_V8 ?_) <;> (first | with_reducible assumption | (unfold y_Tr; omega))) | ((with_reducible refine y_Tr4 ?_ ?_) <;> (first | with_reducible assumption | omega)) | ((with_reducible refine (y_Tr4 ?_ ?_).ty) <;> (first | with_reducible assumption | omega)) | (unfold y_Ty; omega) | (unfold y_Tr; omega) | (with_reducible exact y_st4t _) | ((with_reducible refine y_Rs.ty ?_ ?_) <;> (first | with_reducible assumption | omega)))
          · skip
            have e38 : (182 : Int32).toInt = 182 := rfl
            have c30' := c30
            rw [← Int32.toInt_inj] at c30'
            refine y_if (fun c39 => ?_) (fun c39 => ?_)
            · skip
              have e40 : (185 : Int32).toInt = 185 := rfl
              have c39' := c39
              rw [← Int32.toInt_inj] at c39'
              try have e41 := k14.at (Int32.toNatClampNeg l2) (by omega)
              refine y_bi (y_X5_pullType (by omega) (by omega) (by first | with_reducible assumption | omega | ((with_reducible refine y_Vl ?_ ?_) <;> omega) | ((with_reducible refine y_V8 ?_) <;> (first | with_reducible assumption | (unfold y_Tr; omega))) | ((with_reducible refine y_Tr4 ?_ ?_) <;> (first | with_reducible assumption | omega)) | ((with_reducible refine (y_Tr4 ?_ ?_).ty) <;> (first | with_reducible assumption | omega)) | (unfold y_Ty; omega) | (unfold y_Tr; omega) | (with_reducible exact y_st4t _) | ((with_reducible refine y_Rs.ty ?_ ?_) <;> (first | with_reducible assumption | omega))) (by omega) (by omega) (by omega) (by first | with_reducible assumption | omega | ((with_reducible refine y_Vl ?_ ?_) <;> omega) | ((with_reducible refine y_V8 ?_) <;> (first | with_reducible assumption | (unfold y_Tr; omega))) | ((with_reducible refine y_Tr4 ?_ ?_) <;> (first | with_reducible assumption | omega)) | ((with_reducible refine (y_Tr4 ?_ ?_).ty) <;> (first | with_reducible assumption | omega)) | (unfold y_Ty; omega) | (unfold y_Tr; omega) | (with_reducible exact y_st4t _) | ((with_reducible refine y_Rs.ty ?_ ?_) <;> (first | with_reducible assumption | omega))) (by omega) (by omega) (by first | with_reducible assumption | omega | ((with_reducible refine y_Vl ?_ ?_) <;> omega) | ((with_reducible refine y_V8 ?_) <;> (first | with_reducible assumption | (unfold y_Tr; omega))) | ((with_reducible refine y_Tr4 ?_ ?_) <;> (first | with_reducible assumption | omega)) | ((with_reducible refine (y_Tr4 ?_ ?_).ty) <;> (first | with_reducible assumption | omega)) | (unfold y_Ty; omega) | (unfold y_Tr; omega) | (with_reducible exact y_st4t _) | ((with_reducible refine y_Rs.ty ?_ ?_) <;> (first | with_reducible assumption | omega)))) (fun r_17 h_r_17 => ?_)
              obtain ⟨h0_r_17, h1_r_17, h2_r_17, h3_r_17⟩ := h_r_17
              refine y_gd (y_gdI (by omega) (by omega)) ?_
              refine y_if (fun c42 => ?_) (fun c42 => ?_)
              · skip
                try have e43 := k15.at (Int32.toNatClampNeg l2) (by omega)
                try have e44 := e43.b
                have c42' : (g4_4 (Int32.toNatClampNeg l2)).toInt = -1 := (y_eqN rfl).mp c42
                refine y_some ?_
                try dsimp only
                refine ⟨?_, ?_, ?_, ?_, ?_, ?_, ?_⟩ <;> (first | with_reducible assumption | omega | ((with_reducible refine y_Vl ?_ ?_) <;> omega) | ((with_reducible refine y_V8 ?_) <;> (first | with_reducible assumption | (unfold y_Tr; omega))) | ((with_reducible refine y_Tr4 ?_ ?_) <;> (first | with_reducible assumption | omega)) | ((with_reducible refine (y_Tr4 ?_ ?_).ty) <;> (first | with_reducible assumption | omega)) | (unfold y_Ty; omega) | (unfold y_Tr; omega) | (with_reducible exact y_st4t _) | ((with_reducible refine y_Rs.ty ?_ ?_) <;> (first | with_reducible assumption | omega)))
              · skip
                try have e45 := k15.at (Int32.toNatClampNeg l2) (by omega)
                try have e46 := e45.b
                have c42' : ¬ (g4_4 (Int32.toNatClampNeg l2)).toInt = -1 := fun hz => c42 ((y_eqN rfl).mpr hz)
                refine y_gd (y_gdI (by omega) (by omega)) ?_
                refine y_bi (y_X5_pushType (v5_2 := v5_2) (by omega) (by omega) (by omega) (by omega) (by first | with_reducible assumption | omega | ((with_reducible refine y_Vl ?_ ?_) <;> omega) | ((with_reducible refine y_V8 ?_) <;> (first | with_reducible assumption | (unfold y_Tr; omega))) | ((with_reducible refine y_Tr4 ?_ ?_) <;> (first | with_reducible assumption | omega)) | ((with_reducible refine (y_Tr4 ?_ ?_).ty) <;> (first | with_reducible assumption | omega)) | (unfold y_Ty; omega) | (unfold y_Tr; omega) | (with_reducible exact y_st4t _) | ((with_reducible refine y_Rs.ty ?_ ?_) <;> (first | with_reducible assumption | omega))) (by first | with_reducible assumption | omega | ((with_reducible refine y_Vl ?_ ?_) <;> omega) | ((with_reducible refine y_V8 ?_) <;> (first | with_reducible assumption | (unfold y_Tr; omega))) | ((with_reducible refine y_Tr4 ?_ ?_) <;> (first | with_reducible assumption | omega)) | ((with_reducible refine (y_Tr4 ?_ ?_).ty) <;> (first | with_reducible assumption | omega)) | (unfold y_Ty; omega) | (unfold y_Tr; omega) | (with_reducible exact y_st4t _) | ((with_reducible refine y_Rs.ty ?_ ?_) <;> (first | with_reducible assumption | omega)))) (fun r_21 h_r_21 => ?_)
                obtain ⟨h0_r_21, h1_r_21, h2_r_21⟩ := h_r_21
                refine y_some ?_
                try dsimp only
                refine ⟨?_, ?_, ?_, ?_, ?_, ?_, ?_⟩ <;> (first | with_reducible assumption | omega | ((with_reducible refine y_Vl ?_ ?_) <;> omega) | ((with_reducible refine y_V8 ?_) <;> (first | with_reducible assumption | (unfold y_Tr; omega))) | ((with_reducible refine y_Tr4 ?_ ?_) <;> (first | with_reducible assumption | omega)) | ((with_reducible refine (y_Tr4 ?_ ?_).ty) <;> (first | with_reducible assumption | omega)) | (unfold y_Ty; omega) | (unfold y_Tr; omega) | (with_reducible exact y_st4t _) | ((with_reducible refine y_Rs.ty ?_ ?_) <;> (first | with_reducible assumption | omega)))
            · skip
              have e47 : (185 : Int32).toInt = 185 := rfl
              have c39' := c39
              rw [← Int32.toInt_inj] at c39'
              refine y_gd (y_gdI (by omega) (by omega)) ?_
              refine y_if (fun c48 => ?_) (fun c48 => ?_)
              · skip
                try have e49 := k15.at (Int32.toNatClampNeg l2) (by omega)
                try have e50 := e49.b
                have c48' : (g4_4 (Int32.toNatClampNeg l2)).toInt = -1 := (y_eqN rfl).mp c48
                refine y_some ?_
                try dsimp only
                refine ⟨?_, ?_, ?_, ?_, ?_, ?_, ?_⟩ <;> (first | with_reducible assumption | omega | ((with_reducible refine y_Vl ?_ ?_) <;> omega) | ((with_reducible refine y_V8 ?_) <;> (first | with_reducible assumption | (unfold y_Tr; omega))) | ((with_reducible refine y_Tr4 ?_ ?_) <;> (first | with_reducible assumption | omega)) | ((with_reducible refine (y_Tr4 ?_ ?_).ty) <;> (first | with_reducible assumption | omega)) | (unfold y_Ty; omega) | (unfold y_Tr; omega) | (with_reducible exact y_st4t _) | ((with_reducible refine y_Rs.ty ?_ ?_) <;> (first | with_reducible assumption | omega)))
              · skip
                try have e51 := k15.at (Int32.toNatClampNeg l2) (by omega)
                try have e52 := e51.b
                have c48' : ¬ (g4_4 (Int32.toNatClampNeg l2)).toInt = -1 := fun hz => c48 ((y_eqN rfl).mpr hz)
                refine y_gd (y_gdI (by omega) (by omega)) ?_
                refine y_bi (y_X5_pushType (v5_2 := v5_2) (by omega) (by omega) (by omega) (by omega) (by first | with_reducible assumption | omega | ((with_reducible refine y_Vl ?_ ?_) <;> omega) | ((with_reducible refine y_V8 ?_) <;> (first | with_reducible assumption | (unfold y_Tr; omega))) | ((with_reducible refine y_Tr4 ?_ ?_) <;> (first | with_reducible assumption | omega)) | ((with_reducible refine (y_Tr4 ?_ ?_).ty) <;> (first | with_reducible assumption | omega)) | (unfold y_Ty; omega) | (unfold y_Tr; omega) | (with_reducible exact y_st4t _) | ((with_reducible refine y_Rs.ty ?_ ?_) <;> (first | with_reducible assumption | omega))) (by first | with_reducible assumption | omega | ((with_reducible refine y_Vl ?_ ?_) <;> omega) | ((with_reducible refine y_V8 ?_) <;> (first | with_reducible assumption | (unfold y_Tr; omega))) | ((with_reducible refine y_Tr4 ?_ ?_) <;> (first | with_reducible assumption | omega)) | ((with_reducible refine (y_Tr4 ?_ ?_).ty) <;> (first | with_reducible assumption | omega)) | (unfold y_Ty; omega) | (unfold y_Tr; omega) | (with_reducible exact y_st4t _) | ((with_reducible refine y_Rs.ty ?_ ?_) <;> (first | with_reducible assumption | omega)))) (fun r_16 h_r_16 => ?_)
                obtain ⟨h0_r_16, h1_r_16, h2_r_16⟩ := h_r_16
                refine y_some ?_
                try dsimp only
                refine ⟨?_, ?_, ?_, ?_, ?_, ?_, ?_⟩ <;> (first | with_reducible assumption | omega | ((with_reducible refine y_Vl ?_ ?_) <;> omega) | ((with_reducible refine y_V8 ?_) <;> (first | with_reducible assumption | (unfold y_Tr; omega))) | ((with_reducible refine y_Tr4 ?_ ?_) <;> (first | with_reducible assumption | omega)) | ((with_reducible refine (y_Tr4 ?_ ?_).ty) <;> (first | with_reducible assumption | omega)) | (unfold y_Ty; omega) | (unfold y_Tr; omega) | (with_reducible exact y_st4t _) | ((with_reducible refine y_Rs.ty ?_ ?_) <;> (first | with_reducible assumption | omega)))
      · skip
        try have e53 := @y_cl l2 (by omega)
        have c3' := c3
        rw [← Int32.toInt_inj] at c3'
        try have e54 := k14.at (Int32.toNatClampNeg l2) (by omega)
        refine y_bi (y_X6_construct (by omega) (by omega) (by omega) (by first | with_reducible assumption | omega | ((with_reducible refine y_Vl ?_ ?_) <;> omega) | ((with_reducible refine y_V8 ?_) <;> (first | with_reducible assumption | (unfold y_Tr; omega))) | ((with_reducible refine y_Tr4 ?_ ?_) <;> (first | with_reducible assumption | omega)) | ((with_reducible refine (y_Tr4 ?_ ?_).ty) <;> (first | with_reducible assumption | omega)) | (unfold y_Ty; omega) | (unfold y_Tr; omega) | (with_reducible exact y_st4t _) | ((with_reducible refine y_Rs.ty ?_ ?_) <;> (first | with_reducible assumption | omega))) (by omega) (by omega) (by omega) (by omega) (by omega) (by omega) (by omega)) (fun r_38 h_r_38 => ?_)
        obtain ⟨h0_r_38, h1_r_38, h2_r_38, h3_r_38, h4_r_38⟩ := h_r_38
        refine y_gd (y_gdI (by omega) (by omega)) ?_
        refine y_if (fun c55 => ?_) (fun c55 => ?_)
        · skip
          try have e56 := k15.at (Int32.toNatClampNeg l2) (by omega)
          try have e57 := e56.b
          have c55' : (g4_4 (Int32.toNatClampNeg l2)).toInt = -1 := (y_eqN rfl).mp c55
          refine y_some ?_
          try dsimp only
          refine ⟨?_, ?_, ?_, ?_, ?_, ?_, ?_⟩ <;> (first | with_reducible assumption | omega | ((with_reducible refine y_Vl ?_ ?_) <;> omega) | ((with_reducible refine y_V8 ?_) <;> (first | with_reducible assumption | (unfold y_Tr; omega))) | ((with_reducible refine y_Tr4 ?_ ?_) <;> (first | with_reducible assumption | omega)) | ((with_reducible refine (y_Tr4 ?_ ?_).ty) <;> (first | with_reducible assumption | omega)) | (unfold y_Ty; omega) | (unfold y_Tr; omega) | (with_reducible exact y_st4t _) | ((with_reducible refine y_Rs.ty ?_ ?_) <;> (first | with_reducible assumption | omega)))
        · skip
          try have e58 := k15.at (Int32.toNatClampNeg l2) (by omega)
          try have e59 := e58.b
          have c55' : ¬ (g4_4 (Int32.toNatClampNeg l2)).toInt = -1 := fun hz => c55 ((y_eqN rfl).mpr hz)
          refine y_gd (y_gdI (by omega) (by omega)) ?_
          refine y_bi (y_X5_pushType (v5_2 := v5_2) (by omega) (by omega) (by omega) (by omega) (by first | with_reducible assumption | omega | ((with_reducible refine y_Vl ?_ ?_) <;> omega) | ((with_reducible refine y_V8 ?_) <;> (first | with_reducible assumption | (unfold y_Tr; omega))) | ((with_reducible refine y_Tr4 ?_ ?_) <;> (first | with_reducible assumption | omega)) | ((with_reducible refine (y_Tr4 ?_ ?_).ty) <;> (first | with_reducible assumption | omega)) | (unfold y_Ty; omega) | (unfold y_Tr; omega) | (with_reducible exact y_st4t _) | ((with_reducible refine y_Rs.ty ?_ ?_) <;> (first | with_reducible assumption | omega))) (by first | with_reducible assumption | omega | ((with_reducible refine y_Vl ?_ ?_) <;> omega) | ((with_reducible refine y_V8 ?_) <;> (first | with_reducible assumption | (unfold y_Tr; omega))) | ((with_reducible refine y_Tr4 ?_ ?_) <;> (first | with_reducible assumption | omega)) | ((with_reducible refine (y_Tr4 ?_ ?_).ty) <;> (first | with_reducible assumption | omega)) | (unfold y_Ty; omega) | (unfold y_Tr; omega) | (with_reducible exact y_st4t _) | ((with_reducible refine y_Rs.ty ?_ ?_) <;> (first | with_reducible assumption | omega)))) (fun r_42 h_r_42 => ?_)
          obtain ⟨h0_r_42, h1_r_42, h2_r_42⟩ := h_r_42
          refine y_some ?_
          try dsimp only
          refine ⟨?_, ?_, ?_, ?_, ?_, ?_, ?_⟩ <;> (first | with_reducible assumption | omega | ((with_reducible refine y_Vl ?_ ?_) <;> omega) | ((with_reducible refine y_V8 ?_) <;> (first | with_reducible assumption | (unfold y_Tr; omega))) | ((with_reducible refine y_Tr4 ?_ ?_) <;> (first | with_reducible assumption | omega)) | ((with_reducible refine (y_Tr4 ?_ ?_).ty) <;> (first | with_reducible assumption | omega)) | (unfold y_Ty; omega) | (unfold y_Tr; omega) | (with_reducible exact y_st4t _) | ((with_reducible refine y_Rs.ty ?_ ?_) <;> (first | with_reducible assumption | omega)))
    · skip
      have e60 : (0 : Int32).toInt = 0 := rfl
      have c1' := c1
      rw [Int32.lt_iff_toInt_lt] at c1'
      refine y_bi (y_X4_takenOf (by first | with_reducible assumption | omega | ((with_reducible refine y_Vl ?_ ?_) <;> omega) | ((with_reducible refine y_V8 ?_) <;> (first | with_reducible assumption | (unfold y_Tr; omega))) | ((with_reducible refine y_Tr4 ?_ ?_) <;> (first | with_reducible assumption | omega)) | ((with_reducible refine (y_Tr4 ?_ ?_).ty) <;> (first | with_reducible assumption | omega)) | (unfold y_Ty; omega) | (unfold y_Tr; omega) | (with_reducible exact y_st4t _) | ((with_reducible refine y_Rs.ty ?_ ?_) <;> (first | with_reducible assumption | omega))) (by omega) (by omega) (by omega) (by omega)) (fun r_43 h_r_43 => ?_)
      have h0_r_43 : y_Ty r_43 := h_r_43
      refine y_bi (y_X5_pullType (by omega) (by omega) (by first | with_reducible assumption | omega | ((with_reducible refine y_Vl ?_ ?_) <;> omega) | ((with_reducible refine y_V8 ?_) <;> (first | with_reducible assumption | (unfold y_Tr; omega))) | ((with_reducible refine y_Tr4 ?_ ?_) <;> (first | with_reducible assumption | omega)) | ((with_reducible refine (y_Tr4 ?_ ?_).ty) <;> (first | with_reducible assumption | omega)) | (unfold y_Ty; omega) | (unfold y_Tr; omega) | (with_reducible exact y_st4t _) | ((with_reducible refine y_Rs.ty ?_ ?_) <;> (first | with_reducible assumption | omega))) (by omega) (by omega) (by omega) (by first | with_reducible assumption | omega | ((with_reducible refine y_Vl ?_ ?_) <;> omega) | ((with_reducible refine y_V8 ?_) <;> (first | with_reducible assumption | (unfold y_Tr; omega))) | ((with_reducible refine y_Tr4 ?_ ?_) <;> (first | with_reducible assumption | omega)) | ((with_reducible refine (y_Tr4 ?_ ?_).ty) <;> (first | with_reducible assumption | omega)) | (unfold y_Ty; omega) | (unfold y_Tr; omega) | (with_reducible exact y_st4t _) | ((with_reducible refine y_Rs.ty ?_ ?_) <;> (first | with_reducible assumption | omega))) (by omega) (by omega) (by first | with_reducible assumption | omega | ((with_reducible refine y_Vl ?_ ?_) <;> omega) | ((with_reducible refine y_V8 ?_) <;> (first | with_reducible assumption | (unfold y_Tr; omega))) | ((with_reducible refine y_Tr4 ?_ ?_) <;> (first | with_reducible assumption | omega)) | ((with_reducible refine (y_Tr4 ?_ ?_).ty) <;> (first | with_reducible assumption | omega)) | (unfold y_Ty; omega) | (unfold y_Tr; omega) | (with_reducible exact y_st4t _) | ((with_reducible refine y_Rs.ty ?_ ?_) <;> (first | with_reducible assumption | omega)))) (fun r_44 h_r_44 => ?_)
      obtain ⟨h0_r_44, h1_r_44, h2_r_44, h3_r_44⟩ := h_r_44
      obtain ⟨d60, h_d60, h_d60'⟩ := @y_dec l3 (by omega)
      rw [h_d60]
      exact ih (l3 := d60) (v5_3 := r_44.1) (v5_6 := r_44.2.1) (v5_8 := r_44.2.2) (by omega) (by omega) (by omega) (by omega) (by omega) (by omega) (by omega)
theorem y_X6_invoke_L_0 {v7_2 : Int32} {g7_0 : Nat → Int32} {g7_1 : Nat → Int32} {g4_3 : Nat → Int32} {g4_4 : Nat → Int32} {g4_5 : Nat → Int32} {g4_6 : Nat → Int32} {g4_7 : Nat → Int32} {v0_0 : Int32} {v0_10 : Int32} {g0_8 : Nat → Int32} {v5_2 : Int32} {v5_4 : Int32} {v5_9 : Int32} {l1 : Int32} {l2 : Int32} {v5_5 : Int32} {v5_7 : Int32} {g5_1 : Nat → Int32} {l3 : Int32} {v5_3 : Int32} {v5_6 : Int32} {v5_8 : Int32} (k0 : 4 ≤ v7_2.toInt) (k1 : v7_2.toInt ≤ 200) (k2 : y_Rg 200 0 199 g7_0) (k3 : 0 ≤ v5_2.toInt) (k4 : v5_2.toInt ≤ v5_3.toInt) (k5 : v5_3.toInt ≤ v5_4.toInt) (k6 : v5_4.toInt ≤ 400) (k7 : y_AV 400 g5_1) (k8 : 0 ≤ v5_8.toInt) (k9 : v5_8.toInt ≤ 1) (k10 : 0 ≤ v0_0.toInt) (k11 : v0_0.toInt ≤ 199) (k12 : 0 ≤ v5_5.toInt) (k13 : v5_5.toInt ≤ 1) (k14 : y_Rg 100 0 199 g4_3) (k15 : y_ARs 100 g4_4) (k16 : y_ATy 2000 g4_6) (k17 : y_Rg 100 0 20 g4_7) (k18 : v0_10.toInt ≤ 1000) (k19 : 0 ≤ l2.toInt) (k20 : l2.toInt < 100) (k21 : -1 ≤ l3.toInt) (k22 : l3.toInt ≤ 19) : y_Ok (f_X6_invoke_L v7_2 g7_0 g7_1 g4_3 g4_4 g4_5 g4_6 g4_7 v0_0 v0_10 g0_8 v5_2 v5_4 v5_9 l1 l2 v5_5 v5_7 g5_1 (0, l3, v5_3, v5_6, v5_8)) (fun r => (v5_2.toInt ≤ r.1.toInt) ∧ (r.1.toInt ≤ v5_4.toInt) ∧ (0 ≤ r.2.1.toInt) ∧ (r.2.1.toInt ≤ 1) ∧ (0 ≤ r.2.2.2.2.1.toInt) ∧ (r.2.2.2.2.1.toInt ≤ 1) ∧ (y_AV 400 r.2.2.2.2.2)) := y_X6_invoke_L_0_i k0 k1 k2 k3 k6 k7 k10 k11 k12 k13 k14 k15 k16 k17 k18 k19 k20 (l3.toInt + 1 + 1).toNat k4 k5 k8 k9 k21 k22 (by omega)
set_option maxHeartbeats 4000000 in
theorem y_X6_invoke {v7_2 : Int32} {g7_0 : Nat → Int32} {g7_1 : Nat → Int32} {g4_3 : Nat → Int32} {g4_4 : Nat → Int32} {g4_5 : Nat → Int32} {g4_6 : Nat → Int32} {g4_7 : Nat → Int32} {v0_0 : Int32} {v0_10 : Int32} {g0_8 : Nat → Int32} {v5_2 : Int32} {v5_3 : Int32} {v5_4 : Int32} {v5_5 : Int32} {v5_6 : Int32} {v5_7 : Int32} {v5_8 : Int32} {v5_9 : Int32} {g5_1 : Nat → Int32} {p1 : Int32} {p2 : Int32} (k0 : 4 ≤ v7_2.toInt) (k1 : v7_2.toInt ≤ 200) (k2 : y_Rg 200 0 199 g7_0) (k3 : 0 ≤ v5_2.toInt) (k4 : v5_2.toInt ≤ v5_3.toInt) (k5 : v5_3.toInt ≤ v5_4.toInt) (k6 : v5_4.toInt ≤ 400) (k7 : y_AV 400 g5_1) (k8 : 0 ≤ v5_8.toInt) (k9 : v5_8.toInt ≤ 1) (k10 : 0 ≤ v0_0.toInt) (k11 : v0_0.toInt ≤ 199) (k12 : 0 ≤ v5_5.toInt) (k13 : v5_5.toInt ≤ 1) (k14 : y_Rg 100 0 199 g4_3) (k15 : y_ARs 100 g4_4) (k16 : y_ATy 2000 g4_6) (k17 : y_Rg 100 0 20 g4_7) (k18 : v0_10.toInt ≤ 1000) (k19 : 0 ≤ p2.toInt) (k20 : p2.toInt < 100) : y_Ok (f_X6_invoke v7_2 g7_0 g7_1 g4_3 g4_4 g4_5 g4_6 g4_7 v0_0 v0_10 g0_8 v5_2 v5_3 v5_4 v5_5 v5_6 v5_7 v5_8 v5_9 g5_1 p1 p2) (fun r => (v5_2.toInt ≤ r.1.toInt) ∧ (r.1.toInt ≤ v5_4.toInt) ∧ (0 ≤ r.2.1.toInt) ∧ (r.2.1.toInt ≤ 1) ∧ (0 ≤ r.2.2.2.2.1.toInt) ∧ (r.2.2.2.2.1.toInt ≤ 1) ∧ (y_AV 400 r.2.2.2.2.2)) := by
  unfold f_X6_invoke
  refine y_gd (y_gdI (by omega) (by omega)) ?_
  try have e1 := @y_cl p2 (by omega)
  try have e2 := k17.at (Int32.toNatClampNeg p2) (by omega)
  try have e3 := @y_subL (g4_7 (Int32.toNatClampNeg p2)) (1 : Int32) (1) rfl (by omega) (by omega)
  refine y_Ok.mono (y_X6_invoke_L_0 (l3 := ((g4_7 (Int32.toNatClampNeg p2)) - (1 : Int32))) (v5_3 := v5_3) (v5_6 := v5_6) (v5_8 := v5_8) (by omega) (by omega) (by first | with_reducible assumption | omega | ((with_reducible refine y_Vl ?_ ?_) <;> omega) | ((with_reducible refine y_V8 ?_) <;> (first | with_reducible assumption | (unfold y_Tr; omega))) | ((with_reducible refine y_Tr4 ?_ ?_) <;> (first | with_reducible assumption | omega)) | ((with_reducible refine (y_Tr4 ?_ ?_).ty) <;> (first | with_reducible assumption | omega)) | (unfold y_Ty; omega) | (unfold y_Tr; omega) | (with_reducible exact y_st4t _)) (by omega) (by omega) (by omega) (by omega) (by first | with_reducible assumption | omega | ((with_reducible refine y_Vl ?_ ?_) <;> omega) | ((with_reducible refine y_V8 ?_) <;> (first | with_reducible assumption | (unfold y_Tr; omega))) | ((with_reducible refine y_Tr4 ?_ ?_) <;> (first | with_reducible assumption | omega)) | ((with_reducible refine (y_Tr4 ?_ ?_).ty) <;> (first | with_reducible assumption | omega)) | (unfold y_Ty; omega) | (unfold y_Tr; omega) | (with_reducible exact y_st4t _)) (by omega) (by omega) (by omega) (by omega) (by omega) (by omega) (by first | with_reducible assumption | omega | ((with_reducible refine y_Vl ?_ ?_) <;> omega) | ((with_reducible refine y_V8 ?_) <;> (first | with_reducible assumption | (unfold y_Tr; omega))) | ((with_reducible refine y_Tr4 ?_ ?_) <;> (first | with_reducible assumption | omega)) | ((with_reducible refine (y_Tr4 ?_ ?_).ty) <;> (first | with_reducible assumption | omega)) | (unfold y_Ty; omega) | (unfold y_Tr; omega) | (with_reducible exact y_st4t _)) (by first | with_reducible assumption | omega | ((with_reducible refine y_Vl ?_ ?_) <;> omega) | ((with_reducible refine y_V8 ?_) <;> (first | with_reducible assumption | (unfold y_Tr; omega))) | ((with_reducible refine y_Tr4 ?_ ?_) <;> (first | with_reducible assumption | omega)) | ((with_reducible refine (y_Tr4 ?_ ?_).ty) <;> (first | with_reducible assumption | omega)) | (unfold y_Ty; omega) | (unfold y_Tr; omega) | (with_reducible exact y_st4t _)) (by first | with_reducible assumption | omega | ((with_reducible refine y_Vl ?_ ?_) <;> omega) | ((with_reducible refine y_V8 ?_) <;> (first | with_reducible assumption | (unfold y_Tr; omega))) | ((with_reducible refine y_Tr4 ?_ ?_) <;> (first | with_reducible assumption | omega)) | ((with_reducible refine (y_Tr4 ?_ ?_).ty) <;> (first | with_reducible assumption | omega)) | (unfold y_Ty; omega) | (unfold y_Tr; omega) | (with_reducible exact y_st4t _)) (by first | with_reducible assumption | omega | ((with_reducible refine y_Vl ?_ ?_) <;> omega) | ((with_reducible refine y_V8 ?_) <;> (first | with_reducible assumption | (unfold y_Tr; omega))) | ((with_reducible refine y_Tr4 ?_ ?_) <;> (first | with_reducible assumption | omega)) | ((with_reducible refine (y_Tr4 ?_ ?_).ty) <;> (first | with_reducible assumption | omega)) | (unfold y_Ty; omega) | (unfold y_Tr; omega) | (with_reducible exact y_st4t _)) (by omega) (by omega) (by omega) (by omega) (by omega)) (fun r_t3 h_r_t3 => ?_)
  obtain ⟨h0_r_t3, h1_r_t3, h2_r_t3, h3_r_t3, h4_r_t3, h5_r_t3, h6_r_t3⟩ := h_r_t3
  refine ⟨?_, ?_, ?_, ?_, ?_, ?_, ?_⟩ <;> (first | with_reducible assumption | omega | ((with_reducible refine y_Vl ?_ ?_) <;> omega) | ((with_reducible refine y_V8 ?_) <;> (first | with_reducible assumption | (unfold y_Tr; omega))) | ((with_reducible refine y_Tr4 ?_ ?_) <;> (first | with_reducible assumption | omega)) | ((with_reducible refine (y_Tr4 ?_ ?_).ty) <;> (first | with_reducible assumption | omega)) | (unfold y_Ty; omega) | (unfold y_Tr; omega) | (with_reducible exact y_st4t _))
set_option maxHeartbeats 4000000 in
theorem y_X6_make_L_0_i {g0_7 : Nat → Int32} {g0_8 : Nat → Int32} {g0_9 : Nat → Int32} {v5_2 : Int32} {v5_4 : Int32} {l2 : Int32} {l3 : Int32} {l4 : Int32} {v5_7 : Int32} {g5_1 : Nat → Int32} (k0 : 0 ≤ v5_2.toInt) (k3 : v5_4.toInt ≤ 400) (k4 : y_AV 400 g5_1) (h188 : l2.toInt = 188 → y_Ty ((131064 : Int32) + l3)) (h189 : l2.toInt = 189 → y_Ty ((65536 : Int32) + l3)) (hoth : ¬ l2.toInt = 188 → ¬ l2.toInt = 189 → y_Ty l3) (k10 : l4.toInt ≤ 255) : ∀ (m : Nat) {l5 : Int32} {v5_3 : Int32} {v5_6 : Int32}, (v5_2.toInt ≤ v5_3.toInt) → (v5_3.toInt ≤ v5_4.toInt) → (0 ≤ l5.toInt) → (l5.toInt ≤ 255) → 255 - l5.toInt < m → y_Ok (f_X6_make_L g0_7 g0_8 g0_9 v5_2 v5_4 l2 l3 l4 v5_7 g5_1 (0, l5, v5_3, v5_6)) (fun r => (v5_2.toInt ≤ r.1.toInt) ∧ (r.1.toInt ≤ v5_4.toInt) ∧ (y_AV 400 r.2.2.2)) := by
  intro m
  induction m with
  | zero => intro l5 v5_3 v5_6 k1 k2 k8 k9 hm; exfalso; omega
  | succ m ih =>
    intro l5 v5_3 v5_6 k1 k2 k8 k9 hm
    rw [f_X6_make_L]
    refine y_ip rfl ?_
    refine y_if (fun c1 => ?_) (fun c1 => ?_)
    · skip
      have c1' := c1
      rw [Int32.le_iff_toInt_le] at c1'
      refine y_if (fun c2 => ?_) (fun c2 => ?_)
      · skip
        have e3 : (188 : Int32).toInt = 188 := rfl
        have c2' := c2
        rw [← Int32.toInt_inj] at c2'
        have e4 : (131064 : Int32).toInt = 131064 := rfl
        try have e5 := @y_add (131064 : Int32) l3 (by omega) (by omega)
        refine y_bi (y_X5_pushType (v5_2 := v5_2) (by omega) (by omega) (by omega) (by omega) (by first | with_reducible assumption | omega | ((with_reducible refine y_Vl ?_ ?_) <;> omega) | ((with_reducible refine y_V8 ?_) <;> (first | with_reducible assumption | (unfold y_Tr; omega))) | ((with_reducible refine y_Tr4 ?_ ?_) <;> (first | with_reducible assumption | omega)) | ((with_reducible refine (y_Tr4 ?_ ?_).ty) <;> (first | with_reducible assumption | omega)) | (unfold y_Ty; omega) | (unfold y_Tr; omega) | (with_reducible exact y_st4t _) | (with_reducible exact h188 (by omega)) | (with_reducible exact h189 (by omega)) | (with_reducible exact hoth (by omega) (by omega))) (by first | with_reducible assumption | omega | ((with_reducible refine y_Vl ?_ ?_) <;> omega) | ((with_reducible refine y_V8 ?_) <;> (first | with_reducible assumption | (unfold y_Tr; omega))) | ((with_reducible refine y_Tr4 ?_ ?_) <;> (first | with_reducible assumption | omega)) | ((with_reducible refine (y_Tr4 ?_ ?_).ty) <;> (first | with_reducible assumption | omega)) | (unfold y_Ty; omega) | (unfold y_Tr; omega) | (with_reducible exact y_st4t _) | (with_reducible exact h188 (by omega)) | (with_reducible exact h189 (by omega)) | (with_reducible exact hoth (by omega) (by omega)))) (fun r_6 h_r_6 => ?_)
        obtain ⟨h0_r_6, h1_r_6, h2_r_6⟩ := h_r_6
        refine y_some ?_
        try dsimp only
        refine ⟨?_, ?_, ?_⟩ <;> (first | with_reducible assumption | omega | ((with_reducible refine y_Vl ?_ ?_) <;> omega) | ((with_reducible refine y_V8 ?_) <;> (first | with_reducible assumption | (unfold y_Tr; omega))) | ((with_reducible refine y_Tr4 ?_ ?_) <;> (first | with_reducible assumption | omega)) | ((with_reducible refine (y_Tr4 ?_ ?_).ty) <;> (first | with_reducible assumption | omega)) | (unfold y_Ty; omega) | (unfold y_Tr; omega) | (with_reducible exact y_st4t _) | (with_reducible exact h188 (by omega)) | (with_reducible exact h189 (by omega)) | (with_reducible exact hoth (by omega) (by omega)))
      · skip
        have e6 : (188 : Int32).toInt = 188 := rfl
        have c2' := c2
        rw [← Int32.toInt_inj] at c2'
        refine y_if (fun c7 => ?_) (fun c7 => ?_)
        · skip
          have e8 : (189 : Int32).toInt = 189 := rfl
          have c7' := c7
          rw [← Int32.toInt_inj] at c7'
          have e9 : (65536 : Int32).toInt = 65536 := rfl
          try have e10 := @y_add (65536 : Int32) l3 (by omega) (by omega)
          refine y_bi (y_X5_pushType (v5_2 := v5_2) (by omega) (by omega) (by omega) (by omega) (by first | with_reducible assumption | omega | ((with_reducible refine y_Vl ?_ ?_) <;> omega) | ((with_reducible refine y_V8 ?_) <;> (first | with_reducible assumption | (unfold y_Tr; omega))) | ((with_reducible refine y_Tr4 ?_ ?_) <;> (first | with_reducible assumption | omega)) | ((with_reducible refine (y_Tr4 ?_ ?_).ty) <;> (first | with_reducible assumption | omega)) | (unfold y_Ty; omega) | (unfold y_Tr; omega) | (with_reducible exact y_st4t _) | (with_reducible exact h188 (by omega)) | (with_reducible exact h189 (by omega)) | (with_reducible exact hoth (by omega) (by omega))) (by first | with_reducible assumption | omega | ((with_reducible refine y_Vl ?_ ?_) <;> omega) | ((with_reducible refine y_V8 ?_) <;> (first | with_reducible assumption | (unfold y_Tr; omega))) | ((with_reducible refine y_Tr4 ?_ ?_) <;> (first | with_reducible assumption | omega)) | ((with_reducible refine (y_Tr4 ?_ ?_).ty) <;> (first | with_reducible assumption | omega)) | (unfold y_Ty; omega) | (unfold y_Tr; omega) | (with_reducible exact y_st4t _) | (with_reducible exact h188 (by omega)) | (with_reducible exact h189 (by omega)) | (with_reducible exact hoth (by omega) (by omega)))) (fun r_5 h_r_5 => ?_)
          obtain ⟨h0_r_5, h1_r_5, h2_r_5⟩ := h_r_5
          refine y_some ?_
          try dsimp only
          refine ⟨?_, ?_, ?_⟩ <;> (first | with_reducible assumption | omega | ((with_reducible refine y_Vl ?_ ?_) <;> omega) | ((with_reducible refine y_V8 ?_) <;> (first | with_reducible assumption | (unfold y_Tr; omega))) | ((with_reducible refine y_Tr4 ?_ ?_) <;> (first | with_reducible assumption | omega)) | ((with_reducible refine (y_Tr4 ?_ ?_).ty) <;> (first | with_reducible assumption | omega)) | (unfold y_Ty; omega) | (unfold y_Tr; omega) | (with_reducible exact y_st4t _) | (with_reducible exact h188 (by omega)) | (with_reducible exact h189 (by omega)) | (with_reducible exact hoth (by omega) (by omega)))
        · skip
          have e11 : (189 : Int32).toInt = 189 := rfl
          have c7' := c7
          rw [← Int32.toInt_inj] at c7'
          refine y_bi (y_X5_pushType (v5_2 := v5_2) (by omega) (by omega) (by omega) (by omega) (by first | with_reducible assumption | omega | ((with_reducible refine y_Vl ?_ ?_) <;> omega) | ((with_reducible refine y_V8 ?_) <;> (first | with_reducible assumption | (unfold y_Tr; omega))) | ((with_reducible refine y_Tr4 ?_ ?_) <;> (first | with_reducible assumption | omega)) | ((with_reducible refine (y_Tr4 ?_ ?_).ty) <;> (first | with_reducible assumption | omega)) | (unfold y_Ty; omega) | (unfold y_Tr; omega) | (with_reducible exact y_st4t _) | (with_reducible exact h188 (by omega)) | (with_reducible exact h189 (by omega)) | (with_reducible exact hoth (by omega) (by omega))) (by first | with_reducible assumption | omega | ((with_reducible refine y_Vl ?_ ?_) <;> omega) | ((with_reducible refine y_V8 ?_) <;> (first | with_reducible assumption | (unfold y_Tr; omega))) | ((with_reducible refine y_Tr4 ?_ ?_) <;> (first | with_reducible assumption | omega)) | ((with_reducible refine (y_Tr4 ?_ ?_).ty) <;> (first | with_reducible assumption | omega)) | (unfold y_Ty; omega) | (unfold y_Tr; omega) | (with_reducible exact y_st4t _) | (with_reducible exact h188 (by omega)) | (with_reducible exact h189 (by omega)) | (with_reducible exact hoth (by omega) (by omega)))) (fun r_4 h_r_4 => ?_)
          obtain ⟨h0_r_4, h1_r_4, h2_r_4⟩ := h_r_4
          refine y_some ?_
          try dsimp only
          refine ⟨?_, ?_, ?_⟩ <;> (first | with_reducible assumption | omega | ((with_reducible refine y_Vl ?_ ?_) <;> omega) | ((with_reducible refine y_V8 ?_) <;> (first | with_reducible assumption | (unfold y_Tr; omega))) | ((with_reducible refine y_Tr4 ?_ ?_) <;> (first | with_reducible assumption | omega)) | ((with_reducible refine (y_Tr4 ?_ ?_).ty) <;> (first | with_reducible assumption | omega)) | (unfold y_Ty; omega) | (unfold y_Tr; omega) | (with_reducible exact y_st4t _) | (with_reducible exact h188 (by omega)) | (with_reducible exact h189 (by omega)) | (with_reducible exact hoth (by omega) (by omega)))
    · skip
      have c1' := c1
      rw [Int32.le_iff_toInt_le] at c1'
      have e12 : (1 : Int32).toInt = 1 := rfl
      refine y_bi (y_X5_pullKind (by omega) (by omega) (by omega)) (fun r_7 h_r_7 => ?_)
      obtain ⟨h0_r_7, h1_r_7⟩ := h_r_7
      try have e13 := @y_addL l5 (1 : Int32) (1) rfl (by omega) (by omega)
      exact ih (l5 := (l5 + 1)) (v5_3 := r_7.1) (v5_6 := r_7.2) (by omega) (by omega) (by omega) (by omega) (by omega)
theorem y_X6_make_L_0 {g0_7 : Nat → Int32} {g0_8 : Nat → Int32} {g0_9 : Nat → Int32} {v5_2 : Int32} {v5_4 : Int32} {l2 : Int32} {l3 : Int32} {l4 : Int32} {v5_7 : Int32} {g5_1 : Nat → Int32} {l5 : Int32} {v5_3 : Int32} {v5_6 : Int32} (k0 : 0 ≤ v5_2.toInt) (k1 : v5_2.toInt ≤ v5_3.toInt) (k2 : v5_3.toInt ≤ v5_4.toInt) (k3 : v5_4.toInt ≤ 400) (k4 : y_AV 400 g5_1) (h188 : l2.toInt = 188 → y_Ty ((131064 : Int32) + l3)) (h189 : l2.toInt = 189 → y_Ty ((65536 : Int32) + l3)) (hoth : ¬ l2.toInt = 188 → ¬ l2.toInt = 189 → y_Ty l3) (k8 : 0 ≤ l5.toInt) (k9 : l5.toInt ≤ 255) (k10 : l4.toInt ≤ 255) : y_Ok (f_X6_make_L g0_7 g0_8 g0_9 v5_2 v5_4 l2 l3 l4 v5_7 g5_1 (0, l5, v5_3, v5_6)) (fun r => (v5_2.toInt ≤ r.1.toInt) ∧ (r.1.toInt ≤ v5_4.toInt) ∧ (y_AV 400 r.2.2.2)) := y_X6_make_L_0_i k0 k3 k4 h188 h189 hoth k10 (255 - l5.toInt + 1).toNat k1 k2 k8 k9 (by omega)
set_option maxHeartbeats 4000000 in
theorem y_X6_make {g0_7 : Nat → Int32} {g0_8 : Nat → Int32} {g0_9 : Nat → Int32} {v5_2 : Int32} {v5_3 : Int32} {v5_4 : Int32} {v5_6 : Int32} {v5_7 : Int32} {g5_1 : Nat → Int32} {p1 : Int32} (k0 : 0 ≤ v5_2.toInt) (k1 : v5_2.toInt ≤ v5_3.toInt) (k2 : v5_3.toInt ≤ v5_4.toInt) (k3 : v5_4.toInt ≤ 400) (k4 : y_AV 400 g5_1) (hI : y_AIn g0_7 g0_8 g0_9) (k6 : 0 ≤ p1.toInt) (k7 : p1.toInt < 1000) (k8 : 187 ≤ (g0_7 (Int32.toNatClampNeg p1)).toInt ∧ (g0_7 (Int32.toNatClampNeg p1)).toInt ≤ 189 ∨ 196 ≤ (g0_7 (Int32.toNatClampNeg p1)).toInt ∧ (g0_7 (Int32.toNatClampNeg p1)).toInt ≤ 197) : y_Ok (f_X6_make g0_7 g0_8 g0_9 v5_2 v5_3 v5_4 v5_6 v5_7 g5_1 p1) (fun r => (v5_2.toInt ≤ r.1.toInt) ∧ (r.1.toInt ≤ v5_4.toInt) ∧ (y_AV 400 r.2.2.2)) := by
  have hp := @y_cl p1 (by omega)
  have hIn := hI (Int32.toNatClampNeg p1) (by omega)
  have i0 := hIn.o0
  have i4 := fun z => (hIn.mu z).2
  unfold f_X6_make
  refine y_gd (y_gdI (by omega) (by omega)) ?_
  refine y_gd (y_gdI (by omega) (by omega)) ?_
  refine y_if (fun c1 => ?_) (fun c1 => ?_)
  · skip
    try have e2 := @y_cl p1 (by omega)
    have e3 : (187 : Int32).toInt = 187 := rfl
    have c1' := c1
    rw [← Int32.toInt_inj] at c1'
    have e4 : (16 : Int32).toInt = 16 := rfl
    try have e5 := @y_mulL (16 : Int32) p1 16 rfl (by omega) (by omega)
    try have e6 := @y_addL ((16 : Int32) * p1) (9 : Int32) (9) rfl (by omega) (by omega)
    refine y_bi (y_X5_forget (by omega) (by first | with_reducible assumption | omega | ((with_reducible refine y_Vl ?_ ?_) <;> omega) | ((with_reducible refine y_V8 ?_) <;> (first | with_reducible assumption | (unfold y_Tr; omega))) | ((with_reducible refine y_Tr4 ?_ ?_) <;> (first | with_reducible assumption | omega)) | ((with_reducible refine (y_Tr4 ?_ ?_).ty) <;> (first | with_reducible assumption | omega)) | (unfold y_Ty; omega) | (unfold y_Tr; omega) | (with_reducible exact y_st4t _) | ((with_reducible refine y_V9 ?_ ?_) <;> omega) | (intro hz; have z0 : (131064 : Int32).toInt = 131064 := rfl; have z1 := hIn.na (by omega); have z2 := @y_add (131064 : Int32) (g0_8 (Int32.toNatClampNeg p1)) (by omega) (by omega); unfold y_Ty; omega) | (intro hz; have z0 : (65536 : Int32).toInt = 65536 := rfl; have z1 := (hIn.ar (by omega)); have z3 := z1.1; unfold y_Tr at z3; have z2 := @y_add (65536 : Int32) (g0_8 (Int32.toNatClampNeg p1)) (by omega) (by omega); unfold y_Ty; omega) | (intro hz1 hz2; exfalso; omega) | (intro hz1 hz2; exact (hIn.mu (by omega)).1.ty) | (intro hz; exfalso; omega) | (have z4 := (hIn.mu (by omega)).2.2; omega))) (fun r_13 h_r_13 => ?_)
    have h0_r_13 : y_AV 400 r_13.2.2 := h_r_13
    refine y_bi (y_X5_push (v5_2 := v5_2) (by omega) (by omega) (by omega) (by omega) (by first | with_reducible assumption | omega | ((with_reducible refine y_Vl ?_ ?_) <;> omega) | ((with_reducible refine y_V8 ?_) <;> (first | with_reducible assumption | (unfold y_Tr; omega))) | ((with_reducible refine y_Tr4 ?_ ?_) <;> (first | with_reducible assumption | omega)) | ((with_reducible refine (y_Tr4 ?_ ?_).ty) <;> (first | with_reducible assumption | omega)) | (unfold y_Ty; omega) | (unfold y_Tr; omega) | (with_reducible exact y_st4t _) | ((with_reducible refine y_V9 ?_ ?_) <;> omega) | (intro hz; have z0 : (131064 : Int32).toInt = 131064 := rfl; have z1 := hIn.na (by omega); have z2 := @y_add (131064 : Int32) (g0_8 (Int32.toNatClampNeg p1)) (by omega) (by omega); unfold y_Ty; omega) | (intro hz; have z0 : (65536 : Int32).toInt = 65536 := rfl; have z1 := (hIn.ar (by omega)); have z3 := z1.1; unfold y_Tr at z3; have z2 := @y_add (65536 : Int32) (g0_8 (Int32.toNatClampNeg p1)) (by omega) (by omega); unfold y_Ty; omega) | (intro hz1 hz2; exfalso; omega) | (intro hz1 hz2; exact (hIn.mu (by omega)).1.ty) | (intro hz; exfalso; omega) | (have z4 := (hIn.mu (by omega)).2.2; omega)) (by first | with_reducible assumption | omega | ((with_reducible refine y_Vl ?_ ?_) <;> omega) | ((with_reducible refine y_V8 ?_) <;> (first | with_reducible assumption | (unfold y_Tr; omega))) | ((with_reducible refine y_Tr4 ?_ ?_) <;> (first | with_reducible assumption | omega)) | ((with_reducible refine (y_Tr4 ?_ ?_).ty) <;> (first | with_reducible assumption | omega)) | (unfold y_Ty; omega) | (unfold y_Tr; omega) | (with_reducible exact y_st4t _) | ((with_reducible refine y_V9 ?_ ?_) <;> omega) | (intro hz; have z0 : (131064 : Int32).toInt = 131064 := rfl; have z1 := hIn.na (by omega); have z2 := @y_add (131064 : Int32) (g0_8 (Int32.toNatClampNeg p1)) (by omega) (by omega); unfold y_Ty; omega) | (intro hz; have z0 : (65536 : Int32).toInt = 65536 := rfl; have z1 := (hIn.ar (by omega)); have z3 := z1.1; unfold y_Tr at z3; have z2 := @y_add (65536 : Int32) (g0_8 (Int32.toNatClampNeg p1)) (by omega) (by omega); unfold y_Ty; omega) | (intro hz1 hz2; exfalso; omega) | (intro hz1 hz2; exact (hIn.mu (by omega)).1.ty) | (intro hz; exfalso; omega) | (have z4 := (hIn.mu (by omega)).2.2; omega))) (fun r_14 h_r_14 => ?_)
    obtain ⟨h0_r_14, h1_r_14, h2_r_14⟩ := h_r_14
    refine y_some ?_
    try dsimp only
    refine ⟨?_, ?_, ?_⟩ <;> (first | with_reducible assumption | omega | ((with_reducible refine y_Vl ?_ ?_) <;> omega) | ((with_reducible refine y_V8 ?_) <;> (first | with_reducible assumption | (unfold y_Tr; omega))) | ((with_reducible refine y_Tr4 ?_ ?_) <;> (first | with_reducible assumption | omega)) | ((with_reducible refine (y_Tr4 ?_ ?_).ty) <;> (first | with_reducible assumption | omega)) | (unfold y_Ty; omega) | (unfold y_Tr; omega) | (with_reducible exact y_st4t _) | ((with_reducible refine y_V9 ?_ ?_) <;> omega) | (intro hz; have z0 : (131064 : Int32).toInt = 131064 := rfl; have z1 := hIn.na (by omega); have z2 := @y_add (131064 : Int32) (g0_8 (Int32.toNatClampNeg p1)) (by omega) (by omega); unfold y_Ty; omega) | (intro hz; have z0 : (65536 : Int32).toInt = 65536 := rfl; have z1 := (hIn.ar (by omega)); have z3 := z1.1; unfold y_Tr at z3; have z2 := @y_add (65536 : Int32) (g0_8 (Int32.toNatClampNeg p1)) (by omega) (by omega); unfold y_Ty; omega) | (intro hz1 hz2; exfalso; omega) | (intro hz1 hz2; exact (hIn.mu (by omega)).1.ty) | (intro hz; exfalso; omega) | (have z4 := (hIn.mu (by omega)).2.2; omega))
  · skip
    try have e7 := @y_cl p1 (by omega)
    have e8 : (187 : Int32).toInt = 187 := rfl
    have c1' := c1
    rw [← Int32.toInt_inj] at c1'
    refine y_if (fun c9 => ?_) (fun c9 => ?_)
    · skip
      have e10 : (197 : Int32).toInt = 197 := rfl
      have c9' := c9
      rw [← Int32.toInt_inj] at c9'
      refine y_gd (y_gdI (by omega) (by omega)) ?_
      have e11 : (0 : Int32).toInt = 0 := rfl
      refine y_Ok.mono (y_X6_make_L_0 (l5 := 0) (v5_3 := v5_3) (v5_6 := v5_6) (by omega) (by omega) (by omega) (by omega) (by first | with_reducible assumption | omega | ((with_reducible refine y_Vl ?_ ?_) <;> omega) | ((with_reducible refine y_V8 ?_) <;> (first | with_reducible assumption | (unfold y_Tr; omega))) | ((with_reducible refine y_Tr4 ?_ ?_) <;> (first | with_reducible assumption | omega)) | ((with_reducible refine (y_Tr4 ?_ ?_).ty) <;> (first | with_reducible assumption | omega)) | (unfold y_Ty; omega) | (unfold y_Tr; omega) | (with_reducible exact y_st4t _) | ((with_reducible refine y_V9 ?_ ?_) <;> omega) | (intro hz; have z0 : (131064 : Int32).toInt = 131064 := rfl; have z1 := hIn.na (by omega); have z2 := @y_add (131064 : Int32) (g0_8 (Int32.toNatClampNeg p1)) (by omega) (by omega); unfold y_Ty; omega) | (intro hz; have z0 : (65536 : Int32).toInt = 65536 := rfl; have z1 := (hIn.ar (by omega)); have z3 := z1.1; unfold y_Tr at z3; have z2 := @y_add (65536 : Int32) (g0_8 (Int32.toNatClampNeg p1)) (by omega) (by omega); unfold y_Ty; omega) | (intro hz1 hz2; exfalso; omega) | (intro hz1 hz2; exact (hIn.mu (by omega)).1.ty) | (intro hz; exfalso; omega) | (have z4 := (hIn.mu (by omega)).2.2; omega)) (by first | with_reducible assumption | omega | ((with_reducible refine y_Vl ?_ ?_) <;> omega) | ((with_reducible refine y_V8 ?_) <;> (first | with_reducible assumption | (unfold y_Tr; omega))) | ((with_reducible refine y_Tr4 ?_ ?_) <;> (first | with_reducible assumption | omega)) | ((with_reducible refine (y_Tr4 ?_ ?_).ty) <;> (first | with_reducible assumption | omega)) | (unfold y_Ty; omega) | (unfold y_Tr; omega) | (with_reducible exact y_st4t _) | ((with_reducible refine y_V9 ?_ ?_) <;> omega) | (intro hz; have z0 : (131064 : Int32).toInt = 131064 := rfl; have z1 := hIn.na (by omega); have z2 := @y_add (131064 : Int32) (g0_8 (Int32.toNatClampNeg p1)) (by omega) (by omega); unfold y_Ty; omega) | (intro hz; have z0 : (65536 : Int32).toInt = 65536 := rfl; have z1 := (hIn.ar (by omega)); have z3 := z1.1; unfold y_Tr at z3; have z2 := @y_add (65536 : Int32) (g0_8 (Int32.toNatClampNeg p1)) (by omega) (by omega); unfold y_Ty; omega) | (intro hz1 hz2; exfalso; omega) | (intro hz1 hz2; exact (hIn.mu (by omega)).1.ty) | (intro hz; exfalso; omega) | (have z4 := (hIn.mu (by omega)).2.2; omega)) (by first | with_reducible assumption | omega | ((with_reducible refine y_Vl ?_ ?_) <;> omega) | ((with_reducible refine y_V8 ?_) <;> (first | with_reducible assumption | (unfold y_Tr; omega))) | ((with_reducible refine y_Tr4 ?_ ?_) <;> (first | with_reducible assumption | omega)) | ((with_reducible refine (y_Tr4 ?_ ?_).ty) <;> (first | with_reducible assumption | omega)) | (unfold y_Ty; omega) | (unfold y_Tr; omega) | (with_reducible exact y_st4t _) | ((with_reducible refine y_V9 ?_ ?_) <;> omega) | (intro hz; have z0 : (131064 : Int32).toInt = 131064 := rfl; have z1 := hIn.na (by omega); have z2 := @y_add (131064 : Int32) (g0_8 (Int32.toNatClampNeg p1)) (by omega) (by omega); unfold y_Ty; omega) | (intro hz; have z0 : (65536 : Int32).toInt = 65536 := rfl; have z1 := (hIn.ar (by omega)); have z3 := z1.1; unfold y_Tr at z3; have z2 := @y_add (65536 : Int32) (g0_8 (Int32.toNatClampNeg p1)) (by omega) (by omega); unfold y_Ty; omega) | (intro hz1 hz2; exfalso; omega) | (intro hz1 hz2; exact (hIn.mu (by omega)).1.ty) | (intro hz; exfalso; omega) | (have z4 := (hIn.mu (by omega)).2.2; omega)) (by first | with_reducible assumption | omega | ((with_reducible refine y_Vl ?_ ?_) <;> omega) | ((with_reducible refine y_V8 ?_) <;> (first | with_reducible assumption | (unfold y_Tr; omega))) | ((with_reducible refine y_Tr4 ?_ ?_) <;> (first | with_reducible assumption | omega)) | ((with_reducible refine (y_Tr4 ?_ ?_).ty) <;> (first | with_reducible assumption | omega)) | (unfold y_Ty; omega) | (unfold y_Tr; omega) | (with_reducible exact y_st4t _) | ((with_reducible refine y_V9 ?_ ?_) <;> omega) | (intro hz; have z0 : (131064 : Int32).toInt = 131064 := rfl; have z1 := hIn.na (by omega); have z2 := @y_add (131064 : Int32) (g0_8 (Int32.toNatClampNeg p1)) (by omega) (by omega); unfold y_Ty; omega) | (intro hz; have z0 : (65536 : Int32).toInt = 65536 := rfl; have z1 := (hIn.ar (by omega)); have z3 := z1.1; unfold y_Tr at z3; have z2 := @y_add (65536 : Int32) (g0_8 (Int32.toNatClampNeg p1)) (by omega) (by omega); unfold y_Ty; omega) | (intro hz1 hz2; exfalso; omega) | (intro hz1 hz2; exact (hIn.mu (by omega)).1.ty) | (intro hz; exfalso; omega) | (have z4 := (hIn.mu (by omega)).2.2; omega)) (by omega) (by omega) (by omega)) (fun r_t11 h_r_t11 => ?_)
      obtain ⟨h0_r_t11, h1_r_t11, h2_r_t11⟩ := h_r_t11
      refine ⟨?_, ?_, ?_⟩ <;> (first | with_reducible assumption | omega | ((with_reducible refine y_Vl ?_ ?_) <;> omega) | ((with_reducible refine y_V8 ?_) <;> (first | with_reducible assumption | (unfold y_Tr; omega))) | ((with_reducible refine y_Tr4 ?_ ?_) <;> (first | with_reducible assumption | omega)) | ((with_reducible refine (y_Tr4 ?_ ?_).ty) <;> (first | with_reducible assumption | omega)) | (unfold y_Ty; omega) | (unfold y_Tr; omega) | (with_reducible exact y_st4t _) | ((with_reducible refine y_V9 ?_ ?_) <;> omega) | (intro hz; have z0 : (131064 : Int32).toInt = 131064 := rfl; have z1 := hIn.na (by omega); have z2 := @y_add (131064 : Int32) (g0_8 (Int32.toNatClampNeg p1)) (by omega) (by omega); unfold y_Ty; omega) | (intro hz; have z0 : (65536 : Int32).toInt = 65536 := rfl; have z1 := (hIn.ar (by omega)); have z3 := z1.1; unfold y_Tr at z3; have z2 := @y_add (65536 : Int32) (g0_8 (Int32.toNatClampNeg p1)) (by omega) (by omega); unfold y_Ty; omega) | (intro hz1 hz2; exfalso; omega) | (intro hz1 hz2; exact (hIn.mu (by omega)).1.ty) | (intro hz; exfalso; omega) | (have z4 := (hIn.mu (by omega)).2.2; omega))
    · skip
      have e13 : (197 : Int32).toInt = 197 := rfl
      have c9' := c9
      rw [← Int32.toInt_inj] at c9'
      have e14 : (1 : Int32).toInt = 1 := rfl
      have e15 : (0 : Int32).toInt = 0 := rfl
      refine y_Ok.mono (y_X6_make_L_0 (l5 := 0) (v5_3 := v5_3) (v5_6 := v5_6) (by omega) (by omega) (by omega) (by omega) (by first | with_reducible assumption | omega | ((with_reducible refine y_Vl ?_ ?_) <;> omega) | ((with_reducible refine y_V8 ?_) <;> (first | with_reducible assumption | (unfold y_Tr; omega))) | ((with_reducible refine y_Tr4 ?_ ?_) <;> (first | with_reducible assumption | omega)) | ((with_reducible refine (y_Tr4 ?_ ?_).ty) <;> (first | with_reducible assumption | omega)) | (unfold y_Ty; omega) | (unfold y_Tr; omega) | (with_reducible exact y_st4t _) | ((with_reducible refine y_V9 ?_ ?_) <;> omega) | (intro hz; have z0 : (131064 : Int32).toInt = 131064 := rfl; have z1 := hIn.na (by omega); have z2 := @y_add (131064 : Int32) (g0_8 (Int32.toNatClampNeg p1)) (by omega) (by omega); unfold y_Ty; omega) | (intro hz; have z0 : (65536 : Int32).toInt = 65536 := rfl; have z1 := (hIn.ar (by omega)); have z3 := z1.1; unfold y_Tr at z3; have z2 := @y_add (65536 : Int32) (g0_8 (Int32.toNatClampNeg p1)) (by omega) (by omega); unfold y_Ty; omega) | (intro hz1 hz2; exfalso; omega) | (intro hz1 hz2; exact (hIn.mu (by omega)).1.ty) | (intro hz; exfalso; omega) | (have z4 := (hIn.mu (by omega)).2.2; omega)) (by first | with_reducible assumption | omega | ((with_reducible refine y_Vl ?_ ?_) <;> omega) | ((with_reducible refine y_V8 ?_) <;> (first | with_reducible assumption | (unfold y_Tr; omega))) | ((with_reducible refine y_Tr4 ?_ ?_) <;> (first | with_reducible assumption | omega)) | ((with_reducible refine (y_Tr4 ?_ ?_).ty) <;> (first | with_reducible assumption | omega)) | (unfold y_Ty; omega) | (unfold y_Tr; omega) | (with_reducible exact y_st4t _) | ((with_reducible refine y_V9 ?_ ?_) <;> omega) | (intro hz; have z0 : (131064 : Int32).toInt = 131064 := rfl; have z1 := hIn.na (by omega); have z2 := @y_add (131064 : Int32) (g0_8 (Int32.toNatClampNeg p1)) (by omega) (by omega); unfold y_Ty; omega) | (intro hz; have z0 : (65536 : Int32).toInt = 65536 := rfl; have z1 := (hIn.ar (by omega)); have z3 := z1.1; unfold y_Tr at z3; have z2 := @y_add (65536 : Int32) (g0_8 (Int32.toNatClampNeg p1)) (by omega) (by omega); unfold y_Ty; omega) | (intro hz1 hz2; exfalso; omega) | (intro hz1 hz2; exact (hIn.mu (by omega)).1.ty) | (intro hz; exfalso; omega) | (have z4 := (hIn.mu (by omega)).2.2; omega)) (by first | with_reducible assumption | omega | ((with_reducible refine y_Vl ?_ ?_) <;> omega) | ((with_reducible refine y_V8 ?_) <;> (first | with_reducible assumption | (unfold y_Tr; omega))) | ((with_reducible refine y_Tr4 ?_ ?_) <;> (first | with_reducible assumption | omega)) | ((with_reducible refine (y_Tr4 ?_ ?_).ty) <;> (first | with_reducible assumption | omega)) | (unfold y_Ty; omega) | (unfold y_Tr; omega) | (with_reducible exact y_st4t _) | ((with_reducible refine y_V9 ?_ ?_) <;> omega) | (intro hz; have z0 : (131064 : Int32).toInt = 131064 := rfl; have z1 := hIn.na (by omega); have z2 := @y_add (131064 : Int32) (g0_8 (Int32.toNatClampNeg p1)) (by omega) (by omega); unfold y_Ty; omega) | (intro hz; have z0 : (65536 : Int32).toInt = 65536 := rfl; have z1 := (hIn.ar (by omega)); have z3 := z1.1; unfold y_Tr at z3; have z2 := @y_add (65536 : Int32) (g0_8 (Int32.toNatClampNeg p1)) (by omega) (by omega); unfold y_Ty; omega) | (intro hz1 hz2; exfalso; omega) | (intro hz1 hz2; exact (hIn.mu (by omega)).1.ty) | (intro hz; exfalso; omega) | (have z4 := (hIn.mu (by omega)).2.2; omega)) (by first | with_reducible assumption | omega | ((with_reducible refine y_Vl ?_ ?_) <;> omega) | ((with_reducible refine y_V8 ?_) <;> (first | with_reducible assumption | (unfold y_Tr; omega))) | ((with_reducible refine y_Tr4 ?_ ?_) <;> (first | with_reducible assumption | omega)) | ((with_reducible refine (y_Tr4 ?_ ?_).ty) <;> (first | with_reducible assumption | omega)) | (unfold y_Ty; omega) | (unfold y_Tr; omega) | (with_reducible exact y_st4t _) | ((with_reducible refine y_V9 ?_ ?_) <;> omega) | (intro hz; have z0 : (131064 : Int32).toInt = 131064 := rfl; have z1 := hIn.na (by omega); have z2 := @y_add (131064 : Int32) (g0_8 (Int32.toNatClampNeg p1)) (by omega) (by omega); unfold y_Ty; omega) | (intro hz; have z0 : (65536 : Int32).toInt = 65536 := rfl; have z1 := (hIn.ar (by omega)); have z3 := z1.1; unfold y_Tr at z3; have z2 := @y_add (65536 : Int32) (g0_8 (Int32.toNatClampNeg p1)) (by omega) (by omega); unfold y_Ty; omega) | (intro hz1 hz2; exfalso; omega) | (intro hz1 hz2; exact (hIn.mu (by omega)).1.ty) | (intro hz; exfalso; omega) | (have z4 := (hIn.mu (by omega)).2.2; omega)) (by omega) (by omega) (by omega)) (fun r_t15 h_r_t15 => ?_)
      obtain ⟨h0_r_t15, h1_r_t15, h2_r_t15⟩ := h_r_t15
      refine ⟨?_, ?_, ?_⟩ <;> (first | with_reducible assumption | omega | ((with_reducible refine y_Vl ?_ ?_) <;> omega) | ((with_reducible refine y_V8 ?_) <;> (first | with_reducible assumption | (unfold y_Tr; omega))) | ((with_reducible refine y_Tr4 ?_ ?_) <;> (first | with_reducible assumption | omega)) | ((with_reducible refine (y_Tr4 ?_ ?_).ty) <;> (first | with_reducible assumption | omega)) | (unfold y_Ty; omega) | (unfold y_Tr; omega) | (with_reducible exact y_st4t _) | ((with_reducible refine y_V9 ?_ ?_) <;> omega) | (intro hz; have z0 : (131064 : Int32).toInt = 131064 := rfl; have z1 := hIn.na (by omega); have z2 := @y_add (131064 : Int32) (g0_8 (Int32.toNatClampNeg p1)) (by omega) (by omega); unfold y_Ty; omega) | (intro hz; have z0 : (65536 : Int32).toInt = 65536 := rfl; have z1 := (hIn.ar (by omega)); have z3 := z1.1; unfold y_Tr at z3; have z2 := @y_add (65536 : Int32) (g0_8 (Int32.toNatClampNeg p1)) (by omega) (by omega); unfold y_Ty; omega) | (intro hz1 hz2; exfalso; omega) | (intro hz1 hz2; exact (hIn.mu (by omega)).1.ty) | (intro hz; exfalso; omega) | (have z4 := (hIn.mu (by omega)).2.2; omega))
set_option maxHeartbeats 4000000 in
theorem y_X6_useReference {v7_2 : Int32} {g7_0 : Nat → Int32} {g7_1 : Nat → Int32} {v5_2 : Int32} {v5_3 : Int32} {v5_4 : Int32} {v5_6 : Int32} {v5_8 : Int32} {v5_9 : Int32} {g5_1 : Nat → Int32} {p1 : Int32} {p2 : Int32} (k0 : 4 ≤ v7_2.toInt) (k1 : v7_2.toInt ≤ 200) (k2 : y_Rg 200 0 199 g7_0) (k3 : 0 ≤ v5_2.toInt) (k4 : v5_2.toInt ≤ v5_3.toInt) (k5 : v5_3.toInt ≤ v5_4.toInt) (k6 : v5_4.toInt ≤ 400) (k7 : y_AV 400 g5_1) (k8 : 0 ≤ v5_8.toInt) (k9 : v5_8.toInt ≤ 1) (k10 : p1.toInt = 192 → y_Ty p2) : y_Ok (f_X6_useReference v7_2 g7_0 g7_1 v5_2 v5_3 v5_4 v5_6 v5_8 v5_9 g5_1 p1 p2) (fun r => (v5_2.toInt ≤ r.1.toInt) ∧ (r.1.toInt ≤ v5_4.toInt) ∧ (0 ≤ r.2.2.1.toInt) ∧ (r.2.2.1.toInt ≤ 1) ∧ (y_AV 400 r.2.2.2)) := by
  unfold f_X6_useReference
  refine y_if (fun c1 => ?_) (fun c1 => ?_)
  · skip
    have e2 : (190 : Int32).toInt = 190 := rfl
    have c1' := c1
    rw [← Int32.toInt_inj] at c1'
    refine y_bi (y_X5_pullArray (by omega) (by omega) (by omega) (by first | with_reducible assumption | omega | ((with_reducible refine y_Vl ?_ ?_) <;> omega) | ((with_reducible refine y_V8 ?_) <;> (first | with_reducible assumption | (unfold y_Tr; omega))) | ((with_reducible refine y_Tr4 ?_ ?_) <;> (first | with_reducible assumption | omega)) | ((with_reducible refine (y_Tr4 ?_ ?_).ty) <;> (first | with_reducible assumption | omega)) | (unfold y_Ty; omega) | (unfold y_Tr; omega) | (with_reducible exact y_st4t _) | (apply k10; omega))) (fun r_2 h_r_2 => ?_)
    obtain ⟨h0_r_2, h1_r_2, h2_r_2⟩ := h_r_2
    have e3 : (1 : Int32).toInt = 1 := rfl
    refine y_bi (y_X5_push (v5_2 := v5_2) (by omega) (by omega) (by omega) (by omega) (by first | with_reducible assumption | omega | ((with_reducible refine y_Vl ?_ ?_) <;> omega) | ((with_reducible refine y_V8 ?_) <;> (first | with_reducible assumption | (unfold y_Tr; omega))) | ((with_reducible refine y_Tr4 ?_ ?_) <;> (first | with_reducible assumption | omega)) | ((with_reducible refine (y_Tr4 ?_ ?_).ty) <;> (first | with_reducible assumption | omega)) | (unfold y_Ty; omega) | (unfold y_Tr; omega) | (with_reducible exact y_st4t _) | (apply k10; omega)) (by first | with_reducible assumption | omega | ((with_reducible refine y_Vl ?_ ?_) <;> omega) | ((with_reducible refine y_V8 ?_) <;> (first | with_reducible assumption | (unfold y_Tr; omega))) | ((with_reducible refine y_Tr4 ?_ ?_) <;> (first | with_reducible assumption | omega)) | ((with_reducible refine (y_Tr4 ?_ ?_).ty) <;> (first | with_reducible assumption | omega)) | (unfold y_Ty; omega) | (unfold y_Tr; omega) | (with_reducible exact y_st4t _) | (apply k10; omega))) (fun r_3 h_r_3 => ?_)
    obtain ⟨h0_r_3, h1_r_3, h2_r_3⟩ := h_r_3
    refine y_some ?_
    try dsimp only
    refine ⟨?_, ?_, ?_, ?_, ?_⟩ <;> (first | with_reducible assumption | omega | ((with_reducible refine y_Vl ?_ ?_) <;> omega) | ((with_reducible refine y_V8 ?_) <;> (first | with_reducible assumption | (unfold y_Tr; omega))) | ((with_reducible refine y_Tr4 ?_ ?_) <;> (first | with_reducible assumption | omega)) | ((with_reducible refine (y_Tr4 ?_ ?_).ty) <;> (first | with_reducible assumption | omega)) | (unfold y_Ty; omega) | (unfold y_Tr; omega) | (with_reducible exact y_st4t _) | (apply k10; omega))
  · skip
    have e4 : (190 : Int32).toInt = 190 := rfl
    have c1' := c1
    rw [← Int32.toInt_inj] at c1'
    refine y_if (fun c5 => ?_) (fun c5 => ?_)
    · skip
      have e6 : (191 : Int32).toInt = 191 := rfl
      have c5' := c5
      rw [← Int32.toInt_inj] at c5'
      have e7 : (1 : Int32).toInt = 1 := rfl
      refine y_bi (y_X5_pullType (by omega) (by omega) (by first | with_reducible assumption | omega | ((with_reducible refine y_Vl ?_ ?_) <;> omega) | ((with_reducible refine y_V8 ?_) <;> (first | with_reducible assumption | (unfold y_Tr; omega))) | ((with_reducible refine y_Tr4 ?_ ?_) <;> (first | with_reducible assumption | omega)) | ((with_reducible refine (y_Tr4 ?_ ?_).ty) <;> (first | with_reducible assumption | omega)) | (unfold y_Ty; omega) | (unfold y_Tr; omega) | (with_reducible exact y_st4t _) | (apply k10; omega)) (by omega) (by omega) (by omega) (by first | with_reducible assumption | omega | ((with_reducible refine y_Vl ?_ ?_) <;> omega) | ((with_reducible refine y_V8 ?_) <;> (first | with_reducible assumption | (unfold y_Tr; omega))) | ((with_reducible refine y_Tr4 ?_ ?_) <;> (first | with_reducible assumption | omega)) | ((with_reducible refine (y_Tr4 ?_ ?_).ty) <;> (first | with_reducible assumption | omega)) | (unfold y_Ty; omega) | (unfold y_Tr; omega) | (with_reducible exact y_st4t _) | (apply k10; omega)) (by omega) (by omega) (by first | with_reducible assumption | omega | ((with_reducible refine y_Vl ?_ ?_) <;> omega) | ((with_reducible refine y_V8 ?_) <;> (first | with_reducible assumption | (unfold y_Tr; omega))) | ((with_reducible refine y_Tr4 ?_ ?_) <;> (first | with_reducible assumption | omega)) | ((with_reducible refine (y_Tr4 ?_ ?_).ty) <;> (first | with_reducible assumption | omega)) | (unfold y_Ty; omega) | (unfold y_Tr; omega) | (with_reducible exact y_st4t _) | (apply k10; omega))) (fun r_5 h_r_5 => ?_)
      obtain ⟨h0_r_5, h1_r_5, h2_r_5, h3_r_5⟩ := h_r_5
      refine y_some ?_
      try dsimp only
      refine ⟨?_, ?_, ?_, ?_, ?_⟩ <;> (first | with_reducible assumption | omega | ((with_reducible refine y_Vl ?_ ?_) <;> omega) | ((with_reducible refine y_V8 ?_) <;> (first | with_reducible assumption | (unfold y_Tr; omega))) | ((with_reducible refine y_Tr4 ?_ ?_) <;> (first | with_reducible assumption | omega)) | ((with_reducible refine (y_Tr4 ?_ ?_).ty) <;> (first | with_reducible assumption | omega)) | (unfold y_Ty; omega) | (unfold y_Tr; omega) | (with_reducible exact y_st4t _) | (apply k10; omega))
    · skip
      have e8 : (191 : Int32).toInt = 191 := rfl
      have c5' := c5
      rw [← Int32.toInt_inj] at c5'
      refine y_if (fun c9 => ?_) (fun c9 => ?_)
      · skip
        have e10 : (192 : Int32).toInt = 192 := rfl
        have c9' := c9
        rw [← Int32.toInt_inj] at c9'
        have e11 : (0 : Int32).toInt = 0 := rfl
        refine y_bi (y_X5_pullType (by omega) (by omega) (by first | with_reducible assumption | omega | ((with_reducible refine y_Vl ?_ ?_) <;> omega) | ((with_reducible refine y_V8 ?_) <;> (first | with_reducible assumption | (unfold y_Tr; omega))) | ((with_reducible refine y_Tr4 ?_ ?_) <;> (first | with_reducible assumption | omega)) | ((with_reducible refine (y_Tr4 ?_ ?_).ty) <;> (first | with_reducible assumption | omega)) | (unfold y_Ty; omega) | (unfold y_Tr; omega) | (with_reducible exact y_st4t _) | (apply k10; omega)) (by omega) (by omega) (by omega) (by first | with_reducible assumption | omega | ((with_reducible refine y_Vl ?_ ?_) <;> omega) | ((with_reducible refine y_V8 ?_) <;> (first | with_reducible assumption | (unfold y_Tr; omega))) | ((with_reducible refine y_Tr4 ?_ ?_) <;> (first | with_reducible assumption | omega)) | ((with_reducible refine (y_Tr4 ?_ ?_).ty) <;> (first | with_reducible assumption | omega)) | (unfold y_Ty; omega) | (unfold y_Tr; omega) | (with_reducible exact y_st4t _) | (apply k10; omega)) (by omega) (by omega) (by first | with_reducible assumption | omega | ((with_reducible refine y_Vl ?_ ?_) <;> omega) | ((with_reducible refine y_V8 ?_) <;> (first | with_reducible assumption | (unfold y_Tr; omega))) | ((with_reducible refine y_Tr4 ?_ ?_) <;> (first | with_reducible assumption | omega)) | ((with_reducible refine (y_Tr4 ?_ ?_).ty) <;> (first | with_reducible assumption | omega)) | (unfold y_Ty; omega) | (unfold y_Tr; omega) | (with_reducible exact y_st4t _) | (apply k10; omega))) (fun r_7 h_r_7 => ?_)
        obtain ⟨h0_r_7, h1_r_7, h2_r_7, h3_r_7⟩ := h_r_7
        refine y_bi (y_X5_pushType (v5_2 := v5_2) (by omega) (by omega) (by omega) (by omega) (by first | with_reducible assumption | omega | ((with_reducible refine y_Vl ?_ ?_) <;> omega) | ((with_reducible refine y_V8 ?_) <;> (first | with_reducible assumption | (unfold y_Tr; omega))) | ((with_reducible refine y_Tr4 ?_ ?_) <;> (first | with_reducible assumption | omega)) | ((with_reducible refine (y_Tr4 ?_ ?_).ty) <;> (first | with_reducible assumption | omega)) | (unfold y_Ty; omega) | (unfold y_Tr; omega) | (with_reducible exact y_st4t _) | (apply k10; omega)) (by first | with_reducible assumption | omega | ((with_reducible refine y_Vl ?_ ?_) <;> omega) | ((with_reducible refine y_V8 ?_) <;> (first | with_reducible assumption | (unfold y_Tr; omega))) | ((with_reducible refine y_Tr4 ?_ ?_) <;> (first | with_reducible assumption | omega)) | ((with_reducible refine (y_Tr4 ?_ ?_).ty) <;> (first | with_reducible assumption | omega)) | (unfold y_Ty; omega) | (unfold y_Tr; omega) | (with_reducible exact y_st4t _) | (apply k10; omega))) (fun r_8 h_r_8 => ?_)
        obtain ⟨h0_r_8, h1_r_8, h2_r_8⟩ := h_r_8
        refine y_some ?_
        try dsimp only
        refine ⟨?_, ?_, ?_, ?_, ?_⟩ <;> (first | with_reducible assumption | omega | ((with_reducible refine y_Vl ?_ ?_) <;> omega) | ((with_reducible refine y_V8 ?_) <;> (first | with_reducible assumption | (unfold y_Tr; omega))) | ((with_reducible refine y_Tr4 ?_ ?_) <;> (first | with_reducible assumption | omega)) | ((with_reducible refine (y_Tr4 ?_ ?_).ty) <;> (first | with_reducible assumption | omega)) | (unfold y_Ty; omega) | (unfold y_Tr; omega) | (with_reducible exact y_st4t _) | (apply k10; omega))
      · skip
        have e12 : (192 : Int32).toInt = 192 := rfl
        have c9' := c9
        rw [← Int32.toInt_inj] at c9'
        refine y_if (fun c13 => ?_) (fun c13 => ?_)
        · skip
          have e14 : (193 : Int32).toInt = 193 := rfl
          have c13' := c13
          rw [← Int32.toInt_inj] at c13'
          have e15 : (0 : Int32).toInt = 0 := rfl
          refine y_bi (y_X5_pullType (by omega) (by omega) (by first | with_reducible assumption | omega | ((with_reducible refine y_Vl ?_ ?_) <;> omega) | ((with_reducible refine y_V8 ?_) <;> (first | with_reducible assumption | (unfold y_Tr; omega))) | ((with_reducible refine y_Tr4 ?_ ?_) <;> (first | with_reducible assumption | omega)) | ((with_reducible refine (y_Tr4 ?_ ?_).ty) <;> (first | with_reducible assumption | omega)) | (unfold y_Ty; omega) | (unfold y_Tr; omega) | (with_reducible exact y_st4t _) | (apply k10; omega)) (by omega) (by omega) (by omega) (by first | with_reducible assumption | omega | ((with_reducible refine y_Vl ?_ ?_) <;> omega) | ((with_reducible refine y_V8 ?_) <;> (first | with_reducible assumption | (unfold y_Tr; omega))) | ((with_reducible refine y_Tr4 ?_ ?_) <;> (first | with_reducible assumption | omega)) | ((with_reducible refine (y_Tr4 ?_ ?_).ty) <;> (first | with_reducible assumption | omega)) | (unfold y_Ty; omega) | (unfold y_Tr; omega) | (with_reducible exact y_st4t _) | (apply k10; omega)) (by omega) (by omega) (by first | with_reducible assumption | omega | ((with_reducible refine y_Vl ?_ ?_) <;> omega) | ((with_reducible refine y_V8 ?_) <;> (first | with_reducible assumption | (unfold y_Tr; omega))) | ((with_reducible refine y_Tr4 ?_ ?_) <;> (first | with_reducible assumption | omega)) | ((with_reducible refine (y_Tr4 ?_ ?_).ty) <;> (first | with_reducible assumption | omega)) | (unfold y_Ty; omega) | (unfold y_Tr; omega) | (with_reducible exact y_st4t _) | (apply k10; omega))) (fun r_10 h_r_10 => ?_)
          obtain ⟨h0_r_10, h1_r_10, h2_r_10, h3_r_10⟩ := h_r_10
          have e16 : (1 : Int32).toInt = 1 := rfl
          refine y_bi (y_X5_push (v5_2 := v5_2) (by omega) (by omega) (by omega) (by omega) (by first | with_reducible assumption | omega | ((with_reducible refine y_Vl ?_ ?_) <;> omega) | ((with_reducible refine y_V8 ?_) <;> (first | with_reducible assumption | (unfold y_Tr; omega))) | ((with_reducible refine y_Tr4 ?_ ?_) <;> (first | with_reducible assumption | omega)) | ((with_reducible refine (y_Tr4 ?_ ?_).ty) <;> (first | with_reducible assumption | omega)) | (unfold y_Ty; omega) | (unfold y_Tr; omega) | (with_reducible exact y_st4t _) | (apply k10; omega)) (by first | with_reducible assumption | omega | ((with_reducible refine y_Vl ?_ ?_) <;> omega) | ((with_reducible refine y_V8 ?_) <;> (first | with_reducible assumption | (unfold y_Tr; omega))) | ((with_reducible refine y_Tr4 ?_ ?_) <;> (first | with_reducible assumption | omega)) | ((with_reducible refine (y_Tr4 ?_ ?_).ty) <;> (first | with_reducible assumption | omega)) | (unfold y_Ty; omega) | (unfold y_Tr; omega) | (with_reducible exact y_st4t _) | (apply k10; omega))) (fun r_11 h_r_11 => ?_)
          obtain ⟨h0_r_11, h1_r_11, h2_r_11⟩ := h_r_11
          refine y_some ?_
          try dsimp only
          refine ⟨?_, ?_, ?_, ?_, ?_⟩ <;> (first | with_reducible assumption | omega | ((with_reducible refine y_Vl ?_ ?_) <;> omega) | ((with_reducible refine y_V8 ?_) <;> (first | with_reducible assumption | (unfold y_Tr; omega))) | ((with_reducible refine y_Tr4 ?_ ?_) <;> (first | with_reducible assumption | omega)) | ((with_reducible refine (y_Tr4 ?_ ?_).ty) <;> (first | with_reducible assumption | omega)) | (unfold y_Ty; omega) | (unfold y_Tr; omega) | (with_reducible exact y_st4t _) | (apply k10; omega))
        · skip
          have e17 : (193 : Int32).toInt = 193 := rfl
          have c13' := c13
          rw [← Int32.toInt_inj] at c13'
          refine y_bi (y_X5_pullReference (by omega) (by omega) (by omega) (by first | with_reducible assumption | omega | ((with_reducible refine y_Vl ?_ ?_) <;> omega) | ((with_reducible refine y_V8 ?_) <;> (first | with_reducible assumption | (unfold y_Tr; omega))) | ((with_reducible refine y_Tr4 ?_ ?_) <;> (first | with_reducible assumption | omega)) | ((with_reducible refine (y_Tr4 ?_ ?_).ty) <;> (first | with_reducible assumption | omega)) | (unfold y_Ty; omega) | (unfold y_Tr; omega) | (with_reducible exact y_st4t _) | (apply k10; omega))) (fun r_12 h_r_12 => ?_)
          obtain ⟨h0_r_12, h1_r_12⟩ := h_r_12
          refine y_some ?_
          try dsimp only
          refine ⟨?_, ?_, ?_, ?_, ?_⟩ <;> (first | with_reducible assumption | omega | ((with_reducible refine y_Vl ?_ ?_) <;> omega) | ((with_reducible refine y_V8 ?_) <;> (first | with_reducible assumption | (unfold y_Tr; omega))) | ((with_reducible refine y_Tr4 ?_ ?_) <;> (first | with_reducible assumption | omega)) | ((with_reducible refine (y_Tr4 ?_ ?_).ty) <;> (first | with_reducible assumption | omega)) | (unfold y_Ty; omega) | (unfold y_Tr; omega) | (with_reducible exact y_st4t _) | (apply k10; omega))
set_option maxHeartbeats 4000000 in
theorem y_X6_step {v7_2 : Int32} {g7_0 : Nat → Int32} {g7_1 : Nat → Int32} {g4_0 : Nat → Int32} {g4_1 : Nat → Int32} {g4_3 : Nat → Int32} {g4_4 : Nat → Int32} {g4_5 : Nat → Int32} {g4_6 : Nat → Int32} {g4_7 : Nat → Int32} {v0_0 : Int32} {v0_1 : Int32} {v0_2 : Int32} {v0_10 : Int32} {g0_7 : Nat → Int32} {g0_8 : Nat → Int32} {g0_9 : Nat → Int32} {v5_2 : Int32} {v5_3 : Int32} {v5_4 : Int32} {v5_5 : Int32} {v5_6 : Int32} {v5_7 : Int32} {v5_8 : Int32} {v5_9 : Int32} {g5_1 : Nat → Int32} {p1 : Int32} (k0 : 4 ≤ v7_2.toInt) (k1 : v7_2.toInt ≤ 200) (k2 : y_Rg 200 0 199 g7_0) (k3 : 0 ≤ v5_2.toInt) (k4 : v5_2.toInt ≤ v5_3.toInt) (k5 : v5_3.toInt ≤ v5_4.toInt) (k6 : v5_4.toInt ≤ 400) (k7 : y_AV 400 g5_1) (k8 : 0 ≤ v5_8.toInt) (k9 : v5_8.toInt ≤ 1) (k10 : 0 ≤ v0_0.toInt) (k11 : v0_0.toInt ≤ 199) (k12 : 0 ≤ v5_5.toInt) (k13 : v5_5.toInt ≤ 1) (k14 : y_Rg 100 0 199 g4_3) (k15 : y_ARs 100 g4_4) (k16 : y_ATy 2000 g4_6) (k17 : y_Rg 100 0 20 g4_7) (k18 : v0_10.toInt ≤ 1000) (k19 : y_Rg 100 0 199 g4_0) (k20 : y_ATy 100 g4_1) (k21 : y_Rs v0_2) (hI : y_AIn g0_7 g0_8 g0_9) (k23 : 0 ≤ p1.toInt) (k24 : p1.toInt < 1000) (k25 : 21 ≤ (g0_7 (Int32.toNatClampNeg p1)).toInt ∧ (g0_7 (Int32.toNatClampNeg p1)).toInt ≤ 25 ∨ 54 ≤ (g0_7 (Int32.toNatClampNeg p1)).toInt ∧ (g0_7 (Int32.toNatClampNeg p1)).toInt ≤ 58 ∨ (g0_7 (Int32.toNatClampNeg p1)).toInt = 132 ∨ (g0_7 (Int32.toNatClampNeg p1)).toInt = 169 → (g0_8 (Int32.toNatClampNeg p1)).toInt < 200) : y_Ok (f_X6_step v7_2 g7_0 g7_1 g4_0 g4_1 g4_3 g4_4 g4_5 g4_6 g4_7 v0_0 v0_1 v0_2 v0_10 g0_7 g0_8 g0_9 v5_2 v5_3 v5_4 v5_5 v5_6 v5_7 v5_8 v5_9 g5_1 p1) (fun r => (v5_2.toInt ≤ r.1.toInt) ∧ (r.1.toInt ≤ v5_4.toInt) ∧ (0 ≤ r.2.1.toInt) ∧ (r.2.1.toInt ≤ 1) ∧ (0 ≤ r.2.2.2.2.1.toInt) ∧ (r.2.2.2.2.1.toInt ≤ 1) ∧ (y_AV 400 r.2.2.2.2.2)) := by
  have hp := @y_cl p1 (by omega)
  have hIn := hI (Int32.toNatClampNeg p1) (by omega)
  have i0 := hIn.o0
  have i1 := hIn.mb
  unfold f_X6_step
  refine y_gd (y_gdI (by omega) (by omega)) ?_
  refine y_gd (y_gdI (by omega) (by omega)) ?_
  refine y_if (fun c1 => ?_) (fun c1 => ?_)
  · skip
    have e2 : (20 : Int32).toInt = 20 := rfl
    try have e3 := @y_cl p1 (by omega)
    have c1' := c1
    rw [Int32.lt_iff_toInt_lt] at c1'
    refine y_if (fun c4 => ?_) (fun c4 => ?_)
    · skip
      have e5 : (25 : Int32).toInt = 25 := rfl
      have c4' := c4
      rw [Int32.lt_iff_toInt_lt] at c4'
      refine y_if (fun c6 => ?_) (fun c6 => ?_)
      · skip
        have e7 : (53 : Int32).toInt = 53 := rfl
        have c6' := c6
        rw [Int32.lt_iff_toInt_lt] at c6'
        refine y_if (fun c8 => ?_) (fun c8 => ?_)
        · skip
          have e9 : (58 : Int32).toInt = 58 := rfl
          have c8' := c8
          rw [Int32.lt_iff_toInt_lt] at c8'
          refine y_if (fun c10 => ?_) (fun c10 => ?_)
          · skip
            have e11 : (86 : Int32).toInt = 86 := rfl
            have c10' := c10
            rw [Int32.lt_iff_toInt_lt] at c10'
            refine y_if (fun c12 => ?_) (fun c12 => ?_)
            · skip
              have e13 : (95 : Int32).toInt = 95 := rfl
              have c12' := c12
              rw [Int32.lt_iff_toInt_lt] at c12'
              refine y_if (fun c14 => ?_) (fun c14 => ?_)
              · skip
                have e15 : (132 : Int32).toInt = 132 := rfl
                have c14' := c14
                rw [← Int32.toInt_inj] at c14'
                refine y_bi (y_X6_increase (by omega) (by omega) (by first | with_reducible assumption | omega | ((with_reducible refine y_Vl ?_ ?_) <;> omega) | ((with_reducible refine y_V8 ?_) <;> (first | with_reducible assumption | (unfold y_Tr; omega))) | ((with_reducible refine y_Tr4 ?_ ?_) <;> (first | with_reducible assumption | omega)) | ((with_reducible refine (y_Tr4 ?_ ?_).ty) <;> (first | with_reducible assumption | omega)) | (unfold y_Ty; omega) | (unfold y_Tr; omega) | (with_reducible exact y_st4t _) | (intro hz; exact hIn.ty (by omega)) | (intro hz; exact (hIn.cc (by omega)).ty) | (intro hz; exfalso; omega))) (fun r_27 h_r_27 => ?_)
                have h0_r_27 : True := h_r_27
                refine y_some ?_
                try dsimp only
                refine ⟨?_, ?_, ?_, ?_, ?_, ?_, ?_⟩ <;> (first | with_reducible assumption | omega | ((with_reducible refine y_Vl ?_ ?_) <;> omega) | ((with_reducible refine y_V8 ?_) <;> (first | with_reducible assumption | (unfold y_Tr; omega))) | ((with_reducible refine y_Tr4 ?_ ?_) <;> (first | with_reducible assumption | omega)) | ((with_reducible refine (y_Tr4 ?_ ?_).ty) <;> (first | with_reducible assumption | omega)) | (unfold y_Ty; omega) | (unfold y_Tr; omega) | (with_reducible exact y_st4t _) | (intro hz; exact hIn.ty (by omega)) | (intro hz; exact (hIn.cc (by omega)).ty) | (intro hz; exfalso; omega))
              · skip
                have e16 : (132 : Int32).toInt = 132 := rfl
                have c14' := c14
                rw [← Int32.toInt_inj] at c14'
                refine y_if (fun c17 => ?_) (fun c17 => ?_)
                · skip
                  have e18 : (152 : Int32).toInt = 152 := rfl
                  have c17' := c17
                  rw [Int32.lt_iff_toInt_lt] at c17'
                  refine y_if (fun c19 => ?_) (fun c19 => ?_)
                  · skip
                    have e20 : (171 : Int32).toInt = 171 := rfl
                    have c19' := c19
                    rw [Int32.lt_iff_toInt_lt] at c19'
                    refine y_if (fun c21 => ?_) (fun c21 => ?_)
                    · skip
                      have e22 : (177 : Int32).toInt = 177 := rfl
                      have c21' := c21
                      rw [Int32.lt_iff_toInt_lt] at c21'
                      refine y_if (fun c23 => ?_) (fun c23 => ?_)
                      · skip
                        have e24 : (181 : Int32).toInt = 181 := rfl
                        have c23' := c23
                        rw [Int32.lt_iff_toInt_lt] at c23'
                        refine y_if (fun c25 => ?_) (fun c25 => ?_)
                        · skip
                          have e26 : (186 : Int32).toInt = 186 := rfl
                          have c25' := c25
                          rw [Int32.lt_iff_toInt_lt] at c25'
                          refine y_if (fun c27 => ?_) (fun c27 => ?_)
                          · skip
                            have e28 : (189 : Int32).toInt = 189 := rfl
                            have c27' := c27
                            rw [Int32.le_iff_toInt_le] at c27'
                            refine y_bi (y_X6_make (by omega) (by omega) (by omega) (by omega) (by first | with_reducible assumption | omega | ((with_reducible refine y_Vl ?_ ?_) <;> omega) | ((with_reducible refine y_V8 ?_) <;> (first | with_reducible assumption | (unfold y_Tr; omega))) | ((with_reducible refine y_Tr4 ?_ ?_) <;> (first | with_reducible assumption | omega)) | ((with_reducible refine (y_Tr4 ?_ ?_).ty) <;> (first | with_reducible assumption | omega)) | (unfold y_Ty; omega) | (unfold y_Tr; omega) | (with_reducible exact y_st4t _) | (intro hz; exact hIn.ty (by omega)) | (intro hz; exact (hIn.cc (by omega)).ty) | (intro hz; exfalso; omega)) (by first | with_reducible assumption | omega | ((with_reducible refine y_Vl ?_ ?_) <;> omega) | ((with_reducible refine y_V8 ?_) <;> (first | with_reducible assumption | (unfold y_Tr; omega))) | ((with_reducible refine y_Tr4 ?_ ?_) <;> (first | with_reducible assumption | omega)) | ((with_reducible refine (y_Tr4 ?_ ?_).ty) <;> (first | with_reducible assumption | omega)) | (unfold y_Ty; omega) | (unfold y_Tr; omega) | (with_reducible exact y_st4t _) | (intro hz; exact hIn.ty (by omega)) | (intro hz; exact (hIn.cc (by omega)).ty) | (intro hz; exfalso; omega)) (by omega) (by omega) (by omega)) (fun r_16 h_r_16 => ?_)
                            obtain ⟨h0_r_16, h1_r_16, h2_r_16⟩ := h_r_16
                            refine y_some ?_
                            try dsimp only
                            refine ⟨?_, ?_, ?_, ?_, ?_, ?_, ?_⟩ <;> (first | with_reducible assumption | omega | ((with_reducible refine y_Vl ?_ ?_) <;> omega) | ((with_reducible refine y_V8 ?_) <;> (first | with_reducible assumption | (unfold y_Tr; omega))) | ((with_reducible refine y_Tr4 ?_ ?_) <;> (first | with_reducible assumption | omega)) | ((with_reducible refine (y_Tr4 ?_ ?_).ty) <;> (first | with_reducible assumption | omega)) | (unfold y_Ty; omega) | (unfold y_Tr; omega) | (with_reducible exact y_st4t _) | (intro hz; exact hIn.ty (by omega)) | (intro hz; exact (hIn.cc (by omega)).ty) | (intro hz; exfalso; omega))
                          · skip
                            have e29 : (189 : Int32).toInt = 189 := rfl
                            have c27' := c27
                            rw [Int32.le_iff_toInt_le] at c27'
                            refine y_if (fun c30 => ?_) (fun c30 => ?_)
                            · skip
                              have e31 : (197 : Int32).toInt = 197 := rfl
                              have c30' := c30
                              rw [← Int32.toInt_inj] at c30'
                              refine y_bi (y_X6_make (by omega) (by omega) (by omega) (by omega) (by first | with_reducible assumption | omega | ((with_reducible refine y_Vl ?_ ?_) <;> omega) | ((with_reducible refine y_V8 ?_) <;> (first | with_reducible assumption | (unfold y_Tr; omega))) | ((with_reducible refine y_Tr4 ?_ ?_) <;> (first | with_reducible assumption | omega)) | ((with_reducible refine (y_Tr4 ?_ ?_).ty) <;> (first | with_reducible assumption | omega)) | (unfold y_Ty; omega) | (unfold y_Tr; omega) | (with_reducible exact y_st4t _) | (intro hz; exact hIn.ty (by omega)) | (intro hz; exact (hIn.cc (by omega)).ty) | (intro hz; exfalso; omega)) (by first | with_reducible assumption | omega | ((with_reducible refine y_Vl ?_ ?_) <;> omega) | ((with_reducible refine y_V8 ?_) <;> (first | with_reducible assumption | (unfold y_Tr; omega))) | ((with_reducible refine y_Tr4 ?_ ?_) <;> (first | with_reducible assumption | omega)) | ((with_reducible refine (y_Tr4 ?_ ?_).ty) <;> (first | with_reducible assumption | omega)) | (unfold y_Ty; omega) | (unfold y_Tr; omega) | (with_reducible exact y_st4t _) | (intro hz; exact hIn.ty (by omega)) | (intro hz; exact (hIn.cc (by omega)).ty) | (intro hz; exfalso; omega)) (by omega) (by omega) (by omega)) (fun r_19 h_r_19 => ?_)
                              obtain ⟨h0_r_19, h1_r_19, h2_r_19⟩ := h_r_19
                              refine y_some ?_
                              try dsimp only
                              refine ⟨?_, ?_, ?_, ?_, ?_, ?_, ?_⟩ <;> (first | with_reducible assumption | omega | ((with_reducible refine y_Vl ?_ ?_) <;> omega) | ((with_reducible refine y_V8 ?_) <;> (first | with_reducible assumption | (unfold y_Tr; omega))) | ((with_reducible refine y_Tr4 ?_ ?_) <;> (first | with_reducible assumption | omega)) | ((with_reducible refine (y_Tr4 ?_ ?_).ty) <;> (first | with_reducible assumption | omega)) | (unfold y_Ty; omega) | (unfold y_Tr; omega) | (with_reducible exact y_st4t _) | (intro hz; exact hIn.ty (by omega)) | (intro hz; exact (hIn.cc (by omega)).ty) | (intro hz; exfalso; omega))
                            · skip
                              have e32 : (197 : Int32).toInt = 197 := rfl
                              have c30' := c30
                              rw [← Int32.toInt_inj] at c30'
                              refine y_bi (y_X6_useReference (by omega) (by omega) (by first | with_reducible assumption | omega | ((with_reducible refine y_Vl ?_ ?_) <;> omega) | ((with_reducible refine y_V8 ?_) <;> (first | with_reducible assumption | (unfold y_Tr; omega))) | ((with_reducible refine y_Tr4 ?_ ?_) <;> (first | with_reducible assumption | omega)) | ((with_reducible refine (y_Tr4 ?_ ?_).ty) <;> (first | with_reducible assumption | omega)) | (unfold y_Ty; omega) | (unfold y_Tr; omega) | (with_reducible exact y_st4t _) | (intro hz; exact hIn.ty (by omega)) | (intro hz; exact (hIn.cc (by omega)).ty) | (intro hz; exfalso; omega)) (by omega) (by omega) (by omega) (by omega) (by first | with_reducible assumption | omega | ((with_reducible refine y_Vl ?_ ?_) <;> omega) | ((with_reducible refine y_V8 ?_) <;> (first | with_reducible assumption | (unfold y_Tr; omega))) | ((with_reducible refine y_Tr4 ?_ ?_) <;> (first | with_reducible assumption | omega)) | ((with_reducible refine (y_Tr4 ?_ ?_).ty) <;> (first | with_reducible assumption | omega)) | (unfold y_Ty; omega) | (unfold y_Tr; omega) | (with_reducible exact y_st4t _) | (intro hz; exact hIn.ty (by omega)) | (intro hz; exact (hIn.cc (by omega)).ty) | (intro hz; exfalso; omega)) (by omega) (by omega) (by first | with_reducible assumption | omega | ((with_reducible refine y_Vl ?_ ?_) <;> omega) | ((with_reducible refine y_V8 ?_) <;> (first | with_reducible assumption | (unfold y_Tr; omega))) | ((with_reducible refine y_Tr4 ?_ ?_) <;> (first | with_reducible assumption | omega)) | ((with_reducible refine (y_Tr4 ?_ ?_).ty) <;> (first | with_reducible assumption | omega)) | (unfold y_Ty; omega) | (unfold y_Tr; omega) | (with_reducible exact y_st4t _) | (intro hz; exact hIn.ty (by omega)) | (intro hz; exact (hIn.cc (by omega)).ty) | (intro hz; exfalso; omega))) (fun r_18 h_r_18 => ?_)
                              obtain ⟨h0_r_18, h1_r_18, h2_r_18, h3_r_18, h4_r_18⟩ := h_r_18
                              refine y_some ?_
                              try dsimp only
                              refine ⟨?_, ?_, ?_, ?_, ?_, ?_, ?_⟩ <;> (first | with_reducible assumption | omega | ((with_reducible refine y_Vl ?_ ?_) <;> omega) | ((with_reducible refine y_V8 ?_) <;> (first | with_reducible assumption | (unfold y_Tr; omega))) | ((with_reducible refine y_Tr4 ?_ ?_) <;> (first | with_reducible assumption | omega)) | ((with_reducible refine (y_Tr4 ?_ ?_).ty) <;> (first | with_reducible assumption | omega)) | (unfold y_Ty; omega) | (unfold y_Tr; omega) | (with_reducible exact y_st4t _) | (intro hz; exact hIn.ty (by omega)) | (intro hz; exact (hIn.cc (by omega)).ty) | (intro hz; exfalso; omega))
                        · skip
                          have e33 : (186 : Int32).toInt = 186 := rfl
                          have c25' := c25
                          rw [Int32.lt_iff_toInt_lt] at c25'
                          refine y_bi (y_X6_invoke (by omega) (by omega) (by first | with_reducible assumption | omega | ((with_reducible refine y_Vl ?_ ?_) <;> omega) | ((with_reducible refine y_V8 ?_) <;> (first | with_reducible assumption | (unfold y_Tr; omega))) | ((with_reducible refine y_Tr4 ?_ ?_) <;> (first | with_reducible assumption | omega)) | ((with_reducible refine (y_Tr4 ?_ ?_).ty) <;> (first | with_reducible assumption | omega)) | (unfold y_Ty; omega) | (unfold y_Tr; omega) | (with_reducible exact y_st4t _) | (intro hz; exact hIn.ty (by omega)) | (intro hz; exact (hIn.cc (by omega)).ty) | (intro hz; exfalso; omega)) (by omega) (by omega) (by omega) (by omega) (by first | with_reducible assumption | omega | ((with_reducible refine y_Vl ?_ ?_) <;> omega) | ((with_reducible refine y_V8 ?_) <;> (first | with_reducible assumption | (unfold y_Tr; omega))) | ((with_reducible refine y_Tr4 ?_ ?_) <;> (first | with_reducible assumption | omega)) | ((with_reducible refine (y_Tr4 ?_ ?_).ty) <;> (first | with_reducible assumption | omega)) | (unfold y_Ty; omega) | (unfold y_Tr; omega) | (with_reducible exact y_st4t _) | (intro hz; exact hIn.ty (by omega)) | (intro hz; exact (hIn.cc (by omega)).ty) | (intro hz; exfalso; omega)) (by omega) (by omega) (by omega) (by omega) (by omega) (by omega) (by first | with_reducible assumption | omega | ((with_reducible refine y_Vl ?_ ?_) <;> omega) | ((with_reducible refine y_V8 ?_) <;> (first | with_reducible assumption | (unfold y_Tr; omega))) | ((with_reducible refine y_Tr4 ?_ ?_) <;> (first | with_reducible assumption | omega)) | ((with_reducible refine (y_Tr4 ?_ ?_).ty) <;> (first | with_reducible assumption | omega)) | (unfold y_Ty; omega) | (unfold y_Tr; omega) | (with_reducible exact y_st4t _) | (intro hz; exact hIn.ty (by omega)) | (intro hz; exact (hIn.cc (by omega)).ty) | (intro hz; exfalso; omega)) (by first | with_reducible assumption | omega | ((with_reducible refine y_Vl ?_ ?_) <;> omega) | ((with_reducible refine y_V8 ?_) <;> (first | with_reducible assumption | (unfold y_Tr; omega))) | ((with_reducible refine y_Tr4 ?_ ?_) <;> (first | with_reducible assumption | omega)) | ((with_reducible refine (y_Tr4 ?_ ?_).ty) <;> (first | with_reducible assumption | omega)) | (unfold y_Ty; omega) | (unfold y_Tr; omega) | (with_reducible exact y_st4t _) | (intro hz; exact hIn.ty (by omega)) | (intro hz; exact (hIn.cc (by omega)).ty) | (intro hz; exfalso; omega)) (by first | with_reducible assumption | omega | ((with_reducible refine y_Vl ?_ ?_) <;> omega) | ((with_reducible refine y_V8 ?_) <;> (first | with_reducible assumption | (unfold y_Tr; omega))) | ((with_reducible refine y_Tr4 ?_ ?_) <;> (first | with_reducible assumption | omega)) | ((with_reducible refine (y_Tr4 ?_ ?_).ty) <;> (first | with_reducible assumption | omega)) | (unfold y_Ty; omega) | (unfold y_Tr; omega) | (with_reducible exact y_st4t _) | (intro hz; exact hIn.ty (by omega)) | (intro hz; exact (hIn.cc (by omega)).ty) | (intro hz; exfalso; omega)) (by first | with_reducible assumption | omega | ((with_reducible refine y_Vl ?_ ?_) <;> omega) | ((with_reducible refine y_V8 ?_) <;> (first | with_reducible assumption | (unfold y_Tr; omega))) | ((with_reducible refine y_Tr4 ?_ ?_) <;> (first | with_reducible assumption | omega)) | ((with_reducible refine (y_Tr4 ?_ ?_).ty) <;> (first | with_reducible assumption | omega)) | (unfold y_Ty; omega) | (unfold y_Tr; omega) | (with_reducible exact y_st4t _) | (intro hz; exact hIn.ty (by omega)) | (intro hz; exact (hIn.cc (by omega)).ty) | (intro hz; exfalso; omega)) (by omega) (by omega) (by omega)) (fun r_20 h_r_20 => ?_)
                          obtain ⟨h0_r_20, h1_r_20, h2_r_20, h3_r_20, h4_r_20, h5_r_20, h6_r_20⟩ := h_r_20
                          refine y_some ?_
                          try dsimp only
                          refine ⟨?_, ?_, ?_, ?_, ?_, ?_, ?_⟩ <;> (first | with_reducible assumption | omega | ((with_reducible refine y_Vl ?_ ?_) <;> omega) | ((with_reducible refine y_V8 ?_) <;> (first | with_reducible assumption | (unfold y_Tr; omega))) | ((with_reducible refine y_Tr4 ?_ ?_) <;> (first | with_reducible assumption | omega)) | ((with_reducible refine (y_Tr4 ?_ ?_).ty) <;> (first | with_reducible assumption | omega)) | (unfold y_Ty; omega) | (unfold y_Tr; omega) | (with_reducible exact y_st4t _) | (intro hz; exact hIn.ty (by omega)) | (intro hz; exact (hIn.cc (by omega)).ty) | (intro hz; exfalso; omega))
                      · skip
                        have e34 : (181 : Int32).toInt = 181 := rfl
                        have c23' := c23
                        rw [Int32.lt_iff_toInt_lt] at c23'
                        refine y_bi (y_X6_useField (by omega) (by omega) (by first | with_reducible assumption | omega | ((with_reducible refine y_Vl ?_ ?_) <;> omega) | ((with_reducible refine y_V8 ?_) <;> (first | with_reducible assumption | (unfold y_Tr; omega))) | ((with_reducible refine y_Tr4 ?_ ?_) <;> (first | with_reducible assumption | omega)) | ((with_reducible refine (y_Tr4 ?_ ?_).ty) <;> (first | with_reducible assumption | omega)) | (unfold y_Ty; omega) | (unfold y_Tr; omega) | (with_reducible exact y_st4t _) | (intro hz; exact hIn.ty (by omega)) | (intro hz; exact (hIn.cc (by omega)).ty) | (intro hz; exfalso; omega)) (by omega) (by omega) (by omega) (by omega) (by first | with_reducible assumption | omega | ((with_reducible refine y_Vl ?_ ?_) <;> omega) | ((with_reducible refine y_V8 ?_) <;> (first | with_reducible assumption | (unfold y_Tr; omega))) | ((with_reducible refine y_Tr4 ?_ ?_) <;> (first | with_reducible assumption | omega)) | ((with_reducible refine (y_Tr4 ?_ ?_).ty) <;> (first | with_reducible assumption | omega)) | (unfold y_Ty; omega) | (unfold y_Tr; omega) | (with_reducible exact y_st4t _) | (intro hz; exact hIn.ty (by omega)) | (intro hz; exact (hIn.cc (by omega)).ty) | (intro hz; exfalso; omega)) (by omega) (by omega) (by first | with_reducible assumption | omega | ((with_reducible refine y_Vl ?_ ?_) <;> omega) | ((with_reducible refine y_V8 ?_) <;> (first | with_reducible assumption | (unfold y_Tr; omega))) | ((with_reducible refine y_Tr4 ?_ ?_) <;> (first | with_reducible assumption | omega)) | ((with_reducible refine (y_Tr4 ?_ ?_).ty) <;> (first | with_reducible assumption | omega)) | (unfold y_Ty; omega) | (unfold y_Tr; omega) | (with_reducible exact y_st4t _) | (intro hz; exact hIn.ty (by omega)) | (intro hz; exact (hIn.cc (by omega)).ty) | (intro hz; exfalso; omega)) (by first | with_reducible assumption | omega | ((with_reducible refine y_Vl ?_ ?_) <;> omega) | ((with_reducible refine y_V8 ?_) <;> (first | with_reducible assumption | (unfold y_Tr; omega))) | ((with_reducible refine y_Tr4 ?_ ?_) <;> (first | with_reducible assumption | omega)) | ((with_reducible refine (y_Tr4 ?_ ?_).ty) <;> (first | with_reducible assumption | omega)) | (unfold y_Ty; omega) | (unfold y_Tr; omega) | (with_reducible exact y_st4t _) | (intro hz; exact hIn.ty (by omega)) | (intro hz; exact (hIn.cc (by omega)).ty) | (intro hz; exfalso; omega)) (by omega) (by omega)) (fun r_21 h_r_21 => ?_)
                        obtain ⟨h0_r_21, h1_r_21, h2_r_21, h3_r_21, h4_r_21⟩ := h_r_21
                        refine y_some ?_
                        try dsimp only
                        refine ⟨?_, ?_, ?_, ?_, ?_, ?_, ?_⟩ <;> (first | with_reducible assumption | omega | ((with_reducible refine y_Vl ?_ ?_) <;> omega) | ((with_reducible refine y_V8 ?_) <;> (first | with_reducible assumption | (unfold y_Tr; omega))) | ((with_reducible refine y_Tr4 ?_ ?_) <;> (first | with_reducible assumption | omega)) | ((with_reducible refine (y_Tr4 ?_ ?_).ty) <;> (first | with_reducible assumption | omega)) | (unfold y_Ty; omega) | (unfold y_Tr; omega) | (with_reducible exact y_st4t _) | (intro hz; exact hIn.ty (by omega)) | (intro hz; exact (hIn.cc (by omega)).ty) | (intro hz; exfalso; omega))
                    · skip
                      have e35 : (177 : Int32).toInt = 177 := rfl
                      have c21' := c21
                      rw [Int32.lt_iff_toInt_lt] at c21'
                      try have e36 := @y_subL (g0_7 (Int32.toNatClampNeg p1)) (172 : Int32) (172) rfl (by omega) (by omega)
                      refine y_bi (y_X6_leave (by omega) (by omega) (by first | with_reducible assumption | omega | ((with_reducible refine y_Vl ?_ ?_) <;> omega) | ((with_reducible refine y_V8 ?_) <;> (first | with_reducible assumption | (unfold y_Tr; omega))) | ((with_reducible refine y_Tr4 ?_ ?_) <;> (first | with_reducible assumption | omega)) | ((with_reducible refine (y_Tr4 ?_ ?_).ty) <;> (first | with_reducible assumption | omega)) | (unfold y_Ty; omega) | (unfold y_Tr; omega) | (with_reducible exact y_st4t _) | (intro hz; exact hIn.ty (by omega)) | (intro hz; exact (hIn.cc (by omega)).ty) | (intro hz; exfalso; omega)) (by omega) (by omega) (by omega) (by first | with_reducible assumption | omega | ((with_reducible refine y_Vl ?_ ?_) <;> omega) | ((with_reducible refine y_V8 ?_) <;> (first | with_reducible assumption | (unfold y_Tr; omega))) | ((with_reducible refine y_Tr4 ?_ ?_) <;> (first | with_reducible assumption | omega)) | ((with_reducible refine (y_Tr4 ?_ ?_).ty) <;> (first | with_reducible assumption | omega)) | (unfold y_Ty; omega) | (unfold y_Tr; omega) | (with_reducible exact y_st4t _) | (intro hz; exact hIn.ty (by omega)) | (intro hz; exact (hIn.cc (by omega)).ty) | (intro hz; exfalso; omega)) (by omega) (by omega) (by first | with_reducible assumption | omega | ((with_reducible refine y_Vl ?_ ?_) <;> omega) | ((with_reducible refine y_V8 ?_) <;> (first | with_reducible assumption | (unfold y_Tr; omega))) | ((with_reducible refine y_Tr4 ?_ ?_) <;> (first | with_reducible assumption | omega)) | ((with_reducible refine (y_Tr4 ?_ ?_).ty) <;> (first | with_reducible assumption | omega)) | (unfold y_Ty; omega) | (unfold y_Tr; omega) | (with_reducible exact y_st4t _) | (intro hz; exact hIn.ty (by omega)) | (intro hz; exact (hIn.cc (by omega)).ty) | (intro hz; exfalso; omega)) (by omega) (by omega)) (fun r_22 h_r_22 => ?_)
                      obtain ⟨h0_r_22, h1_r_22, h2_r_22, h3_r_22⟩ := h_r_22
                      refine y_some ?_
                      try dsimp only
                      refine ⟨?_, ?_, ?_, ?_, ?_, ?_, ?_⟩ <;> (first | with_reducible assumption | omega | ((with_reducible refine y_Vl ?_ ?_) <;> omega) | ((with_reducible refine y_V8 ?_) <;> (first | with_reducible assumption | (unfold y_Tr; omega))) | ((with_reducible refine y_Tr4 ?_ ?_) <;> (first | with_reducible assumption | omega)) | ((with_reducible refine (y_Tr4 ?_ ?_).ty) <;> (first | with_reducible assumption | omega)) | (unfold y_Ty; omega) | (unfold y_Tr; omega) | (with_reducible exact y_st4t _) | (intro hz; exact hIn.ty (by omega)) | (intro hz; exact (hIn.cc (by omega)).ty) | (intro hz; exfalso; omega))
                  · skip
                    have e37 : (171 : Int32).toInt = 171 := rfl
                    have c19' := c19
                    rw [Int32.lt_iff_toInt_lt] at c19'
                    refine y_bi (y_X6_branch (by omega) (by omega) (by omega) (by omega) (by first | with_reducible assumption | omega | ((with_reducible refine y_Vl ?_ ?_) <;> omega) | ((with_reducible refine y_V8 ?_) <;> (first | with_reducible assumption | (unfold y_Tr; omega))) | ((with_reducible refine y_Tr4 ?_ ?_) <;> (first | with_reducible assumption | omega)) | ((with_reducible refine (y_Tr4 ?_ ?_).ty) <;> (first | with_reducible assumption | omega)) | (unfold y_Ty; omega) | (unfold y_Tr; omega) | (with_reducible exact y_st4t _) | (intro hz; exact hIn.ty (by omega)) | (intro hz; exact (hIn.cc (by omega)).ty) | (intro hz; exfalso; omega)) (by omega) (by omega)) (fun r_23 h_r_23 => ?_)
                    obtain ⟨h0_r_23, h1_r_23, h2_r_23⟩ := h_r_23
                    refine y_some ?_
                    try dsimp only
                    refine ⟨?_, ?_, ?_, ?_, ?_, ?_, ?_⟩ <;> (first | with_reducible assumption | omega | ((with_reducible refine y_Vl ?_ ?_) <;> omega) | ((with_reducible refine y_V8 ?_) <;> (first | with_reducible assumption | (unfold y_Tr; omega))) | ((with_reducible refine y_Tr4 ?_ ?_) <;> (first | with_reducible assumption | omega)) | ((with_reducible refine (y_Tr4 ?_ ?_).ty) <;> (first | with_reducible assumption | omega)) | (unfold y_Ty; omega) | (unfold y_Tr; omega) | (with_reducible exact y_st4t _) | (intro hz; exact hIn.ty (by omega)) | (intro hz; exact (hIn.cc (by omega)).ty) | (intro hz; exfalso; omega))
                · skip
                  have e38 : (152 : Int32).toInt = 152 := rfl
                  have c17' := c17
                  rw [Int32.lt_iff_toInt_lt] at c17'
                  try have e39 := @y_subL (g0_7 (Int32.toNatClampNeg p1)) (96 : Int32) (96) rfl (by omega) (by omega)
                  refine y_gd (y_gdI (by omega) (by omega)) ?_
                  try have e40 := @y_cl ((g0_7 (Int32.toNatClampNeg p1)) - (96 : Int32)) (by omega)
                  try have e41 := y_st2 (Int32.toNatClampNeg ((g0_7 (Int32.toNatClampNeg p1)) - (96 : Int32)))
                  refine y_bi (y_X6_reckon (by omega) (by omega) (by omega) (by omega) (by first | with_reducible assumption | omega | ((with_reducible refine y_Vl ?_ ?_) <;> omega) | ((with_reducible refine y_V8 ?_) <;> (first | with_reducible assumption | (unfold y_Tr; omega))) | ((with_reducible refine y_Tr4 ?_ ?_) <;> (first | with_reducible assumption | omega)) | ((with_reducible refine (y_Tr4 ?_ ?_).ty) <;> (first | with_reducible assumption | omega)) | (unfold y_Ty; omega) | (unfold y_Tr; omega) | (with_reducible exact y_st4t _) | (intro hz; exact hIn.ty (by omega)) | (intro hz; exact (hIn.cc (by omega)).ty) | (intro hz; exfalso; omega)) (by omega) (by omega)) (fun r_26 h_r_26 => ?_)
                  obtain ⟨h0_r_26, h1_r_26, h2_r_26⟩ := h_r_26
                  refine y_some ?_
                  try dsimp only
                  refine ⟨?_, ?_, ?_, ?_, ?_, ?_, ?_⟩ <;> (first | with_reducible assumption | omega | ((with_reducible refine y_Vl ?_ ?_) <;> omega) | ((with_reducible refine y_V8 ?_) <;> (first | with_reducible assumption | (unfold y_Tr; omega))) | ((with_reducible refine y_Tr4 ?_ ?_) <;> (first | with_reducible assumption | omega)) | ((with_reducible refine (y_Tr4 ?_ ?_).ty) <;> (first | with_reducible assumption | omega)) | (unfold y_Ty; omega) | (unfold y_Tr; omega) | (with_reducible exact y_st4t _) | (intro hz; exact hIn.ty (by omega)) | (intro hz; exact (hIn.cc (by omega)).ty) | (intro hz; exfalso; omega))
            · skip
              have e42 : (95 : Int32).toInt = 95 := rfl
              have c12' := c12
              rw [Int32.lt_iff_toInt_lt] at c12'
              refine y_bi (y_X6_shuffle (by omega) (by omega) (by omega) (by omega) (by first | with_reducible assumption | omega | ((with_reducible refine y_Vl ?_ ?_) <;> omega) | ((with_reducible refine y_V8 ?_) <;> (first | with_reducible assumption | (unfold y_Tr; omega))) | ((with_reducible refine y_Tr4 ?_ ?_) <;> (first | with_reducible assumption | omega)) | ((with_reducible refine (y_Tr4 ?_ ?_).ty) <;> (first | with_reducible assumption | omega)) | (unfold y_Ty; omega) | (unfold y_Tr; omega) | (with_reducible exact y_st4t _) | (intro hz; exact hIn.ty (by omega)) | (intro hz; exact (hIn.cc (by omega)).ty) | (intro hz; exfalso; omega)) (by omega) (by omega)) (fun r_28 h_r_28 => ?_)
              obtain ⟨h0_r_28, h1_r_28, h2_r_28⟩ := h_r_28
              refine y_some ?_
              try dsimp only
              refine ⟨?_, ?_, ?_, ?_, ?_, ?_, ?_⟩ <;> (first | with_reducible assumption | omega | ((with_reducible refine y_Vl ?_ ?_) <;> omega) | ((with_reducible refine y_V8 ?_) <;> (first | with_reducible assumption | (unfold y_Tr; omega))) | ((with_reducible refine y_Tr4 ?_ ?_) <;> (first | with_reducible assumption | omega)) | ((with_reducible refine (y_Tr4 ?_ ?_).ty) <;> (first | with_reducible assumption | omega)) | (unfold y_Ty; omega) | (unfold y_Tr; omega) | (with_reducible exact y_st4t _) | (intro hz; exact hIn.ty (by omega)) | (intro hz; exact (hIn.cc (by omega)).ty) | (intro hz; exfalso; omega))
          · skip
            have e43 : (86 : Int32).toInt = 86 := rfl
            have c10' := c10
            rw [Int32.lt_iff_toInt_lt] at c10'
            try have e44 := @y_subL (g0_7 (Int32.toNatClampNeg p1)) (79 : Int32) (79) rfl (by omega) (by omega)
            refine y_bi (y_X6_storeElement (by omega) (by omega) (by first | with_reducible assumption | omega | ((with_reducible refine y_Vl ?_ ?_) <;> omega) | ((with_reducible refine y_V8 ?_) <;> (first | with_reducible assumption | (unfold y_Tr; omega))) | ((with_reducible refine y_Tr4 ?_ ?_) <;> (first | with_reducible assumption | omega)) | ((with_reducible refine (y_Tr4 ?_ ?_).ty) <;> (first | with_reducible assumption | omega)) | (unfold y_Ty; omega) | (unfold y_Tr; omega) | (with_reducible exact y_st4t _) | (intro hz; exact hIn.ty (by omega)) | (intro hz; exact (hIn.cc (by omega)).ty) | (intro hz; exfalso; omega)) (by omega) (by omega) (by omega) (by first | with_reducible assumption | omega | ((with_reducible refine y_Vl ?_ ?_) <;> omega) | ((with_reducible refine y_V8 ?_) <;> (first | with_reducible assumption | (unfold y_Tr; omega))) | ((with_reducible refine y_Tr4 ?_ ?_) <;> (first | with_reducible assumption | omega)) | ((with_reducible refine (y_Tr4 ?_ ?_).ty) <;> (first | with_reducible assumption | omega)) | (unfold y_Ty; omega) | (unfold y_Tr; omega) | (with_reducible exact y_st4t _) | (intro hz; exact hIn.ty (by omega)) | (intro hz; exact (hIn.cc (by omega)).ty) | (intro hz; exfalso; omega)) (by omega) (by omega) (by omega) (by omega)) (fun r_29 h_r_29 => ?_)
            obtain ⟨h0_r_29, h1_r_29, h2_r_29, h3_r_29⟩ := h_r_29
            refine y_some ?_
            try dsimp only
            refine ⟨?_, ?_, ?_, ?_, ?_, ?_, ?_⟩ <;> (first | with_reducible assumption | omega | ((with_reducible refine y_Vl ?_ ?_) <;> omega) | ((with_reducible refine y_V8 ?_) <;> (first | with_reducible assumption | (unfold y_Tr; omega))) | ((with_reducible refine y_Tr4 ?_ ?_) <;> (first | with_reducible assumption | omega)) | ((with_reducible refine (y_Tr4 ?_ ?_).ty) <;> (first | with_reducible assumption | omega)) | (unfold y_Ty; omega) | (unfold y_Tr; omega) | (with_reducible exact y_st4t _) | (intro hz; exact hIn.ty (by omega)) | (intro hz; exact (hIn.cc (by omega)).ty) | (intro hz; exfalso; omega))
        · skip
          have e45 : (58 : Int32).toInt = 58 := rfl
          have c8' := c8
          rw [Int32.lt_iff_toInt_lt] at c8'
          try have e46 := @y_subL (g0_7 (Int32.toNatClampNeg p1)) (54 : Int32) (54) rfl (by omega) (by omega)
          refine y_bi (y_X6_store (by omega) (by omega) (by omega) (by first | with_reducible assumption | omega | ((with_reducible refine y_Vl ?_ ?_) <;> omega) | ((with_reducible refine y_V8 ?_) <;> (first | with_reducible assumption | (unfold y_Tr; omega))) | ((with_reducible refine y_Tr4 ?_ ?_) <;> (first | with_reducible assumption | omega)) | ((with_reducible refine (y_Tr4 ?_ ?_).ty) <;> (first | with_reducible assumption | omega)) | (unfold y_Ty; omega) | (unfold y_Tr; omega) | (with_reducible exact y_st4t _) | (intro hz; exact hIn.ty (by omega)) | (intro hz; exact (hIn.cc (by omega)).ty) | (intro hz; exfalso; omega)) (by omega) (by omega)) (fun r_30 h_r_30 => ?_)
          obtain ⟨h0_r_30, h1_r_30, h2_r_30⟩ := h_r_30
          refine y_some ?_
          try dsimp only
          refine ⟨?_, ?_, ?_, ?_, ?_, ?_, ?_⟩ <;> (first | with_reducible assumption | omega | ((with_reducible refine y_Vl ?_ ?_) <;> omega) | ((with_reducible refine y_V8 ?_) <;> (first | with_reducible assumption | (unfold y_Tr; omega))) | ((with_reducible refine y_Tr4 ?_ ?_) <;> (first | with_reducible assumption | omega)) | ((with_reducible refine (y_Tr4 ?_ ?_).ty) <;> (first | with_reducible assumption | omega)) | (unfold y_Ty; omega) | (unfold y_Tr; omega) | (with_reducible exact y_st4t _) | (intro hz; exact hIn.ty (by omega)) | (intro hz; exact (hIn.cc (by omega)).ty) | (intro hz; exfalso; omega))
      · skip
        have e47 : (53 : Int32).toInt = 53 := rfl
        have c6' := c6
        rw [Int32.lt_iff_toInt_lt] at c6'
        try have e48 := @y_subL (g0_7 (Int32.toNatClampNeg p1)) (46 : Int32) (46) rfl (by omega) (by omega)
        refine y_bi (y_X6_loadElement (by omega) (by omega) (by omega) (by omega) (by first | with_reducible assumption | omega | ((with_reducible refine y_Vl ?_ ?_) <;> omega) | ((with_reducible refine y_V8 ?_) <;> (first | with_reducible assumption | (unfold y_Tr; omega))) | ((with_reducible refine y_Tr4 ?_ ?_) <;> (first | with_reducible assumption | omega)) | ((with_reducible refine (y_Tr4 ?_ ?_).ty) <;> (first | with_reducible assumption | omega)) | (unfold y_Ty; omega) | (unfold y_Tr; omega) | (with_reducible exact y_st4t _) | (intro hz; exact hIn.ty (by omega)) | (intro hz; exact (hIn.cc (by omega)).ty) | (intro hz; exfalso; omega)) (by omega) (by omega)) (fun r_31 h_r_31 => ?_)
        obtain ⟨h0_r_31, h1_r_31, h2_r_31⟩ := h_r_31
        refine y_some ?_
        try dsimp only
        refine ⟨?_, ?_, ?_, ?_, ?_, ?_, ?_⟩ <;> (first | with_reducible assumption | omega | ((with_reducible refine y_Vl ?_ ?_) <;> omega) | ((with_reducible refine y_V8 ?_) <;> (first | with_reducible assumption | (unfold y_Tr; omega))) | ((with_reducible refine y_Tr4 ?_ ?_) <;> (first | with_reducible assumption | omega)) | ((with_reducible refine (y_Tr4 ?_ ?_).ty) <;> (first | with_reducible assumption | omega)) | (unfold y_Ty; omega) | (unfold y_Tr; omega) | (with_reducible exact y_st4t _) | (intro hz; exact hIn.ty (by omega)) | (intro hz; exact (hIn.cc (by omega)).ty) | (intro hz; exfalso; omega))
    · skip
      have e49 : (25 : Int32).toInt = 25 := rfl
      have c4' := c4
      rw [Int32.lt_iff_toInt_lt] at c4'
      try have e50 := @y_subL (g0_7 (Int32.toNatClampNeg p1)) (21 : Int32) (21) rfl (by omega) (by omega)
      refine y_bi (y_X6_load (by omega) (by omega) (by omega) (by omega) (by first | with_reducible assumption | omega | ((with_reducible refine y_Vl ?_ ?_) <;> omega) | ((with_reducible refine y_V8 ?_) <;> (first | with_reducible assumption | (unfold y_Tr; omega))) | ((with_reducible refine y_Tr4 ?_ ?_) <;> (first | with_reducible assumption | omega)) | ((with_reducible refine (y_Tr4 ?_ ?_).ty) <;> (first | with_reducible assumption | omega)) | (unfold y_Ty; omega) | (unfold y_Tr; omega) | (with_reducible exact y_st4t _) | (intro hz; exact hIn.ty (by omega)) | (intro hz; exact (hIn.cc (by omega)).ty) | (intro hz; exfalso; omega)) (by omega)) (fun r_32 h_r_32 => ?_)
      obtain ⟨h0_r_32, h1_r_32, h2_r_32⟩ := h_r_32
      refine y_some ?_
      try dsimp only
      refine ⟨?_, ?_, ?_, ?_, ?_, ?_, ?_⟩ <;> (first | with_reducible assumption | omega | ((with_reducible refine y_Vl ?_ ?_) <;> omega) | ((with_reducible refine y_V8 ?_) <;> (first | with_reducible assumption | (unfold y_Tr; omega))) | ((with_reducible refine y_Tr4 ?_ ?_) <;> (first | with_reducible assumption | omega)) | ((with_reducible refine (y_Tr4 ?_ ?_).ty) <;> (first | with_reducible assumption | omega)) | (unfold y_Ty; omega) | (unfold y_Tr; omega) | (with_reducible exact y_st4t _) | (intro hz; exact hIn.ty (by omega)) | (intro hz; exact (hIn.cc (by omega)).ty) | (intro hz; exfalso; omega))
  · skip
    have e51 : (20 : Int32).toInt = 20 := rfl
    try have e52 := @y_cl p1 (by omega)
    have c1' := c1
    rw [Int32.lt_iff_toInt_lt] at c1'
    refine y_bi (y_X6_pushConstant (v5_2 := v5_2) (by omega) (by omega) (by omega) (by omega) (by first | with_reducible assumption | omega | ((with_reducible refine y_Vl ?_ ?_) <;> omega) | ((with_reducible refine y_V8 ?_) <;> (first | with_reducible assumption | (unfold y_Tr; omega))) | ((with_reducible refine y_Tr4 ?_ ?_) <;> (first | with_reducible assumption | omega)) | ((with_reducible refine (y_Tr4 ?_ ?_).ty) <;> (first | with_reducible assumption | omega)) | (unfold y_Ty; omega) | (unfold y_Tr; omega) | (with_reducible exact y_st4t _) | (intro hz; exact hIn.ty (by omega)) | (intro hz; exact (hIn.cc (by omega)).ty) | (intro hz; exfalso; omega)) (by omega) (by first | with_reducible assumption | omega | ((with_reducible refine y_Vl ?_ ?_) <;> omega) | ((with_reducible refine y_V8 ?_) <;> (first | with_reducible assumption | (unfold y_Tr; omega))) | ((with_reducible refine y_Tr4 ?_ ?_) <;> (first | with_reducible assumption | omega)) | ((with_reducible refine (y_Tr4 ?_ ?_).ty) <;> (first | with_reducible assumption | omega)) | (unfold y_Ty; omega) | (unfold y_Tr; omega) | (with_reducible exact y_st4t _) | (intro hz; exact hIn.ty (by omega)) | (intro hz; exact (hIn.cc (by omega)).ty) | (intro hz; exfalso; omega))) (fun r_33 h_r_33 => ?_)
    obtain ⟨h0_r_33, h1_r_33, h2_r_33⟩ := h_r_33
    refine y_some ?_
    try dsimp only
    refine ⟨?_, ?_, ?_, ?_, ?_, ?_, ?_⟩ <;> (first | with_reducible assumption | omega | ((with_reducible refine y_Vl ?_ ?_) <;> omega) | ((with_reducible refine y_V8 ?_) <;> (first | with_reducible assumption | (unfold y_Tr; omega))) | ((with_reducible refine y_Tr4 ?_ ?_) <;> (first | with_reducible assumption | omega)) | ((with_reducible refine (y_Tr4 ?_ ?_).ty) <;> (first | with_reducible assumption | omega)) | (unfold y_Ty; omega) | (unfold y_Tr; omega) | (with_reducible exact y_st4t _) | (intro hz; exact hIn.ty (by omega)) | (intro hz; exact (hIn.cc (by omega)).ty) | (intro hz; exfalso; omega))
