set_option maxHeartbeats 4000000 in
theorem y_X9_isClass {v9_1 : Int32} {p1 : Int32}  : y_Ok (f_X9_isClass v9_1 p1) (fun r => ((r.toInt = 0 ∧ ¬ (0 ≤ p1.toInt ∧ p1.toInt < v9_1.toInt)) ∨ (r.toInt = 1 ∧ (0 ≤ p1.toInt ∧ p1.toInt < v9_1.toInt)))) := by
  unfold f_X9_isClass
  refine y_if (fun c1 => ?_) (fun c1 => ?_)
  · skip
    have e2 : (0 : Int32).toInt = 0 := rfl
    have c1' := c1
    rw [Int32.lt_iff_toInt_lt] at c1'
    refine y_some ?_
    try dsimp only
    (first | with_reducible assumption | omega | ((with_reducible refine y_Vl ?_ ?_) <;> omega))
  · skip
    have e3 : (0 : Int32).toInt = 0 := rfl
    have c1' := c1
    rw [Int32.lt_iff_toInt_lt] at c1'
    refine y_if (fun c4 => ?_) (fun c4 => ?_)
    · skip
      have c4' := c4
      rw [Int32.le_iff_toInt_le] at c4'
      refine y_some ?_
      try dsimp only
      (first | with_reducible assumption | omega | ((with_reducible refine y_Vl ?_ ?_) <;> omega))
    · skip
      have c4' := c4
      rw [Int32.le_iff_toInt_le] at c4'
      have e5 : (1 : Int32).toInt = 1 := rfl
      refine y_some ?_
      try dsimp only
      (first | with_reducible assumption | omega | ((with_reducible refine y_Vl ?_ ?_) <;> omega))
set_option maxHeartbeats 4000000 in
theorem y_X9_isPrimitive {p1 : Int32}  : y_Ok (f_X9_isPrimitive p1) (fun r => ((r.toInt = 0 ∧ ¬ (65528 ≤ p1.toInt ∧ p1.toInt < 65536)) ∨ (r.toInt = 1 ∧ (65528 ≤ p1.toInt ∧ p1.toInt < 65536)))) := by
  unfold f_X9_isPrimitive
  refine y_if (fun c1 => ?_) (fun c1 => ?_)
  · skip
    have e2 : (65528 : Int32).toInt = 65528 := rfl
    have c1' := c1
    rw [Int32.lt_iff_toInt_lt] at c1'
    have e3 : (0 : Int32).toInt = 0 := rfl
    refine y_some ?_
    try dsimp only
    (first | with_reducible assumption | omega | ((with_reducible refine y_Vl ?_ ?_) <;> omega))
  · skip
    have e4 : (65528 : Int32).toInt = 65528 := rfl
    have c1' := c1
    rw [Int32.lt_iff_toInt_lt] at c1'
    refine y_if (fun c5 => ?_) (fun c5 => ?_)
    · skip
      have e6 : (65536 : Int32).toInt = 65536 := rfl
      have c5' := c5
      rw [Int32.le_iff_toInt_le] at c5'
      have e7 : (0 : Int32).toInt = 0 := rfl
      refine y_some ?_
      try dsimp only
      (first | with_reducible assumption | omega | ((with_reducible refine y_Vl ?_ ?_) <;> omega))
    · skip
      have e8 : (65536 : Int32).toInt = 65536 := rfl
      have c5' := c5
      rw [Int32.le_iff_toInt_le] at c5'
      have e9 : (1 : Int32).toInt = 1 := rfl
      refine y_some ?_
      try dsimp only
      (first | with_reducible assumption | omega | ((with_reducible refine y_Vl ?_ ?_) <;> omega))
set_option maxHeartbeats 4000000 in
theorem y_X9_isType {v9_1 : Int32} {p1 : Int32} (k0 : 0 ≤ v9_1.toInt) (k1 : v9_1.toInt ≤ 200) : y_Ok (f_X9_isType v9_1 p1) (fun r => ((r.toInt = 0 ∧ ¬ (0 ≤ p1.toInt ∧ p1.toInt < 16777216 ∧ (p1.toInt % 65536 < v9_1.toInt ∨ 65528 ≤ p1.toInt % 65536))) ∨ (r.toInt = 1 ∧ (0 ≤ p1.toInt ∧ p1.toInt < 16777216 ∧ (p1.toInt % 65536 < v9_1.toInt ∨ 65528 ≤ p1.toInt % 65536))))) := by
  unfold f_X9_isType
  refine y_if (fun c1 => ?_) (fun c1 => ?_)
  · skip
    have e2 : (0 : Int32).toInt = 0 := rfl
    have c1' := c1
    rw [Int32.lt_iff_toInt_lt] at c1'
    refine y_some ?_
    try dsimp only
    (first | with_reducible assumption | omega | ((with_reducible refine y_Vl ?_ ?_) <;> omega))
  · skip
    have e3 : (0 : Int32).toInt = 0 := rfl
    have c1' := c1
    rw [Int32.lt_iff_toInt_lt] at c1'
    refine y_if (fun c4 => ?_) (fun c4 => ?_)
    · skip
      have e5 : (255 : Int32).toInt = 255 := rfl
      have e6 := y_sar16 p1
      have c4' := c4
      rw [Int32.lt_iff_toInt_lt] at c4'
      refine y_some ?_
      try dsimp only
      (first | with_reducible assumption | omega | ((with_reducible refine y_Vl ?_ ?_) <;> omega))
    · skip
      have e7 : (255 : Int32).toInt = 255 := rfl
      have e8 := y_sar16 p1
      have c4' := c4
      rw [Int32.lt_iff_toInt_lt] at c4'
      have e9 := y_and16 p1
      refine y_bi (y_X9_isClass) (fun r_3 h_r_3 => ?_)
      have h0_r_3 : (r_3.toInt = 0 ∧ ¬ (0 ≤ (p1 &&& (65535 : Int32)).toInt ∧ (p1 &&& (65535 : Int32)).toInt < v9_1.toInt)) ∨ (r_3.toInt = 1 ∧ (0 ≤ (p1 &&& (65535 : Int32)).toInt ∧ (p1 &&& (65535 : Int32)).toInt < v9_1.toInt)) := h_r_3
      refine y_if (fun c10 => ?_) (fun c10 => ?_)
      · skip
        have c10' := c10
        rw [← Int32.toInt_inj] at c10'
        have e11 := y_or0 h0_r_3 c10'
        clear h0_r_3
        refine y_if (fun c12 => ?_) (fun c12 => ?_)
        · skip
          have e13 : (65528 : Int32).toInt = 65528 := rfl
          have c12' := c12
          rw [Int32.lt_iff_toInt_lt] at c12'
          refine y_some ?_
          try dsimp only
          (first | with_reducible assumption | omega | ((with_reducible refine y_Vl ?_ ?_) <;> omega))
        · skip
          have e14 : (65528 : Int32).toInt = 65528 := rfl
          have c12' := c12
          rw [Int32.lt_iff_toInt_lt] at c12'
          have e15 : (1 : Int32).toInt = 1 := rfl
          refine y_some ?_
          try dsimp only
          (first | with_reducible assumption | omega | ((with_reducible refine y_Vl ?_ ?_) <;> omega))
      · skip
        have c10' := c10
        rw [← Int32.toInt_inj] at c10'
        have e16 := y_or1 h0_r_3 c10'
        clear h0_r_3
        have e17 : (1 : Int32).toInt = 1 := rfl
        refine y_some ?_
        try dsimp only
        (first | with_reducible assumption | omega | ((with_reducible refine y_Vl ?_ ?_) <;> omega))
set_option maxHeartbeats 4000000 in
theorem y_X9_isWide {p1 : Int32}  : y_Ok (f_X9_isWide p1) (fun r => ((r.toInt = 0 ∧ ¬ (p1.toInt = 65531 ∨ p1.toInt = 65535)) ∨ (r.toInt = 1 ∧ (p1.toInt = 65531 ∨ p1.toInt = 65535)))) := by
  unfold f_X9_isWide
  refine y_if (fun c1 => ?_) (fun c1 => ?_)
  · skip
    have e2 : (65531 : Int32).toInt = 65531 := rfl
    have c1' := c1
    rw [← Int32.toInt_inj] at c1'
    have e3 : (1 : Int32).toInt = 1 := rfl
    refine y_some ?_
    try dsimp only
    (first | with_reducible assumption | omega | ((with_reducible refine y_Vl ?_ ?_) <;> omega))
  · skip
    have e4 : (65531 : Int32).toInt = 65531 := rfl
    have c1' := c1
    rw [← Int32.toInt_inj] at c1'
    refine y_if (fun c5 => ?_) (fun c5 => ?_)
    · skip
      have e6 : (65535 : Int32).toInt = 65535 := rfl
      have c5' := c5
      rw [← Int32.toInt_inj] at c5'
      have e7 : (1 : Int32).toInt = 1 := rfl
      refine y_some ?_
      try dsimp only
      (first | with_reducible assumption | omega | ((with_reducible refine y_Vl ?_ ?_) <;> omega))
    · skip
      have e8 : (65535 : Int32).toInt = 65535 := rfl
      have c5' := c5
      rw [← Int32.toInt_inj] at c5'
      have e9 : (0 : Int32).toInt = 0 := rfl
      refine y_some ?_
      try dsimp only
      (first | with_reducible assumption | omega | ((with_reducible refine y_Vl ?_ ?_) <;> omega))
set_option maxHeartbeats 4000000 in
theorem y_X9_below_L_0_i {g9_4 : Nat → Int32} {l2 : Int32} (k0 : y_Up g9_4) : ∀ (m : Nat) {l3 : Int32}, (-1 ≤ l3.toInt) → (l3.toInt < 200) → l3.toInt + 1 < m → y_Ok (f_X9_below_L g9_4 l2 (0, l3)) (fun r => (r.toInt = 0 ∨ r.toInt = 1) ∧ (0 ≤ l3.toInt → l2.toInt = 0 → r.toInt = 1)) := by
  intro m
  induction m with
  | zero => intro l3 k1 k2 hm; exfalso; omega
  | succ m ih =>
    intro l3 k1 k2 hm
    rw [f_X9_below_L]
    refine y_ip rfl ?_
    refine y_if (fun c1 => ?_) (fun c1 => ?_)
    · skip
      have e2 : (0 : Int32).toInt = 0 := rfl
      have c1' := c1
      rw [Int32.lt_iff_toInt_lt] at c1'
      refine y_some ?_
      try dsimp only
      refine ⟨?_, ?_⟩ <;> (first | with_reducible assumption | omega | ((with_reducible refine y_Vl ?_ ?_) <;> omega))
    · skip
      have e3 : (0 : Int32).toInt = 0 := rfl
      have c1' := c1
      rw [Int32.lt_iff_toInt_lt] at c1'
      refine y_if (fun c4 => ?_) (fun c4 => ?_)
      · skip
        have c4' := c4
        rw [← Int32.toInt_inj] at c4'
        have e5 : (1 : Int32).toInt = 1 := rfl
        refine y_some ?_
        try dsimp only
        refine ⟨?_, ?_⟩ <;> (first | with_reducible assumption | omega | ((with_reducible refine y_Vl ?_ ?_) <;> omega))
      · skip
        have c4' := c4
        rw [← Int32.toInt_inj] at c4'
        refine y_gd (y_gdI (by omega) (by omega)) ?_
        try have e6 := @y_cl l3 (by omega)
        try have e7 := k0.at (Int32.toNatClampNeg l3) (by omega)
        refine y_Ok.mono (ih (l3 := (g9_4 (Int32.toNatClampNeg l3))) (by omega) (by omega) (by omega)) (fun r_t7 h_r_t7 => ?_)
        obtain ⟨h0_r_t7, h1_r_t7⟩ := h_r_t7
        refine ⟨?_, ?_⟩ <;> (first | with_reducible assumption | omega | ((with_reducible refine y_Vl ?_ ?_) <;> omega))
theorem y_X9_below_L_0 {g9_4 : Nat → Int32} {l2 : Int32} {l3 : Int32} (k0 : y_Up g9_4) (k1 : -1 ≤ l3.toInt) (k2 : l3.toInt < 200) : y_Ok (f_X9_below_L g9_4 l2 (0, l3)) (fun r => (r.toInt = 0 ∨ r.toInt = 1) ∧ (0 ≤ l3.toInt → l2.toInt = 0 → r.toInt = 1)) := y_X9_below_L_0_i k0 (l3.toInt + 1 + 1).toNat k1 k2 (by omega)
set_option maxHeartbeats 4000000 in
theorem y_X9_below {g9_4 : Nat → Int32} {p1 : Int32} {p2 : Int32} (k0 : y_Up g9_4) (k1 : -1 ≤ p1.toInt) (k2 : p1.toInt < 200) : y_Ok (f_X9_below g9_4 p1 p2) (fun r => (r.toInt = 0 ∨ r.toInt = 1) ∧ (0 ≤ p1.toInt → p2.toInt = 0 → r.toInt = 1)) := by
  unfold f_X9_below
  refine y_Ok.mono (y_X9_below_L_0 (l3 := p1) (by first | with_reducible assumption | omega | ((with_reducible refine y_Vl ?_ ?_) <;> omega)) (by omega) (by omega)) (fun r_t0 h_r_t0 => ?_)
  obtain ⟨h0_r_t0, h1_r_t0⟩ := h_r_t0
  refine ⟨?_, ?_⟩ <;> (first | with_reducible assumption | omega | ((with_reducible refine y_Vl ?_ ?_) <;> omega))
set_option maxHeartbeats 4000000 in
theorem y_X9_may_0 {g9_4 : Nat → Int32} {g9_5 : Nat → Int32} {p1 : Int32} {p2 : Int32} (k0 : y_Up g9_4) (k1 : 0 ≤ p1.toInt) (k2 : p1.toInt < 200) (k3 : 0 ≤ p2.toInt) (k4 : p2.toInt < 200) : y_Ok (f_X9_may_0 g9_4 g9_5 p1 p2) (fun r => (r.toInt = 0 ∨ r.toInt = 1)) := by
  unfold f_X9_may_0
  refine y_if (fun c1 => ?_) (fun c1 => ?_)
  · skip
    have c1' := c1
    rw [← Int32.toInt_inj] at c1'
    have e2 : (1 : Int32).toInt = 1 := rfl
    refine y_some ?_
    try dsimp only
    (first | with_reducible assumption | omega | ((with_reducible refine y_Vl ?_ ?_) <;> omega))
  · skip
    have c1' := c1
    rw [← Int32.toInt_inj] at c1'
    refine y_bi (y_X9_isPrimitive) (fun r_2 h_r_2 => ?_)
    have h0_r_2 : (r_2.toInt = 0 ∧ ¬ (65528 ≤ p1.toInt ∧ p1.toInt < 65536)) ∨ (r_2.toInt = 1 ∧ (65528 ≤ p1.toInt ∧ p1.toInt < 65536)) := h_r_2
    refine y_if (fun c3 => ?_) (fun c3 => ?_)
    · skip
      have e4 : (0 : Int32).toInt = 0 := rfl
      have c3' := c3
      rw [← Int32.toInt_inj] at c3'
      have e5 := y_or0 h0_r_2 c3'
      clear h0_r_2
      refine y_bi (y_X9_isPrimitive) (fun r_4 h_r_4 => ?_)
      have h0_r_4 : (r_4.toInt = 0 ∧ ¬ (65528 ≤ p2.toInt ∧ p2.toInt < 65536)) ∨ (r_4.toInt = 1 ∧ (65528 ≤ p2.toInt ∧ p2.toInt < 65536)) := h_r_4
      refine y_if (fun c6 => ?_) (fun c6 => ?_)
      · skip
        have c6' := c6
        rw [← Int32.toInt_inj] at c6'
        have e7 := y_or0 h0_r_4 c6'
        clear h0_r_4
        refine y_if (fun c8 => ?_) (fun c8 => ?_)
        · skip
          have e9 := y_sar16 p2
          have c8' := c8
          rw [← Int32.toInt_inj] at c8'
          refine y_if (fun c10 => ?_) (fun c10 => ?_)
          · skip
            have e11 := y_sar16 p1
            have c10' := c10
            rw [Int32.le_iff_toInt_le] at c10'
            refine y_if (fun c12 => ?_) (fun c12 => ?_)
            · skip
              have c12' := c12
              rw [← Int32.toInt_inj] at c12'
              have e13 : (1 : Int32).toInt = 1 := rfl
              refine y_some ?_
              try dsimp only
              (first | with_reducible assumption | omega | ((with_reducible refine y_Vl ?_ ?_) <;> omega))
            · skip
              have c12' := c12
              rw [← Int32.toInt_inj] at c12'
              refine y_gd (y_gdI (by omega) (by omega)) ?_
              refine y_if (fun c14 => ?_) (fun c14 => ?_)
              · skip
                try have e15 := @y_cl p2 (by omega)
                have c14' := c14
                rw [← Int32.toInt_inj] at c14'
                refine y_bi (y_X9_below (by first | with_reducible assumption | omega | ((with_reducible refine y_Vl ?_ ?_) <;> omega)) (by omega) (by omega)) (fun r_18 h_r_18 => ?_)
                obtain ⟨h0_r_18, h1_r_18⟩ := h_r_18
                refine y_if (fun c16 => ?_) (fun c16 => ?_)
                · skip
                  have c16' := c16
                  rw [← Int32.toInt_inj] at c16'
                  refine y_some ?_
                  try dsimp only
                  (first | with_reducible assumption | omega | ((with_reducible refine y_Vl ?_ ?_) <;> omega))
                · skip
                  have c16' := c16
                  rw [← Int32.toInt_inj] at c16'
                  have e17 : (1 : Int32).toInt = 1 := rfl
                  refine y_some ?_
                  try dsimp only
                  (first | with_reducible assumption | omega | ((with_reducible refine y_Vl ?_ ?_) <;> omega))
              · skip
                try have e18 := @y_cl p2 (by omega)
                have c14' := c14
                rw [← Int32.toInt_inj] at c14'
                have e19 : (1 : Int32).toInt = 1 := rfl
                refine y_some ?_
                try dsimp only
                (first | with_reducible assumption | omega | ((with_reducible refine y_Vl ?_ ?_) <;> omega))
          · skip
            have e20 := y_sar16 p1
            have c10' := c10
            rw [Int32.le_iff_toInt_le] at c10'
            refine y_if (fun c21 => ?_) (fun c21 => ?_)
            · skip
              have c21' := c21
              rw [← Int32.toInt_inj] at c21'
              have e22 : (1 : Int32).toInt = 1 := rfl
              refine y_some ?_
              try dsimp only
              (first | with_reducible assumption | omega | ((with_reducible refine y_Vl ?_ ?_) <;> omega))
            · skip
              have c21' := c21
              rw [← Int32.toInt_inj] at c21'
              refine y_if (fun c23 => ?_) (fun c23 => ?_)
              · skip
                have e24 : (2 : Int32).toInt = 2 := rfl
                have c23' := c23
                rw [← Int32.toInt_inj] at c23'
                have e25 : (1 : Int32).toInt = 1 := rfl
                refine y_some ?_
                try dsimp only
                (first | with_reducible assumption | omega | ((with_reducible refine y_Vl ?_ ?_) <;> omega))
              · skip
                have e26 : (2 : Int32).toInt = 2 := rfl
                have c23' := c23
                rw [← Int32.toInt_inj] at c23'
                refine y_if (fun c27 => ?_) (fun c27 => ?_)
                · skip
                  have e28 : (3 : Int32).toInt = 3 := rfl
                  have c27' := c27
                  rw [← Int32.toInt_inj] at c27'
                  have e29 : (1 : Int32).toInt = 1 := rfl
                  refine y_some ?_
                  try dsimp only
                  (first | with_reducible assumption | omega | ((with_reducible refine y_Vl ?_ ?_) <;> omega))
                · skip
                  have e30 : (3 : Int32).toInt = 3 := rfl
                  have c27' := c27
                  rw [← Int32.toInt_inj] at c27'
                  refine y_some ?_
                  try dsimp only
                  (first | with_reducible assumption | omega | ((with_reducible refine y_Vl ?_ ?_) <;> omega))
        · skip
          have e31 := y_sar16 p2
          have c8' := c8
          rw [← Int32.toInt_inj] at c8'
          refine y_if (fun c32 => ?_) (fun c32 => ?_)
          · skip
            have e33 := y_sar16 p1
            have c32' := c32
            rw [← Int32.toInt_inj] at c32'
            refine y_if (fun c34 => ?_) (fun c34 => ?_)
            · skip
              have e35 : (65528 : Int32).toInt = 65528 := rfl
              have e36 := y_and16 p1
              have c34' := c34
              rw [Int32.le_iff_toInt_le] at c34'
              refine y_some ?_
              try dsimp only
              (first | with_reducible assumption | omega | ((with_reducible refine y_Vl ?_ ?_) <;> omega))
            · skip
              have e37 : (65528 : Int32).toInt = 65528 := rfl
              have e38 := y_and16 p1
              have c34' := c34
              rw [Int32.le_iff_toInt_le] at c34'
              refine y_if (fun c39 => ?_) (fun c39 => ?_)
              · skip
                have e40 := y_and16 p2
                have c39' := c39
                rw [Int32.le_iff_toInt_le] at c39'
                refine y_some ?_
                try dsimp only
                (first | with_reducible assumption | omega | ((with_reducible refine y_Vl ?_ ?_) <;> omega))
              · skip
                have e41 := y_and16 p2
                have c39' := c39
                rw [Int32.le_iff_toInt_le] at c39'
                exfalso; omega
          · skip
            have e42 := y_sar16 p1
            have c32' := c32
            rw [← Int32.toInt_inj] at c32'
            refine y_if (fun c43 => ?_) (fun c43 => ?_)
            · skip
              have c43' := c43
              rw [Int32.le_iff_toInt_le] at c43'
              refine y_some ?_
              try dsimp only
              (first | with_reducible assumption | omega | ((with_reducible refine y_Vl ?_ ?_) <;> omega))
            · skip
              have c43' := c43
              rw [Int32.le_iff_toInt_le] at c43'
              refine y_if (fun c44 => ?_) (fun c44 => ?_)
              · skip
                have e45 := y_and16 p2
                have c44' := c44
                rw [← Int32.toInt_inj] at c44'
                have e46 : (1 : Int32).toInt = 1 := rfl
                refine y_some ?_
                try dsimp only
                (first | with_reducible assumption | omega | ((with_reducible refine y_Vl ?_ ?_) <;> omega))
              · skip
                have e47 := y_and16 p2
                have c44' := c44
                rw [← Int32.toInt_inj] at c44'
                refine y_if (fun c48 => ?_) (fun c48 => ?_)
                · skip
                  have e49 : (2 : Int32).toInt = 2 := rfl
                  have c48' := c48
                  rw [← Int32.toInt_inj] at c48'
                  have e50 : (1 : Int32).toInt = 1 := rfl
                  refine y_some ?_
                  try dsimp only
                  (first | with_reducible assumption | omega | ((with_reducible refine y_Vl ?_ ?_) <;> omega))
                · skip
                  have e51 : (2 : Int32).toInt = 2 := rfl
                  have c48' := c48
                  rw [← Int32.toInt_inj] at c48'
                  refine y_if (fun c52 => ?_) (fun c52 => ?_)
                  · skip
                    have e53 : (3 : Int32).toInt = 3 := rfl
                    have c52' := c52
                    rw [← Int32.toInt_inj] at c52'
                    have e54 : (1 : Int32).toInt = 1 := rfl
                    refine y_some ?_
                    try dsimp only
                    (first | with_reducible assumption | omega | ((with_reducible refine y_Vl ?_ ?_) <;> omega))
                  · skip
                    have e55 : (3 : Int32).toInt = 3 := rfl
                    have c52' := c52
                    rw [← Int32.toInt_inj] at c52'
                    refine y_some ?_
                    try dsimp only
                    (first | with_reducible assumption | omega | ((with_reducible refine y_Vl ?_ ?_) <;> omega))
      · skip
        have c6' := c6
        rw [← Int32.toInt_inj] at c6'
        have e56 := y_or1 h0_r_4 c6'
        clear h0_r_4
        refine y_some ?_
        try dsimp only
        (first | with_reducible assumption | omega | ((with_reducible refine y_Vl ?_ ?_) <;> omega))
    · skip
      have e57 : (0 : Int32).toInt = 0 := rfl
      have c3' := c3
      rw [← Int32.toInt_inj] at c3'
      have e58 := y_or1 h0_r_2 c3'
      clear h0_r_2
      refine y_some ?_
      try dsimp only
      (first | with_reducible assumption | omega | ((with_reducible refine y_Vl ?_ ?_) <;> omega))
set_option maxHeartbeats 4000000 in
theorem y_X9_may {g9_4 : Nat → Int32} {g9_5 : Nat → Int32} {p1 : Int32} {p2 : Int32} (k0 : y_Up g9_4) (k1 : y_Ty p1) (k2 : y_Ty p2) : y_Ok (f_X9_may g9_4 g9_5 p1 p2) (fun r => (r.toInt = 0 ∨ r.toInt = 1)) := by
  have u1 := k1
  have u2 := k2
  unfold y_Ty at u1 u2
  unfold f_X9_may
  refine y_if (fun c1 => ?_) (fun c1 => ?_)
  · skip
    have c1' := c1
    rw [← Int32.toInt_inj] at c1'
    have e2 : (1 : Int32).toInt = 1 := rfl
    refine y_some ?_
    try dsimp only
    (first | with_reducible assumption | omega | ((with_reducible refine y_Vl ?_ ?_) <;> omega))
  · skip
    have c1' := c1
    rw [← Int32.toInt_inj] at c1'
    refine y_bi (y_X9_isPrimitive) (fun r_2 h_r_2 => ?_)
    have h0_r_2 : (r_2.toInt = 0 ∧ ¬ (65528 ≤ p1.toInt ∧ p1.toInt < 65536)) ∨ (r_2.toInt = 1 ∧ (65528 ≤ p1.toInt ∧ p1.toInt < 65536)) := h_r_2
    refine y_if (fun c3 => ?_) (fun c3 => ?_)
    · skip
      have e4 : (0 : Int32).toInt = 0 := rfl
      have c3' := c3
      rw [← Int32.toInt_inj] at c3'
      have e5 := y_or0 h0_r_2 c3'
      clear h0_r_2
      refine y_bi (y_X9_isPrimitive) (fun r_4 h_r_4 => ?_)
      have h0_r_4 : (r_4.toInt = 0 ∧ ¬ (65528 ≤ p2.toInt ∧ p2.toInt < 65536)) ∨ (r_4.toInt = 1 ∧ (65528 ≤ p2.toInt ∧ p2.toInt < 65536)) := h_r_4
      refine y_if (fun c6 => ?_) (fun c6 => ?_)
      · skip
        have c6' := c6
        rw [← Int32.toInt_inj] at c6'
        have e7 := y_or0 h0_r_4 c6'
        clear h0_r_4
        refine y_if (fun c8 => ?_) (fun c8 => ?_)
        · skip
          have e9 := y_sar16 p2
          have c8' := c8
          rw [← Int32.toInt_inj] at c8'
          refine y_if (fun c10 => ?_) (fun c10 => ?_)
          · skip
            have e11 := y_sar16 p1
            have c10' := c10
            rw [Int32.le_iff_toInt_le] at c10'
            refine y_if (fun c12 => ?_) (fun c12 => ?_)
            · skip
              have c12' := c12
              rw [← Int32.toInt_inj] at c12'
              have e13 : (1 : Int32).toInt = 1 := rfl
              refine y_some ?_
              try dsimp only
              (first | with_reducible assumption | omega | ((with_reducible refine y_Vl ?_ ?_) <;> omega))
            · skip
              have c12' := c12
              rw [← Int32.toInt_inj] at c12'
              refine y_gd (y_gdI (by omega) (by omega)) ?_
              refine y_if (fun c14 => ?_) (fun c14 => ?_)
              · skip
                try have e15 := @y_cl p2 (by omega)
                have c14' := c14
                rw [← Int32.toInt_inj] at c14'
                refine y_bi (y_X9_below (by first | with_reducible assumption | omega | ((with_reducible refine y_Vl ?_ ?_) <;> omega)) (by omega) (by omega)) (fun r_20 h_r_20 => ?_)
                obtain ⟨h0_r_20, h1_r_20⟩ := h_r_20
                refine y_if (fun c16 => ?_) (fun c16 => ?_)
                · skip
                  have c16' := c16
                  rw [← Int32.toInt_inj] at c16'
                  refine y_some ?_
                  try dsimp only
                  (first | with_reducible assumption | omega | ((with_reducible refine y_Vl ?_ ?_) <;> omega))
                · skip
                  have c16' := c16
                  rw [← Int32.toInt_inj] at c16'
                  have e17 : (1 : Int32).toInt = 1 := rfl
                  refine y_some ?_
                  try dsimp only
                  (first | with_reducible assumption | omega | ((with_reducible refine y_Vl ?_ ?_) <;> omega))
              · skip
                try have e18 := @y_cl p2 (by omega)
                have c14' := c14
                rw [← Int32.toInt_inj] at c14'
                have e19 : (1 : Int32).toInt = 1 := rfl
                refine y_some ?_
                try dsimp only
                (first | with_reducible assumption | omega | ((with_reducible refine y_Vl ?_ ?_) <;> omega))
          · skip
            have e20 := y_sar16 p1
            have c10' := c10
            rw [Int32.le_iff_toInt_le] at c10'
            refine y_if (fun c21 => ?_) (fun c21 => ?_)
            · skip
              have c21' := c21
              rw [← Int32.toInt_inj] at c21'
              have e22 : (1 : Int32).toInt = 1 := rfl
              refine y_some ?_
              try dsimp only
              (first | with_reducible assumption | omega | ((with_reducible refine y_Vl ?_ ?_) <;> omega))
            · skip
              have c21' := c21
              rw [← Int32.toInt_inj] at c21'
              refine y_if (fun c23 => ?_) (fun c23 => ?_)
              · skip
                have e24 : (2 : Int32).toInt = 2 := rfl
                have c23' := c23
                rw [← Int32.toInt_inj] at c23'
                have e25 : (1 : Int32).toInt = 1 := rfl
                refine y_some ?_
                try dsimp only
                (first | with_reducible assumption | omega | ((with_reducible refine y_Vl ?_ ?_) <;> omega))
              · skip
                have e26 : (2 : Int32).toInt = 2 := rfl
                have c23' := c23
                rw [← Int32.toInt_inj] at c23'
                refine y_if (fun c27 => ?_) (fun c27 => ?_)
                · skip
                  have e28 : (3 : Int32).toInt = 3 := rfl
                  have c27' := c27
                  rw [← Int32.toInt_inj] at c27'
                  have e29 : (1 : Int32).toInt = 1 := rfl
                  refine y_some ?_
                  try dsimp only
                  (first | with_reducible assumption | omega | ((with_reducible refine y_Vl ?_ ?_) <;> omega))
                · skip
                  have e30 : (3 : Int32).toInt = 3 := rfl
                  have c27' := c27
                  rw [← Int32.toInt_inj] at c27'
                  refine y_some ?_
                  try dsimp only
                  (first | with_reducible assumption | omega | ((with_reducible refine y_Vl ?_ ?_) <;> omega))
        · skip
          have e31 := y_sar16 p2
          have c8' := c8
          rw [← Int32.toInt_inj] at c8'
          refine y_if (fun c32 => ?_) (fun c32 => ?_)
          · skip
            have e33 := y_sar16 p1
            have c32' := c32
            rw [← Int32.toInt_inj] at c32'
            refine y_if (fun c34 => ?_) (fun c34 => ?_)
            · skip
              have e35 : (65528 : Int32).toInt = 65528 := rfl
              have e36 := y_and16 p1
              have c34' := c34
              rw [Int32.le_iff_toInt_le] at c34'
              refine y_some ?_
              try dsimp only
              (first | with_reducible assumption | omega | ((with_reducible refine y_Vl ?_ ?_) <;> omega))
            · skip
              have e37 : (65528 : Int32).toInt = 65528 := rfl
              have e38 := y_and16 p1
              have c34' := c34
              rw [Int32.le_iff_toInt_le] at c34'
              refine y_if (fun c39 => ?_) (fun c39 => ?_)
              · skip
                have e40 := y_and16 p2
                have c39' := c39
                rw [Int32.le_iff_toInt_le] at c39'
                refine y_some ?_
                try dsimp only
                (first | with_reducible assumption | omega | ((with_reducible refine y_Vl ?_ ?_) <;> omega))
              · skip
                have e41 := y_and16 p2
                have c39' := c39
                rw [Int32.le_iff_toInt_le] at c39'
                refine y_bi (y_X9_may_0 (by first | with_reducible assumption | omega | ((with_reducible refine y_Vl ?_ ?_) <;> omega)) (by omega) (by omega) (by omega) (by omega)) (fun r_14 h_r_14 => ?_)
                have h0_r_14 : r_14.toInt = 0 ∨ r_14.toInt = 1 := h_r_14
                refine y_if (fun c42 => ?_) (fun c42 => ?_)
                · skip
                  have c42' := c42
                  rw [← Int32.toInt_inj] at c42'
                  refine y_some ?_
                  try dsimp only
                  (first | with_reducible assumption | omega | ((with_reducible refine y_Vl ?_ ?_) <;> omega))
                · skip
                  have c42' := c42
                  rw [← Int32.toInt_inj] at c42'
                  have e43 : (1 : Int32).toInt = 1 := rfl
                  refine y_some ?_
                  try dsimp only
                  (first | with_reducible assumption | omega | ((with_reducible refine y_Vl ?_ ?_) <;> omega))
          · skip
            have e44 := y_sar16 p1
            have c32' := c32
            rw [← Int32.toInt_inj] at c32'
            refine y_if (fun c45 => ?_) (fun c45 => ?_)
            · skip
              have c45' := c45
              rw [Int32.le_iff_toInt_le] at c45'
              refine y_some ?_
              try dsimp only
              (first | with_reducible assumption | omega | ((with_reducible refine y_Vl ?_ ?_) <;> omega))
            · skip
              have c45' := c45
              rw [Int32.le_iff_toInt_le] at c45'
              refine y_if (fun c46 => ?_) (fun c46 => ?_)
              · skip
                have e47 := y_and16 p2
                have c46' := c46
                rw [← Int32.toInt_inj] at c46'
                have e48 : (1 : Int32).toInt = 1 := rfl
                refine y_some ?_
                try dsimp only
                (first | with_reducible assumption | omega | ((with_reducible refine y_Vl ?_ ?_) <;> omega))
              · skip
                have e49 := y_and16 p2
                have c46' := c46
                rw [← Int32.toInt_inj] at c46'
                refine y_if (fun c50 => ?_) (fun c50 => ?_)
                · skip
                  have e51 : (2 : Int32).toInt = 2 := rfl
                  have c50' := c50
                  rw [← Int32.toInt_inj] at c50'
                  have e52 : (1 : Int32).toInt = 1 := rfl
                  refine y_some ?_
                  try dsimp only
                  (first | with_reducible assumption | omega | ((with_reducible refine y_Vl ?_ ?_) <;> omega))
                · skip
                  have e53 : (2 : Int32).toInt = 2 := rfl
                  have c50' := c50
                  rw [← Int32.toInt_inj] at c50'
                  refine y_if (fun c54 => ?_) (fun c54 => ?_)
                  · skip
                    have e55 : (3 : Int32).toInt = 3 := rfl
                    have c54' := c54
                    rw [← Int32.toInt_inj] at c54'
                    have e56 : (1 : Int32).toInt = 1 := rfl
                    refine y_some ?_
                    try dsimp only
                    (first | with_reducible assumption | omega | ((with_reducible refine y_Vl ?_ ?_) <;> omega))
                  · skip
                    have e57 : (3 : Int32).toInt = 3 := rfl
                    have c54' := c54
                    rw [← Int32.toInt_inj] at c54'
                    refine y_some ?_
                    try dsimp only
                    (first | with_reducible assumption | omega | ((with_reducible refine y_Vl ?_ ?_) <;> omega))
      · skip
        have c6' := c6
        rw [← Int32.toInt_inj] at c6'
        have e58 := y_or1 h0_r_4 c6'
        clear h0_r_4
        refine y_some ?_
        try dsimp only
        (first | with_reducible assumption | omega | ((with_reducible refine y_Vl ?_ ?_) <;> omega))
    · skip
      have e59 : (0 : Int32).toInt = 0 := rfl
      have c3' := c3
      rw [← Int32.toInt_inj] at c3'
      have e60 := y_or1 h0_r_2 c3'
      clear h0_r_2
      refine y_some ?_
      try dsimp only
      (first | with_reducible assumption | omega | ((with_reducible refine y_Vl ?_ ?_) <;> omega))
set_option maxHeartbeats 4000000 in
theorem y_X9_shared_0_L_0_i {g9_4 : Nat → Int32} {g9_5 : Nat → Int32} {l6 : Int32} (k0 : y_Up g9_4) (k1 : 0 ≤ l6.toInt) (k2 : l6.toInt < 200) : ∀ (m : Nat) {l7 : Int32}, (0 ≤ l7.toInt) → (l7.toInt < 200) → l7.toInt < m → y_Ok (f_X9_shared_0_L g9_4 g9_5 l6 (0, l7)) (fun r => (0 ≤ r.toInt) ∧ (r.toInt ≤ l7.toInt)) := by
  intro m
  induction m with
  | zero => intro l7 k3 k4 hm; exfalso; omega
  | succ m ih =>
    intro l7 k3 k4 hm
    rw [f_X9_shared_0_L]
    refine y_ip rfl ?_
    refine y_bi (y_X9_below (by first | with_reducible assumption | omega | ((with_reducible refine y_Vl ?_ ?_) <;> omega)) (by omega) (by omega)) (fun r_1 h_r_1 => ?_)
    obtain ⟨h0_r_1, h1_r_1⟩ := h_r_1
    refine y_if (fun c1 => ?_) (fun c1 => ?_)
    · skip
      have e2 : (0 : Int32).toInt = 0 := rfl
      have c1' := c1
      rw [← Int32.toInt_inj] at c1'
      refine y_gd (y_gdI (by omega) (by omega)) ?_
      try have e3 := @y_cl l7 (by omega)
      try have e4 := k0.at (Int32.toNatClampNeg l7) (by omega)
      refine y_Ok.mono (ih (l7 := (g9_4 (Int32.toNatClampNeg l7))) (by omega) (by omega) (by omega)) (fun r_t4 h_r_t4 => ?_)
      obtain ⟨h0_r_t4, h1_r_t4⟩ := h_r_t4
      refine ⟨?_, ?_⟩ <;> (first | with_reducible assumption | omega | ((with_reducible refine y_Vl ?_ ?_) <;> omega))
    · skip
      have e6 : (0 : Int32).toInt = 0 := rfl
      have c1' := c1
      rw [← Int32.toInt_inj] at c1'
      refine y_some ?_
      try dsimp only
      refine ⟨?_, ?_⟩ <;> (first | with_reducible assumption | omega | ((with_reducible refine y_Vl ?_ ?_) <;> omega))
theorem y_X9_shared_0_L_0 {g9_4 : Nat → Int32} {g9_5 : Nat → Int32} {l6 : Int32} {l7 : Int32} (k0 : y_Up g9_4) (k1 : 0 ≤ l6.toInt) (k2 : l6.toInt < 200) (k3 : 0 ≤ l7.toInt) (k4 : l7.toInt < 200) : y_Ok (f_X9_shared_0_L g9_4 g9_5 l6 (0, l7)) (fun r => (0 ≤ r.toInt) ∧ (r.toInt ≤ l7.toInt)) := y_X9_shared_0_L_0_i k0 k1 k2 (l7.toInt + 1).toNat k3 k4 (by omega)
set_option maxHeartbeats 4000000 in
theorem y_X9_shared_0 {g9_4 : Nat → Int32} {g9_5 : Nat → Int32} {p1 : Int32} {p2 : Int32} (k0 : y_Up g9_4) (k1 : 0 ≤ p1.toInt) (k2 : p1.toInt < 200) (k3 : 0 ≤ p2.toInt) (k4 : p2.toInt < 200) : y_Ok (f_X9_shared_0 g9_4 g9_5 p1 p2) (fun r => (0 ≤ r.toInt) ∧ (r.toInt ≤ p1.toInt)) := by
  unfold f_X9_shared_0
  refine y_if (fun c1 => ?_) (fun c1 => ?_)
  · skip
    have c1' := c1
    rw [← Int32.toInt_inj] at c1'
    refine y_some ?_
    try dsimp only
    refine ⟨?_, ?_⟩ <;> (first | with_reducible assumption | omega | ((with_reducible refine y_Vl ?_ ?_) <;> omega))
  · skip
    have c1' := c1
    rw [← Int32.toInt_inj] at c1'
    refine y_if (fun c2 => ?_) (fun c2 => ?_)
    · skip
      have e3 := y_sar16 p1
      have e4 : (0 : Int32).toInt = 0 := rfl
      have c2' := c2
      rw [← Int32.toInt_inj] at c2'
      refine y_if (fun c5 => ?_) (fun c5 => ?_)
      · skip
        have e6 := y_sar16 p2
        have c5' := c5
        rw [← Int32.toInt_inj] at c5'
        have e7 := y_and16 p1
        refine y_gd (y_gdI (by omega) (by omega)) ?_
        refine y_if (fun c8 => ?_) (fun c8 => ?_)
        · skip
          try have e9 := @y_cl (p1 &&& (65535 : Int32)) (by omega)
          have c8' := c8
          rw [← Int32.toInt_inj] at c8'
          have e10 := y_and16 p2
          refine y_gd (y_gdI (by omega) (by omega)) ?_
          refine y_if (fun c11 => ?_) (fun c11 => ?_)
          · skip
            try have e12 := @y_cl (p2 &&& (65535 : Int32)) (by omega)
            have c11' := c11
            rw [← Int32.toInt_inj] at c11'
            refine y_Ok.mono (y_X9_shared_0_L_0 (l7 := (p1 &&& 65535)) (by first | with_reducible assumption | omega | ((with_reducible refine y_Vl ?_ ?_) <;> omega)) (by omega) (by omega) (by omega) (by omega)) (fun r_t12 h_r_t12 => ?_)
            obtain ⟨h0_r_t12, h1_r_t12⟩ := h_r_t12
            refine ⟨?_, ?_⟩ <;> (first | with_reducible assumption | omega | ((with_reducible refine y_Vl ?_ ?_) <;> omega))
          · skip
            try have e14 := @y_cl (p2 &&& (65535 : Int32)) (by omega)
            have c11' := c11
            rw [← Int32.toInt_inj] at c11'
            refine y_some ?_
            try dsimp only
            refine ⟨?_, ?_⟩ <;> (first | with_reducible assumption | omega | ((with_reducible refine y_Vl ?_ ?_) <;> omega))
        · skip
          try have e15 := @y_cl (p1 &&& (65535 : Int32)) (by omega)
          have c8' := c8
          rw [← Int32.toInt_inj] at c8'
          refine y_some ?_
          try dsimp only
          refine ⟨?_, ?_⟩ <;> (first | with_reducible assumption | omega | ((with_reducible refine y_Vl ?_ ?_) <;> omega))
      · skip
        have e16 := y_sar16 p2
        have c5' := c5
        rw [← Int32.toInt_inj] at c5'
        refine y_if (fun c17 => ?_) (fun c17 => ?_)
        · skip
          have c17' := c17
          rw [← Int32.toInt_inj] at c17'
          refine y_some ?_
          try dsimp only
          refine ⟨?_, ?_⟩ <;> (first | with_reducible assumption | omega | ((with_reducible refine y_Vl ?_ ?_) <;> omega))
        · skip
          have c17' := c17
          rw [← Int32.toInt_inj] at c17'
          refine y_if (fun c18 => ?_) (fun c18 => ?_)
          · skip
            have c18' := c18
            rw [← Int32.toInt_inj] at c18'
            refine y_some ?_
            try dsimp only
            refine ⟨?_, ?_⟩ <;> (first | with_reducible assumption | omega | ((with_reducible refine y_Vl ?_ ?_) <;> omega))
          · skip
            have c18' := c18
            rw [← Int32.toInt_inj] at c18'
            refine y_if (fun c19 => ?_) (fun c19 => ?_)
            · skip
              have c19' := c19
              rw [← Int32.toInt_inj] at c19'
              refine y_if (fun c20 => ?_) (fun c20 => ?_)
              · skip
                have e21 : (65528 : Int32).toInt = 65528 := rfl
                have e22 := y_and16 p1
                have c20' := c20
                rw [Int32.le_iff_toInt_le] at c20'
                refine y_if (fun c23 => ?_) (fun c23 => ?_)
                · skip
                  have c23' := c23
                  rw [Int32.lt_iff_toInt_lt] at c23'
                  refine y_if (fun c24 => ?_) (fun c24 => ?_)
                  · skip
                    have e25 := y_and16 p2
                    have c24' := c24
                    rw [Int32.lt_iff_toInt_lt] at c24'
                    have e26 : (65536 : Int32).toInt = 65536 := rfl
                    try have e27 := @y_min (p2 >>> (16 &&& 31)) (p1 >>> (16 &&& 31))
                    try have e28 := @y_mulL (65536 : Int32) (if ((p2 >>> (16 &&& 31)) < (p1 >>> (16 &&& 31))) then (p2 >>> (16 &&& 31)) else (p1 >>> (16 &&& 31))) 65536 rfl (by omega) (by omega)
                    refine y_some ?_
                    try dsimp only
                    refine ⟨?_, ?_⟩ <;> (first | with_reducible assumption | omega | ((with_reducible refine y_Vl ?_ ?_) <;> omega))
                  · skip
                    have e29 := y_and16 p2
                    have c24' := c24
                    rw [Int32.lt_iff_toInt_lt] at c24'
                    have e30 : (65536 : Int32).toInt = 65536 := rfl
                    try have e31 := @y_subL (p2 >>> (16 &&& 31)) (1 : Int32) (1) rfl (by omega) (by omega)
                    try have e32 := @y_min ((p2 >>> (16 &&& 31)) - (1 : Int32)) (p1 >>> (16 &&& 31))
                    try have e33 := @y_mulL (65536 : Int32) (if (((p2 >>> (16 &&& 31)) - (1 : Int32)) < (p1 >>> (16 &&& 31))) then ((p2 >>> (16 &&& 31)) - (1 : Int32)) else (p1 >>> (16 &&& 31))) 65536 rfl (by omega) (by omega)
                    refine y_some ?_
                    try dsimp only
                    refine ⟨?_, ?_⟩ <;> (first | with_reducible assumption | omega | ((with_reducible refine y_Vl ?_ ?_) <;> omega))
                · skip
                  have c23' := c23
                  rw [Int32.lt_iff_toInt_lt] at c23'
                  refine y_if (fun c34 => ?_) (fun c34 => ?_)
                  · skip
                    have e35 := y_and16 p2
                    have c34' := c34
                    rw [Int32.lt_iff_toInt_lt] at c34'
                    have e36 : (65536 : Int32).toInt = 65536 := rfl
                    try have e37 := @y_subL (p1 >>> (16 &&& 31)) (1 : Int32) (1) rfl (by omega) (by omega)
                    try have e38 := @y_min (p2 >>> (16 &&& 31)) ((p1 >>> (16 &&& 31)) - (1 : Int32))
                    try have e39 := @y_mulL (65536 : Int32) (if ((p2 >>> (16 &&& 31)) < ((p1 >>> (16 &&& 31)) - (1 : Int32))) then (p2 >>> (16 &&& 31)) else ((p1 >>> (16 &&& 31)) - (1 : Int32))) 65536 rfl (by omega) (by omega)
                    refine y_some ?_
                    try dsimp only
                    refine ⟨?_, ?_⟩ <;> (first | with_reducible assumption | omega | ((with_reducible refine y_Vl ?_ ?_) <;> omega))
                  · skip
                    have e40 := y_and16 p2
                    have c34' := c34
                    rw [Int32.lt_iff_toInt_lt] at c34'
                    have e41 : (65536 : Int32).toInt = 65536 := rfl
                    try have e42 := @y_subL (p2 >>> (16 &&& 31)) (1 : Int32) (1) rfl (by omega) (by omega)
                    try have e43 := @y_subL (p1 >>> (16 &&& 31)) (1 : Int32) (1) rfl (by omega) (by omega)
                    try have e44 := @y_min ((p2 >>> (16 &&& 31)) - (1 : Int32)) ((p1 >>> (16 &&& 31)) - (1 : Int32))
                    try have e45 := @y_mulL (65536 : Int32) (if (((p2 >>> (16 &&& 31)) - (1 : Int32)) < ((p1 >>> (16 &&& 31)) - (1 : Int32))) then ((p2 >>> (16 &&& 31)) - (1 : Int32)) else ((p1 >>> (16 &&& 31)) - (1 : Int32))) 65536 rfl (by omega) (by omega)
                    refine y_some ?_
                    try dsimp only
                    refine ⟨?_, ?_⟩ <;> (first | with_reducible assumption | omega | ((with_reducible refine y_Vl ?_ ?_) <;> omega))
              · skip
                have e46 : (65528 : Int32).toInt = 65528 := rfl
                have e47 := y_and16 p1
                have c20' := c20
                rw [Int32.le_iff_toInt_le] at c20'
                refine y_if (fun c48 => ?_) (fun c48 => ?_)
                · skip
                  have e49 := y_and16 p2
                  have c48' := c48
                  rw [Int32.le_iff_toInt_le] at c48'
                  refine y_if (fun c50 => ?_) (fun c50 => ?_)
                  · skip
                    have c50' := c50
                    rw [Int32.lt_iff_toInt_lt] at c50'
                    refine y_if (fun c51 => ?_) (fun c51 => ?_)
                    · skip
                      have c51' := c51
                      rw [Int32.lt_iff_toInt_lt] at c51'
                      have e52 : (65536 : Int32).toInt = 65536 := rfl
                      try have e53 := @y_min (p2 >>> (16 &&& 31)) (p1 >>> (16 &&& 31))
                      try have e54 := @y_mulL (65536 : Int32) (if ((p2 >>> (16 &&& 31)) < (p1 >>> (16 &&& 31))) then (p2 >>> (16 &&& 31)) else (p1 >>> (16 &&& 31))) 65536 rfl (by omega) (by omega)
                      refine y_some ?_
                      try dsimp only
                      refine ⟨?_, ?_⟩ <;> (first | with_reducible assumption | omega | ((with_reducible refine y_Vl ?_ ?_) <;> omega))
                    · skip
                      have c51' := c51
                      rw [Int32.lt_iff_toInt_lt] at c51'
                      have e55 : (65536 : Int32).toInt = 65536 := rfl
                      try have e56 := @y_subL (p2 >>> (16 &&& 31)) (1 : Int32) (1) rfl (by omega) (by omega)
                      try have e57 := @y_min ((p2 >>> (16 &&& 31)) - (1 : Int32)) (p1 >>> (16 &&& 31))
                      try have e58 := @y_mulL (65536 : Int32) (if (((p2 >>> (16 &&& 31)) - (1 : Int32)) < (p1 >>> (16 &&& 31))) then ((p2 >>> (16 &&& 31)) - (1 : Int32)) else (p1 >>> (16 &&& 31))) 65536 rfl (by omega) (by omega)
                      refine y_some ?_
                      try dsimp only
                      refine ⟨?_, ?_⟩ <;> (first | with_reducible assumption | omega | ((with_reducible refine y_Vl ?_ ?_) <;> omega))
                  · skip
                    have c50' := c50
                    rw [Int32.lt_iff_toInt_lt] at c50'
                    refine y_if (fun c59 => ?_) (fun c59 => ?_)
                    · skip
                      have c59' := c59
                      rw [Int32.lt_iff_toInt_lt] at c59'
                      have e60 : (65536 : Int32).toInt = 65536 := rfl
                      try have e61 := @y_subL (p1 >>> (16 &&& 31)) (1 : Int32) (1) rfl (by omega) (by omega)
                      try have e62 := @y_min (p2 >>> (16 &&& 31)) ((p1 >>> (16 &&& 31)) - (1 : Int32))
                      try have e63 := @y_mulL (65536 : Int32) (if ((p2 >>> (16 &&& 31)) < ((p1 >>> (16 &&& 31)) - (1 : Int32))) then (p2 >>> (16 &&& 31)) else ((p1 >>> (16 &&& 31)) - (1 : Int32))) 65536 rfl (by omega) (by omega)
                      refine y_some ?_
                      try dsimp only
                      refine ⟨?_, ?_⟩ <;> (first | with_reducible assumption | omega | ((with_reducible refine y_Vl ?_ ?_) <;> omega))
                    · skip
                      have c59' := c59
                      rw [Int32.lt_iff_toInt_lt] at c59'
                      have e64 : (65536 : Int32).toInt = 65536 := rfl
                      try have e65 := @y_subL (p2 >>> (16 &&& 31)) (1 : Int32) (1) rfl (by omega) (by omega)
                      try have e66 := @y_subL (p1 >>> (16 &&& 31)) (1 : Int32) (1) rfl (by omega) (by omega)
                      try have e67 := @y_min ((p2 >>> (16 &&& 31)) - (1 : Int32)) ((p1 >>> (16 &&& 31)) - (1 : Int32))
                      try have e68 := @y_mulL (65536 : Int32) (if (((p2 >>> (16 &&& 31)) - (1 : Int32)) < ((p1 >>> (16 &&& 31)) - (1 : Int32))) then ((p2 >>> (16 &&& 31)) - (1 : Int32)) else ((p1 >>> (16 &&& 31)) - (1 : Int32))) 65536 rfl (by omega) (by omega)
                      refine y_some ?_
                      try dsimp only
                      refine ⟨?_, ?_⟩ <;> (first | with_reducible assumption | omega | ((with_reducible refine y_Vl ?_ ?_) <;> omega))
                · skip
                  have e69 := y_and16 p2
                  have c48' := c48
                  rw [Int32.le_iff_toInt_le] at c48'
                  exfalso; omega
            · skip
              have c19' := c19
              rw [← Int32.toInt_inj] at c19'
              refine y_if (fun c70 => ?_) (fun c70 => ?_)
              · skip
                have e71 := y_and16 p1
                have e72 : (65528 : Int32).toInt = 65528 := rfl
                have c70' := c70
                rw [Int32.lt_iff_toInt_lt] at c70'
                refine y_if (fun c73 => ?_) (fun c73 => ?_)
                · skip
                  have e74 := y_and16 p2
                  have c73' := c73
                  rw [Int32.lt_iff_toInt_lt] at c73'
                  have e75 : (65536 : Int32).toInt = 65536 := rfl
                  try have e76 := @y_min (p2 >>> (16 &&& 31)) (p1 >>> (16 &&& 31))
                  try have e77 := @y_mulL (65536 : Int32) (if ((p2 >>> (16 &&& 31)) < (p1 >>> (16 &&& 31))) then (p2 >>> (16 &&& 31)) else (p1 >>> (16 &&& 31))) 65536 rfl (by omega) (by omega)
                  refine y_some ?_
                  try dsimp only
                  refine ⟨?_, ?_⟩ <;> (first | with_reducible assumption | omega | ((with_reducible refine y_Vl ?_ ?_) <;> omega))
                · skip
                  have e78 := y_and16 p2
                  have c73' := c73
                  rw [Int32.lt_iff_toInt_lt] at c73'
                  have e79 : (65536 : Int32).toInt = 65536 := rfl
                  try have e80 := @y_subL (p2 >>> (16 &&& 31)) (1 : Int32) (1) rfl (by omega) (by omega)
                  try have e81 := @y_min ((p2 >>> (16 &&& 31)) - (1 : Int32)) (p1 >>> (16 &&& 31))
                  try have e82 := @y_mulL (65536 : Int32) (if (((p2 >>> (16 &&& 31)) - (1 : Int32)) < (p1 >>> (16 &&& 31))) then ((p2 >>> (16 &&& 31)) - (1 : Int32)) else (p1 >>> (16 &&& 31))) 65536 rfl (by omega) (by omega)
                  refine y_some ?_
                  try dsimp only
                  refine ⟨?_, ?_⟩ <;> (first | with_reducible assumption | omega | ((with_reducible refine y_Vl ?_ ?_) <;> omega))
              · skip
                have e83 := y_and16 p1
                have e84 : (65528 : Int32).toInt = 65528 := rfl
                have c70' := c70
                rw [Int32.lt_iff_toInt_lt] at c70'
                refine y_if (fun c85 => ?_) (fun c85 => ?_)
                · skip
                  have e86 := y_and16 p2
                  have c85' := c85
                  rw [Int32.lt_iff_toInt_lt] at c85'
                  have e87 : (65536 : Int32).toInt = 65536 := rfl
                  try have e88 := @y_subL (p1 >>> (16 &&& 31)) (1 : Int32) (1) rfl (by omega) (by omega)
                  try have e89 := @y_min (p2 >>> (16 &&& 31)) ((p1 >>> (16 &&& 31)) - (1 : Int32))
                  try have e90 := @y_mulL (65536 : Int32) (if ((p2 >>> (16 &&& 31)) < ((p1 >>> (16 &&& 31)) - (1 : Int32))) then (p2 >>> (16 &&& 31)) else ((p1 >>> (16 &&& 31)) - (1 : Int32))) 65536 rfl (by omega) (by omega)
                  refine y_some ?_
                  try dsimp only
                  refine ⟨?_, ?_⟩ <;> (first | with_reducible assumption | omega | ((with_reducible refine y_Vl ?_ ?_) <;> omega))
                · skip
                  have e91 := y_and16 p2
                  have c85' := c85
                  rw [Int32.lt_iff_toInt_lt] at c85'
                  have e92 : (65536 : Int32).toInt = 65536 := rfl
                  try have e93 := @y_subL (p2 >>> (16 &&& 31)) (1 : Int32) (1) rfl (by omega) (by omega)
                  try have e94 := @y_subL (p1 >>> (16 &&& 31)) (1 : Int32) (1) rfl (by omega) (by omega)
                  try have e95 := @y_min ((p2 >>> (16 &&& 31)) - (1 : Int32)) ((p1 >>> (16 &&& 31)) - (1 : Int32))
                  try have e96 := @y_mulL (65536 : Int32) (if (((p2 >>> (16 &&& 31)) - (1 : Int32)) < ((p1 >>> (16 &&& 31)) - (1 : Int32))) then ((p2 >>> (16 &&& 31)) - (1 : Int32)) else ((p1 >>> (16 &&& 31)) - (1 : Int32))) 65536 rfl (by omega) (by omega)
                  refine y_some ?_
                  try dsimp only
                  refine ⟨?_, ?_⟩ <;> (first | with_reducible assumption | omega | ((with_reducible refine y_Vl ?_ ?_) <;> omega))
    · skip
      have e97 := y_sar16 p1
      have e98 : (0 : Int32).toInt = 0 := rfl
      have c2' := c2
      rw [← Int32.toInt_inj] at c2'
      refine y_if (fun c99 => ?_) (fun c99 => ?_)
      · skip
        have c99' := c99
        rw [← Int32.toInt_inj] at c99'
        refine y_some ?_
        try dsimp only
        refine ⟨?_, ?_⟩ <;> (first | with_reducible assumption | omega | ((with_reducible refine y_Vl ?_ ?_) <;> omega))
      · skip
        have c99' := c99
        rw [← Int32.toInt_inj] at c99'
        refine y_if (fun c100 => ?_) (fun c100 => ?_)
        · skip
          have e101 := y_sar16 p2
          have c100' := c100
          rw [← Int32.toInt_inj] at c100'
          refine y_some ?_
          try dsimp only
          refine ⟨?_, ?_⟩ <;> (first | with_reducible assumption | omega | ((with_reducible refine y_Vl ?_ ?_) <;> omega))
        · skip
          have e102 := y_sar16 p2
          have c100' := c100
          rw [← Int32.toInt_inj] at c100'
          refine y_if (fun c103 => ?_) (fun c103 => ?_)
          · skip
            have c103' := c103
            rw [← Int32.toInt_inj] at c103'
            refine y_if (fun c104 => ?_) (fun c104 => ?_)
            · skip
              have e105 : (65528 : Int32).toInt = 65528 := rfl
              have e106 := y_and16 p1
              have c104' := c104
              rw [Int32.le_iff_toInt_le] at c104'
              refine y_if (fun c107 => ?_) (fun c107 => ?_)
              · skip
                have c107' := c107
                rw [Int32.lt_iff_toInt_lt] at c107'
                refine y_if (fun c108 => ?_) (fun c108 => ?_)
                · skip
                  have e109 := y_and16 p2
                  have c108' := c108
                  rw [Int32.lt_iff_toInt_lt] at c108'
                  have e110 : (65536 : Int32).toInt = 65536 := rfl
                  try have e111 := @y_min (p2 >>> (16 &&& 31)) (p1 >>> (16 &&& 31))
                  try have e112 := @y_mulL (65536 : Int32) (if ((p2 >>> (16 &&& 31)) < (p1 >>> (16 &&& 31))) then (p2 >>> (16 &&& 31)) else (p1 >>> (16 &&& 31))) 65536 rfl (by omega) (by omega)
                  refine y_some ?_
                  try dsimp only
                  refine ⟨?_, ?_⟩ <;> (first | with_reducible assumption | omega | ((with_reducible refine y_Vl ?_ ?_) <;> omega))
                · skip
                  have e113 := y_and16 p2
                  have c108' := c108
                  rw [Int32.lt_iff_toInt_lt] at c108'
                  have e114 : (65536 : Int32).toInt = 65536 := rfl
                  try have e115 := @y_subL (p2 >>> (16 &&& 31)) (1 : Int32) (1) rfl (by omega) (by omega)
                  try have e116 := @y_min ((p2 >>> (16 &&& 31)) - (1 : Int32)) (p1 >>> (16 &&& 31))
                  try have e117 := @y_mulL (65536 : Int32) (if (((p2 >>> (16 &&& 31)) - (1 : Int32)) < (p1 >>> (16 &&& 31))) then ((p2 >>> (16 &&& 31)) - (1 : Int32)) else (p1 >>> (16 &&& 31))) 65536 rfl (by omega) (by omega)
                  refine y_some ?_
                  try dsimp only
                  refine ⟨?_, ?_⟩ <;> (first | with_reducible assumption | omega | ((with_reducible refine y_Vl ?_ ?_) <;> omega))
              · skip
                have c107' := c107
                rw [Int32.lt_iff_toInt_lt] at c107'
                refine y_if (fun c118 => ?_) (fun c118 => ?_)
                · skip
                  have e119 := y_and16 p2
                  have c118' := c118
                  rw [Int32.lt_iff_toInt_lt] at c118'
                  have e120 : (65536 : Int32).toInt = 65536 := rfl
                  try have e121 := @y_subL (p1 >>> (16 &&& 31)) (1 : Int32) (1) rfl (by omega) (by omega)
                  try have e122 := @y_min (p2 >>> (16 &&& 31)) ((p1 >>> (16 &&& 31)) - (1 : Int32))
                  try have e123 := @y_mulL (65536 : Int32) (if ((p2 >>> (16 &&& 31)) < ((p1 >>> (16 &&& 31)) - (1 : Int32))) then (p2 >>> (16 &&& 31)) else ((p1 >>> (16 &&& 31)) - (1 : Int32))) 65536 rfl (by omega) (by omega)
                  refine y_some ?_
                  try dsimp only
                  refine ⟨?_, ?_⟩ <;> (first | with_reducible assumption | omega | ((with_reducible refine y_Vl ?_ ?_) <;> omega))
                · skip
                  have e124 := y_and16 p2
                  have c118' := c118
                  rw [Int32.lt_iff_toInt_lt] at c118'
                  have e125 : (65536 : Int32).toInt = 65536 := rfl
                  try have e126 := @y_subL (p2 >>> (16 &&& 31)) (1 : Int32) (1) rfl (by omega) (by omega)
                  try have e127 := @y_subL (p1 >>> (16 &&& 31)) (1 : Int32) (1) rfl (by omega) (by omega)
                  try have e128 := @y_min ((p2 >>> (16 &&& 31)) - (1 : Int32)) ((p1 >>> (16 &&& 31)) - (1 : Int32))
                  try have e129 := @y_mulL (65536 : Int32) (if (((p2 >>> (16 &&& 31)) - (1 : Int32)) < ((p1 >>> (16 &&& 31)) - (1 : Int32))) then ((p2 >>> (16 &&& 31)) - (1 : Int32)) else ((p1 >>> (16 &&& 31)) - (1 : Int32))) 65536 rfl (by omega) (by omega)
                  refine y_some ?_
                  try dsimp only
                  refine ⟨?_, ?_⟩ <;> (first | with_reducible assumption | omega | ((with_reducible refine y_Vl ?_ ?_) <;> omega))
            · skip
              have e130 : (65528 : Int32).toInt = 65528 := rfl
              have e131 := y_and16 p1
              have c104' := c104
              rw [Int32.le_iff_toInt_le] at c104'
              refine y_if (fun c132 => ?_) (fun c132 => ?_)
              · skip
                have e133 := y_and16 p2
                have c132' := c132
                rw [Int32.le_iff_toInt_le] at c132'
                refine y_if (fun c134 => ?_) (fun c134 => ?_)
                · skip
                  have c134' := c134
                  rw [Int32.lt_iff_toInt_lt] at c134'
                  refine y_if (fun c135 => ?_) (fun c135 => ?_)
                  · skip
                    have c135' := c135
                    rw [Int32.lt_iff_toInt_lt] at c135'
                    have e136 : (65536 : Int32).toInt = 65536 := rfl
                    try have e137 := @y_min (p2 >>> (16 &&& 31)) (p1 >>> (16 &&& 31))
                    try have e138 := @y_mulL (65536 : Int32) (if ((p2 >>> (16 &&& 31)) < (p1 >>> (16 &&& 31))) then (p2 >>> (16 &&& 31)) else (p1 >>> (16 &&& 31))) 65536 rfl (by omega) (by omega)
                    refine y_some ?_
                    try dsimp only
                    refine ⟨?_, ?_⟩ <;> (first | with_reducible assumption | omega | ((with_reducible refine y_Vl ?_ ?_) <;> omega))
                  · skip
                    have c135' := c135
                    rw [Int32.lt_iff_toInt_lt] at c135'
                    have e139 : (65536 : Int32).toInt = 65536 := rfl
                    try have e140 := @y_subL (p2 >>> (16 &&& 31)) (1 : Int32) (1) rfl (by omega) (by omega)
                    try have e141 := @y_min ((p2 >>> (16 &&& 31)) - (1 : Int32)) (p1 >>> (16 &&& 31))
                    try have e142 := @y_mulL (65536 : Int32) (if (((p2 >>> (16 &&& 31)) - (1 : Int32)) < (p1 >>> (16 &&& 31))) then ((p2 >>> (16 &&& 31)) - (1 : Int32)) else (p1 >>> (16 &&& 31))) 65536 rfl (by omega) (by omega)
                    refine y_some ?_
                    try dsimp only
                    refine ⟨?_, ?_⟩ <;> (first | with_reducible assumption | omega | ((with_reducible refine y_Vl ?_ ?_) <;> omega))
                · skip
                  have c134' := c134
                  rw [Int32.lt_iff_toInt_lt] at c134'
                  refine y_if (fun c143 => ?_) (fun c143 => ?_)
                  · skip
                    have c143' := c143
                    rw [Int32.lt_iff_toInt_lt] at c143'
                    have e144 : (65536 : Int32).toInt = 65536 := rfl
                    try have e145 := @y_subL (p1 >>> (16 &&& 31)) (1 : Int32) (1) rfl (by omega) (by omega)
                    try have e146 := @y_min (p2 >>> (16 &&& 31)) ((p1 >>> (16 &&& 31)) - (1 : Int32))
                    try have e147 := @y_mulL (65536 : Int32) (if ((p2 >>> (16 &&& 31)) < ((p1 >>> (16 &&& 31)) - (1 : Int32))) then (p2 >>> (16 &&& 31)) else ((p1 >>> (16 &&& 31)) - (1 : Int32))) 65536 rfl (by omega) (by omega)
                    refine y_some ?_
                    try dsimp only
                    refine ⟨?_, ?_⟩ <;> (first | with_reducible assumption | omega | ((with_reducible refine y_Vl ?_ ?_) <;> omega))
                  · skip
                    have c143' := c143
                    rw [Int32.lt_iff_toInt_lt] at c143'
                    have e148 : (65536 : Int32).toInt = 65536 := rfl
                    try have e149 := @y_subL (p2 >>> (16 &&& 31)) (1 : Int32) (1) rfl (by omega) (by omega)
                    try have e150 := @y_subL (p1 >>> (16 &&& 31)) (1 : Int32) (1) rfl (by omega) (by omega)
                    try have e151 := @y_min ((p2 >>> (16 &&& 31)) - (1 : Int32)) ((p1 >>> (16 &&& 31)) - (1 : Int32))
                    try have e152 := @y_mulL (65536 : Int32) (if (((p2 >>> (16 &&& 31)) - (1 : Int32)) < ((p1 >>> (16 &&& 31)) - (1 : Int32))) then ((p2 >>> (16 &&& 31)) - (1 : Int32)) else ((p1 >>> (16 &&& 31)) - (1 : Int32))) 65536 rfl (by omega) (by omega)
                    refine y_some ?_
                    try dsimp only
                    refine ⟨?_, ?_⟩ <;> (first | with_reducible assumption | omega | ((with_reducible refine y_Vl ?_ ?_) <;> omega))
              · skip
                have e153 := y_and16 p2
                have c132' := c132
                rw [Int32.le_iff_toInt_le] at c132'
                exfalso; omega
          · skip
            have c103' := c103
            rw [← Int32.toInt_inj] at c103'
            refine y_if (fun c154 => ?_) (fun c154 => ?_)
            · skip
              have e155 := y_and16 p1
              have e156 : (65528 : Int32).toInt = 65528 := rfl
              have c154' := c154
              rw [Int32.lt_iff_toInt_lt] at c154'
              refine y_if (fun c157 => ?_) (fun c157 => ?_)
              · skip
                have e158 := y_and16 p2
                have c157' := c157
                rw [Int32.lt_iff_toInt_lt] at c157'
                have e159 : (65536 : Int32).toInt = 65536 := rfl
                try have e160 := @y_min (p2 >>> (16 &&& 31)) (p1 >>> (16 &&& 31))
                try have e161 := @y_mulL (65536 : Int32) (if ((p2 >>> (16 &&& 31)) < (p1 >>> (16 &&& 31))) then (p2 >>> (16 &&& 31)) else (p1 >>> (16 &&& 31))) 65536 rfl (by omega) (by omega)
                refine y_some ?_
                try dsimp only
                refine ⟨?_, ?_⟩ <;> (first | with_reducible assumption | omega | ((with_reducible refine y_Vl ?_ ?_) <;> omega))
              · skip
                have e162 := y_and16 p2
                have c157' := c157
                rw [Int32.lt_iff_toInt_lt] at c157'
                have e163 : (65536 : Int32).toInt = 65536 := rfl
                try have e164 := @y_subL (p2 >>> (16 &&& 31)) (1 : Int32) (1) rfl (by omega) (by omega)
                try have e165 := @y_min ((p2 >>> (16 &&& 31)) - (1 : Int32)) (p1 >>> (16 &&& 31))
                try have e166 := @y_mulL (65536 : Int32) (if (((p2 >>> (16 &&& 31)) - (1 : Int32)) < (p1 >>> (16 &&& 31))) then ((p2 >>> (16 &&& 31)) - (1 : Int32)) else (p1 >>> (16 &&& 31))) 65536 rfl (by omega) (by omega)
                refine y_some ?_
                try dsimp only
                refine ⟨?_, ?_⟩ <;> (first | with_reducible assumption | omega | ((with_reducible refine y_Vl ?_ ?_) <;> omega))
            · skip
              have e167 := y_and16 p1
              have e168 : (65528 : Int32).toInt = 65528 := rfl
              have c154' := c154
              rw [Int32.lt_iff_toInt_lt] at c154'
              refine y_if (fun c169 => ?_) (fun c169 => ?_)
              · skip
                have e170 := y_and16 p2
                have c169' := c169
                rw [Int32.lt_iff_toInt_lt] at c169'
                have e171 : (65536 : Int32).toInt = 65536 := rfl
                try have e172 := @y_subL (p1 >>> (16 &&& 31)) (1 : Int32) (1) rfl (by omega) (by omega)
                try have e173 := @y_min (p2 >>> (16 &&& 31)) ((p1 >>> (16 &&& 31)) - (1 : Int32))
                try have e174 := @y_mulL (65536 : Int32) (if ((p2 >>> (16 &&& 31)) < ((p1 >>> (16 &&& 31)) - (1 : Int32))) then (p2 >>> (16 &&& 31)) else ((p1 >>> (16 &&& 31)) - (1 : Int32))) 65536 rfl (by omega) (by omega)
                refine y_some ?_
                try dsimp only
                refine ⟨?_, ?_⟩ <;> (first | with_reducible assumption | omega | ((with_reducible refine y_Vl ?_ ?_) <;> omega))
              · skip
                have e175 := y_and16 p2
                have c169' := c169
                rw [Int32.lt_iff_toInt_lt] at c169'
                have e176 : (65536 : Int32).toInt = 65536 := rfl
                try have e177 := @y_subL (p2 >>> (16 &&& 31)) (1 : Int32) (1) rfl (by omega) (by omega)
                try have e178 := @y_subL (p1 >>> (16 &&& 31)) (1 : Int32) (1) rfl (by omega) (by omega)
                try have e179 := @y_min ((p2 >>> (16 &&& 31)) - (1 : Int32)) ((p1 >>> (16 &&& 31)) - (1 : Int32))
                try have e180 := @y_mulL (65536 : Int32) (if (((p2 >>> (16 &&& 31)) - (1 : Int32)) < ((p1 >>> (16 &&& 31)) - (1 : Int32))) then ((p2 >>> (16 &&& 31)) - (1 : Int32)) else ((p1 >>> (16 &&& 31)) - (1 : Int32))) 65536 rfl (by omega) (by omega)
                refine y_some ?_
                try dsimp only
                refine ⟨?_, ?_⟩ <;> (first | with_reducible assumption | omega | ((with_reducible refine y_Vl ?_ ?_) <;> omega))
set_option maxHeartbeats 4000000 in
theorem y_X9_shared_L_0_i {g9_4 : Nat → Int32} {g9_5 : Nat → Int32} {l6 : Int32} (k0 : y_Up g9_4) (k1 : 0 ≤ l6.toInt) (k2 : l6.toInt < 200) : ∀ (m : Nat) {l7 : Int32}, (0 ≤ l7.toInt) → (l7.toInt < 200) → l7.toInt < m → y_Ok (f_X9_shared_L g9_4 g9_5 l6 (0, l7)) (fun r => (0 ≤ r.toInt) ∧ (r.toInt ≤ l7.toInt)) := by
  intro m
  induction m with
  | zero => intro l7 k3 k4 hm; exfalso; omega
  | succ m ih =>
    intro l7 k3 k4 hm
    rw [f_X9_shared_L]
    refine y_ip rfl ?_
    refine y_bi (y_X9_below (by first | with_reducible assumption | omega | ((with_reducible refine y_Vl ?_ ?_) <;> omega)) (by omega) (by omega)) (fun r_1 h_r_1 => ?_)
    obtain ⟨h0_r_1, h1_r_1⟩ := h_r_1
    refine y_if (fun c1 => ?_) (fun c1 => ?_)
    · skip
      have e2 : (0 : Int32).toInt = 0 := rfl
      have c1' := c1
      rw [← Int32.toInt_inj] at c1'
      refine y_gd (y_gdI (by omega) (by omega)) ?_
      try have e3 := @y_cl l7 (by omega)
      try have e4 := k0.at (Int32.toNatClampNeg l7) (by omega)
      refine y_Ok.mono (ih (l7 := (g9_4 (Int32.toNatClampNeg l7))) (by omega) (by omega) (by omega)) (fun r_t4 h_r_t4 => ?_)
      obtain ⟨h0_r_t4, h1_r_t4⟩ := h_r_t4
      refine ⟨?_, ?_⟩ <;> (first | with_reducible assumption | omega | ((with_reducible refine y_Vl ?_ ?_) <;> omega))
    · skip
      have e6 : (0 : Int32).toInt = 0 := rfl
      have c1' := c1
      rw [← Int32.toInt_inj] at c1'
      refine y_some ?_
      try dsimp only
      refine ⟨?_, ?_⟩ <;> (first | with_reducible assumption | omega | ((with_reducible refine y_Vl ?_ ?_) <;> omega))
theorem y_X9_shared_L_0 {g9_4 : Nat → Int32} {g9_5 : Nat → Int32} {l6 : Int32} {l7 : Int32} (k0 : y_Up g9_4) (k1 : 0 ≤ l6.toInt) (k2 : l6.toInt < 200) (k3 : 0 ≤ l7.toInt) (k4 : l7.toInt < 200) : y_Ok (f_X9_shared_L g9_4 g9_5 l6 (0, l7)) (fun r => (0 ≤ r.toInt) ∧ (r.toInt ≤ l7.toInt)) := y_X9_shared_L_0_i k0 k1 k2 (l7.toInt + 1).toNat k3 k4 (by omega)
set_option maxHeartbeats 4000000 in
theorem y_X9_shared {g9_4 : Nat → Int32} {g9_5 : Nat → Int32} {p1 : Int32} {p2 : Int32} (k0 : y_Up g9_4) (k1 : y_Tr p1) (k2 : y_Tr p2) : y_Ok (f_X9_shared g9_4 g9_5 p1 p2) (fun r => (0 ≤ r.toInt) ∧ (r.toInt ≤ p1.toInt) ∧ (r.toInt % 65536 < 200 ∨ 65528 ≤ r.toInt % 65536) ∧ (¬ (65528 ≤ r.toInt ∧ r.toInt < 65536))) := by
  have u1 := k1
  have u2 := k2
  unfold y_Tr at u1 u2
  unfold f_X9_shared
  refine y_if (fun c1 => ?_) (fun c1 => ?_)
  · skip
    have c1' := c1
    rw [← Int32.toInt_inj] at c1'
    refine y_some ?_
    try dsimp only
    refine ⟨?_, ?_, ?_, ?_⟩ <;> (first | with_reducible assumption | omega | ((with_reducible refine y_Vl ?_ ?_) <;> omega))
  · skip
    have c1' := c1
    rw [← Int32.toInt_inj] at c1'
    refine y_if (fun c2 => ?_) (fun c2 => ?_)
    · skip
      have e3 := y_sar16 p1
      have e4 : (0 : Int32).toInt = 0 := rfl
      have c2' := c2
      rw [← Int32.toInt_inj] at c2'
      refine y_if (fun c5 => ?_) (fun c5 => ?_)
      · skip
        have e6 := y_sar16 p2
        have c5' := c5
        rw [← Int32.toInt_inj] at c5'
        have e7 := y_and16 p1
        refine y_gd (y_gdI (by omega) (by omega)) ?_
        refine y_if (fun c8 => ?_) (fun c8 => ?_)
        · skip
          try have e9 := @y_cl (p1 &&& (65535 : Int32)) (by omega)
          have c8' := c8
          rw [← Int32.toInt_inj] at c8'
          have e10 := y_and16 p2
          refine y_gd (y_gdI (by omega) (by omega)) ?_
          refine y_if (fun c11 => ?_) (fun c11 => ?_)
          · skip
            try have e12 := @y_cl (p2 &&& (65535 : Int32)) (by omega)
            have c11' := c11
            rw [← Int32.toInt_inj] at c11'
            refine y_Ok.mono (y_X9_shared_L_0 (l7 := (p1 &&& 65535)) (by first | with_reducible assumption | omega | ((with_reducible refine y_Vl ?_ ?_) <;> omega)) (by omega) (by omega) (by omega) (by omega)) (fun r_t12 h_r_t12 => ?_)
            obtain ⟨h0_r_t12, h1_r_t12⟩ := h_r_t12
            refine ⟨?_, ?_, ?_, ?_⟩ <;> (first | with_reducible assumption | omega | ((with_reducible refine y_Vl ?_ ?_) <;> omega))
          · skip
            try have e14 := @y_cl (p2 &&& (65535 : Int32)) (by omega)
            have c11' := c11
            rw [← Int32.toInt_inj] at c11'
            refine y_some ?_
            try dsimp only
            refine ⟨?_, ?_, ?_, ?_⟩ <;> (first | with_reducible assumption | omega | ((with_reducible refine y_Vl ?_ ?_) <;> omega))
        · skip
          try have e15 := @y_cl (p1 &&& (65535 : Int32)) (by omega)
          have c8' := c8
          rw [← Int32.toInt_inj] at c8'
          refine y_some ?_
          try dsimp only
          refine ⟨?_, ?_, ?_, ?_⟩ <;> (first | with_reducible assumption | omega | ((with_reducible refine y_Vl ?_ ?_) <;> omega))
      · skip
        have e16 := y_sar16 p2
        have c5' := c5
        rw [← Int32.toInt_inj] at c5'
        refine y_if (fun c17 => ?_) (fun c17 => ?_)
        · skip
          have c17' := c17
          rw [← Int32.toInt_inj] at c17'
          refine y_some ?_
          try dsimp only
          refine ⟨?_, ?_, ?_, ?_⟩ <;> (first | with_reducible assumption | omega | ((with_reducible refine y_Vl ?_ ?_) <;> omega))
        · skip
          have c17' := c17
          rw [← Int32.toInt_inj] at c17'
          refine y_if (fun c18 => ?_) (fun c18 => ?_)
          · skip
            have c18' := c18
            rw [← Int32.toInt_inj] at c18'
            refine y_some ?_
            try dsimp only
            refine ⟨?_, ?_, ?_, ?_⟩ <;> (first | with_reducible assumption | omega | ((with_reducible refine y_Vl ?_ ?_) <;> omega))
          · skip
            have c18' := c18
            rw [← Int32.toInt_inj] at c18'
            refine y_if (fun c19 => ?_) (fun c19 => ?_)
            · skip
              have c19' := c19
              rw [← Int32.toInt_inj] at c19'
              refine y_if (fun c20 => ?_) (fun c20 => ?_)
              · skip
                have e21 : (65528 : Int32).toInt = 65528 := rfl
                have e22 := y_and16 p1
                have c20' := c20
                rw [Int32.le_iff_toInt_le] at c20'
                refine y_if (fun c23 => ?_) (fun c23 => ?_)
                · skip
                  have c23' := c23
                  rw [Int32.lt_iff_toInt_lt] at c23'
                  refine y_if (fun c24 => ?_) (fun c24 => ?_)
                  · skip
                    have e25 := y_and16 p2
                    have c24' := c24
                    rw [Int32.lt_iff_toInt_lt] at c24'
                    have e26 : (65536 : Int32).toInt = 65536 := rfl
                    try have e27 := @y_min (p2 >>> (16 &&& 31)) (p1 >>> (16 &&& 31))
                    try have e28 := @y_mulL (65536 : Int32) (if ((p2 >>> (16 &&& 31)) < (p1 >>> (16 &&& 31))) then (p2 >>> (16 &&& 31)) else (p1 >>> (16 &&& 31))) 65536 rfl (by omega) (by omega)
                    refine y_some ?_
                    try dsimp only
                    refine ⟨?_, ?_, ?_, ?_⟩ <;> (first | with_reducible assumption | omega | ((with_reducible refine y_Vl ?_ ?_) <;> omega))
                  · skip
                    have e29 := y_and16 p2
                    have c24' := c24
                    rw [Int32.lt_iff_toInt_lt] at c24'
                    have e30 : (65536 : Int32).toInt = 65536 := rfl
                    try have e31 := @y_subL (p2 >>> (16 &&& 31)) (1 : Int32) (1) rfl (by omega) (by omega)
                    try have e32 := @y_min ((p2 >>> (16 &&& 31)) - (1 : Int32)) (p1 >>> (16 &&& 31))
                    try have e33 := @y_mulL (65536 : Int32) (if (((p2 >>> (16 &&& 31)) - (1 : Int32)) < (p1 >>> (16 &&& 31))) then ((p2 >>> (16 &&& 31)) - (1 : Int32)) else (p1 >>> (16 &&& 31))) 65536 rfl (by omega) (by omega)
                    refine y_some ?_
                    try dsimp only
                    refine ⟨?_, ?_, ?_, ?_⟩ <;> (first | with_reducible assumption | omega | ((with_reducible refine y_Vl ?_ ?_) <;> omega))
                · skip
                  have c23' := c23
                  rw [Int32.lt_iff_toInt_lt] at c23'
                  refine y_if (fun c34 => ?_) (fun c34 => ?_)
                  · skip
                    have e35 := y_and16 p2
                    have c34' := c34
                    rw [Int32.lt_iff_toInt_lt] at c34'
                    have e36 : (65536 : Int32).toInt = 65536 := rfl
                    try have e37 := @y_subL (p1 >>> (16 &&& 31)) (1 : Int32) (1) rfl (by omega) (by omega)
                    try have e38 := @y_min (p2 >>> (16 &&& 31)) ((p1 >>> (16 &&& 31)) - (1 : Int32))
                    try have e39 := @y_mulL (65536 : Int32) (if ((p2 >>> (16 &&& 31)) < ((p1 >>> (16 &&& 31)) - (1 : Int32))) then (p2 >>> (16 &&& 31)) else ((p1 >>> (16 &&& 31)) - (1 : Int32))) 65536 rfl (by omega) (by omega)
                    refine y_some ?_
                    try dsimp only
                    refine ⟨?_, ?_, ?_, ?_⟩ <;> (first | with_reducible assumption | omega | ((with_reducible refine y_Vl ?_ ?_) <;> omega))
                  · skip
                    have e40 := y_and16 p2
                    have c34' := c34
                    rw [Int32.lt_iff_toInt_lt] at c34'
                    have e41 : (65536 : Int32).toInt = 65536 := rfl
                    try have e42 := @y_subL (p2 >>> (16 &&& 31)) (1 : Int32) (1) rfl (by omega) (by omega)
                    try have e43 := @y_subL (p1 >>> (16 &&& 31)) (1 : Int32) (1) rfl (by omega) (by omega)
                    try have e44 := @y_min ((p2 >>> (16 &&& 31)) - (1 : Int32)) ((p1 >>> (16 &&& 31)) - (1 : Int32))
                    try have e45 := @y_mulL (65536 : Int32) (if (((p2 >>> (16 &&& 31)) - (1 : Int32)) < ((p1 >>> (16 &&& 31)) - (1 : Int32))) then ((p2 >>> (16 &&& 31)) - (1 : Int32)) else ((p1 >>> (16 &&& 31)) - (1 : Int32))) 65536 rfl (by omega) (by omega)
                    refine y_some ?_
                    try dsimp only
                    refine ⟨?_, ?_, ?_, ?_⟩ <;> (first | with_reducible assumption | omega | ((with_reducible refine y_Vl ?_ ?_) <;> omega))
              · skip
                have e46 : (65528 : Int32).toInt = 65528 := rfl
                have e47 := y_and16 p1
                have c20' := c20
                rw [Int32.le_iff_toInt_le] at c20'
                refine y_if (fun c48 => ?_) (fun c48 => ?_)
                · skip
                  have e49 := y_and16 p2
                  have c48' := c48
                  rw [Int32.le_iff_toInt_le] at c48'
                  refine y_if (fun c50 => ?_) (fun c50 => ?_)
                  · skip
                    have c50' := c50
                    rw [Int32.lt_iff_toInt_lt] at c50'
                    refine y_if (fun c51 => ?_) (fun c51 => ?_)
                    · skip
                      have c51' := c51
                      rw [Int32.lt_iff_toInt_lt] at c51'
                      have e52 : (65536 : Int32).toInt = 65536 := rfl
                      try have e53 := @y_min (p2 >>> (16 &&& 31)) (p1 >>> (16 &&& 31))
                      try have e54 := @y_mulL (65536 : Int32) (if ((p2 >>> (16 &&& 31)) < (p1 >>> (16 &&& 31))) then (p2 >>> (16 &&& 31)) else (p1 >>> (16 &&& 31))) 65536 rfl (by omega) (by omega)
                      refine y_some ?_
                      try dsimp only
                      refine ⟨?_, ?_, ?_, ?_⟩ <;> (first | with_reducible assumption | omega | ((with_reducible refine y_Vl ?_ ?_) <;> omega))
                    · skip
                      have c51' := c51
                      rw [Int32.lt_iff_toInt_lt] at c51'
                      have e55 : (65536 : Int32).toInt = 65536 := rfl
                      try have e56 := @y_subL (p2 >>> (16 &&& 31)) (1 : Int32) (1) rfl (by omega) (by omega)
                      try have e57 := @y_min ((p2 >>> (16 &&& 31)) - (1 : Int32)) (p1 >>> (16 &&& 31))
                      try have e58 := @y_mulL (65536 : Int32) (if (((p2 >>> (16 &&& 31)) - (1 : Int32)) < (p1 >>> (16 &&& 31))) then ((p2 >>> (16 &&& 31)) - (1 : Int32)) else (p1 >>> (16 &&& 31))) 65536 rfl (by omega) (by omega)
                      refine y_some ?_
                      try dsimp only
                      refine ⟨?_, ?_, ?_, ?_⟩ <;> (first | with_reducible assumption | omega | ((with_reducible refine y_Vl ?_ ?_) <;> omega))
                  · skip
                    have c50' := c50
                    rw [Int32.lt_iff_toInt_lt] at c50'
                    refine y_if (fun c59 => ?_) (fun c59 => ?_)
                    · skip
                      have c59' := c59
                      rw [Int32.lt_iff_toInt_lt] at c59'
                      have e60 : (65536 : Int32).toInt = 65536 := rfl
                      try have e61 := @y_subL (p1 >>> (16 &&& 31)) (1 : Int32) (1) rfl (by omega) (by omega)
                      try have e62 := @y_min (p2 >>> (16 &&& 31)) ((p1 >>> (16 &&& 31)) - (1 : Int32))
                      try have e63 := @y_mulL (65536 : Int32) (if ((p2 >>> (16 &&& 31)) < ((p1 >>> (16 &&& 31)) - (1 : Int32))) then (p2 >>> (16 &&& 31)) else ((p1 >>> (16 &&& 31)) - (1 : Int32))) 65536 rfl (by omega) (by omega)
                      refine y_some ?_
                      try dsimp only
                      refine ⟨?_, ?_, ?_, ?_⟩ <;> (first | with_reducible assumption | omega | ((with_reducible refine y_Vl ?_ ?_) <;> omega))
                    · skip
                      have c59' := c59
                      rw [Int32.lt_iff_toInt_lt] at c59'
                      have e64 : (65536 : Int32).toInt = 65536 := rfl
                      try have e65 := @y_subL (p2 >>> (16 &&& 31)) (1 : Int32) (1) rfl (by omega) (by omega)
                      try have e66 := @y_subL (p1 >>> (16 &&& 31)) (1 : Int32) (1) rfl (by omega) (by omega)
                      try have e67 := @y_min ((p2 >>> (16 &&& 31)) - (1 : Int32)) ((p1 >>> (16 &&& 31)) - (1 : Int32))
                      try have e68 := @y_mulL (65536 : Int32) (if (((p2 >>> (16 &&& 31)) - (1 : Int32)) < ((p1 >>> (16 &&& 31)) - (1 : Int32))) then ((p2 >>> (16 &&& 31)) - (1 : Int32)) else ((p1 >>> (16 &&& 31)) - (1 : Int32))) 65536 rfl (by omega) (by omega)
                      refine y_some ?_
                      try dsimp only
                      refine ⟨?_, ?_, ?_, ?_⟩ <;> (first | with_reducible assumption | omega | ((with_reducible refine y_Vl ?_ ?_) <;> omega))
                · skip
                  have e69 := y_and16 p2
                  have c48' := c48
                  rw [Int32.le_iff_toInt_le] at c48'
                  refine y_bi (y_X9_shared_0 (by first | with_reducible assumption | omega | ((with_reducible refine y_Vl ?_ ?_) <;> omega)) (by omega) (by omega) (by omega) (by omega)) (fun r_36 h_r_36 => ?_)
                  obtain ⟨h0_r_36, h1_r_36⟩ := h_r_36
                  have e70 : (65536 : Int32).toInt = 65536 := rfl
                  try have e71 := @y_mulL (65536 : Int32) (p1 >>> (16 &&& 31)) 65536 rfl (by omega) (by omega)
                  try have e72 := @y_add r_36 ((65536 : Int32) * (p1 >>> (16 &&& 31))) (by omega) (by omega)
                  refine y_some ?_
                  try dsimp only
                  refine ⟨?_, ?_, ?_, ?_⟩ <;> (first | with_reducible assumption | omega | ((with_reducible refine y_Vl ?_ ?_) <;> omega))
            · skip
              have c19' := c19
              rw [← Int32.toInt_inj] at c19'
              refine y_if (fun c73 => ?_) (fun c73 => ?_)
              · skip
                have e74 := y_and16 p1
                have e75 : (65528 : Int32).toInt = 65528 := rfl
                have c73' := c73
                rw [Int32.lt_iff_toInt_lt] at c73'
                refine y_if (fun c76 => ?_) (fun c76 => ?_)
                · skip
                  have e77 := y_and16 p2
                  have c76' := c76
                  rw [Int32.lt_iff_toInt_lt] at c76'
                  have e78 : (65536 : Int32).toInt = 65536 := rfl
                  try have e79 := @y_min (p2 >>> (16 &&& 31)) (p1 >>> (16 &&& 31))
                  try have e80 := @y_mulL (65536 : Int32) (if ((p2 >>> (16 &&& 31)) < (p1 >>> (16 &&& 31))) then (p2 >>> (16 &&& 31)) else (p1 >>> (16 &&& 31))) 65536 rfl (by omega) (by omega)
                  refine y_some ?_
                  try dsimp only
                  refine ⟨?_, ?_, ?_, ?_⟩ <;> (first | with_reducible assumption | omega | ((with_reducible refine y_Vl ?_ ?_) <;> omega))
                · skip
                  have e81 := y_and16 p2
                  have c76' := c76
                  rw [Int32.lt_iff_toInt_lt] at c76'
                  have e82 : (65536 : Int32).toInt = 65536 := rfl
                  try have e83 := @y_subL (p2 >>> (16 &&& 31)) (1 : Int32) (1) rfl (by omega) (by omega)
                  try have e84 := @y_min ((p2 >>> (16 &&& 31)) - (1 : Int32)) (p1 >>> (16 &&& 31))
                  try have e85 := @y_mulL (65536 : Int32) (if (((p2 >>> (16 &&& 31)) - (1 : Int32)) < (p1 >>> (16 &&& 31))) then ((p2 >>> (16 &&& 31)) - (1 : Int32)) else (p1 >>> (16 &&& 31))) 65536 rfl (by omega) (by omega)
                  refine y_some ?_
                  try dsimp only
                  refine ⟨?_, ?_, ?_, ?_⟩ <;> (first | with_reducible assumption | omega | ((with_reducible refine y_Vl ?_ ?_) <;> omega))
              · skip
                have e86 := y_and16 p1
                have e87 : (65528 : Int32).toInt = 65528 := rfl
                have c73' := c73
                rw [Int32.lt_iff_toInt_lt] at c73'
                refine y_if (fun c88 => ?_) (fun c88 => ?_)
                · skip
                  have e89 := y_and16 p2
                  have c88' := c88
                  rw [Int32.lt_iff_toInt_lt] at c88'
                  have e90 : (65536 : Int32).toInt = 65536 := rfl
                  try have e91 := @y_subL (p1 >>> (16 &&& 31)) (1 : Int32) (1) rfl (by omega) (by omega)
                  try have e92 := @y_min (p2 >>> (16 &&& 31)) ((p1 >>> (16 &&& 31)) - (1 : Int32))
                  try have e93 := @y_mulL (65536 : Int32) (if ((p2 >>> (16 &&& 31)) < ((p1 >>> (16 &&& 31)) - (1 : Int32))) then (p2 >>> (16 &&& 31)) else ((p1 >>> (16 &&& 31)) - (1 : Int32))) 65536 rfl (by omega) (by omega)
                  refine y_some ?_
                  try dsimp only
                  refine ⟨?_, ?_, ?_, ?_⟩ <;> (first | with_reducible assumption | omega | ((with_reducible refine y_Vl ?_ ?_) <;> omega))
                · skip
                  have e94 := y_and16 p2
                  have c88' := c88
                  rw [Int32.lt_iff_toInt_lt] at c88'
                  have e95 : (65536 : Int32).toInt = 65536 := rfl
                  try have e96 := @y_subL (p2 >>> (16 &&& 31)) (1 : Int32) (1) rfl (by omega) (by omega)
                  try have e97 := @y_subL (p1 >>> (16 &&& 31)) (1 : Int32) (1) rfl (by omega) (by omega)
                  try have e98 := @y_min ((p2 >>> (16 &&& 31)) - (1 : Int32)) ((p1 >>> (16 &&& 31)) - (1 : Int32))
                  try have e99 := @y_mulL (65536 : Int32) (if (((p2 >>> (16 &&& 31)) - (1 : Int32)) < ((p1 >>> (16 &&& 31)) - (1 : Int32))) then ((p2 >>> (16 &&& 31)) - (1 : Int32)) else ((p1 >>> (16 &&& 31)) - (1 : Int32))) 65536 rfl (by omega) (by omega)
                  refine y_some ?_
                  try dsimp only
                  refine ⟨?_, ?_, ?_, ?_⟩ <;> (first | with_reducible assumption | omega | ((with_reducible refine y_Vl ?_ ?_) <;> omega))
    · skip
      have e100 := y_sar16 p1
      have e101 : (0 : Int32).toInt = 0 := rfl
      have c2' := c2
      rw [← Int32.toInt_inj] at c2'
      refine y_if (fun c102 => ?_) (fun c102 => ?_)
      · skip
        have c102' := c102
        rw [← Int32.toInt_inj] at c102'
        refine y_some ?_
        try dsimp only
        refine ⟨?_, ?_, ?_, ?_⟩ <;> (first | with_reducible assumption | omega | ((with_reducible refine y_Vl ?_ ?_) <;> omega))
      · skip
        have c102' := c102
        rw [← Int32.toInt_inj] at c102'
        refine y_if (fun c103 => ?_) (fun c103 => ?_)
        · skip
          have e104 := y_sar16 p2
          have c103' := c103
          rw [← Int32.toInt_inj] at c103'
          refine y_some ?_
          try dsimp only
          refine ⟨?_, ?_, ?_, ?_⟩ <;> (first | with_reducible assumption | omega | ((with_reducible refine y_Vl ?_ ?_) <;> omega))
        · skip
          have e105 := y_sar16 p2
          have c103' := c103
          rw [← Int32.toInt_inj] at c103'
          refine y_if (fun c106 => ?_) (fun c106 => ?_)
          · skip
            have c106' := c106
            rw [← Int32.toInt_inj] at c106'
            refine y_if (fun c107 => ?_) (fun c107 => ?_)
            · skip
              have e108 : (65528 : Int32).toInt = 65528 := rfl
              have e109 := y_and16 p1
              have c107' := c107
              rw [Int32.le_iff_toInt_le] at c107'
              refine y_if (fun c110 => ?_) (fun c110 => ?_)
              · skip
                have c110' := c110
                rw [Int32.lt_iff_toInt_lt] at c110'
                refine y_if (fun c111 => ?_) (fun c111 => ?_)
                · skip
                  have e112 := y_and16 p2
                  have c111' := c111
                  rw [Int32.lt_iff_toInt_lt] at c111'
                  have e113 : (65536 : Int32).toInt = 65536 := rfl
                  try have e114 := @y_min (p2 >>> (16 &&& 31)) (p1 >>> (16 &&& 31))
                  try have e115 := @y_mulL (65536 : Int32) (if ((p2 >>> (16 &&& 31)) < (p1 >>> (16 &&& 31))) then (p2 >>> (16 &&& 31)) else (p1 >>> (16 &&& 31))) 65536 rfl (by omega) (by omega)
                  refine y_some ?_
                  try dsimp only
                  refine ⟨?_, ?_, ?_, ?_⟩ <;> (first | with_reducible assumption | omega | ((with_reducible refine y_Vl ?_ ?_) <;> omega))
                · skip
                  have e116 := y_and16 p2
                  have c111' := c111
                  rw [Int32.lt_iff_toInt_lt] at c111'
                  have e117 : (65536 : Int32).toInt = 65536 := rfl
                  try have e118 := @y_subL (p2 >>> (16 &&& 31)) (1 : Int32) (1) rfl (by omega) (by omega)
                  try have e119 := @y_min ((p2 >>> (16 &&& 31)) - (1 : Int32)) (p1 >>> (16 &&& 31))
                  try have e120 := @y_mulL (65536 : Int32) (if (((p2 >>> (16 &&& 31)) - (1 : Int32)) < (p1 >>> (16 &&& 31))) then ((p2 >>> (16 &&& 31)) - (1 : Int32)) else (p1 >>> (16 &&& 31))) 65536 rfl (by omega) (by omega)
                  refine y_some ?_
                  try dsimp only
                  refine ⟨?_, ?_, ?_, ?_⟩ <;> (first | with_reducible assumption | omega | ((with_reducible refine y_Vl ?_ ?_) <;> omega))
              · skip
                have c110' := c110
                rw [Int32.lt_iff_toInt_lt] at c110'
                refine y_if (fun c121 => ?_) (fun c121 => ?_)
                · skip
                  have e122 := y_and16 p2
                  have c121' := c121
                  rw [Int32.lt_iff_toInt_lt] at c121'
                  have e123 : (65536 : Int32).toInt = 65536 := rfl
                  try have e124 := @y_subL (p1 >>> (16 &&& 31)) (1 : Int32) (1) rfl (by omega) (by omega)
                  try have e125 := @y_min (p2 >>> (16 &&& 31)) ((p1 >>> (16 &&& 31)) - (1 : Int32))
                  try have e126 := @y_mulL (65536 : Int32) (if ((p2 >>> (16 &&& 31)) < ((p1 >>> (16 &&& 31)) - (1 : Int32))) then (p2 >>> (16 &&& 31)) else ((p1 >>> (16 &&& 31)) - (1 : Int32))) 65536 rfl (by omega) (by omega)
                  refine y_some ?_
                  try dsimp only
                  refine ⟨?_, ?_, ?_, ?_⟩ <;> (first | with_reducible assumption | omega | ((with_reducible refine y_Vl ?_ ?_) <;> omega))
                · skip
                  have e127 := y_and16 p2
                  have c121' := c121
                  rw [Int32.lt_iff_toInt_lt] at c121'
                  have e128 : (65536 : Int32).toInt = 65536 := rfl
                  try have e129 := @y_subL (p2 >>> (16 &&& 31)) (1 : Int32) (1) rfl (by omega) (by omega)
                  try have e130 := @y_subL (p1 >>> (16 &&& 31)) (1 : Int32) (1) rfl (by omega) (by omega)
                  try have e131 := @y_min ((p2 >>> (16 &&& 31)) - (1 : Int32)) ((p1 >>> (16 &&& 31)) - (1 : Int32))
                  try have e132 := @y_mulL (65536 : Int32) (if (((p2 >>> (16 &&& 31)) - (1 : Int32)) < ((p1 >>> (16 &&& 31)) - (1 : Int32))) then ((p2 >>> (16 &&& 31)) - (1 : Int32)) else ((p1 >>> (16 &&& 31)) - (1 : Int32))) 65536 rfl (by omega) (by omega)
                  refine y_some ?_
                  try dsimp only
                  refine ⟨?_, ?_, ?_, ?_⟩ <;> (first | with_reducible assumption | omega | ((with_reducible refine y_Vl ?_ ?_) <;> omega))
            · skip
              have e133 : (65528 : Int32).toInt = 65528 := rfl
              have e134 := y_and16 p1
              have c107' := c107
              rw [Int32.le_iff_toInt_le] at c107'
              refine y_if (fun c135 => ?_) (fun c135 => ?_)
              · skip
                have e136 := y_and16 p2
                have c135' := c135
                rw [Int32.le_iff_toInt_le] at c135'
                refine y_if (fun c137 => ?_) (fun c137 => ?_)
                · skip
                  have c137' := c137
                  rw [Int32.lt_iff_toInt_lt] at c137'
                  refine y_if (fun c138 => ?_) (fun c138 => ?_)
                  · skip
                    have c138' := c138
                    rw [Int32.lt_iff_toInt_lt] at c138'
                    have e139 : (65536 : Int32).toInt = 65536 := rfl
                    try have e140 := @y_min (p2 >>> (16 &&& 31)) (p1 >>> (16 &&& 31))
                    try have e141 := @y_mulL (65536 : Int32) (if ((p2 >>> (16 &&& 31)) < (p1 >>> (16 &&& 31))) then (p2 >>> (16 &&& 31)) else (p1 >>> (16 &&& 31))) 65536 rfl (by omega) (by omega)
                    refine y_some ?_
                    try dsimp only
                    refine ⟨?_, ?_, ?_, ?_⟩ <;> (first | with_reducible assumption | omega | ((with_reducible refine y_Vl ?_ ?_) <;> omega))
                  · skip
                    have c138' := c138
                    rw [Int32.lt_iff_toInt_lt] at c138'
                    have e142 : (65536 : Int32).toInt = 65536 := rfl
                    try have e143 := @y_subL (p2 >>> (16 &&& 31)) (1 : Int32) (1) rfl (by omega) (by omega)
                    try have e144 := @y_min ((p2 >>> (16 &&& 31)) - (1 : Int32)) (p1 >>> (16 &&& 31))
                    try have e145 := @y_mulL (65536 : Int32) (if (((p2 >>> (16 &&& 31)) - (1 : Int32)) < (p1 >>> (16 &&& 31))) then ((p2 >>> (16 &&& 31)) - (1 : Int32)) else (p1 >>> (16 &&& 31))) 65536 rfl (by omega) (by omega)
                    refine y_some ?_
                    try dsimp only
                    refine ⟨?_, ?_, ?_, ?_⟩ <;> (first | with_reducible assumption | omega | ((with_reducible refine y_Vl ?_ ?_) <;> omega))
                · skip
                  have c137' := c137
                  rw [Int32.lt_iff_toInt_lt] at c137'
                  refine y_if (fun c146 => ?_) (fun c146 => ?_)
                  · skip
                    have c146' := c146
                    rw [Int32.lt_iff_toInt_lt] at c146'
                    have e147 : (65536 : Int32).toInt = 65536 := rfl
                    try have e148 := @y_subL (p1 >>> (16 &&& 31)) (1 : Int32) (1) rfl (by omega) (by omega)
                    try have e149 := @y_min (p2 >>> (16 &&& 31)) ((p1 >>> (16 &&& 31)) - (1 : Int32))
                    try have e150 := @y_mulL (65536 : Int32) (if ((p2 >>> (16 &&& 31)) < ((p1 >>> (16 &&& 31)) - (1 : Int32))) then (p2 >>> (16 &&& 31)) else ((p1 >>> (16 &&& 31)) - (1 : Int32))) 65536 rfl (by omega) (by omega)
                    refine y_some ?_
                    try dsimp only
                    refine ⟨?_, ?_, ?_, ?_⟩ <;> (first | with_reducible assumption | omega | ((with_reducible refine y_Vl ?_ ?_) <;> omega))
                  · skip
                    have c146' := c146
                    rw [Int32.lt_iff_toInt_lt] at c146'
                    have e151 : (65536 : Int32).toInt = 65536 := rfl
                    try have e152 := @y_subL (p2 >>> (16 &&& 31)) (1 : Int32) (1) rfl (by omega) (by omega)
                    try have e153 := @y_subL (p1 >>> (16 &&& 31)) (1 : Int32) (1) rfl (by omega) (by omega)
                    try have e154 := @y_min ((p2 >>> (16 &&& 31)) - (1 : Int32)) ((p1 >>> (16 &&& 31)) - (1 : Int32))
                    try have e155 := @y_mulL (65536 : Int32) (if (((p2 >>> (16 &&& 31)) - (1 : Int32)) < ((p1 >>> (16 &&& 31)) - (1 : Int32))) then ((p2 >>> (16 &&& 31)) - (1 : Int32)) else ((p1 >>> (16 &&& 31)) - (1 : Int32))) 65536 rfl (by omega) (by omega)
                    refine y_some ?_
                    try dsimp only
                    refine ⟨?_, ?_, ?_, ?_⟩ <;> (first | with_reducible assumption | omega | ((with_reducible refine y_Vl ?_ ?_) <;> omega))
              · skip
                have e156 := y_and16 p2
                have c135' := c135
                rw [Int32.le_iff_toInt_le] at c135'
                refine y_bi (y_X9_shared_0 (by first | with_reducible assumption | omega | ((with_reducible refine y_Vl ?_ ?_) <;> omega)) (by omega) (by omega) (by omega) (by omega)) (fun r_20 h_r_20 => ?_)
                obtain ⟨h0_r_20, h1_r_20⟩ := h_r_20
                have e157 : (65536 : Int32).toInt = 65536 := rfl
                try have e158 := @y_mulL (65536 : Int32) (p1 >>> (16 &&& 31)) 65536 rfl (by omega) (by omega)
                try have e159 := @y_add r_20 ((65536 : Int32) * (p1 >>> (16 &&& 31))) (by omega) (by omega)
                refine y_some ?_
                try dsimp only
                refine ⟨?_, ?_, ?_, ?_⟩ <;> (first | with_reducible assumption | omega | ((with_reducible refine y_Vl ?_ ?_) <;> omega))
          · skip
            have c106' := c106
            rw [← Int32.toInt_inj] at c106'
            refine y_if (fun c160 => ?_) (fun c160 => ?_)
            · skip
              have e161 := y_and16 p1
              have e162 : (65528 : Int32).toInt = 65528 := rfl
              have c160' := c160
              rw [Int32.lt_iff_toInt_lt] at c160'
              refine y_if (fun c163 => ?_) (fun c163 => ?_)
              · skip
                have e164 := y_and16 p2
                have c163' := c163
                rw [Int32.lt_iff_toInt_lt] at c163'
                have e165 : (65536 : Int32).toInt = 65536 := rfl
                try have e166 := @y_min (p2 >>> (16 &&& 31)) (p1 >>> (16 &&& 31))
                try have e167 := @y_mulL (65536 : Int32) (if ((p2 >>> (16 &&& 31)) < (p1 >>> (16 &&& 31))) then (p2 >>> (16 &&& 31)) else (p1 >>> (16 &&& 31))) 65536 rfl (by omega) (by omega)
                refine y_some ?_
                try dsimp only
                refine ⟨?_, ?_, ?_, ?_⟩ <;> (first | with_reducible assumption | omega | ((with_reducible refine y_Vl ?_ ?_) <;> omega))
              · skip
                have e168 := y_and16 p2
                have c163' := c163
                rw [Int32.lt_iff_toInt_lt] at c163'
                have e169 : (65536 : Int32).toInt = 65536 := rfl
                try have e170 := @y_subL (p2 >>> (16 &&& 31)) (1 : Int32) (1) rfl (by omega) (by omega)
                try have e171 := @y_min ((p2 >>> (16 &&& 31)) - (1 : Int32)) (p1 >>> (16 &&& 31))
                try have e172 := @y_mulL (65536 : Int32) (if (((p2 >>> (16 &&& 31)) - (1 : Int32)) < (p1 >>> (16 &&& 31))) then ((p2 >>> (16 &&& 31)) - (1 : Int32)) else (p1 >>> (16 &&& 31))) 65536 rfl (by omega) (by omega)
                refine y_some ?_
                try dsimp only
                refine ⟨?_, ?_, ?_, ?_⟩ <;> (first | with_reducible assumption | omega | ((with_reducible refine y_Vl ?_ ?_) <;> omega))
            · skip
              have e173 := y_and16 p1
              have e174 : (65528 : Int32).toInt = 65528 := rfl
              have c160' := c160
              rw [Int32.lt_iff_toInt_lt] at c160'
              refine y_if (fun c175 => ?_) (fun c175 => ?_)
              · skip
                have e176 := y_and16 p2
                have c175' := c175
                rw [Int32.lt_iff_toInt_lt] at c175'
                have e177 : (65536 : Int32).toInt = 65536 := rfl
                try have e178 := @y_subL (p1 >>> (16 &&& 31)) (1 : Int32) (1) rfl (by omega) (by omega)
                try have e179 := @y_min (p2 >>> (16 &&& 31)) ((p1 >>> (16 &&& 31)) - (1 : Int32))
                try have e180 := @y_mulL (65536 : Int32) (if ((p2 >>> (16 &&& 31)) < ((p1 >>> (16 &&& 31)) - (1 : Int32))) then (p2 >>> (16 &&& 31)) else ((p1 >>> (16 &&& 31)) - (1 : Int32))) 65536 rfl (by omega) (by omega)
                refine y_some ?_
                try dsimp only
                refine ⟨?_, ?_, ?_, ?_⟩ <;> (first | with_reducible assumption | omega | ((with_reducible refine y_Vl ?_ ?_) <;> omega))
              · skip
                have e181 := y_and16 p2
                have c175' := c175
                rw [Int32.lt_iff_toInt_lt] at c175'
                have e182 : (65536 : Int32).toInt = 65536 := rfl
                try have e183 := @y_subL (p2 >>> (16 &&& 31)) (1 : Int32) (1) rfl (by omega) (by omega)
                try have e184 := @y_subL (p1 >>> (16 &&& 31)) (1 : Int32) (1) rfl (by omega) (by omega)
                try have e185 := @y_min ((p2 >>> (16 &&& 31)) - (1 : Int32)) ((p1 >>> (16 &&& 31)) - (1 : Int32))
                try have e186 := @y_mulL (65536 : Int32) (if (((p2 >>> (16 &&& 31)) - (1 : Int32)) < ((p1 >>> (16 &&& 31)) - (1 : Int32))) then ((p2 >>> (16 &&& 31)) - (1 : Int32)) else ((p1 >>> (16 &&& 31)) - (1 : Int32))) 65536 rfl (by omega) (by omega)
                refine y_some ?_
                try dsimp only
                refine ⟨?_, ?_, ?_, ?_⟩ <;> (first | with_reducible assumption | omega | ((with_reducible refine y_Vl ?_ ?_) <;> omega))
